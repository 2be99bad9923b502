theorem wd_66 : Cond.selects "MineAirModel" (⟨"MineAirModel", "readFresh", "(Z)J"⟩ : MethodName) (⟨"MineAirModel", "readFresh", "(Z)J"⟩ : MethodName) ∈ wG := wG_of 66 (by decide +kernel) (by decide +kernel)
theorem wd_71 : Cond.selects "MineAirModel" (⟨"MineAirModel", "readWhole", "(II)I"⟩ : MethodName) (⟨"MineAirModel", "readWhole", "(II)I"⟩ : MethodName) ∈ wG := wG_of 71 (by decide +kernel) (by decide +kernel)
theorem wd_74 : Cond.selects "MineAirModel" (⟨"MineAirModel", "readIn", "([I)I"⟩ : MethodName) (⟨"MineAirModel", "readIn", "([I)I"⟩ : MethodName) ∈ wG := wG_of 74 (by decide +kernel) (by decide +kernel)
theorem wd_1768 : Cond.methodLink "MineAirModel" 253 (⟨"MineAirModel", "readFresh", "(Z)J"⟩ : MethodName) ∈ wG := wG_of 1768 (by decide +kernel) (by decide +kernel)
theorem wd_1770 : Cond.instanceMethod (⟨"MineAirModel", "readFresh", "(Z)J"⟩ : MethodName) ∈ wG := wG_of 1770 (by decide +kernel) (by decide +kernel)
theorem wd_1771 : Cond.code (⟨"MineAirModel", "readFresh", "(Z)J"⟩ : MethodName) prog_14_method_20_code 4 (Option.some Jvm.ClassFile.FieldType.long) ∈ wG := wG_of 1771 (by decide +kernel) (by decide +kernel)
theorem wd_1788 : Cond.methodLink "MineAirModel" 257 (⟨"MineAirModel$Book", "names", "(JII)V"⟩ : MethodName) ∈ wG := wG_of 1788 (by decide +kernel) (by decide +kernel)
theorem wd_1789 : Cond.instanceMethod (⟨"MineAirModel$Book", "names", "(JII)V"⟩ : MethodName) ∈ wG := wG_of 1789 (by decide +kernel) (by decide +kernel)
theorem wd_1790 : Cond.selects "MineAirModel$Book" (⟨"MineAirModel$Book", "names", "(JII)V"⟩ : MethodName) (⟨"MineAirModel$Book", "names", "(JII)V"⟩ : MethodName) ∈ wG := wG_of 1790 (by decide +kernel) (by decide +kernel)
theorem wd_1791 : Cond.code (⟨"MineAirModel$Book", "names", "(JII)V"⟩ : MethodName) prog_15_method_4_code 5 (Option.none : Option Jvm.ClassFile.FieldType) ∈ wG := wG_of 1791 (by decide +kernel) (by decide +kernel)
theorem wd_1805 : Cond.methodLink "MineAirModel" 278 (⟨"MineAirModel", "readWhole", "(II)I"⟩ : MethodName) ∈ wG := wG_of 1805 (by decide +kernel) (by decide +kernel)
theorem wd_1807 : Cond.instanceMethod (⟨"MineAirModel", "readWhole", "(II)I"⟩ : MethodName) ∈ wG := wG_of 1807 (by decide +kernel) (by decide +kernel)
theorem wd_1808 : Cond.code (⟨"MineAirModel", "readWhole", "(II)I"⟩ : MethodName) prog_14_method_18_code 4 (Option.some Jvm.ClassFile.FieldType.int) ∈ wG := wG_of 1808 (by decide +kernel) (by decide +kernel)
theorem wd_1823 : Cond.methodLink "MineAirModel" 309 (⟨"MineAirModel", "readIn", "([I)I"⟩ : MethodName) ∈ wG := wG_of 1823 (by decide +kernel) (by decide +kernel)
theorem wd_1825 : Cond.instanceMethod (⟨"MineAirModel", "readIn", "([I)I"⟩ : MethodName) ∈ wG := wG_of 1825 (by decide +kernel) (by decide +kernel)
theorem wd_1826 : Cond.code (⟨"MineAirModel", "readIn", "([I)I"⟩ : MethodName) prog_14_method_24_code 3 (Option.some Jvm.ClassFile.FieldType.int) ∈ wG := wG_of 1826 (by decide +kernel) (by decide +kernel)
theorem dX14_readDoor_0 : decode cX14_readDoor 0 = .ok (.aload_n 0, 1) := by decide +kernel
theorem dX14_readDoor_1 : decode cX14_readDoor 1 = .ok (.invokevirtual 198, 3) := by decide +kernel
theorem dX14_readDoor_4 : decode cX14_readDoor 4 = .ok (.aload_n 0, 1) := by decide +kernel
theorem dX14_readDoor_5 : decode cX14_readDoor 5 = .ok (.getfield 227, 3) := by decide +kernel
theorem dX14_readDoor_8 : decode cX14_readDoor 8 = .ok (.getfield 306, 3) := by decide +kernel
theorem dX14_readDoor_11 : decode cX14_readDoor 11 = .ok (.istore_n 1, 1) := by decide +kernel
theorem dX14_readDoor_12 : decode cX14_readDoor 12 = .ok (.aload_n 0, 1) := by decide +kernel
theorem dX14_readDoor_13 : decode cX14_readDoor 13 = .ok (.iload_n 1, 1) := by decide +kernel
theorem dX14_readDoor_14 : decode cX14_readDoor 14 = .ok (.bipush 6, 2) := by decide +kernel
theorem dX14_readDoor_16 : decode cX14_readDoor 16 = .ok (.if_icmp .ne 7, 3) := by decide +kernel
theorem dX14_readDoor_19 : decode cX14_readDoor 19 = .ok (.iconst 1, 1) := by decide +kernel
theorem dX14_readDoor_20 : decode cX14_readDoor 20 = .ok (.goto 4, 3) := by decide +kernel
theorem dX14_readDoor_23 : decode cX14_readDoor 23 = .ok (.iconst 0, 1) := by decide +kernel
theorem dX14_readDoor_24 : decode cX14_readDoor 24 = .ok (.invokevirtual 253, 3) := by decide +kernel
theorem dX14_readDoor_27 : decode cX14_readDoor 27 = .ok (.lstore_n 2, 1) := by decide +kernel
theorem dX14_readDoor_28 : decode cX14_readDoor 28 = .ok (.aload_n 0, 1) := by decide +kernel
theorem dX14_readDoor_29 : decode cX14_readDoor 29 = .ok (.aload_n 0, 1) := by decide +kernel
theorem dX14_readDoor_30 : decode cX14_readDoor 30 = .ok (.getfield 227, 3) := by decide +kernel
theorem dX14_readDoor_33 : decode cX14_readDoor 33 = .ok (.getfield 289, 3) := by decide +kernel
theorem dX14_readDoor_36 : decode cX14_readDoor 36 = .ok (.invokevirtual 309, 3) := by decide +kernel
theorem dX14_readDoor_39 : decode cX14_readDoor 39 = .ok (.istore 4, 2) := by decide +kernel
theorem dX14_readDoor_41 : decode cX14_readDoor 41 = .ok (.aload_n 0, 1) := by decide +kernel
theorem dX14_readDoor_42 : decode cX14_readDoor 42 = .ok (.ldc_w 313, 3) := by decide +kernel
theorem dX14_readDoor_45 : decode cX14_readDoor 45 = .ok (.invokevirtual 272, 3) := by decide +kernel
theorem dX14_readDoor_48 : decode cX14_readDoor 48 = .ok (.aload_n 0, 1) := by decide +kernel
theorem dX14_readDoor_49 : decode cX14_readDoor 49 = .ok (.getfield 227, 3) := by decide +kernel
theorem dX14_readDoor_52 : decode cX14_readDoor 52 = .ok (.getfield 315, 3) := by decide +kernel
theorem dX14_readDoor_55 : decode cX14_readDoor 55 = .ok (.iload_n 1, 1) := by decide +kernel
theorem dX14_readDoor_56 : decode cX14_readDoor 56 = .ok (.aload_n 0, 1) := by decide +kernel
theorem dX14_readDoor_57 : decode cX14_readDoor 57 = .ok (.iconst 1, 1) := by decide +kernel
theorem dX14_readDoor_58 : decode cX14_readDoor 58 = .ok (.bipush 99, 2) := by decide +kernel
theorem dX14_readDoor_60 : decode cX14_readDoor 60 = .ok (.invokevirtual 278, 3) := by decide +kernel
theorem dX14_readDoor_63 : decode cX14_readDoor 63 = .ok (.iastore, 1) := by decide +kernel
theorem dX14_readDoor_64 : decode cX14_readDoor 64 = .ok (.aload_n 0, 1) := by decide +kernel
theorem dX14_readDoor_65 : decode cX14_readDoor 65 = .ok (.getfield 227, 3) := by decide +kernel
theorem dX14_readDoor_68 : decode cX14_readDoor 68 = .ok (.getfield 289, 3) := by decide +kernel
theorem dX14_readDoor_71 : decode cX14_readDoor 71 = .ok (.iload 4, 2) := by decide +kernel
theorem dX14_readDoor_73 : decode cX14_readDoor 73 = .ok (.iload_n 1, 1) := by decide +kernel
theorem dX14_readDoor_74 : decode cX14_readDoor 74 = .ok (.iastore, 1) := by decide +kernel
theorem dX14_readDoor_75 : decode cX14_readDoor 75 = .ok (.aload_n 0, 1) := by decide +kernel
theorem dX14_readDoor_76 : decode cX14_readDoor 76 = .ok (.getfield 227, 3) := by decide +kernel
theorem dX14_readDoor_79 : decode cX14_readDoor 79 = .ok (.lload_n 2, 1) := by decide +kernel
theorem dX14_readDoor_80 : decode cX14_readDoor 80 = .ok (.iconst 1, 1) := by decide +kernel
theorem dX14_readDoor_81 : decode cX14_readDoor 81 = .ok (.iload_n 1, 1) := by decide +kernel
theorem dX14_readDoor_82 : decode cX14_readDoor 82 = .ok (.invokevirtual 257, 3) := by decide +kernel
theorem dX14_readDoor_85 : decode cX14_readDoor 85 = .ok (.aload_n 0, 1) := by decide +kernel
theorem dX14_readDoor_86 : decode cX14_readDoor 86 = .ok (.getfield 227, 3) := by decide +kernel
theorem dX14_readDoor_89 : decode cX14_readDoor 89 = .ok (.dup, 1) := by decide +kernel
theorem dX14_readDoor_90 : decode cX14_readDoor 90 = .ok (.getfield 306, 3) := by decide +kernel
theorem dX14_readDoor_93 : decode cX14_readDoor 93 = .ok (.iconst 1, 1) := by decide +kernel
theorem dX14_readDoor_94 : decode cX14_readDoor 94 = .ok (.iadd, 1) := by decide +kernel
theorem dX14_readDoor_95 : decode cX14_readDoor 95 = .ok (.putfield 306, 3) := by decide +kernel
theorem dX14_readDoor_98 : decode cX14_readDoor 98 = .ok (.return_, 1) := by decide +kernel
theorem dX14_readFace_0 : decode cX14_readFace 0 = .ok (.aload_n 0, 1) := by decide +kernel
theorem dX14_readFace_1 : decode cX14_readFace 1 = .ok (.invokevirtual 198, 3) := by decide +kernel
theorem dX14_readFace_4 : decode cX14_readFace 4 = .ok (.aload_n 0, 1) := by decide +kernel
theorem dX14_readFace_5 : decode cX14_readFace 5 = .ok (.getfield 227, 3) := by decide +kernel
theorem dX14_readFace_8 : decode cX14_readFace 8 = .ok (.getfield 341, 3) := by decide +kernel
theorem dX14_readFace_11 : decode cX14_readFace 11 = .ok (.istore_n 1, 1) := by decide +kernel
theorem dX14_readFace_12 : decode cX14_readFace 12 = .ok (.aload_n 0, 1) := by decide +kernel
theorem dX14_readFace_13 : decode cX14_readFace 13 = .ok (.iload_n 1, 1) := by decide +kernel
theorem dX14_readFace_14 : decode cX14_readFace 14 = .ok (.iconst 4, 1) := by decide +kernel
theorem dX14_readFace_15 : decode cX14_readFace 15 = .ok (.if_icmp .ne 7, 3) := by decide +kernel
theorem dX14_readFace_18 : decode cX14_readFace 18 = .ok (.iconst 1, 1) := by decide +kernel
theorem dX14_readFace_19 : decode cX14_readFace 19 = .ok (.goto 4, 3) := by decide +kernel
theorem dX14_readFace_22 : decode cX14_readFace 22 = .ok (.iconst 0, 1) := by decide +kernel
theorem dX14_readFace_23 : decode cX14_readFace 23 = .ok (.invokevirtual 253, 3) := by decide +kernel
theorem dX14_readFace_26 : decode cX14_readFace 26 = .ok (.lstore_n 2, 1) := by decide +kernel
theorem dX14_readFace_27 : decode cX14_readFace 27 = .ok (.aload_n 0, 1) := by decide +kernel
theorem dX14_readFace_28 : decode cX14_readFace 28 = .ok (.aload_n 0, 1) := by decide +kernel
theorem dX14_readFace_29 : decode cX14_readFace 29 = .ok (.getfield 227, 3) := by decide +kernel
theorem dX14_readFace_32 : decode cX14_readFace 32 = .ok (.getfield 295, 3) := by decide +kernel
theorem dX14_readFace_35 : decode cX14_readFace 35 = .ok (.invokevirtual 309, 3) := by decide +kernel
theorem dX14_readFace_38 : decode cX14_readFace 38 = .ok (.istore 4, 2) := by decide +kernel
theorem dX14_readFace_40 : decode cX14_readFace 40 = .ok (.aload_n 0, 1) := by decide +kernel
theorem dX14_readFace_41 : decode cX14_readFace 41 = .ok (.ldc_w 344, 3) := by decide +kernel
theorem dX14_readFace_44 : decode cX14_readFace 44 = .ok (.invokevirtual 272, 3) := by decide +kernel
theorem dX14_readFace_47 : decode cX14_readFace 47 = .ok (.aload_n 0, 1) := by decide +kernel
theorem dX14_readFace_48 : decode cX14_readFace 48 = .ok (.getfield 227, 3) := by decide +kernel
theorem dX14_readFace_51 : decode cX14_readFace 51 = .ok (.getfield 345, 3) := by decide +kernel
theorem dX14_readFace_54 : decode cX14_readFace 54 = .ok (.iload_n 1, 1) := by decide +kernel
theorem dX14_readFace_55 : decode cX14_readFace 55 = .ok (.aload_n 0, 1) := by decide +kernel
theorem dX14_readFace_56 : decode cX14_readFace 56 = .ok (.iconst 0, 1) := by decide +kernel
theorem dX14_readFace_57 : decode cX14_readFace 57 = .ok (.sipush 999, 3) := by decide +kernel
theorem dX14_readFace_60 : decode cX14_readFace 60 = .ok (.invokevirtual 278, 3) := by decide +kernel
theorem dX14_readFace_63 : decode cX14_readFace 63 = .ok (.iastore, 1) := by decide +kernel
theorem dX14_readFace_64 : decode cX14_readFace 64 = .ok (.aload_n 0, 1) := by decide +kernel
theorem dX14_readFace_65 : decode cX14_readFace 65 = .ok (.ldc_w 346, 3) := by decide +kernel
theorem dX14_readFace_68 : decode cX14_readFace 68 = .ok (.invokevirtual 272, 3) := by decide +kernel
theorem dX14_readFace_71 : decode cX14_readFace 71 = .ok (.aload_n 0, 1) := by decide +kernel
theorem dX14_readFace_72 : decode cX14_readFace 72 = .ok (.getfield 227, 3) := by decide +kernel
theorem dX14_readFace_75 : decode cX14_readFace 75 = .ok (.getfield 348, 3) := by decide +kernel
theorem dX14_readFace_78 : decode cX14_readFace 78 = .ok (.iload_n 1, 1) := by decide +kernel
theorem dX14_readFace_79 : decode cX14_readFace 79 = .ok (.aload_n 0, 1) := by decide +kernel
theorem dX14_readFace_80 : decode cX14_readFace 80 = .ok (.iconst 0, 1) := by decide +kernel
theorem dX14_readFace_81 : decode cX14_readFace 81 = .ok (.bipush 60, 2) := by decide +kernel
theorem dX14_readFace_83 : decode cX14_readFace 83 = .ok (.invokevirtual 278, 3) := by decide +kernel
theorem dX14_readFace_86 : decode cX14_readFace 86 = .ok (.iastore, 1) := by decide +kernel
theorem dX14_readFace_87 : decode cX14_readFace 87 = .ok (.aload_n 0, 1) := by decide +kernel
theorem dX14_readFace_88 : decode cX14_readFace 88 = .ok (.getfield 227, 3) := by decide +kernel
theorem dX14_readFace_91 : decode cX14_readFace 91 = .ok (.getfield 295, 3) := by decide +kernel
theorem dX14_readFace_94 : decode cX14_readFace 94 = .ok (.iload 4, 2) := by decide +kernel
theorem dX14_readFace_96 : decode cX14_readFace 96 = .ok (.iload_n 1, 1) := by decide +kernel
theorem dX14_readFace_97 : decode cX14_readFace 97 = .ok (.iastore, 1) := by decide +kernel
theorem dX14_readFace_98 : decode cX14_readFace 98 = .ok (.aload_n 0, 1) := by decide +kernel
theorem dX14_readFace_99 : decode cX14_readFace 99 = .ok (.getfield 227, 3) := by decide +kernel
theorem dX14_readFace_102 : decode cX14_readFace 102 = .ok (.lload_n 2, 1) := by decide +kernel
theorem dX14_readFace_103 : decode cX14_readFace 103 = .ok (.iconst 3, 1) := by decide +kernel
theorem dX14_readFace_104 : decode cX14_readFace 104 = .ok (.iload_n 1, 1) := by decide +kernel
theorem dX14_readFace_105 : decode cX14_readFace 105 = .ok (.invokevirtual 257, 3) := by decide +kernel
theorem dX14_readFace_108 : decode cX14_readFace 108 = .ok (.aload_n 0, 1) := by decide +kernel
theorem dX14_readFace_109 : decode cX14_readFace 109 = .ok (.getfield 227, 3) := by decide +kernel
theorem dX14_readFace_112 : decode cX14_readFace 112 = .ok (.dup, 1) := by decide +kernel
theorem dX14_readFace_113 : decode cX14_readFace 113 = .ok (.getfield 341, 3) := by decide +kernel
theorem dX14_readFace_116 : decode cX14_readFace 116 = .ok (.iconst 1, 1) := by decide +kernel
theorem dX14_readFace_117 : decode cX14_readFace 117 = .ok (.iadd, 1) := by decide +kernel
theorem dX14_readFace_118 : decode cX14_readFace 118 = .ok (.putfield 341, 3) := by decide +kernel
theorem dX14_readFace_121 : decode cX14_readFace 121 = .ok (.return_, 1) := by decide +kernel
theorem dX14_readFan_0 : decode cX14_readFan 0 = .ok (.aload_n 0, 1) := by decide +kernel
theorem dX14_readFan_1 : decode cX14_readFan 1 = .ok (.invokevirtual 198, 3) := by decide +kernel
theorem dX14_readFan_4 : decode cX14_readFan 4 = .ok (.aload_n 0, 1) := by decide +kernel
theorem dX14_readFan_5 : decode cX14_readFan 5 = .ok (.getfield 227, 3) := by decide +kernel
theorem dX14_readFan_8 : decode cX14_readFan 8 = .ok (.getfield 326, 3) := by decide +kernel
theorem dX14_readFan_11 : decode cX14_readFan 11 = .ok (.istore_n 1, 1) := by decide +kernel
theorem dX14_readFan_12 : decode cX14_readFan 12 = .ok (.aload_n 0, 1) := by decide +kernel
theorem dX14_readFan_13 : decode cX14_readFan 13 = .ok (.iload_n 1, 1) := by decide +kernel
theorem dX14_readFan_14 : decode cX14_readFan 14 = .ok (.iconst 4, 1) := by decide +kernel
theorem dX14_readFan_15 : decode cX14_readFan 15 = .ok (.if_icmp .ne 7, 3) := by decide +kernel
theorem dX14_readFan_18 : decode cX14_readFan 18 = .ok (.iconst 1, 1) := by decide +kernel
theorem dX14_readFan_19 : decode cX14_readFan 19 = .ok (.goto 4, 3) := by decide +kernel
theorem dX14_readFan_22 : decode cX14_readFan 22 = .ok (.iconst 0, 1) := by decide +kernel
theorem dX14_readFan_23 : decode cX14_readFan 23 = .ok (.invokevirtual 253, 3) := by decide +kernel
theorem dX14_readFan_26 : decode cX14_readFan 26 = .ok (.lstore_n 2, 1) := by decide +kernel
theorem dX14_readFan_27 : decode cX14_readFan 27 = .ok (.aload_n 0, 1) := by decide +kernel
theorem dX14_readFan_28 : decode cX14_readFan 28 = .ok (.aload_n 0, 1) := by decide +kernel
theorem dX14_readFan_29 : decode cX14_readFan 29 = .ok (.getfield 227, 3) := by decide +kernel
theorem dX14_readFan_32 : decode cX14_readFan 32 = .ok (.getfield 292, 3) := by decide +kernel
theorem dX14_readFan_35 : decode cX14_readFan 35 = .ok (.invokevirtual 309, 3) := by decide +kernel
theorem dX14_readFan_38 : decode cX14_readFan 38 = .ok (.istore 4, 2) := by decide +kernel
theorem dX14_readFan_40 : decode cX14_readFan 40 = .ok (.aload_n 0, 1) := by decide +kernel
theorem dX14_readFan_41 : decode cX14_readFan 41 = .ok (.ldc_w 329, 3) := by decide +kernel
theorem dX14_readFan_44 : decode cX14_readFan 44 = .ok (.invokevirtual 272, 3) := by decide +kernel
theorem dX14_readFan_47 : decode cX14_readFan 47 = .ok (.aload_n 0, 1) := by decide +kernel
theorem dX14_readFan_48 : decode cX14_readFan 48 = .ok (.getfield 227, 3) := by decide +kernel
theorem dX14_readFan_51 : decode cX14_readFan 51 = .ok (.getfield 331, 3) := by decide +kernel
theorem dX14_readFan_54 : decode cX14_readFan 54 = .ok (.iload_n 1, 1) := by decide +kernel
theorem dX14_readFan_55 : decode cX14_readFan 55 = .ok (.aload_n 0, 1) := by decide +kernel
theorem dX14_readFan_56 : decode cX14_readFan 56 = .ok (.iconst 1, 1) := by decide +kernel
theorem dX14_readFan_57 : decode cX14_readFan 57 = .ok (.sipush 999, 3) := by decide +kernel
theorem dX14_readFan_60 : decode cX14_readFan 60 = .ok (.invokevirtual 278, 3) := by decide +kernel
theorem dX14_readFan_63 : decode cX14_readFan 63 = .ok (.iastore, 1) := by decide +kernel
theorem dX14_readFan_64 : decode cX14_readFan 64 = .ok (.aload_n 0, 1) := by decide +kernel
theorem dX14_readFan_65 : decode cX14_readFan 65 = .ok (.ldc_w 333, 3) := by decide +kernel
theorem dX14_readFan_68 : decode cX14_readFan 68 = .ok (.invokevirtual 272, 3) := by decide +kernel
theorem dX14_readFan_71 : decode cX14_readFan 71 = .ok (.aload_n 0, 1) := by decide +kernel
theorem dX14_readFan_72 : decode cX14_readFan 72 = .ok (.getfield 227, 3) := by decide +kernel
theorem dX14_readFan_75 : decode cX14_readFan 75 = .ok (.getfield 335, 3) := by decide +kernel
theorem dX14_readFan_78 : decode cX14_readFan 78 = .ok (.iload_n 1, 1) := by decide +kernel
theorem dX14_readFan_79 : decode cX14_readFan 79 = .ok (.aload_n 0, 1) := by decide +kernel
theorem dX14_readFan_80 : decode cX14_readFan 80 = .ok (.iconst 0, 1) := by decide +kernel
theorem dX14_readFan_81 : decode cX14_readFan 81 = .ok (.bipush 99, 2) := by decide +kernel
theorem dX14_readFan_83 : decode cX14_readFan 83 = .ok (.invokevirtual 278, 3) := by decide +kernel
theorem dX14_readFan_86 : decode cX14_readFan 86 = .ok (.iastore, 1) := by decide +kernel
theorem dX14_readFan_87 : decode cX14_readFan 87 = .ok (.aload_n 0, 1) := by decide +kernel
theorem dX14_readFan_88 : decode cX14_readFan 88 = .ok (.ldc_w 337, 3) := by decide +kernel
theorem dX14_readFan_91 : decode cX14_readFan 91 = .ok (.invokevirtual 272, 3) := by decide +kernel
theorem dX14_readFan_94 : decode cX14_readFan 94 = .ok (.aload_n 0, 1) := by decide +kernel
theorem dX14_readFan_95 : decode cX14_readFan 95 = .ok (.getfield 227, 3) := by decide +kernel
theorem dX14_readFan_98 : decode cX14_readFan 98 = .ok (.getfield 339, 3) := by decide +kernel
theorem dX14_readFan_101 : decode cX14_readFan 101 = .ok (.iload_n 1, 1) := by decide +kernel
theorem dX14_readFan_102 : decode cX14_readFan 102 = .ok (.aload_n 0, 1) := by decide +kernel
theorem dX14_readFan_103 : decode cX14_readFan 103 = .ok (.iconst 1, 1) := by decide +kernel
theorem dX14_readFan_104 : decode cX14_readFan 104 = .ok (.bipush 99, 2) := by decide +kernel
theorem dX14_readFan_106 : decode cX14_readFan 106 = .ok (.invokevirtual 278, 3) := by decide +kernel
theorem dX14_readFan_109 : decode cX14_readFan 109 = .ok (.iastore, 1) := by decide +kernel
theorem dX14_readFan_110 : decode cX14_readFan 110 = .ok (.aload_n 0, 1) := by decide +kernel
theorem dX14_readFan_111 : decode cX14_readFan 111 = .ok (.getfield 227, 3) := by decide +kernel
theorem dX14_readFan_114 : decode cX14_readFan 114 = .ok (.getfield 292, 3) := by decide +kernel
theorem dX14_readFan_117 : decode cX14_readFan 117 = .ok (.iload 4, 2) := by decide +kernel
theorem dX14_readFan_119 : decode cX14_readFan 119 = .ok (.iload_n 1, 1) := by decide +kernel
theorem dX14_readFan_120 : decode cX14_readFan 120 = .ok (.iastore, 1) := by decide +kernel
theorem dX14_readFan_121 : decode cX14_readFan 121 = .ok (.aload_n 0, 1) := by decide +kernel
theorem dX14_readFan_122 : decode cX14_readFan 122 = .ok (.getfield 227, 3) := by decide +kernel
theorem dX14_readFan_125 : decode cX14_readFan 125 = .ok (.lload_n 2, 1) := by decide +kernel
theorem dX14_readFan_126 : decode cX14_readFan 126 = .ok (.iconst 2, 1) := by decide +kernel
theorem dX14_readFan_127 : decode cX14_readFan 127 = .ok (.iload_n 1, 1) := by decide +kernel
theorem dX14_readFan_128 : decode cX14_readFan 128 = .ok (.invokevirtual 257, 3) := by decide +kernel
theorem dX14_readFan_131 : decode cX14_readFan 131 = .ok (.aload_n 0, 1) := by decide +kernel
theorem dX14_readFan_132 : decode cX14_readFan 132 = .ok (.getfield 227, 3) := by decide +kernel
theorem dX14_readFan_135 : decode cX14_readFan 135 = .ok (.dup, 1) := by decide +kernel
theorem dX14_readFan_136 : decode cX14_readFan 136 = .ok (.getfield 326, 3) := by decide +kernel
theorem dX14_readFan_139 : decode cX14_readFan 139 = .ok (.iconst 1, 1) := by decide +kernel
theorem dX14_readFan_140 : decode cX14_readFan 140 = .ok (.iadd, 1) := by decide +kernel
theorem dX14_readFan_141 : decode cX14_readFan 141 = .ok (.putfield 326, 3) := by decide +kernel
theorem dX14_readFan_144 : decode cX14_readFan 144 = .ok (.return_, 1) := by decide +kernel
theorem dX14_readPair_0 : decode cX14_readPair 0 = .ok (.aload_n 0, 1) := by decide +kernel
theorem dX14_readPair_1 : decode cX14_readPair 1 = .ok (.invokevirtual 198, 3) := by decide +kernel
theorem dX14_readPair_4 : decode cX14_readPair 4 = .ok (.aload_n 0, 1) := by decide +kernel
theorem dX14_readPair_5 : decode cX14_readPair 5 = .ok (.iconst 1, 1) := by decide +kernel
theorem dX14_readPair_6 : decode cX14_readPair 6 = .ok (.invokevirtual 303, 3) := by decide +kernel
theorem dX14_readPair_9 : decode cX14_readPair 9 = .ok (.istore_n 1, 1) := by decide +kernel
theorem dX14_readPair_10 : decode cX14_readPair 10 = .ok (.aload_n 0, 1) := by decide +kernel
theorem dX14_readPair_11 : decode cX14_readPair 11 = .ok (.getfield 227, 3) := by decide +kernel
theorem dX14_readPair_14 : decode cX14_readPair 14 = .ok (.getfield 317, 3) := by decide +kernel
theorem dX14_readPair_17 : decode cX14_readPair 17 = .ok (.iconst 3, 1) := by decide +kernel
theorem dX14_readPair_18 : decode cX14_readPair 18 = .ok (.if_icmp .ne 9, 3) := by decide +kernel
theorem dX14_readPair_21 : decode cX14_readPair 21 = .ok (.aload_n 0, 1) := by decide +kernel
theorem dX14_readPair_22 : decode cX14_readPair 22 = .ok (.iconst 5, 1) := by decide +kernel
theorem dX14_readPair_23 : decode cX14_readPair 23 = .ok (.invokevirtual 195, 3) := by decide +kernel
theorem dX14_readPair_26 : decode cX14_readPair 26 = .ok (.athrow, 1) := by decide +kernel
theorem dX14_readPair_27 : decode cX14_readPair 27 = .ok (.aload_n 0, 1) := by decide +kernel
theorem dX14_readPair_28 : decode cX14_readPair 28 = .ok (.invokevirtual 198, 3) := by decide +kernel
theorem dX14_readPair_31 : decode cX14_readPair 31 = .ok (.aload_n 0, 1) := by decide +kernel
theorem dX14_readPair_32 : decode cX14_readPair 32 = .ok (.iconst 1, 1) := by decide +kernel
theorem dX14_readPair_33 : decode cX14_readPair 33 = .ok (.invokevirtual 303, 3) := by decide +kernel
theorem dX14_readPair_36 : decode cX14_readPair 36 = .ok (.istore_n 2, 1) := by decide +kernel
theorem dX14_readPair_37 : decode cX14_readPair 37 = .ok (.iload_n 2, 1) := by decide +kernel
theorem dX14_readPair_38 : decode cX14_readPair 38 = .ok (.iload_n 1, 1) := by decide +kernel
theorem dX14_readPair_39 : decode cX14_readPair 39 = .ok (.if_icmp .ne 9, 3) := by decide +kernel
theorem dX14_readPair_42 : decode cX14_readPair 42 = .ok (.aload_n 0, 1) := by decide +kernel
theorem dX14_readPair_43 : decode cX14_readPair 43 = .ok (.iconst 3, 1) := by decide +kernel
theorem dX14_readPair_44 : decode cX14_readPair 44 = .ok (.invokevirtual 195, 3) := by decide +kernel
theorem dX14_readPair_47 : decode cX14_readPair 47 = .ok (.athrow, 1) := by decide +kernel
theorem dX14_readPair_48 : decode cX14_readPair 48 = .ok (.aload_n 0, 1) := by decide +kernel
theorem dX14_readPair_49 : decode cX14_readPair 49 = .ok (.invokevirtual 198, 3) := by decide +kernel
theorem dX14_readPair_52 : decode cX14_readPair 52 = .ok (.aload_n 0, 1) := by decide +kernel
theorem dX14_readPair_53 : decode cX14_readPair 53 = .ok (.getfield 227, 3) := by decide +kernel
theorem dX14_readPair_56 : decode cX14_readPair 56 = .ok (.getfield 320, 3) := by decide +kernel
theorem dX14_readPair_59 : decode cX14_readPair 59 = .ok (.aload_n 0, 1) := by decide +kernel
theorem dX14_readPair_60 : decode cX14_readPair 60 = .ok (.getfield 227, 3) := by decide +kernel
theorem dX14_readPair_63 : decode cX14_readPair 63 = .ok (.getfield 317, 3) := by decide +kernel
theorem dX14_readPair_66 : decode cX14_readPair 66 = .ok (.iload_n 1, 1) := by decide +kernel
theorem dX14_readPair_67 : decode cX14_readPair 67 = .ok (.iastore, 1) := by decide +kernel
theorem dX14_readPair_68 : decode cX14_readPair 68 = .ok (.aload_n 0, 1) := by decide +kernel
theorem dX14_readPair_69 : decode cX14_readPair 69 = .ok (.getfield 227, 3) := by decide +kernel
theorem dX14_readPair_72 : decode cX14_readPair 72 = .ok (.getfield 323, 3) := by decide +kernel
theorem dX14_readPair_75 : decode cX14_readPair 75 = .ok (.aload_n 0, 1) := by decide +kernel
theorem dX14_readPair_76 : decode cX14_readPair 76 = .ok (.getfield 227, 3) := by decide +kernel
theorem dX14_readPair_79 : decode cX14_readPair 79 = .ok (.getfield 317, 3) := by decide +kernel
theorem dX14_readPair_82 : decode cX14_readPair 82 = .ok (.iload_n 2, 1) := by decide +kernel
theorem dX14_readPair_83 : decode cX14_readPair 83 = .ok (.iastore, 1) := by decide +kernel
theorem dX14_readPair_84 : decode cX14_readPair 84 = .ok (.aload_n 0, 1) := by decide +kernel
theorem dX14_readPair_85 : decode cX14_readPair 85 = .ok (.getfield 227, 3) := by decide +kernel
theorem dX14_readPair_88 : decode cX14_readPair 88 = .ok (.dup, 1) := by decide +kernel
theorem dX14_readPair_89 : decode cX14_readPair 89 = .ok (.getfield 317, 3) := by decide +kernel
theorem dX14_readPair_92 : decode cX14_readPair 92 = .ok (.iconst 1, 1) := by decide +kernel
theorem dX14_readPair_93 : decode cX14_readPair 93 = .ok (.iadd, 1) := by decide +kernel
theorem dX14_readPair_94 : decode cX14_readPair 94 = .ok (.putfield 317, 3) := by decide +kernel
theorem dX14_readPair_97 : decode cX14_readPair 97 = .ok (.return_, 1) := by decide +kernel
