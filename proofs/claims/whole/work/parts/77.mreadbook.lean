theorem wd_65 : Cond.selects "MineAirModel" (⟨"MineAirModel", "readWay", "()V"⟩ : MethodName) (⟨"MineAirModel", "readWay", "()V"⟩ : MethodName) ∈ wG := wG_of 65 (by decide +kernel) (by decide +kernel)
theorem wd_73 : Cond.selects "MineAirModel" (⟨"MineAirModel", "readDoor", "()V"⟩ : MethodName) (⟨"MineAirModel", "readDoor", "()V"⟩ : MethodName) ∈ wG := wG_of 73 (by decide +kernel) (by decide +kernel)
theorem wd_76 : Cond.selects "MineAirModel" (⟨"MineAirModel", "readPair", "()V"⟩ : MethodName) (⟨"MineAirModel", "readPair", "()V"⟩ : MethodName) ∈ wG := wG_of 76 (by decide +kernel) (by decide +kernel)
theorem wd_77 : Cond.selects "MineAirModel" (⟨"MineAirModel", "readFan", "()V"⟩ : MethodName) (⟨"MineAirModel", "readFan", "()V"⟩ : MethodName) ∈ wG := wG_of 77 (by decide +kernel) (by decide +kernel)
theorem wd_78 : Cond.selects "MineAirModel" (⟨"MineAirModel", "readFace", "()V"⟩ : MethodName) (⟨"MineAirModel", "readFace", "()V"⟩ : MethodName) ∈ wG := wG_of 78 (by decide +kernel) (by decide +kernel)
theorem wd_1764 : Cond.methodLink "MineAirModel" 205 (⟨"MineAirModel", "readWay", "()V"⟩ : MethodName) ∈ wG := wG_of 1764 (by decide +kernel) (by decide +kernel)
theorem wd_1766 : Cond.instanceMethod (⟨"MineAirModel", "readWay", "()V"⟩ : MethodName) ∈ wG := wG_of 1766 (by decide +kernel) (by decide +kernel)
theorem wd_1767 : Cond.code (⟨"MineAirModel", "readWay", "()V"⟩ : MethodName) prog_14_method_23_code 4 (Option.none : Option Jvm.ClassFile.FieldType) ∈ wG := wG_of 1767 (by decide +kernel) (by decide +kernel)
theorem wd_1819 : Cond.methodLink "MineAirModel" 208 (⟨"MineAirModel", "readDoor", "()V"⟩ : MethodName) ∈ wG := wG_of 1819 (by decide +kernel) (by decide +kernel)
theorem wd_1821 : Cond.instanceMethod (⟨"MineAirModel", "readDoor", "()V"⟩ : MethodName) ∈ wG := wG_of 1821 (by decide +kernel) (by decide +kernel)
theorem wd_1822 : Cond.code (⟨"MineAirModel", "readDoor", "()V"⟩ : MethodName) prog_14_method_25_code 5 (Option.none : Option Jvm.ClassFile.FieldType) ∈ wG := wG_of 1822 (by decide +kernel) (by decide +kernel)
theorem wd_1833 : Cond.methodLink "MineAirModel" 211 (⟨"MineAirModel", "readPair", "()V"⟩ : MethodName) ∈ wG := wG_of 1833 (by decide +kernel) (by decide +kernel)
theorem wd_1835 : Cond.instanceMethod (⟨"MineAirModel", "readPair", "()V"⟩ : MethodName) ∈ wG := wG_of 1835 (by decide +kernel) (by decide +kernel)
theorem wd_1836 : Cond.code (⟨"MineAirModel", "readPair", "()V"⟩ : MethodName) prog_14_method_26_code 3 (Option.none : Option Jvm.ClassFile.FieldType) ∈ wG := wG_of 1836 (by decide +kernel) (by decide +kernel)
theorem wd_1837 : Cond.methodLink "MineAirModel" 214 (⟨"MineAirModel", "readFan", "()V"⟩ : MethodName) ∈ wG := wG_of 1837 (by decide +kernel) (by decide +kernel)
theorem wd_1839 : Cond.instanceMethod (⟨"MineAirModel", "readFan", "()V"⟩ : MethodName) ∈ wG := wG_of 1839 (by decide +kernel) (by decide +kernel)
theorem wd_1840 : Cond.code (⟨"MineAirModel", "readFan", "()V"⟩ : MethodName) prog_14_method_27_code 5 (Option.none : Option Jvm.ClassFile.FieldType) ∈ wG := wG_of 1840 (by decide +kernel) (by decide +kernel)
theorem wd_1844 : Cond.methodLink "MineAirModel" 217 (⟨"MineAirModel", "readFace", "()V"⟩ : MethodName) ∈ wG := wG_of 1844 (by decide +kernel) (by decide +kernel)
theorem wd_1846 : Cond.instanceMethod (⟨"MineAirModel", "readFace", "()V"⟩ : MethodName) ∈ wG := wG_of 1846 (by decide +kernel) (by decide +kernel)
theorem wd_1847 : Cond.code (⟨"MineAirModel", "readFace", "()V"⟩ : MethodName) prog_14_method_28_code 5 (Option.none : Option Jvm.ClassFile.FieldType) ∈ wG := wG_of 1847 (by decide +kernel) (by decide +kernel)
theorem dX14_readBook_0 : decode cX14_readBook 0 = .ok (.iconst 1, 1) := by decide +kernel
theorem dX14_readBook_1 : decode cX14_readBook 1 = .ok (.istore_n 1, 1) := by decide +kernel
theorem dX14_readBook_2 : decode cX14_readBook 2 = .ok (.iload_n 1, 1) := by decide +kernel
theorem dX14_readBook_3 : decode cX14_readBook 3 = .ok (.ifCond .eq 107, 3) := by decide +kernel
theorem dX14_readBook_6 : decode cX14_readBook 6 = .ok (.aload_n 0, 1) := by decide +kernel
theorem dX14_readBook_7 : decode cX14_readBook 7 = .ok (.ldc 181, 2) := by decide +kernel
theorem dX14_readBook_9 : decode cX14_readBook 9 = .ok (.invokevirtual 183, 3) := by decide +kernel
theorem dX14_readBook_12 : decode cX14_readBook 12 = .ok (.ifCond .eq 10, 3) := by decide +kernel
theorem dX14_readBook_15 : decode cX14_readBook 15 = .ok (.aload_n 0, 1) := by decide +kernel
theorem dX14_readBook_16 : decode cX14_readBook 16 = .ok (.invokevirtual 205, 3) := by decide +kernel
theorem dX14_readBook_19 : decode cX14_readBook 19 = .ok (.goto 73, 3) := by decide +kernel
theorem dX14_readBook_22 : decode cX14_readBook 22 = .ok (.aload_n 0, 1) := by decide +kernel
theorem dX14_readBook_23 : decode cX14_readBook 23 = .ok (.ldc 187, 2) := by decide +kernel
theorem dX14_readBook_25 : decode cX14_readBook 25 = .ok (.invokevirtual 183, 3) := by decide +kernel
theorem dX14_readBook_28 : decode cX14_readBook 28 = .ok (.ifCond .eq 10, 3) := by decide +kernel
theorem dX14_readBook_31 : decode cX14_readBook 31 = .ok (.aload_n 0, 1) := by decide +kernel
theorem dX14_readBook_32 : decode cX14_readBook 32 = .ok (.invokevirtual 208, 3) := by decide +kernel
theorem dX14_readBook_35 : decode cX14_readBook 35 = .ok (.goto 57, 3) := by decide +kernel
theorem dX14_readBook_38 : decode cX14_readBook 38 = .ok (.aload_n 0, 1) := by decide +kernel
theorem dX14_readBook_39 : decode cX14_readBook 39 = .ok (.ldc 189, 2) := by decide +kernel
theorem dX14_readBook_41 : decode cX14_readBook 41 = .ok (.invokevirtual 183, 3) := by decide +kernel
theorem dX14_readBook_44 : decode cX14_readBook 44 = .ok (.ifCond .eq 10, 3) := by decide +kernel
theorem dX14_readBook_47 : decode cX14_readBook 47 = .ok (.aload_n 0, 1) := by decide +kernel
theorem dX14_readBook_48 : decode cX14_readBook 48 = .ok (.invokevirtual 211, 3) := by decide +kernel
theorem dX14_readBook_51 : decode cX14_readBook 51 = .ok (.goto 41, 3) := by decide +kernel
theorem dX14_readBook_54 : decode cX14_readBook 54 = .ok (.aload_n 0, 1) := by decide +kernel
theorem dX14_readBook_55 : decode cX14_readBook 55 = .ok (.ldc 191, 2) := by decide +kernel
theorem dX14_readBook_57 : decode cX14_readBook 57 = .ok (.invokevirtual 183, 3) := by decide +kernel
theorem dX14_readBook_60 : decode cX14_readBook 60 = .ok (.ifCond .eq 10, 3) := by decide +kernel
theorem dX14_readBook_63 : decode cX14_readBook 63 = .ok (.aload_n 0, 1) := by decide +kernel
theorem dX14_readBook_64 : decode cX14_readBook 64 = .ok (.invokevirtual 214, 3) := by decide +kernel
theorem dX14_readBook_67 : decode cX14_readBook 67 = .ok (.goto 25, 3) := by decide +kernel
theorem dX14_readBook_70 : decode cX14_readBook 70 = .ok (.aload_n 0, 1) := by decide +kernel
theorem dX14_readBook_71 : decode cX14_readBook 71 = .ok (.ldc 193, 2) := by decide +kernel
theorem dX14_readBook_73 : decode cX14_readBook 73 = .ok (.invokevirtual 183, 3) := by decide +kernel
theorem dX14_readBook_76 : decode cX14_readBook 76 = .ok (.ifCond .eq 10, 3) := by decide +kernel
theorem dX14_readBook_79 : decode cX14_readBook 79 = .ok (.aload_n 0, 1) := by decide +kernel
theorem dX14_readBook_80 : decode cX14_readBook 80 = .ok (.invokevirtual 217, 3) := by decide +kernel
theorem dX14_readBook_83 : decode cX14_readBook 83 = .ok (.goto 9, 3) := by decide +kernel
theorem dX14_readBook_86 : decode cX14_readBook 86 = .ok (.aload_n 0, 1) := by decide +kernel
theorem dX14_readBook_87 : decode cX14_readBook 87 = .ok (.iconst 1, 1) := by decide +kernel
theorem dX14_readBook_88 : decode cX14_readBook 88 = .ok (.invokevirtual 195, 3) := by decide +kernel
theorem dX14_readBook_91 : decode cX14_readBook 91 = .ok (.athrow, 1) := by decide +kernel
theorem dX14_readBook_92 : decode cX14_readBook 92 = .ok (.aload_n 0, 1) := by decide +kernel
theorem dX14_readBook_93 : decode cX14_readBook 93 = .ok (.bipush 59, 2) := by decide +kernel
theorem dX14_readBook_95 : decode cX14_readBook 95 = .ok (.invokevirtual 220, 3) := by decide +kernel
theorem dX14_readBook_98 : decode cX14_readBook 98 = .ok (.istore_n 1, 1) := by decide +kernel
theorem dX14_readBook_99 : decode cX14_readBook 99 = .ok (.iload_n 1, 1) := by decide +kernel
theorem dX14_readBook_100 : decode cX14_readBook 100 = .ok (.ifCond .eq (-98), 3) := by decide +kernel
theorem dX14_readBook_103 : decode cX14_readBook 103 = .ok (.aload_n 0, 1) := by decide +kernel
theorem dX14_readBook_104 : decode cX14_readBook 104 = .ok (.invokevirtual 198, 3) := by decide +kernel
theorem dX14_readBook_107 : decode cX14_readBook 107 = .ok (.goto (-105), 3) := by decide +kernel
theorem dX14_readBook_110 : decode cX14_readBook 110 = .ok (.aload_n 0, 1) := by decide +kernel
theorem dX14_readBook_111 : decode cX14_readBook 111 = .ok (.getfield 157, 3) := by decide +kernel
theorem dX14_readBook_114 : decode cX14_readBook 114 = .ok (.iconst 1, 1) := by decide +kernel
theorem dX14_readBook_115 : decode cX14_readBook 115 = .ok (.if_icmp .eq 9, 3) := by decide +kernel
theorem dX14_readBook_118 : decode cX14_readBook 118 = .ok (.aload_n 0, 1) := by decide +kernel
theorem dX14_readBook_119 : decode cX14_readBook 119 = .ok (.iconst 1, 1) := by decide +kernel
theorem dX14_readBook_120 : decode cX14_readBook 120 = .ok (.invokevirtual 195, 3) := by decide +kernel
theorem dX14_readBook_123 : decode cX14_readBook 123 = .ok (.athrow, 1) := by decide +kernel
theorem dX14_readBook_124 : decode cX14_readBook 124 = .ok (.return_, 1) := by decide +kernel
