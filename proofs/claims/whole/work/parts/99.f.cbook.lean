theorem wd_6 : Cond.selects "MineAir$Reader" (⟨"MineAir$Reader", "readWay", "()V"⟩ : MethodName) (⟨"MineAir$Reader", "readWay", "()V"⟩ : MethodName) ∈ wG := wG_of 6 (by decide +kernel) (by decide +kernel)
theorem wd_16 : Cond.selects "MineAir$Reader" (⟨"MineAir$Reader", "readDoor", "()V"⟩ : MethodName) (⟨"MineAir$Reader", "readDoor", "()V"⟩ : MethodName) ∈ wG := wG_of 16 (by decide +kernel) (by decide +kernel)
theorem wd_19 : Cond.selects "MineAir$Reader" (⟨"MineAir$Reader", "readPair", "()V"⟩ : MethodName) (⟨"MineAir$Reader", "readPair", "()V"⟩ : MethodName) ∈ wG := wG_of 19 (by decide +kernel) (by decide +kernel)
theorem wd_20 : Cond.selects "MineAir$Reader" (⟨"MineAir$Reader", "readFan", "()V"⟩ : MethodName) (⟨"MineAir$Reader", "readFan", "()V"⟩ : MethodName) ∈ wG := wG_of 20 (by decide +kernel) (by decide +kernel)
theorem wd_21 : Cond.selects "MineAir$Reader" (⟨"MineAir$Reader", "readFace", "()V"⟩ : MethodName) (⟨"MineAir$Reader", "readFace", "()V"⟩ : MethodName) ∈ wG := wG_of 21 (by decide +kernel) (by decide +kernel)
theorem wd_335 : Cond.fieldLink "MineAir$Reader" 32 "MineAir$Reader" "fed" "I" ∈ wG := wG_of 335 (by decide +kernel) (by decide +kernel)
theorem wd_727 : Cond.methodLink "MineAir$Reader" 51 (⟨"MineAir$Book", "clear", "()V"⟩ : MethodName) ∈ wG := wG_of 727 (by decide +kernel) (by decide +kernel)
theorem wd_728 : Cond.instanceMethod (⟨"MineAir$Book", "clear", "()V"⟩ : MethodName) ∈ wG := wG_of 728 (by decide +kernel) (by decide +kernel)
theorem wd_729 : Cond.selects "MineAir$Book" (⟨"MineAir$Book", "clear", "()V"⟩ : MethodName) (⟨"MineAir$Book", "clear", "()V"⟩ : MethodName) ∈ wG := wG_of 729 (by decide +kernel) (by decide +kernel)
theorem wd_730 : Cond.code (⟨"MineAir$Book", "clear", "()V"⟩ : MethodName) prog_2_method_2_code 1 (Option.none : Option Jvm.ClassFile.FieldType) ∈ wG := wG_of 730 (by decide +kernel) (by decide +kernel)
theorem wd_812 : Cond.methodLink "MineAir$Reader" 65 (⟨"MineAir$Reader", "readWay", "()V"⟩ : MethodName) ∈ wG := wG_of 812 (by decide +kernel) (by decide +kernel)
theorem wd_814 : Cond.instanceMethod (⟨"MineAir$Reader", "readWay", "()V"⟩ : MethodName) ∈ wG := wG_of 814 (by decide +kernel) (by decide +kernel)
theorem wd_815 : Cond.code (⟨"MineAir$Reader", "readWay", "()V"⟩ : MethodName) prog_9_method_4_code 8 (Option.none : Option Jvm.ClassFile.FieldType) ∈ wG := wG_of 815 (by decide +kernel) (by decide +kernel)
theorem wd_861 : Cond.methodLink "MineAir$Reader" 70 (⟨"MineAir$Reader", "readDoor", "()V"⟩ : MethodName) ∈ wG := wG_of 861 (by decide +kernel) (by decide +kernel)
theorem wd_863 : Cond.instanceMethod (⟨"MineAir$Reader", "readDoor", "()V"⟩ : MethodName) ∈ wG := wG_of 863 (by decide +kernel) (by decide +kernel)
theorem wd_864 : Cond.code (⟨"MineAir$Reader", "readDoor", "()V"⟩ : MethodName) prog_9_method_5_code 5 (Option.none : Option Jvm.ClassFile.FieldType) ∈ wG := wG_of 864 (by decide +kernel) (by decide +kernel)
theorem wd_875 : Cond.methodLink "MineAir$Reader" 75 (⟨"MineAir$Reader", "readPair", "()V"⟩ : MethodName) ∈ wG := wG_of 875 (by decide +kernel) (by decide +kernel)
theorem wd_877 : Cond.instanceMethod (⟨"MineAir$Reader", "readPair", "()V"⟩ : MethodName) ∈ wG := wG_of 877 (by decide +kernel) (by decide +kernel)
theorem wd_878 : Cond.code (⟨"MineAir$Reader", "readPair", "()V"⟩ : MethodName) prog_9_method_6_code 5 (Option.none : Option Jvm.ClassFile.FieldType) ∈ wG := wG_of 878 (by decide +kernel) (by decide +kernel)
theorem wd_879 : Cond.methodLink "MineAir$Reader" 80 (⟨"MineAir$Reader", "readFan", "()V"⟩ : MethodName) ∈ wG := wG_of 879 (by decide +kernel) (by decide +kernel)
theorem wd_881 : Cond.instanceMethod (⟨"MineAir$Reader", "readFan", "()V"⟩ : MethodName) ∈ wG := wG_of 881 (by decide +kernel) (by decide +kernel)
theorem wd_882 : Cond.code (⟨"MineAir$Reader", "readFan", "()V"⟩ : MethodName) prog_9_method_7_code 7 (Option.none : Option Jvm.ClassFile.FieldType) ∈ wG := wG_of 882 (by decide +kernel) (by decide +kernel)
theorem wd_886 : Cond.methodLink "MineAir$Reader" 85 (⟨"MineAir$Reader", "readFace", "()V"⟩ : MethodName) ∈ wG := wG_of 886 (by decide +kernel) (by decide +kernel)
theorem wd_888 : Cond.instanceMethod (⟨"MineAir$Reader", "readFace", "()V"⟩ : MethodName) ∈ wG := wG_of 888 (by decide +kernel) (by decide +kernel)
theorem wd_889 : Cond.code (⟨"MineAir$Reader", "readFace", "()V"⟩ : MethodName) prog_9_method_8_code 6 (Option.none : Option Jvm.ClassFile.FieldType) ∈ wG := wG_of 889 (by decide +kernel) (by decide +kernel)
theorem dX7_readBook_0 : decode cX7_readBook 0 = .ok (.aload_n 0, 1) := by decide +kernel
theorem dX7_readBook_1 : decode cX7_readBook 1 = .ok (.iload_n 1, 1) := by decide +kernel
theorem dX7_readBook_2 : decode cX7_readBook 2 = .ok (.aload_n 0, 1) := by decide +kernel
theorem dX7_readBook_3 : decode cX7_readBook 3 = .ok (.getfield 32, 3) := by decide +kernel
theorem dX7_readBook_6 : decode cX7_readBook 6 = .ok (.if_icmp .ge 7, 3) := by decide +kernel
theorem dX7_readBook_9 : decode cX7_readBook 9 = .ok (.iload_n 1, 1) := by decide +kernel
theorem dX7_readBook_10 : decode cX7_readBook 10 = .ok (.goto 7, 3) := by decide +kernel
theorem dX7_readBook_13 : decode cX7_readBook 13 = .ok (.aload_n 0, 1) := by decide +kernel
theorem dX7_readBook_14 : decode cX7_readBook 14 = .ok (.getfield 32, 3) := by decide +kernel
theorem dX7_readBook_17 : decode cX7_readBook 17 = .ok (.putfield 36, 3) := by decide +kernel
theorem dX7_readBook_20 : decode cX7_readBook 20 = .ok (.aload_n 0, 1) := by decide +kernel
theorem dX7_readBook_21 : decode cX7_readBook 21 = .ok (.iconst 0, 1) := by decide +kernel
theorem dX7_readBook_22 : decode cX7_readBook 22 = .ok (.putfield 32, 3) := by decide +kernel
theorem dX7_readBook_25 : decode cX7_readBook 25 = .ok (.aload_n 0, 1) := by decide +kernel
theorem dX7_readBook_26 : decode cX7_readBook 26 = .ok (.iconst 0, 1) := by decide +kernel
theorem dX7_readBook_27 : decode cX7_readBook 27 = .ok (.putfield 39, 3) := by decide +kernel
theorem dX7_readBook_30 : decode cX7_readBook 30 = .ok (.aload_n 0, 1) := by decide +kernel
theorem dX7_readBook_31 : decode cX7_readBook 31 = .ok (.iconst 0, 1) := by decide +kernel
theorem dX7_readBook_32 : decode cX7_readBook 32 = .ok (.putfield 42, 3) := by decide +kernel
theorem dX7_readBook_35 : decode cX7_readBook 35 = .ok (.aload_n 0, 1) := by decide +kernel
theorem dX7_readBook_36 : decode cX7_readBook 36 = .ok (.iconst 0, 1) := by decide +kernel
theorem dX7_readBook_37 : decode cX7_readBook 37 = .ok (.putfield 45, 3) := by decide +kernel
theorem dX7_readBook_40 : decode cX7_readBook 40 = .ok (.aload_n 0, 1) := by decide +kernel
theorem dX7_readBook_41 : decode cX7_readBook 41 = .ok (.iconst (-1), 1) := by decide +kernel
theorem dX7_readBook_42 : decode cX7_readBook 42 = .ok (.putfield 48, 3) := by decide +kernel
theorem dX7_readBook_45 : decode cX7_readBook 45 = .ok (.aload_n 0, 1) := by decide +kernel
theorem dX7_readBook_46 : decode cX7_readBook 46 = .ok (.getfield 28, 3) := by decide +kernel
theorem dX7_readBook_49 : decode cX7_readBook 49 = .ok (.invokevirtual 51, 3) := by decide +kernel
theorem dX7_readBook_52 : decode cX7_readBook 52 = .ok (.aload_n 0, 1) := by decide +kernel
theorem dX7_readBook_53 : decode cX7_readBook 53 = .ok (.invokevirtual 56, 3) := by decide +kernel
theorem dX7_readBook_56 : decode cX7_readBook 56 = .ok (.iconst 0, 1) := by decide +kernel
theorem dX7_readBook_57 : decode cX7_readBook 57 = .ok (.istore_n 2, 1) := by decide +kernel
theorem dX7_readBook_58 : decode cX7_readBook 58 = .ok (.iload_n 2, 1) := by decide +kernel
theorem dX7_readBook_59 : decode cX7_readBook 59 = .ok (.sipush 600, 3) := by decide +kernel
theorem dX7_readBook_62 : decode cX7_readBook 62 = .ok (.if_icmp .gt 131, 3) := by decide +kernel
theorem dX7_readBook_65 : decode cX7_readBook 65 = .ok (.aload_n 0, 1) := by decide +kernel
theorem dX7_readBook_66 : decode cX7_readBook 66 = .ok (.ldc 59, 2) := by decide +kernel
theorem dX7_readBook_68 : decode cX7_readBook 68 = .ok (.invokevirtual 61, 3) := by decide +kernel
theorem dX7_readBook_71 : decode cX7_readBook 71 = .ok (.ifCond .eq 10, 3) := by decide +kernel
theorem dX7_readBook_74 : decode cX7_readBook 74 = .ok (.aload_n 0, 1) := by decide +kernel
theorem dX7_readBook_75 : decode cX7_readBook 75 = .ok (.invokevirtual 65, 3) := by decide +kernel
theorem dX7_readBook_78 : decode cX7_readBook 78 = .ok (.goto 73, 3) := by decide +kernel
theorem dX7_readBook_81 : decode cX7_readBook 81 = .ok (.aload_n 0, 1) := by decide +kernel
theorem dX7_readBook_82 : decode cX7_readBook 82 = .ok (.ldc 68, 2) := by decide +kernel
theorem dX7_readBook_84 : decode cX7_readBook 84 = .ok (.invokevirtual 61, 3) := by decide +kernel
theorem dX7_readBook_87 : decode cX7_readBook 87 = .ok (.ifCond .eq 10, 3) := by decide +kernel
theorem dX7_readBook_90 : decode cX7_readBook 90 = .ok (.aload_n 0, 1) := by decide +kernel
theorem dX7_readBook_91 : decode cX7_readBook 91 = .ok (.invokevirtual 70, 3) := by decide +kernel
theorem dX7_readBook_94 : decode cX7_readBook 94 = .ok (.goto 57, 3) := by decide +kernel
theorem dX7_readBook_97 : decode cX7_readBook 97 = .ok (.aload_n 0, 1) := by decide +kernel
theorem dX7_readBook_98 : decode cX7_readBook 98 = .ok (.ldc 73, 2) := by decide +kernel
theorem dX7_readBook_100 : decode cX7_readBook 100 = .ok (.invokevirtual 61, 3) := by decide +kernel
theorem dX7_readBook_103 : decode cX7_readBook 103 = .ok (.ifCond .eq 10, 3) := by decide +kernel
theorem dX7_readBook_106 : decode cX7_readBook 106 = .ok (.aload_n 0, 1) := by decide +kernel
theorem dX7_readBook_107 : decode cX7_readBook 107 = .ok (.invokevirtual 75, 3) := by decide +kernel
theorem dX7_readBook_110 : decode cX7_readBook 110 = .ok (.goto 41, 3) := by decide +kernel
theorem dX7_readBook_113 : decode cX7_readBook 113 = .ok (.aload_n 0, 1) := by decide +kernel
theorem dX7_readBook_114 : decode cX7_readBook 114 = .ok (.ldc 78, 2) := by decide +kernel
theorem dX7_readBook_116 : decode cX7_readBook 116 = .ok (.invokevirtual 61, 3) := by decide +kernel
theorem dX7_readBook_119 : decode cX7_readBook 119 = .ok (.ifCond .eq 10, 3) := by decide +kernel
theorem dX7_readBook_122 : decode cX7_readBook 122 = .ok (.aload_n 0, 1) := by decide +kernel
theorem dX7_readBook_123 : decode cX7_readBook 123 = .ok (.invokevirtual 80, 3) := by decide +kernel
theorem dX7_readBook_126 : decode cX7_readBook 126 = .ok (.goto 25, 3) := by decide +kernel
theorem dX7_readBook_129 : decode cX7_readBook 129 = .ok (.aload_n 0, 1) := by decide +kernel
theorem dX7_readBook_130 : decode cX7_readBook 130 = .ok (.ldc 83, 2) := by decide +kernel
theorem dX7_readBook_132 : decode cX7_readBook 132 = .ok (.invokevirtual 61, 3) := by decide +kernel
theorem dX7_readBook_135 : decode cX7_readBook 135 = .ok (.ifCond .eq 10, 3) := by decide +kernel
theorem dX7_readBook_138 : decode cX7_readBook 138 = .ok (.aload_n 0, 1) := by decide +kernel
theorem dX7_readBook_139 : decode cX7_readBook 139 = .ok (.invokevirtual 85, 3) := by decide +kernel
theorem dX7_readBook_142 : decode cX7_readBook 142 = .ok (.goto 9, 3) := by decide +kernel
theorem dX7_readBook_145 : decode cX7_readBook 145 = .ok (.aload_n 0, 1) := by decide +kernel
theorem dX7_readBook_146 : decode cX7_readBook 146 = .ok (.iconst 1, 1) := by decide +kernel
theorem dX7_readBook_147 : decode cX7_readBook 147 = .ok (.invokevirtual 88, 3) := by decide +kernel
theorem dX7_readBook_150 : decode cX7_readBook 150 = .ok (.pop, 1) := by decide +kernel
theorem dX7_readBook_151 : decode cX7_readBook 151 = .ok (.aload_n 0, 1) := by decide +kernel
theorem dX7_readBook_152 : decode cX7_readBook 152 = .ok (.getfield 45, 3) := by decide +kernel
theorem dX7_readBook_155 : decode cX7_readBook 155 = .ok (.ifCond .eq 5, 3) := by decide +kernel
theorem dX7_readBook_158 : decode cX7_readBook 158 = .ok (.iconst 0, 1) := by decide +kernel
theorem dX7_readBook_159 : decode cX7_readBook 159 = .ok (.ireturn, 1) := by decide +kernel
theorem dX7_readBook_160 : decode cX7_readBook 160 = .ok (.aload_n 0, 1) := by decide +kernel
theorem dX7_readBook_161 : decode cX7_readBook 161 = .ok (.getfield 92, 3) := by decide +kernel
theorem dX7_readBook_164 : decode cX7_readBook 164 = .ok (.ifCond .ne 5, 3) := by decide +kernel
theorem dX7_readBook_167 : decode cX7_readBook 167 = .ok (.iconst 1, 1) := by decide +kernel
theorem dX7_readBook_168 : decode cX7_readBook 168 = .ok (.ireturn, 1) := by decide +kernel
theorem dX7_readBook_169 : decode cX7_readBook 169 = .ok (.aload_n 0, 1) := by decide +kernel
theorem dX7_readBook_170 : decode cX7_readBook 170 = .ok (.getfield 92, 3) := by decide +kernel
theorem dX7_readBook_173 : decode cX7_readBook 173 = .ok (.iconst 3, 1) := by decide +kernel
theorem dX7_readBook_174 : decode cX7_readBook 174 = .ok (.if_icmp .eq 9, 3) := by decide +kernel
theorem dX7_readBook_177 : decode cX7_readBook 177 = .ok (.aload_n 0, 1) := by decide +kernel
theorem dX7_readBook_178 : decode cX7_readBook 178 = .ok (.iconst 1, 1) := by decide +kernel
theorem dX7_readBook_179 : decode cX7_readBook 179 = .ok (.invokevirtual 88, 3) := by decide +kernel
theorem dX7_readBook_182 : decode cX7_readBook 182 = .ok (.ireturn, 1) := by decide +kernel
theorem dX7_readBook_183 : decode cX7_readBook 183 = .ok (.aload_n 0, 1) := by decide +kernel
theorem dX7_readBook_184 : decode cX7_readBook 184 = .ok (.invokevirtual 56, 3) := by decide +kernel
theorem dX7_readBook_187 : decode cX7_readBook 187 = .ok (.iinc 2 1, 3) := by decide +kernel
theorem dX7_readBook_190 : decode cX7_readBook 190 = .ok (.goto (-132), 3) := by decide +kernel
theorem dX7_readBook_193 : decode cX7_readBook 193 = .ok (.aload_n 0, 1) := by decide +kernel
theorem dX7_readBook_194 : decode cX7_readBook 194 = .ok (.iconst 1, 1) := by decide +kernel
theorem dX7_readBook_195 : decode cX7_readBook 195 = .ok (.invokevirtual 88, 3) := by decide +kernel
theorem dX7_readBook_198 : decode cX7_readBook 198 = .ok (.ireturn, 1) := by decide +kernel
