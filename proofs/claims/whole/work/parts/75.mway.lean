theorem wd_69 : Cond.selects "MineAirModel" (⟨"MineAirModel", "readKnot", "(I)I"⟩ : MethodName) (⟨"MineAirModel", "readKnot", "(I)I"⟩ : MethodName) ∈ wG := wG_of 69 (by decide +kernel) (by decide +kernel)
theorem wd_72 : Cond.selects "MineAirModel" (⟨"MineAirModel", "is", "(I)Z"⟩ : MethodName) (⟨"MineAirModel", "is", "(I)Z"⟩ : MethodName) ∈ wG := wG_of 72 (by decide +kernel) (by decide +kernel)
theorem wd_1792 : Cond.methodLink "MineAirModel" 264 (⟨"MineAirModel", "readKnot", "(I)I"⟩ : MethodName) ∈ wG := wG_of 1792 (by decide +kernel) (by decide +kernel)
theorem wd_1794 : Cond.instanceMethod (⟨"MineAirModel", "readKnot", "(I)I"⟩ : MethodName) ∈ wG := wG_of 1794 (by decide +kernel) (by decide +kernel)
theorem wd_1795 : Cond.code (⟨"MineAirModel", "readKnot", "(I)I"⟩ : MethodName) prog_14_method_22_code 3 (Option.some Jvm.ClassFile.FieldType.int) ∈ wG := wG_of 1795 (by decide +kernel) (by decide +kernel)
theorem wd_1815 : Cond.methodLink "MineAirModel" 220 (⟨"MineAirModel", "is", "(I)Z"⟩ : MethodName) ∈ wG := wG_of 1815 (by decide +kernel) (by decide +kernel)
theorem wd_1817 : Cond.instanceMethod (⟨"MineAirModel", "is", "(I)Z"⟩ : MethodName) ∈ wG := wG_of 1817 (by decide +kernel) (by decide +kernel)
theorem wd_1818 : Cond.code (⟨"MineAirModel", "is", "(I)Z"⟩ : MethodName) prog_14_method_15_code 2 (Option.some Jvm.ClassFile.FieldType.boolean) ∈ wG := wG_of 1818 (by decide +kernel) (by decide +kernel)
theorem dX14_readWay_0 : decode cX14_readWay 0 = .ok (.aload_n 0, 1) := by decide +kernel
theorem dX14_readWay_1 : decode cX14_readWay 1 = .ok (.invokevirtual 198, 3) := by decide +kernel
theorem dX14_readWay_4 : decode cX14_readWay 4 = .ok (.aload_n 0, 1) := by decide +kernel
theorem dX14_readWay_5 : decode cX14_readWay 5 = .ok (.getfield 227, 3) := by decide +kernel
theorem dX14_readWay_8 : decode cX14_readWay 8 = .ok (.getfield 250, 3) := by decide +kernel
theorem dX14_readWay_11 : decode cX14_readWay 11 = .ok (.istore_n 1, 1) := by decide +kernel
theorem dX14_readWay_12 : decode cX14_readWay 12 = .ok (.aload_n 0, 1) := by decide +kernel
theorem dX14_readWay_13 : decode cX14_readWay 13 = .ok (.getfield 227, 3) := by decide +kernel
theorem dX14_readWay_16 : decode cX14_readWay 16 = .ok (.aload_n 0, 1) := by decide +kernel
theorem dX14_readWay_17 : decode cX14_readWay 17 = .ok (.iload_n 1, 1) := by decide +kernel
theorem dX14_readWay_18 : decode cX14_readWay 18 = .ok (.bipush 14, 2) := by decide +kernel
theorem dX14_readWay_20 : decode cX14_readWay 20 = .ok (.if_icmp .ne 7, 3) := by decide +kernel
theorem dX14_readWay_23 : decode cX14_readWay 23 = .ok (.iconst 1, 1) := by decide +kernel
theorem dX14_readWay_24 : decode cX14_readWay 24 = .ok (.goto 4, 3) := by decide +kernel
theorem dX14_readWay_27 : decode cX14_readWay 27 = .ok (.iconst 0, 1) := by decide +kernel
theorem dX14_readWay_28 : decode cX14_readWay 28 = .ok (.invokevirtual 253, 3) := by decide +kernel
theorem dX14_readWay_31 : decode cX14_readWay 31 = .ok (.iconst 0, 1) := by decide +kernel
theorem dX14_readWay_32 : decode cX14_readWay 32 = .ok (.iload_n 1, 1) := by decide +kernel
theorem dX14_readWay_33 : decode cX14_readWay 33 = .ok (.invokevirtual 257, 3) := by decide +kernel
theorem dX14_readWay_36 : decode cX14_readWay 36 = .ok (.aload_n 0, 1) := by decide +kernel
theorem dX14_readWay_37 : decode cX14_readWay 37 = .ok (.getfield 227, 3) := by decide +kernel
theorem dX14_readWay_40 : decode cX14_readWay 40 = .ok (.dup, 1) := by decide +kernel
theorem dX14_readWay_41 : decode cX14_readWay 41 = .ok (.getfield 250, 3) := by decide +kernel
theorem dX14_readWay_44 : decode cX14_readWay 44 = .ok (.iconst 1, 1) := by decide +kernel
theorem dX14_readWay_45 : decode cX14_readWay 45 = .ok (.iadd, 1) := by decide +kernel
theorem dX14_readWay_46 : decode cX14_readWay 46 = .ok (.putfield 250, 3) := by decide +kernel
theorem dX14_readWay_49 : decode cX14_readWay 49 = .ok (.aload_n 0, 1) := by decide +kernel
theorem dX14_readWay_50 : decode cX14_readWay 50 = .ok (.getfield 227, 3) := by decide +kernel
theorem dX14_readWay_53 : decode cX14_readWay 53 = .ok (.getfield 261, 3) := by decide +kernel
theorem dX14_readWay_56 : decode cX14_readWay 56 = .ok (.iload_n 1, 1) := by decide +kernel
theorem dX14_readWay_57 : decode cX14_readWay 57 = .ok (.aload_n 0, 1) := by decide +kernel
theorem dX14_readWay_58 : decode cX14_readWay 58 = .ok (.iconst (-1), 1) := by decide +kernel
theorem dX14_readWay_59 : decode cX14_readWay 59 = .ok (.invokevirtual 264, 3) := by decide +kernel
theorem dX14_readWay_62 : decode cX14_readWay 62 = .ok (.iastore, 1) := by decide +kernel
theorem dX14_readWay_63 : decode cX14_readWay 63 = .ok (.aload_n 0, 1) := by decide +kernel
theorem dX14_readWay_64 : decode cX14_readWay 64 = .ok (.getfield 227, 3) := by decide +kernel
theorem dX14_readWay_67 : decode cX14_readWay 67 = .ok (.getfield 267, 3) := by decide +kernel
theorem dX14_readWay_70 : decode cX14_readWay 70 = .ok (.iload_n 1, 1) := by decide +kernel
theorem dX14_readWay_71 : decode cX14_readWay 71 = .ok (.aload_n 0, 1) := by decide +kernel
theorem dX14_readWay_72 : decode cX14_readWay 72 = .ok (.aload_n 0, 1) := by decide +kernel
theorem dX14_readWay_73 : decode cX14_readWay 73 = .ok (.getfield 227, 3) := by decide +kernel
theorem dX14_readWay_76 : decode cX14_readWay 76 = .ok (.getfield 261, 3) := by decide +kernel
theorem dX14_readWay_79 : decode cX14_readWay 79 = .ok (.iload_n 1, 1) := by decide +kernel
theorem dX14_readWay_80 : decode cX14_readWay 80 = .ok (.iaload, 1) := by decide +kernel
theorem dX14_readWay_81 : decode cX14_readWay 81 = .ok (.invokevirtual 264, 3) := by decide +kernel
theorem dX14_readWay_84 : decode cX14_readWay 84 = .ok (.iastore, 1) := by decide +kernel
theorem dX14_readWay_85 : decode cX14_readWay 85 = .ok (.aload_n 0, 1) := by decide +kernel
theorem dX14_readWay_86 : decode cX14_readWay 86 = .ok (.ldc_w 270, 3) := by decide +kernel
theorem dX14_readWay_89 : decode cX14_readWay 89 = .ok (.invokevirtual 272, 3) := by decide +kernel
theorem dX14_readWay_92 : decode cX14_readWay 92 = .ok (.aload_n 0, 1) := by decide +kernel
theorem dX14_readWay_93 : decode cX14_readWay 93 = .ok (.getfield 227, 3) := by decide +kernel
theorem dX14_readWay_96 : decode cX14_readWay 96 = .ok (.getfield 276, 3) := by decide +kernel
theorem dX14_readWay_99 : decode cX14_readWay 99 = .ok (.iload_n 1, 1) := by decide +kernel
theorem dX14_readWay_100 : decode cX14_readWay 100 = .ok (.aload_n 0, 1) := by decide +kernel
theorem dX14_readWay_101 : decode cX14_readWay 101 = .ok (.iconst 1, 1) := by decide +kernel
theorem dX14_readWay_102 : decode cX14_readWay 102 = .ok (.bipush 99, 2) := by decide +kernel
theorem dX14_readWay_104 : decode cX14_readWay 104 = .ok (.invokevirtual 278, 3) := by decide +kernel
theorem dX14_readWay_107 : decode cX14_readWay 107 = .ok (.iastore, 1) := by decide +kernel
theorem dX14_readWay_108 : decode cX14_readWay 108 = .ok (.aload_n 0, 1) := by decide +kernel
theorem dX14_readWay_109 : decode cX14_readWay 109 = .ok (.ldc_w 282, 3) := by decide +kernel
theorem dX14_readWay_112 : decode cX14_readWay 112 = .ok (.invokevirtual 272, 3) := by decide +kernel
theorem dX14_readWay_115 : decode cX14_readWay 115 = .ok (.aload_n 0, 1) := by decide +kernel
theorem dX14_readWay_116 : decode cX14_readWay 116 = .ok (.getfield 227, 3) := by decide +kernel
theorem dX14_readWay_119 : decode cX14_readWay 119 = .ok (.getfield 283, 3) := by decide +kernel
theorem dX14_readWay_122 : decode cX14_readWay 122 = .ok (.iload_n 1, 1) := by decide +kernel
theorem dX14_readWay_123 : decode cX14_readWay 123 = .ok (.aload_n 0, 1) := by decide +kernel
theorem dX14_readWay_124 : decode cX14_readWay 124 = .ok (.iconst 1, 1) := by decide +kernel
theorem dX14_readWay_125 : decode cX14_readWay 125 = .ok (.sipush 999, 3) := by decide +kernel
theorem dX14_readWay_128 : decode cX14_readWay 128 = .ok (.invokevirtual 278, 3) := by decide +kernel
theorem dX14_readWay_131 : decode cX14_readWay 131 = .ok (.iastore, 1) := by decide +kernel
theorem dX14_readWay_132 : decode cX14_readWay 132 = .ok (.aload_n 0, 1) := by decide +kernel
theorem dX14_readWay_133 : decode cX14_readWay 133 = .ok (.ldc_w 285, 3) := by decide +kernel
theorem dX14_readWay_136 : decode cX14_readWay 136 = .ok (.invokevirtual 272, 3) := by decide +kernel
theorem dX14_readWay_139 : decode cX14_readWay 139 = .ok (.aload_n 0, 1) := by decide +kernel
theorem dX14_readWay_140 : decode cX14_readWay 140 = .ok (.getfield 227, 3) := by decide +kernel
theorem dX14_readWay_143 : decode cX14_readWay 143 = .ok (.getfield 287, 3) := by decide +kernel
theorem dX14_readWay_146 : decode cX14_readWay 146 = .ok (.iload_n 1, 1) := by decide +kernel
theorem dX14_readWay_147 : decode cX14_readWay 147 = .ok (.aload_n 0, 1) := by decide +kernel
theorem dX14_readWay_148 : decode cX14_readWay 148 = .ok (.iconst 1, 1) := by decide +kernel
theorem dX14_readWay_149 : decode cX14_readWay 149 = .ok (.bipush 99, 2) := by decide +kernel
theorem dX14_readWay_151 : decode cX14_readWay 151 = .ok (.invokevirtual 278, 3) := by decide +kernel
theorem dX14_readWay_154 : decode cX14_readWay 154 = .ok (.iastore, 1) := by decide +kernel
theorem dX14_readWay_155 : decode cX14_readWay 155 = .ok (.aload_n 0, 1) := by decide +kernel
theorem dX14_readWay_156 : decode cX14_readWay 156 = .ok (.getfield 227, 3) := by decide +kernel
theorem dX14_readWay_159 : decode cX14_readWay 159 = .ok (.getfield 289, 3) := by decide +kernel
theorem dX14_readWay_162 : decode cX14_readWay 162 = .ok (.iload_n 1, 1) := by decide +kernel
theorem dX14_readWay_163 : decode cX14_readWay 163 = .ok (.bipush (-2), 2) := by decide +kernel
theorem dX14_readWay_165 : decode cX14_readWay 165 = .ok (.iastore, 1) := by decide +kernel
theorem dX14_readWay_166 : decode cX14_readWay 166 = .ok (.aload_n 0, 1) := by decide +kernel
theorem dX14_readWay_167 : decode cX14_readWay 167 = .ok (.getfield 227, 3) := by decide +kernel
theorem dX14_readWay_170 : decode cX14_readWay 170 = .ok (.getfield 292, 3) := by decide +kernel
theorem dX14_readWay_173 : decode cX14_readWay 173 = .ok (.iload_n 1, 1) := by decide +kernel
theorem dX14_readWay_174 : decode cX14_readWay 174 = .ok (.bipush (-2), 2) := by decide +kernel
theorem dX14_readWay_176 : decode cX14_readWay 176 = .ok (.iastore, 1) := by decide +kernel
theorem dX14_readWay_177 : decode cX14_readWay 177 = .ok (.aload_n 0, 1) := by decide +kernel
theorem dX14_readWay_178 : decode cX14_readWay 178 = .ok (.getfield 227, 3) := by decide +kernel
theorem dX14_readWay_181 : decode cX14_readWay 181 = .ok (.getfield 295, 3) := by decide +kernel
theorem dX14_readWay_184 : decode cX14_readWay 184 = .ok (.iload_n 1, 1) := by decide +kernel
theorem dX14_readWay_185 : decode cX14_readWay 185 = .ok (.bipush (-2), 2) := by decide +kernel
theorem dX14_readWay_187 : decode cX14_readWay 187 = .ok (.iastore, 1) := by decide +kernel
theorem dX14_readWay_188 : decode cX14_readWay 188 = .ok (.aload_n 0, 1) := by decide +kernel
theorem dX14_readWay_189 : decode cX14_readWay 189 = .ok (.ldc_w 298, 3) := by decide +kernel
theorem dX14_readWay_192 : decode cX14_readWay 192 = .ok (.invokevirtual 183, 3) := by decide +kernel
theorem dX14_readWay_195 : decode cX14_readWay 195 = .ok (.ifCond .ne 4, 3) := by decide +kernel
theorem dX14_readWay_198 : decode cX14_readWay 198 = .ok (.return_, 1) := by decide +kernel
theorem dX14_readWay_199 : decode cX14_readWay 199 = .ok (.aload_n 0, 1) := by decide +kernel
theorem dX14_readWay_200 : decode cX14_readWay 200 = .ok (.invokevirtual 198, 3) := by decide +kernel
theorem dX14_readWay_203 : decode cX14_readWay 203 = .ok (.aload_n 0, 1) := by decide +kernel
theorem dX14_readWay_204 : decode cX14_readWay 204 = .ok (.bipush 45, 2) := by decide +kernel
theorem dX14_readWay_206 : decode cX14_readWay 206 = .ok (.invokevirtual 220, 3) := by decide +kernel
theorem dX14_readWay_209 : decode cX14_readWay 209 = .ok (.istore_n 2, 1) := by decide +kernel
theorem dX14_readWay_210 : decode cX14_readWay 210 = .ok (.iload_n 2, 1) := by decide +kernel
theorem dX14_readWay_211 : decode cX14_readWay 211 = .ok (.ifCond .eq 7, 3) := by decide +kernel
theorem dX14_readWay_214 : decode cX14_readWay 214 = .ok (.aload_n 0, 1) := by decide +kernel
theorem dX14_readWay_215 : decode cX14_readWay 215 = .ok (.invokevirtual 198, 3) := by decide +kernel
theorem dX14_readWay_218 : decode cX14_readWay 218 = .ok (.aload_n 0, 1) := by decide +kernel
theorem dX14_readWay_219 : decode cX14_readWay 219 = .ok (.iconst 0, 1) := by decide +kernel
theorem dX14_readWay_220 : decode cX14_readWay 220 = .ok (.sipush 5000, 3) := by decide +kernel
theorem dX14_readWay_223 : decode cX14_readWay 223 = .ok (.invokevirtual 278, 3) := by decide +kernel
theorem dX14_readWay_226 : decode cX14_readWay 226 = .ok (.istore_n 3, 1) := by decide +kernel
theorem dX14_readWay_227 : decode cX14_readWay 227 = .ok (.aload_n 0, 1) := by decide +kernel
theorem dX14_readWay_228 : decode cX14_readWay 228 = .ok (.getfield 227, 3) := by decide +kernel
theorem dX14_readWay_231 : decode cX14_readWay 231 = .ok (.getfield 300, 3) := by decide +kernel
theorem dX14_readWay_234 : decode cX14_readWay 234 = .ok (.iload_n 1, 1) := by decide +kernel
theorem dX14_readWay_235 : decode cX14_readWay 235 = .ok (.iload_n 2, 1) := by decide +kernel
theorem dX14_readWay_236 : decode cX14_readWay 236 = .ok (.ifCond .eq 8, 3) := by decide +kernel
theorem dX14_readWay_239 : decode cX14_readWay 239 = .ok (.iload_n 3, 1) := by decide +kernel
theorem dX14_readWay_240 : decode cX14_readWay 240 = .ok (.ineg, 1) := by decide +kernel
theorem dX14_readWay_241 : decode cX14_readWay 241 = .ok (.goto 4, 3) := by decide +kernel
theorem dX14_readWay_244 : decode cX14_readWay 244 = .ok (.iload_n 3, 1) := by decide +kernel
theorem dX14_readWay_245 : decode cX14_readWay 245 = .ok (.iastore, 1) := by decide +kernel
theorem dX14_readWay_246 : decode cX14_readWay 246 = .ok (.return_, 1) := by decide +kernel
