theorem wd_63 : Cond.selects "MineAirModel" (⟨"MineAirModel", "readBook", "()V"⟩ : MethodName) (⟨"MineAirModel", "readBook", "()V"⟩ : MethodName) ∈ wG := wG_of 63 (by decide +kernel) (by decide +kernel)
theorem wd_1423 : Cond.classLink "MineAirModel" 17 "MineAirModel$Stop" ∈ wG := wG_of 1423 (by decide +kernel) (by decide +kernel)
theorem wd_1425 : Cond.castable "MineAirModel$Stop" "MineAirModel$Stop" ∈ wN := wN_of 1425 (by decide +kernel) rfl
theorem wd_1623 : Cond.classLink "MineAirModel" 232 "MineAirModel$Book" ∈ wG := wG_of 1623 (by decide +kernel) (by decide +kernel)
theorem wd_1624 : Cond.instantiable "MineAirModel$Book" 28 ∈ wG := wG_of 1624 (by decide +kernel) (by decide +kernel)
theorem wd_1625 : Cond.methodLinkNest "MineAirModel" 359 (⟨"MineAirModel$Book", "<init>", "()V"⟩ : MethodName) "MineAirModel" ∈ wN := wN_of 1625 (by decide +kernel) rfl
theorem wd_1626 : Cond.instanceMethod (⟨"MineAirModel$Book", "<init>", "()V"⟩ : MethodName) ∈ wG := wG_of 1626 (by decide +kernel) (by decide +kernel)
theorem wd_1627 : Cond.code (⟨"MineAirModel$Book", "<init>", "()V"⟩ : MethodName) prog_15_method_1_code 1 (Option.none : Option Jvm.ClassFile.FieldType) ∈ wG := wG_of 1627 (by decide +kernel) (by decide +kernel)
theorem wd_1750 : Cond.methodLink "MineAirModel" 360 (⟨"MineAirModel", "readBook", "()V"⟩ : MethodName) ∈ wG := wG_of 1750 (by decide +kernel) (by decide +kernel)
theorem wd_1752 : Cond.instanceMethod (⟨"MineAirModel", "readBook", "()V"⟩ : MethodName) ∈ wG := wG_of 1752 (by decide +kernel) (by decide +kernel)
theorem wd_1753 : Cond.code (⟨"MineAirModel", "readBook", "()V"⟩ : MethodName) prog_14_method_19_code 2 (Option.none : Option Jvm.ClassFile.FieldType) ∈ wG := wG_of 1753 (by decide +kernel) (by decide +kernel)
theorem dX14_book_23 : decode cX14_book 23 = .ok (.aload_n 0, 1) := by decide +kernel
theorem dX14_book_24 : decode cX14_book 24 = .ok (.iload_n 1, 1) := by decide +kernel
theorem dX14_book_25 : decode cX14_book 25 = .ok (.putfield 135, 3) := by decide +kernel
theorem dX14_book_28 : decode cX14_book 28 = .ok (.aload_n 0, 1) := by decide +kernel
theorem dX14_book_29 : decode cX14_book 29 = .ok (.iconst 0, 1) := by decide +kernel
theorem dX14_book_30 : decode cX14_book 30 = .ok (.putfield 350, 3) := by decide +kernel
theorem dX14_book_33 : decode cX14_book 33 = .ok (.aload_n 0, 1) := by decide +kernel
theorem dX14_book_34 : decode cX14_book 34 = .ok (.iconst 0, 1) := by decide +kernel
theorem dX14_book_35 : decode cX14_book 35 = .ok (.putfield 150, 3) := by decide +kernel
theorem dX14_book_38 : decode cX14_book 38 = .ok (.aload_n 0, 1) := by decide +kernel
theorem dX14_book_39 : decode cX14_book 39 = .ok (.iconst 0, 1) := by decide +kernel
theorem dX14_book_40 : decode cX14_book 40 = .ok (.putfield 356, 3) := by decide +kernel
theorem dX14_book_43 : decode cX14_book 43 = .ok (.aload_n 0, 1) := by decide +kernel
theorem dX14_book_44 : decode cX14_book 44 = .ok (.new 232, 3) := by decide +kernel
theorem dX14_book_47 : decode cX14_book 47 = .ok (.dup, 1) := by decide +kernel
theorem dX14_book_48 : decode cX14_book 48 = .ok (.invokespecial 359, 3) := by decide +kernel
theorem dX14_book_51 : decode cX14_book 51 = .ok (.putfield 227, 3) := by decide +kernel
theorem dX14_book_54 : decode cX14_book 54 = .ok (.aload_n 0, 1) := by decide +kernel
theorem dX14_book_55 : decode cX14_book 55 = .ok (.invokevirtual 198, 3) := by decide +kernel
theorem dX14_book_58 : decode cX14_book 58 = .ok (.aload_n 0, 1) := by decide +kernel
theorem dX14_book_59 : decode cX14_book 59 = .ok (.invokevirtual 360, 3) := by decide +kernel
theorem dX14_book_62 : decode cX14_book 62 = .ok (.goto 27, 3) := by decide +kernel
theorem dX14_book_65 : decode cX14_book 65 = .ok (.astore_n 2, 1) := by decide +kernel
theorem dX14_book_66 : decode cX14_book 66 = .ok (.aload_n 0, 1) := by decide +kernel
theorem dX14_book_67 : decode cX14_book 67 = .ok (.aload_n 2, 1) := by decide +kernel
theorem dX14_book_68 : decode cX14_book 68 = .ok (.getfield 128, 3) := by decide +kernel
theorem dX14_book_71 : decode cX14_book 71 = .ok (.putfield 356, 3) := by decide +kernel
theorem dX14_book_74 : decode cX14_book 74 = .ok (.aload_n 0, 1) := by decide +kernel
theorem dX14_book_75 : decode cX14_book 75 = .ok (.iconst 4, 1) := by decide +kernel
theorem dX14_book_76 : decode cX14_book 76 = .ok (.putfield 125, 3) := by decide +kernel
theorem dX14_book_79 : decode cX14_book 79 = .ok (.aload_n 0, 1) := by decide +kernel
theorem dX14_book_80 : decode cX14_book 80 = .ok (.aload_n 2, 1) := by decide +kernel
theorem dX14_book_81 : decode cX14_book 81 = .ok (.getfield 134, 3) := by decide +kernel
theorem dX14_book_84 : decode cX14_book 84 = .ok (.putfield 13, 3) := by decide +kernel
theorem dX14_book_87 : decode cX14_book 87 = .ok (.iconst (-1), 1) := by decide +kernel
theorem dX14_book_88 : decode cX14_book 88 = .ok (.ireturn, 1) := by decide +kernel
theorem dX14_book_89 : decode cX14_book 89 = .ok (.aload_n 0, 1) := by decide +kernel
theorem dX14_book_90 : decode cX14_book 90 = .ok (.aload_n 0, 1) := by decide +kernel
theorem dX14_book_91 : decode cX14_book 91 = .ok (.getfield 227, 3) := by decide +kernel
theorem dX14_book_94 : decode cX14_book 94 = .ok (.putfield 363, 3) := by decide +kernel
theorem dX14_book_97 : decode cX14_book 97 = .ok (.iconst 0, 1) := by decide +kernel
theorem dX14_book_98 : decode cX14_book 98 = .ok (.istore_n 2, 1) := by decide +kernel
theorem dX14_book_99 : decode cX14_book 99 = .ok (.iload_n 2, 1) := by decide +kernel
theorem dX14_book_100 : decode cX14_book 100 = .ok (.bipush 6, 2) := by decide +kernel
theorem dX14_book_102 : decode cX14_book 102 = .ok (.if_icmp .ge 16, 3) := by decide +kernel
theorem dX14_book_105 : decode cX14_book 105 = .ok (.aload_n 0, 1) := by decide +kernel
theorem dX14_book_106 : decode cX14_book 106 = .ok (.getfield 28, 3) := by decide +kernel
theorem dX14_book_109 : decode cX14_book 109 = .ok (.iload_n 2, 1) := by decide +kernel
theorem dX14_book_110 : decode cX14_book 110 = .ok (.iconst 0, 1) := by decide +kernel
theorem dX14_book_111 : decode cX14_book 111 = .ok (.bastore, 1) := by decide +kernel
theorem dX14_book_112 : decode cX14_book 112 = .ok (.iinc 2 1, 3) := by decide +kernel
theorem dX14_book_115 : decode cX14_book 115 = .ok (.goto (-16), 3) := by decide +kernel
theorem dX14_book_118 : decode cX14_book 118 = .ok (.iconst 0, 1) := by decide +kernel
theorem dX14_book_119 : decode cX14_book 119 = .ok (.istore_n 2, 1) := by decide +kernel
theorem dX14_book_120 : decode cX14_book 120 = .ok (.iload_n 2, 1) := by decide +kernel
theorem dX14_book_121 : decode cX14_book 121 = .ok (.iconst 4, 1) := by decide +kernel
theorem dX14_book_122 : decode cX14_book 122 = .ok (.if_icmp .ge 16, 3) := by decide +kernel
theorem dX14_book_125 : decode cX14_book 125 = .ok (.aload_n 0, 1) := by decide +kernel
theorem dX14_book_126 : decode cX14_book 126 = .ok (.getfield 35, 3) := by decide +kernel
theorem dX14_book_129 : decode cX14_book 129 = .ok (.iload_n 2, 1) := by decide +kernel
theorem dX14_book_130 : decode cX14_book 130 = .ok (.iconst 1, 1) := by decide +kernel
theorem dX14_book_131 : decode cX14_book 131 = .ok (.iastore, 1) := by decide +kernel
theorem dX14_book_132 : decode cX14_book 132 = .ok (.iinc 2 1, 3) := by decide +kernel
theorem dX14_book_135 : decode cX14_book 135 = .ok (.goto (-15), 3) := by decide +kernel
theorem dX14_book_138 : decode cX14_book 138 = .ok (.iconst 0, 1) := by decide +kernel
theorem dX14_book_139 : decode cX14_book 139 = .ok (.istore_n 2, 1) := by decide +kernel
theorem dX14_book_140 : decode cX14_book 140 = .ok (.iload_n 2, 1) := by decide +kernel
theorem dX14_book_141 : decode cX14_book 141 = .ok (.bipush 14, 2) := by decide +kernel
theorem dX14_book_143 : decode cX14_book 143 = .ok (.if_icmp .ge 30, 3) := by decide +kernel
theorem dX14_book_146 : decode cX14_book 146 = .ok (.aload_n 0, 1) := by decide +kernel
theorem dX14_book_147 : decode cX14_book 147 = .ok (.getfield 32, 3) := by decide +kernel
theorem dX14_book_150 : decode cX14_book 150 = .ok (.iload_n 2, 1) := by decide +kernel
theorem dX14_book_151 : decode cX14_book 151 = .ok (.iconst 0, 1) := by decide +kernel
theorem dX14_book_152 : decode cX14_book 152 = .ok (.bastore, 1) := by decide +kernel
theorem dX14_book_153 : decode cX14_book 153 = .ok (.aload_n 0, 1) := by decide +kernel
theorem dX14_book_154 : decode cX14_book 154 = .ok (.getfield 39, 3) := by decide +kernel
theorem dX14_book_157 : decode cX14_book 157 = .ok (.iload_n 2, 1) := by decide +kernel
theorem dX14_book_158 : decode cX14_book 158 = .ok (.iconst 0, 1) := by decide +kernel
theorem dX14_book_159 : decode cX14_book 159 = .ok (.iastore, 1) := by decide +kernel
theorem dX14_book_160 : decode cX14_book 160 = .ok (.aload_n 0, 1) := by decide +kernel
theorem dX14_book_161 : decode cX14_book 161 = .ok (.getfield 48, 3) := by decide +kernel
theorem dX14_book_164 : decode cX14_book 164 = .ok (.iload_n 2, 1) := by decide +kernel
theorem dX14_book_165 : decode cX14_book 165 = .ok (.iconst 0, 1) := by decide +kernel
theorem dX14_book_166 : decode cX14_book 166 = .ok (.iastore, 1) := by decide +kernel
theorem dX14_book_167 : decode cX14_book 167 = .ok (.iinc 2 1, 3) := by decide +kernel
theorem dX14_book_170 : decode cX14_book 170 = .ok (.goto (-30), 3) := by decide +kernel
theorem dX14_book_173 : decode cX14_book 173 = .ok (.aload_n 0, 1) := by decide +kernel
theorem dX14_book_174 : decode cX14_book 174 = .ok (.iconst 0, 1) := by decide +kernel
theorem dX14_book_175 : decode cX14_book 175 = .ok (.putfield 366, 3) := by decide +kernel
theorem dX14_book_178 : decode cX14_book 178 = .ok (.aload_n 0, 1) := by decide +kernel
theorem dX14_book_179 : decode cX14_book 179 = .ok (.iconst 0, 1) := by decide +kernel
theorem dX14_book_180 : decode cX14_book 180 = .ok (.putfield 369, 3) := by decide +kernel
theorem dX14_book_183 : decode cX14_book 183 = .ok (.aload_n 0, 1) := by decide +kernel
theorem dX14_book_184 : decode cX14_book 184 = .ok (.iconst 0, 1) := by decide +kernel
theorem dX14_book_185 : decode cX14_book 185 = .ok (.putfield 372, 3) := by decide +kernel
theorem dX14_book_188 : decode cX14_book 188 = .ok (.aload_n 0, 1) := by decide +kernel
theorem dX14_book_189 : decode cX14_book 189 = .ok (.bipush 10, 2) := by decide +kernel
theorem dX14_book_191 : decode cX14_book 191 = .ok (.putfield 42, 3) := by decide +kernel
theorem dX14_book_194 : decode cX14_book 194 = .ok (.aload_n 0, 1) := by decide +kernel
theorem dX14_book_195 : decode cX14_book 195 = .ok (.aload_n 0, 1) := by decide +kernel
theorem dX14_book_196 : decode cX14_book 196 = .ok (.getfield 363, 3) := by decide +kernel
theorem dX14_book_199 : decode cX14_book 199 = .ok (.getfield 250, 3) := by decide +kernel
theorem dX14_book_202 : decode cX14_book 202 = .ok (.invokevirtual 375, 3) := by decide +kernel
theorem dX14_book_205 : decode cX14_book 205 = .ok (.ireturn, 1) := by decide +kernel
