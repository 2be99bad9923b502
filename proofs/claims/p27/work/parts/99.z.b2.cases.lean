theorem wd_113 : Cond.initialized "MineAirLaw" ∈ wG := wG_of 113 (by decide +kernel) (by decide +kernel)
theorem wd_1234 : Cond.methodLink "MineAirLaw" 107 (⟨"MineAir", "man", "(I)I"⟩ : MethodName) ∈ wG := wG_of 1234 (by decide +kernel) (by decide +kernel)
theorem wd_1235 : Cond.instanceMethod (⟨"MineAir", "man", "(I)I"⟩ : MethodName) ∈ wG := wG_of 1235 (by decide +kernel) (by decide +kernel)
theorem wd_1236 : Cond.selects "MineAir" (⟨"MineAir", "man", "(I)I"⟩ : MethodName) (⟨"MineAir", "man", "(I)I"⟩ : MethodName) ∈ wG := wG_of 1236 (by decide +kernel) (by decide +kernel)
theorem wd_1237 : Cond.code (⟨"MineAir", "man", "(I)I"⟩ : MethodName) prog_1_method_22_code 2 (Option.some Jvm.ClassFile.FieldType.int) ∈ wG := wG_of 1237 (by decide +kernel) (by decide +kernel)
theorem wd_1238 : Cond.methodLink "MineAirLaw" 111 (⟨"MineAir", "out", "(I)I"⟩ : MethodName) ∈ wG := wG_of 1238 (by decide +kernel) (by decide +kernel)
theorem wd_1239 : Cond.instanceMethod (⟨"MineAir", "out", "(I)I"⟩ : MethodName) ∈ wG := wG_of 1239 (by decide +kernel) (by decide +kernel)
theorem wd_1240 : Cond.selects "MineAir" (⟨"MineAir", "out", "(I)I"⟩ : MethodName) (⟨"MineAir", "out", "(I)I"⟩ : MethodName) ∈ wG := wG_of 1240 (by decide +kernel) (by decide +kernel)
theorem wd_1241 : Cond.code (⟨"MineAir", "out", "(I)I"⟩ : MethodName) prog_1_method_23_code 2 (Option.some Jvm.ClassFile.FieldType.int) ∈ wG := wG_of 1241 (by decide +kernel) (by decide +kernel)
theorem wd_1258 : Cond.methodLink "MineAirLaw" 115 (⟨"MineAir", "change", "(III)I"⟩ : MethodName) ∈ wG := wG_of 1258 (by decide +kernel) (by decide +kernel)
theorem wd_1259 : Cond.instanceMethod (⟨"MineAir", "change", "(III)I"⟩ : MethodName) ∈ wG := wG_of 1259 (by decide +kernel) (by decide +kernel)
theorem wd_1260 : Cond.selects "MineAir" (⟨"MineAir", "change", "(III)I"⟩ : MethodName) (⟨"MineAir", "change", "(III)I"⟩ : MethodName) ∈ wG := wG_of 1260 (by decide +kernel) (by decide +kernel)
theorem wd_1261 : Cond.code (⟨"MineAir", "change", "(III)I"⟩ : MethodName) prog_1_method_24_code 4 (Option.some Jvm.ClassFile.FieldType.int) ∈ wG := wG_of 1261 (by decide +kernel) (by decide +kernel)
theorem wd_1271 : Cond.methodLink "MineAirLaw" 120 (⟨"MineAir", "order", "(I)I"⟩ : MethodName) ∈ wG := wG_of 1271 (by decide +kernel) (by decide +kernel)
theorem wd_1272 : Cond.instanceMethod (⟨"MineAir", "order", "(I)I"⟩ : MethodName) ∈ wG := wG_of 1272 (by decide +kernel) (by decide +kernel)
theorem wd_1273 : Cond.selects "MineAir" (⟨"MineAir", "order", "(I)I"⟩ : MethodName) (⟨"MineAir", "order", "(I)I"⟩ : MethodName) ∈ wG := wG_of 1273 (by decide +kernel) (by decide +kernel)
theorem wd_1274 : Cond.code (⟨"MineAir", "order", "(I)I"⟩ : MethodName) prog_1_method_25_code 2 (Option.some Jvm.ClassFile.FieldType.int) ∈ wG := wG_of 1274 (by decide +kernel) (by decide +kernel)
theorem wd_1298 : Cond.methodLink "MineAirLaw" 124 (⟨"MineAir", "make", "()I"⟩ : MethodName) ∈ wG := wG_of 1298 (by decide +kernel) (by decide +kernel)
theorem wd_1299 : Cond.instanceMethod (⟨"MineAir", "make", "()I"⟩ : MethodName) ∈ wG := wG_of 1299 (by decide +kernel) (by decide +kernel)
theorem wd_1300 : Cond.selects "MineAir" (⟨"MineAir", "make", "()I"⟩ : MethodName) (⟨"MineAir", "make", "()I"⟩ : MethodName) ∈ wG := wG_of 1300 (by decide +kernel) (by decide +kernel)
theorem wd_1301 : Cond.code (⟨"MineAir", "make", "()I"⟩ : MethodName) prog_1_method_26_code 2 (Option.some Jvm.ClassFile.FieldType.int) ∈ wG := wG_of 1301 (by decide +kernel) (by decide +kernel)
theorem wd_1306 : Cond.methodLink "MineAirLaw" 128 (⟨"MineAir", "reading", "(III)I"⟩ : MethodName) ∈ wG := wG_of 1306 (by decide +kernel) (by decide +kernel)
theorem wd_1307 : Cond.instanceMethod (⟨"MineAir", "reading", "(III)I"⟩ : MethodName) ∈ wG := wG_of 1307 (by decide +kernel) (by decide +kernel)
theorem wd_1308 : Cond.selects "MineAir" (⟨"MineAir", "reading", "(III)I"⟩ : MethodName) (⟨"MineAir", "reading", "(III)I"⟩ : MethodName) ∈ wG := wG_of 1308 (by decide +kernel) (by decide +kernel)
theorem wd_1309 : Cond.code (⟨"MineAir", "reading", "(III)I"⟩ : MethodName) prog_1_method_27_code 4 (Option.some Jvm.ClassFile.FieldType.int) ∈ wG := wG_of 1309 (by decide +kernel) (by decide +kernel)
theorem wd_1314 : Cond.methodLink "MineAirLaw" 132 (⟨"MineAir", "fits", "(I)I"⟩ : MethodName) ∈ wG := wG_of 1314 (by decide +kernel) (by decide +kernel)
theorem wd_1315 : Cond.instanceMethod (⟨"MineAir", "fits", "(I)I"⟩ : MethodName) ∈ wG := wG_of 1315 (by decide +kernel) (by decide +kernel)
theorem wd_1316 : Cond.selects "MineAir" (⟨"MineAir", "fits", "(I)I"⟩ : MethodName) (⟨"MineAir", "fits", "(I)I"⟩ : MethodName) ∈ wG := wG_of 1316 (by decide +kernel) (by decide +kernel)
theorem wd_1317 : Cond.code (⟨"MineAir", "fits", "(I)I"⟩ : MethodName) prog_1_method_28_code 2 (Option.some Jvm.ClassFile.FieldType.int) ∈ wG := wG_of 1317 (by decide +kernel) (by decide +kernel)
theorem wd_1326 : Cond.methodLink "MineAirLaw" 142 (⟨"MineAir", "count", "(I)I"⟩ : MethodName) ∈ wG := wG_of 1326 (by decide +kernel) (by decide +kernel)
theorem wd_1327 : Cond.instanceMethod (⟨"MineAir", "count", "(I)I"⟩ : MethodName) ∈ wG := wG_of 1327 (by decide +kernel) (by decide +kernel)
theorem wd_1328 : Cond.selects "MineAir" (⟨"MineAir", "count", "(I)I"⟩ : MethodName) (⟨"MineAir", "count", "(I)I"⟩ : MethodName) ∈ wG := wG_of 1328 (by decide +kernel) (by decide +kernel)
theorem wd_1329 : Cond.code (⟨"MineAir", "count", "(I)I"⟩ : MethodName) prog_1_method_30_code 2 (Option.some Jvm.ClassFile.FieldType.int) ∈ wG := wG_of 1329 (by decide +kernel) (by decide +kernel)
theorem wd_1330 : Cond.methodLink "MineAirLaw" 146 (⟨"MineAir", "trouble", "()I"⟩ : MethodName) ∈ wG := wG_of 1330 (by decide +kernel) (by decide +kernel)
theorem wd_1331 : Cond.instanceMethod (⟨"MineAir", "trouble", "()I"⟩ : MethodName) ∈ wG := wG_of 1331 (by decide +kernel) (by decide +kernel)
theorem wd_1332 : Cond.selects "MineAir" (⟨"MineAir", "trouble", "()I"⟩ : MethodName) (⟨"MineAir", "trouble", "()I"⟩ : MethodName) ∈ wG := wG_of 1332 (by decide +kernel) (by decide +kernel)
theorem wd_1333 : Cond.code (⟨"MineAir", "trouble", "()I"⟩ : MethodName) prog_1_method_31_code 1 (Option.some Jvm.ClassFile.FieldType.int) ∈ wG := wG_of 1333 (by decide +kernel) (by decide +kernel)
theorem wd_1334 : Cond.methodLink "MineAirLaw" 136 (⟨"MineAirLaw", "led", "(LMineAir;II[J)I"⟩ : MethodName) ∈ wG := wG_of 1334 (by decide +kernel) (by decide +kernel)
theorem wd_1335 : Cond.static (⟨"MineAirLaw", "led", "(LMineAir;II[J)I"⟩ : MethodName) ∈ wG := wG_of 1335 (by decide +kernel) (by decide +kernel)
theorem wd_1336 : Cond.codeWith ({ cls := "MineAirLaw", name := "led", desc := "(LMineAir;II[J)I" } : Jvm.MethodName) method_3_code (5 : Nat) (Option.some Jvm.ClassFile.FieldType.int) [((0 : Nat), (10 : Nat), (13 : Nat), (13 : Nat))] ∈ wG := wG_of 1336 (by decide +kernel) (by decide +kernel)
theorem wd_2031 : Cond.methodLink "MineAirLaw" 110 (⟨"MineAirModel", "man", "(I)I"⟩ : MethodName) ∈ wG := wG_of 2031 (by decide +kernel) (by decide +kernel)
theorem wd_2032 : Cond.instanceMethod (⟨"MineAirModel", "man", "(I)I"⟩ : MethodName) ∈ wG := wG_of 2032 (by decide +kernel) (by decide +kernel)
theorem wd_2033 : Cond.selects "MineAirModel" (⟨"MineAirModel", "man", "(I)I"⟩ : MethodName) (⟨"MineAirModel", "man", "(I)I"⟩ : MethodName) ∈ wG := wG_of 2033 (by decide +kernel) (by decide +kernel)
theorem wd_2034 : Cond.code (⟨"MineAirModel", "man", "(I)I"⟩ : MethodName) prog_14_method_73_code 2 (Option.some Jvm.ClassFile.FieldType.int) ∈ wG := wG_of 2034 (by decide +kernel) (by decide +kernel)
theorem wd_2035 : Cond.methodLink "MineAirLaw" 114 (⟨"MineAirModel", "out", "(I)I"⟩ : MethodName) ∈ wG := wG_of 2035 (by decide +kernel) (by decide +kernel)
theorem wd_2036 : Cond.instanceMethod (⟨"MineAirModel", "out", "(I)I"⟩ : MethodName) ∈ wG := wG_of 2036 (by decide +kernel) (by decide +kernel)
theorem wd_2037 : Cond.selects "MineAirModel" (⟨"MineAirModel", "out", "(I)I"⟩ : MethodName) (⟨"MineAirModel", "out", "(I)I"⟩ : MethodName) ∈ wG := wG_of 2037 (by decide +kernel) (by decide +kernel)
theorem wd_2038 : Cond.code (⟨"MineAirModel", "out", "(I)I"⟩ : MethodName) prog_14_method_76_code 3 (Option.some Jvm.ClassFile.FieldType.int) ∈ wG := wG_of 2038 (by decide +kernel) (by decide +kernel)
theorem wd_2047 : Cond.methodLink "MineAirLaw" 119 (⟨"MineAirModel", "change", "(III)I"⟩ : MethodName) ∈ wG := wG_of 2047 (by decide +kernel) (by decide +kernel)
theorem wd_2048 : Cond.instanceMethod (⟨"MineAirModel", "change", "(III)I"⟩ : MethodName) ∈ wG := wG_of 2048 (by decide +kernel) (by decide +kernel)
theorem wd_2049 : Cond.selects "MineAirModel" (⟨"MineAirModel", "change", "(III)I"⟩ : MethodName) (⟨"MineAirModel", "change", "(III)I"⟩ : MethodName) ∈ wG := wG_of 2049 (by decide +kernel) (by decide +kernel)
theorem wd_2050 : Cond.code (⟨"MineAirModel", "change", "(III)I"⟩ : MethodName) prog_14_method_77_code 5 (Option.some Jvm.ClassFile.FieldType.int) ∈ wG := wG_of 2050 (by decide +kernel) (by decide +kernel)
theorem wd_2051 : Cond.methodLink "MineAirLaw" 123 (⟨"MineAirModel", "order", "(I)I"⟩ : MethodName) ∈ wG := wG_of 2051 (by decide +kernel) (by decide +kernel)
theorem wd_2052 : Cond.instanceMethod (⟨"MineAirModel", "order", "(I)I"⟩ : MethodName) ∈ wG := wG_of 2052 (by decide +kernel) (by decide +kernel)
theorem wd_2053 : Cond.selects "MineAirModel" (⟨"MineAirModel", "order", "(I)I"⟩ : MethodName) (⟨"MineAirModel", "order", "(I)I"⟩ : MethodName) ∈ wG := wG_of 2053 (by decide +kernel) (by decide +kernel)
theorem wd_2054 : Cond.code (⟨"MineAirModel", "order", "(I)I"⟩ : MethodName) prog_14_method_83_code 2 (Option.some Jvm.ClassFile.FieldType.int) ∈ wG := wG_of 2054 (by decide +kernel) (by decide +kernel)
theorem wd_2078 : Cond.methodLink "MineAirLaw" 127 (⟨"MineAirModel", "make", "()I"⟩ : MethodName) ∈ wG := wG_of 2078 (by decide +kernel) (by decide +kernel)
theorem wd_2079 : Cond.instanceMethod (⟨"MineAirModel", "make", "()I"⟩ : MethodName) ∈ wG := wG_of 2079 (by decide +kernel) (by decide +kernel)
theorem wd_2080 : Cond.selects "MineAirModel" (⟨"MineAirModel", "make", "()I"⟩ : MethodName) (⟨"MineAirModel", "make", "()I"⟩ : MethodName) ∈ wG := wG_of 2080 (by decide +kernel) (by decide +kernel)
theorem wd_2081 : Cond.code (⟨"MineAirModel", "make", "()I"⟩ : MethodName) prog_14_method_84_code 3 (Option.some Jvm.ClassFile.FieldType.int) ∈ wG := wG_of 2081 (by decide +kernel) (by decide +kernel)
theorem wd_2082 : Cond.methodLink "MineAirLaw" 131 (⟨"MineAirModel", "reading", "(III)I"⟩ : MethodName) ∈ wG := wG_of 2082 (by decide +kernel) (by decide +kernel)
theorem wd_2083 : Cond.instanceMethod (⟨"MineAirModel", "reading", "(III)I"⟩ : MethodName) ∈ wG := wG_of 2083 (by decide +kernel) (by decide +kernel)
theorem wd_2084 : Cond.selects "MineAirModel" (⟨"MineAirModel", "reading", "(III)I"⟩ : MethodName) (⟨"MineAirModel", "reading", "(III)I"⟩ : MethodName) ∈ wG := wG_of 2084 (by decide +kernel) (by decide +kernel)
theorem wd_2085 : Cond.code (⟨"MineAirModel", "reading", "(III)I"⟩ : MethodName) prog_14_method_85_code 4 (Option.some Jvm.ClassFile.FieldType.int) ∈ wG := wG_of 2085 (by decide +kernel) (by decide +kernel)
theorem wd_2086 : Cond.methodLink "MineAirLaw" 135 (⟨"MineAirModel", "fits", "(I)I"⟩ : MethodName) ∈ wG := wG_of 2086 (by decide +kernel) (by decide +kernel)
theorem wd_2087 : Cond.instanceMethod (⟨"MineAirModel", "fits", "(I)I"⟩ : MethodName) ∈ wG := wG_of 2087 (by decide +kernel) (by decide +kernel)
theorem wd_2088 : Cond.selects "MineAirModel" (⟨"MineAirModel", "fits", "(I)I"⟩ : MethodName) (⟨"MineAirModel", "fits", "(I)I"⟩ : MethodName) ∈ wG := wG_of 2088 (by decide +kernel) (by decide +kernel)
theorem wd_2089 : Cond.code (⟨"MineAirModel", "fits", "(I)I"⟩ : MethodName) prog_14_method_86_code 6 (Option.some Jvm.ClassFile.FieldType.int) ∈ wG := wG_of 2089 (by decide +kernel) (by decide +kernel)
theorem wd_2090 : Cond.methodLink "MineAirLaw" 141 (⟨"MineAirModel", "led", "(II)I"⟩ : MethodName) ∈ wG := wG_of 2090 (by decide +kernel) (by decide +kernel)
theorem wd_2091 : Cond.instanceMethod (⟨"MineAirModel", "led", "(II)I"⟩ : MethodName) ∈ wG := wG_of 2091 (by decide +kernel) (by decide +kernel)
theorem wd_2092 : Cond.selects "MineAirModel" (⟨"MineAirModel", "led", "(II)I"⟩ : MethodName) (⟨"MineAirModel", "led", "(II)I"⟩ : MethodName) ∈ wG := wG_of 2092 (by decide +kernel) (by decide +kernel)
theorem wd_2093 : Cond.code (⟨"MineAirModel", "led", "(II)I"⟩ : MethodName) prog_14_method_87_code 6 (Option.some Jvm.ClassFile.FieldType.int) ∈ wG := wG_of 2093 (by decide +kernel) (by decide +kernel)
theorem wd_2098 : Cond.methodLink "MineAirLaw" 145 (⟨"MineAirModel", "count", "(I)I"⟩ : MethodName) ∈ wG := wG_of 2098 (by decide +kernel) (by decide +kernel)
theorem wd_2099 : Cond.instanceMethod (⟨"MineAirModel", "count", "(I)I"⟩ : MethodName) ∈ wG := wG_of 2099 (by decide +kernel) (by decide +kernel)
theorem wd_2100 : Cond.selects "MineAirModel" (⟨"MineAirModel", "count", "(I)I"⟩ : MethodName) (⟨"MineAirModel", "count", "(I)I"⟩ : MethodName) ∈ wG := wG_of 2100 (by decide +kernel) (by decide +kernel)
theorem wd_2101 : Cond.code (⟨"MineAirModel", "count", "(I)I"⟩ : MethodName) prog_14_method_89_code 2 (Option.some Jvm.ClassFile.FieldType.int) ∈ wG := wG_of 2101 (by decide +kernel) (by decide +kernel)
theorem wd_2102 : Cond.methodLink "MineAirLaw" 149 (⟨"MineAirModel", "trouble", "()I"⟩ : MethodName) ∈ wG := wG_of 2102 (by decide +kernel) (by decide +kernel)
theorem wd_2103 : Cond.instanceMethod (⟨"MineAirModel", "trouble", "()I"⟩ : MethodName) ∈ wG := wG_of 2103 (by decide +kernel) (by decide +kernel)
theorem wd_2104 : Cond.selects "MineAirModel" (⟨"MineAirModel", "trouble", "()I"⟩ : MethodName) (⟨"MineAirModel", "trouble", "()I"⟩ : MethodName) ∈ wG := wG_of 2104 (by decide +kernel) (by decide +kernel)
theorem wd_2105 : Cond.code (⟨"MineAirModel", "trouble", "()I"⟩ : MethodName) prog_14_method_90_code 1 (Option.some Jvm.ClassFile.FieldType.int) ∈ wG := wG_of 2105 (by decide +kernel) (by decide +kernel)
theorem dL_law_760 : decode cL_law 760 = .ok (.aload_n 1, 1) := by decide +kernel
theorem dL_law_761 : decode cL_law 761 = .ok (.aload_n 0, 1) := by decide +kernel
theorem dL_law_762 : decode cL_law 762 = .ok (.iload 4, 2) := by decide +kernel
theorem dL_law_764 : decode cL_law 764 = .ok (.iconst 1, 1) := by decide +kernel
theorem dL_law_765 : decode cL_law 765 = .ok (.iadd, 1) := by decide +kernel
theorem dL_law_766 : decode cL_law 766 = .ok (.iaload, 1) := by decide +kernel
theorem dL_law_767 : decode cL_law 767 = .ok (.invokevirtual 107, 3) := by decide +kernel
theorem dL_law_770 : decode cL_law 770 = .ok (.pop, 1) := by decide +kernel
theorem dL_law_771 : decode cL_law 771 = .ok (.aload_n 2, 1) := by decide +kernel
theorem dL_law_772 : decode cL_law 772 = .ok (.aload_n 0, 1) := by decide +kernel
theorem dL_law_773 : decode cL_law 773 = .ok (.iload 4, 2) := by decide +kernel
theorem dL_law_775 : decode cL_law 775 = .ok (.iconst 1, 1) := by decide +kernel
theorem dL_law_776 : decode cL_law 776 = .ok (.iadd, 1) := by decide +kernel
theorem dL_law_777 : decode cL_law 777 = .ok (.iaload, 1) := by decide +kernel
theorem dL_law_778 : decode cL_law 778 = .ok (.invokevirtual 110, 3) := by decide +kernel
theorem dL_law_781 : decode cL_law 781 = .ok (.pop, 1) := by decide +kernel
theorem dL_law_782 : decode cL_law 782 = .ok (.goto 267, 3) := by decide +kernel
theorem dL_law_785 : decode cL_law 785 = .ok (.aload_n 1, 1) := by decide +kernel
theorem dL_law_786 : decode cL_law 786 = .ok (.aload_n 0, 1) := by decide +kernel
theorem dL_law_787 : decode cL_law 787 = .ok (.iload 4, 2) := by decide +kernel
theorem dL_law_789 : decode cL_law 789 = .ok (.iconst 1, 1) := by decide +kernel
theorem dL_law_790 : decode cL_law 790 = .ok (.iadd, 1) := by decide +kernel
theorem dL_law_791 : decode cL_law 791 = .ok (.iaload, 1) := by decide +kernel
theorem dL_law_792 : decode cL_law 792 = .ok (.invokevirtual 111, 3) := by decide +kernel
theorem dL_law_795 : decode cL_law 795 = .ok (.pop, 1) := by decide +kernel
theorem dL_law_796 : decode cL_law 796 = .ok (.aload_n 2, 1) := by decide +kernel
theorem dL_law_797 : decode cL_law 797 = .ok (.aload_n 0, 1) := by decide +kernel
theorem dL_law_798 : decode cL_law 798 = .ok (.iload 4, 2) := by decide +kernel
theorem dL_law_800 : decode cL_law 800 = .ok (.iconst 1, 1) := by decide +kernel
theorem dL_law_801 : decode cL_law 801 = .ok (.iadd, 1) := by decide +kernel
theorem dL_law_802 : decode cL_law 802 = .ok (.iaload, 1) := by decide +kernel
theorem dL_law_803 : decode cL_law 803 = .ok (.invokevirtual 114, 3) := by decide +kernel
theorem dL_law_806 : decode cL_law 806 = .ok (.pop, 1) := by decide +kernel
theorem dL_law_807 : decode cL_law 807 = .ok (.goto 242, 3) := by decide +kernel
theorem dL_law_810 : decode cL_law 810 = .ok (.aload_n 1, 1) := by decide +kernel
theorem dL_law_811 : decode cL_law 811 = .ok (.aload_n 0, 1) := by decide +kernel
theorem dL_law_812 : decode cL_law 812 = .ok (.iload 4, 2) := by decide +kernel
theorem dL_law_814 : decode cL_law 814 = .ok (.iconst 1, 1) := by decide +kernel
theorem dL_law_815 : decode cL_law 815 = .ok (.iadd, 1) := by decide +kernel
theorem dL_law_816 : decode cL_law 816 = .ok (.iaload, 1) := by decide +kernel
theorem dL_law_817 : decode cL_law 817 = .ok (.aload_n 0, 1) := by decide +kernel
theorem dL_law_818 : decode cL_law 818 = .ok (.iload 4, 2) := by decide +kernel
theorem dL_law_820 : decode cL_law 820 = .ok (.iconst 2, 1) := by decide +kernel
theorem dL_law_821 : decode cL_law 821 = .ok (.iadd, 1) := by decide +kernel
theorem dL_law_822 : decode cL_law 822 = .ok (.iaload, 1) := by decide +kernel
theorem dL_law_823 : decode cL_law 823 = .ok (.aload_n 0, 1) := by decide +kernel
theorem dL_law_824 : decode cL_law 824 = .ok (.iload 4, 2) := by decide +kernel
theorem dL_law_826 : decode cL_law 826 = .ok (.iconst 3, 1) := by decide +kernel
theorem dL_law_827 : decode cL_law 827 = .ok (.iadd, 1) := by decide +kernel
theorem dL_law_828 : decode cL_law 828 = .ok (.iaload, 1) := by decide +kernel
theorem dL_law_829 : decode cL_law 829 = .ok (.invokevirtual 115, 3) := by decide +kernel
theorem dL_law_832 : decode cL_law 832 = .ok (.pop, 1) := by decide +kernel
theorem dL_law_833 : decode cL_law 833 = .ok (.aload_n 2, 1) := by decide +kernel
theorem dL_law_834 : decode cL_law 834 = .ok (.aload_n 0, 1) := by decide +kernel
theorem dL_law_835 : decode cL_law 835 = .ok (.iload 4, 2) := by decide +kernel
theorem dL_law_837 : decode cL_law 837 = .ok (.iconst 1, 1) := by decide +kernel
theorem dL_law_838 : decode cL_law 838 = .ok (.iadd, 1) := by decide +kernel
theorem dL_law_839 : decode cL_law 839 = .ok (.iaload, 1) := by decide +kernel
theorem dL_law_840 : decode cL_law 840 = .ok (.aload_n 0, 1) := by decide +kernel
theorem dL_law_841 : decode cL_law 841 = .ok (.iload 4, 2) := by decide +kernel
theorem dL_law_843 : decode cL_law 843 = .ok (.iconst 2, 1) := by decide +kernel
theorem dL_law_844 : decode cL_law 844 = .ok (.iadd, 1) := by decide +kernel
theorem dL_law_845 : decode cL_law 845 = .ok (.iaload, 1) := by decide +kernel
theorem dL_law_846 : decode cL_law 846 = .ok (.aload_n 0, 1) := by decide +kernel
theorem dL_law_847 : decode cL_law 847 = .ok (.iload 4, 2) := by decide +kernel
theorem dL_law_849 : decode cL_law 849 = .ok (.iconst 3, 1) := by decide +kernel
theorem dL_law_850 : decode cL_law 850 = .ok (.iadd, 1) := by decide +kernel
theorem dL_law_851 : decode cL_law 851 = .ok (.iaload, 1) := by decide +kernel
theorem dL_law_852 : decode cL_law 852 = .ok (.invokevirtual 119, 3) := by decide +kernel
theorem dL_law_855 : decode cL_law 855 = .ok (.pop, 1) := by decide +kernel
theorem dL_law_856 : decode cL_law 856 = .ok (.goto 193, 3) := by decide +kernel
theorem dL_law_859 : decode cL_law 859 = .ok (.aload_n 1, 1) := by decide +kernel
theorem dL_law_860 : decode cL_law 860 = .ok (.aload_n 0, 1) := by decide +kernel
theorem dL_law_861 : decode cL_law 861 = .ok (.iload 4, 2) := by decide +kernel
theorem dL_law_863 : decode cL_law 863 = .ok (.iconst 1, 1) := by decide +kernel
theorem dL_law_864 : decode cL_law 864 = .ok (.iadd, 1) := by decide +kernel
theorem dL_law_865 : decode cL_law 865 = .ok (.iaload, 1) := by decide +kernel
theorem dL_law_866 : decode cL_law 866 = .ok (.invokevirtual 120, 3) := by decide +kernel
theorem dL_law_869 : decode cL_law 869 = .ok (.pop, 1) := by decide +kernel
theorem dL_law_870 : decode cL_law 870 = .ok (.aload_n 2, 1) := by decide +kernel
theorem dL_law_871 : decode cL_law 871 = .ok (.aload_n 0, 1) := by decide +kernel
theorem dL_law_872 : decode cL_law 872 = .ok (.iload 4, 2) := by decide +kernel
theorem dL_law_874 : decode cL_law 874 = .ok (.iconst 1, 1) := by decide +kernel
theorem dL_law_875 : decode cL_law 875 = .ok (.iadd, 1) := by decide +kernel
theorem dL_law_876 : decode cL_law 876 = .ok (.iaload, 1) := by decide +kernel
theorem dL_law_877 : decode cL_law 877 = .ok (.invokevirtual 123, 3) := by decide +kernel
theorem dL_law_880 : decode cL_law 880 = .ok (.pop, 1) := by decide +kernel
theorem dL_law_881 : decode cL_law 881 = .ok (.goto 168, 3) := by decide +kernel
theorem dL_law_884 : decode cL_law 884 = .ok (.aload_n 1, 1) := by decide +kernel
theorem dL_law_885 : decode cL_law 885 = .ok (.invokevirtual 124, 3) := by decide +kernel
theorem dL_law_888 : decode cL_law 888 = .ok (.pop, 1) := by decide +kernel
theorem dL_law_889 : decode cL_law 889 = .ok (.aload_n 2, 1) := by decide +kernel
theorem dL_law_890 : decode cL_law 890 = .ok (.invokevirtual 127, 3) := by decide +kernel
theorem dL_law_893 : decode cL_law 893 = .ok (.pop, 1) := by decide +kernel
theorem dL_law_894 : decode cL_law 894 = .ok (.goto 155, 3) := by decide +kernel
theorem dL_law_897 : decode cL_law 897 = .ok (.aload_n 1, 1) := by decide +kernel
theorem dL_law_898 : decode cL_law 898 = .ok (.aload_n 0, 1) := by decide +kernel
theorem dL_law_899 : decode cL_law 899 = .ok (.iload 4, 2) := by decide +kernel
theorem dL_law_901 : decode cL_law 901 = .ok (.iconst 1, 1) := by decide +kernel
theorem dL_law_902 : decode cL_law 902 = .ok (.iadd, 1) := by decide +kernel
theorem dL_law_903 : decode cL_law 903 = .ok (.iaload, 1) := by decide +kernel
theorem dL_law_904 : decode cL_law 904 = .ok (.aload_n 0, 1) := by decide +kernel
theorem dL_law_905 : decode cL_law 905 = .ok (.iload 4, 2) := by decide +kernel
theorem dL_law_907 : decode cL_law 907 = .ok (.iconst 2, 1) := by decide +kernel
theorem dL_law_908 : decode cL_law 908 = .ok (.iadd, 1) := by decide +kernel
theorem dL_law_909 : decode cL_law 909 = .ok (.iaload, 1) := by decide +kernel
theorem dL_law_910 : decode cL_law 910 = .ok (.aload_n 0, 1) := by decide +kernel
theorem dL_law_911 : decode cL_law 911 = .ok (.iload 4, 2) := by decide +kernel
theorem dL_law_913 : decode cL_law 913 = .ok (.iconst 3, 1) := by decide +kernel
theorem dL_law_914 : decode cL_law 914 = .ok (.iadd, 1) := by decide +kernel
theorem dL_law_915 : decode cL_law 915 = .ok (.iaload, 1) := by decide +kernel
theorem dL_law_916 : decode cL_law 916 = .ok (.invokevirtual 128, 3) := by decide +kernel
theorem dL_law_919 : decode cL_law 919 = .ok (.aload_n 2, 1) := by decide +kernel
theorem dL_law_920 : decode cL_law 920 = .ok (.aload_n 0, 1) := by decide +kernel
theorem dL_law_921 : decode cL_law 921 = .ok (.iload 4, 2) := by decide +kernel
theorem dL_law_923 : decode cL_law 923 = .ok (.iconst 1, 1) := by decide +kernel
theorem dL_law_924 : decode cL_law 924 = .ok (.iadd, 1) := by decide +kernel
theorem dL_law_925 : decode cL_law 925 = .ok (.iaload, 1) := by decide +kernel
theorem dL_law_926 : decode cL_law 926 = .ok (.aload_n 0, 1) := by decide +kernel
theorem dL_law_927 : decode cL_law 927 = .ok (.iload 4, 2) := by decide +kernel
theorem dL_law_929 : decode cL_law 929 = .ok (.iconst 2, 1) := by decide +kernel
theorem dL_law_930 : decode cL_law 930 = .ok (.iadd, 1) := by decide +kernel
theorem dL_law_931 : decode cL_law 931 = .ok (.iaload, 1) := by decide +kernel
theorem dL_law_932 : decode cL_law 932 = .ok (.aload_n 0, 1) := by decide +kernel
theorem dL_law_933 : decode cL_law 933 = .ok (.iload 4, 2) := by decide +kernel
theorem dL_law_935 : decode cL_law 935 = .ok (.iconst 3, 1) := by decide +kernel
theorem dL_law_936 : decode cL_law 936 = .ok (.iadd, 1) := by decide +kernel
theorem dL_law_937 : decode cL_law 937 = .ok (.iaload, 1) := by decide +kernel
theorem dL_law_938 : decode cL_law 938 = .ok (.invokevirtual 131, 3) := by decide +kernel
theorem dL_law_941 : decode cL_law 941 = .ok (.if_icmp .eq 108, 3) := by decide +kernel
theorem dL_law_946 : decode cL_law 946 = .ok (.aload_n 1, 1) := by decide +kernel
theorem dL_law_947 : decode cL_law 947 = .ok (.aload_n 0, 1) := by decide +kernel
theorem dL_law_948 : decode cL_law 948 = .ok (.iload 4, 2) := by decide +kernel
theorem dL_law_950 : decode cL_law 950 = .ok (.iconst 1, 1) := by decide +kernel
theorem dL_law_951 : decode cL_law 951 = .ok (.iadd, 1) := by decide +kernel
theorem dL_law_952 : decode cL_law 952 = .ok (.iaload, 1) := by decide +kernel
theorem dL_law_953 : decode cL_law 953 = .ok (.invokevirtual 132, 3) := by decide +kernel
theorem dL_law_956 : decode cL_law 956 = .ok (.pop, 1) := by decide +kernel
theorem dL_law_957 : decode cL_law 957 = .ok (.aload_n 2, 1) := by decide +kernel
theorem dL_law_958 : decode cL_law 958 = .ok (.aload_n 0, 1) := by decide +kernel
theorem dL_law_959 : decode cL_law 959 = .ok (.iload 4, 2) := by decide +kernel
theorem dL_law_961 : decode cL_law 961 = .ok (.iconst 1, 1) := by decide +kernel
theorem dL_law_962 : decode cL_law 962 = .ok (.iadd, 1) := by decide +kernel
theorem dL_law_963 : decode cL_law 963 = .ok (.iaload, 1) := by decide +kernel
theorem dL_law_964 : decode cL_law 964 = .ok (.invokevirtual 135, 3) := by decide +kernel
theorem dL_law_967 : decode cL_law 967 = .ok (.pop, 1) := by decide +kernel
theorem dL_law_968 : decode cL_law 968 = .ok (.goto 81, 3) := by decide +kernel
theorem dL_law_971 : decode cL_law 971 = .ok (.aload_n 1, 1) := by decide +kernel
theorem dL_law_972 : decode cL_law 972 = .ok (.aload_n 0, 1) := by decide +kernel
theorem dL_law_973 : decode cL_law 973 = .ok (.iload 4, 2) := by decide +kernel
theorem dL_law_975 : decode cL_law 975 = .ok (.iconst 1, 1) := by decide +kernel
theorem dL_law_976 : decode cL_law 976 = .ok (.iadd, 1) := by decide +kernel
theorem dL_law_977 : decode cL_law 977 = .ok (.iaload, 1) := by decide +kernel
theorem dL_law_978 : decode cL_law 978 = .ok (.aload_n 0, 1) := by decide +kernel
theorem dL_law_979 : decode cL_law 979 = .ok (.iload 4, 2) := by decide +kernel
theorem dL_law_981 : decode cL_law 981 = .ok (.iconst 2, 1) := by decide +kernel
theorem dL_law_982 : decode cL_law 982 = .ok (.iadd, 1) := by decide +kernel
theorem dL_law_983 : decode cL_law 983 = .ok (.iaload, 1) := by decide +kernel
theorem dL_law_984 : decode cL_law 984 = .ok (.aload_n 3, 1) := by decide +kernel
theorem dL_law_985 : decode cL_law 985 = .ok (.invokestatic 136, 3) := by decide +kernel
theorem dL_law_988 : decode cL_law 988 = .ok (.istore 5, 2) := by decide +kernel
theorem dL_law_990 : decode cL_law 990 = .ok (.aload_n 2, 1) := by decide +kernel
theorem dL_law_991 : decode cL_law 991 = .ok (.aload_n 0, 1) := by decide +kernel
theorem dL_law_992 : decode cL_law 992 = .ok (.iload 4, 2) := by decide +kernel
theorem dL_law_994 : decode cL_law 994 = .ok (.iconst 1, 1) := by decide +kernel
theorem dL_law_995 : decode cL_law 995 = .ok (.iadd, 1) := by decide +kernel
theorem dL_law_996 : decode cL_law 996 = .ok (.iaload, 1) := by decide +kernel
theorem dL_law_997 : decode cL_law 997 = .ok (.aload_n 0, 1) := by decide +kernel
theorem dL_law_998 : decode cL_law 998 = .ok (.iload 4, 2) := by decide +kernel
theorem dL_law_1000 : decode cL_law 1000 = .ok (.iconst 2, 1) := by decide +kernel
theorem dL_law_1001 : decode cL_law 1001 = .ok (.iadd, 1) := by decide +kernel
theorem dL_law_1002 : decode cL_law 1002 = .ok (.iaload, 1) := by decide +kernel
theorem dL_law_1003 : decode cL_law 1003 = .ok (.invokevirtual 141, 3) := by decide +kernel
theorem dL_law_1006 : decode cL_law 1006 = .ok (.istore 6, 2) := by decide +kernel
theorem dL_law_1008 : decode cL_law 1008 = .ok (.goto 41, 3) := by decide +kernel
theorem dL_law_1011 : decode cL_law 1011 = .ok (.aload_n 1, 1) := by decide +kernel
theorem dL_law_1012 : decode cL_law 1012 = .ok (.aload_n 0, 1) := by decide +kernel
theorem dL_law_1013 : decode cL_law 1013 = .ok (.iload 4, 2) := by decide +kernel
theorem dL_law_1015 : decode cL_law 1015 = .ok (.iconst 1, 1) := by decide +kernel
theorem dL_law_1016 : decode cL_law 1016 = .ok (.iadd, 1) := by decide +kernel
theorem dL_law_1017 : decode cL_law 1017 = .ok (.iaload, 1) := by decide +kernel
theorem dL_law_1018 : decode cL_law 1018 = .ok (.invokevirtual 142, 3) := by decide +kernel
theorem dL_law_1021 : decode cL_law 1021 = .ok (.pop, 1) := by decide +kernel
theorem dL_law_1022 : decode cL_law 1022 = .ok (.aload_n 2, 1) := by decide +kernel
theorem dL_law_1023 : decode cL_law 1023 = .ok (.aload_n 0, 1) := by decide +kernel
theorem dL_law_1024 : decode cL_law 1024 = .ok (.iload 4, 2) := by decide +kernel
theorem dL_law_1026 : decode cL_law 1026 = .ok (.iconst 1, 1) := by decide +kernel
theorem dL_law_1027 : decode cL_law 1027 = .ok (.iadd, 1) := by decide +kernel
theorem dL_law_1028 : decode cL_law 1028 = .ok (.iaload, 1) := by decide +kernel
theorem dL_law_1029 : decode cL_law 1029 = .ok (.invokevirtual 145, 3) := by decide +kernel
theorem dL_law_1032 : decode cL_law 1032 = .ok (.pop, 1) := by decide +kernel
theorem dL_law_1033 : decode cL_law 1033 = .ok (.goto 16, 3) := by decide +kernel
theorem dL_law_1036 : decode cL_law 1036 = .ok (.aload_n 1, 1) := by decide +kernel
theorem dL_law_1037 : decode cL_law 1037 = .ok (.invokevirtual 146, 3) := by decide +kernel
theorem dL_law_1040 : decode cL_law 1040 = .ok (.pop, 1) := by decide +kernel
theorem dL_law_1041 : decode cL_law 1041 = .ok (.aload_n 2, 1) := by decide +kernel
theorem dL_law_1042 : decode cL_law 1042 = .ok (.invokevirtual 149, 3) := by decide +kernel
theorem dL_law_1045 : decode cL_law 1045 = .ok (.pop, 1) := by decide +kernel
theorem dL_law_1046 : decode cL_law 1046 = .ok (.goto 3, 3) := by decide +kernel
set_option maxHeartbeats 4000000 in
set_option maxRecDepth 100000 in
theorem law_20 {p : Program} {l : Launch} {e : Env} {s : State} {m : MethodId} {below : List Frame} {meth : Method} {c : Code} {dC : Nat → ClassId} {dI : Nat → Nat → Nat} {b L : Nat} {xs : Nat → Int32} (hst : l.stackTraces = false) (hL : L ≤ 3072) (C0 : lw_At p s m meth c b L xs) (atx : Nat → Nat × Nat) (hG : GW s.heap.size atx s) (ad : Nat → Nat) (ka : Nat → ClassId) (x0 : Nat) (md : Nat → Nat) (mk9 : Nat → ClassId) (m0 : Nat) (i : Nat) (hi : i + 6 ≤ L) (K : ∀ (H : Heap) (locs : List Loc) (ls : Array Slot), LV dC dI s b L ad ka x0 md mk9 m0 (i + 6) H locs ls → W p l e room_1 s m #[Value.ref b] below meth c H locs (150 + 23 * (i + 6)) (3000 + 300 * (i + 6)) (lw_Z below #[Value.ref b] s) (F0 m 23 ls [])) (H : Heap) (locs : List Loc) (ls : Array Slot) (Gx Gm : Nat → Int) (wx wm : va_W) (tx tm : List (ClassId × FieldType)) (hXI : XI ad ka x0 Gx wx tx) (hMI : MZ md mk9 m0 Gm wm tm ∨ MB md mk9 m0 Gm wm tm) (hrl : REL Gx Gm) (hKx : va_K (dC, dI) classes tx s) (hKm : va_K (dC, dI) classes tm s) (hP : va_P (dC, dI) classes (wx ++ wm) H) (hD : va_D (fun q : Nat => s.heap.size ≤ q) (wx ++ wm)) (hS : va_S (fun q : Nat => s.heap.size ≤ q) s.heap H locs) (hl : lv_has ls 7 [(4, .int (nI i)), (3, .ref (ad 104)), (2, .ref m0), (1, .ref x0), (0, .ref b)]) : W p l e room_1 s m #[Value.ref b] below meth c H locs (150 + 23 * i) (3000 + 300 * i) (lw_Z below #[Value.ref b] s) (F0 m 760 ls []) := by
  obtain ⟨hx, hb, hr, hml, hown, hts0, hX, hbl, hlocks, hgv⟩ := C0
  have hts : ∀ w ∈ wG, w.before #[Value.ref b] s = true := fun w h => hts0 w (wG_t h)
  have hA : ∀ q : Nat, s.heap.size ≤ q → (fun q : Nat => s.heap.size ≤ q) q := fun _ h => h
  have hA0 : ∀ q : Nat, (fun q : Nat => s.heap.size ≤ q) q → s.heap.size ≤ q := fun _ h => h
  have hn0 : s.heap.size ≤ s.heap.size := Nat.le_refl _
  have hbA : ¬ (fun q : Nat => s.heap.size ≤ q) b := Nat.not_le.mpr hbl
  have hrl0 := rel0 hrl
  refine lv_aload_n hx hb dL_law_760 rfl (lv_at hl 3 rfl) ?_
  refine lv_aload_n hx hb dL_law_761 rfl (lv_at hl 4 rfl) ?_
  refine lv_iload hx hb dL_law_762 (lv_at hl 0 rfl) ?_
  refine lv_iconst (v := 1) hx hb dL_law_764 (by decide) ?_
  refine lv_iadd hx hb dL_law_765 ?_
  refine lv_topi (fun v_1 ev_1 => ?_)
  obtain rfl : v_1 = nI (i + 1) := ev_1.trans (nI_add i 1)
  refine va_sld hx hb hX hbl hbA hS (vp_in_nI (n := (i + 1)) (by omega) (by omega)) dL_law_766 ?_
  refine lv_topi (fun v_2 ev_2 => ?_)
  have hPc := ap_l hP
  have hDc := ad_l hD
  have hKc := hKx
  have hFc := fr_O hDc hS hA
  obtain ⟨fs9, hrc⟩ := XI_rc hXI
  refine va_calli (va_runV (As := [.int v_2]) (rest := []) ⟨hx, hb, hml, hown, hts⟩ (X_man l dC dI s.heap.size atx H.size ad ka x0 Gx wx tx v_2 hXI ) (cwV 1 hts (gV (fun w h => id h) wd_1237 wd_1234 wd_1235 wd_1236 wd_114) rfl rfl rfl (by decide +kernel) ⟨Nat.le_of_ble_eq_true rfl, Nat.le_of_ble_eq_true rfl⟩) ⟨fun a U g mk q => by obtain ⟨q0, q1, q2, qG, qP, qK, qD⟩ := q; exact ⟨q0, q1, q2, GW.blind qG, qP, va_K.moved (u := U) (U := U.calling g mk a) (Vm.Alike.refl U.vm) qK, qD⟩, va_recv hKc hPc (ci := 11) (q0 := 0) rfl hrc, fun U hU hW => ⟨rfl, by rw [hU], Nat.le_trans hn0 hS.1, GW.go hW hU hG (fun q hq hA9 => hS.2.1 q hq (fun h => hA9 (hA0 q h))), by rw [hU]; exact hPc, va_K.moved hW.alike hKc, hDc.weaken (fun _ _ _ h => hA0 _ h)⟩⟩ rfl rfl hl.1 rfl (lv_room (Nat.le_of_ble_eq_true rfl)) dL_law_767 ⟨(by show _ ≤ (601024 : Nat); omega), (by show _ ≤ (7293034 : Nat); omega)⟩) hS (fun q _ h => hFc q h) hFc (fun r_3 u t H1 locs ht hvm hw_3 hB hz1 hk1 hS => ?_)
  subst hw_3
  obtain ⟨Gx_3, wx_3, tx_3, hIx_3, hrel_3, hP1, hK1, hD1⟩ := hB
  rw [ht] at hP1
  obtain ⟨hP, hD⟩ := jo_l hP hD hk1 hFc hP1 hD1
  have hKx_3 := va_K.moved hvm.symm hK1
  generalize H1 = H at hP hS ⊢
  refine lv_pop hx hb dL_law_770 rfl ?_
  refine lv_aload_n hx hb dL_law_771 rfl (lv_at hl 2 rfl) ?_
  refine lv_aload_n hx hb dL_law_772 rfl (lv_at hl 4 rfl) ?_
  refine lv_iload hx hb dL_law_773 (lv_at hl 0 rfl) ?_
  refine lv_iconst (v := 1) hx hb dL_law_775 (by decide) ?_
  refine lv_iadd hx hb dL_law_776 ?_
  refine lv_topi (fun v_4 ev_4 => ?_)
  obtain rfl : v_4 = nI (i + 1) := ev_4.trans (nI_add i 1)
  refine va_sld hx hb hX hbl hbA hS (vp_in_nI (n := (i + 1)) (by omega) (by omega)) dL_law_777 ?_
  refine lv_topi (fun v_5 ev_5 => ?_)
  obtain rfl : v_2 = v_5 := (ev_5.trans ev_2.symm).symm
  rcases hMI with hMI | hMI
  · skip
    have hPc := ap_r hP
    have hDc := ad_r hD
    have hKc := hKm
    have hFc := fr_O hDc hS hA
    obtain ⟨fs9, hrc⟩ := MZ_rc hMI
    refine va_calli (va_runV (As := [.int v_2]) (rest := []) ⟨hx, hb, hml, hown, hts⟩ (Z_man l dC dI s.heap.size atx H.size md mk9 m0 Gm wm tm v_2 hMI ) (cwV 1 hts (gV (fun w h => id h) wd_2034 wd_2031 wd_2032 wd_2033 wd_127) rfl rfl rfl (by decide +kernel) ⟨Nat.le_of_ble_eq_true rfl, Nat.le_of_ble_eq_true rfl⟩) ⟨fun a U g mk q => by obtain ⟨q0, q1, q2, qG, qP, qK, qD⟩ := q; exact ⟨q0, q1, q2, GW.blind qG, qP, va_K.moved (u := U) (U := U.calling g mk a) (Vm.Alike.refl U.vm) qK, qD⟩, va_recv hKc hPc (ci := 14) (q0 := 0) rfl hrc, fun U hU hW => ⟨rfl, by rw [hU], Nat.le_trans hn0 hS.1, GW.go hW hU hG (fun q hq hA9 => hS.2.1 q hq (fun h => hA9 (hA0 q h))), by rw [hU]; exact hPc, va_K.moved hW.alike hKc, hDc.weaken (fun _ _ _ h => hA0 _ h)⟩⟩ rfl rfl hl.1 rfl (lv_room (Nat.le_of_ble_eq_true rfl)) dL_law_778 ⟨(by show _ ≤ (601024 : Nat); omega), (by show _ ≤ (7293034 : Nat); omega)⟩) hS (fun q _ h => hFc q h) hFc (fun r_6 u t H1 locs ht hvm hw_6 hB hz1 hk1 hS => ?_)
    subst hw_6
    obtain ⟨Gm_6, wm_6, tm_6, hIm_6, hrel_6, hP1, hK1, hD1⟩ := hB
    rw [ht] at hP1
    obtain ⟨hP, hD⟩ := jo_r hP hD hk1 hFc hP1 hD1
    have hKm_6 := va_K.moved hvm.symm hK1
    generalize H1 = H at hP hS ⊢
    refine lv_pop hx hb dL_law_781 rfl ?_
    refine lv_goto (tgt := 1049) hx hb dL_law_782 (by decide) ?_
    refine lv_iinc (v := (nI (i + 6))) (lv' := [(4, .int (nI (i + 6))), (3, .ref (ad 104)), (2, .ref m0), (1, .ref x0), (0, .ref b)]) hx hb dL_law_1049 hl (k := 0) rfl (nI_add _ 6) (by decide) rfl (fun ls hl => ?_)
    refine lv_goto (tgt := 23) hx hb dL_law_1052 (by decide) ?_
    refine W.widen (k := 150 + 23 * (i + 6)) (n := 3000 + 300 * (i + 6)) (by omega) (by omega) ?_
    exact K _ _ _ ⟨by omega, Gx_3, Gm_6, wx_3, wm_6, tx_3, tm_6, hIx_3, (Or.inl hIm_6), (rel_m hrl hrel_3.2.1 hrel_6.2.1 hrel_3.2.2 hrel_6.2.2), hKx_3, hKm_6, hP, hD, hS, lv_sub hl [0, 1, 2, 3, 4] rfl⟩
  · skip
    have hPc := ap_r hP
    have hDc := ad_r hD
    have hKc := hKm
    have hFc := fr_O hDc hS hA
    obtain ⟨fs9, hrc⟩ := MB_rc hMI
    refine va_calli (va_runV (As := [.int v_2]) (rest := []) ⟨hx, hb, hml, hown, hts⟩ (B_man l dC dI s.heap.size atx H.size md mk9 m0 Gm wm tm v_2 hMI ) (cwV 1 hts (gV (fun w h => id h) wd_2034 wd_2031 wd_2032 wd_2033 wd_127) rfl rfl rfl (by decide +kernel) ⟨Nat.le_of_ble_eq_true rfl, Nat.le_of_ble_eq_true rfl⟩) ⟨fun a U g mk q => by obtain ⟨q0, q1, q2, qG, qP, qK, qD⟩ := q; exact ⟨q0, q1, q2, GW.blind qG, qP, va_K.moved (u := U) (U := U.calling g mk a) (Vm.Alike.refl U.vm) qK, qD⟩, va_recv hKc hPc (ci := 14) (q0 := 0) rfl hrc, fun U hU hW => ⟨rfl, by rw [hU], Nat.le_trans hn0 hS.1, GW.go hW hU hG (fun q hq hA9 => hS.2.1 q hq (fun h => hA9 (hA0 q h))), by rw [hU]; exact hPc, va_K.moved hW.alike hKc, hDc.weaken (fun _ _ _ h => hA0 _ h)⟩⟩ rfl rfl hl.1 rfl (lv_room (Nat.le_of_ble_eq_true rfl)) dL_law_778 ⟨(by show _ ≤ (601024 : Nat); omega), (by show _ ≤ (7293034 : Nat); omega)⟩) hS (fun q _ h => hFc q h) hFc (fun r_7 u t H1 locs ht hvm hw_7 hB hz1 hk1 hS => ?_)
    subst hw_7
    obtain ⟨Gm_7, wm_7, tm_7, hIm_7, hrel_7, hP1, hK1, hD1⟩ := hB
    rw [ht] at hP1
    obtain ⟨hP, hD⟩ := jo_r hP hD hk1 hFc hP1 hD1
    have hKm_7 := va_K.moved hvm.symm hK1
    generalize H1 = H at hP hS ⊢
    refine lv_pop hx hb dL_law_781 rfl ?_
    refine lv_goto (tgt := 1049) hx hb dL_law_782 (by decide) ?_
    refine lv_iinc (v := (nI (i + 6))) (lv' := [(4, .int (nI (i + 6))), (3, .ref (ad 104)), (2, .ref m0), (1, .ref x0), (0, .ref b)]) hx hb dL_law_1049 hl (k := 0) rfl (nI_add _ 6) (by decide) rfl (fun ls hl => ?_)
    refine lv_goto (tgt := 23) hx hb dL_law_1052 (by decide) ?_
    refine W.widen (k := 150 + 23 * (i + 6)) (n := 3000 + 300 * (i + 6)) (by omega) (by omega) ?_
    exact K _ _ _ ⟨by omega, Gx_3, Gm_7, wx_3, wm_7, tx_3, tm_7, hIx_3, (Or.inr hIm_7), (rel_m hrl hrel_3.2.1 hrel_7.2.1 hrel_3.2.2 hrel_7.2.2), hKx_3, hKm_7, hP, hD, hS, lv_sub hl [0, 1, 2, 3, 4] rfl⟩
set_option maxHeartbeats 4000000 in
set_option maxRecDepth 100000 in
theorem law_21 {p : Program} {l : Launch} {e : Env} {s : State} {m : MethodId} {below : List Frame} {meth : Method} {c : Code} {dC : Nat → ClassId} {dI : Nat → Nat → Nat} {b L : Nat} {xs : Nat → Int32} (hst : l.stackTraces = false) (hL : L ≤ 3072) (C0 : lw_At p s m meth c b L xs) (atx : Nat → Nat × Nat) (hG : GW s.heap.size atx s) (ad : Nat → Nat) (ka : Nat → ClassId) (x0 : Nat) (md : Nat → Nat) (mk9 : Nat → ClassId) (m0 : Nat) (i : Nat) (hi : i + 6 ≤ L) (K : ∀ (H : Heap) (locs : List Loc) (ls : Array Slot), LV dC dI s b L ad ka x0 md mk9 m0 (i + 6) H locs ls → W p l e room_1 s m #[Value.ref b] below meth c H locs (150 + 23 * (i + 6)) (3000 + 300 * (i + 6)) (lw_Z below #[Value.ref b] s) (F0 m 23 ls [])) (H : Heap) (locs : List Loc) (ls : Array Slot) (Gx Gm : Nat → Int) (wx wm : va_W) (tx tm : List (ClassId × FieldType)) (hXI : XI ad ka x0 Gx wx tx) (hMI : MZ md mk9 m0 Gm wm tm ∨ MB md mk9 m0 Gm wm tm) (hrl : REL Gx Gm) (hKx : va_K (dC, dI) classes tx s) (hKm : va_K (dC, dI) classes tm s) (hP : va_P (dC, dI) classes (wx ++ wm) H) (hD : va_D (fun q : Nat => s.heap.size ≤ q) (wx ++ wm)) (hS : va_S (fun q : Nat => s.heap.size ≤ q) s.heap H locs) (hl : lv_has ls 7 [(4, .int (nI i)), (3, .ref (ad 104)), (2, .ref m0), (1, .ref x0), (0, .ref b)]) : W p l e room_1 s m #[Value.ref b] below meth c H locs (150 + 23 * i) (3000 + 300 * i) (lw_Z below #[Value.ref b] s) (F0 m 785 ls []) := by
  obtain ⟨hx, hb, hr, hml, hown, hts0, hX, hbl, hlocks, hgv⟩ := C0
  have hts : ∀ w ∈ wG, w.before #[Value.ref b] s = true := fun w h => hts0 w (wG_t h)
  have hA : ∀ q : Nat, s.heap.size ≤ q → (fun q : Nat => s.heap.size ≤ q) q := fun _ h => h
  have hA0 : ∀ q : Nat, (fun q : Nat => s.heap.size ≤ q) q → s.heap.size ≤ q := fun _ h => h
  have hn0 : s.heap.size ≤ s.heap.size := Nat.le_refl _
  have hbA : ¬ (fun q : Nat => s.heap.size ≤ q) b := Nat.not_le.mpr hbl
  have hrl0 := rel0 hrl
  refine lv_aload_n hx hb dL_law_785 rfl (lv_at hl 3 rfl) ?_
  refine lv_aload_n hx hb dL_law_786 rfl (lv_at hl 4 rfl) ?_
  refine lv_iload hx hb dL_law_787 (lv_at hl 0 rfl) ?_
  refine lv_iconst (v := 1) hx hb dL_law_789 (by decide) ?_
  refine lv_iadd hx hb dL_law_790 ?_
  refine lv_topi (fun v_1 ev_1 => ?_)
  obtain rfl : v_1 = nI (i + 1) := ev_1.trans (nI_add i 1)
  refine va_sld hx hb hX hbl hbA hS (vp_in_nI (n := (i + 1)) (by omega) (by omega)) dL_law_791 ?_
  refine lv_topi (fun v_2 ev_2 => ?_)
  have hPc := ap_l hP
  have hDc := ad_l hD
  have hKc := hKx
  have hFc := fr_O hDc hS hA
  obtain ⟨fs9, hrc⟩ := XI_rc hXI
  refine va_calli (va_runV (As := [.int v_2]) (rest := []) ⟨hx, hb, hml, hown, hts⟩ (X_out l dC dI s.heap.size atx H.size ad ka x0 Gx wx tx v_2 hXI ) (cwV 1 hts (gV (fun w h => id h) wd_1241 wd_1238 wd_1239 wd_1240 wd_114) rfl rfl rfl (by decide +kernel) ⟨Nat.le_of_ble_eq_true rfl, Nat.le_of_ble_eq_true rfl⟩) ⟨fun a U g mk q => by obtain ⟨q0, q1, q2, qG, qP, qK, qD⟩ := q; exact ⟨q0, q1, q2, GW.blind qG, qP, va_K.moved (u := U) (U := U.calling g mk a) (Vm.Alike.refl U.vm) qK, qD⟩, va_recv hKc hPc (ci := 11) (q0 := 0) rfl hrc, fun U hU hW => ⟨rfl, by rw [hU], Nat.le_trans hn0 hS.1, GW.go hW hU hG (fun q hq hA9 => hS.2.1 q hq (fun h => hA9 (hA0 q h))), by rw [hU]; exact hPc, va_K.moved hW.alike hKc, hDc.weaken (fun _ _ _ h => hA0 _ h)⟩⟩ rfl rfl hl.1 rfl (lv_room (Nat.le_of_ble_eq_true rfl)) dL_law_792 ⟨(by show _ ≤ (601024 : Nat); omega), (by show _ ≤ (7293034 : Nat); omega)⟩) hS (fun q _ h => hFc q h) hFc (fun r_3 u t H1 locs ht hvm hw_3 hB hz1 hk1 hS => ?_)
  subst hw_3
  obtain ⟨Gx_3, wx_3, tx_3, hIx_3, hrel_3, hP1, hK1, hD1⟩ := hB
  rw [ht] at hP1
  obtain ⟨hP, hD⟩ := jo_l hP hD hk1 hFc hP1 hD1
  have hKx_3 := va_K.moved hvm.symm hK1
  generalize H1 = H at hP hS ⊢
  refine lv_pop hx hb dL_law_795 rfl ?_
  refine lv_aload_n hx hb dL_law_796 rfl (lv_at hl 2 rfl) ?_
  refine lv_aload_n hx hb dL_law_797 rfl (lv_at hl 4 rfl) ?_
  refine lv_iload hx hb dL_law_798 (lv_at hl 0 rfl) ?_
  refine lv_iconst (v := 1) hx hb dL_law_800 (by decide) ?_
  refine lv_iadd hx hb dL_law_801 ?_
  refine lv_topi (fun v_4 ev_4 => ?_)
  obtain rfl : v_4 = nI (i + 1) := ev_4.trans (nI_add i 1)
  refine va_sld hx hb hX hbl hbA hS (vp_in_nI (n := (i + 1)) (by omega) (by omega)) dL_law_802 ?_
  refine lv_topi (fun v_5 ev_5 => ?_)
  obtain rfl : v_2 = v_5 := (ev_5.trans ev_2.symm).symm
  rcases hMI with hMI | hMI
  · skip
    have hPc := ap_r hP
    have hDc := ad_r hD
    have hKc := hKm
    have hFc := fr_O hDc hS hA
    obtain ⟨fs9, hrc⟩ := MZ_rc hMI
    refine va_calli (va_runV (As := [.int v_2]) (rest := []) ⟨hx, hb, hml, hown, hts⟩ (Z_out l dC dI s.heap.size atx H.size md mk9 m0 Gm wm tm v_2 hMI ) (cwV 1 hts (gV (fun w h => id h) wd_2038 wd_2035 wd_2036 wd_2037 wd_127) rfl rfl rfl (by decide +kernel) ⟨Nat.le_of_ble_eq_true rfl, Nat.le_of_ble_eq_true rfl⟩) ⟨fun a U g mk q => by obtain ⟨q0, q1, q2, qG, qP, qK, qD⟩ := q; exact ⟨q0, q1, q2, GW.blind qG, qP, va_K.moved (u := U) (U := U.calling g mk a) (Vm.Alike.refl U.vm) qK, qD⟩, va_recv hKc hPc (ci := 14) (q0 := 0) rfl hrc, fun U hU hW => ⟨rfl, by rw [hU], Nat.le_trans hn0 hS.1, GW.go hW hU hG (fun q hq hA9 => hS.2.1 q hq (fun h => hA9 (hA0 q h))), by rw [hU]; exact hPc, va_K.moved hW.alike hKc, hDc.weaken (fun _ _ _ h => hA0 _ h)⟩⟩ rfl rfl hl.1 rfl (lv_room (Nat.le_of_ble_eq_true rfl)) dL_law_803 ⟨(by show _ ≤ (601024 : Nat); omega), (by show _ ≤ (7293034 : Nat); omega)⟩) hS (fun q _ h => hFc q h) hFc (fun r_6 u t H1 locs ht hvm hw_6 hB hz1 hk1 hS => ?_)
    subst hw_6
    obtain ⟨Gm_6, wm_6, tm_6, hIm_6, hrel_6, hP1, hK1, hD1⟩ := hB
    rw [ht] at hP1
    obtain ⟨hP, hD⟩ := jo_r hP hD hk1 hFc hP1 hD1
    have hKm_6 := va_K.moved hvm.symm hK1
    generalize H1 = H at hP hS ⊢
    refine lv_pop hx hb dL_law_806 rfl ?_
    refine lv_goto (tgt := 1049) hx hb dL_law_807 (by decide) ?_
    refine lv_iinc (v := (nI (i + 6))) (lv' := [(4, .int (nI (i + 6))), (3, .ref (ad 104)), (2, .ref m0), (1, .ref x0), (0, .ref b)]) hx hb dL_law_1049 hl (k := 0) rfl (nI_add _ 6) (by decide) rfl (fun ls hl => ?_)
    refine lv_goto (tgt := 23) hx hb dL_law_1052 (by decide) ?_
    refine W.widen (k := 150 + 23 * (i + 6)) (n := 3000 + 300 * (i + 6)) (by omega) (by omega) ?_
    exact K _ _ _ ⟨by omega, Gx_3, Gm_6, wx_3, wm_6, tx_3, tm_6, hIx_3, (Or.inl hIm_6), (rel_l hrl hrel_3.2.1 hrel_6.2.1 hrel_3.2.2 hrel_6.2.2), hKx_3, hKm_6, hP, hD, hS, lv_sub hl [0, 1, 2, 3, 4] rfl⟩
  · skip
    have hPc := ap_r hP
    have hDc := ad_r hD
    have hKc := hKm
    have hFc := fr_O hDc hS hA
    obtain ⟨fs9, hrc⟩ := MB_rc hMI
    refine va_calli (va_runV (As := [.int v_2]) (rest := []) ⟨hx, hb, hml, hown, hts⟩ (B_out l dC dI s.heap.size atx H.size md mk9 m0 Gm wm tm v_2 hMI ) (cwV 1 hts (gV (fun w h => id h) wd_2038 wd_2035 wd_2036 wd_2037 wd_127) rfl rfl rfl (by decide +kernel) ⟨Nat.le_of_ble_eq_true rfl, Nat.le_of_ble_eq_true rfl⟩) ⟨fun a U g mk q => by obtain ⟨q0, q1, q2, qG, qP, qK, qD⟩ := q; exact ⟨q0, q1, q2, GW.blind qG, qP, va_K.moved (u := U) (U := U.calling g mk a) (Vm.Alike.refl U.vm) qK, qD⟩, va_recv hKc hPc (ci := 14) (q0 := 0) rfl hrc, fun U hU hW => ⟨rfl, by rw [hU], Nat.le_trans hn0 hS.1, GW.go hW hU hG (fun q hq hA9 => hS.2.1 q hq (fun h => hA9 (hA0 q h))), by rw [hU]; exact hPc, va_K.moved hW.alike hKc, hDc.weaken (fun _ _ _ h => hA0 _ h)⟩⟩ rfl rfl hl.1 rfl (lv_room (Nat.le_of_ble_eq_true rfl)) dL_law_803 ⟨(by show _ ≤ (601024 : Nat); omega), (by show _ ≤ (7293034 : Nat); omega)⟩) hS (fun q _ h => hFc q h) hFc (fun r_7 u t H1 locs ht hvm hw_7 hB hz1 hk1 hS => ?_)
    subst hw_7
    obtain ⟨Gm_7, wm_7, tm_7, hIm_7, hrel_7, hP1, hK1, hD1⟩ := hB
    rw [ht] at hP1
    obtain ⟨hP, hD⟩ := jo_r hP hD hk1 hFc hP1 hD1
    have hKm_7 := va_K.moved hvm.symm hK1
    generalize H1 = H at hP hS ⊢
    refine lv_pop hx hb dL_law_806 rfl ?_
    refine lv_goto (tgt := 1049) hx hb dL_law_807 (by decide) ?_
    refine lv_iinc (v := (nI (i + 6))) (lv' := [(4, .int (nI (i + 6))), (3, .ref (ad 104)), (2, .ref m0), (1, .ref x0), (0, .ref b)]) hx hb dL_law_1049 hl (k := 0) rfl (nI_add _ 6) (by decide) rfl (fun ls hl => ?_)
    refine lv_goto (tgt := 23) hx hb dL_law_1052 (by decide) ?_
    refine W.widen (k := 150 + 23 * (i + 6)) (n := 3000 + 300 * (i + 6)) (by omega) (by omega) ?_
    exact K _ _ _ ⟨by omega, Gx_3, Gm_7, wx_3, wm_7, tx_3, tm_7, hIx_3, (Or.inr hIm_7), (rel_l hrl hrel_3.2.1 hrel_7.2.1 hrel_3.2.2 hrel_7.2.2), hKx_3, hKm_7, hP, hD, hS, lv_sub hl [0, 1, 2, 3, 4] rfl⟩
set_option maxHeartbeats 4000000 in
set_option maxRecDepth 100000 in
theorem law_22 {p : Program} {l : Launch} {e : Env} {s : State} {m : MethodId} {below : List Frame} {meth : Method} {c : Code} {dC : Nat → ClassId} {dI : Nat → Nat → Nat} {b L : Nat} {xs : Nat → Int32} (hst : l.stackTraces = false) (hL : L ≤ 3072) (C0 : lw_At p s m meth c b L xs) (atx : Nat → Nat × Nat) (hG : GW s.heap.size atx s) (ad : Nat → Nat) (ka : Nat → ClassId) (x0 : Nat) (md : Nat → Nat) (mk9 : Nat → ClassId) (m0 : Nat) (i : Nat) (hi : i + 6 ≤ L) (K : ∀ (H : Heap) (locs : List Loc) (ls : Array Slot), LV dC dI s b L ad ka x0 md mk9 m0 (i + 6) H locs ls → W p l e room_1 s m #[Value.ref b] below meth c H locs (150 + 23 * (i + 6)) (3000 + 300 * (i + 6)) (lw_Z below #[Value.ref b] s) (F0 m 23 ls [])) (H : Heap) (locs : List Loc) (ls : Array Slot) (Gx Gm : Nat → Int) (wx wm : va_W) (tx tm : List (ClassId × FieldType)) (hXI : XI ad ka x0 Gx wx tx) (hMI : MZ md mk9 m0 Gm wm tm ∨ MB md mk9 m0 Gm wm tm) (hrl : REL Gx Gm) (hKx : va_K (dC, dI) classes tx s) (hKm : va_K (dC, dI) classes tm s) (hP : va_P (dC, dI) classes (wx ++ wm) H) (hD : va_D (fun q : Nat => s.heap.size ≤ q) (wx ++ wm)) (hS : va_S (fun q : Nat => s.heap.size ≤ q) s.heap H locs) (hl : lv_has ls 7 [(4, .int (nI i)), (3, .ref (ad 104)), (2, .ref m0), (1, .ref x0), (0, .ref b)]) : W p l e room_1 s m #[Value.ref b] below meth c H locs (150 + 23 * i) (3000 + 300 * i) (lw_Z below #[Value.ref b] s) (F0 m 810 ls []) := by
  obtain ⟨hx, hb, hr, hml, hown, hts0, hX, hbl, hlocks, hgv⟩ := C0
  have hts : ∀ w ∈ wG, w.before #[Value.ref b] s = true := fun w h => hts0 w (wG_t h)
  have hA : ∀ q : Nat, s.heap.size ≤ q → (fun q : Nat => s.heap.size ≤ q) q := fun _ h => h
  have hA0 : ∀ q : Nat, (fun q : Nat => s.heap.size ≤ q) q → s.heap.size ≤ q := fun _ h => h
  have hn0 : s.heap.size ≤ s.heap.size := Nat.le_refl _
  have hbA : ¬ (fun q : Nat => s.heap.size ≤ q) b := Nat.not_le.mpr hbl
  have hrl0 := rel0 hrl
  refine lv_aload_n hx hb dL_law_810 rfl (lv_at hl 3 rfl) ?_
  refine lv_aload_n hx hb dL_law_811 rfl (lv_at hl 4 rfl) ?_
  refine lv_iload hx hb dL_law_812 (lv_at hl 0 rfl) ?_
  refine lv_iconst (v := 1) hx hb dL_law_814 (by decide) ?_
  refine lv_iadd hx hb dL_law_815 ?_
  refine lv_topi (fun v_1 ev_1 => ?_)
  obtain rfl : v_1 = nI (i + 1) := ev_1.trans (nI_add i 1)
  refine va_sld hx hb hX hbl hbA hS (vp_in_nI (n := (i + 1)) (by omega) (by omega)) dL_law_816 ?_
  refine lv_topi (fun v_2 ev_2 => ?_)
  refine lv_aload_n hx hb dL_law_817 rfl (lv_at hl 4 rfl) ?_
  refine lv_iload hx hb dL_law_818 (lv_at hl 0 rfl) ?_
  refine lv_iconst (v := 2) hx hb dL_law_820 (by decide) ?_
  refine lv_iadd hx hb dL_law_821 ?_
  refine lv_topi (fun v_3 ev_3 => ?_)
  obtain rfl : v_3 = nI (i + 2) := ev_3.trans (nI_add i 2)
  refine va_sld hx hb hX hbl hbA hS (vp_in_nI (n := (i + 2)) (by omega) (by omega)) dL_law_822 ?_
  refine lv_topi (fun v_4 ev_4 => ?_)
  refine lv_aload_n hx hb dL_law_823 rfl (lv_at hl 4 rfl) ?_
  refine lv_iload hx hb dL_law_824 (lv_at hl 0 rfl) ?_
  refine lv_iconst (v := 3) hx hb dL_law_826 (by decide) ?_
  refine lv_iadd hx hb dL_law_827 ?_
  refine lv_topi (fun v_5 ev_5 => ?_)
  obtain rfl : v_5 = nI (i + 3) := ev_5.trans (nI_add i 3)
  refine va_sld hx hb hX hbl hbA hS (vp_in_nI (n := (i + 3)) (by omega) (by omega)) dL_law_828 ?_
  refine lv_topi (fun v_6 ev_6 => ?_)
  have hPc := ap_l hP
  have hDc := ad_l hD
  have hKc := hKx
  have hFc := fr_O hDc hS hA
  obtain ⟨fs9, hrc⟩ := XI_rc hXI
  refine va_calli (va_runV (As := [.int v_2, .int v_4, .int v_6]) (rest := []) ⟨hx, hb, hml, hown, hts⟩ (X_change l dC dI s.heap.size atx H.size ad ka x0 Gx wx tx v_2 v_4 v_6 hXI ) (cwV 3 hts (gV (fun w h => id h) wd_1261 wd_1258 wd_1259 wd_1260 wd_114) rfl rfl rfl (by decide +kernel) ⟨Nat.le_of_ble_eq_true rfl, Nat.le_of_ble_eq_true rfl⟩) ⟨fun a U g mk q => by obtain ⟨q0, q1, q2, qG, qP, qK, qD⟩ := q; exact ⟨q0, q1, q2, GW.blind qG, qP, va_K.moved (u := U) (U := U.calling g mk a) (Vm.Alike.refl U.vm) qK, qD⟩, va_recv hKc hPc (ci := 11) (q0 := 0) rfl hrc, fun U hU hW => ⟨rfl, by rw [hU], Nat.le_trans hn0 hS.1, GW.go hW hU hG (fun q hq hA9 => hS.2.1 q hq (fun h => hA9 (hA0 q h))), by rw [hU]; exact hPc, va_K.moved hW.alike hKc, hDc.weaken (fun _ _ _ h => hA0 _ h)⟩⟩ rfl rfl hl.1 rfl (lv_room (Nat.le_of_ble_eq_true rfl)) dL_law_829 ⟨(by show _ ≤ (601024 : Nat); omega), (by show _ ≤ (7293034 : Nat); omega)⟩) hS (fun q _ h => hFc q h) hFc (fun r_7 u t H1 locs ht hvm hw_7 hB hz1 hk1 hS => ?_)
  subst hw_7
  obtain ⟨Gx_7, wx_7, tx_7, hIx_7, hrel_7, hP1, hK1, hD1⟩ := hB
  rw [ht] at hP1
  obtain ⟨hP, hD⟩ := jo_l hP hD hk1 hFc hP1 hD1
  have hKx_7 := va_K.moved hvm.symm hK1
  generalize H1 = H at hP hS ⊢
  refine lv_pop hx hb dL_law_832 rfl ?_
  refine lv_aload_n hx hb dL_law_833 rfl (lv_at hl 2 rfl) ?_
  refine lv_aload_n hx hb dL_law_834 rfl (lv_at hl 4 rfl) ?_
  refine lv_iload hx hb dL_law_835 (lv_at hl 0 rfl) ?_
  refine lv_iconst (v := 1) hx hb dL_law_837 (by decide) ?_
  refine lv_iadd hx hb dL_law_838 ?_
  refine lv_topi (fun v_8 ev_8 => ?_)
  obtain rfl : v_8 = nI (i + 1) := ev_8.trans (nI_add i 1)
  refine va_sld hx hb hX hbl hbA hS (vp_in_nI (n := (i + 1)) (by omega) (by omega)) dL_law_839 ?_
  refine lv_topi (fun v_9 ev_9 => ?_)
  obtain rfl : v_2 = v_9 := (ev_9.trans ev_2.symm).symm
  refine lv_aload_n hx hb dL_law_840 rfl (lv_at hl 4 rfl) ?_
  refine lv_iload hx hb dL_law_841 (lv_at hl 0 rfl) ?_
  refine lv_iconst (v := 2) hx hb dL_law_843 (by decide) ?_
  refine lv_iadd hx hb dL_law_844 ?_
  refine lv_topi (fun v_10 ev_10 => ?_)
  obtain rfl : v_10 = nI (i + 2) := ev_10.trans (nI_add i 2)
  refine va_sld hx hb hX hbl hbA hS (vp_in_nI (n := (i + 2)) (by omega) (by omega)) dL_law_845 ?_
  refine lv_topi (fun v_11 ev_11 => ?_)
  obtain rfl : v_4 = v_11 := (ev_11.trans ev_4.symm).symm
  refine lv_aload_n hx hb dL_law_846 rfl (lv_at hl 4 rfl) ?_
  refine lv_iload hx hb dL_law_847 (lv_at hl 0 rfl) ?_
  refine lv_iconst (v := 3) hx hb dL_law_849 (by decide) ?_
  refine lv_iadd hx hb dL_law_850 ?_
  refine lv_topi (fun v_12 ev_12 => ?_)
  obtain rfl : v_12 = nI (i + 3) := ev_12.trans (nI_add i 3)
  refine va_sld hx hb hX hbl hbA hS (vp_in_nI (n := (i + 3)) (by omega) (by omega)) dL_law_851 ?_
  refine lv_topi (fun v_13 ev_13 => ?_)
  obtain rfl : v_6 = v_13 := (ev_13.trans ev_6.symm).symm
  rcases hMI with hMI | hMI
  · skip
    have hPc := ap_r hP
    have hDc := ad_r hD
    have hKc := hKm
    have hFc := fr_O hDc hS hA
    obtain ⟨fs9, hrc⟩ := MZ_rc hMI
    refine va_calli (va_runV (As := [.int v_2, .int v_4, .int v_6]) (rest := []) ⟨hx, hb, hml, hown, hts⟩ (Z_change l dC dI s.heap.size atx H.size md mk9 m0 Gm wm tm v_2 v_4 v_6 hMI ) (cwV 3 hts (gV (fun w h => id h) wd_2050 wd_2047 wd_2048 wd_2049 wd_127) rfl rfl rfl (by decide +kernel) ⟨Nat.le_of_ble_eq_true rfl, Nat.le_of_ble_eq_true rfl⟩) ⟨fun a U g mk q => by obtain ⟨q0, q1, q2, qG, qP, qK, qD⟩ := q; exact ⟨q0, q1, q2, GW.blind qG, qP, va_K.moved (u := U) (U := U.calling g mk a) (Vm.Alike.refl U.vm) qK, qD⟩, va_recv hKc hPc (ci := 14) (q0 := 0) rfl hrc, fun U hU hW => ⟨rfl, by rw [hU], Nat.le_trans hn0 hS.1, GW.go hW hU hG (fun q hq hA9 => hS.2.1 q hq (fun h => hA9 (hA0 q h))), by rw [hU]; exact hPc, va_K.moved hW.alike hKc, hDc.weaken (fun _ _ _ h => hA0 _ h)⟩⟩ rfl rfl hl.1 rfl (lv_room (Nat.le_of_ble_eq_true rfl)) dL_law_852 ⟨(by show _ ≤ (601024 : Nat); omega), (by show _ ≤ (7293034 : Nat); omega)⟩) hS (fun q _ h => hFc q h) hFc (fun r_14 u t H1 locs ht hvm hw_14 hB hz1 hk1 hS => ?_)
    subst hw_14
    obtain ⟨Gm_14, wm_14, tm_14, hIm_14, hrel_14, hP1, hK1, hD1⟩ := hB
    rw [ht] at hP1
    obtain ⟨hP, hD⟩ := jo_r hP hD hk1 hFc hP1 hD1
    have hKm_14 := va_K.moved hvm.symm hK1
    generalize H1 = H at hP hS ⊢
    refine lv_pop hx hb dL_law_855 rfl ?_
    refine lv_goto (tgt := 1049) hx hb dL_law_856 (by decide) ?_
    refine lv_iinc (v := (nI (i + 6))) (lv' := [(4, .int (nI (i + 6))), (3, .ref (ad 104)), (2, .ref m0), (1, .ref x0), (0, .ref b)]) hx hb dL_law_1049 hl (k := 0) rfl (nI_add _ 6) (by decide) rfl (fun ls hl => ?_)
    refine lv_goto (tgt := 23) hx hb dL_law_1052 (by decide) ?_
    refine W.widen (k := 150 + 23 * (i + 6)) (n := 3000 + 300 * (i + 6)) (by omega) (by omega) ?_
    exact K _ _ _ ⟨by omega, Gx_7, Gm_14, wx_7, wm_14, tx_7, tm_14, hIx_7, (Or.inl hIm_14), (rel_l hrl hrel_7.2.1 hrel_14.2.1 hrel_7.2.2 hrel_14.2.2), hKx_7, hKm_14, hP, hD, hS, lv_sub hl [0, 1, 2, 3, 4] rfl⟩
  · skip
    have hPc := ap_r hP
    have hDc := ad_r hD
    have hKc := hKm
    have hFc := fr_O hDc hS hA
    obtain ⟨fs9, hrc⟩ := MB_rc hMI
    refine va_calli (va_runV (As := [.int v_2, .int v_4, .int v_6]) (rest := []) ⟨hx, hb, hml, hown, hts⟩ (B_change l dC dI s.heap.size atx H.size md mk9 m0 Gm wm tm v_2 v_4 v_6 hMI ) (cwV 3 hts (gV (fun w h => id h) wd_2050 wd_2047 wd_2048 wd_2049 wd_127) rfl rfl rfl (by decide +kernel) ⟨Nat.le_of_ble_eq_true rfl, Nat.le_of_ble_eq_true rfl⟩) ⟨fun a U g mk q => by obtain ⟨q0, q1, q2, qG, qP, qK, qD⟩ := q; exact ⟨q0, q1, q2, GW.blind qG, qP, va_K.moved (u := U) (U := U.calling g mk a) (Vm.Alike.refl U.vm) qK, qD⟩, va_recv hKc hPc (ci := 14) (q0 := 0) rfl hrc, fun U hU hW => ⟨rfl, by rw [hU], Nat.le_trans hn0 hS.1, GW.go hW hU hG (fun q hq hA9 => hS.2.1 q hq (fun h => hA9 (hA0 q h))), by rw [hU]; exact hPc, va_K.moved hW.alike hKc, hDc.weaken (fun _ _ _ h => hA0 _ h)⟩⟩ rfl rfl hl.1 rfl (lv_room (Nat.le_of_ble_eq_true rfl)) dL_law_852 ⟨(by show _ ≤ (601024 : Nat); omega), (by show _ ≤ (7293034 : Nat); omega)⟩) hS (fun q _ h => hFc q h) hFc (fun r_15 u t H1 locs ht hvm hw_15 hB hz1 hk1 hS => ?_)
    subst hw_15
    obtain ⟨Gm_15, wm_15, tm_15, hIm_15, hrel_15, hP1, hK1, hD1⟩ := hB
    rw [ht] at hP1
    obtain ⟨hP, hD⟩ := jo_r hP hD hk1 hFc hP1 hD1
    have hKm_15 := va_K.moved hvm.symm hK1
    generalize H1 = H at hP hS ⊢
    refine lv_pop hx hb dL_law_855 rfl ?_
    refine lv_goto (tgt := 1049) hx hb dL_law_856 (by decide) ?_
    refine lv_iinc (v := (nI (i + 6))) (lv' := [(4, .int (nI (i + 6))), (3, .ref (ad 104)), (2, .ref m0), (1, .ref x0), (0, .ref b)]) hx hb dL_law_1049 hl (k := 0) rfl (nI_add _ 6) (by decide) rfl (fun ls hl => ?_)
    refine lv_goto (tgt := 23) hx hb dL_law_1052 (by decide) ?_
    refine W.widen (k := 150 + 23 * (i + 6)) (n := 3000 + 300 * (i + 6)) (by omega) (by omega) ?_
    exact K _ _ _ ⟨by omega, Gx_7, Gm_15, wx_7, wm_15, tx_7, tm_15, hIx_7, (Or.inr hIm_15), (rel_l hrl hrel_7.2.1 hrel_15.2.1 hrel_7.2.2 hrel_15.2.2), hKx_7, hKm_15, hP, hD, hS, lv_sub hl [0, 1, 2, 3, 4] rfl⟩
set_option maxHeartbeats 4000000 in
set_option maxRecDepth 100000 in
theorem law_23 {p : Program} {l : Launch} {e : Env} {s : State} {m : MethodId} {below : List Frame} {meth : Method} {c : Code} {dC : Nat → ClassId} {dI : Nat → Nat → Nat} {b L : Nat} {xs : Nat → Int32} (hst : l.stackTraces = false) (hL : L ≤ 3072) (C0 : lw_At p s m meth c b L xs) (atx : Nat → Nat × Nat) (hG : GW s.heap.size atx s) (ad : Nat → Nat) (ka : Nat → ClassId) (x0 : Nat) (md : Nat → Nat) (mk9 : Nat → ClassId) (m0 : Nat) (i : Nat) (hi : i + 6 ≤ L) (K : ∀ (H : Heap) (locs : List Loc) (ls : Array Slot), LV dC dI s b L ad ka x0 md mk9 m0 (i + 6) H locs ls → W p l e room_1 s m #[Value.ref b] below meth c H locs (150 + 23 * (i + 6)) (3000 + 300 * (i + 6)) (lw_Z below #[Value.ref b] s) (F0 m 23 ls [])) (H : Heap) (locs : List Loc) (ls : Array Slot) (Gx Gm : Nat → Int) (wx wm : va_W) (tx tm : List (ClassId × FieldType)) (hXI : XI ad ka x0 Gx wx tx) (hMI : MZ md mk9 m0 Gm wm tm ∨ MB md mk9 m0 Gm wm tm) (hrl : REL Gx Gm) (hKx : va_K (dC, dI) classes tx s) (hKm : va_K (dC, dI) classes tm s) (hP : va_P (dC, dI) classes (wx ++ wm) H) (hD : va_D (fun q : Nat => s.heap.size ≤ q) (wx ++ wm)) (hS : va_S (fun q : Nat => s.heap.size ≤ q) s.heap H locs) (hl : lv_has ls 7 [(4, .int (nI i)), (3, .ref (ad 104)), (2, .ref m0), (1, .ref x0), (0, .ref b)]) : W p l e room_1 s m #[Value.ref b] below meth c H locs (150 + 23 * i) (3000 + 300 * i) (lw_Z below #[Value.ref b] s) (F0 m 859 ls []) := by
  obtain ⟨hx, hb, hr, hml, hown, hts0, hX, hbl, hlocks, hgv⟩ := C0
  have hts : ∀ w ∈ wG, w.before #[Value.ref b] s = true := fun w h => hts0 w (wG_t h)
  have hA : ∀ q : Nat, s.heap.size ≤ q → (fun q : Nat => s.heap.size ≤ q) q := fun _ h => h
  have hA0 : ∀ q : Nat, (fun q : Nat => s.heap.size ≤ q) q → s.heap.size ≤ q := fun _ h => h
  have hn0 : s.heap.size ≤ s.heap.size := Nat.le_refl _
  have hbA : ¬ (fun q : Nat => s.heap.size ≤ q) b := Nat.not_le.mpr hbl
  have hrl0 := rel0 hrl
  refine lv_aload_n hx hb dL_law_859 rfl (lv_at hl 3 rfl) ?_
  refine lv_aload_n hx hb dL_law_860 rfl (lv_at hl 4 rfl) ?_
  refine lv_iload hx hb dL_law_861 (lv_at hl 0 rfl) ?_
  refine lv_iconst (v := 1) hx hb dL_law_863 (by decide) ?_
  refine lv_iadd hx hb dL_law_864 ?_
  refine lv_topi (fun v_1 ev_1 => ?_)
  obtain rfl : v_1 = nI (i + 1) := ev_1.trans (nI_add i 1)
  refine va_sld hx hb hX hbl hbA hS (vp_in_nI (n := (i + 1)) (by omega) (by omega)) dL_law_865 ?_
  refine lv_topi (fun v_2 ev_2 => ?_)
  have hPc := ap_l hP
  have hDc := ad_l hD
  have hKc := hKx
  have hFc := fr_O hDc hS hA
  obtain ⟨fs9, hrc⟩ := XI_rc hXI
  refine va_calli (va_runV (As := [.int v_2]) (rest := []) ⟨hx, hb, hml, hown, hts⟩ (X_order l dC dI s.heap.size atx H.size ad ka x0 Gx wx tx v_2 hXI ) (cwV 1 hts (gV (fun w h => id h) wd_1274 wd_1271 wd_1272 wd_1273 wd_114) rfl rfl rfl (by decide +kernel) ⟨Nat.le_of_ble_eq_true rfl, Nat.le_of_ble_eq_true rfl⟩) ⟨fun a U g mk q => by obtain ⟨q0, q1, q2, qG, qP, qK, qD⟩ := q; exact ⟨q0, q1, q2, GW.blind qG, qP, va_K.moved (u := U) (U := U.calling g mk a) (Vm.Alike.refl U.vm) qK, qD⟩, va_recv hKc hPc (ci := 11) (q0 := 0) rfl hrc, fun U hU hW => ⟨rfl, by rw [hU], Nat.le_trans hn0 hS.1, GW.go hW hU hG (fun q hq hA9 => hS.2.1 q hq (fun h => hA9 (hA0 q h))), by rw [hU]; exact hPc, va_K.moved hW.alike hKc, hDc.weaken (fun _ _ _ h => hA0 _ h)⟩⟩ rfl rfl hl.1 rfl (lv_room (Nat.le_of_ble_eq_true rfl)) dL_law_866 ⟨(by show _ ≤ (601024 : Nat); omega), (by show _ ≤ (7293034 : Nat); omega)⟩) hS (fun q _ h => hFc q h) hFc (fun r_3 u t H1 locs ht hvm hw_3 hB hz1 hk1 hS => ?_)
  subst hw_3
  obtain ⟨Gx_3, wx_3, tx_3, hIx_3, hrel_3, hP1, hK1, hD1⟩ := hB
  rw [ht] at hP1
  obtain ⟨hP, hD⟩ := jo_l hP hD hk1 hFc hP1 hD1
  have hKx_3 := va_K.moved hvm.symm hK1
  generalize H1 = H at hP hS ⊢
  refine lv_pop hx hb dL_law_869 rfl ?_
  refine lv_aload_n hx hb dL_law_870 rfl (lv_at hl 2 rfl) ?_
  refine lv_aload_n hx hb dL_law_871 rfl (lv_at hl 4 rfl) ?_
  refine lv_iload hx hb dL_law_872 (lv_at hl 0 rfl) ?_
  refine lv_iconst (v := 1) hx hb dL_law_874 (by decide) ?_
  refine lv_iadd hx hb dL_law_875 ?_
  refine lv_topi (fun v_4 ev_4 => ?_)
  obtain rfl : v_4 = nI (i + 1) := ev_4.trans (nI_add i 1)
  refine va_sld hx hb hX hbl hbA hS (vp_in_nI (n := (i + 1)) (by omega) (by omega)) dL_law_876 ?_
  refine lv_topi (fun v_5 ev_5 => ?_)
  obtain rfl : v_2 = v_5 := (ev_5.trans ev_2.symm).symm
  rcases hMI with hMI | hMI
  · skip
    have hPc := ap_r hP
    have hDc := ad_r hD
    have hKc := hKm
    have hFc := fr_O hDc hS hA
    obtain ⟨fs9, hrc⟩ := MZ_rc hMI
    refine va_calli (va_runV (As := [.int v_2]) (rest := []) ⟨hx, hb, hml, hown, hts⟩ (Z_order l dC dI s.heap.size atx H.size md mk9 m0 Gm wm tm v_2 hMI ) (cwV 1 hts (gV (fun w h => id h) wd_2054 wd_2051 wd_2052 wd_2053 wd_127) rfl rfl rfl (by decide +kernel) ⟨Nat.le_of_ble_eq_true rfl, Nat.le_of_ble_eq_true rfl⟩) ⟨fun a U g mk q => by obtain ⟨q0, q1, q2, qG, qP, qK, qD⟩ := q; exact ⟨q0, q1, q2, GW.blind qG, qP, va_K.moved (u := U) (U := U.calling g mk a) (Vm.Alike.refl U.vm) qK, qD⟩, va_recv hKc hPc (ci := 14) (q0 := 0) rfl hrc, fun U hU hW => ⟨rfl, by rw [hU], Nat.le_trans hn0 hS.1, GW.go hW hU hG (fun q hq hA9 => hS.2.1 q hq (fun h => hA9 (hA0 q h))), by rw [hU]; exact hPc, va_K.moved hW.alike hKc, hDc.weaken (fun _ _ _ h => hA0 _ h)⟩⟩ rfl rfl hl.1 rfl (lv_room (Nat.le_of_ble_eq_true rfl)) dL_law_877 ⟨(by show _ ≤ (601024 : Nat); omega), (by show _ ≤ (7293034 : Nat); omega)⟩) hS (fun q _ h => hFc q h) hFc (fun r_6 u t H1 locs ht hvm hw_6 hB hz1 hk1 hS => ?_)
    subst hw_6
    obtain ⟨Gm_6, wm_6, tm_6, hIm_6, hrel_6, hP1, hK1, hD1⟩ := hB
    rw [ht] at hP1
    obtain ⟨hP, hD⟩ := jo_r hP hD hk1 hFc hP1 hD1
    have hKm_6 := va_K.moved hvm.symm hK1
    generalize H1 = H at hP hS ⊢
    refine lv_pop hx hb dL_law_880 rfl ?_
    refine lv_goto (tgt := 1049) hx hb dL_law_881 (by decide) ?_
    refine lv_iinc (v := (nI (i + 6))) (lv' := [(4, .int (nI (i + 6))), (3, .ref (ad 104)), (2, .ref m0), (1, .ref x0), (0, .ref b)]) hx hb dL_law_1049 hl (k := 0) rfl (nI_add _ 6) (by decide) rfl (fun ls hl => ?_)
    refine lv_goto (tgt := 23) hx hb dL_law_1052 (by decide) ?_
    refine W.widen (k := 150 + 23 * (i + 6)) (n := 3000 + 300 * (i + 6)) (by omega) (by omega) ?_
    exact K _ _ _ ⟨by omega, Gx_3, Gm_6, wx_3, wm_6, tx_3, tm_6, hIx_3, (Or.inl hIm_6), (rel_l hrl hrel_3.2.1 hrel_6.2.1 hrel_3.2.2 hrel_6.2.2), hKx_3, hKm_6, hP, hD, hS, lv_sub hl [0, 1, 2, 3, 4] rfl⟩
  · skip
    have hPc := ap_r hP
    have hDc := ad_r hD
    have hKc := hKm
    have hFc := fr_O hDc hS hA
    obtain ⟨fs9, hrc⟩ := MB_rc hMI
    refine va_calli (va_runV (As := [.int v_2]) (rest := []) ⟨hx, hb, hml, hown, hts⟩ (B_order l dC dI s.heap.size atx H.size md mk9 m0 Gm wm tm v_2 hMI ) (cwV 1 hts (gV (fun w h => id h) wd_2054 wd_2051 wd_2052 wd_2053 wd_127) rfl rfl rfl (by decide +kernel) ⟨Nat.le_of_ble_eq_true rfl, Nat.le_of_ble_eq_true rfl⟩) ⟨fun a U g mk q => by obtain ⟨q0, q1, q2, qG, qP, qK, qD⟩ := q; exact ⟨q0, q1, q2, GW.blind qG, qP, va_K.moved (u := U) (U := U.calling g mk a) (Vm.Alike.refl U.vm) qK, qD⟩, va_recv hKc hPc (ci := 14) (q0 := 0) rfl hrc, fun U hU hW => ⟨rfl, by rw [hU], Nat.le_trans hn0 hS.1, GW.go hW hU hG (fun q hq hA9 => hS.2.1 q hq (fun h => hA9 (hA0 q h))), by rw [hU]; exact hPc, va_K.moved hW.alike hKc, hDc.weaken (fun _ _ _ h => hA0 _ h)⟩⟩ rfl rfl hl.1 rfl (lv_room (Nat.le_of_ble_eq_true rfl)) dL_law_877 ⟨(by show _ ≤ (601024 : Nat); omega), (by show _ ≤ (7293034 : Nat); omega)⟩) hS (fun q _ h => hFc q h) hFc (fun r_7 u t H1 locs ht hvm hw_7 hB hz1 hk1 hS => ?_)
    subst hw_7
    obtain ⟨Gm_7, wm_7, tm_7, hIm_7, hrel_7, hP1, hK1, hD1⟩ := hB
    rw [ht] at hP1
    obtain ⟨hP, hD⟩ := jo_r hP hD hk1 hFc hP1 hD1
    have hKm_7 := va_K.moved hvm.symm hK1
    generalize H1 = H at hP hS ⊢
    refine lv_pop hx hb dL_law_880 rfl ?_
    refine lv_goto (tgt := 1049) hx hb dL_law_881 (by decide) ?_
    refine lv_iinc (v := (nI (i + 6))) (lv' := [(4, .int (nI (i + 6))), (3, .ref (ad 104)), (2, .ref m0), (1, .ref x0), (0, .ref b)]) hx hb dL_law_1049 hl (k := 0) rfl (nI_add _ 6) (by decide) rfl (fun ls hl => ?_)
    refine lv_goto (tgt := 23) hx hb dL_law_1052 (by decide) ?_
    refine W.widen (k := 150 + 23 * (i + 6)) (n := 3000 + 300 * (i + 6)) (by omega) (by omega) ?_
    exact K _ _ _ ⟨by omega, Gx_3, Gm_7, wx_3, wm_7, tx_3, tm_7, hIx_3, (Or.inr hIm_7), (rel_l hrl hrel_3.2.1 hrel_7.2.1 hrel_3.2.2 hrel_7.2.2), hKx_3, hKm_7, hP, hD, hS, lv_sub hl [0, 1, 2, 3, 4] rfl⟩
set_option maxHeartbeats 4000000 in
set_option maxRecDepth 100000 in
theorem law_24 {p : Program} {l : Launch} {e : Env} {s : State} {m : MethodId} {below : List Frame} {meth : Method} {c : Code} {dC : Nat → ClassId} {dI : Nat → Nat → Nat} {b L : Nat} {xs : Nat → Int32} (hst : l.stackTraces = false) (hL : L ≤ 3072) (C0 : lw_At p s m meth c b L xs) (atx : Nat → Nat × Nat) (hG : GW s.heap.size atx s) (ad : Nat → Nat) (ka : Nat → ClassId) (x0 : Nat) (md : Nat → Nat) (mk9 : Nat → ClassId) (m0 : Nat) (i : Nat) (hi : i + 6 ≤ L) (K : ∀ (H : Heap) (locs : List Loc) (ls : Array Slot), LV dC dI s b L ad ka x0 md mk9 m0 (i + 6) H locs ls → W p l e room_1 s m #[Value.ref b] below meth c H locs (150 + 23 * (i + 6)) (3000 + 300 * (i + 6)) (lw_Z below #[Value.ref b] s) (F0 m 23 ls [])) (H : Heap) (locs : List Loc) (ls : Array Slot) (Gx Gm : Nat → Int) (wx wm : va_W) (tx tm : List (ClassId × FieldType)) (hXI : XI ad ka x0 Gx wx tx) (hMI : MZ md mk9 m0 Gm wm tm ∨ MB md mk9 m0 Gm wm tm) (hrl : REL Gx Gm) (hKx : va_K (dC, dI) classes tx s) (hKm : va_K (dC, dI) classes tm s) (hP : va_P (dC, dI) classes (wx ++ wm) H) (hD : va_D (fun q : Nat => s.heap.size ≤ q) (wx ++ wm)) (hS : va_S (fun q : Nat => s.heap.size ≤ q) s.heap H locs) (hl : lv_has ls 7 [(4, .int (nI i)), (3, .ref (ad 104)), (2, .ref m0), (1, .ref x0), (0, .ref b)]) : W p l e room_1 s m #[Value.ref b] below meth c H locs (150 + 23 * i) (3000 + 300 * i) (lw_Z below #[Value.ref b] s) (F0 m 884 ls []) := by
  obtain ⟨hx, hb, hr, hml, hown, hts0, hX, hbl, hlocks, hgv⟩ := C0
  have hts : ∀ w ∈ wG, w.before #[Value.ref b] s = true := fun w h => hts0 w (wG_t h)
  have hA : ∀ q : Nat, s.heap.size ≤ q → (fun q : Nat => s.heap.size ≤ q) q := fun _ h => h
  have hA0 : ∀ q : Nat, (fun q : Nat => s.heap.size ≤ q) q → s.heap.size ≤ q := fun _ h => h
  have hn0 : s.heap.size ≤ s.heap.size := Nat.le_refl _
  have hbA : ¬ (fun q : Nat => s.heap.size ≤ q) b := Nat.not_le.mpr hbl
  have hrl0 := rel0 hrl
  refine lv_aload_n hx hb dL_law_884 rfl (lv_at hl 3 rfl) ?_
  have hPc := ap_l hP
  have hDc := ad_l hD
  have hKc := hKx
  have hFc := fr_O hDc hS hA
  obtain ⟨fs9, hrc⟩ := XI_rc hXI
  refine va_calli (va_runV (As := []) (rest := []) ⟨hx, hb, hml, hown, hts⟩ (X_make l dC dI s.heap.size atx H.size ad ka x0 Gx wx tx  hXI ) (cwV 0 hts (gV (fun w h => id h) wd_1301 wd_1298 wd_1299 wd_1300 wd_114) rfl rfl rfl (by decide +kernel) ⟨Nat.le_of_ble_eq_true rfl, Nat.le_of_ble_eq_true rfl⟩) ⟨fun a U g mk q => by obtain ⟨q0, q1, q2, qG, qP, qK, qD⟩ := q; exact ⟨q0, q1, q2, GW.blind qG, qP, va_K.moved (u := U) (U := U.calling g mk a) (Vm.Alike.refl U.vm) qK, qD⟩, va_recv hKc hPc (ci := 11) (q0 := 0) rfl hrc, fun U hU hW => ⟨rfl, by rw [hU], Nat.le_trans hn0 hS.1, GW.go hW hU hG (fun q hq hA9 => hS.2.1 q hq (fun h => hA9 (hA0 q h))), by rw [hU]; exact hPc, va_K.moved hW.alike hKc, hDc.weaken (fun _ _ _ h => hA0 _ h)⟩⟩ rfl rfl hl.1 rfl (lv_room (Nat.le_of_ble_eq_true rfl)) dL_law_885 ⟨(by show _ ≤ (601024 : Nat); omega), (by show _ ≤ (7293034 : Nat); omega)⟩) hS (fun q _ h => hFc q h) hFc (fun r_1 u t H1 locs ht hvm hw_1 hB hz1 hk1 hS => ?_)
  subst hw_1
  obtain ⟨Gx_1, wx_1, tx_1, hIx_1, hrel_1, hP1, hK1, hD1⟩ := hB
  rw [ht] at hP1
  obtain ⟨hP, hD⟩ := jo_l hP hD hk1 hFc hP1 hD1
  have hKx_1 := va_K.moved hvm.symm hK1
  generalize H1 = H at hP hS ⊢
  refine lv_pop hx hb dL_law_888 rfl ?_
  refine lv_aload_n hx hb dL_law_889 rfl (lv_at hl 2 rfl) ?_
  rcases hMI with hMI | hMI
  · skip
    have hPc := ap_r hP
    have hDc := ad_r hD
    have hKc := hKm
    have hFc := fr_O hDc hS hA
    obtain ⟨fs9, hrc⟩ := MZ_rc hMI
    refine va_calli (va_runV (As := []) (rest := []) ⟨hx, hb, hml, hown, hts⟩ (Z_make l dC dI s.heap.size atx H.size md mk9 m0 Gm wm tm  hMI ) (cwV 0 hts (gV (fun w h => id h) wd_2081 wd_2078 wd_2079 wd_2080 wd_127) rfl rfl rfl (by decide +kernel) ⟨Nat.le_of_ble_eq_true rfl, Nat.le_of_ble_eq_true rfl⟩) ⟨fun a U g mk q => by obtain ⟨q0, q1, q2, qG, qP, qK, qD⟩ := q; exact ⟨q0, q1, q2, GW.blind qG, qP, va_K.moved (u := U) (U := U.calling g mk a) (Vm.Alike.refl U.vm) qK, qD⟩, va_recv hKc hPc (ci := 14) (q0 := 0) rfl hrc, fun U hU hW => ⟨rfl, by rw [hU], Nat.le_trans hn0 hS.1, GW.go hW hU hG (fun q hq hA9 => hS.2.1 q hq (fun h => hA9 (hA0 q h))), by rw [hU]; exact hPc, va_K.moved hW.alike hKc, hDc.weaken (fun _ _ _ h => hA0 _ h)⟩⟩ rfl rfl hl.1 rfl (lv_room (Nat.le_of_ble_eq_true rfl)) dL_law_890 ⟨(by show _ ≤ (601024 : Nat); omega), (by show _ ≤ (7293034 : Nat); omega)⟩) hS (fun q _ h => hFc q h) hFc (fun r_2 u t H1 locs ht hvm hw_2 hB hz1 hk1 hS => ?_)
    subst hw_2
    obtain ⟨Gm_2, wm_2, tm_2, hIm_2, hrel_2, hP1, hK1, hD1⟩ := hB
    rw [ht] at hP1
    obtain ⟨hP, hD⟩ := jo_r hP hD hk1 hFc hP1 hD1
    have hKm_2 := va_K.moved hvm.symm hK1
    generalize H1 = H at hP hS ⊢
    refine lv_pop hx hb dL_law_893 rfl ?_
    refine lv_goto (tgt := 1049) hx hb dL_law_894 (by decide) ?_
    refine lv_iinc (v := (nI (i + 6))) (lv' := [(4, .int (nI (i + 6))), (3, .ref (ad 104)), (2, .ref m0), (1, .ref x0), (0, .ref b)]) hx hb dL_law_1049 hl (k := 0) rfl (nI_add _ 6) (by decide) rfl (fun ls hl => ?_)
    refine lv_goto (tgt := 23) hx hb dL_law_1052 (by decide) ?_
    refine W.widen (k := 150 + 23 * (i + 6)) (n := 3000 + 300 * (i + 6)) (by omega) (by omega) ?_
    exact K _ _ _ ⟨by omega, Gx_1, Gm_2, wx_1, wm_2, tx_1, tm_2, hIx_1, (Or.inl hIm_2), (rel_l hrl hrel_1.2.1 hrel_2.2.1 hrel_1.2.2 hrel_2.2.2), hKx_1, hKm_2, hP, hD, hS, lv_sub hl [0, 1, 2, 3, 4] rfl⟩
  · skip
    have hPc := ap_r hP
    have hDc := ad_r hD
    have hKc := hKm
    have hFc := fr_O hDc hS hA
    obtain ⟨fs9, hrc⟩ := MB_rc hMI
    refine va_calli (va_runV (As := []) (rest := []) ⟨hx, hb, hml, hown, hts⟩ (B_make l dC dI s.heap.size atx H.size md mk9 m0 Gm wm tm  hMI ) (cwV 0 hts (gV (fun w h => id h) wd_2081 wd_2078 wd_2079 wd_2080 wd_127) rfl rfl rfl (by decide +kernel) ⟨Nat.le_of_ble_eq_true rfl, Nat.le_of_ble_eq_true rfl⟩) ⟨fun a U g mk q => by obtain ⟨q0, q1, q2, qG, qP, qK, qD⟩ := q; exact ⟨q0, q1, q2, GW.blind qG, qP, va_K.moved (u := U) (U := U.calling g mk a) (Vm.Alike.refl U.vm) qK, qD⟩, va_recv hKc hPc (ci := 14) (q0 := 0) rfl hrc, fun U hU hW => ⟨rfl, by rw [hU], Nat.le_trans hn0 hS.1, GW.go hW hU hG (fun q hq hA9 => hS.2.1 q hq (fun h => hA9 (hA0 q h))), by rw [hU]; exact hPc, va_K.moved hW.alike hKc, hDc.weaken (fun _ _ _ h => hA0 _ h)⟩⟩ rfl rfl hl.1 rfl (lv_room (Nat.le_of_ble_eq_true rfl)) dL_law_890 ⟨(by show _ ≤ (601024 : Nat); omega), (by show _ ≤ (7293034 : Nat); omega)⟩) hS (fun q _ h => hFc q h) hFc (fun r_3 u t H1 locs ht hvm hw_3 hB hz1 hk1 hS => ?_)
    subst hw_3
    obtain ⟨Gm_3, wm_3, tm_3, hIm_3, hrel_3, hP1, hK1, hD1⟩ := hB
    rw [ht] at hP1
    obtain ⟨hP, hD⟩ := jo_r hP hD hk1 hFc hP1 hD1
    have hKm_3 := va_K.moved hvm.symm hK1
    generalize H1 = H at hP hS ⊢
    refine lv_pop hx hb dL_law_893 rfl ?_
    refine lv_goto (tgt := 1049) hx hb dL_law_894 (by decide) ?_
    refine lv_iinc (v := (nI (i + 6))) (lv' := [(4, .int (nI (i + 6))), (3, .ref (ad 104)), (2, .ref m0), (1, .ref x0), (0, .ref b)]) hx hb dL_law_1049 hl (k := 0) rfl (nI_add _ 6) (by decide) rfl (fun ls hl => ?_)
    refine lv_goto (tgt := 23) hx hb dL_law_1052 (by decide) ?_
    refine W.widen (k := 150 + 23 * (i + 6)) (n := 3000 + 300 * (i + 6)) (by omega) (by omega) ?_
    exact K _ _ _ ⟨by omega, Gx_1, Gm_3, wx_1, wm_3, tx_1, tm_3, hIx_1, (Or.inr hIm_3), (rel_l hrl hrel_1.2.1 hrel_3.2.1 hrel_1.2.2 hrel_3.2.2), hKx_1, hKm_3, hP, hD, hS, lv_sub hl [0, 1, 2, 3, 4] rfl⟩
set_option maxHeartbeats 4000000 in
set_option maxRecDepth 100000 in
theorem law_25 {p : Program} {l : Launch} {e : Env} {s : State} {m : MethodId} {below : List Frame} {meth : Method} {c : Code} {dC : Nat → ClassId} {dI : Nat → Nat → Nat} {b L : Nat} {xs : Nat → Int32} (hst : l.stackTraces = false) (hL : L ≤ 3072) (C0 : lw_At p s m meth c b L xs) (atx : Nat → Nat × Nat) (hG : GW s.heap.size atx s) (ad : Nat → Nat) (ka : Nat → ClassId) (x0 : Nat) (md : Nat → Nat) (mk9 : Nat → ClassId) (m0 : Nat) (i : Nat) (hi : i + 6 ≤ L) (K : ∀ (H : Heap) (locs : List Loc) (ls : Array Slot), LV dC dI s b L ad ka x0 md mk9 m0 (i + 6) H locs ls → W p l e room_1 s m #[Value.ref b] below meth c H locs (150 + 23 * (i + 6)) (3000 + 300 * (i + 6)) (lw_Z below #[Value.ref b] s) (F0 m 23 ls [])) (H : Heap) (locs : List Loc) (ls : Array Slot) (Gx Gm : Nat → Int) (wx wm : va_W) (tx tm : List (ClassId × FieldType)) (hXI : XI ad ka x0 Gx wx tx) (hMI : MZ md mk9 m0 Gm wm tm ∨ MB md mk9 m0 Gm wm tm) (hrl : REL Gx Gm) (hKx : va_K (dC, dI) classes tx s) (hKm : va_K (dC, dI) classes tm s) (hP : va_P (dC, dI) classes (wx ++ wm) H) (hD : va_D (fun q : Nat => s.heap.size ≤ q) (wx ++ wm)) (hS : va_S (fun q : Nat => s.heap.size ≤ q) s.heap H locs) (hl : lv_has ls 7 [(4, .int (nI i)), (3, .ref (ad 104)), (2, .ref m0), (1, .ref x0), (0, .ref b)]) : W p l e room_1 s m #[Value.ref b] below meth c H locs (150 + 23 * i) (3000 + 300 * i) (lw_Z below #[Value.ref b] s) (F0 m 897 ls []) := by
  obtain ⟨hx, hb, hr, hml, hown, hts0, hX, hbl, hlocks, hgv⟩ := C0
  have hts : ∀ w ∈ wG, w.before #[Value.ref b] s = true := fun w h => hts0 w (wG_t h)
  have hA : ∀ q : Nat, s.heap.size ≤ q → (fun q : Nat => s.heap.size ≤ q) q := fun _ h => h
  have hA0 : ∀ q : Nat, (fun q : Nat => s.heap.size ≤ q) q → s.heap.size ≤ q := fun _ h => h
  have hn0 : s.heap.size ≤ s.heap.size := Nat.le_refl _
  have hbA : ¬ (fun q : Nat => s.heap.size ≤ q) b := Nat.not_le.mpr hbl
  have hrl0 := rel0 hrl
  refine lv_aload_n hx hb dL_law_897 rfl (lv_at hl 3 rfl) ?_
  refine lv_aload_n hx hb dL_law_898 rfl (lv_at hl 4 rfl) ?_
  refine lv_iload hx hb dL_law_899 (lv_at hl 0 rfl) ?_
  refine lv_iconst (v := 1) hx hb dL_law_901 (by decide) ?_
  refine lv_iadd hx hb dL_law_902 ?_
  refine lv_topi (fun v_1 ev_1 => ?_)
  obtain rfl : v_1 = nI (i + 1) := ev_1.trans (nI_add i 1)
  refine va_sld hx hb hX hbl hbA hS (vp_in_nI (n := (i + 1)) (by omega) (by omega)) dL_law_903 ?_
  refine lv_topi (fun v_2 ev_2 => ?_)
  refine lv_aload_n hx hb dL_law_904 rfl (lv_at hl 4 rfl) ?_
  refine lv_iload hx hb dL_law_905 (lv_at hl 0 rfl) ?_
  refine lv_iconst (v := 2) hx hb dL_law_907 (by decide) ?_
  refine lv_iadd hx hb dL_law_908 ?_
  refine lv_topi (fun v_3 ev_3 => ?_)
  obtain rfl : v_3 = nI (i + 2) := ev_3.trans (nI_add i 2)
  refine va_sld hx hb hX hbl hbA hS (vp_in_nI (n := (i + 2)) (by omega) (by omega)) dL_law_909 ?_
  refine lv_topi (fun v_4 ev_4 => ?_)
  refine lv_aload_n hx hb dL_law_910 rfl (lv_at hl 4 rfl) ?_
  refine lv_iload hx hb dL_law_911 (lv_at hl 0 rfl) ?_
  refine lv_iconst (v := 3) hx hb dL_law_913 (by decide) ?_
  refine lv_iadd hx hb dL_law_914 ?_
  refine lv_topi (fun v_5 ev_5 => ?_)
  obtain rfl : v_5 = nI (i + 3) := ev_5.trans (nI_add i 3)
  refine va_sld hx hb hX hbl hbA hS (vp_in_nI (n := (i + 3)) (by omega) (by omega)) dL_law_915 ?_
  refine lv_topi (fun v_6 ev_6 => ?_)
  have hPc := ap_l hP
  have hDc := ad_l hD
  have hKc := hKx
  have hFc := fr_O hDc hS hA
  obtain ⟨fs9, hrc⟩ := XI_rc hXI
  refine va_calli (va_runV (As := [.int v_2, .int v_4, .int v_6]) (rest := []) ⟨hx, hb, hml, hown, hts⟩ (X_reading l dC dI s.heap.size atx H.size ad ka x0 Gx wx tx v_2 v_4 v_6 hXI ) (cwV 3 hts (gV (fun w h => id h) wd_1309 wd_1306 wd_1307 wd_1308 wd_114) rfl rfl rfl (by decide +kernel) ⟨Nat.le_of_ble_eq_true rfl, Nat.le_of_ble_eq_true rfl⟩) ⟨fun a U g mk q => by obtain ⟨q0, q1, q2, qG, qP, qK, qD⟩ := q; exact ⟨q0, q1, q2, GW.blind qG, qP, va_K.moved (u := U) (U := U.calling g mk a) (Vm.Alike.refl U.vm) qK, qD⟩, va_recv hKc hPc (ci := 11) (q0 := 0) rfl hrc, fun U hU hW => ⟨rfl, by rw [hU], Nat.le_trans hn0 hS.1, GW.go hW hU hG (fun q hq hA9 => hS.2.1 q hq (fun h => hA9 (hA0 q h))), by rw [hU]; exact hPc, va_K.moved hW.alike hKc, hDc.weaken (fun _ _ _ h => hA0 _ h)⟩⟩ rfl rfl hl.1 rfl (lv_room (Nat.le_of_ble_eq_true rfl)) dL_law_916 ⟨(by show _ ≤ (601024 : Nat); omega), (by show _ ≤ (7293034 : Nat); omega)⟩) hS (fun q _ h => hFc q h) hFc (fun r_7 u t H1 locs ht hvm hw_7 hB hz1 hk1 hS => ?_)
  subst hw_7
  obtain ⟨Gx_7, wx_7, tx_7, hIx_7, hrel_7, hP1, hK1, hD1⟩ := hB
  rw [ht] at hP1
  obtain ⟨hP, hD⟩ := jo_l hP hD hk1 hFc hP1 hD1
  have hKx_7 := va_K.moved hvm.symm hK1
  generalize H1 = H at hP hS ⊢
  refine lv_aload_n hx hb dL_law_919 rfl (lv_at hl 2 rfl) ?_
  refine lv_aload_n hx hb dL_law_920 rfl (lv_at hl 4 rfl) ?_
  refine lv_iload hx hb dL_law_921 (lv_at hl 0 rfl) ?_
  refine lv_iconst (v := 1) hx hb dL_law_923 (by decide) ?_
  refine lv_iadd hx hb dL_law_924 ?_
  refine lv_topi (fun v_8 ev_8 => ?_)
  obtain rfl : v_8 = nI (i + 1) := ev_8.trans (nI_add i 1)
  refine va_sld hx hb hX hbl hbA hS (vp_in_nI (n := (i + 1)) (by omega) (by omega)) dL_law_925 ?_
  refine lv_topi (fun v_9 ev_9 => ?_)
  obtain rfl : v_2 = v_9 := (ev_9.trans ev_2.symm).symm
  refine lv_aload_n hx hb dL_law_926 rfl (lv_at hl 4 rfl) ?_
  refine lv_iload hx hb dL_law_927 (lv_at hl 0 rfl) ?_
  refine lv_iconst (v := 2) hx hb dL_law_929 (by decide) ?_
  refine lv_iadd hx hb dL_law_930 ?_
  refine lv_topi (fun v_10 ev_10 => ?_)
  obtain rfl : v_10 = nI (i + 2) := ev_10.trans (nI_add i 2)
  refine va_sld hx hb hX hbl hbA hS (vp_in_nI (n := (i + 2)) (by omega) (by omega)) dL_law_931 ?_
  refine lv_topi (fun v_11 ev_11 => ?_)
  obtain rfl : v_4 = v_11 := (ev_11.trans ev_4.symm).symm
  refine lv_aload_n hx hb dL_law_932 rfl (lv_at hl 4 rfl) ?_
  refine lv_iload hx hb dL_law_933 (lv_at hl 0 rfl) ?_
  refine lv_iconst (v := 3) hx hb dL_law_935 (by decide) ?_
  refine lv_iadd hx hb dL_law_936 ?_
  refine lv_topi (fun v_12 ev_12 => ?_)
  obtain rfl : v_12 = nI (i + 3) := ev_12.trans (nI_add i 3)
  refine va_sld hx hb hX hbl hbA hS (vp_in_nI (n := (i + 3)) (by omega) (by omega)) dL_law_937 ?_
  refine lv_topi (fun v_13 ev_13 => ?_)
  obtain rfl : v_6 = v_13 := (ev_13.trans ev_6.symm).symm
  rcases hMI with hMI | hMI
  · skip
    have hPc := ap_r hP
    have hDc := ad_r hD
    have hKc := hKm
    have hFc := fr_O hDc hS hA
    obtain ⟨fs9, hrc⟩ := MZ_rc hMI
    refine va_calli (va_runV (As := [.int v_2, .int v_4, .int v_6]) (rest := [.int r_7]) ⟨hx, hb, hml, hown, hts⟩ (Z_reading l dC dI s.heap.size atx H.size md mk9 m0 Gm wm tm v_2 v_4 v_6 hMI ) (cwV 3 hts (gV (fun w h => id h) wd_2085 wd_2082 wd_2083 wd_2084 wd_127) rfl rfl rfl (by decide +kernel) ⟨Nat.le_of_ble_eq_true rfl, Nat.le_of_ble_eq_true rfl⟩) ⟨fun a U g mk q => by obtain ⟨q0, q1, q2, qG, qP, qK, qD⟩ := q; exact ⟨q0, q1, q2, GW.blind qG, qP, va_K.moved (u := U) (U := U.calling g mk a) (Vm.Alike.refl U.vm) qK, qD⟩, va_recv hKc hPc (ci := 14) (q0 := 0) rfl hrc, fun U hU hW => ⟨rfl, by rw [hU], Nat.le_trans hn0 hS.1, GW.go hW hU hG (fun q hq hA9 => hS.2.1 q hq (fun h => hA9 (hA0 q h))), by rw [hU]; exact hPc, va_K.moved hW.alike hKc, hDc.weaken (fun _ _ _ h => hA0 _ h)⟩⟩ rfl rfl hl.1 rfl (lv_room (Nat.le_of_ble_eq_true rfl)) dL_law_938 ⟨(by show _ ≤ (601024 : Nat); omega), (by show _ ≤ (7293034 : Nat); omega)⟩) hS (fun q _ h => hFc q h) hFc (fun r_14 u t H1 locs ht hvm hw_14 hB hz1 hk1 hS => ?_)
    subst hw_14
    obtain ⟨Gm_14, wm_14, tm_14, hIm_14, hrel_14, hP1, hK1, hD1⟩ := hB
    rw [ht] at hP1
    obtain ⟨hP, hD⟩ := jo_r hP hD hk1 hFc hP1 hD1
    have hKm_14 := va_K.moved hvm.symm hK1
    generalize H1 = H at hP hS ⊢
    refine lv_icmp_eq (tgt := 1049) hx hb dL_law_941 (by decide) (fun c_15 => ?_) (fun c_15 => ?_)
    · skip
      refine lv_iinc (v := (nI (i + 6))) (lv' := [(4, .int (nI (i + 6))), (3, .ref (ad 104)), (2, .ref m0), (1, .ref x0), (0, .ref b)]) hx hb dL_law_1049 hl (k := 0) rfl (nI_add _ 6) (by decide) rfl (fun ls hl => ?_)
      refine lv_goto (tgt := 23) hx hb dL_law_1052 (by decide) ?_
      refine W.widen (k := 150 + 23 * (i + 6)) (n := 3000 + 300 * (i + 6)) (by omega) (by omega) ?_
      exact K _ _ _ ⟨by omega, Gx_7, Gm_14, wx_7, wm_14, tx_7, tm_14, hIx_7, (Or.inl hIm_14), (rel_r hrl hrel_7.2.1 hrel_14.2.1 hrel_7.2.2 hrel_14.2.2), hKx_7, hKm_14, hP, hD, hS, lv_sub hl [0, 1, 2, 3, 4] rfl⟩
    · exact absurd (by rw [hrel_7.1, hrel_14.1, rel1 hrl, rel5 hrl]) c_15
  · skip
    have hPc := ap_r hP
    have hDc := ad_r hD
    have hKc := hKm
    have hFc := fr_O hDc hS hA
    obtain ⟨fs9, hrc⟩ := MB_rc hMI
    refine va_calli (va_runV (As := [.int v_2, .int v_4, .int v_6]) (rest := [.int r_7]) ⟨hx, hb, hml, hown, hts⟩ (B_reading l dC dI s.heap.size atx H.size md mk9 m0 Gm wm tm v_2 v_4 v_6 hMI ) (cwV 3 hts (gV (fun w h => id h) wd_2085 wd_2082 wd_2083 wd_2084 wd_127) rfl rfl rfl (by decide +kernel) ⟨Nat.le_of_ble_eq_true rfl, Nat.le_of_ble_eq_true rfl⟩) ⟨fun a U g mk q => by obtain ⟨q0, q1, q2, qG, qP, qK, qD⟩ := q; exact ⟨q0, q1, q2, GW.blind qG, qP, va_K.moved (u := U) (U := U.calling g mk a) (Vm.Alike.refl U.vm) qK, qD⟩, va_recv hKc hPc (ci := 14) (q0 := 0) rfl hrc, fun U hU hW => ⟨rfl, by rw [hU], Nat.le_trans hn0 hS.1, GW.go hW hU hG (fun q hq hA9 => hS.2.1 q hq (fun h => hA9 (hA0 q h))), by rw [hU]; exact hPc, va_K.moved hW.alike hKc, hDc.weaken (fun _ _ _ h => hA0 _ h)⟩⟩ rfl rfl hl.1 rfl (lv_room (Nat.le_of_ble_eq_true rfl)) dL_law_938 ⟨(by show _ ≤ (601024 : Nat); omega), (by show _ ≤ (7293034 : Nat); omega)⟩) hS (fun q _ h => hFc q h) hFc (fun r_16 u t H1 locs ht hvm hw_16 hB hz1 hk1 hS => ?_)
    subst hw_16
    obtain ⟨Gm_16, wm_16, tm_16, hIm_16, hrel_16, hP1, hK1, hD1⟩ := hB
    rw [ht] at hP1
    obtain ⟨hP, hD⟩ := jo_r hP hD hk1 hFc hP1 hD1
    have hKm_16 := va_K.moved hvm.symm hK1
    generalize H1 = H at hP hS ⊢
    refine lv_icmp_eq (tgt := 1049) hx hb dL_law_941 (by decide) (fun c_17 => ?_) (fun c_17 => ?_)
    · skip
      refine lv_iinc (v := (nI (i + 6))) (lv' := [(4, .int (nI (i + 6))), (3, .ref (ad 104)), (2, .ref m0), (1, .ref x0), (0, .ref b)]) hx hb dL_law_1049 hl (k := 0) rfl (nI_add _ 6) (by decide) rfl (fun ls hl => ?_)
      refine lv_goto (tgt := 23) hx hb dL_law_1052 (by decide) ?_
      refine W.widen (k := 150 + 23 * (i + 6)) (n := 3000 + 300 * (i + 6)) (by omega) (by omega) ?_
      exact K _ _ _ ⟨by omega, Gx_7, Gm_16, wx_7, wm_16, tx_7, tm_16, hIx_7, (Or.inr hIm_16), (rel_r hrl hrel_7.2.1 hrel_16.2.1 hrel_7.2.2 hrel_16.2.2), hKx_7, hKm_16, hP, hD, hS, lv_sub hl [0, 1, 2, 3, 4] rfl⟩
    · exact absurd (by rw [hrel_7.1, hrel_16.1, rel1 hrl, rel5 hrl]) c_17
set_option maxHeartbeats 4000000 in
set_option maxRecDepth 100000 in
theorem law_26 {p : Program} {l : Launch} {e : Env} {s : State} {m : MethodId} {below : List Frame} {meth : Method} {c : Code} {dC : Nat → ClassId} {dI : Nat → Nat → Nat} {b L : Nat} {xs : Nat → Int32} (hst : l.stackTraces = false) (hL : L ≤ 3072) (C0 : lw_At p s m meth c b L xs) (atx : Nat → Nat × Nat) (hG : GW s.heap.size atx s) (ad : Nat → Nat) (ka : Nat → ClassId) (x0 : Nat) (md : Nat → Nat) (mk9 : Nat → ClassId) (m0 : Nat) (i : Nat) (hi : i + 6 ≤ L) (K : ∀ (H : Heap) (locs : List Loc) (ls : Array Slot), LV dC dI s b L ad ka x0 md mk9 m0 (i + 6) H locs ls → W p l e room_1 s m #[Value.ref b] below meth c H locs (150 + 23 * (i + 6)) (3000 + 300 * (i + 6)) (lw_Z below #[Value.ref b] s) (F0 m 23 ls [])) (H : Heap) (locs : List Loc) (ls : Array Slot) (Gx Gm : Nat → Int) (wx wm : va_W) (tx tm : List (ClassId × FieldType)) (hXI : XI ad ka x0 Gx wx tx) (hMI : MZ md mk9 m0 Gm wm tm ∨ MB md mk9 m0 Gm wm tm) (hrl : REL Gx Gm) (hKx : va_K (dC, dI) classes tx s) (hKm : va_K (dC, dI) classes tm s) (hP : va_P (dC, dI) classes (wx ++ wm) H) (hD : va_D (fun q : Nat => s.heap.size ≤ q) (wx ++ wm)) (hS : va_S (fun q : Nat => s.heap.size ≤ q) s.heap H locs) (hl : lv_has ls 7 [(4, .int (nI i)), (3, .ref (ad 104)), (2, .ref m0), (1, .ref x0), (0, .ref b)]) : W p l e room_1 s m #[Value.ref b] below meth c H locs (150 + 23 * i) (3000 + 300 * i) (lw_Z below #[Value.ref b] s) (F0 m 946 ls []) := by
  obtain ⟨hx, hb, hr, hml, hown, hts0, hX, hbl, hlocks, hgv⟩ := C0
  have hts : ∀ w ∈ wG, w.before #[Value.ref b] s = true := fun w h => hts0 w (wG_t h)
  have hA : ∀ q : Nat, s.heap.size ≤ q → (fun q : Nat => s.heap.size ≤ q) q := fun _ h => h
  have hA0 : ∀ q : Nat, (fun q : Nat => s.heap.size ≤ q) q → s.heap.size ≤ q := fun _ h => h
  have hn0 : s.heap.size ≤ s.heap.size := Nat.le_refl _
  have hbA : ¬ (fun q : Nat => s.heap.size ≤ q) b := Nat.not_le.mpr hbl
  have hrl0 := rel0 hrl
  refine lv_aload_n hx hb dL_law_946 rfl (lv_at hl 3 rfl) ?_
  refine lv_aload_n hx hb dL_law_947 rfl (lv_at hl 4 rfl) ?_
  refine lv_iload hx hb dL_law_948 (lv_at hl 0 rfl) ?_
  refine lv_iconst (v := 1) hx hb dL_law_950 (by decide) ?_
  refine lv_iadd hx hb dL_law_951 ?_
  refine lv_topi (fun v_1 ev_1 => ?_)
  obtain rfl : v_1 = nI (i + 1) := ev_1.trans (nI_add i 1)
  refine va_sld hx hb hX hbl hbA hS (vp_in_nI (n := (i + 1)) (by omega) (by omega)) dL_law_952 ?_
  refine lv_topi (fun v_2 ev_2 => ?_)
  have hPc := ap_l hP
  have hDc := ad_l hD
  have hKc := hKx
  have hFc := fr_O hDc hS hA
  obtain ⟨fs9, hrc⟩ := XI_rc hXI
  refine va_calli (va_runV (As := [.int v_2]) (rest := []) ⟨hx, hb, hml, hown, hts⟩ (X_fits l dC dI s.heap.size atx H.size ad ka x0 Gx wx tx v_2 hXI ) (cwV 1 hts (gV (fun w h => id h) wd_1317 wd_1314 wd_1315 wd_1316 wd_114) rfl rfl rfl (by decide +kernel) ⟨Nat.le_of_ble_eq_true rfl, Nat.le_of_ble_eq_true rfl⟩) ⟨fun a U g mk q => by obtain ⟨q0, q1, q2, qG, qP, qK, qD⟩ := q; exact ⟨q0, q1, q2, GW.blind qG, qP, va_K.moved (u := U) (U := U.calling g mk a) (Vm.Alike.refl U.vm) qK, qD⟩, va_recv hKc hPc (ci := 11) (q0 := 0) rfl hrc, fun U hU hW => ⟨rfl, by rw [hU], Nat.le_trans hn0 hS.1, GW.go hW hU hG (fun q hq hA9 => hS.2.1 q hq (fun h => hA9 (hA0 q h))), by rw [hU]; exact hPc, va_K.moved hW.alike hKc, hDc.weaken (fun _ _ _ h => hA0 _ h)⟩⟩ rfl rfl hl.1 rfl (lv_room (Nat.le_of_ble_eq_true rfl)) dL_law_953 ⟨(by show _ ≤ (601024 : Nat); omega), (by show _ ≤ (7293034 : Nat); omega)⟩) hS (fun q _ h => hFc q h) hFc (fun r_3 u t H1 locs ht hvm hw_3 hB hz1 hk1 hS => ?_)
  subst hw_3
  obtain ⟨Gx_3, wx_3, tx_3, hIx_3, hrel_3, hP1, hK1, hD1⟩ := hB
  rw [ht] at hP1
  obtain ⟨hP, hD⟩ := jo_l hP hD hk1 hFc hP1 hD1
  have hKx_3 := va_K.moved hvm.symm hK1
  generalize H1 = H at hP hS ⊢
  refine lv_pop hx hb dL_law_956 rfl ?_
  refine lv_aload_n hx hb dL_law_957 rfl (lv_at hl 2 rfl) ?_
  refine lv_aload_n hx hb dL_law_958 rfl (lv_at hl 4 rfl) ?_
  refine lv_iload hx hb dL_law_959 (lv_at hl 0 rfl) ?_
  refine lv_iconst (v := 1) hx hb dL_law_961 (by decide) ?_
  refine lv_iadd hx hb dL_law_962 ?_
  refine lv_topi (fun v_4 ev_4 => ?_)
  obtain rfl : v_4 = nI (i + 1) := ev_4.trans (nI_add i 1)
  refine va_sld hx hb hX hbl hbA hS (vp_in_nI (n := (i + 1)) (by omega) (by omega)) dL_law_963 ?_
  refine lv_topi (fun v_5 ev_5 => ?_)
  obtain rfl : v_2 = v_5 := (ev_5.trans ev_2.symm).symm
  rcases hMI with hMI | hMI
  · skip
    have hPc := ap_r hP
    have hDc := ad_r hD
    have hKc := hKm
    have hFc := fr_O hDc hS hA
    obtain ⟨fs9, hrc⟩ := MZ_rc hMI
    refine va_calli (va_runV (As := [.int v_2]) (rest := []) ⟨hx, hb, hml, hown, hts⟩ (Z_fits l dC dI s.heap.size atx H.size md mk9 m0 Gm wm tm v_2 hMI ) (cwV 1 hts (gV (fun w h => id h) wd_2089 wd_2086 wd_2087 wd_2088 wd_127) rfl rfl rfl (by decide +kernel) ⟨Nat.le_of_ble_eq_true rfl, Nat.le_of_ble_eq_true rfl⟩) ⟨fun a U g mk q => by obtain ⟨q0, q1, q2, qG, qP, qK, qD⟩ := q; exact ⟨q0, q1, q2, GW.blind qG, qP, va_K.moved (u := U) (U := U.calling g mk a) (Vm.Alike.refl U.vm) qK, qD⟩, va_recv hKc hPc (ci := 14) (q0 := 0) rfl hrc, fun U hU hW => ⟨rfl, by rw [hU], Nat.le_trans hn0 hS.1, GW.go hW hU hG (fun q hq hA9 => hS.2.1 q hq (fun h => hA9 (hA0 q h))), by rw [hU]; exact hPc, va_K.moved hW.alike hKc, hDc.weaken (fun _ _ _ h => hA0 _ h)⟩⟩ rfl rfl hl.1 rfl (lv_room (Nat.le_of_ble_eq_true rfl)) dL_law_964 ⟨(by show _ ≤ (601024 : Nat); omega), (by show _ ≤ (7293034 : Nat); omega)⟩) hS (fun q _ h => hFc q h) hFc (fun r_6 u t H1 locs ht hvm hw_6 hB hz1 hk1 hS => ?_)
    subst hw_6
    obtain ⟨Gm_6, wm_6, tm_6, hIm_6, hrel_6, hP1, hK1, hD1⟩ := hB
    rw [ht] at hP1
    obtain ⟨hP, hD⟩ := jo_r hP hD hk1 hFc hP1 hD1
    have hKm_6 := va_K.moved hvm.symm hK1
    generalize H1 = H at hP hS ⊢
    refine lv_pop hx hb dL_law_967 rfl ?_
    refine lv_goto (tgt := 1049) hx hb dL_law_968 (by decide) ?_
    refine lv_iinc (v := (nI (i + 6))) (lv' := [(4, .int (nI (i + 6))), (3, .ref (ad 104)), (2, .ref m0), (1, .ref x0), (0, .ref b)]) hx hb dL_law_1049 hl (k := 0) rfl (nI_add _ 6) (by decide) rfl (fun ls hl => ?_)
    refine lv_goto (tgt := 23) hx hb dL_law_1052 (by decide) ?_
    refine W.widen (k := 150 + 23 * (i + 6)) (n := 3000 + 300 * (i + 6)) (by omega) (by omega) ?_
    exact K _ _ _ ⟨by omega, Gx_3, Gm_6, wx_3, wm_6, tx_3, tm_6, hIx_3, (Or.inl hIm_6), (rel_l hrl hrel_3.2.1 hrel_6.2.1 hrel_3.2.2 hrel_6.2.2), hKx_3, hKm_6, hP, hD, hS, lv_sub hl [0, 1, 2, 3, 4] rfl⟩
  · skip
    have hPc := ap_r hP
    have hDc := ad_r hD
    have hKc := hKm
    have hFc := fr_O hDc hS hA
    obtain ⟨fs9, hrc⟩ := MB_rc hMI
    refine va_calli (va_runV (As := [.int v_2]) (rest := []) ⟨hx, hb, hml, hown, hts⟩ (B_fits l dC dI s.heap.size atx H.size md mk9 m0 Gm wm tm v_2 hMI ) (cwV 1 hts (gV (fun w h => id h) wd_2089 wd_2086 wd_2087 wd_2088 wd_127) rfl rfl rfl (by decide +kernel) ⟨Nat.le_of_ble_eq_true rfl, Nat.le_of_ble_eq_true rfl⟩) ⟨fun a U g mk q => by obtain ⟨q0, q1, q2, qG, qP, qK, qD⟩ := q; exact ⟨q0, q1, q2, GW.blind qG, qP, va_K.moved (u := U) (U := U.calling g mk a) (Vm.Alike.refl U.vm) qK, qD⟩, va_recv hKc hPc (ci := 14) (q0 := 0) rfl hrc, fun U hU hW => ⟨rfl, by rw [hU], Nat.le_trans hn0 hS.1, GW.go hW hU hG (fun q hq hA9 => hS.2.1 q hq (fun h => hA9 (hA0 q h))), by rw [hU]; exact hPc, va_K.moved hW.alike hKc, hDc.weaken (fun _ _ _ h => hA0 _ h)⟩⟩ rfl rfl hl.1 rfl (lv_room (Nat.le_of_ble_eq_true rfl)) dL_law_964 ⟨(by show _ ≤ (601024 : Nat); omega), (by show _ ≤ (7293034 : Nat); omega)⟩) hS (fun q _ h => hFc q h) hFc (fun r_7 u t H1 locs ht hvm hw_7 hB hz1 hk1 hS => ?_)
    subst hw_7
    obtain ⟨Gm_7, wm_7, tm_7, hIm_7, hrel_7, hP1, hK1, hD1⟩ := hB
    rw [ht] at hP1
    obtain ⟨hP, hD⟩ := jo_r hP hD hk1 hFc hP1 hD1
    have hKm_7 := va_K.moved hvm.symm hK1
    generalize H1 = H at hP hS ⊢
    refine lv_pop hx hb dL_law_967 rfl ?_
    refine lv_goto (tgt := 1049) hx hb dL_law_968 (by decide) ?_
    refine lv_iinc (v := (nI (i + 6))) (lv' := [(4, .int (nI (i + 6))), (3, .ref (ad 104)), (2, .ref m0), (1, .ref x0), (0, .ref b)]) hx hb dL_law_1049 hl (k := 0) rfl (nI_add _ 6) (by decide) rfl (fun ls hl => ?_)
    refine lv_goto (tgt := 23) hx hb dL_law_1052 (by decide) ?_
    refine W.widen (k := 150 + 23 * (i + 6)) (n := 3000 + 300 * (i + 6)) (by omega) (by omega) ?_
    exact K _ _ _ ⟨by omega, Gx_3, Gm_7, wx_3, wm_7, tx_3, tm_7, hIx_3, (Or.inr hIm_7), (rel_l hrl hrel_3.2.1 hrel_7.2.1 hrel_3.2.2 hrel_7.2.2), hKx_3, hKm_7, hP, hD, hS, lv_sub hl [0, 1, 2, 3, 4] rfl⟩
set_option maxHeartbeats 4000000 in
set_option maxRecDepth 100000 in
theorem law_27 {p : Program} {l : Launch} {e : Env} {s : State} {m : MethodId} {below : List Frame} {meth : Method} {c : Code} {dC : Nat → ClassId} {dI : Nat → Nat → Nat} {b L : Nat} {xs : Nat → Int32} (hst : l.stackTraces = false) (hL : L ≤ 3072) (C0 : lw_At p s m meth c b L xs) (atx : Nat → Nat × Nat) (hG : GW s.heap.size atx s) (ad : Nat → Nat) (ka : Nat → ClassId) (x0 : Nat) (md : Nat → Nat) (mk9 : Nat → ClassId) (m0 : Nat) (i : Nat) (hi : i + 6 ≤ L) (K : ∀ (H : Heap) (locs : List Loc) (ls : Array Slot), LV dC dI s b L ad ka x0 md mk9 m0 (i + 6) H locs ls → W p l e room_1 s m #[Value.ref b] below meth c H locs (150 + 23 * (i + 6)) (3000 + 300 * (i + 6)) (lw_Z below #[Value.ref b] s) (F0 m 23 ls [])) (H : Heap) (locs : List Loc) (ls : Array Slot) (Gx Gm : Nat → Int) (wx wm : va_W) (tx tm : List (ClassId × FieldType)) (hXI : XI ad ka x0 Gx wx tx) (hMI : MZ md mk9 m0 Gm wm tm ∨ MB md mk9 m0 Gm wm tm) (hrl : REL Gx Gm) (hKx : va_K (dC, dI) classes tx s) (hKm : va_K (dC, dI) classes tm s) (hP : va_P (dC, dI) classes (wx ++ wm) H) (hD : va_D (fun q : Nat => s.heap.size ≤ q) (wx ++ wm)) (hS : va_S (fun q : Nat => s.heap.size ≤ q) s.heap H locs) (hl : lv_has ls 7 [(4, .int (nI i)), (3, .ref (ad 104)), (2, .ref m0), (1, .ref x0), (0, .ref b)]) : W p l e room_1 s m #[Value.ref b] below meth c H locs (150 + 23 * i) (3000 + 300 * i) (lw_Z below #[Value.ref b] s) (F0 m 971 ls []) := by
  obtain ⟨hx, hb, hr, hml, hown, hts0, hX, hbl, hlocks, hgv⟩ := C0
  have hts : ∀ w ∈ wG, w.before #[Value.ref b] s = true := fun w h => hts0 w (wG_t h)
  have hA : ∀ q : Nat, s.heap.size ≤ q → (fun q : Nat => s.heap.size ≤ q) q := fun _ h => h
  have hA0 : ∀ q : Nat, (fun q : Nat => s.heap.size ≤ q) q → s.heap.size ≤ q := fun _ h => h
  have hn0 : s.heap.size ≤ s.heap.size := Nat.le_refl _
  have hbA : ¬ (fun q : Nat => s.heap.size ≤ q) b := Nat.not_le.mpr hbl
  have hrl0 := rel0 hrl
  refine lv_aload_n hx hb dL_law_971 rfl (lv_at hl 3 rfl) ?_
  refine lv_aload_n hx hb dL_law_972 rfl (lv_at hl 4 rfl) ?_
  refine lv_iload hx hb dL_law_973 (lv_at hl 0 rfl) ?_
  refine lv_iconst (v := 1) hx hb dL_law_975 (by decide) ?_
  refine lv_iadd hx hb dL_law_976 ?_
  refine lv_topi (fun v_1 ev_1 => ?_)
  obtain rfl : v_1 = nI (i + 1) := ev_1.trans (nI_add i 1)
  refine va_sld hx hb hX hbl hbA hS (vp_in_nI (n := (i + 1)) (by omega) (by omega)) dL_law_977 ?_
  refine lv_topi (fun v_2 ev_2 => ?_)
  refine lv_aload_n hx hb dL_law_978 rfl (lv_at hl 4 rfl) ?_
  refine lv_iload hx hb dL_law_979 (lv_at hl 0 rfl) ?_
  refine lv_iconst (v := 2) hx hb dL_law_981 (by decide) ?_
  refine lv_iadd hx hb dL_law_982 ?_
  refine lv_topi (fun v_3 ev_3 => ?_)
  obtain rfl : v_3 = nI (i + 2) := ev_3.trans (nI_add i 2)
  refine va_sld hx hb hX hbl hbA hS (vp_in_nI (n := (i + 2)) (by omega) (by omega)) dL_law_983 ?_
  refine lv_topi (fun v_4 ev_4 => ?_)
  refine lv_aload_n hx hb dL_law_984 rfl (lv_at hl 1 rfl) ?_
  have hPc := ap_l hP
  have hDc := ad_l hD
  have hKc := hKx
  have hFc := fr_O hDc hS hA
  obtain ⟨fs9, hrc⟩ := XI_rc hXI
  refine vx_calli (vx_runSX (As := [.ref x0, .int v_2, .int v_4, .ref (ad 104)]) (rest := []) ⟨hx, hb, hml, hown, hts⟩ (X_led l hst dC dI s.heap.size atx H.size ad ka x0 Gx wx tx v_2 v_4 hXI ) (vx_cwSW 4 hts (gS (fun w h => id h) wd_1336 wd_1334 wd_1335 wd_113) rfl rfl rfl (by decide +kernel) ⟨Nat.le_of_ble_eq_true rfl, Nat.le_of_ble_eq_true rfl⟩) ⟨fun a U g mk q => by obtain ⟨q0, q1, q2, qG, qP, qK, qD⟩ := q; exact ⟨q0, q1, q2, GW.blind qG, qP, va_K.moved (u := U) (U := U.calling g mk a) (Vm.Alike.refl U.vm) qK, qD⟩, fun U hU hW => ⟨rfl, by rw [hU], Nat.le_trans hn0 hS.1, GW.go hW hU hG (fun q hq hA9 => hS.2.1 q hq (fun h => hA9 (hA0 q h))), by rw [hU]; exact hPc, va_K.moved hW.alike hKc, hDc.weaken (fun _ _ _ h => hA0 _ h)⟩⟩ rfl rfl hl.1 rfl (lv_room (Nat.le_of_ble_eq_true rfl)) dL_law_985 ⟨(by show _ ≤ (601024 : Nat); omega), (by show _ ≤ (7293034 : Nat); omega)⟩) hS (fun q _ h => hFc q h) hFc (fun q _ h => hFc q h) (fun E ce q9 u t H1 locs ht hvm hw_5 hB hz1 hk1 hS hce hcv hcl => hw_no hw_5) (fun r_5 u t H1 locs ht hvm hw_5 hB hz1 hk1 hS => ?_)
  subst hw_5
  obtain ⟨Gx_5, wx_5, tx_5, hIx_5, hrel_5, hP1, hK1, hD1⟩ := hB
  rw [ht] at hP1
  obtain ⟨hP, hD⟩ := jo_l hP hD hk1 hFc hP1 hD1
  have hKx_5 := va_K.moved hvm.symm hK1
  generalize H1 = H at hP hS ⊢
  refine lv_istore (lv' := [(5, .int r_5), (4, .int (nI i)), (3, .ref (ad 104)), (2, .ref m0), (1, .ref x0), (0, .ref b)]) hx hb dL_law_988 hl (by decide) rfl (fun ls hl => ?_)
  refine lv_aload_n hx hb dL_law_990 rfl (lv_at hl 3 rfl) ?_
  refine lv_aload_n hx hb dL_law_991 rfl (lv_at hl 5 rfl) ?_
  refine lv_iload hx hb dL_law_992 (lv_at hl 1 rfl) ?_
  refine lv_iconst (v := 1) hx hb dL_law_994 (by decide) ?_
  refine lv_iadd hx hb dL_law_995 ?_
  refine lv_topi (fun v_6 ev_6 => ?_)
  obtain rfl : v_6 = nI (i + 1) := ev_6.trans (nI_add i 1)
  refine va_sld hx hb hX hbl hbA hS (vp_in_nI (n := (i + 1)) (by omega) (by omega)) dL_law_996 ?_
  refine lv_topi (fun v_7 ev_7 => ?_)
  obtain rfl : v_2 = v_7 := (ev_7.trans ev_2.symm).symm
  refine lv_aload_n hx hb dL_law_997 rfl (lv_at hl 5 rfl) ?_
  refine lv_iload hx hb dL_law_998 (lv_at hl 1 rfl) ?_
  refine lv_iconst (v := 2) hx hb dL_law_1000 (by decide) ?_
  refine lv_iadd hx hb dL_law_1001 ?_
  refine lv_topi (fun v_8 ev_8 => ?_)
  obtain rfl : v_8 = nI (i + 2) := ev_8.trans (nI_add i 2)
  refine va_sld hx hb hX hbl hbA hS (vp_in_nI (n := (i + 2)) (by omega) (by omega)) dL_law_1002 ?_
  refine lv_topi (fun v_9 ev_9 => ?_)
  obtain rfl : v_4 = v_9 := (ev_9.trans ev_4.symm).symm
  rcases hMI with hMI | hMI
  · skip
    have hPc := ap_r hP
    have hDc := ad_r hD
    have hKc := hKm
    have hFc := fr_O hDc hS hA
    obtain ⟨fs9, hrc⟩ := MZ_rc hMI
    refine va_calli (va_runV (As := [.int v_2, .int v_4]) (rest := []) ⟨hx, hb, hml, hown, hts⟩ (Z_led l dC dI s.heap.size atx H.size md mk9 m0 Gm wm tm v_2 v_4 hMI ) (cwV 2 hts (gV (fun w h => id h) wd_2093 wd_2090 wd_2091 wd_2092 wd_127) rfl rfl rfl (by decide +kernel) ⟨Nat.le_of_ble_eq_true rfl, Nat.le_of_ble_eq_true rfl⟩) ⟨fun a U g mk q => by obtain ⟨q0, q1, q2, qG, qP, qK, qD⟩ := q; exact ⟨q0, q1, q2, GW.blind qG, qP, va_K.moved (u := U) (U := U.calling g mk a) (Vm.Alike.refl U.vm) qK, qD⟩, va_recv hKc hPc (ci := 14) (q0 := 0) rfl hrc, fun U hU hW => ⟨rfl, by rw [hU], Nat.le_trans hn0 hS.1, GW.go hW hU hG (fun q hq hA9 => hS.2.1 q hq (fun h => hA9 (hA0 q h))), by rw [hU]; exact hPc, va_K.moved hW.alike hKc, hDc.weaken (fun _ _ _ h => hA0 _ h)⟩⟩ rfl rfl hl.1 rfl (lv_room (Nat.le_of_ble_eq_true rfl)) dL_law_1003 ⟨(by show _ ≤ (601024 : Nat); omega), (by show _ ≤ (7293034 : Nat); omega)⟩) hS (fun q _ h => hFc q h) hFc (fun r_10 u t H1 locs ht hvm hw_10 hB hz1 hk1 hS => ?_)
    subst hw_10
    obtain ⟨Gm_10, wm_10, tm_10, hIm_10, hrel_10, hP1, hK1, hD1⟩ := hB
    rw [ht] at hP1
    obtain ⟨hP, hD⟩ := jo_r hP hD hk1 hFc hP1 hD1
    have hKm_10 := va_K.moved hvm.symm hK1
    generalize H1 = H at hP hS ⊢
    refine lv_istore (lv' := [(6, .int r_10), (5, .int r_5), (4, .int (nI i)), (3, .ref (ad 104)), (2, .ref m0), (1, .ref x0), (0, .ref b)]) hx hb dL_law_1006 hl (by decide) rfl (fun ls hl => ?_)
    refine lv_goto (tgt := 1049) hx hb dL_law_1008 (by decide) ?_
    refine lv_iinc (v := (nI (i + 6))) (lv' := [(4, .int (nI (i + 6))), (6, .int r_10), (5, .int r_5), (3, .ref (ad 104)), (2, .ref m0), (1, .ref x0), (0, .ref b)]) hx hb dL_law_1049 hl (k := 2) rfl (nI_add _ 6) (by decide) rfl (fun ls hl => ?_)
    refine lv_goto (tgt := 23) hx hb dL_law_1052 (by decide) ?_
    refine W.widen (k := 150 + 23 * (i + 6)) (n := 3000 + 300 * (i + 6)) (by omega) (by omega) ?_
    exact K _ _ _ ⟨by omega, Gx_5, Gm_10, wx_5, wm_10, tx_5, tm_10, hIx_5, (Or.inl hIm_10), (rel_q hrl hrel_5.2.1 hrel_10.2.1 hrel_5.2.2 hrel_10.2.2), hKx_5, hKm_10, hP, hD, hS, lv_sub hl [0, 3, 4, 5, 6] rfl⟩
  · skip
    have hPc := ap_r hP
    have hDc := ad_r hD
    have hKc := hKm
    have hFc := fr_O hDc hS hA
    obtain ⟨fs9, hrc⟩ := MB_rc hMI
    refine va_calli (va_runV (As := [.int v_2, .int v_4]) (rest := []) ⟨hx, hb, hml, hown, hts⟩ (B_led l dC dI s.heap.size atx H.size md mk9 m0 Gm wm tm v_2 v_4 hMI ) (cwV 2 hts (gV (fun w h => id h) wd_2093 wd_2090 wd_2091 wd_2092 wd_127) rfl rfl rfl (by decide +kernel) ⟨Nat.le_of_ble_eq_true rfl, Nat.le_of_ble_eq_true rfl⟩) ⟨fun a U g mk q => by obtain ⟨q0, q1, q2, qG, qP, qK, qD⟩ := q; exact ⟨q0, q1, q2, GW.blind qG, qP, va_K.moved (u := U) (U := U.calling g mk a) (Vm.Alike.refl U.vm) qK, qD⟩, va_recv hKc hPc (ci := 14) (q0 := 0) rfl hrc, fun U hU hW => ⟨rfl, by rw [hU], Nat.le_trans hn0 hS.1, GW.go hW hU hG (fun q hq hA9 => hS.2.1 q hq (fun h => hA9 (hA0 q h))), by rw [hU]; exact hPc, va_K.moved hW.alike hKc, hDc.weaken (fun _ _ _ h => hA0 _ h)⟩⟩ rfl rfl hl.1 rfl (lv_room (Nat.le_of_ble_eq_true rfl)) dL_law_1003 ⟨(by show _ ≤ (601024 : Nat); omega), (by show _ ≤ (7293034 : Nat); omega)⟩) hS (fun q _ h => hFc q h) hFc (fun r_11 u t H1 locs ht hvm hw_11 hB hz1 hk1 hS => ?_)
    subst hw_11
    obtain ⟨Gm_11, wm_11, tm_11, hIm_11, hrel_11, hP1, hK1, hD1⟩ := hB
    rw [ht] at hP1
    obtain ⟨hP, hD⟩ := jo_r hP hD hk1 hFc hP1 hD1
    have hKm_11 := va_K.moved hvm.symm hK1
    generalize H1 = H at hP hS ⊢
    refine lv_istore (lv' := [(6, .int r_11), (5, .int r_5), (4, .int (nI i)), (3, .ref (ad 104)), (2, .ref m0), (1, .ref x0), (0, .ref b)]) hx hb dL_law_1006 hl (by decide) rfl (fun ls hl => ?_)
    refine lv_goto (tgt := 1049) hx hb dL_law_1008 (by decide) ?_
    refine lv_iinc (v := (nI (i + 6))) (lv' := [(4, .int (nI (i + 6))), (6, .int r_11), (5, .int r_5), (3, .ref (ad 104)), (2, .ref m0), (1, .ref x0), (0, .ref b)]) hx hb dL_law_1049 hl (k := 2) rfl (nI_add _ 6) (by decide) rfl (fun ls hl => ?_)
    refine lv_goto (tgt := 23) hx hb dL_law_1052 (by decide) ?_
    refine W.widen (k := 150 + 23 * (i + 6)) (n := 3000 + 300 * (i + 6)) (by omega) (by omega) ?_
    exact K _ _ _ ⟨by omega, Gx_5, Gm_11, wx_5, wm_11, tx_5, tm_11, hIx_5, (Or.inr hIm_11), (rel_q hrl hrel_5.2.1 hrel_11.2.1 hrel_5.2.2 hrel_11.2.2), hKx_5, hKm_11, hP, hD, hS, lv_sub hl [0, 3, 4, 5, 6] rfl⟩
set_option maxHeartbeats 4000000 in
set_option maxRecDepth 100000 in
theorem law_28 {p : Program} {l : Launch} {e : Env} {s : State} {m : MethodId} {below : List Frame} {meth : Method} {c : Code} {dC : Nat → ClassId} {dI : Nat → Nat → Nat} {b L : Nat} {xs : Nat → Int32} (hst : l.stackTraces = false) (hL : L ≤ 3072) (C0 : lw_At p s m meth c b L xs) (atx : Nat → Nat × Nat) (hG : GW s.heap.size atx s) (ad : Nat → Nat) (ka : Nat → ClassId) (x0 : Nat) (md : Nat → Nat) (mk9 : Nat → ClassId) (m0 : Nat) (i : Nat) (hi : i + 6 ≤ L) (K : ∀ (H : Heap) (locs : List Loc) (ls : Array Slot), LV dC dI s b L ad ka x0 md mk9 m0 (i + 6) H locs ls → W p l e room_1 s m #[Value.ref b] below meth c H locs (150 + 23 * (i + 6)) (3000 + 300 * (i + 6)) (lw_Z below #[Value.ref b] s) (F0 m 23 ls [])) (H : Heap) (locs : List Loc) (ls : Array Slot) (Gx Gm : Nat → Int) (wx wm : va_W) (tx tm : List (ClassId × FieldType)) (hXI : XI ad ka x0 Gx wx tx) (hMI : MZ md mk9 m0 Gm wm tm ∨ MB md mk9 m0 Gm wm tm) (hrl : REL Gx Gm) (hKx : va_K (dC, dI) classes tx s) (hKm : va_K (dC, dI) classes tm s) (hP : va_P (dC, dI) classes (wx ++ wm) H) (hD : va_D (fun q : Nat => s.heap.size ≤ q) (wx ++ wm)) (hS : va_S (fun q : Nat => s.heap.size ≤ q) s.heap H locs) (hl : lv_has ls 7 [(4, .int (nI i)), (3, .ref (ad 104)), (2, .ref m0), (1, .ref x0), (0, .ref b)]) : W p l e room_1 s m #[Value.ref b] below meth c H locs (150 + 23 * i) (3000 + 300 * i) (lw_Z below #[Value.ref b] s) (F0 m 1011 ls []) := by
  obtain ⟨hx, hb, hr, hml, hown, hts0, hX, hbl, hlocks, hgv⟩ := C0
  have hts : ∀ w ∈ wG, w.before #[Value.ref b] s = true := fun w h => hts0 w (wG_t h)
  have hA : ∀ q : Nat, s.heap.size ≤ q → (fun q : Nat => s.heap.size ≤ q) q := fun _ h => h
  have hA0 : ∀ q : Nat, (fun q : Nat => s.heap.size ≤ q) q → s.heap.size ≤ q := fun _ h => h
  have hn0 : s.heap.size ≤ s.heap.size := Nat.le_refl _
  have hbA : ¬ (fun q : Nat => s.heap.size ≤ q) b := Nat.not_le.mpr hbl
  have hrl0 := rel0 hrl
  refine lv_aload_n hx hb dL_law_1011 rfl (lv_at hl 3 rfl) ?_
  refine lv_aload_n hx hb dL_law_1012 rfl (lv_at hl 4 rfl) ?_
  refine lv_iload hx hb dL_law_1013 (lv_at hl 0 rfl) ?_
  refine lv_iconst (v := 1) hx hb dL_law_1015 (by decide) ?_
  refine lv_iadd hx hb dL_law_1016 ?_
  refine lv_topi (fun v_1 ev_1 => ?_)
  obtain rfl : v_1 = nI (i + 1) := ev_1.trans (nI_add i 1)
  refine va_sld hx hb hX hbl hbA hS (vp_in_nI (n := (i + 1)) (by omega) (by omega)) dL_law_1017 ?_
  refine lv_topi (fun v_2 ev_2 => ?_)
  have hPc := ap_l hP
  have hDc := ad_l hD
  have hKc := hKx
  have hFc := fr_O hDc hS hA
  obtain ⟨fs9, hrc⟩ := XI_rc hXI
  refine va_calli (va_runV (As := [.int v_2]) (rest := []) ⟨hx, hb, hml, hown, hts⟩ (X_count l dC dI s.heap.size atx H.size ad ka x0 Gx wx tx v_2 hXI ) (cwV 1 hts (gV (fun w h => id h) wd_1329 wd_1326 wd_1327 wd_1328 wd_114) rfl rfl rfl (by decide +kernel) ⟨Nat.le_of_ble_eq_true rfl, Nat.le_of_ble_eq_true rfl⟩) ⟨fun a U g mk q => by obtain ⟨q0, q1, q2, qG, qP, qK, qD⟩ := q; exact ⟨q0, q1, q2, GW.blind qG, qP, va_K.moved (u := U) (U := U.calling g mk a) (Vm.Alike.refl U.vm) qK, qD⟩, va_recv hKc hPc (ci := 11) (q0 := 0) rfl hrc, fun U hU hW => ⟨rfl, by rw [hU], Nat.le_trans hn0 hS.1, GW.go hW hU hG (fun q hq hA9 => hS.2.1 q hq (fun h => hA9 (hA0 q h))), by rw [hU]; exact hPc, va_K.moved hW.alike hKc, hDc.weaken (fun _ _ _ h => hA0 _ h)⟩⟩ rfl rfl hl.1 rfl (lv_room (Nat.le_of_ble_eq_true rfl)) dL_law_1018 ⟨(by show _ ≤ (601024 : Nat); omega), (by show _ ≤ (7293034 : Nat); omega)⟩) hS (fun q _ h => hFc q h) hFc (fun r_3 u t H1 locs ht hvm hw_3 hB hz1 hk1 hS => ?_)
  subst hw_3
  obtain ⟨Gx_3, wx_3, tx_3, hIx_3, hrel_3, hP1, hK1, hD1⟩ := hB
  rw [ht] at hP1
  obtain ⟨hP, hD⟩ := jo_l hP hD hk1 hFc hP1 hD1
  have hKx_3 := va_K.moved hvm.symm hK1
  generalize H1 = H at hP hS ⊢
  refine lv_pop hx hb dL_law_1021 rfl ?_
  refine lv_aload_n hx hb dL_law_1022 rfl (lv_at hl 2 rfl) ?_
  refine lv_aload_n hx hb dL_law_1023 rfl (lv_at hl 4 rfl) ?_
  refine lv_iload hx hb dL_law_1024 (lv_at hl 0 rfl) ?_
  refine lv_iconst (v := 1) hx hb dL_law_1026 (by decide) ?_
  refine lv_iadd hx hb dL_law_1027 ?_
  refine lv_topi (fun v_4 ev_4 => ?_)
  obtain rfl : v_4 = nI (i + 1) := ev_4.trans (nI_add i 1)
  refine va_sld hx hb hX hbl hbA hS (vp_in_nI (n := (i + 1)) (by omega) (by omega)) dL_law_1028 ?_
  refine lv_topi (fun v_5 ev_5 => ?_)
  obtain rfl : v_2 = v_5 := (ev_5.trans ev_2.symm).symm
  rcases hMI with hMI | hMI
  · skip
    have hPc := ap_r hP
    have hDc := ad_r hD
    have hKc := hKm
    have hFc := fr_O hDc hS hA
    obtain ⟨fs9, hrc⟩ := MZ_rc hMI
    refine va_calli (va_runV (As := [.int v_2]) (rest := []) ⟨hx, hb, hml, hown, hts⟩ (Z_count l dC dI s.heap.size atx H.size md mk9 m0 Gm wm tm v_2 hMI ) (cwV 1 hts (gV (fun w h => id h) wd_2101 wd_2098 wd_2099 wd_2100 wd_127) rfl rfl rfl (by decide +kernel) ⟨Nat.le_of_ble_eq_true rfl, Nat.le_of_ble_eq_true rfl⟩) ⟨fun a U g mk q => by obtain ⟨q0, q1, q2, qG, qP, qK, qD⟩ := q; exact ⟨q0, q1, q2, GW.blind qG, qP, va_K.moved (u := U) (U := U.calling g mk a) (Vm.Alike.refl U.vm) qK, qD⟩, va_recv hKc hPc (ci := 14) (q0 := 0) rfl hrc, fun U hU hW => ⟨rfl, by rw [hU], Nat.le_trans hn0 hS.1, GW.go hW hU hG (fun q hq hA9 => hS.2.1 q hq (fun h => hA9 (hA0 q h))), by rw [hU]; exact hPc, va_K.moved hW.alike hKc, hDc.weaken (fun _ _ _ h => hA0 _ h)⟩⟩ rfl rfl hl.1 rfl (lv_room (Nat.le_of_ble_eq_true rfl)) dL_law_1029 ⟨(by show _ ≤ (601024 : Nat); omega), (by show _ ≤ (7293034 : Nat); omega)⟩) hS (fun q _ h => hFc q h) hFc (fun r_6 u t H1 locs ht hvm hw_6 hB hz1 hk1 hS => ?_)
    subst hw_6
    obtain ⟨Gm_6, wm_6, tm_6, hIm_6, hrel_6, hP1, hK1, hD1⟩ := hB
    rw [ht] at hP1
    obtain ⟨hP, hD⟩ := jo_r hP hD hk1 hFc hP1 hD1
    have hKm_6 := va_K.moved hvm.symm hK1
    generalize H1 = H at hP hS ⊢
    refine lv_pop hx hb dL_law_1032 rfl ?_
    refine lv_goto (tgt := 1049) hx hb dL_law_1033 (by decide) ?_
    refine lv_iinc (v := (nI (i + 6))) (lv' := [(4, .int (nI (i + 6))), (3, .ref (ad 104)), (2, .ref m0), (1, .ref x0), (0, .ref b)]) hx hb dL_law_1049 hl (k := 0) rfl (nI_add _ 6) (by decide) rfl (fun ls hl => ?_)
    refine lv_goto (tgt := 23) hx hb dL_law_1052 (by decide) ?_
    refine W.widen (k := 150 + 23 * (i + 6)) (n := 3000 + 300 * (i + 6)) (by omega) (by omega) ?_
    exact K _ _ _ ⟨by omega, Gx_3, Gm_6, wx_3, wm_6, tx_3, tm_6, hIx_3, (Or.inl hIm_6), (rel_q hrl hrel_3.2.1 hrel_6.2.1 hrel_3.2.2 hrel_6.2.2), hKx_3, hKm_6, hP, hD, hS, lv_sub hl [0, 1, 2, 3, 4] rfl⟩
  · skip
    have hPc := ap_r hP
    have hDc := ad_r hD
    have hKc := hKm
    have hFc := fr_O hDc hS hA
    obtain ⟨fs9, hrc⟩ := MB_rc hMI
    refine va_calli (va_runV (As := [.int v_2]) (rest := []) ⟨hx, hb, hml, hown, hts⟩ (B_count l dC dI s.heap.size atx H.size md mk9 m0 Gm wm tm v_2 hMI ) (cwV 1 hts (gV (fun w h => id h) wd_2101 wd_2098 wd_2099 wd_2100 wd_127) rfl rfl rfl (by decide +kernel) ⟨Nat.le_of_ble_eq_true rfl, Nat.le_of_ble_eq_true rfl⟩) ⟨fun a U g mk q => by obtain ⟨q0, q1, q2, qG, qP, qK, qD⟩ := q; exact ⟨q0, q1, q2, GW.blind qG, qP, va_K.moved (u := U) (U := U.calling g mk a) (Vm.Alike.refl U.vm) qK, qD⟩, va_recv hKc hPc (ci := 14) (q0 := 0) rfl hrc, fun U hU hW => ⟨rfl, by rw [hU], Nat.le_trans hn0 hS.1, GW.go hW hU hG (fun q hq hA9 => hS.2.1 q hq (fun h => hA9 (hA0 q h))), by rw [hU]; exact hPc, va_K.moved hW.alike hKc, hDc.weaken (fun _ _ _ h => hA0 _ h)⟩⟩ rfl rfl hl.1 rfl (lv_room (Nat.le_of_ble_eq_true rfl)) dL_law_1029 ⟨(by show _ ≤ (601024 : Nat); omega), (by show _ ≤ (7293034 : Nat); omega)⟩) hS (fun q _ h => hFc q h) hFc (fun r_7 u t H1 locs ht hvm hw_7 hB hz1 hk1 hS => ?_)
    subst hw_7
    obtain ⟨Gm_7, wm_7, tm_7, hIm_7, hrel_7, hP1, hK1, hD1⟩ := hB
    rw [ht] at hP1
    obtain ⟨hP, hD⟩ := jo_r hP hD hk1 hFc hP1 hD1
    have hKm_7 := va_K.moved hvm.symm hK1
    generalize H1 = H at hP hS ⊢
    refine lv_pop hx hb dL_law_1032 rfl ?_
    refine lv_goto (tgt := 1049) hx hb dL_law_1033 (by decide) ?_
    refine lv_iinc (v := (nI (i + 6))) (lv' := [(4, .int (nI (i + 6))), (3, .ref (ad 104)), (2, .ref m0), (1, .ref x0), (0, .ref b)]) hx hb dL_law_1049 hl (k := 0) rfl (nI_add _ 6) (by decide) rfl (fun ls hl => ?_)
    refine lv_goto (tgt := 23) hx hb dL_law_1052 (by decide) ?_
    refine W.widen (k := 150 + 23 * (i + 6)) (n := 3000 + 300 * (i + 6)) (by omega) (by omega) ?_
    exact K _ _ _ ⟨by omega, Gx_3, Gm_7, wx_3, wm_7, tx_3, tm_7, hIx_3, (Or.inr hIm_7), (rel_q hrl hrel_3.2.1 hrel_7.2.1 hrel_3.2.2 hrel_7.2.2), hKx_3, hKm_7, hP, hD, hS, lv_sub hl [0, 1, 2, 3, 4] rfl⟩
set_option maxHeartbeats 4000000 in
set_option maxRecDepth 100000 in
theorem law_29 {p : Program} {l : Launch} {e : Env} {s : State} {m : MethodId} {below : List Frame} {meth : Method} {c : Code} {dC : Nat → ClassId} {dI : Nat → Nat → Nat} {b L : Nat} {xs : Nat → Int32} (hst : l.stackTraces = false) (hL : L ≤ 3072) (C0 : lw_At p s m meth c b L xs) (atx : Nat → Nat × Nat) (hG : GW s.heap.size atx s) (ad : Nat → Nat) (ka : Nat → ClassId) (x0 : Nat) (md : Nat → Nat) (mk9 : Nat → ClassId) (m0 : Nat) (i : Nat) (hi : i + 6 ≤ L) (K : ∀ (H : Heap) (locs : List Loc) (ls : Array Slot), LV dC dI s b L ad ka x0 md mk9 m0 (i + 6) H locs ls → W p l e room_1 s m #[Value.ref b] below meth c H locs (150 + 23 * (i + 6)) (3000 + 300 * (i + 6)) (lw_Z below #[Value.ref b] s) (F0 m 23 ls [])) (H : Heap) (locs : List Loc) (ls : Array Slot) (Gx Gm : Nat → Int) (wx wm : va_W) (tx tm : List (ClassId × FieldType)) (hXI : XI ad ka x0 Gx wx tx) (hMI : MZ md mk9 m0 Gm wm tm ∨ MB md mk9 m0 Gm wm tm) (hrl : REL Gx Gm) (hKx : va_K (dC, dI) classes tx s) (hKm : va_K (dC, dI) classes tm s) (hP : va_P (dC, dI) classes (wx ++ wm) H) (hD : va_D (fun q : Nat => s.heap.size ≤ q) (wx ++ wm)) (hS : va_S (fun q : Nat => s.heap.size ≤ q) s.heap H locs) (hl : lv_has ls 7 [(4, .int (nI i)), (3, .ref (ad 104)), (2, .ref m0), (1, .ref x0), (0, .ref b)]) : W p l e room_1 s m #[Value.ref b] below meth c H locs (150 + 23 * i) (3000 + 300 * i) (lw_Z below #[Value.ref b] s) (F0 m 1036 ls []) := by
  obtain ⟨hx, hb, hr, hml, hown, hts0, hX, hbl, hlocks, hgv⟩ := C0
  have hts : ∀ w ∈ wG, w.before #[Value.ref b] s = true := fun w h => hts0 w (wG_t h)
  have hA : ∀ q : Nat, s.heap.size ≤ q → (fun q : Nat => s.heap.size ≤ q) q := fun _ h => h
  have hA0 : ∀ q : Nat, (fun q : Nat => s.heap.size ≤ q) q → s.heap.size ≤ q := fun _ h => h
  have hn0 : s.heap.size ≤ s.heap.size := Nat.le_refl _
  have hbA : ¬ (fun q : Nat => s.heap.size ≤ q) b := Nat.not_le.mpr hbl
  have hrl0 := rel0 hrl
  refine lv_aload_n hx hb dL_law_1036 rfl (lv_at hl 3 rfl) ?_
  have hPc := ap_l hP
  have hDc := ad_l hD
  have hKc := hKx
  have hFc := fr_O hDc hS hA
  obtain ⟨fs9, hrc⟩ := XI_rc hXI
  refine va_calli (va_runV (As := []) (rest := []) ⟨hx, hb, hml, hown, hts⟩ (X_trouble l dC dI s.heap.size atx H.size ad ka x0 Gx wx tx  hXI ) (cwV 0 hts (gV (fun w h => id h) wd_1333 wd_1330 wd_1331 wd_1332 wd_114) rfl rfl rfl (by decide +kernel) ⟨Nat.le_of_ble_eq_true rfl, Nat.le_of_ble_eq_true rfl⟩) ⟨fun a U g mk q => by obtain ⟨q0, q1, q2, qG, qP, qK, qD⟩ := q; exact ⟨q0, q1, q2, GW.blind qG, qP, va_K.moved (u := U) (U := U.calling g mk a) (Vm.Alike.refl U.vm) qK, qD⟩, va_recv hKc hPc (ci := 11) (q0 := 0) rfl hrc, fun U hU hW => ⟨rfl, by rw [hU], Nat.le_trans hn0 hS.1, GW.go hW hU hG (fun q hq hA9 => hS.2.1 q hq (fun h => hA9 (hA0 q h))), by rw [hU]; exact hPc, va_K.moved hW.alike hKc, hDc.weaken (fun _ _ _ h => hA0 _ h)⟩⟩ rfl rfl hl.1 rfl (lv_room (Nat.le_of_ble_eq_true rfl)) dL_law_1037 ⟨(by show _ ≤ (601024 : Nat); omega), (by show _ ≤ (7293034 : Nat); omega)⟩) hS (fun q _ h => hFc q h) hFc (fun r_1 u t H1 locs ht hvm hw_1 hB hz1 hk1 hS => ?_)
  subst hw_1
  obtain ⟨Gx_1, wx_1, tx_1, hIx_1, hrel_1, hP1, hK1, hD1⟩ := hB
  rw [ht] at hP1
  obtain ⟨hP, hD⟩ := jo_l hP hD hk1 hFc hP1 hD1
  have hKx_1 := va_K.moved hvm.symm hK1
  generalize H1 = H at hP hS ⊢
  refine lv_pop hx hb dL_law_1040 rfl ?_
  refine lv_aload_n hx hb dL_law_1041 rfl (lv_at hl 2 rfl) ?_
  rcases hMI with hMI | hMI
  · skip
    have hPc := ap_r hP
    have hDc := ad_r hD
    have hKc := hKm
    have hFc := fr_O hDc hS hA
    obtain ⟨fs9, hrc⟩ := MZ_rc hMI
    refine va_calli (va_runV (As := []) (rest := []) ⟨hx, hb, hml, hown, hts⟩ (Z_trouble l dC dI s.heap.size atx H.size md mk9 m0 Gm wm tm  hMI ) (cwV 0 hts (gV (fun w h => id h) wd_2105 wd_2102 wd_2103 wd_2104 wd_127) rfl rfl rfl (by decide +kernel) ⟨Nat.le_of_ble_eq_true rfl, Nat.le_of_ble_eq_true rfl⟩) ⟨fun a U g mk q => by obtain ⟨q0, q1, q2, qG, qP, qK, qD⟩ := q; exact ⟨q0, q1, q2, GW.blind qG, qP, va_K.moved (u := U) (U := U.calling g mk a) (Vm.Alike.refl U.vm) qK, qD⟩, va_recv hKc hPc (ci := 14) (q0 := 0) rfl hrc, fun U hU hW => ⟨rfl, by rw [hU], Nat.le_trans hn0 hS.1, GW.go hW hU hG (fun q hq hA9 => hS.2.1 q hq (fun h => hA9 (hA0 q h))), by rw [hU]; exact hPc, va_K.moved hW.alike hKc, hDc.weaken (fun _ _ _ h => hA0 _ h)⟩⟩ rfl rfl hl.1 rfl (lv_room (Nat.le_of_ble_eq_true rfl)) dL_law_1042 ⟨(by show _ ≤ (601024 : Nat); omega), (by show _ ≤ (7293034 : Nat); omega)⟩) hS (fun q _ h => hFc q h) hFc (fun r_2 u t H1 locs ht hvm hw_2 hB hz1 hk1 hS => ?_)
    subst hw_2
    obtain ⟨Gm_2, wm_2, tm_2, hIm_2, hrel_2, hP1, hK1, hD1⟩ := hB
    rw [ht] at hP1
    obtain ⟨hP, hD⟩ := jo_r hP hD hk1 hFc hP1 hD1
    have hKm_2 := va_K.moved hvm.symm hK1
    generalize H1 = H at hP hS ⊢
    refine lv_pop hx hb dL_law_1045 rfl ?_
    refine lv_goto (tgt := 1049) hx hb dL_law_1046 (by decide) ?_
    refine lv_iinc (v := (nI (i + 6))) (lv' := [(4, .int (nI (i + 6))), (3, .ref (ad 104)), (2, .ref m0), (1, .ref x0), (0, .ref b)]) hx hb dL_law_1049 hl (k := 0) rfl (nI_add _ 6) (by decide) rfl (fun ls hl => ?_)
    refine lv_goto (tgt := 23) hx hb dL_law_1052 (by decide) ?_
    refine W.widen (k := 150 + 23 * (i + 6)) (n := 3000 + 300 * (i + 6)) (by omega) (by omega) ?_
    exact K _ _ _ ⟨by omega, Gx_1, Gm_2, wx_1, wm_2, tx_1, tm_2, hIx_1, (Or.inl hIm_2), (rel_q hrl hrel_1.2.1 hrel_2.2.1 hrel_1.2.2 hrel_2.2.2), hKx_1, hKm_2, hP, hD, hS, lv_sub hl [0, 1, 2, 3, 4] rfl⟩
  · skip
    have hPc := ap_r hP
    have hDc := ad_r hD
    have hKc := hKm
    have hFc := fr_O hDc hS hA
    obtain ⟨fs9, hrc⟩ := MB_rc hMI
    refine va_calli (va_runV (As := []) (rest := []) ⟨hx, hb, hml, hown, hts⟩ (B_trouble l dC dI s.heap.size atx H.size md mk9 m0 Gm wm tm  hMI ) (cwV 0 hts (gV (fun w h => id h) wd_2105 wd_2102 wd_2103 wd_2104 wd_127) rfl rfl rfl (by decide +kernel) ⟨Nat.le_of_ble_eq_true rfl, Nat.le_of_ble_eq_true rfl⟩) ⟨fun a U g mk q => by obtain ⟨q0, q1, q2, qG, qP, qK, qD⟩ := q; exact ⟨q0, q1, q2, GW.blind qG, qP, va_K.moved (u := U) (U := U.calling g mk a) (Vm.Alike.refl U.vm) qK, qD⟩, va_recv hKc hPc (ci := 14) (q0 := 0) rfl hrc, fun U hU hW => ⟨rfl, by rw [hU], Nat.le_trans hn0 hS.1, GW.go hW hU hG (fun q hq hA9 => hS.2.1 q hq (fun h => hA9 (hA0 q h))), by rw [hU]; exact hPc, va_K.moved hW.alike hKc, hDc.weaken (fun _ _ _ h => hA0 _ h)⟩⟩ rfl rfl hl.1 rfl (lv_room (Nat.le_of_ble_eq_true rfl)) dL_law_1042 ⟨(by show _ ≤ (601024 : Nat); omega), (by show _ ≤ (7293034 : Nat); omega)⟩) hS (fun q _ h => hFc q h) hFc (fun r_3 u t H1 locs ht hvm hw_3 hB hz1 hk1 hS => ?_)
    subst hw_3
    obtain ⟨Gm_3, wm_3, tm_3, hIm_3, hrel_3, hP1, hK1, hD1⟩ := hB
    rw [ht] at hP1
    obtain ⟨hP, hD⟩ := jo_r hP hD hk1 hFc hP1 hD1
    have hKm_3 := va_K.moved hvm.symm hK1
    generalize H1 = H at hP hS ⊢
    refine lv_pop hx hb dL_law_1045 rfl ?_
    refine lv_goto (tgt := 1049) hx hb dL_law_1046 (by decide) ?_
    refine lv_iinc (v := (nI (i + 6))) (lv' := [(4, .int (nI (i + 6))), (3, .ref (ad 104)), (2, .ref m0), (1, .ref x0), (0, .ref b)]) hx hb dL_law_1049 hl (k := 0) rfl (nI_add _ 6) (by decide) rfl (fun ls hl => ?_)
    refine lv_goto (tgt := 23) hx hb dL_law_1052 (by decide) ?_
    refine W.widen (k := 150 + 23 * (i + 6)) (n := 3000 + 300 * (i + 6)) (by omega) (by omega) ?_
    exact K _ _ _ ⟨by omega, Gx_1, Gm_3, wx_1, wm_3, tx_1, tm_3, hIx_1, (Or.inr hIm_3), (rel_q hrl hrel_1.2.1 hrel_3.2.1 hrel_1.2.2 hrel_3.2.2), hKx_1, hKm_3, hP, hD, hS, lv_sub hl [0, 1, 2, 3, 4] rfl⟩
