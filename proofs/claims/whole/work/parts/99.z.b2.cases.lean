theorem wd_113 : Cond.initialized "MineAirLaw" ∈ wG := wG_of 113 (by decide +kernel) (by decide +kernel)
theorem wd_1234 : Cond.methodLink "MineAirLaw" 107 (⟨"MineAir", "man", "(I)I"⟩ : MethodName) ∈ wG := wG_of 1234 (by decide +kernel) (by decide +kernel)
theorem wd_1235 : Cond.instanceMethod (⟨"MineAir", "man", "(I)I"⟩ : MethodName) ∈ wG := wG_of 1235 (by decide +kernel) (by decide +kernel)
theorem wd_1236 : Cond.selects "MineAir" (⟨"MineAir", "man", "(I)I"⟩ : MethodName) (⟨"MineAir", "man", "(I)I"⟩ : MethodName) ∈ wG := wG_of 1236 (by decide +kernel) (by decide +kernel)
theorem wd_1237 : Cond.code (⟨"MineAir", "man", "(I)I"⟩ : MethodName) prog_1_method_22_code 2 (Option.some Jvm.ClassFile.FieldType.int) ∈ wG := wG_of 1237 (by decide +kernel) (by decide +kernel)
theorem wd_1238 : Cond.methodLink "MineAirLaw" 111 (⟨"MineAir", "out", "(I)I"⟩ : MethodName) ∈ wG := wG_of 1238 (by decide +kernel) (by decide +kernel)
theorem wd_1239 : Cond.instanceMethod (⟨"MineAir", "out", "(I)I"⟩ : MethodName) ∈ wG := wG_of 1239 (by decide +kernel) (by decide +kernel)
theorem wd_1240 : Cond.selects "MineAir" (⟨"MineAir", "out", "(I)I"⟩ : MethodName) (⟨"MineAir", "out", "(I)I"⟩ : MethodName) ∈ wG := wG_of 1240 (by decide +kernel) (by decide +kernel)
theorem wd_1241 : Cond.code (⟨"MineAir", "out", "(I)I"⟩ : MethodName) prog_1_method_23_code 2 (Option.some Jvm.ClassFile.FieldType.int) ∈ wG := wG_of 1241 (by decide +kernel) (by decide +kernel)
theorem wd_1258 : Cond.methodLink "MineAirLaw" 115 (⟨"MineAir", "change", "(III)I"⟩ : MethodName) ∈ wG := wG_of 1258 (by decide +kernel) (by decide +kernel)
theorem wd_1259 : Cond.instanceMethod (⟨"MineAir", "change", "(III)I"⟩ : MethodName) ∈ wG := wG_of 1259 (by decide +kernel) (by decide +kernel)
theorem wd_1260 : Cond.selects "MineAir" (⟨"MineAir", "change", "(III)I"⟩ : MethodName) (⟨"MineAir", "change", "(III)I"⟩ : MethodName) ∈ wG := wG_of 1260 (by decide +kernel) (by decide +kernel)
theorem wd_1261 : Cond.code (⟨"MineAir", "change", "(III)I"⟩ : MethodName) prog_1_method_24_code 4 (Option.some Jvm.ClassFile.FieldType.int) ∈ wG := wG_of 1261 (by decide +kernel) (by decide +kernel)
theorem wd_1271 : Cond.methodLink "MineAirLaw" 120 (⟨"MineAir", "order", "(I)I"⟩ : MethodName) ∈ wG := wG_of 1271 (by decide +kernel) (by decide +kernel)
theorem wd_1272 : Cond.instanceMethod (⟨"MineAir", "order", "(I)I"⟩ : MethodName) ∈ wG := wG_of 1272 (by decide +kernel) (by decide +kernel)
theorem wd_1273 : Cond.selects "MineAir" (⟨"MineAir", "order", "(I)I"⟩ : MethodName) (⟨"MineAir", "order", "(I)I"⟩ : MethodName) ∈ wG := wG_of 1273 (by decide +kernel) (by decide +kernel)
theorem wd_1274 : Cond.code (⟨"MineAir", "order", "(I)I"⟩ : MethodName) prog_1_method_25_code 2 (Option.some Jvm.ClassFile.FieldType.int) ∈ wG := wG_of 1274 (by decide +kernel) (by decide +kernel)
theorem wd_1298 : Cond.methodLink "MineAirLaw" 124 (⟨"MineAir", "make", "()I"⟩ : MethodName) ∈ wG := wG_of 1298 (by decide +kernel) (by decide +kernel)
theorem wd_1299 : Cond.instanceMethod (⟨"MineAir", "make", "()I"⟩ : MethodName) ∈ wG := wG_of 1299 (by decide +kernel) (by decide +kernel)
theorem wd_1300 : Cond.selects "MineAir" (⟨"MineAir", "make", "()I"⟩ : MethodName) (⟨"MineAir", "make", "()I"⟩ : MethodName) ∈ wG := wG_of 1300 (by decide +kernel) (by decide +kernel)
theorem wd_1301 : Cond.code (⟨"MineAir", "make", "()I"⟩ : MethodName) prog_1_method_26_code 2 (Option.some Jvm.ClassFile.FieldType.int) ∈ wG := wG_of 1301 (by decide +kernel) (by decide +kernel)
theorem wd_1306 : Cond.methodLink "MineAirLaw" 128 (⟨"MineAir", "reading", "(III)I"⟩ : MethodName) ∈ wG := wG_of 1306 (by decide +kernel) (by decide +kernel)
theorem wd_1307 : Cond.instanceMethod (⟨"MineAir", "reading", "(III)I"⟩ : MethodName) ∈ wG := wG_of 1307 (by decide +kernel) (by decide +kernel)
theorem wd_1308 : Cond.selects "MineAir" (⟨"MineAir", "reading", "(III)I"⟩ : MethodName) (⟨"MineAir", "reading", "(III)I"⟩ : MethodName) ∈ wG := wG_of 1308 (by decide +kernel) (by decide +kernel)
theorem wd_1309 : Cond.code (⟨"MineAir", "reading", "(III)I"⟩ : MethodName) prog_1_method_27_code 4 (Option.some Jvm.ClassFile.FieldType.int) ∈ wG := wG_of 1309 (by decide +kernel) (by decide +kernel)
theorem wd_1314 : Cond.methodLink "MineAirLaw" 132 (⟨"MineAir", "fits", "(I)I"⟩ : MethodName) ∈ wG := wG_of 1314 (by decide +kernel) (by decide +kernel)
theorem wd_1315 : Cond.instanceMethod (⟨"MineAir", "fits", "(I)I"⟩ : MethodName) ∈ wG := wG_of 1315 (by decide +kernel) (by decide +kernel)
theorem wd_1316 : Cond.selects "MineAir" (⟨"MineAir", "fits", "(I)I"⟩ : MethodName) (⟨"MineAir", "fits", "(I)I"⟩ : MethodName) ∈ wG := wG_of 1316 (by decide +kernel) (by decide +kernel)
theorem wd_1317 : Cond.code (⟨"MineAir", "fits", "(I)I"⟩ : MethodName) prog_1_method_28_code 2 (Option.some Jvm.ClassFile.FieldType.int) ∈ wG := wG_of 1317 (by decide +kernel) (by decide +kernel)
theorem wd_1326 : Cond.methodLink "MineAirLaw" 145 (⟨"MineAir", "count", "(I)I"⟩ : MethodName) ∈ wG := wG_of 1326 (by decide +kernel) (by decide +kernel)
theorem wd_1327 : Cond.instanceMethod (⟨"MineAir", "count", "(I)I"⟩ : MethodName) ∈ wG := wG_of 1327 (by decide +kernel) (by decide +kernel)
theorem wd_1328 : Cond.selects "MineAir" (⟨"MineAir", "count", "(I)I"⟩ : MethodName) (⟨"MineAir", "count", "(I)I"⟩ : MethodName) ∈ wG := wG_of 1328 (by decide +kernel) (by decide +kernel)
theorem wd_1329 : Cond.code (⟨"MineAir", "count", "(I)I"⟩ : MethodName) prog_1_method_30_code 2 (Option.some Jvm.ClassFile.FieldType.int) ∈ wG := wG_of 1329 (by decide +kernel) (by decide +kernel)
theorem wd_1330 : Cond.methodLink "MineAirLaw" 149 (⟨"MineAir", "trouble", "()I"⟩ : MethodName) ∈ wG := wG_of 1330 (by decide +kernel) (by decide +kernel)
theorem wd_1331 : Cond.instanceMethod (⟨"MineAir", "trouble", "()I"⟩ : MethodName) ∈ wG := wG_of 1331 (by decide +kernel) (by decide +kernel)
theorem wd_1332 : Cond.selects "MineAir" (⟨"MineAir", "trouble", "()I"⟩ : MethodName) (⟨"MineAir", "trouble", "()I"⟩ : MethodName) ∈ wG := wG_of 1332 (by decide +kernel) (by decide +kernel)
theorem wd_1333 : Cond.code (⟨"MineAir", "trouble", "()I"⟩ : MethodName) prog_1_method_31_code 1 (Option.some Jvm.ClassFile.FieldType.int) ∈ wG := wG_of 1333 (by decide +kernel) (by decide +kernel)
theorem wd_1334 : Cond.methodLink "MineAirLaw" 136 (⟨"MineAirLaw", "led", "(LMineAir;II[J)I"⟩ : MethodName) ∈ wG := wG_of 1334 (by decide +kernel) (by decide +kernel)
theorem wd_1335 : Cond.static (⟨"MineAirLaw", "led", "(LMineAir;II[J)I"⟩ : MethodName) ∈ wG := wG_of 1335 (by decide +kernel) (by decide +kernel)
theorem wd_1336 : Cond.codeWith ({ cls := "MineAirLaw", name := "led", desc := "(LMineAir;II[J)I" } : Jvm.MethodName) method_3_code (5 : Nat) (Option.some Jvm.ClassFile.FieldType.int) [((0 : Nat), (10 : Nat), (13 : Nat), (13 : Nat))] ∈ wG := wG_of 1336 (by decide +kernel) (by decide +kernel)
theorem wd_1607 : Cond.methodLink "MineAirLaw" 142 (⟨"MineAirModel", "thrown", "()I"⟩ : MethodName) ∈ wG := wG_of 1607 (by decide +kernel) (by decide +kernel)
theorem wd_1608 : Cond.instanceMethod (⟨"MineAirModel", "thrown", "()I"⟩ : MethodName) ∈ wG := wG_of 1608 (by decide +kernel) (by decide +kernel)
theorem wd_1609 : Cond.selects "MineAirModel" (⟨"MineAirModel", "thrown", "()I"⟩ : MethodName) (⟨"MineAirModel", "thrown", "()I"⟩ : MethodName) ∈ wG := wG_of 1609 (by decide +kernel) (by decide +kernel)
theorem wd_1610 : Cond.code (⟨"MineAirModel", "thrown", "()I"⟩ : MethodName) prog_14_method_2_code 1 (Option.some Jvm.ClassFile.FieldType.int) ∈ wG := wG_of 1610 (by decide +kernel) (by decide +kernel)
theorem wd_2035 : Cond.methodLink "MineAirLaw" 110 (⟨"MineAirModel", "man", "(I)I"⟩ : MethodName) ∈ wG := wG_of 2035 (by decide +kernel) (by decide +kernel)
theorem wd_2036 : Cond.instanceMethod (⟨"MineAirModel", "man", "(I)I"⟩ : MethodName) ∈ wG := wG_of 2036 (by decide +kernel) (by decide +kernel)
theorem wd_2037 : Cond.selects "MineAirModel" (⟨"MineAirModel", "man", "(I)I"⟩ : MethodName) (⟨"MineAirModel", "man", "(I)I"⟩ : MethodName) ∈ wG := wG_of 2037 (by decide +kernel) (by decide +kernel)
theorem wd_2038 : Cond.code (⟨"MineAirModel", "man", "(I)I"⟩ : MethodName) prog_14_method_73_code 2 (Option.some Jvm.ClassFile.FieldType.int) ∈ wG := wG_of 2038 (by decide +kernel) (by decide +kernel)
theorem wd_2039 : Cond.methodLink "MineAirLaw" 114 (⟨"MineAirModel", "out", "(I)I"⟩ : MethodName) ∈ wG := wG_of 2039 (by decide +kernel) (by decide +kernel)
theorem wd_2040 : Cond.instanceMethod (⟨"MineAirModel", "out", "(I)I"⟩ : MethodName) ∈ wG := wG_of 2040 (by decide +kernel) (by decide +kernel)
theorem wd_2041 : Cond.selects "MineAirModel" (⟨"MineAirModel", "out", "(I)I"⟩ : MethodName) (⟨"MineAirModel", "out", "(I)I"⟩ : MethodName) ∈ wG := wG_of 2041 (by decide +kernel) (by decide +kernel)
theorem wd_2042 : Cond.code (⟨"MineAirModel", "out", "(I)I"⟩ : MethodName) prog_14_method_76_code 3 (Option.some Jvm.ClassFile.FieldType.int) ∈ wG := wG_of 2042 (by decide +kernel) (by decide +kernel)
theorem wd_2051 : Cond.methodLink "MineAirLaw" 119 (⟨"MineAirModel", "change", "(III)I"⟩ : MethodName) ∈ wG := wG_of 2051 (by decide +kernel) (by decide +kernel)
theorem wd_2052 : Cond.instanceMethod (⟨"MineAirModel", "change", "(III)I"⟩ : MethodName) ∈ wG := wG_of 2052 (by decide +kernel) (by decide +kernel)
theorem wd_2053 : Cond.selects "MineAirModel" (⟨"MineAirModel", "change", "(III)I"⟩ : MethodName) (⟨"MineAirModel", "change", "(III)I"⟩ : MethodName) ∈ wG := wG_of 2053 (by decide +kernel) (by decide +kernel)
theorem wd_2054 : Cond.code (⟨"MineAirModel", "change", "(III)I"⟩ : MethodName) prog_14_method_77_code 5 (Option.some Jvm.ClassFile.FieldType.int) ∈ wG := wG_of 2054 (by decide +kernel) (by decide +kernel)
theorem wd_2055 : Cond.methodLink "MineAirLaw" 123 (⟨"MineAirModel", "order", "(I)I"⟩ : MethodName) ∈ wG := wG_of 2055 (by decide +kernel) (by decide +kernel)
theorem wd_2056 : Cond.instanceMethod (⟨"MineAirModel", "order", "(I)I"⟩ : MethodName) ∈ wG := wG_of 2056 (by decide +kernel) (by decide +kernel)
theorem wd_2057 : Cond.selects "MineAirModel" (⟨"MineAirModel", "order", "(I)I"⟩ : MethodName) (⟨"MineAirModel", "order", "(I)I"⟩ : MethodName) ∈ wG := wG_of 2057 (by decide +kernel) (by decide +kernel)
theorem wd_2058 : Cond.code (⟨"MineAirModel", "order", "(I)I"⟩ : MethodName) prog_14_method_83_code 2 (Option.some Jvm.ClassFile.FieldType.int) ∈ wG := wG_of 2058 (by decide +kernel) (by decide +kernel)
theorem wd_2082 : Cond.methodLink "MineAirLaw" 127 (⟨"MineAirModel", "make", "()I"⟩ : MethodName) ∈ wG := wG_of 2082 (by decide +kernel) (by decide +kernel)
theorem wd_2083 : Cond.instanceMethod (⟨"MineAirModel", "make", "()I"⟩ : MethodName) ∈ wG := wG_of 2083 (by decide +kernel) (by decide +kernel)
theorem wd_2084 : Cond.selects "MineAirModel" (⟨"MineAirModel", "make", "()I"⟩ : MethodName) (⟨"MineAirModel", "make", "()I"⟩ : MethodName) ∈ wG := wG_of 2084 (by decide +kernel) (by decide +kernel)
theorem wd_2085 : Cond.code (⟨"MineAirModel", "make", "()I"⟩ : MethodName) prog_14_method_84_code 3 (Option.some Jvm.ClassFile.FieldType.int) ∈ wG := wG_of 2085 (by decide +kernel) (by decide +kernel)
theorem wd_2086 : Cond.methodLink "MineAirLaw" 131 (⟨"MineAirModel", "reading", "(III)I"⟩ : MethodName) ∈ wG := wG_of 2086 (by decide +kernel) (by decide +kernel)
theorem wd_2087 : Cond.instanceMethod (⟨"MineAirModel", "reading", "(III)I"⟩ : MethodName) ∈ wG := wG_of 2087 (by decide +kernel) (by decide +kernel)
theorem wd_2088 : Cond.selects "MineAirModel" (⟨"MineAirModel", "reading", "(III)I"⟩ : MethodName) (⟨"MineAirModel", "reading", "(III)I"⟩ : MethodName) ∈ wG := wG_of 2088 (by decide +kernel) (by decide +kernel)
theorem wd_2089 : Cond.code (⟨"MineAirModel", "reading", "(III)I"⟩ : MethodName) prog_14_method_85_code 4 (Option.some Jvm.ClassFile.FieldType.int) ∈ wG := wG_of 2089 (by decide +kernel) (by decide +kernel)
theorem wd_2090 : Cond.methodLink "MineAirLaw" 135 (⟨"MineAirModel", "fits", "(I)I"⟩ : MethodName) ∈ wG := wG_of 2090 (by decide +kernel) (by decide +kernel)
theorem wd_2091 : Cond.instanceMethod (⟨"MineAirModel", "fits", "(I)I"⟩ : MethodName) ∈ wG := wG_of 2091 (by decide +kernel) (by decide +kernel)
theorem wd_2092 : Cond.selects "MineAirModel" (⟨"MineAirModel", "fits", "(I)I"⟩ : MethodName) (⟨"MineAirModel", "fits", "(I)I"⟩ : MethodName) ∈ wG := wG_of 2092 (by decide +kernel) (by decide +kernel)
theorem wd_2093 : Cond.code (⟨"MineAirModel", "fits", "(I)I"⟩ : MethodName) prog_14_method_86_code 6 (Option.some Jvm.ClassFile.FieldType.int) ∈ wG := wG_of 2093 (by decide +kernel) (by decide +kernel)
theorem wd_2094 : Cond.methodLink "MineAirLaw" 141 (⟨"MineAirModel", "led", "(II)I"⟩ : MethodName) ∈ wG := wG_of 2094 (by decide +kernel) (by decide +kernel)
theorem wd_2095 : Cond.instanceMethod (⟨"MineAirModel", "led", "(II)I"⟩ : MethodName) ∈ wG := wG_of 2095 (by decide +kernel) (by decide +kernel)
theorem wd_2096 : Cond.selects "MineAirModel" (⟨"MineAirModel", "led", "(II)I"⟩ : MethodName) (⟨"MineAirModel", "led", "(II)I"⟩ : MethodName) ∈ wG := wG_of 2096 (by decide +kernel) (by decide +kernel)
theorem wd_2097 : Cond.code (⟨"MineAirModel", "led", "(II)I"⟩ : MethodName) prog_14_method_87_code 6 (Option.some Jvm.ClassFile.FieldType.int) ∈ wG := wG_of 2097 (by decide +kernel) (by decide +kernel)
theorem wd_2102 : Cond.methodLink "MineAirLaw" 148 (⟨"MineAirModel", "count", "(I)I"⟩ : MethodName) ∈ wG := wG_of 2102 (by decide +kernel) (by decide +kernel)
theorem wd_2103 : Cond.instanceMethod (⟨"MineAirModel", "count", "(I)I"⟩ : MethodName) ∈ wG := wG_of 2103 (by decide +kernel) (by decide +kernel)
theorem wd_2104 : Cond.selects "MineAirModel" (⟨"MineAirModel", "count", "(I)I"⟩ : MethodName) (⟨"MineAirModel", "count", "(I)I"⟩ : MethodName) ∈ wG := wG_of 2104 (by decide +kernel) (by decide +kernel)
theorem wd_2105 : Cond.code (⟨"MineAirModel", "count", "(I)I"⟩ : MethodName) prog_14_method_89_code 2 (Option.some Jvm.ClassFile.FieldType.int) ∈ wG := wG_of 2105 (by decide +kernel) (by decide +kernel)
theorem wd_2106 : Cond.methodLink "MineAirLaw" 152 (⟨"MineAirModel", "trouble", "()I"⟩ : MethodName) ∈ wG := wG_of 2106 (by decide +kernel) (by decide +kernel)
theorem wd_2107 : Cond.instanceMethod (⟨"MineAirModel", "trouble", "()I"⟩ : MethodName) ∈ wG := wG_of 2107 (by decide +kernel) (by decide +kernel)
theorem wd_2108 : Cond.selects "MineAirModel" (⟨"MineAirModel", "trouble", "()I"⟩ : MethodName) (⟨"MineAirModel", "trouble", "()I"⟩ : MethodName) ∈ wG := wG_of 2108 (by decide +kernel) (by decide +kernel)
theorem wd_2109 : Cond.code (⟨"MineAirModel", "trouble", "()I"⟩ : MethodName) prog_14_method_90_code 1 (Option.some Jvm.ClassFile.FieldType.int) ∈ wG := wG_of 2109 (by decide +kernel) (by decide +kernel)
theorem dL_law_761 : decode cL_law 761 = .ok (.aload_n 1, 1) := by decide +kernel
theorem dL_law_762 : decode cL_law 762 = .ok (.aload_n 0, 1) := by decide +kernel
theorem dL_law_763 : decode cL_law 763 = .ok (.iload 4, 2) := by decide +kernel
theorem dL_law_765 : decode cL_law 765 = .ok (.iconst 1, 1) := by decide +kernel
theorem dL_law_766 : decode cL_law 766 = .ok (.iadd, 1) := by decide +kernel
theorem dL_law_767 : decode cL_law 767 = .ok (.iaload, 1) := by decide +kernel
theorem dL_law_768 : decode cL_law 768 = .ok (.invokevirtual 107, 3) := by decide +kernel
theorem dL_law_771 : decode cL_law 771 = .ok (.aload_n 2, 1) := by decide +kernel
theorem dL_law_772 : decode cL_law 772 = .ok (.aload_n 0, 1) := by decide +kernel
theorem dL_law_773 : decode cL_law 773 = .ok (.iload 4, 2) := by decide +kernel
theorem dL_law_775 : decode cL_law 775 = .ok (.iconst 1, 1) := by decide +kernel
theorem dL_law_776 : decode cL_law 776 = .ok (.iadd, 1) := by decide +kernel
theorem dL_law_777 : decode cL_law 777 = .ok (.iaload, 1) := by decide +kernel
theorem dL_law_778 : decode cL_law 778 = .ok (.invokevirtual 110, 3) := by decide +kernel
theorem dL_law_781 : decode cL_law 781 = .ok (.if_icmp .eq 297, 3) := by decide +kernel
theorem dL_law_786 : decode cL_law 786 = .ok (.aload_n 1, 1) := by decide +kernel
theorem dL_law_787 : decode cL_law 787 = .ok (.aload_n 0, 1) := by decide +kernel
theorem dL_law_788 : decode cL_law 788 = .ok (.iload 4, 2) := by decide +kernel
theorem dL_law_790 : decode cL_law 790 = .ok (.iconst 1, 1) := by decide +kernel
theorem dL_law_791 : decode cL_law 791 = .ok (.iadd, 1) := by decide +kernel
theorem dL_law_792 : decode cL_law 792 = .ok (.iaload, 1) := by decide +kernel
theorem dL_law_793 : decode cL_law 793 = .ok (.invokevirtual 111, 3) := by decide +kernel
theorem dL_law_796 : decode cL_law 796 = .ok (.aload_n 2, 1) := by decide +kernel
theorem dL_law_797 : decode cL_law 797 = .ok (.aload_n 0, 1) := by decide +kernel
theorem dL_law_798 : decode cL_law 798 = .ok (.iload 4, 2) := by decide +kernel
theorem dL_law_800 : decode cL_law 800 = .ok (.iconst 1, 1) := by decide +kernel
theorem dL_law_801 : decode cL_law 801 = .ok (.iadd, 1) := by decide +kernel
theorem dL_law_802 : decode cL_law 802 = .ok (.iaload, 1) := by decide +kernel
theorem dL_law_803 : decode cL_law 803 = .ok (.invokevirtual 114, 3) := by decide +kernel
theorem dL_law_806 : decode cL_law 806 = .ok (.if_icmp .eq 272, 3) := by decide +kernel
theorem dL_law_811 : decode cL_law 811 = .ok (.aload_n 1, 1) := by decide +kernel
theorem dL_law_812 : decode cL_law 812 = .ok (.aload_n 0, 1) := by decide +kernel
theorem dL_law_813 : decode cL_law 813 = .ok (.iload 4, 2) := by decide +kernel
theorem dL_law_815 : decode cL_law 815 = .ok (.iconst 1, 1) := by decide +kernel
theorem dL_law_816 : decode cL_law 816 = .ok (.iadd, 1) := by decide +kernel
theorem dL_law_817 : decode cL_law 817 = .ok (.iaload, 1) := by decide +kernel
theorem dL_law_818 : decode cL_law 818 = .ok (.aload_n 0, 1) := by decide +kernel
theorem dL_law_819 : decode cL_law 819 = .ok (.iload 4, 2) := by decide +kernel
theorem dL_law_821 : decode cL_law 821 = .ok (.iconst 2, 1) := by decide +kernel
theorem dL_law_822 : decode cL_law 822 = .ok (.iadd, 1) := by decide +kernel
theorem dL_law_823 : decode cL_law 823 = .ok (.iaload, 1) := by decide +kernel
theorem dL_law_824 : decode cL_law 824 = .ok (.aload_n 0, 1) := by decide +kernel
theorem dL_law_825 : decode cL_law 825 = .ok (.iload 4, 2) := by decide +kernel
theorem dL_law_827 : decode cL_law 827 = .ok (.iconst 3, 1) := by decide +kernel
theorem dL_law_828 : decode cL_law 828 = .ok (.iadd, 1) := by decide +kernel
theorem dL_law_829 : decode cL_law 829 = .ok (.iaload, 1) := by decide +kernel
theorem dL_law_830 : decode cL_law 830 = .ok (.invokevirtual 115, 3) := by decide +kernel
theorem dL_law_833 : decode cL_law 833 = .ok (.aload_n 2, 1) := by decide +kernel
theorem dL_law_834 : decode cL_law 834 = .ok (.aload_n 0, 1) := by decide +kernel
theorem dL_law_835 : decode cL_law 835 = .ok (.iload 4, 2) := by decide +kernel
theorem dL_law_837 : decode cL_law 837 = .ok (.iconst 1, 1) := by decide +kernel
theorem dL_law_838 : decode cL_law 838 = .ok (.iadd, 1) := by decide +kernel
theorem dL_law_839 : decode cL_law 839 = .ok (.iaload, 1) := by decide +kernel
theorem dL_law_840 : decode cL_law 840 = .ok (.aload_n 0, 1) := by decide +kernel
theorem dL_law_841 : decode cL_law 841 = .ok (.iload 4, 2) := by decide +kernel
theorem dL_law_843 : decode cL_law 843 = .ok (.iconst 2, 1) := by decide +kernel
theorem dL_law_844 : decode cL_law 844 = .ok (.iadd, 1) := by decide +kernel
theorem dL_law_845 : decode cL_law 845 = .ok (.iaload, 1) := by decide +kernel
theorem dL_law_846 : decode cL_law 846 = .ok (.aload_n 0, 1) := by decide +kernel
theorem dL_law_847 : decode cL_law 847 = .ok (.iload 4, 2) := by decide +kernel
theorem dL_law_849 : decode cL_law 849 = .ok (.iconst 3, 1) := by decide +kernel
theorem dL_law_850 : decode cL_law 850 = .ok (.iadd, 1) := by decide +kernel
theorem dL_law_851 : decode cL_law 851 = .ok (.iaload, 1) := by decide +kernel
theorem dL_law_852 : decode cL_law 852 = .ok (.invokevirtual 119, 3) := by decide +kernel
theorem dL_law_855 : decode cL_law 855 = .ok (.if_icmp .eq 223, 3) := by decide +kernel
theorem dL_law_860 : decode cL_law 860 = .ok (.aload_n 1, 1) := by decide +kernel
theorem dL_law_861 : decode cL_law 861 = .ok (.aload_n 0, 1) := by decide +kernel
theorem dL_law_862 : decode cL_law 862 = .ok (.iload 4, 2) := by decide +kernel
theorem dL_law_864 : decode cL_law 864 = .ok (.iconst 1, 1) := by decide +kernel
theorem dL_law_865 : decode cL_law 865 = .ok (.iadd, 1) := by decide +kernel
theorem dL_law_866 : decode cL_law 866 = .ok (.iaload, 1) := by decide +kernel
theorem dL_law_867 : decode cL_law 867 = .ok (.invokevirtual 120, 3) := by decide +kernel
theorem dL_law_870 : decode cL_law 870 = .ok (.aload_n 2, 1) := by decide +kernel
theorem dL_law_871 : decode cL_law 871 = .ok (.aload_n 0, 1) := by decide +kernel
theorem dL_law_872 : decode cL_law 872 = .ok (.iload 4, 2) := by decide +kernel
theorem dL_law_874 : decode cL_law 874 = .ok (.iconst 1, 1) := by decide +kernel
theorem dL_law_875 : decode cL_law 875 = .ok (.iadd, 1) := by decide +kernel
theorem dL_law_876 : decode cL_law 876 = .ok (.iaload, 1) := by decide +kernel
theorem dL_law_877 : decode cL_law 877 = .ok (.invokevirtual 123, 3) := by decide +kernel
theorem dL_law_880 : decode cL_law 880 = .ok (.if_icmp .eq 198, 3) := by decide +kernel
theorem dL_law_885 : decode cL_law 885 = .ok (.aload_n 1, 1) := by decide +kernel
theorem dL_law_886 : decode cL_law 886 = .ok (.invokevirtual 124, 3) := by decide +kernel
theorem dL_law_889 : decode cL_law 889 = .ok (.aload_n 2, 1) := by decide +kernel
theorem dL_law_890 : decode cL_law 890 = .ok (.invokevirtual 127, 3) := by decide +kernel
theorem dL_law_893 : decode cL_law 893 = .ok (.if_icmp .eq 185, 3) := by decide +kernel
theorem dL_law_898 : decode cL_law 898 = .ok (.aload_n 1, 1) := by decide +kernel
theorem dL_law_899 : decode cL_law 899 = .ok (.aload_n 0, 1) := by decide +kernel
theorem dL_law_900 : decode cL_law 900 = .ok (.iload 4, 2) := by decide +kernel
theorem dL_law_902 : decode cL_law 902 = .ok (.iconst 1, 1) := by decide +kernel
theorem dL_law_903 : decode cL_law 903 = .ok (.iadd, 1) := by decide +kernel
theorem dL_law_904 : decode cL_law 904 = .ok (.iaload, 1) := by decide +kernel
theorem dL_law_905 : decode cL_law 905 = .ok (.aload_n 0, 1) := by decide +kernel
theorem dL_law_906 : decode cL_law 906 = .ok (.iload 4, 2) := by decide +kernel
theorem dL_law_908 : decode cL_law 908 = .ok (.iconst 2, 1) := by decide +kernel
theorem dL_law_909 : decode cL_law 909 = .ok (.iadd, 1) := by decide +kernel
theorem dL_law_910 : decode cL_law 910 = .ok (.iaload, 1) := by decide +kernel
theorem dL_law_911 : decode cL_law 911 = .ok (.aload_n 0, 1) := by decide +kernel
theorem dL_law_912 : decode cL_law 912 = .ok (.iload 4, 2) := by decide +kernel
theorem dL_law_914 : decode cL_law 914 = .ok (.iconst 3, 1) := by decide +kernel
theorem dL_law_915 : decode cL_law 915 = .ok (.iadd, 1) := by decide +kernel
theorem dL_law_916 : decode cL_law 916 = .ok (.iaload, 1) := by decide +kernel
theorem dL_law_917 : decode cL_law 917 = .ok (.invokevirtual 128, 3) := by decide +kernel
theorem dL_law_920 : decode cL_law 920 = .ok (.aload_n 2, 1) := by decide +kernel
theorem dL_law_921 : decode cL_law 921 = .ok (.aload_n 0, 1) := by decide +kernel
theorem dL_law_922 : decode cL_law 922 = .ok (.iload 4, 2) := by decide +kernel
theorem dL_law_924 : decode cL_law 924 = .ok (.iconst 1, 1) := by decide +kernel
theorem dL_law_925 : decode cL_law 925 = .ok (.iadd, 1) := by decide +kernel
theorem dL_law_926 : decode cL_law 926 = .ok (.iaload, 1) := by decide +kernel
theorem dL_law_927 : decode cL_law 927 = .ok (.aload_n 0, 1) := by decide +kernel
theorem dL_law_928 : decode cL_law 928 = .ok (.iload 4, 2) := by decide +kernel
theorem dL_law_930 : decode cL_law 930 = .ok (.iconst 2, 1) := by decide +kernel
theorem dL_law_931 : decode cL_law 931 = .ok (.iadd, 1) := by decide +kernel
theorem dL_law_932 : decode cL_law 932 = .ok (.iaload, 1) := by decide +kernel
theorem dL_law_933 : decode cL_law 933 = .ok (.aload_n 0, 1) := by decide +kernel
theorem dL_law_934 : decode cL_law 934 = .ok (.iload 4, 2) := by decide +kernel
theorem dL_law_936 : decode cL_law 936 = .ok (.iconst 3, 1) := by decide +kernel
theorem dL_law_937 : decode cL_law 937 = .ok (.iadd, 1) := by decide +kernel
theorem dL_law_938 : decode cL_law 938 = .ok (.iaload, 1) := by decide +kernel
theorem dL_law_939 : decode cL_law 939 = .ok (.invokevirtual 131, 3) := by decide +kernel
theorem dL_law_942 : decode cL_law 942 = .ok (.if_icmp .eq 136, 3) := by decide +kernel
theorem dL_law_947 : decode cL_law 947 = .ok (.aload_n 1, 1) := by decide +kernel
theorem dL_law_948 : decode cL_law 948 = .ok (.aload_n 0, 1) := by decide +kernel
theorem dL_law_949 : decode cL_law 949 = .ok (.iload 4, 2) := by decide +kernel
theorem dL_law_951 : decode cL_law 951 = .ok (.iconst 1, 1) := by decide +kernel
theorem dL_law_952 : decode cL_law 952 = .ok (.iadd, 1) := by decide +kernel
theorem dL_law_953 : decode cL_law 953 = .ok (.iaload, 1) := by decide +kernel
theorem dL_law_954 : decode cL_law 954 = .ok (.invokevirtual 132, 3) := by decide +kernel
theorem dL_law_957 : decode cL_law 957 = .ok (.aload_n 2, 1) := by decide +kernel
theorem dL_law_958 : decode cL_law 958 = .ok (.aload_n 0, 1) := by decide +kernel
theorem dL_law_959 : decode cL_law 959 = .ok (.iload 4, 2) := by decide +kernel
theorem dL_law_961 : decode cL_law 961 = .ok (.iconst 1, 1) := by decide +kernel
theorem dL_law_962 : decode cL_law 962 = .ok (.iadd, 1) := by decide +kernel
theorem dL_law_963 : decode cL_law 963 = .ok (.iaload, 1) := by decide +kernel
theorem dL_law_964 : decode cL_law 964 = .ok (.invokevirtual 135, 3) := by decide +kernel
theorem dL_law_967 : decode cL_law 967 = .ok (.if_icmp .eq 111, 3) := by decide +kernel
theorem dL_law_972 : decode cL_law 972 = .ok (.aload_n 1, 1) := by decide +kernel
theorem dL_law_973 : decode cL_law 973 = .ok (.aload_n 0, 1) := by decide +kernel
theorem dL_law_974 : decode cL_law 974 = .ok (.iload 4, 2) := by decide +kernel
theorem dL_law_976 : decode cL_law 976 = .ok (.iconst 1, 1) := by decide +kernel
theorem dL_law_977 : decode cL_law 977 = .ok (.iadd, 1) := by decide +kernel
theorem dL_law_978 : decode cL_law 978 = .ok (.iaload, 1) := by decide +kernel
theorem dL_law_979 : decode cL_law 979 = .ok (.aload_n 0, 1) := by decide +kernel
theorem dL_law_980 : decode cL_law 980 = .ok (.iload 4, 2) := by decide +kernel
theorem dL_law_982 : decode cL_law 982 = .ok (.iconst 2, 1) := by decide +kernel
theorem dL_law_983 : decode cL_law 983 = .ok (.iadd, 1) := by decide +kernel
theorem dL_law_984 : decode cL_law 984 = .ok (.iaload, 1) := by decide +kernel
theorem dL_law_985 : decode cL_law 985 = .ok (.aload_n 3, 1) := by decide +kernel
theorem dL_law_986 : decode cL_law 986 = .ok (.invokestatic 136, 3) := by decide +kernel
theorem dL_law_989 : decode cL_law 989 = .ok (.istore 5, 2) := by decide +kernel
theorem dL_law_991 : decode cL_law 991 = .ok (.aload_n 2, 1) := by decide +kernel
theorem dL_law_992 : decode cL_law 992 = .ok (.aload_n 0, 1) := by decide +kernel
theorem dL_law_993 : decode cL_law 993 = .ok (.iload 4, 2) := by decide +kernel
theorem dL_law_995 : decode cL_law 995 = .ok (.iconst 1, 1) := by decide +kernel
theorem dL_law_996 : decode cL_law 996 = .ok (.iadd, 1) := by decide +kernel
theorem dL_law_997 : decode cL_law 997 = .ok (.iaload, 1) := by decide +kernel
theorem dL_law_998 : decode cL_law 998 = .ok (.aload_n 0, 1) := by decide +kernel
theorem dL_law_999 : decode cL_law 999 = .ok (.iload 4, 2) := by decide +kernel
theorem dL_law_1001 : decode cL_law 1001 = .ok (.iconst 2, 1) := by decide +kernel
theorem dL_law_1002 : decode cL_law 1002 = .ok (.iadd, 1) := by decide +kernel
theorem dL_law_1003 : decode cL_law 1003 = .ok (.iaload, 1) := by decide +kernel
theorem dL_law_1004 : decode cL_law 1004 = .ok (.invokevirtual 141, 3) := by decide +kernel
theorem dL_law_1007 : decode cL_law 1007 = .ok (.istore 6, 2) := by decide +kernel
theorem dL_law_1009 : decode cL_law 1009 = .ok (.aload_n 2, 1) := by decide +kernel
theorem dL_law_1010 : decode cL_law 1010 = .ok (.invokevirtual 142, 3) := by decide +kernel
theorem dL_law_1013 : decode cL_law 1013 = .ok (.iload 5, 2) := by decide +kernel
theorem dL_law_1015 : decode cL_law 1015 = .ok (.if_icmp .eq 5, 3) := by decide +kernel
theorem dL_law_1040 : decode cL_law 1040 = .ok (.aload_n 1, 1) := by decide +kernel
theorem dL_law_1041 : decode cL_law 1041 = .ok (.aload_n 0, 1) := by decide +kernel
theorem dL_law_1042 : decode cL_law 1042 = .ok (.iload 4, 2) := by decide +kernel
theorem dL_law_1044 : decode cL_law 1044 = .ok (.iconst 1, 1) := by decide +kernel
theorem dL_law_1045 : decode cL_law 1045 = .ok (.iadd, 1) := by decide +kernel
theorem dL_law_1046 : decode cL_law 1046 = .ok (.iaload, 1) := by decide +kernel
theorem dL_law_1047 : decode cL_law 1047 = .ok (.invokevirtual 145, 3) := by decide +kernel
theorem dL_law_1050 : decode cL_law 1050 = .ok (.aload_n 2, 1) := by decide +kernel
theorem dL_law_1051 : decode cL_law 1051 = .ok (.aload_n 0, 1) := by decide +kernel
theorem dL_law_1052 : decode cL_law 1052 = .ok (.iload 4, 2) := by decide +kernel
theorem dL_law_1054 : decode cL_law 1054 = .ok (.iconst 1, 1) := by decide +kernel
theorem dL_law_1055 : decode cL_law 1055 = .ok (.iadd, 1) := by decide +kernel
theorem dL_law_1056 : decode cL_law 1056 = .ok (.iaload, 1) := by decide +kernel
theorem dL_law_1057 : decode cL_law 1057 = .ok (.invokevirtual 148, 3) := by decide +kernel
theorem dL_law_1060 : decode cL_law 1060 = .ok (.if_icmp .eq 18, 3) := by decide +kernel
theorem dL_law_1065 : decode cL_law 1065 = .ok (.aload_n 1, 1) := by decide +kernel
theorem dL_law_1066 : decode cL_law 1066 = .ok (.invokevirtual 149, 3) := by decide +kernel
theorem dL_law_1069 : decode cL_law 1069 = .ok (.aload_n 2, 1) := by decide +kernel
theorem dL_law_1070 : decode cL_law 1070 = .ok (.invokevirtual 152, 3) := by decide +kernel
theorem dL_law_1073 : decode cL_law 1073 = .ok (.if_icmp .eq 5, 3) := by decide +kernel
set_option maxHeartbeats 4000000 in
set_option maxRecDepth 100000 in
theorem law_20 {p : Program} {l : Launch} {e : Env} {s : State} {m : MethodId} {below : List Frame} {meth : Method} {c : Code} {dC : Nat → ClassId} {dI : Nat → Nat → Nat} {b L : Nat} {xs : Nat → Int32} (hst : l.stackTraces = false) (hL : L ≤ 3072) (C0 : lw_At p s m meth c b L xs) (atx : Nat → Nat × Nat) (hG : GW s.heap.size atx s) (ad : Nat → Nat) (ka : Nat → ClassId) (x0 : Nat) (md : Nat → Nat) (mk9 : Nat → ClassId) (m0 : Nat) (i : Nat) (hi : i + 6 ≤ L) (K : ∀ (H : Heap) (locs : List Loc) (ls : Array Slot), LV dC dI s b L ad ka x0 md mk9 m0 (i + 6) H locs ls → W p l e room_1 s m #[Value.ref b] below meth c H locs (150 + 23 * (i + 6)) (3000 + 300 * (i + 6)) (lw_Z below #[Value.ref b] s) (F0 m 23 ls [])) (H : Heap) (locs : List Loc) (ls : Array Slot) (Gx Gm : Nat → Int) (wx wm : va_W) (tx tm : List (ClassId × FieldType)) (hXI : XI ad ka x0 Gx wx tx) (hMI : MZ md mk9 m0 Gm wm tm ∨ MB md mk9 m0 Gm wm tm) (hrl : REL Gx Gm) (hKx : va_K (dC, dI) classes tx s) (hKm : va_K (dC, dI) classes tm s) (hP : va_P (dC, dI) classes (wx ++ wm) H) (hD : va_D (fun q : Nat => s.heap.size ≤ q) (wx ++ wm)) (hS : va_S (fun q : Nat => s.heap.size ≤ q) s.heap H locs) (hl : lv_has ls 7 [(4, .int (nI i)), (3, .ref (ad 104)), (2, .ref m0), (1, .ref x0), (0, .ref b)]) : W p l e room_1 s m #[Value.ref b] below meth c H locs (150 + 23 * i) (3000 + 300 * i) (lw_Z below #[Value.ref b] s) (F0 m 761 ls []) := by
  obtain ⟨hx, hb, hr, hml, hown, hts0, hX, hbl, hlocks, hgv⟩ := C0
  have hts : ∀ w ∈ wG, w.before #[Value.ref b] s = true := fun w h => hts0 w (wG_t h)
  have hA : ∀ q : Nat, s.heap.size ≤ q → (fun q : Nat => s.heap.size ≤ q) q := fun _ h => h
  have hA0 : ∀ q : Nat, (fun q : Nat => s.heap.size ≤ q) q → s.heap.size ≤ q := fun _ h => h
  have hn0 : s.heap.size ≤ s.heap.size := Nat.le_refl _
  have hbA : ¬ (fun q : Nat => s.heap.size ≤ q) b := Nat.not_le.mpr hbl
  have hrl0 := rel0 hrl
  refine lv_aload_n hx hb dL_law_761 rfl (lv_at hl 3 rfl) ?_
  refine lv_aload_n hx hb dL_law_762 rfl (lv_at hl 4 rfl) ?_
  refine lv_iload hx hb dL_law_763 (lv_at hl 0 rfl) ?_
  refine lv_iconst (v := 1) hx hb dL_law_765 (by decide) ?_
  refine lv_iadd hx hb dL_law_766 ?_
  refine lv_topi (fun v_1 ev_1 => ?_)
  obtain rfl : v_1 = nI (i + 1) := ev_1.trans (nI_add i 1)
  refine va_sld hx hb hX hbl hbA hS (vp_in_nI (n := (i + 1)) (by omega) (by omega)) dL_law_767 ?_
  refine lv_topi (fun v_2 ev_2 => ?_)
  have hPc := ap_l hP
  have hDc := ad_l hD
  have hKc := hKx
  have hFc := fr_O hDc hS hA
  obtain ⟨fs9, hrc⟩ := XI_rc hXI
  refine va_calli (va_runV (As := [.int v_2]) (rest := []) ⟨hx, hb, hml, hown, hts⟩ (X_man l dC dI s.heap.size atx H.size ad ka x0 Gx wx tx v_2 hXI ) (cwV 1 hts (gV (fun w h => id h) wd_1237 wd_1234 wd_1235 wd_1236 wd_114) rfl rfl rfl (by decide +kernel) ⟨Nat.le_of_ble_eq_true rfl, Nat.le_of_ble_eq_true rfl⟩) ⟨fun a U g mk q => by obtain ⟨q0, q1, q2, qG, qP, qK, qD⟩ := q; exact ⟨q0, q1, q2, GW.blind qG, qP, va_K.moved (u := U) (U := U.calling g mk a) (Vm.Alike.refl U.vm) qK, qD⟩, va_recv hKc hPc (ci := 11) (q0 := 0) rfl hrc, fun U hU hW => ⟨rfl, by rw [hU], Nat.le_trans hn0 hS.1, GW.go hW hU hG (fun q hq hA9 => hS.2.1 q hq (fun h => hA9 (hA0 q h))), by rw [hU]; exact hPc, va_K.moved hW.alike hKc, hDc.weaken (fun _ _ _ h => hA0 _ h)⟩⟩ rfl rfl hl.1 rfl (lv_room (Nat.le_of_ble_eq_true rfl)) dL_law_768 ⟨(by show _ ≤ (601024 : Nat); omega), (by show _ ≤ (7293034 : Nat); omega)⟩) hS (fun q _ h => hFc q h) hFc (fun r_3 u t H1 locs ht hvm hw_3 hB hz1 hk1 hS => ?_)
  subst hw_3
  obtain ⟨Gx_3, wx_3, tx_3, hIx_3, hrel_3, hP1, hK1, hD1⟩ := hB
  rw [ht] at hP1
  obtain ⟨hP, hD⟩ := jo_l hP hD hk1 hFc hP1 hD1
  have hKx_3 := va_K.moved hvm.symm hK1
  generalize H1 = H at hP hS ⊢
  refine lv_aload_n hx hb dL_law_771 rfl (lv_at hl 2 rfl) ?_
  refine lv_aload_n hx hb dL_law_772 rfl (lv_at hl 4 rfl) ?_
  refine lv_iload hx hb dL_law_773 (lv_at hl 0 rfl) ?_
  refine lv_iconst (v := 1) hx hb dL_law_775 (by decide) ?_
  refine lv_iadd hx hb dL_law_776 ?_
  refine lv_topi (fun v_4 ev_4 => ?_)
  obtain rfl : v_4 = nI (i + 1) := ev_4.trans (nI_add i 1)
  refine va_sld hx hb hX hbl hbA hS (vp_in_nI (n := (i + 1)) (by omega) (by omega)) dL_law_777 ?_
  refine lv_topi (fun v_5 ev_5 => ?_)
  obtain rfl : v_2 = v_5 := (ev_5.trans ev_2.symm).symm
  rcases hMI with hMI | hMI
  · skip
    have hPc := ap_r hP
    have hDc := ad_r hD
    have hKc := hKm
    have hFc := fr_O hDc hS hA
    obtain ⟨fs9, hrc⟩ := MZ_rc hMI
    refine va_calli (va_runV (As := [.int v_2]) (rest := [.int r_3]) ⟨hx, hb, hml, hown, hts⟩ (Z_man l dC dI s.heap.size atx H.size md mk9 m0 Gm wm tm v_2 hMI ) (cwV 1 hts (gV (fun w h => id h) wd_2038 wd_2035 wd_2036 wd_2037 wd_127) rfl rfl rfl (by decide +kernel) ⟨Nat.le_of_ble_eq_true rfl, Nat.le_of_ble_eq_true rfl⟩) ⟨fun a U g mk q => by obtain ⟨q0, q1, q2, qG, qP, qK, qD⟩ := q; exact ⟨q0, q1, q2, GW.blind qG, qP, va_K.moved (u := U) (U := U.calling g mk a) (Vm.Alike.refl U.vm) qK, qD⟩, va_recv hKc hPc (ci := 14) (q0 := 0) rfl hrc, fun U hU hW => ⟨rfl, by rw [hU], Nat.le_trans hn0 hS.1, GW.go hW hU hG (fun q hq hA9 => hS.2.1 q hq (fun h => hA9 (hA0 q h))), by rw [hU]; exact hPc, va_K.moved hW.alike hKc, hDc.weaken (fun _ _ _ h => hA0 _ h)⟩⟩ rfl rfl hl.1 rfl (lv_room (Nat.le_of_ble_eq_true rfl)) dL_law_778 ⟨(by show _ ≤ (601024 : Nat); omega), (by show _ ≤ (7293034 : Nat); omega)⟩) hS (fun q _ h => hFc q h) hFc (fun r_6 u t H1 locs ht hvm hw_6 hB hz1 hk1 hS => ?_)
    subst hw_6
    obtain ⟨Gm_6, wm_6, tm_6, hIm_6, hrel_6, hP1, hK1, hD1⟩ := hB
    rw [ht] at hP1
    obtain ⟨hP, hD⟩ := jo_r hP hD hk1 hFc hP1 hD1
    have hKm_6 := va_K.moved hvm.symm hK1
    generalize H1 = H at hP hS ⊢
    refine lv_icmp_eq (tgt := 1078) hx hb dL_law_781 (by decide) (fun c_7 => ?_) (fun c_7 => ?_)
    · skip
      refine lv_iinc (v := (nI (i + 6))) (lv' := [(4, .int (nI (i + 6))), (3, .ref (ad 104)), (2, .ref m0), (1, .ref x0), (0, .ref b)]) hx hb dL_law_1078 hl (k := 0) rfl (nI_add _ 6) (by decide) rfl (fun ls hl => ?_)
      refine lv_goto (tgt := 23) hx hb dL_law_1081 (by decide) ?_
      refine W.widen (k := 150 + 23 * (i + 6)) (n := 3000 + 300 * (i + 6)) (by omega) (by omega) ?_
      exact K _ _ _ ⟨by omega, Gx_3, Gm_6, wx_3, wm_6, tx_3, tm_6, hIx_3, (Or.inl hIm_6), (rel_m hrl hrel_3.2.1 hrel_6.2.1 hrel_3.2.2 hrel_6.2.2), hKx_3, hKm_6, hP, hD, hS, lv_sub hl [0, 1, 2, 3, 4] rfl⟩
    · exact absurd (by rw [hrel_3.1, hrel_6.1, rel2 hrl, rel4 hrl]) c_7
  · skip
    have hPc := ap_r hP
    have hDc := ad_r hD
    have hKc := hKm
    have hFc := fr_O hDc hS hA
    obtain ⟨fs9, hrc⟩ := MB_rc hMI
    refine va_calli (va_runV (As := [.int v_2]) (rest := [.int r_3]) ⟨hx, hb, hml, hown, hts⟩ (B_man l dC dI s.heap.size atx H.size md mk9 m0 Gm wm tm v_2 hMI ) (cwV 1 hts (gV (fun w h => id h) wd_2038 wd_2035 wd_2036 wd_2037 wd_127) rfl rfl rfl (by decide +kernel) ⟨Nat.le_of_ble_eq_true rfl, Nat.le_of_ble_eq_true rfl⟩) ⟨fun a U g mk q => by obtain ⟨q0, q1, q2, qG, qP, qK, qD⟩ := q; exact ⟨q0, q1, q2, GW.blind qG, qP, va_K.moved (u := U) (U := U.calling g mk a) (Vm.Alike.refl U.vm) qK, qD⟩, va_recv hKc hPc (ci := 14) (q0 := 0) rfl hrc, fun U hU hW => ⟨rfl, by rw [hU], Nat.le_trans hn0 hS.1, GW.go hW hU hG (fun q hq hA9 => hS.2.1 q hq (fun h => hA9 (hA0 q h))), by rw [hU]; exact hPc, va_K.moved hW.alike hKc, hDc.weaken (fun _ _ _ h => hA0 _ h)⟩⟩ rfl rfl hl.1 rfl (lv_room (Nat.le_of_ble_eq_true rfl)) dL_law_778 ⟨(by show _ ≤ (601024 : Nat); omega), (by show _ ≤ (7293034 : Nat); omega)⟩) hS (fun q _ h => hFc q h) hFc (fun r_8 u t H1 locs ht hvm hw_8 hB hz1 hk1 hS => ?_)
    subst hw_8
    obtain ⟨Gm_8, wm_8, tm_8, hIm_8, hrel_8, hP1, hK1, hD1⟩ := hB
    rw [ht] at hP1
    obtain ⟨hP, hD⟩ := jo_r hP hD hk1 hFc hP1 hD1
    have hKm_8 := va_K.moved hvm.symm hK1
    generalize H1 = H at hP hS ⊢
    refine lv_icmp_eq (tgt := 1078) hx hb dL_law_781 (by decide) (fun c_9 => ?_) (fun c_9 => ?_)
    · skip
      refine lv_iinc (v := (nI (i + 6))) (lv' := [(4, .int (nI (i + 6))), (3, .ref (ad 104)), (2, .ref m0), (1, .ref x0), (0, .ref b)]) hx hb dL_law_1078 hl (k := 0) rfl (nI_add _ 6) (by decide) rfl (fun ls hl => ?_)
      refine lv_goto (tgt := 23) hx hb dL_law_1081 (by decide) ?_
      refine W.widen (k := 150 + 23 * (i + 6)) (n := 3000 + 300 * (i + 6)) (by omega) (by omega) ?_
      exact K _ _ _ ⟨by omega, Gx_3, Gm_8, wx_3, wm_8, tx_3, tm_8, hIx_3, (Or.inr hIm_8), (rel_m hrl hrel_3.2.1 hrel_8.2.1 hrel_3.2.2 hrel_8.2.2), hKx_3, hKm_8, hP, hD, hS, lv_sub hl [0, 1, 2, 3, 4] rfl⟩
    · exact absurd (by rw [hrel_3.1, hrel_8.1, rel2 hrl, rel4 hrl]) c_9
set_option maxHeartbeats 4000000 in
set_option maxRecDepth 100000 in
theorem law_25 {p : Program} {l : Launch} {e : Env} {s : State} {m : MethodId} {below : List Frame} {meth : Method} {c : Code} {dC : Nat → ClassId} {dI : Nat → Nat → Nat} {b L : Nat} {xs : Nat → Int32} (hst : l.stackTraces = false) (hL : L ≤ 3072) (C0 : lw_At p s m meth c b L xs) (atx : Nat → Nat × Nat) (hG : GW s.heap.size atx s) (ad : Nat → Nat) (ka : Nat → ClassId) (x0 : Nat) (md : Nat → Nat) (mk9 : Nat → ClassId) (m0 : Nat) (i : Nat) (hi : i + 6 ≤ L) (K : ∀ (H : Heap) (locs : List Loc) (ls : Array Slot), LV dC dI s b L ad ka x0 md mk9 m0 (i + 6) H locs ls → W p l e room_1 s m #[Value.ref b] below meth c H locs (150 + 23 * (i + 6)) (3000 + 300 * (i + 6)) (lw_Z below #[Value.ref b] s) (F0 m 23 ls [])) (H : Heap) (locs : List Loc) (ls : Array Slot) (Gx Gm : Nat → Int) (wx wm : va_W) (tx tm : List (ClassId × FieldType)) (hXI : XI ad ka x0 Gx wx tx) (hMI : MZ md mk9 m0 Gm wm tm ∨ MB md mk9 m0 Gm wm tm) (hrl : REL Gx Gm) (hKx : va_K (dC, dI) classes tx s) (hKm : va_K (dC, dI) classes tm s) (hP : va_P (dC, dI) classes (wx ++ wm) H) (hD : va_D (fun q : Nat => s.heap.size ≤ q) (wx ++ wm)) (hS : va_S (fun q : Nat => s.heap.size ≤ q) s.heap H locs) (hl : lv_has ls 7 [(4, .int (nI i)), (3, .ref (ad 104)), (2, .ref m0), (1, .ref x0), (0, .ref b)]) : W p l e room_1 s m #[Value.ref b] below meth c H locs (150 + 23 * i) (3000 + 300 * i) (lw_Z below #[Value.ref b] s) (F0 m 898 ls []) := by
  obtain ⟨hx, hb, hr, hml, hown, hts0, hX, hbl, hlocks, hgv⟩ := C0
  have hts : ∀ w ∈ wG, w.before #[Value.ref b] s = true := fun w h => hts0 w (wG_t h)
  have hA : ∀ q : Nat, s.heap.size ≤ q → (fun q : Nat => s.heap.size ≤ q) q := fun _ h => h
  have hA0 : ∀ q : Nat, (fun q : Nat => s.heap.size ≤ q) q → s.heap.size ≤ q := fun _ h => h
  have hn0 : s.heap.size ≤ s.heap.size := Nat.le_refl _
  have hbA : ¬ (fun q : Nat => s.heap.size ≤ q) b := Nat.not_le.mpr hbl
  have hrl0 := rel0 hrl
  refine lv_aload_n hx hb dL_law_898 rfl (lv_at hl 3 rfl) ?_
  refine lv_aload_n hx hb dL_law_899 rfl (lv_at hl 4 rfl) ?_
  refine lv_iload hx hb dL_law_900 (lv_at hl 0 rfl) ?_
  refine lv_iconst (v := 1) hx hb dL_law_902 (by decide) ?_
  refine lv_iadd hx hb dL_law_903 ?_
  refine lv_topi (fun v_1 ev_1 => ?_)
  obtain rfl : v_1 = nI (i + 1) := ev_1.trans (nI_add i 1)
  refine va_sld hx hb hX hbl hbA hS (vp_in_nI (n := (i + 1)) (by omega) (by omega)) dL_law_904 ?_
  refine lv_topi (fun v_2 ev_2 => ?_)
  refine lv_aload_n hx hb dL_law_905 rfl (lv_at hl 4 rfl) ?_
  refine lv_iload hx hb dL_law_906 (lv_at hl 0 rfl) ?_
  refine lv_iconst (v := 2) hx hb dL_law_908 (by decide) ?_
  refine lv_iadd hx hb dL_law_909 ?_
  refine lv_topi (fun v_3 ev_3 => ?_)
  obtain rfl : v_3 = nI (i + 2) := ev_3.trans (nI_add i 2)
  refine va_sld hx hb hX hbl hbA hS (vp_in_nI (n := (i + 2)) (by omega) (by omega)) dL_law_910 ?_
  refine lv_topi (fun v_4 ev_4 => ?_)
  refine lv_aload_n hx hb dL_law_911 rfl (lv_at hl 4 rfl) ?_
  refine lv_iload hx hb dL_law_912 (lv_at hl 0 rfl) ?_
  refine lv_iconst (v := 3) hx hb dL_law_914 (by decide) ?_
  refine lv_iadd hx hb dL_law_915 ?_
  refine lv_topi (fun v_5 ev_5 => ?_)
  obtain rfl : v_5 = nI (i + 3) := ev_5.trans (nI_add i 3)
  refine va_sld hx hb hX hbl hbA hS (vp_in_nI (n := (i + 3)) (by omega) (by omega)) dL_law_916 ?_
  refine lv_topi (fun v_6 ev_6 => ?_)
  have hPc := ap_l hP
  have hDc := ad_l hD
  have hKc := hKx
  have hFc := fr_O hDc hS hA
  obtain ⟨fs9, hrc⟩ := XI_rc hXI
  refine va_calli (va_runV (As := [.int v_2, .int v_4, .int v_6]) (rest := []) ⟨hx, hb, hml, hown, hts⟩ (X_reading l dC dI s.heap.size atx H.size ad ka x0 Gx wx tx v_2 v_4 v_6 hXI ) (cwV 3 hts (gV (fun w h => id h) wd_1309 wd_1306 wd_1307 wd_1308 wd_114) rfl rfl rfl (by decide +kernel) ⟨Nat.le_of_ble_eq_true rfl, Nat.le_of_ble_eq_true rfl⟩) ⟨fun a U g mk q => by obtain ⟨q0, q1, q2, qG, qP, qK, qD⟩ := q; exact ⟨q0, q1, q2, GW.blind qG, qP, va_K.moved (u := U) (U := U.calling g mk a) (Vm.Alike.refl U.vm) qK, qD⟩, va_recv hKc hPc (ci := 11) (q0 := 0) rfl hrc, fun U hU hW => ⟨rfl, by rw [hU], Nat.le_trans hn0 hS.1, GW.go hW hU hG (fun q hq hA9 => hS.2.1 q hq (fun h => hA9 (hA0 q h))), by rw [hU]; exact hPc, va_K.moved hW.alike hKc, hDc.weaken (fun _ _ _ h => hA0 _ h)⟩⟩ rfl rfl hl.1 rfl (lv_room (Nat.le_of_ble_eq_true rfl)) dL_law_917 ⟨(by show _ ≤ (601024 : Nat); omega), (by show _ ≤ (7293034 : Nat); omega)⟩) hS (fun q _ h => hFc q h) hFc (fun r_7 u t H1 locs ht hvm hw_7 hB hz1 hk1 hS => ?_)
  subst hw_7
  obtain ⟨Gx_7, wx_7, tx_7, hIx_7, hrel_7, hP1, hK1, hD1⟩ := hB
  rw [ht] at hP1
  obtain ⟨hP, hD⟩ := jo_l hP hD hk1 hFc hP1 hD1
  have hKx_7 := va_K.moved hvm.symm hK1
  generalize H1 = H at hP hS ⊢
  refine lv_aload_n hx hb dL_law_920 rfl (lv_at hl 2 rfl) ?_
  refine lv_aload_n hx hb dL_law_921 rfl (lv_at hl 4 rfl) ?_
  refine lv_iload hx hb dL_law_922 (lv_at hl 0 rfl) ?_
  refine lv_iconst (v := 1) hx hb dL_law_924 (by decide) ?_
  refine lv_iadd hx hb dL_law_925 ?_
  refine lv_topi (fun v_8 ev_8 => ?_)
  obtain rfl : v_8 = nI (i + 1) := ev_8.trans (nI_add i 1)
  refine va_sld hx hb hX hbl hbA hS (vp_in_nI (n := (i + 1)) (by omega) (by omega)) dL_law_926 ?_
  refine lv_topi (fun v_9 ev_9 => ?_)
  obtain rfl : v_2 = v_9 := (ev_9.trans ev_2.symm).symm
  refine lv_aload_n hx hb dL_law_927 rfl (lv_at hl 4 rfl) ?_
  refine lv_iload hx hb dL_law_928 (lv_at hl 0 rfl) ?_
  refine lv_iconst (v := 2) hx hb dL_law_930 (by decide) ?_
  refine lv_iadd hx hb dL_law_931 ?_
  refine lv_topi (fun v_10 ev_10 => ?_)
  obtain rfl : v_10 = nI (i + 2) := ev_10.trans (nI_add i 2)
  refine va_sld hx hb hX hbl hbA hS (vp_in_nI (n := (i + 2)) (by omega) (by omega)) dL_law_932 ?_
  refine lv_topi (fun v_11 ev_11 => ?_)
  obtain rfl : v_4 = v_11 := (ev_11.trans ev_4.symm).symm
  refine lv_aload_n hx hb dL_law_933 rfl (lv_at hl 4 rfl) ?_
  refine lv_iload hx hb dL_law_934 (lv_at hl 0 rfl) ?_
  refine lv_iconst (v := 3) hx hb dL_law_936 (by decide) ?_
  refine lv_iadd hx hb dL_law_937 ?_
  refine lv_topi (fun v_12 ev_12 => ?_)
  obtain rfl : v_12 = nI (i + 3) := ev_12.trans (nI_add i 3)
  refine va_sld hx hb hX hbl hbA hS (vp_in_nI (n := (i + 3)) (by omega) (by omega)) dL_law_938 ?_
  refine lv_topi (fun v_13 ev_13 => ?_)
  obtain rfl : v_6 = v_13 := (ev_13.trans ev_6.symm).symm
  rcases hMI with hMI | hMI
  · skip
    have hPc := ap_r hP
    have hDc := ad_r hD
    have hKc := hKm
    have hFc := fr_O hDc hS hA
    obtain ⟨fs9, hrc⟩ := MZ_rc hMI
    refine va_calli (va_runV (As := [.int v_2, .int v_4, .int v_6]) (rest := [.int r_7]) ⟨hx, hb, hml, hown, hts⟩ (Z_reading l dC dI s.heap.size atx H.size md mk9 m0 Gm wm tm v_2 v_4 v_6 hMI ) (cwV 3 hts (gV (fun w h => id h) wd_2089 wd_2086 wd_2087 wd_2088 wd_127) rfl rfl rfl (by decide +kernel) ⟨Nat.le_of_ble_eq_true rfl, Nat.le_of_ble_eq_true rfl⟩) ⟨fun a U g mk q => by obtain ⟨q0, q1, q2, qG, qP, qK, qD⟩ := q; exact ⟨q0, q1, q2, GW.blind qG, qP, va_K.moved (u := U) (U := U.calling g mk a) (Vm.Alike.refl U.vm) qK, qD⟩, va_recv hKc hPc (ci := 14) (q0 := 0) rfl hrc, fun U hU hW => ⟨rfl, by rw [hU], Nat.le_trans hn0 hS.1, GW.go hW hU hG (fun q hq hA9 => hS.2.1 q hq (fun h => hA9 (hA0 q h))), by rw [hU]; exact hPc, va_K.moved hW.alike hKc, hDc.weaken (fun _ _ _ h => hA0 _ h)⟩⟩ rfl rfl hl.1 rfl (lv_room (Nat.le_of_ble_eq_true rfl)) dL_law_939 ⟨(by show _ ≤ (601024 : Nat); omega), (by show _ ≤ (7293034 : Nat); omega)⟩) hS (fun q _ h => hFc q h) hFc (fun r_14 u t H1 locs ht hvm hw_14 hB hz1 hk1 hS => ?_)
    subst hw_14
    obtain ⟨Gm_14, wm_14, tm_14, hIm_14, hrel_14, hP1, hK1, hD1⟩ := hB
    rw [ht] at hP1
    obtain ⟨hP, hD⟩ := jo_r hP hD hk1 hFc hP1 hD1
    have hKm_14 := va_K.moved hvm.symm hK1
    generalize H1 = H at hP hS ⊢
    refine lv_icmp_eq (tgt := 1078) hx hb dL_law_942 (by decide) (fun c_15 => ?_) (fun c_15 => ?_)
    · skip
      refine lv_iinc (v := (nI (i + 6))) (lv' := [(4, .int (nI (i + 6))), (3, .ref (ad 104)), (2, .ref m0), (1, .ref x0), (0, .ref b)]) hx hb dL_law_1078 hl (k := 0) rfl (nI_add _ 6) (by decide) rfl (fun ls hl => ?_)
      refine lv_goto (tgt := 23) hx hb dL_law_1081 (by decide) ?_
      refine W.widen (k := 150 + 23 * (i + 6)) (n := 3000 + 300 * (i + 6)) (by omega) (by omega) ?_
      exact K _ _ _ ⟨by omega, Gx_7, Gm_14, wx_7, wm_14, tx_7, tm_14, hIx_7, (Or.inl hIm_14), (rel_r hrl hrel_7.2.1 hrel_14.2.1 hrel_7.2.2 hrel_14.2.2), hKx_7, hKm_14, hP, hD, hS, lv_sub hl [0, 1, 2, 3, 4] rfl⟩
    · exact absurd (by rw [hrel_7.1, hrel_14.1, rel1 hrl, rel5 hrl]) c_15
  · skip
    have hPc := ap_r hP
    have hDc := ad_r hD
    have hKc := hKm
    have hFc := fr_O hDc hS hA
    obtain ⟨fs9, hrc⟩ := MB_rc hMI
    refine va_calli (va_runV (As := [.int v_2, .int v_4, .int v_6]) (rest := [.int r_7]) ⟨hx, hb, hml, hown, hts⟩ (B_reading l dC dI s.heap.size atx H.size md mk9 m0 Gm wm tm v_2 v_4 v_6 hMI ) (cwV 3 hts (gV (fun w h => id h) wd_2089 wd_2086 wd_2087 wd_2088 wd_127) rfl rfl rfl (by decide +kernel) ⟨Nat.le_of_ble_eq_true rfl, Nat.le_of_ble_eq_true rfl⟩) ⟨fun a U g mk q => by obtain ⟨q0, q1, q2, qG, qP, qK, qD⟩ := q; exact ⟨q0, q1, q2, GW.blind qG, qP, va_K.moved (u := U) (U := U.calling g mk a) (Vm.Alike.refl U.vm) qK, qD⟩, va_recv hKc hPc (ci := 14) (q0 := 0) rfl hrc, fun U hU hW => ⟨rfl, by rw [hU], Nat.le_trans hn0 hS.1, GW.go hW hU hG (fun q hq hA9 => hS.2.1 q hq (fun h => hA9 (hA0 q h))), by rw [hU]; exact hPc, va_K.moved hW.alike hKc, hDc.weaken (fun _ _ _ h => hA0 _ h)⟩⟩ rfl rfl hl.1 rfl (lv_room (Nat.le_of_ble_eq_true rfl)) dL_law_939 ⟨(by show _ ≤ (601024 : Nat); omega), (by show _ ≤ (7293034 : Nat); omega)⟩) hS (fun q _ h => hFc q h) hFc (fun r_16 u t H1 locs ht hvm hw_16 hB hz1 hk1 hS => ?_)
    subst hw_16
    obtain ⟨Gm_16, wm_16, tm_16, hIm_16, hrel_16, hP1, hK1, hD1⟩ := hB
    rw [ht] at hP1
    obtain ⟨hP, hD⟩ := jo_r hP hD hk1 hFc hP1 hD1
    have hKm_16 := va_K.moved hvm.symm hK1
    generalize H1 = H at hP hS ⊢
    refine lv_icmp_eq (tgt := 1078) hx hb dL_law_942 (by decide) (fun c_17 => ?_) (fun c_17 => ?_)
    · skip
      refine lv_iinc (v := (nI (i + 6))) (lv' := [(4, .int (nI (i + 6))), (3, .ref (ad 104)), (2, .ref m0), (1, .ref x0), (0, .ref b)]) hx hb dL_law_1078 hl (k := 0) rfl (nI_add _ 6) (by decide) rfl (fun ls hl => ?_)
      refine lv_goto (tgt := 23) hx hb dL_law_1081 (by decide) ?_
      refine W.widen (k := 150 + 23 * (i + 6)) (n := 3000 + 300 * (i + 6)) (by omega) (by omega) ?_
      exact K _ _ _ ⟨by omega, Gx_7, Gm_16, wx_7, wm_16, tx_7, tm_16, hIx_7, (Or.inr hIm_16), (rel_r hrl hrel_7.2.1 hrel_16.2.1 hrel_7.2.2 hrel_16.2.2), hKx_7, hKm_16, hP, hD, hS, lv_sub hl [0, 1, 2, 3, 4] rfl⟩
    · exact absurd (by rw [hrel_7.1, hrel_16.1, rel1 hrl, rel5 hrl]) c_17
