theorem wd_707 : Cond.methodLink "MineAirLaw" 19 (⟨"MineAir", "feed", "(IIIII)I"⟩ : MethodName) ∈ wG := wG_of 707 (by decide +kernel) (by decide +kernel)
theorem wd_708 : Cond.instanceMethod (⟨"MineAir", "feed", "(IIIII)I"⟩ : MethodName) ∈ wG := wG_of 708 (by decide +kernel) (by decide +kernel)
theorem wd_709 : Cond.selects "MineAir" (⟨"MineAir", "feed", "(IIIII)I"⟩ : MethodName) (⟨"MineAir", "feed", "(IIIII)I"⟩ : MethodName) ∈ wG := wG_of 709 (by decide +kernel) (by decide +kernel)
theorem wd_710 : Cond.code (⟨"MineAir", "feed", "(IIIII)I"⟩ : MethodName) prog_1_method_2_code 6 (Option.some Jvm.ClassFile.FieldType.int) ∈ wG := wG_of 710 (by decide +kernel) (by decide +kernel)
theorem wd_715 : Cond.methodLink "MineAirLaw" 24 (⟨"MineAir", "book", "(I)I"⟩ : MethodName) ∈ wG := wG_of 715 (by decide +kernel) (by decide +kernel)
theorem wd_716 : Cond.instanceMethod (⟨"MineAir", "book", "(I)I"⟩ : MethodName) ∈ wG := wG_of 716 (by decide +kernel) (by decide +kernel)
theorem wd_717 : Cond.selects "MineAir" (⟨"MineAir", "book", "(I)I"⟩ : MethodName) (⟨"MineAir", "book", "(I)I"⟩ : MethodName) ∈ wG := wG_of 717 (by decide +kernel) (by decide +kernel)
theorem wd_718 : Cond.code (⟨"MineAir", "book", "(I)I"⟩ : MethodName) prog_1_method_3_code 3 (Option.some Jvm.ClassFile.FieldType.int) ∈ wG := wG_of 718 (by decide +kernel) (by decide +kernel)
theorem wd_935 : Cond.methodLink "MineAirLaw" 29 (⟨"MineAir", "fault", "()I"⟩ : MethodName) ∈ wG := wG_of 935 (by decide +kernel) (by decide +kernel)
theorem wd_936 : Cond.instanceMethod (⟨"MineAir", "fault", "()I"⟩ : MethodName) ∈ wG := wG_of 936 (by decide +kernel) (by decide +kernel)
theorem wd_937 : Cond.selects "MineAir" (⟨"MineAir", "fault", "()I"⟩ : MethodName) (⟨"MineAir", "fault", "()I"⟩ : MethodName) ∈ wG := wG_of 937 (by decide +kernel) (by decide +kernel)
theorem wd_938 : Cond.code (⟨"MineAir", "fault", "()I"⟩ : MethodName) prog_1_method_4_code 1 (Option.some Jvm.ClassFile.FieldType.int) ∈ wG := wG_of 938 (by decide +kernel) (by decide +kernel)
theorem wd_939 : Cond.methodLink "MineAirLaw" 34 (⟨"MineAir", "where", "()I"⟩ : MethodName) ∈ wG := wG_of 939 (by decide +kernel) (by decide +kernel)
theorem wd_940 : Cond.instanceMethod (⟨"MineAir", "where", "()I"⟩ : MethodName) ∈ wG := wG_of 940 (by decide +kernel) (by decide +kernel)
theorem wd_941 : Cond.selects "MineAir" (⟨"MineAir", "where", "()I"⟩ : MethodName) (⟨"MineAir", "where", "()I"⟩ : MethodName) ∈ wG := wG_of 941 (by decide +kernel) (by decide +kernel)
theorem wd_942 : Cond.code (⟨"MineAir", "where", "()I"⟩ : MethodName) prog_1_method_5_code 1 (Option.some Jvm.ClassFile.FieldType.int) ∈ wG := wG_of 942 (by decide +kernel) (by decide +kernel)
theorem wd_943 : Cond.methodLink "MineAirLaw" 38 (⟨"MineAir", "way", "(II)I"⟩ : MethodName) ∈ wG := wG_of 943 (by decide +kernel) (by decide +kernel)
theorem wd_944 : Cond.instanceMethod (⟨"MineAir", "way", "(II)I"⟩ : MethodName) ∈ wG := wG_of 944 (by decide +kernel) (by decide +kernel)
theorem wd_945 : Cond.selects "MineAir" (⟨"MineAir", "way", "(II)I"⟩ : MethodName) (⟨"MineAir", "way", "(II)I"⟩ : MethodName) ∈ wG := wG_of 945 (by decide +kernel) (by decide +kernel)
theorem wd_946 : Cond.code (⟨"MineAir", "way", "(II)I"⟩ : MethodName) prog_1_method_6_code 3 (Option.some Jvm.ClassFile.FieldType.int) ∈ wG := wG_of 946 (by decide +kernel) (by decide +kernel)
theorem wd_959 : Cond.methodLink "MineAirLaw" 42 (⟨"MineAir", "door", "(IZ)Z"⟩ : MethodName) ∈ wG := wG_of 959 (by decide +kernel) (by decide +kernel)
theorem wd_960 : Cond.instanceMethod (⟨"MineAir", "door", "(IZ)Z"⟩ : MethodName) ∈ wG := wG_of 960 (by decide +kernel) (by decide +kernel)
theorem wd_961 : Cond.selects "MineAir" (⟨"MineAir", "door", "(IZ)Z"⟩ : MethodName) (⟨"MineAir", "door", "(IZ)Z"⟩ : MethodName) ∈ wG := wG_of 961 (by decide +kernel) (by decide +kernel)
theorem wd_962 : Cond.code (⟨"MineAir", "door", "(IZ)Z"⟩ : MethodName) prog_1_method_7_code 3 (Option.some Jvm.ClassFile.FieldType.boolean) ∈ wG := wG_of 962 (by decide +kernel) (by decide +kernel)
theorem wd_975 : Cond.methodLink "MineAirLaw" 47 (⟨"MineAir", "speed", "(II)Z"⟩ : MethodName) ∈ wG := wG_of 975 (by decide +kernel) (by decide +kernel)
theorem wd_976 : Cond.instanceMethod (⟨"MineAir", "speed", "(II)Z"⟩ : MethodName) ∈ wG := wG_of 976 (by decide +kernel) (by decide +kernel)
theorem wd_977 : Cond.selects "MineAir" (⟨"MineAir", "speed", "(II)Z"⟩ : MethodName) (⟨"MineAir", "speed", "(II)Z"⟩ : MethodName) ∈ wG := wG_of 977 (by decide +kernel) (by decide +kernel)
theorem wd_978 : Cond.code (⟨"MineAir", "speed", "(II)Z"⟩ : MethodName) prog_1_method_8_code 3 (Option.some Jvm.ClassFile.FieldType.boolean) ∈ wG := wG_of 978 (by decide +kernel) (by decide +kernel)
theorem wd_986 : Cond.methodLink "MineAirLaw" 52 (⟨"MineAir", "fall", "(IZ)Z"⟩ : MethodName) ∈ wG := wG_of 986 (by decide +kernel) (by decide +kernel)
theorem wd_987 : Cond.instanceMethod (⟨"MineAir", "fall", "(IZ)Z"⟩ : MethodName) ∈ wG := wG_of 987 (by decide +kernel) (by decide +kernel)
theorem wd_988 : Cond.selects "MineAir" (⟨"MineAir", "fall", "(IZ)Z"⟩ : MethodName) (⟨"MineAir", "fall", "(IZ)Z"⟩ : MethodName) ∈ wG := wG_of 988 (by decide +kernel) (by decide +kernel)
theorem wd_989 : Cond.code (⟨"MineAir", "fall", "(IZ)Z"⟩ : MethodName) prog_1_method_9_code 3 (Option.some Jvm.ClassFile.FieldType.boolean) ∈ wG := wG_of 989 (by decide +kernel) (by decide +kernel)
theorem wd_990 : Cond.methodLink "MineAirLaw" 56 (⟨"MineAir", "fire", "(II)Z"⟩ : MethodName) ∈ wG := wG_of 990 (by decide +kernel) (by decide +kernel)
theorem wd_991 : Cond.instanceMethod (⟨"MineAir", "fire", "(II)Z"⟩ : MethodName) ∈ wG := wG_of 991 (by decide +kernel) (by decide +kernel)
theorem wd_992 : Cond.selects "MineAir" (⟨"MineAir", "fire", "(II)Z"⟩ : MethodName) (⟨"MineAir", "fire", "(II)Z"⟩ : MethodName) ∈ wG := wG_of 992 (by decide +kernel) (by decide +kernel)
theorem wd_993 : Cond.code (⟨"MineAir", "fire", "(II)Z"⟩ : MethodName) prog_1_method_10_code 3 (Option.some Jvm.ClassFile.FieldType.boolean) ∈ wG := wG_of 993 (by decide +kernel) (by decide +kernel)
theorem wd_994 : Cond.methodLink "MineAirLaw" 60 (⟨"MineAir", "mark", "(I)Z"⟩ : MethodName) ∈ wG := wG_of 994 (by decide +kernel) (by decide +kernel)
theorem wd_995 : Cond.instanceMethod (⟨"MineAir", "mark", "(I)Z"⟩ : MethodName) ∈ wG := wG_of 995 (by decide +kernel) (by decide +kernel)
theorem wd_996 : Cond.selects "MineAir" (⟨"MineAir", "mark", "(I)Z"⟩ : MethodName) (⟨"MineAir", "mark", "(I)Z"⟩ : MethodName) ∈ wG := wG_of 996 (by decide +kernel) (by decide +kernel)
theorem wd_997 : Cond.code (⟨"MineAir", "mark", "(I)Z"⟩ : MethodName) prog_1_method_11_code 2 (Option.some Jvm.ClassFile.FieldType.boolean) ∈ wG := wG_of 997 (by decide +kernel) (by decide +kernel)
theorem wd_1611 : Cond.methodLink "MineAirLaw" 23 (⟨"MineAirModel", "feed", "(IIIII)I"⟩ : MethodName) ∈ wG := wG_of 1611 (by decide +kernel) (by decide +kernel)
theorem wd_1612 : Cond.instanceMethod (⟨"MineAirModel", "feed", "(IIIII)I"⟩ : MethodName) ∈ wG := wG_of 1612 (by decide +kernel) (by decide +kernel)
theorem wd_1613 : Cond.selects "MineAirModel" (⟨"MineAirModel", "feed", "(IIIII)I"⟩ : MethodName) (⟨"MineAirModel", "feed", "(IIIII)I"⟩ : MethodName) ∈ wG := wG_of 1613 (by decide +kernel) (by decide +kernel)
theorem wd_1614 : Cond.code (⟨"MineAirModel", "feed", "(IIIII)I"⟩ : MethodName) prog_14_method_29_code 8 (Option.some Jvm.ClassFile.FieldType.int) ∈ wG := wG_of 1614 (by decide +kernel) (by decide +kernel)
theorem wd_1615 : Cond.methodLink "MineAirLaw" 28 (⟨"MineAirModel", "book", "(I)I"⟩ : MethodName) ∈ wG := wG_of 1615 (by decide +kernel) (by decide +kernel)
theorem wd_1616 : Cond.instanceMethod (⟨"MineAirModel", "book", "(I)I"⟩ : MethodName) ∈ wG := wG_of 1616 (by decide +kernel) (by decide +kernel)
theorem wd_1617 : Cond.selects "MineAirModel" (⟨"MineAirModel", "book", "(I)I"⟩ : MethodName) (⟨"MineAirModel", "book", "(I)I"⟩ : MethodName) ∈ wG := wG_of 1617 (by decide +kernel) (by decide +kernel)
theorem wd_1618 : Cond.codeWith ({ cls := "MineAirModel", name := "book", desc := "(I)I" } : Jvm.MethodName) prog_14_method_30_code (3 : Nat) (Option.some Jvm.ClassFile.FieldType.int) [((54 : Nat), (62 : Nat), (65 : Nat), (17 : Nat))] ∈ wG := wG_of 1618 (by decide +kernel) (by decide +kernel)
theorem wd_1854 : Cond.methodLink "MineAirLaw" 33 (⟨"MineAirModel", "fault", "()I"⟩ : MethodName) ∈ wG := wG_of 1854 (by decide +kernel) (by decide +kernel)
theorem wd_1855 : Cond.instanceMethod (⟨"MineAirModel", "fault", "()I"⟩ : MethodName) ∈ wG := wG_of 1855 (by decide +kernel) (by decide +kernel)
theorem wd_1856 : Cond.selects "MineAirModel" (⟨"MineAirModel", "fault", "()I"⟩ : MethodName) (⟨"MineAirModel", "fault", "()I"⟩ : MethodName) ∈ wG := wG_of 1856 (by decide +kernel) (by decide +kernel)
theorem wd_1857 : Cond.code (⟨"MineAirModel", "fault", "()I"⟩ : MethodName) prog_14_method_31_code 1 (Option.some Jvm.ClassFile.FieldType.int) ∈ wG := wG_of 1857 (by decide +kernel) (by decide +kernel)
theorem wd_1858 : Cond.methodLink "MineAirLaw" 37 (⟨"MineAirModel", "where", "()I"⟩ : MethodName) ∈ wG := wG_of 1858 (by decide +kernel) (by decide +kernel)
theorem wd_1859 : Cond.instanceMethod (⟨"MineAirModel", "where", "()I"⟩ : MethodName) ∈ wG := wG_of 1859 (by decide +kernel) (by decide +kernel)
theorem wd_1860 : Cond.selects "MineAirModel" (⟨"MineAirModel", "where", "()I"⟩ : MethodName) (⟨"MineAirModel", "where", "()I"⟩ : MethodName) ∈ wG := wG_of 1860 (by decide +kernel) (by decide +kernel)
theorem wd_1861 : Cond.code (⟨"MineAirModel", "where", "()I"⟩ : MethodName) prog_14_method_32_code 1 (Option.some Jvm.ClassFile.FieldType.int) ∈ wG := wG_of 1861 (by decide +kernel) (by decide +kernel)
theorem wd_1862 : Cond.methodLink "MineAirLaw" 41 (⟨"MineAirModel", "way", "(II)I"⟩ : MethodName) ∈ wG := wG_of 1862 (by decide +kernel) (by decide +kernel)
theorem wd_1863 : Cond.instanceMethod (⟨"MineAirModel", "way", "(II)I"⟩ : MethodName) ∈ wG := wG_of 1863 (by decide +kernel) (by decide +kernel)
theorem wd_1864 : Cond.selects "MineAirModel" (⟨"MineAirModel", "way", "(II)I"⟩ : MethodName) (⟨"MineAirModel", "way", "(II)I"⟩ : MethodName) ∈ wG := wG_of 1864 (by decide +kernel) (by decide +kernel)
theorem wd_1865 : Cond.code (⟨"MineAirModel", "way", "(II)I"⟩ : MethodName) prog_14_method_37_code 3 (Option.some Jvm.ClassFile.FieldType.int) ∈ wG := wG_of 1865 (by decide +kernel) (by decide +kernel)
theorem wd_1875 : Cond.methodLink "MineAirLaw" 46 (⟨"MineAirModel", "door", "(IZ)Z"⟩ : MethodName) ∈ wG := wG_of 1875 (by decide +kernel) (by decide +kernel)
theorem wd_1876 : Cond.instanceMethod (⟨"MineAirModel", "door", "(IZ)Z"⟩ : MethodName) ∈ wG := wG_of 1876 (by decide +kernel) (by decide +kernel)
theorem wd_1877 : Cond.selects "MineAirModel" (⟨"MineAirModel", "door", "(IZ)Z"⟩ : MethodName) (⟨"MineAirModel", "door", "(IZ)Z"⟩ : MethodName) ∈ wG := wG_of 1877 (by decide +kernel) (by decide +kernel)
theorem wd_1878 : Cond.code (⟨"MineAirModel", "door", "(IZ)Z"⟩ : MethodName) prog_14_method_38_code 3 (Option.some Jvm.ClassFile.FieldType.boolean) ∈ wG := wG_of 1878 (by decide +kernel) (by decide +kernel)
theorem wd_1891 : Cond.methodLink "MineAirLaw" 51 (⟨"MineAirModel", "speed", "(II)Z"⟩ : MethodName) ∈ wG := wG_of 1891 (by decide +kernel) (by decide +kernel)
theorem wd_1892 : Cond.instanceMethod (⟨"MineAirModel", "speed", "(II)Z"⟩ : MethodName) ∈ wG := wG_of 1892 (by decide +kernel) (by decide +kernel)
theorem wd_1893 : Cond.selects "MineAirModel" (⟨"MineAirModel", "speed", "(II)Z"⟩ : MethodName) (⟨"MineAirModel", "speed", "(II)Z"⟩ : MethodName) ∈ wG := wG_of 1893 (by decide +kernel) (by decide +kernel)
theorem wd_1894 : Cond.code (⟨"MineAirModel", "speed", "(II)Z"⟩ : MethodName) prog_14_method_39_code 3 (Option.some Jvm.ClassFile.FieldType.boolean) ∈ wG := wG_of 1894 (by decide +kernel) (by decide +kernel)
theorem wd_1899 : Cond.methodLink "MineAirLaw" 55 (⟨"MineAirModel", "fall", "(IZ)Z"⟩ : MethodName) ∈ wG := wG_of 1899 (by decide +kernel) (by decide +kernel)
theorem wd_1900 : Cond.instanceMethod (⟨"MineAirModel", "fall", "(IZ)Z"⟩ : MethodName) ∈ wG := wG_of 1900 (by decide +kernel) (by decide +kernel)
theorem wd_1901 : Cond.selects "MineAirModel" (⟨"MineAirModel", "fall", "(IZ)Z"⟩ : MethodName) (⟨"MineAirModel", "fall", "(IZ)Z"⟩ : MethodName) ∈ wG := wG_of 1901 (by decide +kernel) (by decide +kernel)
theorem wd_1902 : Cond.code (⟨"MineAirModel", "fall", "(IZ)Z"⟩ : MethodName) prog_14_method_40_code 3 (Option.some Jvm.ClassFile.FieldType.boolean) ∈ wG := wG_of 1902 (by decide +kernel) (by decide +kernel)
theorem wd_1903 : Cond.methodLink "MineAirLaw" 59 (⟨"MineAirModel", "fire", "(II)Z"⟩ : MethodName) ∈ wG := wG_of 1903 (by decide +kernel) (by decide +kernel)
theorem wd_1904 : Cond.instanceMethod (⟨"MineAirModel", "fire", "(II)Z"⟩ : MethodName) ∈ wG := wG_of 1904 (by decide +kernel) (by decide +kernel)
theorem wd_1905 : Cond.selects "MineAirModel" (⟨"MineAirModel", "fire", "(II)Z"⟩ : MethodName) (⟨"MineAirModel", "fire", "(II)Z"⟩ : MethodName) ∈ wG := wG_of 1905 (by decide +kernel) (by decide +kernel)
theorem wd_1906 : Cond.code (⟨"MineAirModel", "fire", "(II)Z"⟩ : MethodName) prog_14_method_41_code 3 (Option.some Jvm.ClassFile.FieldType.boolean) ∈ wG := wG_of 1906 (by decide +kernel) (by decide +kernel)
theorem wd_1907 : Cond.methodLink "MineAirLaw" 64 (⟨"MineAirModel", "mark", "(I)Z"⟩ : MethodName) ∈ wG := wG_of 1907 (by decide +kernel) (by decide +kernel)
theorem wd_1908 : Cond.instanceMethod (⟨"MineAirModel", "mark", "(I)Z"⟩ : MethodName) ∈ wG := wG_of 1908 (by decide +kernel) (by decide +kernel)
theorem wd_1909 : Cond.selects "MineAirModel" (⟨"MineAirModel", "mark", "(I)Z"⟩ : MethodName) (⟨"MineAirModel", "mark", "(I)Z"⟩ : MethodName) ∈ wG := wG_of 1909 (by decide +kernel) (by decide +kernel)
theorem wd_1910 : Cond.code (⟨"MineAirModel", "mark", "(I)Z"⟩ : MethodName) prog_14_method_42_code 2 (Option.some Jvm.ClassFile.FieldType.boolean) ∈ wG := wG_of 1910 (by decide +kernel) (by decide +kernel)
theorem dL_law_176 : decode cL_law 176 = .ok (.aload_n 1, 1) := by decide +kernel
theorem dL_law_177 : decode cL_law 177 = .ok (.aload_n 0, 1) := by decide +kernel
theorem dL_law_178 : decode cL_law 178 = .ok (.iload 4, 2) := by decide +kernel
theorem dL_law_180 : decode cL_law 180 = .ok (.iconst 1, 1) := by decide +kernel
theorem dL_law_181 : decode cL_law 181 = .ok (.iadd, 1) := by decide +kernel
theorem dL_law_182 : decode cL_law 182 = .ok (.iaload, 1) := by decide +kernel
theorem dL_law_183 : decode cL_law 183 = .ok (.aload_n 0, 1) := by decide +kernel
theorem dL_law_184 : decode cL_law 184 = .ok (.iload 4, 2) := by decide +kernel
theorem dL_law_186 : decode cL_law 186 = .ok (.iconst 2, 1) := by decide +kernel
theorem dL_law_187 : decode cL_law 187 = .ok (.iadd, 1) := by decide +kernel
theorem dL_law_188 : decode cL_law 188 = .ok (.iaload, 1) := by decide +kernel
theorem dL_law_189 : decode cL_law 189 = .ok (.aload_n 0, 1) := by decide +kernel
theorem dL_law_190 : decode cL_law 190 = .ok (.iload 4, 2) := by decide +kernel
theorem dL_law_192 : decode cL_law 192 = .ok (.iconst 3, 1) := by decide +kernel
theorem dL_law_193 : decode cL_law 193 = .ok (.iadd, 1) := by decide +kernel
theorem dL_law_194 : decode cL_law 194 = .ok (.iaload, 1) := by decide +kernel
theorem dL_law_195 : decode cL_law 195 = .ok (.aload_n 0, 1) := by decide +kernel
theorem dL_law_196 : decode cL_law 196 = .ok (.iload 4, 2) := by decide +kernel
theorem dL_law_198 : decode cL_law 198 = .ok (.iconst 4, 1) := by decide +kernel
theorem dL_law_199 : decode cL_law 199 = .ok (.iadd, 1) := by decide +kernel
theorem dL_law_200 : decode cL_law 200 = .ok (.iaload, 1) := by decide +kernel
theorem dL_law_201 : decode cL_law 201 = .ok (.aload_n 0, 1) := by decide +kernel
theorem dL_law_202 : decode cL_law 202 = .ok (.iload 4, 2) := by decide +kernel
theorem dL_law_204 : decode cL_law 204 = .ok (.iconst 5, 1) := by decide +kernel
theorem dL_law_205 : decode cL_law 205 = .ok (.iadd, 1) := by decide +kernel
theorem dL_law_206 : decode cL_law 206 = .ok (.iaload, 1) := by decide +kernel
theorem dL_law_207 : decode cL_law 207 = .ok (.invokevirtual 19, 3) := by decide +kernel
theorem dL_law_210 : decode cL_law 210 = .ok (.aload_n 2, 1) := by decide +kernel
theorem dL_law_211 : decode cL_law 211 = .ok (.aload_n 0, 1) := by decide +kernel
theorem dL_law_212 : decode cL_law 212 = .ok (.iload 4, 2) := by decide +kernel
theorem dL_law_214 : decode cL_law 214 = .ok (.iconst 1, 1) := by decide +kernel
theorem dL_law_215 : decode cL_law 215 = .ok (.iadd, 1) := by decide +kernel
theorem dL_law_216 : decode cL_law 216 = .ok (.iaload, 1) := by decide +kernel
theorem dL_law_217 : decode cL_law 217 = .ok (.aload_n 0, 1) := by decide +kernel
theorem dL_law_218 : decode cL_law 218 = .ok (.iload 4, 2) := by decide +kernel
theorem dL_law_220 : decode cL_law 220 = .ok (.iconst 2, 1) := by decide +kernel
theorem dL_law_221 : decode cL_law 221 = .ok (.iadd, 1) := by decide +kernel
theorem dL_law_222 : decode cL_law 222 = .ok (.iaload, 1) := by decide +kernel
theorem dL_law_223 : decode cL_law 223 = .ok (.aload_n 0, 1) := by decide +kernel
theorem dL_law_224 : decode cL_law 224 = .ok (.iload 4, 2) := by decide +kernel
theorem dL_law_226 : decode cL_law 226 = .ok (.iconst 3, 1) := by decide +kernel
theorem dL_law_227 : decode cL_law 227 = .ok (.iadd, 1) := by decide +kernel
theorem dL_law_228 : decode cL_law 228 = .ok (.iaload, 1) := by decide +kernel
theorem dL_law_229 : decode cL_law 229 = .ok (.aload_n 0, 1) := by decide +kernel
theorem dL_law_230 : decode cL_law 230 = .ok (.iload 4, 2) := by decide +kernel
theorem dL_law_232 : decode cL_law 232 = .ok (.iconst 4, 1) := by decide +kernel
theorem dL_law_233 : decode cL_law 233 = .ok (.iadd, 1) := by decide +kernel
theorem dL_law_234 : decode cL_law 234 = .ok (.iaload, 1) := by decide +kernel
theorem dL_law_235 : decode cL_law 235 = .ok (.aload_n 0, 1) := by decide +kernel
theorem dL_law_236 : decode cL_law 236 = .ok (.iload 4, 2) := by decide +kernel
theorem dL_law_238 : decode cL_law 238 = .ok (.iconst 5, 1) := by decide +kernel
theorem dL_law_239 : decode cL_law 239 = .ok (.iadd, 1) := by decide +kernel
theorem dL_law_240 : decode cL_law 240 = .ok (.iaload, 1) := by decide +kernel
theorem dL_law_241 : decode cL_law 241 = .ok (.invokevirtual 23, 3) := by decide +kernel
theorem dL_law_244 : decode cL_law 244 = .ok (.if_icmp .eq 834, 3) := by decide +kernel
theorem dL_law_249 : decode cL_law 249 = .ok (.aload_n 1, 1) := by decide +kernel
theorem dL_law_250 : decode cL_law 250 = .ok (.aload_n 0, 1) := by decide +kernel
theorem dL_law_251 : decode cL_law 251 = .ok (.iload 4, 2) := by decide +kernel
theorem dL_law_253 : decode cL_law 253 = .ok (.iconst 1, 1) := by decide +kernel
theorem dL_law_254 : decode cL_law 254 = .ok (.iadd, 1) := by decide +kernel
theorem dL_law_255 : decode cL_law 255 = .ok (.iaload, 1) := by decide +kernel
theorem dL_law_256 : decode cL_law 256 = .ok (.invokevirtual 24, 3) := by decide +kernel
theorem dL_law_259 : decode cL_law 259 = .ok (.aload_n 2, 1) := by decide +kernel
theorem dL_law_260 : decode cL_law 260 = .ok (.aload_n 0, 1) := by decide +kernel
theorem dL_law_261 : decode cL_law 261 = .ok (.iload 4, 2) := by decide +kernel
theorem dL_law_263 : decode cL_law 263 = .ok (.iconst 1, 1) := by decide +kernel
theorem dL_law_264 : decode cL_law 264 = .ok (.iadd, 1) := by decide +kernel
theorem dL_law_265 : decode cL_law 265 = .ok (.iaload, 1) := by decide +kernel
theorem dL_law_266 : decode cL_law 266 = .ok (.invokevirtual 28, 3) := by decide +kernel
theorem dL_law_269 : decode cL_law 269 = .ok (.if_icmp .eq 809, 3) := by decide +kernel
theorem dL_law_274 : decode cL_law 274 = .ok (.aload_n 1, 1) := by decide +kernel
theorem dL_law_275 : decode cL_law 275 = .ok (.invokevirtual 29, 3) := by decide +kernel
theorem dL_law_278 : decode cL_law 278 = .ok (.aload_n 2, 1) := by decide +kernel
theorem dL_law_279 : decode cL_law 279 = .ok (.invokevirtual 33, 3) := by decide +kernel
theorem dL_law_282 : decode cL_law 282 = .ok (.if_icmp .eq 796, 3) := by decide +kernel
theorem dL_law_287 : decode cL_law 287 = .ok (.aload_n 1, 1) := by decide +kernel
theorem dL_law_288 : decode cL_law 288 = .ok (.invokevirtual 34, 3) := by decide +kernel
theorem dL_law_291 : decode cL_law 291 = .ok (.aload_n 2, 1) := by decide +kernel
theorem dL_law_292 : decode cL_law 292 = .ok (.invokevirtual 37, 3) := by decide +kernel
theorem dL_law_295 : decode cL_law 295 = .ok (.if_icmp .eq 783, 3) := by decide +kernel
theorem dL_law_300 : decode cL_law 300 = .ok (.aload_n 1, 1) := by decide +kernel
theorem dL_law_301 : decode cL_law 301 = .ok (.aload_n 0, 1) := by decide +kernel
theorem dL_law_302 : decode cL_law 302 = .ok (.iload 4, 2) := by decide +kernel
theorem dL_law_304 : decode cL_law 304 = .ok (.iconst 1, 1) := by decide +kernel
theorem dL_law_305 : decode cL_law 305 = .ok (.iadd, 1) := by decide +kernel
theorem dL_law_306 : decode cL_law 306 = .ok (.iaload, 1) := by decide +kernel
theorem dL_law_307 : decode cL_law 307 = .ok (.aload_n 0, 1) := by decide +kernel
theorem dL_law_308 : decode cL_law 308 = .ok (.iload 4, 2) := by decide +kernel
theorem dL_law_310 : decode cL_law 310 = .ok (.iconst 2, 1) := by decide +kernel
theorem dL_law_311 : decode cL_law 311 = .ok (.iadd, 1) := by decide +kernel
theorem dL_law_312 : decode cL_law 312 = .ok (.iaload, 1) := by decide +kernel
theorem dL_law_313 : decode cL_law 313 = .ok (.invokevirtual 38, 3) := by decide +kernel
theorem dL_law_316 : decode cL_law 316 = .ok (.aload_n 2, 1) := by decide +kernel
theorem dL_law_317 : decode cL_law 317 = .ok (.aload_n 0, 1) := by decide +kernel
theorem dL_law_318 : decode cL_law 318 = .ok (.iload 4, 2) := by decide +kernel
theorem dL_law_320 : decode cL_law 320 = .ok (.iconst 1, 1) := by decide +kernel
theorem dL_law_321 : decode cL_law 321 = .ok (.iadd, 1) := by decide +kernel
theorem dL_law_322 : decode cL_law 322 = .ok (.iaload, 1) := by decide +kernel
theorem dL_law_323 : decode cL_law 323 = .ok (.aload_n 0, 1) := by decide +kernel
theorem dL_law_324 : decode cL_law 324 = .ok (.iload 4, 2) := by decide +kernel
theorem dL_law_326 : decode cL_law 326 = .ok (.iconst 2, 1) := by decide +kernel
theorem dL_law_327 : decode cL_law 327 = .ok (.iadd, 1) := by decide +kernel
theorem dL_law_328 : decode cL_law 328 = .ok (.iaload, 1) := by decide +kernel
theorem dL_law_329 : decode cL_law 329 = .ok (.invokevirtual 41, 3) := by decide +kernel
theorem dL_law_332 : decode cL_law 332 = .ok (.if_icmp .eq 746, 3) := by decide +kernel
theorem dL_law_337 : decode cL_law 337 = .ok (.aload_n 1, 1) := by decide +kernel
theorem dL_law_338 : decode cL_law 338 = .ok (.aload_n 0, 1) := by decide +kernel
theorem dL_law_339 : decode cL_law 339 = .ok (.iload 4, 2) := by decide +kernel
theorem dL_law_341 : decode cL_law 341 = .ok (.iconst 1, 1) := by decide +kernel
theorem dL_law_342 : decode cL_law 342 = .ok (.iadd, 1) := by decide +kernel
theorem dL_law_343 : decode cL_law 343 = .ok (.iaload, 1) := by decide +kernel
theorem dL_law_344 : decode cL_law 344 = .ok (.aload_n 0, 1) := by decide +kernel
theorem dL_law_345 : decode cL_law 345 = .ok (.iload 4, 2) := by decide +kernel
theorem dL_law_347 : decode cL_law 347 = .ok (.iconst 2, 1) := by decide +kernel
theorem dL_law_348 : decode cL_law 348 = .ok (.iadd, 1) := by decide +kernel
theorem dL_law_349 : decode cL_law 349 = .ok (.iaload, 1) := by decide +kernel
theorem dL_law_350 : decode cL_law 350 = .ok (.ifCond .eq 7, 3) := by decide +kernel
theorem dL_law_357 : decode cL_law 357 = .ok (.iconst 0, 1) := by decide +kernel
theorem dL_law_358 : decode cL_law 358 = .ok (.invokevirtual 42, 3) := by decide +kernel
theorem dL_law_361 : decode cL_law 361 = .ok (.aload_n 2, 1) := by decide +kernel
theorem dL_law_362 : decode cL_law 362 = .ok (.aload_n 0, 1) := by decide +kernel
theorem dL_law_363 : decode cL_law 363 = .ok (.iload 4, 2) := by decide +kernel
theorem dL_law_365 : decode cL_law 365 = .ok (.iconst 1, 1) := by decide +kernel
theorem dL_law_366 : decode cL_law 366 = .ok (.iadd, 1) := by decide +kernel
theorem dL_law_367 : decode cL_law 367 = .ok (.iaload, 1) := by decide +kernel
theorem dL_law_368 : decode cL_law 368 = .ok (.aload_n 0, 1) := by decide +kernel
theorem dL_law_369 : decode cL_law 369 = .ok (.iload 4, 2) := by decide +kernel
theorem dL_law_371 : decode cL_law 371 = .ok (.iconst 2, 1) := by decide +kernel
theorem dL_law_372 : decode cL_law 372 = .ok (.iadd, 1) := by decide +kernel
theorem dL_law_373 : decode cL_law 373 = .ok (.iaload, 1) := by decide +kernel
theorem dL_law_374 : decode cL_law 374 = .ok (.ifCond .eq 7, 3) := by decide +kernel
theorem dL_law_381 : decode cL_law 381 = .ok (.iconst 0, 1) := by decide +kernel
theorem dL_law_382 : decode cL_law 382 = .ok (.invokevirtual 46, 3) := by decide +kernel
theorem dL_law_385 : decode cL_law 385 = .ok (.if_icmp .eq 693, 3) := by decide +kernel
theorem dL_law_390 : decode cL_law 390 = .ok (.aload_n 1, 1) := by decide +kernel
theorem dL_law_391 : decode cL_law 391 = .ok (.aload_n 0, 1) := by decide +kernel
theorem dL_law_392 : decode cL_law 392 = .ok (.iload 4, 2) := by decide +kernel
theorem dL_law_394 : decode cL_law 394 = .ok (.iconst 1, 1) := by decide +kernel
theorem dL_law_395 : decode cL_law 395 = .ok (.iadd, 1) := by decide +kernel
theorem dL_law_396 : decode cL_law 396 = .ok (.iaload, 1) := by decide +kernel
theorem dL_law_397 : decode cL_law 397 = .ok (.aload_n 0, 1) := by decide +kernel
theorem dL_law_398 : decode cL_law 398 = .ok (.iload 4, 2) := by decide +kernel
theorem dL_law_400 : decode cL_law 400 = .ok (.iconst 2, 1) := by decide +kernel
theorem dL_law_401 : decode cL_law 401 = .ok (.iadd, 1) := by decide +kernel
theorem dL_law_402 : decode cL_law 402 = .ok (.iaload, 1) := by decide +kernel
theorem dL_law_403 : decode cL_law 403 = .ok (.invokevirtual 47, 3) := by decide +kernel
theorem dL_law_406 : decode cL_law 406 = .ok (.aload_n 2, 1) := by decide +kernel
theorem dL_law_407 : decode cL_law 407 = .ok (.aload_n 0, 1) := by decide +kernel
theorem dL_law_408 : decode cL_law 408 = .ok (.iload 4, 2) := by decide +kernel
theorem dL_law_410 : decode cL_law 410 = .ok (.iconst 1, 1) := by decide +kernel
theorem dL_law_411 : decode cL_law 411 = .ok (.iadd, 1) := by decide +kernel
theorem dL_law_412 : decode cL_law 412 = .ok (.iaload, 1) := by decide +kernel
theorem dL_law_413 : decode cL_law 413 = .ok (.aload_n 0, 1) := by decide +kernel
theorem dL_law_414 : decode cL_law 414 = .ok (.iload 4, 2) := by decide +kernel
theorem dL_law_416 : decode cL_law 416 = .ok (.iconst 2, 1) := by decide +kernel
theorem dL_law_417 : decode cL_law 417 = .ok (.iadd, 1) := by decide +kernel
theorem dL_law_418 : decode cL_law 418 = .ok (.iaload, 1) := by decide +kernel
theorem dL_law_419 : decode cL_law 419 = .ok (.invokevirtual 51, 3) := by decide +kernel
theorem dL_law_422 : decode cL_law 422 = .ok (.if_icmp .eq 656, 3) := by decide +kernel
theorem dL_law_427 : decode cL_law 427 = .ok (.aload_n 1, 1) := by decide +kernel
theorem dL_law_428 : decode cL_law 428 = .ok (.aload_n 0, 1) := by decide +kernel
theorem dL_law_429 : decode cL_law 429 = .ok (.iload 4, 2) := by decide +kernel
theorem dL_law_431 : decode cL_law 431 = .ok (.iconst 1, 1) := by decide +kernel
theorem dL_law_432 : decode cL_law 432 = .ok (.iadd, 1) := by decide +kernel
theorem dL_law_433 : decode cL_law 433 = .ok (.iaload, 1) := by decide +kernel
theorem dL_law_434 : decode cL_law 434 = .ok (.aload_n 0, 1) := by decide +kernel
theorem dL_law_435 : decode cL_law 435 = .ok (.iload 4, 2) := by decide +kernel
theorem dL_law_437 : decode cL_law 437 = .ok (.iconst 2, 1) := by decide +kernel
theorem dL_law_438 : decode cL_law 438 = .ok (.iadd, 1) := by decide +kernel
theorem dL_law_439 : decode cL_law 439 = .ok (.iaload, 1) := by decide +kernel
theorem dL_law_440 : decode cL_law 440 = .ok (.ifCond .eq 7, 3) := by decide +kernel
theorem dL_law_447 : decode cL_law 447 = .ok (.iconst 0, 1) := by decide +kernel
theorem dL_law_448 : decode cL_law 448 = .ok (.invokevirtual 52, 3) := by decide +kernel
theorem dL_law_451 : decode cL_law 451 = .ok (.aload_n 2, 1) := by decide +kernel
theorem dL_law_452 : decode cL_law 452 = .ok (.aload_n 0, 1) := by decide +kernel
theorem dL_law_453 : decode cL_law 453 = .ok (.iload 4, 2) := by decide +kernel
theorem dL_law_455 : decode cL_law 455 = .ok (.iconst 1, 1) := by decide +kernel
theorem dL_law_456 : decode cL_law 456 = .ok (.iadd, 1) := by decide +kernel
theorem dL_law_457 : decode cL_law 457 = .ok (.iaload, 1) := by decide +kernel
theorem dL_law_458 : decode cL_law 458 = .ok (.aload_n 0, 1) := by decide +kernel
theorem dL_law_459 : decode cL_law 459 = .ok (.iload 4, 2) := by decide +kernel
theorem dL_law_461 : decode cL_law 461 = .ok (.iconst 2, 1) := by decide +kernel
theorem dL_law_462 : decode cL_law 462 = .ok (.iadd, 1) := by decide +kernel
theorem dL_law_463 : decode cL_law 463 = .ok (.iaload, 1) := by decide +kernel
theorem dL_law_464 : decode cL_law 464 = .ok (.ifCond .eq 7, 3) := by decide +kernel
theorem dL_law_471 : decode cL_law 471 = .ok (.iconst 0, 1) := by decide +kernel
theorem dL_law_472 : decode cL_law 472 = .ok (.invokevirtual 55, 3) := by decide +kernel
theorem dL_law_475 : decode cL_law 475 = .ok (.if_icmp .eq 603, 3) := by decide +kernel
theorem dL_law_480 : decode cL_law 480 = .ok (.aload_n 1, 1) := by decide +kernel
theorem dL_law_481 : decode cL_law 481 = .ok (.aload_n 0, 1) := by decide +kernel
theorem dL_law_482 : decode cL_law 482 = .ok (.iload 4, 2) := by decide +kernel
theorem dL_law_484 : decode cL_law 484 = .ok (.iconst 1, 1) := by decide +kernel
theorem dL_law_485 : decode cL_law 485 = .ok (.iadd, 1) := by decide +kernel
theorem dL_law_486 : decode cL_law 486 = .ok (.iaload, 1) := by decide +kernel
theorem dL_law_487 : decode cL_law 487 = .ok (.aload_n 0, 1) := by decide +kernel
theorem dL_law_488 : decode cL_law 488 = .ok (.iload 4, 2) := by decide +kernel
theorem dL_law_490 : decode cL_law 490 = .ok (.iconst 2, 1) := by decide +kernel
theorem dL_law_491 : decode cL_law 491 = .ok (.iadd, 1) := by decide +kernel
theorem dL_law_492 : decode cL_law 492 = .ok (.iaload, 1) := by decide +kernel
theorem dL_law_493 : decode cL_law 493 = .ok (.invokevirtual 56, 3) := by decide +kernel
theorem dL_law_496 : decode cL_law 496 = .ok (.aload_n 2, 1) := by decide +kernel
theorem dL_law_497 : decode cL_law 497 = .ok (.aload_n 0, 1) := by decide +kernel
theorem dL_law_498 : decode cL_law 498 = .ok (.iload 4, 2) := by decide +kernel
theorem dL_law_500 : decode cL_law 500 = .ok (.iconst 1, 1) := by decide +kernel
theorem dL_law_501 : decode cL_law 501 = .ok (.iadd, 1) := by decide +kernel
theorem dL_law_502 : decode cL_law 502 = .ok (.iaload, 1) := by decide +kernel
theorem dL_law_503 : decode cL_law 503 = .ok (.aload_n 0, 1) := by decide +kernel
theorem dL_law_504 : decode cL_law 504 = .ok (.iload 4, 2) := by decide +kernel
theorem dL_law_506 : decode cL_law 506 = .ok (.iconst 2, 1) := by decide +kernel
theorem dL_law_507 : decode cL_law 507 = .ok (.iadd, 1) := by decide +kernel
theorem dL_law_508 : decode cL_law 508 = .ok (.iaload, 1) := by decide +kernel
theorem dL_law_509 : decode cL_law 509 = .ok (.invokevirtual 59, 3) := by decide +kernel
theorem dL_law_512 : decode cL_law 512 = .ok (.if_icmp .eq 566, 3) := by decide +kernel
theorem dL_law_517 : decode cL_law 517 = .ok (.aload_n 1, 1) := by decide +kernel
theorem dL_law_518 : decode cL_law 518 = .ok (.aload_n 0, 1) := by decide +kernel
theorem dL_law_519 : decode cL_law 519 = .ok (.iload 4, 2) := by decide +kernel
theorem dL_law_521 : decode cL_law 521 = .ok (.iconst 1, 1) := by decide +kernel
theorem dL_law_522 : decode cL_law 522 = .ok (.iadd, 1) := by decide +kernel
theorem dL_law_523 : decode cL_law 523 = .ok (.iaload, 1) := by decide +kernel
theorem dL_law_524 : decode cL_law 524 = .ok (.invokevirtual 60, 3) := by decide +kernel
theorem dL_law_527 : decode cL_law 527 = .ok (.aload_n 2, 1) := by decide +kernel
theorem dL_law_528 : decode cL_law 528 = .ok (.aload_n 0, 1) := by decide +kernel
theorem dL_law_529 : decode cL_law 529 = .ok (.iload 4, 2) := by decide +kernel
theorem dL_law_531 : decode cL_law 531 = .ok (.iconst 1, 1) := by decide +kernel
theorem dL_law_532 : decode cL_law 532 = .ok (.iadd, 1) := by decide +kernel
theorem dL_law_533 : decode cL_law 533 = .ok (.iaload, 1) := by decide +kernel
theorem dL_law_534 : decode cL_law 534 = .ok (.invokevirtual 64, 3) := by decide +kernel
theorem dL_law_537 : decode cL_law 537 = .ok (.if_icmp .eq 541, 3) := by decide +kernel
theorem dL_law_1078 : decode cL_law 1078 = .ok (.iinc 4 6, 3) := by decide +kernel
theorem dL_law_1081 : decode cL_law 1081 = .ok (.goto (-1058), 3) := by decide +kernel
set_option maxHeartbeats 4000000 in
set_option maxRecDepth 100000 in
theorem law_0 {p : Program} {l : Launch} {e : Env} {s : State} {m : MethodId} {below : List Frame} {meth : Method} {c : Code} {dC : Nat → ClassId} {dI : Nat → Nat → Nat} {b L : Nat} {xs : Nat → Int32} (hst : l.stackTraces = false) (hL : L ≤ 3072) (C0 : lw_At p s m meth c b L xs) (atx : Nat → Nat × Nat) (hG : GW s.heap.size atx s) (ad : Nat → Nat) (ka : Nat → ClassId) (x0 : Nat) (md : Nat → Nat) (mk9 : Nat → ClassId) (m0 : Nat) (i : Nat) (hi : i + 6 ≤ L) (K : ∀ (H : Heap) (locs : List Loc) (ls : Array Slot), LV dC dI s b L ad ka x0 md mk9 m0 (i + 6) H locs ls → W p l e room_1 s m #[Value.ref b] below meth c H locs (150 + 23 * (i + 6)) (3000 + 300 * (i + 6)) (lw_Z below #[Value.ref b] s) (F0 m 23 ls [])) (H : Heap) (locs : List Loc) (ls : Array Slot) (Gx Gm : Nat → Int) (wx wm : va_W) (tx tm : List (ClassId × FieldType)) (hXI : XI ad ka x0 Gx wx tx) (hMI : MZ md mk9 m0 Gm wm tm ∨ MB md mk9 m0 Gm wm tm) (hrl : REL Gx Gm) (hKx : va_K (dC, dI) classes tx s) (hKm : va_K (dC, dI) classes tm s) (hP : va_P (dC, dI) classes (wx ++ wm) H) (hD : va_D (fun q : Nat => s.heap.size ≤ q) (wx ++ wm)) (hS : va_S (fun q : Nat => s.heap.size ≤ q) s.heap H locs) (hl : lv_has ls 7 [(4, .int (nI i)), (3, .ref (ad 104)), (2, .ref m0), (1, .ref x0), (0, .ref b)]) : W p l e room_1 s m #[Value.ref b] below meth c H locs (150 + 23 * i) (3000 + 300 * i) (lw_Z below #[Value.ref b] s) (F0 m 176 ls []) := by
  obtain ⟨hx, hb, hr, hml, hown, hts0, hX, hbl, hlocks, hgv⟩ := C0
  have hts : ∀ w ∈ wG, w.before #[Value.ref b] s = true := fun w h => hts0 w (wG_t h)
  have hA : ∀ q : Nat, s.heap.size ≤ q → (fun q : Nat => s.heap.size ≤ q) q := fun _ h => h
  have hA0 : ∀ q : Nat, (fun q : Nat => s.heap.size ≤ q) q → s.heap.size ≤ q := fun _ h => h
  have hn0 : s.heap.size ≤ s.heap.size := Nat.le_refl _
  have hbA : ¬ (fun q : Nat => s.heap.size ≤ q) b := Nat.not_le.mpr hbl
  have hrl0 := rel0 hrl
  refine lv_aload_n hx hb dL_law_176 rfl (lv_at hl 3 rfl) ?_
  refine lv_aload_n hx hb dL_law_177 rfl (lv_at hl 4 rfl) ?_
  refine lv_iload hx hb dL_law_178 (lv_at hl 0 rfl) ?_
  refine lv_iconst (v := 1) hx hb dL_law_180 (by decide) ?_
  refine lv_iadd hx hb dL_law_181 ?_
  refine lv_topi (fun v_1 ev_1 => ?_)
  obtain rfl : v_1 = nI (i + 1) := ev_1.trans (nI_add i 1)
  refine va_sld hx hb hX hbl hbA hS (vp_in_nI (n := (i + 1)) (by omega) (by omega)) dL_law_182 ?_
  refine lv_topi (fun v_2 ev_2 => ?_)
  refine lv_aload_n hx hb dL_law_183 rfl (lv_at hl 4 rfl) ?_
  refine lv_iload hx hb dL_law_184 (lv_at hl 0 rfl) ?_
  refine lv_iconst (v := 2) hx hb dL_law_186 (by decide) ?_
  refine lv_iadd hx hb dL_law_187 ?_
  refine lv_topi (fun v_3 ev_3 => ?_)
  obtain rfl : v_3 = nI (i + 2) := ev_3.trans (nI_add i 2)
  refine va_sld hx hb hX hbl hbA hS (vp_in_nI (n := (i + 2)) (by omega) (by omega)) dL_law_188 ?_
  refine lv_topi (fun v_4 ev_4 => ?_)
  refine lv_aload_n hx hb dL_law_189 rfl (lv_at hl 4 rfl) ?_
  refine lv_iload hx hb dL_law_190 (lv_at hl 0 rfl) ?_
  refine lv_iconst (v := 3) hx hb dL_law_192 (by decide) ?_
  refine lv_iadd hx hb dL_law_193 ?_
  refine lv_topi (fun v_5 ev_5 => ?_)
  obtain rfl : v_5 = nI (i + 3) := ev_5.trans (nI_add i 3)
  refine va_sld hx hb hX hbl hbA hS (vp_in_nI (n := (i + 3)) (by omega) (by omega)) dL_law_194 ?_
  refine lv_topi (fun v_6 ev_6 => ?_)
  refine lv_aload_n hx hb dL_law_195 rfl (lv_at hl 4 rfl) ?_
  refine lv_iload hx hb dL_law_196 (lv_at hl 0 rfl) ?_
  refine lv_iconst (v := 4) hx hb dL_law_198 (by decide) ?_
  refine lv_iadd hx hb dL_law_199 ?_
  refine lv_topi (fun v_7 ev_7 => ?_)
  obtain rfl : v_7 = nI (i + 4) := ev_7.trans (nI_add i 4)
  refine va_sld hx hb hX hbl hbA hS (vp_in_nI (n := (i + 4)) (by omega) (by omega)) dL_law_200 ?_
  refine lv_topi (fun v_8 ev_8 => ?_)
  refine lv_aload_n hx hb dL_law_201 rfl (lv_at hl 4 rfl) ?_
  refine lv_iload hx hb dL_law_202 (lv_at hl 0 rfl) ?_
  refine lv_iconst (v := 5) hx hb dL_law_204 (by decide) ?_
  refine lv_iadd hx hb dL_law_205 ?_
  refine lv_topi (fun v_9 ev_9 => ?_)
  obtain rfl : v_9 = nI (i + 5) := ev_9.trans (nI_add i 5)
  refine va_sld hx hb hX hbl hbA hS (vp_in_nI (n := (i + 5)) (by omega) (by omega)) dL_law_206 ?_
  refine lv_topi (fun v_10 ev_10 => ?_)
  have hPc := ap_l hP
  have hDc := ad_l hD
  have hKc := hKx
  have hFc := fr_O hDc hS hA
  obtain ⟨fs9, hrc⟩ := XI_rc hXI
  refine va_calli (va_runV (As := [.int v_2, .int v_4, .int v_6, .int v_8, .int v_10]) (rest := []) ⟨hx, hb, hml, hown, hts⟩ (X_feed l dC dI s.heap.size atx H.size ad ka x0 Gx wx tx v_2 v_4 v_6 v_8 v_10 hXI ) (cwV 5 hts (gV (fun w h => id h) wd_710 wd_707 wd_708 wd_709 wd_114) rfl rfl rfl (by decide +kernel) ⟨Nat.le_of_ble_eq_true rfl, Nat.le_of_ble_eq_true rfl⟩) ⟨fun a U g mk q => by obtain ⟨q0, q1, q2, qG, qP, qK, qD⟩ := q; exact ⟨q0, q1, q2, GW.blind qG, qP, va_K.moved (u := U) (U := U.calling g mk a) (Vm.Alike.refl U.vm) qK, qD⟩, va_recv hKc hPc (ci := 11) (q0 := 0) rfl hrc, fun U hU hW => ⟨rfl, by rw [hU], Nat.le_trans hn0 hS.1, GW.go hW hU hG (fun q hq hA9 => hS.2.1 q hq (fun h => hA9 (hA0 q h))), by rw [hU]; exact hPc, va_K.moved hW.alike hKc, hDc.weaken (fun _ _ _ h => hA0 _ h)⟩⟩ rfl rfl hl.1 rfl (lv_room (Nat.le_of_ble_eq_true rfl)) dL_law_207 ⟨(by show _ ≤ (601024 : Nat); omega), (by show _ ≤ (7293034 : Nat); omega)⟩) hS (fun q _ h => hFc q h) hFc (fun r_11 u t H1 locs ht hvm hw_11 hB hz1 hk1 hS => ?_)
  subst hw_11
  obtain ⟨Gx_11, wx_11, tx_11, hIx_11, hrel_11, hP1, hK1, hD1⟩ := hB
  rw [ht] at hP1
  obtain ⟨hP, hD⟩ := jo_l hP hD hk1 hFc hP1 hD1
  have hKx_11 := va_K.moved hvm.symm hK1
  generalize H1 = H at hP hS ⊢
  refine lv_aload_n hx hb dL_law_210 rfl (lv_at hl 2 rfl) ?_
  refine lv_aload_n hx hb dL_law_211 rfl (lv_at hl 4 rfl) ?_
  refine lv_iload hx hb dL_law_212 (lv_at hl 0 rfl) ?_
  refine lv_iconst (v := 1) hx hb dL_law_214 (by decide) ?_
  refine lv_iadd hx hb dL_law_215 ?_
  refine lv_topi (fun v_12 ev_12 => ?_)
  obtain rfl : v_12 = nI (i + 1) := ev_12.trans (nI_add i 1)
  refine va_sld hx hb hX hbl hbA hS (vp_in_nI (n := (i + 1)) (by omega) (by omega)) dL_law_216 ?_
  refine lv_topi (fun v_13 ev_13 => ?_)
  obtain rfl : v_2 = v_13 := (ev_13.trans ev_2.symm).symm
  refine lv_aload_n hx hb dL_law_217 rfl (lv_at hl 4 rfl) ?_
  refine lv_iload hx hb dL_law_218 (lv_at hl 0 rfl) ?_
  refine lv_iconst (v := 2) hx hb dL_law_220 (by decide) ?_
  refine lv_iadd hx hb dL_law_221 ?_
  refine lv_topi (fun v_14 ev_14 => ?_)
  obtain rfl : v_14 = nI (i + 2) := ev_14.trans (nI_add i 2)
  refine va_sld hx hb hX hbl hbA hS (vp_in_nI (n := (i + 2)) (by omega) (by omega)) dL_law_222 ?_
  refine lv_topi (fun v_15 ev_15 => ?_)
  obtain rfl : v_4 = v_15 := (ev_15.trans ev_4.symm).symm
  refine lv_aload_n hx hb dL_law_223 rfl (lv_at hl 4 rfl) ?_
  refine lv_iload hx hb dL_law_224 (lv_at hl 0 rfl) ?_
  refine lv_iconst (v := 3) hx hb dL_law_226 (by decide) ?_
  refine lv_iadd hx hb dL_law_227 ?_
  refine lv_topi (fun v_16 ev_16 => ?_)
  obtain rfl : v_16 = nI (i + 3) := ev_16.trans (nI_add i 3)
  refine va_sld hx hb hX hbl hbA hS (vp_in_nI (n := (i + 3)) (by omega) (by omega)) dL_law_228 ?_
  refine lv_topi (fun v_17 ev_17 => ?_)
  obtain rfl : v_6 = v_17 := (ev_17.trans ev_6.symm).symm
  refine lv_aload_n hx hb dL_law_229 rfl (lv_at hl 4 rfl) ?_
  refine lv_iload hx hb dL_law_230 (lv_at hl 0 rfl) ?_
  refine lv_iconst (v := 4) hx hb dL_law_232 (by decide) ?_
  refine lv_iadd hx hb dL_law_233 ?_
  refine lv_topi (fun v_18 ev_18 => ?_)
  obtain rfl : v_18 = nI (i + 4) := ev_18.trans (nI_add i 4)
  refine va_sld hx hb hX hbl hbA hS (vp_in_nI (n := (i + 4)) (by omega) (by omega)) dL_law_234 ?_
  refine lv_topi (fun v_19 ev_19 => ?_)
  obtain rfl : v_8 = v_19 := (ev_19.trans ev_8.symm).symm
  refine lv_aload_n hx hb dL_law_235 rfl (lv_at hl 4 rfl) ?_
  refine lv_iload hx hb dL_law_236 (lv_at hl 0 rfl) ?_
  refine lv_iconst (v := 5) hx hb dL_law_238 (by decide) ?_
  refine lv_iadd hx hb dL_law_239 ?_
  refine lv_topi (fun v_20 ev_20 => ?_)
  obtain rfl : v_20 = nI (i + 5) := ev_20.trans (nI_add i 5)
  refine va_sld hx hb hX hbl hbA hS (vp_in_nI (n := (i + 5)) (by omega) (by omega)) dL_law_240 ?_
  refine lv_topi (fun v_21 ev_21 => ?_)
  obtain rfl : v_10 = v_21 := (ev_21.trans ev_10.symm).symm
  rcases hMI with hMI | hMI
  · skip
    have hPc := ap_r hP
    have hDc := ad_r hD
    have hKc := hKm
    have hFc := fr_O hDc hS hA
    obtain ⟨fs9, hrc⟩ := MZ_rc hMI
    refine va_calli (va_runV (As := [.int v_2, .int v_4, .int v_6, .int v_8, .int v_10]) (rest := [.int r_11]) ⟨hx, hb, hml, hown, hts⟩ (Z_feed l dC dI s.heap.size atx H.size md mk9 m0 Gm wm tm v_2 v_4 v_6 v_8 v_10 hMI ) (cwV 5 hts (gV (fun w h => id h) wd_1614 wd_1611 wd_1612 wd_1613 wd_127) rfl rfl rfl (by decide +kernel) ⟨Nat.le_of_ble_eq_true rfl, Nat.le_of_ble_eq_true rfl⟩) ⟨fun a U g mk q => by obtain ⟨q0, q1, q2, qG, qP, qK, qD⟩ := q; exact ⟨q0, q1, q2, GW.blind qG, qP, va_K.moved (u := U) (U := U.calling g mk a) (Vm.Alike.refl U.vm) qK, qD⟩, va_recv hKc hPc (ci := 14) (q0 := 0) rfl hrc, fun U hU hW => ⟨rfl, by rw [hU], Nat.le_trans hn0 hS.1, GW.go hW hU hG (fun q hq hA9 => hS.2.1 q hq (fun h => hA9 (hA0 q h))), by rw [hU]; exact hPc, va_K.moved hW.alike hKc, hDc.weaken (fun _ _ _ h => hA0 _ h)⟩⟩ rfl rfl hl.1 rfl (lv_room (Nat.le_of_ble_eq_true rfl)) dL_law_241 ⟨(by show _ ≤ (601024 : Nat); omega), (by show _ ≤ (7293034 : Nat); omega)⟩) hS (fun q _ h => hFc q h) hFc (fun r_22 u t H1 locs ht hvm hw_22 hB hz1 hk1 hS => ?_)
    subst hw_22
    obtain ⟨Gm_22, wm_22, tm_22, hIm_22, hrel_22, hP1, hK1, hD1⟩ := hB
    rw [ht] at hP1
    obtain ⟨hP, hD⟩ := jo_r hP hD hk1 hFc hP1 hD1
    have hKm_22 := va_K.moved hvm.symm hK1
    generalize H1 = H at hP hS ⊢
    refine lv_icmp_eq (tgt := 1078) hx hb dL_law_244 (by decide) (fun c_23 => ?_) (fun c_23 => ?_)
    · skip
      refine lv_iinc (v := (nI (i + 6))) (lv' := [(4, .int (nI (i + 6))), (3, .ref (ad 104)), (2, .ref m0), (1, .ref x0), (0, .ref b)]) hx hb dL_law_1078 hl (k := 0) rfl (nI_add _ 6) (by decide) rfl (fun ls hl => ?_)
      refine lv_goto (tgt := 23) hx hb dL_law_1081 (by decide) ?_
      refine W.widen (k := 150 + 23 * (i + 6)) (n := 3000 + 300 * (i + 6)) (by omega) (by omega) ?_
      exact K _ _ _ ⟨by omega, Gx_11, Gm_22, wx_11, wm_22, tx_11, tm_22, hIx_11, (Or.inl hIm_22), (rel_f hrl hrel_11.2.1 hrel_22.2.1 hrel_11.2.2 hrel_22.2.2), hKx_11, hKm_22, hP, hD, hS, lv_sub hl [0, 1, 2, 3, 4] rfl⟩
    · exact absurd (by rw [hrel_11.1, hrel_22.1, rel0 hrl]) c_23
  · skip
    have hPc := ap_r hP
    have hDc := ad_r hD
    have hKc := hKm
    have hFc := fr_O hDc hS hA
    obtain ⟨fs9, hrc⟩ := MB_rc hMI
    refine va_calli (va_runV (As := [.int v_2, .int v_4, .int v_6, .int v_8, .int v_10]) (rest := [.int r_11]) ⟨hx, hb, hml, hown, hts⟩ (B_feed l dC dI s.heap.size atx H.size md mk9 m0 Gm wm tm v_2 v_4 v_6 v_8 v_10 hMI ) (cwV 5 hts (gV (fun w h => id h) wd_1614 wd_1611 wd_1612 wd_1613 wd_127) rfl rfl rfl (by decide +kernel) ⟨Nat.le_of_ble_eq_true rfl, Nat.le_of_ble_eq_true rfl⟩) ⟨fun a U g mk q => by obtain ⟨q0, q1, q2, qG, qP, qK, qD⟩ := q; exact ⟨q0, q1, q2, GW.blind qG, qP, va_K.moved (u := U) (U := U.calling g mk a) (Vm.Alike.refl U.vm) qK, qD⟩, va_recv hKc hPc (ci := 14) (q0 := 0) rfl hrc, fun U hU hW => ⟨rfl, by rw [hU], Nat.le_trans hn0 hS.1, GW.go hW hU hG (fun q hq hA9 => hS.2.1 q hq (fun h => hA9 (hA0 q h))), by rw [hU]; exact hPc, va_K.moved hW.alike hKc, hDc.weaken (fun _ _ _ h => hA0 _ h)⟩⟩ rfl rfl hl.1 rfl (lv_room (Nat.le_of_ble_eq_true rfl)) dL_law_241 ⟨(by show _ ≤ (601024 : Nat); omega), (by show _ ≤ (7293034 : Nat); omega)⟩) hS (fun q _ h => hFc q h) hFc (fun r_24 u t H1 locs ht hvm hw_24 hB hz1 hk1 hS => ?_)
    subst hw_24
    obtain ⟨Gm_24, wm_24, tm_24, hIm_24, hrel_24, hP1, hK1, hD1⟩ := hB
    rw [ht] at hP1
    obtain ⟨hP, hD⟩ := jo_r hP hD hk1 hFc hP1 hD1
    have hKm_24 := va_K.moved hvm.symm hK1
    generalize H1 = H at hP hS ⊢
    refine lv_icmp_eq (tgt := 1078) hx hb dL_law_244 (by decide) (fun c_25 => ?_) (fun c_25 => ?_)
    · skip
      refine lv_iinc (v := (nI (i + 6))) (lv' := [(4, .int (nI (i + 6))), (3, .ref (ad 104)), (2, .ref m0), (1, .ref x0), (0, .ref b)]) hx hb dL_law_1078 hl (k := 0) rfl (nI_add _ 6) (by decide) rfl (fun ls hl => ?_)
      refine lv_goto (tgt := 23) hx hb dL_law_1081 (by decide) ?_
      refine W.widen (k := 150 + 23 * (i + 6)) (n := 3000 + 300 * (i + 6)) (by omega) (by omega) ?_
      exact K _ _ _ ⟨by omega, Gx_11, Gm_24, wx_11, wm_24, tx_11, tm_24, hIx_11, (Or.inr hIm_24), (rel_f hrl hrel_11.2.1 hrel_24.2.1 hrel_11.2.2 hrel_24.2.2), hKx_11, hKm_24, hP, hD, hS, lv_sub hl [0, 1, 2, 3, 4] rfl⟩
    · exact absurd (by rw [hrel_11.1, hrel_24.1, rel0 hrl]) c_25
set_option maxHeartbeats 4000000 in
set_option maxRecDepth 100000 in
theorem law_1 {p : Program} {l : Launch} {e : Env} {s : State} {m : MethodId} {below : List Frame} {meth : Method} {c : Code} {dC : Nat → ClassId} {dI : Nat → Nat → Nat} {b L : Nat} {xs : Nat → Int32} (hst : l.stackTraces = false) (hL : L ≤ 3072) (C0 : lw_At p s m meth c b L xs) (atx : Nat → Nat × Nat) (hG : GW s.heap.size atx s) (ad : Nat → Nat) (ka : Nat → ClassId) (x0 : Nat) (md : Nat → Nat) (mk9 : Nat → ClassId) (m0 : Nat) (i : Nat) (hi : i + 6 ≤ L) (K : ∀ (H : Heap) (locs : List Loc) (ls : Array Slot), LV dC dI s b L ad ka x0 md mk9 m0 (i + 6) H locs ls → W p l e room_1 s m #[Value.ref b] below meth c H locs (150 + 23 * (i + 6)) (3000 + 300 * (i + 6)) (lw_Z below #[Value.ref b] s) (F0 m 23 ls [])) (H : Heap) (locs : List Loc) (ls : Array Slot) (Gx Gm : Nat → Int) (wx wm : va_W) (tx tm : List (ClassId × FieldType)) (hXI : XI ad ka x0 Gx wx tx) (hMI : MZ md mk9 m0 Gm wm tm ∨ MB md mk9 m0 Gm wm tm) (hrl : REL Gx Gm) (hKx : va_K (dC, dI) classes tx s) (hKm : va_K (dC, dI) classes tm s) (hP : va_P (dC, dI) classes (wx ++ wm) H) (hD : va_D (fun q : Nat => s.heap.size ≤ q) (wx ++ wm)) (hS : va_S (fun q : Nat => s.heap.size ≤ q) s.heap H locs) (hl : lv_has ls 7 [(4, .int (nI i)), (3, .ref (ad 104)), (2, .ref m0), (1, .ref x0), (0, .ref b)]) : W p l e room_1 s m #[Value.ref b] below meth c H locs (150 + 23 * i) (3000 + 300 * i) (lw_Z below #[Value.ref b] s) (F0 m 249 ls []) := by
  obtain ⟨hx, hb, hr, hml, hown, hts0, hX, hbl, hlocks, hgv⟩ := C0
  have hts : ∀ w ∈ wG, w.before #[Value.ref b] s = true := fun w h => hts0 w (wG_t h)
  have hA : ∀ q : Nat, s.heap.size ≤ q → (fun q : Nat => s.heap.size ≤ q) q := fun _ h => h
  have hA0 : ∀ q : Nat, (fun q : Nat => s.heap.size ≤ q) q → s.heap.size ≤ q := fun _ h => h
  have hn0 : s.heap.size ≤ s.heap.size := Nat.le_refl _
  have hbA : ¬ (fun q : Nat => s.heap.size ≤ q) b := Nat.not_le.mpr hbl
  have hrl0 := rel0 hrl
  refine lv_aload_n hx hb dL_law_249 rfl (lv_at hl 3 rfl) ?_
  refine lv_aload_n hx hb dL_law_250 rfl (lv_at hl 4 rfl) ?_
  refine lv_iload hx hb dL_law_251 (lv_at hl 0 rfl) ?_
  refine lv_iconst (v := 1) hx hb dL_law_253 (by decide) ?_
  refine lv_iadd hx hb dL_law_254 ?_
  refine lv_topi (fun v_1 ev_1 => ?_)
  obtain rfl : v_1 = nI (i + 1) := ev_1.trans (nI_add i 1)
  refine va_sld hx hb hX hbl hbA hS (vp_in_nI (n := (i + 1)) (by omega) (by omega)) dL_law_255 ?_
  refine lv_topi (fun v_2 ev_2 => ?_)
  have hj := hXI_ge hXI
  by_cases hq : 0 ≤ v_2.toInt ∧ v_2.toInt ≤ Gx 0
  · skip
    obtain ⟨n1, hn1, rfl⟩ := i_of (n := 601) hq.1 (by omega) (by omega)
    have hz : (nI n1).toInt = (n1 : Int) := nI_toInt (by omega)
    have hPc := ap_l hP
    have hDc := ad_l hD
    have hKc := hKx
    have hFc := fr_O hDc hS hA
    obtain ⟨fs9, hrc⟩ := XI_rc hXI
    refine va_calli (va_runV (As := [.int (nI n1)]) (rest := []) ⟨hx, hb, hml, hown, hts⟩ (X_book1 l dC dI s.heap.size atx H.size ad ka x0 Gx wx tx n1 hXI (by omega)) (cwV 1 hts (gV (fun w h => id h) wd_718 wd_715 wd_716 wd_717 wd_114) rfl rfl rfl (by decide +kernel) ⟨Nat.le_of_ble_eq_true rfl, Nat.le_of_ble_eq_true rfl⟩) ⟨fun a U g mk q => by obtain ⟨q0, q1, q2, qG, qP, qK, qD⟩ := q; exact ⟨q0, q1, q2, GW.blind qG, qP, va_K.moved (u := U) (U := U.calling g mk a) (Vm.Alike.refl U.vm) qK, qD⟩, va_recv hKc hPc (ci := 11) (q0 := 0) rfl hrc, fun U hU hW => ⟨rfl, by rw [hU], Nat.le_trans hn0 hS.1, GW.go hW hU hG (fun q hq hA9 => hS.2.1 q hq (fun h => hA9 (hA0 q h))), by rw [hU]; exact hPc, va_K.moved hW.alike hKc, hDc.weaken (fun _ _ _ h => hA0 _ h)⟩⟩ rfl rfl hl.1 rfl (lv_room (Nat.le_of_ble_eq_true rfl)) dL_law_256 ⟨(by show _ ≤ (601024 : Nat); omega), (by show _ ≤ (7293034 : Nat); omega)⟩) hS (fun q _ h => hFc q h) hFc (fun r_3 u t H1 locs ht hvm hw_3 hB hz1 hk1 hS => ?_)
    subst hw_3
    obtain ⟨Gx_3, wx_3, tx_3, hIx_3, hrel_3, hP1, hK1, hD1⟩ := hB
    rw [ht] at hP1
    obtain ⟨hP, hD⟩ := jo_l hP hD hk1 hFc hP1 hD1
    have hKx_3 := va_K.moved hvm.symm hK1
    generalize H1 = H at hP hS ⊢
    refine lv_aload_n hx hb dL_law_259 rfl (lv_at hl 2 rfl) ?_
    refine lv_aload_n hx hb dL_law_260 rfl (lv_at hl 4 rfl) ?_
    refine lv_iload hx hb dL_law_261 (lv_at hl 0 rfl) ?_
    refine lv_iconst (v := 1) hx hb dL_law_263 (by decide) ?_
    refine lv_iadd hx hb dL_law_264 ?_
    refine lv_topi (fun v_4 ev_4 => ?_)
    obtain rfl : v_4 = nI (i + 1) := ev_4.trans (nI_add i 1)
    refine va_sld hx hb hX hbl hbA hS (vp_in_nI (n := (i + 1)) (by omega) (by omega)) dL_law_265 ?_
    refine lv_topi (fun v_5 ev_5 => ?_)
    obtain rfl : v_5 = nI n1 := ev_5.trans ev_2.symm
    rcases hMI with hMI | hMI
    · skip
      have hPc := ap_r hP
      have hDc := ad_r hD
      have hKc := hKm
      have hFc := fr_O hDc hS hA
      obtain ⟨fs9, hrc⟩ := MZ_rc hMI
      refine vx_calli (vx_runVX (As := [.int (nI n1)]) (rest := [.int r_3]) ⟨hx, hb, hml, hown, hts⟩ (Z_book1 l dC dI s.heap.size atx H.size md mk9 m0 Gm wm tm n1 hMI (by omega)) (vx_cwVW 1 hts (gV (fun w h => id h) wd_1618 wd_1615 wd_1616 wd_1617 wd_127) rfl rfl rfl (by decide +kernel) ⟨Nat.le_of_ble_eq_true rfl, Nat.le_of_ble_eq_true rfl⟩) ⟨fun a U g mk q => by obtain ⟨q0, q1, q2, qG, qP, qK, qD⟩ := q; exact ⟨q0, q1, q2, GW.blind qG, qP, va_K.moved (u := U) (U := U.calling g mk a) (Vm.Alike.refl U.vm) qK, qD⟩, va_recv hKc hPc (ci := 14) (q0 := 0) rfl hrc, fun U hU hW => ⟨rfl, by rw [hU], Nat.le_trans hn0 hS.1, GW.go hW hU hG (fun q hq hA9 => hS.2.1 q hq (fun h => hA9 (hA0 q h))), by rw [hU]; exact hPc, va_K.moved hW.alike hKc, hDc.weaken (fun _ _ _ h => hA0 _ h)⟩⟩ rfl rfl hl.1 rfl (lv_room (Nat.le_of_ble_eq_true rfl)) dL_law_266 ⟨(by show _ ≤ (601024 : Nat); omega), (by show _ ≤ (7293034 : Nat); omega)⟩) hS (fun q _ h => hFc q h) hFc (fun q _ h => hFc q h) (fun E ce q9 u t H1 locs ht hvm hw_6 hB hz1 hk1 hS hce hcv hcl => hw_no hw_6) (fun r_6 u t H1 locs ht hvm hw_6 hB hz1 hk1 hS => ?_)
      subst hw_6
      rcases hB with hB | hB
      · skip
        obtain ⟨Gm_6a, wm_6a, tm_6a, hIm_6a, hrel_6a, hP1, hK1, hD1⟩ := hB
        rw [ht] at hP1
        obtain ⟨hP, hD⟩ := jo_r hP hD hk1 hFc hP1 hD1
        have hKm_6a := va_K.moved hvm.symm hK1
        generalize H1 = H at hP hS ⊢
        refine lv_icmp_eq (tgt := 1078) hx hb dL_law_269 (by decide) (fun c_7 => ?_) (fun c_7 => ?_)
        · skip
          refine lv_iinc (v := (nI (i + 6))) (lv' := [(4, .int (nI (i + 6))), (3, .ref (ad 104)), (2, .ref m0), (1, .ref x0), (0, .ref b)]) hx hb dL_law_1078 hl (k := 0) rfl (nI_add _ 6) (by decide) rfl (fun ls hl => ?_)
          refine lv_goto (tgt := 23) hx hb dL_law_1081 (by decide) ?_
          refine W.widen (k := 150 + 23 * (i + 6)) (n := 3000 + 300 * (i + 6)) (by omega) (by omega) ?_
          exact K _ _ _ ⟨by omega, Gx_3, Gm_6a, wx_3, wm_6a, tx_3, tm_6a, hIx_3, (Or.inl hIm_6a), (rel_b hrl hrel_3 hrel_6a).2, hKx_3, hKm_6a, hP, hD, hS, lv_sub hl [0, 1, 2, 3, 4] rfl⟩
        · exact absurd ((rel_b hrl hrel_3 hrel_6a).1) c_7
      · skip
        obtain ⟨Gm_6b, wm_6b, tm_6b, hIm_6b, hrel_6b, hP1, hK1, hD1⟩ := hB
        rw [ht] at hP1
        obtain ⟨hP, hD⟩ := jo_r hP hD hk1 hFc hP1 hD1
        have hKm_6b := va_K.moved hvm.symm hK1
        generalize H1 = H at hP hS ⊢
        refine lv_icmp_eq (tgt := 1078) hx hb dL_law_269 (by decide) (fun c_8 => ?_) (fun c_8 => ?_)
        · skip
          refine lv_iinc (v := (nI (i + 6))) (lv' := [(4, .int (nI (i + 6))), (3, .ref (ad 104)), (2, .ref m0), (1, .ref x0), (0, .ref b)]) hx hb dL_law_1078 hl (k := 0) rfl (nI_add _ 6) (by decide) rfl (fun ls hl => ?_)
          refine lv_goto (tgt := 23) hx hb dL_law_1081 (by decide) ?_
          refine W.widen (k := 150 + 23 * (i + 6)) (n := 3000 + 300 * (i + 6)) (by omega) (by omega) ?_
          exact K _ _ _ ⟨by omega, Gx_3, Gm_6b, wx_3, wm_6b, tx_3, tm_6b, hIx_3, (Or.inr hIm_6b), (rel_b hrl hrel_3 hrel_6b).2, hKx_3, hKm_6b, hP, hD, hS, lv_sub hl [0, 1, 2, 3, 4] rfl⟩
        · exact absurd ((rel_b hrl hrel_3 hrel_6b).1) c_8
    · skip
      have hPc := ap_r hP
      have hDc := ad_r hD
      have hKc := hKm
      have hFc := fr_O hDc hS hA
      obtain ⟨fs9, hrc⟩ := MB_rc hMI
      refine vx_calli (vx_runVX (As := [.int (nI n1)]) (rest := [.int r_3]) ⟨hx, hb, hml, hown, hts⟩ (B_book1 l dC dI s.heap.size atx H.size md mk9 m0 Gm wm tm n1 hMI (by omega)) (vx_cwVW 1 hts (gV (fun w h => id h) wd_1618 wd_1615 wd_1616 wd_1617 wd_127) rfl rfl rfl (by decide +kernel) ⟨Nat.le_of_ble_eq_true rfl, Nat.le_of_ble_eq_true rfl⟩) ⟨fun a U g mk q => by obtain ⟨q0, q1, q2, qG, qP, qK, qD⟩ := q; exact ⟨q0, q1, q2, GW.blind qG, qP, va_K.moved (u := U) (U := U.calling g mk a) (Vm.Alike.refl U.vm) qK, qD⟩, va_recv hKc hPc (ci := 14) (q0 := 0) rfl hrc, fun U hU hW => ⟨rfl, by rw [hU], Nat.le_trans hn0 hS.1, GW.go hW hU hG (fun q hq hA9 => hS.2.1 q hq (fun h => hA9 (hA0 q h))), by rw [hU]; exact hPc, va_K.moved hW.alike hKc, hDc.weaken (fun _ _ _ h => hA0 _ h)⟩⟩ rfl rfl hl.1 rfl (lv_room (Nat.le_of_ble_eq_true rfl)) dL_law_266 ⟨(by show _ ≤ (601024 : Nat); omega), (by show _ ≤ (7293034 : Nat); omega)⟩) hS (fun q _ h => hFc q h) hFc (fun q _ h => hFc q h) (fun E ce q9 u t H1 locs ht hvm hw_9 hB hz1 hk1 hS hce hcv hcl => hw_no hw_9) (fun r_9 u t H1 locs ht hvm hw_9 hB hz1 hk1 hS => ?_)
      subst hw_9
      rcases hB with hB | hB
      · skip
        obtain ⟨Gm_9a, wm_9a, tm_9a, hIm_9a, hrel_9a, hP1, hK1, hD1⟩ := hB
        rw [ht] at hP1
        obtain ⟨hP, hD⟩ := jo_r hP hD hk1 hFc hP1 hD1
        have hKm_9a := va_K.moved hvm.symm hK1
        generalize H1 = H at hP hS ⊢
        refine lv_icmp_eq (tgt := 1078) hx hb dL_law_269 (by decide) (fun c_10 => ?_) (fun c_10 => ?_)
        · skip
          refine lv_iinc (v := (nI (i + 6))) (lv' := [(4, .int (nI (i + 6))), (3, .ref (ad 104)), (2, .ref m0), (1, .ref x0), (0, .ref b)]) hx hb dL_law_1078 hl (k := 0) rfl (nI_add _ 6) (by decide) rfl (fun ls hl => ?_)
          refine lv_goto (tgt := 23) hx hb dL_law_1081 (by decide) ?_
          refine W.widen (k := 150 + 23 * (i + 6)) (n := 3000 + 300 * (i + 6)) (by omega) (by omega) ?_
          exact K _ _ _ ⟨by omega, Gx_3, Gm_9a, wx_3, wm_9a, tx_3, tm_9a, hIx_3, (Or.inr hIm_9a), (rel_b hrl hrel_3 hrel_9a).2, hKx_3, hKm_9a, hP, hD, hS, lv_sub hl [0, 1, 2, 3, 4] rfl⟩
        · exact absurd ((rel_b hrl hrel_3 hrel_9a).1) c_10
      · skip
        obtain ⟨Gm_9b, wm_9b, tm_9b, hIm_9b, hrel_9b, hP1, hK1, hD1⟩ := hB
        rw [ht] at hP1
        obtain ⟨hP, hD⟩ := jo_r hP hD hk1 hFc hP1 hD1
        have hKm_9b := va_K.moved hvm.symm hK1
        generalize H1 = H at hP hS ⊢
        refine lv_icmp_eq (tgt := 1078) hx hb dL_law_269 (by decide) (fun c_11 => ?_) (fun c_11 => ?_)
        · skip
          refine lv_iinc (v := (nI (i + 6))) (lv' := [(4, .int (nI (i + 6))), (3, .ref (ad 104)), (2, .ref m0), (1, .ref x0), (0, .ref b)]) hx hb dL_law_1078 hl (k := 0) rfl (nI_add _ 6) (by decide) rfl (fun ls hl => ?_)
          refine lv_goto (tgt := 23) hx hb dL_law_1081 (by decide) ?_
          refine W.widen (k := 150 + 23 * (i + 6)) (n := 3000 + 300 * (i + 6)) (by omega) (by omega) ?_
          exact K _ _ _ ⟨by omega, Gx_3, Gm_9b, wx_3, wm_9b, tx_3, tm_9b, hIx_3, (Or.inr hIm_9b), (rel_b hrl hrel_3 hrel_9b).2, hKx_3, hKm_9b, hP, hD, hS, lv_sub hl [0, 1, 2, 3, 4] rfl⟩
        · exact absurd ((rel_b hrl hrel_3 hrel_9b).1) c_11
  · skip
    have hPc := ap_l hP
    have hDc := ad_l hD
    have hKc := hKx
    have hFc := fr_O hDc hS hA
    obtain ⟨fs9, hrc⟩ := XI_rc hXI
    refine va_calli (va_runV (As := [.int v_2]) (rest := []) ⟨hx, hb, hml, hown, hts⟩ (X_book0 l dC dI s.heap.size atx H.size ad ka x0 Gx wx tx v_2 hXI (by omega)) (cwV 1 hts (gV (fun w h => id h) wd_718 wd_715 wd_716 wd_717 wd_114) rfl rfl rfl (by decide +kernel) ⟨Nat.le_of_ble_eq_true rfl, Nat.le_of_ble_eq_true rfl⟩) ⟨fun a U g mk q => by obtain ⟨q0, q1, q2, qG, qP, qK, qD⟩ := q; exact ⟨q0, q1, q2, GW.blind qG, qP, va_K.moved (u := U) (U := U.calling g mk a) (Vm.Alike.refl U.vm) qK, qD⟩, va_recv hKc hPc (ci := 11) (q0 := 0) rfl hrc, fun U hU hW => ⟨rfl, by rw [hU], Nat.le_trans hn0 hS.1, GW.go hW hU hG (fun q hq hA9 => hS.2.1 q hq (fun h => hA9 (hA0 q h))), by rw [hU]; exact hPc, va_K.moved hW.alike hKc, hDc.weaken (fun _ _ _ h => hA0 _ h)⟩⟩ rfl rfl hl.1 rfl (lv_room (Nat.le_of_ble_eq_true rfl)) dL_law_256 ⟨(by show _ ≤ (601024 : Nat); omega), (by show _ ≤ (7293034 : Nat); omega)⟩) hS (fun q _ h => hFc q h) hFc (fun r_12 u t H1 locs ht hvm hw_12 hB hz1 hk1 hS => ?_)
    subst hw_12
    obtain ⟨Gx_12, wx_12, tx_12, hIx_12, hrel_12, hP1, hK1, hD1⟩ := hB
    rw [ht] at hP1
    obtain ⟨hP, hD⟩ := jo_l hP hD hk1 hFc hP1 hD1
    have hKx_12 := va_K.moved hvm.symm hK1
    generalize H1 = H at hP hS ⊢
    refine lv_aload_n hx hb dL_law_259 rfl (lv_at hl 2 rfl) ?_
    refine lv_aload_n hx hb dL_law_260 rfl (lv_at hl 4 rfl) ?_
    refine lv_iload hx hb dL_law_261 (lv_at hl 0 rfl) ?_
    refine lv_iconst (v := 1) hx hb dL_law_263 (by decide) ?_
    refine lv_iadd hx hb dL_law_264 ?_
    refine lv_topi (fun v_13 ev_13 => ?_)
    obtain rfl : v_13 = nI (i + 1) := ev_13.trans (nI_add i 1)
    refine va_sld hx hb hX hbl hbA hS (vp_in_nI (n := (i + 1)) (by omega) (by omega)) dL_law_265 ?_
    refine lv_topi (fun v_14 ev_14 => ?_)
    obtain rfl : v_2 = v_14 := (ev_14.trans ev_2.symm).symm
    rcases hMI with hMI | hMI
    · skip
      have hPc := ap_r hP
      have hDc := ad_r hD
      have hKc := hKm
      have hFc := fr_O hDc hS hA
      obtain ⟨fs9, hrc⟩ := MZ_rc hMI
      refine vx_calli (vx_runVX (As := [.int v_2]) (rest := [.int r_12]) ⟨hx, hb, hml, hown, hts⟩ (Z_book0 l dC dI s.heap.size atx H.size md mk9 m0 Gm wm tm v_2 hMI (by omega)) (vx_cwVW 1 hts (gV (fun w h => id h) wd_1618 wd_1615 wd_1616 wd_1617 wd_127) rfl rfl rfl (by decide +kernel) ⟨Nat.le_of_ble_eq_true rfl, Nat.le_of_ble_eq_true rfl⟩) ⟨fun a U g mk q => by obtain ⟨q0, q1, q2, qG, qP, qK, qD⟩ := q; exact ⟨q0, q1, q2, GW.blind qG, qP, va_K.moved (u := U) (U := U.calling g mk a) (Vm.Alike.refl U.vm) qK, qD⟩, va_recv hKc hPc (ci := 14) (q0 := 0) rfl hrc, fun U hU hW => ⟨rfl, by rw [hU], Nat.le_trans hn0 hS.1, GW.go hW hU hG (fun q hq hA9 => hS.2.1 q hq (fun h => hA9 (hA0 q h))), by rw [hU]; exact hPc, va_K.moved hW.alike hKc, hDc.weaken (fun _ _ _ h => hA0 _ h)⟩⟩ rfl rfl hl.1 rfl (lv_room (Nat.le_of_ble_eq_true rfl)) dL_law_266 ⟨(by show _ ≤ (601024 : Nat); omega), (by show _ ≤ (7293034 : Nat); omega)⟩) hS (fun q _ h => hFc q h) hFc (fun q _ h => hFc q h) (fun E ce q9 u t H1 locs ht hvm hw_15 hB hz1 hk1 hS hce hcv hcl => hw_no hw_15) (fun r_15 u t H1 locs ht hvm hw_15 hB hz1 hk1 hS => ?_)
      subst hw_15
      obtain ⟨Gm_15, wm_15, tm_15, hIm_15, hrel_15, hP1, hK1, hD1⟩ := hB
      rw [ht] at hP1
      obtain ⟨hP, hD⟩ := jo_r hP hD hk1 hFc hP1 hD1
      have hKm_15 := va_K.moved hvm.symm hK1
      generalize H1 = H at hP hS ⊢
      refine lv_icmp_eq (tgt := 1078) hx hb dL_law_269 (by decide) (fun c_16 => ?_) (fun c_16 => ?_)
      · skip
        refine lv_iinc (v := (nI (i + 6))) (lv' := [(4, .int (nI (i + 6))), (3, .ref (ad 104)), (2, .ref m0), (1, .ref x0), (0, .ref b)]) hx hb dL_law_1078 hl (k := 0) rfl (nI_add _ 6) (by decide) rfl (fun ls hl => ?_)
        refine lv_goto (tgt := 23) hx hb dL_law_1081 (by decide) ?_
        refine W.widen (k := 150 + 23 * (i + 6)) (n := 3000 + 300 * (i + 6)) (by omega) (by omega) ?_
        exact K _ _ _ ⟨by omega, Gx_12, Gm_15, wx_12, wm_15, tx_12, tm_15, hIx_12, (Or.inl hIm_15), (rel_l hrl hrel_12.2.1 hrel_15.2.1 hrel_12.2.2 hrel_15.2.2), hKx_12, hKm_15, hP, hD, hS, lv_sub hl [0, 1, 2, 3, 4] rfl⟩
      · exact absurd (hrel_12.1.trans hrel_15.1.symm) c_16
    · skip
      have hPc := ap_r hP
      have hDc := ad_r hD
      have hKc := hKm
      have hFc := fr_O hDc hS hA
      obtain ⟨fs9, hrc⟩ := MB_rc hMI
      refine vx_calli (vx_runVX (As := [.int v_2]) (rest := [.int r_12]) ⟨hx, hb, hml, hown, hts⟩ (B_book0 l dC dI s.heap.size atx H.size md mk9 m0 Gm wm tm v_2 hMI (by omega)) (vx_cwVW 1 hts (gV (fun w h => id h) wd_1618 wd_1615 wd_1616 wd_1617 wd_127) rfl rfl rfl (by decide +kernel) ⟨Nat.le_of_ble_eq_true rfl, Nat.le_of_ble_eq_true rfl⟩) ⟨fun a U g mk q => by obtain ⟨q0, q1, q2, qG, qP, qK, qD⟩ := q; exact ⟨q0, q1, q2, GW.blind qG, qP, va_K.moved (u := U) (U := U.calling g mk a) (Vm.Alike.refl U.vm) qK, qD⟩, va_recv hKc hPc (ci := 14) (q0 := 0) rfl hrc, fun U hU hW => ⟨rfl, by rw [hU], Nat.le_trans hn0 hS.1, GW.go hW hU hG (fun q hq hA9 => hS.2.1 q hq (fun h => hA9 (hA0 q h))), by rw [hU]; exact hPc, va_K.moved hW.alike hKc, hDc.weaken (fun _ _ _ h => hA0 _ h)⟩⟩ rfl rfl hl.1 rfl (lv_room (Nat.le_of_ble_eq_true rfl)) dL_law_266 ⟨(by show _ ≤ (601024 : Nat); omega), (by show _ ≤ (7293034 : Nat); omega)⟩) hS (fun q _ h => hFc q h) hFc (fun q _ h => hFc q h) (fun E ce q9 u t H1 locs ht hvm hw_17 hB hz1 hk1 hS hce hcv hcl => hw_no hw_17) (fun r_17 u t H1 locs ht hvm hw_17 hB hz1 hk1 hS => ?_)
      subst hw_17
      obtain ⟨Gm_17, wm_17, tm_17, hIm_17, hrel_17, hP1, hK1, hD1⟩ := hB
      rw [ht] at hP1
      obtain ⟨hP, hD⟩ := jo_r hP hD hk1 hFc hP1 hD1
      have hKm_17 := va_K.moved hvm.symm hK1
      generalize H1 = H at hP hS ⊢
      refine lv_icmp_eq (tgt := 1078) hx hb dL_law_269 (by decide) (fun c_18 => ?_) (fun c_18 => ?_)
      · skip
        refine lv_iinc (v := (nI (i + 6))) (lv' := [(4, .int (nI (i + 6))), (3, .ref (ad 104)), (2, .ref m0), (1, .ref x0), (0, .ref b)]) hx hb dL_law_1078 hl (k := 0) rfl (nI_add _ 6) (by decide) rfl (fun ls hl => ?_)
        refine lv_goto (tgt := 23) hx hb dL_law_1081 (by decide) ?_
        refine W.widen (k := 150 + 23 * (i + 6)) (n := 3000 + 300 * (i + 6)) (by omega) (by omega) ?_
        exact K _ _ _ ⟨by omega, Gx_12, Gm_17, wx_12, wm_17, tx_12, tm_17, hIx_12, (Or.inr hIm_17), (rel_l hrl hrel_12.2.1 hrel_17.2.1 hrel_12.2.2 hrel_17.2.2), hKx_12, hKm_17, hP, hD, hS, lv_sub hl [0, 1, 2, 3, 4] rfl⟩
      · exact absurd (hrel_12.1.trans hrel_17.1.symm) c_18
set_option maxHeartbeats 4000000 in
set_option maxRecDepth 100000 in
theorem law_2 {p : Program} {l : Launch} {e : Env} {s : State} {m : MethodId} {below : List Frame} {meth : Method} {c : Code} {dC : Nat → ClassId} {dI : Nat → Nat → Nat} {b L : Nat} {xs : Nat → Int32} (hst : l.stackTraces = false) (hL : L ≤ 3072) (C0 : lw_At p s m meth c b L xs) (atx : Nat → Nat × Nat) (hG : GW s.heap.size atx s) (ad : Nat → Nat) (ka : Nat → ClassId) (x0 : Nat) (md : Nat → Nat) (mk9 : Nat → ClassId) (m0 : Nat) (i : Nat) (hi : i + 6 ≤ L) (K : ∀ (H : Heap) (locs : List Loc) (ls : Array Slot), LV dC dI s b L ad ka x0 md mk9 m0 (i + 6) H locs ls → W p l e room_1 s m #[Value.ref b] below meth c H locs (150 + 23 * (i + 6)) (3000 + 300 * (i + 6)) (lw_Z below #[Value.ref b] s) (F0 m 23 ls [])) (H : Heap) (locs : List Loc) (ls : Array Slot) (Gx Gm : Nat → Int) (wx wm : va_W) (tx tm : List (ClassId × FieldType)) (hXI : XI ad ka x0 Gx wx tx) (hMI : MZ md mk9 m0 Gm wm tm ∨ MB md mk9 m0 Gm wm tm) (hrl : REL Gx Gm) (hKx : va_K (dC, dI) classes tx s) (hKm : va_K (dC, dI) classes tm s) (hP : va_P (dC, dI) classes (wx ++ wm) H) (hD : va_D (fun q : Nat => s.heap.size ≤ q) (wx ++ wm)) (hS : va_S (fun q : Nat => s.heap.size ≤ q) s.heap H locs) (hl : lv_has ls 7 [(4, .int (nI i)), (3, .ref (ad 104)), (2, .ref m0), (1, .ref x0), (0, .ref b)]) : W p l e room_1 s m #[Value.ref b] below meth c H locs (150 + 23 * i) (3000 + 300 * i) (lw_Z below #[Value.ref b] s) (F0 m 274 ls []) := by
  obtain ⟨hx, hb, hr, hml, hown, hts0, hX, hbl, hlocks, hgv⟩ := C0
  have hts : ∀ w ∈ wG, w.before #[Value.ref b] s = true := fun w h => hts0 w (wG_t h)
  have hA : ∀ q : Nat, s.heap.size ≤ q → (fun q : Nat => s.heap.size ≤ q) q := fun _ h => h
  have hA0 : ∀ q : Nat, (fun q : Nat => s.heap.size ≤ q) q → s.heap.size ≤ q := fun _ h => h
  have hn0 : s.heap.size ≤ s.heap.size := Nat.le_refl _
  have hbA : ¬ (fun q : Nat => s.heap.size ≤ q) b := Nat.not_le.mpr hbl
  have hrl0 := rel0 hrl
  refine lv_aload_n hx hb dL_law_274 rfl (lv_at hl 3 rfl) ?_
  have hPc := ap_l hP
  have hDc := ad_l hD
  have hKc := hKx
  have hFc := fr_O hDc hS hA
  obtain ⟨fs9, hrc⟩ := XI_rc hXI
  refine va_calli (va_runV (As := []) (rest := []) ⟨hx, hb, hml, hown, hts⟩ (X_fault l dC dI s.heap.size atx H.size ad ka x0 Gx wx tx  hXI ) (cwV 0 hts (gV (fun w h => id h) wd_938 wd_935 wd_936 wd_937 wd_114) rfl rfl rfl (by decide +kernel) ⟨Nat.le_of_ble_eq_true rfl, Nat.le_of_ble_eq_true rfl⟩) ⟨fun a U g mk q => by obtain ⟨q0, q1, q2, qG, qP, qK, qD⟩ := q; exact ⟨q0, q1, q2, GW.blind qG, qP, va_K.moved (u := U) (U := U.calling g mk a) (Vm.Alike.refl U.vm) qK, qD⟩, va_recv hKc hPc (ci := 11) (q0 := 0) rfl hrc, fun U hU hW => ⟨rfl, by rw [hU], Nat.le_trans hn0 hS.1, GW.go hW hU hG (fun q hq hA9 => hS.2.1 q hq (fun h => hA9 (hA0 q h))), by rw [hU]; exact hPc, va_K.moved hW.alike hKc, hDc.weaken (fun _ _ _ h => hA0 _ h)⟩⟩ rfl rfl hl.1 rfl (lv_room (Nat.le_of_ble_eq_true rfl)) dL_law_275 ⟨(by show _ ≤ (601024 : Nat); omega), (by show _ ≤ (7293034 : Nat); omega)⟩) hS (fun q _ h => hFc q h) hFc (fun r_1 u t H1 locs ht hvm hw_1 hB hz1 hk1 hS => ?_)
  subst hw_1
  obtain ⟨Gx_1, wx_1, tx_1, hIx_1, hrel_1, hP1, hK1, hD1⟩ := hB
  rw [ht] at hP1
  obtain ⟨hP, hD⟩ := jo_l hP hD hk1 hFc hP1 hD1
  have hKx_1 := va_K.moved hvm.symm hK1
  generalize H1 = H at hP hS ⊢
  refine lv_aload_n hx hb dL_law_278 rfl (lv_at hl 2 rfl) ?_
  rcases hMI with hMI | hMI
  · skip
    have hPc := ap_r hP
    have hDc := ad_r hD
    have hKc := hKm
    have hFc := fr_O hDc hS hA
    obtain ⟨fs9, hrc⟩ := MZ_rc hMI
    refine va_calli (va_runV (As := []) (rest := [.int r_1]) ⟨hx, hb, hml, hown, hts⟩ (Z_fault l dC dI s.heap.size atx H.size md mk9 m0 Gm wm tm  hMI ) (cwV 0 hts (gV (fun w h => id h) wd_1857 wd_1854 wd_1855 wd_1856 wd_127) rfl rfl rfl (by decide +kernel) ⟨Nat.le_of_ble_eq_true rfl, Nat.le_of_ble_eq_true rfl⟩) ⟨fun a U g mk q => by obtain ⟨q0, q1, q2, qG, qP, qK, qD⟩ := q; exact ⟨q0, q1, q2, GW.blind qG, qP, va_K.moved (u := U) (U := U.calling g mk a) (Vm.Alike.refl U.vm) qK, qD⟩, va_recv hKc hPc (ci := 14) (q0 := 0) rfl hrc, fun U hU hW => ⟨rfl, by rw [hU], Nat.le_trans hn0 hS.1, GW.go hW hU hG (fun q hq hA9 => hS.2.1 q hq (fun h => hA9 (hA0 q h))), by rw [hU]; exact hPc, va_K.moved hW.alike hKc, hDc.weaken (fun _ _ _ h => hA0 _ h)⟩⟩ rfl rfl hl.1 rfl (lv_room (Nat.le_of_ble_eq_true rfl)) dL_law_279 ⟨(by show _ ≤ (601024 : Nat); omega), (by show _ ≤ (7293034 : Nat); omega)⟩) hS (fun q _ h => hFc q h) hFc (fun r_2 u t H1 locs ht hvm hw_2 hB hz1 hk1 hS => ?_)
    subst hw_2
    obtain ⟨Gm_2, wm_2, tm_2, hIm_2, hrel_2, hP1, hK1, hD1⟩ := hB
    rw [ht] at hP1
    obtain ⟨hP, hD⟩ := jo_r hP hD hk1 hFc hP1 hD1
    have hKm_2 := va_K.moved hvm.symm hK1
    generalize H1 = H at hP hS ⊢
    refine lv_icmp_eq (tgt := 1078) hx hb dL_law_282 (by decide) (fun c_3 => ?_) (fun c_3 => ?_)
    · skip
      refine lv_iinc (v := (nI (i + 6))) (lv' := [(4, .int (nI (i + 6))), (3, .ref (ad 104)), (2, .ref m0), (1, .ref x0), (0, .ref b)]) hx hb dL_law_1078 hl (k := 0) rfl (nI_add _ 6) (by decide) rfl (fun ls hl => ?_)
      refine lv_goto (tgt := 23) hx hb dL_law_1081 (by decide) ?_
      refine W.widen (k := 150 + 23 * (i + 6)) (n := 3000 + 300 * (i + 6)) (by omega) (by omega) ?_
      exact K _ _ _ ⟨by omega, Gx_1, Gm_2, wx_1, wm_2, tx_1, tm_2, hIx_1, (Or.inl hIm_2), (rel_q hrl hrel_1.2.1 hrel_2.2.1 hrel_1.2.2 hrel_2.2.2), hKx_1, hKm_2, hP, hD, hS, lv_sub hl [0, 1, 2, 3, 4] rfl⟩
    · exact absurd (Int32.toInt_inj.mp (hrel_1.1.trans ((rel7 hrl).trans hrel_2.1.symm))) c_3
  · skip
    have hPc := ap_r hP
    have hDc := ad_r hD
    have hKc := hKm
    have hFc := fr_O hDc hS hA
    obtain ⟨fs9, hrc⟩ := MB_rc hMI
    refine va_calli (va_runV (As := []) (rest := [.int r_1]) ⟨hx, hb, hml, hown, hts⟩ (B_fault l dC dI s.heap.size atx H.size md mk9 m0 Gm wm tm  hMI ) (cwV 0 hts (gV (fun w h => id h) wd_1857 wd_1854 wd_1855 wd_1856 wd_127) rfl rfl rfl (by decide +kernel) ⟨Nat.le_of_ble_eq_true rfl, Nat.le_of_ble_eq_true rfl⟩) ⟨fun a U g mk q => by obtain ⟨q0, q1, q2, qG, qP, qK, qD⟩ := q; exact ⟨q0, q1, q2, GW.blind qG, qP, va_K.moved (u := U) (U := U.calling g mk a) (Vm.Alike.refl U.vm) qK, qD⟩, va_recv hKc hPc (ci := 14) (q0 := 0) rfl hrc, fun U hU hW => ⟨rfl, by rw [hU], Nat.le_trans hn0 hS.1, GW.go hW hU hG (fun q hq hA9 => hS.2.1 q hq (fun h => hA9 (hA0 q h))), by rw [hU]; exact hPc, va_K.moved hW.alike hKc, hDc.weaken (fun _ _ _ h => hA0 _ h)⟩⟩ rfl rfl hl.1 rfl (lv_room (Nat.le_of_ble_eq_true rfl)) dL_law_279 ⟨(by show _ ≤ (601024 : Nat); omega), (by show _ ≤ (7293034 : Nat); omega)⟩) hS (fun q _ h => hFc q h) hFc (fun r_4 u t H1 locs ht hvm hw_4 hB hz1 hk1 hS => ?_)
    subst hw_4
    obtain ⟨Gm_4, wm_4, tm_4, hIm_4, hrel_4, hP1, hK1, hD1⟩ := hB
    rw [ht] at hP1
    obtain ⟨hP, hD⟩ := jo_r hP hD hk1 hFc hP1 hD1
    have hKm_4 := va_K.moved hvm.symm hK1
    generalize H1 = H at hP hS ⊢
    refine lv_icmp_eq (tgt := 1078) hx hb dL_law_282 (by decide) (fun c_5 => ?_) (fun c_5 => ?_)
    · skip
      refine lv_iinc (v := (nI (i + 6))) (lv' := [(4, .int (nI (i + 6))), (3, .ref (ad 104)), (2, .ref m0), (1, .ref x0), (0, .ref b)]) hx hb dL_law_1078 hl (k := 0) rfl (nI_add _ 6) (by decide) rfl (fun ls hl => ?_)
      refine lv_goto (tgt := 23) hx hb dL_law_1081 (by decide) ?_
      refine W.widen (k := 150 + 23 * (i + 6)) (n := 3000 + 300 * (i + 6)) (by omega) (by omega) ?_
      exact K _ _ _ ⟨by omega, Gx_1, Gm_4, wx_1, wm_4, tx_1, tm_4, hIx_1, (Or.inr hIm_4), (rel_q hrl hrel_1.2.1 hrel_4.2.1 hrel_1.2.2 hrel_4.2.2), hKx_1, hKm_4, hP, hD, hS, lv_sub hl [0, 1, 2, 3, 4] rfl⟩
    · exact absurd (Int32.toInt_inj.mp (hrel_1.1.trans ((rel7 hrl).trans hrel_4.1.symm))) c_5
set_option maxHeartbeats 4000000 in
set_option maxRecDepth 100000 in
theorem law_3 {p : Program} {l : Launch} {e : Env} {s : State} {m : MethodId} {below : List Frame} {meth : Method} {c : Code} {dC : Nat → ClassId} {dI : Nat → Nat → Nat} {b L : Nat} {xs : Nat → Int32} (hst : l.stackTraces = false) (hL : L ≤ 3072) (C0 : lw_At p s m meth c b L xs) (atx : Nat → Nat × Nat) (hG : GW s.heap.size atx s) (ad : Nat → Nat) (ka : Nat → ClassId) (x0 : Nat) (md : Nat → Nat) (mk9 : Nat → ClassId) (m0 : Nat) (i : Nat) (hi : i + 6 ≤ L) (K : ∀ (H : Heap) (locs : List Loc) (ls : Array Slot), LV dC dI s b L ad ka x0 md mk9 m0 (i + 6) H locs ls → W p l e room_1 s m #[Value.ref b] below meth c H locs (150 + 23 * (i + 6)) (3000 + 300 * (i + 6)) (lw_Z below #[Value.ref b] s) (F0 m 23 ls [])) (H : Heap) (locs : List Loc) (ls : Array Slot) (Gx Gm : Nat → Int) (wx wm : va_W) (tx tm : List (ClassId × FieldType)) (hXI : XI ad ka x0 Gx wx tx) (hMI : MZ md mk9 m0 Gm wm tm ∨ MB md mk9 m0 Gm wm tm) (hrl : REL Gx Gm) (hKx : va_K (dC, dI) classes tx s) (hKm : va_K (dC, dI) classes tm s) (hP : va_P (dC, dI) classes (wx ++ wm) H) (hD : va_D (fun q : Nat => s.heap.size ≤ q) (wx ++ wm)) (hS : va_S (fun q : Nat => s.heap.size ≤ q) s.heap H locs) (hl : lv_has ls 7 [(4, .int (nI i)), (3, .ref (ad 104)), (2, .ref m0), (1, .ref x0), (0, .ref b)]) : W p l e room_1 s m #[Value.ref b] below meth c H locs (150 + 23 * i) (3000 + 300 * i) (lw_Z below #[Value.ref b] s) (F0 m 287 ls []) := by
  obtain ⟨hx, hb, hr, hml, hown, hts0, hX, hbl, hlocks, hgv⟩ := C0
  have hts : ∀ w ∈ wG, w.before #[Value.ref b] s = true := fun w h => hts0 w (wG_t h)
  have hA : ∀ q : Nat, s.heap.size ≤ q → (fun q : Nat => s.heap.size ≤ q) q := fun _ h => h
  have hA0 : ∀ q : Nat, (fun q : Nat => s.heap.size ≤ q) q → s.heap.size ≤ q := fun _ h => h
  have hn0 : s.heap.size ≤ s.heap.size := Nat.le_refl _
  have hbA : ¬ (fun q : Nat => s.heap.size ≤ q) b := Nat.not_le.mpr hbl
  have hrl0 := rel0 hrl
  refine lv_aload_n hx hb dL_law_287 rfl (lv_at hl 3 rfl) ?_
  have hPc := ap_l hP
  have hDc := ad_l hD
  have hKc := hKx
  have hFc := fr_O hDc hS hA
  obtain ⟨fs9, hrc⟩ := XI_rc hXI
  refine va_calli (va_runV (As := []) (rest := []) ⟨hx, hb, hml, hown, hts⟩ (X_where l dC dI s.heap.size atx H.size ad ka x0 Gx wx tx  hXI ) (cwV 0 hts (gV (fun w h => id h) wd_942 wd_939 wd_940 wd_941 wd_114) rfl rfl rfl (by decide +kernel) ⟨Nat.le_of_ble_eq_true rfl, Nat.le_of_ble_eq_true rfl⟩) ⟨fun a U g mk q => by obtain ⟨q0, q1, q2, qG, qP, qK, qD⟩ := q; exact ⟨q0, q1, q2, GW.blind qG, qP, va_K.moved (u := U) (U := U.calling g mk a) (Vm.Alike.refl U.vm) qK, qD⟩, va_recv hKc hPc (ci := 11) (q0 := 0) rfl hrc, fun U hU hW => ⟨rfl, by rw [hU], Nat.le_trans hn0 hS.1, GW.go hW hU hG (fun q hq hA9 => hS.2.1 q hq (fun h => hA9 (hA0 q h))), by rw [hU]; exact hPc, va_K.moved hW.alike hKc, hDc.weaken (fun _ _ _ h => hA0 _ h)⟩⟩ rfl rfl hl.1 rfl (lv_room (Nat.le_of_ble_eq_true rfl)) dL_law_288 ⟨(by show _ ≤ (601024 : Nat); omega), (by show _ ≤ (7293034 : Nat); omega)⟩) hS (fun q _ h => hFc q h) hFc (fun r_1 u t H1 locs ht hvm hw_1 hB hz1 hk1 hS => ?_)
  subst hw_1
  obtain ⟨Gx_1, wx_1, tx_1, hIx_1, hrel_1, hP1, hK1, hD1⟩ := hB
  rw [ht] at hP1
  obtain ⟨hP, hD⟩ := jo_l hP hD hk1 hFc hP1 hD1
  have hKx_1 := va_K.moved hvm.symm hK1
  generalize H1 = H at hP hS ⊢
  refine lv_aload_n hx hb dL_law_291 rfl (lv_at hl 2 rfl) ?_
  rcases hMI with hMI | hMI
  · skip
    have hPc := ap_r hP
    have hDc := ad_r hD
    have hKc := hKm
    have hFc := fr_O hDc hS hA
    obtain ⟨fs9, hrc⟩ := MZ_rc hMI
    refine va_calli (va_runV (As := []) (rest := [.int r_1]) ⟨hx, hb, hml, hown, hts⟩ (Z_where l dC dI s.heap.size atx H.size md mk9 m0 Gm wm tm  hMI ) (cwV 0 hts (gV (fun w h => id h) wd_1861 wd_1858 wd_1859 wd_1860 wd_127) rfl rfl rfl (by decide +kernel) ⟨Nat.le_of_ble_eq_true rfl, Nat.le_of_ble_eq_true rfl⟩) ⟨fun a U g mk q => by obtain ⟨q0, q1, q2, qG, qP, qK, qD⟩ := q; exact ⟨q0, q1, q2, GW.blind qG, qP, va_K.moved (u := U) (U := U.calling g mk a) (Vm.Alike.refl U.vm) qK, qD⟩, va_recv hKc hPc (ci := 14) (q0 := 0) rfl hrc, fun U hU hW => ⟨rfl, by rw [hU], Nat.le_trans hn0 hS.1, GW.go hW hU hG (fun q hq hA9 => hS.2.1 q hq (fun h => hA9 (hA0 q h))), by rw [hU]; exact hPc, va_K.moved hW.alike hKc, hDc.weaken (fun _ _ _ h => hA0 _ h)⟩⟩ rfl rfl hl.1 rfl (lv_room (Nat.le_of_ble_eq_true rfl)) dL_law_292 ⟨(by show _ ≤ (601024 : Nat); omega), (by show _ ≤ (7293034 : Nat); omega)⟩) hS (fun q _ h => hFc q h) hFc (fun r_2 u t H1 locs ht hvm hw_2 hB hz1 hk1 hS => ?_)
    subst hw_2
    obtain ⟨Gm_2, wm_2, tm_2, hIm_2, hrel_2, hP1, hK1, hD1⟩ := hB
    rw [ht] at hP1
    obtain ⟨hP, hD⟩ := jo_r hP hD hk1 hFc hP1 hD1
    have hKm_2 := va_K.moved hvm.symm hK1
    generalize H1 = H at hP hS ⊢
    refine lv_icmp_eq (tgt := 1078) hx hb dL_law_295 (by decide) (fun c_3 => ?_) (fun c_3 => ?_)
    · skip
      refine lv_iinc (v := (nI (i + 6))) (lv' := [(4, .int (nI (i + 6))), (3, .ref (ad 104)), (2, .ref m0), (1, .ref x0), (0, .ref b)]) hx hb dL_law_1078 hl (k := 0) rfl (nI_add _ 6) (by decide) rfl (fun ls hl => ?_)
      refine lv_goto (tgt := 23) hx hb dL_law_1081 (by decide) ?_
      refine W.widen (k := 150 + 23 * (i + 6)) (n := 3000 + 300 * (i + 6)) (by omega) (by omega) ?_
      exact K _ _ _ ⟨by omega, Gx_1, Gm_2, wx_1, wm_2, tx_1, tm_2, hIx_1, (Or.inl hIm_2), (rel_q hrl hrel_1.2.1 hrel_2.2.1 hrel_1.2.2 hrel_2.2.2), hKx_1, hKm_2, hP, hD, hS, lv_sub hl [0, 1, 2, 3, 4] rfl⟩
    · exact absurd (Int32.toInt_inj.mp (hrel_1.1.trans ((rel8 hrl).symm.trans hrel_2.1.symm))) c_3
  · skip
    have hPc := ap_r hP
    have hDc := ad_r hD
    have hKc := hKm
    have hFc := fr_O hDc hS hA
    obtain ⟨fs9, hrc⟩ := MB_rc hMI
    refine va_calli (va_runV (As := []) (rest := [.int r_1]) ⟨hx, hb, hml, hown, hts⟩ (B_where l dC dI s.heap.size atx H.size md mk9 m0 Gm wm tm  hMI ) (cwV 0 hts (gV (fun w h => id h) wd_1861 wd_1858 wd_1859 wd_1860 wd_127) rfl rfl rfl (by decide +kernel) ⟨Nat.le_of_ble_eq_true rfl, Nat.le_of_ble_eq_true rfl⟩) ⟨fun a U g mk q => by obtain ⟨q0, q1, q2, qG, qP, qK, qD⟩ := q; exact ⟨q0, q1, q2, GW.blind qG, qP, va_K.moved (u := U) (U := U.calling g mk a) (Vm.Alike.refl U.vm) qK, qD⟩, va_recv hKc hPc (ci := 14) (q0 := 0) rfl hrc, fun U hU hW => ⟨rfl, by rw [hU], Nat.le_trans hn0 hS.1, GW.go hW hU hG (fun q hq hA9 => hS.2.1 q hq (fun h => hA9 (hA0 q h))), by rw [hU]; exact hPc, va_K.moved hW.alike hKc, hDc.weaken (fun _ _ _ h => hA0 _ h)⟩⟩ rfl rfl hl.1 rfl (lv_room (Nat.le_of_ble_eq_true rfl)) dL_law_292 ⟨(by show _ ≤ (601024 : Nat); omega), (by show _ ≤ (7293034 : Nat); omega)⟩) hS (fun q _ h => hFc q h) hFc (fun r_4 u t H1 locs ht hvm hw_4 hB hz1 hk1 hS => ?_)
    subst hw_4
    obtain ⟨Gm_4, wm_4, tm_4, hIm_4, hrel_4, hP1, hK1, hD1⟩ := hB
    rw [ht] at hP1
    obtain ⟨hP, hD⟩ := jo_r hP hD hk1 hFc hP1 hD1
    have hKm_4 := va_K.moved hvm.symm hK1
    generalize H1 = H at hP hS ⊢
    refine lv_icmp_eq (tgt := 1078) hx hb dL_law_295 (by decide) (fun c_5 => ?_) (fun c_5 => ?_)
    · skip
      refine lv_iinc (v := (nI (i + 6))) (lv' := [(4, .int (nI (i + 6))), (3, .ref (ad 104)), (2, .ref m0), (1, .ref x0), (0, .ref b)]) hx hb dL_law_1078 hl (k := 0) rfl (nI_add _ 6) (by decide) rfl (fun ls hl => ?_)
      refine lv_goto (tgt := 23) hx hb dL_law_1081 (by decide) ?_
      refine W.widen (k := 150 + 23 * (i + 6)) (n := 3000 + 300 * (i + 6)) (by omega) (by omega) ?_
      exact K _ _ _ ⟨by omega, Gx_1, Gm_4, wx_1, wm_4, tx_1, tm_4, hIx_1, (Or.inr hIm_4), (rel_q hrl hrel_1.2.1 hrel_4.2.1 hrel_1.2.2 hrel_4.2.2), hKx_1, hKm_4, hP, hD, hS, lv_sub hl [0, 1, 2, 3, 4] rfl⟩
    · exact absurd (Int32.toInt_inj.mp (hrel_1.1.trans ((rel8 hrl).symm.trans hrel_4.1.symm))) c_5
set_option maxHeartbeats 4000000 in
set_option maxRecDepth 100000 in
theorem law_6 {p : Program} {l : Launch} {e : Env} {s : State} {m : MethodId} {below : List Frame} {meth : Method} {c : Code} {dC : Nat → ClassId} {dI : Nat → Nat → Nat} {b L : Nat} {xs : Nat → Int32} (hst : l.stackTraces = false) (hL : L ≤ 3072) (C0 : lw_At p s m meth c b L xs) (atx : Nat → Nat × Nat) (hG : GW s.heap.size atx s) (ad : Nat → Nat) (ka : Nat → ClassId) (x0 : Nat) (md : Nat → Nat) (mk9 : Nat → ClassId) (m0 : Nat) (i : Nat) (hi : i + 6 ≤ L) (K : ∀ (H : Heap) (locs : List Loc) (ls : Array Slot), LV dC dI s b L ad ka x0 md mk9 m0 (i + 6) H locs ls → W p l e room_1 s m #[Value.ref b] below meth c H locs (150 + 23 * (i + 6)) (3000 + 300 * (i + 6)) (lw_Z below #[Value.ref b] s) (F0 m 23 ls [])) (H : Heap) (locs : List Loc) (ls : Array Slot) (Gx Gm : Nat → Int) (wx wm : va_W) (tx tm : List (ClassId × FieldType)) (hXI : XI ad ka x0 Gx wx tx) (hMI : MZ md mk9 m0 Gm wm tm ∨ MB md mk9 m0 Gm wm tm) (hrl : REL Gx Gm) (hKx : va_K (dC, dI) classes tx s) (hKm : va_K (dC, dI) classes tm s) (hP : va_P (dC, dI) classes (wx ++ wm) H) (hD : va_D (fun q : Nat => s.heap.size ≤ q) (wx ++ wm)) (hS : va_S (fun q : Nat => s.heap.size ≤ q) s.heap H locs) (hl : lv_has ls 7 [(4, .int (nI i)), (3, .ref (ad 104)), (2, .ref m0), (1, .ref x0), (0, .ref b)]) : W p l e room_1 s m #[Value.ref b] below meth c H locs (150 + 23 * i) (3000 + 300 * i) (lw_Z below #[Value.ref b] s) (F0 m 390 ls []) := by
  obtain ⟨hx, hb, hr, hml, hown, hts0, hX, hbl, hlocks, hgv⟩ := C0
  have hts : ∀ w ∈ wG, w.before #[Value.ref b] s = true := fun w h => hts0 w (wG_t h)
  have hA : ∀ q : Nat, s.heap.size ≤ q → (fun q : Nat => s.heap.size ≤ q) q := fun _ h => h
  have hA0 : ∀ q : Nat, (fun q : Nat => s.heap.size ≤ q) q → s.heap.size ≤ q := fun _ h => h
  have hn0 : s.heap.size ≤ s.heap.size := Nat.le_refl _
  have hbA : ¬ (fun q : Nat => s.heap.size ≤ q) b := Nat.not_le.mpr hbl
  have hrl0 := rel0 hrl
  refine lv_aload_n hx hb dL_law_390 rfl (lv_at hl 3 rfl) ?_
  refine lv_aload_n hx hb dL_law_391 rfl (lv_at hl 4 rfl) ?_
  refine lv_iload hx hb dL_law_392 (lv_at hl 0 rfl) ?_
  refine lv_iconst (v := 1) hx hb dL_law_394 (by decide) ?_
  refine lv_iadd hx hb dL_law_395 ?_
  refine lv_topi (fun v_1 ev_1 => ?_)
  obtain rfl : v_1 = nI (i + 1) := ev_1.trans (nI_add i 1)
  refine va_sld hx hb hX hbl hbA hS (vp_in_nI (n := (i + 1)) (by omega) (by omega)) dL_law_396 ?_
  refine lv_topi (fun v_2 ev_2 => ?_)
  refine lv_aload_n hx hb dL_law_397 rfl (lv_at hl 4 rfl) ?_
  refine lv_iload hx hb dL_law_398 (lv_at hl 0 rfl) ?_
  refine lv_iconst (v := 2) hx hb dL_law_400 (by decide) ?_
  refine lv_iadd hx hb dL_law_401 ?_
  refine lv_topi (fun v_3 ev_3 => ?_)
  obtain rfl : v_3 = nI (i + 2) := ev_3.trans (nI_add i 2)
  refine va_sld hx hb hX hbl hbA hS (vp_in_nI (n := (i + 2)) (by omega) (by omega)) dL_law_402 ?_
  refine lv_topi (fun v_4 ev_4 => ?_)
  have hPc := ap_l hP
  have hDc := ad_l hD
  have hKc := hKx
  have hFc := fr_O hDc hS hA
  obtain ⟨fs9, hrc⟩ := XI_rc hXI
  refine va_calli (va_runV (As := [.int v_2, .int v_4]) (rest := []) ⟨hx, hb, hml, hown, hts⟩ (X_speed l dC dI s.heap.size atx H.size ad ka x0 Gx wx tx v_2 v_4 hXI ) (cwV 2 hts (gV (fun w h => id h) wd_978 wd_975 wd_976 wd_977 wd_114) rfl rfl rfl (by decide +kernel) ⟨Nat.le_of_ble_eq_true rfl, Nat.le_of_ble_eq_true rfl⟩) ⟨fun a U g mk q => by obtain ⟨q0, q1, q2, qG, qP, qK, qD⟩ := q; exact ⟨q0, q1, q2, GW.blind qG, qP, va_K.moved (u := U) (U := U.calling g mk a) (Vm.Alike.refl U.vm) qK, qD⟩, va_recv hKc hPc (ci := 11) (q0 := 0) rfl hrc, fun U hU hW => ⟨rfl, by rw [hU], Nat.le_trans hn0 hS.1, GW.go hW hU hG (fun q hq hA9 => hS.2.1 q hq (fun h => hA9 (hA0 q h))), by rw [hU]; exact hPc, va_K.moved hW.alike hKc, hDc.weaken (fun _ _ _ h => hA0 _ h)⟩⟩ rfl rfl hl.1 rfl (lv_room (Nat.le_of_ble_eq_true rfl)) dL_law_403 ⟨(by show _ ≤ (601024 : Nat); omega), (by show _ ≤ (7293034 : Nat); omega)⟩) hS (fun q _ h => hFc q h) hFc (fun r_5 u t H1 locs ht hvm hw_5 hB hz1 hk1 hS => ?_)
  subst hw_5
  obtain ⟨Gx_5, wx_5, tx_5, hIx_5, hrel_5, hP1, hK1, hD1⟩ := hB
  rw [ht] at hP1
  obtain ⟨hP, hD⟩ := jo_l hP hD hk1 hFc hP1 hD1
  have hKx_5 := va_K.moved hvm.symm hK1
  generalize H1 = H at hP hS ⊢
  refine lv_aload_n hx hb dL_law_406 rfl (lv_at hl 2 rfl) ?_
  refine lv_aload_n hx hb dL_law_407 rfl (lv_at hl 4 rfl) ?_
  refine lv_iload hx hb dL_law_408 (lv_at hl 0 rfl) ?_
  refine lv_iconst (v := 1) hx hb dL_law_410 (by decide) ?_
  refine lv_iadd hx hb dL_law_411 ?_
  refine lv_topi (fun v_6 ev_6 => ?_)
  obtain rfl : v_6 = nI (i + 1) := ev_6.trans (nI_add i 1)
  refine va_sld hx hb hX hbl hbA hS (vp_in_nI (n := (i + 1)) (by omega) (by omega)) dL_law_412 ?_
  refine lv_topi (fun v_7 ev_7 => ?_)
  obtain rfl : v_2 = v_7 := (ev_7.trans ev_2.symm).symm
  refine lv_aload_n hx hb dL_law_413 rfl (lv_at hl 4 rfl) ?_
  refine lv_iload hx hb dL_law_414 (lv_at hl 0 rfl) ?_
  refine lv_iconst (v := 2) hx hb dL_law_416 (by decide) ?_
  refine lv_iadd hx hb dL_law_417 ?_
  refine lv_topi (fun v_8 ev_8 => ?_)
  obtain rfl : v_8 = nI (i + 2) := ev_8.trans (nI_add i 2)
  refine va_sld hx hb hX hbl hbA hS (vp_in_nI (n := (i + 2)) (by omega) (by omega)) dL_law_418 ?_
  refine lv_topi (fun v_9 ev_9 => ?_)
  obtain rfl : v_4 = v_9 := (ev_9.trans ev_4.symm).symm
  rcases hMI with hMI | hMI
  · skip
    have hPc := ap_r hP
    have hDc := ad_r hD
    have hKc := hKm
    have hFc := fr_O hDc hS hA
    obtain ⟨fs9, hrc⟩ := MZ_rc hMI
    refine va_calli (va_runV (As := [.int v_2, .int v_4]) (rest := [.int r_5]) ⟨hx, hb, hml, hown, hts⟩ (Z_speed l dC dI s.heap.size atx H.size md mk9 m0 Gm wm tm v_2 v_4 hMI ) (cwV 2 hts (gV (fun w h => id h) wd_1894 wd_1891 wd_1892 wd_1893 wd_127) rfl rfl rfl (by decide +kernel) ⟨Nat.le_of_ble_eq_true rfl, Nat.le_of_ble_eq_true rfl⟩) ⟨fun a U g mk q => by obtain ⟨q0, q1, q2, qG, qP, qK, qD⟩ := q; exact ⟨q0, q1, q2, GW.blind qG, qP, va_K.moved (u := U) (U := U.calling g mk a) (Vm.Alike.refl U.vm) qK, qD⟩, va_recv hKc hPc (ci := 14) (q0 := 0) rfl hrc, fun U hU hW => ⟨rfl, by rw [hU], Nat.le_trans hn0 hS.1, GW.go hW hU hG (fun q hq hA9 => hS.2.1 q hq (fun h => hA9 (hA0 q h))), by rw [hU]; exact hPc, va_K.moved hW.alike hKc, hDc.weaken (fun _ _ _ h => hA0 _ h)⟩⟩ rfl rfl hl.1 rfl (lv_room (Nat.le_of_ble_eq_true rfl)) dL_law_419 ⟨(by show _ ≤ (601024 : Nat); omega), (by show _ ≤ (7293034 : Nat); omega)⟩) hS (fun q _ h => hFc q h) hFc (fun r_10 u t H1 locs ht hvm hw_10 hB hz1 hk1 hS => ?_)
    subst hw_10
    obtain ⟨Gm_10, wm_10, tm_10, hIm_10, hrel_10, hP1, hK1, hD1⟩ := hB
    rw [ht] at hP1
    obtain ⟨hP, hD⟩ := jo_r hP hD hk1 hFc hP1 hD1
    have hKm_10 := va_K.moved hvm.symm hK1
    generalize H1 = H at hP hS ⊢
    refine lv_icmp_eq (tgt := 1078) hx hb dL_law_422 (by decide) (fun c_11 => ?_) (fun c_11 => ?_)
    · skip
      refine lv_iinc (v := (nI (i + 6))) (lv' := [(4, .int (nI (i + 6))), (3, .ref (ad 104)), (2, .ref m0), (1, .ref x0), (0, .ref b)]) hx hb dL_law_1078 hl (k := 0) rfl (nI_add _ 6) (by decide) rfl (fun ls hl => ?_)
      refine lv_goto (tgt := 23) hx hb dL_law_1081 (by decide) ?_
      refine W.widen (k := 150 + 23 * (i + 6)) (n := 3000 + 300 * (i + 6)) (by omega) (by omega) ?_
      exact K _ _ _ ⟨by omega, Gx_5, Gm_10, wx_5, wm_10, tx_5, tm_10, hIx_5, (Or.inl hIm_10), (rel_l hrl hrel_5.2.1 hrel_10.2.1 hrel_5.2.2 hrel_10.2.2), hKx_5, hKm_10, hP, hD, hS, lv_sub hl [0, 1, 2, 3, 4] rfl⟩
    · exact absurd (by rw [hrel_5.1, hrel_10.1, rel3 hrl]) c_11
  · skip
    have hPc := ap_r hP
    have hDc := ad_r hD
    have hKc := hKm
    have hFc := fr_O hDc hS hA
    obtain ⟨fs9, hrc⟩ := MB_rc hMI
    refine va_calli (va_runV (As := [.int v_2, .int v_4]) (rest := [.int r_5]) ⟨hx, hb, hml, hown, hts⟩ (B_speed l dC dI s.heap.size atx H.size md mk9 m0 Gm wm tm v_2 v_4 hMI ) (cwV 2 hts (gV (fun w h => id h) wd_1894 wd_1891 wd_1892 wd_1893 wd_127) rfl rfl rfl (by decide +kernel) ⟨Nat.le_of_ble_eq_true rfl, Nat.le_of_ble_eq_true rfl⟩) ⟨fun a U g mk q => by obtain ⟨q0, q1, q2, qG, qP, qK, qD⟩ := q; exact ⟨q0, q1, q2, GW.blind qG, qP, va_K.moved (u := U) (U := U.calling g mk a) (Vm.Alike.refl U.vm) qK, qD⟩, va_recv hKc hPc (ci := 14) (q0 := 0) rfl hrc, fun U hU hW => ⟨rfl, by rw [hU], Nat.le_trans hn0 hS.1, GW.go hW hU hG (fun q hq hA9 => hS.2.1 q hq (fun h => hA9 (hA0 q h))), by rw [hU]; exact hPc, va_K.moved hW.alike hKc, hDc.weaken (fun _ _ _ h => hA0 _ h)⟩⟩ rfl rfl hl.1 rfl (lv_room (Nat.le_of_ble_eq_true rfl)) dL_law_419 ⟨(by show _ ≤ (601024 : Nat); omega), (by show _ ≤ (7293034 : Nat); omega)⟩) hS (fun q _ h => hFc q h) hFc (fun r_12 u t H1 locs ht hvm hw_12 hB hz1 hk1 hS => ?_)
    subst hw_12
    obtain ⟨Gm_12, wm_12, tm_12, hIm_12, hrel_12, hP1, hK1, hD1⟩ := hB
    rw [ht] at hP1
    obtain ⟨hP, hD⟩ := jo_r hP hD hk1 hFc hP1 hD1
    have hKm_12 := va_K.moved hvm.symm hK1
    generalize H1 = H at hP hS ⊢
    refine lv_icmp_eq (tgt := 1078) hx hb dL_law_422 (by decide) (fun c_13 => ?_) (fun c_13 => ?_)
    · skip
      refine lv_iinc (v := (nI (i + 6))) (lv' := [(4, .int (nI (i + 6))), (3, .ref (ad 104)), (2, .ref m0), (1, .ref x0), (0, .ref b)]) hx hb dL_law_1078 hl (k := 0) rfl (nI_add _ 6) (by decide) rfl (fun ls hl => ?_)
      refine lv_goto (tgt := 23) hx hb dL_law_1081 (by decide) ?_
      refine W.widen (k := 150 + 23 * (i + 6)) (n := 3000 + 300 * (i + 6)) (by omega) (by omega) ?_
      exact K _ _ _ ⟨by omega, Gx_5, Gm_12, wx_5, wm_12, tx_5, tm_12, hIx_5, (Or.inr hIm_12), (rel_l hrl hrel_5.2.1 hrel_12.2.1 hrel_5.2.2 hrel_12.2.2), hKx_5, hKm_12, hP, hD, hS, lv_sub hl [0, 1, 2, 3, 4] rfl⟩
    · exact absurd (by rw [hrel_5.1, hrel_12.1, rel3 hrl]) c_13
set_option maxHeartbeats 4000000 in
set_option maxRecDepth 100000 in
theorem law_8 {p : Program} {l : Launch} {e : Env} {s : State} {m : MethodId} {below : List Frame} {meth : Method} {c : Code} {dC : Nat → ClassId} {dI : Nat → Nat → Nat} {b L : Nat} {xs : Nat → Int32} (hst : l.stackTraces = false) (hL : L ≤ 3072) (C0 : lw_At p s m meth c b L xs) (atx : Nat → Nat × Nat) (hG : GW s.heap.size atx s) (ad : Nat → Nat) (ka : Nat → ClassId) (x0 : Nat) (md : Nat → Nat) (mk9 : Nat → ClassId) (m0 : Nat) (i : Nat) (hi : i + 6 ≤ L) (K : ∀ (H : Heap) (locs : List Loc) (ls : Array Slot), LV dC dI s b L ad ka x0 md mk9 m0 (i + 6) H locs ls → W p l e room_1 s m #[Value.ref b] below meth c H locs (150 + 23 * (i + 6)) (3000 + 300 * (i + 6)) (lw_Z below #[Value.ref b] s) (F0 m 23 ls [])) (H : Heap) (locs : List Loc) (ls : Array Slot) (Gx Gm : Nat → Int) (wx wm : va_W) (tx tm : List (ClassId × FieldType)) (hXI : XI ad ka x0 Gx wx tx) (hMI : MZ md mk9 m0 Gm wm tm ∨ MB md mk9 m0 Gm wm tm) (hrl : REL Gx Gm) (hKx : va_K (dC, dI) classes tx s) (hKm : va_K (dC, dI) classes tm s) (hP : va_P (dC, dI) classes (wx ++ wm) H) (hD : va_D (fun q : Nat => s.heap.size ≤ q) (wx ++ wm)) (hS : va_S (fun q : Nat => s.heap.size ≤ q) s.heap H locs) (hl : lv_has ls 7 [(4, .int (nI i)), (3, .ref (ad 104)), (2, .ref m0), (1, .ref x0), (0, .ref b)]) : W p l e room_1 s m #[Value.ref b] below meth c H locs (150 + 23 * i) (3000 + 300 * i) (lw_Z below #[Value.ref b] s) (F0 m 480 ls []) := by
  obtain ⟨hx, hb, hr, hml, hown, hts0, hX, hbl, hlocks, hgv⟩ := C0
  have hts : ∀ w ∈ wG, w.before #[Value.ref b] s = true := fun w h => hts0 w (wG_t h)
  have hA : ∀ q : Nat, s.heap.size ≤ q → (fun q : Nat => s.heap.size ≤ q) q := fun _ h => h
  have hA0 : ∀ q : Nat, (fun q : Nat => s.heap.size ≤ q) q → s.heap.size ≤ q := fun _ h => h
  have hn0 : s.heap.size ≤ s.heap.size := Nat.le_refl _
  have hbA : ¬ (fun q : Nat => s.heap.size ≤ q) b := Nat.not_le.mpr hbl
  have hrl0 := rel0 hrl
  refine lv_aload_n hx hb dL_law_480 rfl (lv_at hl 3 rfl) ?_
  refine lv_aload_n hx hb dL_law_481 rfl (lv_at hl 4 rfl) ?_
  refine lv_iload hx hb dL_law_482 (lv_at hl 0 rfl) ?_
  refine lv_iconst (v := 1) hx hb dL_law_484 (by decide) ?_
  refine lv_iadd hx hb dL_law_485 ?_
  refine lv_topi (fun v_1 ev_1 => ?_)
  obtain rfl : v_1 = nI (i + 1) := ev_1.trans (nI_add i 1)
  refine va_sld hx hb hX hbl hbA hS (vp_in_nI (n := (i + 1)) (by omega) (by omega)) dL_law_486 ?_
  refine lv_topi (fun v_2 ev_2 => ?_)
  refine lv_aload_n hx hb dL_law_487 rfl (lv_at hl 4 rfl) ?_
  refine lv_iload hx hb dL_law_488 (lv_at hl 0 rfl) ?_
  refine lv_iconst (v := 2) hx hb dL_law_490 (by decide) ?_
  refine lv_iadd hx hb dL_law_491 ?_
  refine lv_topi (fun v_3 ev_3 => ?_)
  obtain rfl : v_3 = nI (i + 2) := ev_3.trans (nI_add i 2)
  refine va_sld hx hb hX hbl hbA hS (vp_in_nI (n := (i + 2)) (by omega) (by omega)) dL_law_492 ?_
  refine lv_topi (fun v_4 ev_4 => ?_)
  have hPc := ap_l hP
  have hDc := ad_l hD
  have hKc := hKx
  have hFc := fr_O hDc hS hA
  obtain ⟨fs9, hrc⟩ := XI_rc hXI
  refine va_calli (va_runV (As := [.int v_2, .int v_4]) (rest := []) ⟨hx, hb, hml, hown, hts⟩ (X_fire l dC dI s.heap.size atx H.size ad ka x0 Gx wx tx v_2 v_4 hXI ) (cwV 2 hts (gV (fun w h => id h) wd_993 wd_990 wd_991 wd_992 wd_114) rfl rfl rfl (by decide +kernel) ⟨Nat.le_of_ble_eq_true rfl, Nat.le_of_ble_eq_true rfl⟩) ⟨fun a U g mk q => by obtain ⟨q0, q1, q2, qG, qP, qK, qD⟩ := q; exact ⟨q0, q1, q2, GW.blind qG, qP, va_K.moved (u := U) (U := U.calling g mk a) (Vm.Alike.refl U.vm) qK, qD⟩, va_recv hKc hPc (ci := 11) (q0 := 0) rfl hrc, fun U hU hW => ⟨rfl, by rw [hU], Nat.le_trans hn0 hS.1, GW.go hW hU hG (fun q hq hA9 => hS.2.1 q hq (fun h => hA9 (hA0 q h))), by rw [hU]; exact hPc, va_K.moved hW.alike hKc, hDc.weaken (fun _ _ _ h => hA0 _ h)⟩⟩ rfl rfl hl.1 rfl (lv_room (Nat.le_of_ble_eq_true rfl)) dL_law_493 ⟨(by show _ ≤ (601024 : Nat); omega), (by show _ ≤ (7293034 : Nat); omega)⟩) hS (fun q _ h => hFc q h) hFc (fun r_5 u t H1 locs ht hvm hw_5 hB hz1 hk1 hS => ?_)
  subst hw_5
  obtain ⟨Gx_5, wx_5, tx_5, hIx_5, hrel_5, hP1, hK1, hD1⟩ := hB
  rw [ht] at hP1
  obtain ⟨hP, hD⟩ := jo_l hP hD hk1 hFc hP1 hD1
  have hKx_5 := va_K.moved hvm.symm hK1
  generalize H1 = H at hP hS ⊢
  refine lv_aload_n hx hb dL_law_496 rfl (lv_at hl 2 rfl) ?_
  refine lv_aload_n hx hb dL_law_497 rfl (lv_at hl 4 rfl) ?_
  refine lv_iload hx hb dL_law_498 (lv_at hl 0 rfl) ?_
  refine lv_iconst (v := 1) hx hb dL_law_500 (by decide) ?_
  refine lv_iadd hx hb dL_law_501 ?_
  refine lv_topi (fun v_6 ev_6 => ?_)
  obtain rfl : v_6 = nI (i + 1) := ev_6.trans (nI_add i 1)
  refine va_sld hx hb hX hbl hbA hS (vp_in_nI (n := (i + 1)) (by omega) (by omega)) dL_law_502 ?_
  refine lv_topi (fun v_7 ev_7 => ?_)
  obtain rfl : v_2 = v_7 := (ev_7.trans ev_2.symm).symm
  refine lv_aload_n hx hb dL_law_503 rfl (lv_at hl 4 rfl) ?_
  refine lv_iload hx hb dL_law_504 (lv_at hl 0 rfl) ?_
  refine lv_iconst (v := 2) hx hb dL_law_506 (by decide) ?_
  refine lv_iadd hx hb dL_law_507 ?_
  refine lv_topi (fun v_8 ev_8 => ?_)
  obtain rfl : v_8 = nI (i + 2) := ev_8.trans (nI_add i 2)
  refine va_sld hx hb hX hbl hbA hS (vp_in_nI (n := (i + 2)) (by omega) (by omega)) dL_law_508 ?_
  refine lv_topi (fun v_9 ev_9 => ?_)
  obtain rfl : v_4 = v_9 := (ev_9.trans ev_4.symm).symm
  rcases hMI with hMI | hMI
  · skip
    have hPc := ap_r hP
    have hDc := ad_r hD
    have hKc := hKm
    have hFc := fr_O hDc hS hA
    obtain ⟨fs9, hrc⟩ := MZ_rc hMI
    refine va_calli (va_runV (As := [.int v_2, .int v_4]) (rest := [.int r_5]) ⟨hx, hb, hml, hown, hts⟩ (Z_fire l dC dI s.heap.size atx H.size md mk9 m0 Gm wm tm v_2 v_4 hMI ) (cwV 2 hts (gV (fun w h => id h) wd_1906 wd_1903 wd_1904 wd_1905 wd_127) rfl rfl rfl (by decide +kernel) ⟨Nat.le_of_ble_eq_true rfl, Nat.le_of_ble_eq_true rfl⟩) ⟨fun a U g mk q => by obtain ⟨q0, q1, q2, qG, qP, qK, qD⟩ := q; exact ⟨q0, q1, q2, GW.blind qG, qP, va_K.moved (u := U) (U := U.calling g mk a) (Vm.Alike.refl U.vm) qK, qD⟩, va_recv hKc hPc (ci := 14) (q0 := 0) rfl hrc, fun U hU hW => ⟨rfl, by rw [hU], Nat.le_trans hn0 hS.1, GW.go hW hU hG (fun q hq hA9 => hS.2.1 q hq (fun h => hA9 (hA0 q h))), by rw [hU]; exact hPc, va_K.moved hW.alike hKc, hDc.weaken (fun _ _ _ h => hA0 _ h)⟩⟩ rfl rfl hl.1 rfl (lv_room (Nat.le_of_ble_eq_true rfl)) dL_law_509 ⟨(by show _ ≤ (601024 : Nat); omega), (by show _ ≤ (7293034 : Nat); omega)⟩) hS (fun q _ h => hFc q h) hFc (fun r_10 u t H1 locs ht hvm hw_10 hB hz1 hk1 hS => ?_)
    subst hw_10
    obtain ⟨Gm_10, wm_10, tm_10, hIm_10, hrel_10, hP1, hK1, hD1⟩ := hB
    rw [ht] at hP1
    obtain ⟨hP, hD⟩ := jo_r hP hD hk1 hFc hP1 hD1
    have hKm_10 := va_K.moved hvm.symm hK1
    generalize H1 = H at hP hS ⊢
    refine lv_icmp_eq (tgt := 1078) hx hb dL_law_512 (by decide) (fun c_11 => ?_) (fun c_11 => ?_)
    · skip
      refine lv_iinc (v := (nI (i + 6))) (lv' := [(4, .int (nI (i + 6))), (3, .ref (ad 104)), (2, .ref m0), (1, .ref x0), (0, .ref b)]) hx hb dL_law_1078 hl (k := 0) rfl (nI_add _ 6) (by decide) rfl (fun ls hl => ?_)
      refine lv_goto (tgt := 23) hx hb dL_law_1081 (by decide) ?_
      refine W.widen (k := 150 + 23 * (i + 6)) (n := 3000 + 300 * (i + 6)) (by omega) (by omega) ?_
      exact K _ _ _ ⟨by omega, Gx_5, Gm_10, wx_5, wm_10, tx_5, tm_10, hIx_5, (Or.inl hIm_10), (rel_l hrl hrel_5.2.1 hrel_10.2.1 hrel_5.2.2 hrel_10.2.2), hKx_5, hKm_10, hP, hD, hS, lv_sub hl [0, 1, 2, 3, 4] rfl⟩
    · exact absurd (by rw [hrel_5.1, hrel_10.1, rel1 hrl]) c_11
  · skip
    have hPc := ap_r hP
    have hDc := ad_r hD
    have hKc := hKm
    have hFc := fr_O hDc hS hA
    obtain ⟨fs9, hrc⟩ := MB_rc hMI
    refine va_calli (va_runV (As := [.int v_2, .int v_4]) (rest := [.int r_5]) ⟨hx, hb, hml, hown, hts⟩ (B_fire l dC dI s.heap.size atx H.size md mk9 m0 Gm wm tm v_2 v_4 hMI ) (cwV 2 hts (gV (fun w h => id h) wd_1906 wd_1903 wd_1904 wd_1905 wd_127) rfl rfl rfl (by decide +kernel) ⟨Nat.le_of_ble_eq_true rfl, Nat.le_of_ble_eq_true rfl⟩) ⟨fun a U g mk q => by obtain ⟨q0, q1, q2, qG, qP, qK, qD⟩ := q; exact ⟨q0, q1, q2, GW.blind qG, qP, va_K.moved (u := U) (U := U.calling g mk a) (Vm.Alike.refl U.vm) qK, qD⟩, va_recv hKc hPc (ci := 14) (q0 := 0) rfl hrc, fun U hU hW => ⟨rfl, by rw [hU], Nat.le_trans hn0 hS.1, GW.go hW hU hG (fun q hq hA9 => hS.2.1 q hq (fun h => hA9 (hA0 q h))), by rw [hU]; exact hPc, va_K.moved hW.alike hKc, hDc.weaken (fun _ _ _ h => hA0 _ h)⟩⟩ rfl rfl hl.1 rfl (lv_room (Nat.le_of_ble_eq_true rfl)) dL_law_509 ⟨(by show _ ≤ (601024 : Nat); omega), (by show _ ≤ (7293034 : Nat); omega)⟩) hS (fun q _ h => hFc q h) hFc (fun r_12 u t H1 locs ht hvm hw_12 hB hz1 hk1 hS => ?_)
    subst hw_12
    obtain ⟨Gm_12, wm_12, tm_12, hIm_12, hrel_12, hP1, hK1, hD1⟩ := hB
    rw [ht] at hP1
    obtain ⟨hP, hD⟩ := jo_r hP hD hk1 hFc hP1 hD1
    have hKm_12 := va_K.moved hvm.symm hK1
    generalize H1 = H at hP hS ⊢
    refine lv_icmp_eq (tgt := 1078) hx hb dL_law_512 (by decide) (fun c_13 => ?_) (fun c_13 => ?_)
    · skip
      refine lv_iinc (v := (nI (i + 6))) (lv' := [(4, .int (nI (i + 6))), (3, .ref (ad 104)), (2, .ref m0), (1, .ref x0), (0, .ref b)]) hx hb dL_law_1078 hl (k := 0) rfl (nI_add _ 6) (by decide) rfl (fun ls hl => ?_)
      refine lv_goto (tgt := 23) hx hb dL_law_1081 (by decide) ?_
      refine W.widen (k := 150 + 23 * (i + 6)) (n := 3000 + 300 * (i + 6)) (by omega) (by omega) ?_
      exact K _ _ _ ⟨by omega, Gx_5, Gm_12, wx_5, wm_12, tx_5, tm_12, hIx_5, (Or.inr hIm_12), (rel_l hrl hrel_5.2.1 hrel_12.2.1 hrel_5.2.2 hrel_12.2.2), hKx_5, hKm_12, hP, hD, hS, lv_sub hl [0, 1, 2, 3, 4] rfl⟩
    · exact absurd (by rw [hrel_5.1, hrel_12.1, rel1 hrl]) c_13
set_option maxHeartbeats 4000000 in
set_option maxRecDepth 100000 in
theorem law_9 {p : Program} {l : Launch} {e : Env} {s : State} {m : MethodId} {below : List Frame} {meth : Method} {c : Code} {dC : Nat → ClassId} {dI : Nat → Nat → Nat} {b L : Nat} {xs : Nat → Int32} (hst : l.stackTraces = false) (hL : L ≤ 3072) (C0 : lw_At p s m meth c b L xs) (atx : Nat → Nat × Nat) (hG : GW s.heap.size atx s) (ad : Nat → Nat) (ka : Nat → ClassId) (x0 : Nat) (md : Nat → Nat) (mk9 : Nat → ClassId) (m0 : Nat) (i : Nat) (hi : i + 6 ≤ L) (K : ∀ (H : Heap) (locs : List Loc) (ls : Array Slot), LV dC dI s b L ad ka x0 md mk9 m0 (i + 6) H locs ls → W p l e room_1 s m #[Value.ref b] below meth c H locs (150 + 23 * (i + 6)) (3000 + 300 * (i + 6)) (lw_Z below #[Value.ref b] s) (F0 m 23 ls [])) (H : Heap) (locs : List Loc) (ls : Array Slot) (Gx Gm : Nat → Int) (wx wm : va_W) (tx tm : List (ClassId × FieldType)) (hXI : XI ad ka x0 Gx wx tx) (hMI : MZ md mk9 m0 Gm wm tm ∨ MB md mk9 m0 Gm wm tm) (hrl : REL Gx Gm) (hKx : va_K (dC, dI) classes tx s) (hKm : va_K (dC, dI) classes tm s) (hP : va_P (dC, dI) classes (wx ++ wm) H) (hD : va_D (fun q : Nat => s.heap.size ≤ q) (wx ++ wm)) (hS : va_S (fun q : Nat => s.heap.size ≤ q) s.heap H locs) (hl : lv_has ls 7 [(4, .int (nI i)), (3, .ref (ad 104)), (2, .ref m0), (1, .ref x0), (0, .ref b)]) : W p l e room_1 s m #[Value.ref b] below meth c H locs (150 + 23 * i) (3000 + 300 * i) (lw_Z below #[Value.ref b] s) (F0 m 517 ls []) := by
  obtain ⟨hx, hb, hr, hml, hown, hts0, hX, hbl, hlocks, hgv⟩ := C0
  have hts : ∀ w ∈ wG, w.before #[Value.ref b] s = true := fun w h => hts0 w (wG_t h)
  have hA : ∀ q : Nat, s.heap.size ≤ q → (fun q : Nat => s.heap.size ≤ q) q := fun _ h => h
  have hA0 : ∀ q : Nat, (fun q : Nat => s.heap.size ≤ q) q → s.heap.size ≤ q := fun _ h => h
  have hn0 : s.heap.size ≤ s.heap.size := Nat.le_refl _
  have hbA : ¬ (fun q : Nat => s.heap.size ≤ q) b := Nat.not_le.mpr hbl
  have hrl0 := rel0 hrl
  refine lv_aload_n hx hb dL_law_517 rfl (lv_at hl 3 rfl) ?_
  refine lv_aload_n hx hb dL_law_518 rfl (lv_at hl 4 rfl) ?_
  refine lv_iload hx hb dL_law_519 (lv_at hl 0 rfl) ?_
  refine lv_iconst (v := 1) hx hb dL_law_521 (by decide) ?_
  refine lv_iadd hx hb dL_law_522 ?_
  refine lv_topi (fun v_1 ev_1 => ?_)
  obtain rfl : v_1 = nI (i + 1) := ev_1.trans (nI_add i 1)
  refine va_sld hx hb hX hbl hbA hS (vp_in_nI (n := (i + 1)) (by omega) (by omega)) dL_law_523 ?_
  refine lv_topi (fun v_2 ev_2 => ?_)
  have hPc := ap_l hP
  have hDc := ad_l hD
  have hKc := hKx
  have hFc := fr_O hDc hS hA
  obtain ⟨fs9, hrc⟩ := XI_rc hXI
  refine va_calli (va_runV (As := [.int v_2]) (rest := []) ⟨hx, hb, hml, hown, hts⟩ (X_mark l dC dI s.heap.size atx H.size ad ka x0 Gx wx tx v_2 hXI ) (cwV 1 hts (gV (fun w h => id h) wd_997 wd_994 wd_995 wd_996 wd_114) rfl rfl rfl (by decide +kernel) ⟨Nat.le_of_ble_eq_true rfl, Nat.le_of_ble_eq_true rfl⟩) ⟨fun a U g mk q => by obtain ⟨q0, q1, q2, qG, qP, qK, qD⟩ := q; exact ⟨q0, q1, q2, GW.blind qG, qP, va_K.moved (u := U) (U := U.calling g mk a) (Vm.Alike.refl U.vm) qK, qD⟩, va_recv hKc hPc (ci := 11) (q0 := 0) rfl hrc, fun U hU hW => ⟨rfl, by rw [hU], Nat.le_trans hn0 hS.1, GW.go hW hU hG (fun q hq hA9 => hS.2.1 q hq (fun h => hA9 (hA0 q h))), by rw [hU]; exact hPc, va_K.moved hW.alike hKc, hDc.weaken (fun _ _ _ h => hA0 _ h)⟩⟩ rfl rfl hl.1 rfl (lv_room (Nat.le_of_ble_eq_true rfl)) dL_law_524 ⟨(by show _ ≤ (601024 : Nat); omega), (by show _ ≤ (7293034 : Nat); omega)⟩) hS (fun q _ h => hFc q h) hFc (fun r_3 u t H1 locs ht hvm hw_3 hB hz1 hk1 hS => ?_)
  subst hw_3
  obtain ⟨Gx_3, wx_3, tx_3, hIx_3, hrel_3, hP1, hK1, hD1⟩ := hB
  rw [ht] at hP1
  obtain ⟨hP, hD⟩ := jo_l hP hD hk1 hFc hP1 hD1
  have hKx_3 := va_K.moved hvm.symm hK1
  generalize H1 = H at hP hS ⊢
  refine lv_aload_n hx hb dL_law_527 rfl (lv_at hl 2 rfl) ?_
  refine lv_aload_n hx hb dL_law_528 rfl (lv_at hl 4 rfl) ?_
  refine lv_iload hx hb dL_law_529 (lv_at hl 0 rfl) ?_
  refine lv_iconst (v := 1) hx hb dL_law_531 (by decide) ?_
  refine lv_iadd hx hb dL_law_532 ?_
  refine lv_topi (fun v_4 ev_4 => ?_)
  obtain rfl : v_4 = nI (i + 1) := ev_4.trans (nI_add i 1)
  refine va_sld hx hb hX hbl hbA hS (vp_in_nI (n := (i + 1)) (by omega) (by omega)) dL_law_533 ?_
  refine lv_topi (fun v_5 ev_5 => ?_)
  obtain rfl : v_2 = v_5 := (ev_5.trans ev_2.symm).symm
  rcases hMI with hMI | hMI
  · skip
    have hPc := ap_r hP
    have hDc := ad_r hD
    have hKc := hKm
    have hFc := fr_O hDc hS hA
    obtain ⟨fs9, hrc⟩ := MZ_rc hMI
    refine va_calli (va_runV (As := [.int v_2]) (rest := [.int r_3]) ⟨hx, hb, hml, hown, hts⟩ (Z_mark l dC dI s.heap.size atx H.size md mk9 m0 Gm wm tm v_2 hMI ) (cwV 1 hts (gV (fun w h => id h) wd_1910 wd_1907 wd_1908 wd_1909 wd_127) rfl rfl rfl (by decide +kernel) ⟨Nat.le_of_ble_eq_true rfl, Nat.le_of_ble_eq_true rfl⟩) ⟨fun a U g mk q => by obtain ⟨q0, q1, q2, qG, qP, qK, qD⟩ := q; exact ⟨q0, q1, q2, GW.blind qG, qP, va_K.moved (u := U) (U := U.calling g mk a) (Vm.Alike.refl U.vm) qK, qD⟩, va_recv hKc hPc (ci := 14) (q0 := 0) rfl hrc, fun U hU hW => ⟨rfl, by rw [hU], Nat.le_trans hn0 hS.1, GW.go hW hU hG (fun q hq hA9 => hS.2.1 q hq (fun h => hA9 (hA0 q h))), by rw [hU]; exact hPc, va_K.moved hW.alike hKc, hDc.weaken (fun _ _ _ h => hA0 _ h)⟩⟩ rfl rfl hl.1 rfl (lv_room (Nat.le_of_ble_eq_true rfl)) dL_law_534 ⟨(by show _ ≤ (601024 : Nat); omega), (by show _ ≤ (7293034 : Nat); omega)⟩) hS (fun q _ h => hFc q h) hFc (fun r_6 u t H1 locs ht hvm hw_6 hB hz1 hk1 hS => ?_)
    subst hw_6
    obtain ⟨Gm_6, wm_6, tm_6, hIm_6, hrel_6, hP1, hK1, hD1⟩ := hB
    rw [ht] at hP1
    obtain ⟨hP, hD⟩ := jo_r hP hD hk1 hFc hP1 hD1
    have hKm_6 := va_K.moved hvm.symm hK1
    generalize H1 = H at hP hS ⊢
    refine lv_icmp_eq (tgt := 1078) hx hb dL_law_537 (by decide) (fun c_7 => ?_) (fun c_7 => ?_)
    · skip
      refine lv_iinc (v := (nI (i + 6))) (lv' := [(4, .int (nI (i + 6))), (3, .ref (ad 104)), (2, .ref m0), (1, .ref x0), (0, .ref b)]) hx hb dL_law_1078 hl (k := 0) rfl (nI_add _ 6) (by decide) rfl (fun ls hl => ?_)
      refine lv_goto (tgt := 23) hx hb dL_law_1081 (by decide) ?_
      refine W.widen (k := 150 + 23 * (i + 6)) (n := 3000 + 300 * (i + 6)) (by omega) (by omega) ?_
      exact K _ _ _ ⟨by omega, Gx_3, Gm_6, wx_3, wm_6, tx_3, tm_6, hIx_3, (Or.inl hIm_6), (rel_l hrl hrel_3.2.1 hrel_6.2.1 hrel_3.2.2 hrel_6.2.2), hKx_3, hKm_6, hP, hD, hS, lv_sub hl [0, 1, 2, 3, 4] rfl⟩
    · exact absurd (by rw [hrel_3.1, hrel_6.1]) c_7
  · skip
    have hPc := ap_r hP
    have hDc := ad_r hD
    have hKc := hKm
    have hFc := fr_O hDc hS hA
    obtain ⟨fs9, hrc⟩ := MB_rc hMI
    refine va_calli (va_runV (As := [.int v_2]) (rest := [.int r_3]) ⟨hx, hb, hml, hown, hts⟩ (B_mark l dC dI s.heap.size atx H.size md mk9 m0 Gm wm tm v_2 hMI ) (cwV 1 hts (gV (fun w h => id h) wd_1910 wd_1907 wd_1908 wd_1909 wd_127) rfl rfl rfl (by decide +kernel) ⟨Nat.le_of_ble_eq_true rfl, Nat.le_of_ble_eq_true rfl⟩) ⟨fun a U g mk q => by obtain ⟨q0, q1, q2, qG, qP, qK, qD⟩ := q; exact ⟨q0, q1, q2, GW.blind qG, qP, va_K.moved (u := U) (U := U.calling g mk a) (Vm.Alike.refl U.vm) qK, qD⟩, va_recv hKc hPc (ci := 14) (q0 := 0) rfl hrc, fun U hU hW => ⟨rfl, by rw [hU], Nat.le_trans hn0 hS.1, GW.go hW hU hG (fun q hq hA9 => hS.2.1 q hq (fun h => hA9 (hA0 q h))), by rw [hU]; exact hPc, va_K.moved hW.alike hKc, hDc.weaken (fun _ _ _ h => hA0 _ h)⟩⟩ rfl rfl hl.1 rfl (lv_room (Nat.le_of_ble_eq_true rfl)) dL_law_534 ⟨(by show _ ≤ (601024 : Nat); omega), (by show _ ≤ (7293034 : Nat); omega)⟩) hS (fun q _ h => hFc q h) hFc (fun r_8 u t H1 locs ht hvm hw_8 hB hz1 hk1 hS => ?_)
    subst hw_8
    obtain ⟨Gm_8, wm_8, tm_8, hIm_8, hrel_8, hP1, hK1, hD1⟩ := hB
    rw [ht] at hP1
    obtain ⟨hP, hD⟩ := jo_r hP hD hk1 hFc hP1 hD1
    have hKm_8 := va_K.moved hvm.symm hK1
    generalize H1 = H at hP hS ⊢
    refine lv_icmp_eq (tgt := 1078) hx hb dL_law_537 (by decide) (fun c_9 => ?_) (fun c_9 => ?_)
    · skip
      refine lv_iinc (v := (nI (i + 6))) (lv' := [(4, .int (nI (i + 6))), (3, .ref (ad 104)), (2, .ref m0), (1, .ref x0), (0, .ref b)]) hx hb dL_law_1078 hl (k := 0) rfl (nI_add _ 6) (by decide) rfl (fun ls hl => ?_)
      refine lv_goto (tgt := 23) hx hb dL_law_1081 (by decide) ?_
      refine W.widen (k := 150 + 23 * (i + 6)) (n := 3000 + 300 * (i + 6)) (by omega) (by omega) ?_
      exact K _ _ _ ⟨by omega, Gx_3, Gm_8, wx_3, wm_8, tx_3, tm_8, hIx_3, (Or.inr hIm_8), (rel_l hrl hrel_3.2.1 hrel_8.2.1 hrel_3.2.2 hrel_8.2.2), hKx_3, hKm_8, hP, hD, hS, lv_sub hl [0, 1, 2, 3, 4] rfl⟩
    · exact absurd (by rw [hrel_3.1, hrel_8.1]) c_9
