theorem wd_707 : Cond.methodLink "MineAirLaw" 19 (⟨"MineAir", "feed", "(IIIII)I"⟩ : MethodName) ∈ wG := wG_of 707 (by decide +kernel) (by decide +kernel)
theorem wd_708 : Cond.instanceMethod (⟨"MineAir", "feed", "(IIIII)I"⟩ : MethodName) ∈ wG := wG_of 708 (by decide +kernel) (by decide +kernel)
theorem wd_709 : Cond.selects "MineAir" (⟨"MineAir", "feed", "(IIIII)I"⟩ : MethodName) (⟨"MineAir", "feed", "(IIIII)I"⟩ : MethodName) ∈ wG := wG_of 709 (by decide +kernel) (by decide +kernel)
theorem wd_710 : Cond.code (⟨"MineAir", "feed", "(IIIII)I"⟩ : MethodName) prog_1_method_2_code 6 (Option.some Jvm.ClassFile.FieldType.int) ∈ wG := wG_of 710 (by decide +kernel) (by decide +kernel)
theorem wd_715 : Cond.methodLink "MineAirLaw" 24 (⟨"MineAir", "book", "(I)I"⟩ : MethodName) ∈ wG := wG_of 715 (by decide +kernel) (by decide +kernel)
theorem wd_716 : Cond.instanceMethod (⟨"MineAir", "book", "(I)I"⟩ : MethodName) ∈ wG := wG_of 716 (by decide +kernel) (by decide +kernel)
theorem wd_717 : Cond.selects "MineAir" (⟨"MineAir", "book", "(I)I"⟩ : MethodName) (⟨"MineAir", "book", "(I)I"⟩ : MethodName) ∈ wG := wG_of 717 (by decide +kernel) (by decide +kernel)
theorem wd_718 : Cond.code (⟨"MineAir", "book", "(I)I"⟩ : MethodName) prog_1_method_3_code 3 (Option.some Jvm.ClassFile.FieldType.int) ∈ wG := wG_of 718 (by decide +kernel) (by decide +kernel)
theorem wd_935 : Cond.methodLink "MineAirLaw" 29 (⟨"MineAir", "fault", "()I"⟩ : MethodName) ∈ wG := wG_of 935 (by decide +kernel) (by decide +kernel)
theorem wd_936 : Cond.instanceMethod (⟨"MineAir", "fault", "()I"⟩ : MethodName) ∈ wG := wG_of 936 (by decide +kernel) (by decide +kernel)
theorem wd_937 : Cond.selects "MineAir" (⟨"MineAir", "fault", "()I"⟩ : MethodName) (⟨"MineAir", "fault", "()I"⟩ : MethodName) ∈ wG := wG_of 937 (by decide +kernel) (by decide +kernel)
theorem wd_938 : Cond.code (⟨"MineAir", "fault", "()I"⟩ : MethodName) prog_1_method_4_code 1 (Option.some Jvm.ClassFile.FieldType.int) ∈ wG := wG_of 938 (by decide +kernel) (by decide +kernel)
theorem wd_939 : Cond.methodLink "MineAirLaw" 34 (⟨"MineAir", "where", "()I"⟩ : MethodName) ∈ wG := wG_of 939 (by decide +kernel) (by decide +kernel)
theorem wd_940 : Cond.instanceMethod (⟨"MineAir", "where", "()I"⟩ : MethodName) ∈ wG := wG_of 940 (by decide +kernel) (by decide +kernel)
theorem wd_941 : Cond.selects "MineAir" (⟨"MineAir", "where", "()I"⟩ : MethodName) (⟨"MineAir", "where", "()I"⟩ : MethodName) ∈ wG := wG_of 941 (by decide +kernel) (by decide +kernel)
theorem wd_942 : Cond.code (⟨"MineAir", "where", "()I"⟩ : MethodName) prog_1_method_5_code 1 (Option.some Jvm.ClassFile.FieldType.int) ∈ wG := wG_of 942 (by decide +kernel) (by decide +kernel)
theorem wd_943 : Cond.methodLink "MineAirLaw" 38 (⟨"MineAir", "way", "(II)I"⟩ : MethodName) ∈ wG := wG_of 943 (by decide +kernel) (by decide +kernel)
theorem wd_944 : Cond.instanceMethod (⟨"MineAir", "way", "(II)I"⟩ : MethodName) ∈ wG := wG_of 944 (by decide +kernel) (by decide +kernel)
theorem wd_945 : Cond.selects "MineAir" (⟨"MineAir", "way", "(II)I"⟩ : MethodName) (⟨"MineAir", "way", "(II)I"⟩ : MethodName) ∈ wG := wG_of 945 (by decide +kernel) (by decide +kernel)
theorem wd_946 : Cond.code (⟨"MineAir", "way", "(II)I"⟩ : MethodName) prog_1_method_6_code 3 (Option.some Jvm.ClassFile.FieldType.int) ∈ wG := wG_of 946 (by decide +kernel) (by decide +kernel)
theorem wd_959 : Cond.methodLink "MineAirLaw" 42 (⟨"MineAir", "door", "(IZ)Z"⟩ : MethodName) ∈ wG := wG_of 959 (by decide +kernel) (by decide +kernel)
theorem wd_960 : Cond.instanceMethod (⟨"MineAir", "door", "(IZ)Z"⟩ : MethodName) ∈ wG := wG_of 960 (by decide +kernel) (by decide +kernel)
theorem wd_961 : Cond.selects "MineAir" (⟨"MineAir", "door", "(IZ)Z"⟩ : MethodName) (⟨"MineAir", "door", "(IZ)Z"⟩ : MethodName) ∈ wG := wG_of 961 (by decide +kernel) (by decide +kernel)
theorem wd_962 : Cond.code (⟨"MineAir", "door", "(IZ)Z"⟩ : MethodName) prog_1_method_7_code 3 (Option.some Jvm.ClassFile.FieldType.boolean) ∈ wG := wG_of 962 (by decide +kernel) (by decide +kernel)
theorem wd_975 : Cond.methodLink "MineAirLaw" 47 (⟨"MineAir", "speed", "(II)Z"⟩ : MethodName) ∈ wG := wG_of 975 (by decide +kernel) (by decide +kernel)
theorem wd_976 : Cond.instanceMethod (⟨"MineAir", "speed", "(II)Z"⟩ : MethodName) ∈ wG := wG_of 976 (by decide +kernel) (by decide +kernel)
theorem wd_977 : Cond.selects "MineAir" (⟨"MineAir", "speed", "(II)Z"⟩ : MethodName) (⟨"MineAir", "speed", "(II)Z"⟩ : MethodName) ∈ wG := wG_of 977 (by decide +kernel) (by decide +kernel)
theorem wd_978 : Cond.code (⟨"MineAir", "speed", "(II)Z"⟩ : MethodName) prog_1_method_8_code 3 (Option.some Jvm.ClassFile.FieldType.boolean) ∈ wG := wG_of 978 (by decide +kernel) (by decide +kernel)
theorem wd_986 : Cond.methodLink "MineAirLaw" 52 (⟨"MineAir", "fall", "(IZ)Z"⟩ : MethodName) ∈ wG := wG_of 986 (by decide +kernel) (by decide +kernel)
theorem wd_987 : Cond.instanceMethod (⟨"MineAir", "fall", "(IZ)Z"⟩ : MethodName) ∈ wG := wG_of 987 (by decide +kernel) (by decide +kernel)
theorem wd_988 : Cond.selects "MineAir" (⟨"MineAir", "fall", "(IZ)Z"⟩ : MethodName) (⟨"MineAir", "fall", "(IZ)Z"⟩ : MethodName) ∈ wG := wG_of 988 (by decide +kernel) (by decide +kernel)
theorem wd_989 : Cond.code (⟨"MineAir", "fall", "(IZ)Z"⟩ : MethodName) prog_1_method_9_code 3 (Option.some Jvm.ClassFile.FieldType.boolean) ∈ wG := wG_of 989 (by decide +kernel) (by decide +kernel)
theorem wd_990 : Cond.methodLink "MineAirLaw" 56 (⟨"MineAir", "fire", "(II)Z"⟩ : MethodName) ∈ wG := wG_of 990 (by decide +kernel) (by decide +kernel)
theorem wd_991 : Cond.instanceMethod (⟨"MineAir", "fire", "(II)Z"⟩ : MethodName) ∈ wG := wG_of 991 (by decide +kernel) (by decide +kernel)
theorem wd_992 : Cond.selects "MineAir" (⟨"MineAir", "fire", "(II)Z"⟩ : MethodName) (⟨"MineAir", "fire", "(II)Z"⟩ : MethodName) ∈ wG := wG_of 992 (by decide +kernel) (by decide +kernel)
theorem wd_993 : Cond.code (⟨"MineAir", "fire", "(II)Z"⟩ : MethodName) prog_1_method_10_code 3 (Option.some Jvm.ClassFile.FieldType.boolean) ∈ wG := wG_of 993 (by decide +kernel) (by decide +kernel)
theorem wd_994 : Cond.methodLink "MineAirLaw" 60 (⟨"MineAir", "mark", "(I)Z"⟩ : MethodName) ∈ wG := wG_of 994 (by decide +kernel) (by decide +kernel)
theorem wd_995 : Cond.instanceMethod (⟨"MineAir", "mark", "(I)Z"⟩ : MethodName) ∈ wG := wG_of 995 (by decide +kernel) (by decide +kernel)
theorem wd_996 : Cond.selects "MineAir" (⟨"MineAir", "mark", "(I)Z"⟩ : MethodName) (⟨"MineAir", "mark", "(I)Z"⟩ : MethodName) ∈ wG := wG_of 996 (by decide +kernel) (by decide +kernel)
theorem wd_997 : Cond.code (⟨"MineAir", "mark", "(I)Z"⟩ : MethodName) prog_1_method_11_code 2 (Option.some Jvm.ClassFile.FieldType.boolean) ∈ wG := wG_of 997 (by decide +kernel) (by decide +kernel)
theorem wd_1607 : Cond.methodLink "MineAirLaw" 23 (⟨"MineAirModel", "feed", "(IIIII)I"⟩ : MethodName) ∈ wG := wG_of 1607 (by decide +kernel) (by decide +kernel)
theorem wd_1608 : Cond.instanceMethod (⟨"MineAirModel", "feed", "(IIIII)I"⟩ : MethodName) ∈ wG := wG_of 1608 (by decide +kernel) (by decide +kernel)
theorem wd_1609 : Cond.selects "MineAirModel" (⟨"MineAirModel", "feed", "(IIIII)I"⟩ : MethodName) (⟨"MineAirModel", "feed", "(IIIII)I"⟩ : MethodName) ∈ wG := wG_of 1609 (by decide +kernel) (by decide +kernel)
theorem wd_1610 : Cond.code (⟨"MineAirModel", "feed", "(IIIII)I"⟩ : MethodName) prog_14_method_29_code 8 (Option.some Jvm.ClassFile.FieldType.int) ∈ wG := wG_of 1610 (by decide +kernel) (by decide +kernel)
theorem wd_1611 : Cond.methodLink "MineAirLaw" 28 (⟨"MineAirModel", "book", "(I)I"⟩ : MethodName) ∈ wG := wG_of 1611 (by decide +kernel) (by decide +kernel)
theorem wd_1612 : Cond.instanceMethod (⟨"MineAirModel", "book", "(I)I"⟩ : MethodName) ∈ wG := wG_of 1612 (by decide +kernel) (by decide +kernel)
theorem wd_1613 : Cond.selects "MineAirModel" (⟨"MineAirModel", "book", "(I)I"⟩ : MethodName) (⟨"MineAirModel", "book", "(I)I"⟩ : MethodName) ∈ wG := wG_of 1613 (by decide +kernel) (by decide +kernel)
theorem wd_1614 : Cond.codeWith ({ cls := "MineAirModel", name := "book", desc := "(I)I" } : Jvm.MethodName) prog_14_method_30_code (3 : Nat) (Option.some Jvm.ClassFile.FieldType.int) [((54 : Nat), (62 : Nat), (65 : Nat), (17 : Nat))] ∈ wG := wG_of 1614 (by decide +kernel) (by decide +kernel)
theorem wd_1850 : Cond.methodLink "MineAirLaw" 33 (⟨"MineAirModel", "fault", "()I"⟩ : MethodName) ∈ wG := wG_of 1850 (by decide +kernel) (by decide +kernel)
theorem wd_1851 : Cond.instanceMethod (⟨"MineAirModel", "fault", "()I"⟩ : MethodName) ∈ wG := wG_of 1851 (by decide +kernel) (by decide +kernel)
theorem wd_1852 : Cond.selects "MineAirModel" (⟨"MineAirModel", "fault", "()I"⟩ : MethodName) (⟨"MineAirModel", "fault", "()I"⟩ : MethodName) ∈ wG := wG_of 1852 (by decide +kernel) (by decide +kernel)
theorem wd_1853 : Cond.code (⟨"MineAirModel", "fault", "()I"⟩ : MethodName) prog_14_method_31_code 1 (Option.some Jvm.ClassFile.FieldType.int) ∈ wG := wG_of 1853 (by decide +kernel) (by decide +kernel)
theorem wd_1854 : Cond.methodLink "MineAirLaw" 37 (⟨"MineAirModel", "where", "()I"⟩ : MethodName) ∈ wG := wG_of 1854 (by decide +kernel) (by decide +kernel)
theorem wd_1855 : Cond.instanceMethod (⟨"MineAirModel", "where", "()I"⟩ : MethodName) ∈ wG := wG_of 1855 (by decide +kernel) (by decide +kernel)
theorem wd_1856 : Cond.selects "MineAirModel" (⟨"MineAirModel", "where", "()I"⟩ : MethodName) (⟨"MineAirModel", "where", "()I"⟩ : MethodName) ∈ wG := wG_of 1856 (by decide +kernel) (by decide +kernel)
theorem wd_1857 : Cond.code (⟨"MineAirModel", "where", "()I"⟩ : MethodName) prog_14_method_32_code 1 (Option.some Jvm.ClassFile.FieldType.int) ∈ wG := wG_of 1857 (by decide +kernel) (by decide +kernel)
theorem wd_1858 : Cond.methodLink "MineAirLaw" 41 (⟨"MineAirModel", "way", "(II)I"⟩ : MethodName) ∈ wG := wG_of 1858 (by decide +kernel) (by decide +kernel)
theorem wd_1859 : Cond.instanceMethod (⟨"MineAirModel", "way", "(II)I"⟩ : MethodName) ∈ wG := wG_of 1859 (by decide +kernel) (by decide +kernel)
theorem wd_1860 : Cond.selects "MineAirModel" (⟨"MineAirModel", "way", "(II)I"⟩ : MethodName) (⟨"MineAirModel", "way", "(II)I"⟩ : MethodName) ∈ wG := wG_of 1860 (by decide +kernel) (by decide +kernel)
theorem wd_1861 : Cond.code (⟨"MineAirModel", "way", "(II)I"⟩ : MethodName) prog_14_method_37_code 3 (Option.some Jvm.ClassFile.FieldType.int) ∈ wG := wG_of 1861 (by decide +kernel) (by decide +kernel)
theorem wd_1871 : Cond.methodLink "MineAirLaw" 46 (⟨"MineAirModel", "door", "(IZ)Z"⟩ : MethodName) ∈ wG := wG_of 1871 (by decide +kernel) (by decide +kernel)
theorem wd_1872 : Cond.instanceMethod (⟨"MineAirModel", "door", "(IZ)Z"⟩ : MethodName) ∈ wG := wG_of 1872 (by decide +kernel) (by decide +kernel)
theorem wd_1873 : Cond.selects "MineAirModel" (⟨"MineAirModel", "door", "(IZ)Z"⟩ : MethodName) (⟨"MineAirModel", "door", "(IZ)Z"⟩ : MethodName) ∈ wG := wG_of 1873 (by decide +kernel) (by decide +kernel)
theorem wd_1874 : Cond.code (⟨"MineAirModel", "door", "(IZ)Z"⟩ : MethodName) prog_14_method_38_code 3 (Option.some Jvm.ClassFile.FieldType.boolean) ∈ wG := wG_of 1874 (by decide +kernel) (by decide +kernel)
theorem wd_1887 : Cond.methodLink "MineAirLaw" 51 (⟨"MineAirModel", "speed", "(II)Z"⟩ : MethodName) ∈ wG := wG_of 1887 (by decide +kernel) (by decide +kernel)
theorem wd_1888 : Cond.instanceMethod (⟨"MineAirModel", "speed", "(II)Z"⟩ : MethodName) ∈ wG := wG_of 1888 (by decide +kernel) (by decide +kernel)
theorem wd_1889 : Cond.selects "MineAirModel" (⟨"MineAirModel", "speed", "(II)Z"⟩ : MethodName) (⟨"MineAirModel", "speed", "(II)Z"⟩ : MethodName) ∈ wG := wG_of 1889 (by decide +kernel) (by decide +kernel)
theorem wd_1890 : Cond.code (⟨"MineAirModel", "speed", "(II)Z"⟩ : MethodName) prog_14_method_39_code 3 (Option.some Jvm.ClassFile.FieldType.boolean) ∈ wG := wG_of 1890 (by decide +kernel) (by decide +kernel)
theorem wd_1895 : Cond.methodLink "MineAirLaw" 55 (⟨"MineAirModel", "fall", "(IZ)Z"⟩ : MethodName) ∈ wG := wG_of 1895 (by decide +kernel) (by decide +kernel)
theorem wd_1896 : Cond.instanceMethod (⟨"MineAirModel", "fall", "(IZ)Z"⟩ : MethodName) ∈ wG := wG_of 1896 (by decide +kernel) (by decide +kernel)
theorem wd_1897 : Cond.selects "MineAirModel" (⟨"MineAirModel", "fall", "(IZ)Z"⟩ : MethodName) (⟨"MineAirModel", "fall", "(IZ)Z"⟩ : MethodName) ∈ wG := wG_of 1897 (by decide +kernel) (by decide +kernel)
theorem wd_1898 : Cond.code (⟨"MineAirModel", "fall", "(IZ)Z"⟩ : MethodName) prog_14_method_40_code 3 (Option.some Jvm.ClassFile.FieldType.boolean) ∈ wG := wG_of 1898 (by decide +kernel) (by decide +kernel)
theorem wd_1899 : Cond.methodLink "MineAirLaw" 59 (⟨"MineAirModel", "fire", "(II)Z"⟩ : MethodName) ∈ wG := wG_of 1899 (by decide +kernel) (by decide +kernel)
theorem wd_1900 : Cond.instanceMethod (⟨"MineAirModel", "fire", "(II)Z"⟩ : MethodName) ∈ wG := wG_of 1900 (by decide +kernel) (by decide +kernel)
theorem wd_1901 : Cond.selects "MineAirModel" (⟨"MineAirModel", "fire", "(II)Z"⟩ : MethodName) (⟨"MineAirModel", "fire", "(II)Z"⟩ : MethodName) ∈ wG := wG_of 1901 (by decide +kernel) (by decide +kernel)
theorem wd_1902 : Cond.code (⟨"MineAirModel", "fire", "(II)Z"⟩ : MethodName) prog_14_method_41_code 3 (Option.some Jvm.ClassFile.FieldType.boolean) ∈ wG := wG_of 1902 (by decide +kernel) (by decide +kernel)
theorem wd_1903 : Cond.methodLink "MineAirLaw" 64 (⟨"MineAirModel", "mark", "(I)Z"⟩ : MethodName) ∈ wG := wG_of 1903 (by decide +kernel) (by decide +kernel)
theorem wd_1904 : Cond.instanceMethod (⟨"MineAirModel", "mark", "(I)Z"⟩ : MethodName) ∈ wG := wG_of 1904 (by decide +kernel) (by decide +kernel)
theorem wd_1905 : Cond.selects "MineAirModel" (⟨"MineAirModel", "mark", "(I)Z"⟩ : MethodName) (⟨"MineAirModel", "mark", "(I)Z"⟩ : MethodName) ∈ wG := wG_of 1905 (by decide +kernel) (by decide +kernel)
theorem wd_1906 : Cond.code (⟨"MineAirModel", "mark", "(I)Z"⟩ : MethodName) prog_14_method_42_code 2 (Option.some Jvm.ClassFile.FieldType.boolean) ∈ wG := wG_of 1906 (by decide +kernel) (by decide +kernel)
theorem dL_law_176 : decode cL_law 176 = .ok (.aload_n 1, 1) := by decide +kernel
theorem dL_law_177 : decode cL_law 177 = .ok (.aload_n 0, 1) := by decide +kernel
theorem dL_law_178 : decode cL_law 178 = .ok (.iload 4, 2) := by decide +kernel
theorem dL_law_180 : decode cL_law 180 = .ok (.iconst 1, 1) := by decide +kernel
theorem dL_law_181 : decode cL_law 181 = .ok (.iadd, 1) := by decide +kernel
theorem dL_law_182 : decode cL_law 182 = .ok (.iaload, 1) := by decide +kernel
theorem dL_law_183 : decode cL_law 183 = .ok (.aload_n 0, 1) := by decide +kernel
theorem dL_law_184 : decode cL_law 184 = .ok (.iload 4, 2) := by decide +kernel
theorem dL_law_186 : decode cL_law 186 = .ok (.iconst 2, 1) := by decide +kernel
theorem dL_law_187 : decode cL_law 187 = .ok (.iadd, 1) := by decide +kernel
theorem dL_law_188 : decode cL_law 188 = .ok (.iaload, 1) := by decide +kernel
theorem dL_law_189 : decode cL_law 189 = .ok (.aload_n 0, 1) := by decide +kernel
theorem dL_law_190 : decode cL_law 190 = .ok (.iload 4, 2) := by decide +kernel
theorem dL_law_192 : decode cL_law 192 = .ok (.iconst 3, 1) := by decide +kernel
theorem dL_law_193 : decode cL_law 193 = .ok (.iadd, 1) := by decide +kernel
theorem dL_law_194 : decode cL_law 194 = .ok (.iaload, 1) := by decide +kernel
theorem dL_law_195 : decode cL_law 195 = .ok (.aload_n 0, 1) := by decide +kernel
theorem dL_law_196 : decode cL_law 196 = .ok (.iload 4, 2) := by decide +kernel
theorem dL_law_198 : decode cL_law 198 = .ok (.iconst 4, 1) := by decide +kernel
theorem dL_law_199 : decode cL_law 199 = .ok (.iadd, 1) := by decide +kernel
theorem dL_law_200 : decode cL_law 200 = .ok (.iaload, 1) := by decide +kernel
theorem dL_law_201 : decode cL_law 201 = .ok (.aload_n 0, 1) := by decide +kernel
theorem dL_law_202 : decode cL_law 202 = .ok (.iload 4, 2) := by decide +kernel
theorem dL_law_204 : decode cL_law 204 = .ok (.iconst 5, 1) := by decide +kernel
theorem dL_law_205 : decode cL_law 205 = .ok (.iadd, 1) := by decide +kernel
theorem dL_law_206 : decode cL_law 206 = .ok (.iaload, 1) := by decide +kernel
theorem dL_law_207 : decode cL_law 207 = .ok (.invokevirtual 19, 3) := by decide +kernel
theorem dL_law_210 : decode cL_law 210 = .ok (.pop, 1) := by decide +kernel
theorem dL_law_211 : decode cL_law 211 = .ok (.aload_n 2, 1) := by decide +kernel
theorem dL_law_212 : decode cL_law 212 = .ok (.aload_n 0, 1) := by decide +kernel
theorem dL_law_213 : decode cL_law 213 = .ok (.iload 4, 2) := by decide +kernel
theorem dL_law_215 : decode cL_law 215 = .ok (.iconst 1, 1) := by decide +kernel
theorem dL_law_216 : decode cL_law 216 = .ok (.iadd, 1) := by decide +kernel
theorem dL_law_217 : decode cL_law 217 = .ok (.iaload, 1) := by decide +kernel
theorem dL_law_218 : decode cL_law 218 = .ok (.aload_n 0, 1) := by decide +kernel
theorem dL_law_219 : decode cL_law 219 = .ok (.iload 4, 2) := by decide +kernel
theorem dL_law_221 : decode cL_law 221 = .ok (.iconst 2, 1) := by decide +kernel
theorem dL_law_222 : decode cL_law 222 = .ok (.iadd, 1) := by decide +kernel
theorem dL_law_223 : decode cL_law 223 = .ok (.iaload, 1) := by decide +kernel
theorem dL_law_224 : decode cL_law 224 = .ok (.aload_n 0, 1) := by decide +kernel
theorem dL_law_225 : decode cL_law 225 = .ok (.iload 4, 2) := by decide +kernel
theorem dL_law_227 : decode cL_law 227 = .ok (.iconst 3, 1) := by decide +kernel
theorem dL_law_228 : decode cL_law 228 = .ok (.iadd, 1) := by decide +kernel
theorem dL_law_229 : decode cL_law 229 = .ok (.iaload, 1) := by decide +kernel
theorem dL_law_230 : decode cL_law 230 = .ok (.aload_n 0, 1) := by decide +kernel
theorem dL_law_231 : decode cL_law 231 = .ok (.iload 4, 2) := by decide +kernel
theorem dL_law_233 : decode cL_law 233 = .ok (.iconst 4, 1) := by decide +kernel
theorem dL_law_234 : decode cL_law 234 = .ok (.iadd, 1) := by decide +kernel
theorem dL_law_235 : decode cL_law 235 = .ok (.iaload, 1) := by decide +kernel
theorem dL_law_236 : decode cL_law 236 = .ok (.aload_n 0, 1) := by decide +kernel
theorem dL_law_237 : decode cL_law 237 = .ok (.iload 4, 2) := by decide +kernel
theorem dL_law_239 : decode cL_law 239 = .ok (.iconst 5, 1) := by decide +kernel
theorem dL_law_240 : decode cL_law 240 = .ok (.iadd, 1) := by decide +kernel
theorem dL_law_241 : decode cL_law 241 = .ok (.iaload, 1) := by decide +kernel
theorem dL_law_242 : decode cL_law 242 = .ok (.invokevirtual 23, 3) := by decide +kernel
theorem dL_law_245 : decode cL_law 245 = .ok (.pop, 1) := by decide +kernel
theorem dL_law_246 : decode cL_law 246 = .ok (.goto 803, 3) := by decide +kernel
theorem dL_law_249 : decode cL_law 249 = .ok (.aload_n 1, 1) := by decide +kernel
theorem dL_law_250 : decode cL_law 250 = .ok (.aload_n 0, 1) := by decide +kernel
theorem dL_law_251 : decode cL_law 251 = .ok (.iload 4, 2) := by decide +kernel
theorem dL_law_253 : decode cL_law 253 = .ok (.iconst 1, 1) := by decide +kernel
theorem dL_law_254 : decode cL_law 254 = .ok (.iadd, 1) := by decide +kernel
theorem dL_law_255 : decode cL_law 255 = .ok (.iaload, 1) := by decide +kernel
theorem dL_law_256 : decode cL_law 256 = .ok (.invokevirtual 24, 3) := by decide +kernel
theorem dL_law_259 : decode cL_law 259 = .ok (.pop, 1) := by decide +kernel
theorem dL_law_260 : decode cL_law 260 = .ok (.aload_n 2, 1) := by decide +kernel
theorem dL_law_261 : decode cL_law 261 = .ok (.aload_n 0, 1) := by decide +kernel
theorem dL_law_262 : decode cL_law 262 = .ok (.iload 4, 2) := by decide +kernel
theorem dL_law_264 : decode cL_law 264 = .ok (.iconst 1, 1) := by decide +kernel
theorem dL_law_265 : decode cL_law 265 = .ok (.iadd, 1) := by decide +kernel
theorem dL_law_266 : decode cL_law 266 = .ok (.iaload, 1) := by decide +kernel
theorem dL_law_267 : decode cL_law 267 = .ok (.invokevirtual 28, 3) := by decide +kernel
theorem dL_law_270 : decode cL_law 270 = .ok (.pop, 1) := by decide +kernel
theorem dL_law_271 : decode cL_law 271 = .ok (.goto 778, 3) := by decide +kernel
theorem dL_law_274 : decode cL_law 274 = .ok (.aload_n 1, 1) := by decide +kernel
theorem dL_law_275 : decode cL_law 275 = .ok (.invokevirtual 29, 3) := by decide +kernel
theorem dL_law_278 : decode cL_law 278 = .ok (.pop, 1) := by decide +kernel
theorem dL_law_279 : decode cL_law 279 = .ok (.aload_n 2, 1) := by decide +kernel
theorem dL_law_280 : decode cL_law 280 = .ok (.invokevirtual 33, 3) := by decide +kernel
theorem dL_law_283 : decode cL_law 283 = .ok (.pop, 1) := by decide +kernel
theorem dL_law_284 : decode cL_law 284 = .ok (.goto 765, 3) := by decide +kernel
theorem dL_law_287 : decode cL_law 287 = .ok (.aload_n 1, 1) := by decide +kernel
theorem dL_law_288 : decode cL_law 288 = .ok (.invokevirtual 34, 3) := by decide +kernel
theorem dL_law_291 : decode cL_law 291 = .ok (.pop, 1) := by decide +kernel
theorem dL_law_292 : decode cL_law 292 = .ok (.aload_n 2, 1) := by decide +kernel
theorem dL_law_293 : decode cL_law 293 = .ok (.invokevirtual 37, 3) := by decide +kernel
theorem dL_law_296 : decode cL_law 296 = .ok (.pop, 1) := by decide +kernel
theorem dL_law_297 : decode cL_law 297 = .ok (.goto 752, 3) := by decide +kernel
theorem dL_law_300 : decode cL_law 300 = .ok (.aload_n 1, 1) := by decide +kernel
theorem dL_law_301 : decode cL_law 301 = .ok (.aload_n 0, 1) := by decide +kernel
theorem dL_law_302 : decode cL_law 302 = .ok (.iload 4, 2) := by decide +kernel
theorem dL_law_304 : decode cL_law 304 = .ok (.iconst 1, 1) := by decide +kernel
theorem dL_law_305 : decode cL_law 305 = .ok (.iadd, 1) := by decide +kernel
theorem dL_law_306 : decode cL_law 306 = .ok (.iaload, 1) := by decide +kernel
theorem dL_law_307 : decode cL_law 307 = .ok (.aload_n 0, 1) := by decide +kernel
theorem dL_law_308 : decode cL_law 308 = .ok (.iload 4, 2) := by decide +kernel
theorem dL_law_310 : decode cL_law 310 = .ok (.iconst 2, 1) := by decide +kernel
theorem dL_law_311 : decode cL_law 311 = .ok (.iadd, 1) := by decide +kernel
theorem dL_law_312 : decode cL_law 312 = .ok (.iaload, 1) := by decide +kernel
theorem dL_law_313 : decode cL_law 313 = .ok (.invokevirtual 38, 3) := by decide +kernel
theorem dL_law_316 : decode cL_law 316 = .ok (.pop, 1) := by decide +kernel
theorem dL_law_317 : decode cL_law 317 = .ok (.aload_n 2, 1) := by decide +kernel
theorem dL_law_318 : decode cL_law 318 = .ok (.aload_n 0, 1) := by decide +kernel
theorem dL_law_319 : decode cL_law 319 = .ok (.iload 4, 2) := by decide +kernel
theorem dL_law_321 : decode cL_law 321 = .ok (.iconst 1, 1) := by decide +kernel
theorem dL_law_322 : decode cL_law 322 = .ok (.iadd, 1) := by decide +kernel
theorem dL_law_323 : decode cL_law 323 = .ok (.iaload, 1) := by decide +kernel
theorem dL_law_324 : decode cL_law 324 = .ok (.aload_n 0, 1) := by decide +kernel
theorem dL_law_325 : decode cL_law 325 = .ok (.iload 4, 2) := by decide +kernel
theorem dL_law_327 : decode cL_law 327 = .ok (.iconst 2, 1) := by decide +kernel
theorem dL_law_328 : decode cL_law 328 = .ok (.iadd, 1) := by decide +kernel
theorem dL_law_329 : decode cL_law 329 = .ok (.iaload, 1) := by decide +kernel
theorem dL_law_330 : decode cL_law 330 = .ok (.invokevirtual 41, 3) := by decide +kernel
theorem dL_law_333 : decode cL_law 333 = .ok (.pop, 1) := by decide +kernel
theorem dL_law_334 : decode cL_law 334 = .ok (.goto 715, 3) := by decide +kernel
theorem dL_law_337 : decode cL_law 337 = .ok (.aload_n 1, 1) := by decide +kernel
theorem dL_law_338 : decode cL_law 338 = .ok (.aload_n 0, 1) := by decide +kernel
theorem dL_law_339 : decode cL_law 339 = .ok (.iload 4, 2) := by decide +kernel
theorem dL_law_341 : decode cL_law 341 = .ok (.iconst 1, 1) := by decide +kernel
theorem dL_law_342 : decode cL_law 342 = .ok (.iadd, 1) := by decide +kernel
theorem dL_law_343 : decode cL_law 343 = .ok (.iaload, 1) := by decide +kernel
theorem dL_law_344 : decode cL_law 344 = .ok (.aload_n 0, 1) := by decide +kernel
theorem dL_law_345 : decode cL_law 345 = .ok (.iload 4, 2) := by decide +kernel
theorem dL_law_347 : decode cL_law 347 = .ok (.iconst 2, 1) := by decide +kernel
theorem dL_law_348 : decode cL_law 348 = .ok (.iadd, 1) := by decide +kernel
theorem dL_law_349 : decode cL_law 349 = .ok (.iaload, 1) := by decide +kernel
theorem dL_law_350 : decode cL_law 350 = .ok (.ifCond .eq 7, 3) := by decide +kernel
theorem dL_law_353 : decode cL_law 353 = .ok (.iconst 1, 1) := by decide +kernel
theorem dL_law_354 : decode cL_law 354 = .ok (.goto 4, 3) := by decide +kernel
theorem dL_law_357 : decode cL_law 357 = .ok (.iconst 0, 1) := by decide +kernel
theorem dL_law_358 : decode cL_law 358 = .ok (.invokevirtual 42, 3) := by decide +kernel
theorem dL_law_361 : decode cL_law 361 = .ok (.pop, 1) := by decide +kernel
theorem dL_law_362 : decode cL_law 362 = .ok (.aload_n 2, 1) := by decide +kernel
theorem dL_law_363 : decode cL_law 363 = .ok (.aload_n 0, 1) := by decide +kernel
theorem dL_law_364 : decode cL_law 364 = .ok (.iload 4, 2) := by decide +kernel
theorem dL_law_366 : decode cL_law 366 = .ok (.iconst 1, 1) := by decide +kernel
theorem dL_law_367 : decode cL_law 367 = .ok (.iadd, 1) := by decide +kernel
theorem dL_law_368 : decode cL_law 368 = .ok (.iaload, 1) := by decide +kernel
theorem dL_law_369 : decode cL_law 369 = .ok (.aload_n 0, 1) := by decide +kernel
theorem dL_law_370 : decode cL_law 370 = .ok (.iload 4, 2) := by decide +kernel
theorem dL_law_372 : decode cL_law 372 = .ok (.iconst 2, 1) := by decide +kernel
theorem dL_law_373 : decode cL_law 373 = .ok (.iadd, 1) := by decide +kernel
theorem dL_law_374 : decode cL_law 374 = .ok (.iaload, 1) := by decide +kernel
theorem dL_law_375 : decode cL_law 375 = .ok (.ifCond .eq 7, 3) := by decide +kernel
theorem dL_law_378 : decode cL_law 378 = .ok (.iconst 1, 1) := by decide +kernel
theorem dL_law_379 : decode cL_law 379 = .ok (.goto 4, 3) := by decide +kernel
theorem dL_law_382 : decode cL_law 382 = .ok (.iconst 0, 1) := by decide +kernel
theorem dL_law_383 : decode cL_law 383 = .ok (.invokevirtual 46, 3) := by decide +kernel
theorem dL_law_386 : decode cL_law 386 = .ok (.pop, 1) := by decide +kernel
theorem dL_law_387 : decode cL_law 387 = .ok (.goto 662, 3) := by decide +kernel
theorem dL_law_390 : decode cL_law 390 = .ok (.aload_n 1, 1) := by decide +kernel
theorem dL_law_391 : decode cL_law 391 = .ok (.aload_n 0, 1) := by decide +kernel
theorem dL_law_392 : decode cL_law 392 = .ok (.iload 4, 2) := by decide +kernel
theorem dL_law_394 : decode cL_law 394 = .ok (.iconst 1, 1) := by decide +kernel
theorem dL_law_395 : decode cL_law 395 = .ok (.iadd, 1) := by decide +kernel
theorem dL_law_396 : decode cL_law 396 = .ok (.iaload, 1) := by decide +kernel
theorem dL_law_397 : decode cL_law 397 = .ok (.aload_n 0, 1) := by decide +kernel
theorem dL_law_398 : decode cL_law 398 = .ok (.iload 4, 2) := by decide +kernel
theorem dL_law_400 : decode cL_law 400 = .ok (.iconst 2, 1) := by decide +kernel
theorem dL_law_401 : decode cL_law 401 = .ok (.iadd, 1) := by decide +kernel
theorem dL_law_402 : decode cL_law 402 = .ok (.iaload, 1) := by decide +kernel
theorem dL_law_403 : decode cL_law 403 = .ok (.invokevirtual 47, 3) := by decide +kernel
theorem dL_law_406 : decode cL_law 406 = .ok (.pop, 1) := by decide +kernel
theorem dL_law_407 : decode cL_law 407 = .ok (.aload_n 2, 1) := by decide +kernel
theorem dL_law_408 : decode cL_law 408 = .ok (.aload_n 0, 1) := by decide +kernel
theorem dL_law_409 : decode cL_law 409 = .ok (.iload 4, 2) := by decide +kernel
theorem dL_law_411 : decode cL_law 411 = .ok (.iconst 1, 1) := by decide +kernel
theorem dL_law_412 : decode cL_law 412 = .ok (.iadd, 1) := by decide +kernel
theorem dL_law_413 : decode cL_law 413 = .ok (.iaload, 1) := by decide +kernel
theorem dL_law_414 : decode cL_law 414 = .ok (.aload_n 0, 1) := by decide +kernel
theorem dL_law_415 : decode cL_law 415 = .ok (.iload 4, 2) := by decide +kernel
theorem dL_law_417 : decode cL_law 417 = .ok (.iconst 2, 1) := by decide +kernel
theorem dL_law_418 : decode cL_law 418 = .ok (.iadd, 1) := by decide +kernel
theorem dL_law_419 : decode cL_law 419 = .ok (.iaload, 1) := by decide +kernel
theorem dL_law_420 : decode cL_law 420 = .ok (.invokevirtual 51, 3) := by decide +kernel
theorem dL_law_423 : decode cL_law 423 = .ok (.pop, 1) := by decide +kernel
theorem dL_law_424 : decode cL_law 424 = .ok (.goto 625, 3) := by decide +kernel
theorem dL_law_427 : decode cL_law 427 = .ok (.aload_n 1, 1) := by decide +kernel
theorem dL_law_428 : decode cL_law 428 = .ok (.aload_n 0, 1) := by decide +kernel
theorem dL_law_429 : decode cL_law 429 = .ok (.iload 4, 2) := by decide +kernel
theorem dL_law_431 : decode cL_law 431 = .ok (.iconst 1, 1) := by decide +kernel
theorem dL_law_432 : decode cL_law 432 = .ok (.iadd, 1) := by decide +kernel
theorem dL_law_433 : decode cL_law 433 = .ok (.iaload, 1) := by decide +kernel
theorem dL_law_434 : decode cL_law 434 = .ok (.aload_n 0, 1) := by decide +kernel
theorem dL_law_435 : decode cL_law 435 = .ok (.iload 4, 2) := by decide +kernel
theorem dL_law_437 : decode cL_law 437 = .ok (.iconst 2, 1) := by decide +kernel
theorem dL_law_438 : decode cL_law 438 = .ok (.iadd, 1) := by decide +kernel
theorem dL_law_439 : decode cL_law 439 = .ok (.iaload, 1) := by decide +kernel
theorem dL_law_440 : decode cL_law 440 = .ok (.ifCond .eq 7, 3) := by decide +kernel
theorem dL_law_443 : decode cL_law 443 = .ok (.iconst 1, 1) := by decide +kernel
theorem dL_law_444 : decode cL_law 444 = .ok (.goto 4, 3) := by decide +kernel
theorem dL_law_447 : decode cL_law 447 = .ok (.iconst 0, 1) := by decide +kernel
theorem dL_law_448 : decode cL_law 448 = .ok (.invokevirtual 52, 3) := by decide +kernel
theorem dL_law_451 : decode cL_law 451 = .ok (.pop, 1) := by decide +kernel
theorem dL_law_452 : decode cL_law 452 = .ok (.aload_n 2, 1) := by decide +kernel
theorem dL_law_453 : decode cL_law 453 = .ok (.aload_n 0, 1) := by decide +kernel
theorem dL_law_454 : decode cL_law 454 = .ok (.iload 4, 2) := by decide +kernel
theorem dL_law_456 : decode cL_law 456 = .ok (.iconst 1, 1) := by decide +kernel
theorem dL_law_457 : decode cL_law 457 = .ok (.iadd, 1) := by decide +kernel
theorem dL_law_458 : decode cL_law 458 = .ok (.iaload, 1) := by decide +kernel
theorem dL_law_459 : decode cL_law 459 = .ok (.aload_n 0, 1) := by decide +kernel
theorem dL_law_460 : decode cL_law 460 = .ok (.iload 4, 2) := by decide +kernel
theorem dL_law_462 : decode cL_law 462 = .ok (.iconst 2, 1) := by decide +kernel
theorem dL_law_463 : decode cL_law 463 = .ok (.iadd, 1) := by decide +kernel
theorem dL_law_464 : decode cL_law 464 = .ok (.iaload, 1) := by decide +kernel
theorem dL_law_465 : decode cL_law 465 = .ok (.ifCond .eq 7, 3) := by decide +kernel
theorem dL_law_468 : decode cL_law 468 = .ok (.iconst 1, 1) := by decide +kernel
theorem dL_law_469 : decode cL_law 469 = .ok (.goto 4, 3) := by decide +kernel
theorem dL_law_472 : decode cL_law 472 = .ok (.iconst 0, 1) := by decide +kernel
theorem dL_law_473 : decode cL_law 473 = .ok (.invokevirtual 55, 3) := by decide +kernel
theorem dL_law_476 : decode cL_law 476 = .ok (.pop, 1) := by decide +kernel
theorem dL_law_477 : decode cL_law 477 = .ok (.goto 572, 3) := by decide +kernel
theorem dL_law_480 : decode cL_law 480 = .ok (.aload_n 1, 1) := by decide +kernel
theorem dL_law_481 : decode cL_law 481 = .ok (.aload_n 0, 1) := by decide +kernel
theorem dL_law_482 : decode cL_law 482 = .ok (.iload 4, 2) := by decide +kernel
theorem dL_law_484 : decode cL_law 484 = .ok (.iconst 1, 1) := by decide +kernel
theorem dL_law_485 : decode cL_law 485 = .ok (.iadd, 1) := by decide +kernel
theorem dL_law_486 : decode cL_law 486 = .ok (.iaload, 1) := by decide +kernel
theorem dL_law_487 : decode cL_law 487 = .ok (.aload_n 0, 1) := by decide +kernel
theorem dL_law_488 : decode cL_law 488 = .ok (.iload 4, 2) := by decide +kernel
theorem dL_law_490 : decode cL_law 490 = .ok (.iconst 2, 1) := by decide +kernel
theorem dL_law_491 : decode cL_law 491 = .ok (.iadd, 1) := by decide +kernel
theorem dL_law_492 : decode cL_law 492 = .ok (.iaload, 1) := by decide +kernel
theorem dL_law_493 : decode cL_law 493 = .ok (.invokevirtual 56, 3) := by decide +kernel
theorem dL_law_496 : decode cL_law 496 = .ok (.pop, 1) := by decide +kernel
theorem dL_law_497 : decode cL_law 497 = .ok (.aload_n 2, 1) := by decide +kernel
theorem dL_law_498 : decode cL_law 498 = .ok (.aload_n 0, 1) := by decide +kernel
theorem dL_law_499 : decode cL_law 499 = .ok (.iload 4, 2) := by decide +kernel
theorem dL_law_501 : decode cL_law 501 = .ok (.iconst 1, 1) := by decide +kernel
theorem dL_law_502 : decode cL_law 502 = .ok (.iadd, 1) := by decide +kernel
theorem dL_law_503 : decode cL_law 503 = .ok (.iaload, 1) := by decide +kernel
theorem dL_law_504 : decode cL_law 504 = .ok (.aload_n 0, 1) := by decide +kernel
theorem dL_law_505 : decode cL_law 505 = .ok (.iload 4, 2) := by decide +kernel
theorem dL_law_507 : decode cL_law 507 = .ok (.iconst 2, 1) := by decide +kernel
theorem dL_law_508 : decode cL_law 508 = .ok (.iadd, 1) := by decide +kernel
theorem dL_law_509 : decode cL_law 509 = .ok (.iaload, 1) := by decide +kernel
theorem dL_law_510 : decode cL_law 510 = .ok (.invokevirtual 59, 3) := by decide +kernel
theorem dL_law_513 : decode cL_law 513 = .ok (.pop, 1) := by decide +kernel
theorem dL_law_514 : decode cL_law 514 = .ok (.goto 535, 3) := by decide +kernel
theorem dL_law_517 : decode cL_law 517 = .ok (.aload_n 1, 1) := by decide +kernel
theorem dL_law_518 : decode cL_law 518 = .ok (.aload_n 0, 1) := by decide +kernel
theorem dL_law_519 : decode cL_law 519 = .ok (.iload 4, 2) := by decide +kernel
theorem dL_law_521 : decode cL_law 521 = .ok (.iconst 1, 1) := by decide +kernel
theorem dL_law_522 : decode cL_law 522 = .ok (.iadd, 1) := by decide +kernel
theorem dL_law_523 : decode cL_law 523 = .ok (.iaload, 1) := by decide +kernel
theorem dL_law_524 : decode cL_law 524 = .ok (.invokevirtual 60, 3) := by decide +kernel
theorem dL_law_527 : decode cL_law 527 = .ok (.pop, 1) := by decide +kernel
theorem dL_law_528 : decode cL_law 528 = .ok (.aload_n 2, 1) := by decide +kernel
theorem dL_law_529 : decode cL_law 529 = .ok (.aload_n 0, 1) := by decide +kernel
theorem dL_law_530 : decode cL_law 530 = .ok (.iload 4, 2) := by decide +kernel
theorem dL_law_532 : decode cL_law 532 = .ok (.iconst 1, 1) := by decide +kernel
theorem dL_law_533 : decode cL_law 533 = .ok (.iadd, 1) := by decide +kernel
theorem dL_law_534 : decode cL_law 534 = .ok (.iaload, 1) := by decide +kernel
theorem dL_law_535 : decode cL_law 535 = .ok (.invokevirtual 64, 3) := by decide +kernel
theorem dL_law_538 : decode cL_law 538 = .ok (.pop, 1) := by decide +kernel
theorem dL_law_539 : decode cL_law 539 = .ok (.goto 510, 3) := by decide +kernel
theorem dL_law_1049 : decode cL_law 1049 = .ok (.iinc 4 6, 3) := by decide +kernel
theorem dL_law_1052 : decode cL_law 1052 = .ok (.goto (-1029), 3) := by decide +kernel
set_option maxHeartbeats 4000000 in
set_option maxRecDepth 100000 in
theorem law_0 {p : Program} {l : Launch} {e : Env} {s : State} {m : MethodId} {below : List Frame} {meth : Method} {c : Code} {dC : Nat → ClassId} {dI : Nat → Nat → Nat} {b L : Nat} {xs : Nat → Int32} (hst : l.stackTraces = false) (hL : L ≤ 3072) (C0 : lw_At p s m meth c b L xs) (atx : Nat → Nat × Nat) (hG : GW s.heap.size atx s) (ad : Nat → Nat) (ka : Nat → ClassId) (x0 : Nat) (md : Nat → Nat) (mk9 : Nat → ClassId) (m0 : Nat) (i : Nat) (hi : i + 6 ≤ L) (K : ∀ (H : Heap) (locs : List Loc) (ls : Array Slot), LV dC dI s b L ad ka x0 md mk9 m0 (i + 6) H locs ls → W p l e room_1 s m #[Value.ref b] below meth c H locs (150 + 23 * (i + 6)) (3000 + 300 * (i + 6)) (lw_Z below #[Value.ref b] s) (F0 m 23 ls [])) (H : Heap) (locs : List Loc) (ls : Array Slot) (Gx Gm : Nat → Int) (wx wm : va_W) (tx tm : List (ClassId × FieldType)) (hXI : XI ad ka x0 Gx wx tx) (hMI : MZ md mk9 m0 Gm wm tm ∨ MB md mk9 m0 Gm wm tm) (hrl : REL Gx Gm) (hKx : va_K (dC, dI) classes tx s) (hKm : va_K (dC, dI) classes tm s) (hP : va_P (dC, dI) classes (wx ++ wm) H) (hD : va_D (fun q : Nat => s.heap.size ≤ q) (wx ++ wm)) (hS : va_S (fun q : Nat => s.heap.size ≤ q) s.heap H locs) (hl : lv_has ls 7 [(4, .int (nI i)), (3, .ref (ad 104)), (2, .ref m0), (1, .ref x0), (0, .ref b)]) : W p l e room_1 s m #[Value.ref b] below meth c H locs (150 + 23 * i) (3000 + 300 * i) (lw_Z below #[Value.ref b] s) (F0 m 176 ls []) := by
  obtain ⟨hx, hb, hr, hml, hown, hts0, hX, hbl, hlocks, hgv⟩ := C0
  have hts : ∀ w ∈ wG, w.before #[Value.ref b] s = true := fun w h => hts0 w (wG_t h)
  have hA : ∀ q : Nat, s.heap.size ≤ q → (fun q : Nat => s.heap.size ≤ q) q := fun _ h => h
  have hA0 : ∀ q : Nat, (fun q : Nat => s.heap.size ≤ q) q → s.heap.size ≤ q := fun _ h => h
  have hn0 : s.heap.size ≤ s.heap.size := Nat.le_refl _
  have hbA : ¬ (fun q : Nat => s.heap.size ≤ q) b := Nat.not_le.mpr hbl
  have hrl0 := rel0 hrl
  refine lv_aload_n hx hb dL_law_176 rfl (lv_at hl 3 rfl) ?_
  refine lv_aload_n hx hb dL_law_177 rfl (lv_at hl 4 rfl) ?_
  refine lv_iload hx hb dL_law_178 (lv_at hl 0 rfl) ?_
  refine lv_iconst (v := 1) hx hb dL_law_180 (by decide) ?_
  refine lv_iadd hx hb dL_law_181 ?_
  refine lv_topi (fun v_1 ev_1 => ?_)
  obtain rfl : v_1 = nI (i + 1) := ev_1.trans (nI_add i 1)
  refine va_sld hx hb hX hbl hbA hS (vp_in_nI (n := (i + 1)) (by omega) (by omega)) dL_law_182 ?_
  refine lv_topi (fun v_2 ev_2 => ?_)
  refine lv_aload_n hx hb dL_law_183 rfl (lv_at hl 4 rfl) ?_
  refine lv_iload hx hb dL_law_184 (lv_at hl 0 rfl) ?_
  refine lv_iconst (v := 2) hx hb dL_law_186 (by decide) ?_
  refine lv_iadd hx hb dL_law_187 ?_
  refine lv_topi (fun v_3 ev_3 => ?_)
  obtain rfl : v_3 = nI (i + 2) := ev_3.trans (nI_add i 2)
  refine va_sld hx hb hX hbl hbA hS (vp_in_nI (n := (i + 2)) (by omega) (by omega)) dL_law_188 ?_
  refine lv_topi (fun v_4 ev_4 => ?_)
  refine lv_aload_n hx hb dL_law_189 rfl (lv_at hl 4 rfl) ?_
  refine lv_iload hx hb dL_law_190 (lv_at hl 0 rfl) ?_
  refine lv_iconst (v := 3) hx hb dL_law_192 (by decide) ?_
  refine lv_iadd hx hb dL_law_193 ?_
  refine lv_topi (fun v_5 ev_5 => ?_)
  obtain rfl : v_5 = nI (i + 3) := ev_5.trans (nI_add i 3)
  refine va_sld hx hb hX hbl hbA hS (vp_in_nI (n := (i + 3)) (by omega) (by omega)) dL_law_194 ?_
  refine lv_topi (fun v_6 ev_6 => ?_)
  refine lv_aload_n hx hb dL_law_195 rfl (lv_at hl 4 rfl) ?_
  refine lv_iload hx hb dL_law_196 (lv_at hl 0 rfl) ?_
  refine lv_iconst (v := 4) hx hb dL_law_198 (by decide) ?_
  refine lv_iadd hx hb dL_law_199 ?_
  refine lv_topi (fun v_7 ev_7 => ?_)
  obtain rfl : v_7 = nI (i + 4) := ev_7.trans (nI_add i 4)
  refine va_sld hx hb hX hbl hbA hS (vp_in_nI (n := (i + 4)) (by omega) (by omega)) dL_law_200 ?_
  refine lv_topi (fun v_8 ev_8 => ?_)
  refine lv_aload_n hx hb dL_law_201 rfl (lv_at hl 4 rfl) ?_
  refine lv_iload hx hb dL_law_202 (lv_at hl 0 rfl) ?_
  refine lv_iconst (v := 5) hx hb dL_law_204 (by decide) ?_
  refine lv_iadd hx hb dL_law_205 ?_
  refine lv_topi (fun v_9 ev_9 => ?_)
  obtain rfl : v_9 = nI (i + 5) := ev_9.trans (nI_add i 5)
  refine va_sld hx hb hX hbl hbA hS (vp_in_nI (n := (i + 5)) (by omega) (by omega)) dL_law_206 ?_
  refine lv_topi (fun v_10 ev_10 => ?_)
  have hPc := ap_l hP
  have hDc := ad_l hD
  have hKc := hKx
  have hFc := fr_O hDc hS hA
  obtain ⟨fs9, hrc⟩ := XI_rc hXI
  refine va_calli (va_runV (As := [.int v_2, .int v_4, .int v_6, .int v_8, .int v_10]) (rest := []) ⟨hx, hb, hml, hown, hts⟩ (X_feed l dC dI s.heap.size atx H.size ad ka x0 Gx wx tx v_2 v_4 v_6 v_8 v_10 hXI ) (cwV 5 hts (gV (fun w h => id h) wd_710 wd_707 wd_708 wd_709 wd_114) rfl rfl rfl (by decide +kernel) ⟨Nat.le_of_ble_eq_true rfl, Nat.le_of_ble_eq_true rfl⟩) ⟨fun a U g mk q => by obtain ⟨q0, q1, q2, qG, qP, qK, qD⟩ := q; exact ⟨q0, q1, q2, GW.blind qG, qP, va_K.moved (u := U) (U := U.calling g mk a) (Vm.Alike.refl U.vm) qK, qD⟩, va_recv hKc hPc (ci := 11) (q0 := 0) rfl hrc, fun U hU hW => ⟨rfl, by rw [hU], Nat.le_trans hn0 hS.1, GW.go hW hU hG (fun q hq hA9 => hS.2.1 q hq (fun h => hA9 (hA0 q h))), by rw [hU]; exact hPc, va_K.moved hW.alike hKc, hDc.weaken (fun _ _ _ h => hA0 _ h)⟩⟩ rfl rfl hl.1 rfl (lv_room (Nat.le_of_ble_eq_true rfl)) dL_law_207 ⟨(by show _ ≤ (601024 : Nat); omega), (by show _ ≤ (7293034 : Nat); omega)⟩) hS (fun q _ h => hFc q h) hFc (fun r_11 u t H1 locs ht hvm hw_11 hB hz1 hk1 hS => ?_)
  subst hw_11
  obtain ⟨Gx_11, wx_11, tx_11, hIx_11, hrel_11, hP1, hK1, hD1⟩ := hB
  rw [ht] at hP1
  obtain ⟨hP, hD⟩ := jo_l hP hD hk1 hFc hP1 hD1
  have hKx_11 := va_K.moved hvm.symm hK1
  generalize H1 = H at hP hS ⊢
  refine lv_pop hx hb dL_law_210 rfl ?_
  refine lv_aload_n hx hb dL_law_211 rfl (lv_at hl 2 rfl) ?_
  refine lv_aload_n hx hb dL_law_212 rfl (lv_at hl 4 rfl) ?_
  refine lv_iload hx hb dL_law_213 (lv_at hl 0 rfl) ?_
  refine lv_iconst (v := 1) hx hb dL_law_215 (by decide) ?_
  refine lv_iadd hx hb dL_law_216 ?_
  refine lv_topi (fun v_12 ev_12 => ?_)
  obtain rfl : v_12 = nI (i + 1) := ev_12.trans (nI_add i 1)
  refine va_sld hx hb hX hbl hbA hS (vp_in_nI (n := (i + 1)) (by omega) (by omega)) dL_law_217 ?_
  refine lv_topi (fun v_13 ev_13 => ?_)
  obtain rfl : v_2 = v_13 := (ev_13.trans ev_2.symm).symm
  refine lv_aload_n hx hb dL_law_218 rfl (lv_at hl 4 rfl) ?_
  refine lv_iload hx hb dL_law_219 (lv_at hl 0 rfl) ?_
  refine lv_iconst (v := 2) hx hb dL_law_221 (by decide) ?_
  refine lv_iadd hx hb dL_law_222 ?_
  refine lv_topi (fun v_14 ev_14 => ?_)
  obtain rfl : v_14 = nI (i + 2) := ev_14.trans (nI_add i 2)
  refine va_sld hx hb hX hbl hbA hS (vp_in_nI (n := (i + 2)) (by omega) (by omega)) dL_law_223 ?_
  refine lv_topi (fun v_15 ev_15 => ?_)
  obtain rfl : v_4 = v_15 := (ev_15.trans ev_4.symm).symm
  refine lv_aload_n hx hb dL_law_224 rfl (lv_at hl 4 rfl) ?_
  refine lv_iload hx hb dL_law_225 (lv_at hl 0 rfl) ?_
  refine lv_iconst (v := 3) hx hb dL_law_227 (by decide) ?_
  refine lv_iadd hx hb dL_law_228 ?_
  refine lv_topi (fun v_16 ev_16 => ?_)
  obtain rfl : v_16 = nI (i + 3) := ev_16.trans (nI_add i 3)
  refine va_sld hx hb hX hbl hbA hS (vp_in_nI (n := (i + 3)) (by omega) (by omega)) dL_law_229 ?_
  refine lv_topi (fun v_17 ev_17 => ?_)
  obtain rfl : v_6 = v_17 := (ev_17.trans ev_6.symm).symm
  refine lv_aload_n hx hb dL_law_230 rfl (lv_at hl 4 rfl) ?_
  refine lv_iload hx hb dL_law_231 (lv_at hl 0 rfl) ?_
  refine lv_iconst (v := 4) hx hb dL_law_233 (by decide) ?_
  refine lv_iadd hx hb dL_law_234 ?_
  refine lv_topi (fun v_18 ev_18 => ?_)
  obtain rfl : v_18 = nI (i + 4) := ev_18.trans (nI_add i 4)
  refine va_sld hx hb hX hbl hbA hS (vp_in_nI (n := (i + 4)) (by omega) (by omega)) dL_law_235 ?_
  refine lv_topi (fun v_19 ev_19 => ?_)
  obtain rfl : v_8 = v_19 := (ev_19.trans ev_8.symm).symm
  refine lv_aload_n hx hb dL_law_236 rfl (lv_at hl 4 rfl) ?_
  refine lv_iload hx hb dL_law_237 (lv_at hl 0 rfl) ?_
  refine lv_iconst (v := 5) hx hb dL_law_239 (by decide) ?_
  refine lv_iadd hx hb dL_law_240 ?_
  refine lv_topi (fun v_20 ev_20 => ?_)
  obtain rfl : v_20 = nI (i + 5) := ev_20.trans (nI_add i 5)
  refine va_sld hx hb hX hbl hbA hS (vp_in_nI (n := (i + 5)) (by omega) (by omega)) dL_law_241 ?_
  refine lv_topi (fun v_21 ev_21 => ?_)
  obtain rfl : v_10 = v_21 := (ev_21.trans ev_10.symm).symm
  rcases hMI with hMI | hMI
  · skip
    have hPc := ap_r hP
    have hDc := ad_r hD
    have hKc := hKm
    have hFc := fr_O hDc hS hA
    obtain ⟨fs9, hrc⟩ := MZ_rc hMI
    refine va_calli (va_runV (As := [.int v_2, .int v_4, .int v_6, .int v_8, .int v_10]) (rest := []) ⟨hx, hb, hml, hown, hts⟩ (Z_feed l dC dI s.heap.size atx H.size md mk9 m0 Gm wm tm v_2 v_4 v_6 v_8 v_10 hMI ) (cwV 5 hts (gV (fun w h => id h) wd_1610 wd_1607 wd_1608 wd_1609 wd_127) rfl rfl rfl (by decide +kernel) ⟨Nat.le_of_ble_eq_true rfl, Nat.le_of_ble_eq_true rfl⟩) ⟨fun a U g mk q => by obtain ⟨q0, q1, q2, qG, qP, qK, qD⟩ := q; exact ⟨q0, q1, q2, GW.blind qG, qP, va_K.moved (u := U) (U := U.calling g mk a) (Vm.Alike.refl U.vm) qK, qD⟩, va_recv hKc hPc (ci := 14) (q0 := 0) rfl hrc, fun U hU hW => ⟨rfl, by rw [hU], Nat.le_trans hn0 hS.1, GW.go hW hU hG (fun q hq hA9 => hS.2.1 q hq (fun h => hA9 (hA0 q h))), by rw [hU]; exact hPc, va_K.moved hW.alike hKc, hDc.weaken (fun _ _ _ h => hA0 _ h)⟩⟩ rfl rfl hl.1 rfl (lv_room (Nat.le_of_ble_eq_true rfl)) dL_law_242 ⟨(by show _ ≤ (601024 : Nat); omega), (by show _ ≤ (7293034 : Nat); omega)⟩) hS (fun q _ h => hFc q h) hFc (fun r_22 u t H1 locs ht hvm hw_22 hB hz1 hk1 hS => ?_)
    subst hw_22
    obtain ⟨Gm_22, wm_22, tm_22, hIm_22, hrel_22, hP1, hK1, hD1⟩ := hB
    rw [ht] at hP1
    obtain ⟨hP, hD⟩ := jo_r hP hD hk1 hFc hP1 hD1
    have hKm_22 := va_K.moved hvm.symm hK1
    generalize H1 = H at hP hS ⊢
    refine lv_pop hx hb dL_law_245 rfl ?_
    refine lv_goto (tgt := 1049) hx hb dL_law_246 (by decide) ?_
    refine lv_iinc (v := (nI (i + 6))) (lv' := [(4, .int (nI (i + 6))), (3, .ref (ad 104)), (2, .ref m0), (1, .ref x0), (0, .ref b)]) hx hb dL_law_1049 hl (k := 0) rfl (nI_add _ 6) (by decide) rfl (fun ls hl => ?_)
    refine lv_goto (tgt := 23) hx hb dL_law_1052 (by decide) ?_
    refine W.widen (k := 150 + 23 * (i + 6)) (n := 3000 + 300 * (i + 6)) (by omega) (by omega) ?_
    exact K _ _ _ ⟨by omega, Gx_11, Gm_22, wx_11, wm_22, tx_11, tm_22, hIx_11, (Or.inl hIm_22), (rel_f hrl hrel_11.2.1 hrel_22.2.1 hrel_11.2.2 hrel_22.2.2), hKx_11, hKm_22, hP, hD, hS, lv_sub hl [0, 1, 2, 3, 4] rfl⟩
  · skip
    have hPc := ap_r hP
    have hDc := ad_r hD
    have hKc := hKm
    have hFc := fr_O hDc hS hA
    obtain ⟨fs9, hrc⟩ := MB_rc hMI
    refine va_calli (va_runV (As := [.int v_2, .int v_4, .int v_6, .int v_8, .int v_10]) (rest := []) ⟨hx, hb, hml, hown, hts⟩ (B_feed l dC dI s.heap.size atx H.size md mk9 m0 Gm wm tm v_2 v_4 v_6 v_8 v_10 hMI ) (cwV 5 hts (gV (fun w h => id h) wd_1610 wd_1607 wd_1608 wd_1609 wd_127) rfl rfl rfl (by decide +kernel) ⟨Nat.le_of_ble_eq_true rfl, Nat.le_of_ble_eq_true rfl⟩) ⟨fun a U g mk q => by obtain ⟨q0, q1, q2, qG, qP, qK, qD⟩ := q; exact ⟨q0, q1, q2, GW.blind qG, qP, va_K.moved (u := U) (U := U.calling g mk a) (Vm.Alike.refl U.vm) qK, qD⟩, va_recv hKc hPc (ci := 14) (q0 := 0) rfl hrc, fun U hU hW => ⟨rfl, by rw [hU], Nat.le_trans hn0 hS.1, GW.go hW hU hG (fun q hq hA9 => hS.2.1 q hq (fun h => hA9 (hA0 q h))), by rw [hU]; exact hPc, va_K.moved hW.alike hKc, hDc.weaken (fun _ _ _ h => hA0 _ h)⟩⟩ rfl rfl hl.1 rfl (lv_room (Nat.le_of_ble_eq_true rfl)) dL_law_242 ⟨(by show _ ≤ (601024 : Nat); omega), (by show _ ≤ (7293034 : Nat); omega)⟩) hS (fun q _ h => hFc q h) hFc (fun r_23 u t H1 locs ht hvm hw_23 hB hz1 hk1 hS => ?_)
    subst hw_23
    obtain ⟨Gm_23, wm_23, tm_23, hIm_23, hrel_23, hP1, hK1, hD1⟩ := hB
    rw [ht] at hP1
    obtain ⟨hP, hD⟩ := jo_r hP hD hk1 hFc hP1 hD1
    have hKm_23 := va_K.moved hvm.symm hK1
    generalize H1 = H at hP hS ⊢
    refine lv_pop hx hb dL_law_245 rfl ?_
    refine lv_goto (tgt := 1049) hx hb dL_law_246 (by decide) ?_
    refine lv_iinc (v := (nI (i + 6))) (lv' := [(4, .int (nI (i + 6))), (3, .ref (ad 104)), (2, .ref m0), (1, .ref x0), (0, .ref b)]) hx hb dL_law_1049 hl (k := 0) rfl (nI_add _ 6) (by decide) rfl (fun ls hl => ?_)
    refine lv_goto (tgt := 23) hx hb dL_law_1052 (by decide) ?_
    refine W.widen (k := 150 + 23 * (i + 6)) (n := 3000 + 300 * (i + 6)) (by omega) (by omega) ?_
    exact K _ _ _ ⟨by omega, Gx_11, Gm_23, wx_11, wm_23, tx_11, tm_23, hIx_11, (Or.inr hIm_23), (rel_f hrl hrel_11.2.1 hrel_23.2.1 hrel_11.2.2 hrel_23.2.2), hKx_11, hKm_23, hP, hD, hS, lv_sub hl [0, 1, 2, 3, 4] rfl⟩
set_option maxHeartbeats 4000000 in
set_option maxRecDepth 100000 in
theorem law_1 {p : Program} {l : Launch} {e : Env} {s : State} {m : MethodId} {below : List Frame} {meth : Method} {c : Code} {dC : Nat → ClassId} {dI : Nat → Nat → Nat} {b L : Nat} {xs : Nat → Int32} (hst : l.stackTraces = false) (hL : L ≤ 3072) (C0 : lw_At p s m meth c b L xs) (atx : Nat → Nat × Nat) (hG : GW s.heap.size atx s) (ad : Nat → Nat) (ka : Nat → ClassId) (x0 : Nat) (md : Nat → Nat) (mk9 : Nat → ClassId) (m0 : Nat) (i : Nat) (hi : i + 6 ≤ L) (K : ∀ (H : Heap) (locs : List Loc) (ls : Array Slot), LV dC dI s b L ad ka x0 md mk9 m0 (i + 6) H locs ls → W p l e room_1 s m #[Value.ref b] below meth c H locs (150 + 23 * (i + 6)) (3000 + 300 * (i + 6)) (lw_Z below #[Value.ref b] s) (F0 m 23 ls [])) (H : Heap) (locs : List Loc) (ls : Array Slot) (Gx Gm : Nat → Int) (wx wm : va_W) (tx tm : List (ClassId × FieldType)) (hXI : XI ad ka x0 Gx wx tx) (hMI : MZ md mk9 m0 Gm wm tm ∨ MB md mk9 m0 Gm wm tm) (hrl : REL Gx Gm) (hKx : va_K (dC, dI) classes tx s) (hKm : va_K (dC, dI) classes tm s) (hP : va_P (dC, dI) classes (wx ++ wm) H) (hD : va_D (fun q : Nat => s.heap.size ≤ q) (wx ++ wm)) (hS : va_S (fun q : Nat => s.heap.size ≤ q) s.heap H locs) (hl : lv_has ls 7 [(4, .int (nI i)), (3, .ref (ad 104)), (2, .ref m0), (1, .ref x0), (0, .ref b)]) : W p l e room_1 s m #[Value.ref b] below meth c H locs (150 + 23 * i) (3000 + 300 * i) (lw_Z below #[Value.ref b] s) (F0 m 249 ls []) := by
  obtain ⟨hx, hb, hr, hml, hown, hts0, hX, hbl, hlocks, hgv⟩ := C0
  have hts : ∀ w ∈ wG, w.before #[Value.ref b] s = true := fun w h => hts0 w (wG_t h)
  have hA : ∀ q : Nat, s.heap.size ≤ q → (fun q : Nat => s.heap.size ≤ q) q := fun _ h => h
  have hA0 : ∀ q : Nat, (fun q : Nat => s.heap.size ≤ q) q → s.heap.size ≤ q := fun _ h => h
  have hn0 : s.heap.size ≤ s.heap.size := Nat.le_refl _
  have hbA : ¬ (fun q : Nat => s.heap.size ≤ q) b := Nat.not_le.mpr hbl
  have hrl0 := rel0 hrl
  refine lv_aload_n hx hb dL_law_249 rfl (lv_at hl 3 rfl) ?_
  refine lv_aload_n hx hb dL_law_250 rfl (lv_at hl 4 rfl) ?_
  refine lv_iload hx hb dL_law_251 (lv_at hl 0 rfl) ?_
  refine lv_iconst (v := 1) hx hb dL_law_253 (by decide) ?_
  refine lv_iadd hx hb dL_law_254 ?_
  refine lv_topi (fun v_1 ev_1 => ?_)
  obtain rfl : v_1 = nI (i + 1) := ev_1.trans (nI_add i 1)
  refine va_sld hx hb hX hbl hbA hS (vp_in_nI (n := (i + 1)) (by omega) (by omega)) dL_law_255 ?_
  refine lv_topi (fun v_2 ev_2 => ?_)
  have hj := hXI_ge hXI
  by_cases hq : 0 ≤ v_2.toInt ∧ v_2.toInt ≤ Gx 0
  · skip
    obtain ⟨n1, hn1, rfl⟩ := i_of (n := 601) hq.1 (by omega) (by omega)
    have hz : (nI n1).toInt = (n1 : Int) := nI_toInt (by omega)
    have hPc := ap_l hP
    have hDc := ad_l hD
    have hKc := hKx
    have hFc := fr_O hDc hS hA
    obtain ⟨fs9, hrc⟩ := XI_rc hXI
    refine va_calli (va_runV (As := [.int (nI n1)]) (rest := []) ⟨hx, hb, hml, hown, hts⟩ (X_book1 l dC dI s.heap.size atx H.size ad ka x0 Gx wx tx n1 hXI (by omega)) (cwV 1 hts (gV (fun w h => id h) wd_718 wd_715 wd_716 wd_717 wd_114) rfl rfl rfl (by decide +kernel) ⟨Nat.le_of_ble_eq_true rfl, Nat.le_of_ble_eq_true rfl⟩) ⟨fun a U g mk q => by obtain ⟨q0, q1, q2, qG, qP, qK, qD⟩ := q; exact ⟨q0, q1, q2, GW.blind qG, qP, va_K.moved (u := U) (U := U.calling g mk a) (Vm.Alike.refl U.vm) qK, qD⟩, va_recv hKc hPc (ci := 11) (q0 := 0) rfl hrc, fun U hU hW => ⟨rfl, by rw [hU], Nat.le_trans hn0 hS.1, GW.go hW hU hG (fun q hq hA9 => hS.2.1 q hq (fun h => hA9 (hA0 q h))), by rw [hU]; exact hPc, va_K.moved hW.alike hKc, hDc.weaken (fun _ _ _ h => hA0 _ h)⟩⟩ rfl rfl hl.1 rfl (lv_room (Nat.le_of_ble_eq_true rfl)) dL_law_256 ⟨(by show _ ≤ (601024 : Nat); omega), (by show _ ≤ (7293034 : Nat); omega)⟩) hS (fun q _ h => hFc q h) hFc (fun r_3 u t H1 locs ht hvm hw_3 hB hz1 hk1 hS => ?_)
    subst hw_3
    obtain ⟨Gx_3, wx_3, tx_3, hIx_3, hrel_3, hP1, hK1, hD1⟩ := hB
    rw [ht] at hP1
    obtain ⟨hP, hD⟩ := jo_l hP hD hk1 hFc hP1 hD1
    have hKx_3 := va_K.moved hvm.symm hK1
    generalize H1 = H at hP hS ⊢
    refine lv_pop hx hb dL_law_259 rfl ?_
    refine lv_aload_n hx hb dL_law_260 rfl (lv_at hl 2 rfl) ?_
    refine lv_aload_n hx hb dL_law_261 rfl (lv_at hl 4 rfl) ?_
    refine lv_iload hx hb dL_law_262 (lv_at hl 0 rfl) ?_
    refine lv_iconst (v := 1) hx hb dL_law_264 (by decide) ?_
    refine lv_iadd hx hb dL_law_265 ?_
    refine lv_topi (fun v_4 ev_4 => ?_)
    obtain rfl : v_4 = nI (i + 1) := ev_4.trans (nI_add i 1)
    refine va_sld hx hb hX hbl hbA hS (vp_in_nI (n := (i + 1)) (by omega) (by omega)) dL_law_266 ?_
    refine lv_topi (fun v_5 ev_5 => ?_)
    obtain rfl : v_5 = nI n1 := ev_5.trans ev_2.symm
    rcases hMI with hMI | hMI
    · skip
      have hPc := ap_r hP
      have hDc := ad_r hD
      have hKc := hKm
      have hFc := fr_O hDc hS hA
      obtain ⟨fs9, hrc⟩ := MZ_rc hMI
      refine vx_calli (vx_runVX (As := [.int (nI n1)]) (rest := []) ⟨hx, hb, hml, hown, hts⟩ (Z_book1 l dC dI s.heap.size atx H.size md mk9 m0 Gm wm tm n1 hMI (by omega)) (vx_cwVW 1 hts (gV (fun w h => id h) wd_1614 wd_1611 wd_1612 wd_1613 wd_127) rfl rfl rfl (by decide +kernel) ⟨Nat.le_of_ble_eq_true rfl, Nat.le_of_ble_eq_true rfl⟩) ⟨fun a U g mk q => by obtain ⟨q0, q1, q2, qG, qP, qK, qD⟩ := q; exact ⟨q0, q1, q2, GW.blind qG, qP, va_K.moved (u := U) (U := U.calling g mk a) (Vm.Alike.refl U.vm) qK, qD⟩, va_recv hKc hPc (ci := 14) (q0 := 0) rfl hrc, fun U hU hW => ⟨rfl, by rw [hU], Nat.le_trans hn0 hS.1, GW.go hW hU hG (fun q hq hA9 => hS.2.1 q hq (fun h => hA9 (hA0 q h))), by rw [hU]; exact hPc, va_K.moved hW.alike hKc, hDc.weaken (fun _ _ _ h => hA0 _ h)⟩⟩ rfl rfl hl.1 rfl (lv_room (Nat.le_of_ble_eq_true rfl)) dL_law_267 ⟨(by show _ ≤ (601024 : Nat); omega), (by show _ ≤ (7293034 : Nat); omega)⟩) hS (fun q _ h => hFc q h) hFc (fun q _ h => hFc q h) (fun E ce q9 u t H1 locs ht hvm hw_6 hB hz1 hk1 hS hce hcv hcl => hw_no hw_6) (fun r_6 u t H1 locs ht hvm hw_6 hB hz1 hk1 hS => ?_)
      subst hw_6
      rcases hB with hB | hB
      · skip
        obtain ⟨Gm_6a, wm_6a, tm_6a, hIm_6a, hrel_6a, hP1, hK1, hD1⟩ := hB
        rw [ht] at hP1
        obtain ⟨hP, hD⟩ := jo_r hP hD hk1 hFc hP1 hD1
        have hKm_6a := va_K.moved hvm.symm hK1
        generalize H1 = H at hP hS ⊢
        refine lv_pop hx hb dL_law_270 rfl ?_
        refine lv_goto (tgt := 1049) hx hb dL_law_271 (by decide) ?_
        refine lv_iinc (v := (nI (i + 6))) (lv' := [(4, .int (nI (i + 6))), (3, .ref (ad 104)), (2, .ref m0), (1, .ref x0), (0, .ref b)]) hx hb dL_law_1049 hl (k := 0) rfl (nI_add _ 6) (by decide) rfl (fun ls hl => ?_)
        refine lv_goto (tgt := 23) hx hb dL_law_1052 (by decide) ?_
        refine W.widen (k := 150 + 23 * (i + 6)) (n := 3000 + 300 * (i + 6)) (by omega) (by omega) ?_
        exact K _ _ _ ⟨by omega, Gx_3, Gm_6a, wx_3, wm_6a, tx_3, tm_6a, hIx_3, (Or.inl hIm_6a), (rel_b hrl hrel_3 hrel_6a).2, hKx_3, hKm_6a, hP, hD, hS, lv_sub hl [0, 1, 2, 3, 4] rfl⟩
      · skip
        obtain ⟨Gm_6b, wm_6b, tm_6b, hIm_6b, hrel_6b, hP1, hK1, hD1⟩ := hB
        rw [ht] at hP1
        obtain ⟨hP, hD⟩ := jo_r hP hD hk1 hFc hP1 hD1
        have hKm_6b := va_K.moved hvm.symm hK1
        generalize H1 = H at hP hS ⊢
        refine lv_pop hx hb dL_law_270 rfl ?_
        refine lv_goto (tgt := 1049) hx hb dL_law_271 (by decide) ?_
        refine lv_iinc (v := (nI (i + 6))) (lv' := [(4, .int (nI (i + 6))), (3, .ref (ad 104)), (2, .ref m0), (1, .ref x0), (0, .ref b)]) hx hb dL_law_1049 hl (k := 0) rfl (nI_add _ 6) (by decide) rfl (fun ls hl => ?_)
        refine lv_goto (tgt := 23) hx hb dL_law_1052 (by decide) ?_
        refine W.widen (k := 150 + 23 * (i + 6)) (n := 3000 + 300 * (i + 6)) (by omega) (by omega) ?_
        exact K _ _ _ ⟨by omega, Gx_3, Gm_6b, wx_3, wm_6b, tx_3, tm_6b, hIx_3, (Or.inr hIm_6b), (rel_b hrl hrel_3 hrel_6b).2, hKx_3, hKm_6b, hP, hD, hS, lv_sub hl [0, 1, 2, 3, 4] rfl⟩
    · skip
      have hPc := ap_r hP
      have hDc := ad_r hD
      have hKc := hKm
      have hFc := fr_O hDc hS hA
      obtain ⟨fs9, hrc⟩ := MB_rc hMI
      refine vx_calli (vx_runVX (As := [.int (nI n1)]) (rest := []) ⟨hx, hb, hml, hown, hts⟩ (B_book1 l dC dI s.heap.size atx H.size md mk9 m0 Gm wm tm n1 hMI (by omega)) (vx_cwVW 1 hts (gV (fun w h => id h) wd_1614 wd_1611 wd_1612 wd_1613 wd_127) rfl rfl rfl (by decide +kernel) ⟨Nat.le_of_ble_eq_true rfl, Nat.le_of_ble_eq_true rfl⟩) ⟨fun a U g mk q => by obtain ⟨q0, q1, q2, qG, qP, qK, qD⟩ := q; exact ⟨q0, q1, q2, GW.blind qG, qP, va_K.moved (u := U) (U := U.calling g mk a) (Vm.Alike.refl U.vm) qK, qD⟩, va_recv hKc hPc (ci := 14) (q0 := 0) rfl hrc, fun U hU hW => ⟨rfl, by rw [hU], Nat.le_trans hn0 hS.1, GW.go hW hU hG (fun q hq hA9 => hS.2.1 q hq (fun h => hA9 (hA0 q h))), by rw [hU]; exact hPc, va_K.moved hW.alike hKc, hDc.weaken (fun _ _ _ h => hA0 _ h)⟩⟩ rfl rfl hl.1 rfl (lv_room (Nat.le_of_ble_eq_true rfl)) dL_law_267 ⟨(by show _ ≤ (601024 : Nat); omega), (by show _ ≤ (7293034 : Nat); omega)⟩) hS (fun q _ h => hFc q h) hFc (fun q _ h => hFc q h) (fun E ce q9 u t H1 locs ht hvm hw_7 hB hz1 hk1 hS hce hcv hcl => hw_no hw_7) (fun r_7 u t H1 locs ht hvm hw_7 hB hz1 hk1 hS => ?_)
      subst hw_7
      rcases hB with hB | hB
      · skip
        obtain ⟨Gm_7a, wm_7a, tm_7a, hIm_7a, hrel_7a, hP1, hK1, hD1⟩ := hB
        rw [ht] at hP1
        obtain ⟨hP, hD⟩ := jo_r hP hD hk1 hFc hP1 hD1
        have hKm_7a := va_K.moved hvm.symm hK1
        generalize H1 = H at hP hS ⊢
        refine lv_pop hx hb dL_law_270 rfl ?_
        refine lv_goto (tgt := 1049) hx hb dL_law_271 (by decide) ?_
        refine lv_iinc (v := (nI (i + 6))) (lv' := [(4, .int (nI (i + 6))), (3, .ref (ad 104)), (2, .ref m0), (1, .ref x0), (0, .ref b)]) hx hb dL_law_1049 hl (k := 0) rfl (nI_add _ 6) (by decide) rfl (fun ls hl => ?_)
        refine lv_goto (tgt := 23) hx hb dL_law_1052 (by decide) ?_
        refine W.widen (k := 150 + 23 * (i + 6)) (n := 3000 + 300 * (i + 6)) (by omega) (by omega) ?_
        exact K _ _ _ ⟨by omega, Gx_3, Gm_7a, wx_3, wm_7a, tx_3, tm_7a, hIx_3, (Or.inr hIm_7a), (rel_b hrl hrel_3 hrel_7a).2, hKx_3, hKm_7a, hP, hD, hS, lv_sub hl [0, 1, 2, 3, 4] rfl⟩
      · skip
        obtain ⟨Gm_7b, wm_7b, tm_7b, hIm_7b, hrel_7b, hP1, hK1, hD1⟩ := hB
        rw [ht] at hP1
        obtain ⟨hP, hD⟩ := jo_r hP hD hk1 hFc hP1 hD1
        have hKm_7b := va_K.moved hvm.symm hK1
        generalize H1 = H at hP hS ⊢
        refine lv_pop hx hb dL_law_270 rfl ?_
        refine lv_goto (tgt := 1049) hx hb dL_law_271 (by decide) ?_
        refine lv_iinc (v := (nI (i + 6))) (lv' := [(4, .int (nI (i + 6))), (3, .ref (ad 104)), (2, .ref m0), (1, .ref x0), (0, .ref b)]) hx hb dL_law_1049 hl (k := 0) rfl (nI_add _ 6) (by decide) rfl (fun ls hl => ?_)
        refine lv_goto (tgt := 23) hx hb dL_law_1052 (by decide) ?_
        refine W.widen (k := 150 + 23 * (i + 6)) (n := 3000 + 300 * (i + 6)) (by omega) (by omega) ?_
        exact K _ _ _ ⟨by omega, Gx_3, Gm_7b, wx_3, wm_7b, tx_3, tm_7b, hIx_3, (Or.inr hIm_7b), (rel_b hrl hrel_3 hrel_7b).2, hKx_3, hKm_7b, hP, hD, hS, lv_sub hl [0, 1, 2, 3, 4] rfl⟩
  · skip
    have hPc := ap_l hP
    have hDc := ad_l hD
    have hKc := hKx
    have hFc := fr_O hDc hS hA
    obtain ⟨fs9, hrc⟩ := XI_rc hXI
    refine va_calli (va_runV (As := [.int v_2]) (rest := []) ⟨hx, hb, hml, hown, hts⟩ (X_book0 l dC dI s.heap.size atx H.size ad ka x0 Gx wx tx v_2 hXI (by omega)) (cwV 1 hts (gV (fun w h => id h) wd_718 wd_715 wd_716 wd_717 wd_114) rfl rfl rfl (by decide +kernel) ⟨Nat.le_of_ble_eq_true rfl, Nat.le_of_ble_eq_true rfl⟩) ⟨fun a U g mk q => by obtain ⟨q0, q1, q2, qG, qP, qK, qD⟩ := q; exact ⟨q0, q1, q2, GW.blind qG, qP, va_K.moved (u := U) (U := U.calling g mk a) (Vm.Alike.refl U.vm) qK, qD⟩, va_recv hKc hPc (ci := 11) (q0 := 0) rfl hrc, fun U hU hW => ⟨rfl, by rw [hU], Nat.le_trans hn0 hS.1, GW.go hW hU hG (fun q hq hA9 => hS.2.1 q hq (fun h => hA9 (hA0 q h))), by rw [hU]; exact hPc, va_K.moved hW.alike hKc, hDc.weaken (fun _ _ _ h => hA0 _ h)⟩⟩ rfl rfl hl.1 rfl (lv_room (Nat.le_of_ble_eq_true rfl)) dL_law_256 ⟨(by show _ ≤ (601024 : Nat); omega), (by show _ ≤ (7293034 : Nat); omega)⟩) hS (fun q _ h => hFc q h) hFc (fun r_8 u t H1 locs ht hvm hw_8 hB hz1 hk1 hS => ?_)
    subst hw_8
    obtain ⟨Gx_8, wx_8, tx_8, hIx_8, hrel_8, hP1, hK1, hD1⟩ := hB
    rw [ht] at hP1
    obtain ⟨hP, hD⟩ := jo_l hP hD hk1 hFc hP1 hD1
    have hKx_8 := va_K.moved hvm.symm hK1
    generalize H1 = H at hP hS ⊢
    refine lv_pop hx hb dL_law_259 rfl ?_
    refine lv_aload_n hx hb dL_law_260 rfl (lv_at hl 2 rfl) ?_
    refine lv_aload_n hx hb dL_law_261 rfl (lv_at hl 4 rfl) ?_
    refine lv_iload hx hb dL_law_262 (lv_at hl 0 rfl) ?_
    refine lv_iconst (v := 1) hx hb dL_law_264 (by decide) ?_
    refine lv_iadd hx hb dL_law_265 ?_
    refine lv_topi (fun v_9 ev_9 => ?_)
    obtain rfl : v_9 = nI (i + 1) := ev_9.trans (nI_add i 1)
    refine va_sld hx hb hX hbl hbA hS (vp_in_nI (n := (i + 1)) (by omega) (by omega)) dL_law_266 ?_
    refine lv_topi (fun v_10 ev_10 => ?_)
    obtain rfl : v_2 = v_10 := (ev_10.trans ev_2.symm).symm
    rcases hMI with hMI | hMI
    · skip
      have hPc := ap_r hP
      have hDc := ad_r hD
      have hKc := hKm
      have hFc := fr_O hDc hS hA
      obtain ⟨fs9, hrc⟩ := MZ_rc hMI
      refine vx_calli (vx_runVX (As := [.int v_2]) (rest := []) ⟨hx, hb, hml, hown, hts⟩ (Z_book0 l dC dI s.heap.size atx H.size md mk9 m0 Gm wm tm v_2 hMI (by omega)) (vx_cwVW 1 hts (gV (fun w h => id h) wd_1614 wd_1611 wd_1612 wd_1613 wd_127) rfl rfl rfl (by decide +kernel) ⟨Nat.le_of_ble_eq_true rfl, Nat.le_of_ble_eq_true rfl⟩) ⟨fun a U g mk q => by obtain ⟨q0, q1, q2, qG, qP, qK, qD⟩ := q; exact ⟨q0, q1, q2, GW.blind qG, qP, va_K.moved (u := U) (U := U.calling g mk a) (Vm.Alike.refl U.vm) qK, qD⟩, va_recv hKc hPc (ci := 14) (q0 := 0) rfl hrc, fun U hU hW => ⟨rfl, by rw [hU], Nat.le_trans hn0 hS.1, GW.go hW hU hG (fun q hq hA9 => hS.2.1 q hq (fun h => hA9 (hA0 q h))), by rw [hU]; exact hPc, va_K.moved hW.alike hKc, hDc.weaken (fun _ _ _ h => hA0 _ h)⟩⟩ rfl rfl hl.1 rfl (lv_room (Nat.le_of_ble_eq_true rfl)) dL_law_267 ⟨(by show _ ≤ (601024 : Nat); omega), (by show _ ≤ (7293034 : Nat); omega)⟩) hS (fun q _ h => hFc q h) hFc (fun q _ h => hFc q h) (fun E ce q9 u t H1 locs ht hvm hw_11 hB hz1 hk1 hS hce hcv hcl => hw_no hw_11) (fun r_11 u t H1 locs ht hvm hw_11 hB hz1 hk1 hS => ?_)
      subst hw_11
      obtain ⟨Gm_11, wm_11, tm_11, hIm_11, hrel_11, hP1, hK1, hD1⟩ := hB
      rw [ht] at hP1
      obtain ⟨hP, hD⟩ := jo_r hP hD hk1 hFc hP1 hD1
      have hKm_11 := va_K.moved hvm.symm hK1
      generalize H1 = H at hP hS ⊢
      refine lv_pop hx hb dL_law_270 rfl ?_
      refine lv_goto (tgt := 1049) hx hb dL_law_271 (by decide) ?_
      refine lv_iinc (v := (nI (i + 6))) (lv' := [(4, .int (nI (i + 6))), (3, .ref (ad 104)), (2, .ref m0), (1, .ref x0), (0, .ref b)]) hx hb dL_law_1049 hl (k := 0) rfl (nI_add _ 6) (by decide) rfl (fun ls hl => ?_)
      refine lv_goto (tgt := 23) hx hb dL_law_1052 (by decide) ?_
      refine W.widen (k := 150 + 23 * (i + 6)) (n := 3000 + 300 * (i + 6)) (by omega) (by omega) ?_
      exact K _ _ _ ⟨by omega, Gx_8, Gm_11, wx_8, wm_11, tx_8, tm_11, hIx_8, (Or.inl hIm_11), (rel_l hrl hrel_8.2.1 hrel_11.2.1 hrel_8.2.2 hrel_11.2.2), hKx_8, hKm_11, hP, hD, hS, lv_sub hl [0, 1, 2, 3, 4] rfl⟩
    · skip
      have hPc := ap_r hP
      have hDc := ad_r hD
      have hKc := hKm
      have hFc := fr_O hDc hS hA
      obtain ⟨fs9, hrc⟩ := MB_rc hMI
      refine vx_calli (vx_runVX (As := [.int v_2]) (rest := []) ⟨hx, hb, hml, hown, hts⟩ (B_book0 l dC dI s.heap.size atx H.size md mk9 m0 Gm wm tm v_2 hMI (by omega)) (vx_cwVW 1 hts (gV (fun w h => id h) wd_1614 wd_1611 wd_1612 wd_1613 wd_127) rfl rfl rfl (by decide +kernel) ⟨Nat.le_of_ble_eq_true rfl, Nat.le_of_ble_eq_true rfl⟩) ⟨fun a U g mk q => by obtain ⟨q0, q1, q2, qG, qP, qK, qD⟩ := q; exact ⟨q0, q1, q2, GW.blind qG, qP, va_K.moved (u := U) (U := U.calling g mk a) (Vm.Alike.refl U.vm) qK, qD⟩, va_recv hKc hPc (ci := 14) (q0 := 0) rfl hrc, fun U hU hW => ⟨rfl, by rw [hU], Nat.le_trans hn0 hS.1, GW.go hW hU hG (fun q hq hA9 => hS.2.1 q hq (fun h => hA9 (hA0 q h))), by rw [hU]; exact hPc, va_K.moved hW.alike hKc, hDc.weaken (fun _ _ _ h => hA0 _ h)⟩⟩ rfl rfl hl.1 rfl (lv_room (Nat.le_of_ble_eq_true rfl)) dL_law_267 ⟨(by show _ ≤ (601024 : Nat); omega), (by show _ ≤ (7293034 : Nat); omega)⟩) hS (fun q _ h => hFc q h) hFc (fun q _ h => hFc q h) (fun E ce q9 u t H1 locs ht hvm hw_12 hB hz1 hk1 hS hce hcv hcl => hw_no hw_12) (fun r_12 u t H1 locs ht hvm hw_12 hB hz1 hk1 hS => ?_)
      subst hw_12
      obtain ⟨Gm_12, wm_12, tm_12, hIm_12, hrel_12, hP1, hK1, hD1⟩ := hB
      rw [ht] at hP1
      obtain ⟨hP, hD⟩ := jo_r hP hD hk1 hFc hP1 hD1
      have hKm_12 := va_K.moved hvm.symm hK1
      generalize H1 = H at hP hS ⊢
      refine lv_pop hx hb dL_law_270 rfl ?_
      refine lv_goto (tgt := 1049) hx hb dL_law_271 (by decide) ?_
      refine lv_iinc (v := (nI (i + 6))) (lv' := [(4, .int (nI (i + 6))), (3, .ref (ad 104)), (2, .ref m0), (1, .ref x0), (0, .ref b)]) hx hb dL_law_1049 hl (k := 0) rfl (nI_add _ 6) (by decide) rfl (fun ls hl => ?_)
      refine lv_goto (tgt := 23) hx hb dL_law_1052 (by decide) ?_
      refine W.widen (k := 150 + 23 * (i + 6)) (n := 3000 + 300 * (i + 6)) (by omega) (by omega) ?_
      exact K _ _ _ ⟨by omega, Gx_8, Gm_12, wx_8, wm_12, tx_8, tm_12, hIx_8, (Or.inr hIm_12), (rel_l hrl hrel_8.2.1 hrel_12.2.1 hrel_8.2.2 hrel_12.2.2), hKx_8, hKm_12, hP, hD, hS, lv_sub hl [0, 1, 2, 3, 4] rfl⟩
set_option maxHeartbeats 4000000 in
set_option maxRecDepth 100000 in
theorem law_2 {p : Program} {l : Launch} {e : Env} {s : State} {m : MethodId} {below : List Frame} {meth : Method} {c : Code} {dC : Nat → ClassId} {dI : Nat → Nat → Nat} {b L : Nat} {xs : Nat → Int32} (hst : l.stackTraces = false) (hL : L ≤ 3072) (C0 : lw_At p s m meth c b L xs) (atx : Nat → Nat × Nat) (hG : GW s.heap.size atx s) (ad : Nat → Nat) (ka : Nat → ClassId) (x0 : Nat) (md : Nat → Nat) (mk9 : Nat → ClassId) (m0 : Nat) (i : Nat) (hi : i + 6 ≤ L) (K : ∀ (H : Heap) (locs : List Loc) (ls : Array Slot), LV dC dI s b L ad ka x0 md mk9 m0 (i + 6) H locs ls → W p l e room_1 s m #[Value.ref b] below meth c H locs (150 + 23 * (i + 6)) (3000 + 300 * (i + 6)) (lw_Z below #[Value.ref b] s) (F0 m 23 ls [])) (H : Heap) (locs : List Loc) (ls : Array Slot) (Gx Gm : Nat → Int) (wx wm : va_W) (tx tm : List (ClassId × FieldType)) (hXI : XI ad ka x0 Gx wx tx) (hMI : MZ md mk9 m0 Gm wm tm ∨ MB md mk9 m0 Gm wm tm) (hrl : REL Gx Gm) (hKx : va_K (dC, dI) classes tx s) (hKm : va_K (dC, dI) classes tm s) (hP : va_P (dC, dI) classes (wx ++ wm) H) (hD : va_D (fun q : Nat => s.heap.size ≤ q) (wx ++ wm)) (hS : va_S (fun q : Nat => s.heap.size ≤ q) s.heap H locs) (hl : lv_has ls 7 [(4, .int (nI i)), (3, .ref (ad 104)), (2, .ref m0), (1, .ref x0), (0, .ref b)]) : W p l e room_1 s m #[Value.ref b] below meth c H locs (150 + 23 * i) (3000 + 300 * i) (lw_Z below #[Value.ref b] s) (F0 m 274 ls []) := by
  obtain ⟨hx, hb, hr, hml, hown, hts0, hX, hbl, hlocks, hgv⟩ := C0
  have hts : ∀ w ∈ wG, w.before #[Value.ref b] s = true := fun w h => hts0 w (wG_t h)
  have hA : ∀ q : Nat, s.heap.size ≤ q → (fun q : Nat => s.heap.size ≤ q) q := fun _ h => h
  have hA0 : ∀ q : Nat, (fun q : Nat => s.heap.size ≤ q) q → s.heap.size ≤ q := fun _ h => h
  have hn0 : s.heap.size ≤ s.heap.size := Nat.le_refl _
  have hbA : ¬ (fun q : Nat => s.heap.size ≤ q) b := Nat.not_le.mpr hbl
  have hrl0 := rel0 hrl
  refine lv_aload_n hx hb dL_law_274 rfl (lv_at hl 3 rfl) ?_
  have hPc := ap_l hP
  have hDc := ad_l hD
  have hKc := hKx
  have hFc := fr_O hDc hS hA
  obtain ⟨fs9, hrc⟩ := XI_rc hXI
  refine va_calli (va_runV (As := []) (rest := []) ⟨hx, hb, hml, hown, hts⟩ (X_fault l dC dI s.heap.size atx H.size ad ka x0 Gx wx tx  hXI ) (cwV 0 hts (gV (fun w h => id h) wd_938 wd_935 wd_936 wd_937 wd_114) rfl rfl rfl (by decide +kernel) ⟨Nat.le_of_ble_eq_true rfl, Nat.le_of_ble_eq_true rfl⟩) ⟨fun a U g mk q => by obtain ⟨q0, q1, q2, qG, qP, qK, qD⟩ := q; exact ⟨q0, q1, q2, GW.blind qG, qP, va_K.moved (u := U) (U := U.calling g mk a) (Vm.Alike.refl U.vm) qK, qD⟩, va_recv hKc hPc (ci := 11) (q0 := 0) rfl hrc, fun U hU hW => ⟨rfl, by rw [hU], Nat.le_trans hn0 hS.1, GW.go hW hU hG (fun q hq hA9 => hS.2.1 q hq (fun h => hA9 (hA0 q h))), by rw [hU]; exact hPc, va_K.moved hW.alike hKc, hDc.weaken (fun _ _ _ h => hA0 _ h)⟩⟩ rfl rfl hl.1 rfl (lv_room (Nat.le_of_ble_eq_true rfl)) dL_law_275 ⟨(by show _ ≤ (601024 : Nat); omega), (by show _ ≤ (7293034 : Nat); omega)⟩) hS (fun q _ h => hFc q h) hFc (fun r_1 u t H1 locs ht hvm hw_1 hB hz1 hk1 hS => ?_)
  subst hw_1
  obtain ⟨Gx_1, wx_1, tx_1, hIx_1, hrel_1, hP1, hK1, hD1⟩ := hB
  rw [ht] at hP1
  obtain ⟨hP, hD⟩ := jo_l hP hD hk1 hFc hP1 hD1
  have hKx_1 := va_K.moved hvm.symm hK1
  generalize H1 = H at hP hS ⊢
  refine lv_pop hx hb dL_law_278 rfl ?_
  refine lv_aload_n hx hb dL_law_279 rfl (lv_at hl 2 rfl) ?_
  rcases hMI with hMI | hMI
  · skip
    have hPc := ap_r hP
    have hDc := ad_r hD
    have hKc := hKm
    have hFc := fr_O hDc hS hA
    obtain ⟨fs9, hrc⟩ := MZ_rc hMI
    refine va_calli (va_runV (As := []) (rest := []) ⟨hx, hb, hml, hown, hts⟩ (Z_fault l dC dI s.heap.size atx H.size md mk9 m0 Gm wm tm  hMI ) (cwV 0 hts (gV (fun w h => id h) wd_1853 wd_1850 wd_1851 wd_1852 wd_127) rfl rfl rfl (by decide +kernel) ⟨Nat.le_of_ble_eq_true rfl, Nat.le_of_ble_eq_true rfl⟩) ⟨fun a U g mk q => by obtain ⟨q0, q1, q2, qG, qP, qK, qD⟩ := q; exact ⟨q0, q1, q2, GW.blind qG, qP, va_K.moved (u := U) (U := U.calling g mk a) (Vm.Alike.refl U.vm) qK, qD⟩, va_recv hKc hPc (ci := 14) (q0 := 0) rfl hrc, fun U hU hW => ⟨rfl, by rw [hU], Nat.le_trans hn0 hS.1, GW.go hW hU hG (fun q hq hA9 => hS.2.1 q hq (fun h => hA9 (hA0 q h))), by rw [hU]; exact hPc, va_K.moved hW.alike hKc, hDc.weaken (fun _ _ _ h => hA0 _ h)⟩⟩ rfl rfl hl.1 rfl (lv_room (Nat.le_of_ble_eq_true rfl)) dL_law_280 ⟨(by show _ ≤ (601024 : Nat); omega), (by show _ ≤ (7293034 : Nat); omega)⟩) hS (fun q _ h => hFc q h) hFc (fun r_2 u t H1 locs ht hvm hw_2 hB hz1 hk1 hS => ?_)
    subst hw_2
    obtain ⟨Gm_2, wm_2, tm_2, hIm_2, hrel_2, hP1, hK1, hD1⟩ := hB
    rw [ht] at hP1
    obtain ⟨hP, hD⟩ := jo_r hP hD hk1 hFc hP1 hD1
    have hKm_2 := va_K.moved hvm.symm hK1
    generalize H1 = H at hP hS ⊢
    refine lv_pop hx hb dL_law_283 rfl ?_
    refine lv_goto (tgt := 1049) hx hb dL_law_284 (by decide) ?_
    refine lv_iinc (v := (nI (i + 6))) (lv' := [(4, .int (nI (i + 6))), (3, .ref (ad 104)), (2, .ref m0), (1, .ref x0), (0, .ref b)]) hx hb dL_law_1049 hl (k := 0) rfl (nI_add _ 6) (by decide) rfl (fun ls hl => ?_)
    refine lv_goto (tgt := 23) hx hb dL_law_1052 (by decide) ?_
    refine W.widen (k := 150 + 23 * (i + 6)) (n := 3000 + 300 * (i + 6)) (by omega) (by omega) ?_
    exact K _ _ _ ⟨by omega, Gx_1, Gm_2, wx_1, wm_2, tx_1, tm_2, hIx_1, (Or.inl hIm_2), (rel_q hrl hrel_1.2.1 hrel_2.2.1 hrel_1.2.2 hrel_2.2.2), hKx_1, hKm_2, hP, hD, hS, lv_sub hl [0, 1, 2, 3, 4] rfl⟩
  · skip
    have hPc := ap_r hP
    have hDc := ad_r hD
    have hKc := hKm
    have hFc := fr_O hDc hS hA
    obtain ⟨fs9, hrc⟩ := MB_rc hMI
    refine va_calli (va_runV (As := []) (rest := []) ⟨hx, hb, hml, hown, hts⟩ (B_fault l dC dI s.heap.size atx H.size md mk9 m0 Gm wm tm  hMI ) (cwV 0 hts (gV (fun w h => id h) wd_1853 wd_1850 wd_1851 wd_1852 wd_127) rfl rfl rfl (by decide +kernel) ⟨Nat.le_of_ble_eq_true rfl, Nat.le_of_ble_eq_true rfl⟩) ⟨fun a U g mk q => by obtain ⟨q0, q1, q2, qG, qP, qK, qD⟩ := q; exact ⟨q0, q1, q2, GW.blind qG, qP, va_K.moved (u := U) (U := U.calling g mk a) (Vm.Alike.refl U.vm) qK, qD⟩, va_recv hKc hPc (ci := 14) (q0 := 0) rfl hrc, fun U hU hW => ⟨rfl, by rw [hU], Nat.le_trans hn0 hS.1, GW.go hW hU hG (fun q hq hA9 => hS.2.1 q hq (fun h => hA9 (hA0 q h))), by rw [hU]; exact hPc, va_K.moved hW.alike hKc, hDc.weaken (fun _ _ _ h => hA0 _ h)⟩⟩ rfl rfl hl.1 rfl (lv_room (Nat.le_of_ble_eq_true rfl)) dL_law_280 ⟨(by show _ ≤ (601024 : Nat); omega), (by show _ ≤ (7293034 : Nat); omega)⟩) hS (fun q _ h => hFc q h) hFc (fun r_3 u t H1 locs ht hvm hw_3 hB hz1 hk1 hS => ?_)
    subst hw_3
    obtain ⟨Gm_3, wm_3, tm_3, hIm_3, hrel_3, hP1, hK1, hD1⟩ := hB
    rw [ht] at hP1
    obtain ⟨hP, hD⟩ := jo_r hP hD hk1 hFc hP1 hD1
    have hKm_3 := va_K.moved hvm.symm hK1
    generalize H1 = H at hP hS ⊢
    refine lv_pop hx hb dL_law_283 rfl ?_
    refine lv_goto (tgt := 1049) hx hb dL_law_284 (by decide) ?_
    refine lv_iinc (v := (nI (i + 6))) (lv' := [(4, .int (nI (i + 6))), (3, .ref (ad 104)), (2, .ref m0), (1, .ref x0), (0, .ref b)]) hx hb dL_law_1049 hl (k := 0) rfl (nI_add _ 6) (by decide) rfl (fun ls hl => ?_)
    refine lv_goto (tgt := 23) hx hb dL_law_1052 (by decide) ?_
    refine W.widen (k := 150 + 23 * (i + 6)) (n := 3000 + 300 * (i + 6)) (by omega) (by omega) ?_
    exact K _ _ _ ⟨by omega, Gx_1, Gm_3, wx_1, wm_3, tx_1, tm_3, hIx_1, (Or.inr hIm_3), (rel_q hrl hrel_1.2.1 hrel_3.2.1 hrel_1.2.2 hrel_3.2.2), hKx_1, hKm_3, hP, hD, hS, lv_sub hl [0, 1, 2, 3, 4] rfl⟩
set_option maxHeartbeats 4000000 in
set_option maxRecDepth 100000 in
theorem law_3 {p : Program} {l : Launch} {e : Env} {s : State} {m : MethodId} {below : List Frame} {meth : Method} {c : Code} {dC : Nat → ClassId} {dI : Nat → Nat → Nat} {b L : Nat} {xs : Nat → Int32} (hst : l.stackTraces = false) (hL : L ≤ 3072) (C0 : lw_At p s m meth c b L xs) (atx : Nat → Nat × Nat) (hG : GW s.heap.size atx s) (ad : Nat → Nat) (ka : Nat → ClassId) (x0 : Nat) (md : Nat → Nat) (mk9 : Nat → ClassId) (m0 : Nat) (i : Nat) (hi : i + 6 ≤ L) (K : ∀ (H : Heap) (locs : List Loc) (ls : Array Slot), LV dC dI s b L ad ka x0 md mk9 m0 (i + 6) H locs ls → W p l e room_1 s m #[Value.ref b] below meth c H locs (150 + 23 * (i + 6)) (3000 + 300 * (i + 6)) (lw_Z below #[Value.ref b] s) (F0 m 23 ls [])) (H : Heap) (locs : List Loc) (ls : Array Slot) (Gx Gm : Nat → Int) (wx wm : va_W) (tx tm : List (ClassId × FieldType)) (hXI : XI ad ka x0 Gx wx tx) (hMI : MZ md mk9 m0 Gm wm tm ∨ MB md mk9 m0 Gm wm tm) (hrl : REL Gx Gm) (hKx : va_K (dC, dI) classes tx s) (hKm : va_K (dC, dI) classes tm s) (hP : va_P (dC, dI) classes (wx ++ wm) H) (hD : va_D (fun q : Nat => s.heap.size ≤ q) (wx ++ wm)) (hS : va_S (fun q : Nat => s.heap.size ≤ q) s.heap H locs) (hl : lv_has ls 7 [(4, .int (nI i)), (3, .ref (ad 104)), (2, .ref m0), (1, .ref x0), (0, .ref b)]) : W p l e room_1 s m #[Value.ref b] below meth c H locs (150 + 23 * i) (3000 + 300 * i) (lw_Z below #[Value.ref b] s) (F0 m 287 ls []) := by
  obtain ⟨hx, hb, hr, hml, hown, hts0, hX, hbl, hlocks, hgv⟩ := C0
  have hts : ∀ w ∈ wG, w.before #[Value.ref b] s = true := fun w h => hts0 w (wG_t h)
  have hA : ∀ q : Nat, s.heap.size ≤ q → (fun q : Nat => s.heap.size ≤ q) q := fun _ h => h
  have hA0 : ∀ q : Nat, (fun q : Nat => s.heap.size ≤ q) q → s.heap.size ≤ q := fun _ h => h
  have hn0 : s.heap.size ≤ s.heap.size := Nat.le_refl _
  have hbA : ¬ (fun q : Nat => s.heap.size ≤ q) b := Nat.not_le.mpr hbl
  have hrl0 := rel0 hrl
  refine lv_aload_n hx hb dL_law_287 rfl (lv_at hl 3 rfl) ?_
  have hPc := ap_l hP
  have hDc := ad_l hD
  have hKc := hKx
  have hFc := fr_O hDc hS hA
  obtain ⟨fs9, hrc⟩ := XI_rc hXI
  refine va_calli (va_runV (As := []) (rest := []) ⟨hx, hb, hml, hown, hts⟩ (X_where l dC dI s.heap.size atx H.size ad ka x0 Gx wx tx  hXI ) (cwV 0 hts (gV (fun w h => id h) wd_942 wd_939 wd_940 wd_941 wd_114) rfl rfl rfl (by decide +kernel) ⟨Nat.le_of_ble_eq_true rfl, Nat.le_of_ble_eq_true rfl⟩) ⟨fun a U g mk q => by obtain ⟨q0, q1, q2, qG, qP, qK, qD⟩ := q; exact ⟨q0, q1, q2, GW.blind qG, qP, va_K.moved (u := U) (U := U.calling g mk a) (Vm.Alike.refl U.vm) qK, qD⟩, va_recv hKc hPc (ci := 11) (q0 := 0) rfl hrc, fun U hU hW => ⟨rfl, by rw [hU], Nat.le_trans hn0 hS.1, GW.go hW hU hG (fun q hq hA9 => hS.2.1 q hq (fun h => hA9 (hA0 q h))), by rw [hU]; exact hPc, va_K.moved hW.alike hKc, hDc.weaken (fun _ _ _ h => hA0 _ h)⟩⟩ rfl rfl hl.1 rfl (lv_room (Nat.le_of_ble_eq_true rfl)) dL_law_288 ⟨(by show _ ≤ (601024 : Nat); omega), (by show _ ≤ (7293034 : Nat); omega)⟩) hS (fun q _ h => hFc q h) hFc (fun r_1 u t H1 locs ht hvm hw_1 hB hz1 hk1 hS => ?_)
  subst hw_1
  obtain ⟨Gx_1, wx_1, tx_1, hIx_1, hrel_1, hP1, hK1, hD1⟩ := hB
  rw [ht] at hP1
  obtain ⟨hP, hD⟩ := jo_l hP hD hk1 hFc hP1 hD1
  have hKx_1 := va_K.moved hvm.symm hK1
  generalize H1 = H at hP hS ⊢
  refine lv_pop hx hb dL_law_291 rfl ?_
  refine lv_aload_n hx hb dL_law_292 rfl (lv_at hl 2 rfl) ?_
  rcases hMI with hMI | hMI
  · skip
    have hPc := ap_r hP
    have hDc := ad_r hD
    have hKc := hKm
    have hFc := fr_O hDc hS hA
    obtain ⟨fs9, hrc⟩ := MZ_rc hMI
    refine va_calli (va_runV (As := []) (rest := []) ⟨hx, hb, hml, hown, hts⟩ (Z_where l dC dI s.heap.size atx H.size md mk9 m0 Gm wm tm  hMI ) (cwV 0 hts (gV (fun w h => id h) wd_1857 wd_1854 wd_1855 wd_1856 wd_127) rfl rfl rfl (by decide +kernel) ⟨Nat.le_of_ble_eq_true rfl, Nat.le_of_ble_eq_true rfl⟩) ⟨fun a U g mk q => by obtain ⟨q0, q1, q2, qG, qP, qK, qD⟩ := q; exact ⟨q0, q1, q2, GW.blind qG, qP, va_K.moved (u := U) (U := U.calling g mk a) (Vm.Alike.refl U.vm) qK, qD⟩, va_recv hKc hPc (ci := 14) (q0 := 0) rfl hrc, fun U hU hW => ⟨rfl, by rw [hU], Nat.le_trans hn0 hS.1, GW.go hW hU hG (fun q hq hA9 => hS.2.1 q hq (fun h => hA9 (hA0 q h))), by rw [hU]; exact hPc, va_K.moved hW.alike hKc, hDc.weaken (fun _ _ _ h => hA0 _ h)⟩⟩ rfl rfl hl.1 rfl (lv_room (Nat.le_of_ble_eq_true rfl)) dL_law_293 ⟨(by show _ ≤ (601024 : Nat); omega), (by show _ ≤ (7293034 : Nat); omega)⟩) hS (fun q _ h => hFc q h) hFc (fun r_2 u t H1 locs ht hvm hw_2 hB hz1 hk1 hS => ?_)
    subst hw_2
    obtain ⟨Gm_2, wm_2, tm_2, hIm_2, hrel_2, hP1, hK1, hD1⟩ := hB
    rw [ht] at hP1
    obtain ⟨hP, hD⟩ := jo_r hP hD hk1 hFc hP1 hD1
    have hKm_2 := va_K.moved hvm.symm hK1
    generalize H1 = H at hP hS ⊢
    refine lv_pop hx hb dL_law_296 rfl ?_
    refine lv_goto (tgt := 1049) hx hb dL_law_297 (by decide) ?_
    refine lv_iinc (v := (nI (i + 6))) (lv' := [(4, .int (nI (i + 6))), (3, .ref (ad 104)), (2, .ref m0), (1, .ref x0), (0, .ref b)]) hx hb dL_law_1049 hl (k := 0) rfl (nI_add _ 6) (by decide) rfl (fun ls hl => ?_)
    refine lv_goto (tgt := 23) hx hb dL_law_1052 (by decide) ?_
    refine W.widen (k := 150 + 23 * (i + 6)) (n := 3000 + 300 * (i + 6)) (by omega) (by omega) ?_
    exact K _ _ _ ⟨by omega, Gx_1, Gm_2, wx_1, wm_2, tx_1, tm_2, hIx_1, (Or.inl hIm_2), (rel_q hrl hrel_1.2.1 hrel_2.2.1 hrel_1.2.2 hrel_2.2.2), hKx_1, hKm_2, hP, hD, hS, lv_sub hl [0, 1, 2, 3, 4] rfl⟩
  · skip
    have hPc := ap_r hP
    have hDc := ad_r hD
    have hKc := hKm
    have hFc := fr_O hDc hS hA
    obtain ⟨fs9, hrc⟩ := MB_rc hMI
    refine va_calli (va_runV (As := []) (rest := []) ⟨hx, hb, hml, hown, hts⟩ (B_where l dC dI s.heap.size atx H.size md mk9 m0 Gm wm tm  hMI ) (cwV 0 hts (gV (fun w h => id h) wd_1857 wd_1854 wd_1855 wd_1856 wd_127) rfl rfl rfl (by decide +kernel) ⟨Nat.le_of_ble_eq_true rfl, Nat.le_of_ble_eq_true rfl⟩) ⟨fun a U g mk q => by obtain ⟨q0, q1, q2, qG, qP, qK, qD⟩ := q; exact ⟨q0, q1, q2, GW.blind qG, qP, va_K.moved (u := U) (U := U.calling g mk a) (Vm.Alike.refl U.vm) qK, qD⟩, va_recv hKc hPc (ci := 14) (q0 := 0) rfl hrc, fun U hU hW => ⟨rfl, by rw [hU], Nat.le_trans hn0 hS.1, GW.go hW hU hG (fun q hq hA9 => hS.2.1 q hq (fun h => hA9 (hA0 q h))), by rw [hU]; exact hPc, va_K.moved hW.alike hKc, hDc.weaken (fun _ _ _ h => hA0 _ h)⟩⟩ rfl rfl hl.1 rfl (lv_room (Nat.le_of_ble_eq_true rfl)) dL_law_293 ⟨(by show _ ≤ (601024 : Nat); omega), (by show _ ≤ (7293034 : Nat); omega)⟩) hS (fun q _ h => hFc q h) hFc (fun r_3 u t H1 locs ht hvm hw_3 hB hz1 hk1 hS => ?_)
    subst hw_3
    obtain ⟨Gm_3, wm_3, tm_3, hIm_3, hrel_3, hP1, hK1, hD1⟩ := hB
    rw [ht] at hP1
    obtain ⟨hP, hD⟩ := jo_r hP hD hk1 hFc hP1 hD1
    have hKm_3 := va_K.moved hvm.symm hK1
    generalize H1 = H at hP hS ⊢
    refine lv_pop hx hb dL_law_296 rfl ?_
    refine lv_goto (tgt := 1049) hx hb dL_law_297 (by decide) ?_
    refine lv_iinc (v := (nI (i + 6))) (lv' := [(4, .int (nI (i + 6))), (3, .ref (ad 104)), (2, .ref m0), (1, .ref x0), (0, .ref b)]) hx hb dL_law_1049 hl (k := 0) rfl (nI_add _ 6) (by decide) rfl (fun ls hl => ?_)
    refine lv_goto (tgt := 23) hx hb dL_law_1052 (by decide) ?_
    refine W.widen (k := 150 + 23 * (i + 6)) (n := 3000 + 300 * (i + 6)) (by omega) (by omega) ?_
    exact K _ _ _ ⟨by omega, Gx_1, Gm_3, wx_1, wm_3, tx_1, tm_3, hIx_1, (Or.inr hIm_3), (rel_q hrl hrel_1.2.1 hrel_3.2.1 hrel_1.2.2 hrel_3.2.2), hKx_1, hKm_3, hP, hD, hS, lv_sub hl [0, 1, 2, 3, 4] rfl⟩
set_option maxHeartbeats 4000000 in
set_option maxRecDepth 100000 in
theorem law_4 {p : Program} {l : Launch} {e : Env} {s : State} {m : MethodId} {below : List Frame} {meth : Method} {c : Code} {dC : Nat → ClassId} {dI : Nat → Nat → Nat} {b L : Nat} {xs : Nat → Int32} (hst : l.stackTraces = false) (hL : L ≤ 3072) (C0 : lw_At p s m meth c b L xs) (atx : Nat → Nat × Nat) (hG : GW s.heap.size atx s) (ad : Nat → Nat) (ka : Nat → ClassId) (x0 : Nat) (md : Nat → Nat) (mk9 : Nat → ClassId) (m0 : Nat) (i : Nat) (hi : i + 6 ≤ L) (K : ∀ (H : Heap) (locs : List Loc) (ls : Array Slot), LV dC dI s b L ad ka x0 md mk9 m0 (i + 6) H locs ls → W p l e room_1 s m #[Value.ref b] below meth c H locs (150 + 23 * (i + 6)) (3000 + 300 * (i + 6)) (lw_Z below #[Value.ref b] s) (F0 m 23 ls [])) (H : Heap) (locs : List Loc) (ls : Array Slot) (Gx Gm : Nat → Int) (wx wm : va_W) (tx tm : List (ClassId × FieldType)) (hXI : XI ad ka x0 Gx wx tx) (hMI : MZ md mk9 m0 Gm wm tm ∨ MB md mk9 m0 Gm wm tm) (hrl : REL Gx Gm) (hKx : va_K (dC, dI) classes tx s) (hKm : va_K (dC, dI) classes tm s) (hP : va_P (dC, dI) classes (wx ++ wm) H) (hD : va_D (fun q : Nat => s.heap.size ≤ q) (wx ++ wm)) (hS : va_S (fun q : Nat => s.heap.size ≤ q) s.heap H locs) (hl : lv_has ls 7 [(4, .int (nI i)), (3, .ref (ad 104)), (2, .ref m0), (1, .ref x0), (0, .ref b)]) : W p l e room_1 s m #[Value.ref b] below meth c H locs (150 + 23 * i) (3000 + 300 * i) (lw_Z below #[Value.ref b] s) (F0 m 300 ls []) := by
  obtain ⟨hx, hb, hr, hml, hown, hts0, hX, hbl, hlocks, hgv⟩ := C0
  have hts : ∀ w ∈ wG, w.before #[Value.ref b] s = true := fun w h => hts0 w (wG_t h)
  have hA : ∀ q : Nat, s.heap.size ≤ q → (fun q : Nat => s.heap.size ≤ q) q := fun _ h => h
  have hA0 : ∀ q : Nat, (fun q : Nat => s.heap.size ≤ q) q → s.heap.size ≤ q := fun _ h => h
  have hn0 : s.heap.size ≤ s.heap.size := Nat.le_refl _
  have hbA : ¬ (fun q : Nat => s.heap.size ≤ q) b := Nat.not_le.mpr hbl
  have hrl0 := rel0 hrl
  refine lv_aload_n hx hb dL_law_300 rfl (lv_at hl 3 rfl) ?_
  refine lv_aload_n hx hb dL_law_301 rfl (lv_at hl 4 rfl) ?_
  refine lv_iload hx hb dL_law_302 (lv_at hl 0 rfl) ?_
  refine lv_iconst (v := 1) hx hb dL_law_304 (by decide) ?_
  refine lv_iadd hx hb dL_law_305 ?_
  refine lv_topi (fun v_1 ev_1 => ?_)
  obtain rfl : v_1 = nI (i + 1) := ev_1.trans (nI_add i 1)
  refine va_sld hx hb hX hbl hbA hS (vp_in_nI (n := (i + 1)) (by omega) (by omega)) dL_law_306 ?_
  refine lv_topi (fun v_2 ev_2 => ?_)
  refine lv_aload_n hx hb dL_law_307 rfl (lv_at hl 4 rfl) ?_
  refine lv_iload hx hb dL_law_308 (lv_at hl 0 rfl) ?_
  refine lv_iconst (v := 2) hx hb dL_law_310 (by decide) ?_
  refine lv_iadd hx hb dL_law_311 ?_
  refine lv_topi (fun v_3 ev_3 => ?_)
  obtain rfl : v_3 = nI (i + 2) := ev_3.trans (nI_add i 2)
  refine va_sld hx hb hX hbl hbA hS (vp_in_nI (n := (i + 2)) (by omega) (by omega)) dL_law_312 ?_
  refine lv_topi (fun v_4 ev_4 => ?_)
  have hPc := ap_l hP
  have hDc := ad_l hD
  have hKc := hKx
  have hFc := fr_O hDc hS hA
  obtain ⟨fs9, hrc⟩ := XI_rc hXI
  refine va_calli (va_runV (As := [.int v_2, .int v_4]) (rest := []) ⟨hx, hb, hml, hown, hts⟩ (X_way l dC dI s.heap.size atx H.size ad ka x0 Gx wx tx v_2 v_4 hXI ) (cwV 2 hts (gV (fun w h => id h) wd_946 wd_943 wd_944 wd_945 wd_114) rfl rfl rfl (by decide +kernel) ⟨Nat.le_of_ble_eq_true rfl, Nat.le_of_ble_eq_true rfl⟩) ⟨fun a U g mk q => by obtain ⟨q0, q1, q2, qG, qP, qK, qD⟩ := q; exact ⟨q0, q1, q2, GW.blind qG, qP, va_K.moved (u := U) (U := U.calling g mk a) (Vm.Alike.refl U.vm) qK, qD⟩, va_recv hKc hPc (ci := 11) (q0 := 0) rfl hrc, fun U hU hW => ⟨rfl, by rw [hU], Nat.le_trans hn0 hS.1, GW.go hW hU hG (fun q hq hA9 => hS.2.1 q hq (fun h => hA9 (hA0 q h))), by rw [hU]; exact hPc, va_K.moved hW.alike hKc, hDc.weaken (fun _ _ _ h => hA0 _ h)⟩⟩ rfl rfl hl.1 rfl (lv_room (Nat.le_of_ble_eq_true rfl)) dL_law_313 ⟨(by show _ ≤ (601024 : Nat); omega), (by show _ ≤ (7293034 : Nat); omega)⟩) hS (fun q _ h => hFc q h) hFc (fun r_5 u t H1 locs ht hvm hw_5 hB hz1 hk1 hS => ?_)
  subst hw_5
  obtain ⟨Gx_5, wx_5, tx_5, hIx_5, hrel_5, hP1, hK1, hD1⟩ := hB
  rw [ht] at hP1
  obtain ⟨hP, hD⟩ := jo_l hP hD hk1 hFc hP1 hD1
  have hKx_5 := va_K.moved hvm.symm hK1
  generalize H1 = H at hP hS ⊢
  refine lv_pop hx hb dL_law_316 rfl ?_
  refine lv_aload_n hx hb dL_law_317 rfl (lv_at hl 2 rfl) ?_
  refine lv_aload_n hx hb dL_law_318 rfl (lv_at hl 4 rfl) ?_
  refine lv_iload hx hb dL_law_319 (lv_at hl 0 rfl) ?_
  refine lv_iconst (v := 1) hx hb dL_law_321 (by decide) ?_
  refine lv_iadd hx hb dL_law_322 ?_
  refine lv_topi (fun v_6 ev_6 => ?_)
  obtain rfl : v_6 = nI (i + 1) := ev_6.trans (nI_add i 1)
  refine va_sld hx hb hX hbl hbA hS (vp_in_nI (n := (i + 1)) (by omega) (by omega)) dL_law_323 ?_
  refine lv_topi (fun v_7 ev_7 => ?_)
  obtain rfl : v_2 = v_7 := (ev_7.trans ev_2.symm).symm
  refine lv_aload_n hx hb dL_law_324 rfl (lv_at hl 4 rfl) ?_
  refine lv_iload hx hb dL_law_325 (lv_at hl 0 rfl) ?_
  refine lv_iconst (v := 2) hx hb dL_law_327 (by decide) ?_
  refine lv_iadd hx hb dL_law_328 ?_
  refine lv_topi (fun v_8 ev_8 => ?_)
  obtain rfl : v_8 = nI (i + 2) := ev_8.trans (nI_add i 2)
  refine va_sld hx hb hX hbl hbA hS (vp_in_nI (n := (i + 2)) (by omega) (by omega)) dL_law_329 ?_
  refine lv_topi (fun v_9 ev_9 => ?_)
  obtain rfl : v_4 = v_9 := (ev_9.trans ev_4.symm).symm
  rcases hMI with hMI | hMI
  · skip
    have hPc := ap_r hP
    have hDc := ad_r hD
    have hKc := hKm
    have hFc := fr_O hDc hS hA
    obtain ⟨fs9, hrc⟩ := MZ_rc hMI
    refine va_calli (va_runV (As := [.int v_2, .int v_4]) (rest := []) ⟨hx, hb, hml, hown, hts⟩ (Z_way l dC dI s.heap.size atx H.size md mk9 m0 Gm wm tm v_2 v_4 hMI ) (cwV 2 hts (gV (fun w h => id h) wd_1861 wd_1858 wd_1859 wd_1860 wd_127) rfl rfl rfl (by decide +kernel) ⟨Nat.le_of_ble_eq_true rfl, Nat.le_of_ble_eq_true rfl⟩) ⟨fun a U g mk q => by obtain ⟨q0, q1, q2, qG, qP, qK, qD⟩ := q; exact ⟨q0, q1, q2, GW.blind qG, qP, va_K.moved (u := U) (U := U.calling g mk a) (Vm.Alike.refl U.vm) qK, qD⟩, va_recv hKc hPc (ci := 14) (q0 := 0) rfl hrc, fun U hU hW => ⟨rfl, by rw [hU], Nat.le_trans hn0 hS.1, GW.go hW hU hG (fun q hq hA9 => hS.2.1 q hq (fun h => hA9 (hA0 q h))), by rw [hU]; exact hPc, va_K.moved hW.alike hKc, hDc.weaken (fun _ _ _ h => hA0 _ h)⟩⟩ rfl rfl hl.1 rfl (lv_room (Nat.le_of_ble_eq_true rfl)) dL_law_330 ⟨(by show _ ≤ (601024 : Nat); omega), (by show _ ≤ (7293034 : Nat); omega)⟩) hS (fun q _ h => hFc q h) hFc (fun r_10 u t H1 locs ht hvm hw_10 hB hz1 hk1 hS => ?_)
    subst hw_10
    obtain ⟨Gm_10, wm_10, tm_10, hIm_10, hrel_10, hP1, hK1, hD1⟩ := hB
    rw [ht] at hP1
    obtain ⟨hP, hD⟩ := jo_r hP hD hk1 hFc hP1 hD1
    have hKm_10 := va_K.moved hvm.symm hK1
    generalize H1 = H at hP hS ⊢
    refine lv_pop hx hb dL_law_333 rfl ?_
    refine lv_goto (tgt := 1049) hx hb dL_law_334 (by decide) ?_
    refine lv_iinc (v := (nI (i + 6))) (lv' := [(4, .int (nI (i + 6))), (3, .ref (ad 104)), (2, .ref m0), (1, .ref x0), (0, .ref b)]) hx hb dL_law_1049 hl (k := 0) rfl (nI_add _ 6) (by decide) rfl (fun ls hl => ?_)
    refine lv_goto (tgt := 23) hx hb dL_law_1052 (by decide) ?_
    refine W.widen (k := 150 + 23 * (i + 6)) (n := 3000 + 300 * (i + 6)) (by omega) (by omega) ?_
    exact K _ _ _ ⟨by omega, Gx_5, Gm_10, wx_5, wm_10, tx_5, tm_10, hIx_5, (Or.inl hIm_10), (rel_q hrl hrel_5.2.1 hrel_10.2.1 hrel_5.2.2 hrel_10.2.2), hKx_5, hKm_10, hP, hD, hS, lv_sub hl [0, 1, 2, 3, 4] rfl⟩
  · skip
    have hPc := ap_r hP
    have hDc := ad_r hD
    have hKc := hKm
    have hFc := fr_O hDc hS hA
    obtain ⟨fs9, hrc⟩ := MB_rc hMI
    refine va_calli (va_runV (As := [.int v_2, .int v_4]) (rest := []) ⟨hx, hb, hml, hown, hts⟩ (B_way l dC dI s.heap.size atx H.size md mk9 m0 Gm wm tm v_2 v_4 hMI ) (cwV 2 hts (gV (fun w h => id h) wd_1861 wd_1858 wd_1859 wd_1860 wd_127) rfl rfl rfl (by decide +kernel) ⟨Nat.le_of_ble_eq_true rfl, Nat.le_of_ble_eq_true rfl⟩) ⟨fun a U g mk q => by obtain ⟨q0, q1, q2, qG, qP, qK, qD⟩ := q; exact ⟨q0, q1, q2, GW.blind qG, qP, va_K.moved (u := U) (U := U.calling g mk a) (Vm.Alike.refl U.vm) qK, qD⟩, va_recv hKc hPc (ci := 14) (q0 := 0) rfl hrc, fun U hU hW => ⟨rfl, by rw [hU], Nat.le_trans hn0 hS.1, GW.go hW hU hG (fun q hq hA9 => hS.2.1 q hq (fun h => hA9 (hA0 q h))), by rw [hU]; exact hPc, va_K.moved hW.alike hKc, hDc.weaken (fun _ _ _ h => hA0 _ h)⟩⟩ rfl rfl hl.1 rfl (lv_room (Nat.le_of_ble_eq_true rfl)) dL_law_330 ⟨(by show _ ≤ (601024 : Nat); omega), (by show _ ≤ (7293034 : Nat); omega)⟩) hS (fun q _ h => hFc q h) hFc (fun r_11 u t H1 locs ht hvm hw_11 hB hz1 hk1 hS => ?_)
    subst hw_11
    obtain ⟨Gm_11, wm_11, tm_11, hIm_11, hrel_11, hP1, hK1, hD1⟩ := hB
    rw [ht] at hP1
    obtain ⟨hP, hD⟩ := jo_r hP hD hk1 hFc hP1 hD1
    have hKm_11 := va_K.moved hvm.symm hK1
    generalize H1 = H at hP hS ⊢
    refine lv_pop hx hb dL_law_333 rfl ?_
    refine lv_goto (tgt := 1049) hx hb dL_law_334 (by decide) ?_
    refine lv_iinc (v := (nI (i + 6))) (lv' := [(4, .int (nI (i + 6))), (3, .ref (ad 104)), (2, .ref m0), (1, .ref x0), (0, .ref b)]) hx hb dL_law_1049 hl (k := 0) rfl (nI_add _ 6) (by decide) rfl (fun ls hl => ?_)
    refine lv_goto (tgt := 23) hx hb dL_law_1052 (by decide) ?_
    refine W.widen (k := 150 + 23 * (i + 6)) (n := 3000 + 300 * (i + 6)) (by omega) (by omega) ?_
    exact K _ _ _ ⟨by omega, Gx_5, Gm_11, wx_5, wm_11, tx_5, tm_11, hIx_5, (Or.inr hIm_11), (rel_q hrl hrel_5.2.1 hrel_11.2.1 hrel_5.2.2 hrel_11.2.2), hKx_5, hKm_11, hP, hD, hS, lv_sub hl [0, 1, 2, 3, 4] rfl⟩
set_option maxHeartbeats 4000000 in
set_option maxRecDepth 100000 in
theorem law_5 {p : Program} {l : Launch} {e : Env} {s : State} {m : MethodId} {below : List Frame} {meth : Method} {c : Code} {dC : Nat → ClassId} {dI : Nat → Nat → Nat} {b L : Nat} {xs : Nat → Int32} (hst : l.stackTraces = false) (hL : L ≤ 3072) (C0 : lw_At p s m meth c b L xs) (atx : Nat → Nat × Nat) (hG : GW s.heap.size atx s) (ad : Nat → Nat) (ka : Nat → ClassId) (x0 : Nat) (md : Nat → Nat) (mk9 : Nat → ClassId) (m0 : Nat) (i : Nat) (hi : i + 6 ≤ L) (K : ∀ (H : Heap) (locs : List Loc) (ls : Array Slot), LV dC dI s b L ad ka x0 md mk9 m0 (i + 6) H locs ls → W p l e room_1 s m #[Value.ref b] below meth c H locs (150 + 23 * (i + 6)) (3000 + 300 * (i + 6)) (lw_Z below #[Value.ref b] s) (F0 m 23 ls [])) (H : Heap) (locs : List Loc) (ls : Array Slot) (Gx Gm : Nat → Int) (wx wm : va_W) (tx tm : List (ClassId × FieldType)) (hXI : XI ad ka x0 Gx wx tx) (hMI : MZ md mk9 m0 Gm wm tm ∨ MB md mk9 m0 Gm wm tm) (hrl : REL Gx Gm) (hKx : va_K (dC, dI) classes tx s) (hKm : va_K (dC, dI) classes tm s) (hP : va_P (dC, dI) classes (wx ++ wm) H) (hD : va_D (fun q : Nat => s.heap.size ≤ q) (wx ++ wm)) (hS : va_S (fun q : Nat => s.heap.size ≤ q) s.heap H locs) (hl : lv_has ls 7 [(4, .int (nI i)), (3, .ref (ad 104)), (2, .ref m0), (1, .ref x0), (0, .ref b)]) : W p l e room_1 s m #[Value.ref b] below meth c H locs (150 + 23 * i) (3000 + 300 * i) (lw_Z below #[Value.ref b] s) (F0 m 337 ls []) := by
  obtain ⟨hx, hb, hr, hml, hown, hts0, hX, hbl, hlocks, hgv⟩ := C0
  have hts : ∀ w ∈ wG, w.before #[Value.ref b] s = true := fun w h => hts0 w (wG_t h)
  have hA : ∀ q : Nat, s.heap.size ≤ q → (fun q : Nat => s.heap.size ≤ q) q := fun _ h => h
  have hA0 : ∀ q : Nat, (fun q : Nat => s.heap.size ≤ q) q → s.heap.size ≤ q := fun _ h => h
  have hn0 : s.heap.size ≤ s.heap.size := Nat.le_refl _
  have hbA : ¬ (fun q : Nat => s.heap.size ≤ q) b := Nat.not_le.mpr hbl
  have hrl0 := rel0 hrl
  refine lv_aload_n hx hb dL_law_337 rfl (lv_at hl 3 rfl) ?_
  refine lv_aload_n hx hb dL_law_338 rfl (lv_at hl 4 rfl) ?_
  refine lv_iload hx hb dL_law_339 (lv_at hl 0 rfl) ?_
  refine lv_iconst (v := 1) hx hb dL_law_341 (by decide) ?_
  refine lv_iadd hx hb dL_law_342 ?_
  refine lv_topi (fun v_1 ev_1 => ?_)
  obtain rfl : v_1 = nI (i + 1) := ev_1.trans (nI_add i 1)
  refine va_sld hx hb hX hbl hbA hS (vp_in_nI (n := (i + 1)) (by omega) (by omega)) dL_law_343 ?_
  refine lv_topi (fun v_2 ev_2 => ?_)
  refine lv_aload_n hx hb dL_law_344 rfl (lv_at hl 4 rfl) ?_
  refine lv_iload hx hb dL_law_345 (lv_at hl 0 rfl) ?_
  refine lv_iconst (v := 2) hx hb dL_law_347 (by decide) ?_
  refine lv_iadd hx hb dL_law_348 ?_
  refine lv_topi (fun v_3 ev_3 => ?_)
  obtain rfl : v_3 = nI (i + 2) := ev_3.trans (nI_add i 2)
  refine va_sld hx hb hX hbl hbA hS (vp_in_nI (n := (i + 2)) (by omega) (by omega)) dL_law_349 ?_
  refine lv_topi (fun v_4 ev_4 => ?_)
  refine lv_if_eq (tgt := 357) hx hb dL_law_350 (by decide) (fun c_5 => ?_) (fun c_5 => ?_)
  · skip
    have g_6 : v_4.toInt = (0 : Int) := i_eq c_5
    refine lv_iconst (v := 0) hx hb dL_law_357 (by decide) ?_
    have hPc := ap_l hP
    have hDc := ad_l hD
    have hKc := hKx
    have hFc := fr_O hDc hS hA
    obtain ⟨fs9, hrc⟩ := XI_rc hXI
    refine va_calli (va_runV (As := [.int v_2, .int 0]) (rest := []) ⟨hx, hb, hml, hown, hts⟩ (X_door l dC dI s.heap.size atx H.size ad ka x0 Gx wx tx v_2 0 hXI ) (cwV 2 hts (gV (fun w h => id h) wd_962 wd_959 wd_960 wd_961 wd_114) rfl rfl rfl (by decide +kernel) ⟨Nat.le_of_ble_eq_true rfl, Nat.le_of_ble_eq_true rfl⟩) ⟨fun a U g mk q => by obtain ⟨q0, q1, q2, qG, qP, qK, qD⟩ := q; exact ⟨q0, q1, q2, GW.blind qG, qP, va_K.moved (u := U) (U := U.calling g mk a) (Vm.Alike.refl U.vm) qK, qD⟩, va_recv hKc hPc (ci := 11) (q0 := 0) rfl hrc, fun U hU hW => ⟨rfl, by rw [hU], Nat.le_trans hn0 hS.1, GW.go hW hU hG (fun q hq hA9 => hS.2.1 q hq (fun h => hA9 (hA0 q h))), by rw [hU]; exact hPc, va_K.moved hW.alike hKc, hDc.weaken (fun _ _ _ h => hA0 _ h)⟩⟩ rfl rfl hl.1 rfl (lv_room (Nat.le_of_ble_eq_true rfl)) dL_law_358 ⟨(by show _ ≤ (601024 : Nat); omega), (by show _ ≤ (7293034 : Nat); omega)⟩) hS (fun q _ h => hFc q h) hFc (fun r_7 u t H1 locs ht hvm hw_7 hB hz1 hk1 hS => ?_)
    subst hw_7
    obtain ⟨Gx_7, wx_7, tx_7, hIx_7, hrel_7, hP1, hK1, hD1⟩ := hB
    rw [ht] at hP1
    obtain ⟨hP, hD⟩ := jo_l hP hD hk1 hFc hP1 hD1
    have hKx_7 := va_K.moved hvm.symm hK1
    generalize H1 = H at hP hS ⊢
    refine lv_pop hx hb dL_law_361 rfl ?_
    refine lv_aload_n hx hb dL_law_362 rfl (lv_at hl 2 rfl) ?_
    refine lv_aload_n hx hb dL_law_363 rfl (lv_at hl 4 rfl) ?_
    refine lv_iload hx hb dL_law_364 (lv_at hl 0 rfl) ?_
    refine lv_iconst (v := 1) hx hb dL_law_366 (by decide) ?_
    refine lv_iadd hx hb dL_law_367 ?_
    refine lv_topi (fun v_8 ev_8 => ?_)
    obtain rfl : v_8 = nI (i + 1) := ev_8.trans (nI_add i 1)
    refine va_sld hx hb hX hbl hbA hS (vp_in_nI (n := (i + 1)) (by omega) (by omega)) dL_law_368 ?_
    refine lv_topi (fun v_9 ev_9 => ?_)
    obtain rfl : v_2 = v_9 := (ev_9.trans ev_2.symm).symm
    refine lv_aload_n hx hb dL_law_369 rfl (lv_at hl 4 rfl) ?_
    refine lv_iload hx hb dL_law_370 (lv_at hl 0 rfl) ?_
    refine lv_iconst (v := 2) hx hb dL_law_372 (by decide) ?_
    refine lv_iadd hx hb dL_law_373 ?_
    refine lv_topi (fun v_10 ev_10 => ?_)
    obtain rfl : v_10 = nI (i + 2) := ev_10.trans (nI_add i 2)
    refine va_sld hx hb hX hbl hbA hS (vp_in_nI (n := (i + 2)) (by omega) (by omega)) dL_law_374 ?_
    refine lv_topi (fun v_11 ev_11 => ?_)
    obtain rfl : v_4 = v_11 := (ev_11.trans ev_4.symm).symm
    refine lv_if_eq (tgt := 382) hx hb dL_law_375 (by decide) (fun c_12 => ?_) (fun c_12 => ?_)
    · skip
      have g_13 : v_4.toInt = (0 : Int) := i_eq c_12
      refine lv_iconst (v := 0) hx hb dL_law_382 (by decide) ?_
      rcases hMI with hMI | hMI
      · skip
        have hPc := ap_r hP
        have hDc := ad_r hD
        have hKc := hKm
        have hFc := fr_O hDc hS hA
        obtain ⟨fs9, hrc⟩ := MZ_rc hMI
        refine va_calli (va_runV (As := [.int v_2, .int 0]) (rest := []) ⟨hx, hb, hml, hown, hts⟩ (Z_door l dC dI s.heap.size atx H.size md mk9 m0 Gm wm tm v_2 0 hMI ) (cwV 2 hts (gV (fun w h => id h) wd_1874 wd_1871 wd_1872 wd_1873 wd_127) rfl rfl rfl (by decide +kernel) ⟨Nat.le_of_ble_eq_true rfl, Nat.le_of_ble_eq_true rfl⟩) ⟨fun a U g mk q => by obtain ⟨q0, q1, q2, qG, qP, qK, qD⟩ := q; exact ⟨q0, q1, q2, GW.blind qG, qP, va_K.moved (u := U) (U := U.calling g mk a) (Vm.Alike.refl U.vm) qK, qD⟩, va_recv hKc hPc (ci := 14) (q0 := 0) rfl hrc, fun U hU hW => ⟨rfl, by rw [hU], Nat.le_trans hn0 hS.1, GW.go hW hU hG (fun q hq hA9 => hS.2.1 q hq (fun h => hA9 (hA0 q h))), by rw [hU]; exact hPc, va_K.moved hW.alike hKc, hDc.weaken (fun _ _ _ h => hA0 _ h)⟩⟩ rfl rfl hl.1 rfl (lv_room (Nat.le_of_ble_eq_true rfl)) dL_law_383 ⟨(by show _ ≤ (601024 : Nat); omega), (by show _ ≤ (7293034 : Nat); omega)⟩) hS (fun q _ h => hFc q h) hFc (fun r_14 u t H1 locs ht hvm hw_14 hB hz1 hk1 hS => ?_)
        subst hw_14
        obtain ⟨Gm_14, wm_14, tm_14, hIm_14, hrel_14, hP1, hK1, hD1⟩ := hB
        rw [ht] at hP1
        obtain ⟨hP, hD⟩ := jo_r hP hD hk1 hFc hP1 hD1
        have hKm_14 := va_K.moved hvm.symm hK1
        generalize H1 = H at hP hS ⊢
        refine lv_pop hx hb dL_law_386 rfl ?_
        refine lv_goto (tgt := 1049) hx hb dL_law_387 (by decide) ?_
        refine lv_iinc (v := (nI (i + 6))) (lv' := [(4, .int (nI (i + 6))), (3, .ref (ad 104)), (2, .ref m0), (1, .ref x0), (0, .ref b)]) hx hb dL_law_1049 hl (k := 0) rfl (nI_add _ 6) (by decide) rfl (fun ls hl => ?_)
        refine lv_goto (tgt := 23) hx hb dL_law_1052 (by decide) ?_
        refine W.widen (k := 150 + 23 * (i + 6)) (n := 3000 + 300 * (i + 6)) (by omega) (by omega) ?_
        exact K _ _ _ ⟨by omega, Gx_7, Gm_14, wx_7, wm_14, tx_7, tm_14, hIx_7, (Or.inl hIm_14), (rel_l hrl hrel_7.2.1 hrel_14.2.1 hrel_7.2.2 hrel_14.2.2), hKx_7, hKm_14, hP, hD, hS, lv_sub hl [0, 1, 2, 3, 4] rfl⟩
      · skip
        have hPc := ap_r hP
        have hDc := ad_r hD
        have hKc := hKm
        have hFc := fr_O hDc hS hA
        obtain ⟨fs9, hrc⟩ := MB_rc hMI
        refine va_calli (va_runV (As := [.int v_2, .int 0]) (rest := []) ⟨hx, hb, hml, hown, hts⟩ (B_door l dC dI s.heap.size atx H.size md mk9 m0 Gm wm tm v_2 0 hMI (by decide)) (cwV 2 hts (gV (fun w h => id h) wd_1874 wd_1871 wd_1872 wd_1873 wd_127) rfl rfl rfl (by decide +kernel) ⟨Nat.le_of_ble_eq_true rfl, Nat.le_of_ble_eq_true rfl⟩) ⟨fun a U g mk q => by obtain ⟨q0, q1, q2, qG, qP, qK, qD⟩ := q; exact ⟨q0, q1, q2, GW.blind qG, qP, va_K.moved (u := U) (U := U.calling g mk a) (Vm.Alike.refl U.vm) qK, qD⟩, va_recv hKc hPc (ci := 14) (q0 := 0) rfl hrc, fun U hU hW => ⟨rfl, by rw [hU], Nat.le_trans hn0 hS.1, GW.go hW hU hG (fun q hq hA9 => hS.2.1 q hq (fun h => hA9 (hA0 q h))), by rw [hU]; exact hPc, va_K.moved hW.alike hKc, hDc.weaken (fun _ _ _ h => hA0 _ h)⟩⟩ rfl rfl hl.1 rfl (lv_room (Nat.le_of_ble_eq_true rfl)) dL_law_383 ⟨(by show _ ≤ (601024 : Nat); omega), (by show _ ≤ (7293034 : Nat); omega)⟩) hS (fun q _ h => hFc q h) hFc (fun r_15 u t H1 locs ht hvm hw_15 hB hz1 hk1 hS => ?_)
        subst hw_15
        obtain ⟨Gm_15, wm_15, tm_15, hIm_15, hrel_15, hP1, hK1, hD1⟩ := hB
        rw [ht] at hP1
        obtain ⟨hP, hD⟩ := jo_r hP hD hk1 hFc hP1 hD1
        have hKm_15 := va_K.moved hvm.symm hK1
        generalize H1 = H at hP hS ⊢
        refine lv_pop hx hb dL_law_386 rfl ?_
        refine lv_goto (tgt := 1049) hx hb dL_law_387 (by decide) ?_
        refine lv_iinc (v := (nI (i + 6))) (lv' := [(4, .int (nI (i + 6))), (3, .ref (ad 104)), (2, .ref m0), (1, .ref x0), (0, .ref b)]) hx hb dL_law_1049 hl (k := 0) rfl (nI_add _ 6) (by decide) rfl (fun ls hl => ?_)
        refine lv_goto (tgt := 23) hx hb dL_law_1052 (by decide) ?_
        refine W.widen (k := 150 + 23 * (i + 6)) (n := 3000 + 300 * (i + 6)) (by omega) (by omega) ?_
        exact K _ _ _ ⟨by omega, Gx_7, Gm_15, wx_7, wm_15, tx_7, tm_15, hIx_7, (Or.inr hIm_15), (rel_l hrl hrel_7.2.1 hrel_15.2.1 hrel_7.2.2 hrel_15.2.2), hKx_7, hKm_15, hP, hD, hS, lv_sub hl [0, 1, 2, 3, 4] rfl⟩
    · skip
      have g_16 : v_4.toInt ≠ (0 : Int) := i_ne c_12
      refine lv_iconst (v := 1) hx hb dL_law_378 (by decide) ?_
      refine lv_goto (tgt := 383) hx hb dL_law_379 (by decide) ?_
      rcases hMI with hMI | hMI
      · skip
        have hPc := ap_r hP
        have hDc := ad_r hD
        have hKc := hKm
        have hFc := fr_O hDc hS hA
        obtain ⟨fs9, hrc⟩ := MZ_rc hMI
        refine va_calli (va_runV (As := [.int v_2, .int 1]) (rest := []) ⟨hx, hb, hml, hown, hts⟩ (Z_door l dC dI s.heap.size atx H.size md mk9 m0 Gm wm tm v_2 1 hMI ) (cwV 2 hts (gV (fun w h => id h) wd_1874 wd_1871 wd_1872 wd_1873 wd_127) rfl rfl rfl (by decide +kernel) ⟨Nat.le_of_ble_eq_true rfl, Nat.le_of_ble_eq_true rfl⟩) ⟨fun a U g mk q => by obtain ⟨q0, q1, q2, qG, qP, qK, qD⟩ := q; exact ⟨q0, q1, q2, GW.blind qG, qP, va_K.moved (u := U) (U := U.calling g mk a) (Vm.Alike.refl U.vm) qK, qD⟩, va_recv hKc hPc (ci := 14) (q0 := 0) rfl hrc, fun U hU hW => ⟨rfl, by rw [hU], Nat.le_trans hn0 hS.1, GW.go hW hU hG (fun q hq hA9 => hS.2.1 q hq (fun h => hA9 (hA0 q h))), by rw [hU]; exact hPc, va_K.moved hW.alike hKc, hDc.weaken (fun _ _ _ h => hA0 _ h)⟩⟩ rfl rfl hl.1 rfl (lv_room (Nat.le_of_ble_eq_true rfl)) dL_law_383 ⟨(by show _ ≤ (601024 : Nat); omega), (by show _ ≤ (7293034 : Nat); omega)⟩) hS (fun q _ h => hFc q h) hFc (fun r_17 u t H1 locs ht hvm hw_17 hB hz1 hk1 hS => ?_)
        subst hw_17
        obtain ⟨Gm_17, wm_17, tm_17, hIm_17, hrel_17, hP1, hK1, hD1⟩ := hB
        rw [ht] at hP1
        obtain ⟨hP, hD⟩ := jo_r hP hD hk1 hFc hP1 hD1
        have hKm_17 := va_K.moved hvm.symm hK1
        generalize H1 = H at hP hS ⊢
        refine lv_pop hx hb dL_law_386 rfl ?_
        refine lv_goto (tgt := 1049) hx hb dL_law_387 (by decide) ?_
        refine lv_iinc (v := (nI (i + 6))) (lv' := [(4, .int (nI (i + 6))), (3, .ref (ad 104)), (2, .ref m0), (1, .ref x0), (0, .ref b)]) hx hb dL_law_1049 hl (k := 0) rfl (nI_add _ 6) (by decide) rfl (fun ls hl => ?_)
        refine lv_goto (tgt := 23) hx hb dL_law_1052 (by decide) ?_
        refine W.widen (k := 150 + 23 * (i + 6)) (n := 3000 + 300 * (i + 6)) (by omega) (by omega) ?_
        exact K _ _ _ ⟨by omega, Gx_7, Gm_17, wx_7, wm_17, tx_7, tm_17, hIx_7, (Or.inl hIm_17), (rel_l hrl hrel_7.2.1 hrel_17.2.1 hrel_7.2.2 hrel_17.2.2), hKx_7, hKm_17, hP, hD, hS, lv_sub hl [0, 1, 2, 3, 4] rfl⟩
      · skip
        have hPc := ap_r hP
        have hDc := ad_r hD
        have hKc := hKm
        have hFc := fr_O hDc hS hA
        obtain ⟨fs9, hrc⟩ := MB_rc hMI
        refine va_calli (va_runV (As := [.int v_2, .int 1]) (rest := []) ⟨hx, hb, hml, hown, hts⟩ (B_door l dC dI s.heap.size atx H.size md mk9 m0 Gm wm tm v_2 1 hMI (by decide)) (cwV 2 hts (gV (fun w h => id h) wd_1874 wd_1871 wd_1872 wd_1873 wd_127) rfl rfl rfl (by decide +kernel) ⟨Nat.le_of_ble_eq_true rfl, Nat.le_of_ble_eq_true rfl⟩) ⟨fun a U g mk q => by obtain ⟨q0, q1, q2, qG, qP, qK, qD⟩ := q; exact ⟨q0, q1, q2, GW.blind qG, qP, va_K.moved (u := U) (U := U.calling g mk a) (Vm.Alike.refl U.vm) qK, qD⟩, va_recv hKc hPc (ci := 14) (q0 := 0) rfl hrc, fun U hU hW => ⟨rfl, by rw [hU], Nat.le_trans hn0 hS.1, GW.go hW hU hG (fun q hq hA9 => hS.2.1 q hq (fun h => hA9 (hA0 q h))), by rw [hU]; exact hPc, va_K.moved hW.alike hKc, hDc.weaken (fun _ _ _ h => hA0 _ h)⟩⟩ rfl rfl hl.1 rfl (lv_room (Nat.le_of_ble_eq_true rfl)) dL_law_383 ⟨(by show _ ≤ (601024 : Nat); omega), (by show _ ≤ (7293034 : Nat); omega)⟩) hS (fun q _ h => hFc q h) hFc (fun r_18 u t H1 locs ht hvm hw_18 hB hz1 hk1 hS => ?_)
        subst hw_18
        obtain ⟨Gm_18, wm_18, tm_18, hIm_18, hrel_18, hP1, hK1, hD1⟩ := hB
        rw [ht] at hP1
        obtain ⟨hP, hD⟩ := jo_r hP hD hk1 hFc hP1 hD1
        have hKm_18 := va_K.moved hvm.symm hK1
        generalize H1 = H at hP hS ⊢
        refine lv_pop hx hb dL_law_386 rfl ?_
        refine lv_goto (tgt := 1049) hx hb dL_law_387 (by decide) ?_
        refine lv_iinc (v := (nI (i + 6))) (lv' := [(4, .int (nI (i + 6))), (3, .ref (ad 104)), (2, .ref m0), (1, .ref x0), (0, .ref b)]) hx hb dL_law_1049 hl (k := 0) rfl (nI_add _ 6) (by decide) rfl (fun ls hl => ?_)
        refine lv_goto (tgt := 23) hx hb dL_law_1052 (by decide) ?_
        refine W.widen (k := 150 + 23 * (i + 6)) (n := 3000 + 300 * (i + 6)) (by omega) (by omega) ?_
        exact K _ _ _ ⟨by omega, Gx_7, Gm_18, wx_7, wm_18, tx_7, tm_18, hIx_7, (Or.inr hIm_18), (rel_l hrl hrel_7.2.1 hrel_18.2.1 hrel_7.2.2 hrel_18.2.2), hKx_7, hKm_18, hP, hD, hS, lv_sub hl [0, 1, 2, 3, 4] rfl⟩
  · skip
    have g_19 : v_4.toInt ≠ (0 : Int) := i_ne c_5
    refine lv_iconst (v := 1) hx hb dL_law_353 (by decide) ?_
    refine lv_goto (tgt := 358) hx hb dL_law_354 (by decide) ?_
    have hPc := ap_l hP
    have hDc := ad_l hD
    have hKc := hKx
    have hFc := fr_O hDc hS hA
    obtain ⟨fs9, hrc⟩ := XI_rc hXI
    refine va_calli (va_runV (As := [.int v_2, .int 1]) (rest := []) ⟨hx, hb, hml, hown, hts⟩ (X_door l dC dI s.heap.size atx H.size ad ka x0 Gx wx tx v_2 1 hXI ) (cwV 2 hts (gV (fun w h => id h) wd_962 wd_959 wd_960 wd_961 wd_114) rfl rfl rfl (by decide +kernel) ⟨Nat.le_of_ble_eq_true rfl, Nat.le_of_ble_eq_true rfl⟩) ⟨fun a U g mk q => by obtain ⟨q0, q1, q2, qG, qP, qK, qD⟩ := q; exact ⟨q0, q1, q2, GW.blind qG, qP, va_K.moved (u := U) (U := U.calling g mk a) (Vm.Alike.refl U.vm) qK, qD⟩, va_recv hKc hPc (ci := 11) (q0 := 0) rfl hrc, fun U hU hW => ⟨rfl, by rw [hU], Nat.le_trans hn0 hS.1, GW.go hW hU hG (fun q hq hA9 => hS.2.1 q hq (fun h => hA9 (hA0 q h))), by rw [hU]; exact hPc, va_K.moved hW.alike hKc, hDc.weaken (fun _ _ _ h => hA0 _ h)⟩⟩ rfl rfl hl.1 rfl (lv_room (Nat.le_of_ble_eq_true rfl)) dL_law_358 ⟨(by show _ ≤ (601024 : Nat); omega), (by show _ ≤ (7293034 : Nat); omega)⟩) hS (fun q _ h => hFc q h) hFc (fun r_20 u t H1 locs ht hvm hw_20 hB hz1 hk1 hS => ?_)
    subst hw_20
    obtain ⟨Gx_20, wx_20, tx_20, hIx_20, hrel_20, hP1, hK1, hD1⟩ := hB
    rw [ht] at hP1
    obtain ⟨hP, hD⟩ := jo_l hP hD hk1 hFc hP1 hD1
    have hKx_20 := va_K.moved hvm.symm hK1
    generalize H1 = H at hP hS ⊢
    refine lv_pop hx hb dL_law_361 rfl ?_
    refine lv_aload_n hx hb dL_law_362 rfl (lv_at hl 2 rfl) ?_
    refine lv_aload_n hx hb dL_law_363 rfl (lv_at hl 4 rfl) ?_
    refine lv_iload hx hb dL_law_364 (lv_at hl 0 rfl) ?_
    refine lv_iconst (v := 1) hx hb dL_law_366 (by decide) ?_
    refine lv_iadd hx hb dL_law_367 ?_
    refine lv_topi (fun v_21 ev_21 => ?_)
    obtain rfl : v_21 = nI (i + 1) := ev_21.trans (nI_add i 1)
    refine va_sld hx hb hX hbl hbA hS (vp_in_nI (n := (i + 1)) (by omega) (by omega)) dL_law_368 ?_
    refine lv_topi (fun v_22 ev_22 => ?_)
    obtain rfl : v_2 = v_22 := (ev_22.trans ev_2.symm).symm
    refine lv_aload_n hx hb dL_law_369 rfl (lv_at hl 4 rfl) ?_
    refine lv_iload hx hb dL_law_370 (lv_at hl 0 rfl) ?_
    refine lv_iconst (v := 2) hx hb dL_law_372 (by decide) ?_
    refine lv_iadd hx hb dL_law_373 ?_
    refine lv_topi (fun v_23 ev_23 => ?_)
    obtain rfl : v_23 = nI (i + 2) := ev_23.trans (nI_add i 2)
    refine va_sld hx hb hX hbl hbA hS (vp_in_nI (n := (i + 2)) (by omega) (by omega)) dL_law_374 ?_
    refine lv_topi (fun v_24 ev_24 => ?_)
    obtain rfl : v_4 = v_24 := (ev_24.trans ev_4.symm).symm
    refine lv_if_eq (tgt := 382) hx hb dL_law_375 (by decide) (fun c_25 => ?_) (fun c_25 => ?_)
    · skip
      have g_26 : v_4.toInt = (0 : Int) := i_eq c_25
      refine lv_iconst (v := 0) hx hb dL_law_382 (by decide) ?_
      rcases hMI with hMI | hMI
      · skip
        have hPc := ap_r hP
        have hDc := ad_r hD
        have hKc := hKm
        have hFc := fr_O hDc hS hA
        obtain ⟨fs9, hrc⟩ := MZ_rc hMI
        refine va_calli (va_runV (As := [.int v_2, .int 0]) (rest := []) ⟨hx, hb, hml, hown, hts⟩ (Z_door l dC dI s.heap.size atx H.size md mk9 m0 Gm wm tm v_2 0 hMI ) (cwV 2 hts (gV (fun w h => id h) wd_1874 wd_1871 wd_1872 wd_1873 wd_127) rfl rfl rfl (by decide +kernel) ⟨Nat.le_of_ble_eq_true rfl, Nat.le_of_ble_eq_true rfl⟩) ⟨fun a U g mk q => by obtain ⟨q0, q1, q2, qG, qP, qK, qD⟩ := q; exact ⟨q0, q1, q2, GW.blind qG, qP, va_K.moved (u := U) (U := U.calling g mk a) (Vm.Alike.refl U.vm) qK, qD⟩, va_recv hKc hPc (ci := 14) (q0 := 0) rfl hrc, fun U hU hW => ⟨rfl, by rw [hU], Nat.le_trans hn0 hS.1, GW.go hW hU hG (fun q hq hA9 => hS.2.1 q hq (fun h => hA9 (hA0 q h))), by rw [hU]; exact hPc, va_K.moved hW.alike hKc, hDc.weaken (fun _ _ _ h => hA0 _ h)⟩⟩ rfl rfl hl.1 rfl (lv_room (Nat.le_of_ble_eq_true rfl)) dL_law_383 ⟨(by show _ ≤ (601024 : Nat); omega), (by show _ ≤ (7293034 : Nat); omega)⟩) hS (fun q _ h => hFc q h) hFc (fun r_27 u t H1 locs ht hvm hw_27 hB hz1 hk1 hS => ?_)
        subst hw_27
        obtain ⟨Gm_27, wm_27, tm_27, hIm_27, hrel_27, hP1, hK1, hD1⟩ := hB
        rw [ht] at hP1
        obtain ⟨hP, hD⟩ := jo_r hP hD hk1 hFc hP1 hD1
        have hKm_27 := va_K.moved hvm.symm hK1
        generalize H1 = H at hP hS ⊢
        refine lv_pop hx hb dL_law_386 rfl ?_
        refine lv_goto (tgt := 1049) hx hb dL_law_387 (by decide) ?_
        refine lv_iinc (v := (nI (i + 6))) (lv' := [(4, .int (nI (i + 6))), (3, .ref (ad 104)), (2, .ref m0), (1, .ref x0), (0, .ref b)]) hx hb dL_law_1049 hl (k := 0) rfl (nI_add _ 6) (by decide) rfl (fun ls hl => ?_)
        refine lv_goto (tgt := 23) hx hb dL_law_1052 (by decide) ?_
        refine W.widen (k := 150 + 23 * (i + 6)) (n := 3000 + 300 * (i + 6)) (by omega) (by omega) ?_
        exact K _ _ _ ⟨by omega, Gx_20, Gm_27, wx_20, wm_27, tx_20, tm_27, hIx_20, (Or.inl hIm_27), (rel_l hrl hrel_20.2.1 hrel_27.2.1 hrel_20.2.2 hrel_27.2.2), hKx_20, hKm_27, hP, hD, hS, lv_sub hl [0, 1, 2, 3, 4] rfl⟩
      · skip
        have hPc := ap_r hP
        have hDc := ad_r hD
        have hKc := hKm
        have hFc := fr_O hDc hS hA
        obtain ⟨fs9, hrc⟩ := MB_rc hMI
        refine va_calli (va_runV (As := [.int v_2, .int 0]) (rest := []) ⟨hx, hb, hml, hown, hts⟩ (B_door l dC dI s.heap.size atx H.size md mk9 m0 Gm wm tm v_2 0 hMI (by decide)) (cwV 2 hts (gV (fun w h => id h) wd_1874 wd_1871 wd_1872 wd_1873 wd_127) rfl rfl rfl (by decide +kernel) ⟨Nat.le_of_ble_eq_true rfl, Nat.le_of_ble_eq_true rfl⟩) ⟨fun a U g mk q => by obtain ⟨q0, q1, q2, qG, qP, qK, qD⟩ := q; exact ⟨q0, q1, q2, GW.blind qG, qP, va_K.moved (u := U) (U := U.calling g mk a) (Vm.Alike.refl U.vm) qK, qD⟩, va_recv hKc hPc (ci := 14) (q0 := 0) rfl hrc, fun U hU hW => ⟨rfl, by rw [hU], Nat.le_trans hn0 hS.1, GW.go hW hU hG (fun q hq hA9 => hS.2.1 q hq (fun h => hA9 (hA0 q h))), by rw [hU]; exact hPc, va_K.moved hW.alike hKc, hDc.weaken (fun _ _ _ h => hA0 _ h)⟩⟩ rfl rfl hl.1 rfl (lv_room (Nat.le_of_ble_eq_true rfl)) dL_law_383 ⟨(by show _ ≤ (601024 : Nat); omega), (by show _ ≤ (7293034 : Nat); omega)⟩) hS (fun q _ h => hFc q h) hFc (fun r_28 u t H1 locs ht hvm hw_28 hB hz1 hk1 hS => ?_)
        subst hw_28
        obtain ⟨Gm_28, wm_28, tm_28, hIm_28, hrel_28, hP1, hK1, hD1⟩ := hB
        rw [ht] at hP1
        obtain ⟨hP, hD⟩ := jo_r hP hD hk1 hFc hP1 hD1
        have hKm_28 := va_K.moved hvm.symm hK1
        generalize H1 = H at hP hS ⊢
        refine lv_pop hx hb dL_law_386 rfl ?_
        refine lv_goto (tgt := 1049) hx hb dL_law_387 (by decide) ?_
        refine lv_iinc (v := (nI (i + 6))) (lv' := [(4, .int (nI (i + 6))), (3, .ref (ad 104)), (2, .ref m0), (1, .ref x0), (0, .ref b)]) hx hb dL_law_1049 hl (k := 0) rfl (nI_add _ 6) (by decide) rfl (fun ls hl => ?_)
        refine lv_goto (tgt := 23) hx hb dL_law_1052 (by decide) ?_
        refine W.widen (k := 150 + 23 * (i + 6)) (n := 3000 + 300 * (i + 6)) (by omega) (by omega) ?_
        exact K _ _ _ ⟨by omega, Gx_20, Gm_28, wx_20, wm_28, tx_20, tm_28, hIx_20, (Or.inr hIm_28), (rel_l hrl hrel_20.2.1 hrel_28.2.1 hrel_20.2.2 hrel_28.2.2), hKx_20, hKm_28, hP, hD, hS, lv_sub hl [0, 1, 2, 3, 4] rfl⟩
    · skip
      have g_29 : v_4.toInt ≠ (0 : Int) := i_ne c_25
      refine lv_iconst (v := 1) hx hb dL_law_378 (by decide) ?_
      refine lv_goto (tgt := 383) hx hb dL_law_379 (by decide) ?_
      rcases hMI with hMI | hMI
      · skip
        have hPc := ap_r hP
        have hDc := ad_r hD
        have hKc := hKm
        have hFc := fr_O hDc hS hA
        obtain ⟨fs9, hrc⟩ := MZ_rc hMI
        refine va_calli (va_runV (As := [.int v_2, .int 1]) (rest := []) ⟨hx, hb, hml, hown, hts⟩ (Z_door l dC dI s.heap.size atx H.size md mk9 m0 Gm wm tm v_2 1 hMI ) (cwV 2 hts (gV (fun w h => id h) wd_1874 wd_1871 wd_1872 wd_1873 wd_127) rfl rfl rfl (by decide +kernel) ⟨Nat.le_of_ble_eq_true rfl, Nat.le_of_ble_eq_true rfl⟩) ⟨fun a U g mk q => by obtain ⟨q0, q1, q2, qG, qP, qK, qD⟩ := q; exact ⟨q0, q1, q2, GW.blind qG, qP, va_K.moved (u := U) (U := U.calling g mk a) (Vm.Alike.refl U.vm) qK, qD⟩, va_recv hKc hPc (ci := 14) (q0 := 0) rfl hrc, fun U hU hW => ⟨rfl, by rw [hU], Nat.le_trans hn0 hS.1, GW.go hW hU hG (fun q hq hA9 => hS.2.1 q hq (fun h => hA9 (hA0 q h))), by rw [hU]; exact hPc, va_K.moved hW.alike hKc, hDc.weaken (fun _ _ _ h => hA0 _ h)⟩⟩ rfl rfl hl.1 rfl (lv_room (Nat.le_of_ble_eq_true rfl)) dL_law_383 ⟨(by show _ ≤ (601024 : Nat); omega), (by show _ ≤ (7293034 : Nat); omega)⟩) hS (fun q _ h => hFc q h) hFc (fun r_30 u t H1 locs ht hvm hw_30 hB hz1 hk1 hS => ?_)
        subst hw_30
        obtain ⟨Gm_30, wm_30, tm_30, hIm_30, hrel_30, hP1, hK1, hD1⟩ := hB
        rw [ht] at hP1
        obtain ⟨hP, hD⟩ := jo_r hP hD hk1 hFc hP1 hD1
        have hKm_30 := va_K.moved hvm.symm hK1
        generalize H1 = H at hP hS ⊢
        refine lv_pop hx hb dL_law_386 rfl ?_
        refine lv_goto (tgt := 1049) hx hb dL_law_387 (by decide) ?_
        refine lv_iinc (v := (nI (i + 6))) (lv' := [(4, .int (nI (i + 6))), (3, .ref (ad 104)), (2, .ref m0), (1, .ref x0), (0, .ref b)]) hx hb dL_law_1049 hl (k := 0) rfl (nI_add _ 6) (by decide) rfl (fun ls hl => ?_)
        refine lv_goto (tgt := 23) hx hb dL_law_1052 (by decide) ?_
        refine W.widen (k := 150 + 23 * (i + 6)) (n := 3000 + 300 * (i + 6)) (by omega) (by omega) ?_
        exact K _ _ _ ⟨by omega, Gx_20, Gm_30, wx_20, wm_30, tx_20, tm_30, hIx_20, (Or.inl hIm_30), (rel_l hrl hrel_20.2.1 hrel_30.2.1 hrel_20.2.2 hrel_30.2.2), hKx_20, hKm_30, hP, hD, hS, lv_sub hl [0, 1, 2, 3, 4] rfl⟩
      · skip
        have hPc := ap_r hP
        have hDc := ad_r hD
        have hKc := hKm
        have hFc := fr_O hDc hS hA
        obtain ⟨fs9, hrc⟩ := MB_rc hMI
        refine va_calli (va_runV (As := [.int v_2, .int 1]) (rest := []) ⟨hx, hb, hml, hown, hts⟩ (B_door l dC dI s.heap.size atx H.size md mk9 m0 Gm wm tm v_2 1 hMI (by decide)) (cwV 2 hts (gV (fun w h => id h) wd_1874 wd_1871 wd_1872 wd_1873 wd_127) rfl rfl rfl (by decide +kernel) ⟨Nat.le_of_ble_eq_true rfl, Nat.le_of_ble_eq_true rfl⟩) ⟨fun a U g mk q => by obtain ⟨q0, q1, q2, qG, qP, qK, qD⟩ := q; exact ⟨q0, q1, q2, GW.blind qG, qP, va_K.moved (u := U) (U := U.calling g mk a) (Vm.Alike.refl U.vm) qK, qD⟩, va_recv hKc hPc (ci := 14) (q0 := 0) rfl hrc, fun U hU hW => ⟨rfl, by rw [hU], Nat.le_trans hn0 hS.1, GW.go hW hU hG (fun q hq hA9 => hS.2.1 q hq (fun h => hA9 (hA0 q h))), by rw [hU]; exact hPc, va_K.moved hW.alike hKc, hDc.weaken (fun _ _ _ h => hA0 _ h)⟩⟩ rfl rfl hl.1 rfl (lv_room (Nat.le_of_ble_eq_true rfl)) dL_law_383 ⟨(by show _ ≤ (601024 : Nat); omega), (by show _ ≤ (7293034 : Nat); omega)⟩) hS (fun q _ h => hFc q h) hFc (fun r_31 u t H1 locs ht hvm hw_31 hB hz1 hk1 hS => ?_)
        subst hw_31
        obtain ⟨Gm_31, wm_31, tm_31, hIm_31, hrel_31, hP1, hK1, hD1⟩ := hB
        rw [ht] at hP1
        obtain ⟨hP, hD⟩ := jo_r hP hD hk1 hFc hP1 hD1
        have hKm_31 := va_K.moved hvm.symm hK1
        generalize H1 = H at hP hS ⊢
        refine lv_pop hx hb dL_law_386 rfl ?_
        refine lv_goto (tgt := 1049) hx hb dL_law_387 (by decide) ?_
        refine lv_iinc (v := (nI (i + 6))) (lv' := [(4, .int (nI (i + 6))), (3, .ref (ad 104)), (2, .ref m0), (1, .ref x0), (0, .ref b)]) hx hb dL_law_1049 hl (k := 0) rfl (nI_add _ 6) (by decide) rfl (fun ls hl => ?_)
        refine lv_goto (tgt := 23) hx hb dL_law_1052 (by decide) ?_
        refine W.widen (k := 150 + 23 * (i + 6)) (n := 3000 + 300 * (i + 6)) (by omega) (by omega) ?_
        exact K _ _ _ ⟨by omega, Gx_20, Gm_31, wx_20, wm_31, tx_20, tm_31, hIx_20, (Or.inr hIm_31), (rel_l hrl hrel_20.2.1 hrel_31.2.1 hrel_20.2.2 hrel_31.2.2), hKx_20, hKm_31, hP, hD, hS, lv_sub hl [0, 1, 2, 3, 4] rfl⟩
set_option maxHeartbeats 4000000 in
set_option maxRecDepth 100000 in
theorem law_6 {p : Program} {l : Launch} {e : Env} {s : State} {m : MethodId} {below : List Frame} {meth : Method} {c : Code} {dC : Nat → ClassId} {dI : Nat → Nat → Nat} {b L : Nat} {xs : Nat → Int32} (hst : l.stackTraces = false) (hL : L ≤ 3072) (C0 : lw_At p s m meth c b L xs) (atx : Nat → Nat × Nat) (hG : GW s.heap.size atx s) (ad : Nat → Nat) (ka : Nat → ClassId) (x0 : Nat) (md : Nat → Nat) (mk9 : Nat → ClassId) (m0 : Nat) (i : Nat) (hi : i + 6 ≤ L) (K : ∀ (H : Heap) (locs : List Loc) (ls : Array Slot), LV dC dI s b L ad ka x0 md mk9 m0 (i + 6) H locs ls → W p l e room_1 s m #[Value.ref b] below meth c H locs (150 + 23 * (i + 6)) (3000 + 300 * (i + 6)) (lw_Z below #[Value.ref b] s) (F0 m 23 ls [])) (H : Heap) (locs : List Loc) (ls : Array Slot) (Gx Gm : Nat → Int) (wx wm : va_W) (tx tm : List (ClassId × FieldType)) (hXI : XI ad ka x0 Gx wx tx) (hMI : MZ md mk9 m0 Gm wm tm ∨ MB md mk9 m0 Gm wm tm) (hrl : REL Gx Gm) (hKx : va_K (dC, dI) classes tx s) (hKm : va_K (dC, dI) classes tm s) (hP : va_P (dC, dI) classes (wx ++ wm) H) (hD : va_D (fun q : Nat => s.heap.size ≤ q) (wx ++ wm)) (hS : va_S (fun q : Nat => s.heap.size ≤ q) s.heap H locs) (hl : lv_has ls 7 [(4, .int (nI i)), (3, .ref (ad 104)), (2, .ref m0), (1, .ref x0), (0, .ref b)]) : W p l e room_1 s m #[Value.ref b] below meth c H locs (150 + 23 * i) (3000 + 300 * i) (lw_Z below #[Value.ref b] s) (F0 m 390 ls []) := by
  obtain ⟨hx, hb, hr, hml, hown, hts0, hX, hbl, hlocks, hgv⟩ := C0
  have hts : ∀ w ∈ wG, w.before #[Value.ref b] s = true := fun w h => hts0 w (wG_t h)
  have hA : ∀ q : Nat, s.heap.size ≤ q → (fun q : Nat => s.heap.size ≤ q) q := fun _ h => h
  have hA0 : ∀ q : Nat, (fun q : Nat => s.heap.size ≤ q) q → s.heap.size ≤ q := fun _ h => h
  have hn0 : s.heap.size ≤ s.heap.size := Nat.le_refl _
  have hbA : ¬ (fun q : Nat => s.heap.size ≤ q) b := Nat.not_le.mpr hbl
  have hrl0 := rel0 hrl
  refine lv_aload_n hx hb dL_law_390 rfl (lv_at hl 3 rfl) ?_
  refine lv_aload_n hx hb dL_law_391 rfl (lv_at hl 4 rfl) ?_
  refine lv_iload hx hb dL_law_392 (lv_at hl 0 rfl) ?_
  refine lv_iconst (v := 1) hx hb dL_law_394 (by decide) ?_
  refine lv_iadd hx hb dL_law_395 ?_
  refine lv_topi (fun v_1 ev_1 => ?_)
  obtain rfl : v_1 = nI (i + 1) := ev_1.trans (nI_add i 1)
  refine va_sld hx hb hX hbl hbA hS (vp_in_nI (n := (i + 1)) (by omega) (by omega)) dL_law_396 ?_
  refine lv_topi (fun v_2 ev_2 => ?_)
  refine lv_aload_n hx hb dL_law_397 rfl (lv_at hl 4 rfl) ?_
  refine lv_iload hx hb dL_law_398 (lv_at hl 0 rfl) ?_
  refine lv_iconst (v := 2) hx hb dL_law_400 (by decide) ?_
  refine lv_iadd hx hb dL_law_401 ?_
  refine lv_topi (fun v_3 ev_3 => ?_)
  obtain rfl : v_3 = nI (i + 2) := ev_3.trans (nI_add i 2)
  refine va_sld hx hb hX hbl hbA hS (vp_in_nI (n := (i + 2)) (by omega) (by omega)) dL_law_402 ?_
  refine lv_topi (fun v_4 ev_4 => ?_)
  have hPc := ap_l hP
  have hDc := ad_l hD
  have hKc := hKx
  have hFc := fr_O hDc hS hA
  obtain ⟨fs9, hrc⟩ := XI_rc hXI
  refine va_calli (va_runV (As := [.int v_2, .int v_4]) (rest := []) ⟨hx, hb, hml, hown, hts⟩ (X_speed l dC dI s.heap.size atx H.size ad ka x0 Gx wx tx v_2 v_4 hXI ) (cwV 2 hts (gV (fun w h => id h) wd_978 wd_975 wd_976 wd_977 wd_114) rfl rfl rfl (by decide +kernel) ⟨Nat.le_of_ble_eq_true rfl, Nat.le_of_ble_eq_true rfl⟩) ⟨fun a U g mk q => by obtain ⟨q0, q1, q2, qG, qP, qK, qD⟩ := q; exact ⟨q0, q1, q2, GW.blind qG, qP, va_K.moved (u := U) (U := U.calling g mk a) (Vm.Alike.refl U.vm) qK, qD⟩, va_recv hKc hPc (ci := 11) (q0 := 0) rfl hrc, fun U hU hW => ⟨rfl, by rw [hU], Nat.le_trans hn0 hS.1, GW.go hW hU hG (fun q hq hA9 => hS.2.1 q hq (fun h => hA9 (hA0 q h))), by rw [hU]; exact hPc, va_K.moved hW.alike hKc, hDc.weaken (fun _ _ _ h => hA0 _ h)⟩⟩ rfl rfl hl.1 rfl (lv_room (Nat.le_of_ble_eq_true rfl)) dL_law_403 ⟨(by show _ ≤ (601024 : Nat); omega), (by show _ ≤ (7293034 : Nat); omega)⟩) hS (fun q _ h => hFc q h) hFc (fun r_5 u t H1 locs ht hvm hw_5 hB hz1 hk1 hS => ?_)
  subst hw_5
  obtain ⟨Gx_5, wx_5, tx_5, hIx_5, hrel_5, hP1, hK1, hD1⟩ := hB
  rw [ht] at hP1
  obtain ⟨hP, hD⟩ := jo_l hP hD hk1 hFc hP1 hD1
  have hKx_5 := va_K.moved hvm.symm hK1
  generalize H1 = H at hP hS ⊢
  refine lv_pop hx hb dL_law_406 rfl ?_
  refine lv_aload_n hx hb dL_law_407 rfl (lv_at hl 2 rfl) ?_
  refine lv_aload_n hx hb dL_law_408 rfl (lv_at hl 4 rfl) ?_
  refine lv_iload hx hb dL_law_409 (lv_at hl 0 rfl) ?_
  refine lv_iconst (v := 1) hx hb dL_law_411 (by decide) ?_
  refine lv_iadd hx hb dL_law_412 ?_
  refine lv_topi (fun v_6 ev_6 => ?_)
  obtain rfl : v_6 = nI (i + 1) := ev_6.trans (nI_add i 1)
  refine va_sld hx hb hX hbl hbA hS (vp_in_nI (n := (i + 1)) (by omega) (by omega)) dL_law_413 ?_
  refine lv_topi (fun v_7 ev_7 => ?_)
  obtain rfl : v_2 = v_7 := (ev_7.trans ev_2.symm).symm
  refine lv_aload_n hx hb dL_law_414 rfl (lv_at hl 4 rfl) ?_
  refine lv_iload hx hb dL_law_415 (lv_at hl 0 rfl) ?_
  refine lv_iconst (v := 2) hx hb dL_law_417 (by decide) ?_
  refine lv_iadd hx hb dL_law_418 ?_
  refine lv_topi (fun v_8 ev_8 => ?_)
  obtain rfl : v_8 = nI (i + 2) := ev_8.trans (nI_add i 2)
  refine va_sld hx hb hX hbl hbA hS (vp_in_nI (n := (i + 2)) (by omega) (by omega)) dL_law_419 ?_
  refine lv_topi (fun v_9 ev_9 => ?_)
  obtain rfl : v_4 = v_9 := (ev_9.trans ev_4.symm).symm
  rcases hMI with hMI | hMI
  · skip
    have hPc := ap_r hP
    have hDc := ad_r hD
    have hKc := hKm
    have hFc := fr_O hDc hS hA
    obtain ⟨fs9, hrc⟩ := MZ_rc hMI
    refine va_calli (va_runV (As := [.int v_2, .int v_4]) (rest := []) ⟨hx, hb, hml, hown, hts⟩ (Z_speed l dC dI s.heap.size atx H.size md mk9 m0 Gm wm tm v_2 v_4 hMI ) (cwV 2 hts (gV (fun w h => id h) wd_1890 wd_1887 wd_1888 wd_1889 wd_127) rfl rfl rfl (by decide +kernel) ⟨Nat.le_of_ble_eq_true rfl, Nat.le_of_ble_eq_true rfl⟩) ⟨fun a U g mk q => by obtain ⟨q0, q1, q2, qG, qP, qK, qD⟩ := q; exact ⟨q0, q1, q2, GW.blind qG, qP, va_K.moved (u := U) (U := U.calling g mk a) (Vm.Alike.refl U.vm) qK, qD⟩, va_recv hKc hPc (ci := 14) (q0 := 0) rfl hrc, fun U hU hW => ⟨rfl, by rw [hU], Nat.le_trans hn0 hS.1, GW.go hW hU hG (fun q hq hA9 => hS.2.1 q hq (fun h => hA9 (hA0 q h))), by rw [hU]; exact hPc, va_K.moved hW.alike hKc, hDc.weaken (fun _ _ _ h => hA0 _ h)⟩⟩ rfl rfl hl.1 rfl (lv_room (Nat.le_of_ble_eq_true rfl)) dL_law_420 ⟨(by show _ ≤ (601024 : Nat); omega), (by show _ ≤ (7293034 : Nat); omega)⟩) hS (fun q _ h => hFc q h) hFc (fun r_10 u t H1 locs ht hvm hw_10 hB hz1 hk1 hS => ?_)
    subst hw_10
    obtain ⟨Gm_10, wm_10, tm_10, hIm_10, hrel_10, hP1, hK1, hD1⟩ := hB
    rw [ht] at hP1
    obtain ⟨hP, hD⟩ := jo_r hP hD hk1 hFc hP1 hD1
    have hKm_10 := va_K.moved hvm.symm hK1
    generalize H1 = H at hP hS ⊢
    refine lv_pop hx hb dL_law_423 rfl ?_
    refine lv_goto (tgt := 1049) hx hb dL_law_424 (by decide) ?_
    refine lv_iinc (v := (nI (i + 6))) (lv' := [(4, .int (nI (i + 6))), (3, .ref (ad 104)), (2, .ref m0), (1, .ref x0), (0, .ref b)]) hx hb dL_law_1049 hl (k := 0) rfl (nI_add _ 6) (by decide) rfl (fun ls hl => ?_)
    refine lv_goto (tgt := 23) hx hb dL_law_1052 (by decide) ?_
    refine W.widen (k := 150 + 23 * (i + 6)) (n := 3000 + 300 * (i + 6)) (by omega) (by omega) ?_
    exact K _ _ _ ⟨by omega, Gx_5, Gm_10, wx_5, wm_10, tx_5, tm_10, hIx_5, (Or.inl hIm_10), (rel_l hrl hrel_5.2.1 hrel_10.2.1 hrel_5.2.2 hrel_10.2.2), hKx_5, hKm_10, hP, hD, hS, lv_sub hl [0, 1, 2, 3, 4] rfl⟩
  · skip
    have hPc := ap_r hP
    have hDc := ad_r hD
    have hKc := hKm
    have hFc := fr_O hDc hS hA
    obtain ⟨fs9, hrc⟩ := MB_rc hMI
    refine va_calli (va_runV (As := [.int v_2, .int v_4]) (rest := []) ⟨hx, hb, hml, hown, hts⟩ (B_speed l dC dI s.heap.size atx H.size md mk9 m0 Gm wm tm v_2 v_4 hMI ) (cwV 2 hts (gV (fun w h => id h) wd_1890 wd_1887 wd_1888 wd_1889 wd_127) rfl rfl rfl (by decide +kernel) ⟨Nat.le_of_ble_eq_true rfl, Nat.le_of_ble_eq_true rfl⟩) ⟨fun a U g mk q => by obtain ⟨q0, q1, q2, qG, qP, qK, qD⟩ := q; exact ⟨q0, q1, q2, GW.blind qG, qP, va_K.moved (u := U) (U := U.calling g mk a) (Vm.Alike.refl U.vm) qK, qD⟩, va_recv hKc hPc (ci := 14) (q0 := 0) rfl hrc, fun U hU hW => ⟨rfl, by rw [hU], Nat.le_trans hn0 hS.1, GW.go hW hU hG (fun q hq hA9 => hS.2.1 q hq (fun h => hA9 (hA0 q h))), by rw [hU]; exact hPc, va_K.moved hW.alike hKc, hDc.weaken (fun _ _ _ h => hA0 _ h)⟩⟩ rfl rfl hl.1 rfl (lv_room (Nat.le_of_ble_eq_true rfl)) dL_law_420 ⟨(by show _ ≤ (601024 : Nat); omega), (by show _ ≤ (7293034 : Nat); omega)⟩) hS (fun q _ h => hFc q h) hFc (fun r_11 u t H1 locs ht hvm hw_11 hB hz1 hk1 hS => ?_)
    subst hw_11
    obtain ⟨Gm_11, wm_11, tm_11, hIm_11, hrel_11, hP1, hK1, hD1⟩ := hB
    rw [ht] at hP1
    obtain ⟨hP, hD⟩ := jo_r hP hD hk1 hFc hP1 hD1
    have hKm_11 := va_K.moved hvm.symm hK1
    generalize H1 = H at hP hS ⊢
    refine lv_pop hx hb dL_law_423 rfl ?_
    refine lv_goto (tgt := 1049) hx hb dL_law_424 (by decide) ?_
    refine lv_iinc (v := (nI (i + 6))) (lv' := [(4, .int (nI (i + 6))), (3, .ref (ad 104)), (2, .ref m0), (1, .ref x0), (0, .ref b)]) hx hb dL_law_1049 hl (k := 0) rfl (nI_add _ 6) (by decide) rfl (fun ls hl => ?_)
    refine lv_goto (tgt := 23) hx hb dL_law_1052 (by decide) ?_
    refine W.widen (k := 150 + 23 * (i + 6)) (n := 3000 + 300 * (i + 6)) (by omega) (by omega) ?_
    exact K _ _ _ ⟨by omega, Gx_5, Gm_11, wx_5, wm_11, tx_5, tm_11, hIx_5, (Or.inr hIm_11), (rel_l hrl hrel_5.2.1 hrel_11.2.1 hrel_5.2.2 hrel_11.2.2), hKx_5, hKm_11, hP, hD, hS, lv_sub hl [0, 1, 2, 3, 4] rfl⟩
set_option maxHeartbeats 4000000 in
set_option maxRecDepth 100000 in
theorem law_7 {p : Program} {l : Launch} {e : Env} {s : State} {m : MethodId} {below : List Frame} {meth : Method} {c : Code} {dC : Nat → ClassId} {dI : Nat → Nat → Nat} {b L : Nat} {xs : Nat → Int32} (hst : l.stackTraces = false) (hL : L ≤ 3072) (C0 : lw_At p s m meth c b L xs) (atx : Nat → Nat × Nat) (hG : GW s.heap.size atx s) (ad : Nat → Nat) (ka : Nat → ClassId) (x0 : Nat) (md : Nat → Nat) (mk9 : Nat → ClassId) (m0 : Nat) (i : Nat) (hi : i + 6 ≤ L) (K : ∀ (H : Heap) (locs : List Loc) (ls : Array Slot), LV dC dI s b L ad ka x0 md mk9 m0 (i + 6) H locs ls → W p l e room_1 s m #[Value.ref b] below meth c H locs (150 + 23 * (i + 6)) (3000 + 300 * (i + 6)) (lw_Z below #[Value.ref b] s) (F0 m 23 ls [])) (H : Heap) (locs : List Loc) (ls : Array Slot) (Gx Gm : Nat → Int) (wx wm : va_W) (tx tm : List (ClassId × FieldType)) (hXI : XI ad ka x0 Gx wx tx) (hMI : MZ md mk9 m0 Gm wm tm ∨ MB md mk9 m0 Gm wm tm) (hrl : REL Gx Gm) (hKx : va_K (dC, dI) classes tx s) (hKm : va_K (dC, dI) classes tm s) (hP : va_P (dC, dI) classes (wx ++ wm) H) (hD : va_D (fun q : Nat => s.heap.size ≤ q) (wx ++ wm)) (hS : va_S (fun q : Nat => s.heap.size ≤ q) s.heap H locs) (hl : lv_has ls 7 [(4, .int (nI i)), (3, .ref (ad 104)), (2, .ref m0), (1, .ref x0), (0, .ref b)]) : W p l e room_1 s m #[Value.ref b] below meth c H locs (150 + 23 * i) (3000 + 300 * i) (lw_Z below #[Value.ref b] s) (F0 m 427 ls []) := by
  obtain ⟨hx, hb, hr, hml, hown, hts0, hX, hbl, hlocks, hgv⟩ := C0
  have hts : ∀ w ∈ wG, w.before #[Value.ref b] s = true := fun w h => hts0 w (wG_t h)
  have hA : ∀ q : Nat, s.heap.size ≤ q → (fun q : Nat => s.heap.size ≤ q) q := fun _ h => h
  have hA0 : ∀ q : Nat, (fun q : Nat => s.heap.size ≤ q) q → s.heap.size ≤ q := fun _ h => h
  have hn0 : s.heap.size ≤ s.heap.size := Nat.le_refl _
  have hbA : ¬ (fun q : Nat => s.heap.size ≤ q) b := Nat.not_le.mpr hbl
  have hrl0 := rel0 hrl
  refine lv_aload_n hx hb dL_law_427 rfl (lv_at hl 3 rfl) ?_
  refine lv_aload_n hx hb dL_law_428 rfl (lv_at hl 4 rfl) ?_
  refine lv_iload hx hb dL_law_429 (lv_at hl 0 rfl) ?_
  refine lv_iconst (v := 1) hx hb dL_law_431 (by decide) ?_
  refine lv_iadd hx hb dL_law_432 ?_
  refine lv_topi (fun v_1 ev_1 => ?_)
  obtain rfl : v_1 = nI (i + 1) := ev_1.trans (nI_add i 1)
  refine va_sld hx hb hX hbl hbA hS (vp_in_nI (n := (i + 1)) (by omega) (by omega)) dL_law_433 ?_
  refine lv_topi (fun v_2 ev_2 => ?_)
  refine lv_aload_n hx hb dL_law_434 rfl (lv_at hl 4 rfl) ?_
  refine lv_iload hx hb dL_law_435 (lv_at hl 0 rfl) ?_
  refine lv_iconst (v := 2) hx hb dL_law_437 (by decide) ?_
  refine lv_iadd hx hb dL_law_438 ?_
  refine lv_topi (fun v_3 ev_3 => ?_)
  obtain rfl : v_3 = nI (i + 2) := ev_3.trans (nI_add i 2)
  refine va_sld hx hb hX hbl hbA hS (vp_in_nI (n := (i + 2)) (by omega) (by omega)) dL_law_439 ?_
  refine lv_topi (fun v_4 ev_4 => ?_)
  refine lv_if_eq (tgt := 447) hx hb dL_law_440 (by decide) (fun c_5 => ?_) (fun c_5 => ?_)
  · skip
    have g_6 : v_4.toInt = (0 : Int) := i_eq c_5
    refine lv_iconst (v := 0) hx hb dL_law_447 (by decide) ?_
    have hPc := ap_l hP
    have hDc := ad_l hD
    have hKc := hKx
    have hFc := fr_O hDc hS hA
    obtain ⟨fs9, hrc⟩ := XI_rc hXI
    refine va_calli (va_runV (As := [.int v_2, .int 0]) (rest := []) ⟨hx, hb, hml, hown, hts⟩ (X_fall l dC dI s.heap.size atx H.size ad ka x0 Gx wx tx v_2 0 hXI ) (cwV 2 hts (gV (fun w h => id h) wd_989 wd_986 wd_987 wd_988 wd_114) rfl rfl rfl (by decide +kernel) ⟨Nat.le_of_ble_eq_true rfl, Nat.le_of_ble_eq_true rfl⟩) ⟨fun a U g mk q => by obtain ⟨q0, q1, q2, qG, qP, qK, qD⟩ := q; exact ⟨q0, q1, q2, GW.blind qG, qP, va_K.moved (u := U) (U := U.calling g mk a) (Vm.Alike.refl U.vm) qK, qD⟩, va_recv hKc hPc (ci := 11) (q0 := 0) rfl hrc, fun U hU hW => ⟨rfl, by rw [hU], Nat.le_trans hn0 hS.1, GW.go hW hU hG (fun q hq hA9 => hS.2.1 q hq (fun h => hA9 (hA0 q h))), by rw [hU]; exact hPc, va_K.moved hW.alike hKc, hDc.weaken (fun _ _ _ h => hA0 _ h)⟩⟩ rfl rfl hl.1 rfl (lv_room (Nat.le_of_ble_eq_true rfl)) dL_law_448 ⟨(by show _ ≤ (601024 : Nat); omega), (by show _ ≤ (7293034 : Nat); omega)⟩) hS (fun q _ h => hFc q h) hFc (fun r_7 u t H1 locs ht hvm hw_7 hB hz1 hk1 hS => ?_)
    subst hw_7
    obtain ⟨Gx_7, wx_7, tx_7, hIx_7, hrel_7, hP1, hK1, hD1⟩ := hB
    rw [ht] at hP1
    obtain ⟨hP, hD⟩ := jo_l hP hD hk1 hFc hP1 hD1
    have hKx_7 := va_K.moved hvm.symm hK1
    generalize H1 = H at hP hS ⊢
    refine lv_pop hx hb dL_law_451 rfl ?_
    refine lv_aload_n hx hb dL_law_452 rfl (lv_at hl 2 rfl) ?_
    refine lv_aload_n hx hb dL_law_453 rfl (lv_at hl 4 rfl) ?_
    refine lv_iload hx hb dL_law_454 (lv_at hl 0 rfl) ?_
    refine lv_iconst (v := 1) hx hb dL_law_456 (by decide) ?_
    refine lv_iadd hx hb dL_law_457 ?_
    refine lv_topi (fun v_8 ev_8 => ?_)
    obtain rfl : v_8 = nI (i + 1) := ev_8.trans (nI_add i 1)
    refine va_sld hx hb hX hbl hbA hS (vp_in_nI (n := (i + 1)) (by omega) (by omega)) dL_law_458 ?_
    refine lv_topi (fun v_9 ev_9 => ?_)
    obtain rfl : v_2 = v_9 := (ev_9.trans ev_2.symm).symm
    refine lv_aload_n hx hb dL_law_459 rfl (lv_at hl 4 rfl) ?_
    refine lv_iload hx hb dL_law_460 (lv_at hl 0 rfl) ?_
    refine lv_iconst (v := 2) hx hb dL_law_462 (by decide) ?_
    refine lv_iadd hx hb dL_law_463 ?_
    refine lv_topi (fun v_10 ev_10 => ?_)
    obtain rfl : v_10 = nI (i + 2) := ev_10.trans (nI_add i 2)
    refine va_sld hx hb hX hbl hbA hS (vp_in_nI (n := (i + 2)) (by omega) (by omega)) dL_law_464 ?_
    refine lv_topi (fun v_11 ev_11 => ?_)
    obtain rfl : v_4 = v_11 := (ev_11.trans ev_4.symm).symm
    refine lv_if_eq (tgt := 472) hx hb dL_law_465 (by decide) (fun c_12 => ?_) (fun c_12 => ?_)
    · skip
      have g_13 : v_4.toInt = (0 : Int) := i_eq c_12
      refine lv_iconst (v := 0) hx hb dL_law_472 (by decide) ?_
      rcases hMI with hMI | hMI
      · skip
        have hPc := ap_r hP
        have hDc := ad_r hD
        have hKc := hKm
        have hFc := fr_O hDc hS hA
        obtain ⟨fs9, hrc⟩ := MZ_rc hMI
        refine va_calli (va_runV (As := [.int v_2, .int 0]) (rest := []) ⟨hx, hb, hml, hown, hts⟩ (Z_fall l dC dI s.heap.size atx H.size md mk9 m0 Gm wm tm v_2 0 hMI ) (cwV 2 hts (gV (fun w h => id h) wd_1898 wd_1895 wd_1896 wd_1897 wd_127) rfl rfl rfl (by decide +kernel) ⟨Nat.le_of_ble_eq_true rfl, Nat.le_of_ble_eq_true rfl⟩) ⟨fun a U g mk q => by obtain ⟨q0, q1, q2, qG, qP, qK, qD⟩ := q; exact ⟨q0, q1, q2, GW.blind qG, qP, va_K.moved (u := U) (U := U.calling g mk a) (Vm.Alike.refl U.vm) qK, qD⟩, va_recv hKc hPc (ci := 14) (q0 := 0) rfl hrc, fun U hU hW => ⟨rfl, by rw [hU], Nat.le_trans hn0 hS.1, GW.go hW hU hG (fun q hq hA9 => hS.2.1 q hq (fun h => hA9 (hA0 q h))), by rw [hU]; exact hPc, va_K.moved hW.alike hKc, hDc.weaken (fun _ _ _ h => hA0 _ h)⟩⟩ rfl rfl hl.1 rfl (lv_room (Nat.le_of_ble_eq_true rfl)) dL_law_473 ⟨(by show _ ≤ (601024 : Nat); omega), (by show _ ≤ (7293034 : Nat); omega)⟩) hS (fun q _ h => hFc q h) hFc (fun r_14 u t H1 locs ht hvm hw_14 hB hz1 hk1 hS => ?_)
        subst hw_14
        obtain ⟨Gm_14, wm_14, tm_14, hIm_14, hrel_14, hP1, hK1, hD1⟩ := hB
        rw [ht] at hP1
        obtain ⟨hP, hD⟩ := jo_r hP hD hk1 hFc hP1 hD1
        have hKm_14 := va_K.moved hvm.symm hK1
        generalize H1 = H at hP hS ⊢
        refine lv_pop hx hb dL_law_476 rfl ?_
        refine lv_goto (tgt := 1049) hx hb dL_law_477 (by decide) ?_
        refine lv_iinc (v := (nI (i + 6))) (lv' := [(4, .int (nI (i + 6))), (3, .ref (ad 104)), (2, .ref m0), (1, .ref x0), (0, .ref b)]) hx hb dL_law_1049 hl (k := 0) rfl (nI_add _ 6) (by decide) rfl (fun ls hl => ?_)
        refine lv_goto (tgt := 23) hx hb dL_law_1052 (by decide) ?_
        refine W.widen (k := 150 + 23 * (i + 6)) (n := 3000 + 300 * (i + 6)) (by omega) (by omega) ?_
        exact K _ _ _ ⟨by omega, Gx_7, Gm_14, wx_7, wm_14, tx_7, tm_14, hIx_7, (Or.inl hIm_14), (rel_l hrl hrel_7.2.1 hrel_14.2.1 hrel_7.2.2 hrel_14.2.2), hKx_7, hKm_14, hP, hD, hS, lv_sub hl [0, 1, 2, 3, 4] rfl⟩
      · skip
        have hPc := ap_r hP
        have hDc := ad_r hD
        have hKc := hKm
        have hFc := fr_O hDc hS hA
        obtain ⟨fs9, hrc⟩ := MB_rc hMI
        refine va_calli (va_runV (As := [.int v_2, .int 0]) (rest := []) ⟨hx, hb, hml, hown, hts⟩ (B_fall l dC dI s.heap.size atx H.size md mk9 m0 Gm wm tm v_2 0 hMI (by decide)) (cwV 2 hts (gV (fun w h => id h) wd_1898 wd_1895 wd_1896 wd_1897 wd_127) rfl rfl rfl (by decide +kernel) ⟨Nat.le_of_ble_eq_true rfl, Nat.le_of_ble_eq_true rfl⟩) ⟨fun a U g mk q => by obtain ⟨q0, q1, q2, qG, qP, qK, qD⟩ := q; exact ⟨q0, q1, q2, GW.blind qG, qP, va_K.moved (u := U) (U := U.calling g mk a) (Vm.Alike.refl U.vm) qK, qD⟩, va_recv hKc hPc (ci := 14) (q0 := 0) rfl hrc, fun U hU hW => ⟨rfl, by rw [hU], Nat.le_trans hn0 hS.1, GW.go hW hU hG (fun q hq hA9 => hS.2.1 q hq (fun h => hA9 (hA0 q h))), by rw [hU]; exact hPc, va_K.moved hW.alike hKc, hDc.weaken (fun _ _ _ h => hA0 _ h)⟩⟩ rfl rfl hl.1 rfl (lv_room (Nat.le_of_ble_eq_true rfl)) dL_law_473 ⟨(by show _ ≤ (601024 : Nat); omega), (by show _ ≤ (7293034 : Nat); omega)⟩) hS (fun q _ h => hFc q h) hFc (fun r_15 u t H1 locs ht hvm hw_15 hB hz1 hk1 hS => ?_)
        subst hw_15
        obtain ⟨Gm_15, wm_15, tm_15, hIm_15, hrel_15, hP1, hK1, hD1⟩ := hB
        rw [ht] at hP1
        obtain ⟨hP, hD⟩ := jo_r hP hD hk1 hFc hP1 hD1
        have hKm_15 := va_K.moved hvm.symm hK1
        generalize H1 = H at hP hS ⊢
        refine lv_pop hx hb dL_law_476 rfl ?_
        refine lv_goto (tgt := 1049) hx hb dL_law_477 (by decide) ?_
        refine lv_iinc (v := (nI (i + 6))) (lv' := [(4, .int (nI (i + 6))), (3, .ref (ad 104)), (2, .ref m0), (1, .ref x0), (0, .ref b)]) hx hb dL_law_1049 hl (k := 0) rfl (nI_add _ 6) (by decide) rfl (fun ls hl => ?_)
        refine lv_goto (tgt := 23) hx hb dL_law_1052 (by decide) ?_
        refine W.widen (k := 150 + 23 * (i + 6)) (n := 3000 + 300 * (i + 6)) (by omega) (by omega) ?_
        exact K _ _ _ ⟨by omega, Gx_7, Gm_15, wx_7, wm_15, tx_7, tm_15, hIx_7, (Or.inr hIm_15), (rel_l hrl hrel_7.2.1 hrel_15.2.1 hrel_7.2.2 hrel_15.2.2), hKx_7, hKm_15, hP, hD, hS, lv_sub hl [0, 1, 2, 3, 4] rfl⟩
    · skip
      have g_16 : v_4.toInt ≠ (0 : Int) := i_ne c_12
      refine lv_iconst (v := 1) hx hb dL_law_468 (by decide) ?_
      refine lv_goto (tgt := 473) hx hb dL_law_469 (by decide) ?_
      rcases hMI with hMI | hMI
      · skip
        have hPc := ap_r hP
        have hDc := ad_r hD
        have hKc := hKm
        have hFc := fr_O hDc hS hA
        obtain ⟨fs9, hrc⟩ := MZ_rc hMI
        refine va_calli (va_runV (As := [.int v_2, .int 1]) (rest := []) ⟨hx, hb, hml, hown, hts⟩ (Z_fall l dC dI s.heap.size atx H.size md mk9 m0 Gm wm tm v_2 1 hMI ) (cwV 2 hts (gV (fun w h => id h) wd_1898 wd_1895 wd_1896 wd_1897 wd_127) rfl rfl rfl (by decide +kernel) ⟨Nat.le_of_ble_eq_true rfl, Nat.le_of_ble_eq_true rfl⟩) ⟨fun a U g mk q => by obtain ⟨q0, q1, q2, qG, qP, qK, qD⟩ := q; exact ⟨q0, q1, q2, GW.blind qG, qP, va_K.moved (u := U) (U := U.calling g mk a) (Vm.Alike.refl U.vm) qK, qD⟩, va_recv hKc hPc (ci := 14) (q0 := 0) rfl hrc, fun U hU hW => ⟨rfl, by rw [hU], Nat.le_trans hn0 hS.1, GW.go hW hU hG (fun q hq hA9 => hS.2.1 q hq (fun h => hA9 (hA0 q h))), by rw [hU]; exact hPc, va_K.moved hW.alike hKc, hDc.weaken (fun _ _ _ h => hA0 _ h)⟩⟩ rfl rfl hl.1 rfl (lv_room (Nat.le_of_ble_eq_true rfl)) dL_law_473 ⟨(by show _ ≤ (601024 : Nat); omega), (by show _ ≤ (7293034 : Nat); omega)⟩) hS (fun q _ h => hFc q h) hFc (fun r_17 u t H1 locs ht hvm hw_17 hB hz1 hk1 hS => ?_)
        subst hw_17
        obtain ⟨Gm_17, wm_17, tm_17, hIm_17, hrel_17, hP1, hK1, hD1⟩ := hB
        rw [ht] at hP1
        obtain ⟨hP, hD⟩ := jo_r hP hD hk1 hFc hP1 hD1
        have hKm_17 := va_K.moved hvm.symm hK1
        generalize H1 = H at hP hS ⊢
        refine lv_pop hx hb dL_law_476 rfl ?_
        refine lv_goto (tgt := 1049) hx hb dL_law_477 (by decide) ?_
        refine lv_iinc (v := (nI (i + 6))) (lv' := [(4, .int (nI (i + 6))), (3, .ref (ad 104)), (2, .ref m0), (1, .ref x0), (0, .ref b)]) hx hb dL_law_1049 hl (k := 0) rfl (nI_add _ 6) (by decide) rfl (fun ls hl => ?_)
        refine lv_goto (tgt := 23) hx hb dL_law_1052 (by decide) ?_
        refine W.widen (k := 150 + 23 * (i + 6)) (n := 3000 + 300 * (i + 6)) (by omega) (by omega) ?_
        exact K _ _ _ ⟨by omega, Gx_7, Gm_17, wx_7, wm_17, tx_7, tm_17, hIx_7, (Or.inl hIm_17), (rel_l hrl hrel_7.2.1 hrel_17.2.1 hrel_7.2.2 hrel_17.2.2), hKx_7, hKm_17, hP, hD, hS, lv_sub hl [0, 1, 2, 3, 4] rfl⟩
      · skip
        have hPc := ap_r hP
        have hDc := ad_r hD
        have hKc := hKm
        have hFc := fr_O hDc hS hA
        obtain ⟨fs9, hrc⟩ := MB_rc hMI
        refine va_calli (va_runV (As := [.int v_2, .int 1]) (rest := []) ⟨hx, hb, hml, hown, hts⟩ (B_fall l dC dI s.heap.size atx H.size md mk9 m0 Gm wm tm v_2 1 hMI (by decide)) (cwV 2 hts (gV (fun w h => id h) wd_1898 wd_1895 wd_1896 wd_1897 wd_127) rfl rfl rfl (by decide +kernel) ⟨Nat.le_of_ble_eq_true rfl, Nat.le_of_ble_eq_true rfl⟩) ⟨fun a U g mk q => by obtain ⟨q0, q1, q2, qG, qP, qK, qD⟩ := q; exact ⟨q0, q1, q2, GW.blind qG, qP, va_K.moved (u := U) (U := U.calling g mk a) (Vm.Alike.refl U.vm) qK, qD⟩, va_recv hKc hPc (ci := 14) (q0 := 0) rfl hrc, fun U hU hW => ⟨rfl, by rw [hU], Nat.le_trans hn0 hS.1, GW.go hW hU hG (fun q hq hA9 => hS.2.1 q hq (fun h => hA9 (hA0 q h))), by rw [hU]; exact hPc, va_K.moved hW.alike hKc, hDc.weaken (fun _ _ _ h => hA0 _ h)⟩⟩ rfl rfl hl.1 rfl (lv_room (Nat.le_of_ble_eq_true rfl)) dL_law_473 ⟨(by show _ ≤ (601024 : Nat); omega), (by show _ ≤ (7293034 : Nat); omega)⟩) hS (fun q _ h => hFc q h) hFc (fun r_18 u t H1 locs ht hvm hw_18 hB hz1 hk1 hS => ?_)
        subst hw_18
        obtain ⟨Gm_18, wm_18, tm_18, hIm_18, hrel_18, hP1, hK1, hD1⟩ := hB
        rw [ht] at hP1
        obtain ⟨hP, hD⟩ := jo_r hP hD hk1 hFc hP1 hD1
        have hKm_18 := va_K.moved hvm.symm hK1
        generalize H1 = H at hP hS ⊢
        refine lv_pop hx hb dL_law_476 rfl ?_
        refine lv_goto (tgt := 1049) hx hb dL_law_477 (by decide) ?_
        refine lv_iinc (v := (nI (i + 6))) (lv' := [(4, .int (nI (i + 6))), (3, .ref (ad 104)), (2, .ref m0), (1, .ref x0), (0, .ref b)]) hx hb dL_law_1049 hl (k := 0) rfl (nI_add _ 6) (by decide) rfl (fun ls hl => ?_)
        refine lv_goto (tgt := 23) hx hb dL_law_1052 (by decide) ?_
        refine W.widen (k := 150 + 23 * (i + 6)) (n := 3000 + 300 * (i + 6)) (by omega) (by omega) ?_
        exact K _ _ _ ⟨by omega, Gx_7, Gm_18, wx_7, wm_18, tx_7, tm_18, hIx_7, (Or.inr hIm_18), (rel_l hrl hrel_7.2.1 hrel_18.2.1 hrel_7.2.2 hrel_18.2.2), hKx_7, hKm_18, hP, hD, hS, lv_sub hl [0, 1, 2, 3, 4] rfl⟩
  · skip
    have g_19 : v_4.toInt ≠ (0 : Int) := i_ne c_5
    refine lv_iconst (v := 1) hx hb dL_law_443 (by decide) ?_
    refine lv_goto (tgt := 448) hx hb dL_law_444 (by decide) ?_
    have hPc := ap_l hP
    have hDc := ad_l hD
    have hKc := hKx
    have hFc := fr_O hDc hS hA
    obtain ⟨fs9, hrc⟩ := XI_rc hXI
    refine va_calli (va_runV (As := [.int v_2, .int 1]) (rest := []) ⟨hx, hb, hml, hown, hts⟩ (X_fall l dC dI s.heap.size atx H.size ad ka x0 Gx wx tx v_2 1 hXI ) (cwV 2 hts (gV (fun w h => id h) wd_989 wd_986 wd_987 wd_988 wd_114) rfl rfl rfl (by decide +kernel) ⟨Nat.le_of_ble_eq_true rfl, Nat.le_of_ble_eq_true rfl⟩) ⟨fun a U g mk q => by obtain ⟨q0, q1, q2, qG, qP, qK, qD⟩ := q; exact ⟨q0, q1, q2, GW.blind qG, qP, va_K.moved (u := U) (U := U.calling g mk a) (Vm.Alike.refl U.vm) qK, qD⟩, va_recv hKc hPc (ci := 11) (q0 := 0) rfl hrc, fun U hU hW => ⟨rfl, by rw [hU], Nat.le_trans hn0 hS.1, GW.go hW hU hG (fun q hq hA9 => hS.2.1 q hq (fun h => hA9 (hA0 q h))), by rw [hU]; exact hPc, va_K.moved hW.alike hKc, hDc.weaken (fun _ _ _ h => hA0 _ h)⟩⟩ rfl rfl hl.1 rfl (lv_room (Nat.le_of_ble_eq_true rfl)) dL_law_448 ⟨(by show _ ≤ (601024 : Nat); omega), (by show _ ≤ (7293034 : Nat); omega)⟩) hS (fun q _ h => hFc q h) hFc (fun r_20 u t H1 locs ht hvm hw_20 hB hz1 hk1 hS => ?_)
    subst hw_20
    obtain ⟨Gx_20, wx_20, tx_20, hIx_20, hrel_20, hP1, hK1, hD1⟩ := hB
    rw [ht] at hP1
    obtain ⟨hP, hD⟩ := jo_l hP hD hk1 hFc hP1 hD1
    have hKx_20 := va_K.moved hvm.symm hK1
    generalize H1 = H at hP hS ⊢
    refine lv_pop hx hb dL_law_451 rfl ?_
    refine lv_aload_n hx hb dL_law_452 rfl (lv_at hl 2 rfl) ?_
    refine lv_aload_n hx hb dL_law_453 rfl (lv_at hl 4 rfl) ?_
    refine lv_iload hx hb dL_law_454 (lv_at hl 0 rfl) ?_
    refine lv_iconst (v := 1) hx hb dL_law_456 (by decide) ?_
    refine lv_iadd hx hb dL_law_457 ?_
    refine lv_topi (fun v_21 ev_21 => ?_)
    obtain rfl : v_21 = nI (i + 1) := ev_21.trans (nI_add i 1)
    refine va_sld hx hb hX hbl hbA hS (vp_in_nI (n := (i + 1)) (by omega) (by omega)) dL_law_458 ?_
    refine lv_topi (fun v_22 ev_22 => ?_)
    obtain rfl : v_2 = v_22 := (ev_22.trans ev_2.symm).symm
    refine lv_aload_n hx hb dL_law_459 rfl (lv_at hl 4 rfl) ?_
    refine lv_iload hx hb dL_law_460 (lv_at hl 0 rfl) ?_
    refine lv_iconst (v := 2) hx hb dL_law_462 (by decide) ?_
    refine lv_iadd hx hb dL_law_463 ?_
    refine lv_topi (fun v_23 ev_23 => ?_)
    obtain rfl : v_23 = nI (i + 2) := ev_23.trans (nI_add i 2)
    refine va_sld hx hb hX hbl hbA hS (vp_in_nI (n := (i + 2)) (by omega) (by omega)) dL_law_464 ?_
    refine lv_topi (fun v_24 ev_24 => ?_)
    obtain rfl : v_4 = v_24 := (ev_24.trans ev_4.symm).symm
    refine lv_if_eq (tgt := 472) hx hb dL_law_465 (by decide) (fun c_25 => ?_) (fun c_25 => ?_)
    · skip
      have g_26 : v_4.toInt = (0 : Int) := i_eq c_25
      refine lv_iconst (v := 0) hx hb dL_law_472 (by decide) ?_
      rcases hMI with hMI | hMI
      · skip
        have hPc := ap_r hP
        have hDc := ad_r hD
        have hKc := hKm
        have hFc := fr_O hDc hS hA
        obtain ⟨fs9, hrc⟩ := MZ_rc hMI
        refine va_calli (va_runV (As := [.int v_2, .int 0]) (rest := []) ⟨hx, hb, hml, hown, hts⟩ (Z_fall l dC dI s.heap.size atx H.size md mk9 m0 Gm wm tm v_2 0 hMI ) (cwV 2 hts (gV (fun w h => id h) wd_1898 wd_1895 wd_1896 wd_1897 wd_127) rfl rfl rfl (by decide +kernel) ⟨Nat.le_of_ble_eq_true rfl, Nat.le_of_ble_eq_true rfl⟩) ⟨fun a U g mk q => by obtain ⟨q0, q1, q2, qG, qP, qK, qD⟩ := q; exact ⟨q0, q1, q2, GW.blind qG, qP, va_K.moved (u := U) (U := U.calling g mk a) (Vm.Alike.refl U.vm) qK, qD⟩, va_recv hKc hPc (ci := 14) (q0 := 0) rfl hrc, fun U hU hW => ⟨rfl, by rw [hU], Nat.le_trans hn0 hS.1, GW.go hW hU hG (fun q hq hA9 => hS.2.1 q hq (fun h => hA9 (hA0 q h))), by rw [hU]; exact hPc, va_K.moved hW.alike hKc, hDc.weaken (fun _ _ _ h => hA0 _ h)⟩⟩ rfl rfl hl.1 rfl (lv_room (Nat.le_of_ble_eq_true rfl)) dL_law_473 ⟨(by show _ ≤ (601024 : Nat); omega), (by show _ ≤ (7293034 : Nat); omega)⟩) hS (fun q _ h => hFc q h) hFc (fun r_27 u t H1 locs ht hvm hw_27 hB hz1 hk1 hS => ?_)
        subst hw_27
        obtain ⟨Gm_27, wm_27, tm_27, hIm_27, hrel_27, hP1, hK1, hD1⟩ := hB
        rw [ht] at hP1
        obtain ⟨hP, hD⟩ := jo_r hP hD hk1 hFc hP1 hD1
        have hKm_27 := va_K.moved hvm.symm hK1
        generalize H1 = H at hP hS ⊢
        refine lv_pop hx hb dL_law_476 rfl ?_
        refine lv_goto (tgt := 1049) hx hb dL_law_477 (by decide) ?_
        refine lv_iinc (v := (nI (i + 6))) (lv' := [(4, .int (nI (i + 6))), (3, .ref (ad 104)), (2, .ref m0), (1, .ref x0), (0, .ref b)]) hx hb dL_law_1049 hl (k := 0) rfl (nI_add _ 6) (by decide) rfl (fun ls hl => ?_)
        refine lv_goto (tgt := 23) hx hb dL_law_1052 (by decide) ?_
        refine W.widen (k := 150 + 23 * (i + 6)) (n := 3000 + 300 * (i + 6)) (by omega) (by omega) ?_
        exact K _ _ _ ⟨by omega, Gx_20, Gm_27, wx_20, wm_27, tx_20, tm_27, hIx_20, (Or.inl hIm_27), (rel_l hrl hrel_20.2.1 hrel_27.2.1 hrel_20.2.2 hrel_27.2.2), hKx_20, hKm_27, hP, hD, hS, lv_sub hl [0, 1, 2, 3, 4] rfl⟩
      · skip
        have hPc := ap_r hP
        have hDc := ad_r hD
        have hKc := hKm
        have hFc := fr_O hDc hS hA
        obtain ⟨fs9, hrc⟩ := MB_rc hMI
        refine va_calli (va_runV (As := [.int v_2, .int 0]) (rest := []) ⟨hx, hb, hml, hown, hts⟩ (B_fall l dC dI s.heap.size atx H.size md mk9 m0 Gm wm tm v_2 0 hMI (by decide)) (cwV 2 hts (gV (fun w h => id h) wd_1898 wd_1895 wd_1896 wd_1897 wd_127) rfl rfl rfl (by decide +kernel) ⟨Nat.le_of_ble_eq_true rfl, Nat.le_of_ble_eq_true rfl⟩) ⟨fun a U g mk q => by obtain ⟨q0, q1, q2, qG, qP, qK, qD⟩ := q; exact ⟨q0, q1, q2, GW.blind qG, qP, va_K.moved (u := U) (U := U.calling g mk a) (Vm.Alike.refl U.vm) qK, qD⟩, va_recv hKc hPc (ci := 14) (q0 := 0) rfl hrc, fun U hU hW => ⟨rfl, by rw [hU], Nat.le_trans hn0 hS.1, GW.go hW hU hG (fun q hq hA9 => hS.2.1 q hq (fun h => hA9 (hA0 q h))), by rw [hU]; exact hPc, va_K.moved hW.alike hKc, hDc.weaken (fun _ _ _ h => hA0 _ h)⟩⟩ rfl rfl hl.1 rfl (lv_room (Nat.le_of_ble_eq_true rfl)) dL_law_473 ⟨(by show _ ≤ (601024 : Nat); omega), (by show _ ≤ (7293034 : Nat); omega)⟩) hS (fun q _ h => hFc q h) hFc (fun r_28 u t H1 locs ht hvm hw_28 hB hz1 hk1 hS => ?_)
        subst hw_28
        obtain ⟨Gm_28, wm_28, tm_28, hIm_28, hrel_28, hP1, hK1, hD1⟩ := hB
        rw [ht] at hP1
        obtain ⟨hP, hD⟩ := jo_r hP hD hk1 hFc hP1 hD1
        have hKm_28 := va_K.moved hvm.symm hK1
        generalize H1 = H at hP hS ⊢
        refine lv_pop hx hb dL_law_476 rfl ?_
        refine lv_goto (tgt := 1049) hx hb dL_law_477 (by decide) ?_
        refine lv_iinc (v := (nI (i + 6))) (lv' := [(4, .int (nI (i + 6))), (3, .ref (ad 104)), (2, .ref m0), (1, .ref x0), (0, .ref b)]) hx hb dL_law_1049 hl (k := 0) rfl (nI_add _ 6) (by decide) rfl (fun ls hl => ?_)
        refine lv_goto (tgt := 23) hx hb dL_law_1052 (by decide) ?_
        refine W.widen (k := 150 + 23 * (i + 6)) (n := 3000 + 300 * (i + 6)) (by omega) (by omega) ?_
        exact K _ _ _ ⟨by omega, Gx_20, Gm_28, wx_20, wm_28, tx_20, tm_28, hIx_20, (Or.inr hIm_28), (rel_l hrl hrel_20.2.1 hrel_28.2.1 hrel_20.2.2 hrel_28.2.2), hKx_20, hKm_28, hP, hD, hS, lv_sub hl [0, 1, 2, 3, 4] rfl⟩
    · skip
      have g_29 : v_4.toInt ≠ (0 : Int) := i_ne c_25
      refine lv_iconst (v := 1) hx hb dL_law_468 (by decide) ?_
      refine lv_goto (tgt := 473) hx hb dL_law_469 (by decide) ?_
      rcases hMI with hMI | hMI
      · skip
        have hPc := ap_r hP
        have hDc := ad_r hD
        have hKc := hKm
        have hFc := fr_O hDc hS hA
        obtain ⟨fs9, hrc⟩ := MZ_rc hMI
        refine va_calli (va_runV (As := [.int v_2, .int 1]) (rest := []) ⟨hx, hb, hml, hown, hts⟩ (Z_fall l dC dI s.heap.size atx H.size md mk9 m0 Gm wm tm v_2 1 hMI ) (cwV 2 hts (gV (fun w h => id h) wd_1898 wd_1895 wd_1896 wd_1897 wd_127) rfl rfl rfl (by decide +kernel) ⟨Nat.le_of_ble_eq_true rfl, Nat.le_of_ble_eq_true rfl⟩) ⟨fun a U g mk q => by obtain ⟨q0, q1, q2, qG, qP, qK, qD⟩ := q; exact ⟨q0, q1, q2, GW.blind qG, qP, va_K.moved (u := U) (U := U.calling g mk a) (Vm.Alike.refl U.vm) qK, qD⟩, va_recv hKc hPc (ci := 14) (q0 := 0) rfl hrc, fun U hU hW => ⟨rfl, by rw [hU], Nat.le_trans hn0 hS.1, GW.go hW hU hG (fun q hq hA9 => hS.2.1 q hq (fun h => hA9 (hA0 q h))), by rw [hU]; exact hPc, va_K.moved hW.alike hKc, hDc.weaken (fun _ _ _ h => hA0 _ h)⟩⟩ rfl rfl hl.1 rfl (lv_room (Nat.le_of_ble_eq_true rfl)) dL_law_473 ⟨(by show _ ≤ (601024 : Nat); omega), (by show _ ≤ (7293034 : Nat); omega)⟩) hS (fun q _ h => hFc q h) hFc (fun r_30 u t H1 locs ht hvm hw_30 hB hz1 hk1 hS => ?_)
        subst hw_30
        obtain ⟨Gm_30, wm_30, tm_30, hIm_30, hrel_30, hP1, hK1, hD1⟩ := hB
        rw [ht] at hP1
        obtain ⟨hP, hD⟩ := jo_r hP hD hk1 hFc hP1 hD1
        have hKm_30 := va_K.moved hvm.symm hK1
        generalize H1 = H at hP hS ⊢
        refine lv_pop hx hb dL_law_476 rfl ?_
        refine lv_goto (tgt := 1049) hx hb dL_law_477 (by decide) ?_
        refine lv_iinc (v := (nI (i + 6))) (lv' := [(4, .int (nI (i + 6))), (3, .ref (ad 104)), (2, .ref m0), (1, .ref x0), (0, .ref b)]) hx hb dL_law_1049 hl (k := 0) rfl (nI_add _ 6) (by decide) rfl (fun ls hl => ?_)
        refine lv_goto (tgt := 23) hx hb dL_law_1052 (by decide) ?_
        refine W.widen (k := 150 + 23 * (i + 6)) (n := 3000 + 300 * (i + 6)) (by omega) (by omega) ?_
        exact K _ _ _ ⟨by omega, Gx_20, Gm_30, wx_20, wm_30, tx_20, tm_30, hIx_20, (Or.inl hIm_30), (rel_l hrl hrel_20.2.1 hrel_30.2.1 hrel_20.2.2 hrel_30.2.2), hKx_20, hKm_30, hP, hD, hS, lv_sub hl [0, 1, 2, 3, 4] rfl⟩
      · skip
        have hPc := ap_r hP
        have hDc := ad_r hD
        have hKc := hKm
        have hFc := fr_O hDc hS hA
        obtain ⟨fs9, hrc⟩ := MB_rc hMI
        refine va_calli (va_runV (As := [.int v_2, .int 1]) (rest := []) ⟨hx, hb, hml, hown, hts⟩ (B_fall l dC dI s.heap.size atx H.size md mk9 m0 Gm wm tm v_2 1 hMI (by decide)) (cwV 2 hts (gV (fun w h => id h) wd_1898 wd_1895 wd_1896 wd_1897 wd_127) rfl rfl rfl (by decide +kernel) ⟨Nat.le_of_ble_eq_true rfl, Nat.le_of_ble_eq_true rfl⟩) ⟨fun a U g mk q => by obtain ⟨q0, q1, q2, qG, qP, qK, qD⟩ := q; exact ⟨q0, q1, q2, GW.blind qG, qP, va_K.moved (u := U) (U := U.calling g mk a) (Vm.Alike.refl U.vm) qK, qD⟩, va_recv hKc hPc (ci := 14) (q0 := 0) rfl hrc, fun U hU hW => ⟨rfl, by rw [hU], Nat.le_trans hn0 hS.1, GW.go hW hU hG (fun q hq hA9 => hS.2.1 q hq (fun h => hA9 (hA0 q h))), by rw [hU]; exact hPc, va_K.moved hW.alike hKc, hDc.weaken (fun _ _ _ h => hA0 _ h)⟩⟩ rfl rfl hl.1 rfl (lv_room (Nat.le_of_ble_eq_true rfl)) dL_law_473 ⟨(by show _ ≤ (601024 : Nat); omega), (by show _ ≤ (7293034 : Nat); omega)⟩) hS (fun q _ h => hFc q h) hFc (fun r_31 u t H1 locs ht hvm hw_31 hB hz1 hk1 hS => ?_)
        subst hw_31
        obtain ⟨Gm_31, wm_31, tm_31, hIm_31, hrel_31, hP1, hK1, hD1⟩ := hB
        rw [ht] at hP1
        obtain ⟨hP, hD⟩ := jo_r hP hD hk1 hFc hP1 hD1
        have hKm_31 := va_K.moved hvm.symm hK1
        generalize H1 = H at hP hS ⊢
        refine lv_pop hx hb dL_law_476 rfl ?_
        refine lv_goto (tgt := 1049) hx hb dL_law_477 (by decide) ?_
        refine lv_iinc (v := (nI (i + 6))) (lv' := [(4, .int (nI (i + 6))), (3, .ref (ad 104)), (2, .ref m0), (1, .ref x0), (0, .ref b)]) hx hb dL_law_1049 hl (k := 0) rfl (nI_add _ 6) (by decide) rfl (fun ls hl => ?_)
        refine lv_goto (tgt := 23) hx hb dL_law_1052 (by decide) ?_
        refine W.widen (k := 150 + 23 * (i + 6)) (n := 3000 + 300 * (i + 6)) (by omega) (by omega) ?_
        exact K _ _ _ ⟨by omega, Gx_20, Gm_31, wx_20, wm_31, tx_20, tm_31, hIx_20, (Or.inr hIm_31), (rel_l hrl hrel_20.2.1 hrel_31.2.1 hrel_20.2.2 hrel_31.2.2), hKx_20, hKm_31, hP, hD, hS, lv_sub hl [0, 1, 2, 3, 4] rfl⟩
set_option maxHeartbeats 4000000 in
set_option maxRecDepth 100000 in
theorem law_8 {p : Program} {l : Launch} {e : Env} {s : State} {m : MethodId} {below : List Frame} {meth : Method} {c : Code} {dC : Nat → ClassId} {dI : Nat → Nat → Nat} {b L : Nat} {xs : Nat → Int32} (hst : l.stackTraces = false) (hL : L ≤ 3072) (C0 : lw_At p s m meth c b L xs) (atx : Nat → Nat × Nat) (hG : GW s.heap.size atx s) (ad : Nat → Nat) (ka : Nat → ClassId) (x0 : Nat) (md : Nat → Nat) (mk9 : Nat → ClassId) (m0 : Nat) (i : Nat) (hi : i + 6 ≤ L) (K : ∀ (H : Heap) (locs : List Loc) (ls : Array Slot), LV dC dI s b L ad ka x0 md mk9 m0 (i + 6) H locs ls → W p l e room_1 s m #[Value.ref b] below meth c H locs (150 + 23 * (i + 6)) (3000 + 300 * (i + 6)) (lw_Z below #[Value.ref b] s) (F0 m 23 ls [])) (H : Heap) (locs : List Loc) (ls : Array Slot) (Gx Gm : Nat → Int) (wx wm : va_W) (tx tm : List (ClassId × FieldType)) (hXI : XI ad ka x0 Gx wx tx) (hMI : MZ md mk9 m0 Gm wm tm ∨ MB md mk9 m0 Gm wm tm) (hrl : REL Gx Gm) (hKx : va_K (dC, dI) classes tx s) (hKm : va_K (dC, dI) classes tm s) (hP : va_P (dC, dI) classes (wx ++ wm) H) (hD : va_D (fun q : Nat => s.heap.size ≤ q) (wx ++ wm)) (hS : va_S (fun q : Nat => s.heap.size ≤ q) s.heap H locs) (hl : lv_has ls 7 [(4, .int (nI i)), (3, .ref (ad 104)), (2, .ref m0), (1, .ref x0), (0, .ref b)]) : W p l e room_1 s m #[Value.ref b] below meth c H locs (150 + 23 * i) (3000 + 300 * i) (lw_Z below #[Value.ref b] s) (F0 m 480 ls []) := by
  obtain ⟨hx, hb, hr, hml, hown, hts0, hX, hbl, hlocks, hgv⟩ := C0
  have hts : ∀ w ∈ wG, w.before #[Value.ref b] s = true := fun w h => hts0 w (wG_t h)
  have hA : ∀ q : Nat, s.heap.size ≤ q → (fun q : Nat => s.heap.size ≤ q) q := fun _ h => h
  have hA0 : ∀ q : Nat, (fun q : Nat => s.heap.size ≤ q) q → s.heap.size ≤ q := fun _ h => h
  have hn0 : s.heap.size ≤ s.heap.size := Nat.le_refl _
  have hbA : ¬ (fun q : Nat => s.heap.size ≤ q) b := Nat.not_le.mpr hbl
  have hrl0 := rel0 hrl
  refine lv_aload_n hx hb dL_law_480 rfl (lv_at hl 3 rfl) ?_
  refine lv_aload_n hx hb dL_law_481 rfl (lv_at hl 4 rfl) ?_
  refine lv_iload hx hb dL_law_482 (lv_at hl 0 rfl) ?_
  refine lv_iconst (v := 1) hx hb dL_law_484 (by decide) ?_
  refine lv_iadd hx hb dL_law_485 ?_
  refine lv_topi (fun v_1 ev_1 => ?_)
  obtain rfl : v_1 = nI (i + 1) := ev_1.trans (nI_add i 1)
  refine va_sld hx hb hX hbl hbA hS (vp_in_nI (n := (i + 1)) (by omega) (by omega)) dL_law_486 ?_
  refine lv_topi (fun v_2 ev_2 => ?_)
  refine lv_aload_n hx hb dL_law_487 rfl (lv_at hl 4 rfl) ?_
  refine lv_iload hx hb dL_law_488 (lv_at hl 0 rfl) ?_
  refine lv_iconst (v := 2) hx hb dL_law_490 (by decide) ?_
  refine lv_iadd hx hb dL_law_491 ?_
  refine lv_topi (fun v_3 ev_3 => ?_)
  obtain rfl : v_3 = nI (i + 2) := ev_3.trans (nI_add i 2)
  refine va_sld hx hb hX hbl hbA hS (vp_in_nI (n := (i + 2)) (by omega) (by omega)) dL_law_492 ?_
  refine lv_topi (fun v_4 ev_4 => ?_)
  have hPc := ap_l hP
  have hDc := ad_l hD
  have hKc := hKx
  have hFc := fr_O hDc hS hA
  obtain ⟨fs9, hrc⟩ := XI_rc hXI
  refine va_calli (va_runV (As := [.int v_2, .int v_4]) (rest := []) ⟨hx, hb, hml, hown, hts⟩ (X_fire l dC dI s.heap.size atx H.size ad ka x0 Gx wx tx v_2 v_4 hXI ) (cwV 2 hts (gV (fun w h => id h) wd_993 wd_990 wd_991 wd_992 wd_114) rfl rfl rfl (by decide +kernel) ⟨Nat.le_of_ble_eq_true rfl, Nat.le_of_ble_eq_true rfl⟩) ⟨fun a U g mk q => by obtain ⟨q0, q1, q2, qG, qP, qK, qD⟩ := q; exact ⟨q0, q1, q2, GW.blind qG, qP, va_K.moved (u := U) (U := U.calling g mk a) (Vm.Alike.refl U.vm) qK, qD⟩, va_recv hKc hPc (ci := 11) (q0 := 0) rfl hrc, fun U hU hW => ⟨rfl, by rw [hU], Nat.le_trans hn0 hS.1, GW.go hW hU hG (fun q hq hA9 => hS.2.1 q hq (fun h => hA9 (hA0 q h))), by rw [hU]; exact hPc, va_K.moved hW.alike hKc, hDc.weaken (fun _ _ _ h => hA0 _ h)⟩⟩ rfl rfl hl.1 rfl (lv_room (Nat.le_of_ble_eq_true rfl)) dL_law_493 ⟨(by show _ ≤ (601024 : Nat); omega), (by show _ ≤ (7293034 : Nat); omega)⟩) hS (fun q _ h => hFc q h) hFc (fun r_5 u t H1 locs ht hvm hw_5 hB hz1 hk1 hS => ?_)
  subst hw_5
  obtain ⟨Gx_5, wx_5, tx_5, hIx_5, hrel_5, hP1, hK1, hD1⟩ := hB
  rw [ht] at hP1
  obtain ⟨hP, hD⟩ := jo_l hP hD hk1 hFc hP1 hD1
  have hKx_5 := va_K.moved hvm.symm hK1
  generalize H1 = H at hP hS ⊢
  refine lv_pop hx hb dL_law_496 rfl ?_
  refine lv_aload_n hx hb dL_law_497 rfl (lv_at hl 2 rfl) ?_
  refine lv_aload_n hx hb dL_law_498 rfl (lv_at hl 4 rfl) ?_
  refine lv_iload hx hb dL_law_499 (lv_at hl 0 rfl) ?_
  refine lv_iconst (v := 1) hx hb dL_law_501 (by decide) ?_
  refine lv_iadd hx hb dL_law_502 ?_
  refine lv_topi (fun v_6 ev_6 => ?_)
  obtain rfl : v_6 = nI (i + 1) := ev_6.trans (nI_add i 1)
  refine va_sld hx hb hX hbl hbA hS (vp_in_nI (n := (i + 1)) (by omega) (by omega)) dL_law_503 ?_
  refine lv_topi (fun v_7 ev_7 => ?_)
  obtain rfl : v_2 = v_7 := (ev_7.trans ev_2.symm).symm
  refine lv_aload_n hx hb dL_law_504 rfl (lv_at hl 4 rfl) ?_
  refine lv_iload hx hb dL_law_505 (lv_at hl 0 rfl) ?_
  refine lv_iconst (v := 2) hx hb dL_law_507 (by decide) ?_
  refine lv_iadd hx hb dL_law_508 ?_
  refine lv_topi (fun v_8 ev_8 => ?_)
  obtain rfl : v_8 = nI (i + 2) := ev_8.trans (nI_add i 2)
  refine va_sld hx hb hX hbl hbA hS (vp_in_nI (n := (i + 2)) (by omega) (by omega)) dL_law_509 ?_
  refine lv_topi (fun v_9 ev_9 => ?_)
  obtain rfl : v_4 = v_9 := (ev_9.trans ev_4.symm).symm
  rcases hMI with hMI | hMI
  · skip
    have hPc := ap_r hP
    have hDc := ad_r hD
    have hKc := hKm
    have hFc := fr_O hDc hS hA
    obtain ⟨fs9, hrc⟩ := MZ_rc hMI
    refine va_calli (va_runV (As := [.int v_2, .int v_4]) (rest := []) ⟨hx, hb, hml, hown, hts⟩ (Z_fire l dC dI s.heap.size atx H.size md mk9 m0 Gm wm tm v_2 v_4 hMI ) (cwV 2 hts (gV (fun w h => id h) wd_1902 wd_1899 wd_1900 wd_1901 wd_127) rfl rfl rfl (by decide +kernel) ⟨Nat.le_of_ble_eq_true rfl, Nat.le_of_ble_eq_true rfl⟩) ⟨fun a U g mk q => by obtain ⟨q0, q1, q2, qG, qP, qK, qD⟩ := q; exact ⟨q0, q1, q2, GW.blind qG, qP, va_K.moved (u := U) (U := U.calling g mk a) (Vm.Alike.refl U.vm) qK, qD⟩, va_recv hKc hPc (ci := 14) (q0 := 0) rfl hrc, fun U hU hW => ⟨rfl, by rw [hU], Nat.le_trans hn0 hS.1, GW.go hW hU hG (fun q hq hA9 => hS.2.1 q hq (fun h => hA9 (hA0 q h))), by rw [hU]; exact hPc, va_K.moved hW.alike hKc, hDc.weaken (fun _ _ _ h => hA0 _ h)⟩⟩ rfl rfl hl.1 rfl (lv_room (Nat.le_of_ble_eq_true rfl)) dL_law_510 ⟨(by show _ ≤ (601024 : Nat); omega), (by show _ ≤ (7293034 : Nat); omega)⟩) hS (fun q _ h => hFc q h) hFc (fun r_10 u t H1 locs ht hvm hw_10 hB hz1 hk1 hS => ?_)
    subst hw_10
    obtain ⟨Gm_10, wm_10, tm_10, hIm_10, hrel_10, hP1, hK1, hD1⟩ := hB
    rw [ht] at hP1
    obtain ⟨hP, hD⟩ := jo_r hP hD hk1 hFc hP1 hD1
    have hKm_10 := va_K.moved hvm.symm hK1
    generalize H1 = H at hP hS ⊢
    refine lv_pop hx hb dL_law_513 rfl ?_
    refine lv_goto (tgt := 1049) hx hb dL_law_514 (by decide) ?_
    refine lv_iinc (v := (nI (i + 6))) (lv' := [(4, .int (nI (i + 6))), (3, .ref (ad 104)), (2, .ref m0), (1, .ref x0), (0, .ref b)]) hx hb dL_law_1049 hl (k := 0) rfl (nI_add _ 6) (by decide) rfl (fun ls hl => ?_)
    refine lv_goto (tgt := 23) hx hb dL_law_1052 (by decide) ?_
    refine W.widen (k := 150 + 23 * (i + 6)) (n := 3000 + 300 * (i + 6)) (by omega) (by omega) ?_
    exact K _ _ _ ⟨by omega, Gx_5, Gm_10, wx_5, wm_10, tx_5, tm_10, hIx_5, (Or.inl hIm_10), (rel_l hrl hrel_5.2.1 hrel_10.2.1 hrel_5.2.2 hrel_10.2.2), hKx_5, hKm_10, hP, hD, hS, lv_sub hl [0, 1, 2, 3, 4] rfl⟩
  · skip
    have hPc := ap_r hP
    have hDc := ad_r hD
    have hKc := hKm
    have hFc := fr_O hDc hS hA
    obtain ⟨fs9, hrc⟩ := MB_rc hMI
    refine va_calli (va_runV (As := [.int v_2, .int v_4]) (rest := []) ⟨hx, hb, hml, hown, hts⟩ (B_fire l dC dI s.heap.size atx H.size md mk9 m0 Gm wm tm v_2 v_4 hMI ) (cwV 2 hts (gV (fun w h => id h) wd_1902 wd_1899 wd_1900 wd_1901 wd_127) rfl rfl rfl (by decide +kernel) ⟨Nat.le_of_ble_eq_true rfl, Nat.le_of_ble_eq_true rfl⟩) ⟨fun a U g mk q => by obtain ⟨q0, q1, q2, qG, qP, qK, qD⟩ := q; exact ⟨q0, q1, q2, GW.blind qG, qP, va_K.moved (u := U) (U := U.calling g mk a) (Vm.Alike.refl U.vm) qK, qD⟩, va_recv hKc hPc (ci := 14) (q0 := 0) rfl hrc, fun U hU hW => ⟨rfl, by rw [hU], Nat.le_trans hn0 hS.1, GW.go hW hU hG (fun q hq hA9 => hS.2.1 q hq (fun h => hA9 (hA0 q h))), by rw [hU]; exact hPc, va_K.moved hW.alike hKc, hDc.weaken (fun _ _ _ h => hA0 _ h)⟩⟩ rfl rfl hl.1 rfl (lv_room (Nat.le_of_ble_eq_true rfl)) dL_law_510 ⟨(by show _ ≤ (601024 : Nat); omega), (by show _ ≤ (7293034 : Nat); omega)⟩) hS (fun q _ h => hFc q h) hFc (fun r_11 u t H1 locs ht hvm hw_11 hB hz1 hk1 hS => ?_)
    subst hw_11
    obtain ⟨Gm_11, wm_11, tm_11, hIm_11, hrel_11, hP1, hK1, hD1⟩ := hB
    rw [ht] at hP1
    obtain ⟨hP, hD⟩ := jo_r hP hD hk1 hFc hP1 hD1
    have hKm_11 := va_K.moved hvm.symm hK1
    generalize H1 = H at hP hS ⊢
    refine lv_pop hx hb dL_law_513 rfl ?_
    refine lv_goto (tgt := 1049) hx hb dL_law_514 (by decide) ?_
    refine lv_iinc (v := (nI (i + 6))) (lv' := [(4, .int (nI (i + 6))), (3, .ref (ad 104)), (2, .ref m0), (1, .ref x0), (0, .ref b)]) hx hb dL_law_1049 hl (k := 0) rfl (nI_add _ 6) (by decide) rfl (fun ls hl => ?_)
    refine lv_goto (tgt := 23) hx hb dL_law_1052 (by decide) ?_
    refine W.widen (k := 150 + 23 * (i + 6)) (n := 3000 + 300 * (i + 6)) (by omega) (by omega) ?_
    exact K _ _ _ ⟨by omega, Gx_5, Gm_11, wx_5, wm_11, tx_5, tm_11, hIx_5, (Or.inr hIm_11), (rel_l hrl hrel_5.2.1 hrel_11.2.1 hrel_5.2.2 hrel_11.2.2), hKx_5, hKm_11, hP, hD, hS, lv_sub hl [0, 1, 2, 3, 4] rfl⟩
set_option maxHeartbeats 4000000 in
set_option maxRecDepth 100000 in
theorem law_9 {p : Program} {l : Launch} {e : Env} {s : State} {m : MethodId} {below : List Frame} {meth : Method} {c : Code} {dC : Nat → ClassId} {dI : Nat → Nat → Nat} {b L : Nat} {xs : Nat → Int32} (hst : l.stackTraces = false) (hL : L ≤ 3072) (C0 : lw_At p s m meth c b L xs) (atx : Nat → Nat × Nat) (hG : GW s.heap.size atx s) (ad : Nat → Nat) (ka : Nat → ClassId) (x0 : Nat) (md : Nat → Nat) (mk9 : Nat → ClassId) (m0 : Nat) (i : Nat) (hi : i + 6 ≤ L) (K : ∀ (H : Heap) (locs : List Loc) (ls : Array Slot), LV dC dI s b L ad ka x0 md mk9 m0 (i + 6) H locs ls → W p l e room_1 s m #[Value.ref b] below meth c H locs (150 + 23 * (i + 6)) (3000 + 300 * (i + 6)) (lw_Z below #[Value.ref b] s) (F0 m 23 ls [])) (H : Heap) (locs : List Loc) (ls : Array Slot) (Gx Gm : Nat → Int) (wx wm : va_W) (tx tm : List (ClassId × FieldType)) (hXI : XI ad ka x0 Gx wx tx) (hMI : MZ md mk9 m0 Gm wm tm ∨ MB md mk9 m0 Gm wm tm) (hrl : REL Gx Gm) (hKx : va_K (dC, dI) classes tx s) (hKm : va_K (dC, dI) classes tm s) (hP : va_P (dC, dI) classes (wx ++ wm) H) (hD : va_D (fun q : Nat => s.heap.size ≤ q) (wx ++ wm)) (hS : va_S (fun q : Nat => s.heap.size ≤ q) s.heap H locs) (hl : lv_has ls 7 [(4, .int (nI i)), (3, .ref (ad 104)), (2, .ref m0), (1, .ref x0), (0, .ref b)]) : W p l e room_1 s m #[Value.ref b] below meth c H locs (150 + 23 * i) (3000 + 300 * i) (lw_Z below #[Value.ref b] s) (F0 m 517 ls []) := by
  obtain ⟨hx, hb, hr, hml, hown, hts0, hX, hbl, hlocks, hgv⟩ := C0
  have hts : ∀ w ∈ wG, w.before #[Value.ref b] s = true := fun w h => hts0 w (wG_t h)
  have hA : ∀ q : Nat, s.heap.size ≤ q → (fun q : Nat => s.heap.size ≤ q) q := fun _ h => h
  have hA0 : ∀ q : Nat, (fun q : Nat => s.heap.size ≤ q) q → s.heap.size ≤ q := fun _ h => h
  have hn0 : s.heap.size ≤ s.heap.size := Nat.le_refl _
  have hbA : ¬ (fun q : Nat => s.heap.size ≤ q) b := Nat.not_le.mpr hbl
  have hrl0 := rel0 hrl
  refine lv_aload_n hx hb dL_law_517 rfl (lv_at hl 3 rfl) ?_
  refine lv_aload_n hx hb dL_law_518 rfl (lv_at hl 4 rfl) ?_
  refine lv_iload hx hb dL_law_519 (lv_at hl 0 rfl) ?_
  refine lv_iconst (v := 1) hx hb dL_law_521 (by decide) ?_
  refine lv_iadd hx hb dL_law_522 ?_
  refine lv_topi (fun v_1 ev_1 => ?_)
  obtain rfl : v_1 = nI (i + 1) := ev_1.trans (nI_add i 1)
  refine va_sld hx hb hX hbl hbA hS (vp_in_nI (n := (i + 1)) (by omega) (by omega)) dL_law_523 ?_
  refine lv_topi (fun v_2 ev_2 => ?_)
  have hPc := ap_l hP
  have hDc := ad_l hD
  have hKc := hKx
  have hFc := fr_O hDc hS hA
  obtain ⟨fs9, hrc⟩ := XI_rc hXI
  refine va_calli (va_runV (As := [.int v_2]) (rest := []) ⟨hx, hb, hml, hown, hts⟩ (X_mark l dC dI s.heap.size atx H.size ad ka x0 Gx wx tx v_2 hXI ) (cwV 1 hts (gV (fun w h => id h) wd_997 wd_994 wd_995 wd_996 wd_114) rfl rfl rfl (by decide +kernel) ⟨Nat.le_of_ble_eq_true rfl, Nat.le_of_ble_eq_true rfl⟩) ⟨fun a U g mk q => by obtain ⟨q0, q1, q2, qG, qP, qK, qD⟩ := q; exact ⟨q0, q1, q2, GW.blind qG, qP, va_K.moved (u := U) (U := U.calling g mk a) (Vm.Alike.refl U.vm) qK, qD⟩, va_recv hKc hPc (ci := 11) (q0 := 0) rfl hrc, fun U hU hW => ⟨rfl, by rw [hU], Nat.le_trans hn0 hS.1, GW.go hW hU hG (fun q hq hA9 => hS.2.1 q hq (fun h => hA9 (hA0 q h))), by rw [hU]; exact hPc, va_K.moved hW.alike hKc, hDc.weaken (fun _ _ _ h => hA0 _ h)⟩⟩ rfl rfl hl.1 rfl (lv_room (Nat.le_of_ble_eq_true rfl)) dL_law_524 ⟨(by show _ ≤ (601024 : Nat); omega), (by show _ ≤ (7293034 : Nat); omega)⟩) hS (fun q _ h => hFc q h) hFc (fun r_3 u t H1 locs ht hvm hw_3 hB hz1 hk1 hS => ?_)
  subst hw_3
  obtain ⟨Gx_3, wx_3, tx_3, hIx_3, hrel_3, hP1, hK1, hD1⟩ := hB
  rw [ht] at hP1
  obtain ⟨hP, hD⟩ := jo_l hP hD hk1 hFc hP1 hD1
  have hKx_3 := va_K.moved hvm.symm hK1
  generalize H1 = H at hP hS ⊢
  refine lv_pop hx hb dL_law_527 rfl ?_
  refine lv_aload_n hx hb dL_law_528 rfl (lv_at hl 2 rfl) ?_
  refine lv_aload_n hx hb dL_law_529 rfl (lv_at hl 4 rfl) ?_
  refine lv_iload hx hb dL_law_530 (lv_at hl 0 rfl) ?_
  refine lv_iconst (v := 1) hx hb dL_law_532 (by decide) ?_
  refine lv_iadd hx hb dL_law_533 ?_
  refine lv_topi (fun v_4 ev_4 => ?_)
  obtain rfl : v_4 = nI (i + 1) := ev_4.trans (nI_add i 1)
  refine va_sld hx hb hX hbl hbA hS (vp_in_nI (n := (i + 1)) (by omega) (by omega)) dL_law_534 ?_
  refine lv_topi (fun v_5 ev_5 => ?_)
  obtain rfl : v_2 = v_5 := (ev_5.trans ev_2.symm).symm
  rcases hMI with hMI | hMI
  · skip
    have hPc := ap_r hP
    have hDc := ad_r hD
    have hKc := hKm
    have hFc := fr_O hDc hS hA
    obtain ⟨fs9, hrc⟩ := MZ_rc hMI
    refine va_calli (va_runV (As := [.int v_2]) (rest := []) ⟨hx, hb, hml, hown, hts⟩ (Z_mark l dC dI s.heap.size atx H.size md mk9 m0 Gm wm tm v_2 hMI ) (cwV 1 hts (gV (fun w h => id h) wd_1906 wd_1903 wd_1904 wd_1905 wd_127) rfl rfl rfl (by decide +kernel) ⟨Nat.le_of_ble_eq_true rfl, Nat.le_of_ble_eq_true rfl⟩) ⟨fun a U g mk q => by obtain ⟨q0, q1, q2, qG, qP, qK, qD⟩ := q; exact ⟨q0, q1, q2, GW.blind qG, qP, va_K.moved (u := U) (U := U.calling g mk a) (Vm.Alike.refl U.vm) qK, qD⟩, va_recv hKc hPc (ci := 14) (q0 := 0) rfl hrc, fun U hU hW => ⟨rfl, by rw [hU], Nat.le_trans hn0 hS.1, GW.go hW hU hG (fun q hq hA9 => hS.2.1 q hq (fun h => hA9 (hA0 q h))), by rw [hU]; exact hPc, va_K.moved hW.alike hKc, hDc.weaken (fun _ _ _ h => hA0 _ h)⟩⟩ rfl rfl hl.1 rfl (lv_room (Nat.le_of_ble_eq_true rfl)) dL_law_535 ⟨(by show _ ≤ (601024 : Nat); omega), (by show _ ≤ (7293034 : Nat); omega)⟩) hS (fun q _ h => hFc q h) hFc (fun r_6 u t H1 locs ht hvm hw_6 hB hz1 hk1 hS => ?_)
    subst hw_6
    obtain ⟨Gm_6, wm_6, tm_6, hIm_6, hrel_6, hP1, hK1, hD1⟩ := hB
    rw [ht] at hP1
    obtain ⟨hP, hD⟩ := jo_r hP hD hk1 hFc hP1 hD1
    have hKm_6 := va_K.moved hvm.symm hK1
    generalize H1 = H at hP hS ⊢
    refine lv_pop hx hb dL_law_538 rfl ?_
    refine lv_goto (tgt := 1049) hx hb dL_law_539 (by decide) ?_
    refine lv_iinc (v := (nI (i + 6))) (lv' := [(4, .int (nI (i + 6))), (3, .ref (ad 104)), (2, .ref m0), (1, .ref x0), (0, .ref b)]) hx hb dL_law_1049 hl (k := 0) rfl (nI_add _ 6) (by decide) rfl (fun ls hl => ?_)
    refine lv_goto (tgt := 23) hx hb dL_law_1052 (by decide) ?_
    refine W.widen (k := 150 + 23 * (i + 6)) (n := 3000 + 300 * (i + 6)) (by omega) (by omega) ?_
    exact K _ _ _ ⟨by omega, Gx_3, Gm_6, wx_3, wm_6, tx_3, tm_6, hIx_3, (Or.inl hIm_6), (rel_l hrl hrel_3.2.1 hrel_6.2.1 hrel_3.2.2 hrel_6.2.2), hKx_3, hKm_6, hP, hD, hS, lv_sub hl [0, 1, 2, 3, 4] rfl⟩
  · skip
    have hPc := ap_r hP
    have hDc := ad_r hD
    have hKc := hKm
    have hFc := fr_O hDc hS hA
    obtain ⟨fs9, hrc⟩ := MB_rc hMI
    refine va_calli (va_runV (As := [.int v_2]) (rest := []) ⟨hx, hb, hml, hown, hts⟩ (B_mark l dC dI s.heap.size atx H.size md mk9 m0 Gm wm tm v_2 hMI ) (cwV 1 hts (gV (fun w h => id h) wd_1906 wd_1903 wd_1904 wd_1905 wd_127) rfl rfl rfl (by decide +kernel) ⟨Nat.le_of_ble_eq_true rfl, Nat.le_of_ble_eq_true rfl⟩) ⟨fun a U g mk q => by obtain ⟨q0, q1, q2, qG, qP, qK, qD⟩ := q; exact ⟨q0, q1, q2, GW.blind qG, qP, va_K.moved (u := U) (U := U.calling g mk a) (Vm.Alike.refl U.vm) qK, qD⟩, va_recv hKc hPc (ci := 14) (q0 := 0) rfl hrc, fun U hU hW => ⟨rfl, by rw [hU], Nat.le_trans hn0 hS.1, GW.go hW hU hG (fun q hq hA9 => hS.2.1 q hq (fun h => hA9 (hA0 q h))), by rw [hU]; exact hPc, va_K.moved hW.alike hKc, hDc.weaken (fun _ _ _ h => hA0 _ h)⟩⟩ rfl rfl hl.1 rfl (lv_room (Nat.le_of_ble_eq_true rfl)) dL_law_535 ⟨(by show _ ≤ (601024 : Nat); omega), (by show _ ≤ (7293034 : Nat); omega)⟩) hS (fun q _ h => hFc q h) hFc (fun r_7 u t H1 locs ht hvm hw_7 hB hz1 hk1 hS => ?_)
    subst hw_7
    obtain ⟨Gm_7, wm_7, tm_7, hIm_7, hrel_7, hP1, hK1, hD1⟩ := hB
    rw [ht] at hP1
    obtain ⟨hP, hD⟩ := jo_r hP hD hk1 hFc hP1 hD1
    have hKm_7 := va_K.moved hvm.symm hK1
    generalize H1 = H at hP hS ⊢
    refine lv_pop hx hb dL_law_538 rfl ?_
    refine lv_goto (tgt := 1049) hx hb dL_law_539 (by decide) ?_
    refine lv_iinc (v := (nI (i + 6))) (lv' := [(4, .int (nI (i + 6))), (3, .ref (ad 104)), (2, .ref m0), (1, .ref x0), (0, .ref b)]) hx hb dL_law_1049 hl (k := 0) rfl (nI_add _ 6) (by decide) rfl (fun ls hl => ?_)
    refine lv_goto (tgt := 23) hx hb dL_law_1052 (by decide) ?_
    refine W.widen (k := 150 + 23 * (i + 6)) (n := 3000 + 300 * (i + 6)) (by omega) (by omega) ?_
    exact K _ _ _ ⟨by omega, Gx_3, Gm_7, wx_3, wm_7, tx_3, tm_7, hIx_3, (Or.inr hIm_7), (rel_l hrl hrel_3.2.1 hrel_7.2.1 hrel_3.2.2 hrel_7.2.2), hKx_3, hKm_7, hP, hD, hS, lv_sub hl [0, 1, 2, 3, 4] rfl⟩
