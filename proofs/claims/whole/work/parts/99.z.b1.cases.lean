theorem wd_998 : Cond.methodLink "MineAirLaw" 65 (⟨"MineAir", "air", "(I)I"⟩ : MethodName) ∈ wG := wG_of 998 (by decide +kernel) (by decide +kernel)
theorem wd_999 : Cond.instanceMethod (⟨"MineAir", "air", "(I)I"⟩ : MethodName) ∈ wG := wG_of 999 (by decide +kernel) (by decide +kernel)
theorem wd_1000 : Cond.selects "MineAir" (⟨"MineAir", "air", "(I)I"⟩ : MethodName) (⟨"MineAir", "air", "(I)I"⟩ : MethodName) ∈ wG := wG_of 1000 (by decide +kernel) (by decide +kernel)
theorem wd_1001 : Cond.code (⟨"MineAir", "air", "(I)I"⟩ : MethodName) prog_1_method_12_code 2 (Option.some Jvm.ClassFile.FieldType.int) ∈ wG := wG_of 1001 (by decide +kernel) (by decide +kernel)
theorem wd_1061 : Cond.methodLink "MineAirLaw" 69 (⟨"MineAir", "cost", "()J"⟩ : MethodName) ∈ wG := wG_of 1061 (by decide +kernel) (by decide +kernel)
theorem wd_1062 : Cond.instanceMethod (⟨"MineAir", "cost", "()J"⟩ : MethodName) ∈ wG := wG_of 1062 (by decide +kernel) (by decide +kernel)
theorem wd_1063 : Cond.selects "MineAir" (⟨"MineAir", "cost", "()J"⟩ : MethodName) (⟨"MineAir", "cost", "()J"⟩ : MethodName) ∈ wG := wG_of 1063 (by decide +kernel) (by decide +kernel)
theorem wd_1064 : Cond.code (⟨"MineAir", "cost", "()J"⟩ : MethodName) prog_1_method_13_code 1 (Option.some Jvm.ClassFile.FieldType.long) ∈ wG := wG_of 1064 (by decide +kernel) (by decide +kernel)
theorem wd_1073 : Cond.methodLink "MineAirLaw" 74 (⟨"MineAir", "turned", "(I)I"⟩ : MethodName) ∈ wG := wG_of 1073 (by decide +kernel) (by decide +kernel)
theorem wd_1074 : Cond.instanceMethod (⟨"MineAir", "turned", "(I)I"⟩ : MethodName) ∈ wG := wG_of 1074 (by decide +kernel) (by decide +kernel)
theorem wd_1075 : Cond.selects "MineAir" (⟨"MineAir", "turned", "(I)I"⟩ : MethodName) (⟨"MineAir", "turned", "(I)I"⟩ : MethodName) ∈ wG := wG_of 1075 (by decide +kernel) (by decide +kernel)
theorem wd_1076 : Cond.code (⟨"MineAir", "turned", "(I)I"⟩ : MethodName) prog_1_method_14_code 2 (Option.some Jvm.ClassFile.FieldType.int) ∈ wG := wG_of 1076 (by decide +kernel) (by decide +kernel)
theorem wd_1087 : Cond.methodLink "MineAirLaw" 78 (⟨"MineAir", "gas", "(I)I"⟩ : MethodName) ∈ wG := wG_of 1087 (by decide +kernel) (by decide +kernel)
theorem wd_1088 : Cond.instanceMethod (⟨"MineAir", "gas", "(I)I"⟩ : MethodName) ∈ wG := wG_of 1088 (by decide +kernel) (by decide +kernel)
theorem wd_1089 : Cond.selects "MineAir" (⟨"MineAir", "gas", "(I)I"⟩ : MethodName) (⟨"MineAir", "gas", "(I)I"⟩ : MethodName) ∈ wG := wG_of 1089 (by decide +kernel) (by decide +kernel)
theorem wd_1090 : Cond.code (⟨"MineAir", "gas", "(I)I"⟩ : MethodName) prog_1_method_15_code 2 (Option.some Jvm.ClassFile.FieldType.int) ∈ wG := wG_of 1090 (by decide +kernel) (by decide +kernel)
theorem wd_1132 : Cond.methodLink "MineAirLaw" 82 (⟨"MineAir", "thick", "(I)I"⟩ : MethodName) ∈ wG := wG_of 1132 (by decide +kernel) (by decide +kernel)
theorem wd_1133 : Cond.instanceMethod (⟨"MineAir", "thick", "(I)I"⟩ : MethodName) ∈ wG := wG_of 1133 (by decide +kernel) (by decide +kernel)
theorem wd_1134 : Cond.selects "MineAir" (⟨"MineAir", "thick", "(I)I"⟩ : MethodName) (⟨"MineAir", "thick", "(I)I"⟩ : MethodName) ∈ wG := wG_of 1134 (by decide +kernel) (by decide +kernel)
theorem wd_1135 : Cond.code (⟨"MineAir", "thick", "(I)I"⟩ : MethodName) prog_1_method_16_code 2 (Option.some Jvm.ClassFile.FieldType.int) ∈ wG := wG_of 1135 (by decide +kernel) (by decide +kernel)
theorem wd_1141 : Cond.methodLink "MineAirLaw" 86 (⟨"MineAir", "over", "()I"⟩ : MethodName) ∈ wG := wG_of 1141 (by decide +kernel) (by decide +kernel)
theorem wd_1142 : Cond.instanceMethod (⟨"MineAir", "over", "()I"⟩ : MethodName) ∈ wG := wG_of 1142 (by decide +kernel) (by decide +kernel)
theorem wd_1143 : Cond.selects "MineAir" (⟨"MineAir", "over", "()I"⟩ : MethodName) (⟨"MineAir", "over", "()I"⟩ : MethodName) ∈ wG := wG_of 1143 (by decide +kernel) (by decide +kernel)
theorem wd_1144 : Cond.code (⟨"MineAir", "over", "()I"⟩ : MethodName) prog_1_method_17_code 1 (Option.some Jvm.ClassFile.FieldType.int) ∈ wG := wG_of 1144 (by decide +kernel) (by decide +kernel)
theorem wd_1150 : Cond.methodLink "MineAirLaw" 90 (⟨"MineAir", "sound", "()I"⟩ : MethodName) ∈ wG := wG_of 1150 (by decide +kernel) (by decide +kernel)
theorem wd_1151 : Cond.instanceMethod (⟨"MineAir", "sound", "()I"⟩ : MethodName) ∈ wG := wG_of 1151 (by decide +kernel) (by decide +kernel)
theorem wd_1152 : Cond.selects "MineAir" (⟨"MineAir", "sound", "()I"⟩ : MethodName) (⟨"MineAir", "sound", "()I"⟩ : MethodName) ∈ wG := wG_of 1152 (by decide +kernel) (by decide +kernel)
theorem wd_1153 : Cond.code (⟨"MineAir", "sound", "()I"⟩ : MethodName) prog_1_method_18_code 1 (Option.some Jvm.ClassFile.FieldType.int) ∈ wG := wG_of 1153 (by decide +kernel) (by decide +kernel)
theorem wd_1163 : Cond.methodLink "MineAirLaw" 94 (⟨"MineAir", "failing", "(Z)I"⟩ : MethodName) ∈ wG := wG_of 1163 (by decide +kernel) (by decide +kernel)
theorem wd_1164 : Cond.instanceMethod (⟨"MineAir", "failing", "(Z)I"⟩ : MethodName) ∈ wG := wG_of 1164 (by decide +kernel) (by decide +kernel)
theorem wd_1165 : Cond.selects "MineAir" (⟨"MineAir", "failing", "(Z)I"⟩ : MethodName) (⟨"MineAir", "failing", "(Z)I"⟩ : MethodName) ∈ wG := wG_of 1165 (by decide +kernel) (by decide +kernel)
theorem wd_1166 : Cond.code (⟨"MineAir", "failing", "(Z)I"⟩ : MethodName) prog_1_method_19_code 2 (Option.some Jvm.ClassFile.FieldType.int) ∈ wG := wG_of 1166 (by decide +kernel) (by decide +kernel)
theorem wd_1184 : Cond.methodLink "MineAirLaw" 99 (⟨"MineAir", "setting", "()I"⟩ : MethodName) ∈ wG := wG_of 1184 (by decide +kernel) (by decide +kernel)
theorem wd_1185 : Cond.instanceMethod (⟨"MineAir", "setting", "()I"⟩ : MethodName) ∈ wG := wG_of 1185 (by decide +kernel) (by decide +kernel)
theorem wd_1186 : Cond.selects "MineAir" (⟨"MineAir", "setting", "()I"⟩ : MethodName) (⟨"MineAir", "setting", "()I"⟩ : MethodName) ∈ wG := wG_of 1186 (by decide +kernel) (by decide +kernel)
theorem wd_1187 : Cond.code (⟨"MineAir", "setting", "()I"⟩ : MethodName) prog_1_method_20_code 2 (Option.some Jvm.ClassFile.FieldType.int) ∈ wG := wG_of 1187 (by decide +kernel) (by decide +kernel)
theorem wd_1211 : Cond.methodLink "MineAirLaw" 103 (⟨"MineAir", "smoke", "(I)I"⟩ : MethodName) ∈ wG := wG_of 1211 (by decide +kernel) (by decide +kernel)
theorem wd_1212 : Cond.instanceMethod (⟨"MineAir", "smoke", "(I)I"⟩ : MethodName) ∈ wG := wG_of 1212 (by decide +kernel) (by decide +kernel)
theorem wd_1213 : Cond.selects "MineAir" (⟨"MineAir", "smoke", "(I)I"⟩ : MethodName) (⟨"MineAir", "smoke", "(I)I"⟩ : MethodName) ∈ wG := wG_of 1213 (by decide +kernel) (by decide +kernel)
theorem wd_1214 : Cond.code (⟨"MineAir", "smoke", "(I)I"⟩ : MethodName) prog_1_method_21_code 3 (Option.some Jvm.ClassFile.FieldType.int) ∈ wG := wG_of 1214 (by decide +kernel) (by decide +kernel)
theorem wd_1911 : Cond.methodLink "MineAirLaw" 68 (⟨"MineAirModel", "air", "(I)I"⟩ : MethodName) ∈ wG := wG_of 1911 (by decide +kernel) (by decide +kernel)
theorem wd_1912 : Cond.instanceMethod (⟨"MineAirModel", "air", "(I)I"⟩ : MethodName) ∈ wG := wG_of 1912 (by decide +kernel) (by decide +kernel)
theorem wd_1913 : Cond.selects "MineAirModel" (⟨"MineAirModel", "air", "(I)I"⟩ : MethodName) (⟨"MineAirModel", "air", "(I)I"⟩ : MethodName) ∈ wG := wG_of 1913 (by decide +kernel) (by decide +kernel)
theorem wd_1914 : Cond.code (⟨"MineAirModel", "air", "(I)I"⟩ : MethodName) prog_14_method_51_code 2 (Option.some Jvm.ClassFile.FieldType.int) ∈ wG := wG_of 1914 (by decide +kernel) (by decide +kernel)
theorem wd_1943 : Cond.methodLink "MineAirLaw" 73 (⟨"MineAirModel", "cost", "()J"⟩ : MethodName) ∈ wG := wG_of 1943 (by decide +kernel) (by decide +kernel)
theorem wd_1944 : Cond.instanceMethod (⟨"MineAirModel", "cost", "()J"⟩ : MethodName) ∈ wG := wG_of 1944 (by decide +kernel) (by decide +kernel)
theorem wd_1945 : Cond.selects "MineAirModel" (⟨"MineAirModel", "cost", "()J"⟩ : MethodName) (⟨"MineAirModel", "cost", "()J"⟩ : MethodName) ∈ wG := wG_of 1945 (by decide +kernel) (by decide +kernel)
theorem wd_1946 : Cond.code (⟨"MineAirModel", "cost", "()J"⟩ : MethodName) prog_14_method_52_code 5 (Option.some Jvm.ClassFile.FieldType.long) ∈ wG := wG_of 1946 (by decide +kernel) (by decide +kernel)
theorem wd_1947 : Cond.methodLink "MineAirLaw" 77 (⟨"MineAirModel", "turned", "(I)I"⟩ : MethodName) ∈ wG := wG_of 1947 (by decide +kernel) (by decide +kernel)
theorem wd_1948 : Cond.instanceMethod (⟨"MineAirModel", "turned", "(I)I"⟩ : MethodName) ∈ wG := wG_of 1948 (by decide +kernel) (by decide +kernel)
theorem wd_1949 : Cond.selects "MineAirModel" (⟨"MineAirModel", "turned", "(I)I"⟩ : MethodName) (⟨"MineAirModel", "turned", "(I)I"⟩ : MethodName) ∈ wG := wG_of 1949 (by decide +kernel) (by decide +kernel)
theorem wd_1950 : Cond.code (⟨"MineAirModel", "turned", "(I)I"⟩ : MethodName) prog_14_method_53_code 4 (Option.some Jvm.ClassFile.FieldType.int) ∈ wG := wG_of 1950 (by decide +kernel) (by decide +kernel)
theorem wd_1951 : Cond.methodLink "MineAirLaw" 81 (⟨"MineAirModel", "gas", "(I)I"⟩ : MethodName) ∈ wG := wG_of 1951 (by decide +kernel) (by decide +kernel)
theorem wd_1952 : Cond.instanceMethod (⟨"MineAirModel", "gas", "(I)I"⟩ : MethodName) ∈ wG := wG_of 1952 (by decide +kernel) (by decide +kernel)
theorem wd_1953 : Cond.selects "MineAirModel" (⟨"MineAirModel", "gas", "(I)I"⟩ : MethodName) (⟨"MineAirModel", "gas", "(I)I"⟩ : MethodName) ∈ wG := wG_of 1953 (by decide +kernel) (by decide +kernel)
theorem wd_1954 : Cond.code (⟨"MineAirModel", "gas", "(I)I"⟩ : MethodName) prog_14_method_63_code 2 (Option.some Jvm.ClassFile.FieldType.int) ∈ wG := wG_of 1954 (by decide +kernel) (by decide +kernel)
theorem wd_1987 : Cond.methodLink "MineAirLaw" 85 (⟨"MineAirModel", "thick", "(I)I"⟩ : MethodName) ∈ wG := wG_of 1987 (by decide +kernel) (by decide +kernel)
theorem wd_1988 : Cond.instanceMethod (⟨"MineAirModel", "thick", "(I)I"⟩ : MethodName) ∈ wG := wG_of 1988 (by decide +kernel) (by decide +kernel)
theorem wd_1989 : Cond.selects "MineAirModel" (⟨"MineAirModel", "thick", "(I)I"⟩ : MethodName) (⟨"MineAirModel", "thick", "(I)I"⟩ : MethodName) ∈ wG := wG_of 1989 (by decide +kernel) (by decide +kernel)
theorem wd_1990 : Cond.code (⟨"MineAirModel", "thick", "(I)I"⟩ : MethodName) prog_14_method_64_code 2 (Option.some Jvm.ClassFile.FieldType.int) ∈ wG := wG_of 1990 (by decide +kernel) (by decide +kernel)
theorem wd_1995 : Cond.methodLink "MineAirLaw" 89 (⟨"MineAirModel", "over", "()I"⟩ : MethodName) ∈ wG := wG_of 1995 (by decide +kernel) (by decide +kernel)
theorem wd_1996 : Cond.instanceMethod (⟨"MineAirModel", "over", "()I"⟩ : MethodName) ∈ wG := wG_of 1996 (by decide +kernel) (by decide +kernel)
theorem wd_1997 : Cond.selects "MineAirModel" (⟨"MineAirModel", "over", "()I"⟩ : MethodName) (⟨"MineAirModel", "over", "()I"⟩ : MethodName) ∈ wG := wG_of 1997 (by decide +kernel) (by decide +kernel)
theorem wd_1998 : Cond.code (⟨"MineAirModel", "over", "()I"⟩ : MethodName) prog_14_method_65_code 1 (Option.some Jvm.ClassFile.FieldType.int) ∈ wG := wG_of 1998 (by decide +kernel) (by decide +kernel)
theorem wd_2003 : Cond.methodLink "MineAirLaw" 93 (⟨"MineAirModel", "sound", "()I"⟩ : MethodName) ∈ wG := wG_of 2003 (by decide +kernel) (by decide +kernel)
theorem wd_2004 : Cond.instanceMethod (⟨"MineAirModel", "sound", "()I"⟩ : MethodName) ∈ wG := wG_of 2004 (by decide +kernel) (by decide +kernel)
theorem wd_2005 : Cond.selects "MineAirModel" (⟨"MineAirModel", "sound", "()I"⟩ : MethodName) (⟨"MineAirModel", "sound", "()I"⟩ : MethodName) ∈ wG := wG_of 2005 (by decide +kernel) (by decide +kernel)
theorem wd_2006 : Cond.code (⟨"MineAirModel", "sound", "()I"⟩ : MethodName) prog_14_method_67_code 1 (Option.some Jvm.ClassFile.FieldType.int) ∈ wG := wG_of 2006 (by decide +kernel) (by decide +kernel)
theorem wd_2011 : Cond.methodLink "MineAirLaw" 98 (⟨"MineAirModel", "failing", "(Z)I"⟩ : MethodName) ∈ wG := wG_of 2011 (by decide +kernel) (by decide +kernel)
theorem wd_2012 : Cond.instanceMethod (⟨"MineAirModel", "failing", "(Z)I"⟩ : MethodName) ∈ wG := wG_of 2012 (by decide +kernel) (by decide +kernel)
theorem wd_2013 : Cond.selects "MineAirModel" (⟨"MineAirModel", "failing", "(Z)I"⟩ : MethodName) (⟨"MineAirModel", "failing", "(Z)I"⟩ : MethodName) ∈ wG := wG_of 2013 (by decide +kernel) (by decide +kernel)
theorem wd_2014 : Cond.code (⟨"MineAirModel", "failing", "(Z)I"⟩ : MethodName) prog_14_method_68_code 5 (Option.some Jvm.ClassFile.FieldType.int) ∈ wG := wG_of 2014 (by decide +kernel) (by decide +kernel)
theorem wd_2015 : Cond.methodLink "MineAirLaw" 102 (⟨"MineAirModel", "setting", "()I"⟩ : MethodName) ∈ wG := wG_of 2015 (by decide +kernel) (by decide +kernel)
theorem wd_2016 : Cond.instanceMethod (⟨"MineAirModel", "setting", "()I"⟩ : MethodName) ∈ wG := wG_of 2016 (by decide +kernel) (by decide +kernel)
theorem wd_2017 : Cond.selects "MineAirModel" (⟨"MineAirModel", "setting", "()I"⟩ : MethodName) (⟨"MineAirModel", "setting", "()I"⟩ : MethodName) ∈ wG := wG_of 2017 (by decide +kernel) (by decide +kernel)
theorem wd_2018 : Cond.code (⟨"MineAirModel", "setting", "()I"⟩ : MethodName) prog_14_method_69_code 7 (Option.some Jvm.ClassFile.FieldType.int) ∈ wG := wG_of 2018 (by decide +kernel) (by decide +kernel)
theorem wd_2019 : Cond.methodLink "MineAirLaw" 106 (⟨"MineAirModel", "smoke", "(I)I"⟩ : MethodName) ∈ wG := wG_of 2019 (by decide +kernel) (by decide +kernel)
theorem wd_2020 : Cond.instanceMethod (⟨"MineAirModel", "smoke", "(I)I"⟩ : MethodName) ∈ wG := wG_of 2020 (by decide +kernel) (by decide +kernel)
theorem wd_2021 : Cond.selects "MineAirModel" (⟨"MineAirModel", "smoke", "(I)I"⟩ : MethodName) (⟨"MineAirModel", "smoke", "(I)I"⟩ : MethodName) ∈ wG := wG_of 2021 (by decide +kernel) (by decide +kernel)
theorem wd_2022 : Cond.code (⟨"MineAirModel", "smoke", "(I)I"⟩ : MethodName) prog_14_method_72_code 2 (Option.some Jvm.ClassFile.FieldType.int) ∈ wG := wG_of 2022 (by decide +kernel) (by decide +kernel)
theorem dL_law_542 : decode cL_law 542 = .ok (.aload_n 1, 1) := by decide +kernel
theorem dL_law_543 : decode cL_law 543 = .ok (.aload_n 0, 1) := by decide +kernel
theorem dL_law_544 : decode cL_law 544 = .ok (.iload 4, 2) := by decide +kernel
theorem dL_law_546 : decode cL_law 546 = .ok (.iconst 1, 1) := by decide +kernel
theorem dL_law_547 : decode cL_law 547 = .ok (.iadd, 1) := by decide +kernel
theorem dL_law_548 : decode cL_law 548 = .ok (.iaload, 1) := by decide +kernel
theorem dL_law_549 : decode cL_law 549 = .ok (.invokevirtual 65, 3) := by decide +kernel
theorem dL_law_552 : decode cL_law 552 = .ok (.aload_n 2, 1) := by decide +kernel
theorem dL_law_553 : decode cL_law 553 = .ok (.aload_n 0, 1) := by decide +kernel
theorem dL_law_554 : decode cL_law 554 = .ok (.iload 4, 2) := by decide +kernel
theorem dL_law_556 : decode cL_law 556 = .ok (.iconst 1, 1) := by decide +kernel
theorem dL_law_557 : decode cL_law 557 = .ok (.iadd, 1) := by decide +kernel
theorem dL_law_558 : decode cL_law 558 = .ok (.iaload, 1) := by decide +kernel
theorem dL_law_559 : decode cL_law 559 = .ok (.invokevirtual 68, 3) := by decide +kernel
theorem dL_law_562 : decode cL_law 562 = .ok (.if_icmp .eq 516, 3) := by decide +kernel
theorem dL_law_567 : decode cL_law 567 = .ok (.aload_n 1, 1) := by decide +kernel
theorem dL_law_568 : decode cL_law 568 = .ok (.invokevirtual 69, 3) := by decide +kernel
theorem dL_law_571 : decode cL_law 571 = .ok (.aload_n 2, 1) := by decide +kernel
theorem dL_law_572 : decode cL_law 572 = .ok (.invokevirtual 73, 3) := by decide +kernel
theorem dL_law_575 : decode cL_law 575 = .ok (.lcmp, 1) := by decide +kernel
theorem dL_law_576 : decode cL_law 576 = .ok (.ifCond .eq 502, 3) := by decide +kernel
theorem dL_law_581 : decode cL_law 581 = .ok (.aload_n 1, 1) := by decide +kernel
theorem dL_law_582 : decode cL_law 582 = .ok (.aload_n 0, 1) := by decide +kernel
theorem dL_law_583 : decode cL_law 583 = .ok (.iload 4, 2) := by decide +kernel
theorem dL_law_585 : decode cL_law 585 = .ok (.iconst 1, 1) := by decide +kernel
theorem dL_law_586 : decode cL_law 586 = .ok (.iadd, 1) := by decide +kernel
theorem dL_law_587 : decode cL_law 587 = .ok (.iaload, 1) := by decide +kernel
theorem dL_law_588 : decode cL_law 588 = .ok (.invokevirtual 74, 3) := by decide +kernel
theorem dL_law_591 : decode cL_law 591 = .ok (.aload_n 2, 1) := by decide +kernel
theorem dL_law_592 : decode cL_law 592 = .ok (.aload_n 0, 1) := by decide +kernel
theorem dL_law_593 : decode cL_law 593 = .ok (.iload 4, 2) := by decide +kernel
theorem dL_law_595 : decode cL_law 595 = .ok (.iconst 1, 1) := by decide +kernel
theorem dL_law_596 : decode cL_law 596 = .ok (.iadd, 1) := by decide +kernel
theorem dL_law_597 : decode cL_law 597 = .ok (.iaload, 1) := by decide +kernel
theorem dL_law_598 : decode cL_law 598 = .ok (.invokevirtual 77, 3) := by decide +kernel
theorem dL_law_601 : decode cL_law 601 = .ok (.if_icmp .eq 477, 3) := by decide +kernel
theorem dL_law_606 : decode cL_law 606 = .ok (.aload_n 1, 1) := by decide +kernel
theorem dL_law_607 : decode cL_law 607 = .ok (.aload_n 0, 1) := by decide +kernel
theorem dL_law_608 : decode cL_law 608 = .ok (.iload 4, 2) := by decide +kernel
theorem dL_law_610 : decode cL_law 610 = .ok (.iconst 1, 1) := by decide +kernel
theorem dL_law_611 : decode cL_law 611 = .ok (.iadd, 1) := by decide +kernel
theorem dL_law_612 : decode cL_law 612 = .ok (.iaload, 1) := by decide +kernel
theorem dL_law_613 : decode cL_law 613 = .ok (.invokevirtual 78, 3) := by decide +kernel
theorem dL_law_616 : decode cL_law 616 = .ok (.aload_n 2, 1) := by decide +kernel
theorem dL_law_617 : decode cL_law 617 = .ok (.aload_n 0, 1) := by decide +kernel
theorem dL_law_618 : decode cL_law 618 = .ok (.iload 4, 2) := by decide +kernel
theorem dL_law_620 : decode cL_law 620 = .ok (.iconst 1, 1) := by decide +kernel
theorem dL_law_621 : decode cL_law 621 = .ok (.iadd, 1) := by decide +kernel
theorem dL_law_622 : decode cL_law 622 = .ok (.iaload, 1) := by decide +kernel
theorem dL_law_623 : decode cL_law 623 = .ok (.invokevirtual 81, 3) := by decide +kernel
theorem dL_law_626 : decode cL_law 626 = .ok (.if_icmp .eq 452, 3) := by decide +kernel
theorem dL_law_631 : decode cL_law 631 = .ok (.aload_n 1, 1) := by decide +kernel
theorem dL_law_632 : decode cL_law 632 = .ok (.aload_n 0, 1) := by decide +kernel
theorem dL_law_633 : decode cL_law 633 = .ok (.iload 4, 2) := by decide +kernel
theorem dL_law_635 : decode cL_law 635 = .ok (.iconst 1, 1) := by decide +kernel
theorem dL_law_636 : decode cL_law 636 = .ok (.iadd, 1) := by decide +kernel
theorem dL_law_637 : decode cL_law 637 = .ok (.iaload, 1) := by decide +kernel
theorem dL_law_638 : decode cL_law 638 = .ok (.invokevirtual 82, 3) := by decide +kernel
theorem dL_law_641 : decode cL_law 641 = .ok (.aload_n 2, 1) := by decide +kernel
theorem dL_law_642 : decode cL_law 642 = .ok (.aload_n 0, 1) := by decide +kernel
theorem dL_law_643 : decode cL_law 643 = .ok (.iload 4, 2) := by decide +kernel
theorem dL_law_645 : decode cL_law 645 = .ok (.iconst 1, 1) := by decide +kernel
theorem dL_law_646 : decode cL_law 646 = .ok (.iadd, 1) := by decide +kernel
theorem dL_law_647 : decode cL_law 647 = .ok (.iaload, 1) := by decide +kernel
theorem dL_law_648 : decode cL_law 648 = .ok (.invokevirtual 85, 3) := by decide +kernel
theorem dL_law_651 : decode cL_law 651 = .ok (.if_icmp .eq 427, 3) := by decide +kernel
theorem dL_law_656 : decode cL_law 656 = .ok (.aload_n 1, 1) := by decide +kernel
theorem dL_law_657 : decode cL_law 657 = .ok (.invokevirtual 86, 3) := by decide +kernel
theorem dL_law_660 : decode cL_law 660 = .ok (.aload_n 2, 1) := by decide +kernel
theorem dL_law_661 : decode cL_law 661 = .ok (.invokevirtual 89, 3) := by decide +kernel
theorem dL_law_664 : decode cL_law 664 = .ok (.if_icmp .eq 414, 3) := by decide +kernel
theorem dL_law_669 : decode cL_law 669 = .ok (.aload_n 1, 1) := by decide +kernel
theorem dL_law_670 : decode cL_law 670 = .ok (.invokevirtual 90, 3) := by decide +kernel
theorem dL_law_673 : decode cL_law 673 = .ok (.aload_n 2, 1) := by decide +kernel
theorem dL_law_674 : decode cL_law 674 = .ok (.invokevirtual 93, 3) := by decide +kernel
theorem dL_law_677 : decode cL_law 677 = .ok (.if_icmp .eq 401, 3) := by decide +kernel
theorem dL_law_682 : decode cL_law 682 = .ok (.aload_n 1, 1) := by decide +kernel
theorem dL_law_683 : decode cL_law 683 = .ok (.aload_n 0, 1) := by decide +kernel
theorem dL_law_684 : decode cL_law 684 = .ok (.iload 4, 2) := by decide +kernel
theorem dL_law_686 : decode cL_law 686 = .ok (.iconst 1, 1) := by decide +kernel
theorem dL_law_687 : decode cL_law 687 = .ok (.iadd, 1) := by decide +kernel
theorem dL_law_688 : decode cL_law 688 = .ok (.iaload, 1) := by decide +kernel
theorem dL_law_689 : decode cL_law 689 = .ok (.ifCond .eq 7, 3) := by decide +kernel
theorem dL_law_696 : decode cL_law 696 = .ok (.iconst 0, 1) := by decide +kernel
theorem dL_law_697 : decode cL_law 697 = .ok (.invokevirtual 94, 3) := by decide +kernel
theorem dL_law_700 : decode cL_law 700 = .ok (.aload_n 2, 1) := by decide +kernel
theorem dL_law_701 : decode cL_law 701 = .ok (.aload_n 0, 1) := by decide +kernel
theorem dL_law_702 : decode cL_law 702 = .ok (.iload 4, 2) := by decide +kernel
theorem dL_law_704 : decode cL_law 704 = .ok (.iconst 1, 1) := by decide +kernel
theorem dL_law_705 : decode cL_law 705 = .ok (.iadd, 1) := by decide +kernel
theorem dL_law_706 : decode cL_law 706 = .ok (.iaload, 1) := by decide +kernel
theorem dL_law_707 : decode cL_law 707 = .ok (.ifCond .eq 7, 3) := by decide +kernel
theorem dL_law_714 : decode cL_law 714 = .ok (.iconst 0, 1) := by decide +kernel
theorem dL_law_715 : decode cL_law 715 = .ok (.invokevirtual 98, 3) := by decide +kernel
theorem dL_law_718 : decode cL_law 718 = .ok (.if_icmp .eq 360, 3) := by decide +kernel
theorem dL_law_723 : decode cL_law 723 = .ok (.aload_n 1, 1) := by decide +kernel
theorem dL_law_724 : decode cL_law 724 = .ok (.invokevirtual 99, 3) := by decide +kernel
theorem dL_law_727 : decode cL_law 727 = .ok (.aload_n 2, 1) := by decide +kernel
theorem dL_law_728 : decode cL_law 728 = .ok (.invokevirtual 102, 3) := by decide +kernel
theorem dL_law_731 : decode cL_law 731 = .ok (.if_icmp .eq 347, 3) := by decide +kernel
theorem dL_law_736 : decode cL_law 736 = .ok (.aload_n 1, 1) := by decide +kernel
theorem dL_law_737 : decode cL_law 737 = .ok (.aload_n 0, 1) := by decide +kernel
theorem dL_law_738 : decode cL_law 738 = .ok (.iload 4, 2) := by decide +kernel
theorem dL_law_740 : decode cL_law 740 = .ok (.iconst 1, 1) := by decide +kernel
theorem dL_law_741 : decode cL_law 741 = .ok (.iadd, 1) := by decide +kernel
theorem dL_law_742 : decode cL_law 742 = .ok (.iaload, 1) := by decide +kernel
theorem dL_law_743 : decode cL_law 743 = .ok (.invokevirtual 103, 3) := by decide +kernel
theorem dL_law_746 : decode cL_law 746 = .ok (.aload_n 2, 1) := by decide +kernel
theorem dL_law_747 : decode cL_law 747 = .ok (.aload_n 0, 1) := by decide +kernel
theorem dL_law_748 : decode cL_law 748 = .ok (.iload 4, 2) := by decide +kernel
theorem dL_law_750 : decode cL_law 750 = .ok (.iconst 1, 1) := by decide +kernel
theorem dL_law_751 : decode cL_law 751 = .ok (.iadd, 1) := by decide +kernel
theorem dL_law_752 : decode cL_law 752 = .ok (.iaload, 1) := by decide +kernel
theorem dL_law_753 : decode cL_law 753 = .ok (.invokevirtual 106, 3) := by decide +kernel
theorem dL_law_756 : decode cL_law 756 = .ok (.if_icmp .eq 322, 3) := by decide +kernel
