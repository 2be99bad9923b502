theorem wd_998 : Cond.methodLink "MineAirLaw" 65 (⟨"MineAir", "air", "(I)I"⟩ : MethodName) ∈ wG := wG_of 998 (by decide +kernel) (by decide +kernel)
theorem wd_999 : Cond.instanceMethod (⟨"MineAir", "air", "(I)I"⟩ : MethodName) ∈ wG := wG_of 999 (by decide +kernel) (by decide +kernel)
theorem wd_1000 : Cond.selects "MineAir" (⟨"MineAir", "air", "(I)I"⟩ : MethodName) (⟨"MineAir", "air", "(I)I"⟩ : MethodName) ∈ wG := wG_of 1000 (by decide +kernel) (by decide +kernel)
theorem wd_1001 : Cond.code (⟨"MineAir", "air", "(I)I"⟩ : MethodName) prog_1_method_12_code 2 (Option.some Jvm.ClassFile.FieldType.int) ∈ wG := wG_of 1001 (by decide +kernel) (by decide +kernel)
theorem wd_1061 : Cond.methodLink "MineAirLaw" 69 (⟨"MineAir", "cost", "()J"⟩ : MethodName) ∈ wG := wG_of 1061 (by decide +kernel) (by decide +kernel)
theorem wd_1062 : Cond.instanceMethod (⟨"MineAir", "cost", "()J"⟩ : MethodName) ∈ wG := wG_of 1062 (by decide +kernel) (by decide +kernel)
theorem wd_1063 : Cond.selects "MineAir" (⟨"MineAir", "cost", "()J"⟩ : MethodName) (⟨"MineAir", "cost", "()J"⟩ : MethodName) ∈ wG := wG_of 1063 (by decide +kernel) (by decide +kernel)
theorem wd_1064 : Cond.code (⟨"MineAir", "cost", "()J"⟩ : MethodName) prog_1_method_13_code 1 (Option.some Jvm.ClassFile.FieldType.long) ∈ wG := wG_of 1064 (by decide +kernel) (by decide +kernel)
theorem wd_1073 : Cond.methodLink "MineAirLaw" 74 (⟨"MineAir", "turned", "(I)I"⟩ : MethodName) ∈ wG := wG_of 1073 (by decide +kernel) (by decide +kernel)
theorem wd_1074 : Cond.instanceMethod (⟨"MineAir", "turned", "(I)I"⟩ : MethodName) ∈ wG := wG_of 1074 (by decide +kernel) (by decide +kernel)
theorem wd_1075 : Cond.selects "MineAir" (⟨"MineAir", "turned", "(I)I"⟩ : MethodName) (⟨"MineAir", "turned", "(I)I"⟩ : MethodName) ∈ wG := wG_of 1075 (by decide +kernel) (by decide +kernel)
theorem wd_1076 : Cond.code (⟨"MineAir", "turned", "(I)I"⟩ : MethodName) prog_1_method_14_code 2 (Option.some Jvm.ClassFile.FieldType.int) ∈ wG := wG_of 1076 (by decide +kernel) (by decide +kernel)
theorem wd_1087 : Cond.methodLink "MineAirLaw" 78 (⟨"MineAir", "gas", "(I)I"⟩ : MethodName) ∈ wG := wG_of 1087 (by decide +kernel) (by decide +kernel)
theorem wd_1088 : Cond.instanceMethod (⟨"MineAir", "gas", "(I)I"⟩ : MethodName) ∈ wG := wG_of 1088 (by decide +kernel) (by decide +kernel)
theorem wd_1089 : Cond.selects "MineAir" (⟨"MineAir", "gas", "(I)I"⟩ : MethodName) (⟨"MineAir", "gas", "(I)I"⟩ : MethodName) ∈ wG := wG_of 1089 (by decide +kernel) (by decide +kernel)
theorem wd_1090 : Cond.code (⟨"MineAir", "gas", "(I)I"⟩ : MethodName) prog_1_method_15_code 2 (Option.some Jvm.ClassFile.FieldType.int) ∈ wG := wG_of 1090 (by decide +kernel) (by decide +kernel)
theorem wd_1132 : Cond.methodLink "MineAirLaw" 82 (⟨"MineAir", "thick", "(I)I"⟩ : MethodName) ∈ wG := wG_of 1132 (by decide +kernel) (by decide +kernel)
theorem wd_1133 : Cond.instanceMethod (⟨"MineAir", "thick", "(I)I"⟩ : MethodName) ∈ wG := wG_of 1133 (by decide +kernel) (by decide +kernel)
theorem wd_1134 : Cond.selects "MineAir" (⟨"MineAir", "thick", "(I)I"⟩ : MethodName) (⟨"MineAir", "thick", "(I)I"⟩ : MethodName) ∈ wG := wG_of 1134 (by decide +kernel) (by decide +kernel)
theorem wd_1135 : Cond.code (⟨"MineAir", "thick", "(I)I"⟩ : MethodName) prog_1_method_16_code 2 (Option.some Jvm.ClassFile.FieldType.int) ∈ wG := wG_of 1135 (by decide +kernel) (by decide +kernel)
theorem wd_1141 : Cond.methodLink "MineAirLaw" 86 (⟨"MineAir", "over", "()I"⟩ : MethodName) ∈ wG := wG_of 1141 (by decide +kernel) (by decide +kernel)
theorem wd_1142 : Cond.instanceMethod (⟨"MineAir", "over", "()I"⟩ : MethodName) ∈ wG := wG_of 1142 (by decide +kernel) (by decide +kernel)
theorem wd_1143 : Cond.selects "MineAir" (⟨"MineAir", "over", "()I"⟩ : MethodName) (⟨"MineAir", "over", "()I"⟩ : MethodName) ∈ wG := wG_of 1143 (by decide +kernel) (by decide +kernel)
theorem wd_1144 : Cond.code (⟨"MineAir", "over", "()I"⟩ : MethodName) prog_1_method_17_code 1 (Option.some Jvm.ClassFile.FieldType.int) ∈ wG := wG_of 1144 (by decide +kernel) (by decide +kernel)
theorem wd_1150 : Cond.methodLink "MineAirLaw" 90 (⟨"MineAir", "sound", "()I"⟩ : MethodName) ∈ wG := wG_of 1150 (by decide +kernel) (by decide +kernel)
theorem wd_1151 : Cond.instanceMethod (⟨"MineAir", "sound", "()I"⟩ : MethodName) ∈ wG := wG_of 1151 (by decide +kernel) (by decide +kernel)
theorem wd_1152 : Cond.selects "MineAir" (⟨"MineAir", "sound", "()I"⟩ : MethodName) (⟨"MineAir", "sound", "()I"⟩ : MethodName) ∈ wG := wG_of 1152 (by decide +kernel) (by decide +kernel)
theorem wd_1153 : Cond.code (⟨"MineAir", "sound", "()I"⟩ : MethodName) prog_1_method_18_code 1 (Option.some Jvm.ClassFile.FieldType.int) ∈ wG := wG_of 1153 (by decide +kernel) (by decide +kernel)
theorem wd_1163 : Cond.methodLink "MineAirLaw" 94 (⟨"MineAir", "failing", "(Z)I"⟩ : MethodName) ∈ wG := wG_of 1163 (by decide +kernel) (by decide +kernel)
theorem wd_1164 : Cond.instanceMethod (⟨"MineAir", "failing", "(Z)I"⟩ : MethodName) ∈ wG := wG_of 1164 (by decide +kernel) (by decide +kernel)
theorem wd_1165 : Cond.selects "MineAir" (⟨"MineAir", "failing", "(Z)I"⟩ : MethodName) (⟨"MineAir", "failing", "(Z)I"⟩ : MethodName) ∈ wG := wG_of 1165 (by decide +kernel) (by decide +kernel)
theorem wd_1166 : Cond.code (⟨"MineAir", "failing", "(Z)I"⟩ : MethodName) prog_1_method_19_code 2 (Option.some Jvm.ClassFile.FieldType.int) ∈ wG := wG_of 1166 (by decide +kernel) (by decide +kernel)
theorem wd_1184 : Cond.methodLink "MineAirLaw" 99 (⟨"MineAir", "setting", "()I"⟩ : MethodName) ∈ wG := wG_of 1184 (by decide +kernel) (by decide +kernel)
theorem wd_1185 : Cond.instanceMethod (⟨"MineAir", "setting", "()I"⟩ : MethodName) ∈ wG := wG_of 1185 (by decide +kernel) (by decide +kernel)
theorem wd_1186 : Cond.selects "MineAir" (⟨"MineAir", "setting", "()I"⟩ : MethodName) (⟨"MineAir", "setting", "()I"⟩ : MethodName) ∈ wG := wG_of 1186 (by decide +kernel) (by decide +kernel)
theorem wd_1187 : Cond.code (⟨"MineAir", "setting", "()I"⟩ : MethodName) prog_1_method_20_code 2 (Option.some Jvm.ClassFile.FieldType.int) ∈ wG := wG_of 1187 (by decide +kernel) (by decide +kernel)
theorem wd_1211 : Cond.methodLink "MineAirLaw" 103 (⟨"MineAir", "smoke", "(I)I"⟩ : MethodName) ∈ wG := wG_of 1211 (by decide +kernel) (by decide +kernel)
theorem wd_1212 : Cond.instanceMethod (⟨"MineAir", "smoke", "(I)I"⟩ : MethodName) ∈ wG := wG_of 1212 (by decide +kernel) (by decide +kernel)
theorem wd_1213 : Cond.selects "MineAir" (⟨"MineAir", "smoke", "(I)I"⟩ : MethodName) (⟨"MineAir", "smoke", "(I)I"⟩ : MethodName) ∈ wG := wG_of 1213 (by decide +kernel) (by decide +kernel)
theorem wd_1214 : Cond.code (⟨"MineAir", "smoke", "(I)I"⟩ : MethodName) prog_1_method_21_code 3 (Option.some Jvm.ClassFile.FieldType.int) ∈ wG := wG_of 1214 (by decide +kernel) (by decide +kernel)
theorem wd_1907 : Cond.methodLink "MineAirLaw" 68 (⟨"MineAirModel", "air", "(I)I"⟩ : MethodName) ∈ wG := wG_of 1907 (by decide +kernel) (by decide +kernel)
theorem wd_1908 : Cond.instanceMethod (⟨"MineAirModel", "air", "(I)I"⟩ : MethodName) ∈ wG := wG_of 1908 (by decide +kernel) (by decide +kernel)
theorem wd_1909 : Cond.selects "MineAirModel" (⟨"MineAirModel", "air", "(I)I"⟩ : MethodName) (⟨"MineAirModel", "air", "(I)I"⟩ : MethodName) ∈ wG := wG_of 1909 (by decide +kernel) (by decide +kernel)
theorem wd_1910 : Cond.code (⟨"MineAirModel", "air", "(I)I"⟩ : MethodName) prog_14_method_51_code 2 (Option.some Jvm.ClassFile.FieldType.int) ∈ wG := wG_of 1910 (by decide +kernel) (by decide +kernel)
theorem wd_1939 : Cond.methodLink "MineAirLaw" 73 (⟨"MineAirModel", "cost", "()J"⟩ : MethodName) ∈ wG := wG_of 1939 (by decide +kernel) (by decide +kernel)
theorem wd_1940 : Cond.instanceMethod (⟨"MineAirModel", "cost", "()J"⟩ : MethodName) ∈ wG := wG_of 1940 (by decide +kernel) (by decide +kernel)
theorem wd_1941 : Cond.selects "MineAirModel" (⟨"MineAirModel", "cost", "()J"⟩ : MethodName) (⟨"MineAirModel", "cost", "()J"⟩ : MethodName) ∈ wG := wG_of 1941 (by decide +kernel) (by decide +kernel)
theorem wd_1942 : Cond.code (⟨"MineAirModel", "cost", "()J"⟩ : MethodName) prog_14_method_52_code 5 (Option.some Jvm.ClassFile.FieldType.long) ∈ wG := wG_of 1942 (by decide +kernel) (by decide +kernel)
theorem wd_1943 : Cond.methodLink "MineAirLaw" 77 (⟨"MineAirModel", "turned", "(I)I"⟩ : MethodName) ∈ wG := wG_of 1943 (by decide +kernel) (by decide +kernel)
theorem wd_1944 : Cond.instanceMethod (⟨"MineAirModel", "turned", "(I)I"⟩ : MethodName) ∈ wG := wG_of 1944 (by decide +kernel) (by decide +kernel)
theorem wd_1945 : Cond.selects "MineAirModel" (⟨"MineAirModel", "turned", "(I)I"⟩ : MethodName) (⟨"MineAirModel", "turned", "(I)I"⟩ : MethodName) ∈ wG := wG_of 1945 (by decide +kernel) (by decide +kernel)
theorem wd_1946 : Cond.code (⟨"MineAirModel", "turned", "(I)I"⟩ : MethodName) prog_14_method_53_code 4 (Option.some Jvm.ClassFile.FieldType.int) ∈ wG := wG_of 1946 (by decide +kernel) (by decide +kernel)
theorem wd_1947 : Cond.methodLink "MineAirLaw" 81 (⟨"MineAirModel", "gas", "(I)I"⟩ : MethodName) ∈ wG := wG_of 1947 (by decide +kernel) (by decide +kernel)
theorem wd_1948 : Cond.instanceMethod (⟨"MineAirModel", "gas", "(I)I"⟩ : MethodName) ∈ wG := wG_of 1948 (by decide +kernel) (by decide +kernel)
theorem wd_1949 : Cond.selects "MineAirModel" (⟨"MineAirModel", "gas", "(I)I"⟩ : MethodName) (⟨"MineAirModel", "gas", "(I)I"⟩ : MethodName) ∈ wG := wG_of 1949 (by decide +kernel) (by decide +kernel)
theorem wd_1950 : Cond.code (⟨"MineAirModel", "gas", "(I)I"⟩ : MethodName) prog_14_method_63_code 2 (Option.some Jvm.ClassFile.FieldType.int) ∈ wG := wG_of 1950 (by decide +kernel) (by decide +kernel)
theorem wd_1983 : Cond.methodLink "MineAirLaw" 85 (⟨"MineAirModel", "thick", "(I)I"⟩ : MethodName) ∈ wG := wG_of 1983 (by decide +kernel) (by decide +kernel)
theorem wd_1984 : Cond.instanceMethod (⟨"MineAirModel", "thick", "(I)I"⟩ : MethodName) ∈ wG := wG_of 1984 (by decide +kernel) (by decide +kernel)
theorem wd_1985 : Cond.selects "MineAirModel" (⟨"MineAirModel", "thick", "(I)I"⟩ : MethodName) (⟨"MineAirModel", "thick", "(I)I"⟩ : MethodName) ∈ wG := wG_of 1985 (by decide +kernel) (by decide +kernel)
theorem wd_1986 : Cond.code (⟨"MineAirModel", "thick", "(I)I"⟩ : MethodName) prog_14_method_64_code 2 (Option.some Jvm.ClassFile.FieldType.int) ∈ wG := wG_of 1986 (by decide +kernel) (by decide +kernel)
theorem wd_1991 : Cond.methodLink "MineAirLaw" 89 (⟨"MineAirModel", "over", "()I"⟩ : MethodName) ∈ wG := wG_of 1991 (by decide +kernel) (by decide +kernel)
theorem wd_1992 : Cond.instanceMethod (⟨"MineAirModel", "over", "()I"⟩ : MethodName) ∈ wG := wG_of 1992 (by decide +kernel) (by decide +kernel)
theorem wd_1993 : Cond.selects "MineAirModel" (⟨"MineAirModel", "over", "()I"⟩ : MethodName) (⟨"MineAirModel", "over", "()I"⟩ : MethodName) ∈ wG := wG_of 1993 (by decide +kernel) (by decide +kernel)
theorem wd_1994 : Cond.code (⟨"MineAirModel", "over", "()I"⟩ : MethodName) prog_14_method_65_code 1 (Option.some Jvm.ClassFile.FieldType.int) ∈ wG := wG_of 1994 (by decide +kernel) (by decide +kernel)
theorem wd_1999 : Cond.methodLink "MineAirLaw" 93 (⟨"MineAirModel", "sound", "()I"⟩ : MethodName) ∈ wG := wG_of 1999 (by decide +kernel) (by decide +kernel)
theorem wd_2000 : Cond.instanceMethod (⟨"MineAirModel", "sound", "()I"⟩ : MethodName) ∈ wG := wG_of 2000 (by decide +kernel) (by decide +kernel)
theorem wd_2001 : Cond.selects "MineAirModel" (⟨"MineAirModel", "sound", "()I"⟩ : MethodName) (⟨"MineAirModel", "sound", "()I"⟩ : MethodName) ∈ wG := wG_of 2001 (by decide +kernel) (by decide +kernel)
theorem wd_2002 : Cond.code (⟨"MineAirModel", "sound", "()I"⟩ : MethodName) prog_14_method_67_code 1 (Option.some Jvm.ClassFile.FieldType.int) ∈ wG := wG_of 2002 (by decide +kernel) (by decide +kernel)
theorem wd_2007 : Cond.methodLink "MineAirLaw" 98 (⟨"MineAirModel", "failing", "(Z)I"⟩ : MethodName) ∈ wG := wG_of 2007 (by decide +kernel) (by decide +kernel)
theorem wd_2008 : Cond.instanceMethod (⟨"MineAirModel", "failing", "(Z)I"⟩ : MethodName) ∈ wG := wG_of 2008 (by decide +kernel) (by decide +kernel)
theorem wd_2009 : Cond.selects "MineAirModel" (⟨"MineAirModel", "failing", "(Z)I"⟩ : MethodName) (⟨"MineAirModel", "failing", "(Z)I"⟩ : MethodName) ∈ wG := wG_of 2009 (by decide +kernel) (by decide +kernel)
theorem wd_2010 : Cond.code (⟨"MineAirModel", "failing", "(Z)I"⟩ : MethodName) prog_14_method_68_code 5 (Option.some Jvm.ClassFile.FieldType.int) ∈ wG := wG_of 2010 (by decide +kernel) (by decide +kernel)
theorem wd_2011 : Cond.methodLink "MineAirLaw" 102 (⟨"MineAirModel", "setting", "()I"⟩ : MethodName) ∈ wG := wG_of 2011 (by decide +kernel) (by decide +kernel)
theorem wd_2012 : Cond.instanceMethod (⟨"MineAirModel", "setting", "()I"⟩ : MethodName) ∈ wG := wG_of 2012 (by decide +kernel) (by decide +kernel)
theorem wd_2013 : Cond.selects "MineAirModel" (⟨"MineAirModel", "setting", "()I"⟩ : MethodName) (⟨"MineAirModel", "setting", "()I"⟩ : MethodName) ∈ wG := wG_of 2013 (by decide +kernel) (by decide +kernel)
theorem wd_2014 : Cond.code (⟨"MineAirModel", "setting", "()I"⟩ : MethodName) prog_14_method_69_code 7 (Option.some Jvm.ClassFile.FieldType.int) ∈ wG := wG_of 2014 (by decide +kernel) (by decide +kernel)
theorem wd_2015 : Cond.methodLink "MineAirLaw" 106 (⟨"MineAirModel", "smoke", "(I)I"⟩ : MethodName) ∈ wG := wG_of 2015 (by decide +kernel) (by decide +kernel)
theorem wd_2016 : Cond.instanceMethod (⟨"MineAirModel", "smoke", "(I)I"⟩ : MethodName) ∈ wG := wG_of 2016 (by decide +kernel) (by decide +kernel)
theorem wd_2017 : Cond.selects "MineAirModel" (⟨"MineAirModel", "smoke", "(I)I"⟩ : MethodName) (⟨"MineAirModel", "smoke", "(I)I"⟩ : MethodName) ∈ wG := wG_of 2017 (by decide +kernel) (by decide +kernel)
theorem wd_2018 : Cond.code (⟨"MineAirModel", "smoke", "(I)I"⟩ : MethodName) prog_14_method_72_code 2 (Option.some Jvm.ClassFile.FieldType.int) ∈ wG := wG_of 2018 (by decide +kernel) (by decide +kernel)
theorem dL_law_542 : decode cL_law 542 = .ok (.aload_n 1, 1) := by decide +kernel
theorem dL_law_543 : decode cL_law 543 = .ok (.aload_n 0, 1) := by decide +kernel
theorem dL_law_544 : decode cL_law 544 = .ok (.iload 4, 2) := by decide +kernel
theorem dL_law_546 : decode cL_law 546 = .ok (.iconst 1, 1) := by decide +kernel
theorem dL_law_547 : decode cL_law 547 = .ok (.iadd, 1) := by decide +kernel
theorem dL_law_548 : decode cL_law 548 = .ok (.iaload, 1) := by decide +kernel
theorem dL_law_549 : decode cL_law 549 = .ok (.invokevirtual 65, 3) := by decide +kernel
theorem dL_law_552 : decode cL_law 552 = .ok (.pop, 1) := by decide +kernel
theorem dL_law_553 : decode cL_law 553 = .ok (.aload_n 2, 1) := by decide +kernel
theorem dL_law_554 : decode cL_law 554 = .ok (.aload_n 0, 1) := by decide +kernel
theorem dL_law_555 : decode cL_law 555 = .ok (.iload 4, 2) := by decide +kernel
theorem dL_law_557 : decode cL_law 557 = .ok (.iconst 1, 1) := by decide +kernel
theorem dL_law_558 : decode cL_law 558 = .ok (.iadd, 1) := by decide +kernel
theorem dL_law_559 : decode cL_law 559 = .ok (.iaload, 1) := by decide +kernel
theorem dL_law_560 : decode cL_law 560 = .ok (.invokevirtual 68, 3) := by decide +kernel
theorem dL_law_563 : decode cL_law 563 = .ok (.pop, 1) := by decide +kernel
theorem dL_law_564 : decode cL_law 564 = .ok (.goto 485, 3) := by decide +kernel
theorem dL_law_567 : decode cL_law 567 = .ok (.aload_n 1, 1) := by decide +kernel
theorem dL_law_568 : decode cL_law 568 = .ok (.invokevirtual 69, 3) := by decide +kernel
theorem dL_law_571 : decode cL_law 571 = .ok (.pop2, 1) := by decide +kernel
theorem dL_law_572 : decode cL_law 572 = .ok (.aload_n 2, 1) := by decide +kernel
theorem dL_law_573 : decode cL_law 573 = .ok (.invokevirtual 73, 3) := by decide +kernel
theorem dL_law_576 : decode cL_law 576 = .ok (.pop2, 1) := by decide +kernel
theorem dL_law_577 : decode cL_law 577 = .ok (.goto 472, 3) := by decide +kernel
theorem dL_law_580 : decode cL_law 580 = .ok (.aload_n 1, 1) := by decide +kernel
theorem dL_law_581 : decode cL_law 581 = .ok (.aload_n 0, 1) := by decide +kernel
theorem dL_law_582 : decode cL_law 582 = .ok (.iload 4, 2) := by decide +kernel
theorem dL_law_584 : decode cL_law 584 = .ok (.iconst 1, 1) := by decide +kernel
theorem dL_law_585 : decode cL_law 585 = .ok (.iadd, 1) := by decide +kernel
theorem dL_law_586 : decode cL_law 586 = .ok (.iaload, 1) := by decide +kernel
theorem dL_law_587 : decode cL_law 587 = .ok (.invokevirtual 74, 3) := by decide +kernel
theorem dL_law_590 : decode cL_law 590 = .ok (.pop, 1) := by decide +kernel
theorem dL_law_591 : decode cL_law 591 = .ok (.aload_n 2, 1) := by decide +kernel
theorem dL_law_592 : decode cL_law 592 = .ok (.aload_n 0, 1) := by decide +kernel
theorem dL_law_593 : decode cL_law 593 = .ok (.iload 4, 2) := by decide +kernel
theorem dL_law_595 : decode cL_law 595 = .ok (.iconst 1, 1) := by decide +kernel
theorem dL_law_596 : decode cL_law 596 = .ok (.iadd, 1) := by decide +kernel
theorem dL_law_597 : decode cL_law 597 = .ok (.iaload, 1) := by decide +kernel
theorem dL_law_598 : decode cL_law 598 = .ok (.invokevirtual 77, 3) := by decide +kernel
theorem dL_law_601 : decode cL_law 601 = .ok (.pop, 1) := by decide +kernel
theorem dL_law_602 : decode cL_law 602 = .ok (.goto 447, 3) := by decide +kernel
theorem dL_law_605 : decode cL_law 605 = .ok (.aload_n 1, 1) := by decide +kernel
theorem dL_law_606 : decode cL_law 606 = .ok (.aload_n 0, 1) := by decide +kernel
theorem dL_law_607 : decode cL_law 607 = .ok (.iload 4, 2) := by decide +kernel
theorem dL_law_609 : decode cL_law 609 = .ok (.iconst 1, 1) := by decide +kernel
theorem dL_law_610 : decode cL_law 610 = .ok (.iadd, 1) := by decide +kernel
theorem dL_law_611 : decode cL_law 611 = .ok (.iaload, 1) := by decide +kernel
theorem dL_law_612 : decode cL_law 612 = .ok (.invokevirtual 78, 3) := by decide +kernel
theorem dL_law_615 : decode cL_law 615 = .ok (.pop, 1) := by decide +kernel
theorem dL_law_616 : decode cL_law 616 = .ok (.aload_n 2, 1) := by decide +kernel
theorem dL_law_617 : decode cL_law 617 = .ok (.aload_n 0, 1) := by decide +kernel
theorem dL_law_618 : decode cL_law 618 = .ok (.iload 4, 2) := by decide +kernel
theorem dL_law_620 : decode cL_law 620 = .ok (.iconst 1, 1) := by decide +kernel
theorem dL_law_621 : decode cL_law 621 = .ok (.iadd, 1) := by decide +kernel
theorem dL_law_622 : decode cL_law 622 = .ok (.iaload, 1) := by decide +kernel
theorem dL_law_623 : decode cL_law 623 = .ok (.invokevirtual 81, 3) := by decide +kernel
theorem dL_law_626 : decode cL_law 626 = .ok (.pop, 1) := by decide +kernel
theorem dL_law_627 : decode cL_law 627 = .ok (.goto 422, 3) := by decide +kernel
theorem dL_law_630 : decode cL_law 630 = .ok (.aload_n 1, 1) := by decide +kernel
theorem dL_law_631 : decode cL_law 631 = .ok (.aload_n 0, 1) := by decide +kernel
theorem dL_law_632 : decode cL_law 632 = .ok (.iload 4, 2) := by decide +kernel
theorem dL_law_634 : decode cL_law 634 = .ok (.iconst 1, 1) := by decide +kernel
theorem dL_law_635 : decode cL_law 635 = .ok (.iadd, 1) := by decide +kernel
theorem dL_law_636 : decode cL_law 636 = .ok (.iaload, 1) := by decide +kernel
theorem dL_law_637 : decode cL_law 637 = .ok (.invokevirtual 82, 3) := by decide +kernel
theorem dL_law_640 : decode cL_law 640 = .ok (.pop, 1) := by decide +kernel
theorem dL_law_641 : decode cL_law 641 = .ok (.aload_n 2, 1) := by decide +kernel
theorem dL_law_642 : decode cL_law 642 = .ok (.aload_n 0, 1) := by decide +kernel
theorem dL_law_643 : decode cL_law 643 = .ok (.iload 4, 2) := by decide +kernel
theorem dL_law_645 : decode cL_law 645 = .ok (.iconst 1, 1) := by decide +kernel
theorem dL_law_646 : decode cL_law 646 = .ok (.iadd, 1) := by decide +kernel
theorem dL_law_647 : decode cL_law 647 = .ok (.iaload, 1) := by decide +kernel
theorem dL_law_648 : decode cL_law 648 = .ok (.invokevirtual 85, 3) := by decide +kernel
theorem dL_law_651 : decode cL_law 651 = .ok (.pop, 1) := by decide +kernel
theorem dL_law_652 : decode cL_law 652 = .ok (.goto 397, 3) := by decide +kernel
theorem dL_law_655 : decode cL_law 655 = .ok (.aload_n 1, 1) := by decide +kernel
theorem dL_law_656 : decode cL_law 656 = .ok (.invokevirtual 86, 3) := by decide +kernel
theorem dL_law_659 : decode cL_law 659 = .ok (.pop, 1) := by decide +kernel
theorem dL_law_660 : decode cL_law 660 = .ok (.aload_n 2, 1) := by decide +kernel
theorem dL_law_661 : decode cL_law 661 = .ok (.invokevirtual 89, 3) := by decide +kernel
theorem dL_law_664 : decode cL_law 664 = .ok (.pop, 1) := by decide +kernel
theorem dL_law_665 : decode cL_law 665 = .ok (.goto 384, 3) := by decide +kernel
theorem dL_law_668 : decode cL_law 668 = .ok (.aload_n 1, 1) := by decide +kernel
theorem dL_law_669 : decode cL_law 669 = .ok (.invokevirtual 90, 3) := by decide +kernel
theorem dL_law_672 : decode cL_law 672 = .ok (.pop, 1) := by decide +kernel
theorem dL_law_673 : decode cL_law 673 = .ok (.aload_n 2, 1) := by decide +kernel
theorem dL_law_674 : decode cL_law 674 = .ok (.invokevirtual 93, 3) := by decide +kernel
theorem dL_law_677 : decode cL_law 677 = .ok (.pop, 1) := by decide +kernel
theorem dL_law_678 : decode cL_law 678 = .ok (.goto 371, 3) := by decide +kernel
theorem dL_law_681 : decode cL_law 681 = .ok (.aload_n 1, 1) := by decide +kernel
theorem dL_law_682 : decode cL_law 682 = .ok (.aload_n 0, 1) := by decide +kernel
theorem dL_law_683 : decode cL_law 683 = .ok (.iload 4, 2) := by decide +kernel
theorem dL_law_685 : decode cL_law 685 = .ok (.iconst 1, 1) := by decide +kernel
theorem dL_law_686 : decode cL_law 686 = .ok (.iadd, 1) := by decide +kernel
theorem dL_law_687 : decode cL_law 687 = .ok (.iaload, 1) := by decide +kernel
theorem dL_law_688 : decode cL_law 688 = .ok (.ifCond .eq 7, 3) := by decide +kernel
theorem dL_law_691 : decode cL_law 691 = .ok (.iconst 1, 1) := by decide +kernel
theorem dL_law_692 : decode cL_law 692 = .ok (.goto 4, 3) := by decide +kernel
theorem dL_law_695 : decode cL_law 695 = .ok (.iconst 0, 1) := by decide +kernel
theorem dL_law_696 : decode cL_law 696 = .ok (.invokevirtual 94, 3) := by decide +kernel
theorem dL_law_699 : decode cL_law 699 = .ok (.pop, 1) := by decide +kernel
theorem dL_law_700 : decode cL_law 700 = .ok (.aload_n 2, 1) := by decide +kernel
theorem dL_law_701 : decode cL_law 701 = .ok (.aload_n 0, 1) := by decide +kernel
theorem dL_law_702 : decode cL_law 702 = .ok (.iload 4, 2) := by decide +kernel
theorem dL_law_704 : decode cL_law 704 = .ok (.iconst 1, 1) := by decide +kernel
theorem dL_law_705 : decode cL_law 705 = .ok (.iadd, 1) := by decide +kernel
theorem dL_law_706 : decode cL_law 706 = .ok (.iaload, 1) := by decide +kernel
theorem dL_law_707 : decode cL_law 707 = .ok (.ifCond .eq 7, 3) := by decide +kernel
theorem dL_law_710 : decode cL_law 710 = .ok (.iconst 1, 1) := by decide +kernel
theorem dL_law_711 : decode cL_law 711 = .ok (.goto 4, 3) := by decide +kernel
theorem dL_law_714 : decode cL_law 714 = .ok (.iconst 0, 1) := by decide +kernel
theorem dL_law_715 : decode cL_law 715 = .ok (.invokevirtual 98, 3) := by decide +kernel
theorem dL_law_718 : decode cL_law 718 = .ok (.pop, 1) := by decide +kernel
theorem dL_law_719 : decode cL_law 719 = .ok (.goto 330, 3) := by decide +kernel
theorem dL_law_722 : decode cL_law 722 = .ok (.aload_n 1, 1) := by decide +kernel
theorem dL_law_723 : decode cL_law 723 = .ok (.invokevirtual 99, 3) := by decide +kernel
theorem dL_law_726 : decode cL_law 726 = .ok (.pop, 1) := by decide +kernel
theorem dL_law_727 : decode cL_law 727 = .ok (.aload_n 2, 1) := by decide +kernel
theorem dL_law_728 : decode cL_law 728 = .ok (.invokevirtual 102, 3) := by decide +kernel
theorem dL_law_731 : decode cL_law 731 = .ok (.pop, 1) := by decide +kernel
theorem dL_law_732 : decode cL_law 732 = .ok (.goto 317, 3) := by decide +kernel
theorem dL_law_735 : decode cL_law 735 = .ok (.aload_n 1, 1) := by decide +kernel
theorem dL_law_736 : decode cL_law 736 = .ok (.aload_n 0, 1) := by decide +kernel
theorem dL_law_737 : decode cL_law 737 = .ok (.iload 4, 2) := by decide +kernel
theorem dL_law_739 : decode cL_law 739 = .ok (.iconst 1, 1) := by decide +kernel
theorem dL_law_740 : decode cL_law 740 = .ok (.iadd, 1) := by decide +kernel
theorem dL_law_741 : decode cL_law 741 = .ok (.iaload, 1) := by decide +kernel
theorem dL_law_742 : decode cL_law 742 = .ok (.invokevirtual 103, 3) := by decide +kernel
theorem dL_law_745 : decode cL_law 745 = .ok (.pop, 1) := by decide +kernel
theorem dL_law_746 : decode cL_law 746 = .ok (.aload_n 2, 1) := by decide +kernel
theorem dL_law_747 : decode cL_law 747 = .ok (.aload_n 0, 1) := by decide +kernel
theorem dL_law_748 : decode cL_law 748 = .ok (.iload 4, 2) := by decide +kernel
theorem dL_law_750 : decode cL_law 750 = .ok (.iconst 1, 1) := by decide +kernel
theorem dL_law_751 : decode cL_law 751 = .ok (.iadd, 1) := by decide +kernel
theorem dL_law_752 : decode cL_law 752 = .ok (.iaload, 1) := by decide +kernel
theorem dL_law_753 : decode cL_law 753 = .ok (.invokevirtual 106, 3) := by decide +kernel
theorem dL_law_756 : decode cL_law 756 = .ok (.pop, 1) := by decide +kernel
theorem dL_law_757 : decode cL_law 757 = .ok (.goto 292, 3) := by decide +kernel
set_option maxHeartbeats 4000000 in
set_option maxRecDepth 100000 in
theorem law_10 {p : Program} {l : Launch} {e : Env} {s : State} {m : MethodId} {below : List Frame} {meth : Method} {c : Code} {dC : Nat → ClassId} {dI : Nat → Nat → Nat} {b L : Nat} {xs : Nat → Int32} (hst : l.stackTraces = false) (hL : L ≤ 3072) (C0 : lw_At p s m meth c b L xs) (atx : Nat → Nat × Nat) (hG : GW s.heap.size atx s) (ad : Nat → Nat) (ka : Nat → ClassId) (x0 : Nat) (md : Nat → Nat) (mk9 : Nat → ClassId) (m0 : Nat) (i : Nat) (hi : i + 6 ≤ L) (K : ∀ (H : Heap) (locs : List Loc) (ls : Array Slot), LV dC dI s b L ad ka x0 md mk9 m0 (i + 6) H locs ls → W p l e room_1 s m #[Value.ref b] below meth c H locs (150 + 23 * (i + 6)) (3000 + 300 * (i + 6)) (lw_Z below #[Value.ref b] s) (F0 m 23 ls [])) (H : Heap) (locs : List Loc) (ls : Array Slot) (Gx Gm : Nat → Int) (wx wm : va_W) (tx tm : List (ClassId × FieldType)) (hXI : XI ad ka x0 Gx wx tx) (hMI : MZ md mk9 m0 Gm wm tm ∨ MB md mk9 m0 Gm wm tm) (hrl : REL Gx Gm) (hKx : va_K (dC, dI) classes tx s) (hKm : va_K (dC, dI) classes tm s) (hP : va_P (dC, dI) classes (wx ++ wm) H) (hD : va_D (fun q : Nat => s.heap.size ≤ q) (wx ++ wm)) (hS : va_S (fun q : Nat => s.heap.size ≤ q) s.heap H locs) (hl : lv_has ls 7 [(4, .int (nI i)), (3, .ref (ad 104)), (2, .ref m0), (1, .ref x0), (0, .ref b)]) : W p l e room_1 s m #[Value.ref b] below meth c H locs (150 + 23 * i) (3000 + 300 * i) (lw_Z below #[Value.ref b] s) (F0 m 542 ls []) := by
  obtain ⟨hx, hb, hr, hml, hown, hts0, hX, hbl, hlocks, hgv⟩ := C0
  have hts : ∀ w ∈ wG, w.before #[Value.ref b] s = true := fun w h => hts0 w (wG_t h)
  have hA : ∀ q : Nat, s.heap.size ≤ q → (fun q : Nat => s.heap.size ≤ q) q := fun _ h => h
  have hA0 : ∀ q : Nat, (fun q : Nat => s.heap.size ≤ q) q → s.heap.size ≤ q := fun _ h => h
  have hn0 : s.heap.size ≤ s.heap.size := Nat.le_refl _
  have hbA : ¬ (fun q : Nat => s.heap.size ≤ q) b := Nat.not_le.mpr hbl
  have hrl0 := rel0 hrl
  refine lv_aload_n hx hb dL_law_542 rfl (lv_at hl 3 rfl) ?_
  refine lv_aload_n hx hb dL_law_543 rfl (lv_at hl 4 rfl) ?_
  refine lv_iload hx hb dL_law_544 (lv_at hl 0 rfl) ?_
  refine lv_iconst (v := 1) hx hb dL_law_546 (by decide) ?_
  refine lv_iadd hx hb dL_law_547 ?_
  refine lv_topi (fun v_1 ev_1 => ?_)
  obtain rfl : v_1 = nI (i + 1) := ev_1.trans (nI_add i 1)
  refine va_sld hx hb hX hbl hbA hS (vp_in_nI (n := (i + 1)) (by omega) (by omega)) dL_law_548 ?_
  refine lv_topi (fun v_2 ev_2 => ?_)
  have hPc := ap_l hP
  have hDc := ad_l hD
  have hKc := hKx
  have hFc := fr_O hDc hS hA
  obtain ⟨fs9, hrc⟩ := XI_rc hXI
  refine va_calli (va_runV (As := [.int v_2]) (rest := []) ⟨hx, hb, hml, hown, hts⟩ (X_air l dC dI s.heap.size atx H.size ad ka x0 Gx wx tx v_2 hXI ) (cwV 1 hts (gV (fun w h => id h) wd_1001 wd_998 wd_999 wd_1000 wd_114) rfl rfl rfl (by decide +kernel) ⟨Nat.le_of_ble_eq_true rfl, Nat.le_of_ble_eq_true rfl⟩) ⟨fun a U g mk q => by obtain ⟨q0, q1, q2, qG, qP, qK, qD⟩ := q; exact ⟨q0, q1, q2, GW.blind qG, qP, va_K.moved (u := U) (U := U.calling g mk a) (Vm.Alike.refl U.vm) qK, qD⟩, va_recv hKc hPc (ci := 11) (q0 := 0) rfl hrc, fun U hU hW => ⟨rfl, by rw [hU], Nat.le_trans hn0 hS.1, GW.go hW hU hG (fun q hq hA9 => hS.2.1 q hq (fun h => hA9 (hA0 q h))), by rw [hU]; exact hPc, va_K.moved hW.alike hKc, hDc.weaken (fun _ _ _ h => hA0 _ h)⟩⟩ rfl rfl hl.1 rfl (lv_room (Nat.le_of_ble_eq_true rfl)) dL_law_549 ⟨(by show _ ≤ (601024 : Nat); omega), (by show _ ≤ (7293034 : Nat); omega)⟩) hS (fun q _ h => hFc q h) hFc (fun r_3 u t H1 locs ht hvm hw_3 hB hz1 hk1 hS => ?_)
  subst hw_3
  obtain ⟨Gx_3, wx_3, tx_3, hIx_3, hrel_3, hP1, hK1, hD1⟩ := hB
  rw [ht] at hP1
  obtain ⟨hP, hD⟩ := jo_l hP hD hk1 hFc hP1 hD1
  have hKx_3 := va_K.moved hvm.symm hK1
  generalize H1 = H at hP hS ⊢
  refine lv_pop hx hb dL_law_552 rfl ?_
  refine lv_aload_n hx hb dL_law_553 rfl (lv_at hl 2 rfl) ?_
  refine lv_aload_n hx hb dL_law_554 rfl (lv_at hl 4 rfl) ?_
  refine lv_iload hx hb dL_law_555 (lv_at hl 0 rfl) ?_
  refine lv_iconst (v := 1) hx hb dL_law_557 (by decide) ?_
  refine lv_iadd hx hb dL_law_558 ?_
  refine lv_topi (fun v_4 ev_4 => ?_)
  obtain rfl : v_4 = nI (i + 1) := ev_4.trans (nI_add i 1)
  refine va_sld hx hb hX hbl hbA hS (vp_in_nI (n := (i + 1)) (by omega) (by omega)) dL_law_559 ?_
  refine lv_topi (fun v_5 ev_5 => ?_)
  obtain rfl : v_2 = v_5 := (ev_5.trans ev_2.symm).symm
  rcases hMI with hMI | hMI
  · skip
    have hPc := ap_r hP
    have hDc := ad_r hD
    have hKc := hKm
    have hFc := fr_O hDc hS hA
    obtain ⟨fs9, hrc⟩ := MZ_rc hMI
    refine va_calli (va_runV (As := [.int v_2]) (rest := []) ⟨hx, hb, hml, hown, hts⟩ (Z_air l dC dI s.heap.size atx H.size md mk9 m0 Gm wm tm v_2 hMI ) (cwV 1 hts (gV (fun w h => id h) wd_1910 wd_1907 wd_1908 wd_1909 wd_127) rfl rfl rfl (by decide +kernel) ⟨Nat.le_of_ble_eq_true rfl, Nat.le_of_ble_eq_true rfl⟩) ⟨fun a U g mk q => by obtain ⟨q0, q1, q2, qG, qP, qK, qD⟩ := q; exact ⟨q0, q1, q2, GW.blind qG, qP, va_K.moved (u := U) (U := U.calling g mk a) (Vm.Alike.refl U.vm) qK, qD⟩, va_recv hKc hPc (ci := 14) (q0 := 0) rfl hrc, fun U hU hW => ⟨rfl, by rw [hU], Nat.le_trans hn0 hS.1, GW.go hW hU hG (fun q hq hA9 => hS.2.1 q hq (fun h => hA9 (hA0 q h))), by rw [hU]; exact hPc, va_K.moved hW.alike hKc, hDc.weaken (fun _ _ _ h => hA0 _ h)⟩⟩ rfl rfl hl.1 rfl (lv_room (Nat.le_of_ble_eq_true rfl)) dL_law_560 ⟨(by show _ ≤ (601024 : Nat); omega), (by show _ ≤ (7293034 : Nat); omega)⟩) hS (fun q _ h => hFc q h) hFc (fun r_6 u t H1 locs ht hvm hw_6 hB hz1 hk1 hS => ?_)
    subst hw_6
    obtain ⟨Gm_6, wm_6, tm_6, hIm_6, hrel_6, hP1, hK1, hD1⟩ := hB
    rw [ht] at hP1
    obtain ⟨hP, hD⟩ := jo_r hP hD hk1 hFc hP1 hD1
    have hKm_6 := va_K.moved hvm.symm hK1
    generalize H1 = H at hP hS ⊢
    refine lv_pop hx hb dL_law_563 rfl ?_
    refine lv_goto (tgt := 1049) hx hb dL_law_564 (by decide) ?_
    refine lv_iinc (v := (nI (i + 6))) (lv' := [(4, .int (nI (i + 6))), (3, .ref (ad 104)), (2, .ref m0), (1, .ref x0), (0, .ref b)]) hx hb dL_law_1049 hl (k := 0) rfl (nI_add _ 6) (by decide) rfl (fun ls hl => ?_)
    refine lv_goto (tgt := 23) hx hb dL_law_1052 (by decide) ?_
    refine W.widen (k := 150 + 23 * (i + 6)) (n := 3000 + 300 * (i + 6)) (by omega) (by omega) ?_
    exact K _ _ _ ⟨by omega, Gx_3, Gm_6, wx_3, wm_6, tx_3, tm_6, hIx_3, (Or.inl hIm_6), (rel_q hrl hrel_3.2.1 hrel_6.2.1 hrel_3.2.2 hrel_6.2.2), hKx_3, hKm_6, hP, hD, hS, lv_sub hl [0, 1, 2, 3, 4] rfl⟩
  · skip
    have hPc := ap_r hP
    have hDc := ad_r hD
    have hKc := hKm
    have hFc := fr_O hDc hS hA
    obtain ⟨fs9, hrc⟩ := MB_rc hMI
    refine va_calli (va_runV (As := [.int v_2]) (rest := []) ⟨hx, hb, hml, hown, hts⟩ (B_air l dC dI s.heap.size atx H.size md mk9 m0 Gm wm tm v_2 hMI ) (cwV 1 hts (gV (fun w h => id h) wd_1910 wd_1907 wd_1908 wd_1909 wd_127) rfl rfl rfl (by decide +kernel) ⟨Nat.le_of_ble_eq_true rfl, Nat.le_of_ble_eq_true rfl⟩) ⟨fun a U g mk q => by obtain ⟨q0, q1, q2, qG, qP, qK, qD⟩ := q; exact ⟨q0, q1, q2, GW.blind qG, qP, va_K.moved (u := U) (U := U.calling g mk a) (Vm.Alike.refl U.vm) qK, qD⟩, va_recv hKc hPc (ci := 14) (q0 := 0) rfl hrc, fun U hU hW => ⟨rfl, by rw [hU], Nat.le_trans hn0 hS.1, GW.go hW hU hG (fun q hq hA9 => hS.2.1 q hq (fun h => hA9 (hA0 q h))), by rw [hU]; exact hPc, va_K.moved hW.alike hKc, hDc.weaken (fun _ _ _ h => hA0 _ h)⟩⟩ rfl rfl hl.1 rfl (lv_room (Nat.le_of_ble_eq_true rfl)) dL_law_560 ⟨(by show _ ≤ (601024 : Nat); omega), (by show _ ≤ (7293034 : Nat); omega)⟩) hS (fun q _ h => hFc q h) hFc (fun r_7 u t H1 locs ht hvm hw_7 hB hz1 hk1 hS => ?_)
    subst hw_7
    obtain ⟨Gm_7, wm_7, tm_7, hIm_7, hrel_7, hP1, hK1, hD1⟩ := hB
    rw [ht] at hP1
    obtain ⟨hP, hD⟩ := jo_r hP hD hk1 hFc hP1 hD1
    have hKm_7 := va_K.moved hvm.symm hK1
    generalize H1 = H at hP hS ⊢
    refine lv_pop hx hb dL_law_563 rfl ?_
    refine lv_goto (tgt := 1049) hx hb dL_law_564 (by decide) ?_
    refine lv_iinc (v := (nI (i + 6))) (lv' := [(4, .int (nI (i + 6))), (3, .ref (ad 104)), (2, .ref m0), (1, .ref x0), (0, .ref b)]) hx hb dL_law_1049 hl (k := 0) rfl (nI_add _ 6) (by decide) rfl (fun ls hl => ?_)
    refine lv_goto (tgt := 23) hx hb dL_law_1052 (by decide) ?_
    refine W.widen (k := 150 + 23 * (i + 6)) (n := 3000 + 300 * (i + 6)) (by omega) (by omega) ?_
    exact K _ _ _ ⟨by omega, Gx_3, Gm_7, wx_3, wm_7, tx_3, tm_7, hIx_3, (Or.inr hIm_7), (rel_q hrl hrel_3.2.1 hrel_7.2.1 hrel_3.2.2 hrel_7.2.2), hKx_3, hKm_7, hP, hD, hS, lv_sub hl [0, 1, 2, 3, 4] rfl⟩
set_option maxHeartbeats 4000000 in
set_option maxRecDepth 100000 in
theorem law_11 {p : Program} {l : Launch} {e : Env} {s : State} {m : MethodId} {below : List Frame} {meth : Method} {c : Code} {dC : Nat → ClassId} {dI : Nat → Nat → Nat} {b L : Nat} {xs : Nat → Int32} (hst : l.stackTraces = false) (hL : L ≤ 3072) (C0 : lw_At p s m meth c b L xs) (atx : Nat → Nat × Nat) (hG : GW s.heap.size atx s) (ad : Nat → Nat) (ka : Nat → ClassId) (x0 : Nat) (md : Nat → Nat) (mk9 : Nat → ClassId) (m0 : Nat) (i : Nat) (hi : i + 6 ≤ L) (K : ∀ (H : Heap) (locs : List Loc) (ls : Array Slot), LV dC dI s b L ad ka x0 md mk9 m0 (i + 6) H locs ls → W p l e room_1 s m #[Value.ref b] below meth c H locs (150 + 23 * (i + 6)) (3000 + 300 * (i + 6)) (lw_Z below #[Value.ref b] s) (F0 m 23 ls [])) (H : Heap) (locs : List Loc) (ls : Array Slot) (Gx Gm : Nat → Int) (wx wm : va_W) (tx tm : List (ClassId × FieldType)) (hXI : XI ad ka x0 Gx wx tx) (hMI : MZ md mk9 m0 Gm wm tm ∨ MB md mk9 m0 Gm wm tm) (hrl : REL Gx Gm) (hKx : va_K (dC, dI) classes tx s) (hKm : va_K (dC, dI) classes tm s) (hP : va_P (dC, dI) classes (wx ++ wm) H) (hD : va_D (fun q : Nat => s.heap.size ≤ q) (wx ++ wm)) (hS : va_S (fun q : Nat => s.heap.size ≤ q) s.heap H locs) (hl : lv_has ls 7 [(4, .int (nI i)), (3, .ref (ad 104)), (2, .ref m0), (1, .ref x0), (0, .ref b)]) : W p l e room_1 s m #[Value.ref b] below meth c H locs (150 + 23 * i) (3000 + 300 * i) (lw_Z below #[Value.ref b] s) (F0 m 567 ls []) := by
  obtain ⟨hx, hb, hr, hml, hown, hts0, hX, hbl, hlocks, hgv⟩ := C0
  have hts : ∀ w ∈ wG, w.before #[Value.ref b] s = true := fun w h => hts0 w (wG_t h)
  have hA : ∀ q : Nat, s.heap.size ≤ q → (fun q : Nat => s.heap.size ≤ q) q := fun _ h => h
  have hA0 : ∀ q : Nat, (fun q : Nat => s.heap.size ≤ q) q → s.heap.size ≤ q := fun _ h => h
  have hn0 : s.heap.size ≤ s.heap.size := Nat.le_refl _
  have hbA : ¬ (fun q : Nat => s.heap.size ≤ q) b := Nat.not_le.mpr hbl
  have hrl0 := rel0 hrl
  refine lv_aload_n hx hb dL_law_567 rfl (lv_at hl 3 rfl) ?_
  have hPc := ap_l hP
  have hDc := ad_l hD
  have hKc := hKx
  have hFc := fr_O hDc hS hA
  obtain ⟨fs9, hrc⟩ := XI_rc hXI
  refine va_calll (va_runV (As := []) (rest := []) ⟨hx, hb, hml, hown, hts⟩ (X_cost l dC dI s.heap.size atx H.size ad ka x0 Gx wx tx  hXI ) (cwV 0 hts (gV (fun w h => id h) wd_1064 wd_1061 wd_1062 wd_1063 wd_114) rfl rfl rfl (by decide +kernel) ⟨Nat.le_of_ble_eq_true rfl, Nat.le_of_ble_eq_true rfl⟩) ⟨fun a U g mk q => by obtain ⟨q0, q1, q2, qG, qP, qK, qD⟩ := q; exact ⟨q0, q1, q2, GW.blind qG, qP, va_K.moved (u := U) (U := U.calling g mk a) (Vm.Alike.refl U.vm) qK, qD⟩, va_recv hKc hPc (ci := 11) (q0 := 0) rfl hrc, fun U hU hW => ⟨rfl, by rw [hU], Nat.le_trans hn0 hS.1, GW.go hW hU hG (fun q hq hA9 => hS.2.1 q hq (fun h => hA9 (hA0 q h))), by rw [hU]; exact hPc, va_K.moved hW.alike hKc, hDc.weaken (fun _ _ _ h => hA0 _ h)⟩⟩ rfl rfl hl.1 rfl (lv_room (Nat.le_of_ble_eq_true rfl)) dL_law_568 ⟨(by show _ ≤ (601024 : Nat); omega), (by show _ ≤ (7293034 : Nat); omega)⟩) hS (fun q _ h => hFc q h) hFc (fun r_1 u t H1 locs ht hvm hw_1 hB hz1 hk1 hS => ?_)
  subst hw_1
  obtain ⟨Gx_1, wx_1, tx_1, hIx_1, hrel_1, hP1, hK1, hD1⟩ := hB
  rw [ht] at hP1
  obtain ⟨hP, hD⟩ := jo_l hP hD hk1 hFc hP1 hD1
  have hKx_1 := va_K.moved hvm.symm hK1
  generalize H1 = H at hP hS ⊢
  refine lv_pop2_2 hx hb dL_law_571 rfl ?_
  refine lv_aload_n hx hb dL_law_572 rfl (lv_at hl 2 rfl) ?_
  rcases hMI with hMI | hMI
  · skip
    have hPc := ap_r hP
    have hDc := ad_r hD
    have hKc := hKm
    have hFc := fr_O hDc hS hA
    obtain ⟨fs9, hrc⟩ := MZ_rc hMI
    refine va_calll (va_runV (As := []) (rest := []) ⟨hx, hb, hml, hown, hts⟩ (Z_cost l dC dI s.heap.size atx H.size md mk9 m0 Gm wm tm  hMI ) (cwV 0 hts (gV (fun w h => id h) wd_1942 wd_1939 wd_1940 wd_1941 wd_127) rfl rfl rfl (by decide +kernel) ⟨Nat.le_of_ble_eq_true rfl, Nat.le_of_ble_eq_true rfl⟩) ⟨fun a U g mk q => by obtain ⟨q0, q1, q2, qG, qP, qK, qD⟩ := q; exact ⟨q0, q1, q2, GW.blind qG, qP, va_K.moved (u := U) (U := U.calling g mk a) (Vm.Alike.refl U.vm) qK, qD⟩, va_recv hKc hPc (ci := 14) (q0 := 0) rfl hrc, fun U hU hW => ⟨rfl, by rw [hU], Nat.le_trans hn0 hS.1, GW.go hW hU hG (fun q hq hA9 => hS.2.1 q hq (fun h => hA9 (hA0 q h))), by rw [hU]; exact hPc, va_K.moved hW.alike hKc, hDc.weaken (fun _ _ _ h => hA0 _ h)⟩⟩ rfl rfl hl.1 rfl (lv_room (Nat.le_of_ble_eq_true rfl)) dL_law_573 ⟨(by show _ ≤ (601024 : Nat); omega), (by show _ ≤ (7293034 : Nat); omega)⟩) hS (fun q _ h => hFc q h) hFc (fun r_2 u t H1 locs ht hvm hw_2 hB hz1 hk1 hS => ?_)
    subst hw_2
    obtain ⟨Gm_2, wm_2, tm_2, hIm_2, hrel_2, hP1, hK1, hD1⟩ := hB
    rw [ht] at hP1
    obtain ⟨hP, hD⟩ := jo_r hP hD hk1 hFc hP1 hD1
    have hKm_2 := va_K.moved hvm.symm hK1
    generalize H1 = H at hP hS ⊢
    refine lv_pop2_2 hx hb dL_law_576 rfl ?_
    refine lv_goto (tgt := 1049) hx hb dL_law_577 (by decide) ?_
    refine lv_iinc (v := (nI (i + 6))) (lv' := [(4, .int (nI (i + 6))), (3, .ref (ad 104)), (2, .ref m0), (1, .ref x0), (0, .ref b)]) hx hb dL_law_1049 hl (k := 0) rfl (nI_add _ 6) (by decide) rfl (fun ls hl => ?_)
    refine lv_goto (tgt := 23) hx hb dL_law_1052 (by decide) ?_
    refine W.widen (k := 150 + 23 * (i + 6)) (n := 3000 + 300 * (i + 6)) (by omega) (by omega) ?_
    exact K _ _ _ ⟨by omega, Gx_1, Gm_2, wx_1, wm_2, tx_1, tm_2, hIx_1, (Or.inl hIm_2), (rel_q hrl hrel_1.2.1 hrel_2.2.1 hrel_1.2.2 hrel_2.2.2), hKx_1, hKm_2, hP, hD, hS, lv_sub hl [0, 1, 2, 3, 4] rfl⟩
  · skip
    have hPc := ap_r hP
    have hDc := ad_r hD
    have hKc := hKm
    have hFc := fr_O hDc hS hA
    obtain ⟨fs9, hrc⟩ := MB_rc hMI
    refine va_calll (va_runV (As := []) (rest := []) ⟨hx, hb, hml, hown, hts⟩ (B_cost l dC dI s.heap.size atx H.size md mk9 m0 Gm wm tm  hMI ) (cwV 0 hts (gV (fun w h => id h) wd_1942 wd_1939 wd_1940 wd_1941 wd_127) rfl rfl rfl (by decide +kernel) ⟨Nat.le_of_ble_eq_true rfl, Nat.le_of_ble_eq_true rfl⟩) ⟨fun a U g mk q => by obtain ⟨q0, q1, q2, qG, qP, qK, qD⟩ := q; exact ⟨q0, q1, q2, GW.blind qG, qP, va_K.moved (u := U) (U := U.calling g mk a) (Vm.Alike.refl U.vm) qK, qD⟩, va_recv hKc hPc (ci := 14) (q0 := 0) rfl hrc, fun U hU hW => ⟨rfl, by rw [hU], Nat.le_trans hn0 hS.1, GW.go hW hU hG (fun q hq hA9 => hS.2.1 q hq (fun h => hA9 (hA0 q h))), by rw [hU]; exact hPc, va_K.moved hW.alike hKc, hDc.weaken (fun _ _ _ h => hA0 _ h)⟩⟩ rfl rfl hl.1 rfl (lv_room (Nat.le_of_ble_eq_true rfl)) dL_law_573 ⟨(by show _ ≤ (601024 : Nat); omega), (by show _ ≤ (7293034 : Nat); omega)⟩) hS (fun q _ h => hFc q h) hFc (fun r_3 u t H1 locs ht hvm hw_3 hB hz1 hk1 hS => ?_)
    subst hw_3
    obtain ⟨Gm_3, wm_3, tm_3, hIm_3, hrel_3, hP1, hK1, hD1⟩ := hB
    rw [ht] at hP1
    obtain ⟨hP, hD⟩ := jo_r hP hD hk1 hFc hP1 hD1
    have hKm_3 := va_K.moved hvm.symm hK1
    generalize H1 = H at hP hS ⊢
    refine lv_pop2_2 hx hb dL_law_576 rfl ?_
    refine lv_goto (tgt := 1049) hx hb dL_law_577 (by decide) ?_
    refine lv_iinc (v := (nI (i + 6))) (lv' := [(4, .int (nI (i + 6))), (3, .ref (ad 104)), (2, .ref m0), (1, .ref x0), (0, .ref b)]) hx hb dL_law_1049 hl (k := 0) rfl (nI_add _ 6) (by decide) rfl (fun ls hl => ?_)
    refine lv_goto (tgt := 23) hx hb dL_law_1052 (by decide) ?_
    refine W.widen (k := 150 + 23 * (i + 6)) (n := 3000 + 300 * (i + 6)) (by omega) (by omega) ?_
    exact K _ _ _ ⟨by omega, Gx_1, Gm_3, wx_1, wm_3, tx_1, tm_3, hIx_1, (Or.inr hIm_3), (rel_q hrl hrel_1.2.1 hrel_3.2.1 hrel_1.2.2 hrel_3.2.2), hKx_1, hKm_3, hP, hD, hS, lv_sub hl [0, 1, 2, 3, 4] rfl⟩
set_option maxHeartbeats 4000000 in
set_option maxRecDepth 100000 in
theorem law_12 {p : Program} {l : Launch} {e : Env} {s : State} {m : MethodId} {below : List Frame} {meth : Method} {c : Code} {dC : Nat → ClassId} {dI : Nat → Nat → Nat} {b L : Nat} {xs : Nat → Int32} (hst : l.stackTraces = false) (hL : L ≤ 3072) (C0 : lw_At p s m meth c b L xs) (atx : Nat → Nat × Nat) (hG : GW s.heap.size atx s) (ad : Nat → Nat) (ka : Nat → ClassId) (x0 : Nat) (md : Nat → Nat) (mk9 : Nat → ClassId) (m0 : Nat) (i : Nat) (hi : i + 6 ≤ L) (K : ∀ (H : Heap) (locs : List Loc) (ls : Array Slot), LV dC dI s b L ad ka x0 md mk9 m0 (i + 6) H locs ls → W p l e room_1 s m #[Value.ref b] below meth c H locs (150 + 23 * (i + 6)) (3000 + 300 * (i + 6)) (lw_Z below #[Value.ref b] s) (F0 m 23 ls [])) (H : Heap) (locs : List Loc) (ls : Array Slot) (Gx Gm : Nat → Int) (wx wm : va_W) (tx tm : List (ClassId × FieldType)) (hXI : XI ad ka x0 Gx wx tx) (hMI : MZ md mk9 m0 Gm wm tm ∨ MB md mk9 m0 Gm wm tm) (hrl : REL Gx Gm) (hKx : va_K (dC, dI) classes tx s) (hKm : va_K (dC, dI) classes tm s) (hP : va_P (dC, dI) classes (wx ++ wm) H) (hD : va_D (fun q : Nat => s.heap.size ≤ q) (wx ++ wm)) (hS : va_S (fun q : Nat => s.heap.size ≤ q) s.heap H locs) (hl : lv_has ls 7 [(4, .int (nI i)), (3, .ref (ad 104)), (2, .ref m0), (1, .ref x0), (0, .ref b)]) : W p l e room_1 s m #[Value.ref b] below meth c H locs (150 + 23 * i) (3000 + 300 * i) (lw_Z below #[Value.ref b] s) (F0 m 580 ls []) := by
  obtain ⟨hx, hb, hr, hml, hown, hts0, hX, hbl, hlocks, hgv⟩ := C0
  have hts : ∀ w ∈ wG, w.before #[Value.ref b] s = true := fun w h => hts0 w (wG_t h)
  have hA : ∀ q : Nat, s.heap.size ≤ q → (fun q : Nat => s.heap.size ≤ q) q := fun _ h => h
  have hA0 : ∀ q : Nat, (fun q : Nat => s.heap.size ≤ q) q → s.heap.size ≤ q := fun _ h => h
  have hn0 : s.heap.size ≤ s.heap.size := Nat.le_refl _
  have hbA : ¬ (fun q : Nat => s.heap.size ≤ q) b := Nat.not_le.mpr hbl
  have hrl0 := rel0 hrl
  refine lv_aload_n hx hb dL_law_580 rfl (lv_at hl 3 rfl) ?_
  refine lv_aload_n hx hb dL_law_581 rfl (lv_at hl 4 rfl) ?_
  refine lv_iload hx hb dL_law_582 (lv_at hl 0 rfl) ?_
  refine lv_iconst (v := 1) hx hb dL_law_584 (by decide) ?_
  refine lv_iadd hx hb dL_law_585 ?_
  refine lv_topi (fun v_1 ev_1 => ?_)
  obtain rfl : v_1 = nI (i + 1) := ev_1.trans (nI_add i 1)
  refine va_sld hx hb hX hbl hbA hS (vp_in_nI (n := (i + 1)) (by omega) (by omega)) dL_law_586 ?_
  refine lv_topi (fun v_2 ev_2 => ?_)
  have hPc := ap_l hP
  have hDc := ad_l hD
  have hKc := hKx
  have hFc := fr_O hDc hS hA
  obtain ⟨fs9, hrc⟩ := XI_rc hXI
  refine va_calli (va_runV (As := [.int v_2]) (rest := []) ⟨hx, hb, hml, hown, hts⟩ (X_turned l dC dI s.heap.size atx H.size ad ka x0 Gx wx tx v_2 hXI ) (cwV 1 hts (gV (fun w h => id h) wd_1076 wd_1073 wd_1074 wd_1075 wd_114) rfl rfl rfl (by decide +kernel) ⟨Nat.le_of_ble_eq_true rfl, Nat.le_of_ble_eq_true rfl⟩) ⟨fun a U g mk q => by obtain ⟨q0, q1, q2, qG, qP, qK, qD⟩ := q; exact ⟨q0, q1, q2, GW.blind qG, qP, va_K.moved (u := U) (U := U.calling g mk a) (Vm.Alike.refl U.vm) qK, qD⟩, va_recv hKc hPc (ci := 11) (q0 := 0) rfl hrc, fun U hU hW => ⟨rfl, by rw [hU], Nat.le_trans hn0 hS.1, GW.go hW hU hG (fun q hq hA9 => hS.2.1 q hq (fun h => hA9 (hA0 q h))), by rw [hU]; exact hPc, va_K.moved hW.alike hKc, hDc.weaken (fun _ _ _ h => hA0 _ h)⟩⟩ rfl rfl hl.1 rfl (lv_room (Nat.le_of_ble_eq_true rfl)) dL_law_587 ⟨(by show _ ≤ (601024 : Nat); omega), (by show _ ≤ (7293034 : Nat); omega)⟩) hS (fun q _ h => hFc q h) hFc (fun r_3 u t H1 locs ht hvm hw_3 hB hz1 hk1 hS => ?_)
  subst hw_3
  obtain ⟨Gx_3, wx_3, tx_3, hIx_3, hrel_3, hP1, hK1, hD1⟩ := hB
  rw [ht] at hP1
  obtain ⟨hP, hD⟩ := jo_l hP hD hk1 hFc hP1 hD1
  have hKx_3 := va_K.moved hvm.symm hK1
  generalize H1 = H at hP hS ⊢
  refine lv_pop hx hb dL_law_590 rfl ?_
  refine lv_aload_n hx hb dL_law_591 rfl (lv_at hl 2 rfl) ?_
  refine lv_aload_n hx hb dL_law_592 rfl (lv_at hl 4 rfl) ?_
  refine lv_iload hx hb dL_law_593 (lv_at hl 0 rfl) ?_
  refine lv_iconst (v := 1) hx hb dL_law_595 (by decide) ?_
  refine lv_iadd hx hb dL_law_596 ?_
  refine lv_topi (fun v_4 ev_4 => ?_)
  obtain rfl : v_4 = nI (i + 1) := ev_4.trans (nI_add i 1)
  refine va_sld hx hb hX hbl hbA hS (vp_in_nI (n := (i + 1)) (by omega) (by omega)) dL_law_597 ?_
  refine lv_topi (fun v_5 ev_5 => ?_)
  obtain rfl : v_2 = v_5 := (ev_5.trans ev_2.symm).symm
  rcases hMI with hMI | hMI
  · skip
    have hPc := ap_r hP
    have hDc := ad_r hD
    have hKc := hKm
    have hFc := fr_O hDc hS hA
    obtain ⟨fs9, hrc⟩ := MZ_rc hMI
    refine va_calli (va_runV (As := [.int v_2]) (rest := []) ⟨hx, hb, hml, hown, hts⟩ (Z_turned l dC dI s.heap.size atx H.size md mk9 m0 Gm wm tm v_2 hMI ) (cwV 1 hts (gV (fun w h => id h) wd_1946 wd_1943 wd_1944 wd_1945 wd_127) rfl rfl rfl (by decide +kernel) ⟨Nat.le_of_ble_eq_true rfl, Nat.le_of_ble_eq_true rfl⟩) ⟨fun a U g mk q => by obtain ⟨q0, q1, q2, qG, qP, qK, qD⟩ := q; exact ⟨q0, q1, q2, GW.blind qG, qP, va_K.moved (u := U) (U := U.calling g mk a) (Vm.Alike.refl U.vm) qK, qD⟩, va_recv hKc hPc (ci := 14) (q0 := 0) rfl hrc, fun U hU hW => ⟨rfl, by rw [hU], Nat.le_trans hn0 hS.1, GW.go hW hU hG (fun q hq hA9 => hS.2.1 q hq (fun h => hA9 (hA0 q h))), by rw [hU]; exact hPc, va_K.moved hW.alike hKc, hDc.weaken (fun _ _ _ h => hA0 _ h)⟩⟩ rfl rfl hl.1 rfl (lv_room (Nat.le_of_ble_eq_true rfl)) dL_law_598 ⟨(by show _ ≤ (601024 : Nat); omega), (by show _ ≤ (7293034 : Nat); omega)⟩) hS (fun q _ h => hFc q h) hFc (fun r_6 u t H1 locs ht hvm hw_6 hB hz1 hk1 hS => ?_)
    subst hw_6
    obtain ⟨Gm_6, wm_6, tm_6, hIm_6, hrel_6, hP1, hK1, hD1⟩ := hB
    rw [ht] at hP1
    obtain ⟨hP, hD⟩ := jo_r hP hD hk1 hFc hP1 hD1
    have hKm_6 := va_K.moved hvm.symm hK1
    generalize H1 = H at hP hS ⊢
    refine lv_pop hx hb dL_law_601 rfl ?_
    refine lv_goto (tgt := 1049) hx hb dL_law_602 (by decide) ?_
    refine lv_iinc (v := (nI (i + 6))) (lv' := [(4, .int (nI (i + 6))), (3, .ref (ad 104)), (2, .ref m0), (1, .ref x0), (0, .ref b)]) hx hb dL_law_1049 hl (k := 0) rfl (nI_add _ 6) (by decide) rfl (fun ls hl => ?_)
    refine lv_goto (tgt := 23) hx hb dL_law_1052 (by decide) ?_
    refine W.widen (k := 150 + 23 * (i + 6)) (n := 3000 + 300 * (i + 6)) (by omega) (by omega) ?_
    exact K _ _ _ ⟨by omega, Gx_3, Gm_6, wx_3, wm_6, tx_3, tm_6, hIx_3, (Or.inl hIm_6), (rel_l hrl hrel_3.2.1 hrel_6.2.1 hrel_3.2.2 hrel_6.2.2), hKx_3, hKm_6, hP, hD, hS, lv_sub hl [0, 1, 2, 3, 4] rfl⟩
  · skip
    have hPc := ap_r hP
    have hDc := ad_r hD
    have hKc := hKm
    have hFc := fr_O hDc hS hA
    obtain ⟨fs9, hrc⟩ := MB_rc hMI
    refine va_calli (va_runV (As := [.int v_2]) (rest := []) ⟨hx, hb, hml, hown, hts⟩ (B_turned l dC dI s.heap.size atx H.size md mk9 m0 Gm wm tm v_2 hMI ) (cwV 1 hts (gV (fun w h => id h) wd_1946 wd_1943 wd_1944 wd_1945 wd_127) rfl rfl rfl (by decide +kernel) ⟨Nat.le_of_ble_eq_true rfl, Nat.le_of_ble_eq_true rfl⟩) ⟨fun a U g mk q => by obtain ⟨q0, q1, q2, qG, qP, qK, qD⟩ := q; exact ⟨q0, q1, q2, GW.blind qG, qP, va_K.moved (u := U) (U := U.calling g mk a) (Vm.Alike.refl U.vm) qK, qD⟩, va_recv hKc hPc (ci := 14) (q0 := 0) rfl hrc, fun U hU hW => ⟨rfl, by rw [hU], Nat.le_trans hn0 hS.1, GW.go hW hU hG (fun q hq hA9 => hS.2.1 q hq (fun h => hA9 (hA0 q h))), by rw [hU]; exact hPc, va_K.moved hW.alike hKc, hDc.weaken (fun _ _ _ h => hA0 _ h)⟩⟩ rfl rfl hl.1 rfl (lv_room (Nat.le_of_ble_eq_true rfl)) dL_law_598 ⟨(by show _ ≤ (601024 : Nat); omega), (by show _ ≤ (7293034 : Nat); omega)⟩) hS (fun q _ h => hFc q h) hFc (fun r_7 u t H1 locs ht hvm hw_7 hB hz1 hk1 hS => ?_)
    subst hw_7
    obtain ⟨Gm_7, wm_7, tm_7, hIm_7, hrel_7, hP1, hK1, hD1⟩ := hB
    rw [ht] at hP1
    obtain ⟨hP, hD⟩ := jo_r hP hD hk1 hFc hP1 hD1
    have hKm_7 := va_K.moved hvm.symm hK1
    generalize H1 = H at hP hS ⊢
    refine lv_pop hx hb dL_law_601 rfl ?_
    refine lv_goto (tgt := 1049) hx hb dL_law_602 (by decide) ?_
    refine lv_iinc (v := (nI (i + 6))) (lv' := [(4, .int (nI (i + 6))), (3, .ref (ad 104)), (2, .ref m0), (1, .ref x0), (0, .ref b)]) hx hb dL_law_1049 hl (k := 0) rfl (nI_add _ 6) (by decide) rfl (fun ls hl => ?_)
    refine lv_goto (tgt := 23) hx hb dL_law_1052 (by decide) ?_
    refine W.widen (k := 150 + 23 * (i + 6)) (n := 3000 + 300 * (i + 6)) (by omega) (by omega) ?_
    exact K _ _ _ ⟨by omega, Gx_3, Gm_7, wx_3, wm_7, tx_3, tm_7, hIx_3, (Or.inr hIm_7), (rel_l hrl hrel_3.2.1 hrel_7.2.1 hrel_3.2.2 hrel_7.2.2), hKx_3, hKm_7, hP, hD, hS, lv_sub hl [0, 1, 2, 3, 4] rfl⟩
set_option maxHeartbeats 4000000 in
set_option maxRecDepth 100000 in
theorem law_13 {p : Program} {l : Launch} {e : Env} {s : State} {m : MethodId} {below : List Frame} {meth : Method} {c : Code} {dC : Nat → ClassId} {dI : Nat → Nat → Nat} {b L : Nat} {xs : Nat → Int32} (hst : l.stackTraces = false) (hL : L ≤ 3072) (C0 : lw_At p s m meth c b L xs) (atx : Nat → Nat × Nat) (hG : GW s.heap.size atx s) (ad : Nat → Nat) (ka : Nat → ClassId) (x0 : Nat) (md : Nat → Nat) (mk9 : Nat → ClassId) (m0 : Nat) (i : Nat) (hi : i + 6 ≤ L) (K : ∀ (H : Heap) (locs : List Loc) (ls : Array Slot), LV dC dI s b L ad ka x0 md mk9 m0 (i + 6) H locs ls → W p l e room_1 s m #[Value.ref b] below meth c H locs (150 + 23 * (i + 6)) (3000 + 300 * (i + 6)) (lw_Z below #[Value.ref b] s) (F0 m 23 ls [])) (H : Heap) (locs : List Loc) (ls : Array Slot) (Gx Gm : Nat → Int) (wx wm : va_W) (tx tm : List (ClassId × FieldType)) (hXI : XI ad ka x0 Gx wx tx) (hMI : MZ md mk9 m0 Gm wm tm ∨ MB md mk9 m0 Gm wm tm) (hrl : REL Gx Gm) (hKx : va_K (dC, dI) classes tx s) (hKm : va_K (dC, dI) classes tm s) (hP : va_P (dC, dI) classes (wx ++ wm) H) (hD : va_D (fun q : Nat => s.heap.size ≤ q) (wx ++ wm)) (hS : va_S (fun q : Nat => s.heap.size ≤ q) s.heap H locs) (hl : lv_has ls 7 [(4, .int (nI i)), (3, .ref (ad 104)), (2, .ref m0), (1, .ref x0), (0, .ref b)]) : W p l e room_1 s m #[Value.ref b] below meth c H locs (150 + 23 * i) (3000 + 300 * i) (lw_Z below #[Value.ref b] s) (F0 m 605 ls []) := by
  obtain ⟨hx, hb, hr, hml, hown, hts0, hX, hbl, hlocks, hgv⟩ := C0
  have hts : ∀ w ∈ wG, w.before #[Value.ref b] s = true := fun w h => hts0 w (wG_t h)
  have hA : ∀ q : Nat, s.heap.size ≤ q → (fun q : Nat => s.heap.size ≤ q) q := fun _ h => h
  have hA0 : ∀ q : Nat, (fun q : Nat => s.heap.size ≤ q) q → s.heap.size ≤ q := fun _ h => h
  have hn0 : s.heap.size ≤ s.heap.size := Nat.le_refl _
  have hbA : ¬ (fun q : Nat => s.heap.size ≤ q) b := Nat.not_le.mpr hbl
  have hrl0 := rel0 hrl
  refine lv_aload_n hx hb dL_law_605 rfl (lv_at hl 3 rfl) ?_
  refine lv_aload_n hx hb dL_law_606 rfl (lv_at hl 4 rfl) ?_
  refine lv_iload hx hb dL_law_607 (lv_at hl 0 rfl) ?_
  refine lv_iconst (v := 1) hx hb dL_law_609 (by decide) ?_
  refine lv_iadd hx hb dL_law_610 ?_
  refine lv_topi (fun v_1 ev_1 => ?_)
  obtain rfl : v_1 = nI (i + 1) := ev_1.trans (nI_add i 1)
  refine va_sld hx hb hX hbl hbA hS (vp_in_nI (n := (i + 1)) (by omega) (by omega)) dL_law_611 ?_
  refine lv_topi (fun v_2 ev_2 => ?_)
  have hPc := ap_l hP
  have hDc := ad_l hD
  have hKc := hKx
  have hFc := fr_O hDc hS hA
  obtain ⟨fs9, hrc⟩ := XI_rc hXI
  refine va_calli (va_runV (As := [.int v_2]) (rest := []) ⟨hx, hb, hml, hown, hts⟩ (X_gas l dC dI s.heap.size atx H.size ad ka x0 Gx wx tx v_2 hXI ) (cwV 1 hts (gV (fun w h => id h) wd_1090 wd_1087 wd_1088 wd_1089 wd_114) rfl rfl rfl (by decide +kernel) ⟨Nat.le_of_ble_eq_true rfl, Nat.le_of_ble_eq_true rfl⟩) ⟨fun a U g mk q => by obtain ⟨q0, q1, q2, qG, qP, qK, qD⟩ := q; exact ⟨q0, q1, q2, GW.blind qG, qP, va_K.moved (u := U) (U := U.calling g mk a) (Vm.Alike.refl U.vm) qK, qD⟩, va_recv hKc hPc (ci := 11) (q0 := 0) rfl hrc, fun U hU hW => ⟨rfl, by rw [hU], Nat.le_trans hn0 hS.1, GW.go hW hU hG (fun q hq hA9 => hS.2.1 q hq (fun h => hA9 (hA0 q h))), by rw [hU]; exact hPc, va_K.moved hW.alike hKc, hDc.weaken (fun _ _ _ h => hA0 _ h)⟩⟩ rfl rfl hl.1 rfl (lv_room (Nat.le_of_ble_eq_true rfl)) dL_law_612 ⟨(by show _ ≤ (601024 : Nat); omega), (by show _ ≤ (7293034 : Nat); omega)⟩) hS (fun q _ h => hFc q h) hFc (fun r_3 u t H1 locs ht hvm hw_3 hB hz1 hk1 hS => ?_)
  subst hw_3
  obtain ⟨Gx_3, wx_3, tx_3, hIx_3, hrel_3, hP1, hK1, hD1⟩ := hB
  rw [ht] at hP1
  obtain ⟨hP, hD⟩ := jo_l hP hD hk1 hFc hP1 hD1
  have hKx_3 := va_K.moved hvm.symm hK1
  generalize H1 = H at hP hS ⊢
  refine lv_pop hx hb dL_law_615 rfl ?_
  refine lv_aload_n hx hb dL_law_616 rfl (lv_at hl 2 rfl) ?_
  refine lv_aload_n hx hb dL_law_617 rfl (lv_at hl 4 rfl) ?_
  refine lv_iload hx hb dL_law_618 (lv_at hl 0 rfl) ?_
  refine lv_iconst (v := 1) hx hb dL_law_620 (by decide) ?_
  refine lv_iadd hx hb dL_law_621 ?_
  refine lv_topi (fun v_4 ev_4 => ?_)
  obtain rfl : v_4 = nI (i + 1) := ev_4.trans (nI_add i 1)
  refine va_sld hx hb hX hbl hbA hS (vp_in_nI (n := (i + 1)) (by omega) (by omega)) dL_law_622 ?_
  refine lv_topi (fun v_5 ev_5 => ?_)
  obtain rfl : v_2 = v_5 := (ev_5.trans ev_2.symm).symm
  rcases hMI with hMI | hMI
  · skip
    have hPc := ap_r hP
    have hDc := ad_r hD
    have hKc := hKm
    have hFc := fr_O hDc hS hA
    obtain ⟨fs9, hrc⟩ := MZ_rc hMI
    refine va_calli (va_runV (As := [.int v_2]) (rest := []) ⟨hx, hb, hml, hown, hts⟩ (Z_gas l dC dI s.heap.size atx H.size md mk9 m0 Gm wm tm v_2 hMI ) (cwV 1 hts (gV (fun w h => id h) wd_1950 wd_1947 wd_1948 wd_1949 wd_127) rfl rfl rfl (by decide +kernel) ⟨Nat.le_of_ble_eq_true rfl, Nat.le_of_ble_eq_true rfl⟩) ⟨fun a U g mk q => by obtain ⟨q0, q1, q2, qG, qP, qK, qD⟩ := q; exact ⟨q0, q1, q2, GW.blind qG, qP, va_K.moved (u := U) (U := U.calling g mk a) (Vm.Alike.refl U.vm) qK, qD⟩, va_recv hKc hPc (ci := 14) (q0 := 0) rfl hrc, fun U hU hW => ⟨rfl, by rw [hU], Nat.le_trans hn0 hS.1, GW.go hW hU hG (fun q hq hA9 => hS.2.1 q hq (fun h => hA9 (hA0 q h))), by rw [hU]; exact hPc, va_K.moved hW.alike hKc, hDc.weaken (fun _ _ _ h => hA0 _ h)⟩⟩ rfl rfl hl.1 rfl (lv_room (Nat.le_of_ble_eq_true rfl)) dL_law_623 ⟨(by show _ ≤ (601024 : Nat); omega), (by show _ ≤ (7293034 : Nat); omega)⟩) hS (fun q _ h => hFc q h) hFc (fun r_6 u t H1 locs ht hvm hw_6 hB hz1 hk1 hS => ?_)
    subst hw_6
    obtain ⟨Gm_6, wm_6, tm_6, hIm_6, hrel_6, hP1, hK1, hD1⟩ := hB
    rw [ht] at hP1
    obtain ⟨hP, hD⟩ := jo_r hP hD hk1 hFc hP1 hD1
    have hKm_6 := va_K.moved hvm.symm hK1
    generalize H1 = H at hP hS ⊢
    refine lv_pop hx hb dL_law_626 rfl ?_
    refine lv_goto (tgt := 1049) hx hb dL_law_627 (by decide) ?_
    refine lv_iinc (v := (nI (i + 6))) (lv' := [(4, .int (nI (i + 6))), (3, .ref (ad 104)), (2, .ref m0), (1, .ref x0), (0, .ref b)]) hx hb dL_law_1049 hl (k := 0) rfl (nI_add _ 6) (by decide) rfl (fun ls hl => ?_)
    refine lv_goto (tgt := 23) hx hb dL_law_1052 (by decide) ?_
    refine W.widen (k := 150 + 23 * (i + 6)) (n := 3000 + 300 * (i + 6)) (by omega) (by omega) ?_
    exact K _ _ _ ⟨by omega, Gx_3, Gm_6, wx_3, wm_6, tx_3, tm_6, hIx_3, (Or.inl hIm_6), (rel_l hrl hrel_3.2.1 hrel_6.2.1 hrel_3.2.2 hrel_6.2.2), hKx_3, hKm_6, hP, hD, hS, lv_sub hl [0, 1, 2, 3, 4] rfl⟩
  · skip
    have hPc := ap_r hP
    have hDc := ad_r hD
    have hKc := hKm
    have hFc := fr_O hDc hS hA
    obtain ⟨fs9, hrc⟩ := MB_rc hMI
    refine va_calli (va_runV (As := [.int v_2]) (rest := []) ⟨hx, hb, hml, hown, hts⟩ (B_gas l dC dI s.heap.size atx H.size md mk9 m0 Gm wm tm v_2 hMI ) (cwV 1 hts (gV (fun w h => id h) wd_1950 wd_1947 wd_1948 wd_1949 wd_127) rfl rfl rfl (by decide +kernel) ⟨Nat.le_of_ble_eq_true rfl, Nat.le_of_ble_eq_true rfl⟩) ⟨fun a U g mk q => by obtain ⟨q0, q1, q2, qG, qP, qK, qD⟩ := q; exact ⟨q0, q1, q2, GW.blind qG, qP, va_K.moved (u := U) (U := U.calling g mk a) (Vm.Alike.refl U.vm) qK, qD⟩, va_recv hKc hPc (ci := 14) (q0 := 0) rfl hrc, fun U hU hW => ⟨rfl, by rw [hU], Nat.le_trans hn0 hS.1, GW.go hW hU hG (fun q hq hA9 => hS.2.1 q hq (fun h => hA9 (hA0 q h))), by rw [hU]; exact hPc, va_K.moved hW.alike hKc, hDc.weaken (fun _ _ _ h => hA0 _ h)⟩⟩ rfl rfl hl.1 rfl (lv_room (Nat.le_of_ble_eq_true rfl)) dL_law_623 ⟨(by show _ ≤ (601024 : Nat); omega), (by show _ ≤ (7293034 : Nat); omega)⟩) hS (fun q _ h => hFc q h) hFc (fun r_7 u t H1 locs ht hvm hw_7 hB hz1 hk1 hS => ?_)
    subst hw_7
    obtain ⟨Gm_7, wm_7, tm_7, hIm_7, hrel_7, hP1, hK1, hD1⟩ := hB
    rw [ht] at hP1
    obtain ⟨hP, hD⟩ := jo_r hP hD hk1 hFc hP1 hD1
    have hKm_7 := va_K.moved hvm.symm hK1
    generalize H1 = H at hP hS ⊢
    refine lv_pop hx hb dL_law_626 rfl ?_
    refine lv_goto (tgt := 1049) hx hb dL_law_627 (by decide) ?_
    refine lv_iinc (v := (nI (i + 6))) (lv' := [(4, .int (nI (i + 6))), (3, .ref (ad 104)), (2, .ref m0), (1, .ref x0), (0, .ref b)]) hx hb dL_law_1049 hl (k := 0) rfl (nI_add _ 6) (by decide) rfl (fun ls hl => ?_)
    refine lv_goto (tgt := 23) hx hb dL_law_1052 (by decide) ?_
    refine W.widen (k := 150 + 23 * (i + 6)) (n := 3000 + 300 * (i + 6)) (by omega) (by omega) ?_
    exact K _ _ _ ⟨by omega, Gx_3, Gm_7, wx_3, wm_7, tx_3, tm_7, hIx_3, (Or.inr hIm_7), (rel_l hrl hrel_3.2.1 hrel_7.2.1 hrel_3.2.2 hrel_7.2.2), hKx_3, hKm_7, hP, hD, hS, lv_sub hl [0, 1, 2, 3, 4] rfl⟩
set_option maxHeartbeats 4000000 in
set_option maxRecDepth 100000 in
theorem law_14 {p : Program} {l : Launch} {e : Env} {s : State} {m : MethodId} {below : List Frame} {meth : Method} {c : Code} {dC : Nat → ClassId} {dI : Nat → Nat → Nat} {b L : Nat} {xs : Nat → Int32} (hst : l.stackTraces = false) (hL : L ≤ 3072) (C0 : lw_At p s m meth c b L xs) (atx : Nat → Nat × Nat) (hG : GW s.heap.size atx s) (ad : Nat → Nat) (ka : Nat → ClassId) (x0 : Nat) (md : Nat → Nat) (mk9 : Nat → ClassId) (m0 : Nat) (i : Nat) (hi : i + 6 ≤ L) (K : ∀ (H : Heap) (locs : List Loc) (ls : Array Slot), LV dC dI s b L ad ka x0 md mk9 m0 (i + 6) H locs ls → W p l e room_1 s m #[Value.ref b] below meth c H locs (150 + 23 * (i + 6)) (3000 + 300 * (i + 6)) (lw_Z below #[Value.ref b] s) (F0 m 23 ls [])) (H : Heap) (locs : List Loc) (ls : Array Slot) (Gx Gm : Nat → Int) (wx wm : va_W) (tx tm : List (ClassId × FieldType)) (hXI : XI ad ka x0 Gx wx tx) (hMI : MZ md mk9 m0 Gm wm tm ∨ MB md mk9 m0 Gm wm tm) (hrl : REL Gx Gm) (hKx : va_K (dC, dI) classes tx s) (hKm : va_K (dC, dI) classes tm s) (hP : va_P (dC, dI) classes (wx ++ wm) H) (hD : va_D (fun q : Nat => s.heap.size ≤ q) (wx ++ wm)) (hS : va_S (fun q : Nat => s.heap.size ≤ q) s.heap H locs) (hl : lv_has ls 7 [(4, .int (nI i)), (3, .ref (ad 104)), (2, .ref m0), (1, .ref x0), (0, .ref b)]) : W p l e room_1 s m #[Value.ref b] below meth c H locs (150 + 23 * i) (3000 + 300 * i) (lw_Z below #[Value.ref b] s) (F0 m 630 ls []) := by
  obtain ⟨hx, hb, hr, hml, hown, hts0, hX, hbl, hlocks, hgv⟩ := C0
  have hts : ∀ w ∈ wG, w.before #[Value.ref b] s = true := fun w h => hts0 w (wG_t h)
  have hA : ∀ q : Nat, s.heap.size ≤ q → (fun q : Nat => s.heap.size ≤ q) q := fun _ h => h
  have hA0 : ∀ q : Nat, (fun q : Nat => s.heap.size ≤ q) q → s.heap.size ≤ q := fun _ h => h
  have hn0 : s.heap.size ≤ s.heap.size := Nat.le_refl _
  have hbA : ¬ (fun q : Nat => s.heap.size ≤ q) b := Nat.not_le.mpr hbl
  have hrl0 := rel0 hrl
  refine lv_aload_n hx hb dL_law_630 rfl (lv_at hl 3 rfl) ?_
  refine lv_aload_n hx hb dL_law_631 rfl (lv_at hl 4 rfl) ?_
  refine lv_iload hx hb dL_law_632 (lv_at hl 0 rfl) ?_
  refine lv_iconst (v := 1) hx hb dL_law_634 (by decide) ?_
  refine lv_iadd hx hb dL_law_635 ?_
  refine lv_topi (fun v_1 ev_1 => ?_)
  obtain rfl : v_1 = nI (i + 1) := ev_1.trans (nI_add i 1)
  refine va_sld hx hb hX hbl hbA hS (vp_in_nI (n := (i + 1)) (by omega) (by omega)) dL_law_636 ?_
  refine lv_topi (fun v_2 ev_2 => ?_)
  have hPc := ap_l hP
  have hDc := ad_l hD
  have hKc := hKx
  have hFc := fr_O hDc hS hA
  obtain ⟨fs9, hrc⟩ := XI_rc hXI
  refine va_calli (va_runV (As := [.int v_2]) (rest := []) ⟨hx, hb, hml, hown, hts⟩ (X_thick l dC dI s.heap.size atx H.size ad ka x0 Gx wx tx v_2 hXI ) (cwV 1 hts (gV (fun w h => id h) wd_1135 wd_1132 wd_1133 wd_1134 wd_114) rfl rfl rfl (by decide +kernel) ⟨Nat.le_of_ble_eq_true rfl, Nat.le_of_ble_eq_true rfl⟩) ⟨fun a U g mk q => by obtain ⟨q0, q1, q2, qG, qP, qK, qD⟩ := q; exact ⟨q0, q1, q2, GW.blind qG, qP, va_K.moved (u := U) (U := U.calling g mk a) (Vm.Alike.refl U.vm) qK, qD⟩, va_recv hKc hPc (ci := 11) (q0 := 0) rfl hrc, fun U hU hW => ⟨rfl, by rw [hU], Nat.le_trans hn0 hS.1, GW.go hW hU hG (fun q hq hA9 => hS.2.1 q hq (fun h => hA9 (hA0 q h))), by rw [hU]; exact hPc, va_K.moved hW.alike hKc, hDc.weaken (fun _ _ _ h => hA0 _ h)⟩⟩ rfl rfl hl.1 rfl (lv_room (Nat.le_of_ble_eq_true rfl)) dL_law_637 ⟨(by show _ ≤ (601024 : Nat); omega), (by show _ ≤ (7293034 : Nat); omega)⟩) hS (fun q _ h => hFc q h) hFc (fun r_3 u t H1 locs ht hvm hw_3 hB hz1 hk1 hS => ?_)
  subst hw_3
  obtain ⟨Gx_3, wx_3, tx_3, hIx_3, hrel_3, hP1, hK1, hD1⟩ := hB
  rw [ht] at hP1
  obtain ⟨hP, hD⟩ := jo_l hP hD hk1 hFc hP1 hD1
  have hKx_3 := va_K.moved hvm.symm hK1
  generalize H1 = H at hP hS ⊢
  refine lv_pop hx hb dL_law_640 rfl ?_
  refine lv_aload_n hx hb dL_law_641 rfl (lv_at hl 2 rfl) ?_
  refine lv_aload_n hx hb dL_law_642 rfl (lv_at hl 4 rfl) ?_
  refine lv_iload hx hb dL_law_643 (lv_at hl 0 rfl) ?_
  refine lv_iconst (v := 1) hx hb dL_law_645 (by decide) ?_
  refine lv_iadd hx hb dL_law_646 ?_
  refine lv_topi (fun v_4 ev_4 => ?_)
  obtain rfl : v_4 = nI (i + 1) := ev_4.trans (nI_add i 1)
  refine va_sld hx hb hX hbl hbA hS (vp_in_nI (n := (i + 1)) (by omega) (by omega)) dL_law_647 ?_
  refine lv_topi (fun v_5 ev_5 => ?_)
  obtain rfl : v_2 = v_5 := (ev_5.trans ev_2.symm).symm
  rcases hMI with hMI | hMI
  · skip
    have hPc := ap_r hP
    have hDc := ad_r hD
    have hKc := hKm
    have hFc := fr_O hDc hS hA
    obtain ⟨fs9, hrc⟩ := MZ_rc hMI
    refine va_calli (va_runV (As := [.int v_2]) (rest := []) ⟨hx, hb, hml, hown, hts⟩ (Z_thick l dC dI s.heap.size atx H.size md mk9 m0 Gm wm tm v_2 hMI ) (cwV 1 hts (gV (fun w h => id h) wd_1986 wd_1983 wd_1984 wd_1985 wd_127) rfl rfl rfl (by decide +kernel) ⟨Nat.le_of_ble_eq_true rfl, Nat.le_of_ble_eq_true rfl⟩) ⟨fun a U g mk q => by obtain ⟨q0, q1, q2, qG, qP, qK, qD⟩ := q; exact ⟨q0, q1, q2, GW.blind qG, qP, va_K.moved (u := U) (U := U.calling g mk a) (Vm.Alike.refl U.vm) qK, qD⟩, va_recv hKc hPc (ci := 14) (q0 := 0) rfl hrc, fun U hU hW => ⟨rfl, by rw [hU], Nat.le_trans hn0 hS.1, GW.go hW hU hG (fun q hq hA9 => hS.2.1 q hq (fun h => hA9 (hA0 q h))), by rw [hU]; exact hPc, va_K.moved hW.alike hKc, hDc.weaken (fun _ _ _ h => hA0 _ h)⟩⟩ rfl rfl hl.1 rfl (lv_room (Nat.le_of_ble_eq_true rfl)) dL_law_648 ⟨(by show _ ≤ (601024 : Nat); omega), (by show _ ≤ (7293034 : Nat); omega)⟩) hS (fun q _ h => hFc q h) hFc (fun r_6 u t H1 locs ht hvm hw_6 hB hz1 hk1 hS => ?_)
    subst hw_6
    obtain ⟨Gm_6, wm_6, tm_6, hIm_6, hrel_6, hP1, hK1, hD1⟩ := hB
    rw [ht] at hP1
    obtain ⟨hP, hD⟩ := jo_r hP hD hk1 hFc hP1 hD1
    have hKm_6 := va_K.moved hvm.symm hK1
    generalize H1 = H at hP hS ⊢
    refine lv_pop hx hb dL_law_651 rfl ?_
    refine lv_goto (tgt := 1049) hx hb dL_law_652 (by decide) ?_
    refine lv_iinc (v := (nI (i + 6))) (lv' := [(4, .int (nI (i + 6))), (3, .ref (ad 104)), (2, .ref m0), (1, .ref x0), (0, .ref b)]) hx hb dL_law_1049 hl (k := 0) rfl (nI_add _ 6) (by decide) rfl (fun ls hl => ?_)
    refine lv_goto (tgt := 23) hx hb dL_law_1052 (by decide) ?_
    refine W.widen (k := 150 + 23 * (i + 6)) (n := 3000 + 300 * (i + 6)) (by omega) (by omega) ?_
    exact K _ _ _ ⟨by omega, Gx_3, Gm_6, wx_3, wm_6, tx_3, tm_6, hIx_3, (Or.inl hIm_6), (rel_l hrl hrel_3.2.1 hrel_6.2.1 hrel_3.2.2 hrel_6.2.2), hKx_3, hKm_6, hP, hD, hS, lv_sub hl [0, 1, 2, 3, 4] rfl⟩
  · skip
    have hPc := ap_r hP
    have hDc := ad_r hD
    have hKc := hKm
    have hFc := fr_O hDc hS hA
    obtain ⟨fs9, hrc⟩ := MB_rc hMI
    refine va_calli (va_runV (As := [.int v_2]) (rest := []) ⟨hx, hb, hml, hown, hts⟩ (B_thick l dC dI s.heap.size atx H.size md mk9 m0 Gm wm tm v_2 hMI ) (cwV 1 hts (gV (fun w h => id h) wd_1986 wd_1983 wd_1984 wd_1985 wd_127) rfl rfl rfl (by decide +kernel) ⟨Nat.le_of_ble_eq_true rfl, Nat.le_of_ble_eq_true rfl⟩) ⟨fun a U g mk q => by obtain ⟨q0, q1, q2, qG, qP, qK, qD⟩ := q; exact ⟨q0, q1, q2, GW.blind qG, qP, va_K.moved (u := U) (U := U.calling g mk a) (Vm.Alike.refl U.vm) qK, qD⟩, va_recv hKc hPc (ci := 14) (q0 := 0) rfl hrc, fun U hU hW => ⟨rfl, by rw [hU], Nat.le_trans hn0 hS.1, GW.go hW hU hG (fun q hq hA9 => hS.2.1 q hq (fun h => hA9 (hA0 q h))), by rw [hU]; exact hPc, va_K.moved hW.alike hKc, hDc.weaken (fun _ _ _ h => hA0 _ h)⟩⟩ rfl rfl hl.1 rfl (lv_room (Nat.le_of_ble_eq_true rfl)) dL_law_648 ⟨(by show _ ≤ (601024 : Nat); omega), (by show _ ≤ (7293034 : Nat); omega)⟩) hS (fun q _ h => hFc q h) hFc (fun r_7 u t H1 locs ht hvm hw_7 hB hz1 hk1 hS => ?_)
    subst hw_7
    obtain ⟨Gm_7, wm_7, tm_7, hIm_7, hrel_7, hP1, hK1, hD1⟩ := hB
    rw [ht] at hP1
    obtain ⟨hP, hD⟩ := jo_r hP hD hk1 hFc hP1 hD1
    have hKm_7 := va_K.moved hvm.symm hK1
    generalize H1 = H at hP hS ⊢
    refine lv_pop hx hb dL_law_651 rfl ?_
    refine lv_goto (tgt := 1049) hx hb dL_law_652 (by decide) ?_
    refine lv_iinc (v := (nI (i + 6))) (lv' := [(4, .int (nI (i + 6))), (3, .ref (ad 104)), (2, .ref m0), (1, .ref x0), (0, .ref b)]) hx hb dL_law_1049 hl (k := 0) rfl (nI_add _ 6) (by decide) rfl (fun ls hl => ?_)
    refine lv_goto (tgt := 23) hx hb dL_law_1052 (by decide) ?_
    refine W.widen (k := 150 + 23 * (i + 6)) (n := 3000 + 300 * (i + 6)) (by omega) (by omega) ?_
    exact K _ _ _ ⟨by omega, Gx_3, Gm_7, wx_3, wm_7, tx_3, tm_7, hIx_3, (Or.inr hIm_7), (rel_l hrl hrel_3.2.1 hrel_7.2.1 hrel_3.2.2 hrel_7.2.2), hKx_3, hKm_7, hP, hD, hS, lv_sub hl [0, 1, 2, 3, 4] rfl⟩
set_option maxHeartbeats 4000000 in
set_option maxRecDepth 100000 in
theorem law_15 {p : Program} {l : Launch} {e : Env} {s : State} {m : MethodId} {below : List Frame} {meth : Method} {c : Code} {dC : Nat → ClassId} {dI : Nat → Nat → Nat} {b L : Nat} {xs : Nat → Int32} (hst : l.stackTraces = false) (hL : L ≤ 3072) (C0 : lw_At p s m meth c b L xs) (atx : Nat → Nat × Nat) (hG : GW s.heap.size atx s) (ad : Nat → Nat) (ka : Nat → ClassId) (x0 : Nat) (md : Nat → Nat) (mk9 : Nat → ClassId) (m0 : Nat) (i : Nat) (hi : i + 6 ≤ L) (K : ∀ (H : Heap) (locs : List Loc) (ls : Array Slot), LV dC dI s b L ad ka x0 md mk9 m0 (i + 6) H locs ls → W p l e room_1 s m #[Value.ref b] below meth c H locs (150 + 23 * (i + 6)) (3000 + 300 * (i + 6)) (lw_Z below #[Value.ref b] s) (F0 m 23 ls [])) (H : Heap) (locs : List Loc) (ls : Array Slot) (Gx Gm : Nat → Int) (wx wm : va_W) (tx tm : List (ClassId × FieldType)) (hXI : XI ad ka x0 Gx wx tx) (hMI : MZ md mk9 m0 Gm wm tm ∨ MB md mk9 m0 Gm wm tm) (hrl : REL Gx Gm) (hKx : va_K (dC, dI) classes tx s) (hKm : va_K (dC, dI) classes tm s) (hP : va_P (dC, dI) classes (wx ++ wm) H) (hD : va_D (fun q : Nat => s.heap.size ≤ q) (wx ++ wm)) (hS : va_S (fun q : Nat => s.heap.size ≤ q) s.heap H locs) (hl : lv_has ls 7 [(4, .int (nI i)), (3, .ref (ad 104)), (2, .ref m0), (1, .ref x0), (0, .ref b)]) : W p l e room_1 s m #[Value.ref b] below meth c H locs (150 + 23 * i) (3000 + 300 * i) (lw_Z below #[Value.ref b] s) (F0 m 655 ls []) := by
  obtain ⟨hx, hb, hr, hml, hown, hts0, hX, hbl, hlocks, hgv⟩ := C0
  have hts : ∀ w ∈ wG, w.before #[Value.ref b] s = true := fun w h => hts0 w (wG_t h)
  have hA : ∀ q : Nat, s.heap.size ≤ q → (fun q : Nat => s.heap.size ≤ q) q := fun _ h => h
  have hA0 : ∀ q : Nat, (fun q : Nat => s.heap.size ≤ q) q → s.heap.size ≤ q := fun _ h => h
  have hn0 : s.heap.size ≤ s.heap.size := Nat.le_refl _
  have hbA : ¬ (fun q : Nat => s.heap.size ≤ q) b := Nat.not_le.mpr hbl
  have hrl0 := rel0 hrl
  refine lv_aload_n hx hb dL_law_655 rfl (lv_at hl 3 rfl) ?_
  have hPc := ap_l hP
  have hDc := ad_l hD
  have hKc := hKx
  have hFc := fr_O hDc hS hA
  obtain ⟨fs9, hrc⟩ := XI_rc hXI
  refine va_calli (va_runV (As := []) (rest := []) ⟨hx, hb, hml, hown, hts⟩ (X_over l dC dI s.heap.size atx H.size ad ka x0 Gx wx tx  hXI ) (cwV 0 hts (gV (fun w h => id h) wd_1144 wd_1141 wd_1142 wd_1143 wd_114) rfl rfl rfl (by decide +kernel) ⟨Nat.le_of_ble_eq_true rfl, Nat.le_of_ble_eq_true rfl⟩) ⟨fun a U g mk q => by obtain ⟨q0, q1, q2, qG, qP, qK, qD⟩ := q; exact ⟨q0, q1, q2, GW.blind qG, qP, va_K.moved (u := U) (U := U.calling g mk a) (Vm.Alike.refl U.vm) qK, qD⟩, va_recv hKc hPc (ci := 11) (q0 := 0) rfl hrc, fun U hU hW => ⟨rfl, by rw [hU], Nat.le_trans hn0 hS.1, GW.go hW hU hG (fun q hq hA9 => hS.2.1 q hq (fun h => hA9 (hA0 q h))), by rw [hU]; exact hPc, va_K.moved hW.alike hKc, hDc.weaken (fun _ _ _ h => hA0 _ h)⟩⟩ rfl rfl hl.1 rfl (lv_room (Nat.le_of_ble_eq_true rfl)) dL_law_656 ⟨(by show _ ≤ (601024 : Nat); omega), (by show _ ≤ (7293034 : Nat); omega)⟩) hS (fun q _ h => hFc q h) hFc (fun r_1 u t H1 locs ht hvm hw_1 hB hz1 hk1 hS => ?_)
  subst hw_1
  obtain ⟨Gx_1, wx_1, tx_1, hIx_1, hrel_1, hP1, hK1, hD1⟩ := hB
  rw [ht] at hP1
  obtain ⟨hP, hD⟩ := jo_l hP hD hk1 hFc hP1 hD1
  have hKx_1 := va_K.moved hvm.symm hK1
  generalize H1 = H at hP hS ⊢
  refine lv_pop hx hb dL_law_659 rfl ?_
  refine lv_aload_n hx hb dL_law_660 rfl (lv_at hl 2 rfl) ?_
  rcases hMI with hMI | hMI
  · skip
    have hPc := ap_r hP
    have hDc := ad_r hD
    have hKc := hKm
    have hFc := fr_O hDc hS hA
    obtain ⟨fs9, hrc⟩ := MZ_rc hMI
    refine va_calli (va_runV (As := []) (rest := []) ⟨hx, hb, hml, hown, hts⟩ (Z_over l dC dI s.heap.size atx H.size md mk9 m0 Gm wm tm  hMI ) (cwV 0 hts (gV (fun w h => id h) wd_1994 wd_1991 wd_1992 wd_1993 wd_127) rfl rfl rfl (by decide +kernel) ⟨Nat.le_of_ble_eq_true rfl, Nat.le_of_ble_eq_true rfl⟩) ⟨fun a U g mk q => by obtain ⟨q0, q1, q2, qG, qP, qK, qD⟩ := q; exact ⟨q0, q1, q2, GW.blind qG, qP, va_K.moved (u := U) (U := U.calling g mk a) (Vm.Alike.refl U.vm) qK, qD⟩, va_recv hKc hPc (ci := 14) (q0 := 0) rfl hrc, fun U hU hW => ⟨rfl, by rw [hU], Nat.le_trans hn0 hS.1, GW.go hW hU hG (fun q hq hA9 => hS.2.1 q hq (fun h => hA9 (hA0 q h))), by rw [hU]; exact hPc, va_K.moved hW.alike hKc, hDc.weaken (fun _ _ _ h => hA0 _ h)⟩⟩ rfl rfl hl.1 rfl (lv_room (Nat.le_of_ble_eq_true rfl)) dL_law_661 ⟨(by show _ ≤ (601024 : Nat); omega), (by show _ ≤ (7293034 : Nat); omega)⟩) hS (fun q _ h => hFc q h) hFc (fun r_2 u t H1 locs ht hvm hw_2 hB hz1 hk1 hS => ?_)
    subst hw_2
    obtain ⟨Gm_2, wm_2, tm_2, hIm_2, hrel_2, hP1, hK1, hD1⟩ := hB
    rw [ht] at hP1
    obtain ⟨hP, hD⟩ := jo_r hP hD hk1 hFc hP1 hD1
    have hKm_2 := va_K.moved hvm.symm hK1
    generalize H1 = H at hP hS ⊢
    refine lv_pop hx hb dL_law_664 rfl ?_
    refine lv_goto (tgt := 1049) hx hb dL_law_665 (by decide) ?_
    refine lv_iinc (v := (nI (i + 6))) (lv' := [(4, .int (nI (i + 6))), (3, .ref (ad 104)), (2, .ref m0), (1, .ref x0), (0, .ref b)]) hx hb dL_law_1049 hl (k := 0) rfl (nI_add _ 6) (by decide) rfl (fun ls hl => ?_)
    refine lv_goto (tgt := 23) hx hb dL_law_1052 (by decide) ?_
    refine W.widen (k := 150 + 23 * (i + 6)) (n := 3000 + 300 * (i + 6)) (by omega) (by omega) ?_
    exact K _ _ _ ⟨by omega, Gx_1, Gm_2, wx_1, wm_2, tx_1, tm_2, hIx_1, (Or.inl hIm_2), (rel_l hrl hrel_1.2.1 hrel_2.2.1 hrel_1.2.2 hrel_2.2.2), hKx_1, hKm_2, hP, hD, hS, lv_sub hl [0, 1, 2, 3, 4] rfl⟩
  · skip
    have hPc := ap_r hP
    have hDc := ad_r hD
    have hKc := hKm
    have hFc := fr_O hDc hS hA
    obtain ⟨fs9, hrc⟩ := MB_rc hMI
    refine va_calli (va_runV (As := []) (rest := []) ⟨hx, hb, hml, hown, hts⟩ (B_over l dC dI s.heap.size atx H.size md mk9 m0 Gm wm tm  hMI ) (cwV 0 hts (gV (fun w h => id h) wd_1994 wd_1991 wd_1992 wd_1993 wd_127) rfl rfl rfl (by decide +kernel) ⟨Nat.le_of_ble_eq_true rfl, Nat.le_of_ble_eq_true rfl⟩) ⟨fun a U g mk q => by obtain ⟨q0, q1, q2, qG, qP, qK, qD⟩ := q; exact ⟨q0, q1, q2, GW.blind qG, qP, va_K.moved (u := U) (U := U.calling g mk a) (Vm.Alike.refl U.vm) qK, qD⟩, va_recv hKc hPc (ci := 14) (q0 := 0) rfl hrc, fun U hU hW => ⟨rfl, by rw [hU], Nat.le_trans hn0 hS.1, GW.go hW hU hG (fun q hq hA9 => hS.2.1 q hq (fun h => hA9 (hA0 q h))), by rw [hU]; exact hPc, va_K.moved hW.alike hKc, hDc.weaken (fun _ _ _ h => hA0 _ h)⟩⟩ rfl rfl hl.1 rfl (lv_room (Nat.le_of_ble_eq_true rfl)) dL_law_661 ⟨(by show _ ≤ (601024 : Nat); omega), (by show _ ≤ (7293034 : Nat); omega)⟩) hS (fun q _ h => hFc q h) hFc (fun r_3 u t H1 locs ht hvm hw_3 hB hz1 hk1 hS => ?_)
    subst hw_3
    obtain ⟨Gm_3, wm_3, tm_3, hIm_3, hrel_3, hP1, hK1, hD1⟩ := hB
    rw [ht] at hP1
    obtain ⟨hP, hD⟩ := jo_r hP hD hk1 hFc hP1 hD1
    have hKm_3 := va_K.moved hvm.symm hK1
    generalize H1 = H at hP hS ⊢
    refine lv_pop hx hb dL_law_664 rfl ?_
    refine lv_goto (tgt := 1049) hx hb dL_law_665 (by decide) ?_
    refine lv_iinc (v := (nI (i + 6))) (lv' := [(4, .int (nI (i + 6))), (3, .ref (ad 104)), (2, .ref m0), (1, .ref x0), (0, .ref b)]) hx hb dL_law_1049 hl (k := 0) rfl (nI_add _ 6) (by decide) rfl (fun ls hl => ?_)
    refine lv_goto (tgt := 23) hx hb dL_law_1052 (by decide) ?_
    refine W.widen (k := 150 + 23 * (i + 6)) (n := 3000 + 300 * (i + 6)) (by omega) (by omega) ?_
    exact K _ _ _ ⟨by omega, Gx_1, Gm_3, wx_1, wm_3, tx_1, tm_3, hIx_1, (Or.inr hIm_3), (rel_l hrl hrel_1.2.1 hrel_3.2.1 hrel_1.2.2 hrel_3.2.2), hKx_1, hKm_3, hP, hD, hS, lv_sub hl [0, 1, 2, 3, 4] rfl⟩
set_option maxHeartbeats 4000000 in
set_option maxRecDepth 100000 in
theorem law_16 {p : Program} {l : Launch} {e : Env} {s : State} {m : MethodId} {below : List Frame} {meth : Method} {c : Code} {dC : Nat → ClassId} {dI : Nat → Nat → Nat} {b L : Nat} {xs : Nat → Int32} (hst : l.stackTraces = false) (hL : L ≤ 3072) (C0 : lw_At p s m meth c b L xs) (atx : Nat → Nat × Nat) (hG : GW s.heap.size atx s) (ad : Nat → Nat) (ka : Nat → ClassId) (x0 : Nat) (md : Nat → Nat) (mk9 : Nat → ClassId) (m0 : Nat) (i : Nat) (hi : i + 6 ≤ L) (K : ∀ (H : Heap) (locs : List Loc) (ls : Array Slot), LV dC dI s b L ad ka x0 md mk9 m0 (i + 6) H locs ls → W p l e room_1 s m #[Value.ref b] below meth c H locs (150 + 23 * (i + 6)) (3000 + 300 * (i + 6)) (lw_Z below #[Value.ref b] s) (F0 m 23 ls [])) (H : Heap) (locs : List Loc) (ls : Array Slot) (Gx Gm : Nat → Int) (wx wm : va_W) (tx tm : List (ClassId × FieldType)) (hXI : XI ad ka x0 Gx wx tx) (hMI : MZ md mk9 m0 Gm wm tm ∨ MB md mk9 m0 Gm wm tm) (hrl : REL Gx Gm) (hKx : va_K (dC, dI) classes tx s) (hKm : va_K (dC, dI) classes tm s) (hP : va_P (dC, dI) classes (wx ++ wm) H) (hD : va_D (fun q : Nat => s.heap.size ≤ q) (wx ++ wm)) (hS : va_S (fun q : Nat => s.heap.size ≤ q) s.heap H locs) (hl : lv_has ls 7 [(4, .int (nI i)), (3, .ref (ad 104)), (2, .ref m0), (1, .ref x0), (0, .ref b)]) : W p l e room_1 s m #[Value.ref b] below meth c H locs (150 + 23 * i) (3000 + 300 * i) (lw_Z below #[Value.ref b] s) (F0 m 668 ls []) := by
  obtain ⟨hx, hb, hr, hml, hown, hts0, hX, hbl, hlocks, hgv⟩ := C0
  have hts : ∀ w ∈ wG, w.before #[Value.ref b] s = true := fun w h => hts0 w (wG_t h)
  have hA : ∀ q : Nat, s.heap.size ≤ q → (fun q : Nat => s.heap.size ≤ q) q := fun _ h => h
  have hA0 : ∀ q : Nat, (fun q : Nat => s.heap.size ≤ q) q → s.heap.size ≤ q := fun _ h => h
  have hn0 : s.heap.size ≤ s.heap.size := Nat.le_refl _
  have hbA : ¬ (fun q : Nat => s.heap.size ≤ q) b := Nat.not_le.mpr hbl
  have hrl0 := rel0 hrl
  refine lv_aload_n hx hb dL_law_668 rfl (lv_at hl 3 rfl) ?_
  have hPc := ap_l hP
  have hDc := ad_l hD
  have hKc := hKx
  have hFc := fr_O hDc hS hA
  obtain ⟨fs9, hrc⟩ := XI_rc hXI
  refine va_calli (va_runV (As := []) (rest := []) ⟨hx, hb, hml, hown, hts⟩ (X_sound l dC dI s.heap.size atx H.size ad ka x0 Gx wx tx  hXI ) (cwV 0 hts (gV (fun w h => id h) wd_1153 wd_1150 wd_1151 wd_1152 wd_114) rfl rfl rfl (by decide +kernel) ⟨Nat.le_of_ble_eq_true rfl, Nat.le_of_ble_eq_true rfl⟩) ⟨fun a U g mk q => by obtain ⟨q0, q1, q2, qG, qP, qK, qD⟩ := q; exact ⟨q0, q1, q2, GW.blind qG, qP, va_K.moved (u := U) (U := U.calling g mk a) (Vm.Alike.refl U.vm) qK, qD⟩, va_recv hKc hPc (ci := 11) (q0 := 0) rfl hrc, fun U hU hW => ⟨rfl, by rw [hU], Nat.le_trans hn0 hS.1, GW.go hW hU hG (fun q hq hA9 => hS.2.1 q hq (fun h => hA9 (hA0 q h))), by rw [hU]; exact hPc, va_K.moved hW.alike hKc, hDc.weaken (fun _ _ _ h => hA0 _ h)⟩⟩ rfl rfl hl.1 rfl (lv_room (Nat.le_of_ble_eq_true rfl)) dL_law_669 ⟨(by show _ ≤ (601024 : Nat); omega), (by show _ ≤ (7293034 : Nat); omega)⟩) hS (fun q _ h => hFc q h) hFc (fun r_1 u t H1 locs ht hvm hw_1 hB hz1 hk1 hS => ?_)
  subst hw_1
  obtain ⟨Gx_1, wx_1, tx_1, hIx_1, hrel_1, hP1, hK1, hD1⟩ := hB
  rw [ht] at hP1
  obtain ⟨hP, hD⟩ := jo_l hP hD hk1 hFc hP1 hD1
  have hKx_1 := va_K.moved hvm.symm hK1
  generalize H1 = H at hP hS ⊢
  refine lv_pop hx hb dL_law_672 rfl ?_
  refine lv_aload_n hx hb dL_law_673 rfl (lv_at hl 2 rfl) ?_
  rcases hMI with hMI | hMI
  · skip
    have hPc := ap_r hP
    have hDc := ad_r hD
    have hKc := hKm
    have hFc := fr_O hDc hS hA
    obtain ⟨fs9, hrc⟩ := MZ_rc hMI
    refine va_calli (va_runV (As := []) (rest := []) ⟨hx, hb, hml, hown, hts⟩ (Z_sound l dC dI s.heap.size atx H.size md mk9 m0 Gm wm tm  hMI ) (cwV 0 hts (gV (fun w h => id h) wd_2002 wd_1999 wd_2000 wd_2001 wd_127) rfl rfl rfl (by decide +kernel) ⟨Nat.le_of_ble_eq_true rfl, Nat.le_of_ble_eq_true rfl⟩) ⟨fun a U g mk q => by obtain ⟨q0, q1, q2, qG, qP, qK, qD⟩ := q; exact ⟨q0, q1, q2, GW.blind qG, qP, va_K.moved (u := U) (U := U.calling g mk a) (Vm.Alike.refl U.vm) qK, qD⟩, va_recv hKc hPc (ci := 14) (q0 := 0) rfl hrc, fun U hU hW => ⟨rfl, by rw [hU], Nat.le_trans hn0 hS.1, GW.go hW hU hG (fun q hq hA9 => hS.2.1 q hq (fun h => hA9 (hA0 q h))), by rw [hU]; exact hPc, va_K.moved hW.alike hKc, hDc.weaken (fun _ _ _ h => hA0 _ h)⟩⟩ rfl rfl hl.1 rfl (lv_room (Nat.le_of_ble_eq_true rfl)) dL_law_674 ⟨(by show _ ≤ (601024 : Nat); omega), (by show _ ≤ (7293034 : Nat); omega)⟩) hS (fun q _ h => hFc q h) hFc (fun r_2 u t H1 locs ht hvm hw_2 hB hz1 hk1 hS => ?_)
    subst hw_2
    obtain ⟨Gm_2, wm_2, tm_2, hIm_2, hrel_2, hP1, hK1, hD1⟩ := hB
    rw [ht] at hP1
    obtain ⟨hP, hD⟩ := jo_r hP hD hk1 hFc hP1 hD1
    have hKm_2 := va_K.moved hvm.symm hK1
    generalize H1 = H at hP hS ⊢
    refine lv_pop hx hb dL_law_677 rfl ?_
    refine lv_goto (tgt := 1049) hx hb dL_law_678 (by decide) ?_
    refine lv_iinc (v := (nI (i + 6))) (lv' := [(4, .int (nI (i + 6))), (3, .ref (ad 104)), (2, .ref m0), (1, .ref x0), (0, .ref b)]) hx hb dL_law_1049 hl (k := 0) rfl (nI_add _ 6) (by decide) rfl (fun ls hl => ?_)
    refine lv_goto (tgt := 23) hx hb dL_law_1052 (by decide) ?_
    refine W.widen (k := 150 + 23 * (i + 6)) (n := 3000 + 300 * (i + 6)) (by omega) (by omega) ?_
    exact K _ _ _ ⟨by omega, Gx_1, Gm_2, wx_1, wm_2, tx_1, tm_2, hIx_1, (Or.inl hIm_2), (rel_l hrl hrel_1.2.1 hrel_2.2.1 hrel_1.2.2 hrel_2.2.2), hKx_1, hKm_2, hP, hD, hS, lv_sub hl [0, 1, 2, 3, 4] rfl⟩
  · skip
    have hPc := ap_r hP
    have hDc := ad_r hD
    have hKc := hKm
    have hFc := fr_O hDc hS hA
    obtain ⟨fs9, hrc⟩ := MB_rc hMI
    refine va_calli (va_runV (As := []) (rest := []) ⟨hx, hb, hml, hown, hts⟩ (B_sound l dC dI s.heap.size atx H.size md mk9 m0 Gm wm tm  hMI ) (cwV 0 hts (gV (fun w h => id h) wd_2002 wd_1999 wd_2000 wd_2001 wd_127) rfl rfl rfl (by decide +kernel) ⟨Nat.le_of_ble_eq_true rfl, Nat.le_of_ble_eq_true rfl⟩) ⟨fun a U g mk q => by obtain ⟨q0, q1, q2, qG, qP, qK, qD⟩ := q; exact ⟨q0, q1, q2, GW.blind qG, qP, va_K.moved (u := U) (U := U.calling g mk a) (Vm.Alike.refl U.vm) qK, qD⟩, va_recv hKc hPc (ci := 14) (q0 := 0) rfl hrc, fun U hU hW => ⟨rfl, by rw [hU], Nat.le_trans hn0 hS.1, GW.go hW hU hG (fun q hq hA9 => hS.2.1 q hq (fun h => hA9 (hA0 q h))), by rw [hU]; exact hPc, va_K.moved hW.alike hKc, hDc.weaken (fun _ _ _ h => hA0 _ h)⟩⟩ rfl rfl hl.1 rfl (lv_room (Nat.le_of_ble_eq_true rfl)) dL_law_674 ⟨(by show _ ≤ (601024 : Nat); omega), (by show _ ≤ (7293034 : Nat); omega)⟩) hS (fun q _ h => hFc q h) hFc (fun r_3 u t H1 locs ht hvm hw_3 hB hz1 hk1 hS => ?_)
    subst hw_3
    obtain ⟨Gm_3, wm_3, tm_3, hIm_3, hrel_3, hP1, hK1, hD1⟩ := hB
    rw [ht] at hP1
    obtain ⟨hP, hD⟩ := jo_r hP hD hk1 hFc hP1 hD1
    have hKm_3 := va_K.moved hvm.symm hK1
    generalize H1 = H at hP hS ⊢
    refine lv_pop hx hb dL_law_677 rfl ?_
    refine lv_goto (tgt := 1049) hx hb dL_law_678 (by decide) ?_
    refine lv_iinc (v := (nI (i + 6))) (lv' := [(4, .int (nI (i + 6))), (3, .ref (ad 104)), (2, .ref m0), (1, .ref x0), (0, .ref b)]) hx hb dL_law_1049 hl (k := 0) rfl (nI_add _ 6) (by decide) rfl (fun ls hl => ?_)
    refine lv_goto (tgt := 23) hx hb dL_law_1052 (by decide) ?_
    refine W.widen (k := 150 + 23 * (i + 6)) (n := 3000 + 300 * (i + 6)) (by omega) (by omega) ?_
    exact K _ _ _ ⟨by omega, Gx_1, Gm_3, wx_1, wm_3, tx_1, tm_3, hIx_1, (Or.inr hIm_3), (rel_l hrl hrel_1.2.1 hrel_3.2.1 hrel_1.2.2 hrel_3.2.2), hKx_1, hKm_3, hP, hD, hS, lv_sub hl [0, 1, 2, 3, 4] rfl⟩
set_option maxHeartbeats 4000000 in
set_option maxRecDepth 100000 in
theorem law_17 {p : Program} {l : Launch} {e : Env} {s : State} {m : MethodId} {below : List Frame} {meth : Method} {c : Code} {dC : Nat → ClassId} {dI : Nat → Nat → Nat} {b L : Nat} {xs : Nat → Int32} (hst : l.stackTraces = false) (hL : L ≤ 3072) (C0 : lw_At p s m meth c b L xs) (atx : Nat → Nat × Nat) (hG : GW s.heap.size atx s) (ad : Nat → Nat) (ka : Nat → ClassId) (x0 : Nat) (md : Nat → Nat) (mk9 : Nat → ClassId) (m0 : Nat) (i : Nat) (hi : i + 6 ≤ L) (K : ∀ (H : Heap) (locs : List Loc) (ls : Array Slot), LV dC dI s b L ad ka x0 md mk9 m0 (i + 6) H locs ls → W p l e room_1 s m #[Value.ref b] below meth c H locs (150 + 23 * (i + 6)) (3000 + 300 * (i + 6)) (lw_Z below #[Value.ref b] s) (F0 m 23 ls [])) (H : Heap) (locs : List Loc) (ls : Array Slot) (Gx Gm : Nat → Int) (wx wm : va_W) (tx tm : List (ClassId × FieldType)) (hXI : XI ad ka x0 Gx wx tx) (hMI : MZ md mk9 m0 Gm wm tm ∨ MB md mk9 m0 Gm wm tm) (hrl : REL Gx Gm) (hKx : va_K (dC, dI) classes tx s) (hKm : va_K (dC, dI) classes tm s) (hP : va_P (dC, dI) classes (wx ++ wm) H) (hD : va_D (fun q : Nat => s.heap.size ≤ q) (wx ++ wm)) (hS : va_S (fun q : Nat => s.heap.size ≤ q) s.heap H locs) (hl : lv_has ls 7 [(4, .int (nI i)), (3, .ref (ad 104)), (2, .ref m0), (1, .ref x0), (0, .ref b)]) : W p l e room_1 s m #[Value.ref b] below meth c H locs (150 + 23 * i) (3000 + 300 * i) (lw_Z below #[Value.ref b] s) (F0 m 681 ls []) := by
  obtain ⟨hx, hb, hr, hml, hown, hts0, hX, hbl, hlocks, hgv⟩ := C0
  have hts : ∀ w ∈ wG, w.before #[Value.ref b] s = true := fun w h => hts0 w (wG_t h)
  have hA : ∀ q : Nat, s.heap.size ≤ q → (fun q : Nat => s.heap.size ≤ q) q := fun _ h => h
  have hA0 : ∀ q : Nat, (fun q : Nat => s.heap.size ≤ q) q → s.heap.size ≤ q := fun _ h => h
  have hn0 : s.heap.size ≤ s.heap.size := Nat.le_refl _
  have hbA : ¬ (fun q : Nat => s.heap.size ≤ q) b := Nat.not_le.mpr hbl
  have hrl0 := rel0 hrl
  refine lv_aload_n hx hb dL_law_681 rfl (lv_at hl 3 rfl) ?_
  refine lv_aload_n hx hb dL_law_682 rfl (lv_at hl 4 rfl) ?_
  refine lv_iload hx hb dL_law_683 (lv_at hl 0 rfl) ?_
  refine lv_iconst (v := 1) hx hb dL_law_685 (by decide) ?_
  refine lv_iadd hx hb dL_law_686 ?_
  refine lv_topi (fun v_1 ev_1 => ?_)
  obtain rfl : v_1 = nI (i + 1) := ev_1.trans (nI_add i 1)
  refine va_sld hx hb hX hbl hbA hS (vp_in_nI (n := (i + 1)) (by omega) (by omega)) dL_law_687 ?_
  refine lv_topi (fun v_2 ev_2 => ?_)
  refine lv_if_eq (tgt := 695) hx hb dL_law_688 (by decide) (fun c_3 => ?_) (fun c_3 => ?_)
  · skip
    have g_4 : v_2.toInt = (0 : Int) := i_eq c_3
    refine lv_iconst (v := 0) hx hb dL_law_695 (by decide) ?_
    have hPc := ap_l hP
    have hDc := ad_l hD
    have hKc := hKx
    have hFc := fr_O hDc hS hA
    obtain ⟨fs9, hrc⟩ := XI_rc hXI
    refine va_calli (va_runV (As := [.int 0]) (rest := []) ⟨hx, hb, hml, hown, hts⟩ (X_failing l dC dI s.heap.size atx H.size ad ka x0 Gx wx tx 0 hXI ) (cwV 1 hts (gV (fun w h => id h) wd_1166 wd_1163 wd_1164 wd_1165 wd_114) rfl rfl rfl (by decide +kernel) ⟨Nat.le_of_ble_eq_true rfl, Nat.le_of_ble_eq_true rfl⟩) ⟨fun a U g mk q => by obtain ⟨q0, q1, q2, qG, qP, qK, qD⟩ := q; exact ⟨q0, q1, q2, GW.blind qG, qP, va_K.moved (u := U) (U := U.calling g mk a) (Vm.Alike.refl U.vm) qK, qD⟩, va_recv hKc hPc (ci := 11) (q0 := 0) rfl hrc, fun U hU hW => ⟨rfl, by rw [hU], Nat.le_trans hn0 hS.1, GW.go hW hU hG (fun q hq hA9 => hS.2.1 q hq (fun h => hA9 (hA0 q h))), by rw [hU]; exact hPc, va_K.moved hW.alike hKc, hDc.weaken (fun _ _ _ h => hA0 _ h)⟩⟩ rfl rfl hl.1 rfl (lv_room (Nat.le_of_ble_eq_true rfl)) dL_law_696 ⟨(by show _ ≤ (601024 : Nat); omega), (by show _ ≤ (7293034 : Nat); omega)⟩) hS (fun q _ h => hFc q h) hFc (fun r_5 u t H1 locs ht hvm hw_5 hB hz1 hk1 hS => ?_)
    subst hw_5
    obtain ⟨Gx_5, wx_5, tx_5, hIx_5, hrel_5, hP1, hK1, hD1⟩ := hB
    rw [ht] at hP1
    obtain ⟨hP, hD⟩ := jo_l hP hD hk1 hFc hP1 hD1
    have hKx_5 := va_K.moved hvm.symm hK1
    generalize H1 = H at hP hS ⊢
    refine lv_pop hx hb dL_law_699 rfl ?_
    refine lv_aload_n hx hb dL_law_700 rfl (lv_at hl 2 rfl) ?_
    refine lv_aload_n hx hb dL_law_701 rfl (lv_at hl 4 rfl) ?_
    refine lv_iload hx hb dL_law_702 (lv_at hl 0 rfl) ?_
    refine lv_iconst (v := 1) hx hb dL_law_704 (by decide) ?_
    refine lv_iadd hx hb dL_law_705 ?_
    refine lv_topi (fun v_6 ev_6 => ?_)
    obtain rfl : v_6 = nI (i + 1) := ev_6.trans (nI_add i 1)
    refine va_sld hx hb hX hbl hbA hS (vp_in_nI (n := (i + 1)) (by omega) (by omega)) dL_law_706 ?_
    refine lv_topi (fun v_7 ev_7 => ?_)
    obtain rfl : v_2 = v_7 := (ev_7.trans ev_2.symm).symm
    refine lv_if_eq (tgt := 714) hx hb dL_law_707 (by decide) (fun c_8 => ?_) (fun c_8 => ?_)
    · skip
      have g_9 : v_2.toInt = (0 : Int) := i_eq c_8
      refine lv_iconst (v := 0) hx hb dL_law_714 (by decide) ?_
      rcases hMI with hMI | hMI
      · skip
        have hPc := ap_r hP
        have hDc := ad_r hD
        have hKc := hKm
        have hFc := fr_O hDc hS hA
        obtain ⟨fs9, hrc⟩ := MZ_rc hMI
        refine va_calli (va_runV (As := [.int 0]) (rest := []) ⟨hx, hb, hml, hown, hts⟩ (Z_failing l dC dI s.heap.size atx H.size md mk9 m0 Gm wm tm 0 hMI ) (cwV 1 hts (gV (fun w h => id h) wd_2010 wd_2007 wd_2008 wd_2009 wd_127) rfl rfl rfl (by decide +kernel) ⟨Nat.le_of_ble_eq_true rfl, Nat.le_of_ble_eq_true rfl⟩) ⟨fun a U g mk q => by obtain ⟨q0, q1, q2, qG, qP, qK, qD⟩ := q; exact ⟨q0, q1, q2, GW.blind qG, qP, va_K.moved (u := U) (U := U.calling g mk a) (Vm.Alike.refl U.vm) qK, qD⟩, va_recv hKc hPc (ci := 14) (q0 := 0) rfl hrc, fun U hU hW => ⟨rfl, by rw [hU], Nat.le_trans hn0 hS.1, GW.go hW hU hG (fun q hq hA9 => hS.2.1 q hq (fun h => hA9 (hA0 q h))), by rw [hU]; exact hPc, va_K.moved hW.alike hKc, hDc.weaken (fun _ _ _ h => hA0 _ h)⟩⟩ rfl rfl hl.1 rfl (lv_room (Nat.le_of_ble_eq_true rfl)) dL_law_715 ⟨(by show _ ≤ (601024 : Nat); omega), (by show _ ≤ (7293034 : Nat); omega)⟩) hS (fun q _ h => hFc q h) hFc (fun r_10 u t H1 locs ht hvm hw_10 hB hz1 hk1 hS => ?_)
        subst hw_10
        obtain ⟨Gm_10, wm_10, tm_10, hIm_10, hrel_10, hP1, hK1, hD1⟩ := hB
        rw [ht] at hP1
        obtain ⟨hP, hD⟩ := jo_r hP hD hk1 hFc hP1 hD1
        have hKm_10 := va_K.moved hvm.symm hK1
        generalize H1 = H at hP hS ⊢
        refine lv_pop hx hb dL_law_718 rfl ?_
        refine lv_goto (tgt := 1049) hx hb dL_law_719 (by decide) ?_
        refine lv_iinc (v := (nI (i + 6))) (lv' := [(4, .int (nI (i + 6))), (3, .ref (ad 104)), (2, .ref m0), (1, .ref x0), (0, .ref b)]) hx hb dL_law_1049 hl (k := 0) rfl (nI_add _ 6) (by decide) rfl (fun ls hl => ?_)
        refine lv_goto (tgt := 23) hx hb dL_law_1052 (by decide) ?_
        refine W.widen (k := 150 + 23 * (i + 6)) (n := 3000 + 300 * (i + 6)) (by omega) (by omega) ?_
        exact K _ _ _ ⟨by omega, Gx_5, Gm_10, wx_5, wm_10, tx_5, tm_10, hIx_5, (Or.inl hIm_10), (rel_l hrl hrel_5.2.1 hrel_10.2.1 hrel_5.2.2 hrel_10.2.2), hKx_5, hKm_10, hP, hD, hS, lv_sub hl [0, 1, 2, 3, 4] rfl⟩
      · skip
        have hPc := ap_r hP
        have hDc := ad_r hD
        have hKc := hKm
        have hFc := fr_O hDc hS hA
        obtain ⟨fs9, hrc⟩ := MB_rc hMI
        refine va_calli (va_runV (As := [.int 0]) (rest := []) ⟨hx, hb, hml, hown, hts⟩ (B_failing l dC dI s.heap.size atx H.size md mk9 m0 Gm wm tm 0 hMI ) (cwV 1 hts (gV (fun w h => id h) wd_2010 wd_2007 wd_2008 wd_2009 wd_127) rfl rfl rfl (by decide +kernel) ⟨Nat.le_of_ble_eq_true rfl, Nat.le_of_ble_eq_true rfl⟩) ⟨fun a U g mk q => by obtain ⟨q0, q1, q2, qG, qP, qK, qD⟩ := q; exact ⟨q0, q1, q2, GW.blind qG, qP, va_K.moved (u := U) (U := U.calling g mk a) (Vm.Alike.refl U.vm) qK, qD⟩, va_recv hKc hPc (ci := 14) (q0 := 0) rfl hrc, fun U hU hW => ⟨rfl, by rw [hU], Nat.le_trans hn0 hS.1, GW.go hW hU hG (fun q hq hA9 => hS.2.1 q hq (fun h => hA9 (hA0 q h))), by rw [hU]; exact hPc, va_K.moved hW.alike hKc, hDc.weaken (fun _ _ _ h => hA0 _ h)⟩⟩ rfl rfl hl.1 rfl (lv_room (Nat.le_of_ble_eq_true rfl)) dL_law_715 ⟨(by show _ ≤ (601024 : Nat); omega), (by show _ ≤ (7293034 : Nat); omega)⟩) hS (fun q _ h => hFc q h) hFc (fun r_11 u t H1 locs ht hvm hw_11 hB hz1 hk1 hS => ?_)
        subst hw_11
        obtain ⟨Gm_11, wm_11, tm_11, hIm_11, hrel_11, hP1, hK1, hD1⟩ := hB
        rw [ht] at hP1
        obtain ⟨hP, hD⟩ := jo_r hP hD hk1 hFc hP1 hD1
        have hKm_11 := va_K.moved hvm.symm hK1
        generalize H1 = H at hP hS ⊢
        refine lv_pop hx hb dL_law_718 rfl ?_
        refine lv_goto (tgt := 1049) hx hb dL_law_719 (by decide) ?_
        refine lv_iinc (v := (nI (i + 6))) (lv' := [(4, .int (nI (i + 6))), (3, .ref (ad 104)), (2, .ref m0), (1, .ref x0), (0, .ref b)]) hx hb dL_law_1049 hl (k := 0) rfl (nI_add _ 6) (by decide) rfl (fun ls hl => ?_)
        refine lv_goto (tgt := 23) hx hb dL_law_1052 (by decide) ?_
        refine W.widen (k := 150 + 23 * (i + 6)) (n := 3000 + 300 * (i + 6)) (by omega) (by omega) ?_
        exact K _ _ _ ⟨by omega, Gx_5, Gm_11, wx_5, wm_11, tx_5, tm_11, hIx_5, (Or.inr hIm_11), (rel_l hrl hrel_5.2.1 hrel_11.2.1 hrel_5.2.2 hrel_11.2.2), hKx_5, hKm_11, hP, hD, hS, lv_sub hl [0, 1, 2, 3, 4] rfl⟩
    · skip
      have g_12 : v_2.toInt ≠ (0 : Int) := i_ne c_8
      refine lv_iconst (v := 1) hx hb dL_law_710 (by decide) ?_
      refine lv_goto (tgt := 715) hx hb dL_law_711 (by decide) ?_
      rcases hMI with hMI | hMI
      · skip
        have hPc := ap_r hP
        have hDc := ad_r hD
        have hKc := hKm
        have hFc := fr_O hDc hS hA
        obtain ⟨fs9, hrc⟩ := MZ_rc hMI
        refine va_calli (va_runV (As := [.int 1]) (rest := []) ⟨hx, hb, hml, hown, hts⟩ (Z_failing l dC dI s.heap.size atx H.size md mk9 m0 Gm wm tm 1 hMI ) (cwV 1 hts (gV (fun w h => id h) wd_2010 wd_2007 wd_2008 wd_2009 wd_127) rfl rfl rfl (by decide +kernel) ⟨Nat.le_of_ble_eq_true rfl, Nat.le_of_ble_eq_true rfl⟩) ⟨fun a U g mk q => by obtain ⟨q0, q1, q2, qG, qP, qK, qD⟩ := q; exact ⟨q0, q1, q2, GW.blind qG, qP, va_K.moved (u := U) (U := U.calling g mk a) (Vm.Alike.refl U.vm) qK, qD⟩, va_recv hKc hPc (ci := 14) (q0 := 0) rfl hrc, fun U hU hW => ⟨rfl, by rw [hU], Nat.le_trans hn0 hS.1, GW.go hW hU hG (fun q hq hA9 => hS.2.1 q hq (fun h => hA9 (hA0 q h))), by rw [hU]; exact hPc, va_K.moved hW.alike hKc, hDc.weaken (fun _ _ _ h => hA0 _ h)⟩⟩ rfl rfl hl.1 rfl (lv_room (Nat.le_of_ble_eq_true rfl)) dL_law_715 ⟨(by show _ ≤ (601024 : Nat); omega), (by show _ ≤ (7293034 : Nat); omega)⟩) hS (fun q _ h => hFc q h) hFc (fun r_13 u t H1 locs ht hvm hw_13 hB hz1 hk1 hS => ?_)
        subst hw_13
        obtain ⟨Gm_13, wm_13, tm_13, hIm_13, hrel_13, hP1, hK1, hD1⟩ := hB
        rw [ht] at hP1
        obtain ⟨hP, hD⟩ := jo_r hP hD hk1 hFc hP1 hD1
        have hKm_13 := va_K.moved hvm.symm hK1
        generalize H1 = H at hP hS ⊢
        refine lv_pop hx hb dL_law_718 rfl ?_
        refine lv_goto (tgt := 1049) hx hb dL_law_719 (by decide) ?_
        refine lv_iinc (v := (nI (i + 6))) (lv' := [(4, .int (nI (i + 6))), (3, .ref (ad 104)), (2, .ref m0), (1, .ref x0), (0, .ref b)]) hx hb dL_law_1049 hl (k := 0) rfl (nI_add _ 6) (by decide) rfl (fun ls hl => ?_)
        refine lv_goto (tgt := 23) hx hb dL_law_1052 (by decide) ?_
        refine W.widen (k := 150 + 23 * (i + 6)) (n := 3000 + 300 * (i + 6)) (by omega) (by omega) ?_
        exact K _ _ _ ⟨by omega, Gx_5, Gm_13, wx_5, wm_13, tx_5, tm_13, hIx_5, (Or.inl hIm_13), (rel_l hrl hrel_5.2.1 hrel_13.2.1 hrel_5.2.2 hrel_13.2.2), hKx_5, hKm_13, hP, hD, hS, lv_sub hl [0, 1, 2, 3, 4] rfl⟩
      · skip
        have hPc := ap_r hP
        have hDc := ad_r hD
        have hKc := hKm
        have hFc := fr_O hDc hS hA
        obtain ⟨fs9, hrc⟩ := MB_rc hMI
        refine va_calli (va_runV (As := [.int 1]) (rest := []) ⟨hx, hb, hml, hown, hts⟩ (B_failing l dC dI s.heap.size atx H.size md mk9 m0 Gm wm tm 1 hMI ) (cwV 1 hts (gV (fun w h => id h) wd_2010 wd_2007 wd_2008 wd_2009 wd_127) rfl rfl rfl (by decide +kernel) ⟨Nat.le_of_ble_eq_true rfl, Nat.le_of_ble_eq_true rfl⟩) ⟨fun a U g mk q => by obtain ⟨q0, q1, q2, qG, qP, qK, qD⟩ := q; exact ⟨q0, q1, q2, GW.blind qG, qP, va_K.moved (u := U) (U := U.calling g mk a) (Vm.Alike.refl U.vm) qK, qD⟩, va_recv hKc hPc (ci := 14) (q0 := 0) rfl hrc, fun U hU hW => ⟨rfl, by rw [hU], Nat.le_trans hn0 hS.1, GW.go hW hU hG (fun q hq hA9 => hS.2.1 q hq (fun h => hA9 (hA0 q h))), by rw [hU]; exact hPc, va_K.moved hW.alike hKc, hDc.weaken (fun _ _ _ h => hA0 _ h)⟩⟩ rfl rfl hl.1 rfl (lv_room (Nat.le_of_ble_eq_true rfl)) dL_law_715 ⟨(by show _ ≤ (601024 : Nat); omega), (by show _ ≤ (7293034 : Nat); omega)⟩) hS (fun q _ h => hFc q h) hFc (fun r_14 u t H1 locs ht hvm hw_14 hB hz1 hk1 hS => ?_)
        subst hw_14
        obtain ⟨Gm_14, wm_14, tm_14, hIm_14, hrel_14, hP1, hK1, hD1⟩ := hB
        rw [ht] at hP1
        obtain ⟨hP, hD⟩ := jo_r hP hD hk1 hFc hP1 hD1
        have hKm_14 := va_K.moved hvm.symm hK1
        generalize H1 = H at hP hS ⊢
        refine lv_pop hx hb dL_law_718 rfl ?_
        refine lv_goto (tgt := 1049) hx hb dL_law_719 (by decide) ?_
        refine lv_iinc (v := (nI (i + 6))) (lv' := [(4, .int (nI (i + 6))), (3, .ref (ad 104)), (2, .ref m0), (1, .ref x0), (0, .ref b)]) hx hb dL_law_1049 hl (k := 0) rfl (nI_add _ 6) (by decide) rfl (fun ls hl => ?_)
        refine lv_goto (tgt := 23) hx hb dL_law_1052 (by decide) ?_
        refine W.widen (k := 150 + 23 * (i + 6)) (n := 3000 + 300 * (i + 6)) (by omega) (by omega) ?_
        exact K _ _ _ ⟨by omega, Gx_5, Gm_14, wx_5, wm_14, tx_5, tm_14, hIx_5, (Or.inr hIm_14), (rel_l hrl hrel_5.2.1 hrel_14.2.1 hrel_5.2.2 hrel_14.2.2), hKx_5, hKm_14, hP, hD, hS, lv_sub hl [0, 1, 2, 3, 4] rfl⟩
  · skip
    have g_15 : v_2.toInt ≠ (0 : Int) := i_ne c_3
    refine lv_iconst (v := 1) hx hb dL_law_691 (by decide) ?_
    refine lv_goto (tgt := 696) hx hb dL_law_692 (by decide) ?_
    have hPc := ap_l hP
    have hDc := ad_l hD
    have hKc := hKx
    have hFc := fr_O hDc hS hA
    obtain ⟨fs9, hrc⟩ := XI_rc hXI
    refine va_calli (va_runV (As := [.int 1]) (rest := []) ⟨hx, hb, hml, hown, hts⟩ (X_failing l dC dI s.heap.size atx H.size ad ka x0 Gx wx tx 1 hXI ) (cwV 1 hts (gV (fun w h => id h) wd_1166 wd_1163 wd_1164 wd_1165 wd_114) rfl rfl rfl (by decide +kernel) ⟨Nat.le_of_ble_eq_true rfl, Nat.le_of_ble_eq_true rfl⟩) ⟨fun a U g mk q => by obtain ⟨q0, q1, q2, qG, qP, qK, qD⟩ := q; exact ⟨q0, q1, q2, GW.blind qG, qP, va_K.moved (u := U) (U := U.calling g mk a) (Vm.Alike.refl U.vm) qK, qD⟩, va_recv hKc hPc (ci := 11) (q0 := 0) rfl hrc, fun U hU hW => ⟨rfl, by rw [hU], Nat.le_trans hn0 hS.1, GW.go hW hU hG (fun q hq hA9 => hS.2.1 q hq (fun h => hA9 (hA0 q h))), by rw [hU]; exact hPc, va_K.moved hW.alike hKc, hDc.weaken (fun _ _ _ h => hA0 _ h)⟩⟩ rfl rfl hl.1 rfl (lv_room (Nat.le_of_ble_eq_true rfl)) dL_law_696 ⟨(by show _ ≤ (601024 : Nat); omega), (by show _ ≤ (7293034 : Nat); omega)⟩) hS (fun q _ h => hFc q h) hFc (fun r_16 u t H1 locs ht hvm hw_16 hB hz1 hk1 hS => ?_)
    subst hw_16
    obtain ⟨Gx_16, wx_16, tx_16, hIx_16, hrel_16, hP1, hK1, hD1⟩ := hB
    rw [ht] at hP1
    obtain ⟨hP, hD⟩ := jo_l hP hD hk1 hFc hP1 hD1
    have hKx_16 := va_K.moved hvm.symm hK1
    generalize H1 = H at hP hS ⊢
    refine lv_pop hx hb dL_law_699 rfl ?_
    refine lv_aload_n hx hb dL_law_700 rfl (lv_at hl 2 rfl) ?_
    refine lv_aload_n hx hb dL_law_701 rfl (lv_at hl 4 rfl) ?_
    refine lv_iload hx hb dL_law_702 (lv_at hl 0 rfl) ?_
    refine lv_iconst (v := 1) hx hb dL_law_704 (by decide) ?_
    refine lv_iadd hx hb dL_law_705 ?_
    refine lv_topi (fun v_17 ev_17 => ?_)
    obtain rfl : v_17 = nI (i + 1) := ev_17.trans (nI_add i 1)
    refine va_sld hx hb hX hbl hbA hS (vp_in_nI (n := (i + 1)) (by omega) (by omega)) dL_law_706 ?_
    refine lv_topi (fun v_18 ev_18 => ?_)
    obtain rfl : v_2 = v_18 := (ev_18.trans ev_2.symm).symm
    refine lv_if_eq (tgt := 714) hx hb dL_law_707 (by decide) (fun c_19 => ?_) (fun c_19 => ?_)
    · skip
      have g_20 : v_2.toInt = (0 : Int) := i_eq c_19
      refine lv_iconst (v := 0) hx hb dL_law_714 (by decide) ?_
      rcases hMI with hMI | hMI
      · skip
        have hPc := ap_r hP
        have hDc := ad_r hD
        have hKc := hKm
        have hFc := fr_O hDc hS hA
        obtain ⟨fs9, hrc⟩ := MZ_rc hMI
        refine va_calli (va_runV (As := [.int 0]) (rest := []) ⟨hx, hb, hml, hown, hts⟩ (Z_failing l dC dI s.heap.size atx H.size md mk9 m0 Gm wm tm 0 hMI ) (cwV 1 hts (gV (fun w h => id h) wd_2010 wd_2007 wd_2008 wd_2009 wd_127) rfl rfl rfl (by decide +kernel) ⟨Nat.le_of_ble_eq_true rfl, Nat.le_of_ble_eq_true rfl⟩) ⟨fun a U g mk q => by obtain ⟨q0, q1, q2, qG, qP, qK, qD⟩ := q; exact ⟨q0, q1, q2, GW.blind qG, qP, va_K.moved (u := U) (U := U.calling g mk a) (Vm.Alike.refl U.vm) qK, qD⟩, va_recv hKc hPc (ci := 14) (q0 := 0) rfl hrc, fun U hU hW => ⟨rfl, by rw [hU], Nat.le_trans hn0 hS.1, GW.go hW hU hG (fun q hq hA9 => hS.2.1 q hq (fun h => hA9 (hA0 q h))), by rw [hU]; exact hPc, va_K.moved hW.alike hKc, hDc.weaken (fun _ _ _ h => hA0 _ h)⟩⟩ rfl rfl hl.1 rfl (lv_room (Nat.le_of_ble_eq_true rfl)) dL_law_715 ⟨(by show _ ≤ (601024 : Nat); omega), (by show _ ≤ (7293034 : Nat); omega)⟩) hS (fun q _ h => hFc q h) hFc (fun r_21 u t H1 locs ht hvm hw_21 hB hz1 hk1 hS => ?_)
        subst hw_21
        obtain ⟨Gm_21, wm_21, tm_21, hIm_21, hrel_21, hP1, hK1, hD1⟩ := hB
        rw [ht] at hP1
        obtain ⟨hP, hD⟩ := jo_r hP hD hk1 hFc hP1 hD1
        have hKm_21 := va_K.moved hvm.symm hK1
        generalize H1 = H at hP hS ⊢
        refine lv_pop hx hb dL_law_718 rfl ?_
        refine lv_goto (tgt := 1049) hx hb dL_law_719 (by decide) ?_
        refine lv_iinc (v := (nI (i + 6))) (lv' := [(4, .int (nI (i + 6))), (3, .ref (ad 104)), (2, .ref m0), (1, .ref x0), (0, .ref b)]) hx hb dL_law_1049 hl (k := 0) rfl (nI_add _ 6) (by decide) rfl (fun ls hl => ?_)
        refine lv_goto (tgt := 23) hx hb dL_law_1052 (by decide) ?_
        refine W.widen (k := 150 + 23 * (i + 6)) (n := 3000 + 300 * (i + 6)) (by omega) (by omega) ?_
        exact K _ _ _ ⟨by omega, Gx_16, Gm_21, wx_16, wm_21, tx_16, tm_21, hIx_16, (Or.inl hIm_21), (rel_l hrl hrel_16.2.1 hrel_21.2.1 hrel_16.2.2 hrel_21.2.2), hKx_16, hKm_21, hP, hD, hS, lv_sub hl [0, 1, 2, 3, 4] rfl⟩
      · skip
        have hPc := ap_r hP
        have hDc := ad_r hD
        have hKc := hKm
        have hFc := fr_O hDc hS hA
        obtain ⟨fs9, hrc⟩ := MB_rc hMI
        refine va_calli (va_runV (As := [.int 0]) (rest := []) ⟨hx, hb, hml, hown, hts⟩ (B_failing l dC dI s.heap.size atx H.size md mk9 m0 Gm wm tm 0 hMI ) (cwV 1 hts (gV (fun w h => id h) wd_2010 wd_2007 wd_2008 wd_2009 wd_127) rfl rfl rfl (by decide +kernel) ⟨Nat.le_of_ble_eq_true rfl, Nat.le_of_ble_eq_true rfl⟩) ⟨fun a U g mk q => by obtain ⟨q0, q1, q2, qG, qP, qK, qD⟩ := q; exact ⟨q0, q1, q2, GW.blind qG, qP, va_K.moved (u := U) (U := U.calling g mk a) (Vm.Alike.refl U.vm) qK, qD⟩, va_recv hKc hPc (ci := 14) (q0 := 0) rfl hrc, fun U hU hW => ⟨rfl, by rw [hU], Nat.le_trans hn0 hS.1, GW.go hW hU hG (fun q hq hA9 => hS.2.1 q hq (fun h => hA9 (hA0 q h))), by rw [hU]; exact hPc, va_K.moved hW.alike hKc, hDc.weaken (fun _ _ _ h => hA0 _ h)⟩⟩ rfl rfl hl.1 rfl (lv_room (Nat.le_of_ble_eq_true rfl)) dL_law_715 ⟨(by show _ ≤ (601024 : Nat); omega), (by show _ ≤ (7293034 : Nat); omega)⟩) hS (fun q _ h => hFc q h) hFc (fun r_22 u t H1 locs ht hvm hw_22 hB hz1 hk1 hS => ?_)
        subst hw_22
        obtain ⟨Gm_22, wm_22, tm_22, hIm_22, hrel_22, hP1, hK1, hD1⟩ := hB
        rw [ht] at hP1
        obtain ⟨hP, hD⟩ := jo_r hP hD hk1 hFc hP1 hD1
        have hKm_22 := va_K.moved hvm.symm hK1
        generalize H1 = H at hP hS ⊢
        refine lv_pop hx hb dL_law_718 rfl ?_
        refine lv_goto (tgt := 1049) hx hb dL_law_719 (by decide) ?_
        refine lv_iinc (v := (nI (i + 6))) (lv' := [(4, .int (nI (i + 6))), (3, .ref (ad 104)), (2, .ref m0), (1, .ref x0), (0, .ref b)]) hx hb dL_law_1049 hl (k := 0) rfl (nI_add _ 6) (by decide) rfl (fun ls hl => ?_)
        refine lv_goto (tgt := 23) hx hb dL_law_1052 (by decide) ?_
        refine W.widen (k := 150 + 23 * (i + 6)) (n := 3000 + 300 * (i + 6)) (by omega) (by omega) ?_
        exact K _ _ _ ⟨by omega, Gx_16, Gm_22, wx_16, wm_22, tx_16, tm_22, hIx_16, (Or.inr hIm_22), (rel_l hrl hrel_16.2.1 hrel_22.2.1 hrel_16.2.2 hrel_22.2.2), hKx_16, hKm_22, hP, hD, hS, lv_sub hl [0, 1, 2, 3, 4] rfl⟩
    · skip
      have g_23 : v_2.toInt ≠ (0 : Int) := i_ne c_19
      refine lv_iconst (v := 1) hx hb dL_law_710 (by decide) ?_
      refine lv_goto (tgt := 715) hx hb dL_law_711 (by decide) ?_
      rcases hMI with hMI | hMI
      · skip
        have hPc := ap_r hP
        have hDc := ad_r hD
        have hKc := hKm
        have hFc := fr_O hDc hS hA
        obtain ⟨fs9, hrc⟩ := MZ_rc hMI
        refine va_calli (va_runV (As := [.int 1]) (rest := []) ⟨hx, hb, hml, hown, hts⟩ (Z_failing l dC dI s.heap.size atx H.size md mk9 m0 Gm wm tm 1 hMI ) (cwV 1 hts (gV (fun w h => id h) wd_2010 wd_2007 wd_2008 wd_2009 wd_127) rfl rfl rfl (by decide +kernel) ⟨Nat.le_of_ble_eq_true rfl, Nat.le_of_ble_eq_true rfl⟩) ⟨fun a U g mk q => by obtain ⟨q0, q1, q2, qG, qP, qK, qD⟩ := q; exact ⟨q0, q1, q2, GW.blind qG, qP, va_K.moved (u := U) (U := U.calling g mk a) (Vm.Alike.refl U.vm) qK, qD⟩, va_recv hKc hPc (ci := 14) (q0 := 0) rfl hrc, fun U hU hW => ⟨rfl, by rw [hU], Nat.le_trans hn0 hS.1, GW.go hW hU hG (fun q hq hA9 => hS.2.1 q hq (fun h => hA9 (hA0 q h))), by rw [hU]; exact hPc, va_K.moved hW.alike hKc, hDc.weaken (fun _ _ _ h => hA0 _ h)⟩⟩ rfl rfl hl.1 rfl (lv_room (Nat.le_of_ble_eq_true rfl)) dL_law_715 ⟨(by show _ ≤ (601024 : Nat); omega), (by show _ ≤ (7293034 : Nat); omega)⟩) hS (fun q _ h => hFc q h) hFc (fun r_24 u t H1 locs ht hvm hw_24 hB hz1 hk1 hS => ?_)
        subst hw_24
        obtain ⟨Gm_24, wm_24, tm_24, hIm_24, hrel_24, hP1, hK1, hD1⟩ := hB
        rw [ht] at hP1
        obtain ⟨hP, hD⟩ := jo_r hP hD hk1 hFc hP1 hD1
        have hKm_24 := va_K.moved hvm.symm hK1
        generalize H1 = H at hP hS ⊢
        refine lv_pop hx hb dL_law_718 rfl ?_
        refine lv_goto (tgt := 1049) hx hb dL_law_719 (by decide) ?_
        refine lv_iinc (v := (nI (i + 6))) (lv' := [(4, .int (nI (i + 6))), (3, .ref (ad 104)), (2, .ref m0), (1, .ref x0), (0, .ref b)]) hx hb dL_law_1049 hl (k := 0) rfl (nI_add _ 6) (by decide) rfl (fun ls hl => ?_)
        refine lv_goto (tgt := 23) hx hb dL_law_1052 (by decide) ?_
        refine W.widen (k := 150 + 23 * (i + 6)) (n := 3000 + 300 * (i + 6)) (by omega) (by omega) ?_
        exact K _ _ _ ⟨by omega, Gx_16, Gm_24, wx_16, wm_24, tx_16, tm_24, hIx_16, (Or.inl hIm_24), (rel_l hrl hrel_16.2.1 hrel_24.2.1 hrel_16.2.2 hrel_24.2.2), hKx_16, hKm_24, hP, hD, hS, lv_sub hl [0, 1, 2, 3, 4] rfl⟩
      · skip
        have hPc := ap_r hP
        have hDc := ad_r hD
        have hKc := hKm
        have hFc := fr_O hDc hS hA
        obtain ⟨fs9, hrc⟩ := MB_rc hMI
        refine va_calli (va_runV (As := [.int 1]) (rest := []) ⟨hx, hb, hml, hown, hts⟩ (B_failing l dC dI s.heap.size atx H.size md mk9 m0 Gm wm tm 1 hMI ) (cwV 1 hts (gV (fun w h => id h) wd_2010 wd_2007 wd_2008 wd_2009 wd_127) rfl rfl rfl (by decide +kernel) ⟨Nat.le_of_ble_eq_true rfl, Nat.le_of_ble_eq_true rfl⟩) ⟨fun a U g mk q => by obtain ⟨q0, q1, q2, qG, qP, qK, qD⟩ := q; exact ⟨q0, q1, q2, GW.blind qG, qP, va_K.moved (u := U) (U := U.calling g mk a) (Vm.Alike.refl U.vm) qK, qD⟩, va_recv hKc hPc (ci := 14) (q0 := 0) rfl hrc, fun U hU hW => ⟨rfl, by rw [hU], Nat.le_trans hn0 hS.1, GW.go hW hU hG (fun q hq hA9 => hS.2.1 q hq (fun h => hA9 (hA0 q h))), by rw [hU]; exact hPc, va_K.moved hW.alike hKc, hDc.weaken (fun _ _ _ h => hA0 _ h)⟩⟩ rfl rfl hl.1 rfl (lv_room (Nat.le_of_ble_eq_true rfl)) dL_law_715 ⟨(by show _ ≤ (601024 : Nat); omega), (by show _ ≤ (7293034 : Nat); omega)⟩) hS (fun q _ h => hFc q h) hFc (fun r_25 u t H1 locs ht hvm hw_25 hB hz1 hk1 hS => ?_)
        subst hw_25
        obtain ⟨Gm_25, wm_25, tm_25, hIm_25, hrel_25, hP1, hK1, hD1⟩ := hB
        rw [ht] at hP1
        obtain ⟨hP, hD⟩ := jo_r hP hD hk1 hFc hP1 hD1
        have hKm_25 := va_K.moved hvm.symm hK1
        generalize H1 = H at hP hS ⊢
        refine lv_pop hx hb dL_law_718 rfl ?_
        refine lv_goto (tgt := 1049) hx hb dL_law_719 (by decide) ?_
        refine lv_iinc (v := (nI (i + 6))) (lv' := [(4, .int (nI (i + 6))), (3, .ref (ad 104)), (2, .ref m0), (1, .ref x0), (0, .ref b)]) hx hb dL_law_1049 hl (k := 0) rfl (nI_add _ 6) (by decide) rfl (fun ls hl => ?_)
        refine lv_goto (tgt := 23) hx hb dL_law_1052 (by decide) ?_
        refine W.widen (k := 150 + 23 * (i + 6)) (n := 3000 + 300 * (i + 6)) (by omega) (by omega) ?_
        exact K _ _ _ ⟨by omega, Gx_16, Gm_25, wx_16, wm_25, tx_16, tm_25, hIx_16, (Or.inr hIm_25), (rel_l hrl hrel_16.2.1 hrel_25.2.1 hrel_16.2.2 hrel_25.2.2), hKx_16, hKm_25, hP, hD, hS, lv_sub hl [0, 1, 2, 3, 4] rfl⟩
set_option maxHeartbeats 4000000 in
set_option maxRecDepth 100000 in
theorem law_18 {p : Program} {l : Launch} {e : Env} {s : State} {m : MethodId} {below : List Frame} {meth : Method} {c : Code} {dC : Nat → ClassId} {dI : Nat → Nat → Nat} {b L : Nat} {xs : Nat → Int32} (hst : l.stackTraces = false) (hL : L ≤ 3072) (C0 : lw_At p s m meth c b L xs) (atx : Nat → Nat × Nat) (hG : GW s.heap.size atx s) (ad : Nat → Nat) (ka : Nat → ClassId) (x0 : Nat) (md : Nat → Nat) (mk9 : Nat → ClassId) (m0 : Nat) (i : Nat) (hi : i + 6 ≤ L) (K : ∀ (H : Heap) (locs : List Loc) (ls : Array Slot), LV dC dI s b L ad ka x0 md mk9 m0 (i + 6) H locs ls → W p l e room_1 s m #[Value.ref b] below meth c H locs (150 + 23 * (i + 6)) (3000 + 300 * (i + 6)) (lw_Z below #[Value.ref b] s) (F0 m 23 ls [])) (H : Heap) (locs : List Loc) (ls : Array Slot) (Gx Gm : Nat → Int) (wx wm : va_W) (tx tm : List (ClassId × FieldType)) (hXI : XI ad ka x0 Gx wx tx) (hMI : MZ md mk9 m0 Gm wm tm ∨ MB md mk9 m0 Gm wm tm) (hrl : REL Gx Gm) (hKx : va_K (dC, dI) classes tx s) (hKm : va_K (dC, dI) classes tm s) (hP : va_P (dC, dI) classes (wx ++ wm) H) (hD : va_D (fun q : Nat => s.heap.size ≤ q) (wx ++ wm)) (hS : va_S (fun q : Nat => s.heap.size ≤ q) s.heap H locs) (hl : lv_has ls 7 [(4, .int (nI i)), (3, .ref (ad 104)), (2, .ref m0), (1, .ref x0), (0, .ref b)]) : W p l e room_1 s m #[Value.ref b] below meth c H locs (150 + 23 * i) (3000 + 300 * i) (lw_Z below #[Value.ref b] s) (F0 m 722 ls []) := by
  obtain ⟨hx, hb, hr, hml, hown, hts0, hX, hbl, hlocks, hgv⟩ := C0
  have hts : ∀ w ∈ wG, w.before #[Value.ref b] s = true := fun w h => hts0 w (wG_t h)
  have hA : ∀ q : Nat, s.heap.size ≤ q → (fun q : Nat => s.heap.size ≤ q) q := fun _ h => h
  have hA0 : ∀ q : Nat, (fun q : Nat => s.heap.size ≤ q) q → s.heap.size ≤ q := fun _ h => h
  have hn0 : s.heap.size ≤ s.heap.size := Nat.le_refl _
  have hbA : ¬ (fun q : Nat => s.heap.size ≤ q) b := Nat.not_le.mpr hbl
  have hrl0 := rel0 hrl
  refine lv_aload_n hx hb dL_law_722 rfl (lv_at hl 3 rfl) ?_
  have hPc := ap_l hP
  have hDc := ad_l hD
  have hKc := hKx
  have hFc := fr_O hDc hS hA
  obtain ⟨fs9, hrc⟩ := XI_rc hXI
  refine va_calli (va_runV (As := []) (rest := []) ⟨hx, hb, hml, hown, hts⟩ (X_setting l dC dI s.heap.size atx H.size ad ka x0 Gx wx tx  hXI ) (cwV 0 hts (gV (fun w h => id h) wd_1187 wd_1184 wd_1185 wd_1186 wd_114) rfl rfl rfl (by decide +kernel) ⟨Nat.le_of_ble_eq_true rfl, Nat.le_of_ble_eq_true rfl⟩) ⟨fun a U g mk q => by obtain ⟨q0, q1, q2, qG, qP, qK, qD⟩ := q; exact ⟨q0, q1, q2, GW.blind qG, qP, va_K.moved (u := U) (U := U.calling g mk a) (Vm.Alike.refl U.vm) qK, qD⟩, va_recv hKc hPc (ci := 11) (q0 := 0) rfl hrc, fun U hU hW => ⟨rfl, by rw [hU], Nat.le_trans hn0 hS.1, GW.go hW hU hG (fun q hq hA9 => hS.2.1 q hq (fun h => hA9 (hA0 q h))), by rw [hU]; exact hPc, va_K.moved hW.alike hKc, hDc.weaken (fun _ _ _ h => hA0 _ h)⟩⟩ rfl rfl hl.1 rfl (lv_room (Nat.le_of_ble_eq_true rfl)) dL_law_723 ⟨(by show _ ≤ (601024 : Nat); omega), (by show _ ≤ (7293034 : Nat); omega)⟩) hS (fun q _ h => hFc q h) hFc (fun r_1 u t H1 locs ht hvm hw_1 hB hz1 hk1 hS => ?_)
  subst hw_1
  obtain ⟨Gx_1, wx_1, tx_1, hIx_1, hrel_1, hP1, hK1, hD1⟩ := hB
  rw [ht] at hP1
  obtain ⟨hP, hD⟩ := jo_l hP hD hk1 hFc hP1 hD1
  have hKx_1 := va_K.moved hvm.symm hK1
  generalize H1 = H at hP hS ⊢
  refine lv_pop hx hb dL_law_726 rfl ?_
  refine lv_aload_n hx hb dL_law_727 rfl (lv_at hl 2 rfl) ?_
  rcases hMI with hMI | hMI
  · skip
    have hPc := ap_r hP
    have hDc := ad_r hD
    have hKc := hKm
    have hFc := fr_O hDc hS hA
    obtain ⟨fs9, hrc⟩ := MZ_rc hMI
    refine va_calli (va_runV (As := []) (rest := []) ⟨hx, hb, hml, hown, hts⟩ (Z_setting l dC dI s.heap.size atx H.size md mk9 m0 Gm wm tm  hMI ) (cwV 0 hts (gV (fun w h => id h) wd_2014 wd_2011 wd_2012 wd_2013 wd_127) rfl rfl rfl (by decide +kernel) ⟨Nat.le_of_ble_eq_true rfl, Nat.le_of_ble_eq_true rfl⟩) ⟨fun a U g mk q => by obtain ⟨q0, q1, q2, qG, qP, qK, qD⟩ := q; exact ⟨q0, q1, q2, GW.blind qG, qP, va_K.moved (u := U) (U := U.calling g mk a) (Vm.Alike.refl U.vm) qK, qD⟩, va_recv hKc hPc (ci := 14) (q0 := 0) rfl hrc, fun U hU hW => ⟨rfl, by rw [hU], Nat.le_trans hn0 hS.1, GW.go hW hU hG (fun q hq hA9 => hS.2.1 q hq (fun h => hA9 (hA0 q h))), by rw [hU]; exact hPc, va_K.moved hW.alike hKc, hDc.weaken (fun _ _ _ h => hA0 _ h)⟩⟩ rfl rfl hl.1 rfl (lv_room (Nat.le_of_ble_eq_true rfl)) dL_law_728 ⟨(by show _ ≤ (601024 : Nat); omega), (by show _ ≤ (7293034 : Nat); omega)⟩) hS (fun q _ h => hFc q h) hFc (fun r_2 u t H1 locs ht hvm hw_2 hB hz1 hk1 hS => ?_)
    subst hw_2
    obtain ⟨Gm_2, wm_2, tm_2, hIm_2, hrel_2, hP1, hK1, hD1⟩ := hB
    rw [ht] at hP1
    obtain ⟨hP, hD⟩ := jo_r hP hD hk1 hFc hP1 hD1
    have hKm_2 := va_K.moved hvm.symm hK1
    generalize H1 = H at hP hS ⊢
    refine lv_pop hx hb dL_law_731 rfl ?_
    refine lv_goto (tgt := 1049) hx hb dL_law_732 (by decide) ?_
    refine lv_iinc (v := (nI (i + 6))) (lv' := [(4, .int (nI (i + 6))), (3, .ref (ad 104)), (2, .ref m0), (1, .ref x0), (0, .ref b)]) hx hb dL_law_1049 hl (k := 0) rfl (nI_add _ 6) (by decide) rfl (fun ls hl => ?_)
    refine lv_goto (tgt := 23) hx hb dL_law_1052 (by decide) ?_
    refine W.widen (k := 150 + 23 * (i + 6)) (n := 3000 + 300 * (i + 6)) (by omega) (by omega) ?_
    exact K _ _ _ ⟨by omega, Gx_1, Gm_2, wx_1, wm_2, tx_1, tm_2, hIx_1, (Or.inl hIm_2), (rel_l hrl hrel_1.2.1 hrel_2.2.1 hrel_1.2.2 hrel_2.2.2), hKx_1, hKm_2, hP, hD, hS, lv_sub hl [0, 1, 2, 3, 4] rfl⟩
  · skip
    have hPc := ap_r hP
    have hDc := ad_r hD
    have hKc := hKm
    have hFc := fr_O hDc hS hA
    obtain ⟨fs9, hrc⟩ := MB_rc hMI
    refine va_calli (va_runV (As := []) (rest := []) ⟨hx, hb, hml, hown, hts⟩ (B_setting l dC dI s.heap.size atx H.size md mk9 m0 Gm wm tm  hMI ) (cwV 0 hts (gV (fun w h => id h) wd_2014 wd_2011 wd_2012 wd_2013 wd_127) rfl rfl rfl (by decide +kernel) ⟨Nat.le_of_ble_eq_true rfl, Nat.le_of_ble_eq_true rfl⟩) ⟨fun a U g mk q => by obtain ⟨q0, q1, q2, qG, qP, qK, qD⟩ := q; exact ⟨q0, q1, q2, GW.blind qG, qP, va_K.moved (u := U) (U := U.calling g mk a) (Vm.Alike.refl U.vm) qK, qD⟩, va_recv hKc hPc (ci := 14) (q0 := 0) rfl hrc, fun U hU hW => ⟨rfl, by rw [hU], Nat.le_trans hn0 hS.1, GW.go hW hU hG (fun q hq hA9 => hS.2.1 q hq (fun h => hA9 (hA0 q h))), by rw [hU]; exact hPc, va_K.moved hW.alike hKc, hDc.weaken (fun _ _ _ h => hA0 _ h)⟩⟩ rfl rfl hl.1 rfl (lv_room (Nat.le_of_ble_eq_true rfl)) dL_law_728 ⟨(by show _ ≤ (601024 : Nat); omega), (by show _ ≤ (7293034 : Nat); omega)⟩) hS (fun q _ h => hFc q h) hFc (fun r_3 u t H1 locs ht hvm hw_3 hB hz1 hk1 hS => ?_)
    subst hw_3
    obtain ⟨Gm_3, wm_3, tm_3, hIm_3, hrel_3, hP1, hK1, hD1⟩ := hB
    rw [ht] at hP1
    obtain ⟨hP, hD⟩ := jo_r hP hD hk1 hFc hP1 hD1
    have hKm_3 := va_K.moved hvm.symm hK1
    generalize H1 = H at hP hS ⊢
    refine lv_pop hx hb dL_law_731 rfl ?_
    refine lv_goto (tgt := 1049) hx hb dL_law_732 (by decide) ?_
    refine lv_iinc (v := (nI (i + 6))) (lv' := [(4, .int (nI (i + 6))), (3, .ref (ad 104)), (2, .ref m0), (1, .ref x0), (0, .ref b)]) hx hb dL_law_1049 hl (k := 0) rfl (nI_add _ 6) (by decide) rfl (fun ls hl => ?_)
    refine lv_goto (tgt := 23) hx hb dL_law_1052 (by decide) ?_
    refine W.widen (k := 150 + 23 * (i + 6)) (n := 3000 + 300 * (i + 6)) (by omega) (by omega) ?_
    exact K _ _ _ ⟨by omega, Gx_1, Gm_3, wx_1, wm_3, tx_1, tm_3, hIx_1, (Or.inr hIm_3), (rel_l hrl hrel_1.2.1 hrel_3.2.1 hrel_1.2.2 hrel_3.2.2), hKx_1, hKm_3, hP, hD, hS, lv_sub hl [0, 1, 2, 3, 4] rfl⟩
set_option maxHeartbeats 4000000 in
set_option maxRecDepth 100000 in
theorem law_19 {p : Program} {l : Launch} {e : Env} {s : State} {m : MethodId} {below : List Frame} {meth : Method} {c : Code} {dC : Nat → ClassId} {dI : Nat → Nat → Nat} {b L : Nat} {xs : Nat → Int32} (hst : l.stackTraces = false) (hL : L ≤ 3072) (C0 : lw_At p s m meth c b L xs) (atx : Nat → Nat × Nat) (hG : GW s.heap.size atx s) (ad : Nat → Nat) (ka : Nat → ClassId) (x0 : Nat) (md : Nat → Nat) (mk9 : Nat → ClassId) (m0 : Nat) (i : Nat) (hi : i + 6 ≤ L) (K : ∀ (H : Heap) (locs : List Loc) (ls : Array Slot), LV dC dI s b L ad ka x0 md mk9 m0 (i + 6) H locs ls → W p l e room_1 s m #[Value.ref b] below meth c H locs (150 + 23 * (i + 6)) (3000 + 300 * (i + 6)) (lw_Z below #[Value.ref b] s) (F0 m 23 ls [])) (H : Heap) (locs : List Loc) (ls : Array Slot) (Gx Gm : Nat → Int) (wx wm : va_W) (tx tm : List (ClassId × FieldType)) (hXI : XI ad ka x0 Gx wx tx) (hMI : MZ md mk9 m0 Gm wm tm ∨ MB md mk9 m0 Gm wm tm) (hrl : REL Gx Gm) (hKx : va_K (dC, dI) classes tx s) (hKm : va_K (dC, dI) classes tm s) (hP : va_P (dC, dI) classes (wx ++ wm) H) (hD : va_D (fun q : Nat => s.heap.size ≤ q) (wx ++ wm)) (hS : va_S (fun q : Nat => s.heap.size ≤ q) s.heap H locs) (hl : lv_has ls 7 [(4, .int (nI i)), (3, .ref (ad 104)), (2, .ref m0), (1, .ref x0), (0, .ref b)]) : W p l e room_1 s m #[Value.ref b] below meth c H locs (150 + 23 * i) (3000 + 300 * i) (lw_Z below #[Value.ref b] s) (F0 m 735 ls []) := by
  obtain ⟨hx, hb, hr, hml, hown, hts0, hX, hbl, hlocks, hgv⟩ := C0
  have hts : ∀ w ∈ wG, w.before #[Value.ref b] s = true := fun w h => hts0 w (wG_t h)
  have hA : ∀ q : Nat, s.heap.size ≤ q → (fun q : Nat => s.heap.size ≤ q) q := fun _ h => h
  have hA0 : ∀ q : Nat, (fun q : Nat => s.heap.size ≤ q) q → s.heap.size ≤ q := fun _ h => h
  have hn0 : s.heap.size ≤ s.heap.size := Nat.le_refl _
  have hbA : ¬ (fun q : Nat => s.heap.size ≤ q) b := Nat.not_le.mpr hbl
  have hrl0 := rel0 hrl
  refine lv_aload_n hx hb dL_law_735 rfl (lv_at hl 3 rfl) ?_
  refine lv_aload_n hx hb dL_law_736 rfl (lv_at hl 4 rfl) ?_
  refine lv_iload hx hb dL_law_737 (lv_at hl 0 rfl) ?_
  refine lv_iconst (v := 1) hx hb dL_law_739 (by decide) ?_
  refine lv_iadd hx hb dL_law_740 ?_
  refine lv_topi (fun v_1 ev_1 => ?_)
  obtain rfl : v_1 = nI (i + 1) := ev_1.trans (nI_add i 1)
  refine va_sld hx hb hX hbl hbA hS (vp_in_nI (n := (i + 1)) (by omega) (by omega)) dL_law_741 ?_
  refine lv_topi (fun v_2 ev_2 => ?_)
  have hPc := ap_l hP
  have hDc := ad_l hD
  have hKc := hKx
  have hFc := fr_O hDc hS hA
  obtain ⟨fs9, hrc⟩ := XI_rc hXI
  refine va_calli (va_runV (As := [.int v_2]) (rest := []) ⟨hx, hb, hml, hown, hts⟩ (X_smoke l dC dI s.heap.size atx H.size ad ka x0 Gx wx tx v_2 hXI ) (cwV 1 hts (gV (fun w h => id h) wd_1214 wd_1211 wd_1212 wd_1213 wd_114) rfl rfl rfl (by decide +kernel) ⟨Nat.le_of_ble_eq_true rfl, Nat.le_of_ble_eq_true rfl⟩) ⟨fun a U g mk q => by obtain ⟨q0, q1, q2, qG, qP, qK, qD⟩ := q; exact ⟨q0, q1, q2, GW.blind qG, qP, va_K.moved (u := U) (U := U.calling g mk a) (Vm.Alike.refl U.vm) qK, qD⟩, va_recv hKc hPc (ci := 11) (q0 := 0) rfl hrc, fun U hU hW => ⟨rfl, by rw [hU], Nat.le_trans hn0 hS.1, GW.go hW hU hG (fun q hq hA9 => hS.2.1 q hq (fun h => hA9 (hA0 q h))), by rw [hU]; exact hPc, va_K.moved hW.alike hKc, hDc.weaken (fun _ _ _ h => hA0 _ h)⟩⟩ rfl rfl hl.1 rfl (lv_room (Nat.le_of_ble_eq_true rfl)) dL_law_742 ⟨(by show _ ≤ (601024 : Nat); omega), (by show _ ≤ (7293034 : Nat); omega)⟩) hS (fun q _ h => hFc q h) hFc (fun r_3 u t H1 locs ht hvm hw_3 hB hz1 hk1 hS => ?_)
  subst hw_3
  obtain ⟨Gx_3, wx_3, tx_3, hIx_3, hrel_3, hP1, hK1, hD1⟩ := hB
  rw [ht] at hP1
  obtain ⟨hP, hD⟩ := jo_l hP hD hk1 hFc hP1 hD1
  have hKx_3 := va_K.moved hvm.symm hK1
  generalize H1 = H at hP hS ⊢
  refine lv_pop hx hb dL_law_745 rfl ?_
  refine lv_aload_n hx hb dL_law_746 rfl (lv_at hl 2 rfl) ?_
  refine lv_aload_n hx hb dL_law_747 rfl (lv_at hl 4 rfl) ?_
  refine lv_iload hx hb dL_law_748 (lv_at hl 0 rfl) ?_
  refine lv_iconst (v := 1) hx hb dL_law_750 (by decide) ?_
  refine lv_iadd hx hb dL_law_751 ?_
  refine lv_topi (fun v_4 ev_4 => ?_)
  obtain rfl : v_4 = nI (i + 1) := ev_4.trans (nI_add i 1)
  refine va_sld hx hb hX hbl hbA hS (vp_in_nI (n := (i + 1)) (by omega) (by omega)) dL_law_752 ?_
  refine lv_topi (fun v_5 ev_5 => ?_)
  obtain rfl : v_2 = v_5 := (ev_5.trans ev_2.symm).symm
  rcases hMI with hMI | hMI
  · skip
    have hPc := ap_r hP
    have hDc := ad_r hD
    have hKc := hKm
    have hFc := fr_O hDc hS hA
    obtain ⟨fs9, hrc⟩ := MZ_rc hMI
    refine va_calli (va_runV (As := [.int v_2]) (rest := []) ⟨hx, hb, hml, hown, hts⟩ (Z_smoke l dC dI s.heap.size atx H.size md mk9 m0 Gm wm tm v_2 hMI ) (cwV 1 hts (gV (fun w h => id h) wd_2018 wd_2015 wd_2016 wd_2017 wd_127) rfl rfl rfl (by decide +kernel) ⟨Nat.le_of_ble_eq_true rfl, Nat.le_of_ble_eq_true rfl⟩) ⟨fun a U g mk q => by obtain ⟨q0, q1, q2, qG, qP, qK, qD⟩ := q; exact ⟨q0, q1, q2, GW.blind qG, qP, va_K.moved (u := U) (U := U.calling g mk a) (Vm.Alike.refl U.vm) qK, qD⟩, va_recv hKc hPc (ci := 14) (q0 := 0) rfl hrc, fun U hU hW => ⟨rfl, by rw [hU], Nat.le_trans hn0 hS.1, GW.go hW hU hG (fun q hq hA9 => hS.2.1 q hq (fun h => hA9 (hA0 q h))), by rw [hU]; exact hPc, va_K.moved hW.alike hKc, hDc.weaken (fun _ _ _ h => hA0 _ h)⟩⟩ rfl rfl hl.1 rfl (lv_room (Nat.le_of_ble_eq_true rfl)) dL_law_753 ⟨(by show _ ≤ (601024 : Nat); omega), (by show _ ≤ (7293034 : Nat); omega)⟩) hS (fun q _ h => hFc q h) hFc (fun r_6 u t H1 locs ht hvm hw_6 hB hz1 hk1 hS => ?_)
    subst hw_6
    obtain ⟨Gm_6, wm_6, tm_6, hIm_6, hrel_6, hP1, hK1, hD1⟩ := hB
    rw [ht] at hP1
    obtain ⟨hP, hD⟩ := jo_r hP hD hk1 hFc hP1 hD1
    have hKm_6 := va_K.moved hvm.symm hK1
    generalize H1 = H at hP hS ⊢
    refine lv_pop hx hb dL_law_756 rfl ?_
    refine lv_goto (tgt := 1049) hx hb dL_law_757 (by decide) ?_
    refine lv_iinc (v := (nI (i + 6))) (lv' := [(4, .int (nI (i + 6))), (3, .ref (ad 104)), (2, .ref m0), (1, .ref x0), (0, .ref b)]) hx hb dL_law_1049 hl (k := 0) rfl (nI_add _ 6) (by decide) rfl (fun ls hl => ?_)
    refine lv_goto (tgt := 23) hx hb dL_law_1052 (by decide) ?_
    refine W.widen (k := 150 + 23 * (i + 6)) (n := 3000 + 300 * (i + 6)) (by omega) (by omega) ?_
    exact K _ _ _ ⟨by omega, Gx_3, Gm_6, wx_3, wm_6, tx_3, tm_6, hIx_3, (Or.inl hIm_6), (rel_l hrl hrel_3.2.1 hrel_6.2.1 hrel_3.2.2 hrel_6.2.2), hKx_3, hKm_6, hP, hD, hS, lv_sub hl [0, 1, 2, 3, 4] rfl⟩
  · skip
    have hPc := ap_r hP
    have hDc := ad_r hD
    have hKc := hKm
    have hFc := fr_O hDc hS hA
    obtain ⟨fs9, hrc⟩ := MB_rc hMI
    refine va_calli (va_runV (As := [.int v_2]) (rest := []) ⟨hx, hb, hml, hown, hts⟩ (B_smoke l dC dI s.heap.size atx H.size md mk9 m0 Gm wm tm v_2 hMI ) (cwV 1 hts (gV (fun w h => id h) wd_2018 wd_2015 wd_2016 wd_2017 wd_127) rfl rfl rfl (by decide +kernel) ⟨Nat.le_of_ble_eq_true rfl, Nat.le_of_ble_eq_true rfl⟩) ⟨fun a U g mk q => by obtain ⟨q0, q1, q2, qG, qP, qK, qD⟩ := q; exact ⟨q0, q1, q2, GW.blind qG, qP, va_K.moved (u := U) (U := U.calling g mk a) (Vm.Alike.refl U.vm) qK, qD⟩, va_recv hKc hPc (ci := 14) (q0 := 0) rfl hrc, fun U hU hW => ⟨rfl, by rw [hU], Nat.le_trans hn0 hS.1, GW.go hW hU hG (fun q hq hA9 => hS.2.1 q hq (fun h => hA9 (hA0 q h))), by rw [hU]; exact hPc, va_K.moved hW.alike hKc, hDc.weaken (fun _ _ _ h => hA0 _ h)⟩⟩ rfl rfl hl.1 rfl (lv_room (Nat.le_of_ble_eq_true rfl)) dL_law_753 ⟨(by show _ ≤ (601024 : Nat); omega), (by show _ ≤ (7293034 : Nat); omega)⟩) hS (fun q _ h => hFc q h) hFc (fun r_7 u t H1 locs ht hvm hw_7 hB hz1 hk1 hS => ?_)
    subst hw_7
    obtain ⟨Gm_7, wm_7, tm_7, hIm_7, hrel_7, hP1, hK1, hD1⟩ := hB
    rw [ht] at hP1
    obtain ⟨hP, hD⟩ := jo_r hP hD hk1 hFc hP1 hD1
    have hKm_7 := va_K.moved hvm.symm hK1
    generalize H1 = H at hP hS ⊢
    refine lv_pop hx hb dL_law_756 rfl ?_
    refine lv_goto (tgt := 1049) hx hb dL_law_757 (by decide) ?_
    refine lv_iinc (v := (nI (i + 6))) (lv' := [(4, .int (nI (i + 6))), (3, .ref (ad 104)), (2, .ref m0), (1, .ref x0), (0, .ref b)]) hx hb dL_law_1049 hl (k := 0) rfl (nI_add _ 6) (by decide) rfl (fun ls hl => ?_)
    refine lv_goto (tgt := 23) hx hb dL_law_1052 (by decide) ?_
    refine W.widen (k := 150 + 23 * (i + 6)) (n := 3000 + 300 * (i + 6)) (by omega) (by omega) ?_
    exact K _ _ _ ⟨by omega, Gx_3, Gm_7, wx_3, wm_7, tx_3, tm_7, hIx_3, (Or.inr hIm_7), (rel_l hrl hrel_3.2.1 hrel_7.2.1 hrel_3.2.2 hrel_7.2.2), hKx_3, hKm_7, hP, hD, hS, lv_sub hl [0, 1, 2, 3, 4] rfl⟩
