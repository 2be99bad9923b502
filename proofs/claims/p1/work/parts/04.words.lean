theorem wd_objInit : Cond.code objectInit ⟨#[0xb1]⟩ 1 none ∈ wG := wG_of 147 (by decide +kernel) (by decide +kernel)
theorem wd_0 : Cond.selects "MineAir" (⟨"MineAir", "refuse", "(I)I"⟩ : MethodName) (⟨"MineAir", "refuse", "(I)I"⟩ : MethodName) ∈ wG := wG_of 0 (by decide +kernel) (by decide +kernel)
theorem wd_23 : Cond.selects "MineAir" (⟨"MineAir", "forgetVerdicts", "()V"⟩ : MethodName) (⟨"MineAir", "forgetVerdicts", "()V"⟩ : MethodName) ∈ wG := wG_of 23 (by decide +kernel) (by decide +kernel)
theorem wd_25 : Cond.selects "MineAir" (⟨"MineAir", "isWay", "(I)Z"⟩ : MethodName) (⟨"MineAir", "isWay", "(I)Z"⟩ : MethodName) ∈ wG := wG_of 25 (by decide +kernel) (by decide +kernel)
theorem wd_26 : Cond.selects "MineAir" (⟨"MineAir", "isDoor", "(I)Z"⟩ : MethodName) (⟨"MineAir", "isDoor", "(I)Z"⟩ : MethodName) ∈ wG := wG_of 26 (by decide +kernel) (by decide +kernel)
theorem wd_27 : Cond.selects "MineAir" (⟨"MineAir", "deny", "(I)Z"⟩ : MethodName) (⟨"MineAir", "deny", "(I)Z"⟩ : MethodName) ∈ wG := wG_of 27 (by decide +kernel) (by decide +kernel)
theorem wd_28 : Cond.selects "MineAir" (⟨"MineAir", "allow", "()Z"⟩ : MethodName) (⟨"MineAir", "allow", "()Z"⟩ : MethodName) ∈ wG := wG_of 28 (by decide +kernel) (by decide +kernel)
theorem wd_29 : Cond.selects "MineAir" (⟨"MineAir", "isFan", "(I)Z"⟩ : MethodName) (⟨"MineAir", "isFan", "(I)Z"⟩ : MethodName) ∈ wG := wG_of 29 (by decide +kernel) (by decide +kernel)
theorem wd_39 : Cond.selects "MineAir" (⟨"MineAir", "isBooked", "()Z"⟩ : MethodName) (⟨"MineAir", "isBooked", "()Z"⟩ : MethodName) ∈ wG := wG_of 39 (by decide +kernel) (by decide +kernel)
theorem wd_49 : Cond.selects "MineAir" (⟨"MineAir", "isMan", "(I)Z"⟩ : MethodName) (⟨"MineAir", "isMan", "(I)Z"⟩ : MethodName) ∈ wG := wG_of 49 (by decide +kernel) (by decide +kernel)
theorem wd_52 : Cond.selects "MineAir" (⟨"MineAir", "isTarget", "(II)Z"⟩ : MethodName) (⟨"MineAir", "isTarget", "(II)Z"⟩ : MethodName) ∈ wG := wG_of 52 (by decide +kernel) (by decide +kernel)
theorem wd_114 : Cond.initialized "MineAir" ∈ wG := wG_of 114 (by decide +kernel) (by decide +kernel)
theorem wd_117 : Cond.initialized "MineAir$Reader" ∈ wG := wG_of 117 (by decide +kernel) (by decide +kernel)
theorem wd_123 : Cond.initialized "MineAir$Plan" ∈ wG := wG_of 123 (by decide +kernel) (by decide +kernel)
theorem wd_163 : Cond.fieldLink "MineAir" 317 "MineAir$Gear" "doors" "I" ∈ wG := wG_of 163 (by decide +kernel) (by decide +kernel)
theorem wd_171 : Cond.fieldLink "MineAir" 322 "MineAir$Gear" "pairs" "I" ∈ wG := wG_of 171 (by decide +kernel) (by decide +kernel)
theorem wd_182 : Cond.fieldLink "MineAir" 325 "MineAir$Gear" "fans" "I" ∈ wG := wG_of 182 (by decide +kernel) (by decide +kernel)
theorem wd_197 : Cond.fieldLink "MineAir" 328 "MineAir$Gear" "faces" "I" ∈ wG := wG_of 197 (by decide +kernel) (by decide +kernel)
theorem wd_243 : Cond.fieldLink "MineAir" 121 "MineAir$Book" "ways" "I" ∈ wG := wG_of 243 (by decide +kernel) (by decide +kernel)
theorem wd_287 : Cond.fieldLink "MineAir" 268 "MineAir$Book" "knots" "I" ∈ wG := wG_of 287 (by decide +kernel) (by decide +kernel)
theorem wd_292 : Cond.fieldLink "MineAir" 331 "MineAir$Book" "day" "I" ∈ wG := wG_of 292 (by decide +kernel) (by decide +kernel)
theorem wd_299 : Cond.fieldLink "MineAir" 313 "MineAir$Book" "gear" "LMineAir$Gear;" ∈ wG := wG_of 299 (by decide +kernel) (by decide +kernel)
theorem wd_333 : Cond.fieldLink "MineAir$Reader" 9 "MineAir$Reader" "tape" "[I" ∈ wG := wG_of 333 (by decide +kernel) (by decide +kernel)
theorem wd_334 : Cond.fieldLink "MineAir" 79 "MineAir$Reader" "fed" "I" ∈ wG := wG_of 334 (by decide +kernel) (by decide +kernel)
theorem wd_335 : Cond.fieldLink "MineAir$Reader" 32 "MineAir$Reader" "fed" "I" ∈ wG := wG_of 335 (by decide +kernel) (by decide +kernel)
theorem wd_407 : Cond.fieldLink "MineAir" 194 "MineAir$State" "mark" "I" ∈ wG := wG_of 407 (by decide +kernel) (by decide +kernel)
theorem wd_541 : Cond.fieldLink "MineAir" 337 "MineAir$Trials" "settingKnown" "Z" ∈ wG := wG_of 541 (by decide +kernel) (by decide +kernel)
theorem wd_573 : Cond.fieldLink "MineAir" 114 "MineAir$Plan" "count" "I" ∈ wG := wG_of 573 (by decide +kernel) (by decide +kernel)
theorem wd_583 : Cond.fieldLink "MineAir$Plan" 38 "MineAir$Plan" "found" "I" ∈ wG := wG_of 583 (by decide +kernel) (by decide +kernel)
theorem wd_614 : Cond.fieldLink "MineAir" 111 "MineAir$Flight" "men" "I" ∈ wG := wG_of 614 (by decide +kernel) (by decide +kernel)
theorem wd_650 : Cond.fieldLink "MineAir" 117 "MineAir$Readings" "count" "I" ∈ wG := wG_of 650 (by decide +kernel) (by decide +kernel)
theorem wd_670 : Cond.fieldLink "MineAir" 24 "MineAir" "reader" "LMineAir$Reader;" ∈ wG := wG_of 670 (by decide +kernel) (by decide +kernel)
theorem wd_672 : Cond.fieldLink "MineAir" 16 "MineAir" "book" "LMineAir$Book;" ∈ wG := wG_of 672 (by decide +kernel) (by decide +kernel)
theorem wd_673 : Cond.fieldLink "MineAir" 31 "MineAir" "state" "LMineAir$State;" ∈ wG := wG_of 673 (by decide +kernel) (by decide +kernel)
theorem wd_675 : Cond.fieldLink "MineAir" 49 "MineAir" "trials" "LMineAir$Trials;" ∈ wG := wG_of 675 (by decide +kernel) (by decide +kernel)
theorem wd_676 : Cond.fieldLink "MineAir" 58 "MineAir" "plan" "LMineAir$Plan;" ∈ wG := wG_of 676 (by decide +kernel) (by decide +kernel)
theorem wd_677 : Cond.fieldLink "MineAir" 65 "MineAir" "flight" "LMineAir$Flight;" ∈ wG := wG_of 677 (by decide +kernel) (by decide +kernel)
theorem wd_678 : Cond.fieldLink "MineAir" 72 "MineAir" "readings" "LMineAir$Readings;" ∈ wG := wG_of 678 (by decide +kernel) (by decide +kernel)
theorem wd_679 : Cond.fieldLink "MineAir" 127 "MineAir" "trouble" "I" ∈ wG := wG_of 679 (by decide +kernel) (by decide +kernel)
theorem wd_680 : Cond.fieldLink "MineAir" 98 "MineAir" "fault" "I" ∈ wG := wG_of 680 (by decide +kernel) (by decide +kernel)
theorem wd_711 : Cond.methodLink "MineAir" 83 (⟨"MineAir$Reader", "append", "(I)V"⟩ : MethodName) ∈ wG := wG_of 711 (by decide +kernel) (by decide +kernel)
theorem wd_712 : Cond.instanceMethod (⟨"MineAir$Reader", "append", "(I)V"⟩ : MethodName) ∈ wG := wG_of 712 (by decide +kernel) (by decide +kernel)
theorem wd_713 : Cond.selects "MineAir$Reader" (⟨"MineAir$Reader", "append", "(I)V"⟩ : MethodName) (⟨"MineAir$Reader", "append", "(I)V"⟩ : MethodName) ∈ wG := wG_of 713 (by decide +kernel) (by decide +kernel)
theorem wd_714 : Cond.code (⟨"MineAir$Reader", "append", "(I)V"⟩ : MethodName) prog_9_method_2_code 3 (Option.none : Option Jvm.ClassFile.FieldType) ∈ wG := wG_of 714 (by decide +kernel) (by decide +kernel)
theorem wd_719 : Cond.methodLink "MineAir" 87 (⟨"MineAir", "refuse", "(I)I"⟩ : MethodName) ∈ wG := wG_of 719 (by decide +kernel) (by decide +kernel)
theorem wd_721 : Cond.instanceMethod (⟨"MineAir", "refuse", "(I)I"⟩ : MethodName) ∈ wG := wG_of 721 (by decide +kernel) (by decide +kernel)
theorem wd_722 : Cond.code (⟨"MineAir", "refuse", "(I)I"⟩ : MethodName) prog_1_method_32_code 2 (Option.some Jvm.ClassFile.FieldType.int) ∈ wG := wG_of 722 (by decide +kernel) (by decide +kernel)
theorem wd_922 : Cond.methodLink "MineAir" 197 (⟨"MineAir", "forgetVerdicts", "()V"⟩ : MethodName) ∈ wG := wG_of 922 (by decide +kernel) (by decide +kernel)
theorem wd_924 : Cond.instanceMethod (⟨"MineAir", "forgetVerdicts", "()V"⟩ : MethodName) ∈ wG := wG_of 924 (by decide +kernel) (by decide +kernel)
theorem wd_925 : Cond.code (⟨"MineAir", "forgetVerdicts", "()V"⟩ : MethodName) prog_1_method_37_code 1 (Option.none : Option Jvm.ClassFile.FieldType) ∈ wG := wG_of 925 (by decide +kernel) (by decide +kernel)
theorem wd_926 : Cond.methodLink "MineAir" 340 (⟨"MineAir$Plan", "forget", "()V"⟩ : MethodName) ∈ wG := wG_of 926 (by decide +kernel) (by decide +kernel)
theorem wd_927 : Cond.instanceMethod (⟨"MineAir$Plan", "forget", "()V"⟩ : MethodName) ∈ wG := wG_of 927 (by decide +kernel) (by decide +kernel)
theorem wd_928 : Cond.selects "MineAir$Plan" (⟨"MineAir$Plan", "forget", "()V"⟩ : MethodName) (⟨"MineAir$Plan", "forget", "()V"⟩ : MethodName) ∈ wG := wG_of 928 (by decide +kernel) (by decide +kernel)
theorem wd_929 : Cond.code (⟨"MineAir$Plan", "forget", "()V"⟩ : MethodName) prog_8_method_2_code 1 (Option.none : Option Jvm.ClassFile.FieldType) ∈ wG := wG_of 929 (by decide +kernel) (by decide +kernel)
theorem wd_947 : Cond.methodLink "MineAir" 130 (⟨"MineAir", "isWay", "(I)Z"⟩ : MethodName) ∈ wG := wG_of 947 (by decide +kernel) (by decide +kernel)
theorem wd_949 : Cond.instanceMethod (⟨"MineAir", "isWay", "(I)Z"⟩ : MethodName) ∈ wG := wG_of 949 (by decide +kernel) (by decide +kernel)
theorem wd_950 : Cond.code (⟨"MineAir", "isWay", "(I)Z"⟩ : MethodName) prog_1_method_40_code 2 (Option.some Jvm.ClassFile.FieldType.boolean) ∈ wG := wG_of 950 (by decide +kernel) (by decide +kernel)
theorem wd_951 : Cond.constant "MineAir" 133 (-2147483648) ∈ wG := wG_of 951 (by decide +kernel) (by decide +kernel)
theorem wd_956 : Cond.methodLink "MineAir" 156 (⟨"MineAir", "orNotSo", "(I)I"⟩ : MethodName) ∈ wG := wG_of 956 (by decide +kernel) (by decide +kernel)
theorem wd_957 : Cond.static (⟨"MineAir", "orNotSo", "(I)I"⟩ : MethodName) ∈ wG := wG_of 957 (by decide +kernel) (by decide +kernel)
theorem wd_958 : Cond.code (⟨"MineAir", "orNotSo", "(I)I"⟩ : MethodName) prog_1_method_46_code 1 (Option.some Jvm.ClassFile.FieldType.int) ∈ wG := wG_of 958 (by decide +kernel) (by decide +kernel)
theorem wd_963 : Cond.methodLink "MineAir" 172 (⟨"MineAir", "isDoor", "(I)Z"⟩ : MethodName) ∈ wG := wG_of 963 (by decide +kernel) (by decide +kernel)
theorem wd_965 : Cond.instanceMethod (⟨"MineAir", "isDoor", "(I)Z"⟩ : MethodName) ∈ wG := wG_of 965 (by decide +kernel) (by decide +kernel)
theorem wd_966 : Cond.code (⟨"MineAir", "isDoor", "(I)Z"⟩ : MethodName) prog_1_method_41_code 2 (Option.some Jvm.ClassFile.FieldType.boolean) ∈ wG := wG_of 966 (by decide +kernel) (by decide +kernel)
theorem wd_967 : Cond.methodLink "MineAir" 175 (⟨"MineAir", "deny", "(I)Z"⟩ : MethodName) ∈ wG := wG_of 967 (by decide +kernel) (by decide +kernel)
theorem wd_969 : Cond.instanceMethod (⟨"MineAir", "deny", "(I)Z"⟩ : MethodName) ∈ wG := wG_of 969 (by decide +kernel) (by decide +kernel)
theorem wd_970 : Cond.code (⟨"MineAir", "deny", "(I)Z"⟩ : MethodName) prog_1_method_34_code 2 (Option.some Jvm.ClassFile.FieldType.boolean) ∈ wG := wG_of 970 (by decide +kernel) (by decide +kernel)
theorem wd_971 : Cond.methodLink "MineAir" 181 (⟨"MineAir", "allow", "()Z"⟩ : MethodName) ∈ wG := wG_of 971 (by decide +kernel) (by decide +kernel)
theorem wd_973 : Cond.instanceMethod (⟨"MineAir", "allow", "()Z"⟩ : MethodName) ∈ wG := wG_of 973 (by decide +kernel) (by decide +kernel)
theorem wd_974 : Cond.code (⟨"MineAir", "allow", "()Z"⟩ : MethodName) prog_1_method_35_code 1 (Option.some Jvm.ClassFile.FieldType.boolean) ∈ wG := wG_of 974 (by decide +kernel) (by decide +kernel)
theorem wd_979 : Cond.methodLink "MineAir" 185 (⟨"MineAir", "isFan", "(I)Z"⟩ : MethodName) ∈ wG := wG_of 979 (by decide +kernel) (by decide +kernel)
theorem wd_981 : Cond.instanceMethod (⟨"MineAir", "isFan", "(I)Z"⟩ : MethodName) ∈ wG := wG_of 981 (by decide +kernel) (by decide +kernel)
theorem wd_982 : Cond.code (⟨"MineAir", "isFan", "(I)Z"⟩ : MethodName) prog_1_method_42_code 2 (Option.some Jvm.ClassFile.FieldType.boolean) ∈ wG := wG_of 982 (by decide +kernel) (by decide +kernel)
theorem wd_1065 : Cond.methodLink "MineAir" 212 (⟨"MineAir", "isBooked", "()Z"⟩ : MethodName) ∈ wG := wG_of 1065 (by decide +kernel) (by decide +kernel)
theorem wd_1067 : Cond.instanceMethod (⟨"MineAir", "isBooked", "()Z"⟩ : MethodName) ∈ wG := wG_of 1067 (by decide +kernel) (by decide +kernel)
theorem wd_1068 : Cond.code (⟨"MineAir", "isBooked", "()Z"⟩ : MethodName) prog_1_method_39_code 1 (Option.some Jvm.ClassFile.FieldType.boolean) ∈ wG := wG_of 1068 (by decide +kernel) (by decide +kernel)
theorem wd_1242 : Cond.methodLink "MineAir" 274 (⟨"MineAir", "isMan", "(I)Z"⟩ : MethodName) ∈ wG := wG_of 1242 (by decide +kernel) (by decide +kernel)
theorem wd_1244 : Cond.instanceMethod (⟨"MineAir", "isMan", "(I)Z"⟩ : MethodName) ∈ wG := wG_of 1244 (by decide +kernel) (by decide +kernel)
theorem wd_1245 : Cond.code (⟨"MineAir", "isMan", "(I)Z"⟩ : MethodName) prog_1_method_43_code 2 (Option.some Jvm.ClassFile.FieldType.boolean) ∈ wG := wG_of 1245 (by decide +kernel) (by decide +kernel)
theorem wd_1262 : Cond.methodLink "MineAir" 280 (⟨"MineAir", "isTarget", "(II)Z"⟩ : MethodName) ∈ wG := wG_of 1262 (by decide +kernel) (by decide +kernel)
theorem wd_1264 : Cond.instanceMethod (⟨"MineAir", "isTarget", "(II)Z"⟩ : MethodName) ∈ wG := wG_of 1264 (by decide +kernel) (by decide +kernel)
theorem wd_1265 : Cond.code (⟨"MineAir", "isTarget", "(II)Z"⟩ : MethodName) prog_1_method_44_code 3 (Option.some Jvm.ClassFile.FieldType.boolean) ∈ wG := wG_of 1265 (by decide +kernel) (by decide +kernel)
theorem dX11_accept_0 : decode cX11_accept 0 = .ok (.aload_n 0, 1) := by decide +kernel
theorem dX11_accept_1 : decode cX11_accept 1 = .ok (.iconst 0, 1) := by decide +kernel
theorem dX11_accept_2 : decode cX11_accept 2 = .ok (.putfield 127, 3) := by decide +kernel
theorem dX11_accept_5 : decode cX11_accept 5 = .ok (.iload_n 1, 1) := by decide +kernel
theorem dX11_accept_6 : decode cX11_accept 6 = .ok (.ireturn, 1) := by decide +kernel
theorem dX11_air_0 : decode cX11_air 0 = .ok (.aload_n 0, 1) := by decide +kernel
theorem dX11_air_1 : decode cX11_air 1 = .ok (.iload_n 1, 1) := by decide +kernel
theorem dX11_air_2 : decode cX11_air 2 = .ok (.invokevirtual 130, 3) := by decide +kernel
theorem dX11_air_5 : decode cX11_air 5 = .ok (.ifCond .ne 6, 3) := by decide +kernel
theorem dX11_air_8 : decode cX11_air 8 = .ok (.bipush (-100), 2) := by decide +kernel
theorem dX11_air_10 : decode cX11_air 10 = .ok (.ireturn, 1) := by decide +kernel
theorem dX11_allow_0 : decode cX11_allow 0 = .ok (.aload_n 0, 1) := by decide +kernel
theorem dX11_allow_1 : decode cX11_allow 1 = .ok (.iconst 0, 1) := by decide +kernel
theorem dX11_allow_2 : decode cX11_allow 2 = .ok (.putfield 127, 3) := by decide +kernel
theorem dX11_allow_5 : decode cX11_allow 5 = .ok (.iconst 1, 1) := by decide +kernel
theorem dX11_allow_6 : decode cX11_allow 6 = .ok (.ireturn, 1) := by decide +kernel
theorem dX11_change_0 : decode cX11_change 0 = .ok (.aload_n 0, 1) := by decide +kernel
theorem dX11_change_1 : decode cX11_change 1 = .ok (.iload_n 1, 1) := by decide +kernel
theorem dX11_change_2 : decode cX11_change 2 = .ok (.iload_n 2, 1) := by decide +kernel
theorem dX11_change_3 : decode cX11_change 3 = .ok (.invokevirtual 280, 3) := by decide +kernel
theorem dX11_change_6 : decode cX11_change 6 = .ok (.ifCond .ne 9, 3) := by decide +kernel
theorem dX11_change_9 : decode cX11_change 9 = .ok (.aload_n 0, 1) := by decide +kernel
theorem dX11_change_10 : decode cX11_change 10 = .ok (.iconst 1, 1) := by decide +kernel
theorem dX11_change_11 : decode cX11_change 11 = .ok (.invokevirtual 87, 3) := by decide +kernel
theorem dX11_change_14 : decode cX11_change 14 = .ok (.ireturn, 1) := by decide +kernel
theorem dX11_cost_0 : decode cX11_cost 0 = .ok (.aload_n 0, 1) := by decide +kernel
theorem dX11_cost_1 : decode cX11_cost 1 = .ok (.invokevirtual 212, 3) := by decide +kernel
theorem dX11_cost_4 : decode cX11_cost 4 = .ok (.ifCond .ne 5, 3) := by decide +kernel
theorem dX11_cost_7 : decode cX11_cost 7 = .ok (.lconst 0, 1) := by decide +kernel
theorem dX11_cost_8 : decode cX11_cost 8 = .ok (.lreturn, 1) := by decide +kernel
theorem dX11_count_0 : decode cX11_count 0 = .ok (.iload_n 1, 1) := by decide +kernel
theorem dX11_count_1 : decode cX11_count 1 = .ok (.tableswitch 162 0 10 #[59, 67, 75, 86, 97, 108, 119, 127, 135, 143, 154], 59) := by decide +kernel
theorem dX11_count_60 : decode cX11_count 60 = .ok (.aload_n 0, 1) := by decide +kernel
theorem dX11_count_61 : decode cX11_count 61 = .ok (.getfield 16, 3) := by decide +kernel
theorem dX11_count_64 : decode cX11_count 64 = .ok (.getfield 121, 3) := by decide +kernel
theorem dX11_count_67 : decode cX11_count 67 = .ok (.ireturn, 1) := by decide +kernel
theorem dX11_count_68 : decode cX11_count 68 = .ok (.aload_n 0, 1) := by decide +kernel
theorem dX11_count_69 : decode cX11_count 69 = .ok (.getfield 16, 3) := by decide +kernel
theorem dX11_count_72 : decode cX11_count 72 = .ok (.getfield 268, 3) := by decide +kernel
theorem dX11_count_75 : decode cX11_count 75 = .ok (.ireturn, 1) := by decide +kernel
theorem dX11_count_76 : decode cX11_count 76 = .ok (.aload_n 0, 1) := by decide +kernel
theorem dX11_count_77 : decode cX11_count 77 = .ok (.getfield 16, 3) := by decide +kernel
theorem dX11_count_80 : decode cX11_count 80 = .ok (.getfield 313, 3) := by decide +kernel
theorem dX11_count_83 : decode cX11_count 83 = .ok (.getfield 317, 3) := by decide +kernel
theorem dX11_count_86 : decode cX11_count 86 = .ok (.ireturn, 1) := by decide +kernel
theorem dX11_count_87 : decode cX11_count 87 = .ok (.aload_n 0, 1) := by decide +kernel
theorem dX11_count_88 : decode cX11_count 88 = .ok (.getfield 16, 3) := by decide +kernel
theorem dX11_count_91 : decode cX11_count 91 = .ok (.getfield 313, 3) := by decide +kernel
theorem dX11_count_94 : decode cX11_count 94 = .ok (.getfield 322, 3) := by decide +kernel
theorem dX11_count_97 : decode cX11_count 97 = .ok (.ireturn, 1) := by decide +kernel
theorem dX11_count_98 : decode cX11_count 98 = .ok (.aload_n 0, 1) := by decide +kernel
theorem dX11_count_99 : decode cX11_count 99 = .ok (.getfield 16, 3) := by decide +kernel
theorem dX11_count_102 : decode cX11_count 102 = .ok (.getfield 313, 3) := by decide +kernel
theorem dX11_count_105 : decode cX11_count 105 = .ok (.getfield 325, 3) := by decide +kernel
theorem dX11_count_108 : decode cX11_count 108 = .ok (.ireturn, 1) := by decide +kernel
theorem dX11_count_109 : decode cX11_count 109 = .ok (.aload_n 0, 1) := by decide +kernel
theorem dX11_count_110 : decode cX11_count 110 = .ok (.getfield 16, 3) := by decide +kernel
theorem dX11_count_113 : decode cX11_count 113 = .ok (.getfield 313, 3) := by decide +kernel
theorem dX11_count_116 : decode cX11_count 116 = .ok (.getfield 328, 3) := by decide +kernel
theorem dX11_count_119 : decode cX11_count 119 = .ok (.ireturn, 1) := by decide +kernel
theorem dX11_count_120 : decode cX11_count 120 = .ok (.aload_n 0, 1) := by decide +kernel
theorem dX11_count_121 : decode cX11_count 121 = .ok (.getfield 65, 3) := by decide +kernel
theorem dX11_count_124 : decode cX11_count 124 = .ok (.getfield 111, 3) := by decide +kernel
theorem dX11_count_127 : decode cX11_count 127 = .ok (.ireturn, 1) := by decide +kernel
theorem dX11_count_128 : decode cX11_count 128 = .ok (.aload_n 0, 1) := by decide +kernel
theorem dX11_count_129 : decode cX11_count 129 = .ok (.getfield 58, 3) := by decide +kernel
theorem dX11_count_132 : decode cX11_count 132 = .ok (.getfield 114, 3) := by decide +kernel
theorem dX11_count_135 : decode cX11_count 135 = .ok (.ireturn, 1) := by decide +kernel
theorem dX11_count_136 : decode cX11_count 136 = .ok (.aload_n 0, 1) := by decide +kernel
theorem dX11_count_137 : decode cX11_count 137 = .ok (.getfield 72, 3) := by decide +kernel
theorem dX11_count_140 : decode cX11_count 140 = .ok (.getfield 117, 3) := by decide +kernel
theorem dX11_count_143 : decode cX11_count 143 = .ok (.ireturn, 1) := by decide +kernel
theorem dX11_count_144 : decode cX11_count 144 = .ok (.aload_n 0, 1) := by decide +kernel
theorem dX11_count_145 : decode cX11_count 145 = .ok (.getfield 16, 3) := by decide +kernel
theorem dX11_count_148 : decode cX11_count 148 = .ok (.getfield 331, 3) := by decide +kernel
theorem dX11_count_151 : decode cX11_count 151 = .ok (.invokestatic 156, 3) := by decide +kernel
theorem dX11_count_154 : decode cX11_count 154 = .ok (.ireturn, 1) := by decide +kernel
theorem dX11_count_155 : decode cX11_count 155 = .ok (.aload_n 0, 1) := by decide +kernel
theorem dX11_count_156 : decode cX11_count 156 = .ok (.getfield 24, 3) := by decide +kernel
theorem dX11_count_159 : decode cX11_count 159 = .ok (.getfield 79, 3) := by decide +kernel
theorem dX11_count_162 : decode cX11_count 162 = .ok (.ireturn, 1) := by decide +kernel
theorem dX11_count_163 : decode cX11_count 163 = .ok (.iconst (-1), 1) := by decide +kernel
theorem dX11_count_164 : decode cX11_count 164 = .ok (.ireturn, 1) := by decide +kernel
theorem dX11_deny_0 : decode cX11_deny 0 = .ok (.aload_n 0, 1) := by decide +kernel
theorem dX11_deny_1 : decode cX11_deny 1 = .ok (.iload_n 1, 1) := by decide +kernel
theorem dX11_deny_2 : decode cX11_deny 2 = .ok (.putfield 127, 3) := by decide +kernel
theorem dX11_deny_5 : decode cX11_deny 5 = .ok (.iconst 0, 1) := by decide +kernel
theorem dX11_deny_6 : decode cX11_deny 6 = .ok (.ireturn, 1) := by decide +kernel
theorem dX11_door_0 : decode cX11_door 0 = .ok (.aload_n 0, 1) := by decide +kernel
theorem dX11_door_1 : decode cX11_door 1 = .ok (.iload_n 1, 1) := by decide +kernel
theorem dX11_door_2 : decode cX11_door 2 = .ok (.invokevirtual 172, 3) := by decide +kernel
theorem dX11_door_5 : decode cX11_door 5 = .ok (.ifCond .ne 9, 3) := by decide +kernel
theorem dX11_door_8 : decode cX11_door 8 = .ok (.aload_n 0, 1) := by decide +kernel
theorem dX11_door_9 : decode cX11_door 9 = .ok (.iconst 1, 1) := by decide +kernel
theorem dX11_door_10 : decode cX11_door 10 = .ok (.invokevirtual 175, 3) := by decide +kernel
theorem dX11_door_13 : decode cX11_door 13 = .ok (.ireturn, 1) := by decide +kernel
theorem dX11_failing_0 : decode cX11_failing 0 = .ok (.aload_n 0, 1) := by decide +kernel
theorem dX11_failing_1 : decode cX11_failing 1 = .ok (.invokevirtual 212, 3) := by decide +kernel
theorem dX11_failing_4 : decode cX11_failing 4 = .ok (.ifCond .ne 9, 3) := by decide +kernel
theorem dX11_failing_7 : decode cX11_failing 7 = .ok (.aload_n 0, 1) := by decide +kernel
theorem dX11_failing_8 : decode cX11_failing 8 = .ok (.iconst 1, 1) := by decide +kernel
theorem dX11_failing_9 : decode cX11_failing 9 = .ok (.invokevirtual 87, 3) := by decide +kernel
theorem dX11_failing_12 : decode cX11_failing 12 = .ok (.ireturn, 1) := by decide +kernel
theorem dX11_fall_0 : decode cX11_fall 0 = .ok (.aload_n 0, 1) := by decide +kernel
theorem dX11_fall_1 : decode cX11_fall 1 = .ok (.iload_n 1, 1) := by decide +kernel
theorem dX11_fall_2 : decode cX11_fall 2 = .ok (.invokevirtual 130, 3) := by decide +kernel
theorem dX11_fall_5 : decode cX11_fall 5 = .ok (.ifCond .ne 9, 3) := by decide +kernel
theorem dX11_fall_8 : decode cX11_fall 8 = .ok (.aload_n 0, 1) := by decide +kernel
theorem dX11_fall_9 : decode cX11_fall 9 = .ok (.iconst 1, 1) := by decide +kernel
theorem dX11_fall_10 : decode cX11_fall 10 = .ok (.invokevirtual 175, 3) := by decide +kernel
theorem dX11_fall_13 : decode cX11_fall 13 = .ok (.ireturn, 1) := by decide +kernel
theorem dX11_fault_0 : decode cX11_fault 0 = .ok (.aload_n 0, 1) := by decide +kernel
theorem dX11_fault_1 : decode cX11_fault 1 = .ok (.getfield 98, 3) := by decide +kernel
theorem dX11_fault_4 : decode cX11_fault 4 = .ok (.ireturn, 1) := by decide +kernel
theorem dX11_feed_0 : decode cX11_feed 0 = .ok (.aload_n 0, 1) := by decide +kernel
theorem dX11_feed_1 : decode cX11_feed 1 = .ok (.getfield 24, 3) := by decide +kernel
theorem dX11_feed_4 : decode cX11_feed 4 = .ok (.getfield 79, 3) := by decide +kernel
theorem dX11_feed_7 : decode cX11_feed 7 = .ok (.bipush 20, 2) := by decide +kernel
theorem dX11_feed_9 : decode cX11_feed 9 = .ok (.iadd, 1) := by decide +kernel
theorem dX11_feed_10 : decode cX11_feed 10 = .ok (.sipush 600, 3) := by decide +kernel
theorem dX11_feed_13 : decode cX11_feed 13 = .ok (.if_icmp .le 5, 3) := by decide +kernel
theorem dX11_feed_18 : decode cX11_feed 18 = .ok (.aload_n 0, 1) := by decide +kernel
theorem dX11_feed_19 : decode cX11_feed 19 = .ok (.getfield 24, 3) := by decide +kernel
theorem dX11_feed_22 : decode cX11_feed 22 = .ok (.iload_n 1, 1) := by decide +kernel
theorem dX11_feed_23 : decode cX11_feed 23 = .ok (.invokevirtual 83, 3) := by decide +kernel
theorem dX11_feed_26 : decode cX11_feed 26 = .ok (.aload_n 0, 1) := by decide +kernel
theorem dX11_feed_27 : decode cX11_feed 27 = .ok (.getfield 24, 3) := by decide +kernel
theorem dX11_feed_30 : decode cX11_feed 30 = .ok (.iload_n 2, 1) := by decide +kernel
theorem dX11_feed_31 : decode cX11_feed 31 = .ok (.invokevirtual 83, 3) := by decide +kernel
theorem dX11_feed_34 : decode cX11_feed 34 = .ok (.aload_n 0, 1) := by decide +kernel
theorem dX11_feed_35 : decode cX11_feed 35 = .ok (.getfield 24, 3) := by decide +kernel
theorem dX11_feed_38 : decode cX11_feed 38 = .ok (.iload_n 3, 1) := by decide +kernel
theorem dX11_feed_39 : decode cX11_feed 39 = .ok (.invokevirtual 83, 3) := by decide +kernel
theorem dX11_feed_42 : decode cX11_feed 42 = .ok (.aload_n 0, 1) := by decide +kernel
theorem dX11_feed_43 : decode cX11_feed 43 = .ok (.getfield 24, 3) := by decide +kernel
theorem dX11_feed_46 : decode cX11_feed 46 = .ok (.iload 4, 2) := by decide +kernel
theorem dX11_feed_48 : decode cX11_feed 48 = .ok (.invokevirtual 83, 3) := by decide +kernel
theorem dX11_feed_51 : decode cX11_feed 51 = .ok (.aload_n 0, 1) := by decide +kernel
theorem dX11_feed_52 : decode cX11_feed 52 = .ok (.getfield 24, 3) := by decide +kernel
theorem dX11_feed_55 : decode cX11_feed 55 = .ok (.iload 5, 2) := by decide +kernel
theorem dX11_feed_57 : decode cX11_feed 57 = .ok (.invokevirtual 83, 3) := by decide +kernel
theorem dX11_feed_60 : decode cX11_feed 60 = .ok (.aload_n 0, 1) := by decide +kernel
theorem dX11_feed_61 : decode cX11_feed 61 = .ok (.getfield 24, 3) := by decide +kernel
theorem dX11_feed_64 : decode cX11_feed 64 = .ok (.getfield 79, 3) := by decide +kernel
theorem dX11_feed_67 : decode cX11_feed 67 = .ok (.ireturn, 1) := by decide +kernel
theorem dX11_fire_0 : decode cX11_fire 0 = .ok (.aload_n 0, 1) := by decide +kernel
theorem dX11_fire_1 : decode cX11_fire 1 = .ok (.iload_n 1, 1) := by decide +kernel
theorem dX11_fire_2 : decode cX11_fire 2 = .ok (.invokevirtual 130, 3) := by decide +kernel
theorem dX11_fire_5 : decode cX11_fire 5 = .ok (.ifCond .ne 9, 3) := by decide +kernel
theorem dX11_fire_8 : decode cX11_fire 8 = .ok (.aload_n 0, 1) := by decide +kernel
theorem dX11_fire_9 : decode cX11_fire 9 = .ok (.iconst 1, 1) := by decide +kernel
theorem dX11_fire_10 : decode cX11_fire 10 = .ok (.invokevirtual 175, 3) := by decide +kernel
theorem dX11_fire_13 : decode cX11_fire 13 = .ok (.ireturn, 1) := by decide +kernel
theorem dX11_fits_0 : decode cX11_fits 0 = .ok (.aload_n 0, 1) := by decide +kernel
theorem dX11_fits_1 : decode cX11_fits 1 = .ok (.invokevirtual 212, 3) := by decide +kernel
theorem dX11_fits_4 : decode cX11_fits 4 = .ok (.ifCond .ne 9, 3) := by decide +kernel
theorem dX11_fits_7 : decode cX11_fits 7 = .ok (.aload_n 0, 1) := by decide +kernel
theorem dX11_fits_8 : decode cX11_fits 8 = .ok (.iconst 1, 1) := by decide +kernel
theorem dX11_fits_9 : decode cX11_fits 9 = .ok (.invokevirtual 87, 3) := by decide +kernel
theorem dX11_fits_12 : decode cX11_fits 12 = .ok (.ireturn, 1) := by decide +kernel
theorem dX11_forgetVerdicts_0 : decode cX11_forgetVerdicts 0 = .ok (.aload_n 0, 1) := by decide +kernel
theorem dX11_forgetVerdicts_1 : decode cX11_forgetVerdicts 1 = .ok (.getfield 49, 3) := by decide +kernel
theorem dX11_forgetVerdicts_4 : decode cX11_forgetVerdicts 4 = .ok (.iconst 0, 1) := by decide +kernel
theorem dX11_forgetVerdicts_5 : decode cX11_forgetVerdicts 5 = .ok (.putfield 337, 3) := by decide +kernel
theorem dX11_forgetVerdicts_8 : decode cX11_forgetVerdicts 8 = .ok (.aload_n 0, 1) := by decide +kernel
theorem dX11_forgetVerdicts_9 : decode cX11_forgetVerdicts 9 = .ok (.getfield 58, 3) := by decide +kernel
theorem dX11_forgetVerdicts_12 : decode cX11_forgetVerdicts 12 = .ok (.invokevirtual 340, 3) := by decide +kernel
theorem dX11_forgetVerdicts_15 : decode cX11_forgetVerdicts 15 = .ok (.return_, 1) := by decide +kernel
theorem dX11_gas_0 : decode cX11_gas 0 = .ok (.aload_n 0, 1) := by decide +kernel
theorem dX11_gas_1 : decode cX11_gas 1 = .ok (.iload_n 1, 1) := by decide +kernel
theorem dX11_gas_2 : decode cX11_gas 2 = .ok (.invokevirtual 130, 3) := by decide +kernel
theorem dX11_gas_5 : decode cX11_gas 5 = .ok (.ifCond .ne 9, 3) := by decide +kernel
theorem dX11_gas_8 : decode cX11_gas 8 = .ok (.aload_n 0, 1) := by decide +kernel
theorem dX11_gas_9 : decode cX11_gas 9 = .ok (.iconst 1, 1) := by decide +kernel
theorem dX11_gas_10 : decode cX11_gas 10 = .ok (.invokevirtual 87, 3) := by decide +kernel
theorem dX11_gas_13 : decode cX11_gas 13 = .ok (.ireturn, 1) := by decide +kernel
theorem dX11_isBooked_0 : decode cX11_isBooked 0 = .ok (.aload_n 0, 1) := by decide +kernel
theorem dX11_isBooked_1 : decode cX11_isBooked 1 = .ok (.getfield 16, 3) := by decide +kernel
theorem dX11_isBooked_4 : decode cX11_isBooked 4 = .ok (.getfield 121, 3) := by decide +kernel
theorem dX11_isBooked_7 : decode cX11_isBooked 7 = .ok (.ifCond .le 7, 3) := by decide +kernel
theorem dX11_isBooked_14 : decode cX11_isBooked 14 = .ok (.iconst 0, 1) := by decide +kernel
theorem dX11_isBooked_15 : decode cX11_isBooked 15 = .ok (.ireturn, 1) := by decide +kernel
theorem dX11_isDoor_0 : decode cX11_isDoor 0 = .ok (.iload_n 1, 1) := by decide +kernel
theorem dX11_isDoor_1 : decode cX11_isDoor 1 = .ok (.ifCond .lt 21, 3) := by decide +kernel
theorem dX11_isDoor_4 : decode cX11_isDoor 4 = .ok (.iload_n 1, 1) := by decide +kernel
theorem dX11_isDoor_5 : decode cX11_isDoor 5 = .ok (.aload_n 0, 1) := by decide +kernel
theorem dX11_isDoor_6 : decode cX11_isDoor 6 = .ok (.getfield 16, 3) := by decide +kernel
theorem dX11_isDoor_9 : decode cX11_isDoor 9 = .ok (.getfield 313, 3) := by decide +kernel
theorem dX11_isDoor_12 : decode cX11_isDoor 12 = .ok (.getfield 317, 3) := by decide +kernel
theorem dX11_isDoor_15 : decode cX11_isDoor 15 = .ok (.if_icmp .ge 7, 3) := by decide +kernel
theorem dX11_isDoor_22 : decode cX11_isDoor 22 = .ok (.iconst 0, 1) := by decide +kernel
theorem dX11_isDoor_23 : decode cX11_isDoor 23 = .ok (.ireturn, 1) := by decide +kernel
theorem dX11_isFan_0 : decode cX11_isFan 0 = .ok (.iload_n 1, 1) := by decide +kernel
theorem dX11_isFan_1 : decode cX11_isFan 1 = .ok (.ifCond .lt 21, 3) := by decide +kernel
theorem dX11_isFan_4 : decode cX11_isFan 4 = .ok (.iload_n 1, 1) := by decide +kernel
theorem dX11_isFan_5 : decode cX11_isFan 5 = .ok (.aload_n 0, 1) := by decide +kernel
theorem dX11_isFan_6 : decode cX11_isFan 6 = .ok (.getfield 16, 3) := by decide +kernel
theorem dX11_isFan_9 : decode cX11_isFan 9 = .ok (.getfield 313, 3) := by decide +kernel
theorem dX11_isFan_12 : decode cX11_isFan 12 = .ok (.getfield 325, 3) := by decide +kernel
theorem dX11_isFan_15 : decode cX11_isFan 15 = .ok (.if_icmp .ge 7, 3) := by decide +kernel
theorem dX11_isFan_22 : decode cX11_isFan 22 = .ok (.iconst 0, 1) := by decide +kernel
theorem dX11_isFan_23 : decode cX11_isFan 23 = .ok (.ireturn, 1) := by decide +kernel
theorem dX11_isMan_0 : decode cX11_isMan 0 = .ok (.iload_n 1, 1) := by decide +kernel
theorem dX11_isMan_1 : decode cX11_isMan 1 = .ok (.ifCond .lt 18, 3) := by decide +kernel
theorem dX11_isMan_4 : decode cX11_isMan 4 = .ok (.iload_n 1, 1) := by decide +kernel
theorem dX11_isMan_5 : decode cX11_isMan 5 = .ok (.aload_n 0, 1) := by decide +kernel
theorem dX11_isMan_6 : decode cX11_isMan 6 = .ok (.getfield 65, 3) := by decide +kernel
theorem dX11_isMan_9 : decode cX11_isMan 9 = .ok (.getfield 111, 3) := by decide +kernel
theorem dX11_isMan_12 : decode cX11_isMan 12 = .ok (.if_icmp .ge 7, 3) := by decide +kernel
theorem dX11_isMan_19 : decode cX11_isMan 19 = .ok (.iconst 0, 1) := by decide +kernel
theorem dX11_isMan_20 : decode cX11_isMan 20 = .ok (.ireturn, 1) := by decide +kernel
theorem dX11_isTarget_0 : decode cX11_isTarget 0 = .ok (.iload_n 1, 1) := by decide +kernel
theorem dX11_isTarget_1 : decode cX11_isTarget 1 = .ok (.tableswitch 45 0 2 #[27, 33, 39], 27) := by decide +kernel
theorem dX11_isTarget_28 : decode cX11_isTarget 28 = .ok (.aload_n 0, 1) := by decide +kernel
theorem dX11_isTarget_29 : decode cX11_isTarget 29 = .ok (.iload_n 2, 1) := by decide +kernel
theorem dX11_isTarget_30 : decode cX11_isTarget 30 = .ok (.invokevirtual 172, 3) := by decide +kernel
theorem dX11_isTarget_33 : decode cX11_isTarget 33 = .ok (.ireturn, 1) := by decide +kernel
theorem dX11_isTarget_34 : decode cX11_isTarget 34 = .ok (.aload_n 0, 1) := by decide +kernel
theorem dX11_isTarget_35 : decode cX11_isTarget 35 = .ok (.iload_n 2, 1) := by decide +kernel
theorem dX11_isTarget_36 : decode cX11_isTarget 36 = .ok (.invokevirtual 185, 3) := by decide +kernel
theorem dX11_isTarget_39 : decode cX11_isTarget 39 = .ok (.ireturn, 1) := by decide +kernel
theorem dX11_isTarget_40 : decode cX11_isTarget 40 = .ok (.aload_n 0, 1) := by decide +kernel
theorem dX11_isTarget_41 : decode cX11_isTarget 41 = .ok (.iload_n 2, 1) := by decide +kernel
theorem dX11_isTarget_42 : decode cX11_isTarget 42 = .ok (.invokevirtual 130, 3) := by decide +kernel
theorem dX11_isTarget_45 : decode cX11_isTarget 45 = .ok (.ireturn, 1) := by decide +kernel
theorem dX11_isTarget_46 : decode cX11_isTarget 46 = .ok (.iconst 0, 1) := by decide +kernel
theorem dX11_isTarget_47 : decode cX11_isTarget 47 = .ok (.ireturn, 1) := by decide +kernel
theorem dX11_isWay_0 : decode cX11_isWay 0 = .ok (.iload_n 1, 1) := by decide +kernel
theorem dX11_isWay_1 : decode cX11_isWay 1 = .ok (.ifCond .lt 18, 3) := by decide +kernel
theorem dX11_isWay_4 : decode cX11_isWay 4 = .ok (.iload_n 1, 1) := by decide +kernel
theorem dX11_isWay_5 : decode cX11_isWay 5 = .ok (.aload_n 0, 1) := by decide +kernel
theorem dX11_isWay_6 : decode cX11_isWay 6 = .ok (.getfield 16, 3) := by decide +kernel
theorem dX11_isWay_9 : decode cX11_isWay 9 = .ok (.getfield 121, 3) := by decide +kernel
theorem dX11_isWay_12 : decode cX11_isWay 12 = .ok (.if_icmp .ge 7, 3) := by decide +kernel
theorem dX11_isWay_19 : decode cX11_isWay 19 = .ok (.iconst 0, 1) := by decide +kernel
theorem dX11_isWay_20 : decode cX11_isWay 20 = .ok (.ireturn, 1) := by decide +kernel
theorem dX11_make_0 : decode cX11_make 0 = .ok (.aload_n 0, 1) := by decide +kernel
theorem dX11_make_1 : decode cX11_make 1 = .ok (.getfield 58, 3) := by decide +kernel
theorem dX11_make_4 : decode cX11_make 4 = .ok (.getfield 114, 3) := by decide +kernel
theorem dX11_make_7 : decode cX11_make 7 = .ok (.istore_n 1, 1) := by decide +kernel
theorem dX11_make_8 : decode cX11_make 8 = .ok (.iload_n 1, 1) := by decide +kernel
theorem dX11_make_9 : decode cX11_make 9 = .ok (.ifCond .ne 9, 3) := by decide +kernel
theorem dX11_make_12 : decode cX11_make 12 = .ok (.aload_n 0, 1) := by decide +kernel
theorem dX11_make_13 : decode cX11_make 13 = .ok (.iconst 5, 1) := by decide +kernel
theorem dX11_make_14 : decode cX11_make 14 = .ok (.invokevirtual 87, 3) := by decide +kernel
theorem dX11_make_17 : decode cX11_make 17 = .ok (.ireturn, 1) := by decide +kernel
theorem dX11_man_0 : decode cX11_man 0 = .ok (.iload_n 1, 1) := by decide +kernel
theorem dX11_man_1 : decode cX11_man 1 = .ok (.ifCond .lt 14, 3) := by decide +kernel
theorem dX11_man_4 : decode cX11_man 4 = .ok (.iload_n 1, 1) := by decide +kernel
theorem dX11_man_5 : decode cX11_man 5 = .ok (.aload_n 0, 1) := by decide +kernel
theorem dX11_man_6 : decode cX11_man 6 = .ok (.getfield 16, 3) := by decide +kernel
theorem dX11_man_9 : decode cX11_man 9 = .ok (.getfield 268, 3) := by decide +kernel
theorem dX11_man_12 : decode cX11_man 12 = .ok (.if_icmp .lt 9, 3) := by decide +kernel
theorem dX11_man_15 : decode cX11_man 15 = .ok (.aload_n 0, 1) := by decide +kernel
theorem dX11_man_16 : decode cX11_man 16 = .ok (.iconst 1, 1) := by decide +kernel
theorem dX11_man_17 : decode cX11_man 17 = .ok (.invokevirtual 87, 3) := by decide +kernel
theorem dX11_man_20 : decode cX11_man 20 = .ok (.ireturn, 1) := by decide +kernel
theorem dX11_mark_0 : decode cX11_mark 0 = .ok (.iload_n 1, 1) := by decide +kernel
theorem dX11_mark_1 : decode cX11_mark 1 = .ok (.iconst 1, 1) := by decide +kernel
theorem dX11_mark_2 : decode cX11_mark 2 = .ok (.if_icmp .lt 10, 3) := by decide +kernel
theorem dX11_mark_5 : decode cX11_mark 5 = .ok (.iload_n 1, 1) := by decide +kernel
theorem dX11_mark_6 : decode cX11_mark 6 = .ok (.sipush 999, 3) := by decide +kernel
theorem dX11_mark_9 : decode cX11_mark 9 = .ok (.if_icmp .le 9, 3) := by decide +kernel
theorem dX11_mark_12 : decode cX11_mark 12 = .ok (.aload_n 0, 1) := by decide +kernel
theorem dX11_mark_13 : decode cX11_mark 13 = .ok (.iconst 2, 1) := by decide +kernel
theorem dX11_mark_14 : decode cX11_mark 14 = .ok (.invokevirtual 175, 3) := by decide +kernel
theorem dX11_mark_17 : decode cX11_mark 17 = .ok (.ireturn, 1) := by decide +kernel
theorem dX11_mark_18 : decode cX11_mark 18 = .ok (.aload_n 0, 1) := by decide +kernel
theorem dX11_mark_19 : decode cX11_mark 19 = .ok (.getfield 31, 3) := by decide +kernel
theorem dX11_mark_22 : decode cX11_mark 22 = .ok (.iload_n 1, 1) := by decide +kernel
theorem dX11_mark_23 : decode cX11_mark 23 = .ok (.putfield 194, 3) := by decide +kernel
theorem dX11_mark_26 : decode cX11_mark 26 = .ok (.aload_n 0, 1) := by decide +kernel
theorem dX11_mark_27 : decode cX11_mark 27 = .ok (.invokevirtual 197, 3) := by decide +kernel
theorem dX11_mark_30 : decode cX11_mark 30 = .ok (.aload_n 0, 1) := by decide +kernel
theorem dX11_mark_31 : decode cX11_mark 31 = .ok (.invokevirtual 181, 3) := by decide +kernel
theorem dX11_mark_34 : decode cX11_mark 34 = .ok (.ireturn, 1) := by decide +kernel
theorem dX11_orNotSo_0 : decode cX11_orNotSo 0 = .ok (.iload_n 0, 1) := by decide +kernel
theorem dX11_orNotSo_1 : decode cX11_orNotSo 1 = .ok (.iconst (-1), 1) := by decide +kernel
theorem dX11_orNotSo_2 : decode cX11_orNotSo 2 = .ok (.if_icmp .ne 8, 3) := by decide +kernel
theorem dX11_orNotSo_5 : decode cX11_orNotSo 5 = .ok (.bipush (-2), 2) := by decide +kernel
theorem dX11_orNotSo_7 : decode cX11_orNotSo 7 = .ok (.goto 4, 3) := by decide +kernel
theorem dX11_orNotSo_10 : decode cX11_orNotSo 10 = .ok (.iload_n 0, 1) := by decide +kernel
theorem dX11_orNotSo_11 : decode cX11_orNotSo 11 = .ok (.ireturn, 1) := by decide +kernel
theorem dX11_order_0 : decode cX11_order 0 = .ok (.iload_n 1, 1) := by decide +kernel
theorem dX11_order_1 : decode cX11_order 1 = .ok (.ifCond .lt 14, 3) := by decide +kernel
theorem dX11_order_4 : decode cX11_order 4 = .ok (.iload_n 1, 1) := by decide +kernel
theorem dX11_order_5 : decode cX11_order 5 = .ok (.aload_n 0, 1) := by decide +kernel
theorem dX11_order_6 : decode cX11_order 6 = .ok (.getfield 58, 3) := by decide +kernel
theorem dX11_order_9 : decode cX11_order 9 = .ok (.getfield 114, 3) := by decide +kernel
theorem dX11_order_12 : decode cX11_order 12 = .ok (.if_icmp .lt 9, 3) := by decide +kernel
theorem dX11_order_15 : decode cX11_order 15 = .ok (.aload_n 0, 1) := by decide +kernel
theorem dX11_order_16 : decode cX11_order 16 = .ok (.iconst 1, 1) := by decide +kernel
theorem dX11_order_17 : decode cX11_order 17 = .ok (.invokevirtual 87, 3) := by decide +kernel
theorem dX11_order_20 : decode cX11_order 20 = .ok (.ireturn, 1) := by decide +kernel
theorem dX11_out_0 : decode cX11_out 0 = .ok (.aload_n 0, 1) := by decide +kernel
theorem dX11_out_1 : decode cX11_out 1 = .ok (.iload_n 1, 1) := by decide +kernel
theorem dX11_out_2 : decode cX11_out 2 = .ok (.invokevirtual 274, 3) := by decide +kernel
theorem dX11_out_5 : decode cX11_out 5 = .ok (.ifCond .ne 9, 3) := by decide +kernel
theorem dX11_out_8 : decode cX11_out 8 = .ok (.aload_n 0, 1) := by decide +kernel
theorem dX11_out_9 : decode cX11_out 9 = .ok (.iconst 1, 1) := by decide +kernel
theorem dX11_out_10 : decode cX11_out 10 = .ok (.invokevirtual 87, 3) := by decide +kernel
theorem dX11_out_13 : decode cX11_out 13 = .ok (.ireturn, 1) := by decide +kernel
theorem dX11_over_0 : decode cX11_over 0 = .ok (.aload_n 0, 1) := by decide +kernel
theorem dX11_over_1 : decode cX11_over 1 = .ok (.invokevirtual 212, 3) := by decide +kernel
theorem dX11_over_4 : decode cX11_over 4 = .ok (.ifCond .ne 9, 3) := by decide +kernel
theorem dX11_over_7 : decode cX11_over 7 = .ok (.aload_n 0, 1) := by decide +kernel
theorem dX11_over_8 : decode cX11_over 8 = .ok (.iconst 1, 1) := by decide +kernel
theorem dX11_over_9 : decode cX11_over 9 = .ok (.invokevirtual 87, 3) := by decide +kernel
theorem dX11_over_12 : decode cX11_over 12 = .ok (.ireturn, 1) := by decide +kernel
theorem dX11_reading_0 : decode cX11_reading 0 = .ok (.aload_n 0, 1) := by decide +kernel
theorem dX11_reading_1 : decode cX11_reading 1 = .ok (.iload_n 1, 1) := by decide +kernel
theorem dX11_reading_2 : decode cX11_reading 2 = .ok (.invokevirtual 130, 3) := by decide +kernel
theorem dX11_reading_5 : decode cX11_reading 5 = .ok (.ifCond .ne 9, 3) := by decide +kernel
theorem dX11_reading_8 : decode cX11_reading 8 = .ok (.aload_n 0, 1) := by decide +kernel
theorem dX11_reading_9 : decode cX11_reading 9 = .ok (.iconst 1, 1) := by decide +kernel
theorem dX11_reading_10 : decode cX11_reading 10 = .ok (.invokevirtual 87, 3) := by decide +kernel
theorem dX11_reading_13 : decode cX11_reading 13 = .ok (.ireturn, 1) := by decide +kernel
theorem dX11_refuse_0 : decode cX11_refuse 0 = .ok (.aload_n 0, 1) := by decide +kernel
theorem dX11_refuse_1 : decode cX11_refuse 1 = .ok (.iload_n 1, 1) := by decide +kernel
theorem dX11_refuse_2 : decode cX11_refuse 2 = .ok (.putfield 127, 3) := by decide +kernel
theorem dX11_refuse_5 : decode cX11_refuse 5 = .ok (.iconst (-1), 1) := by decide +kernel
theorem dX11_refuse_6 : decode cX11_refuse 6 = .ok (.ireturn, 1) := by decide +kernel
theorem dX11_setting_0 : decode cX11_setting 0 = .ok (.aload_n 0, 1) := by decide +kernel
theorem dX11_setting_1 : decode cX11_setting 1 = .ok (.invokevirtual 212, 3) := by decide +kernel
theorem dX11_setting_4 : decode cX11_setting 4 = .ok (.ifCond .ne 9, 3) := by decide +kernel
theorem dX11_setting_7 : decode cX11_setting 7 = .ok (.aload_n 0, 1) := by decide +kernel
theorem dX11_setting_8 : decode cX11_setting 8 = .ok (.iconst 1, 1) := by decide +kernel
theorem dX11_setting_9 : decode cX11_setting 9 = .ok (.invokevirtual 87, 3) := by decide +kernel
theorem dX11_setting_12 : decode cX11_setting 12 = .ok (.ireturn, 1) := by decide +kernel
theorem dX11_smoke_0 : decode cX11_smoke 0 = .ok (.aload_n 0, 1) := by decide +kernel
theorem dX11_smoke_1 : decode cX11_smoke 1 = .ok (.iload_n 1, 1) := by decide +kernel
theorem dX11_smoke_2 : decode cX11_smoke 2 = .ok (.invokevirtual 130, 3) := by decide +kernel
theorem dX11_smoke_5 : decode cX11_smoke 5 = .ok (.ifCond .ne 9, 3) := by decide +kernel
theorem dX11_smoke_8 : decode cX11_smoke 8 = .ok (.aload_n 0, 1) := by decide +kernel
theorem dX11_smoke_9 : decode cX11_smoke 9 = .ok (.iconst 1, 1) := by decide +kernel
theorem dX11_smoke_10 : decode cX11_smoke 10 = .ok (.invokevirtual 87, 3) := by decide +kernel
theorem dX11_smoke_13 : decode cX11_smoke 13 = .ok (.ireturn, 1) := by decide +kernel
theorem dX11_sound_0 : decode cX11_sound 0 = .ok (.aload_n 0, 1) := by decide +kernel
theorem dX11_sound_1 : decode cX11_sound 1 = .ok (.invokevirtual 212, 3) := by decide +kernel
theorem dX11_sound_4 : decode cX11_sound 4 = .ok (.ifCond .ne 9, 3) := by decide +kernel
theorem dX11_sound_7 : decode cX11_sound 7 = .ok (.aload_n 0, 1) := by decide +kernel
theorem dX11_sound_8 : decode cX11_sound 8 = .ok (.iconst 1, 1) := by decide +kernel
theorem dX11_sound_9 : decode cX11_sound 9 = .ok (.invokevirtual 87, 3) := by decide +kernel
theorem dX11_sound_12 : decode cX11_sound 12 = .ok (.ireturn, 1) := by decide +kernel
theorem dX11_speed_0 : decode cX11_speed 0 = .ok (.aload_n 0, 1) := by decide +kernel
theorem dX11_speed_1 : decode cX11_speed 1 = .ok (.iload_n 1, 1) := by decide +kernel
theorem dX11_speed_2 : decode cX11_speed 2 = .ok (.invokevirtual 185, 3) := by decide +kernel
theorem dX11_speed_5 : decode cX11_speed 5 = .ok (.ifCond .ne 9, 3) := by decide +kernel
theorem dX11_speed_8 : decode cX11_speed 8 = .ok (.aload_n 0, 1) := by decide +kernel
theorem dX11_speed_9 : decode cX11_speed 9 = .ok (.iconst 1, 1) := by decide +kernel
theorem dX11_speed_10 : decode cX11_speed 10 = .ok (.invokevirtual 175, 3) := by decide +kernel
theorem dX11_speed_13 : decode cX11_speed 13 = .ok (.ireturn, 1) := by decide +kernel
theorem dX11_thick_0 : decode cX11_thick 0 = .ok (.aload_n 0, 1) := by decide +kernel
theorem dX11_thick_1 : decode cX11_thick 1 = .ok (.iload_n 1, 1) := by decide +kernel
theorem dX11_thick_2 : decode cX11_thick 2 = .ok (.invokevirtual 130, 3) := by decide +kernel
theorem dX11_thick_5 : decode cX11_thick 5 = .ok (.ifCond .ne 9, 3) := by decide +kernel
theorem dX11_thick_8 : decode cX11_thick 8 = .ok (.aload_n 0, 1) := by decide +kernel
theorem dX11_thick_9 : decode cX11_thick 9 = .ok (.iconst 1, 1) := by decide +kernel
theorem dX11_thick_10 : decode cX11_thick 10 = .ok (.invokevirtual 87, 3) := by decide +kernel
theorem dX11_thick_13 : decode cX11_thick 13 = .ok (.ireturn, 1) := by decide +kernel
theorem dX11_trouble_0 : decode cX11_trouble 0 = .ok (.aload_n 0, 1) := by decide +kernel
theorem dX11_trouble_1 : decode cX11_trouble 1 = .ok (.getfield 127, 3) := by decide +kernel
theorem dX11_trouble_4 : decode cX11_trouble 4 = .ok (.ireturn, 1) := by decide +kernel
theorem dX11_turned_0 : decode cX11_turned 0 = .ok (.aload_n 0, 1) := by decide +kernel
theorem dX11_turned_1 : decode cX11_turned 1 = .ok (.iload_n 1, 1) := by decide +kernel
theorem dX11_turned_2 : decode cX11_turned 2 = .ok (.invokevirtual 185, 3) := by decide +kernel
theorem dX11_turned_5 : decode cX11_turned 5 = .ok (.ifCond .ne 9, 3) := by decide +kernel
theorem dX11_turned_8 : decode cX11_turned 8 = .ok (.aload_n 0, 1) := by decide +kernel
theorem dX11_turned_9 : decode cX11_turned 9 = .ok (.iconst 1, 1) := by decide +kernel
theorem dX11_turned_10 : decode cX11_turned 10 = .ok (.invokevirtual 87, 3) := by decide +kernel
theorem dX11_turned_13 : decode cX11_turned 13 = .ok (.ireturn, 1) := by decide +kernel
theorem dX11_way_0 : decode cX11_way 0 = .ok (.aload_n 0, 1) := by decide +kernel
theorem dX11_way_1 : decode cX11_way 1 = .ok (.iload_n 1, 1) := by decide +kernel
theorem dX11_way_2 : decode cX11_way 2 = .ok (.invokevirtual 130, 3) := by decide +kernel
theorem dX11_way_5 : decode cX11_way 5 = .ok (.ifCond .ne 6, 3) := by decide +kernel
theorem dX11_way_8 : decode cX11_way 8 = .ok (.ldc 133, 2) := by decide +kernel
theorem dX11_way_10 : decode cX11_way 10 = .ok (.ireturn, 1) := by decide +kernel
theorem dX11_where_0 : decode cX11_where 0 = .ok (.aload_n 0, 1) := by decide +kernel
theorem dX11_where_1 : decode cX11_where 1 = .ok (.getfield 127, 3) := by decide +kernel
theorem dX11_where_4 : decode cX11_where 4 = .ok (.iconst 4, 1) := by decide +kernel
theorem dX11_where_5 : decode cX11_where 5 = .ok (.if_icmp .ne 10, 3) := by decide +kernel
theorem dX11_where_15 : decode cX11_where 15 = .ok (.iconst (-1), 1) := by decide +kernel
theorem dX11_where_16 : decode cX11_where 16 = .ok (.ireturn, 1) := by decide +kernel
theorem dX6_forget_0 : decode cX6_forget 0 = .ok (.aload_n 0, 1) := by decide +kernel
theorem dX6_forget_1 : decode cX6_forget 1 = .ok (.iconst 0, 1) := by decide +kernel
theorem dX6_forget_2 : decode cX6_forget 2 = .ok (.putfield 38, 3) := by decide +kernel
theorem dX6_forget_5 : decode cX6_forget 5 = .ok (.return_, 1) := by decide +kernel
theorem dX7_append_0 : decode cX7_append 0 = .ok (.bipush 24, 2) := by decide +kernel
theorem dX7_append_2 : decode cX7_append 2 = .ok (.istore_n 2, 1) := by decide +kernel
theorem dX7_append_3 : decode cX7_append 3 = .ok (.iload_n 2, 1) := by decide +kernel
theorem dX7_append_4 : decode cX7_append 4 = .ok (.ifCond .lt 45, 3) := by decide +kernel
theorem dX7_append_7 : decode cX7_append 7 = .ok (.aload_n 0, 1) := by decide +kernel
theorem dX7_append_8 : decode cX7_append 8 = .ok (.getfield 32, 3) := by decide +kernel
theorem dX7_append_11 : decode cX7_append 11 = .ok (.sipush 600, 3) := by decide +kernel
theorem dX7_append_14 : decode cX7_append 14 = .ok (.if_icmp .ge 29, 3) := by decide +kernel
theorem dX7_append_17 : decode cX7_append 17 = .ok (.aload_n 0, 1) := by decide +kernel
theorem dX7_append_18 : decode cX7_append 18 = .ok (.getfield 9, 3) := by decide +kernel
theorem dX7_append_21 : decode cX7_append 21 = .ok (.aload_n 0, 1) := by decide +kernel
theorem dX7_append_22 : decode cX7_append 22 = .ok (.getfield 32, 3) := by decide +kernel
theorem dX7_append_25 : decode cX7_append 25 = .ok (.iload_n 1, 1) := by decide +kernel
theorem dX7_append_26 : decode cX7_append 26 = .ok (.iload_n 2, 1) := by decide +kernel
theorem dX7_append_27 : decode cX7_append 27 = .ok (.ishr, 1) := by decide +kernel
theorem dX7_append_28 : decode cX7_append 28 = .ok (.sipush 255, 3) := by decide +kernel
theorem dX7_append_31 : decode cX7_append 31 = .ok (.iand, 1) := by decide +kernel
theorem dX7_append_32 : decode cX7_append 32 = .ok (.iastore, 1) := by decide +kernel
theorem dX7_append_33 : decode cX7_append 33 = .ok (.aload_n 0, 1) := by decide +kernel
theorem dX7_append_34 : decode cX7_append 34 = .ok (.dup, 1) := by decide +kernel
theorem dX7_append_35 : decode cX7_append 35 = .ok (.getfield 32, 3) := by decide +kernel
theorem dX7_append_38 : decode cX7_append 38 = .ok (.iconst 1, 1) := by decide +kernel
theorem dX7_append_39 : decode cX7_append 39 = .ok (.iadd, 1) := by decide +kernel
theorem dX7_append_40 : decode cX7_append 40 = .ok (.putfield 32, 3) := by decide +kernel
theorem dX7_append_43 : decode cX7_append 43 = .ok (.iinc 2 (-8), 3) := by decide +kernel
theorem dX7_append_46 : decode cX7_append 46 = .ok (.goto (-43), 3) := by decide +kernel
theorem dX7_append_49 : decode cX7_append 49 = .ok (.return_, 1) := by decide +kernel
