theorem wd_0 : Cond.selects "MineAir" (⟨"MineAir", "refuse", "(I)I"⟩ : MethodName) (⟨"MineAir", "refuse", "(I)I"⟩ : MethodName) ∈ wG := wG_of 0 (by decide +kernel) (by decide +kernel)
theorem wd_23 : Cond.selects "MineAir" (⟨"MineAir", "forgetVerdicts", "()V"⟩ : MethodName) (⟨"MineAir", "forgetVerdicts", "()V"⟩ : MethodName) ∈ wG := wG_of 23 (by decide +kernel) (by decide +kernel)
theorem wd_25 : Cond.selects "MineAir" (⟨"MineAir", "isWay", "(I)Z"⟩ : MethodName) (⟨"MineAir", "isWay", "(I)Z"⟩ : MethodName) ∈ wG := wG_of 25 (by decide +kernel) (by decide +kernel)
theorem wd_26 : Cond.selects "MineAir" (⟨"MineAir", "isDoor", "(I)Z"⟩ : MethodName) (⟨"MineAir", "isDoor", "(I)Z"⟩ : MethodName) ∈ wG := wG_of 26 (by decide +kernel) (by decide +kernel)
theorem wd_27 : Cond.selects "MineAir" (⟨"MineAir", "deny", "(I)Z"⟩ : MethodName) (⟨"MineAir", "deny", "(I)Z"⟩ : MethodName) ∈ wG := wG_of 27 (by decide +kernel) (by decide +kernel)
theorem wd_28 : Cond.selects "MineAir" (⟨"MineAir", "allow", "()Z"⟩ : MethodName) (⟨"MineAir", "allow", "()Z"⟩ : MethodName) ∈ wG := wG_of 28 (by decide +kernel) (by decide +kernel)
theorem wd_29 : Cond.selects "MineAir" (⟨"MineAir", "isFan", "(I)Z"⟩ : MethodName) (⟨"MineAir", "isFan", "(I)Z"⟩ : MethodName) ∈ wG := wG_of 29 (by decide +kernel) (by decide +kernel)
theorem wd_39 : Cond.selects "MineAir" (⟨"MineAir", "isBooked", "()Z"⟩ : MethodName) (⟨"MineAir", "isBooked", "()Z"⟩ : MethodName) ∈ wG := wG_of 39 (by decide +kernel) (by decide +kernel)
theorem wd_49 : Cond.selects "MineAir" (⟨"MineAir", "isMan", "(I)Z"⟩ : MethodName) (⟨"MineAir", "isMan", "(I)Z"⟩ : MethodName) ∈ wG := wG_of 49 (by decide +kernel) (by decide +kernel)
theorem wd_52 : Cond.selects "MineAir" (⟨"MineAir", "isTarget", "(II)Z"⟩ : MethodName) (⟨"MineAir", "isTarget", "(II)Z"⟩ : MethodName) ∈ wG := wG_of 52 (by decide +kernel) (by decide +kernel)
theorem wd_114 : Cond.initialized "MineAir" ∈ wG := wG_of 114 (by decide +kernel) (by decide +kernel)
theorem wd_123 : Cond.initialized "MineAir$Plan" ∈ wG := wG_of 123 (by decide +kernel) (by decide +kernel)
theorem wd_171 : Cond.fieldLink "MineAir" 322 "MineAir$Gear" "pairs" "I" ∈ wG := wG_of 171 (by decide +kernel) (by decide +kernel)
theorem wd_197 : Cond.fieldLink "MineAir" 328 "MineAir$Gear" "faces" "I" ∈ wG := wG_of 197 (by decide +kernel) (by decide +kernel)
theorem wd_287 : Cond.fieldLink "MineAir" 268 "MineAir$Book" "knots" "I" ∈ wG := wG_of 287 (by decide +kernel) (by decide +kernel)
theorem wd_292 : Cond.fieldLink "MineAir" 331 "MineAir$Book" "day" "I" ∈ wG := wG_of 292 (by decide +kernel) (by decide +kernel)
theorem wd_334 : Cond.fieldLink "MineAir" 79 "MineAir$Reader" "fed" "I" ∈ wG := wG_of 334 (by decide +kernel) (by decide +kernel)
theorem wd_407 : Cond.fieldLink "MineAir" 194 "MineAir$State" "mark" "I" ∈ wG := wG_of 407 (by decide +kernel) (by decide +kernel)
theorem wd_541 : Cond.fieldLink "MineAir" 337 "MineAir$Trials" "settingKnown" "Z" ∈ wG := wG_of 541 (by decide +kernel) (by decide +kernel)
theorem wd_573 : Cond.fieldLink "MineAir" 114 "MineAir$Plan" "count" "I" ∈ wG := wG_of 573 (by decide +kernel) (by decide +kernel)
theorem wd_583 : Cond.fieldLink "MineAir$Plan" 38 "MineAir$Plan" "found" "I" ∈ wG := wG_of 583 (by decide +kernel) (by decide +kernel)
theorem wd_650 : Cond.fieldLink "MineAir" 117 "MineAir$Readings" "count" "I" ∈ wG := wG_of 650 (by decide +kernel) (by decide +kernel)
theorem wd_670 : Cond.fieldLink "MineAir" 24 "MineAir" "reader" "LMineAir$Reader;" ∈ wG := wG_of 670 (by decide +kernel) (by decide +kernel)
theorem wd_673 : Cond.fieldLink "MineAir" 31 "MineAir" "state" "LMineAir$State;" ∈ wG := wG_of 673 (by decide +kernel) (by decide +kernel)
theorem wd_675 : Cond.fieldLink "MineAir" 49 "MineAir" "trials" "LMineAir$Trials;" ∈ wG := wG_of 675 (by decide +kernel) (by decide +kernel)
theorem wd_676 : Cond.fieldLink "MineAir" 58 "MineAir" "plan" "LMineAir$Plan;" ∈ wG := wG_of 676 (by decide +kernel) (by decide +kernel)
theorem wd_678 : Cond.fieldLink "MineAir" 72 "MineAir" "readings" "LMineAir$Readings;" ∈ wG := wG_of 678 (by decide +kernel) (by decide +kernel)
theorem wd_680 : Cond.fieldLink "MineAir" 98 "MineAir" "fault" "I" ∈ wG := wG_of 680 (by decide +kernel) (by decide +kernel)
theorem wd_719 : Cond.methodLink "MineAir" 87 (⟨"MineAir", "refuse", "(I)I"⟩ : MethodName) ∈ wG := wG_of 719 (by decide +kernel) (by decide +kernel)
theorem wd_721 : Cond.instanceMethod (⟨"MineAir", "refuse", "(I)I"⟩ : MethodName) ∈ wG := wG_of 721 (by decide +kernel) (by decide +kernel)
theorem wd_722 : Cond.code (⟨"MineAir", "refuse", "(I)I"⟩ : MethodName) prog_1_method_32_code 2 (Option.some Jvm.ClassFile.FieldType.int) ∈ wG := wG_of 722 (by decide +kernel) (by decide +kernel)
theorem wd_922 : Cond.methodLink "MineAir" 197 (⟨"MineAir", "forgetVerdicts", "()V"⟩ : MethodName) ∈ wG := wG_of 922 (by decide +kernel) (by decide +kernel)
theorem wd_924 : Cond.instanceMethod (⟨"MineAir", "forgetVerdicts", "()V"⟩ : MethodName) ∈ wG := wG_of 924 (by decide +kernel) (by decide +kernel)
theorem wd_925 : Cond.code (⟨"MineAir", "forgetVerdicts", "()V"⟩ : MethodName) prog_1_method_37_code 1 (Option.none : Option Jvm.ClassFile.FieldType) ∈ wG := wG_of 925 (by decide +kernel) (by decide +kernel)
theorem wd_926 : Cond.methodLink "MineAir" 340 (⟨"MineAir$Plan", "forget", "()V"⟩ : MethodName) ∈ wG := wG_of 926 (by decide +kernel) (by decide +kernel)
theorem wd_927 : Cond.instanceMethod (⟨"MineAir$Plan", "forget", "()V"⟩ : MethodName) ∈ wG := wG_of 927 (by decide +kernel) (by decide +kernel)
theorem wd_928 : Cond.selects "MineAir$Plan" (⟨"MineAir$Plan", "forget", "()V"⟩ : MethodName) (⟨"MineAir$Plan", "forget", "()V"⟩ : MethodName) ∈ wG := wG_of 928 (by decide +kernel) (by decide +kernel)
theorem wd_929 : Cond.code (⟨"MineAir$Plan", "forget", "()V"⟩ : MethodName) prog_8_method_2_code 1 (Option.none : Option Jvm.ClassFile.FieldType) ∈ wG := wG_of 929 (by decide +kernel) (by decide +kernel)
theorem wd_947 : Cond.methodLink "MineAir" 130 (⟨"MineAir", "isWay", "(I)Z"⟩ : MethodName) ∈ wG := wG_of 947 (by decide +kernel) (by decide +kernel)
theorem wd_949 : Cond.instanceMethod (⟨"MineAir", "isWay", "(I)Z"⟩ : MethodName) ∈ wG := wG_of 949 (by decide +kernel) (by decide +kernel)
theorem wd_950 : Cond.code (⟨"MineAir", "isWay", "(I)Z"⟩ : MethodName) prog_1_method_40_code 2 (Option.some Jvm.ClassFile.FieldType.boolean) ∈ wG := wG_of 950 (by decide +kernel) (by decide +kernel)
theorem wd_951 : Cond.constant "MineAir" 133 (-2147483648) ∈ wG := wG_of 951 (by decide +kernel) (by decide +kernel)
theorem wd_956 : Cond.methodLink "MineAir" 156 (⟨"MineAir", "orNotSo", "(I)I"⟩ : MethodName) ∈ wG := wG_of 956 (by decide +kernel) (by decide +kernel)
theorem wd_957 : Cond.static (⟨"MineAir", "orNotSo", "(I)I"⟩ : MethodName) ∈ wG := wG_of 957 (by decide +kernel) (by decide +kernel)
theorem wd_958 : Cond.code (⟨"MineAir", "orNotSo", "(I)I"⟩ : MethodName) prog_1_method_46_code 1 (Option.some Jvm.ClassFile.FieldType.int) ∈ wG := wG_of 958 (by decide +kernel) (by decide +kernel)
theorem wd_963 : Cond.methodLink "MineAir" 172 (⟨"MineAir", "isDoor", "(I)Z"⟩ : MethodName) ∈ wG := wG_of 963 (by decide +kernel) (by decide +kernel)
theorem wd_965 : Cond.instanceMethod (⟨"MineAir", "isDoor", "(I)Z"⟩ : MethodName) ∈ wG := wG_of 965 (by decide +kernel) (by decide +kernel)
theorem wd_966 : Cond.code (⟨"MineAir", "isDoor", "(I)Z"⟩ : MethodName) prog_1_method_41_code 2 (Option.some Jvm.ClassFile.FieldType.boolean) ∈ wG := wG_of 966 (by decide +kernel) (by decide +kernel)
theorem wd_967 : Cond.methodLink "MineAir" 175 (⟨"MineAir", "deny", "(I)Z"⟩ : MethodName) ∈ wG := wG_of 967 (by decide +kernel) (by decide +kernel)
theorem wd_969 : Cond.instanceMethod (⟨"MineAir", "deny", "(I)Z"⟩ : MethodName) ∈ wG := wG_of 969 (by decide +kernel) (by decide +kernel)
theorem wd_970 : Cond.code (⟨"MineAir", "deny", "(I)Z"⟩ : MethodName) prog_1_method_34_code 2 (Option.some Jvm.ClassFile.FieldType.boolean) ∈ wG := wG_of 970 (by decide +kernel) (by decide +kernel)
theorem wd_971 : Cond.methodLink "MineAir" 181 (⟨"MineAir", "allow", "()Z"⟩ : MethodName) ∈ wG := wG_of 971 (by decide +kernel) (by decide +kernel)
theorem wd_973 : Cond.instanceMethod (⟨"MineAir", "allow", "()Z"⟩ : MethodName) ∈ wG := wG_of 973 (by decide +kernel) (by decide +kernel)
theorem wd_974 : Cond.code (⟨"MineAir", "allow", "()Z"⟩ : MethodName) prog_1_method_35_code 1 (Option.some Jvm.ClassFile.FieldType.boolean) ∈ wG := wG_of 974 (by decide +kernel) (by decide +kernel)
theorem wd_979 : Cond.methodLink "MineAir" 185 (⟨"MineAir", "isFan", "(I)Z"⟩ : MethodName) ∈ wG := wG_of 979 (by decide +kernel) (by decide +kernel)
theorem wd_981 : Cond.instanceMethod (⟨"MineAir", "isFan", "(I)Z"⟩ : MethodName) ∈ wG := wG_of 981 (by decide +kernel) (by decide +kernel)
theorem wd_982 : Cond.code (⟨"MineAir", "isFan", "(I)Z"⟩ : MethodName) prog_1_method_42_code 2 (Option.some Jvm.ClassFile.FieldType.boolean) ∈ wG := wG_of 982 (by decide +kernel) (by decide +kernel)
theorem wd_1065 : Cond.methodLink "MineAir" 212 (⟨"MineAir", "isBooked", "()Z"⟩ : MethodName) ∈ wG := wG_of 1065 (by decide +kernel) (by decide +kernel)
theorem wd_1067 : Cond.instanceMethod (⟨"MineAir", "isBooked", "()Z"⟩ : MethodName) ∈ wG := wG_of 1067 (by decide +kernel) (by decide +kernel)
theorem wd_1068 : Cond.code (⟨"MineAir", "isBooked", "()Z"⟩ : MethodName) prog_1_method_39_code 1 (Option.some Jvm.ClassFile.FieldType.boolean) ∈ wG := wG_of 1068 (by decide +kernel) (by decide +kernel)
theorem wd_1242 : Cond.methodLink "MineAir" 274 (⟨"MineAir", "isMan", "(I)Z"⟩ : MethodName) ∈ wG := wG_of 1242 (by decide +kernel) (by decide +kernel)
theorem wd_1244 : Cond.instanceMethod (⟨"MineAir", "isMan", "(I)Z"⟩ : MethodName) ∈ wG := wG_of 1244 (by decide +kernel) (by decide +kernel)
theorem wd_1245 : Cond.code (⟨"MineAir", "isMan", "(I)Z"⟩ : MethodName) prog_1_method_43_code 2 (Option.some Jvm.ClassFile.FieldType.boolean) ∈ wG := wG_of 1245 (by decide +kernel) (by decide +kernel)
theorem wd_1262 : Cond.methodLink "MineAir" 280 (⟨"MineAir", "isTarget", "(II)Z"⟩ : MethodName) ∈ wG := wG_of 1262 (by decide +kernel) (by decide +kernel)
theorem wd_1264 : Cond.instanceMethod (⟨"MineAir", "isTarget", "(II)Z"⟩ : MethodName) ∈ wG := wG_of 1264 (by decide +kernel) (by decide +kernel)
theorem wd_1265 : Cond.code (⟨"MineAir", "isTarget", "(II)Z"⟩ : MethodName) prog_1_method_44_code 3 (Option.some Jvm.ClassFile.FieldType.boolean) ∈ wG := wG_of 1265 (by decide +kernel) (by decide +kernel)
theorem dX11_air_0 : decode cX11_air 0 = .ok (.aload_n 0, 1) := by decide +kernel
theorem dX11_air_1 : decode cX11_air 1 = .ok (.iload_n 1, 1) := by decide +kernel
theorem dX11_air_2 : decode cX11_air 2 = .ok (.invokevirtual 130, 3) := by decide +kernel
theorem dX11_air_5 : decode cX11_air 5 = .ok (.ifCond .ne 6, 3) := by decide +kernel
theorem dX11_air_8 : decode cX11_air 8 = .ok (.bipush (-100), 2) := by decide +kernel
theorem dX11_air_10 : decode cX11_air 10 = .ok (.ireturn, 1) := by decide +kernel
theorem dX11_change_0 : decode cX11_change 0 = .ok (.aload_n 0, 1) := by decide +kernel
theorem dX11_change_1 : decode cX11_change 1 = .ok (.iload_n 1, 1) := by decide +kernel
theorem dX11_change_2 : decode cX11_change 2 = .ok (.iload_n 2, 1) := by decide +kernel
theorem dX11_change_3 : decode cX11_change 3 = .ok (.invokevirtual 280, 3) := by decide +kernel
theorem dX11_change_6 : decode cX11_change 6 = .ok (.ifCond .ne 9, 3) := by decide +kernel
theorem dX11_change_9 : decode cX11_change 9 = .ok (.aload_n 0, 1) := by decide +kernel
theorem dX11_change_10 : decode cX11_change 10 = .ok (.iconst 1, 1) := by decide +kernel
theorem dX11_change_11 : decode cX11_change 11 = .ok (.invokevirtual 87, 3) := by decide +kernel
theorem dX11_change_14 : decode cX11_change 14 = .ok (.ireturn, 1) := by decide +kernel
theorem dX11_cost_0 : decode cX11_cost 0 = .ok (.aload_n 0, 1) := by decide +kernel
theorem dX11_cost_1 : decode cX11_cost 1 = .ok (.invokevirtual 212, 3) := by decide +kernel
theorem dX11_cost_4 : decode cX11_cost 4 = .ok (.ifCond .ne 5, 3) := by decide +kernel
theorem dX11_cost_7 : decode cX11_cost 7 = .ok (.lconst 0, 1) := by decide +kernel
theorem dX11_cost_8 : decode cX11_cost 8 = .ok (.lreturn, 1) := by decide +kernel
theorem dX11_count_0 : decode cX11_count 0 = .ok (.iload_n 1, 1) := by decide +kernel
theorem dX11_count_1 : decode cX11_count 1 = .ok (.tableswitch 162 0 10 #[59, 67, 75, 86, 97, 108, 119, 127, 135, 143, 154], 59) := by decide +kernel
theorem dX11_count_60 : decode cX11_count 60 = .ok (.aload_n 0, 1) := by decide +kernel
theorem dX11_count_61 : decode cX11_count 61 = .ok (.getfield 16, 3) := by decide +kernel
theorem dX11_count_64 : decode cX11_count 64 = .ok (.getfield 121, 3) := by decide +kernel
theorem dX11_count_67 : decode cX11_count 67 = .ok (.ireturn, 1) := by decide +kernel
theorem dX11_count_68 : decode cX11_count 68 = .ok (.aload_n 0, 1) := by decide +kernel
theorem dX11_count_69 : decode cX11_count 69 = .ok (.getfield 16, 3) := by decide +kernel
theorem dX11_count_72 : decode cX11_count 72 = .ok (.getfield 268, 3) := by decide +kernel
theorem dX11_count_75 : decode cX11_count 75 = .ok (.ireturn, 1) := by decide +kernel
theorem dX11_count_76 : decode cX11_count 76 = .ok (.aload_n 0, 1) := by decide +kernel
theorem dX11_count_77 : decode cX11_count 77 = .ok (.getfield 16, 3) := by decide +kernel
theorem dX11_count_80 : decode cX11_count 80 = .ok (.getfield 313, 3) := by decide +kernel
theorem dX11_count_83 : decode cX11_count 83 = .ok (.getfield 317, 3) := by decide +kernel
theorem dX11_count_86 : decode cX11_count 86 = .ok (.ireturn, 1) := by decide +kernel
theorem dX11_count_87 : decode cX11_count 87 = .ok (.aload_n 0, 1) := by decide +kernel
theorem dX11_count_88 : decode cX11_count 88 = .ok (.getfield 16, 3) := by decide +kernel
theorem dX11_count_91 : decode cX11_count 91 = .ok (.getfield 313, 3) := by decide +kernel
theorem dX11_count_94 : decode cX11_count 94 = .ok (.getfield 322, 3) := by decide +kernel
theorem dX11_count_97 : decode cX11_count 97 = .ok (.ireturn, 1) := by decide +kernel
theorem dX11_count_98 : decode cX11_count 98 = .ok (.aload_n 0, 1) := by decide +kernel
theorem dX11_count_99 : decode cX11_count 99 = .ok (.getfield 16, 3) := by decide +kernel
theorem dX11_count_102 : decode cX11_count 102 = .ok (.getfield 313, 3) := by decide +kernel
theorem dX11_count_105 : decode cX11_count 105 = .ok (.getfield 325, 3) := by decide +kernel
theorem dX11_count_108 : decode cX11_count 108 = .ok (.ireturn, 1) := by decide +kernel
theorem dX11_count_109 : decode cX11_count 109 = .ok (.aload_n 0, 1) := by decide +kernel
theorem dX11_count_110 : decode cX11_count 110 = .ok (.getfield 16, 3) := by decide +kernel
theorem dX11_count_113 : decode cX11_count 113 = .ok (.getfield 313, 3) := by decide +kernel
theorem dX11_count_116 : decode cX11_count 116 = .ok (.getfield 328, 3) := by decide +kernel
theorem dX11_count_119 : decode cX11_count 119 = .ok (.ireturn, 1) := by decide +kernel
theorem dX11_count_120 : decode cX11_count 120 = .ok (.aload_n 0, 1) := by decide +kernel
theorem dX11_count_121 : decode cX11_count 121 = .ok (.getfield 65, 3) := by decide +kernel
theorem dX11_count_124 : decode cX11_count 124 = .ok (.getfield 111, 3) := by decide +kernel
theorem dX11_count_127 : decode cX11_count 127 = .ok (.ireturn, 1) := by decide +kernel
theorem dX11_count_128 : decode cX11_count 128 = .ok (.aload_n 0, 1) := by decide +kernel
theorem dX11_count_129 : decode cX11_count 129 = .ok (.getfield 58, 3) := by decide +kernel
theorem dX11_count_132 : decode cX11_count 132 = .ok (.getfield 114, 3) := by decide +kernel
theorem dX11_count_135 : decode cX11_count 135 = .ok (.ireturn, 1) := by decide +kernel
theorem dX11_count_136 : decode cX11_count 136 = .ok (.aload_n 0, 1) := by decide +kernel
theorem dX11_count_137 : decode cX11_count 137 = .ok (.getfield 72, 3) := by decide +kernel
theorem dX11_count_140 : decode cX11_count 140 = .ok (.getfield 117, 3) := by decide +kernel
theorem dX11_count_143 : decode cX11_count 143 = .ok (.ireturn, 1) := by decide +kernel
theorem dX11_count_144 : decode cX11_count 144 = .ok (.aload_n 0, 1) := by decide +kernel
theorem dX11_count_145 : decode cX11_count 145 = .ok (.getfield 16, 3) := by decide +kernel
theorem dX11_count_148 : decode cX11_count 148 = .ok (.getfield 331, 3) := by decide +kernel
theorem dX11_count_151 : decode cX11_count 151 = .ok (.invokestatic 156, 3) := by decide +kernel
theorem dX11_count_154 : decode cX11_count 154 = .ok (.ireturn, 1) := by decide +kernel
theorem dX11_count_155 : decode cX11_count 155 = .ok (.aload_n 0, 1) := by decide +kernel
theorem dX11_count_156 : decode cX11_count 156 = .ok (.getfield 24, 3) := by decide +kernel
theorem dX11_count_159 : decode cX11_count 159 = .ok (.getfield 79, 3) := by decide +kernel
theorem dX11_count_162 : decode cX11_count 162 = .ok (.ireturn, 1) := by decide +kernel
theorem dX11_count_163 : decode cX11_count 163 = .ok (.iconst (-1), 1) := by decide +kernel
theorem dX11_count_164 : decode cX11_count 164 = .ok (.ireturn, 1) := by decide +kernel
theorem dX11_door_0 : decode cX11_door 0 = .ok (.aload_n 0, 1) := by decide +kernel
theorem dX11_door_1 : decode cX11_door 1 = .ok (.iload_n 1, 1) := by decide +kernel
theorem dX11_door_2 : decode cX11_door 2 = .ok (.invokevirtual 172, 3) := by decide +kernel
theorem dX11_door_5 : decode cX11_door 5 = .ok (.ifCond .ne 9, 3) := by decide +kernel
theorem dX11_door_8 : decode cX11_door 8 = .ok (.aload_n 0, 1) := by decide +kernel
theorem dX11_door_9 : decode cX11_door 9 = .ok (.iconst 1, 1) := by decide +kernel
theorem dX11_door_10 : decode cX11_door 10 = .ok (.invokevirtual 175, 3) := by decide +kernel
theorem dX11_door_13 : decode cX11_door 13 = .ok (.ireturn, 1) := by decide +kernel
theorem dX11_failing_0 : decode cX11_failing 0 = .ok (.aload_n 0, 1) := by decide +kernel
theorem dX11_failing_1 : decode cX11_failing 1 = .ok (.invokevirtual 212, 3) := by decide +kernel
theorem dX11_failing_4 : decode cX11_failing 4 = .ok (.ifCond .ne 9, 3) := by decide +kernel
theorem dX11_failing_7 : decode cX11_failing 7 = .ok (.aload_n 0, 1) := by decide +kernel
theorem dX11_failing_8 : decode cX11_failing 8 = .ok (.iconst 1, 1) := by decide +kernel
theorem dX11_failing_9 : decode cX11_failing 9 = .ok (.invokevirtual 87, 3) := by decide +kernel
theorem dX11_failing_12 : decode cX11_failing 12 = .ok (.ireturn, 1) := by decide +kernel
theorem dX11_fall_0 : decode cX11_fall 0 = .ok (.aload_n 0, 1) := by decide +kernel
theorem dX11_fall_1 : decode cX11_fall 1 = .ok (.iload_n 1, 1) := by decide +kernel
theorem dX11_fall_2 : decode cX11_fall 2 = .ok (.invokevirtual 130, 3) := by decide +kernel
theorem dX11_fall_5 : decode cX11_fall 5 = .ok (.ifCond .ne 9, 3) := by decide +kernel
theorem dX11_fall_8 : decode cX11_fall 8 = .ok (.aload_n 0, 1) := by decide +kernel
theorem dX11_fall_9 : decode cX11_fall 9 = .ok (.iconst 1, 1) := by decide +kernel
theorem dX11_fall_10 : decode cX11_fall 10 = .ok (.invokevirtual 175, 3) := by decide +kernel
theorem dX11_fall_13 : decode cX11_fall 13 = .ok (.ireturn, 1) := by decide +kernel
theorem dX11_fault_0 : decode cX11_fault 0 = .ok (.aload_n 0, 1) := by decide +kernel
theorem dX11_fault_1 : decode cX11_fault 1 = .ok (.getfield 98, 3) := by decide +kernel
theorem dX11_fault_4 : decode cX11_fault 4 = .ok (.ireturn, 1) := by decide +kernel
theorem dX11_fire_0 : decode cX11_fire 0 = .ok (.aload_n 0, 1) := by decide +kernel
theorem dX11_fire_1 : decode cX11_fire 1 = .ok (.iload_n 1, 1) := by decide +kernel
theorem dX11_fire_2 : decode cX11_fire 2 = .ok (.invokevirtual 130, 3) := by decide +kernel
theorem dX11_fire_5 : decode cX11_fire 5 = .ok (.ifCond .ne 9, 3) := by decide +kernel
theorem dX11_fire_8 : decode cX11_fire 8 = .ok (.aload_n 0, 1) := by decide +kernel
theorem dX11_fire_9 : decode cX11_fire 9 = .ok (.iconst 1, 1) := by decide +kernel
theorem dX11_fire_10 : decode cX11_fire 10 = .ok (.invokevirtual 175, 3) := by decide +kernel
theorem dX11_fire_13 : decode cX11_fire 13 = .ok (.ireturn, 1) := by decide +kernel
theorem dX11_fits_0 : decode cX11_fits 0 = .ok (.aload_n 0, 1) := by decide +kernel
theorem dX11_fits_1 : decode cX11_fits 1 = .ok (.invokevirtual 212, 3) := by decide +kernel
theorem dX11_fits_4 : decode cX11_fits 4 = .ok (.ifCond .ne 9, 3) := by decide +kernel
theorem dX11_fits_7 : decode cX11_fits 7 = .ok (.aload_n 0, 1) := by decide +kernel
theorem dX11_fits_8 : decode cX11_fits 8 = .ok (.iconst 1, 1) := by decide +kernel
theorem dX11_fits_9 : decode cX11_fits 9 = .ok (.invokevirtual 87, 3) := by decide +kernel
theorem dX11_fits_12 : decode cX11_fits 12 = .ok (.ireturn, 1) := by decide +kernel
theorem dX11_forgetVerdicts_0 : decode cX11_forgetVerdicts 0 = .ok (.aload_n 0, 1) := by decide +kernel
theorem dX11_forgetVerdicts_1 : decode cX11_forgetVerdicts 1 = .ok (.getfield 49, 3) := by decide +kernel
theorem dX11_forgetVerdicts_4 : decode cX11_forgetVerdicts 4 = .ok (.iconst 0, 1) := by decide +kernel
theorem dX11_forgetVerdicts_5 : decode cX11_forgetVerdicts 5 = .ok (.putfield 337, 3) := by decide +kernel
theorem dX11_forgetVerdicts_8 : decode cX11_forgetVerdicts 8 = .ok (.aload_n 0, 1) := by decide +kernel
theorem dX11_forgetVerdicts_9 : decode cX11_forgetVerdicts 9 = .ok (.getfield 58, 3) := by decide +kernel
theorem dX11_forgetVerdicts_12 : decode cX11_forgetVerdicts 12 = .ok (.invokevirtual 340, 3) := by decide +kernel
theorem dX11_forgetVerdicts_15 : decode cX11_forgetVerdicts 15 = .ok (.return_, 1) := by decide +kernel
theorem dX11_gas_0 : decode cX11_gas 0 = .ok (.aload_n 0, 1) := by decide +kernel
theorem dX11_gas_1 : decode cX11_gas 1 = .ok (.iload_n 1, 1) := by decide +kernel
theorem dX11_gas_2 : decode cX11_gas 2 = .ok (.invokevirtual 130, 3) := by decide +kernel
theorem dX11_gas_5 : decode cX11_gas 5 = .ok (.ifCond .ne 9, 3) := by decide +kernel
theorem dX11_gas_8 : decode cX11_gas 8 = .ok (.aload_n 0, 1) := by decide +kernel
theorem dX11_gas_9 : decode cX11_gas 9 = .ok (.iconst 1, 1) := by decide +kernel
theorem dX11_gas_10 : decode cX11_gas 10 = .ok (.invokevirtual 87, 3) := by decide +kernel
theorem dX11_gas_13 : decode cX11_gas 13 = .ok (.ireturn, 1) := by decide +kernel
theorem dX11_isTarget_0 : decode cX11_isTarget 0 = .ok (.iload_n 1, 1) := by decide +kernel
theorem dX11_isTarget_1 : decode cX11_isTarget 1 = .ok (.tableswitch 45 0 2 #[27, 33, 39], 27) := by decide +kernel
theorem dX11_isTarget_28 : decode cX11_isTarget 28 = .ok (.aload_n 0, 1) := by decide +kernel
theorem dX11_isTarget_29 : decode cX11_isTarget 29 = .ok (.iload_n 2, 1) := by decide +kernel
theorem dX11_isTarget_30 : decode cX11_isTarget 30 = .ok (.invokevirtual 172, 3) := by decide +kernel
theorem dX11_isTarget_33 : decode cX11_isTarget 33 = .ok (.ireturn, 1) := by decide +kernel
theorem dX11_isTarget_34 : decode cX11_isTarget 34 = .ok (.aload_n 0, 1) := by decide +kernel
theorem dX11_isTarget_35 : decode cX11_isTarget 35 = .ok (.iload_n 2, 1) := by decide +kernel
theorem dX11_isTarget_36 : decode cX11_isTarget 36 = .ok (.invokevirtual 185, 3) := by decide +kernel
theorem dX11_isTarget_39 : decode cX11_isTarget 39 = .ok (.ireturn, 1) := by decide +kernel
theorem dX11_isTarget_40 : decode cX11_isTarget 40 = .ok (.aload_n 0, 1) := by decide +kernel
theorem dX11_isTarget_41 : decode cX11_isTarget 41 = .ok (.iload_n 2, 1) := by decide +kernel
theorem dX11_isTarget_42 : decode cX11_isTarget 42 = .ok (.invokevirtual 130, 3) := by decide +kernel
theorem dX11_isTarget_45 : decode cX11_isTarget 45 = .ok (.ireturn, 1) := by decide +kernel
theorem dX11_isTarget_46 : decode cX11_isTarget 46 = .ok (.iconst 0, 1) := by decide +kernel
theorem dX11_isTarget_47 : decode cX11_isTarget 47 = .ok (.ireturn, 1) := by decide +kernel
theorem dX11_make_0 : decode cX11_make 0 = .ok (.aload_n 0, 1) := by decide +kernel
theorem dX11_make_1 : decode cX11_make 1 = .ok (.getfield 58, 3) := by decide +kernel
theorem dX11_make_4 : decode cX11_make 4 = .ok (.getfield 114, 3) := by decide +kernel
theorem dX11_make_7 : decode cX11_make 7 = .ok (.istore_n 1, 1) := by decide +kernel
theorem dX11_make_8 : decode cX11_make 8 = .ok (.iload_n 1, 1) := by decide +kernel
theorem dX11_make_9 : decode cX11_make 9 = .ok (.ifCond .ne 9, 3) := by decide +kernel
theorem dX11_make_12 : decode cX11_make 12 = .ok (.aload_n 0, 1) := by decide +kernel
theorem dX11_make_13 : decode cX11_make 13 = .ok (.iconst 5, 1) := by decide +kernel
theorem dX11_make_14 : decode cX11_make 14 = .ok (.invokevirtual 87, 3) := by decide +kernel
theorem dX11_make_17 : decode cX11_make 17 = .ok (.ireturn, 1) := by decide +kernel
theorem dX11_man_0 : decode cX11_man 0 = .ok (.iload_n 1, 1) := by decide +kernel
theorem dX11_man_1 : decode cX11_man 1 = .ok (.ifCond .lt 14, 3) := by decide +kernel
theorem dX11_man_4 : decode cX11_man 4 = .ok (.iload_n 1, 1) := by decide +kernel
theorem dX11_man_5 : decode cX11_man 5 = .ok (.aload_n 0, 1) := by decide +kernel
theorem dX11_man_6 : decode cX11_man 6 = .ok (.getfield 16, 3) := by decide +kernel
theorem dX11_man_9 : decode cX11_man 9 = .ok (.getfield 268, 3) := by decide +kernel
theorem dX11_man_12 : decode cX11_man 12 = .ok (.if_icmp .lt 9, 3) := by decide +kernel
theorem dX11_man_15 : decode cX11_man 15 = .ok (.aload_n 0, 1) := by decide +kernel
theorem dX11_man_16 : decode cX11_man 16 = .ok (.iconst 1, 1) := by decide +kernel
theorem dX11_man_17 : decode cX11_man 17 = .ok (.invokevirtual 87, 3) := by decide +kernel
theorem dX11_man_20 : decode cX11_man 20 = .ok (.ireturn, 1) := by decide +kernel
theorem dX11_mark_0 : decode cX11_mark 0 = .ok (.iload_n 1, 1) := by decide +kernel
theorem dX11_mark_1 : decode cX11_mark 1 = .ok (.iconst 1, 1) := by decide +kernel
theorem dX11_mark_2 : decode cX11_mark 2 = .ok (.if_icmp .lt 10, 3) := by decide +kernel
theorem dX11_mark_5 : decode cX11_mark 5 = .ok (.iload_n 1, 1) := by decide +kernel
theorem dX11_mark_6 : decode cX11_mark 6 = .ok (.sipush 999, 3) := by decide +kernel
theorem dX11_mark_9 : decode cX11_mark 9 = .ok (.if_icmp .le 9, 3) := by decide +kernel
theorem dX11_mark_12 : decode cX11_mark 12 = .ok (.aload_n 0, 1) := by decide +kernel
theorem dX11_mark_13 : decode cX11_mark 13 = .ok (.iconst 2, 1) := by decide +kernel
theorem dX11_mark_14 : decode cX11_mark 14 = .ok (.invokevirtual 175, 3) := by decide +kernel
theorem dX11_mark_17 : decode cX11_mark 17 = .ok (.ireturn, 1) := by decide +kernel
theorem dX11_mark_18 : decode cX11_mark 18 = .ok (.aload_n 0, 1) := by decide +kernel
theorem dX11_mark_19 : decode cX11_mark 19 = .ok (.getfield 31, 3) := by decide +kernel
theorem dX11_mark_22 : decode cX11_mark 22 = .ok (.iload_n 1, 1) := by decide +kernel
theorem dX11_mark_23 : decode cX11_mark 23 = .ok (.putfield 194, 3) := by decide +kernel
theorem dX11_mark_26 : decode cX11_mark 26 = .ok (.aload_n 0, 1) := by decide +kernel
theorem dX11_mark_27 : decode cX11_mark 27 = .ok (.invokevirtual 197, 3) := by decide +kernel
theorem dX11_mark_30 : decode cX11_mark 30 = .ok (.aload_n 0, 1) := by decide +kernel
theorem dX11_mark_31 : decode cX11_mark 31 = .ok (.invokevirtual 181, 3) := by decide +kernel
theorem dX11_mark_34 : decode cX11_mark 34 = .ok (.ireturn, 1) := by decide +kernel
theorem dX11_orNotSo_0 : decode cX11_orNotSo 0 = .ok (.iload_n 0, 1) := by decide +kernel
theorem dX11_orNotSo_1 : decode cX11_orNotSo 1 = .ok (.iconst (-1), 1) := by decide +kernel
theorem dX11_orNotSo_2 : decode cX11_orNotSo 2 = .ok (.if_icmp .ne 8, 3) := by decide +kernel
theorem dX11_orNotSo_5 : decode cX11_orNotSo 5 = .ok (.bipush (-2), 2) := by decide +kernel
theorem dX11_orNotSo_7 : decode cX11_orNotSo 7 = .ok (.goto 4, 3) := by decide +kernel
theorem dX11_orNotSo_10 : decode cX11_orNotSo 10 = .ok (.iload_n 0, 1) := by decide +kernel
theorem dX11_orNotSo_11 : decode cX11_orNotSo 11 = .ok (.ireturn, 1) := by decide +kernel
theorem dX11_order_0 : decode cX11_order 0 = .ok (.iload_n 1, 1) := by decide +kernel
theorem dX11_order_1 : decode cX11_order 1 = .ok (.ifCond .lt 14, 3) := by decide +kernel
theorem dX11_order_4 : decode cX11_order 4 = .ok (.iload_n 1, 1) := by decide +kernel
theorem dX11_order_5 : decode cX11_order 5 = .ok (.aload_n 0, 1) := by decide +kernel
theorem dX11_order_6 : decode cX11_order 6 = .ok (.getfield 58, 3) := by decide +kernel
theorem dX11_order_9 : decode cX11_order 9 = .ok (.getfield 114, 3) := by decide +kernel
theorem dX11_order_12 : decode cX11_order 12 = .ok (.if_icmp .lt 9, 3) := by decide +kernel
theorem dX11_order_15 : decode cX11_order 15 = .ok (.aload_n 0, 1) := by decide +kernel
theorem dX11_order_16 : decode cX11_order 16 = .ok (.iconst 1, 1) := by decide +kernel
theorem dX11_order_17 : decode cX11_order 17 = .ok (.invokevirtual 87, 3) := by decide +kernel
theorem dX11_order_20 : decode cX11_order 20 = .ok (.ireturn, 1) := by decide +kernel
theorem dX11_out_0 : decode cX11_out 0 = .ok (.aload_n 0, 1) := by decide +kernel
theorem dX11_out_1 : decode cX11_out 1 = .ok (.iload_n 1, 1) := by decide +kernel
theorem dX11_out_2 : decode cX11_out 2 = .ok (.invokevirtual 274, 3) := by decide +kernel
theorem dX11_out_5 : decode cX11_out 5 = .ok (.ifCond .ne 9, 3) := by decide +kernel
theorem dX11_out_8 : decode cX11_out 8 = .ok (.aload_n 0, 1) := by decide +kernel
theorem dX11_out_9 : decode cX11_out 9 = .ok (.iconst 1, 1) := by decide +kernel
theorem dX11_out_10 : decode cX11_out 10 = .ok (.invokevirtual 87, 3) := by decide +kernel
theorem dX11_out_13 : decode cX11_out 13 = .ok (.ireturn, 1) := by decide +kernel
theorem dX11_over_0 : decode cX11_over 0 = .ok (.aload_n 0, 1) := by decide +kernel
theorem dX11_over_1 : decode cX11_over 1 = .ok (.invokevirtual 212, 3) := by decide +kernel
theorem dX11_over_4 : decode cX11_over 4 = .ok (.ifCond .ne 9, 3) := by decide +kernel
theorem dX11_over_7 : decode cX11_over 7 = .ok (.aload_n 0, 1) := by decide +kernel
theorem dX11_over_8 : decode cX11_over 8 = .ok (.iconst 1, 1) := by decide +kernel
theorem dX11_over_9 : decode cX11_over 9 = .ok (.invokevirtual 87, 3) := by decide +kernel
theorem dX11_over_12 : decode cX11_over 12 = .ok (.ireturn, 1) := by decide +kernel
theorem dX11_reading_0 : decode cX11_reading 0 = .ok (.aload_n 0, 1) := by decide +kernel
theorem dX11_reading_1 : decode cX11_reading 1 = .ok (.iload_n 1, 1) := by decide +kernel
theorem dX11_reading_2 : decode cX11_reading 2 = .ok (.invokevirtual 130, 3) := by decide +kernel
theorem dX11_reading_5 : decode cX11_reading 5 = .ok (.ifCond .ne 9, 3) := by decide +kernel
theorem dX11_reading_8 : decode cX11_reading 8 = .ok (.aload_n 0, 1) := by decide +kernel
theorem dX11_reading_9 : decode cX11_reading 9 = .ok (.iconst 1, 1) := by decide +kernel
theorem dX11_reading_10 : decode cX11_reading 10 = .ok (.invokevirtual 87, 3) := by decide +kernel
theorem dX11_reading_13 : decode cX11_reading 13 = .ok (.ireturn, 1) := by decide +kernel
theorem dX11_setting_0 : decode cX11_setting 0 = .ok (.aload_n 0, 1) := by decide +kernel
theorem dX11_setting_1 : decode cX11_setting 1 = .ok (.invokevirtual 212, 3) := by decide +kernel
theorem dX11_setting_4 : decode cX11_setting 4 = .ok (.ifCond .ne 9, 3) := by decide +kernel
theorem dX11_setting_7 : decode cX11_setting 7 = .ok (.aload_n 0, 1) := by decide +kernel
theorem dX11_setting_8 : decode cX11_setting 8 = .ok (.iconst 1, 1) := by decide +kernel
theorem dX11_setting_9 : decode cX11_setting 9 = .ok (.invokevirtual 87, 3) := by decide +kernel
theorem dX11_setting_12 : decode cX11_setting 12 = .ok (.ireturn, 1) := by decide +kernel
theorem dX11_smoke_0 : decode cX11_smoke 0 = .ok (.aload_n 0, 1) := by decide +kernel
theorem dX11_smoke_1 : decode cX11_smoke 1 = .ok (.iload_n 1, 1) := by decide +kernel
theorem dX11_smoke_2 : decode cX11_smoke 2 = .ok (.invokevirtual 130, 3) := by decide +kernel
theorem dX11_smoke_5 : decode cX11_smoke 5 = .ok (.ifCond .ne 9, 3) := by decide +kernel
theorem dX11_smoke_8 : decode cX11_smoke 8 = .ok (.aload_n 0, 1) := by decide +kernel
theorem dX11_smoke_9 : decode cX11_smoke 9 = .ok (.iconst 1, 1) := by decide +kernel
theorem dX11_smoke_10 : decode cX11_smoke 10 = .ok (.invokevirtual 87, 3) := by decide +kernel
theorem dX11_smoke_13 : decode cX11_smoke 13 = .ok (.ireturn, 1) := by decide +kernel
theorem dX11_sound_0 : decode cX11_sound 0 = .ok (.aload_n 0, 1) := by decide +kernel
theorem dX11_sound_1 : decode cX11_sound 1 = .ok (.invokevirtual 212, 3) := by decide +kernel
theorem dX11_sound_4 : decode cX11_sound 4 = .ok (.ifCond .ne 9, 3) := by decide +kernel
theorem dX11_sound_7 : decode cX11_sound 7 = .ok (.aload_n 0, 1) := by decide +kernel
theorem dX11_sound_8 : decode cX11_sound 8 = .ok (.iconst 1, 1) := by decide +kernel
theorem dX11_sound_9 : decode cX11_sound 9 = .ok (.invokevirtual 87, 3) := by decide +kernel
theorem dX11_sound_12 : decode cX11_sound 12 = .ok (.ireturn, 1) := by decide +kernel
theorem dX11_speed_0 : decode cX11_speed 0 = .ok (.aload_n 0, 1) := by decide +kernel
theorem dX11_speed_1 : decode cX11_speed 1 = .ok (.iload_n 1, 1) := by decide +kernel
theorem dX11_speed_2 : decode cX11_speed 2 = .ok (.invokevirtual 185, 3) := by decide +kernel
theorem dX11_speed_5 : decode cX11_speed 5 = .ok (.ifCond .ne 9, 3) := by decide +kernel
theorem dX11_speed_8 : decode cX11_speed 8 = .ok (.aload_n 0, 1) := by decide +kernel
theorem dX11_speed_9 : decode cX11_speed 9 = .ok (.iconst 1, 1) := by decide +kernel
theorem dX11_speed_10 : decode cX11_speed 10 = .ok (.invokevirtual 175, 3) := by decide +kernel
theorem dX11_speed_13 : decode cX11_speed 13 = .ok (.ireturn, 1) := by decide +kernel
theorem dX11_thick_0 : decode cX11_thick 0 = .ok (.aload_n 0, 1) := by decide +kernel
theorem dX11_thick_1 : decode cX11_thick 1 = .ok (.iload_n 1, 1) := by decide +kernel
theorem dX11_thick_2 : decode cX11_thick 2 = .ok (.invokevirtual 130, 3) := by decide +kernel
theorem dX11_thick_5 : decode cX11_thick 5 = .ok (.ifCond .ne 9, 3) := by decide +kernel
theorem dX11_thick_8 : decode cX11_thick 8 = .ok (.aload_n 0, 1) := by decide +kernel
theorem dX11_thick_9 : decode cX11_thick 9 = .ok (.iconst 1, 1) := by decide +kernel
theorem dX11_thick_10 : decode cX11_thick 10 = .ok (.invokevirtual 87, 3) := by decide +kernel
theorem dX11_thick_13 : decode cX11_thick 13 = .ok (.ireturn, 1) := by decide +kernel
theorem dX11_trouble_0 : decode cX11_trouble 0 = .ok (.aload_n 0, 1) := by decide +kernel
theorem dX11_trouble_1 : decode cX11_trouble 1 = .ok (.getfield 127, 3) := by decide +kernel
theorem dX11_trouble_4 : decode cX11_trouble 4 = .ok (.ireturn, 1) := by decide +kernel
theorem dX11_turned_0 : decode cX11_turned 0 = .ok (.aload_n 0, 1) := by decide +kernel
theorem dX11_turned_1 : decode cX11_turned 1 = .ok (.iload_n 1, 1) := by decide +kernel
theorem dX11_turned_2 : decode cX11_turned 2 = .ok (.invokevirtual 185, 3) := by decide +kernel
theorem dX11_turned_5 : decode cX11_turned 5 = .ok (.ifCond .ne 9, 3) := by decide +kernel
theorem dX11_turned_8 : decode cX11_turned 8 = .ok (.aload_n 0, 1) := by decide +kernel
theorem dX11_turned_9 : decode cX11_turned 9 = .ok (.iconst 1, 1) := by decide +kernel
theorem dX11_turned_10 : decode cX11_turned 10 = .ok (.invokevirtual 87, 3) := by decide +kernel
theorem dX11_turned_13 : decode cX11_turned 13 = .ok (.ireturn, 1) := by decide +kernel
theorem dX11_way_0 : decode cX11_way 0 = .ok (.aload_n 0, 1) := by decide +kernel
theorem dX11_way_1 : decode cX11_way 1 = .ok (.iload_n 1, 1) := by decide +kernel
theorem dX11_way_2 : decode cX11_way 2 = .ok (.invokevirtual 130, 3) := by decide +kernel
theorem dX11_way_5 : decode cX11_way 5 = .ok (.ifCond .ne 6, 3) := by decide +kernel
theorem dX11_way_8 : decode cX11_way 8 = .ok (.ldc 133, 2) := by decide +kernel
theorem dX11_way_10 : decode cX11_way 10 = .ok (.ireturn, 1) := by decide +kernel
theorem dX11_where_0 : decode cX11_where 0 = .ok (.aload_n 0, 1) := by decide +kernel
theorem dX11_where_1 : decode cX11_where 1 = .ok (.getfield 127, 3) := by decide +kernel
theorem dX11_where_4 : decode cX11_where 4 = .ok (.iconst 4, 1) := by decide +kernel
theorem dX11_where_5 : decode cX11_where 5 = .ok (.if_icmp .ne 10, 3) := by decide +kernel
theorem dX11_where_15 : decode cX11_where 15 = .ok (.iconst (-1), 1) := by decide +kernel
theorem dX11_where_16 : decode cX11_where 16 = .ok (.ireturn, 1) := by decide +kernel
theorem dX6_forget_0 : decode cX6_forget 0 = .ok (.aload_n 0, 1) := by decide +kernel
theorem dX6_forget_1 : decode cX6_forget 1 = .ok (.iconst 0, 1) := by decide +kernel
theorem dX6_forget_2 : decode cX6_forget 2 = .ok (.putfield 38, 3) := by decide +kernel
theorem dX6_forget_5 : decode cX6_forget 5 = .ok (.return_, 1) := by decide +kernel
theorem sw_0_2 (x : Int32) : (x.toInt < 0 ∨ 2 < x.toInt) ∨ x = 0 ∨ x = 1 ∨ x = 2 := by
  rcases (show (x.toInt < 0 ∨ 2 < x.toInt) ∨ x.toInt = 0 ∨ x.toInt = 1 ∨ x.toInt = 2 by omega) with h | h | h | h
  · exact Or.inl h
  · exact Or.inr (Or.inl (Int32.toInt_inj.mp h))
  · exact Or.inr (Or.inr (Or.inl (Int32.toInt_inj.mp h)))
  · exact Or.inr (Or.inr (Or.inr (Int32.toInt_inj.mp h)))
theorem sw_0_10 (x : Int32) : (x.toInt < 0 ∨ 10 < x.toInt) ∨ x = 0 ∨ x = 1 ∨ x = 2 ∨ x = 3 ∨ x = 4 ∨ x = 5 ∨ x = 6 ∨ x = 7 ∨ x = 8 ∨ x = 9 ∨ x = 10 := by
  rcases (show (x.toInt < 0 ∨ 10 < x.toInt) ∨ x.toInt = 0 ∨ x.toInt = 1 ∨ x.toInt = 2 ∨ x.toInt = 3 ∨ x.toInt = 4 ∨ x.toInt = 5 ∨ x.toInt = 6 ∨ x.toInt = 7 ∨ x.toInt = 8 ∨ x.toInt = 9 ∨ x.toInt = 10 by omega) with h | h | h | h | h | h | h | h | h | h | h | h
  · exact Or.inl h
  · exact Or.inr (Or.inl (Int32.toInt_inj.mp h))
  · exact Or.inr (Or.inr (Or.inl (Int32.toInt_inj.mp h)))
  · exact Or.inr (Or.inr (Or.inr (Or.inl (Int32.toInt_inj.mp h))))
  · exact Or.inr (Or.inr (Or.inr (Or.inr (Or.inl (Int32.toInt_inj.mp h)))))
  · exact Or.inr (Or.inr (Or.inr (Or.inr (Or.inr (Or.inl (Int32.toInt_inj.mp h))))))
  · exact Or.inr (Or.inr (Or.inr (Or.inr (Or.inr (Or.inr (Or.inl (Int32.toInt_inj.mp h)))))))
  · exact Or.inr (Or.inr (Or.inr (Or.inr (Or.inr (Or.inr (Or.inr (Or.inl (Int32.toInt_inj.mp h))))))))
  · exact Or.inr (Or.inr (Or.inr (Or.inr (Or.inr (Or.inr (Or.inr (Or.inr (Or.inl (Int32.toInt_inj.mp h)))))))))
  · exact Or.inr (Or.inr (Or.inr (Or.inr (Or.inr (Or.inr (Or.inr (Or.inr (Or.inr (Or.inl (Int32.toInt_inj.mp h))))))))))
  · exact Or.inr (Or.inr (Or.inr (Or.inr (Or.inr (Or.inr (Or.inr (Or.inr (Or.inr (Or.inr (Or.inl (Int32.toInt_inj.mp h)))))))))))
  · exact Or.inr (Or.inr (Or.inr (Or.inr (Or.inr (Or.inr (Or.inr (Or.inr (Or.inr (Or.inr (Or.inr (Int32.toInt_inj.mp h)))))))))))
theorem sw_0_29 (x : Int32) : (x.toInt < 0 ∨ 29 < x.toInt) ∨ x = 0 ∨ x = 1 ∨ x = 2 ∨ x = 3 ∨ x = 4 ∨ x = 5 ∨ x = 6 ∨ x = 7 ∨ x = 8 ∨ x = 9 ∨ x = 10 ∨ x = 11 ∨ x = 12 ∨ x = 13 ∨ x = 14 ∨ x = 15 ∨ x = 16 ∨ x = 17 ∨ x = 18 ∨ x = 19 ∨ x = 20 ∨ x = 21 ∨ x = 22 ∨ x = 23 ∨ x = 24 ∨ x = 25 ∨ x = 26 ∨ x = 27 ∨ x = 28 ∨ x = 29 := by
  rcases (show (x.toInt < 0 ∨ 29 < x.toInt) ∨ x.toInt = 0 ∨ x.toInt = 1 ∨ x.toInt = 2 ∨ x.toInt = 3 ∨ x.toInt = 4 ∨ x.toInt = 5 ∨ x.toInt = 6 ∨ x.toInt = 7 ∨ x.toInt = 8 ∨ x.toInt = 9 ∨ x.toInt = 10 ∨ x.toInt = 11 ∨ x.toInt = 12 ∨ x.toInt = 13 ∨ x.toInt = 14 ∨ x.toInt = 15 ∨ x.toInt = 16 ∨ x.toInt = 17 ∨ x.toInt = 18 ∨ x.toInt = 19 ∨ x.toInt = 20 ∨ x.toInt = 21 ∨ x.toInt = 22 ∨ x.toInt = 23 ∨ x.toInt = 24 ∨ x.toInt = 25 ∨ x.toInt = 26 ∨ x.toInt = 27 ∨ x.toInt = 28 ∨ x.toInt = 29 by omega) with h | h | h | h | h | h | h | h | h | h | h | h | h | h | h | h | h | h | h | h | h | h | h | h | h | h | h | h | h | h | h
  · exact Or.inl h
  · exact Or.inr (Or.inl (Int32.toInt_inj.mp h))
  · exact Or.inr (Or.inr (Or.inl (Int32.toInt_inj.mp h)))
  · exact Or.inr (Or.inr (Or.inr (Or.inl (Int32.toInt_inj.mp h))))
  · exact Or.inr (Or.inr (Or.inr (Or.inr (Or.inl (Int32.toInt_inj.mp h)))))
  · exact Or.inr (Or.inr (Or.inr (Or.inr (Or.inr (Or.inl (Int32.toInt_inj.mp h))))))
  · exact Or.inr (Or.inr (Or.inr (Or.inr (Or.inr (Or.inr (Or.inl (Int32.toInt_inj.mp h)))))))
  · exact Or.inr (Or.inr (Or.inr (Or.inr (Or.inr (Or.inr (Or.inr (Or.inl (Int32.toInt_inj.mp h))))))))
  · exact Or.inr (Or.inr (Or.inr (Or.inr (Or.inr (Or.inr (Or.inr (Or.inr (Or.inl (Int32.toInt_inj.mp h)))))))))
  · exact Or.inr (Or.inr (Or.inr (Or.inr (Or.inr (Or.inr (Or.inr (Or.inr (Or.inr (Or.inl (Int32.toInt_inj.mp h))))))))))
  · exact Or.inr (Or.inr (Or.inr (Or.inr (Or.inr (Or.inr (Or.inr (Or.inr (Or.inr (Or.inr (Or.inl (Int32.toInt_inj.mp h)))))))))))
  · exact Or.inr (Or.inr (Or.inr (Or.inr (Or.inr (Or.inr (Or.inr (Or.inr (Or.inr (Or.inr (Or.inr (Or.inl (Int32.toInt_inj.mp h))))))))))))
  · exact Or.inr (Or.inr (Or.inr (Or.inr (Or.inr (Or.inr (Or.inr (Or.inr (Or.inr (Or.inr (Or.inr (Or.inr (Or.inl (Int32.toInt_inj.mp h)))))))))))))
  · exact Or.inr (Or.inr (Or.inr (Or.inr (Or.inr (Or.inr (Or.inr (Or.inr (Or.inr (Or.inr (Or.inr (Or.inr (Or.inr (Or.inl (Int32.toInt_inj.mp h))))))))))))))
  · exact Or.inr (Or.inr (Or.inr (Or.inr (Or.inr (Or.inr (Or.inr (Or.inr (Or.inr (Or.inr (Or.inr (Or.inr (Or.inr (Or.inr (Or.inl (Int32.toInt_inj.mp h)))))))))))))))
  · exact Or.inr (Or.inr (Or.inr (Or.inr (Or.inr (Or.inr (Or.inr (Or.inr (Or.inr (Or.inr (Or.inr (Or.inr (Or.inr (Or.inr (Or.inr (Or.inl (Int32.toInt_inj.mp h))))))))))))))))
  · exact Or.inr (Or.inr (Or.inr (Or.inr (Or.inr (Or.inr (Or.inr (Or.inr (Or.inr (Or.inr (Or.inr (Or.inr (Or.inr (Or.inr (Or.inr (Or.inr (Or.inl (Int32.toInt_inj.mp h)))))))))))))))))
  · exact Or.inr (Or.inr (Or.inr (Or.inr (Or.inr (Or.inr (Or.inr (Or.inr (Or.inr (Or.inr (Or.inr (Or.inr (Or.inr (Or.inr (Or.inr (Or.inr (Or.inr (Or.inl (Int32.toInt_inj.mp h))))))))))))))))))
  · exact Or.inr (Or.inr (Or.inr (Or.inr (Or.inr (Or.inr (Or.inr (Or.inr (Or.inr (Or.inr (Or.inr (Or.inr (Or.inr (Or.inr (Or.inr (Or.inr (Or.inr (Or.inr (Or.inl (Int32.toInt_inj.mp h)))))))))))))))))))
  · exact Or.inr (Or.inr (Or.inr (Or.inr (Or.inr (Or.inr (Or.inr (Or.inr (Or.inr (Or.inr (Or.inr (Or.inr (Or.inr (Or.inr (Or.inr (Or.inr (Or.inr (Or.inr (Or.inr (Or.inl (Int32.toInt_inj.mp h))))))))))))))))))))
  · exact Or.inr (Or.inr (Or.inr (Or.inr (Or.inr (Or.inr (Or.inr (Or.inr (Or.inr (Or.inr (Or.inr (Or.inr (Or.inr (Or.inr (Or.inr (Or.inr (Or.inr (Or.inr (Or.inr (Or.inr (Or.inl (Int32.toInt_inj.mp h)))))))))))))))))))))
  · exact Or.inr (Or.inr (Or.inr (Or.inr (Or.inr (Or.inr (Or.inr (Or.inr (Or.inr (Or.inr (Or.inr (Or.inr (Or.inr (Or.inr (Or.inr (Or.inr (Or.inr (Or.inr (Or.inr (Or.inr (Or.inr (Or.inl (Int32.toInt_inj.mp h))))))))))))))))))))))
  · exact Or.inr (Or.inr (Or.inr (Or.inr (Or.inr (Or.inr (Or.inr (Or.inr (Or.inr (Or.inr (Or.inr (Or.inr (Or.inr (Or.inr (Or.inr (Or.inr (Or.inr (Or.inr (Or.inr (Or.inr (Or.inr (Or.inr (Or.inl (Int32.toInt_inj.mp h)))))))))))))))))))))))
  · exact Or.inr (Or.inr (Or.inr (Or.inr (Or.inr (Or.inr (Or.inr (Or.inr (Or.inr (Or.inr (Or.inr (Or.inr (Or.inr (Or.inr (Or.inr (Or.inr (Or.inr (Or.inr (Or.inr (Or.inr (Or.inr (Or.inr (Or.inr (Or.inl (Int32.toInt_inj.mp h))))))))))))))))))))))))
  · exact Or.inr (Or.inr (Or.inr (Or.inr (Or.inr (Or.inr (Or.inr (Or.inr (Or.inr (Or.inr (Or.inr (Or.inr (Or.inr (Or.inr (Or.inr (Or.inr (Or.inr (Or.inr (Or.inr (Or.inr (Or.inr (Or.inr (Or.inr (Or.inr (Or.inl (Int32.toInt_inj.mp h)))))))))))))))))))))))))
  · exact Or.inr (Or.inr (Or.inr (Or.inr (Or.inr (Or.inr (Or.inr (Or.inr (Or.inr (Or.inr (Or.inr (Or.inr (Or.inr (Or.inr (Or.inr (Or.inr (Or.inr (Or.inr (Or.inr (Or.inr (Or.inr (Or.inr (Or.inr (Or.inr (Or.inr (Or.inl (Int32.toInt_inj.mp h))))))))))))))))))))))))))
  · exact Or.inr (Or.inr (Or.inr (Or.inr (Or.inr (Or.inr (Or.inr (Or.inr (Or.inr (Or.inr (Or.inr (Or.inr (Or.inr (Or.inr (Or.inr (Or.inr (Or.inr (Or.inr (Or.inr (Or.inr (Or.inr (Or.inr (Or.inr (Or.inr (Or.inr (Or.inr (Or.inl (Int32.toInt_inj.mp h)))))))))))))))))))))))))))
  · exact Or.inr (Or.inr (Or.inr (Or.inr (Or.inr (Or.inr (Or.inr (Or.inr (Or.inr (Or.inr (Or.inr (Or.inr (Or.inr (Or.inr (Or.inr (Or.inr (Or.inr (Or.inr (Or.inr (Or.inr (Or.inr (Or.inr (Or.inr (Or.inr (Or.inr (Or.inr (Or.inr (Or.inl (Int32.toInt_inj.mp h))))))))))))))))))))))))))))
  · exact Or.inr (Or.inr (Or.inr (Or.inr (Or.inr (Or.inr (Or.inr (Or.inr (Or.inr (Or.inr (Or.inr (Or.inr (Or.inr (Or.inr (Or.inr (Or.inr (Or.inr (Or.inr (Or.inr (Or.inr (Or.inr (Or.inr (Or.inr (Or.inr (Or.inr (Or.inr (Or.inr (Or.inr (Or.inl (Int32.toInt_inj.mp h)))))))))))))))))))))))))))))
  · exact Or.inr (Or.inr (Or.inr (Or.inr (Or.inr (Or.inr (Or.inr (Or.inr (Or.inr (Or.inr (Or.inr (Or.inr (Or.inr (Or.inr (Or.inr (Or.inr (Or.inr (Or.inr (Or.inr (Or.inr (Or.inr (Or.inr (Or.inr (Or.inr (Or.inr (Or.inr (Or.inr (Or.inr (Or.inr (Or.inl (Int32.toInt_inj.mp h))))))))))))))))))))))))))))))
  · exact Or.inr (Or.inr (Or.inr (Or.inr (Or.inr (Or.inr (Or.inr (Or.inr (Or.inr (Or.inr (Or.inr (Or.inr (Or.inr (Or.inr (Or.inr (Or.inr (Or.inr (Or.inr (Or.inr (Or.inr (Or.inr (Or.inr (Or.inr (Or.inr (Or.inr (Or.inr (Or.inr (Or.inr (Or.inr (Or.inr (Int32.toInt_inj.mp h))))))))))))))))))))))))))))))
def cnt0 (w : Int32) : Int32 := if w = 9 then (-2) else if w.toInt < 0 ∨ 10 < w.toInt then (-1) else 0
theorem cnt0_out {w : Int32} (h : w.toInt < 0 ∨ 10 < w.toInt) : (-1) = cnt0 w := by
  have h9 : ¬ w = 9 := fun e => by rw [e] at h; revert h; decide
  unfold cnt0
  rw [if_neg h9, if_pos h]
def mrk (m : Int32) : Int32 := if 1 ≤ m ∧ m ≤ 999 then 1 else 0
theorem mrk_lo {m : Int32} (h : m < 1) : 0 = mrk m := by unfold mrk; rw [if_neg (fun q => Int32.not_lt.mpr q.1 h)]
theorem mrk_hi {m : Int32} (h : ¬ m ≤ 999) : 0 = mrk m := by unfold mrk; rw [if_neg (fun q => h q.2)]
theorem mrk_in {m : Int32} (h : ¬ m < 1) (h2 : m ≤ 999) : 1 = mrk m := by unfold mrk; rw [if_pos ⟨Int32.not_lt.mp h, h2⟩]
set_option maxHeartbeats 4000000 in
set_option maxRecDepth 100000 in
theorem p_fault (l : Launch) (dC : Nat → ClassId) (dI : Nat → Nat → Nat) (n0 sz : Nat) (x0 : Nat) (rd : Nat) (dr : Nat) (bk : Nat) (st : Nat) (nw : Nat) (tr : Nat) (pl : Nat) (fl : Nat) (rg : Nat) : Met l yX11_fault (wM yX11_fault cX11_fault 1 (some .int)) ({ frames := 0, cells := 0, slots := 0, locals := 0 }) (va_Pc [.ref x0] (fun U => U.heap.size = sz ∧ n0 ≤ sz ∧ GW n0 U ∧ va_P (dC, dI) classes [(x0, .inr (11, [.ref rd, .ref dr, .ref bk, .ref st, .ref nw, .ref tr, .ref pl, .ref fl, .ref rg, .int 0, .int 0, .int 0]))] U.heap ∧ va_K (dC, dI) classes [] U ∧ va_D (fun q => n0 ≤ q) [(x0, .inr (11, [.ref rd, .ref dr, .ref bk, .ref st, .ref nw, .ref tr, .ref pl, .ref fl, .ref rg, .int 0, .int 0, .int 0]))])) (va_Qi (fun (r : Int32) (_ : Unit) => r = 0) (fun (_ : Unit) (_ : State) => True) (va_A [(x0, .inr (11, [.ref rd, .ref dr, .ref bk, .ref st, .ref nw, .ref tr, .ref pl, .ref fl, .ref rg, .int 0, .int 0, .int 0]))] sz)) 0 0 (va_A [(x0, .inr (11, [.ref rd, .ref dr, .ref bk, .ref st, .ref nw, .ref tr, .ref pl, .ref fl, .ref rg, .int 0, .int 0, .int 0]))] sz) := by
  refine Met.ofW (cc := cX11_fault) (maxL := 1) (ret := (some .int)) (by decide) rfl ?_
  intro p e s m args below meth c s₁ B hml hv
  obtain ⟨rfl, hsz, hn0, hG, hP, hK, hD0⟩ := hv
  have hx := B.exec
  have hb := B.bytes
  have hr := B.returns
  have hts := atoms_spec (ws := wM yX11_fault cX11_fault 1 (some .int)) B.pre
  have hown : s.vm.findClass RX11 = some m.cls := findClass_of_methodNamed B.named
  have hlocks := B.notSynchronized
  subst hsz
  have hD := hD0.self (sz := s.heap.size)
  have hA0 := vA_n0 hD0 hn0
  generalize hAe : va_A [(x0, .inr (11, [.ref rd, .ref dr, .ref bk, .ref st, .ref nw, .ref tr, .ref pl, .ref fl, .ref rg, .int 0, .int 0, .int 0]))] s.heap.size = A at hD hA0 ⊢
  have hA : ∀ q : Nat, s.heap.size ≤ q → A q := fun q h => by rw [← hAe]; exact Or.inr h
  have hS : va_S A s.heap s.heap [] := va_S.rf
  have hl := lv_entry ([.ref x0]) (n := 1) (Nat.le_of_ble_eq_true rfl)
  rw [lg_entry_eq]
  generalize (lg_sl ([.ref x0]) ++ List.replicate (1 - (lg_sl ([.ref x0])).length) Slot.unset).toArray = ls at hl ⊢
  have hl : lv_has ls 1 [(0, .ref x0)] := hl
  refine lv_aload_n hx hb dX11_fault_0 rfl (lv_at hl 0 rfl) ?_
  refine va_get (D := (dC, dI)) (ci := 11) (v := .int 0) (C := RX11) (T := TX11) (N := 12) hx hb hts (fun w h => wM_c (iX11 w h)) hown hK hP 0 rfl rfl 10 (by decide) (hts _ (wM_c wd_680)) (fun _ h9 => h9) rfl dX11_fault_1 ?_
  exact W.iret (v := 0) hx hb hr (fun t ht hW => ⟨⟨0, (), rfl, rfl, trivial⟩, hS.F ht⟩) hS.2.2 dX11_fault_4
set_option maxHeartbeats 4000000 in
set_option maxRecDepth 100000 in
theorem p_where (l : Launch) (dC : Nat → ClassId) (dI : Nat → Nat → Nat) (n0 sz : Nat) (x0 : Nat) (rd : Nat) (dr : Nat) (bk : Nat) (st : Nat) (nw : Nat) (tr : Nat) (pl : Nat) (fl : Nat) (rg : Nat) : Met l yX11_where (wM yX11_where cX11_where 1 (some .int)) ({ frames := 0, cells := 0, slots := 0, locals := 0 }) (va_Pc [.ref x0] (fun U => U.heap.size = sz ∧ n0 ≤ sz ∧ GW n0 U ∧ va_P (dC, dI) classes [(x0, .inr (11, [.ref rd, .ref dr, .ref bk, .ref st, .ref nw, .ref tr, .ref pl, .ref fl, .ref rg, .int 0, .int 0, .int 0]))] U.heap ∧ va_K (dC, dI) classes [] U ∧ va_D (fun q => n0 ≤ q) [(x0, .inr (11, [.ref rd, .ref dr, .ref bk, .ref st, .ref nw, .ref tr, .ref pl, .ref fl, .ref rg, .int 0, .int 0, .int 0]))])) (va_Qi (fun (r : Int32) (_ : Unit) => r = (-1)) (fun (_ : Unit) (_ : State) => True) (va_A [(x0, .inr (11, [.ref rd, .ref dr, .ref bk, .ref st, .ref nw, .ref tr, .ref pl, .ref fl, .ref rg, .int 0, .int 0, .int 0]))] sz)) 0 0 (va_A [(x0, .inr (11, [.ref rd, .ref dr, .ref bk, .ref st, .ref nw, .ref tr, .ref pl, .ref fl, .ref rg, .int 0, .int 0, .int 0]))] sz) := by
  refine Met.ofW (cc := cX11_where) (maxL := 1) (ret := (some .int)) (by decide) rfl ?_
  intro p e s m args below meth c s₁ B hml hv
  obtain ⟨rfl, hsz, hn0, hG, hP, hK, hD0⟩ := hv
  have hx := B.exec
  have hb := B.bytes
  have hr := B.returns
  have hts := atoms_spec (ws := wM yX11_where cX11_where 1 (some .int)) B.pre
  have hown : s.vm.findClass RX11 = some m.cls := findClass_of_methodNamed B.named
  have hlocks := B.notSynchronized
  subst hsz
  have hD := hD0.self (sz := s.heap.size)
  have hA0 := vA_n0 hD0 hn0
  generalize hAe : va_A [(x0, .inr (11, [.ref rd, .ref dr, .ref bk, .ref st, .ref nw, .ref tr, .ref pl, .ref fl, .ref rg, .int 0, .int 0, .int 0]))] s.heap.size = A at hD hA0 ⊢
  have hA : ∀ q : Nat, s.heap.size ≤ q → A q := fun q h => by rw [← hAe]; exact Or.inr h
  have hS : va_S A s.heap s.heap [] := va_S.rf
  have hl := lv_entry ([.ref x0]) (n := 1) (Nat.le_of_ble_eq_true rfl)
  rw [lg_entry_eq]
  generalize (lg_sl ([.ref x0]) ++ List.replicate (1 - (lg_sl ([.ref x0])).length) Slot.unset).toArray = ls at hl ⊢
  have hl : lv_has ls 1 [(0, .ref x0)] := hl
  refine lv_aload_n hx hb dX11_where_0 rfl (lv_at hl 0 rfl) ?_
  refine va_get (D := (dC, dI)) (ci := 11) (v := .int 0) (C := RX11) (T := TX11) (N := 12) hx hb hts (fun w h => wM_c (iX11 w h)) hown hK hP 0 rfl rfl 9 (by decide) (hts _ (wM_c wd_679)) (fun _ h9 => h9) rfl dX11_where_1 ?_
  refine lv_iconst (v := 4) hx hb dX11_where_4 (by decide) ?_
  refine lv_icmp_ne (tgt := 15) hx hb dX11_where_5 (by decide) (fun c_1 => ?_) (fun c_1 => ?_)
  · skip
    refine lv_iconst (v := (-1)) hx hb dX11_where_15 (by decide) ?_
    exact W.iret (v := (-1)) hx hb hr (fun t ht hW => ⟨⟨(-1), (), rfl, rfl, trivial⟩, hS.F ht⟩) hS.2.2 dX11_where_16
  · exact absurd c_1 (by decide)
set_option maxHeartbeats 4000000 in
set_option maxRecDepth 100000 in
theorem p_trouble (l : Launch) (dC : Nat → ClassId) (dI : Nat → Nat → Nat) (n0 sz : Nat) (x0 : Nat) (rd : Nat) (dr : Nat) (bk : Nat) (st : Nat) (nw : Nat) (tr : Nat) (pl : Nat) (fl : Nat) (rg : Nat) : Met l yX11_trouble (wM yX11_trouble cX11_trouble 1 (some .int)) ({ frames := 0, cells := 0, slots := 0, locals := 0 }) (va_Pc [.ref x0] (fun U => U.heap.size = sz ∧ n0 ≤ sz ∧ GW n0 U ∧ va_P (dC, dI) classes [(x0, .inr (11, [.ref rd, .ref dr, .ref bk, .ref st, .ref nw, .ref tr, .ref pl, .ref fl, .ref rg, .int 0, .int 0, .int 0]))] U.heap ∧ va_K (dC, dI) classes [] U ∧ va_D (fun q => n0 ≤ q) [(x0, .inr (11, [.ref rd, .ref dr, .ref bk, .ref st, .ref nw, .ref tr, .ref pl, .ref fl, .ref rg, .int 0, .int 0, .int 0]))])) (va_Qi (fun (r : Int32) (_ : Unit) => r = 0) (fun (_ : Unit) (_ : State) => True) (va_A [(x0, .inr (11, [.ref rd, .ref dr, .ref bk, .ref st, .ref nw, .ref tr, .ref pl, .ref fl, .ref rg, .int 0, .int 0, .int 0]))] sz)) 0 0 (va_A [(x0, .inr (11, [.ref rd, .ref dr, .ref bk, .ref st, .ref nw, .ref tr, .ref pl, .ref fl, .ref rg, .int 0, .int 0, .int 0]))] sz) := by
  refine Met.ofW (cc := cX11_trouble) (maxL := 1) (ret := (some .int)) (by decide) rfl ?_
  intro p e s m args below meth c s₁ B hml hv
  obtain ⟨rfl, hsz, hn0, hG, hP, hK, hD0⟩ := hv
  have hx := B.exec
  have hb := B.bytes
  have hr := B.returns
  have hts := atoms_spec (ws := wM yX11_trouble cX11_trouble 1 (some .int)) B.pre
  have hown : s.vm.findClass RX11 = some m.cls := findClass_of_methodNamed B.named
  have hlocks := B.notSynchronized
  subst hsz
  have hD := hD0.self (sz := s.heap.size)
  have hA0 := vA_n0 hD0 hn0
  generalize hAe : va_A [(x0, .inr (11, [.ref rd, .ref dr, .ref bk, .ref st, .ref nw, .ref tr, .ref pl, .ref fl, .ref rg, .int 0, .int 0, .int 0]))] s.heap.size = A at hD hA0 ⊢
  have hA : ∀ q : Nat, s.heap.size ≤ q → A q := fun q h => by rw [← hAe]; exact Or.inr h
  have hS : va_S A s.heap s.heap [] := va_S.rf
  have hl := lv_entry ([.ref x0]) (n := 1) (Nat.le_of_ble_eq_true rfl)
  rw [lg_entry_eq]
  generalize (lg_sl ([.ref x0]) ++ List.replicate (1 - (lg_sl ([.ref x0])).length) Slot.unset).toArray = ls at hl ⊢
  have hl : lv_has ls 1 [(0, .ref x0)] := hl
  refine lv_aload_n hx hb dX11_trouble_0 rfl (lv_at hl 0 rfl) ?_
  refine va_get (D := (dC, dI)) (ci := 11) (v := .int 0) (C := RX11) (T := TX11) (N := 12) hx hb hts (fun w h => wM_c (iX11 w h)) hown hK hP 0 rfl rfl 9 (by decide) (hts _ (wM_c wd_679)) (fun _ h9 => h9) rfl dX11_trouble_1 ?_
  exact W.iret (v := 0) hx hb hr (fun t ht hW => ⟨⟨0, (), rfl, rfl, trivial⟩, hS.F ht⟩) hS.2.2 dX11_trouble_4
set_option maxHeartbeats 4000000 in
set_option maxRecDepth 100000 in
theorem p_way (l : Launch) (dC : Nat → ClassId) (dI : Nat → Nat → Nat) (n0 sz : Nat) (x0 : Nat) (rd : Nat) (dr : Nat) (bk : Nat) (st : Nat) (nw : Nat) (tr : Nat) (pl : Nat) (fl : Nat) (rg : Nat) (bk_tail : Nat) (bk_head : Nat) (bk_hinder : Nat) (bk_size : Nat) (bk_walk : Nat) (bk_draught : Nat) (bk_doorIn : Nat) (bk_fanIn : Nat) (bk_faceIn : Nat) (gr : Nat) (w : Int32) (v : Int32) : Met l yX11_way (wM yX11_way cX11_way 3 (some .int)) ({ frames := 1, cells := 0, slots := 0, locals := 21 }) (va_Pc [.ref x0, .int w, .int v] (fun U => U.heap.size = sz ∧ n0 ≤ sz ∧ GW n0 U ∧ va_P (dC, dI) classes [(x0, .inr (11, [.ref rd, .ref dr, .ref bk, .ref st, .ref nw, .ref tr, .ref pl, .ref fl, .ref rg, .int 0, .int 0, .int 0])), (bk, .inr (0, [.int 0, .ref bk_tail, .ref bk_head, .ref bk_hinder, .ref bk_size, .ref bk_walk, .ref bk_draught, .ref bk_doorIn, .ref bk_fanIn, .ref bk_faceIn, .int 0, .int (-1), .ref gr]))] U.heap ∧ va_K (dC, dI) classes [] U ∧ va_D (fun q => n0 ≤ q) [(x0, .inr (11, [.ref rd, .ref dr, .ref bk, .ref st, .ref nw, .ref tr, .ref pl, .ref fl, .ref rg, .int 0, .int 0, .int 0])), (bk, .inr (0, [.int 0, .ref bk_tail, .ref bk_head, .ref bk_hinder, .ref bk_size, .ref bk_walk, .ref bk_draught, .ref bk_doorIn, .ref bk_fanIn, .ref bk_faceIn, .int 0, .int (-1), .ref gr]))])) (va_Qi (fun (r : Int32) (_ : Unit) => r = (-2147483648)) (fun (_ : Unit) (_ : State) => True) (va_A [(x0, .inr (11, [.ref rd, .ref dr, .ref bk, .ref st, .ref nw, .ref tr, .ref pl, .ref fl, .ref rg, .int 0, .int 0, .int 0])), (bk, .inr (0, [.int 0, .ref bk_tail, .ref bk_head, .ref bk_hinder, .ref bk_size, .ref bk_walk, .ref bk_draught, .ref bk_doorIn, .ref bk_fanIn, .ref bk_faceIn, .int 0, .int (-1), .ref gr]))] sz)) 0 0 (va_A [(x0, .inr (11, [.ref rd, .ref dr, .ref bk, .ref st, .ref nw, .ref tr, .ref pl, .ref fl, .ref rg, .int 0, .int 0, .int 0])), (bk, .inr (0, [.int 0, .ref bk_tail, .ref bk_head, .ref bk_hinder, .ref bk_size, .ref bk_walk, .ref bk_draught, .ref bk_doorIn, .ref bk_fanIn, .ref bk_faceIn, .int 0, .int (-1), .ref gr]))] sz) := by
  refine Met.ofW (cc := cX11_way) (maxL := 3) (ret := (some .int)) (by decide) rfl ?_
  intro p e s m args below meth c s₁ B hml hv
  obtain ⟨rfl, hsz, hn0, hG, hP, hK, hD0⟩ := hv
  have hx := B.exec
  have hb := B.bytes
  have hr := B.returns
  have hts := atoms_spec (ws := wM yX11_way cX11_way 3 (some .int)) B.pre
  have hown : s.vm.findClass RX11 = some m.cls := findClass_of_methodNamed B.named
  have hlocks := B.notSynchronized
  subst hsz
  have hD := hD0.self (sz := s.heap.size)
  have hA0 := vA_n0 hD0 hn0
  generalize hAe : va_A [(x0, .inr (11, [.ref rd, .ref dr, .ref bk, .ref st, .ref nw, .ref tr, .ref pl, .ref fl, .ref rg, .int 0, .int 0, .int 0])), (bk, .inr (0, [.int 0, .ref bk_tail, .ref bk_head, .ref bk_hinder, .ref bk_size, .ref bk_walk, .ref bk_draught, .ref bk_doorIn, .ref bk_fanIn, .ref bk_faceIn, .int 0, .int (-1), .ref gr]))] s.heap.size = A at hD hA0 ⊢
  have hA : ∀ q : Nat, s.heap.size ≤ q → A q := fun q h => by rw [← hAe]; exact Or.inr h
  have hS : va_S A s.heap s.heap [] := va_S.rf
  have hl := lv_entry ([.ref x0, .int w, .int v]) (n := 3) (Nat.le_of_ble_eq_true rfl)
  rw [lg_entry_eq]
  generalize (lg_sl ([.ref x0, .int w, .int v]) ++ List.replicate (3 - (lg_sl ([.ref x0, .int w, .int v])).length) Slot.unset).toArray = ls at hl ⊢
  have hl : lv_has ls 3 [(0, .ref x0), (1, .int w), (2, .int v)] := hl
  refine lv_aload_n hx hb dX11_way_0 rfl (lv_at hl 0 rfl) ?_
  refine lv_iload_n hx hb dX11_way_1 rfl (lv_at hl 1 rfl) ?_
  have hPc := hP.sub (ws' := [(x0, .inr (11, [.ref rd, .ref dr, .ref bk, .ref st, .ref nw, .ref tr, .ref pl, .ref fl, .ref rg, .int 0, .int 0, .int 0])), (bk, .inr (0, [.int 0, .ref bk_tail, .ref bk_head, .ref bk_hinder, .ref bk_size, .ref bk_walk, .ref bk_draught, .ref bk_doorIn, .ref bk_fanIn, .ref bk_faceIn, .int 0, .int (-1), .ref gr]))]) [0, 1] rfl
  have hDc := hD.sub (ws' := [(x0, .inr (11, [.ref rd, .ref dr, .ref bk, .ref st, .ref nw, .ref tr, .ref pl, .ref fl, .ref rg, .int 0, .int 0, .int 0])), (bk, .inr (0, [.int 0, .ref bk_tail, .ref bk_head, .ref bk_hinder, .ref bk_size, .ref bk_walk, .ref bk_draught, .ref bk_doorIn, .ref bk_fanIn, .ref bk_faceIn, .int 0, .int (-1), .ref gr]))]) [0, 1] (by decide) rfl
  have hKc := hK.sub (tys' := []) [] rfl
  have hFc := va_free (wc := [(x0, .inr (11, [.ref rd, .ref dr, .ref bk, .ref st, .ref nw, .ref tr, .ref pl, .ref fl, .ref rg, .int 0, .int 0, .int 0])), (bk, .inr (0, [.int 0, .ref bk_tail, .ref bk_head, .ref bk_hinder, .ref bk_size, .ref bk_walk, .ref bk_draught, .ref bk_doorIn, .ref bk_fanIn, .ref bk_faceIn, .int 0, .int (-1), .ref gr]))]) hD hS hA [0, 1] rfl
  refine va_calli (va_runV (As := [.int w]) (rest := []) ⟨hx, hb, hml, hown, hts⟩ (c_isWay l dC dI n0 s.heap.size x0 rd dr bk st nw tr pl fl rg 0 0 0 bk_tail bk_head bk_hinder bk_size bk_walk bk_draught bk_doorIn bk_fanIn bk_faceIn gr w ) (cwV 1 hts (gV (fun w h => wM_c h) wd_950 wd_947 wd_949 wd_25 wd_114) rfl rfl rfl (by decide +kernel) ⟨Nat.le_of_ble_eq_true rfl, Nat.le_of_ble_eq_true rfl⟩) ⟨fun a U g mk q => by obtain ⟨q0, q1, q2, qG, qP, qK, qD⟩ := q; exact ⟨q0, q1, q2, GW.blind qG, qP, va_K.moved (u := U) (U := U.calling g mk a) (Vm.Alike.refl U.vm) qK, qD⟩, va_recv hKc hPc (ci := 11) (q0 := 0) rfl rfl, fun U hU hW => ⟨rfl, by rw [hU], Nat.le_trans hn0 hS.1, GW.go hW hU hG (fun q hq hA9 => hS.2.1 q hq (fun h => hA9 (hA0 q h))), by rw [hU]; exact hPc, va_K.moved hW.alike hKc, hDc.weaken (fun _ _ _ h => hA0 _ h)⟩⟩ rfl rfl hl.1 rfl (lv_room (Nat.le_of_ble_eq_true rfl)) dX11_way_2 ⟨Nat.le_of_ble_eq_true rfl, Nat.le_of_ble_eq_true rfl⟩) hS (fun q _ h => hFc q h) hFc (fun r_1 u t H1 locs ht hvm hw_2 hB hz1 hk1 hS => ?_)
  obtain ⟨hP1, hK1, hD1⟩ := hB
  rw [ht] at hP1
  obtain ⟨hP, hD⟩ := va_join (wr := []) (w1 := [(x0, .inr (11, [.ref rd, .ref dr, .ref bk, .ref st, .ref nw, .ref tr, .ref pl, .ref fl, .ref rg, .int 0, .int 0, .int 0])), (bk, .inr (0, [.int 0, .ref bk_tail, .ref bk_head, .ref bk_hinder, .ref bk_size, .ref bk_walk, .ref bk_draught, .ref bk_doorIn, .ref bk_fanIn, .ref bk_faceIn, .int 0, .int (-1), .ref gr]))]) hP hD [0, 1] [] rfl rfl (by decide) (by decide) hk1 hFc hP1 hD1
  generalize H1 = H at hP hS ⊢
  have hP : va_P (dC, dI) classes [(x0, .inr (11, [.ref rd, .ref dr, .ref bk, .ref st, .ref nw, .ref tr, .ref pl, .ref fl, .ref rg, .int 0, .int 0, .int 0])), (bk, .inr (0, [.int 0, .ref bk_tail, .ref bk_head, .ref bk_hinder, .ref bk_size, .ref bk_walk, .ref bk_draught, .ref bk_doorIn, .ref bk_fanIn, .ref bk_faceIn, .int 0, .int (-1), .ref gr]))] H := hP
  have hD : va_D A [(x0, .inr (11, [.ref rd, .ref dr, .ref bk, .ref st, .ref nw, .ref tr, .ref pl, .ref fl, .ref rg, .int 0, .int 0, .int 0])), (bk, .inr (0, [.int 0, .ref bk_tail, .ref bk_head, .ref bk_hinder, .ref bk_size, .ref bk_walk, .ref bk_draught, .ref bk_doorIn, .ref bk_fanIn, .ref bk_faceIn, .int 0, .int (-1), .ref gr]))] := hD
  obtain rfl : r_1 = 0 := hw_2
  refine lv_if_ne (tgt := 11) hx hb dX11_way_5 (by decide) (fun c_3 => ?_) (fun c_3 => ?_)
  · exact absurd c_3 (by decide)
  refine lv_ldc hx hb hown (hts _ (wM_c wd_951)) dX11_way_8 ?_
  exact W.iret (v := (-2147483648)) hx hb hr (fun t ht hW => ⟨⟨(-2147483648), (), rfl, rfl, trivial⟩, hS.F ht⟩) hS.2.2 dX11_way_10
set_option maxHeartbeats 4000000 in
set_option maxRecDepth 100000 in
theorem c_orNotSo (l : Launch) (dC : Nat → ClassId) (dI : Nat → Nat → Nat) (n0 sz : Nat) (w : Int32) : Met l yX11_orNotSo (wM yX11_orNotSo cX11_orNotSo 1 (some .int)) ({ frames := 0, cells := 0, slots := 0, locals := 0 }) (va_Pc [.int w] (fun U => U.heap.size = sz ∧ n0 ≤ sz ∧ GW n0 U ∧ va_P (dC, dI) classes [] U.heap ∧ va_K (dC, dI) classes [] U ∧ va_D (fun q => n0 ≤ q) [])) (va_Qi (fun (r : Int32) (_ : Unit) => r = if w = -1 then -2 else w) (fun (_ : Unit) (t : State) => va_P (dC, dI) classes [] t.heap ∧ va_K (dC, dI) classes [] t ∧ va_D (va_A [] sz) []) (va_A [] sz)) 0 0 (va_A [] sz) := by
  refine Met.ofW (cc := cX11_orNotSo) (maxL := 1) (ret := (some .int)) (by decide) rfl ?_
  intro p e s m args below meth c s₁ B hml hv
  obtain ⟨rfl, hsz, hn0, hG, hP, hK, hD0⟩ := hv
  have hx := B.exec
  have hb := B.bytes
  have hr := B.returns
  have hts := atoms_spec (ws := wM yX11_orNotSo cX11_orNotSo 1 (some .int)) B.pre
  have hown : s.vm.findClass RX11 = some m.cls := findClass_of_methodNamed B.named
  have hlocks := B.notSynchronized
  subst hsz
  have hD := hD0.self (sz := s.heap.size)
  have hA0 := vA_n0 hD0 hn0
  generalize hAe : va_A [] s.heap.size = A at hD hA0 ⊢
  have hA : ∀ q : Nat, s.heap.size ≤ q → A q := fun q h => by rw [← hAe]; exact Or.inr h
  have hS : va_S A s.heap s.heap [] := va_S.rf
  have hl := lv_entry ([.int w]) (n := 1) (Nat.le_of_ble_eq_true rfl)
  rw [lg_entry_eq]
  generalize (lg_sl ([.int w]) ++ List.replicate (1 - (lg_sl ([.int w])).length) Slot.unset).toArray = ls at hl ⊢
  have hl : lv_has ls 1 [(0, .int w)] := hl
  refine lv_iload_n hx hb dX11_orNotSo_0 rfl (lv_at hl 0 rfl) ?_
  refine lv_iconst (v := (-1)) hx hb dX11_orNotSo_1 (by decide) ?_
  refine lv_icmp_ne (tgt := 10) hx hb dX11_orNotSo_2 (by decide) (fun c_1 => ?_) (fun c_1 => ?_)
  · skip
    refine lv_iload_n hx hb dX11_orNotSo_10 rfl (lv_at hl 0 rfl) ?_
    have hP9 := hP.sub (ws' := []) [] rfl
    have hD9 := hD.sub (ws' := []) [] (by decide) rfl
    have hK9 := hK.sub (tys' := []) [] rfl
    exact W.iret (v := w) hx hb hr (fun t ht hW => ⟨⟨w, (), rfl, (by rw [if_neg c_1]), by rw [ht]; exact hP9, va_K.moved hW.alike hK9, hD9⟩, hS.F ht⟩) hS.2.2 dX11_orNotSo_11
  · skip
    refine lv_bipush (v := (-2)) hx hb dX11_orNotSo_5 (by decide) ?_
    refine lv_goto (tgt := 11) hx hb dX11_orNotSo_7 (by decide) ?_
    have hP9 := hP.sub (ws' := []) [] rfl
    have hD9 := hD.sub (ws' := []) [] (by decide) rfl
    have hK9 := hK.sub (tys' := []) [] rfl
    exact W.iret (v := (-2)) hx hb hr (fun t ht hW => ⟨⟨(-2), (), rfl, (by rw [if_pos c_1]), by rw [ht]; exact hP9, va_K.moved hW.alike hK9, hD9⟩, hS.F ht⟩) hS.2.2 dX11_orNotSo_11
set_option maxHeartbeats 4000000 in
set_option maxRecDepth 100000 in
theorem p_door (l : Launch) (dC : Nat → ClassId) (dI : Nat → Nat → Nat) (n0 sz : Nat) (x0 : Nat) (rd : Nat) (dr : Nat) (bk : Nat) (st : Nat) (nw : Nat) (tr : Nat) (pl : Nat) (fl : Nat) (rg : Nat) (bk_tail : Nat) (bk_head : Nat) (bk_hinder : Nat) (bk_size : Nat) (bk_walk : Nat) (bk_draught : Nat) (bk_doorIn : Nat) (bk_fanIn : Nat) (bk_faceIn : Nat) (gr : Nat) (gr_doorBy : Nat) (gr_pairFirst : Nat) (gr_pairSecond : Nat) (gr_fanPush : Nat) (gr_fanFall : Nat) (gr_fanCost : Nat) (gr_faceWay : Nat) (gr_faceGas : Nat) (gr_faceNeed : Nat) (w : Int32) (v : Int32) : Met l yX11_door (wM yX11_door cX11_door 3 (some .boolean)) ({ frames := 1, cells := 0, slots := 0, locals := 21 }) (va_Pc [.ref x0, .int w, .int v] (fun U => U.heap.size = sz ∧ n0 ≤ sz ∧ GW n0 U ∧ va_P (dC, dI) classes [(x0, .inr (11, [.ref rd, .ref dr, .ref bk, .ref st, .ref nw, .ref tr, .ref pl, .ref fl, .ref rg, .int 0, .int 0, .int 0])), (bk, .inr (0, [.int 0, .ref bk_tail, .ref bk_head, .ref bk_hinder, .ref bk_size, .ref bk_walk, .ref bk_draught, .ref bk_doorIn, .ref bk_fanIn, .ref bk_faceIn, .int 0, .int (-1), .ref gr])), (gr, .inr (3, [.int 0, .ref gr_doorBy, .int 0, .ref gr_pairFirst, .ref gr_pairSecond, .int 0, .ref gr_fanPush, .ref gr_fanFall, .ref gr_fanCost, .int 0, .ref gr_faceWay, .ref gr_faceGas, .ref gr_faceNeed]))] U.heap ∧ va_K (dC, dI) classes [] U ∧ va_D (fun q => n0 ≤ q) [(x0, .inr (11, [.ref rd, .ref dr, .ref bk, .ref st, .ref nw, .ref tr, .ref pl, .ref fl, .ref rg, .int 0, .int 0, .int 0])), (bk, .inr (0, [.int 0, .ref bk_tail, .ref bk_head, .ref bk_hinder, .ref bk_size, .ref bk_walk, .ref bk_draught, .ref bk_doorIn, .ref bk_fanIn, .ref bk_faceIn, .int 0, .int (-1), .ref gr])), (gr, .inr (3, [.int 0, .ref gr_doorBy, .int 0, .ref gr_pairFirst, .ref gr_pairSecond, .int 0, .ref gr_fanPush, .ref gr_fanFall, .ref gr_fanCost, .int 0, .ref gr_faceWay, .ref gr_faceGas, .ref gr_faceNeed]))])) (va_Qi (fun (r : Int32) (_ : Unit) => r = 0) (fun (_ : Unit) (_ : State) => True) (va_A [(x0, .inr (11, [.ref rd, .ref dr, .ref bk, .ref st, .ref nw, .ref tr, .ref pl, .ref fl, .ref rg, .int 0, .int 0, .int 0])), (bk, .inr (0, [.int 0, .ref bk_tail, .ref bk_head, .ref bk_hinder, .ref bk_size, .ref bk_walk, .ref bk_draught, .ref bk_doorIn, .ref bk_fanIn, .ref bk_faceIn, .int 0, .int (-1), .ref gr])), (gr, .inr (3, [.int 0, .ref gr_doorBy, .int 0, .ref gr_pairFirst, .ref gr_pairSecond, .int 0, .ref gr_fanPush, .ref gr_fanFall, .ref gr_fanCost, .int 0, .ref gr_faceWay, .ref gr_faceGas, .ref gr_faceNeed]))] sz)) 0 0 (va_A [(x0, .inr (11, [.ref rd, .ref dr, .ref bk, .ref st, .ref nw, .ref tr, .ref pl, .ref fl, .ref rg, .int 0, .int 0, .int 0])), (bk, .inr (0, [.int 0, .ref bk_tail, .ref bk_head, .ref bk_hinder, .ref bk_size, .ref bk_walk, .ref bk_draught, .ref bk_doorIn, .ref bk_fanIn, .ref bk_faceIn, .int 0, .int (-1), .ref gr])), (gr, .inr (3, [.int 0, .ref gr_doorBy, .int 0, .ref gr_pairFirst, .ref gr_pairSecond, .int 0, .ref gr_fanPush, .ref gr_fanFall, .ref gr_fanCost, .int 0, .ref gr_faceWay, .ref gr_faceGas, .ref gr_faceNeed]))] sz) := by
  refine Met.ofW (cc := cX11_door) (maxL := 3) (ret := (some .boolean)) (by decide) rfl ?_
  intro p e s m args below meth c s₁ B hml hv
  obtain ⟨rfl, hsz, hn0, hG, hP, hK, hD0⟩ := hv
  have hx := B.exec
  have hb := B.bytes
  have hr := B.returns
  have hts := atoms_spec (ws := wM yX11_door cX11_door 3 (some .boolean)) B.pre
  have hown : s.vm.findClass RX11 = some m.cls := findClass_of_methodNamed B.named
  have hlocks := B.notSynchronized
  subst hsz
  have hD := hD0.self (sz := s.heap.size)
  have hA0 := vA_n0 hD0 hn0
  generalize hAe : va_A [(x0, .inr (11, [.ref rd, .ref dr, .ref bk, .ref st, .ref nw, .ref tr, .ref pl, .ref fl, .ref rg, .int 0, .int 0, .int 0])), (bk, .inr (0, [.int 0, .ref bk_tail, .ref bk_head, .ref bk_hinder, .ref bk_size, .ref bk_walk, .ref bk_draught, .ref bk_doorIn, .ref bk_fanIn, .ref bk_faceIn, .int 0, .int (-1), .ref gr])), (gr, .inr (3, [.int 0, .ref gr_doorBy, .int 0, .ref gr_pairFirst, .ref gr_pairSecond, .int 0, .ref gr_fanPush, .ref gr_fanFall, .ref gr_fanCost, .int 0, .ref gr_faceWay, .ref gr_faceGas, .ref gr_faceNeed]))] s.heap.size = A at hD hA0 ⊢
  have hA : ∀ q : Nat, s.heap.size ≤ q → A q := fun q h => by rw [← hAe]; exact Or.inr h
  have hS : va_S A s.heap s.heap [] := va_S.rf
  have hl := lv_entry ([.ref x0, .int w, .int v]) (n := 3) (Nat.le_of_ble_eq_true rfl)
  rw [lg_entry_eq]
  generalize (lg_sl ([.ref x0, .int w, .int v]) ++ List.replicate (3 - (lg_sl ([.ref x0, .int w, .int v])).length) Slot.unset).toArray = ls at hl ⊢
  have hl : lv_has ls 3 [(0, .ref x0), (1, .int w), (2, .int v)] := hl
  refine lv_aload_n hx hb dX11_door_0 rfl (lv_at hl 0 rfl) ?_
  refine lv_iload_n hx hb dX11_door_1 rfl (lv_at hl 1 rfl) ?_
  have hPc := hP.sub (ws' := [(x0, .inr (11, [.ref rd, .ref dr, .ref bk, .ref st, .ref nw, .ref tr, .ref pl, .ref fl, .ref rg, .int 0, .int 0, .int 0])), (bk, .inr (0, [.int 0, .ref bk_tail, .ref bk_head, .ref bk_hinder, .ref bk_size, .ref bk_walk, .ref bk_draught, .ref bk_doorIn, .ref bk_fanIn, .ref bk_faceIn, .int 0, .int (-1), .ref gr])), (gr, .inr (3, [.int 0, .ref gr_doorBy, .int 0, .ref gr_pairFirst, .ref gr_pairSecond, .int 0, .ref gr_fanPush, .ref gr_fanFall, .ref gr_fanCost, .int 0, .ref gr_faceWay, .ref gr_faceGas, .ref gr_faceNeed]))]) [0, 1, 2] rfl
  have hDc := hD.sub (ws' := [(x0, .inr (11, [.ref rd, .ref dr, .ref bk, .ref st, .ref nw, .ref tr, .ref pl, .ref fl, .ref rg, .int 0, .int 0, .int 0])), (bk, .inr (0, [.int 0, .ref bk_tail, .ref bk_head, .ref bk_hinder, .ref bk_size, .ref bk_walk, .ref bk_draught, .ref bk_doorIn, .ref bk_fanIn, .ref bk_faceIn, .int 0, .int (-1), .ref gr])), (gr, .inr (3, [.int 0, .ref gr_doorBy, .int 0, .ref gr_pairFirst, .ref gr_pairSecond, .int 0, .ref gr_fanPush, .ref gr_fanFall, .ref gr_fanCost, .int 0, .ref gr_faceWay, .ref gr_faceGas, .ref gr_faceNeed]))]) [0, 1, 2] (by decide) rfl
  have hKc := hK.sub (tys' := []) [] rfl
  have hFc := va_free (wc := [(x0, .inr (11, [.ref rd, .ref dr, .ref bk, .ref st, .ref nw, .ref tr, .ref pl, .ref fl, .ref rg, .int 0, .int 0, .int 0])), (bk, .inr (0, [.int 0, .ref bk_tail, .ref bk_head, .ref bk_hinder, .ref bk_size, .ref bk_walk, .ref bk_draught, .ref bk_doorIn, .ref bk_fanIn, .ref bk_faceIn, .int 0, .int (-1), .ref gr])), (gr, .inr (3, [.int 0, .ref gr_doorBy, .int 0, .ref gr_pairFirst, .ref gr_pairSecond, .int 0, .ref gr_fanPush, .ref gr_fanFall, .ref gr_fanCost, .int 0, .ref gr_faceWay, .ref gr_faceGas, .ref gr_faceNeed]))]) hD hS hA [0, 1, 2] rfl
  refine va_calli (va_runV (As := [.int w]) (rest := []) ⟨hx, hb, hml, hown, hts⟩ (c_isDoor l dC dI n0 s.heap.size x0 rd dr bk st nw tr pl fl rg 0 0 0 bk_tail bk_head bk_hinder bk_size bk_walk bk_draught bk_doorIn bk_fanIn bk_faceIn gr gr_doorBy gr_pairFirst gr_pairSecond gr_fanPush gr_fanFall gr_fanCost gr_faceWay gr_faceGas gr_faceNeed w ) (cwV 1 hts (gV (fun w h => wM_c h) wd_966 wd_963 wd_965 wd_26 wd_114) rfl rfl rfl (by decide +kernel) ⟨Nat.le_of_ble_eq_true rfl, Nat.le_of_ble_eq_true rfl⟩) ⟨fun a U g mk q => by obtain ⟨q0, q1, q2, qG, qP, qK, qD⟩ := q; exact ⟨q0, q1, q2, GW.blind qG, qP, va_K.moved (u := U) (U := U.calling g mk a) (Vm.Alike.refl U.vm) qK, qD⟩, va_recv hKc hPc (ci := 11) (q0 := 0) rfl rfl, fun U hU hW => ⟨rfl, by rw [hU], Nat.le_trans hn0 hS.1, GW.go hW hU hG (fun q hq hA9 => hS.2.1 q hq (fun h => hA9 (hA0 q h))), by rw [hU]; exact hPc, va_K.moved hW.alike hKc, hDc.weaken (fun _ _ _ h => hA0 _ h)⟩⟩ rfl rfl hl.1 rfl (lv_room (Nat.le_of_ble_eq_true rfl)) dX11_door_2 ⟨Nat.le_of_ble_eq_true rfl, Nat.le_of_ble_eq_true rfl⟩) hS (fun q _ h => hFc q h) hFc (fun r_1 u t H1 locs ht hvm hw_2 hB hz1 hk1 hS => ?_)
  obtain ⟨hP1, hK1, hD1⟩ := hB
  rw [ht] at hP1
  obtain ⟨hP, hD⟩ := va_join (wr := []) (w1 := [(x0, .inr (11, [.ref rd, .ref dr, .ref bk, .ref st, .ref nw, .ref tr, .ref pl, .ref fl, .ref rg, .int 0, .int 0, .int 0])), (bk, .inr (0, [.int 0, .ref bk_tail, .ref bk_head, .ref bk_hinder, .ref bk_size, .ref bk_walk, .ref bk_draught, .ref bk_doorIn, .ref bk_fanIn, .ref bk_faceIn, .int 0, .int (-1), .ref gr])), (gr, .inr (3, [.int 0, .ref gr_doorBy, .int 0, .ref gr_pairFirst, .ref gr_pairSecond, .int 0, .ref gr_fanPush, .ref gr_fanFall, .ref gr_fanCost, .int 0, .ref gr_faceWay, .ref gr_faceGas, .ref gr_faceNeed]))]) hP hD [0, 1, 2] [] rfl rfl (by decide) (by decide) hk1 hFc hP1 hD1
  generalize H1 = H at hP hS ⊢
  have hP : va_P (dC, dI) classes [(x0, .inr (11, [.ref rd, .ref dr, .ref bk, .ref st, .ref nw, .ref tr, .ref pl, .ref fl, .ref rg, .int 0, .int 0, .int 0])), (bk, .inr (0, [.int 0, .ref bk_tail, .ref bk_head, .ref bk_hinder, .ref bk_size, .ref bk_walk, .ref bk_draught, .ref bk_doorIn, .ref bk_fanIn, .ref bk_faceIn, .int 0, .int (-1), .ref gr])), (gr, .inr (3, [.int 0, .ref gr_doorBy, .int 0, .ref gr_pairFirst, .ref gr_pairSecond, .int 0, .ref gr_fanPush, .ref gr_fanFall, .ref gr_fanCost, .int 0, .ref gr_faceWay, .ref gr_faceGas, .ref gr_faceNeed]))] H := hP
  have hD : va_D A [(x0, .inr (11, [.ref rd, .ref dr, .ref bk, .ref st, .ref nw, .ref tr, .ref pl, .ref fl, .ref rg, .int 0, .int 0, .int 0])), (bk, .inr (0, [.int 0, .ref bk_tail, .ref bk_head, .ref bk_hinder, .ref bk_size, .ref bk_walk, .ref bk_draught, .ref bk_doorIn, .ref bk_fanIn, .ref bk_faceIn, .int 0, .int (-1), .ref gr])), (gr, .inr (3, [.int 0, .ref gr_doorBy, .int 0, .ref gr_pairFirst, .ref gr_pairSecond, .int 0, .ref gr_fanPush, .ref gr_fanFall, .ref gr_fanCost, .int 0, .ref gr_faceWay, .ref gr_faceGas, .ref gr_faceNeed]))] := hD
  obtain rfl : r_1 = 0 := hw_2
  refine lv_if_ne (tgt := 14) hx hb dX11_door_5 (by decide) (fun c_3 => ?_) (fun c_3 => ?_)
  · exact absurd c_3 (by decide)
  refine lv_aload_n hx hb dX11_door_8 rfl (lv_at hl 0 rfl) ?_
  refine lv_iconst (v := 1) hx hb dX11_door_9 (by decide) ?_
  have hPc := hP.sub (ws' := [(x0, .inr (11, [.ref rd, .ref dr, .ref bk, .ref st, .ref nw, .ref tr, .ref pl, .ref fl, .ref rg, .int 0, .int 0, .int 0]))]) [0] rfl
  have hDc := hD.sub (ws' := [(x0, .inr (11, [.ref rd, .ref dr, .ref bk, .ref st, .ref nw, .ref tr, .ref pl, .ref fl, .ref rg, .int 0, .int 0, .int 0]))]) [0] (by decide) rfl
  have hKc := hK.sub (tys' := []) [] rfl
  have hFc := va_free (wc := [(x0, .inr (11, [.ref rd, .ref dr, .ref bk, .ref st, .ref nw, .ref tr, .ref pl, .ref fl, .ref rg, .int 0, .int 0, .int 0]))]) hD hS hA [0] rfl
  refine va_calli (va_runV (As := [.int 1]) (rest := []) ⟨hx, hb, hml, hown, hts⟩ (c_deny l dC dI n0 H.size x0 rd dr bk st nw tr pl fl rg 0 0 0 1 ) (cwV 1 hts (gV (fun w h => wM_c h) wd_970 wd_967 wd_969 wd_27 wd_114) rfl rfl rfl (by decide +kernel) ⟨Nat.le_of_ble_eq_true rfl, Nat.le_of_ble_eq_true rfl⟩) ⟨fun a U g mk q => by obtain ⟨q0, q1, q2, qG, qP, qK, qD⟩ := q; exact ⟨q0, q1, q2, GW.blind qG, qP, va_K.moved (u := U) (U := U.calling g mk a) (Vm.Alike.refl U.vm) qK, qD⟩, va_recv hKc hPc (ci := 11) (q0 := 0) rfl rfl, fun U hU hW => ⟨rfl, by rw [hU], Nat.le_trans hn0 hS.1, GW.go hW hU hG (fun q hq hA9 => hS.2.1 q hq (fun h => hA9 (hA0 q h))), by rw [hU]; exact hPc, va_K.moved hW.alike hKc, hDc.weaken (fun _ _ _ h => hA0 _ h)⟩⟩ rfl rfl hl.1 rfl (lv_room (Nat.le_of_ble_eq_true rfl)) dX11_door_10 ⟨Nat.le_of_ble_eq_true rfl, Nat.le_of_ble_eq_true rfl⟩) hS (fun q _ h => hFc q h) hFc (fun r_4 u t H1 locs ht hvm hw_5 hB hz1 hk1 hS => ?_)
  obtain ⟨hP1, hK1, hD1⟩ := hB
  rw [ht] at hP1
  obtain ⟨hP, hD⟩ := va_join (wr := [(bk, .inr (0, [.int 0, .ref bk_tail, .ref bk_head, .ref bk_hinder, .ref bk_size, .ref bk_walk, .ref bk_draught, .ref bk_doorIn, .ref bk_fanIn, .ref bk_faceIn, .int 0, .int (-1), .ref gr])), (gr, .inr (3, [.int 0, .ref gr_doorBy, .int 0, .ref gr_pairFirst, .ref gr_pairSecond, .int 0, .ref gr_fanPush, .ref gr_fanFall, .ref gr_fanCost, .int 0, .ref gr_faceWay, .ref gr_faceGas, .ref gr_faceNeed]))]) (w1 := [(x0, .inr (11, [.ref rd, .ref dr, .ref bk, .ref st, .ref nw, .ref tr, .ref pl, .ref fl, .ref rg, .int 1, .int 0, .int 0]))]) hP hD [0] [1, 2] rfl rfl (by decide) (by decide) hk1 hFc hP1 hD1
  generalize H1 = H at hP hS ⊢
  have hP : va_P (dC, dI) classes [(bk, .inr (0, [.int 0, .ref bk_tail, .ref bk_head, .ref bk_hinder, .ref bk_size, .ref bk_walk, .ref bk_draught, .ref bk_doorIn, .ref bk_fanIn, .ref bk_faceIn, .int 0, .int (-1), .ref gr])), (gr, .inr (3, [.int 0, .ref gr_doorBy, .int 0, .ref gr_pairFirst, .ref gr_pairSecond, .int 0, .ref gr_fanPush, .ref gr_fanFall, .ref gr_fanCost, .int 0, .ref gr_faceWay, .ref gr_faceGas, .ref gr_faceNeed])), (x0, .inr (11, [.ref rd, .ref dr, .ref bk, .ref st, .ref nw, .ref tr, .ref pl, .ref fl, .ref rg, .int 1, .int 0, .int 0]))] H := hP
  have hD : va_D A [(bk, .inr (0, [.int 0, .ref bk_tail, .ref bk_head, .ref bk_hinder, .ref bk_size, .ref bk_walk, .ref bk_draught, .ref bk_doorIn, .ref bk_fanIn, .ref bk_faceIn, .int 0, .int (-1), .ref gr])), (gr, .inr (3, [.int 0, .ref gr_doorBy, .int 0, .ref gr_pairFirst, .ref gr_pairSecond, .int 0, .ref gr_fanPush, .ref gr_fanFall, .ref gr_fanCost, .int 0, .ref gr_faceWay, .ref gr_faceGas, .ref gr_faceNeed])), (x0, .inr (11, [.ref rd, .ref dr, .ref bk, .ref st, .ref nw, .ref tr, .ref pl, .ref fl, .ref rg, .int 1, .int 0, .int 0]))] := hD
  obtain rfl : r_4 = 0 := hw_5
  exact W.zret (v := 0) hx hb hr rfl (fun t ht hW => ⟨⟨0, (), rfl, rfl, trivial⟩, hS.F ht⟩) hS.2.2 dX11_door_13
set_option maxHeartbeats 4000000 in
set_option maxRecDepth 100000 in
theorem p_speed (l : Launch) (dC : Nat → ClassId) (dI : Nat → Nat → Nat) (n0 sz : Nat) (x0 : Nat) (rd : Nat) (dr : Nat) (bk : Nat) (st : Nat) (nw : Nat) (tr : Nat) (pl : Nat) (fl : Nat) (rg : Nat) (bk_tail : Nat) (bk_head : Nat) (bk_hinder : Nat) (bk_size : Nat) (bk_walk : Nat) (bk_draught : Nat) (bk_doorIn : Nat) (bk_fanIn : Nat) (bk_faceIn : Nat) (gr : Nat) (gr_doorBy : Nat) (gr_pairFirst : Nat) (gr_pairSecond : Nat) (gr_fanPush : Nat) (gr_fanFall : Nat) (gr_fanCost : Nat) (gr_faceWay : Nat) (gr_faceGas : Nat) (gr_faceNeed : Nat) (w : Int32) (v : Int32) : Met l yX11_speed (wM yX11_speed cX11_speed 3 (some .boolean)) ({ frames := 1, cells := 0, slots := 0, locals := 21 }) (va_Pc [.ref x0, .int w, .int v] (fun U => U.heap.size = sz ∧ n0 ≤ sz ∧ GW n0 U ∧ va_P (dC, dI) classes [(x0, .inr (11, [.ref rd, .ref dr, .ref bk, .ref st, .ref nw, .ref tr, .ref pl, .ref fl, .ref rg, .int 0, .int 0, .int 0])), (bk, .inr (0, [.int 0, .ref bk_tail, .ref bk_head, .ref bk_hinder, .ref bk_size, .ref bk_walk, .ref bk_draught, .ref bk_doorIn, .ref bk_fanIn, .ref bk_faceIn, .int 0, .int (-1), .ref gr])), (gr, .inr (3, [.int 0, .ref gr_doorBy, .int 0, .ref gr_pairFirst, .ref gr_pairSecond, .int 0, .ref gr_fanPush, .ref gr_fanFall, .ref gr_fanCost, .int 0, .ref gr_faceWay, .ref gr_faceGas, .ref gr_faceNeed]))] U.heap ∧ va_K (dC, dI) classes [] U ∧ va_D (fun q => n0 ≤ q) [(x0, .inr (11, [.ref rd, .ref dr, .ref bk, .ref st, .ref nw, .ref tr, .ref pl, .ref fl, .ref rg, .int 0, .int 0, .int 0])), (bk, .inr (0, [.int 0, .ref bk_tail, .ref bk_head, .ref bk_hinder, .ref bk_size, .ref bk_walk, .ref bk_draught, .ref bk_doorIn, .ref bk_fanIn, .ref bk_faceIn, .int 0, .int (-1), .ref gr])), (gr, .inr (3, [.int 0, .ref gr_doorBy, .int 0, .ref gr_pairFirst, .ref gr_pairSecond, .int 0, .ref gr_fanPush, .ref gr_fanFall, .ref gr_fanCost, .int 0, .ref gr_faceWay, .ref gr_faceGas, .ref gr_faceNeed]))])) (va_Qi (fun (r : Int32) (_ : Unit) => r = 0) (fun (_ : Unit) (_ : State) => True) (va_A [(x0, .inr (11, [.ref rd, .ref dr, .ref bk, .ref st, .ref nw, .ref tr, .ref pl, .ref fl, .ref rg, .int 0, .int 0, .int 0])), (bk, .inr (0, [.int 0, .ref bk_tail, .ref bk_head, .ref bk_hinder, .ref bk_size, .ref bk_walk, .ref bk_draught, .ref bk_doorIn, .ref bk_fanIn, .ref bk_faceIn, .int 0, .int (-1), .ref gr])), (gr, .inr (3, [.int 0, .ref gr_doorBy, .int 0, .ref gr_pairFirst, .ref gr_pairSecond, .int 0, .ref gr_fanPush, .ref gr_fanFall, .ref gr_fanCost, .int 0, .ref gr_faceWay, .ref gr_faceGas, .ref gr_faceNeed]))] sz)) 0 0 (va_A [(x0, .inr (11, [.ref rd, .ref dr, .ref bk, .ref st, .ref nw, .ref tr, .ref pl, .ref fl, .ref rg, .int 0, .int 0, .int 0])), (bk, .inr (0, [.int 0, .ref bk_tail, .ref bk_head, .ref bk_hinder, .ref bk_size, .ref bk_walk, .ref bk_draught, .ref bk_doorIn, .ref bk_fanIn, .ref bk_faceIn, .int 0, .int (-1), .ref gr])), (gr, .inr (3, [.int 0, .ref gr_doorBy, .int 0, .ref gr_pairFirst, .ref gr_pairSecond, .int 0, .ref gr_fanPush, .ref gr_fanFall, .ref gr_fanCost, .int 0, .ref gr_faceWay, .ref gr_faceGas, .ref gr_faceNeed]))] sz) := by
  refine Met.ofW (cc := cX11_speed) (maxL := 3) (ret := (some .boolean)) (by decide) rfl ?_
  intro p e s m args below meth c s₁ B hml hv
  obtain ⟨rfl, hsz, hn0, hG, hP, hK, hD0⟩ := hv
  have hx := B.exec
  have hb := B.bytes
  have hr := B.returns
  have hts := atoms_spec (ws := wM yX11_speed cX11_speed 3 (some .boolean)) B.pre
  have hown : s.vm.findClass RX11 = some m.cls := findClass_of_methodNamed B.named
  have hlocks := B.notSynchronized
  subst hsz
  have hD := hD0.self (sz := s.heap.size)
  have hA0 := vA_n0 hD0 hn0
  generalize hAe : va_A [(x0, .inr (11, [.ref rd, .ref dr, .ref bk, .ref st, .ref nw, .ref tr, .ref pl, .ref fl, .ref rg, .int 0, .int 0, .int 0])), (bk, .inr (0, [.int 0, .ref bk_tail, .ref bk_head, .ref bk_hinder, .ref bk_size, .ref bk_walk, .ref bk_draught, .ref bk_doorIn, .ref bk_fanIn, .ref bk_faceIn, .int 0, .int (-1), .ref gr])), (gr, .inr (3, [.int 0, .ref gr_doorBy, .int 0, .ref gr_pairFirst, .ref gr_pairSecond, .int 0, .ref gr_fanPush, .ref gr_fanFall, .ref gr_fanCost, .int 0, .ref gr_faceWay, .ref gr_faceGas, .ref gr_faceNeed]))] s.heap.size = A at hD hA0 ⊢
  have hA : ∀ q : Nat, s.heap.size ≤ q → A q := fun q h => by rw [← hAe]; exact Or.inr h
  have hS : va_S A s.heap s.heap [] := va_S.rf
  have hl := lv_entry ([.ref x0, .int w, .int v]) (n := 3) (Nat.le_of_ble_eq_true rfl)
  rw [lg_entry_eq]
  generalize (lg_sl ([.ref x0, .int w, .int v]) ++ List.replicate (3 - (lg_sl ([.ref x0, .int w, .int v])).length) Slot.unset).toArray = ls at hl ⊢
  have hl : lv_has ls 3 [(0, .ref x0), (1, .int w), (2, .int v)] := hl
  refine lv_aload_n hx hb dX11_speed_0 rfl (lv_at hl 0 rfl) ?_
  refine lv_iload_n hx hb dX11_speed_1 rfl (lv_at hl 1 rfl) ?_
  have hPc := hP.sub (ws' := [(x0, .inr (11, [.ref rd, .ref dr, .ref bk, .ref st, .ref nw, .ref tr, .ref pl, .ref fl, .ref rg, .int 0, .int 0, .int 0])), (bk, .inr (0, [.int 0, .ref bk_tail, .ref bk_head, .ref bk_hinder, .ref bk_size, .ref bk_walk, .ref bk_draught, .ref bk_doorIn, .ref bk_fanIn, .ref bk_faceIn, .int 0, .int (-1), .ref gr])), (gr, .inr (3, [.int 0, .ref gr_doorBy, .int 0, .ref gr_pairFirst, .ref gr_pairSecond, .int 0, .ref gr_fanPush, .ref gr_fanFall, .ref gr_fanCost, .int 0, .ref gr_faceWay, .ref gr_faceGas, .ref gr_faceNeed]))]) [0, 1, 2] rfl
  have hDc := hD.sub (ws' := [(x0, .inr (11, [.ref rd, .ref dr, .ref bk, .ref st, .ref nw, .ref tr, .ref pl, .ref fl, .ref rg, .int 0, .int 0, .int 0])), (bk, .inr (0, [.int 0, .ref bk_tail, .ref bk_head, .ref bk_hinder, .ref bk_size, .ref bk_walk, .ref bk_draught, .ref bk_doorIn, .ref bk_fanIn, .ref bk_faceIn, .int 0, .int (-1), .ref gr])), (gr, .inr (3, [.int 0, .ref gr_doorBy, .int 0, .ref gr_pairFirst, .ref gr_pairSecond, .int 0, .ref gr_fanPush, .ref gr_fanFall, .ref gr_fanCost, .int 0, .ref gr_faceWay, .ref gr_faceGas, .ref gr_faceNeed]))]) [0, 1, 2] (by decide) rfl
  have hKc := hK.sub (tys' := []) [] rfl
  have hFc := va_free (wc := [(x0, .inr (11, [.ref rd, .ref dr, .ref bk, .ref st, .ref nw, .ref tr, .ref pl, .ref fl, .ref rg, .int 0, .int 0, .int 0])), (bk, .inr (0, [.int 0, .ref bk_tail, .ref bk_head, .ref bk_hinder, .ref bk_size, .ref bk_walk, .ref bk_draught, .ref bk_doorIn, .ref bk_fanIn, .ref bk_faceIn, .int 0, .int (-1), .ref gr])), (gr, .inr (3, [.int 0, .ref gr_doorBy, .int 0, .ref gr_pairFirst, .ref gr_pairSecond, .int 0, .ref gr_fanPush, .ref gr_fanFall, .ref gr_fanCost, .int 0, .ref gr_faceWay, .ref gr_faceGas, .ref gr_faceNeed]))]) hD hS hA [0, 1, 2] rfl
  refine va_calli (va_runV (As := [.int w]) (rest := []) ⟨hx, hb, hml, hown, hts⟩ (c_isFan l dC dI n0 s.heap.size x0 rd dr bk st nw tr pl fl rg 0 0 0 bk_tail bk_head bk_hinder bk_size bk_walk bk_draught bk_doorIn bk_fanIn bk_faceIn gr gr_doorBy gr_pairFirst gr_pairSecond gr_fanPush gr_fanFall gr_fanCost gr_faceWay gr_faceGas gr_faceNeed w ) (cwV 1 hts (gV (fun w h => wM_c h) wd_982 wd_979 wd_981 wd_29 wd_114) rfl rfl rfl (by decide +kernel) ⟨Nat.le_of_ble_eq_true rfl, Nat.le_of_ble_eq_true rfl⟩) ⟨fun a U g mk q => by obtain ⟨q0, q1, q2, qG, qP, qK, qD⟩ := q; exact ⟨q0, q1, q2, GW.blind qG, qP, va_K.moved (u := U) (U := U.calling g mk a) (Vm.Alike.refl U.vm) qK, qD⟩, va_recv hKc hPc (ci := 11) (q0 := 0) rfl rfl, fun U hU hW => ⟨rfl, by rw [hU], Nat.le_trans hn0 hS.1, GW.go hW hU hG (fun q hq hA9 => hS.2.1 q hq (fun h => hA9 (hA0 q h))), by rw [hU]; exact hPc, va_K.moved hW.alike hKc, hDc.weaken (fun _ _ _ h => hA0 _ h)⟩⟩ rfl rfl hl.1 rfl (lv_room (Nat.le_of_ble_eq_true rfl)) dX11_speed_2 ⟨Nat.le_of_ble_eq_true rfl, Nat.le_of_ble_eq_true rfl⟩) hS (fun q _ h => hFc q h) hFc (fun r_1 u t H1 locs ht hvm hw_2 hB hz1 hk1 hS => ?_)
  obtain ⟨hP1, hK1, hD1⟩ := hB
  rw [ht] at hP1
  obtain ⟨hP, hD⟩ := va_join (wr := []) (w1 := [(x0, .inr (11, [.ref rd, .ref dr, .ref bk, .ref st, .ref nw, .ref tr, .ref pl, .ref fl, .ref rg, .int 0, .int 0, .int 0])), (bk, .inr (0, [.int 0, .ref bk_tail, .ref bk_head, .ref bk_hinder, .ref bk_size, .ref bk_walk, .ref bk_draught, .ref bk_doorIn, .ref bk_fanIn, .ref bk_faceIn, .int 0, .int (-1), .ref gr])), (gr, .inr (3, [.int 0, .ref gr_doorBy, .int 0, .ref gr_pairFirst, .ref gr_pairSecond, .int 0, .ref gr_fanPush, .ref gr_fanFall, .ref gr_fanCost, .int 0, .ref gr_faceWay, .ref gr_faceGas, .ref gr_faceNeed]))]) hP hD [0, 1, 2] [] rfl rfl (by decide) (by decide) hk1 hFc hP1 hD1
  generalize H1 = H at hP hS ⊢
  have hP : va_P (dC, dI) classes [(x0, .inr (11, [.ref rd, .ref dr, .ref bk, .ref st, .ref nw, .ref tr, .ref pl, .ref fl, .ref rg, .int 0, .int 0, .int 0])), (bk, .inr (0, [.int 0, .ref bk_tail, .ref bk_head, .ref bk_hinder, .ref bk_size, .ref bk_walk, .ref bk_draught, .ref bk_doorIn, .ref bk_fanIn, .ref bk_faceIn, .int 0, .int (-1), .ref gr])), (gr, .inr (3, [.int 0, .ref gr_doorBy, .int 0, .ref gr_pairFirst, .ref gr_pairSecond, .int 0, .ref gr_fanPush, .ref gr_fanFall, .ref gr_fanCost, .int 0, .ref gr_faceWay, .ref gr_faceGas, .ref gr_faceNeed]))] H := hP
  have hD : va_D A [(x0, .inr (11, [.ref rd, .ref dr, .ref bk, .ref st, .ref nw, .ref tr, .ref pl, .ref fl, .ref rg, .int 0, .int 0, .int 0])), (bk, .inr (0, [.int 0, .ref bk_tail, .ref bk_head, .ref bk_hinder, .ref bk_size, .ref bk_walk, .ref bk_draught, .ref bk_doorIn, .ref bk_fanIn, .ref bk_faceIn, .int 0, .int (-1), .ref gr])), (gr, .inr (3, [.int 0, .ref gr_doorBy, .int 0, .ref gr_pairFirst, .ref gr_pairSecond, .int 0, .ref gr_fanPush, .ref gr_fanFall, .ref gr_fanCost, .int 0, .ref gr_faceWay, .ref gr_faceGas, .ref gr_faceNeed]))] := hD
  obtain rfl : r_1 = 0 := hw_2
  refine lv_if_ne (tgt := 14) hx hb dX11_speed_5 (by decide) (fun c_3 => ?_) (fun c_3 => ?_)
  · exact absurd c_3 (by decide)
  refine lv_aload_n hx hb dX11_speed_8 rfl (lv_at hl 0 rfl) ?_
  refine lv_iconst (v := 1) hx hb dX11_speed_9 (by decide) ?_
  have hPc := hP.sub (ws' := [(x0, .inr (11, [.ref rd, .ref dr, .ref bk, .ref st, .ref nw, .ref tr, .ref pl, .ref fl, .ref rg, .int 0, .int 0, .int 0]))]) [0] rfl
  have hDc := hD.sub (ws' := [(x0, .inr (11, [.ref rd, .ref dr, .ref bk, .ref st, .ref nw, .ref tr, .ref pl, .ref fl, .ref rg, .int 0, .int 0, .int 0]))]) [0] (by decide) rfl
  have hKc := hK.sub (tys' := []) [] rfl
  have hFc := va_free (wc := [(x0, .inr (11, [.ref rd, .ref dr, .ref bk, .ref st, .ref nw, .ref tr, .ref pl, .ref fl, .ref rg, .int 0, .int 0, .int 0]))]) hD hS hA [0] rfl
  refine va_calli (va_runV (As := [.int 1]) (rest := []) ⟨hx, hb, hml, hown, hts⟩ (c_deny l dC dI n0 H.size x0 rd dr bk st nw tr pl fl rg 0 0 0 1 ) (cwV 1 hts (gV (fun w h => wM_c h) wd_970 wd_967 wd_969 wd_27 wd_114) rfl rfl rfl (by decide +kernel) ⟨Nat.le_of_ble_eq_true rfl, Nat.le_of_ble_eq_true rfl⟩) ⟨fun a U g mk q => by obtain ⟨q0, q1, q2, qG, qP, qK, qD⟩ := q; exact ⟨q0, q1, q2, GW.blind qG, qP, va_K.moved (u := U) (U := U.calling g mk a) (Vm.Alike.refl U.vm) qK, qD⟩, va_recv hKc hPc (ci := 11) (q0 := 0) rfl rfl, fun U hU hW => ⟨rfl, by rw [hU], Nat.le_trans hn0 hS.1, GW.go hW hU hG (fun q hq hA9 => hS.2.1 q hq (fun h => hA9 (hA0 q h))), by rw [hU]; exact hPc, va_K.moved hW.alike hKc, hDc.weaken (fun _ _ _ h => hA0 _ h)⟩⟩ rfl rfl hl.1 rfl (lv_room (Nat.le_of_ble_eq_true rfl)) dX11_speed_10 ⟨Nat.le_of_ble_eq_true rfl, Nat.le_of_ble_eq_true rfl⟩) hS (fun q _ h => hFc q h) hFc (fun r_4 u t H1 locs ht hvm hw_5 hB hz1 hk1 hS => ?_)
  obtain ⟨hP1, hK1, hD1⟩ := hB
  rw [ht] at hP1
  obtain ⟨hP, hD⟩ := va_join (wr := [(bk, .inr (0, [.int 0, .ref bk_tail, .ref bk_head, .ref bk_hinder, .ref bk_size, .ref bk_walk, .ref bk_draught, .ref bk_doorIn, .ref bk_fanIn, .ref bk_faceIn, .int 0, .int (-1), .ref gr])), (gr, .inr (3, [.int 0, .ref gr_doorBy, .int 0, .ref gr_pairFirst, .ref gr_pairSecond, .int 0, .ref gr_fanPush, .ref gr_fanFall, .ref gr_fanCost, .int 0, .ref gr_faceWay, .ref gr_faceGas, .ref gr_faceNeed]))]) (w1 := [(x0, .inr (11, [.ref rd, .ref dr, .ref bk, .ref st, .ref nw, .ref tr, .ref pl, .ref fl, .ref rg, .int 1, .int 0, .int 0]))]) hP hD [0] [1, 2] rfl rfl (by decide) (by decide) hk1 hFc hP1 hD1
  generalize H1 = H at hP hS ⊢
  have hP : va_P (dC, dI) classes [(bk, .inr (0, [.int 0, .ref bk_tail, .ref bk_head, .ref bk_hinder, .ref bk_size, .ref bk_walk, .ref bk_draught, .ref bk_doorIn, .ref bk_fanIn, .ref bk_faceIn, .int 0, .int (-1), .ref gr])), (gr, .inr (3, [.int 0, .ref gr_doorBy, .int 0, .ref gr_pairFirst, .ref gr_pairSecond, .int 0, .ref gr_fanPush, .ref gr_fanFall, .ref gr_fanCost, .int 0, .ref gr_faceWay, .ref gr_faceGas, .ref gr_faceNeed])), (x0, .inr (11, [.ref rd, .ref dr, .ref bk, .ref st, .ref nw, .ref tr, .ref pl, .ref fl, .ref rg, .int 1, .int 0, .int 0]))] H := hP
  have hD : va_D A [(bk, .inr (0, [.int 0, .ref bk_tail, .ref bk_head, .ref bk_hinder, .ref bk_size, .ref bk_walk, .ref bk_draught, .ref bk_doorIn, .ref bk_fanIn, .ref bk_faceIn, .int 0, .int (-1), .ref gr])), (gr, .inr (3, [.int 0, .ref gr_doorBy, .int 0, .ref gr_pairFirst, .ref gr_pairSecond, .int 0, .ref gr_fanPush, .ref gr_fanFall, .ref gr_fanCost, .int 0, .ref gr_faceWay, .ref gr_faceGas, .ref gr_faceNeed])), (x0, .inr (11, [.ref rd, .ref dr, .ref bk, .ref st, .ref nw, .ref tr, .ref pl, .ref fl, .ref rg, .int 1, .int 0, .int 0]))] := hD
  obtain rfl : r_4 = 0 := hw_5
  exact W.zret (v := 0) hx hb hr rfl (fun t ht hW => ⟨⟨0, (), rfl, rfl, trivial⟩, hS.F ht⟩) hS.2.2 dX11_speed_13
set_option maxHeartbeats 4000000 in
set_option maxRecDepth 100000 in
theorem p_fall (l : Launch) (dC : Nat → ClassId) (dI : Nat → Nat → Nat) (n0 sz : Nat) (x0 : Nat) (rd : Nat) (dr : Nat) (bk : Nat) (st : Nat) (nw : Nat) (tr : Nat) (pl : Nat) (fl : Nat) (rg : Nat) (bk_tail : Nat) (bk_head : Nat) (bk_hinder : Nat) (bk_size : Nat) (bk_walk : Nat) (bk_draught : Nat) (bk_doorIn : Nat) (bk_fanIn : Nat) (bk_faceIn : Nat) (gr : Nat) (w : Int32) (v : Int32) : Met l yX11_fall (wM yX11_fall cX11_fall 3 (some .boolean)) ({ frames := 1, cells := 0, slots := 0, locals := 21 }) (va_Pc [.ref x0, .int w, .int v] (fun U => U.heap.size = sz ∧ n0 ≤ sz ∧ GW n0 U ∧ va_P (dC, dI) classes [(x0, .inr (11, [.ref rd, .ref dr, .ref bk, .ref st, .ref nw, .ref tr, .ref pl, .ref fl, .ref rg, .int 0, .int 0, .int 0])), (bk, .inr (0, [.int 0, .ref bk_tail, .ref bk_head, .ref bk_hinder, .ref bk_size, .ref bk_walk, .ref bk_draught, .ref bk_doorIn, .ref bk_fanIn, .ref bk_faceIn, .int 0, .int (-1), .ref gr]))] U.heap ∧ va_K (dC, dI) classes [] U ∧ va_D (fun q => n0 ≤ q) [(x0, .inr (11, [.ref rd, .ref dr, .ref bk, .ref st, .ref nw, .ref tr, .ref pl, .ref fl, .ref rg, .int 0, .int 0, .int 0])), (bk, .inr (0, [.int 0, .ref bk_tail, .ref bk_head, .ref bk_hinder, .ref bk_size, .ref bk_walk, .ref bk_draught, .ref bk_doorIn, .ref bk_fanIn, .ref bk_faceIn, .int 0, .int (-1), .ref gr]))])) (va_Qi (fun (r : Int32) (_ : Unit) => r = 0) (fun (_ : Unit) (_ : State) => True) (va_A [(x0, .inr (11, [.ref rd, .ref dr, .ref bk, .ref st, .ref nw, .ref tr, .ref pl, .ref fl, .ref rg, .int 0, .int 0, .int 0])), (bk, .inr (0, [.int 0, .ref bk_tail, .ref bk_head, .ref bk_hinder, .ref bk_size, .ref bk_walk, .ref bk_draught, .ref bk_doorIn, .ref bk_fanIn, .ref bk_faceIn, .int 0, .int (-1), .ref gr]))] sz)) 0 0 (va_A [(x0, .inr (11, [.ref rd, .ref dr, .ref bk, .ref st, .ref nw, .ref tr, .ref pl, .ref fl, .ref rg, .int 0, .int 0, .int 0])), (bk, .inr (0, [.int 0, .ref bk_tail, .ref bk_head, .ref bk_hinder, .ref bk_size, .ref bk_walk, .ref bk_draught, .ref bk_doorIn, .ref bk_fanIn, .ref bk_faceIn, .int 0, .int (-1), .ref gr]))] sz) := by
  refine Met.ofW (cc := cX11_fall) (maxL := 3) (ret := (some .boolean)) (by decide) rfl ?_
  intro p e s m args below meth c s₁ B hml hv
  obtain ⟨rfl, hsz, hn0, hG, hP, hK, hD0⟩ := hv
  have hx := B.exec
  have hb := B.bytes
  have hr := B.returns
  have hts := atoms_spec (ws := wM yX11_fall cX11_fall 3 (some .boolean)) B.pre
  have hown : s.vm.findClass RX11 = some m.cls := findClass_of_methodNamed B.named
  have hlocks := B.notSynchronized
  subst hsz
  have hD := hD0.self (sz := s.heap.size)
  have hA0 := vA_n0 hD0 hn0
  generalize hAe : va_A [(x0, .inr (11, [.ref rd, .ref dr, .ref bk, .ref st, .ref nw, .ref tr, .ref pl, .ref fl, .ref rg, .int 0, .int 0, .int 0])), (bk, .inr (0, [.int 0, .ref bk_tail, .ref bk_head, .ref bk_hinder, .ref bk_size, .ref bk_walk, .ref bk_draught, .ref bk_doorIn, .ref bk_fanIn, .ref bk_faceIn, .int 0, .int (-1), .ref gr]))] s.heap.size = A at hD hA0 ⊢
  have hA : ∀ q : Nat, s.heap.size ≤ q → A q := fun q h => by rw [← hAe]; exact Or.inr h
  have hS : va_S A s.heap s.heap [] := va_S.rf
  have hl := lv_entry ([.ref x0, .int w, .int v]) (n := 3) (Nat.le_of_ble_eq_true rfl)
  rw [lg_entry_eq]
  generalize (lg_sl ([.ref x0, .int w, .int v]) ++ List.replicate (3 - (lg_sl ([.ref x0, .int w, .int v])).length) Slot.unset).toArray = ls at hl ⊢
  have hl : lv_has ls 3 [(0, .ref x0), (1, .int w), (2, .int v)] := hl
  refine lv_aload_n hx hb dX11_fall_0 rfl (lv_at hl 0 rfl) ?_
  refine lv_iload_n hx hb dX11_fall_1 rfl (lv_at hl 1 rfl) ?_
  have hPc := hP.sub (ws' := [(x0, .inr (11, [.ref rd, .ref dr, .ref bk, .ref st, .ref nw, .ref tr, .ref pl, .ref fl, .ref rg, .int 0, .int 0, .int 0])), (bk, .inr (0, [.int 0, .ref bk_tail, .ref bk_head, .ref bk_hinder, .ref bk_size, .ref bk_walk, .ref bk_draught, .ref bk_doorIn, .ref bk_fanIn, .ref bk_faceIn, .int 0, .int (-1), .ref gr]))]) [0, 1] rfl
  have hDc := hD.sub (ws' := [(x0, .inr (11, [.ref rd, .ref dr, .ref bk, .ref st, .ref nw, .ref tr, .ref pl, .ref fl, .ref rg, .int 0, .int 0, .int 0])), (bk, .inr (0, [.int 0, .ref bk_tail, .ref bk_head, .ref bk_hinder, .ref bk_size, .ref bk_walk, .ref bk_draught, .ref bk_doorIn, .ref bk_fanIn, .ref bk_faceIn, .int 0, .int (-1), .ref gr]))]) [0, 1] (by decide) rfl
  have hKc := hK.sub (tys' := []) [] rfl
  have hFc := va_free (wc := [(x0, .inr (11, [.ref rd, .ref dr, .ref bk, .ref st, .ref nw, .ref tr, .ref pl, .ref fl, .ref rg, .int 0, .int 0, .int 0])), (bk, .inr (0, [.int 0, .ref bk_tail, .ref bk_head, .ref bk_hinder, .ref bk_size, .ref bk_walk, .ref bk_draught, .ref bk_doorIn, .ref bk_fanIn, .ref bk_faceIn, .int 0, .int (-1), .ref gr]))]) hD hS hA [0, 1] rfl
  refine va_calli (va_runV (As := [.int w]) (rest := []) ⟨hx, hb, hml, hown, hts⟩ (c_isWay l dC dI n0 s.heap.size x0 rd dr bk st nw tr pl fl rg 0 0 0 bk_tail bk_head bk_hinder bk_size bk_walk bk_draught bk_doorIn bk_fanIn bk_faceIn gr w ) (cwV 1 hts (gV (fun w h => wM_c h) wd_950 wd_947 wd_949 wd_25 wd_114) rfl rfl rfl (by decide +kernel) ⟨Nat.le_of_ble_eq_true rfl, Nat.le_of_ble_eq_true rfl⟩) ⟨fun a U g mk q => by obtain ⟨q0, q1, q2, qG, qP, qK, qD⟩ := q; exact ⟨q0, q1, q2, GW.blind qG, qP, va_K.moved (u := U) (U := U.calling g mk a) (Vm.Alike.refl U.vm) qK, qD⟩, va_recv hKc hPc (ci := 11) (q0 := 0) rfl rfl, fun U hU hW => ⟨rfl, by rw [hU], Nat.le_trans hn0 hS.1, GW.go hW hU hG (fun q hq hA9 => hS.2.1 q hq (fun h => hA9 (hA0 q h))), by rw [hU]; exact hPc, va_K.moved hW.alike hKc, hDc.weaken (fun _ _ _ h => hA0 _ h)⟩⟩ rfl rfl hl.1 rfl (lv_room (Nat.le_of_ble_eq_true rfl)) dX11_fall_2 ⟨Nat.le_of_ble_eq_true rfl, Nat.le_of_ble_eq_true rfl⟩) hS (fun q _ h => hFc q h) hFc (fun r_1 u t H1 locs ht hvm hw_2 hB hz1 hk1 hS => ?_)
  obtain ⟨hP1, hK1, hD1⟩ := hB
  rw [ht] at hP1
  obtain ⟨hP, hD⟩ := va_join (wr := []) (w1 := [(x0, .inr (11, [.ref rd, .ref dr, .ref bk, .ref st, .ref nw, .ref tr, .ref pl, .ref fl, .ref rg, .int 0, .int 0, .int 0])), (bk, .inr (0, [.int 0, .ref bk_tail, .ref bk_head, .ref bk_hinder, .ref bk_size, .ref bk_walk, .ref bk_draught, .ref bk_doorIn, .ref bk_fanIn, .ref bk_faceIn, .int 0, .int (-1), .ref gr]))]) hP hD [0, 1] [] rfl rfl (by decide) (by decide) hk1 hFc hP1 hD1
  generalize H1 = H at hP hS ⊢
  have hP : va_P (dC, dI) classes [(x0, .inr (11, [.ref rd, .ref dr, .ref bk, .ref st, .ref nw, .ref tr, .ref pl, .ref fl, .ref rg, .int 0, .int 0, .int 0])), (bk, .inr (0, [.int 0, .ref bk_tail, .ref bk_head, .ref bk_hinder, .ref bk_size, .ref bk_walk, .ref bk_draught, .ref bk_doorIn, .ref bk_fanIn, .ref bk_faceIn, .int 0, .int (-1), .ref gr]))] H := hP
  have hD : va_D A [(x0, .inr (11, [.ref rd, .ref dr, .ref bk, .ref st, .ref nw, .ref tr, .ref pl, .ref fl, .ref rg, .int 0, .int 0, .int 0])), (bk, .inr (0, [.int 0, .ref bk_tail, .ref bk_head, .ref bk_hinder, .ref bk_size, .ref bk_walk, .ref bk_draught, .ref bk_doorIn, .ref bk_fanIn, .ref bk_faceIn, .int 0, .int (-1), .ref gr]))] := hD
  obtain rfl : r_1 = 0 := hw_2
  refine lv_if_ne (tgt := 14) hx hb dX11_fall_5 (by decide) (fun c_3 => ?_) (fun c_3 => ?_)
  · exact absurd c_3 (by decide)
  refine lv_aload_n hx hb dX11_fall_8 rfl (lv_at hl 0 rfl) ?_
  refine lv_iconst (v := 1) hx hb dX11_fall_9 (by decide) ?_
  have hPc := hP.sub (ws' := [(x0, .inr (11, [.ref rd, .ref dr, .ref bk, .ref st, .ref nw, .ref tr, .ref pl, .ref fl, .ref rg, .int 0, .int 0, .int 0]))]) [0] rfl
  have hDc := hD.sub (ws' := [(x0, .inr (11, [.ref rd, .ref dr, .ref bk, .ref st, .ref nw, .ref tr, .ref pl, .ref fl, .ref rg, .int 0, .int 0, .int 0]))]) [0] (by decide) rfl
  have hKc := hK.sub (tys' := []) [] rfl
  have hFc := va_free (wc := [(x0, .inr (11, [.ref rd, .ref dr, .ref bk, .ref st, .ref nw, .ref tr, .ref pl, .ref fl, .ref rg, .int 0, .int 0, .int 0]))]) hD hS hA [0] rfl
  refine va_calli (va_runV (As := [.int 1]) (rest := []) ⟨hx, hb, hml, hown, hts⟩ (c_deny l dC dI n0 H.size x0 rd dr bk st nw tr pl fl rg 0 0 0 1 ) (cwV 1 hts (gV (fun w h => wM_c h) wd_970 wd_967 wd_969 wd_27 wd_114) rfl rfl rfl (by decide +kernel) ⟨Nat.le_of_ble_eq_true rfl, Nat.le_of_ble_eq_true rfl⟩) ⟨fun a U g mk q => by obtain ⟨q0, q1, q2, qG, qP, qK, qD⟩ := q; exact ⟨q0, q1, q2, GW.blind qG, qP, va_K.moved (u := U) (U := U.calling g mk a) (Vm.Alike.refl U.vm) qK, qD⟩, va_recv hKc hPc (ci := 11) (q0 := 0) rfl rfl, fun U hU hW => ⟨rfl, by rw [hU], Nat.le_trans hn0 hS.1, GW.go hW hU hG (fun q hq hA9 => hS.2.1 q hq (fun h => hA9 (hA0 q h))), by rw [hU]; exact hPc, va_K.moved hW.alike hKc, hDc.weaken (fun _ _ _ h => hA0 _ h)⟩⟩ rfl rfl hl.1 rfl (lv_room (Nat.le_of_ble_eq_true rfl)) dX11_fall_10 ⟨Nat.le_of_ble_eq_true rfl, Nat.le_of_ble_eq_true rfl⟩) hS (fun q _ h => hFc q h) hFc (fun r_4 u t H1 locs ht hvm hw_5 hB hz1 hk1 hS => ?_)
  obtain ⟨hP1, hK1, hD1⟩ := hB
  rw [ht] at hP1
  obtain ⟨hP, hD⟩ := va_join (wr := [(bk, .inr (0, [.int 0, .ref bk_tail, .ref bk_head, .ref bk_hinder, .ref bk_size, .ref bk_walk, .ref bk_draught, .ref bk_doorIn, .ref bk_fanIn, .ref bk_faceIn, .int 0, .int (-1), .ref gr]))]) (w1 := [(x0, .inr (11, [.ref rd, .ref dr, .ref bk, .ref st, .ref nw, .ref tr, .ref pl, .ref fl, .ref rg, .int 1, .int 0, .int 0]))]) hP hD [0] [1] rfl rfl (by decide) (by decide) hk1 hFc hP1 hD1
  generalize H1 = H at hP hS ⊢
  have hP : va_P (dC, dI) classes [(bk, .inr (0, [.int 0, .ref bk_tail, .ref bk_head, .ref bk_hinder, .ref bk_size, .ref bk_walk, .ref bk_draught, .ref bk_doorIn, .ref bk_fanIn, .ref bk_faceIn, .int 0, .int (-1), .ref gr])), (x0, .inr (11, [.ref rd, .ref dr, .ref bk, .ref st, .ref nw, .ref tr, .ref pl, .ref fl, .ref rg, .int 1, .int 0, .int 0]))] H := hP
  have hD : va_D A [(bk, .inr (0, [.int 0, .ref bk_tail, .ref bk_head, .ref bk_hinder, .ref bk_size, .ref bk_walk, .ref bk_draught, .ref bk_doorIn, .ref bk_fanIn, .ref bk_faceIn, .int 0, .int (-1), .ref gr])), (x0, .inr (11, [.ref rd, .ref dr, .ref bk, .ref st, .ref nw, .ref tr, .ref pl, .ref fl, .ref rg, .int 1, .int 0, .int 0]))] := hD
  obtain rfl : r_4 = 0 := hw_5
  exact W.zret (v := 0) hx hb hr rfl (fun t ht hW => ⟨⟨0, (), rfl, rfl, trivial⟩, hS.F ht⟩) hS.2.2 dX11_fall_13
set_option maxHeartbeats 4000000 in
set_option maxRecDepth 100000 in
theorem p_fire (l : Launch) (dC : Nat → ClassId) (dI : Nat → Nat → Nat) (n0 sz : Nat) (x0 : Nat) (rd : Nat) (dr : Nat) (bk : Nat) (st : Nat) (nw : Nat) (tr : Nat) (pl : Nat) (fl : Nat) (rg : Nat) (bk_tail : Nat) (bk_head : Nat) (bk_hinder : Nat) (bk_size : Nat) (bk_walk : Nat) (bk_draught : Nat) (bk_doorIn : Nat) (bk_fanIn : Nat) (bk_faceIn : Nat) (gr : Nat) (w : Int32) (v : Int32) : Met l yX11_fire (wM yX11_fire cX11_fire 3 (some .boolean)) ({ frames := 1, cells := 0, slots := 0, locals := 21 }) (va_Pc [.ref x0, .int w, .int v] (fun U => U.heap.size = sz ∧ n0 ≤ sz ∧ GW n0 U ∧ va_P (dC, dI) classes [(x0, .inr (11, [.ref rd, .ref dr, .ref bk, .ref st, .ref nw, .ref tr, .ref pl, .ref fl, .ref rg, .int 0, .int 0, .int 0])), (bk, .inr (0, [.int 0, .ref bk_tail, .ref bk_head, .ref bk_hinder, .ref bk_size, .ref bk_walk, .ref bk_draught, .ref bk_doorIn, .ref bk_fanIn, .ref bk_faceIn, .int 0, .int (-1), .ref gr]))] U.heap ∧ va_K (dC, dI) classes [] U ∧ va_D (fun q => n0 ≤ q) [(x0, .inr (11, [.ref rd, .ref dr, .ref bk, .ref st, .ref nw, .ref tr, .ref pl, .ref fl, .ref rg, .int 0, .int 0, .int 0])), (bk, .inr (0, [.int 0, .ref bk_tail, .ref bk_head, .ref bk_hinder, .ref bk_size, .ref bk_walk, .ref bk_draught, .ref bk_doorIn, .ref bk_fanIn, .ref bk_faceIn, .int 0, .int (-1), .ref gr]))])) (va_Qi (fun (r : Int32) (_ : Unit) => r = 0) (fun (_ : Unit) (_ : State) => True) (va_A [(x0, .inr (11, [.ref rd, .ref dr, .ref bk, .ref st, .ref nw, .ref tr, .ref pl, .ref fl, .ref rg, .int 0, .int 0, .int 0])), (bk, .inr (0, [.int 0, .ref bk_tail, .ref bk_head, .ref bk_hinder, .ref bk_size, .ref bk_walk, .ref bk_draught, .ref bk_doorIn, .ref bk_fanIn, .ref bk_faceIn, .int 0, .int (-1), .ref gr]))] sz)) 0 0 (va_A [(x0, .inr (11, [.ref rd, .ref dr, .ref bk, .ref st, .ref nw, .ref tr, .ref pl, .ref fl, .ref rg, .int 0, .int 0, .int 0])), (bk, .inr (0, [.int 0, .ref bk_tail, .ref bk_head, .ref bk_hinder, .ref bk_size, .ref bk_walk, .ref bk_draught, .ref bk_doorIn, .ref bk_fanIn, .ref bk_faceIn, .int 0, .int (-1), .ref gr]))] sz) := by
  refine Met.ofW (cc := cX11_fire) (maxL := 3) (ret := (some .boolean)) (by decide) rfl ?_
  intro p e s m args below meth c s₁ B hml hv
  obtain ⟨rfl, hsz, hn0, hG, hP, hK, hD0⟩ := hv
  have hx := B.exec
  have hb := B.bytes
  have hr := B.returns
  have hts := atoms_spec (ws := wM yX11_fire cX11_fire 3 (some .boolean)) B.pre
  have hown : s.vm.findClass RX11 = some m.cls := findClass_of_methodNamed B.named
  have hlocks := B.notSynchronized
  subst hsz
  have hD := hD0.self (sz := s.heap.size)
  have hA0 := vA_n0 hD0 hn0
  generalize hAe : va_A [(x0, .inr (11, [.ref rd, .ref dr, .ref bk, .ref st, .ref nw, .ref tr, .ref pl, .ref fl, .ref rg, .int 0, .int 0, .int 0])), (bk, .inr (0, [.int 0, .ref bk_tail, .ref bk_head, .ref bk_hinder, .ref bk_size, .ref bk_walk, .ref bk_draught, .ref bk_doorIn, .ref bk_fanIn, .ref bk_faceIn, .int 0, .int (-1), .ref gr]))] s.heap.size = A at hD hA0 ⊢
  have hA : ∀ q : Nat, s.heap.size ≤ q → A q := fun q h => by rw [← hAe]; exact Or.inr h
  have hS : va_S A s.heap s.heap [] := va_S.rf
  have hl := lv_entry ([.ref x0, .int w, .int v]) (n := 3) (Nat.le_of_ble_eq_true rfl)
  rw [lg_entry_eq]
  generalize (lg_sl ([.ref x0, .int w, .int v]) ++ List.replicate (3 - (lg_sl ([.ref x0, .int w, .int v])).length) Slot.unset).toArray = ls at hl ⊢
  have hl : lv_has ls 3 [(0, .ref x0), (1, .int w), (2, .int v)] := hl
  refine lv_aload_n hx hb dX11_fire_0 rfl (lv_at hl 0 rfl) ?_
  refine lv_iload_n hx hb dX11_fire_1 rfl (lv_at hl 1 rfl) ?_
  have hPc := hP.sub (ws' := [(x0, .inr (11, [.ref rd, .ref dr, .ref bk, .ref st, .ref nw, .ref tr, .ref pl, .ref fl, .ref rg, .int 0, .int 0, .int 0])), (bk, .inr (0, [.int 0, .ref bk_tail, .ref bk_head, .ref bk_hinder, .ref bk_size, .ref bk_walk, .ref bk_draught, .ref bk_doorIn, .ref bk_fanIn, .ref bk_faceIn, .int 0, .int (-1), .ref gr]))]) [0, 1] rfl
  have hDc := hD.sub (ws' := [(x0, .inr (11, [.ref rd, .ref dr, .ref bk, .ref st, .ref nw, .ref tr, .ref pl, .ref fl, .ref rg, .int 0, .int 0, .int 0])), (bk, .inr (0, [.int 0, .ref bk_tail, .ref bk_head, .ref bk_hinder, .ref bk_size, .ref bk_walk, .ref bk_draught, .ref bk_doorIn, .ref bk_fanIn, .ref bk_faceIn, .int 0, .int (-1), .ref gr]))]) [0, 1] (by decide) rfl
  have hKc := hK.sub (tys' := []) [] rfl
  have hFc := va_free (wc := [(x0, .inr (11, [.ref rd, .ref dr, .ref bk, .ref st, .ref nw, .ref tr, .ref pl, .ref fl, .ref rg, .int 0, .int 0, .int 0])), (bk, .inr (0, [.int 0, .ref bk_tail, .ref bk_head, .ref bk_hinder, .ref bk_size, .ref bk_walk, .ref bk_draught, .ref bk_doorIn, .ref bk_fanIn, .ref bk_faceIn, .int 0, .int (-1), .ref gr]))]) hD hS hA [0, 1] rfl
  refine va_calli (va_runV (As := [.int w]) (rest := []) ⟨hx, hb, hml, hown, hts⟩ (c_isWay l dC dI n0 s.heap.size x0 rd dr bk st nw tr pl fl rg 0 0 0 bk_tail bk_head bk_hinder bk_size bk_walk bk_draught bk_doorIn bk_fanIn bk_faceIn gr w ) (cwV 1 hts (gV (fun w h => wM_c h) wd_950 wd_947 wd_949 wd_25 wd_114) rfl rfl rfl (by decide +kernel) ⟨Nat.le_of_ble_eq_true rfl, Nat.le_of_ble_eq_true rfl⟩) ⟨fun a U g mk q => by obtain ⟨q0, q1, q2, qG, qP, qK, qD⟩ := q; exact ⟨q0, q1, q2, GW.blind qG, qP, va_K.moved (u := U) (U := U.calling g mk a) (Vm.Alike.refl U.vm) qK, qD⟩, va_recv hKc hPc (ci := 11) (q0 := 0) rfl rfl, fun U hU hW => ⟨rfl, by rw [hU], Nat.le_trans hn0 hS.1, GW.go hW hU hG (fun q hq hA9 => hS.2.1 q hq (fun h => hA9 (hA0 q h))), by rw [hU]; exact hPc, va_K.moved hW.alike hKc, hDc.weaken (fun _ _ _ h => hA0 _ h)⟩⟩ rfl rfl hl.1 rfl (lv_room (Nat.le_of_ble_eq_true rfl)) dX11_fire_2 ⟨Nat.le_of_ble_eq_true rfl, Nat.le_of_ble_eq_true rfl⟩) hS (fun q _ h => hFc q h) hFc (fun r_1 u t H1 locs ht hvm hw_2 hB hz1 hk1 hS => ?_)
  obtain ⟨hP1, hK1, hD1⟩ := hB
  rw [ht] at hP1
  obtain ⟨hP, hD⟩ := va_join (wr := []) (w1 := [(x0, .inr (11, [.ref rd, .ref dr, .ref bk, .ref st, .ref nw, .ref tr, .ref pl, .ref fl, .ref rg, .int 0, .int 0, .int 0])), (bk, .inr (0, [.int 0, .ref bk_tail, .ref bk_head, .ref bk_hinder, .ref bk_size, .ref bk_walk, .ref bk_draught, .ref bk_doorIn, .ref bk_fanIn, .ref bk_faceIn, .int 0, .int (-1), .ref gr]))]) hP hD [0, 1] [] rfl rfl (by decide) (by decide) hk1 hFc hP1 hD1
  generalize H1 = H at hP hS ⊢
  have hP : va_P (dC, dI) classes [(x0, .inr (11, [.ref rd, .ref dr, .ref bk, .ref st, .ref nw, .ref tr, .ref pl, .ref fl, .ref rg, .int 0, .int 0, .int 0])), (bk, .inr (0, [.int 0, .ref bk_tail, .ref bk_head, .ref bk_hinder, .ref bk_size, .ref bk_walk, .ref bk_draught, .ref bk_doorIn, .ref bk_fanIn, .ref bk_faceIn, .int 0, .int (-1), .ref gr]))] H := hP
  have hD : va_D A [(x0, .inr (11, [.ref rd, .ref dr, .ref bk, .ref st, .ref nw, .ref tr, .ref pl, .ref fl, .ref rg, .int 0, .int 0, .int 0])), (bk, .inr (0, [.int 0, .ref bk_tail, .ref bk_head, .ref bk_hinder, .ref bk_size, .ref bk_walk, .ref bk_draught, .ref bk_doorIn, .ref bk_fanIn, .ref bk_faceIn, .int 0, .int (-1), .ref gr]))] := hD
  obtain rfl : r_1 = 0 := hw_2
  refine lv_if_ne (tgt := 14) hx hb dX11_fire_5 (by decide) (fun c_3 => ?_) (fun c_3 => ?_)
  · exact absurd c_3 (by decide)
  refine lv_aload_n hx hb dX11_fire_8 rfl (lv_at hl 0 rfl) ?_
  refine lv_iconst (v := 1) hx hb dX11_fire_9 (by decide) ?_
  have hPc := hP.sub (ws' := [(x0, .inr (11, [.ref rd, .ref dr, .ref bk, .ref st, .ref nw, .ref tr, .ref pl, .ref fl, .ref rg, .int 0, .int 0, .int 0]))]) [0] rfl
  have hDc := hD.sub (ws' := [(x0, .inr (11, [.ref rd, .ref dr, .ref bk, .ref st, .ref nw, .ref tr, .ref pl, .ref fl, .ref rg, .int 0, .int 0, .int 0]))]) [0] (by decide) rfl
  have hKc := hK.sub (tys' := []) [] rfl
  have hFc := va_free (wc := [(x0, .inr (11, [.ref rd, .ref dr, .ref bk, .ref st, .ref nw, .ref tr, .ref pl, .ref fl, .ref rg, .int 0, .int 0, .int 0]))]) hD hS hA [0] rfl
  refine va_calli (va_runV (As := [.int 1]) (rest := []) ⟨hx, hb, hml, hown, hts⟩ (c_deny l dC dI n0 H.size x0 rd dr bk st nw tr pl fl rg 0 0 0 1 ) (cwV 1 hts (gV (fun w h => wM_c h) wd_970 wd_967 wd_969 wd_27 wd_114) rfl rfl rfl (by decide +kernel) ⟨Nat.le_of_ble_eq_true rfl, Nat.le_of_ble_eq_true rfl⟩) ⟨fun a U g mk q => by obtain ⟨q0, q1, q2, qG, qP, qK, qD⟩ := q; exact ⟨q0, q1, q2, GW.blind qG, qP, va_K.moved (u := U) (U := U.calling g mk a) (Vm.Alike.refl U.vm) qK, qD⟩, va_recv hKc hPc (ci := 11) (q0 := 0) rfl rfl, fun U hU hW => ⟨rfl, by rw [hU], Nat.le_trans hn0 hS.1, GW.go hW hU hG (fun q hq hA9 => hS.2.1 q hq (fun h => hA9 (hA0 q h))), by rw [hU]; exact hPc, va_K.moved hW.alike hKc, hDc.weaken (fun _ _ _ h => hA0 _ h)⟩⟩ rfl rfl hl.1 rfl (lv_room (Nat.le_of_ble_eq_true rfl)) dX11_fire_10 ⟨Nat.le_of_ble_eq_true rfl, Nat.le_of_ble_eq_true rfl⟩) hS (fun q _ h => hFc q h) hFc (fun r_4 u t H1 locs ht hvm hw_5 hB hz1 hk1 hS => ?_)
  obtain ⟨hP1, hK1, hD1⟩ := hB
  rw [ht] at hP1
  obtain ⟨hP, hD⟩ := va_join (wr := [(bk, .inr (0, [.int 0, .ref bk_tail, .ref bk_head, .ref bk_hinder, .ref bk_size, .ref bk_walk, .ref bk_draught, .ref bk_doorIn, .ref bk_fanIn, .ref bk_faceIn, .int 0, .int (-1), .ref gr]))]) (w1 := [(x0, .inr (11, [.ref rd, .ref dr, .ref bk, .ref st, .ref nw, .ref tr, .ref pl, .ref fl, .ref rg, .int 1, .int 0, .int 0]))]) hP hD [0] [1] rfl rfl (by decide) (by decide) hk1 hFc hP1 hD1
  generalize H1 = H at hP hS ⊢
  have hP : va_P (dC, dI) classes [(bk, .inr (0, [.int 0, .ref bk_tail, .ref bk_head, .ref bk_hinder, .ref bk_size, .ref bk_walk, .ref bk_draught, .ref bk_doorIn, .ref bk_fanIn, .ref bk_faceIn, .int 0, .int (-1), .ref gr])), (x0, .inr (11, [.ref rd, .ref dr, .ref bk, .ref st, .ref nw, .ref tr, .ref pl, .ref fl, .ref rg, .int 1, .int 0, .int 0]))] H := hP
  have hD : va_D A [(bk, .inr (0, [.int 0, .ref bk_tail, .ref bk_head, .ref bk_hinder, .ref bk_size, .ref bk_walk, .ref bk_draught, .ref bk_doorIn, .ref bk_fanIn, .ref bk_faceIn, .int 0, .int (-1), .ref gr])), (x0, .inr (11, [.ref rd, .ref dr, .ref bk, .ref st, .ref nw, .ref tr, .ref pl, .ref fl, .ref rg, .int 1, .int 0, .int 0]))] := hD
  obtain rfl : r_4 = 0 := hw_5
  exact W.zret (v := 0) hx hb hr rfl (fun t ht hW => ⟨⟨0, (), rfl, rfl, trivial⟩, hS.F ht⟩) hS.2.2 dX11_fire_13
set_option maxHeartbeats 4000000 in
set_option maxRecDepth 100000 in
theorem p_air (l : Launch) (dC : Nat → ClassId) (dI : Nat → Nat → Nat) (n0 sz : Nat) (x0 : Nat) (rd : Nat) (dr : Nat) (bk : Nat) (st : Nat) (nw : Nat) (tr : Nat) (pl : Nat) (fl : Nat) (rg : Nat) (bk_tail : Nat) (bk_head : Nat) (bk_hinder : Nat) (bk_size : Nat) (bk_walk : Nat) (bk_draught : Nat) (bk_doorIn : Nat) (bk_fanIn : Nat) (bk_faceIn : Nat) (gr : Nat) (w : Int32) : Met l yX11_air (wM yX11_air cX11_air 2 (some .int)) ({ frames := 1, cells := 0, slots := 0, locals := 21 }) (va_Pc [.ref x0, .int w] (fun U => U.heap.size = sz ∧ n0 ≤ sz ∧ GW n0 U ∧ va_P (dC, dI) classes [(x0, .inr (11, [.ref rd, .ref dr, .ref bk, .ref st, .ref nw, .ref tr, .ref pl, .ref fl, .ref rg, .int 0, .int 0, .int 0])), (bk, .inr (0, [.int 0, .ref bk_tail, .ref bk_head, .ref bk_hinder, .ref bk_size, .ref bk_walk, .ref bk_draught, .ref bk_doorIn, .ref bk_fanIn, .ref bk_faceIn, .int 0, .int (-1), .ref gr]))] U.heap ∧ va_K (dC, dI) classes [] U ∧ va_D (fun q => n0 ≤ q) [(x0, .inr (11, [.ref rd, .ref dr, .ref bk, .ref st, .ref nw, .ref tr, .ref pl, .ref fl, .ref rg, .int 0, .int 0, .int 0])), (bk, .inr (0, [.int 0, .ref bk_tail, .ref bk_head, .ref bk_hinder, .ref bk_size, .ref bk_walk, .ref bk_draught, .ref bk_doorIn, .ref bk_fanIn, .ref bk_faceIn, .int 0, .int (-1), .ref gr]))])) (va_Qi (fun (r : Int32) (_ : Unit) => r = (-100)) (fun (_ : Unit) (_ : State) => True) (va_A [(x0, .inr (11, [.ref rd, .ref dr, .ref bk, .ref st, .ref nw, .ref tr, .ref pl, .ref fl, .ref rg, .int 0, .int 0, .int 0])), (bk, .inr (0, [.int 0, .ref bk_tail, .ref bk_head, .ref bk_hinder, .ref bk_size, .ref bk_walk, .ref bk_draught, .ref bk_doorIn, .ref bk_fanIn, .ref bk_faceIn, .int 0, .int (-1), .ref gr]))] sz)) 0 0 (va_A [(x0, .inr (11, [.ref rd, .ref dr, .ref bk, .ref st, .ref nw, .ref tr, .ref pl, .ref fl, .ref rg, .int 0, .int 0, .int 0])), (bk, .inr (0, [.int 0, .ref bk_tail, .ref bk_head, .ref bk_hinder, .ref bk_size, .ref bk_walk, .ref bk_draught, .ref bk_doorIn, .ref bk_fanIn, .ref bk_faceIn, .int 0, .int (-1), .ref gr]))] sz) := by
  refine Met.ofW (cc := cX11_air) (maxL := 2) (ret := (some .int)) (by decide) rfl ?_
  intro p e s m args below meth c s₁ B hml hv
  obtain ⟨rfl, hsz, hn0, hG, hP, hK, hD0⟩ := hv
  have hx := B.exec
  have hb := B.bytes
  have hr := B.returns
  have hts := atoms_spec (ws := wM yX11_air cX11_air 2 (some .int)) B.pre
  have hown : s.vm.findClass RX11 = some m.cls := findClass_of_methodNamed B.named
  have hlocks := B.notSynchronized
  subst hsz
  have hD := hD0.self (sz := s.heap.size)
  have hA0 := vA_n0 hD0 hn0
  generalize hAe : va_A [(x0, .inr (11, [.ref rd, .ref dr, .ref bk, .ref st, .ref nw, .ref tr, .ref pl, .ref fl, .ref rg, .int 0, .int 0, .int 0])), (bk, .inr (0, [.int 0, .ref bk_tail, .ref bk_head, .ref bk_hinder, .ref bk_size, .ref bk_walk, .ref bk_draught, .ref bk_doorIn, .ref bk_fanIn, .ref bk_faceIn, .int 0, .int (-1), .ref gr]))] s.heap.size = A at hD hA0 ⊢
  have hA : ∀ q : Nat, s.heap.size ≤ q → A q := fun q h => by rw [← hAe]; exact Or.inr h
  have hS : va_S A s.heap s.heap [] := va_S.rf
  have hl := lv_entry ([.ref x0, .int w]) (n := 2) (Nat.le_of_ble_eq_true rfl)
  rw [lg_entry_eq]
  generalize (lg_sl ([.ref x0, .int w]) ++ List.replicate (2 - (lg_sl ([.ref x0, .int w])).length) Slot.unset).toArray = ls at hl ⊢
  have hl : lv_has ls 2 [(0, .ref x0), (1, .int w)] := hl
  refine lv_aload_n hx hb dX11_air_0 rfl (lv_at hl 0 rfl) ?_
  refine lv_iload_n hx hb dX11_air_1 rfl (lv_at hl 1 rfl) ?_
  have hPc := hP.sub (ws' := [(x0, .inr (11, [.ref rd, .ref dr, .ref bk, .ref st, .ref nw, .ref tr, .ref pl, .ref fl, .ref rg, .int 0, .int 0, .int 0])), (bk, .inr (0, [.int 0, .ref bk_tail, .ref bk_head, .ref bk_hinder, .ref bk_size, .ref bk_walk, .ref bk_draught, .ref bk_doorIn, .ref bk_fanIn, .ref bk_faceIn, .int 0, .int (-1), .ref gr]))]) [0, 1] rfl
  have hDc := hD.sub (ws' := [(x0, .inr (11, [.ref rd, .ref dr, .ref bk, .ref st, .ref nw, .ref tr, .ref pl, .ref fl, .ref rg, .int 0, .int 0, .int 0])), (bk, .inr (0, [.int 0, .ref bk_tail, .ref bk_head, .ref bk_hinder, .ref bk_size, .ref bk_walk, .ref bk_draught, .ref bk_doorIn, .ref bk_fanIn, .ref bk_faceIn, .int 0, .int (-1), .ref gr]))]) [0, 1] (by decide) rfl
  have hKc := hK.sub (tys' := []) [] rfl
  have hFc := va_free (wc := [(x0, .inr (11, [.ref rd, .ref dr, .ref bk, .ref st, .ref nw, .ref tr, .ref pl, .ref fl, .ref rg, .int 0, .int 0, .int 0])), (bk, .inr (0, [.int 0, .ref bk_tail, .ref bk_head, .ref bk_hinder, .ref bk_size, .ref bk_walk, .ref bk_draught, .ref bk_doorIn, .ref bk_fanIn, .ref bk_faceIn, .int 0, .int (-1), .ref gr]))]) hD hS hA [0, 1] rfl
  refine va_calli (va_runV (As := [.int w]) (rest := []) ⟨hx, hb, hml, hown, hts⟩ (c_isWay l dC dI n0 s.heap.size x0 rd dr bk st nw tr pl fl rg 0 0 0 bk_tail bk_head bk_hinder bk_size bk_walk bk_draught bk_doorIn bk_fanIn bk_faceIn gr w ) (cwV 1 hts (gV (fun w h => wM_c h) wd_950 wd_947 wd_949 wd_25 wd_114) rfl rfl rfl (by decide +kernel) ⟨Nat.le_of_ble_eq_true rfl, Nat.le_of_ble_eq_true rfl⟩) ⟨fun a U g mk q => by obtain ⟨q0, q1, q2, qG, qP, qK, qD⟩ := q; exact ⟨q0, q1, q2, GW.blind qG, qP, va_K.moved (u := U) (U := U.calling g mk a) (Vm.Alike.refl U.vm) qK, qD⟩, va_recv hKc hPc (ci := 11) (q0 := 0) rfl rfl, fun U hU hW => ⟨rfl, by rw [hU], Nat.le_trans hn0 hS.1, GW.go hW hU hG (fun q hq hA9 => hS.2.1 q hq (fun h => hA9 (hA0 q h))), by rw [hU]; exact hPc, va_K.moved hW.alike hKc, hDc.weaken (fun _ _ _ h => hA0 _ h)⟩⟩ rfl rfl hl.1 rfl (lv_room (Nat.le_of_ble_eq_true rfl)) dX11_air_2 ⟨Nat.le_of_ble_eq_true rfl, Nat.le_of_ble_eq_true rfl⟩) hS (fun q _ h => hFc q h) hFc (fun r_1 u t H1 locs ht hvm hw_2 hB hz1 hk1 hS => ?_)
  obtain ⟨hP1, hK1, hD1⟩ := hB
  rw [ht] at hP1
  obtain ⟨hP, hD⟩ := va_join (wr := []) (w1 := [(x0, .inr (11, [.ref rd, .ref dr, .ref bk, .ref st, .ref nw, .ref tr, .ref pl, .ref fl, .ref rg, .int 0, .int 0, .int 0])), (bk, .inr (0, [.int 0, .ref bk_tail, .ref bk_head, .ref bk_hinder, .ref bk_size, .ref bk_walk, .ref bk_draught, .ref bk_doorIn, .ref bk_fanIn, .ref bk_faceIn, .int 0, .int (-1), .ref gr]))]) hP hD [0, 1] [] rfl rfl (by decide) (by decide) hk1 hFc hP1 hD1
  generalize H1 = H at hP hS ⊢
  have hP : va_P (dC, dI) classes [(x0, .inr (11, [.ref rd, .ref dr, .ref bk, .ref st, .ref nw, .ref tr, .ref pl, .ref fl, .ref rg, .int 0, .int 0, .int 0])), (bk, .inr (0, [.int 0, .ref bk_tail, .ref bk_head, .ref bk_hinder, .ref bk_size, .ref bk_walk, .ref bk_draught, .ref bk_doorIn, .ref bk_fanIn, .ref bk_faceIn, .int 0, .int (-1), .ref gr]))] H := hP
  have hD : va_D A [(x0, .inr (11, [.ref rd, .ref dr, .ref bk, .ref st, .ref nw, .ref tr, .ref pl, .ref fl, .ref rg, .int 0, .int 0, .int 0])), (bk, .inr (0, [.int 0, .ref bk_tail, .ref bk_head, .ref bk_hinder, .ref bk_size, .ref bk_walk, .ref bk_draught, .ref bk_doorIn, .ref bk_fanIn, .ref bk_faceIn, .int 0, .int (-1), .ref gr]))] := hD
  obtain rfl : r_1 = 0 := hw_2
  refine lv_if_ne (tgt := 11) hx hb dX11_air_5 (by decide) (fun c_3 => ?_) (fun c_3 => ?_)
  · exact absurd c_3 (by decide)
  refine lv_bipush (v := (-100)) hx hb dX11_air_8 (by decide) ?_
  exact W.iret (v := (-100)) hx hb hr (fun t ht hW => ⟨⟨(-100), (), rfl, rfl, trivial⟩, hS.F ht⟩) hS.2.2 dX11_air_10
set_option maxHeartbeats 4000000 in
set_option maxRecDepth 100000 in
theorem p_cost (l : Launch) (dC : Nat → ClassId) (dI : Nat → Nat → Nat) (n0 sz : Nat) (x0 : Nat) (rd : Nat) (dr : Nat) (bk : Nat) (st : Nat) (nw : Nat) (tr : Nat) (pl : Nat) (fl : Nat) (rg : Nat) (bk_tail : Nat) (bk_head : Nat) (bk_hinder : Nat) (bk_size : Nat) (bk_walk : Nat) (bk_draught : Nat) (bk_doorIn : Nat) (bk_fanIn : Nat) (bk_faceIn : Nat) (gr : Nat) : Met l yX11_cost (wM yX11_cost cX11_cost 1 (some .long)) ({ frames := 1, cells := 0, slots := 0, locals := 20 }) (va_Pc [.ref x0] (fun U => U.heap.size = sz ∧ n0 ≤ sz ∧ GW n0 U ∧ va_P (dC, dI) classes [(x0, .inr (11, [.ref rd, .ref dr, .ref bk, .ref st, .ref nw, .ref tr, .ref pl, .ref fl, .ref rg, .int 0, .int 0, .int 0])), (bk, .inr (0, [.int 0, .ref bk_tail, .ref bk_head, .ref bk_hinder, .ref bk_size, .ref bk_walk, .ref bk_draught, .ref bk_doorIn, .ref bk_fanIn, .ref bk_faceIn, .int 0, .int (-1), .ref gr]))] U.heap ∧ va_K (dC, dI) classes [] U ∧ va_D (fun q => n0 ≤ q) [(x0, .inr (11, [.ref rd, .ref dr, .ref bk, .ref st, .ref nw, .ref tr, .ref pl, .ref fl, .ref rg, .int 0, .int 0, .int 0])), (bk, .inr (0, [.int 0, .ref bk_tail, .ref bk_head, .ref bk_hinder, .ref bk_size, .ref bk_walk, .ref bk_draught, .ref bk_doorIn, .ref bk_fanIn, .ref bk_faceIn, .int 0, .int (-1), .ref gr]))])) (va_Ql (fun (r : Int64) (_ : Unit) => r = 0) (fun (_ : Unit) (_ : State) => True) (va_A [(x0, .inr (11, [.ref rd, .ref dr, .ref bk, .ref st, .ref nw, .ref tr, .ref pl, .ref fl, .ref rg, .int 0, .int 0, .int 0])), (bk, .inr (0, [.int 0, .ref bk_tail, .ref bk_head, .ref bk_hinder, .ref bk_size, .ref bk_walk, .ref bk_draught, .ref bk_doorIn, .ref bk_fanIn, .ref bk_faceIn, .int 0, .int (-1), .ref gr]))] sz)) 0 0 (va_A [(x0, .inr (11, [.ref rd, .ref dr, .ref bk, .ref st, .ref nw, .ref tr, .ref pl, .ref fl, .ref rg, .int 0, .int 0, .int 0])), (bk, .inr (0, [.int 0, .ref bk_tail, .ref bk_head, .ref bk_hinder, .ref bk_size, .ref bk_walk, .ref bk_draught, .ref bk_doorIn, .ref bk_fanIn, .ref bk_faceIn, .int 0, .int (-1), .ref gr]))] sz) := by
  refine Met.ofW (cc := cX11_cost) (maxL := 1) (ret := (some .long)) (by decide) rfl ?_
  intro p e s m args below meth c s₁ B hml hv
  obtain ⟨rfl, hsz, hn0, hG, hP, hK, hD0⟩ := hv
  have hx := B.exec
  have hb := B.bytes
  have hr := B.returns
  have hts := atoms_spec (ws := wM yX11_cost cX11_cost 1 (some .long)) B.pre
  have hown : s.vm.findClass RX11 = some m.cls := findClass_of_methodNamed B.named
  have hlocks := B.notSynchronized
  subst hsz
  have hD := hD0.self (sz := s.heap.size)
  have hA0 := vA_n0 hD0 hn0
  generalize hAe : va_A [(x0, .inr (11, [.ref rd, .ref dr, .ref bk, .ref st, .ref nw, .ref tr, .ref pl, .ref fl, .ref rg, .int 0, .int 0, .int 0])), (bk, .inr (0, [.int 0, .ref bk_tail, .ref bk_head, .ref bk_hinder, .ref bk_size, .ref bk_walk, .ref bk_draught, .ref bk_doorIn, .ref bk_fanIn, .ref bk_faceIn, .int 0, .int (-1), .ref gr]))] s.heap.size = A at hD hA0 ⊢
  have hA : ∀ q : Nat, s.heap.size ≤ q → A q := fun q h => by rw [← hAe]; exact Or.inr h
  have hS : va_S A s.heap s.heap [] := va_S.rf
  have hl := lv_entry ([.ref x0]) (n := 1) (Nat.le_of_ble_eq_true rfl)
  rw [lg_entry_eq]
  generalize (lg_sl ([.ref x0]) ++ List.replicate (1 - (lg_sl ([.ref x0])).length) Slot.unset).toArray = ls at hl ⊢
  have hl : lv_has ls 1 [(0, .ref x0)] := hl
  refine lv_aload_n hx hb dX11_cost_0 rfl (lv_at hl 0 rfl) ?_
  have hPc := hP.sub (ws' := [(x0, .inr (11, [.ref rd, .ref dr, .ref bk, .ref st, .ref nw, .ref tr, .ref pl, .ref fl, .ref rg, .int 0, .int 0, .int 0])), (bk, .inr (0, [.int 0, .ref bk_tail, .ref bk_head, .ref bk_hinder, .ref bk_size, .ref bk_walk, .ref bk_draught, .ref bk_doorIn, .ref bk_fanIn, .ref bk_faceIn, .int 0, .int (-1), .ref gr]))]) [0, 1] rfl
  have hDc := hD.sub (ws' := [(x0, .inr (11, [.ref rd, .ref dr, .ref bk, .ref st, .ref nw, .ref tr, .ref pl, .ref fl, .ref rg, .int 0, .int 0, .int 0])), (bk, .inr (0, [.int 0, .ref bk_tail, .ref bk_head, .ref bk_hinder, .ref bk_size, .ref bk_walk, .ref bk_draught, .ref bk_doorIn, .ref bk_fanIn, .ref bk_faceIn, .int 0, .int (-1), .ref gr]))]) [0, 1] (by decide) rfl
  have hKc := hK.sub (tys' := []) [] rfl
  have hFc := va_free (wc := [(x0, .inr (11, [.ref rd, .ref dr, .ref bk, .ref st, .ref nw, .ref tr, .ref pl, .ref fl, .ref rg, .int 0, .int 0, .int 0])), (bk, .inr (0, [.int 0, .ref bk_tail, .ref bk_head, .ref bk_hinder, .ref bk_size, .ref bk_walk, .ref bk_draught, .ref bk_doorIn, .ref bk_fanIn, .ref bk_faceIn, .int 0, .int (-1), .ref gr]))]) hD hS hA [0, 1] rfl
  refine va_calli (va_runV (As := []) (rest := []) ⟨hx, hb, hml, hown, hts⟩ (c_isBooked l dC dI n0 s.heap.size x0 rd dr bk st nw tr pl fl rg 0 0 0 bk_tail bk_head bk_hinder bk_size bk_walk bk_draught bk_doorIn bk_fanIn bk_faceIn gr ) (cwV 0 hts (gV (fun w h => wM_c h) wd_1068 wd_1065 wd_1067 wd_39 wd_114) rfl rfl rfl (by decide +kernel) ⟨Nat.le_of_ble_eq_true rfl, Nat.le_of_ble_eq_true rfl⟩) ⟨fun a U g mk q => by obtain ⟨q0, q1, q2, qG, qP, qK, qD⟩ := q; exact ⟨q0, q1, q2, GW.blind qG, qP, va_K.moved (u := U) (U := U.calling g mk a) (Vm.Alike.refl U.vm) qK, qD⟩, va_recv hKc hPc (ci := 11) (q0 := 0) rfl rfl, fun U hU hW => ⟨rfl, by rw [hU], Nat.le_trans hn0 hS.1, GW.go hW hU hG (fun q hq hA9 => hS.2.1 q hq (fun h => hA9 (hA0 q h))), by rw [hU]; exact hPc, va_K.moved hW.alike hKc, hDc.weaken (fun _ _ _ h => hA0 _ h)⟩⟩ rfl rfl hl.1 rfl (lv_room (Nat.le_of_ble_eq_true rfl)) dX11_cost_1 ⟨Nat.le_of_ble_eq_true rfl, Nat.le_of_ble_eq_true rfl⟩) hS (fun q _ h => hFc q h) hFc (fun r_1 u t H1 locs ht hvm hw_2 hB hz1 hk1 hS => ?_)
  obtain ⟨hP1, hK1, hD1⟩ := hB
  rw [ht] at hP1
  obtain ⟨hP, hD⟩ := va_join (wr := []) (w1 := [(x0, .inr (11, [.ref rd, .ref dr, .ref bk, .ref st, .ref nw, .ref tr, .ref pl, .ref fl, .ref rg, .int 0, .int 0, .int 0])), (bk, .inr (0, [.int 0, .ref bk_tail, .ref bk_head, .ref bk_hinder, .ref bk_size, .ref bk_walk, .ref bk_draught, .ref bk_doorIn, .ref bk_fanIn, .ref bk_faceIn, .int 0, .int (-1), .ref gr]))]) hP hD [0, 1] [] rfl rfl (by decide) (by decide) hk1 hFc hP1 hD1
  generalize H1 = H at hP hS ⊢
  have hP : va_P (dC, dI) classes [(x0, .inr (11, [.ref rd, .ref dr, .ref bk, .ref st, .ref nw, .ref tr, .ref pl, .ref fl, .ref rg, .int 0, .int 0, .int 0])), (bk, .inr (0, [.int 0, .ref bk_tail, .ref bk_head, .ref bk_hinder, .ref bk_size, .ref bk_walk, .ref bk_draught, .ref bk_doorIn, .ref bk_fanIn, .ref bk_faceIn, .int 0, .int (-1), .ref gr]))] H := hP
  have hD : va_D A [(x0, .inr (11, [.ref rd, .ref dr, .ref bk, .ref st, .ref nw, .ref tr, .ref pl, .ref fl, .ref rg, .int 0, .int 0, .int 0])), (bk, .inr (0, [.int 0, .ref bk_tail, .ref bk_head, .ref bk_hinder, .ref bk_size, .ref bk_walk, .ref bk_draught, .ref bk_doorIn, .ref bk_fanIn, .ref bk_faceIn, .int 0, .int (-1), .ref gr]))] := hD
  obtain rfl : r_1 = 0 := hw_2
  refine lv_if_ne (tgt := 9) hx hb dX11_cost_4 (by decide) (fun c_3 => ?_) (fun c_3 => ?_)
  · exact absurd c_3 (by decide)
  refine lv_lconst (v := 0) hx hb dX11_cost_7 (by decide) ?_
  exact W.lret (v := 0) hx hb hr (fun t ht hW => ⟨⟨0, (), rfl, rfl, trivial⟩, hS.F ht⟩) hS.2.2 dX11_cost_8
set_option maxHeartbeats 4000000 in
set_option maxRecDepth 100000 in
theorem p_turned (l : Launch) (dC : Nat → ClassId) (dI : Nat → Nat → Nat) (n0 sz : Nat) (x0 : Nat) (rd : Nat) (dr : Nat) (bk : Nat) (st : Nat) (nw : Nat) (tr : Nat) (pl : Nat) (fl : Nat) (rg : Nat) (bk_tail : Nat) (bk_head : Nat) (bk_hinder : Nat) (bk_size : Nat) (bk_walk : Nat) (bk_draught : Nat) (bk_doorIn : Nat) (bk_fanIn : Nat) (bk_faceIn : Nat) (gr : Nat) (gr_doorBy : Nat) (gr_pairFirst : Nat) (gr_pairSecond : Nat) (gr_fanPush : Nat) (gr_fanFall : Nat) (gr_fanCost : Nat) (gr_faceWay : Nat) (gr_faceGas : Nat) (gr_faceNeed : Nat) (w : Int32) : Met l yX11_turned (wM yX11_turned cX11_turned 2 (some .int)) ({ frames := 1, cells := 0, slots := 0, locals := 21 }) (va_Pc [.ref x0, .int w] (fun U => U.heap.size = sz ∧ n0 ≤ sz ∧ GW n0 U ∧ va_P (dC, dI) classes [(x0, .inr (11, [.ref rd, .ref dr, .ref bk, .ref st, .ref nw, .ref tr, .ref pl, .ref fl, .ref rg, .int 0, .int 0, .int 0])), (bk, .inr (0, [.int 0, .ref bk_tail, .ref bk_head, .ref bk_hinder, .ref bk_size, .ref bk_walk, .ref bk_draught, .ref bk_doorIn, .ref bk_fanIn, .ref bk_faceIn, .int 0, .int (-1), .ref gr])), (gr, .inr (3, [.int 0, .ref gr_doorBy, .int 0, .ref gr_pairFirst, .ref gr_pairSecond, .int 0, .ref gr_fanPush, .ref gr_fanFall, .ref gr_fanCost, .int 0, .ref gr_faceWay, .ref gr_faceGas, .ref gr_faceNeed]))] U.heap ∧ va_K (dC, dI) classes [] U ∧ va_D (fun q => n0 ≤ q) [(x0, .inr (11, [.ref rd, .ref dr, .ref bk, .ref st, .ref nw, .ref tr, .ref pl, .ref fl, .ref rg, .int 0, .int 0, .int 0])), (bk, .inr (0, [.int 0, .ref bk_tail, .ref bk_head, .ref bk_hinder, .ref bk_size, .ref bk_walk, .ref bk_draught, .ref bk_doorIn, .ref bk_fanIn, .ref bk_faceIn, .int 0, .int (-1), .ref gr])), (gr, .inr (3, [.int 0, .ref gr_doorBy, .int 0, .ref gr_pairFirst, .ref gr_pairSecond, .int 0, .ref gr_fanPush, .ref gr_fanFall, .ref gr_fanCost, .int 0, .ref gr_faceWay, .ref gr_faceGas, .ref gr_faceNeed]))])) (va_Qi (fun (r : Int32) (_ : Unit) => r = (-1)) (fun (_ : Unit) (_ : State) => True) (va_A [(x0, .inr (11, [.ref rd, .ref dr, .ref bk, .ref st, .ref nw, .ref tr, .ref pl, .ref fl, .ref rg, .int 0, .int 0, .int 0])), (bk, .inr (0, [.int 0, .ref bk_tail, .ref bk_head, .ref bk_hinder, .ref bk_size, .ref bk_walk, .ref bk_draught, .ref bk_doorIn, .ref bk_fanIn, .ref bk_faceIn, .int 0, .int (-1), .ref gr])), (gr, .inr (3, [.int 0, .ref gr_doorBy, .int 0, .ref gr_pairFirst, .ref gr_pairSecond, .int 0, .ref gr_fanPush, .ref gr_fanFall, .ref gr_fanCost, .int 0, .ref gr_faceWay, .ref gr_faceGas, .ref gr_faceNeed]))] sz)) 0 0 (va_A [(x0, .inr (11, [.ref rd, .ref dr, .ref bk, .ref st, .ref nw, .ref tr, .ref pl, .ref fl, .ref rg, .int 0, .int 0, .int 0])), (bk, .inr (0, [.int 0, .ref bk_tail, .ref bk_head, .ref bk_hinder, .ref bk_size, .ref bk_walk, .ref bk_draught, .ref bk_doorIn, .ref bk_fanIn, .ref bk_faceIn, .int 0, .int (-1), .ref gr])), (gr, .inr (3, [.int 0, .ref gr_doorBy, .int 0, .ref gr_pairFirst, .ref gr_pairSecond, .int 0, .ref gr_fanPush, .ref gr_fanFall, .ref gr_fanCost, .int 0, .ref gr_faceWay, .ref gr_faceGas, .ref gr_faceNeed]))] sz) := by
  refine Met.ofW (cc := cX11_turned) (maxL := 2) (ret := (some .int)) (by decide) rfl ?_
  intro p e s m args below meth c s₁ B hml hv
  obtain ⟨rfl, hsz, hn0, hG, hP, hK, hD0⟩ := hv
  have hx := B.exec
  have hb := B.bytes
  have hr := B.returns
  have hts := atoms_spec (ws := wM yX11_turned cX11_turned 2 (some .int)) B.pre
  have hown : s.vm.findClass RX11 = some m.cls := findClass_of_methodNamed B.named
  have hlocks := B.notSynchronized
  subst hsz
  have hD := hD0.self (sz := s.heap.size)
  have hA0 := vA_n0 hD0 hn0
  generalize hAe : va_A [(x0, .inr (11, [.ref rd, .ref dr, .ref bk, .ref st, .ref nw, .ref tr, .ref pl, .ref fl, .ref rg, .int 0, .int 0, .int 0])), (bk, .inr (0, [.int 0, .ref bk_tail, .ref bk_head, .ref bk_hinder, .ref bk_size, .ref bk_walk, .ref bk_draught, .ref bk_doorIn, .ref bk_fanIn, .ref bk_faceIn, .int 0, .int (-1), .ref gr])), (gr, .inr (3, [.int 0, .ref gr_doorBy, .int 0, .ref gr_pairFirst, .ref gr_pairSecond, .int 0, .ref gr_fanPush, .ref gr_fanFall, .ref gr_fanCost, .int 0, .ref gr_faceWay, .ref gr_faceGas, .ref gr_faceNeed]))] s.heap.size = A at hD hA0 ⊢
  have hA : ∀ q : Nat, s.heap.size ≤ q → A q := fun q h => by rw [← hAe]; exact Or.inr h
  have hS : va_S A s.heap s.heap [] := va_S.rf
  have hl := lv_entry ([.ref x0, .int w]) (n := 2) (Nat.le_of_ble_eq_true rfl)
  rw [lg_entry_eq]
  generalize (lg_sl ([.ref x0, .int w]) ++ List.replicate (2 - (lg_sl ([.ref x0, .int w])).length) Slot.unset).toArray = ls at hl ⊢
  have hl : lv_has ls 2 [(0, .ref x0), (1, .int w)] := hl
  refine lv_aload_n hx hb dX11_turned_0 rfl (lv_at hl 0 rfl) ?_
  refine lv_iload_n hx hb dX11_turned_1 rfl (lv_at hl 1 rfl) ?_
  have hPc := hP.sub (ws' := [(x0, .inr (11, [.ref rd, .ref dr, .ref bk, .ref st, .ref nw, .ref tr, .ref pl, .ref fl, .ref rg, .int 0, .int 0, .int 0])), (bk, .inr (0, [.int 0, .ref bk_tail, .ref bk_head, .ref bk_hinder, .ref bk_size, .ref bk_walk, .ref bk_draught, .ref bk_doorIn, .ref bk_fanIn, .ref bk_faceIn, .int 0, .int (-1), .ref gr])), (gr, .inr (3, [.int 0, .ref gr_doorBy, .int 0, .ref gr_pairFirst, .ref gr_pairSecond, .int 0, .ref gr_fanPush, .ref gr_fanFall, .ref gr_fanCost, .int 0, .ref gr_faceWay, .ref gr_faceGas, .ref gr_faceNeed]))]) [0, 1, 2] rfl
  have hDc := hD.sub (ws' := [(x0, .inr (11, [.ref rd, .ref dr, .ref bk, .ref st, .ref nw, .ref tr, .ref pl, .ref fl, .ref rg, .int 0, .int 0, .int 0])), (bk, .inr (0, [.int 0, .ref bk_tail, .ref bk_head, .ref bk_hinder, .ref bk_size, .ref bk_walk, .ref bk_draught, .ref bk_doorIn, .ref bk_fanIn, .ref bk_faceIn, .int 0, .int (-1), .ref gr])), (gr, .inr (3, [.int 0, .ref gr_doorBy, .int 0, .ref gr_pairFirst, .ref gr_pairSecond, .int 0, .ref gr_fanPush, .ref gr_fanFall, .ref gr_fanCost, .int 0, .ref gr_faceWay, .ref gr_faceGas, .ref gr_faceNeed]))]) [0, 1, 2] (by decide) rfl
  have hKc := hK.sub (tys' := []) [] rfl
  have hFc := va_free (wc := [(x0, .inr (11, [.ref rd, .ref dr, .ref bk, .ref st, .ref nw, .ref tr, .ref pl, .ref fl, .ref rg, .int 0, .int 0, .int 0])), (bk, .inr (0, [.int 0, .ref bk_tail, .ref bk_head, .ref bk_hinder, .ref bk_size, .ref bk_walk, .ref bk_draught, .ref bk_doorIn, .ref bk_fanIn, .ref bk_faceIn, .int 0, .int (-1), .ref gr])), (gr, .inr (3, [.int 0, .ref gr_doorBy, .int 0, .ref gr_pairFirst, .ref gr_pairSecond, .int 0, .ref gr_fanPush, .ref gr_fanFall, .ref gr_fanCost, .int 0, .ref gr_faceWay, .ref gr_faceGas, .ref gr_faceNeed]))]) hD hS hA [0, 1, 2] rfl
  refine va_calli (va_runV (As := [.int w]) (rest := []) ⟨hx, hb, hml, hown, hts⟩ (c_isFan l dC dI n0 s.heap.size x0 rd dr bk st nw tr pl fl rg 0 0 0 bk_tail bk_head bk_hinder bk_size bk_walk bk_draught bk_doorIn bk_fanIn bk_faceIn gr gr_doorBy gr_pairFirst gr_pairSecond gr_fanPush gr_fanFall gr_fanCost gr_faceWay gr_faceGas gr_faceNeed w ) (cwV 1 hts (gV (fun w h => wM_c h) wd_982 wd_979 wd_981 wd_29 wd_114) rfl rfl rfl (by decide +kernel) ⟨Nat.le_of_ble_eq_true rfl, Nat.le_of_ble_eq_true rfl⟩) ⟨fun a U g mk q => by obtain ⟨q0, q1, q2, qG, qP, qK, qD⟩ := q; exact ⟨q0, q1, q2, GW.blind qG, qP, va_K.moved (u := U) (U := U.calling g mk a) (Vm.Alike.refl U.vm) qK, qD⟩, va_recv hKc hPc (ci := 11) (q0 := 0) rfl rfl, fun U hU hW => ⟨rfl, by rw [hU], Nat.le_trans hn0 hS.1, GW.go hW hU hG (fun q hq hA9 => hS.2.1 q hq (fun h => hA9 (hA0 q h))), by rw [hU]; exact hPc, va_K.moved hW.alike hKc, hDc.weaken (fun _ _ _ h => hA0 _ h)⟩⟩ rfl rfl hl.1 rfl (lv_room (Nat.le_of_ble_eq_true rfl)) dX11_turned_2 ⟨Nat.le_of_ble_eq_true rfl, Nat.le_of_ble_eq_true rfl⟩) hS (fun q _ h => hFc q h) hFc (fun r_1 u t H1 locs ht hvm hw_2 hB hz1 hk1 hS => ?_)
  obtain ⟨hP1, hK1, hD1⟩ := hB
  rw [ht] at hP1
  obtain ⟨hP, hD⟩ := va_join (wr := []) (w1 := [(x0, .inr (11, [.ref rd, .ref dr, .ref bk, .ref st, .ref nw, .ref tr, .ref pl, .ref fl, .ref rg, .int 0, .int 0, .int 0])), (bk, .inr (0, [.int 0, .ref bk_tail, .ref bk_head, .ref bk_hinder, .ref bk_size, .ref bk_walk, .ref bk_draught, .ref bk_doorIn, .ref bk_fanIn, .ref bk_faceIn, .int 0, .int (-1), .ref gr])), (gr, .inr (3, [.int 0, .ref gr_doorBy, .int 0, .ref gr_pairFirst, .ref gr_pairSecond, .int 0, .ref gr_fanPush, .ref gr_fanFall, .ref gr_fanCost, .int 0, .ref gr_faceWay, .ref gr_faceGas, .ref gr_faceNeed]))]) hP hD [0, 1, 2] [] rfl rfl (by decide) (by decide) hk1 hFc hP1 hD1
  generalize H1 = H at hP hS ⊢
  have hP : va_P (dC, dI) classes [(x0, .inr (11, [.ref rd, .ref dr, .ref bk, .ref st, .ref nw, .ref tr, .ref pl, .ref fl, .ref rg, .int 0, .int 0, .int 0])), (bk, .inr (0, [.int 0, .ref bk_tail, .ref bk_head, .ref bk_hinder, .ref bk_size, .ref bk_walk, .ref bk_draught, .ref bk_doorIn, .ref bk_fanIn, .ref bk_faceIn, .int 0, .int (-1), .ref gr])), (gr, .inr (3, [.int 0, .ref gr_doorBy, .int 0, .ref gr_pairFirst, .ref gr_pairSecond, .int 0, .ref gr_fanPush, .ref gr_fanFall, .ref gr_fanCost, .int 0, .ref gr_faceWay, .ref gr_faceGas, .ref gr_faceNeed]))] H := hP
  have hD : va_D A [(x0, .inr (11, [.ref rd, .ref dr, .ref bk, .ref st, .ref nw, .ref tr, .ref pl, .ref fl, .ref rg, .int 0, .int 0, .int 0])), (bk, .inr (0, [.int 0, .ref bk_tail, .ref bk_head, .ref bk_hinder, .ref bk_size, .ref bk_walk, .ref bk_draught, .ref bk_doorIn, .ref bk_fanIn, .ref bk_faceIn, .int 0, .int (-1), .ref gr])), (gr, .inr (3, [.int 0, .ref gr_doorBy, .int 0, .ref gr_pairFirst, .ref gr_pairSecond, .int 0, .ref gr_fanPush, .ref gr_fanFall, .ref gr_fanCost, .int 0, .ref gr_faceWay, .ref gr_faceGas, .ref gr_faceNeed]))] := hD
  obtain rfl : r_1 = 0 := hw_2
  refine lv_if_ne (tgt := 14) hx hb dX11_turned_5 (by decide) (fun c_3 => ?_) (fun c_3 => ?_)
  · exact absurd c_3 (by decide)
  refine lv_aload_n hx hb dX11_turned_8 rfl (lv_at hl 0 rfl) ?_
  refine lv_iconst (v := 1) hx hb dX11_turned_9 (by decide) ?_
  have hPc := hP.sub (ws' := [(x0, .inr (11, [.ref rd, .ref dr, .ref bk, .ref st, .ref nw, .ref tr, .ref pl, .ref fl, .ref rg, .int 0, .int 0, .int 0]))]) [0] rfl
  have hDc := hD.sub (ws' := [(x0, .inr (11, [.ref rd, .ref dr, .ref bk, .ref st, .ref nw, .ref tr, .ref pl, .ref fl, .ref rg, .int 0, .int 0, .int 0]))]) [0] (by decide) rfl
  have hKc := hK.sub (tys' := []) [] rfl
  have hFc := va_free (wc := [(x0, .inr (11, [.ref rd, .ref dr, .ref bk, .ref st, .ref nw, .ref tr, .ref pl, .ref fl, .ref rg, .int 0, .int 0, .int 0]))]) hD hS hA [0] rfl
  refine va_calli (va_runV (As := [.int 1]) (rest := []) ⟨hx, hb, hml, hown, hts⟩ (c_refuse l dC dI n0 H.size x0 rd dr bk st nw tr pl fl rg 0 0 0 1 ) (cwV 1 hts (gV (fun w h => wM_c h) wd_722 wd_719 wd_721 wd_0 wd_114) rfl rfl rfl (by decide +kernel) ⟨Nat.le_of_ble_eq_true rfl, Nat.le_of_ble_eq_true rfl⟩) ⟨fun a U g mk q => by obtain ⟨q0, q1, q2, qG, qP, qK, qD⟩ := q; exact ⟨q0, q1, q2, GW.blind qG, qP, va_K.moved (u := U) (U := U.calling g mk a) (Vm.Alike.refl U.vm) qK, qD⟩, va_recv hKc hPc (ci := 11) (q0 := 0) rfl rfl, fun U hU hW => ⟨rfl, by rw [hU], Nat.le_trans hn0 hS.1, GW.go hW hU hG (fun q hq hA9 => hS.2.1 q hq (fun h => hA9 (hA0 q h))), by rw [hU]; exact hPc, va_K.moved hW.alike hKc, hDc.weaken (fun _ _ _ h => hA0 _ h)⟩⟩ rfl rfl hl.1 rfl (lv_room (Nat.le_of_ble_eq_true rfl)) dX11_turned_10 ⟨Nat.le_of_ble_eq_true rfl, Nat.le_of_ble_eq_true rfl⟩) hS (fun q _ h => hFc q h) hFc (fun r_4 u t H1 locs ht hvm hw_5 hB hz1 hk1 hS => ?_)
  obtain ⟨hP1, hK1, hD1⟩ := hB
  rw [ht] at hP1
  obtain ⟨hP, hD⟩ := va_join (wr := [(bk, .inr (0, [.int 0, .ref bk_tail, .ref bk_head, .ref bk_hinder, .ref bk_size, .ref bk_walk, .ref bk_draught, .ref bk_doorIn, .ref bk_fanIn, .ref bk_faceIn, .int 0, .int (-1), .ref gr])), (gr, .inr (3, [.int 0, .ref gr_doorBy, .int 0, .ref gr_pairFirst, .ref gr_pairSecond, .int 0, .ref gr_fanPush, .ref gr_fanFall, .ref gr_fanCost, .int 0, .ref gr_faceWay, .ref gr_faceGas, .ref gr_faceNeed]))]) (w1 := [(x0, .inr (11, [.ref rd, .ref dr, .ref bk, .ref st, .ref nw, .ref tr, .ref pl, .ref fl, .ref rg, .int 1, .int 0, .int 0]))]) hP hD [0] [1, 2] rfl rfl (by decide) (by decide) hk1 hFc hP1 hD1
  generalize H1 = H at hP hS ⊢
  have hP : va_P (dC, dI) classes [(bk, .inr (0, [.int 0, .ref bk_tail, .ref bk_head, .ref bk_hinder, .ref bk_size, .ref bk_walk, .ref bk_draught, .ref bk_doorIn, .ref bk_fanIn, .ref bk_faceIn, .int 0, .int (-1), .ref gr])), (gr, .inr (3, [.int 0, .ref gr_doorBy, .int 0, .ref gr_pairFirst, .ref gr_pairSecond, .int 0, .ref gr_fanPush, .ref gr_fanFall, .ref gr_fanCost, .int 0, .ref gr_faceWay, .ref gr_faceGas, .ref gr_faceNeed])), (x0, .inr (11, [.ref rd, .ref dr, .ref bk, .ref st, .ref nw, .ref tr, .ref pl, .ref fl, .ref rg, .int 1, .int 0, .int 0]))] H := hP
  have hD : va_D A [(bk, .inr (0, [.int 0, .ref bk_tail, .ref bk_head, .ref bk_hinder, .ref bk_size, .ref bk_walk, .ref bk_draught, .ref bk_doorIn, .ref bk_fanIn, .ref bk_faceIn, .int 0, .int (-1), .ref gr])), (gr, .inr (3, [.int 0, .ref gr_doorBy, .int 0, .ref gr_pairFirst, .ref gr_pairSecond, .int 0, .ref gr_fanPush, .ref gr_fanFall, .ref gr_fanCost, .int 0, .ref gr_faceWay, .ref gr_faceGas, .ref gr_faceNeed])), (x0, .inr (11, [.ref rd, .ref dr, .ref bk, .ref st, .ref nw, .ref tr, .ref pl, .ref fl, .ref rg, .int 1, .int 0, .int 0]))] := hD
  obtain rfl : r_4 = (-1) := hw_5
  exact W.iret (v := (-1)) hx hb hr (fun t ht hW => ⟨⟨(-1), (), rfl, rfl, trivial⟩, hS.F ht⟩) hS.2.2 dX11_turned_13
set_option maxHeartbeats 4000000 in
set_option maxRecDepth 100000 in
theorem p_gas (l : Launch) (dC : Nat → ClassId) (dI : Nat → Nat → Nat) (n0 sz : Nat) (x0 : Nat) (rd : Nat) (dr : Nat) (bk : Nat) (st : Nat) (nw : Nat) (tr : Nat) (pl : Nat) (fl : Nat) (rg : Nat) (bk_tail : Nat) (bk_head : Nat) (bk_hinder : Nat) (bk_size : Nat) (bk_walk : Nat) (bk_draught : Nat) (bk_doorIn : Nat) (bk_fanIn : Nat) (bk_faceIn : Nat) (gr : Nat) (w : Int32) : Met l yX11_gas (wM yX11_gas cX11_gas 2 (some .int)) ({ frames := 1, cells := 0, slots := 0, locals := 21 }) (va_Pc [.ref x0, .int w] (fun U => U.heap.size = sz ∧ n0 ≤ sz ∧ GW n0 U ∧ va_P (dC, dI) classes [(x0, .inr (11, [.ref rd, .ref dr, .ref bk, .ref st, .ref nw, .ref tr, .ref pl, .ref fl, .ref rg, .int 0, .int 0, .int 0])), (bk, .inr (0, [.int 0, .ref bk_tail, .ref bk_head, .ref bk_hinder, .ref bk_size, .ref bk_walk, .ref bk_draught, .ref bk_doorIn, .ref bk_fanIn, .ref bk_faceIn, .int 0, .int (-1), .ref gr]))] U.heap ∧ va_K (dC, dI) classes [] U ∧ va_D (fun q => n0 ≤ q) [(x0, .inr (11, [.ref rd, .ref dr, .ref bk, .ref st, .ref nw, .ref tr, .ref pl, .ref fl, .ref rg, .int 0, .int 0, .int 0])), (bk, .inr (0, [.int 0, .ref bk_tail, .ref bk_head, .ref bk_hinder, .ref bk_size, .ref bk_walk, .ref bk_draught, .ref bk_doorIn, .ref bk_fanIn, .ref bk_faceIn, .int 0, .int (-1), .ref gr]))])) (va_Qi (fun (r : Int32) (_ : Unit) => r = (-1)) (fun (_ : Unit) (_ : State) => True) (va_A [(x0, .inr (11, [.ref rd, .ref dr, .ref bk, .ref st, .ref nw, .ref tr, .ref pl, .ref fl, .ref rg, .int 0, .int 0, .int 0])), (bk, .inr (0, [.int 0, .ref bk_tail, .ref bk_head, .ref bk_hinder, .ref bk_size, .ref bk_walk, .ref bk_draught, .ref bk_doorIn, .ref bk_fanIn, .ref bk_faceIn, .int 0, .int (-1), .ref gr]))] sz)) 0 0 (va_A [(x0, .inr (11, [.ref rd, .ref dr, .ref bk, .ref st, .ref nw, .ref tr, .ref pl, .ref fl, .ref rg, .int 0, .int 0, .int 0])), (bk, .inr (0, [.int 0, .ref bk_tail, .ref bk_head, .ref bk_hinder, .ref bk_size, .ref bk_walk, .ref bk_draught, .ref bk_doorIn, .ref bk_fanIn, .ref bk_faceIn, .int 0, .int (-1), .ref gr]))] sz) := by
  refine Met.ofW (cc := cX11_gas) (maxL := 2) (ret := (some .int)) (by decide) rfl ?_
  intro p e s m args below meth c s₁ B hml hv
  obtain ⟨rfl, hsz, hn0, hG, hP, hK, hD0⟩ := hv
  have hx := B.exec
  have hb := B.bytes
  have hr := B.returns
  have hts := atoms_spec (ws := wM yX11_gas cX11_gas 2 (some .int)) B.pre
  have hown : s.vm.findClass RX11 = some m.cls := findClass_of_methodNamed B.named
  have hlocks := B.notSynchronized
  subst hsz
  have hD := hD0.self (sz := s.heap.size)
  have hA0 := vA_n0 hD0 hn0
  generalize hAe : va_A [(x0, .inr (11, [.ref rd, .ref dr, .ref bk, .ref st, .ref nw, .ref tr, .ref pl, .ref fl, .ref rg, .int 0, .int 0, .int 0])), (bk, .inr (0, [.int 0, .ref bk_tail, .ref bk_head, .ref bk_hinder, .ref bk_size, .ref bk_walk, .ref bk_draught, .ref bk_doorIn, .ref bk_fanIn, .ref bk_faceIn, .int 0, .int (-1), .ref gr]))] s.heap.size = A at hD hA0 ⊢
  have hA : ∀ q : Nat, s.heap.size ≤ q → A q := fun q h => by rw [← hAe]; exact Or.inr h
  have hS : va_S A s.heap s.heap [] := va_S.rf
  have hl := lv_entry ([.ref x0, .int w]) (n := 2) (Nat.le_of_ble_eq_true rfl)
  rw [lg_entry_eq]
  generalize (lg_sl ([.ref x0, .int w]) ++ List.replicate (2 - (lg_sl ([.ref x0, .int w])).length) Slot.unset).toArray = ls at hl ⊢
  have hl : lv_has ls 2 [(0, .ref x0), (1, .int w)] := hl
  refine lv_aload_n hx hb dX11_gas_0 rfl (lv_at hl 0 rfl) ?_
  refine lv_iload_n hx hb dX11_gas_1 rfl (lv_at hl 1 rfl) ?_
  have hPc := hP.sub (ws' := [(x0, .inr (11, [.ref rd, .ref dr, .ref bk, .ref st, .ref nw, .ref tr, .ref pl, .ref fl, .ref rg, .int 0, .int 0, .int 0])), (bk, .inr (0, [.int 0, .ref bk_tail, .ref bk_head, .ref bk_hinder, .ref bk_size, .ref bk_walk, .ref bk_draught, .ref bk_doorIn, .ref bk_fanIn, .ref bk_faceIn, .int 0, .int (-1), .ref gr]))]) [0, 1] rfl
  have hDc := hD.sub (ws' := [(x0, .inr (11, [.ref rd, .ref dr, .ref bk, .ref st, .ref nw, .ref tr, .ref pl, .ref fl, .ref rg, .int 0, .int 0, .int 0])), (bk, .inr (0, [.int 0, .ref bk_tail, .ref bk_head, .ref bk_hinder, .ref bk_size, .ref bk_walk, .ref bk_draught, .ref bk_doorIn, .ref bk_fanIn, .ref bk_faceIn, .int 0, .int (-1), .ref gr]))]) [0, 1] (by decide) rfl
  have hKc := hK.sub (tys' := []) [] rfl
  have hFc := va_free (wc := [(x0, .inr (11, [.ref rd, .ref dr, .ref bk, .ref st, .ref nw, .ref tr, .ref pl, .ref fl, .ref rg, .int 0, .int 0, .int 0])), (bk, .inr (0, [.int 0, .ref bk_tail, .ref bk_head, .ref bk_hinder, .ref bk_size, .ref bk_walk, .ref bk_draught, .ref bk_doorIn, .ref bk_fanIn, .ref bk_faceIn, .int 0, .int (-1), .ref gr]))]) hD hS hA [0, 1] rfl
  refine va_calli (va_runV (As := [.int w]) (rest := []) ⟨hx, hb, hml, hown, hts⟩ (c_isWay l dC dI n0 s.heap.size x0 rd dr bk st nw tr pl fl rg 0 0 0 bk_tail bk_head bk_hinder bk_size bk_walk bk_draught bk_doorIn bk_fanIn bk_faceIn gr w ) (cwV 1 hts (gV (fun w h => wM_c h) wd_950 wd_947 wd_949 wd_25 wd_114) rfl rfl rfl (by decide +kernel) ⟨Nat.le_of_ble_eq_true rfl, Nat.le_of_ble_eq_true rfl⟩) ⟨fun a U g mk q => by obtain ⟨q0, q1, q2, qG, qP, qK, qD⟩ := q; exact ⟨q0, q1, q2, GW.blind qG, qP, va_K.moved (u := U) (U := U.calling g mk a) (Vm.Alike.refl U.vm) qK, qD⟩, va_recv hKc hPc (ci := 11) (q0 := 0) rfl rfl, fun U hU hW => ⟨rfl, by rw [hU], Nat.le_trans hn0 hS.1, GW.go hW hU hG (fun q hq hA9 => hS.2.1 q hq (fun h => hA9 (hA0 q h))), by rw [hU]; exact hPc, va_K.moved hW.alike hKc, hDc.weaken (fun _ _ _ h => hA0 _ h)⟩⟩ rfl rfl hl.1 rfl (lv_room (Nat.le_of_ble_eq_true rfl)) dX11_gas_2 ⟨Nat.le_of_ble_eq_true rfl, Nat.le_of_ble_eq_true rfl⟩) hS (fun q _ h => hFc q h) hFc (fun r_1 u t H1 locs ht hvm hw_2 hB hz1 hk1 hS => ?_)
  obtain ⟨hP1, hK1, hD1⟩ := hB
  rw [ht] at hP1
  obtain ⟨hP, hD⟩ := va_join (wr := []) (w1 := [(x0, .inr (11, [.ref rd, .ref dr, .ref bk, .ref st, .ref nw, .ref tr, .ref pl, .ref fl, .ref rg, .int 0, .int 0, .int 0])), (bk, .inr (0, [.int 0, .ref bk_tail, .ref bk_head, .ref bk_hinder, .ref bk_size, .ref bk_walk, .ref bk_draught, .ref bk_doorIn, .ref bk_fanIn, .ref bk_faceIn, .int 0, .int (-1), .ref gr]))]) hP hD [0, 1] [] rfl rfl (by decide) (by decide) hk1 hFc hP1 hD1
  generalize H1 = H at hP hS ⊢
  have hP : va_P (dC, dI) classes [(x0, .inr (11, [.ref rd, .ref dr, .ref bk, .ref st, .ref nw, .ref tr, .ref pl, .ref fl, .ref rg, .int 0, .int 0, .int 0])), (bk, .inr (0, [.int 0, .ref bk_tail, .ref bk_head, .ref bk_hinder, .ref bk_size, .ref bk_walk, .ref bk_draught, .ref bk_doorIn, .ref bk_fanIn, .ref bk_faceIn, .int 0, .int (-1), .ref gr]))] H := hP
  have hD : va_D A [(x0, .inr (11, [.ref rd, .ref dr, .ref bk, .ref st, .ref nw, .ref tr, .ref pl, .ref fl, .ref rg, .int 0, .int 0, .int 0])), (bk, .inr (0, [.int 0, .ref bk_tail, .ref bk_head, .ref bk_hinder, .ref bk_size, .ref bk_walk, .ref bk_draught, .ref bk_doorIn, .ref bk_fanIn, .ref bk_faceIn, .int 0, .int (-1), .ref gr]))] := hD
  obtain rfl : r_1 = 0 := hw_2
  refine lv_if_ne (tgt := 14) hx hb dX11_gas_5 (by decide) (fun c_3 => ?_) (fun c_3 => ?_)
  · exact absurd c_3 (by decide)
  refine lv_aload_n hx hb dX11_gas_8 rfl (lv_at hl 0 rfl) ?_
  refine lv_iconst (v := 1) hx hb dX11_gas_9 (by decide) ?_
  have hPc := hP.sub (ws' := [(x0, .inr (11, [.ref rd, .ref dr, .ref bk, .ref st, .ref nw, .ref tr, .ref pl, .ref fl, .ref rg, .int 0, .int 0, .int 0]))]) [0] rfl
  have hDc := hD.sub (ws' := [(x0, .inr (11, [.ref rd, .ref dr, .ref bk, .ref st, .ref nw, .ref tr, .ref pl, .ref fl, .ref rg, .int 0, .int 0, .int 0]))]) [0] (by decide) rfl
  have hKc := hK.sub (tys' := []) [] rfl
  have hFc := va_free (wc := [(x0, .inr (11, [.ref rd, .ref dr, .ref bk, .ref st, .ref nw, .ref tr, .ref pl, .ref fl, .ref rg, .int 0, .int 0, .int 0]))]) hD hS hA [0] rfl
  refine va_calli (va_runV (As := [.int 1]) (rest := []) ⟨hx, hb, hml, hown, hts⟩ (c_refuse l dC dI n0 H.size x0 rd dr bk st nw tr pl fl rg 0 0 0 1 ) (cwV 1 hts (gV (fun w h => wM_c h) wd_722 wd_719 wd_721 wd_0 wd_114) rfl rfl rfl (by decide +kernel) ⟨Nat.le_of_ble_eq_true rfl, Nat.le_of_ble_eq_true rfl⟩) ⟨fun a U g mk q => by obtain ⟨q0, q1, q2, qG, qP, qK, qD⟩ := q; exact ⟨q0, q1, q2, GW.blind qG, qP, va_K.moved (u := U) (U := U.calling g mk a) (Vm.Alike.refl U.vm) qK, qD⟩, va_recv hKc hPc (ci := 11) (q0 := 0) rfl rfl, fun U hU hW => ⟨rfl, by rw [hU], Nat.le_trans hn0 hS.1, GW.go hW hU hG (fun q hq hA9 => hS.2.1 q hq (fun h => hA9 (hA0 q h))), by rw [hU]; exact hPc, va_K.moved hW.alike hKc, hDc.weaken (fun _ _ _ h => hA0 _ h)⟩⟩ rfl rfl hl.1 rfl (lv_room (Nat.le_of_ble_eq_true rfl)) dX11_gas_10 ⟨Nat.le_of_ble_eq_true rfl, Nat.le_of_ble_eq_true rfl⟩) hS (fun q _ h => hFc q h) hFc (fun r_4 u t H1 locs ht hvm hw_5 hB hz1 hk1 hS => ?_)
  obtain ⟨hP1, hK1, hD1⟩ := hB
  rw [ht] at hP1
  obtain ⟨hP, hD⟩ := va_join (wr := [(bk, .inr (0, [.int 0, .ref bk_tail, .ref bk_head, .ref bk_hinder, .ref bk_size, .ref bk_walk, .ref bk_draught, .ref bk_doorIn, .ref bk_fanIn, .ref bk_faceIn, .int 0, .int (-1), .ref gr]))]) (w1 := [(x0, .inr (11, [.ref rd, .ref dr, .ref bk, .ref st, .ref nw, .ref tr, .ref pl, .ref fl, .ref rg, .int 1, .int 0, .int 0]))]) hP hD [0] [1] rfl rfl (by decide) (by decide) hk1 hFc hP1 hD1
  generalize H1 = H at hP hS ⊢
  have hP : va_P (dC, dI) classes [(bk, .inr (0, [.int 0, .ref bk_tail, .ref bk_head, .ref bk_hinder, .ref bk_size, .ref bk_walk, .ref bk_draught, .ref bk_doorIn, .ref bk_fanIn, .ref bk_faceIn, .int 0, .int (-1), .ref gr])), (x0, .inr (11, [.ref rd, .ref dr, .ref bk, .ref st, .ref nw, .ref tr, .ref pl, .ref fl, .ref rg, .int 1, .int 0, .int 0]))] H := hP
  have hD : va_D A [(bk, .inr (0, [.int 0, .ref bk_tail, .ref bk_head, .ref bk_hinder, .ref bk_size, .ref bk_walk, .ref bk_draught, .ref bk_doorIn, .ref bk_fanIn, .ref bk_faceIn, .int 0, .int (-1), .ref gr])), (x0, .inr (11, [.ref rd, .ref dr, .ref bk, .ref st, .ref nw, .ref tr, .ref pl, .ref fl, .ref rg, .int 1, .int 0, .int 0]))] := hD
  obtain rfl : r_4 = (-1) := hw_5
  exact W.iret (v := (-1)) hx hb hr (fun t ht hW => ⟨⟨(-1), (), rfl, rfl, trivial⟩, hS.F ht⟩) hS.2.2 dX11_gas_13
set_option maxHeartbeats 4000000 in
set_option maxRecDepth 100000 in
theorem p_thick (l : Launch) (dC : Nat → ClassId) (dI : Nat → Nat → Nat) (n0 sz : Nat) (x0 : Nat) (rd : Nat) (dr : Nat) (bk : Nat) (st : Nat) (nw : Nat) (tr : Nat) (pl : Nat) (fl : Nat) (rg : Nat) (bk_tail : Nat) (bk_head : Nat) (bk_hinder : Nat) (bk_size : Nat) (bk_walk : Nat) (bk_draught : Nat) (bk_doorIn : Nat) (bk_fanIn : Nat) (bk_faceIn : Nat) (gr : Nat) (w : Int32) : Met l yX11_thick (wM yX11_thick cX11_thick 2 (some .int)) ({ frames := 1, cells := 0, slots := 0, locals := 21 }) (va_Pc [.ref x0, .int w] (fun U => U.heap.size = sz ∧ n0 ≤ sz ∧ GW n0 U ∧ va_P (dC, dI) classes [(x0, .inr (11, [.ref rd, .ref dr, .ref bk, .ref st, .ref nw, .ref tr, .ref pl, .ref fl, .ref rg, .int 0, .int 0, .int 0])), (bk, .inr (0, [.int 0, .ref bk_tail, .ref bk_head, .ref bk_hinder, .ref bk_size, .ref bk_walk, .ref bk_draught, .ref bk_doorIn, .ref bk_fanIn, .ref bk_faceIn, .int 0, .int (-1), .ref gr]))] U.heap ∧ va_K (dC, dI) classes [] U ∧ va_D (fun q => n0 ≤ q) [(x0, .inr (11, [.ref rd, .ref dr, .ref bk, .ref st, .ref nw, .ref tr, .ref pl, .ref fl, .ref rg, .int 0, .int 0, .int 0])), (bk, .inr (0, [.int 0, .ref bk_tail, .ref bk_head, .ref bk_hinder, .ref bk_size, .ref bk_walk, .ref bk_draught, .ref bk_doorIn, .ref bk_fanIn, .ref bk_faceIn, .int 0, .int (-1), .ref gr]))])) (va_Qi (fun (r : Int32) (_ : Unit) => r = (-1)) (fun (_ : Unit) (_ : State) => True) (va_A [(x0, .inr (11, [.ref rd, .ref dr, .ref bk, .ref st, .ref nw, .ref tr, .ref pl, .ref fl, .ref rg, .int 0, .int 0, .int 0])), (bk, .inr (0, [.int 0, .ref bk_tail, .ref bk_head, .ref bk_hinder, .ref bk_size, .ref bk_walk, .ref bk_draught, .ref bk_doorIn, .ref bk_fanIn, .ref bk_faceIn, .int 0, .int (-1), .ref gr]))] sz)) 0 0 (va_A [(x0, .inr (11, [.ref rd, .ref dr, .ref bk, .ref st, .ref nw, .ref tr, .ref pl, .ref fl, .ref rg, .int 0, .int 0, .int 0])), (bk, .inr (0, [.int 0, .ref bk_tail, .ref bk_head, .ref bk_hinder, .ref bk_size, .ref bk_walk, .ref bk_draught, .ref bk_doorIn, .ref bk_fanIn, .ref bk_faceIn, .int 0, .int (-1), .ref gr]))] sz) := by
  refine Met.ofW (cc := cX11_thick) (maxL := 2) (ret := (some .int)) (by decide) rfl ?_
  intro p e s m args below meth c s₁ B hml hv
  obtain ⟨rfl, hsz, hn0, hG, hP, hK, hD0⟩ := hv
  have hx := B.exec
  have hb := B.bytes
  have hr := B.returns
  have hts := atoms_spec (ws := wM yX11_thick cX11_thick 2 (some .int)) B.pre
  have hown : s.vm.findClass RX11 = some m.cls := findClass_of_methodNamed B.named
  have hlocks := B.notSynchronized
  subst hsz
  have hD := hD0.self (sz := s.heap.size)
  have hA0 := vA_n0 hD0 hn0
  generalize hAe : va_A [(x0, .inr (11, [.ref rd, .ref dr, .ref bk, .ref st, .ref nw, .ref tr, .ref pl, .ref fl, .ref rg, .int 0, .int 0, .int 0])), (bk, .inr (0, [.int 0, .ref bk_tail, .ref bk_head, .ref bk_hinder, .ref bk_size, .ref bk_walk, .ref bk_draught, .ref bk_doorIn, .ref bk_fanIn, .ref bk_faceIn, .int 0, .int (-1), .ref gr]))] s.heap.size = A at hD hA0 ⊢
  have hA : ∀ q : Nat, s.heap.size ≤ q → A q := fun q h => by rw [← hAe]; exact Or.inr h
  have hS : va_S A s.heap s.heap [] := va_S.rf
  have hl := lv_entry ([.ref x0, .int w]) (n := 2) (Nat.le_of_ble_eq_true rfl)
  rw [lg_entry_eq]
  generalize (lg_sl ([.ref x0, .int w]) ++ List.replicate (2 - (lg_sl ([.ref x0, .int w])).length) Slot.unset).toArray = ls at hl ⊢
  have hl : lv_has ls 2 [(0, .ref x0), (1, .int w)] := hl
  refine lv_aload_n hx hb dX11_thick_0 rfl (lv_at hl 0 rfl) ?_
  refine lv_iload_n hx hb dX11_thick_1 rfl (lv_at hl 1 rfl) ?_
  have hPc := hP.sub (ws' := [(x0, .inr (11, [.ref rd, .ref dr, .ref bk, .ref st, .ref nw, .ref tr, .ref pl, .ref fl, .ref rg, .int 0, .int 0, .int 0])), (bk, .inr (0, [.int 0, .ref bk_tail, .ref bk_head, .ref bk_hinder, .ref bk_size, .ref bk_walk, .ref bk_draught, .ref bk_doorIn, .ref bk_fanIn, .ref bk_faceIn, .int 0, .int (-1), .ref gr]))]) [0, 1] rfl
  have hDc := hD.sub (ws' := [(x0, .inr (11, [.ref rd, .ref dr, .ref bk, .ref st, .ref nw, .ref tr, .ref pl, .ref fl, .ref rg, .int 0, .int 0, .int 0])), (bk, .inr (0, [.int 0, .ref bk_tail, .ref bk_head, .ref bk_hinder, .ref bk_size, .ref bk_walk, .ref bk_draught, .ref bk_doorIn, .ref bk_fanIn, .ref bk_faceIn, .int 0, .int (-1), .ref gr]))]) [0, 1] (by decide) rfl
  have hKc := hK.sub (tys' := []) [] rfl
  have hFc := va_free (wc := [(x0, .inr (11, [.ref rd, .ref dr, .ref bk, .ref st, .ref nw, .ref tr, .ref pl, .ref fl, .ref rg, .int 0, .int 0, .int 0])), (bk, .inr (0, [.int 0, .ref bk_tail, .ref bk_head, .ref bk_hinder, .ref bk_size, .ref bk_walk, .ref bk_draught, .ref bk_doorIn, .ref bk_fanIn, .ref bk_faceIn, .int 0, .int (-1), .ref gr]))]) hD hS hA [0, 1] rfl
  refine va_calli (va_runV (As := [.int w]) (rest := []) ⟨hx, hb, hml, hown, hts⟩ (c_isWay l dC dI n0 s.heap.size x0 rd dr bk st nw tr pl fl rg 0 0 0 bk_tail bk_head bk_hinder bk_size bk_walk bk_draught bk_doorIn bk_fanIn bk_faceIn gr w ) (cwV 1 hts (gV (fun w h => wM_c h) wd_950 wd_947 wd_949 wd_25 wd_114) rfl rfl rfl (by decide +kernel) ⟨Nat.le_of_ble_eq_true rfl, Nat.le_of_ble_eq_true rfl⟩) ⟨fun a U g mk q => by obtain ⟨q0, q1, q2, qG, qP, qK, qD⟩ := q; exact ⟨q0, q1, q2, GW.blind qG, qP, va_K.moved (u := U) (U := U.calling g mk a) (Vm.Alike.refl U.vm) qK, qD⟩, va_recv hKc hPc (ci := 11) (q0 := 0) rfl rfl, fun U hU hW => ⟨rfl, by rw [hU], Nat.le_trans hn0 hS.1, GW.go hW hU hG (fun q hq hA9 => hS.2.1 q hq (fun h => hA9 (hA0 q h))), by rw [hU]; exact hPc, va_K.moved hW.alike hKc, hDc.weaken (fun _ _ _ h => hA0 _ h)⟩⟩ rfl rfl hl.1 rfl (lv_room (Nat.le_of_ble_eq_true rfl)) dX11_thick_2 ⟨Nat.le_of_ble_eq_true rfl, Nat.le_of_ble_eq_true rfl⟩) hS (fun q _ h => hFc q h) hFc (fun r_1 u t H1 locs ht hvm hw_2 hB hz1 hk1 hS => ?_)
  obtain ⟨hP1, hK1, hD1⟩ := hB
  rw [ht] at hP1
  obtain ⟨hP, hD⟩ := va_join (wr := []) (w1 := [(x0, .inr (11, [.ref rd, .ref dr, .ref bk, .ref st, .ref nw, .ref tr, .ref pl, .ref fl, .ref rg, .int 0, .int 0, .int 0])), (bk, .inr (0, [.int 0, .ref bk_tail, .ref bk_head, .ref bk_hinder, .ref bk_size, .ref bk_walk, .ref bk_draught, .ref bk_doorIn, .ref bk_fanIn, .ref bk_faceIn, .int 0, .int (-1), .ref gr]))]) hP hD [0, 1] [] rfl rfl (by decide) (by decide) hk1 hFc hP1 hD1
  generalize H1 = H at hP hS ⊢
  have hP : va_P (dC, dI) classes [(x0, .inr (11, [.ref rd, .ref dr, .ref bk, .ref st, .ref nw, .ref tr, .ref pl, .ref fl, .ref rg, .int 0, .int 0, .int 0])), (bk, .inr (0, [.int 0, .ref bk_tail, .ref bk_head, .ref bk_hinder, .ref bk_size, .ref bk_walk, .ref bk_draught, .ref bk_doorIn, .ref bk_fanIn, .ref bk_faceIn, .int 0, .int (-1), .ref gr]))] H := hP
  have hD : va_D A [(x0, .inr (11, [.ref rd, .ref dr, .ref bk, .ref st, .ref nw, .ref tr, .ref pl, .ref fl, .ref rg, .int 0, .int 0, .int 0])), (bk, .inr (0, [.int 0, .ref bk_tail, .ref bk_head, .ref bk_hinder, .ref bk_size, .ref bk_walk, .ref bk_draught, .ref bk_doorIn, .ref bk_fanIn, .ref bk_faceIn, .int 0, .int (-1), .ref gr]))] := hD
  obtain rfl : r_1 = 0 := hw_2
  refine lv_if_ne (tgt := 14) hx hb dX11_thick_5 (by decide) (fun c_3 => ?_) (fun c_3 => ?_)
  · exact absurd c_3 (by decide)
  refine lv_aload_n hx hb dX11_thick_8 rfl (lv_at hl 0 rfl) ?_
  refine lv_iconst (v := 1) hx hb dX11_thick_9 (by decide) ?_
  have hPc := hP.sub (ws' := [(x0, .inr (11, [.ref rd, .ref dr, .ref bk, .ref st, .ref nw, .ref tr, .ref pl, .ref fl, .ref rg, .int 0, .int 0, .int 0]))]) [0] rfl
  have hDc := hD.sub (ws' := [(x0, .inr (11, [.ref rd, .ref dr, .ref bk, .ref st, .ref nw, .ref tr, .ref pl, .ref fl, .ref rg, .int 0, .int 0, .int 0]))]) [0] (by decide) rfl
  have hKc := hK.sub (tys' := []) [] rfl
  have hFc := va_free (wc := [(x0, .inr (11, [.ref rd, .ref dr, .ref bk, .ref st, .ref nw, .ref tr, .ref pl, .ref fl, .ref rg, .int 0, .int 0, .int 0]))]) hD hS hA [0] rfl
  refine va_calli (va_runV (As := [.int 1]) (rest := []) ⟨hx, hb, hml, hown, hts⟩ (c_refuse l dC dI n0 H.size x0 rd dr bk st nw tr pl fl rg 0 0 0 1 ) (cwV 1 hts (gV (fun w h => wM_c h) wd_722 wd_719 wd_721 wd_0 wd_114) rfl rfl rfl (by decide +kernel) ⟨Nat.le_of_ble_eq_true rfl, Nat.le_of_ble_eq_true rfl⟩) ⟨fun a U g mk q => by obtain ⟨q0, q1, q2, qG, qP, qK, qD⟩ := q; exact ⟨q0, q1, q2, GW.blind qG, qP, va_K.moved (u := U) (U := U.calling g mk a) (Vm.Alike.refl U.vm) qK, qD⟩, va_recv hKc hPc (ci := 11) (q0 := 0) rfl rfl, fun U hU hW => ⟨rfl, by rw [hU], Nat.le_trans hn0 hS.1, GW.go hW hU hG (fun q hq hA9 => hS.2.1 q hq (fun h => hA9 (hA0 q h))), by rw [hU]; exact hPc, va_K.moved hW.alike hKc, hDc.weaken (fun _ _ _ h => hA0 _ h)⟩⟩ rfl rfl hl.1 rfl (lv_room (Nat.le_of_ble_eq_true rfl)) dX11_thick_10 ⟨Nat.le_of_ble_eq_true rfl, Nat.le_of_ble_eq_true rfl⟩) hS (fun q _ h => hFc q h) hFc (fun r_4 u t H1 locs ht hvm hw_5 hB hz1 hk1 hS => ?_)
  obtain ⟨hP1, hK1, hD1⟩ := hB
  rw [ht] at hP1
  obtain ⟨hP, hD⟩ := va_join (wr := [(bk, .inr (0, [.int 0, .ref bk_tail, .ref bk_head, .ref bk_hinder, .ref bk_size, .ref bk_walk, .ref bk_draught, .ref bk_doorIn, .ref bk_fanIn, .ref bk_faceIn, .int 0, .int (-1), .ref gr]))]) (w1 := [(x0, .inr (11, [.ref rd, .ref dr, .ref bk, .ref st, .ref nw, .ref tr, .ref pl, .ref fl, .ref rg, .int 1, .int 0, .int 0]))]) hP hD [0] [1] rfl rfl (by decide) (by decide) hk1 hFc hP1 hD1
  generalize H1 = H at hP hS ⊢
  have hP : va_P (dC, dI) classes [(bk, .inr (0, [.int 0, .ref bk_tail, .ref bk_head, .ref bk_hinder, .ref bk_size, .ref bk_walk, .ref bk_draught, .ref bk_doorIn, .ref bk_fanIn, .ref bk_faceIn, .int 0, .int (-1), .ref gr])), (x0, .inr (11, [.ref rd, .ref dr, .ref bk, .ref st, .ref nw, .ref tr, .ref pl, .ref fl, .ref rg, .int 1, .int 0, .int 0]))] H := hP
  have hD : va_D A [(bk, .inr (0, [.int 0, .ref bk_tail, .ref bk_head, .ref bk_hinder, .ref bk_size, .ref bk_walk, .ref bk_draught, .ref bk_doorIn, .ref bk_fanIn, .ref bk_faceIn, .int 0, .int (-1), .ref gr])), (x0, .inr (11, [.ref rd, .ref dr, .ref bk, .ref st, .ref nw, .ref tr, .ref pl, .ref fl, .ref rg, .int 1, .int 0, .int 0]))] := hD
  obtain rfl : r_4 = (-1) := hw_5
  exact W.iret (v := (-1)) hx hb hr (fun t ht hW => ⟨⟨(-1), (), rfl, rfl, trivial⟩, hS.F ht⟩) hS.2.2 dX11_thick_13
set_option maxHeartbeats 4000000 in
set_option maxRecDepth 100000 in
theorem p_over (l : Launch) (dC : Nat → ClassId) (dI : Nat → Nat → Nat) (n0 sz : Nat) (x0 : Nat) (rd : Nat) (dr : Nat) (bk : Nat) (st : Nat) (nw : Nat) (tr : Nat) (pl : Nat) (fl : Nat) (rg : Nat) (bk_tail : Nat) (bk_head : Nat) (bk_hinder : Nat) (bk_size : Nat) (bk_walk : Nat) (bk_draught : Nat) (bk_doorIn : Nat) (bk_fanIn : Nat) (bk_faceIn : Nat) (gr : Nat) : Met l yX11_over (wM yX11_over cX11_over 1 (some .int)) ({ frames := 1, cells := 0, slots := 0, locals := 21 }) (va_Pc [.ref x0] (fun U => U.heap.size = sz ∧ n0 ≤ sz ∧ GW n0 U ∧ va_P (dC, dI) classes [(x0, .inr (11, [.ref rd, .ref dr, .ref bk, .ref st, .ref nw, .ref tr, .ref pl, .ref fl, .ref rg, .int 0, .int 0, .int 0])), (bk, .inr (0, [.int 0, .ref bk_tail, .ref bk_head, .ref bk_hinder, .ref bk_size, .ref bk_walk, .ref bk_draught, .ref bk_doorIn, .ref bk_fanIn, .ref bk_faceIn, .int 0, .int (-1), .ref gr]))] U.heap ∧ va_K (dC, dI) classes [] U ∧ va_D (fun q => n0 ≤ q) [(x0, .inr (11, [.ref rd, .ref dr, .ref bk, .ref st, .ref nw, .ref tr, .ref pl, .ref fl, .ref rg, .int 0, .int 0, .int 0])), (bk, .inr (0, [.int 0, .ref bk_tail, .ref bk_head, .ref bk_hinder, .ref bk_size, .ref bk_walk, .ref bk_draught, .ref bk_doorIn, .ref bk_fanIn, .ref bk_faceIn, .int 0, .int (-1), .ref gr]))])) (va_Qi (fun (r : Int32) (_ : Unit) => r = (-1)) (fun (_ : Unit) (_ : State) => True) (va_A [(x0, .inr (11, [.ref rd, .ref dr, .ref bk, .ref st, .ref nw, .ref tr, .ref pl, .ref fl, .ref rg, .int 0, .int 0, .int 0])), (bk, .inr (0, [.int 0, .ref bk_tail, .ref bk_head, .ref bk_hinder, .ref bk_size, .ref bk_walk, .ref bk_draught, .ref bk_doorIn, .ref bk_fanIn, .ref bk_faceIn, .int 0, .int (-1), .ref gr]))] sz)) 0 0 (va_A [(x0, .inr (11, [.ref rd, .ref dr, .ref bk, .ref st, .ref nw, .ref tr, .ref pl, .ref fl, .ref rg, .int 0, .int 0, .int 0])), (bk, .inr (0, [.int 0, .ref bk_tail, .ref bk_head, .ref bk_hinder, .ref bk_size, .ref bk_walk, .ref bk_draught, .ref bk_doorIn, .ref bk_fanIn, .ref bk_faceIn, .int 0, .int (-1), .ref gr]))] sz) := by
  refine Met.ofW (cc := cX11_over) (maxL := 1) (ret := (some .int)) (by decide) rfl ?_
  intro p e s m args below meth c s₁ B hml hv
  obtain ⟨rfl, hsz, hn0, hG, hP, hK, hD0⟩ := hv
  have hx := B.exec
  have hb := B.bytes
  have hr := B.returns
  have hts := atoms_spec (ws := wM yX11_over cX11_over 1 (some .int)) B.pre
  have hown : s.vm.findClass RX11 = some m.cls := findClass_of_methodNamed B.named
  have hlocks := B.notSynchronized
  subst hsz
  have hD := hD0.self (sz := s.heap.size)
  have hA0 := vA_n0 hD0 hn0
  generalize hAe : va_A [(x0, .inr (11, [.ref rd, .ref dr, .ref bk, .ref st, .ref nw, .ref tr, .ref pl, .ref fl, .ref rg, .int 0, .int 0, .int 0])), (bk, .inr (0, [.int 0, .ref bk_tail, .ref bk_head, .ref bk_hinder, .ref bk_size, .ref bk_walk, .ref bk_draught, .ref bk_doorIn, .ref bk_fanIn, .ref bk_faceIn, .int 0, .int (-1), .ref gr]))] s.heap.size = A at hD hA0 ⊢
  have hA : ∀ q : Nat, s.heap.size ≤ q → A q := fun q h => by rw [← hAe]; exact Or.inr h
  have hS : va_S A s.heap s.heap [] := va_S.rf
  have hl := lv_entry ([.ref x0]) (n := 1) (Nat.le_of_ble_eq_true rfl)
  rw [lg_entry_eq]
  generalize (lg_sl ([.ref x0]) ++ List.replicate (1 - (lg_sl ([.ref x0])).length) Slot.unset).toArray = ls at hl ⊢
  have hl : lv_has ls 1 [(0, .ref x0)] := hl
  refine lv_aload_n hx hb dX11_over_0 rfl (lv_at hl 0 rfl) ?_
  have hPc := hP.sub (ws' := [(x0, .inr (11, [.ref rd, .ref dr, .ref bk, .ref st, .ref nw, .ref tr, .ref pl, .ref fl, .ref rg, .int 0, .int 0, .int 0])), (bk, .inr (0, [.int 0, .ref bk_tail, .ref bk_head, .ref bk_hinder, .ref bk_size, .ref bk_walk, .ref bk_draught, .ref bk_doorIn, .ref bk_fanIn, .ref bk_faceIn, .int 0, .int (-1), .ref gr]))]) [0, 1] rfl
  have hDc := hD.sub (ws' := [(x0, .inr (11, [.ref rd, .ref dr, .ref bk, .ref st, .ref nw, .ref tr, .ref pl, .ref fl, .ref rg, .int 0, .int 0, .int 0])), (bk, .inr (0, [.int 0, .ref bk_tail, .ref bk_head, .ref bk_hinder, .ref bk_size, .ref bk_walk, .ref bk_draught, .ref bk_doorIn, .ref bk_fanIn, .ref bk_faceIn, .int 0, .int (-1), .ref gr]))]) [0, 1] (by decide) rfl
  have hKc := hK.sub (tys' := []) [] rfl
  have hFc := va_free (wc := [(x0, .inr (11, [.ref rd, .ref dr, .ref bk, .ref st, .ref nw, .ref tr, .ref pl, .ref fl, .ref rg, .int 0, .int 0, .int 0])), (bk, .inr (0, [.int 0, .ref bk_tail, .ref bk_head, .ref bk_hinder, .ref bk_size, .ref bk_walk, .ref bk_draught, .ref bk_doorIn, .ref bk_fanIn, .ref bk_faceIn, .int 0, .int (-1), .ref gr]))]) hD hS hA [0, 1] rfl
  refine va_calli (va_runV (As := []) (rest := []) ⟨hx, hb, hml, hown, hts⟩ (c_isBooked l dC dI n0 s.heap.size x0 rd dr bk st nw tr pl fl rg 0 0 0 bk_tail bk_head bk_hinder bk_size bk_walk bk_draught bk_doorIn bk_fanIn bk_faceIn gr ) (cwV 0 hts (gV (fun w h => wM_c h) wd_1068 wd_1065 wd_1067 wd_39 wd_114) rfl rfl rfl (by decide +kernel) ⟨Nat.le_of_ble_eq_true rfl, Nat.le_of_ble_eq_true rfl⟩) ⟨fun a U g mk q => by obtain ⟨q0, q1, q2, qG, qP, qK, qD⟩ := q; exact ⟨q0, q1, q2, GW.blind qG, qP, va_K.moved (u := U) (U := U.calling g mk a) (Vm.Alike.refl U.vm) qK, qD⟩, va_recv hKc hPc (ci := 11) (q0 := 0) rfl rfl, fun U hU hW => ⟨rfl, by rw [hU], Nat.le_trans hn0 hS.1, GW.go hW hU hG (fun q hq hA9 => hS.2.1 q hq (fun h => hA9 (hA0 q h))), by rw [hU]; exact hPc, va_K.moved hW.alike hKc, hDc.weaken (fun _ _ _ h => hA0 _ h)⟩⟩ rfl rfl hl.1 rfl (lv_room (Nat.le_of_ble_eq_true rfl)) dX11_over_1 ⟨Nat.le_of_ble_eq_true rfl, Nat.le_of_ble_eq_true rfl⟩) hS (fun q _ h => hFc q h) hFc (fun r_1 u t H1 locs ht hvm hw_2 hB hz1 hk1 hS => ?_)
  obtain ⟨hP1, hK1, hD1⟩ := hB
  rw [ht] at hP1
  obtain ⟨hP, hD⟩ := va_join (wr := []) (w1 := [(x0, .inr (11, [.ref rd, .ref dr, .ref bk, .ref st, .ref nw, .ref tr, .ref pl, .ref fl, .ref rg, .int 0, .int 0, .int 0])), (bk, .inr (0, [.int 0, .ref bk_tail, .ref bk_head, .ref bk_hinder, .ref bk_size, .ref bk_walk, .ref bk_draught, .ref bk_doorIn, .ref bk_fanIn, .ref bk_faceIn, .int 0, .int (-1), .ref gr]))]) hP hD [0, 1] [] rfl rfl (by decide) (by decide) hk1 hFc hP1 hD1
  generalize H1 = H at hP hS ⊢
  have hP : va_P (dC, dI) classes [(x0, .inr (11, [.ref rd, .ref dr, .ref bk, .ref st, .ref nw, .ref tr, .ref pl, .ref fl, .ref rg, .int 0, .int 0, .int 0])), (bk, .inr (0, [.int 0, .ref bk_tail, .ref bk_head, .ref bk_hinder, .ref bk_size, .ref bk_walk, .ref bk_draught, .ref bk_doorIn, .ref bk_fanIn, .ref bk_faceIn, .int 0, .int (-1), .ref gr]))] H := hP
  have hD : va_D A [(x0, .inr (11, [.ref rd, .ref dr, .ref bk, .ref st, .ref nw, .ref tr, .ref pl, .ref fl, .ref rg, .int 0, .int 0, .int 0])), (bk, .inr (0, [.int 0, .ref bk_tail, .ref bk_head, .ref bk_hinder, .ref bk_size, .ref bk_walk, .ref bk_draught, .ref bk_doorIn, .ref bk_fanIn, .ref bk_faceIn, .int 0, .int (-1), .ref gr]))] := hD
  obtain rfl : r_1 = 0 := hw_2
  refine lv_if_ne (tgt := 13) hx hb dX11_over_4 (by decide) (fun c_3 => ?_) (fun c_3 => ?_)
  · exact absurd c_3 (by decide)
  refine lv_aload_n hx hb dX11_over_7 rfl (lv_at hl 0 rfl) ?_
  refine lv_iconst (v := 1) hx hb dX11_over_8 (by decide) ?_
  have hPc := hP.sub (ws' := [(x0, .inr (11, [.ref rd, .ref dr, .ref bk, .ref st, .ref nw, .ref tr, .ref pl, .ref fl, .ref rg, .int 0, .int 0, .int 0]))]) [0] rfl
  have hDc := hD.sub (ws' := [(x0, .inr (11, [.ref rd, .ref dr, .ref bk, .ref st, .ref nw, .ref tr, .ref pl, .ref fl, .ref rg, .int 0, .int 0, .int 0]))]) [0] (by decide) rfl
  have hKc := hK.sub (tys' := []) [] rfl
  have hFc := va_free (wc := [(x0, .inr (11, [.ref rd, .ref dr, .ref bk, .ref st, .ref nw, .ref tr, .ref pl, .ref fl, .ref rg, .int 0, .int 0, .int 0]))]) hD hS hA [0] rfl
  refine va_calli (va_runV (As := [.int 1]) (rest := []) ⟨hx, hb, hml, hown, hts⟩ (c_refuse l dC dI n0 H.size x0 rd dr bk st nw tr pl fl rg 0 0 0 1 ) (cwV 1 hts (gV (fun w h => wM_c h) wd_722 wd_719 wd_721 wd_0 wd_114) rfl rfl rfl (by decide +kernel) ⟨Nat.le_of_ble_eq_true rfl, Nat.le_of_ble_eq_true rfl⟩) ⟨fun a U g mk q => by obtain ⟨q0, q1, q2, qG, qP, qK, qD⟩ := q; exact ⟨q0, q1, q2, GW.blind qG, qP, va_K.moved (u := U) (U := U.calling g mk a) (Vm.Alike.refl U.vm) qK, qD⟩, va_recv hKc hPc (ci := 11) (q0 := 0) rfl rfl, fun U hU hW => ⟨rfl, by rw [hU], Nat.le_trans hn0 hS.1, GW.go hW hU hG (fun q hq hA9 => hS.2.1 q hq (fun h => hA9 (hA0 q h))), by rw [hU]; exact hPc, va_K.moved hW.alike hKc, hDc.weaken (fun _ _ _ h => hA0 _ h)⟩⟩ rfl rfl hl.1 rfl (lv_room (Nat.le_of_ble_eq_true rfl)) dX11_over_9 ⟨Nat.le_of_ble_eq_true rfl, Nat.le_of_ble_eq_true rfl⟩) hS (fun q _ h => hFc q h) hFc (fun r_4 u t H1 locs ht hvm hw_5 hB hz1 hk1 hS => ?_)
  obtain ⟨hP1, hK1, hD1⟩ := hB
  rw [ht] at hP1
  obtain ⟨hP, hD⟩ := va_join (wr := [(bk, .inr (0, [.int 0, .ref bk_tail, .ref bk_head, .ref bk_hinder, .ref bk_size, .ref bk_walk, .ref bk_draught, .ref bk_doorIn, .ref bk_fanIn, .ref bk_faceIn, .int 0, .int (-1), .ref gr]))]) (w1 := [(x0, .inr (11, [.ref rd, .ref dr, .ref bk, .ref st, .ref nw, .ref tr, .ref pl, .ref fl, .ref rg, .int 1, .int 0, .int 0]))]) hP hD [0] [1] rfl rfl (by decide) (by decide) hk1 hFc hP1 hD1
  generalize H1 = H at hP hS ⊢
  have hP : va_P (dC, dI) classes [(bk, .inr (0, [.int 0, .ref bk_tail, .ref bk_head, .ref bk_hinder, .ref bk_size, .ref bk_walk, .ref bk_draught, .ref bk_doorIn, .ref bk_fanIn, .ref bk_faceIn, .int 0, .int (-1), .ref gr])), (x0, .inr (11, [.ref rd, .ref dr, .ref bk, .ref st, .ref nw, .ref tr, .ref pl, .ref fl, .ref rg, .int 1, .int 0, .int 0]))] H := hP
  have hD : va_D A [(bk, .inr (0, [.int 0, .ref bk_tail, .ref bk_head, .ref bk_hinder, .ref bk_size, .ref bk_walk, .ref bk_draught, .ref bk_doorIn, .ref bk_fanIn, .ref bk_faceIn, .int 0, .int (-1), .ref gr])), (x0, .inr (11, [.ref rd, .ref dr, .ref bk, .ref st, .ref nw, .ref tr, .ref pl, .ref fl, .ref rg, .int 1, .int 0, .int 0]))] := hD
  obtain rfl : r_4 = (-1) := hw_5
  exact W.iret (v := (-1)) hx hb hr (fun t ht hW => ⟨⟨(-1), (), rfl, rfl, trivial⟩, hS.F ht⟩) hS.2.2 dX11_over_12
set_option maxHeartbeats 4000000 in
set_option maxRecDepth 100000 in
theorem p_sound (l : Launch) (dC : Nat → ClassId) (dI : Nat → Nat → Nat) (n0 sz : Nat) (x0 : Nat) (rd : Nat) (dr : Nat) (bk : Nat) (st : Nat) (nw : Nat) (tr : Nat) (pl : Nat) (fl : Nat) (rg : Nat) (bk_tail : Nat) (bk_head : Nat) (bk_hinder : Nat) (bk_size : Nat) (bk_walk : Nat) (bk_draught : Nat) (bk_doorIn : Nat) (bk_fanIn : Nat) (bk_faceIn : Nat) (gr : Nat) : Met l yX11_sound (wM yX11_sound cX11_sound 1 (some .int)) ({ frames := 1, cells := 0, slots := 0, locals := 21 }) (va_Pc [.ref x0] (fun U => U.heap.size = sz ∧ n0 ≤ sz ∧ GW n0 U ∧ va_P (dC, dI) classes [(x0, .inr (11, [.ref rd, .ref dr, .ref bk, .ref st, .ref nw, .ref tr, .ref pl, .ref fl, .ref rg, .int 0, .int 0, .int 0])), (bk, .inr (0, [.int 0, .ref bk_tail, .ref bk_head, .ref bk_hinder, .ref bk_size, .ref bk_walk, .ref bk_draught, .ref bk_doorIn, .ref bk_fanIn, .ref bk_faceIn, .int 0, .int (-1), .ref gr]))] U.heap ∧ va_K (dC, dI) classes [] U ∧ va_D (fun q => n0 ≤ q) [(x0, .inr (11, [.ref rd, .ref dr, .ref bk, .ref st, .ref nw, .ref tr, .ref pl, .ref fl, .ref rg, .int 0, .int 0, .int 0])), (bk, .inr (0, [.int 0, .ref bk_tail, .ref bk_head, .ref bk_hinder, .ref bk_size, .ref bk_walk, .ref bk_draught, .ref bk_doorIn, .ref bk_fanIn, .ref bk_faceIn, .int 0, .int (-1), .ref gr]))])) (va_Qi (fun (r : Int32) (_ : Unit) => r = (-1)) (fun (_ : Unit) (_ : State) => True) (va_A [(x0, .inr (11, [.ref rd, .ref dr, .ref bk, .ref st, .ref nw, .ref tr, .ref pl, .ref fl, .ref rg, .int 0, .int 0, .int 0])), (bk, .inr (0, [.int 0, .ref bk_tail, .ref bk_head, .ref bk_hinder, .ref bk_size, .ref bk_walk, .ref bk_draught, .ref bk_doorIn, .ref bk_fanIn, .ref bk_faceIn, .int 0, .int (-1), .ref gr]))] sz)) 0 0 (va_A [(x0, .inr (11, [.ref rd, .ref dr, .ref bk, .ref st, .ref nw, .ref tr, .ref pl, .ref fl, .ref rg, .int 0, .int 0, .int 0])), (bk, .inr (0, [.int 0, .ref bk_tail, .ref bk_head, .ref bk_hinder, .ref bk_size, .ref bk_walk, .ref bk_draught, .ref bk_doorIn, .ref bk_fanIn, .ref bk_faceIn, .int 0, .int (-1), .ref gr]))] sz) := by
  refine Met.ofW (cc := cX11_sound) (maxL := 1) (ret := (some .int)) (by decide) rfl ?_
  intro p e s m args below meth c s₁ B hml hv
  obtain ⟨rfl, hsz, hn0, hG, hP, hK, hD0⟩ := hv
  have hx := B.exec
  have hb := B.bytes
  have hr := B.returns
  have hts := atoms_spec (ws := wM yX11_sound cX11_sound 1 (some .int)) B.pre
  have hown : s.vm.findClass RX11 = some m.cls := findClass_of_methodNamed B.named
  have hlocks := B.notSynchronized
  subst hsz
  have hD := hD0.self (sz := s.heap.size)
  have hA0 := vA_n0 hD0 hn0
  generalize hAe : va_A [(x0, .inr (11, [.ref rd, .ref dr, .ref bk, .ref st, .ref nw, .ref tr, .ref pl, .ref fl, .ref rg, .int 0, .int 0, .int 0])), (bk, .inr (0, [.int 0, .ref bk_tail, .ref bk_head, .ref bk_hinder, .ref bk_size, .ref bk_walk, .ref bk_draught, .ref bk_doorIn, .ref bk_fanIn, .ref bk_faceIn, .int 0, .int (-1), .ref gr]))] s.heap.size = A at hD hA0 ⊢
  have hA : ∀ q : Nat, s.heap.size ≤ q → A q := fun q h => by rw [← hAe]; exact Or.inr h
  have hS : va_S A s.heap s.heap [] := va_S.rf
  have hl := lv_entry ([.ref x0]) (n := 1) (Nat.le_of_ble_eq_true rfl)
  rw [lg_entry_eq]
  generalize (lg_sl ([.ref x0]) ++ List.replicate (1 - (lg_sl ([.ref x0])).length) Slot.unset).toArray = ls at hl ⊢
  have hl : lv_has ls 1 [(0, .ref x0)] := hl
  refine lv_aload_n hx hb dX11_sound_0 rfl (lv_at hl 0 rfl) ?_
  have hPc := hP.sub (ws' := [(x0, .inr (11, [.ref rd, .ref dr, .ref bk, .ref st, .ref nw, .ref tr, .ref pl, .ref fl, .ref rg, .int 0, .int 0, .int 0])), (bk, .inr (0, [.int 0, .ref bk_tail, .ref bk_head, .ref bk_hinder, .ref bk_size, .ref bk_walk, .ref bk_draught, .ref bk_doorIn, .ref bk_fanIn, .ref bk_faceIn, .int 0, .int (-1), .ref gr]))]) [0, 1] rfl
  have hDc := hD.sub (ws' := [(x0, .inr (11, [.ref rd, .ref dr, .ref bk, .ref st, .ref nw, .ref tr, .ref pl, .ref fl, .ref rg, .int 0, .int 0, .int 0])), (bk, .inr (0, [.int 0, .ref bk_tail, .ref bk_head, .ref bk_hinder, .ref bk_size, .ref bk_walk, .ref bk_draught, .ref bk_doorIn, .ref bk_fanIn, .ref bk_faceIn, .int 0, .int (-1), .ref gr]))]) [0, 1] (by decide) rfl
  have hKc := hK.sub (tys' := []) [] rfl
  have hFc := va_free (wc := [(x0, .inr (11, [.ref rd, .ref dr, .ref bk, .ref st, .ref nw, .ref tr, .ref pl, .ref fl, .ref rg, .int 0, .int 0, .int 0])), (bk, .inr (0, [.int 0, .ref bk_tail, .ref bk_head, .ref bk_hinder, .ref bk_size, .ref bk_walk, .ref bk_draught, .ref bk_doorIn, .ref bk_fanIn, .ref bk_faceIn, .int 0, .int (-1), .ref gr]))]) hD hS hA [0, 1] rfl
  refine va_calli (va_runV (As := []) (rest := []) ⟨hx, hb, hml, hown, hts⟩ (c_isBooked l dC dI n0 s.heap.size x0 rd dr bk st nw tr pl fl rg 0 0 0 bk_tail bk_head bk_hinder bk_size bk_walk bk_draught bk_doorIn bk_fanIn bk_faceIn gr ) (cwV 0 hts (gV (fun w h => wM_c h) wd_1068 wd_1065 wd_1067 wd_39 wd_114) rfl rfl rfl (by decide +kernel) ⟨Nat.le_of_ble_eq_true rfl, Nat.le_of_ble_eq_true rfl⟩) ⟨fun a U g mk q => by obtain ⟨q0, q1, q2, qG, qP, qK, qD⟩ := q; exact ⟨q0, q1, q2, GW.blind qG, qP, va_K.moved (u := U) (U := U.calling g mk a) (Vm.Alike.refl U.vm) qK, qD⟩, va_recv hKc hPc (ci := 11) (q0 := 0) rfl rfl, fun U hU hW => ⟨rfl, by rw [hU], Nat.le_trans hn0 hS.1, GW.go hW hU hG (fun q hq hA9 => hS.2.1 q hq (fun h => hA9 (hA0 q h))), by rw [hU]; exact hPc, va_K.moved hW.alike hKc, hDc.weaken (fun _ _ _ h => hA0 _ h)⟩⟩ rfl rfl hl.1 rfl (lv_room (Nat.le_of_ble_eq_true rfl)) dX11_sound_1 ⟨Nat.le_of_ble_eq_true rfl, Nat.le_of_ble_eq_true rfl⟩) hS (fun q _ h => hFc q h) hFc (fun r_1 u t H1 locs ht hvm hw_2 hB hz1 hk1 hS => ?_)
  obtain ⟨hP1, hK1, hD1⟩ := hB
  rw [ht] at hP1
  obtain ⟨hP, hD⟩ := va_join (wr := []) (w1 := [(x0, .inr (11, [.ref rd, .ref dr, .ref bk, .ref st, .ref nw, .ref tr, .ref pl, .ref fl, .ref rg, .int 0, .int 0, .int 0])), (bk, .inr (0, [.int 0, .ref bk_tail, .ref bk_head, .ref bk_hinder, .ref bk_size, .ref bk_walk, .ref bk_draught, .ref bk_doorIn, .ref bk_fanIn, .ref bk_faceIn, .int 0, .int (-1), .ref gr]))]) hP hD [0, 1] [] rfl rfl (by decide) (by decide) hk1 hFc hP1 hD1
  generalize H1 = H at hP hS ⊢
  have hP : va_P (dC, dI) classes [(x0, .inr (11, [.ref rd, .ref dr, .ref bk, .ref st, .ref nw, .ref tr, .ref pl, .ref fl, .ref rg, .int 0, .int 0, .int 0])), (bk, .inr (0, [.int 0, .ref bk_tail, .ref bk_head, .ref bk_hinder, .ref bk_size, .ref bk_walk, .ref bk_draught, .ref bk_doorIn, .ref bk_fanIn, .ref bk_faceIn, .int 0, .int (-1), .ref gr]))] H := hP
  have hD : va_D A [(x0, .inr (11, [.ref rd, .ref dr, .ref bk, .ref st, .ref nw, .ref tr, .ref pl, .ref fl, .ref rg, .int 0, .int 0, .int 0])), (bk, .inr (0, [.int 0, .ref bk_tail, .ref bk_head, .ref bk_hinder, .ref bk_size, .ref bk_walk, .ref bk_draught, .ref bk_doorIn, .ref bk_fanIn, .ref bk_faceIn, .int 0, .int (-1), .ref gr]))] := hD
  obtain rfl : r_1 = 0 := hw_2
  refine lv_if_ne (tgt := 13) hx hb dX11_sound_4 (by decide) (fun c_3 => ?_) (fun c_3 => ?_)
  · exact absurd c_3 (by decide)
  refine lv_aload_n hx hb dX11_sound_7 rfl (lv_at hl 0 rfl) ?_
  refine lv_iconst (v := 1) hx hb dX11_sound_8 (by decide) ?_
  have hPc := hP.sub (ws' := [(x0, .inr (11, [.ref rd, .ref dr, .ref bk, .ref st, .ref nw, .ref tr, .ref pl, .ref fl, .ref rg, .int 0, .int 0, .int 0]))]) [0] rfl
  have hDc := hD.sub (ws' := [(x0, .inr (11, [.ref rd, .ref dr, .ref bk, .ref st, .ref nw, .ref tr, .ref pl, .ref fl, .ref rg, .int 0, .int 0, .int 0]))]) [0] (by decide) rfl
  have hKc := hK.sub (tys' := []) [] rfl
  have hFc := va_free (wc := [(x0, .inr (11, [.ref rd, .ref dr, .ref bk, .ref st, .ref nw, .ref tr, .ref pl, .ref fl, .ref rg, .int 0, .int 0, .int 0]))]) hD hS hA [0] rfl
  refine va_calli (va_runV (As := [.int 1]) (rest := []) ⟨hx, hb, hml, hown, hts⟩ (c_refuse l dC dI n0 H.size x0 rd dr bk st nw tr pl fl rg 0 0 0 1 ) (cwV 1 hts (gV (fun w h => wM_c h) wd_722 wd_719 wd_721 wd_0 wd_114) rfl rfl rfl (by decide +kernel) ⟨Nat.le_of_ble_eq_true rfl, Nat.le_of_ble_eq_true rfl⟩) ⟨fun a U g mk q => by obtain ⟨q0, q1, q2, qG, qP, qK, qD⟩ := q; exact ⟨q0, q1, q2, GW.blind qG, qP, va_K.moved (u := U) (U := U.calling g mk a) (Vm.Alike.refl U.vm) qK, qD⟩, va_recv hKc hPc (ci := 11) (q0 := 0) rfl rfl, fun U hU hW => ⟨rfl, by rw [hU], Nat.le_trans hn0 hS.1, GW.go hW hU hG (fun q hq hA9 => hS.2.1 q hq (fun h => hA9 (hA0 q h))), by rw [hU]; exact hPc, va_K.moved hW.alike hKc, hDc.weaken (fun _ _ _ h => hA0 _ h)⟩⟩ rfl rfl hl.1 rfl (lv_room (Nat.le_of_ble_eq_true rfl)) dX11_sound_9 ⟨Nat.le_of_ble_eq_true rfl, Nat.le_of_ble_eq_true rfl⟩) hS (fun q _ h => hFc q h) hFc (fun r_4 u t H1 locs ht hvm hw_5 hB hz1 hk1 hS => ?_)
  obtain ⟨hP1, hK1, hD1⟩ := hB
  rw [ht] at hP1
  obtain ⟨hP, hD⟩ := va_join (wr := [(bk, .inr (0, [.int 0, .ref bk_tail, .ref bk_head, .ref bk_hinder, .ref bk_size, .ref bk_walk, .ref bk_draught, .ref bk_doorIn, .ref bk_fanIn, .ref bk_faceIn, .int 0, .int (-1), .ref gr]))]) (w1 := [(x0, .inr (11, [.ref rd, .ref dr, .ref bk, .ref st, .ref nw, .ref tr, .ref pl, .ref fl, .ref rg, .int 1, .int 0, .int 0]))]) hP hD [0] [1] rfl rfl (by decide) (by decide) hk1 hFc hP1 hD1
  generalize H1 = H at hP hS ⊢
  have hP : va_P (dC, dI) classes [(bk, .inr (0, [.int 0, .ref bk_tail, .ref bk_head, .ref bk_hinder, .ref bk_size, .ref bk_walk, .ref bk_draught, .ref bk_doorIn, .ref bk_fanIn, .ref bk_faceIn, .int 0, .int (-1), .ref gr])), (x0, .inr (11, [.ref rd, .ref dr, .ref bk, .ref st, .ref nw, .ref tr, .ref pl, .ref fl, .ref rg, .int 1, .int 0, .int 0]))] H := hP
  have hD : va_D A [(bk, .inr (0, [.int 0, .ref bk_tail, .ref bk_head, .ref bk_hinder, .ref bk_size, .ref bk_walk, .ref bk_draught, .ref bk_doorIn, .ref bk_fanIn, .ref bk_faceIn, .int 0, .int (-1), .ref gr])), (x0, .inr (11, [.ref rd, .ref dr, .ref bk, .ref st, .ref nw, .ref tr, .ref pl, .ref fl, .ref rg, .int 1, .int 0, .int 0]))] := hD
  obtain rfl : r_4 = (-1) := hw_5
  exact W.iret (v := (-1)) hx hb hr (fun t ht hW => ⟨⟨(-1), (), rfl, rfl, trivial⟩, hS.F ht⟩) hS.2.2 dX11_sound_12
set_option maxHeartbeats 4000000 in
set_option maxRecDepth 100000 in
theorem p_failing (l : Launch) (dC : Nat → ClassId) (dI : Nat → Nat → Nat) (n0 sz : Nat) (x0 : Nat) (rd : Nat) (dr : Nat) (bk : Nat) (st : Nat) (nw : Nat) (tr : Nat) (pl : Nat) (fl : Nat) (rg : Nat) (bk_tail : Nat) (bk_head : Nat) (bk_hinder : Nat) (bk_size : Nat) (bk_walk : Nat) (bk_draught : Nat) (bk_doorIn : Nat) (bk_fanIn : Nat) (bk_faceIn : Nat) (gr : Nat) (w : Int32) : Met l yX11_failing (wM yX11_failing cX11_failing 2 (some .int)) ({ frames := 1, cells := 0, slots := 0, locals := 21 }) (va_Pc [.ref x0, .int w] (fun U => U.heap.size = sz ∧ n0 ≤ sz ∧ GW n0 U ∧ va_P (dC, dI) classes [(x0, .inr (11, [.ref rd, .ref dr, .ref bk, .ref st, .ref nw, .ref tr, .ref pl, .ref fl, .ref rg, .int 0, .int 0, .int 0])), (bk, .inr (0, [.int 0, .ref bk_tail, .ref bk_head, .ref bk_hinder, .ref bk_size, .ref bk_walk, .ref bk_draught, .ref bk_doorIn, .ref bk_fanIn, .ref bk_faceIn, .int 0, .int (-1), .ref gr]))] U.heap ∧ va_K (dC, dI) classes [] U ∧ va_D (fun q => n0 ≤ q) [(x0, .inr (11, [.ref rd, .ref dr, .ref bk, .ref st, .ref nw, .ref tr, .ref pl, .ref fl, .ref rg, .int 0, .int 0, .int 0])), (bk, .inr (0, [.int 0, .ref bk_tail, .ref bk_head, .ref bk_hinder, .ref bk_size, .ref bk_walk, .ref bk_draught, .ref bk_doorIn, .ref bk_fanIn, .ref bk_faceIn, .int 0, .int (-1), .ref gr]))])) (va_Qi (fun (r : Int32) (_ : Unit) => r = (-1)) (fun (_ : Unit) (_ : State) => True) (va_A [(x0, .inr (11, [.ref rd, .ref dr, .ref bk, .ref st, .ref nw, .ref tr, .ref pl, .ref fl, .ref rg, .int 0, .int 0, .int 0])), (bk, .inr (0, [.int 0, .ref bk_tail, .ref bk_head, .ref bk_hinder, .ref bk_size, .ref bk_walk, .ref bk_draught, .ref bk_doorIn, .ref bk_fanIn, .ref bk_faceIn, .int 0, .int (-1), .ref gr]))] sz)) 0 0 (va_A [(x0, .inr (11, [.ref rd, .ref dr, .ref bk, .ref st, .ref nw, .ref tr, .ref pl, .ref fl, .ref rg, .int 0, .int 0, .int 0])), (bk, .inr (0, [.int 0, .ref bk_tail, .ref bk_head, .ref bk_hinder, .ref bk_size, .ref bk_walk, .ref bk_draught, .ref bk_doorIn, .ref bk_fanIn, .ref bk_faceIn, .int 0, .int (-1), .ref gr]))] sz) := by
  refine Met.ofW (cc := cX11_failing) (maxL := 2) (ret := (some .int)) (by decide) rfl ?_
  intro p e s m args below meth c s₁ B hml hv
  obtain ⟨rfl, hsz, hn0, hG, hP, hK, hD0⟩ := hv
  have hx := B.exec
  have hb := B.bytes
  have hr := B.returns
  have hts := atoms_spec (ws := wM yX11_failing cX11_failing 2 (some .int)) B.pre
  have hown : s.vm.findClass RX11 = some m.cls := findClass_of_methodNamed B.named
  have hlocks := B.notSynchronized
  subst hsz
  have hD := hD0.self (sz := s.heap.size)
  have hA0 := vA_n0 hD0 hn0
  generalize hAe : va_A [(x0, .inr (11, [.ref rd, .ref dr, .ref bk, .ref st, .ref nw, .ref tr, .ref pl, .ref fl, .ref rg, .int 0, .int 0, .int 0])), (bk, .inr (0, [.int 0, .ref bk_tail, .ref bk_head, .ref bk_hinder, .ref bk_size, .ref bk_walk, .ref bk_draught, .ref bk_doorIn, .ref bk_fanIn, .ref bk_faceIn, .int 0, .int (-1), .ref gr]))] s.heap.size = A at hD hA0 ⊢
  have hA : ∀ q : Nat, s.heap.size ≤ q → A q := fun q h => by rw [← hAe]; exact Or.inr h
  have hS : va_S A s.heap s.heap [] := va_S.rf
  have hl := lv_entry ([.ref x0, .int w]) (n := 2) (Nat.le_of_ble_eq_true rfl)
  rw [lg_entry_eq]
  generalize (lg_sl ([.ref x0, .int w]) ++ List.replicate (2 - (lg_sl ([.ref x0, .int w])).length) Slot.unset).toArray = ls at hl ⊢
  have hl : lv_has ls 2 [(0, .ref x0), (1, .int w)] := hl
  refine lv_aload_n hx hb dX11_failing_0 rfl (lv_at hl 0 rfl) ?_
  have hPc := hP.sub (ws' := [(x0, .inr (11, [.ref rd, .ref dr, .ref bk, .ref st, .ref nw, .ref tr, .ref pl, .ref fl, .ref rg, .int 0, .int 0, .int 0])), (bk, .inr (0, [.int 0, .ref bk_tail, .ref bk_head, .ref bk_hinder, .ref bk_size, .ref bk_walk, .ref bk_draught, .ref bk_doorIn, .ref bk_fanIn, .ref bk_faceIn, .int 0, .int (-1), .ref gr]))]) [0, 1] rfl
  have hDc := hD.sub (ws' := [(x0, .inr (11, [.ref rd, .ref dr, .ref bk, .ref st, .ref nw, .ref tr, .ref pl, .ref fl, .ref rg, .int 0, .int 0, .int 0])), (bk, .inr (0, [.int 0, .ref bk_tail, .ref bk_head, .ref bk_hinder, .ref bk_size, .ref bk_walk, .ref bk_draught, .ref bk_doorIn, .ref bk_fanIn, .ref bk_faceIn, .int 0, .int (-1), .ref gr]))]) [0, 1] (by decide) rfl
  have hKc := hK.sub (tys' := []) [] rfl
  have hFc := va_free (wc := [(x0, .inr (11, [.ref rd, .ref dr, .ref bk, .ref st, .ref nw, .ref tr, .ref pl, .ref fl, .ref rg, .int 0, .int 0, .int 0])), (bk, .inr (0, [.int 0, .ref bk_tail, .ref bk_head, .ref bk_hinder, .ref bk_size, .ref bk_walk, .ref bk_draught, .ref bk_doorIn, .ref bk_fanIn, .ref bk_faceIn, .int 0, .int (-1), .ref gr]))]) hD hS hA [0, 1] rfl
  refine va_calli (va_runV (As := []) (rest := []) ⟨hx, hb, hml, hown, hts⟩ (c_isBooked l dC dI n0 s.heap.size x0 rd dr bk st nw tr pl fl rg 0 0 0 bk_tail bk_head bk_hinder bk_size bk_walk bk_draught bk_doorIn bk_fanIn bk_faceIn gr ) (cwV 0 hts (gV (fun w h => wM_c h) wd_1068 wd_1065 wd_1067 wd_39 wd_114) rfl rfl rfl (by decide +kernel) ⟨Nat.le_of_ble_eq_true rfl, Nat.le_of_ble_eq_true rfl⟩) ⟨fun a U g mk q => by obtain ⟨q0, q1, q2, qG, qP, qK, qD⟩ := q; exact ⟨q0, q1, q2, GW.blind qG, qP, va_K.moved (u := U) (U := U.calling g mk a) (Vm.Alike.refl U.vm) qK, qD⟩, va_recv hKc hPc (ci := 11) (q0 := 0) rfl rfl, fun U hU hW => ⟨rfl, by rw [hU], Nat.le_trans hn0 hS.1, GW.go hW hU hG (fun q hq hA9 => hS.2.1 q hq (fun h => hA9 (hA0 q h))), by rw [hU]; exact hPc, va_K.moved hW.alike hKc, hDc.weaken (fun _ _ _ h => hA0 _ h)⟩⟩ rfl rfl hl.1 rfl (lv_room (Nat.le_of_ble_eq_true rfl)) dX11_failing_1 ⟨Nat.le_of_ble_eq_true rfl, Nat.le_of_ble_eq_true rfl⟩) hS (fun q _ h => hFc q h) hFc (fun r_1 u t H1 locs ht hvm hw_2 hB hz1 hk1 hS => ?_)
  obtain ⟨hP1, hK1, hD1⟩ := hB
  rw [ht] at hP1
  obtain ⟨hP, hD⟩ := va_join (wr := []) (w1 := [(x0, .inr (11, [.ref rd, .ref dr, .ref bk, .ref st, .ref nw, .ref tr, .ref pl, .ref fl, .ref rg, .int 0, .int 0, .int 0])), (bk, .inr (0, [.int 0, .ref bk_tail, .ref bk_head, .ref bk_hinder, .ref bk_size, .ref bk_walk, .ref bk_draught, .ref bk_doorIn, .ref bk_fanIn, .ref bk_faceIn, .int 0, .int (-1), .ref gr]))]) hP hD [0, 1] [] rfl rfl (by decide) (by decide) hk1 hFc hP1 hD1
  generalize H1 = H at hP hS ⊢
  have hP : va_P (dC, dI) classes [(x0, .inr (11, [.ref rd, .ref dr, .ref bk, .ref st, .ref nw, .ref tr, .ref pl, .ref fl, .ref rg, .int 0, .int 0, .int 0])), (bk, .inr (0, [.int 0, .ref bk_tail, .ref bk_head, .ref bk_hinder, .ref bk_size, .ref bk_walk, .ref bk_draught, .ref bk_doorIn, .ref bk_fanIn, .ref bk_faceIn, .int 0, .int (-1), .ref gr]))] H := hP
  have hD : va_D A [(x0, .inr (11, [.ref rd, .ref dr, .ref bk, .ref st, .ref nw, .ref tr, .ref pl, .ref fl, .ref rg, .int 0, .int 0, .int 0])), (bk, .inr (0, [.int 0, .ref bk_tail, .ref bk_head, .ref bk_hinder, .ref bk_size, .ref bk_walk, .ref bk_draught, .ref bk_doorIn, .ref bk_fanIn, .ref bk_faceIn, .int 0, .int (-1), .ref gr]))] := hD
  obtain rfl : r_1 = 0 := hw_2
  refine lv_if_ne (tgt := 13) hx hb dX11_failing_4 (by decide) (fun c_3 => ?_) (fun c_3 => ?_)
  · exact absurd c_3 (by decide)
  refine lv_aload_n hx hb dX11_failing_7 rfl (lv_at hl 0 rfl) ?_
  refine lv_iconst (v := 1) hx hb dX11_failing_8 (by decide) ?_
  have hPc := hP.sub (ws' := [(x0, .inr (11, [.ref rd, .ref dr, .ref bk, .ref st, .ref nw, .ref tr, .ref pl, .ref fl, .ref rg, .int 0, .int 0, .int 0]))]) [0] rfl
  have hDc := hD.sub (ws' := [(x0, .inr (11, [.ref rd, .ref dr, .ref bk, .ref st, .ref nw, .ref tr, .ref pl, .ref fl, .ref rg, .int 0, .int 0, .int 0]))]) [0] (by decide) rfl
  have hKc := hK.sub (tys' := []) [] rfl
  have hFc := va_free (wc := [(x0, .inr (11, [.ref rd, .ref dr, .ref bk, .ref st, .ref nw, .ref tr, .ref pl, .ref fl, .ref rg, .int 0, .int 0, .int 0]))]) hD hS hA [0] rfl
  refine va_calli (va_runV (As := [.int 1]) (rest := []) ⟨hx, hb, hml, hown, hts⟩ (c_refuse l dC dI n0 H.size x0 rd dr bk st nw tr pl fl rg 0 0 0 1 ) (cwV 1 hts (gV (fun w h => wM_c h) wd_722 wd_719 wd_721 wd_0 wd_114) rfl rfl rfl (by decide +kernel) ⟨Nat.le_of_ble_eq_true rfl, Nat.le_of_ble_eq_true rfl⟩) ⟨fun a U g mk q => by obtain ⟨q0, q1, q2, qG, qP, qK, qD⟩ := q; exact ⟨q0, q1, q2, GW.blind qG, qP, va_K.moved (u := U) (U := U.calling g mk a) (Vm.Alike.refl U.vm) qK, qD⟩, va_recv hKc hPc (ci := 11) (q0 := 0) rfl rfl, fun U hU hW => ⟨rfl, by rw [hU], Nat.le_trans hn0 hS.1, GW.go hW hU hG (fun q hq hA9 => hS.2.1 q hq (fun h => hA9 (hA0 q h))), by rw [hU]; exact hPc, va_K.moved hW.alike hKc, hDc.weaken (fun _ _ _ h => hA0 _ h)⟩⟩ rfl rfl hl.1 rfl (lv_room (Nat.le_of_ble_eq_true rfl)) dX11_failing_9 ⟨Nat.le_of_ble_eq_true rfl, Nat.le_of_ble_eq_true rfl⟩) hS (fun q _ h => hFc q h) hFc (fun r_4 u t H1 locs ht hvm hw_5 hB hz1 hk1 hS => ?_)
  obtain ⟨hP1, hK1, hD1⟩ := hB
  rw [ht] at hP1
  obtain ⟨hP, hD⟩ := va_join (wr := [(bk, .inr (0, [.int 0, .ref bk_tail, .ref bk_head, .ref bk_hinder, .ref bk_size, .ref bk_walk, .ref bk_draught, .ref bk_doorIn, .ref bk_fanIn, .ref bk_faceIn, .int 0, .int (-1), .ref gr]))]) (w1 := [(x0, .inr (11, [.ref rd, .ref dr, .ref bk, .ref st, .ref nw, .ref tr, .ref pl, .ref fl, .ref rg, .int 1, .int 0, .int 0]))]) hP hD [0] [1] rfl rfl (by decide) (by decide) hk1 hFc hP1 hD1
  generalize H1 = H at hP hS ⊢
  have hP : va_P (dC, dI) classes [(bk, .inr (0, [.int 0, .ref bk_tail, .ref bk_head, .ref bk_hinder, .ref bk_size, .ref bk_walk, .ref bk_draught, .ref bk_doorIn, .ref bk_fanIn, .ref bk_faceIn, .int 0, .int (-1), .ref gr])), (x0, .inr (11, [.ref rd, .ref dr, .ref bk, .ref st, .ref nw, .ref tr, .ref pl, .ref fl, .ref rg, .int 1, .int 0, .int 0]))] H := hP
  have hD : va_D A [(bk, .inr (0, [.int 0, .ref bk_tail, .ref bk_head, .ref bk_hinder, .ref bk_size, .ref bk_walk, .ref bk_draught, .ref bk_doorIn, .ref bk_fanIn, .ref bk_faceIn, .int 0, .int (-1), .ref gr])), (x0, .inr (11, [.ref rd, .ref dr, .ref bk, .ref st, .ref nw, .ref tr, .ref pl, .ref fl, .ref rg, .int 1, .int 0, .int 0]))] := hD
  obtain rfl : r_4 = (-1) := hw_5
  exact W.iret (v := (-1)) hx hb hr (fun t ht hW => ⟨⟨(-1), (), rfl, rfl, trivial⟩, hS.F ht⟩) hS.2.2 dX11_failing_12
set_option maxHeartbeats 4000000 in
set_option maxRecDepth 100000 in
theorem p_setting (l : Launch) (dC : Nat → ClassId) (dI : Nat → Nat → Nat) (n0 sz : Nat) (x0 : Nat) (rd : Nat) (dr : Nat) (bk : Nat) (st : Nat) (nw : Nat) (tr : Nat) (pl : Nat) (fl : Nat) (rg : Nat) (bk_tail : Nat) (bk_head : Nat) (bk_hinder : Nat) (bk_size : Nat) (bk_walk : Nat) (bk_draught : Nat) (bk_doorIn : Nat) (bk_fanIn : Nat) (bk_faceIn : Nat) (gr : Nat) : Met l yX11_setting (wM yX11_setting cX11_setting 2 (some .int)) ({ frames := 1, cells := 0, slots := 0, locals := 21 }) (va_Pc [.ref x0] (fun U => U.heap.size = sz ∧ n0 ≤ sz ∧ GW n0 U ∧ va_P (dC, dI) classes [(x0, .inr (11, [.ref rd, .ref dr, .ref bk, .ref st, .ref nw, .ref tr, .ref pl, .ref fl, .ref rg, .int 0, .int 0, .int 0])), (bk, .inr (0, [.int 0, .ref bk_tail, .ref bk_head, .ref bk_hinder, .ref bk_size, .ref bk_walk, .ref bk_draught, .ref bk_doorIn, .ref bk_fanIn, .ref bk_faceIn, .int 0, .int (-1), .ref gr]))] U.heap ∧ va_K (dC, dI) classes [] U ∧ va_D (fun q => n0 ≤ q) [(x0, .inr (11, [.ref rd, .ref dr, .ref bk, .ref st, .ref nw, .ref tr, .ref pl, .ref fl, .ref rg, .int 0, .int 0, .int 0])), (bk, .inr (0, [.int 0, .ref bk_tail, .ref bk_head, .ref bk_hinder, .ref bk_size, .ref bk_walk, .ref bk_draught, .ref bk_doorIn, .ref bk_fanIn, .ref bk_faceIn, .int 0, .int (-1), .ref gr]))])) (va_Qi (fun (r : Int32) (_ : Unit) => r = (-1)) (fun (_ : Unit) (_ : State) => True) (va_A [(x0, .inr (11, [.ref rd, .ref dr, .ref bk, .ref st, .ref nw, .ref tr, .ref pl, .ref fl, .ref rg, .int 0, .int 0, .int 0])), (bk, .inr (0, [.int 0, .ref bk_tail, .ref bk_head, .ref bk_hinder, .ref bk_size, .ref bk_walk, .ref bk_draught, .ref bk_doorIn, .ref bk_fanIn, .ref bk_faceIn, .int 0, .int (-1), .ref gr]))] sz)) 0 0 (va_A [(x0, .inr (11, [.ref rd, .ref dr, .ref bk, .ref st, .ref nw, .ref tr, .ref pl, .ref fl, .ref rg, .int 0, .int 0, .int 0])), (bk, .inr (0, [.int 0, .ref bk_tail, .ref bk_head, .ref bk_hinder, .ref bk_size, .ref bk_walk, .ref bk_draught, .ref bk_doorIn, .ref bk_fanIn, .ref bk_faceIn, .int 0, .int (-1), .ref gr]))] sz) := by
  refine Met.ofW (cc := cX11_setting) (maxL := 2) (ret := (some .int)) (by decide) rfl ?_
  intro p e s m args below meth c s₁ B hml hv
  obtain ⟨rfl, hsz, hn0, hG, hP, hK, hD0⟩ := hv
  have hx := B.exec
  have hb := B.bytes
  have hr := B.returns
  have hts := atoms_spec (ws := wM yX11_setting cX11_setting 2 (some .int)) B.pre
  have hown : s.vm.findClass RX11 = some m.cls := findClass_of_methodNamed B.named
  have hlocks := B.notSynchronized
  subst hsz
  have hD := hD0.self (sz := s.heap.size)
  have hA0 := vA_n0 hD0 hn0
  generalize hAe : va_A [(x0, .inr (11, [.ref rd, .ref dr, .ref bk, .ref st, .ref nw, .ref tr, .ref pl, .ref fl, .ref rg, .int 0, .int 0, .int 0])), (bk, .inr (0, [.int 0, .ref bk_tail, .ref bk_head, .ref bk_hinder, .ref bk_size, .ref bk_walk, .ref bk_draught, .ref bk_doorIn, .ref bk_fanIn, .ref bk_faceIn, .int 0, .int (-1), .ref gr]))] s.heap.size = A at hD hA0 ⊢
  have hA : ∀ q : Nat, s.heap.size ≤ q → A q := fun q h => by rw [← hAe]; exact Or.inr h
  have hS : va_S A s.heap s.heap [] := va_S.rf
  have hl := lv_entry ([.ref x0]) (n := 2) (Nat.le_of_ble_eq_true rfl)
  rw [lg_entry_eq]
  generalize (lg_sl ([.ref x0]) ++ List.replicate (2 - (lg_sl ([.ref x0])).length) Slot.unset).toArray = ls at hl ⊢
  have hl : lv_has ls 2 [(0, .ref x0)] := hl
  refine lv_aload_n hx hb dX11_setting_0 rfl (lv_at hl 0 rfl) ?_
  have hPc := hP.sub (ws' := [(x0, .inr (11, [.ref rd, .ref dr, .ref bk, .ref st, .ref nw, .ref tr, .ref pl, .ref fl, .ref rg, .int 0, .int 0, .int 0])), (bk, .inr (0, [.int 0, .ref bk_tail, .ref bk_head, .ref bk_hinder, .ref bk_size, .ref bk_walk, .ref bk_draught, .ref bk_doorIn, .ref bk_fanIn, .ref bk_faceIn, .int 0, .int (-1), .ref gr]))]) [0, 1] rfl
  have hDc := hD.sub (ws' := [(x0, .inr (11, [.ref rd, .ref dr, .ref bk, .ref st, .ref nw, .ref tr, .ref pl, .ref fl, .ref rg, .int 0, .int 0, .int 0])), (bk, .inr (0, [.int 0, .ref bk_tail, .ref bk_head, .ref bk_hinder, .ref bk_size, .ref bk_walk, .ref bk_draught, .ref bk_doorIn, .ref bk_fanIn, .ref bk_faceIn, .int 0, .int (-1), .ref gr]))]) [0, 1] (by decide) rfl
  have hKc := hK.sub (tys' := []) [] rfl
  have hFc := va_free (wc := [(x0, .inr (11, [.ref rd, .ref dr, .ref bk, .ref st, .ref nw, .ref tr, .ref pl, .ref fl, .ref rg, .int 0, .int 0, .int 0])), (bk, .inr (0, [.int 0, .ref bk_tail, .ref bk_head, .ref bk_hinder, .ref bk_size, .ref bk_walk, .ref bk_draught, .ref bk_doorIn, .ref bk_fanIn, .ref bk_faceIn, .int 0, .int (-1), .ref gr]))]) hD hS hA [0, 1] rfl
  refine va_calli (va_runV (As := []) (rest := []) ⟨hx, hb, hml, hown, hts⟩ (c_isBooked l dC dI n0 s.heap.size x0 rd dr bk st nw tr pl fl rg 0 0 0 bk_tail bk_head bk_hinder bk_size bk_walk bk_draught bk_doorIn bk_fanIn bk_faceIn gr ) (cwV 0 hts (gV (fun w h => wM_c h) wd_1068 wd_1065 wd_1067 wd_39 wd_114) rfl rfl rfl (by decide +kernel) ⟨Nat.le_of_ble_eq_true rfl, Nat.le_of_ble_eq_true rfl⟩) ⟨fun a U g mk q => by obtain ⟨q0, q1, q2, qG, qP, qK, qD⟩ := q; exact ⟨q0, q1, q2, GW.blind qG, qP, va_K.moved (u := U) (U := U.calling g mk a) (Vm.Alike.refl U.vm) qK, qD⟩, va_recv hKc hPc (ci := 11) (q0 := 0) rfl rfl, fun U hU hW => ⟨rfl, by rw [hU], Nat.le_trans hn0 hS.1, GW.go hW hU hG (fun q hq hA9 => hS.2.1 q hq (fun h => hA9 (hA0 q h))), by rw [hU]; exact hPc, va_K.moved hW.alike hKc, hDc.weaken (fun _ _ _ h => hA0 _ h)⟩⟩ rfl rfl hl.1 rfl (lv_room (Nat.le_of_ble_eq_true rfl)) dX11_setting_1 ⟨Nat.le_of_ble_eq_true rfl, Nat.le_of_ble_eq_true rfl⟩) hS (fun q _ h => hFc q h) hFc (fun r_1 u t H1 locs ht hvm hw_2 hB hz1 hk1 hS => ?_)
  obtain ⟨hP1, hK1, hD1⟩ := hB
  rw [ht] at hP1
  obtain ⟨hP, hD⟩ := va_join (wr := []) (w1 := [(x0, .inr (11, [.ref rd, .ref dr, .ref bk, .ref st, .ref nw, .ref tr, .ref pl, .ref fl, .ref rg, .int 0, .int 0, .int 0])), (bk, .inr (0, [.int 0, .ref bk_tail, .ref bk_head, .ref bk_hinder, .ref bk_size, .ref bk_walk, .ref bk_draught, .ref bk_doorIn, .ref bk_fanIn, .ref bk_faceIn, .int 0, .int (-1), .ref gr]))]) hP hD [0, 1] [] rfl rfl (by decide) (by decide) hk1 hFc hP1 hD1
  generalize H1 = H at hP hS ⊢
  have hP : va_P (dC, dI) classes [(x0, .inr (11, [.ref rd, .ref dr, .ref bk, .ref st, .ref nw, .ref tr, .ref pl, .ref fl, .ref rg, .int 0, .int 0, .int 0])), (bk, .inr (0, [.int 0, .ref bk_tail, .ref bk_head, .ref bk_hinder, .ref bk_size, .ref bk_walk, .ref bk_draught, .ref bk_doorIn, .ref bk_fanIn, .ref bk_faceIn, .int 0, .int (-1), .ref gr]))] H := hP
  have hD : va_D A [(x0, .inr (11, [.ref rd, .ref dr, .ref bk, .ref st, .ref nw, .ref tr, .ref pl, .ref fl, .ref rg, .int 0, .int 0, .int 0])), (bk, .inr (0, [.int 0, .ref bk_tail, .ref bk_head, .ref bk_hinder, .ref bk_size, .ref bk_walk, .ref bk_draught, .ref bk_doorIn, .ref bk_fanIn, .ref bk_faceIn, .int 0, .int (-1), .ref gr]))] := hD
  obtain rfl : r_1 = 0 := hw_2
  refine lv_if_ne (tgt := 13) hx hb dX11_setting_4 (by decide) (fun c_3 => ?_) (fun c_3 => ?_)
  · exact absurd c_3 (by decide)
  refine lv_aload_n hx hb dX11_setting_7 rfl (lv_at hl 0 rfl) ?_
  refine lv_iconst (v := 1) hx hb dX11_setting_8 (by decide) ?_
  have hPc := hP.sub (ws' := [(x0, .inr (11, [.ref rd, .ref dr, .ref bk, .ref st, .ref nw, .ref tr, .ref pl, .ref fl, .ref rg, .int 0, .int 0, .int 0]))]) [0] rfl
  have hDc := hD.sub (ws' := [(x0, .inr (11, [.ref rd, .ref dr, .ref bk, .ref st, .ref nw, .ref tr, .ref pl, .ref fl, .ref rg, .int 0, .int 0, .int 0]))]) [0] (by decide) rfl
  have hKc := hK.sub (tys' := []) [] rfl
  have hFc := va_free (wc := [(x0, .inr (11, [.ref rd, .ref dr, .ref bk, .ref st, .ref nw, .ref tr, .ref pl, .ref fl, .ref rg, .int 0, .int 0, .int 0]))]) hD hS hA [0] rfl
  refine va_calli (va_runV (As := [.int 1]) (rest := []) ⟨hx, hb, hml, hown, hts⟩ (c_refuse l dC dI n0 H.size x0 rd dr bk st nw tr pl fl rg 0 0 0 1 ) (cwV 1 hts (gV (fun w h => wM_c h) wd_722 wd_719 wd_721 wd_0 wd_114) rfl rfl rfl (by decide +kernel) ⟨Nat.le_of_ble_eq_true rfl, Nat.le_of_ble_eq_true rfl⟩) ⟨fun a U g mk q => by obtain ⟨q0, q1, q2, qG, qP, qK, qD⟩ := q; exact ⟨q0, q1, q2, GW.blind qG, qP, va_K.moved (u := U) (U := U.calling g mk a) (Vm.Alike.refl U.vm) qK, qD⟩, va_recv hKc hPc (ci := 11) (q0 := 0) rfl rfl, fun U hU hW => ⟨rfl, by rw [hU], Nat.le_trans hn0 hS.1, GW.go hW hU hG (fun q hq hA9 => hS.2.1 q hq (fun h => hA9 (hA0 q h))), by rw [hU]; exact hPc, va_K.moved hW.alike hKc, hDc.weaken (fun _ _ _ h => hA0 _ h)⟩⟩ rfl rfl hl.1 rfl (lv_room (Nat.le_of_ble_eq_true rfl)) dX11_setting_9 ⟨Nat.le_of_ble_eq_true rfl, Nat.le_of_ble_eq_true rfl⟩) hS (fun q _ h => hFc q h) hFc (fun r_4 u t H1 locs ht hvm hw_5 hB hz1 hk1 hS => ?_)
  obtain ⟨hP1, hK1, hD1⟩ := hB
  rw [ht] at hP1
  obtain ⟨hP, hD⟩ := va_join (wr := [(bk, .inr (0, [.int 0, .ref bk_tail, .ref bk_head, .ref bk_hinder, .ref bk_size, .ref bk_walk, .ref bk_draught, .ref bk_doorIn, .ref bk_fanIn, .ref bk_faceIn, .int 0, .int (-1), .ref gr]))]) (w1 := [(x0, .inr (11, [.ref rd, .ref dr, .ref bk, .ref st, .ref nw, .ref tr, .ref pl, .ref fl, .ref rg, .int 1, .int 0, .int 0]))]) hP hD [0] [1] rfl rfl (by decide) (by decide) hk1 hFc hP1 hD1
  generalize H1 = H at hP hS ⊢
  have hP : va_P (dC, dI) classes [(bk, .inr (0, [.int 0, .ref bk_tail, .ref bk_head, .ref bk_hinder, .ref bk_size, .ref bk_walk, .ref bk_draught, .ref bk_doorIn, .ref bk_fanIn, .ref bk_faceIn, .int 0, .int (-1), .ref gr])), (x0, .inr (11, [.ref rd, .ref dr, .ref bk, .ref st, .ref nw, .ref tr, .ref pl, .ref fl, .ref rg, .int 1, .int 0, .int 0]))] H := hP
  have hD : va_D A [(bk, .inr (0, [.int 0, .ref bk_tail, .ref bk_head, .ref bk_hinder, .ref bk_size, .ref bk_walk, .ref bk_draught, .ref bk_doorIn, .ref bk_fanIn, .ref bk_faceIn, .int 0, .int (-1), .ref gr])), (x0, .inr (11, [.ref rd, .ref dr, .ref bk, .ref st, .ref nw, .ref tr, .ref pl, .ref fl, .ref rg, .int 1, .int 0, .int 0]))] := hD
  obtain rfl : r_4 = (-1) := hw_5
  exact W.iret (v := (-1)) hx hb hr (fun t ht hW => ⟨⟨(-1), (), rfl, rfl, trivial⟩, hS.F ht⟩) hS.2.2 dX11_setting_12
set_option maxHeartbeats 4000000 in
set_option maxRecDepth 100000 in
theorem p_smoke (l : Launch) (dC : Nat → ClassId) (dI : Nat → Nat → Nat) (n0 sz : Nat) (x0 : Nat) (rd : Nat) (dr : Nat) (bk : Nat) (st : Nat) (nw : Nat) (tr : Nat) (pl : Nat) (fl : Nat) (rg : Nat) (bk_tail : Nat) (bk_head : Nat) (bk_hinder : Nat) (bk_size : Nat) (bk_walk : Nat) (bk_draught : Nat) (bk_doorIn : Nat) (bk_fanIn : Nat) (bk_faceIn : Nat) (gr : Nat) (w : Int32) : Met l yX11_smoke (wM yX11_smoke cX11_smoke 3 (some .int)) ({ frames := 1, cells := 0, slots := 0, locals := 21 }) (va_Pc [.ref x0, .int w] (fun U => U.heap.size = sz ∧ n0 ≤ sz ∧ GW n0 U ∧ va_P (dC, dI) classes [(x0, .inr (11, [.ref rd, .ref dr, .ref bk, .ref st, .ref nw, .ref tr, .ref pl, .ref fl, .ref rg, .int 0, .int 0, .int 0])), (bk, .inr (0, [.int 0, .ref bk_tail, .ref bk_head, .ref bk_hinder, .ref bk_size, .ref bk_walk, .ref bk_draught, .ref bk_doorIn, .ref bk_fanIn, .ref bk_faceIn, .int 0, .int (-1), .ref gr]))] U.heap ∧ va_K (dC, dI) classes [] U ∧ va_D (fun q => n0 ≤ q) [(x0, .inr (11, [.ref rd, .ref dr, .ref bk, .ref st, .ref nw, .ref tr, .ref pl, .ref fl, .ref rg, .int 0, .int 0, .int 0])), (bk, .inr (0, [.int 0, .ref bk_tail, .ref bk_head, .ref bk_hinder, .ref bk_size, .ref bk_walk, .ref bk_draught, .ref bk_doorIn, .ref bk_fanIn, .ref bk_faceIn, .int 0, .int (-1), .ref gr]))])) (va_Qi (fun (r : Int32) (_ : Unit) => r = (-1)) (fun (_ : Unit) (_ : State) => True) (va_A [(x0, .inr (11, [.ref rd, .ref dr, .ref bk, .ref st, .ref nw, .ref tr, .ref pl, .ref fl, .ref rg, .int 0, .int 0, .int 0])), (bk, .inr (0, [.int 0, .ref bk_tail, .ref bk_head, .ref bk_hinder, .ref bk_size, .ref bk_walk, .ref bk_draught, .ref bk_doorIn, .ref bk_fanIn, .ref bk_faceIn, .int 0, .int (-1), .ref gr]))] sz)) 0 0 (va_A [(x0, .inr (11, [.ref rd, .ref dr, .ref bk, .ref st, .ref nw, .ref tr, .ref pl, .ref fl, .ref rg, .int 0, .int 0, .int 0])), (bk, .inr (0, [.int 0, .ref bk_tail, .ref bk_head, .ref bk_hinder, .ref bk_size, .ref bk_walk, .ref bk_draught, .ref bk_doorIn, .ref bk_fanIn, .ref bk_faceIn, .int 0, .int (-1), .ref gr]))] sz) := by
  refine Met.ofW (cc := cX11_smoke) (maxL := 3) (ret := (some .int)) (by decide) rfl ?_
  intro p e s m args below meth c s₁ B hml hv
  obtain ⟨rfl, hsz, hn0, hG, hP, hK, hD0⟩ := hv
  have hx := B.exec
  have hb := B.bytes
  have hr := B.returns
  have hts := atoms_spec (ws := wM yX11_smoke cX11_smoke 3 (some .int)) B.pre
  have hown : s.vm.findClass RX11 = some m.cls := findClass_of_methodNamed B.named
  have hlocks := B.notSynchronized
  subst hsz
  have hD := hD0.self (sz := s.heap.size)
  have hA0 := vA_n0 hD0 hn0
  generalize hAe : va_A [(x0, .inr (11, [.ref rd, .ref dr, .ref bk, .ref st, .ref nw, .ref tr, .ref pl, .ref fl, .ref rg, .int 0, .int 0, .int 0])), (bk, .inr (0, [.int 0, .ref bk_tail, .ref bk_head, .ref bk_hinder, .ref bk_size, .ref bk_walk, .ref bk_draught, .ref bk_doorIn, .ref bk_fanIn, .ref bk_faceIn, .int 0, .int (-1), .ref gr]))] s.heap.size = A at hD hA0 ⊢
  have hA : ∀ q : Nat, s.heap.size ≤ q → A q := fun q h => by rw [← hAe]; exact Or.inr h
  have hS : va_S A s.heap s.heap [] := va_S.rf
  have hl := lv_entry ([.ref x0, .int w]) (n := 3) (Nat.le_of_ble_eq_true rfl)
  rw [lg_entry_eq]
  generalize (lg_sl ([.ref x0, .int w]) ++ List.replicate (3 - (lg_sl ([.ref x0, .int w])).length) Slot.unset).toArray = ls at hl ⊢
  have hl : lv_has ls 3 [(0, .ref x0), (1, .int w)] := hl
  refine lv_aload_n hx hb dX11_smoke_0 rfl (lv_at hl 0 rfl) ?_
  refine lv_iload_n hx hb dX11_smoke_1 rfl (lv_at hl 1 rfl) ?_
  have hPc := hP.sub (ws' := [(x0, .inr (11, [.ref rd, .ref dr, .ref bk, .ref st, .ref nw, .ref tr, .ref pl, .ref fl, .ref rg, .int 0, .int 0, .int 0])), (bk, .inr (0, [.int 0, .ref bk_tail, .ref bk_head, .ref bk_hinder, .ref bk_size, .ref bk_walk, .ref bk_draught, .ref bk_doorIn, .ref bk_fanIn, .ref bk_faceIn, .int 0, .int (-1), .ref gr]))]) [0, 1] rfl
  have hDc := hD.sub (ws' := [(x0, .inr (11, [.ref rd, .ref dr, .ref bk, .ref st, .ref nw, .ref tr, .ref pl, .ref fl, .ref rg, .int 0, .int 0, .int 0])), (bk, .inr (0, [.int 0, .ref bk_tail, .ref bk_head, .ref bk_hinder, .ref bk_size, .ref bk_walk, .ref bk_draught, .ref bk_doorIn, .ref bk_fanIn, .ref bk_faceIn, .int 0, .int (-1), .ref gr]))]) [0, 1] (by decide) rfl
  have hKc := hK.sub (tys' := []) [] rfl
  have hFc := va_free (wc := [(x0, .inr (11, [.ref rd, .ref dr, .ref bk, .ref st, .ref nw, .ref tr, .ref pl, .ref fl, .ref rg, .int 0, .int 0, .int 0])), (bk, .inr (0, [.int 0, .ref bk_tail, .ref bk_head, .ref bk_hinder, .ref bk_size, .ref bk_walk, .ref bk_draught, .ref bk_doorIn, .ref bk_fanIn, .ref bk_faceIn, .int 0, .int (-1), .ref gr]))]) hD hS hA [0, 1] rfl
  refine va_calli (va_runV (As := [.int w]) (rest := []) ⟨hx, hb, hml, hown, hts⟩ (c_isWay l dC dI n0 s.heap.size x0 rd dr bk st nw tr pl fl rg 0 0 0 bk_tail bk_head bk_hinder bk_size bk_walk bk_draught bk_doorIn bk_fanIn bk_faceIn gr w ) (cwV 1 hts (gV (fun w h => wM_c h) wd_950 wd_947 wd_949 wd_25 wd_114) rfl rfl rfl (by decide +kernel) ⟨Nat.le_of_ble_eq_true rfl, Nat.le_of_ble_eq_true rfl⟩) ⟨fun a U g mk q => by obtain ⟨q0, q1, q2, qG, qP, qK, qD⟩ := q; exact ⟨q0, q1, q2, GW.blind qG, qP, va_K.moved (u := U) (U := U.calling g mk a) (Vm.Alike.refl U.vm) qK, qD⟩, va_recv hKc hPc (ci := 11) (q0 := 0) rfl rfl, fun U hU hW => ⟨rfl, by rw [hU], Nat.le_trans hn0 hS.1, GW.go hW hU hG (fun q hq hA9 => hS.2.1 q hq (fun h => hA9 (hA0 q h))), by rw [hU]; exact hPc, va_K.moved hW.alike hKc, hDc.weaken (fun _ _ _ h => hA0 _ h)⟩⟩ rfl rfl hl.1 rfl (lv_room (Nat.le_of_ble_eq_true rfl)) dX11_smoke_2 ⟨Nat.le_of_ble_eq_true rfl, Nat.le_of_ble_eq_true rfl⟩) hS (fun q _ h => hFc q h) hFc (fun r_1 u t H1 locs ht hvm hw_2 hB hz1 hk1 hS => ?_)
  obtain ⟨hP1, hK1, hD1⟩ := hB
  rw [ht] at hP1
  obtain ⟨hP, hD⟩ := va_join (wr := []) (w1 := [(x0, .inr (11, [.ref rd, .ref dr, .ref bk, .ref st, .ref nw, .ref tr, .ref pl, .ref fl, .ref rg, .int 0, .int 0, .int 0])), (bk, .inr (0, [.int 0, .ref bk_tail, .ref bk_head, .ref bk_hinder, .ref bk_size, .ref bk_walk, .ref bk_draught, .ref bk_doorIn, .ref bk_fanIn, .ref bk_faceIn, .int 0, .int (-1), .ref gr]))]) hP hD [0, 1] [] rfl rfl (by decide) (by decide) hk1 hFc hP1 hD1
  generalize H1 = H at hP hS ⊢
  have hP : va_P (dC, dI) classes [(x0, .inr (11, [.ref rd, .ref dr, .ref bk, .ref st, .ref nw, .ref tr, .ref pl, .ref fl, .ref rg, .int 0, .int 0, .int 0])), (bk, .inr (0, [.int 0, .ref bk_tail, .ref bk_head, .ref bk_hinder, .ref bk_size, .ref bk_walk, .ref bk_draught, .ref bk_doorIn, .ref bk_fanIn, .ref bk_faceIn, .int 0, .int (-1), .ref gr]))] H := hP
  have hD : va_D A [(x0, .inr (11, [.ref rd, .ref dr, .ref bk, .ref st, .ref nw, .ref tr, .ref pl, .ref fl, .ref rg, .int 0, .int 0, .int 0])), (bk, .inr (0, [.int 0, .ref bk_tail, .ref bk_head, .ref bk_hinder, .ref bk_size, .ref bk_walk, .ref bk_draught, .ref bk_doorIn, .ref bk_fanIn, .ref bk_faceIn, .int 0, .int (-1), .ref gr]))] := hD
  obtain rfl : r_1 = 0 := hw_2
  refine lv_if_ne (tgt := 14) hx hb dX11_smoke_5 (by decide) (fun c_3 => ?_) (fun c_3 => ?_)
  · exact absurd c_3 (by decide)
  refine lv_aload_n hx hb dX11_smoke_8 rfl (lv_at hl 0 rfl) ?_
  refine lv_iconst (v := 1) hx hb dX11_smoke_9 (by decide) ?_
  have hPc := hP.sub (ws' := [(x0, .inr (11, [.ref rd, .ref dr, .ref bk, .ref st, .ref nw, .ref tr, .ref pl, .ref fl, .ref rg, .int 0, .int 0, .int 0]))]) [0] rfl
  have hDc := hD.sub (ws' := [(x0, .inr (11, [.ref rd, .ref dr, .ref bk, .ref st, .ref nw, .ref tr, .ref pl, .ref fl, .ref rg, .int 0, .int 0, .int 0]))]) [0] (by decide) rfl
  have hKc := hK.sub (tys' := []) [] rfl
  have hFc := va_free (wc := [(x0, .inr (11, [.ref rd, .ref dr, .ref bk, .ref st, .ref nw, .ref tr, .ref pl, .ref fl, .ref rg, .int 0, .int 0, .int 0]))]) hD hS hA [0] rfl
  refine va_calli (va_runV (As := [.int 1]) (rest := []) ⟨hx, hb, hml, hown, hts⟩ (c_refuse l dC dI n0 H.size x0 rd dr bk st nw tr pl fl rg 0 0 0 1 ) (cwV 1 hts (gV (fun w h => wM_c h) wd_722 wd_719 wd_721 wd_0 wd_114) rfl rfl rfl (by decide +kernel) ⟨Nat.le_of_ble_eq_true rfl, Nat.le_of_ble_eq_true rfl⟩) ⟨fun a U g mk q => by obtain ⟨q0, q1, q2, qG, qP, qK, qD⟩ := q; exact ⟨q0, q1, q2, GW.blind qG, qP, va_K.moved (u := U) (U := U.calling g mk a) (Vm.Alike.refl U.vm) qK, qD⟩, va_recv hKc hPc (ci := 11) (q0 := 0) rfl rfl, fun U hU hW => ⟨rfl, by rw [hU], Nat.le_trans hn0 hS.1, GW.go hW hU hG (fun q hq hA9 => hS.2.1 q hq (fun h => hA9 (hA0 q h))), by rw [hU]; exact hPc, va_K.moved hW.alike hKc, hDc.weaken (fun _ _ _ h => hA0 _ h)⟩⟩ rfl rfl hl.1 rfl (lv_room (Nat.le_of_ble_eq_true rfl)) dX11_smoke_10 ⟨Nat.le_of_ble_eq_true rfl, Nat.le_of_ble_eq_true rfl⟩) hS (fun q _ h => hFc q h) hFc (fun r_4 u t H1 locs ht hvm hw_5 hB hz1 hk1 hS => ?_)
  obtain ⟨hP1, hK1, hD1⟩ := hB
  rw [ht] at hP1
  obtain ⟨hP, hD⟩ := va_join (wr := [(bk, .inr (0, [.int 0, .ref bk_tail, .ref bk_head, .ref bk_hinder, .ref bk_size, .ref bk_walk, .ref bk_draught, .ref bk_doorIn, .ref bk_fanIn, .ref bk_faceIn, .int 0, .int (-1), .ref gr]))]) (w1 := [(x0, .inr (11, [.ref rd, .ref dr, .ref bk, .ref st, .ref nw, .ref tr, .ref pl, .ref fl, .ref rg, .int 1, .int 0, .int 0]))]) hP hD [0] [1] rfl rfl (by decide) (by decide) hk1 hFc hP1 hD1
  generalize H1 = H at hP hS ⊢
  have hP : va_P (dC, dI) classes [(bk, .inr (0, [.int 0, .ref bk_tail, .ref bk_head, .ref bk_hinder, .ref bk_size, .ref bk_walk, .ref bk_draught, .ref bk_doorIn, .ref bk_fanIn, .ref bk_faceIn, .int 0, .int (-1), .ref gr])), (x0, .inr (11, [.ref rd, .ref dr, .ref bk, .ref st, .ref nw, .ref tr, .ref pl, .ref fl, .ref rg, .int 1, .int 0, .int 0]))] H := hP
  have hD : va_D A [(bk, .inr (0, [.int 0, .ref bk_tail, .ref bk_head, .ref bk_hinder, .ref bk_size, .ref bk_walk, .ref bk_draught, .ref bk_doorIn, .ref bk_fanIn, .ref bk_faceIn, .int 0, .int (-1), .ref gr])), (x0, .inr (11, [.ref rd, .ref dr, .ref bk, .ref st, .ref nw, .ref tr, .ref pl, .ref fl, .ref rg, .int 1, .int 0, .int 0]))] := hD
  obtain rfl : r_4 = (-1) := hw_5
  exact W.iret (v := (-1)) hx hb hr (fun t ht hW => ⟨⟨(-1), (), rfl, rfl, trivial⟩, hS.F ht⟩) hS.2.2 dX11_smoke_13
set_option maxHeartbeats 4000000 in
set_option maxRecDepth 100000 in
theorem p_man (l : Launch) (dC : Nat → ClassId) (dI : Nat → Nat → Nat) (n0 sz : Nat) (x0 : Nat) (rd : Nat) (dr : Nat) (bk : Nat) (st : Nat) (nw : Nat) (tr : Nat) (pl : Nat) (fl : Nat) (rg : Nat) (bk_tail : Nat) (bk_head : Nat) (bk_hinder : Nat) (bk_size : Nat) (bk_walk : Nat) (bk_draught : Nat) (bk_doorIn : Nat) (bk_fanIn : Nat) (bk_faceIn : Nat) (gr : Nat) (w : Int32) : Met l yX11_man (wM yX11_man cX11_man 2 (some .int)) ({ frames := 1, cells := 0, slots := 0, locals := 21 }) (va_Pc [.ref x0, .int w] (fun U => U.heap.size = sz ∧ n0 ≤ sz ∧ GW n0 U ∧ va_P (dC, dI) classes [(x0, .inr (11, [.ref rd, .ref dr, .ref bk, .ref st, .ref nw, .ref tr, .ref pl, .ref fl, .ref rg, .int 0, .int 0, .int 0])), (bk, .inr (0, [.int 0, .ref bk_tail, .ref bk_head, .ref bk_hinder, .ref bk_size, .ref bk_walk, .ref bk_draught, .ref bk_doorIn, .ref bk_fanIn, .ref bk_faceIn, .int 0, .int (-1), .ref gr]))] U.heap ∧ va_K (dC, dI) classes [] U ∧ va_D (fun q => n0 ≤ q) [(x0, .inr (11, [.ref rd, .ref dr, .ref bk, .ref st, .ref nw, .ref tr, .ref pl, .ref fl, .ref rg, .int 0, .int 0, .int 0])), (bk, .inr (0, [.int 0, .ref bk_tail, .ref bk_head, .ref bk_hinder, .ref bk_size, .ref bk_walk, .ref bk_draught, .ref bk_doorIn, .ref bk_fanIn, .ref bk_faceIn, .int 0, .int (-1), .ref gr]))])) (va_Qi (fun (r : Int32) (_ : Unit) => r = (-1)) (fun (_ : Unit) (_ : State) => True) (va_A [(x0, .inr (11, [.ref rd, .ref dr, .ref bk, .ref st, .ref nw, .ref tr, .ref pl, .ref fl, .ref rg, .int 0, .int 0, .int 0])), (bk, .inr (0, [.int 0, .ref bk_tail, .ref bk_head, .ref bk_hinder, .ref bk_size, .ref bk_walk, .ref bk_draught, .ref bk_doorIn, .ref bk_fanIn, .ref bk_faceIn, .int 0, .int (-1), .ref gr]))] sz)) 0 0 (va_A [(x0, .inr (11, [.ref rd, .ref dr, .ref bk, .ref st, .ref nw, .ref tr, .ref pl, .ref fl, .ref rg, .int 0, .int 0, .int 0])), (bk, .inr (0, [.int 0, .ref bk_tail, .ref bk_head, .ref bk_hinder, .ref bk_size, .ref bk_walk, .ref bk_draught, .ref bk_doorIn, .ref bk_fanIn, .ref bk_faceIn, .int 0, .int (-1), .ref gr]))] sz) := by
  refine Met.ofW (cc := cX11_man) (maxL := 2) (ret := (some .int)) (by decide) rfl ?_
  intro p e s m args below meth c s₁ B hml hv
  obtain ⟨rfl, hsz, hn0, hG, hP, hK, hD0⟩ := hv
  have hx := B.exec
  have hb := B.bytes
  have hr := B.returns
  have hts := atoms_spec (ws := wM yX11_man cX11_man 2 (some .int)) B.pre
  have hown : s.vm.findClass RX11 = some m.cls := findClass_of_methodNamed B.named
  have hlocks := B.notSynchronized
  subst hsz
  have hD := hD0.self (sz := s.heap.size)
  have hA0 := vA_n0 hD0 hn0
  generalize hAe : va_A [(x0, .inr (11, [.ref rd, .ref dr, .ref bk, .ref st, .ref nw, .ref tr, .ref pl, .ref fl, .ref rg, .int 0, .int 0, .int 0])), (bk, .inr (0, [.int 0, .ref bk_tail, .ref bk_head, .ref bk_hinder, .ref bk_size, .ref bk_walk, .ref bk_draught, .ref bk_doorIn, .ref bk_fanIn, .ref bk_faceIn, .int 0, .int (-1), .ref gr]))] s.heap.size = A at hD hA0 ⊢
  have hA : ∀ q : Nat, s.heap.size ≤ q → A q := fun q h => by rw [← hAe]; exact Or.inr h
  have hS : va_S A s.heap s.heap [] := va_S.rf
  have hl := lv_entry ([.ref x0, .int w]) (n := 2) (Nat.le_of_ble_eq_true rfl)
  rw [lg_entry_eq]
  generalize (lg_sl ([.ref x0, .int w]) ++ List.replicate (2 - (lg_sl ([.ref x0, .int w])).length) Slot.unset).toArray = ls at hl ⊢
  have hl : lv_has ls 2 [(0, .ref x0), (1, .int w)] := hl
  refine lv_iload_n hx hb dX11_man_0 rfl (lv_at hl 1 rfl) ?_
  refine lv_if_lt (tgt := 15) hx hb dX11_man_1 (by decide) (fun c_1 => ?_) (fun c_1 => ?_)
  · skip
    refine lv_aload_n hx hb dX11_man_15 rfl (lv_at hl 0 rfl) ?_
    refine lv_iconst (v := 1) hx hb dX11_man_16 (by decide) ?_
    have hPc := hP.sub (ws' := [(x0, .inr (11, [.ref rd, .ref dr, .ref bk, .ref st, .ref nw, .ref tr, .ref pl, .ref fl, .ref rg, .int 0, .int 0, .int 0]))]) [0] rfl
    have hDc := hD.sub (ws' := [(x0, .inr (11, [.ref rd, .ref dr, .ref bk, .ref st, .ref nw, .ref tr, .ref pl, .ref fl, .ref rg, .int 0, .int 0, .int 0]))]) [0] (by decide) rfl
    have hKc := hK.sub (tys' := []) [] rfl
    have hFc := va_free (wc := [(x0, .inr (11, [.ref rd, .ref dr, .ref bk, .ref st, .ref nw, .ref tr, .ref pl, .ref fl, .ref rg, .int 0, .int 0, .int 0]))]) hD hS hA [0] rfl
    refine va_calli (va_runV (As := [.int 1]) (rest := []) ⟨hx, hb, hml, hown, hts⟩ (c_refuse l dC dI n0 s.heap.size x0 rd dr bk st nw tr pl fl rg 0 0 0 1 ) (cwV 1 hts (gV (fun w h => wM_c h) wd_722 wd_719 wd_721 wd_0 wd_114) rfl rfl rfl (by decide +kernel) ⟨Nat.le_of_ble_eq_true rfl, Nat.le_of_ble_eq_true rfl⟩) ⟨fun a U g mk q => by obtain ⟨q0, q1, q2, qG, qP, qK, qD⟩ := q; exact ⟨q0, q1, q2, GW.blind qG, qP, va_K.moved (u := U) (U := U.calling g mk a) (Vm.Alike.refl U.vm) qK, qD⟩, va_recv hKc hPc (ci := 11) (q0 := 0) rfl rfl, fun U hU hW => ⟨rfl, by rw [hU], Nat.le_trans hn0 hS.1, GW.go hW hU hG (fun q hq hA9 => hS.2.1 q hq (fun h => hA9 (hA0 q h))), by rw [hU]; exact hPc, va_K.moved hW.alike hKc, hDc.weaken (fun _ _ _ h => hA0 _ h)⟩⟩ rfl rfl hl.1 rfl (lv_room (Nat.le_of_ble_eq_true rfl)) dX11_man_17 ⟨Nat.le_of_ble_eq_true rfl, Nat.le_of_ble_eq_true rfl⟩) hS (fun q _ h => hFc q h) hFc (fun r_2 u t H1 locs ht hvm hw_3 hB hz1 hk1 hS => ?_)
    obtain ⟨hP1, hK1, hD1⟩ := hB
    rw [ht] at hP1
    obtain ⟨hP, hD⟩ := va_join (wr := [(bk, .inr (0, [.int 0, .ref bk_tail, .ref bk_head, .ref bk_hinder, .ref bk_size, .ref bk_walk, .ref bk_draught, .ref bk_doorIn, .ref bk_fanIn, .ref bk_faceIn, .int 0, .int (-1), .ref gr]))]) (w1 := [(x0, .inr (11, [.ref rd, .ref dr, .ref bk, .ref st, .ref nw, .ref tr, .ref pl, .ref fl, .ref rg, .int 1, .int 0, .int 0]))]) hP hD [0] [1] rfl rfl (by decide) (by decide) hk1 hFc hP1 hD1
    generalize H1 = H at hP hS ⊢
    have hP : va_P (dC, dI) classes [(bk, .inr (0, [.int 0, .ref bk_tail, .ref bk_head, .ref bk_hinder, .ref bk_size, .ref bk_walk, .ref bk_draught, .ref bk_doorIn, .ref bk_fanIn, .ref bk_faceIn, .int 0, .int (-1), .ref gr])), (x0, .inr (11, [.ref rd, .ref dr, .ref bk, .ref st, .ref nw, .ref tr, .ref pl, .ref fl, .ref rg, .int 1, .int 0, .int 0]))] H := hP
    have hD : va_D A [(bk, .inr (0, [.int 0, .ref bk_tail, .ref bk_head, .ref bk_hinder, .ref bk_size, .ref bk_walk, .ref bk_draught, .ref bk_doorIn, .ref bk_fanIn, .ref bk_faceIn, .int 0, .int (-1), .ref gr])), (x0, .inr (11, [.ref rd, .ref dr, .ref bk, .ref st, .ref nw, .ref tr, .ref pl, .ref fl, .ref rg, .int 1, .int 0, .int 0]))] := hD
    obtain rfl : r_2 = (-1) := hw_3
    exact W.iret (v := (-1)) hx hb hr (fun t ht hW => ⟨⟨(-1), (), rfl, rfl, trivial⟩, hS.F ht⟩) hS.2.2 dX11_man_20
  · skip
    refine lv_iload_n hx hb dX11_man_4 rfl (lv_at hl 1 rfl) ?_
    refine lv_aload_n hx hb dX11_man_5 rfl (lv_at hl 0 rfl) ?_
    refine va_get (D := (dC, dI)) (ci := 11) (v := .ref bk) (C := RX11) (T := TX11) (N := 12) hx hb hts (fun w h => wM_c (iX11 w h)) hown hK hP 0 rfl rfl 2 (by decide) (hts _ (wM_c wd_672)) (fun _ h9 => h9) rfl dX11_man_6 ?_
    refine va_get (D := (dC, dI)) (ci := 0) (v := .int 0) (C := RX0) (T := TX0) (N := 13) hx hb hts (fun w h => wM_c (iX0 w h)) hown hK hP 1 rfl rfl 10 (by decide) (hts _ (wM_c wd_287)) (fun _ h9 => h9) rfl dX11_man_9 ?_
    refine lv_icmp_lt (tgt := 21) hx hb dX11_man_12 (by decide) (fun c_4 => ?_) (fun c_4 => ?_)
    · exact absurd c_4 c_1
    refine lv_aload_n hx hb dX11_man_15 rfl (lv_at hl 0 rfl) ?_
    refine lv_iconst (v := 1) hx hb dX11_man_16 (by decide) ?_
    have hPc := hP.sub (ws' := [(x0, .inr (11, [.ref rd, .ref dr, .ref bk, .ref st, .ref nw, .ref tr, .ref pl, .ref fl, .ref rg, .int 0, .int 0, .int 0]))]) [0] rfl
    have hDc := hD.sub (ws' := [(x0, .inr (11, [.ref rd, .ref dr, .ref bk, .ref st, .ref nw, .ref tr, .ref pl, .ref fl, .ref rg, .int 0, .int 0, .int 0]))]) [0] (by decide) rfl
    have hKc := hK.sub (tys' := []) [] rfl
    have hFc := va_free (wc := [(x0, .inr (11, [.ref rd, .ref dr, .ref bk, .ref st, .ref nw, .ref tr, .ref pl, .ref fl, .ref rg, .int 0, .int 0, .int 0]))]) hD hS hA [0] rfl
    refine va_calli (va_runV (As := [.int 1]) (rest := []) ⟨hx, hb, hml, hown, hts⟩ (c_refuse l dC dI n0 s.heap.size x0 rd dr bk st nw tr pl fl rg 0 0 0 1 ) (cwV 1 hts (gV (fun w h => wM_c h) wd_722 wd_719 wd_721 wd_0 wd_114) rfl rfl rfl (by decide +kernel) ⟨Nat.le_of_ble_eq_true rfl, Nat.le_of_ble_eq_true rfl⟩) ⟨fun a U g mk q => by obtain ⟨q0, q1, q2, qG, qP, qK, qD⟩ := q; exact ⟨q0, q1, q2, GW.blind qG, qP, va_K.moved (u := U) (U := U.calling g mk a) (Vm.Alike.refl U.vm) qK, qD⟩, va_recv hKc hPc (ci := 11) (q0 := 0) rfl rfl, fun U hU hW => ⟨rfl, by rw [hU], Nat.le_trans hn0 hS.1, GW.go hW hU hG (fun q hq hA9 => hS.2.1 q hq (fun h => hA9 (hA0 q h))), by rw [hU]; exact hPc, va_K.moved hW.alike hKc, hDc.weaken (fun _ _ _ h => hA0 _ h)⟩⟩ rfl rfl hl.1 rfl (lv_room (Nat.le_of_ble_eq_true rfl)) dX11_man_17 ⟨Nat.le_of_ble_eq_true rfl, Nat.le_of_ble_eq_true rfl⟩) hS (fun q _ h => hFc q h) hFc (fun r_5 u t H1 locs ht hvm hw_6 hB hz1 hk1 hS => ?_)
    obtain ⟨hP1, hK1, hD1⟩ := hB
    rw [ht] at hP1
    obtain ⟨hP, hD⟩ := va_join (wr := [(bk, .inr (0, [.int 0, .ref bk_tail, .ref bk_head, .ref bk_hinder, .ref bk_size, .ref bk_walk, .ref bk_draught, .ref bk_doorIn, .ref bk_fanIn, .ref bk_faceIn, .int 0, .int (-1), .ref gr]))]) (w1 := [(x0, .inr (11, [.ref rd, .ref dr, .ref bk, .ref st, .ref nw, .ref tr, .ref pl, .ref fl, .ref rg, .int 1, .int 0, .int 0]))]) hP hD [0] [1] rfl rfl (by decide) (by decide) hk1 hFc hP1 hD1
    generalize H1 = H at hP hS ⊢
    have hP : va_P (dC, dI) classes [(bk, .inr (0, [.int 0, .ref bk_tail, .ref bk_head, .ref bk_hinder, .ref bk_size, .ref bk_walk, .ref bk_draught, .ref bk_doorIn, .ref bk_fanIn, .ref bk_faceIn, .int 0, .int (-1), .ref gr])), (x0, .inr (11, [.ref rd, .ref dr, .ref bk, .ref st, .ref nw, .ref tr, .ref pl, .ref fl, .ref rg, .int 1, .int 0, .int 0]))] H := hP
    have hD : va_D A [(bk, .inr (0, [.int 0, .ref bk_tail, .ref bk_head, .ref bk_hinder, .ref bk_size, .ref bk_walk, .ref bk_draught, .ref bk_doorIn, .ref bk_fanIn, .ref bk_faceIn, .int 0, .int (-1), .ref gr])), (x0, .inr (11, [.ref rd, .ref dr, .ref bk, .ref st, .ref nw, .ref tr, .ref pl, .ref fl, .ref rg, .int 1, .int 0, .int 0]))] := hD
    obtain rfl : r_5 = (-1) := hw_6
    exact W.iret (v := (-1)) hx hb hr (fun t ht hW => ⟨⟨(-1), (), rfl, rfl, trivial⟩, hS.F ht⟩) hS.2.2 dX11_man_20
set_option maxHeartbeats 4000000 in
set_option maxRecDepth 100000 in
theorem p_out (l : Launch) (dC : Nat → ClassId) (dI : Nat → Nat → Nat) (n0 sz : Nat) (x0 : Nat) (rd : Nat) (dr : Nat) (bk : Nat) (st : Nat) (nw : Nat) (tr : Nat) (pl : Nat) (fl : Nat) (rg : Nat) (fl_knotOf : Nat) (fl_smokeAt : Nat) (fl_reach : Nat) (fl_route : Nat) (fl_book : Nat) (fl_state : Nat) (fl_smokeIn : Nat) (w : Int32) : Met l yX11_out (wM yX11_out cX11_out 2 (some .int)) ({ frames := 1, cells := 0, slots := 0, locals := 21 }) (va_Pc [.ref x0, .int w] (fun U => U.heap.size = sz ∧ n0 ≤ sz ∧ GW n0 U ∧ va_P (dC, dI) classes [(x0, .inr (11, [.ref rd, .ref dr, .ref bk, .ref st, .ref nw, .ref tr, .ref pl, .ref fl, .ref rg, .int 0, .int 0, .int 0])), (fl, .inr (1, [.int 0, .ref fl_knotOf, .ref fl_smokeAt, .ref fl_reach, .ref fl_route, .ref fl_book, .ref fl_state, .ref fl_smokeIn]))] U.heap ∧ va_K (dC, dI) classes [] U ∧ va_D (fun q => n0 ≤ q) [(x0, .inr (11, [.ref rd, .ref dr, .ref bk, .ref st, .ref nw, .ref tr, .ref pl, .ref fl, .ref rg, .int 0, .int 0, .int 0])), (fl, .inr (1, [.int 0, .ref fl_knotOf, .ref fl_smokeAt, .ref fl_reach, .ref fl_route, .ref fl_book, .ref fl_state, .ref fl_smokeIn]))])) (va_Qi (fun (r : Int32) (_ : Unit) => r = (-1)) (fun (_ : Unit) (_ : State) => True) (va_A [(x0, .inr (11, [.ref rd, .ref dr, .ref bk, .ref st, .ref nw, .ref tr, .ref pl, .ref fl, .ref rg, .int 0, .int 0, .int 0])), (fl, .inr (1, [.int 0, .ref fl_knotOf, .ref fl_smokeAt, .ref fl_reach, .ref fl_route, .ref fl_book, .ref fl_state, .ref fl_smokeIn]))] sz)) 0 0 (va_A [(x0, .inr (11, [.ref rd, .ref dr, .ref bk, .ref st, .ref nw, .ref tr, .ref pl, .ref fl, .ref rg, .int 0, .int 0, .int 0])), (fl, .inr (1, [.int 0, .ref fl_knotOf, .ref fl_smokeAt, .ref fl_reach, .ref fl_route, .ref fl_book, .ref fl_state, .ref fl_smokeIn]))] sz) := by
  refine Met.ofW (cc := cX11_out) (maxL := 2) (ret := (some .int)) (by decide) rfl ?_
  intro p e s m args below meth c s₁ B hml hv
  obtain ⟨rfl, hsz, hn0, hG, hP, hK, hD0⟩ := hv
  have hx := B.exec
  have hb := B.bytes
  have hr := B.returns
  have hts := atoms_spec (ws := wM yX11_out cX11_out 2 (some .int)) B.pre
  have hown : s.vm.findClass RX11 = some m.cls := findClass_of_methodNamed B.named
  have hlocks := B.notSynchronized
  subst hsz
  have hD := hD0.self (sz := s.heap.size)
  have hA0 := vA_n0 hD0 hn0
  generalize hAe : va_A [(x0, .inr (11, [.ref rd, .ref dr, .ref bk, .ref st, .ref nw, .ref tr, .ref pl, .ref fl, .ref rg, .int 0, .int 0, .int 0])), (fl, .inr (1, [.int 0, .ref fl_knotOf, .ref fl_smokeAt, .ref fl_reach, .ref fl_route, .ref fl_book, .ref fl_state, .ref fl_smokeIn]))] s.heap.size = A at hD hA0 ⊢
  have hA : ∀ q : Nat, s.heap.size ≤ q → A q := fun q h => by rw [← hAe]; exact Or.inr h
  have hS : va_S A s.heap s.heap [] := va_S.rf
  have hl := lv_entry ([.ref x0, .int w]) (n := 2) (Nat.le_of_ble_eq_true rfl)
  rw [lg_entry_eq]
  generalize (lg_sl ([.ref x0, .int w]) ++ List.replicate (2 - (lg_sl ([.ref x0, .int w])).length) Slot.unset).toArray = ls at hl ⊢
  have hl : lv_has ls 2 [(0, .ref x0), (1, .int w)] := hl
  refine lv_aload_n hx hb dX11_out_0 rfl (lv_at hl 0 rfl) ?_
  refine lv_iload_n hx hb dX11_out_1 rfl (lv_at hl 1 rfl) ?_
  have hPc := hP.sub (ws' := [(x0, .inr (11, [.ref rd, .ref dr, .ref bk, .ref st, .ref nw, .ref tr, .ref pl, .ref fl, .ref rg, .int 0, .int 0, .int 0])), (fl, .inr (1, [.int 0, .ref fl_knotOf, .ref fl_smokeAt, .ref fl_reach, .ref fl_route, .ref fl_book, .ref fl_state, .ref fl_smokeIn]))]) [0, 1] rfl
  have hDc := hD.sub (ws' := [(x0, .inr (11, [.ref rd, .ref dr, .ref bk, .ref st, .ref nw, .ref tr, .ref pl, .ref fl, .ref rg, .int 0, .int 0, .int 0])), (fl, .inr (1, [.int 0, .ref fl_knotOf, .ref fl_smokeAt, .ref fl_reach, .ref fl_route, .ref fl_book, .ref fl_state, .ref fl_smokeIn]))]) [0, 1] (by decide) rfl
  have hKc := hK.sub (tys' := []) [] rfl
  have hFc := va_free (wc := [(x0, .inr (11, [.ref rd, .ref dr, .ref bk, .ref st, .ref nw, .ref tr, .ref pl, .ref fl, .ref rg, .int 0, .int 0, .int 0])), (fl, .inr (1, [.int 0, .ref fl_knotOf, .ref fl_smokeAt, .ref fl_reach, .ref fl_route, .ref fl_book, .ref fl_state, .ref fl_smokeIn]))]) hD hS hA [0, 1] rfl
  refine va_calli (va_runV (As := [.int w]) (rest := []) ⟨hx, hb, hml, hown, hts⟩ (c_isMan l dC dI n0 s.heap.size x0 rd dr bk st nw tr pl fl rg 0 0 0 fl_knotOf fl_smokeAt fl_reach fl_route fl_book fl_state fl_smokeIn w ) (cwV 1 hts (gV (fun w h => wM_c h) wd_1245 wd_1242 wd_1244 wd_49 wd_114) rfl rfl rfl (by decide +kernel) ⟨Nat.le_of_ble_eq_true rfl, Nat.le_of_ble_eq_true rfl⟩) ⟨fun a U g mk q => by obtain ⟨q0, q1, q2, qG, qP, qK, qD⟩ := q; exact ⟨q0, q1, q2, GW.blind qG, qP, va_K.moved (u := U) (U := U.calling g mk a) (Vm.Alike.refl U.vm) qK, qD⟩, va_recv hKc hPc (ci := 11) (q0 := 0) rfl rfl, fun U hU hW => ⟨rfl, by rw [hU], Nat.le_trans hn0 hS.1, GW.go hW hU hG (fun q hq hA9 => hS.2.1 q hq (fun h => hA9 (hA0 q h))), by rw [hU]; exact hPc, va_K.moved hW.alike hKc, hDc.weaken (fun _ _ _ h => hA0 _ h)⟩⟩ rfl rfl hl.1 rfl (lv_room (Nat.le_of_ble_eq_true rfl)) dX11_out_2 ⟨Nat.le_of_ble_eq_true rfl, Nat.le_of_ble_eq_true rfl⟩) hS (fun q _ h => hFc q h) hFc (fun r_1 u t H1 locs ht hvm hw_2 hB hz1 hk1 hS => ?_)
  obtain ⟨hP1, hK1, hD1⟩ := hB
  rw [ht] at hP1
  obtain ⟨hP, hD⟩ := va_join (wr := []) (w1 := [(x0, .inr (11, [.ref rd, .ref dr, .ref bk, .ref st, .ref nw, .ref tr, .ref pl, .ref fl, .ref rg, .int 0, .int 0, .int 0])), (fl, .inr (1, [.int 0, .ref fl_knotOf, .ref fl_smokeAt, .ref fl_reach, .ref fl_route, .ref fl_book, .ref fl_state, .ref fl_smokeIn]))]) hP hD [0, 1] [] rfl rfl (by decide) (by decide) hk1 hFc hP1 hD1
  generalize H1 = H at hP hS ⊢
  have hP : va_P (dC, dI) classes [(x0, .inr (11, [.ref rd, .ref dr, .ref bk, .ref st, .ref nw, .ref tr, .ref pl, .ref fl, .ref rg, .int 0, .int 0, .int 0])), (fl, .inr (1, [.int 0, .ref fl_knotOf, .ref fl_smokeAt, .ref fl_reach, .ref fl_route, .ref fl_book, .ref fl_state, .ref fl_smokeIn]))] H := hP
  have hD : va_D A [(x0, .inr (11, [.ref rd, .ref dr, .ref bk, .ref st, .ref nw, .ref tr, .ref pl, .ref fl, .ref rg, .int 0, .int 0, .int 0])), (fl, .inr (1, [.int 0, .ref fl_knotOf, .ref fl_smokeAt, .ref fl_reach, .ref fl_route, .ref fl_book, .ref fl_state, .ref fl_smokeIn]))] := hD
  obtain rfl : r_1 = 0 := hw_2
  refine lv_if_ne (tgt := 14) hx hb dX11_out_5 (by decide) (fun c_3 => ?_) (fun c_3 => ?_)
  · exact absurd c_3 (by decide)
  refine lv_aload_n hx hb dX11_out_8 rfl (lv_at hl 0 rfl) ?_
  refine lv_iconst (v := 1) hx hb dX11_out_9 (by decide) ?_
  have hPc := hP.sub (ws' := [(x0, .inr (11, [.ref rd, .ref dr, .ref bk, .ref st, .ref nw, .ref tr, .ref pl, .ref fl, .ref rg, .int 0, .int 0, .int 0]))]) [0] rfl
  have hDc := hD.sub (ws' := [(x0, .inr (11, [.ref rd, .ref dr, .ref bk, .ref st, .ref nw, .ref tr, .ref pl, .ref fl, .ref rg, .int 0, .int 0, .int 0]))]) [0] (by decide) rfl
  have hKc := hK.sub (tys' := []) [] rfl
  have hFc := va_free (wc := [(x0, .inr (11, [.ref rd, .ref dr, .ref bk, .ref st, .ref nw, .ref tr, .ref pl, .ref fl, .ref rg, .int 0, .int 0, .int 0]))]) hD hS hA [0] rfl
  refine va_calli (va_runV (As := [.int 1]) (rest := []) ⟨hx, hb, hml, hown, hts⟩ (c_refuse l dC dI n0 H.size x0 rd dr bk st nw tr pl fl rg 0 0 0 1 ) (cwV 1 hts (gV (fun w h => wM_c h) wd_722 wd_719 wd_721 wd_0 wd_114) rfl rfl rfl (by decide +kernel) ⟨Nat.le_of_ble_eq_true rfl, Nat.le_of_ble_eq_true rfl⟩) ⟨fun a U g mk q => by obtain ⟨q0, q1, q2, qG, qP, qK, qD⟩ := q; exact ⟨q0, q1, q2, GW.blind qG, qP, va_K.moved (u := U) (U := U.calling g mk a) (Vm.Alike.refl U.vm) qK, qD⟩, va_recv hKc hPc (ci := 11) (q0 := 0) rfl rfl, fun U hU hW => ⟨rfl, by rw [hU], Nat.le_trans hn0 hS.1, GW.go hW hU hG (fun q hq hA9 => hS.2.1 q hq (fun h => hA9 (hA0 q h))), by rw [hU]; exact hPc, va_K.moved hW.alike hKc, hDc.weaken (fun _ _ _ h => hA0 _ h)⟩⟩ rfl rfl hl.1 rfl (lv_room (Nat.le_of_ble_eq_true rfl)) dX11_out_10 ⟨Nat.le_of_ble_eq_true rfl, Nat.le_of_ble_eq_true rfl⟩) hS (fun q _ h => hFc q h) hFc (fun r_4 u t H1 locs ht hvm hw_5 hB hz1 hk1 hS => ?_)
  obtain ⟨hP1, hK1, hD1⟩ := hB
  rw [ht] at hP1
  obtain ⟨hP, hD⟩ := va_join (wr := [(fl, .inr (1, [.int 0, .ref fl_knotOf, .ref fl_smokeAt, .ref fl_reach, .ref fl_route, .ref fl_book, .ref fl_state, .ref fl_smokeIn]))]) (w1 := [(x0, .inr (11, [.ref rd, .ref dr, .ref bk, .ref st, .ref nw, .ref tr, .ref pl, .ref fl, .ref rg, .int 1, .int 0, .int 0]))]) hP hD [0] [1] rfl rfl (by decide) (by decide) hk1 hFc hP1 hD1
  generalize H1 = H at hP hS ⊢
  have hP : va_P (dC, dI) classes [(fl, .inr (1, [.int 0, .ref fl_knotOf, .ref fl_smokeAt, .ref fl_reach, .ref fl_route, .ref fl_book, .ref fl_state, .ref fl_smokeIn])), (x0, .inr (11, [.ref rd, .ref dr, .ref bk, .ref st, .ref nw, .ref tr, .ref pl, .ref fl, .ref rg, .int 1, .int 0, .int 0]))] H := hP
  have hD : va_D A [(fl, .inr (1, [.int 0, .ref fl_knotOf, .ref fl_smokeAt, .ref fl_reach, .ref fl_route, .ref fl_book, .ref fl_state, .ref fl_smokeIn])), (x0, .inr (11, [.ref rd, .ref dr, .ref bk, .ref st, .ref nw, .ref tr, .ref pl, .ref fl, .ref rg, .int 1, .int 0, .int 0]))] := hD
  obtain rfl : r_4 = (-1) := hw_5
  exact W.iret (v := (-1)) hx hb hr (fun t ht hW => ⟨⟨(-1), (), rfl, rfl, trivial⟩, hS.F ht⟩) hS.2.2 dX11_out_13
set_option maxHeartbeats 4000000 in
set_option maxRecDepth 100000 in
theorem c_isTarget (l : Launch) (dC : Nat → ClassId) (dI : Nat → Nat → Nat) (n0 sz : Nat) (x0 : Nat) (rd : Nat) (dr : Nat) (bk : Nat) (st : Nat) (nw : Nat) (tr : Nat) (pl : Nat) (fl : Nat) (rg : Nat) (tb : Int32) (ft : Int32) (pc : Int32) (bk_tail : Nat) (bk_head : Nat) (bk_hinder : Nat) (bk_size : Nat) (bk_walk : Nat) (bk_draught : Nat) (bk_doorIn : Nat) (bk_fanIn : Nat) (bk_faceIn : Nat) (gr : Nat) (gr_doorBy : Nat) (gr_pairFirst : Nat) (gr_pairSecond : Nat) (gr_fanPush : Nat) (gr_fanFall : Nat) (gr_fanCost : Nat) (gr_faceWay : Nat) (gr_faceGas : Nat) (gr_faceNeed : Nat) (k : Int32) (w : Int32) : Met l yX11_isTarget (wM yX11_isTarget cX11_isTarget 3 (some .boolean)) ({ frames := 1, cells := 0, slots := 0, locals := 21 }) (va_Pc [.ref x0, .int k, .int w] (fun U => U.heap.size = sz ∧ n0 ≤ sz ∧ GW n0 U ∧ va_P (dC, dI) classes [(x0, .inr (11, [.ref rd, .ref dr, .ref bk, .ref st, .ref nw, .ref tr, .ref pl, .ref fl, .ref rg, .int tb, .int ft, .int pc])), (bk, .inr (0, [.int 0, .ref bk_tail, .ref bk_head, .ref bk_hinder, .ref bk_size, .ref bk_walk, .ref bk_draught, .ref bk_doorIn, .ref bk_fanIn, .ref bk_faceIn, .int 0, .int (-1), .ref gr])), (gr, .inr (3, [.int 0, .ref gr_doorBy, .int 0, .ref gr_pairFirst, .ref gr_pairSecond, .int 0, .ref gr_fanPush, .ref gr_fanFall, .ref gr_fanCost, .int 0, .ref gr_faceWay, .ref gr_faceGas, .ref gr_faceNeed]))] U.heap ∧ va_K (dC, dI) classes [] U ∧ va_D (fun q => n0 ≤ q) [(x0, .inr (11, [.ref rd, .ref dr, .ref bk, .ref st, .ref nw, .ref tr, .ref pl, .ref fl, .ref rg, .int tb, .int ft, .int pc])), (bk, .inr (0, [.int 0, .ref bk_tail, .ref bk_head, .ref bk_hinder, .ref bk_size, .ref bk_walk, .ref bk_draught, .ref bk_doorIn, .ref bk_fanIn, .ref bk_faceIn, .int 0, .int (-1), .ref gr])), (gr, .inr (3, [.int 0, .ref gr_doorBy, .int 0, .ref gr_pairFirst, .ref gr_pairSecond, .int 0, .ref gr_fanPush, .ref gr_fanFall, .ref gr_fanCost, .int 0, .ref gr_faceWay, .ref gr_faceGas, .ref gr_faceNeed]))])) (va_Qi (fun (r : Int32) (_ : Unit) => r = 0) (fun (_ : Unit) (t : State) => va_P (dC, dI) classes [(x0, .inr (11, [.ref rd, .ref dr, .ref bk, .ref st, .ref nw, .ref tr, .ref pl, .ref fl, .ref rg, .int tb, .int ft, .int pc])), (bk, .inr (0, [.int 0, .ref bk_tail, .ref bk_head, .ref bk_hinder, .ref bk_size, .ref bk_walk, .ref bk_draught, .ref bk_doorIn, .ref bk_fanIn, .ref bk_faceIn, .int 0, .int (-1), .ref gr])), (gr, .inr (3, [.int 0, .ref gr_doorBy, .int 0, .ref gr_pairFirst, .ref gr_pairSecond, .int 0, .ref gr_fanPush, .ref gr_fanFall, .ref gr_fanCost, .int 0, .ref gr_faceWay, .ref gr_faceGas, .ref gr_faceNeed]))] t.heap ∧ va_K (dC, dI) classes [] t ∧ va_D (va_A [(x0, .inr (11, [.ref rd, .ref dr, .ref bk, .ref st, .ref nw, .ref tr, .ref pl, .ref fl, .ref rg, .int tb, .int ft, .int pc])), (bk, .inr (0, [.int 0, .ref bk_tail, .ref bk_head, .ref bk_hinder, .ref bk_size, .ref bk_walk, .ref bk_draught, .ref bk_doorIn, .ref bk_fanIn, .ref bk_faceIn, .int 0, .int (-1), .ref gr])), (gr, .inr (3, [.int 0, .ref gr_doorBy, .int 0, .ref gr_pairFirst, .ref gr_pairSecond, .int 0, .ref gr_fanPush, .ref gr_fanFall, .ref gr_fanCost, .int 0, .ref gr_faceWay, .ref gr_faceGas, .ref gr_faceNeed]))] sz) [(x0, .inr (11, [.ref rd, .ref dr, .ref bk, .ref st, .ref nw, .ref tr, .ref pl, .ref fl, .ref rg, .int tb, .int ft, .int pc])), (bk, .inr (0, [.int 0, .ref bk_tail, .ref bk_head, .ref bk_hinder, .ref bk_size, .ref bk_walk, .ref bk_draught, .ref bk_doorIn, .ref bk_fanIn, .ref bk_faceIn, .int 0, .int (-1), .ref gr])), (gr, .inr (3, [.int 0, .ref gr_doorBy, .int 0, .ref gr_pairFirst, .ref gr_pairSecond, .int 0, .ref gr_fanPush, .ref gr_fanFall, .ref gr_fanCost, .int 0, .ref gr_faceWay, .ref gr_faceGas, .ref gr_faceNeed]))]) (va_A [(x0, .inr (11, [.ref rd, .ref dr, .ref bk, .ref st, .ref nw, .ref tr, .ref pl, .ref fl, .ref rg, .int tb, .int ft, .int pc])), (bk, .inr (0, [.int 0, .ref bk_tail, .ref bk_head, .ref bk_hinder, .ref bk_size, .ref bk_walk, .ref bk_draught, .ref bk_doorIn, .ref bk_fanIn, .ref bk_faceIn, .int 0, .int (-1), .ref gr])), (gr, .inr (3, [.int 0, .ref gr_doorBy, .int 0, .ref gr_pairFirst, .ref gr_pairSecond, .int 0, .ref gr_fanPush, .ref gr_fanFall, .ref gr_fanCost, .int 0, .ref gr_faceWay, .ref gr_faceGas, .ref gr_faceNeed]))] sz)) 0 0 (va_A [(x0, .inr (11, [.ref rd, .ref dr, .ref bk, .ref st, .ref nw, .ref tr, .ref pl, .ref fl, .ref rg, .int tb, .int ft, .int pc])), (bk, .inr (0, [.int 0, .ref bk_tail, .ref bk_head, .ref bk_hinder, .ref bk_size, .ref bk_walk, .ref bk_draught, .ref bk_doorIn, .ref bk_fanIn, .ref bk_faceIn, .int 0, .int (-1), .ref gr])), (gr, .inr (3, [.int 0, .ref gr_doorBy, .int 0, .ref gr_pairFirst, .ref gr_pairSecond, .int 0, .ref gr_fanPush, .ref gr_fanFall, .ref gr_fanCost, .int 0, .ref gr_faceWay, .ref gr_faceGas, .ref gr_faceNeed]))] sz) := by
  refine Met.ofW (cc := cX11_isTarget) (maxL := 3) (ret := (some .boolean)) (by decide) rfl ?_
  intro p e s m args below meth c s₁ B hml hv
  obtain ⟨rfl, hsz, hn0, hG, hP, hK, hD0⟩ := hv
  have hx := B.exec
  have hb := B.bytes
  have hr := B.returns
  have hts := atoms_spec (ws := wM yX11_isTarget cX11_isTarget 3 (some .boolean)) B.pre
  have hown : s.vm.findClass RX11 = some m.cls := findClass_of_methodNamed B.named
  have hlocks := B.notSynchronized
  subst hsz
  have hD := hD0.self (sz := s.heap.size)
  have hA0 := vA_n0 hD0 hn0
  generalize hAe : va_A [(x0, .inr (11, [.ref rd, .ref dr, .ref bk, .ref st, .ref nw, .ref tr, .ref pl, .ref fl, .ref rg, .int tb, .int ft, .int pc])), (bk, .inr (0, [.int 0, .ref bk_tail, .ref bk_head, .ref bk_hinder, .ref bk_size, .ref bk_walk, .ref bk_draught, .ref bk_doorIn, .ref bk_fanIn, .ref bk_faceIn, .int 0, .int (-1), .ref gr])), (gr, .inr (3, [.int 0, .ref gr_doorBy, .int 0, .ref gr_pairFirst, .ref gr_pairSecond, .int 0, .ref gr_fanPush, .ref gr_fanFall, .ref gr_fanCost, .int 0, .ref gr_faceWay, .ref gr_faceGas, .ref gr_faceNeed]))] s.heap.size = A at hD hA0 ⊢
  have hA : ∀ q : Nat, s.heap.size ≤ q → A q := fun q h => by rw [← hAe]; exact Or.inr h
  have hS : va_S A s.heap s.heap [] := va_S.rf
  have hl := lv_entry ([.ref x0, .int k, .int w]) (n := 3) (Nat.le_of_ble_eq_true rfl)
  rw [lg_entry_eq]
  generalize (lg_sl ([.ref x0, .int k, .int w]) ++ List.replicate (3 - (lg_sl ([.ref x0, .int k, .int w])).length) Slot.unset).toArray = ls at hl ⊢
  have hl : lv_has ls 3 [(0, .ref x0), (1, .int k), (2, .int w)] := hl
  refine lv_iload_n hx hb dX11_isTarget_0 rfl (lv_at hl 1 rfl) ?_
  rcases sw_0_2 k with sw_1 | sw_1 | sw_1 | sw_1
  · refine lv_tableOut (tgt := 46) hx hb dX11_isTarget_1 sw_1 (by decide) ?_
    refine lv_iconst (v := 0) hx hb dX11_isTarget_46 (by decide) ?_
    have hP9 := hP.sub (ws' := [(x0, .inr (11, [.ref rd, .ref dr, .ref bk, .ref st, .ref nw, .ref tr, .ref pl, .ref fl, .ref rg, .int tb, .int ft, .int pc])), (bk, .inr (0, [.int 0, .ref bk_tail, .ref bk_head, .ref bk_hinder, .ref bk_size, .ref bk_walk, .ref bk_draught, .ref bk_doorIn, .ref bk_fanIn, .ref bk_faceIn, .int 0, .int (-1), .ref gr])), (gr, .inr (3, [.int 0, .ref gr_doorBy, .int 0, .ref gr_pairFirst, .ref gr_pairSecond, .int 0, .ref gr_fanPush, .ref gr_fanFall, .ref gr_fanCost, .int 0, .ref gr_faceWay, .ref gr_faceGas, .ref gr_faceNeed]))]) [0, 1, 2] rfl
    have hD9 := hD.sub (ws' := [(x0, .inr (11, [.ref rd, .ref dr, .ref bk, .ref st, .ref nw, .ref tr, .ref pl, .ref fl, .ref rg, .int tb, .int ft, .int pc])), (bk, .inr (0, [.int 0, .ref bk_tail, .ref bk_head, .ref bk_hinder, .ref bk_size, .ref bk_walk, .ref bk_draught, .ref bk_doorIn, .ref bk_fanIn, .ref bk_faceIn, .int 0, .int (-1), .ref gr])), (gr, .inr (3, [.int 0, .ref gr_doorBy, .int 0, .ref gr_pairFirst, .ref gr_pairSecond, .int 0, .ref gr_fanPush, .ref gr_fanFall, .ref gr_fanCost, .int 0, .ref gr_faceWay, .ref gr_faceGas, .ref gr_faceNeed]))]) [0, 1, 2] (by decide) rfl
    have hK9 := hK.sub (tys' := []) [] rfl
    exact W.zret (v := 0) hx hb hr rfl (fun t ht hW => ⟨⟨0, (), rfl, rfl, by rw [ht]; exact hP9, va_K.moved hW.alike hK9, hD9⟩, hS.F ht⟩) hS.2.2 dX11_isTarget_47
  · refine lv_tableIn (off := 27) (tgt := 28) hx hb dX11_isTarget_1 (by rw [sw_1]; decide) (by rw [sw_1]; decide) (by rw [sw_1]; decide) (by decide) ?_
    refine lv_aload_n hx hb dX11_isTarget_28 rfl (lv_at hl 0 rfl) ?_
    refine lv_iload_n hx hb dX11_isTarget_29 rfl (lv_at hl 2 rfl) ?_
    have hPc := hP.sub (ws' := [(x0, .inr (11, [.ref rd, .ref dr, .ref bk, .ref st, .ref nw, .ref tr, .ref pl, .ref fl, .ref rg, .int tb, .int ft, .int pc])), (bk, .inr (0, [.int 0, .ref bk_tail, .ref bk_head, .ref bk_hinder, .ref bk_size, .ref bk_walk, .ref bk_draught, .ref bk_doorIn, .ref bk_fanIn, .ref bk_faceIn, .int 0, .int (-1), .ref gr])), (gr, .inr (3, [.int 0, .ref gr_doorBy, .int 0, .ref gr_pairFirst, .ref gr_pairSecond, .int 0, .ref gr_fanPush, .ref gr_fanFall, .ref gr_fanCost, .int 0, .ref gr_faceWay, .ref gr_faceGas, .ref gr_faceNeed]))]) [0, 1, 2] rfl
    have hDc := hD.sub (ws' := [(x0, .inr (11, [.ref rd, .ref dr, .ref bk, .ref st, .ref nw, .ref tr, .ref pl, .ref fl, .ref rg, .int tb, .int ft, .int pc])), (bk, .inr (0, [.int 0, .ref bk_tail, .ref bk_head, .ref bk_hinder, .ref bk_size, .ref bk_walk, .ref bk_draught, .ref bk_doorIn, .ref bk_fanIn, .ref bk_faceIn, .int 0, .int (-1), .ref gr])), (gr, .inr (3, [.int 0, .ref gr_doorBy, .int 0, .ref gr_pairFirst, .ref gr_pairSecond, .int 0, .ref gr_fanPush, .ref gr_fanFall, .ref gr_fanCost, .int 0, .ref gr_faceWay, .ref gr_faceGas, .ref gr_faceNeed]))]) [0, 1, 2] (by decide) rfl
    have hKc := hK.sub (tys' := []) [] rfl
    have hFc := va_free (wc := [(x0, .inr (11, [.ref rd, .ref dr, .ref bk, .ref st, .ref nw, .ref tr, .ref pl, .ref fl, .ref rg, .int tb, .int ft, .int pc])), (bk, .inr (0, [.int 0, .ref bk_tail, .ref bk_head, .ref bk_hinder, .ref bk_size, .ref bk_walk, .ref bk_draught, .ref bk_doorIn, .ref bk_fanIn, .ref bk_faceIn, .int 0, .int (-1), .ref gr])), (gr, .inr (3, [.int 0, .ref gr_doorBy, .int 0, .ref gr_pairFirst, .ref gr_pairSecond, .int 0, .ref gr_fanPush, .ref gr_fanFall, .ref gr_fanCost, .int 0, .ref gr_faceWay, .ref gr_faceGas, .ref gr_faceNeed]))]) hD hS hA [0, 1, 2] rfl
    refine va_calli (va_runV (As := [.int w]) (rest := []) ⟨hx, hb, hml, hown, hts⟩ (c_isDoor l dC dI n0 s.heap.size x0 rd dr bk st nw tr pl fl rg tb ft pc bk_tail bk_head bk_hinder bk_size bk_walk bk_draught bk_doorIn bk_fanIn bk_faceIn gr gr_doorBy gr_pairFirst gr_pairSecond gr_fanPush gr_fanFall gr_fanCost gr_faceWay gr_faceGas gr_faceNeed w ) (cwV 1 hts (gV (fun w h => wM_c h) wd_966 wd_963 wd_965 wd_26 wd_114) rfl rfl rfl (by decide +kernel) ⟨Nat.le_of_ble_eq_true rfl, Nat.le_of_ble_eq_true rfl⟩) ⟨fun a U g mk q => by obtain ⟨q0, q1, q2, qG, qP, qK, qD⟩ := q; exact ⟨q0, q1, q2, GW.blind qG, qP, va_K.moved (u := U) (U := U.calling g mk a) (Vm.Alike.refl U.vm) qK, qD⟩, va_recv hKc hPc (ci := 11) (q0 := 0) rfl rfl, fun U hU hW => ⟨rfl, by rw [hU], Nat.le_trans hn0 hS.1, GW.go hW hU hG (fun q hq hA9 => hS.2.1 q hq (fun h => hA9 (hA0 q h))), by rw [hU]; exact hPc, va_K.moved hW.alike hKc, hDc.weaken (fun _ _ _ h => hA0 _ h)⟩⟩ rfl rfl hl.1 rfl (lv_room (Nat.le_of_ble_eq_true rfl)) dX11_isTarget_30 ⟨Nat.le_of_ble_eq_true rfl, Nat.le_of_ble_eq_true rfl⟩) hS (fun q _ h => hFc q h) hFc (fun r_2 u t H1 locs ht hvm hw_3 hB hz1 hk1 hS => ?_)
    obtain ⟨hP1, hK1, hD1⟩ := hB
    rw [ht] at hP1
    obtain ⟨hP, hD⟩ := va_join (wr := []) (w1 := [(x0, .inr (11, [.ref rd, .ref dr, .ref bk, .ref st, .ref nw, .ref tr, .ref pl, .ref fl, .ref rg, .int tb, .int ft, .int pc])), (bk, .inr (0, [.int 0, .ref bk_tail, .ref bk_head, .ref bk_hinder, .ref bk_size, .ref bk_walk, .ref bk_draught, .ref bk_doorIn, .ref bk_fanIn, .ref bk_faceIn, .int 0, .int (-1), .ref gr])), (gr, .inr (3, [.int 0, .ref gr_doorBy, .int 0, .ref gr_pairFirst, .ref gr_pairSecond, .int 0, .ref gr_fanPush, .ref gr_fanFall, .ref gr_fanCost, .int 0, .ref gr_faceWay, .ref gr_faceGas, .ref gr_faceNeed]))]) hP hD [0, 1, 2] [] rfl rfl (by decide) (by decide) hk1 hFc hP1 hD1
    generalize H1 = H at hP hS ⊢
    have hP : va_P (dC, dI) classes [(x0, .inr (11, [.ref rd, .ref dr, .ref bk, .ref st, .ref nw, .ref tr, .ref pl, .ref fl, .ref rg, .int tb, .int ft, .int pc])), (bk, .inr (0, [.int 0, .ref bk_tail, .ref bk_head, .ref bk_hinder, .ref bk_size, .ref bk_walk, .ref bk_draught, .ref bk_doorIn, .ref bk_fanIn, .ref bk_faceIn, .int 0, .int (-1), .ref gr])), (gr, .inr (3, [.int 0, .ref gr_doorBy, .int 0, .ref gr_pairFirst, .ref gr_pairSecond, .int 0, .ref gr_fanPush, .ref gr_fanFall, .ref gr_fanCost, .int 0, .ref gr_faceWay, .ref gr_faceGas, .ref gr_faceNeed]))] H := hP
    have hD : va_D A [(x0, .inr (11, [.ref rd, .ref dr, .ref bk, .ref st, .ref nw, .ref tr, .ref pl, .ref fl, .ref rg, .int tb, .int ft, .int pc])), (bk, .inr (0, [.int 0, .ref bk_tail, .ref bk_head, .ref bk_hinder, .ref bk_size, .ref bk_walk, .ref bk_draught, .ref bk_doorIn, .ref bk_fanIn, .ref bk_faceIn, .int 0, .int (-1), .ref gr])), (gr, .inr (3, [.int 0, .ref gr_doorBy, .int 0, .ref gr_pairFirst, .ref gr_pairSecond, .int 0, .ref gr_fanPush, .ref gr_fanFall, .ref gr_fanCost, .int 0, .ref gr_faceWay, .ref gr_faceGas, .ref gr_faceNeed]))] := hD
    obtain rfl : r_2 = 0 := hw_3
    have hP9 := hP.sub (ws' := [(x0, .inr (11, [.ref rd, .ref dr, .ref bk, .ref st, .ref nw, .ref tr, .ref pl, .ref fl, .ref rg, .int tb, .int ft, .int pc])), (bk, .inr (0, [.int 0, .ref bk_tail, .ref bk_head, .ref bk_hinder, .ref bk_size, .ref bk_walk, .ref bk_draught, .ref bk_doorIn, .ref bk_fanIn, .ref bk_faceIn, .int 0, .int (-1), .ref gr])), (gr, .inr (3, [.int 0, .ref gr_doorBy, .int 0, .ref gr_pairFirst, .ref gr_pairSecond, .int 0, .ref gr_fanPush, .ref gr_fanFall, .ref gr_fanCost, .int 0, .ref gr_faceWay, .ref gr_faceGas, .ref gr_faceNeed]))]) [0, 1, 2] rfl
    have hD9 := hD.sub (ws' := [(x0, .inr (11, [.ref rd, .ref dr, .ref bk, .ref st, .ref nw, .ref tr, .ref pl, .ref fl, .ref rg, .int tb, .int ft, .int pc])), (bk, .inr (0, [.int 0, .ref bk_tail, .ref bk_head, .ref bk_hinder, .ref bk_size, .ref bk_walk, .ref bk_draught, .ref bk_doorIn, .ref bk_fanIn, .ref bk_faceIn, .int 0, .int (-1), .ref gr])), (gr, .inr (3, [.int 0, .ref gr_doorBy, .int 0, .ref gr_pairFirst, .ref gr_pairSecond, .int 0, .ref gr_fanPush, .ref gr_fanFall, .ref gr_fanCost, .int 0, .ref gr_faceWay, .ref gr_faceGas, .ref gr_faceNeed]))]) [0, 1, 2] (by decide) rfl
    have hK9 := hK.sub (tys' := []) [] rfl
    exact W.zret (v := 0) hx hb hr rfl (fun t ht hW => ⟨⟨0, (), rfl, rfl, by rw [ht]; exact hP9, va_K.moved hW.alike hK9, hD9⟩, hS.F ht⟩) hS.2.2 dX11_isTarget_33
  · refine lv_tableIn (off := 33) (tgt := 34) hx hb dX11_isTarget_1 (by rw [sw_1]; decide) (by rw [sw_1]; decide) (by rw [sw_1]; decide) (by decide) ?_
    refine lv_aload_n hx hb dX11_isTarget_34 rfl (lv_at hl 0 rfl) ?_
    refine lv_iload_n hx hb dX11_isTarget_35 rfl (lv_at hl 2 rfl) ?_
    have hPc := hP.sub (ws' := [(x0, .inr (11, [.ref rd, .ref dr, .ref bk, .ref st, .ref nw, .ref tr, .ref pl, .ref fl, .ref rg, .int tb, .int ft, .int pc])), (bk, .inr (0, [.int 0, .ref bk_tail, .ref bk_head, .ref bk_hinder, .ref bk_size, .ref bk_walk, .ref bk_draught, .ref bk_doorIn, .ref bk_fanIn, .ref bk_faceIn, .int 0, .int (-1), .ref gr])), (gr, .inr (3, [.int 0, .ref gr_doorBy, .int 0, .ref gr_pairFirst, .ref gr_pairSecond, .int 0, .ref gr_fanPush, .ref gr_fanFall, .ref gr_fanCost, .int 0, .ref gr_faceWay, .ref gr_faceGas, .ref gr_faceNeed]))]) [0, 1, 2] rfl
    have hDc := hD.sub (ws' := [(x0, .inr (11, [.ref rd, .ref dr, .ref bk, .ref st, .ref nw, .ref tr, .ref pl, .ref fl, .ref rg, .int tb, .int ft, .int pc])), (bk, .inr (0, [.int 0, .ref bk_tail, .ref bk_head, .ref bk_hinder, .ref bk_size, .ref bk_walk, .ref bk_draught, .ref bk_doorIn, .ref bk_fanIn, .ref bk_faceIn, .int 0, .int (-1), .ref gr])), (gr, .inr (3, [.int 0, .ref gr_doorBy, .int 0, .ref gr_pairFirst, .ref gr_pairSecond, .int 0, .ref gr_fanPush, .ref gr_fanFall, .ref gr_fanCost, .int 0, .ref gr_faceWay, .ref gr_faceGas, .ref gr_faceNeed]))]) [0, 1, 2] (by decide) rfl
    have hKc := hK.sub (tys' := []) [] rfl
    have hFc := va_free (wc := [(x0, .inr (11, [.ref rd, .ref dr, .ref bk, .ref st, .ref nw, .ref tr, .ref pl, .ref fl, .ref rg, .int tb, .int ft, .int pc])), (bk, .inr (0, [.int 0, .ref bk_tail, .ref bk_head, .ref bk_hinder, .ref bk_size, .ref bk_walk, .ref bk_draught, .ref bk_doorIn, .ref bk_fanIn, .ref bk_faceIn, .int 0, .int (-1), .ref gr])), (gr, .inr (3, [.int 0, .ref gr_doorBy, .int 0, .ref gr_pairFirst, .ref gr_pairSecond, .int 0, .ref gr_fanPush, .ref gr_fanFall, .ref gr_fanCost, .int 0, .ref gr_faceWay, .ref gr_faceGas, .ref gr_faceNeed]))]) hD hS hA [0, 1, 2] rfl
    refine va_calli (va_runV (As := [.int w]) (rest := []) ⟨hx, hb, hml, hown, hts⟩ (c_isFan l dC dI n0 s.heap.size x0 rd dr bk st nw tr pl fl rg tb ft pc bk_tail bk_head bk_hinder bk_size bk_walk bk_draught bk_doorIn bk_fanIn bk_faceIn gr gr_doorBy gr_pairFirst gr_pairSecond gr_fanPush gr_fanFall gr_fanCost gr_faceWay gr_faceGas gr_faceNeed w ) (cwV 1 hts (gV (fun w h => wM_c h) wd_982 wd_979 wd_981 wd_29 wd_114) rfl rfl rfl (by decide +kernel) ⟨Nat.le_of_ble_eq_true rfl, Nat.le_of_ble_eq_true rfl⟩) ⟨fun a U g mk q => by obtain ⟨q0, q1, q2, qG, qP, qK, qD⟩ := q; exact ⟨q0, q1, q2, GW.blind qG, qP, va_K.moved (u := U) (U := U.calling g mk a) (Vm.Alike.refl U.vm) qK, qD⟩, va_recv hKc hPc (ci := 11) (q0 := 0) rfl rfl, fun U hU hW => ⟨rfl, by rw [hU], Nat.le_trans hn0 hS.1, GW.go hW hU hG (fun q hq hA9 => hS.2.1 q hq (fun h => hA9 (hA0 q h))), by rw [hU]; exact hPc, va_K.moved hW.alike hKc, hDc.weaken (fun _ _ _ h => hA0 _ h)⟩⟩ rfl rfl hl.1 rfl (lv_room (Nat.le_of_ble_eq_true rfl)) dX11_isTarget_36 ⟨Nat.le_of_ble_eq_true rfl, Nat.le_of_ble_eq_true rfl⟩) hS (fun q _ h => hFc q h) hFc (fun r_4 u t H1 locs ht hvm hw_5 hB hz1 hk1 hS => ?_)
    obtain ⟨hP1, hK1, hD1⟩ := hB
    rw [ht] at hP1
    obtain ⟨hP, hD⟩ := va_join (wr := []) (w1 := [(x0, .inr (11, [.ref rd, .ref dr, .ref bk, .ref st, .ref nw, .ref tr, .ref pl, .ref fl, .ref rg, .int tb, .int ft, .int pc])), (bk, .inr (0, [.int 0, .ref bk_tail, .ref bk_head, .ref bk_hinder, .ref bk_size, .ref bk_walk, .ref bk_draught, .ref bk_doorIn, .ref bk_fanIn, .ref bk_faceIn, .int 0, .int (-1), .ref gr])), (gr, .inr (3, [.int 0, .ref gr_doorBy, .int 0, .ref gr_pairFirst, .ref gr_pairSecond, .int 0, .ref gr_fanPush, .ref gr_fanFall, .ref gr_fanCost, .int 0, .ref gr_faceWay, .ref gr_faceGas, .ref gr_faceNeed]))]) hP hD [0, 1, 2] [] rfl rfl (by decide) (by decide) hk1 hFc hP1 hD1
    generalize H1 = H at hP hS ⊢
    have hP : va_P (dC, dI) classes [(x0, .inr (11, [.ref rd, .ref dr, .ref bk, .ref st, .ref nw, .ref tr, .ref pl, .ref fl, .ref rg, .int tb, .int ft, .int pc])), (bk, .inr (0, [.int 0, .ref bk_tail, .ref bk_head, .ref bk_hinder, .ref bk_size, .ref bk_walk, .ref bk_draught, .ref bk_doorIn, .ref bk_fanIn, .ref bk_faceIn, .int 0, .int (-1), .ref gr])), (gr, .inr (3, [.int 0, .ref gr_doorBy, .int 0, .ref gr_pairFirst, .ref gr_pairSecond, .int 0, .ref gr_fanPush, .ref gr_fanFall, .ref gr_fanCost, .int 0, .ref gr_faceWay, .ref gr_faceGas, .ref gr_faceNeed]))] H := hP
    have hD : va_D A [(x0, .inr (11, [.ref rd, .ref dr, .ref bk, .ref st, .ref nw, .ref tr, .ref pl, .ref fl, .ref rg, .int tb, .int ft, .int pc])), (bk, .inr (0, [.int 0, .ref bk_tail, .ref bk_head, .ref bk_hinder, .ref bk_size, .ref bk_walk, .ref bk_draught, .ref bk_doorIn, .ref bk_fanIn, .ref bk_faceIn, .int 0, .int (-1), .ref gr])), (gr, .inr (3, [.int 0, .ref gr_doorBy, .int 0, .ref gr_pairFirst, .ref gr_pairSecond, .int 0, .ref gr_fanPush, .ref gr_fanFall, .ref gr_fanCost, .int 0, .ref gr_faceWay, .ref gr_faceGas, .ref gr_faceNeed]))] := hD
    obtain rfl : r_4 = 0 := hw_5
    have hP9 := hP.sub (ws' := [(x0, .inr (11, [.ref rd, .ref dr, .ref bk, .ref st, .ref nw, .ref tr, .ref pl, .ref fl, .ref rg, .int tb, .int ft, .int pc])), (bk, .inr (0, [.int 0, .ref bk_tail, .ref bk_head, .ref bk_hinder, .ref bk_size, .ref bk_walk, .ref bk_draught, .ref bk_doorIn, .ref bk_fanIn, .ref bk_faceIn, .int 0, .int (-1), .ref gr])), (gr, .inr (3, [.int 0, .ref gr_doorBy, .int 0, .ref gr_pairFirst, .ref gr_pairSecond, .int 0, .ref gr_fanPush, .ref gr_fanFall, .ref gr_fanCost, .int 0, .ref gr_faceWay, .ref gr_faceGas, .ref gr_faceNeed]))]) [0, 1, 2] rfl
    have hD9 := hD.sub (ws' := [(x0, .inr (11, [.ref rd, .ref dr, .ref bk, .ref st, .ref nw, .ref tr, .ref pl, .ref fl, .ref rg, .int tb, .int ft, .int pc])), (bk, .inr (0, [.int 0, .ref bk_tail, .ref bk_head, .ref bk_hinder, .ref bk_size, .ref bk_walk, .ref bk_draught, .ref bk_doorIn, .ref bk_fanIn, .ref bk_faceIn, .int 0, .int (-1), .ref gr])), (gr, .inr (3, [.int 0, .ref gr_doorBy, .int 0, .ref gr_pairFirst, .ref gr_pairSecond, .int 0, .ref gr_fanPush, .ref gr_fanFall, .ref gr_fanCost, .int 0, .ref gr_faceWay, .ref gr_faceGas, .ref gr_faceNeed]))]) [0, 1, 2] (by decide) rfl
    have hK9 := hK.sub (tys' := []) [] rfl
    exact W.zret (v := 0) hx hb hr rfl (fun t ht hW => ⟨⟨0, (), rfl, rfl, by rw [ht]; exact hP9, va_K.moved hW.alike hK9, hD9⟩, hS.F ht⟩) hS.2.2 dX11_isTarget_39
  · refine lv_tableIn (off := 39) (tgt := 40) hx hb dX11_isTarget_1 (by rw [sw_1]; decide) (by rw [sw_1]; decide) (by rw [sw_1]; decide) (by decide) ?_
    refine lv_aload_n hx hb dX11_isTarget_40 rfl (lv_at hl 0 rfl) ?_
    refine lv_iload_n hx hb dX11_isTarget_41 rfl (lv_at hl 2 rfl) ?_
    have hPc := hP.sub (ws' := [(x0, .inr (11, [.ref rd, .ref dr, .ref bk, .ref st, .ref nw, .ref tr, .ref pl, .ref fl, .ref rg, .int tb, .int ft, .int pc])), (bk, .inr (0, [.int 0, .ref bk_tail, .ref bk_head, .ref bk_hinder, .ref bk_size, .ref bk_walk, .ref bk_draught, .ref bk_doorIn, .ref bk_fanIn, .ref bk_faceIn, .int 0, .int (-1), .ref gr]))]) [0, 1] rfl
    have hDc := hD.sub (ws' := [(x0, .inr (11, [.ref rd, .ref dr, .ref bk, .ref st, .ref nw, .ref tr, .ref pl, .ref fl, .ref rg, .int tb, .int ft, .int pc])), (bk, .inr (0, [.int 0, .ref bk_tail, .ref bk_head, .ref bk_hinder, .ref bk_size, .ref bk_walk, .ref bk_draught, .ref bk_doorIn, .ref bk_fanIn, .ref bk_faceIn, .int 0, .int (-1), .ref gr]))]) [0, 1] (by decide) rfl
    have hKc := hK.sub (tys' := []) [] rfl
    have hFc := va_free (wc := [(x0, .inr (11, [.ref rd, .ref dr, .ref bk, .ref st, .ref nw, .ref tr, .ref pl, .ref fl, .ref rg, .int tb, .int ft, .int pc])), (bk, .inr (0, [.int 0, .ref bk_tail, .ref bk_head, .ref bk_hinder, .ref bk_size, .ref bk_walk, .ref bk_draught, .ref bk_doorIn, .ref bk_fanIn, .ref bk_faceIn, .int 0, .int (-1), .ref gr]))]) hD hS hA [0, 1] rfl
    refine va_calli (va_runV (As := [.int w]) (rest := []) ⟨hx, hb, hml, hown, hts⟩ (c_isWay l dC dI n0 s.heap.size x0 rd dr bk st nw tr pl fl rg tb ft pc bk_tail bk_head bk_hinder bk_size bk_walk bk_draught bk_doorIn bk_fanIn bk_faceIn gr w ) (cwV 1 hts (gV (fun w h => wM_c h) wd_950 wd_947 wd_949 wd_25 wd_114) rfl rfl rfl (by decide +kernel) ⟨Nat.le_of_ble_eq_true rfl, Nat.le_of_ble_eq_true rfl⟩) ⟨fun a U g mk q => by obtain ⟨q0, q1, q2, qG, qP, qK, qD⟩ := q; exact ⟨q0, q1, q2, GW.blind qG, qP, va_K.moved (u := U) (U := U.calling g mk a) (Vm.Alike.refl U.vm) qK, qD⟩, va_recv hKc hPc (ci := 11) (q0 := 0) rfl rfl, fun U hU hW => ⟨rfl, by rw [hU], Nat.le_trans hn0 hS.1, GW.go hW hU hG (fun q hq hA9 => hS.2.1 q hq (fun h => hA9 (hA0 q h))), by rw [hU]; exact hPc, va_K.moved hW.alike hKc, hDc.weaken (fun _ _ _ h => hA0 _ h)⟩⟩ rfl rfl hl.1 rfl (lv_room (Nat.le_of_ble_eq_true rfl)) dX11_isTarget_42 ⟨Nat.le_of_ble_eq_true rfl, Nat.le_of_ble_eq_true rfl⟩) hS (fun q _ h => hFc q h) hFc (fun r_6 u t H1 locs ht hvm hw_7 hB hz1 hk1 hS => ?_)
    obtain ⟨hP1, hK1, hD1⟩ := hB
    rw [ht] at hP1
    obtain ⟨hP, hD⟩ := va_join (wr := [(gr, .inr (3, [.int 0, .ref gr_doorBy, .int 0, .ref gr_pairFirst, .ref gr_pairSecond, .int 0, .ref gr_fanPush, .ref gr_fanFall, .ref gr_fanCost, .int 0, .ref gr_faceWay, .ref gr_faceGas, .ref gr_faceNeed]))]) (w1 := [(x0, .inr (11, [.ref rd, .ref dr, .ref bk, .ref st, .ref nw, .ref tr, .ref pl, .ref fl, .ref rg, .int tb, .int ft, .int pc])), (bk, .inr (0, [.int 0, .ref bk_tail, .ref bk_head, .ref bk_hinder, .ref bk_size, .ref bk_walk, .ref bk_draught, .ref bk_doorIn, .ref bk_fanIn, .ref bk_faceIn, .int 0, .int (-1), .ref gr]))]) hP hD [0, 1] [2] rfl rfl (by decide) (by decide) hk1 hFc hP1 hD1
    generalize H1 = H at hP hS ⊢
    have hP : va_P (dC, dI) classes [(gr, .inr (3, [.int 0, .ref gr_doorBy, .int 0, .ref gr_pairFirst, .ref gr_pairSecond, .int 0, .ref gr_fanPush, .ref gr_fanFall, .ref gr_fanCost, .int 0, .ref gr_faceWay, .ref gr_faceGas, .ref gr_faceNeed])), (x0, .inr (11, [.ref rd, .ref dr, .ref bk, .ref st, .ref nw, .ref tr, .ref pl, .ref fl, .ref rg, .int tb, .int ft, .int pc])), (bk, .inr (0, [.int 0, .ref bk_tail, .ref bk_head, .ref bk_hinder, .ref bk_size, .ref bk_walk, .ref bk_draught, .ref bk_doorIn, .ref bk_fanIn, .ref bk_faceIn, .int 0, .int (-1), .ref gr]))] H := hP
    have hD : va_D A [(gr, .inr (3, [.int 0, .ref gr_doorBy, .int 0, .ref gr_pairFirst, .ref gr_pairSecond, .int 0, .ref gr_fanPush, .ref gr_fanFall, .ref gr_fanCost, .int 0, .ref gr_faceWay, .ref gr_faceGas, .ref gr_faceNeed])), (x0, .inr (11, [.ref rd, .ref dr, .ref bk, .ref st, .ref nw, .ref tr, .ref pl, .ref fl, .ref rg, .int tb, .int ft, .int pc])), (bk, .inr (0, [.int 0, .ref bk_tail, .ref bk_head, .ref bk_hinder, .ref bk_size, .ref bk_walk, .ref bk_draught, .ref bk_doorIn, .ref bk_fanIn, .ref bk_faceIn, .int 0, .int (-1), .ref gr]))] := hD
    obtain rfl : r_6 = 0 := hw_7
    have hP9 := hP.sub (ws' := [(x0, .inr (11, [.ref rd, .ref dr, .ref bk, .ref st, .ref nw, .ref tr, .ref pl, .ref fl, .ref rg, .int tb, .int ft, .int pc])), (bk, .inr (0, [.int 0, .ref bk_tail, .ref bk_head, .ref bk_hinder, .ref bk_size, .ref bk_walk, .ref bk_draught, .ref bk_doorIn, .ref bk_fanIn, .ref bk_faceIn, .int 0, .int (-1), .ref gr])), (gr, .inr (3, [.int 0, .ref gr_doorBy, .int 0, .ref gr_pairFirst, .ref gr_pairSecond, .int 0, .ref gr_fanPush, .ref gr_fanFall, .ref gr_fanCost, .int 0, .ref gr_faceWay, .ref gr_faceGas, .ref gr_faceNeed]))]) [1, 2, 0] rfl
    have hD9 := hD.sub (ws' := [(x0, .inr (11, [.ref rd, .ref dr, .ref bk, .ref st, .ref nw, .ref tr, .ref pl, .ref fl, .ref rg, .int tb, .int ft, .int pc])), (bk, .inr (0, [.int 0, .ref bk_tail, .ref bk_head, .ref bk_hinder, .ref bk_size, .ref bk_walk, .ref bk_draught, .ref bk_doorIn, .ref bk_fanIn, .ref bk_faceIn, .int 0, .int (-1), .ref gr])), (gr, .inr (3, [.int 0, .ref gr_doorBy, .int 0, .ref gr_pairFirst, .ref gr_pairSecond, .int 0, .ref gr_fanPush, .ref gr_fanFall, .ref gr_fanCost, .int 0, .ref gr_faceWay, .ref gr_faceGas, .ref gr_faceNeed]))]) [1, 2, 0] (by decide) rfl
    have hK9 := hK.sub (tys' := []) [] rfl
    exact W.zret (v := 0) hx hb hr rfl (fun t ht hW => ⟨⟨0, (), rfl, rfl, by rw [ht]; exact hP9, va_K.moved hW.alike hK9, hD9⟩, hS.F ht⟩) hS.2.2 dX11_isTarget_45
set_option maxHeartbeats 4000000 in
set_option maxRecDepth 100000 in
theorem p_change (l : Launch) (dC : Nat → ClassId) (dI : Nat → Nat → Nat) (n0 sz : Nat) (x0 : Nat) (rd : Nat) (dr : Nat) (bk : Nat) (st : Nat) (nw : Nat) (tr : Nat) (pl : Nat) (fl : Nat) (rg : Nat) (bk_tail : Nat) (bk_head : Nat) (bk_hinder : Nat) (bk_size : Nat) (bk_walk : Nat) (bk_draught : Nat) (bk_doorIn : Nat) (bk_fanIn : Nat) (bk_faceIn : Nat) (gr : Nat) (gr_doorBy : Nat) (gr_pairFirst : Nat) (gr_pairSecond : Nat) (gr_fanPush : Nat) (gr_fanFall : Nat) (gr_fanCost : Nat) (gr_faceWay : Nat) (gr_faceGas : Nat) (gr_faceNeed : Nat) (w : Int32) (v : Int32) (uu : Int32) : Met l yX11_change (wM yX11_change cX11_change 4 (some .int)) ({ frames := 2, cells := 0, slots := 0, locals := 43 }) (va_Pc [.ref x0, .int w, .int v, .int uu] (fun U => U.heap.size = sz ∧ n0 ≤ sz ∧ GW n0 U ∧ va_P (dC, dI) classes [(x0, .inr (11, [.ref rd, .ref dr, .ref bk, .ref st, .ref nw, .ref tr, .ref pl, .ref fl, .ref rg, .int 0, .int 0, .int 0])), (bk, .inr (0, [.int 0, .ref bk_tail, .ref bk_head, .ref bk_hinder, .ref bk_size, .ref bk_walk, .ref bk_draught, .ref bk_doorIn, .ref bk_fanIn, .ref bk_faceIn, .int 0, .int (-1), .ref gr])), (gr, .inr (3, [.int 0, .ref gr_doorBy, .int 0, .ref gr_pairFirst, .ref gr_pairSecond, .int 0, .ref gr_fanPush, .ref gr_fanFall, .ref gr_fanCost, .int 0, .ref gr_faceWay, .ref gr_faceGas, .ref gr_faceNeed]))] U.heap ∧ va_K (dC, dI) classes [] U ∧ va_D (fun q => n0 ≤ q) [(x0, .inr (11, [.ref rd, .ref dr, .ref bk, .ref st, .ref nw, .ref tr, .ref pl, .ref fl, .ref rg, .int 0, .int 0, .int 0])), (bk, .inr (0, [.int 0, .ref bk_tail, .ref bk_head, .ref bk_hinder, .ref bk_size, .ref bk_walk, .ref bk_draught, .ref bk_doorIn, .ref bk_fanIn, .ref bk_faceIn, .int 0, .int (-1), .ref gr])), (gr, .inr (3, [.int 0, .ref gr_doorBy, .int 0, .ref gr_pairFirst, .ref gr_pairSecond, .int 0, .ref gr_fanPush, .ref gr_fanFall, .ref gr_fanCost, .int 0, .ref gr_faceWay, .ref gr_faceGas, .ref gr_faceNeed]))])) (va_Qi (fun (r : Int32) (_ : Unit) => r = (-1)) (fun (_ : Unit) (_ : State) => True) (va_A [(x0, .inr (11, [.ref rd, .ref dr, .ref bk, .ref st, .ref nw, .ref tr, .ref pl, .ref fl, .ref rg, .int 0, .int 0, .int 0])), (bk, .inr (0, [.int 0, .ref bk_tail, .ref bk_head, .ref bk_hinder, .ref bk_size, .ref bk_walk, .ref bk_draught, .ref bk_doorIn, .ref bk_fanIn, .ref bk_faceIn, .int 0, .int (-1), .ref gr])), (gr, .inr (3, [.int 0, .ref gr_doorBy, .int 0, .ref gr_pairFirst, .ref gr_pairSecond, .int 0, .ref gr_fanPush, .ref gr_fanFall, .ref gr_fanCost, .int 0, .ref gr_faceWay, .ref gr_faceGas, .ref gr_faceNeed]))] sz)) 0 0 (va_A [(x0, .inr (11, [.ref rd, .ref dr, .ref bk, .ref st, .ref nw, .ref tr, .ref pl, .ref fl, .ref rg, .int 0, .int 0, .int 0])), (bk, .inr (0, [.int 0, .ref bk_tail, .ref bk_head, .ref bk_hinder, .ref bk_size, .ref bk_walk, .ref bk_draught, .ref bk_doorIn, .ref bk_fanIn, .ref bk_faceIn, .int 0, .int (-1), .ref gr])), (gr, .inr (3, [.int 0, .ref gr_doorBy, .int 0, .ref gr_pairFirst, .ref gr_pairSecond, .int 0, .ref gr_fanPush, .ref gr_fanFall, .ref gr_fanCost, .int 0, .ref gr_faceWay, .ref gr_faceGas, .ref gr_faceNeed]))] sz) := by
  refine Met.ofW (cc := cX11_change) (maxL := 4) (ret := (some .int)) (by decide) rfl ?_
  intro p e s m args below meth c s₁ B hml hv
  obtain ⟨rfl, hsz, hn0, hG, hP, hK, hD0⟩ := hv
  have hx := B.exec
  have hb := B.bytes
  have hr := B.returns
  have hts := atoms_spec (ws := wM yX11_change cX11_change 4 (some .int)) B.pre
  have hown : s.vm.findClass RX11 = some m.cls := findClass_of_methodNamed B.named
  have hlocks := B.notSynchronized
  subst hsz
  have hD := hD0.self (sz := s.heap.size)
  have hA0 := vA_n0 hD0 hn0
  generalize hAe : va_A [(x0, .inr (11, [.ref rd, .ref dr, .ref bk, .ref st, .ref nw, .ref tr, .ref pl, .ref fl, .ref rg, .int 0, .int 0, .int 0])), (bk, .inr (0, [.int 0, .ref bk_tail, .ref bk_head, .ref bk_hinder, .ref bk_size, .ref bk_walk, .ref bk_draught, .ref bk_doorIn, .ref bk_fanIn, .ref bk_faceIn, .int 0, .int (-1), .ref gr])), (gr, .inr (3, [.int 0, .ref gr_doorBy, .int 0, .ref gr_pairFirst, .ref gr_pairSecond, .int 0, .ref gr_fanPush, .ref gr_fanFall, .ref gr_fanCost, .int 0, .ref gr_faceWay, .ref gr_faceGas, .ref gr_faceNeed]))] s.heap.size = A at hD hA0 ⊢
  have hA : ∀ q : Nat, s.heap.size ≤ q → A q := fun q h => by rw [← hAe]; exact Or.inr h
  have hS : va_S A s.heap s.heap [] := va_S.rf
  have hl := lv_entry ([.ref x0, .int w, .int v, .int uu]) (n := 4) (Nat.le_of_ble_eq_true rfl)
  rw [lg_entry_eq]
  generalize (lg_sl ([.ref x0, .int w, .int v, .int uu]) ++ List.replicate (4 - (lg_sl ([.ref x0, .int w, .int v, .int uu])).length) Slot.unset).toArray = ls at hl ⊢
  have hl : lv_has ls 4 [(0, .ref x0), (1, .int w), (2, .int v), (3, .int uu)] := hl
  refine lv_aload_n hx hb dX11_change_0 rfl (lv_at hl 0 rfl) ?_
  refine lv_iload_n hx hb dX11_change_1 rfl (lv_at hl 1 rfl) ?_
  refine lv_iload_n hx hb dX11_change_2 rfl (lv_at hl 2 rfl) ?_
  have hPc := hP.sub (ws' := [(x0, .inr (11, [.ref rd, .ref dr, .ref bk, .ref st, .ref nw, .ref tr, .ref pl, .ref fl, .ref rg, .int 0, .int 0, .int 0])), (bk, .inr (0, [.int 0, .ref bk_tail, .ref bk_head, .ref bk_hinder, .ref bk_size, .ref bk_walk, .ref bk_draught, .ref bk_doorIn, .ref bk_fanIn, .ref bk_faceIn, .int 0, .int (-1), .ref gr])), (gr, .inr (3, [.int 0, .ref gr_doorBy, .int 0, .ref gr_pairFirst, .ref gr_pairSecond, .int 0, .ref gr_fanPush, .ref gr_fanFall, .ref gr_fanCost, .int 0, .ref gr_faceWay, .ref gr_faceGas, .ref gr_faceNeed]))]) [0, 1, 2] rfl
  have hDc := hD.sub (ws' := [(x0, .inr (11, [.ref rd, .ref dr, .ref bk, .ref st, .ref nw, .ref tr, .ref pl, .ref fl, .ref rg, .int 0, .int 0, .int 0])), (bk, .inr (0, [.int 0, .ref bk_tail, .ref bk_head, .ref bk_hinder, .ref bk_size, .ref bk_walk, .ref bk_draught, .ref bk_doorIn, .ref bk_fanIn, .ref bk_faceIn, .int 0, .int (-1), .ref gr])), (gr, .inr (3, [.int 0, .ref gr_doorBy, .int 0, .ref gr_pairFirst, .ref gr_pairSecond, .int 0, .ref gr_fanPush, .ref gr_fanFall, .ref gr_fanCost, .int 0, .ref gr_faceWay, .ref gr_faceGas, .ref gr_faceNeed]))]) [0, 1, 2] (by decide) rfl
  have hKc := hK.sub (tys' := []) [] rfl
  have hFc := va_free (wc := [(x0, .inr (11, [.ref rd, .ref dr, .ref bk, .ref st, .ref nw, .ref tr, .ref pl, .ref fl, .ref rg, .int 0, .int 0, .int 0])), (bk, .inr (0, [.int 0, .ref bk_tail, .ref bk_head, .ref bk_hinder, .ref bk_size, .ref bk_walk, .ref bk_draught, .ref bk_doorIn, .ref bk_fanIn, .ref bk_faceIn, .int 0, .int (-1), .ref gr])), (gr, .inr (3, [.int 0, .ref gr_doorBy, .int 0, .ref gr_pairFirst, .ref gr_pairSecond, .int 0, .ref gr_fanPush, .ref gr_fanFall, .ref gr_fanCost, .int 0, .ref gr_faceWay, .ref gr_faceGas, .ref gr_faceNeed]))]) hD hS hA [0, 1, 2] rfl
  refine va_calli (va_runV (As := [.int w, .int v]) (rest := []) ⟨hx, hb, hml, hown, hts⟩ (c_isTarget l dC dI n0 s.heap.size x0 rd dr bk st nw tr pl fl rg 0 0 0 bk_tail bk_head bk_hinder bk_size bk_walk bk_draught bk_doorIn bk_fanIn bk_faceIn gr gr_doorBy gr_pairFirst gr_pairSecond gr_fanPush gr_fanFall gr_fanCost gr_faceWay gr_faceGas gr_faceNeed w v ) (cwV 2 hts (gV (fun w h => wM_c h) wd_1265 wd_1262 wd_1264 wd_52 wd_114) rfl rfl rfl (by decide +kernel) ⟨Nat.le_of_ble_eq_true rfl, Nat.le_of_ble_eq_true rfl⟩) ⟨fun a U g mk q => by obtain ⟨q0, q1, q2, qG, qP, qK, qD⟩ := q; exact ⟨q0, q1, q2, GW.blind qG, qP, va_K.moved (u := U) (U := U.calling g mk a) (Vm.Alike.refl U.vm) qK, qD⟩, va_recv hKc hPc (ci := 11) (q0 := 0) rfl rfl, fun U hU hW => ⟨rfl, by rw [hU], Nat.le_trans hn0 hS.1, GW.go hW hU hG (fun q hq hA9 => hS.2.1 q hq (fun h => hA9 (hA0 q h))), by rw [hU]; exact hPc, va_K.moved hW.alike hKc, hDc.weaken (fun _ _ _ h => hA0 _ h)⟩⟩ rfl rfl hl.1 rfl (lv_room (Nat.le_of_ble_eq_true rfl)) dX11_change_3 ⟨Nat.le_of_ble_eq_true rfl, Nat.le_of_ble_eq_true rfl⟩) hS (fun q _ h => hFc q h) hFc (fun r_1 u t H1 locs ht hvm hw_2 hB hz1 hk1 hS => ?_)
  obtain ⟨hP1, hK1, hD1⟩ := hB
  rw [ht] at hP1
  obtain ⟨hP, hD⟩ := va_join (wr := []) (w1 := [(x0, .inr (11, [.ref rd, .ref dr, .ref bk, .ref st, .ref nw, .ref tr, .ref pl, .ref fl, .ref rg, .int 0, .int 0, .int 0])), (bk, .inr (0, [.int 0, .ref bk_tail, .ref bk_head, .ref bk_hinder, .ref bk_size, .ref bk_walk, .ref bk_draught, .ref bk_doorIn, .ref bk_fanIn, .ref bk_faceIn, .int 0, .int (-1), .ref gr])), (gr, .inr (3, [.int 0, .ref gr_doorBy, .int 0, .ref gr_pairFirst, .ref gr_pairSecond, .int 0, .ref gr_fanPush, .ref gr_fanFall, .ref gr_fanCost, .int 0, .ref gr_faceWay, .ref gr_faceGas, .ref gr_faceNeed]))]) hP hD [0, 1, 2] [] rfl rfl (by decide) (by decide) hk1 hFc hP1 hD1
  generalize H1 = H at hP hS ⊢
  have hP : va_P (dC, dI) classes [(x0, .inr (11, [.ref rd, .ref dr, .ref bk, .ref st, .ref nw, .ref tr, .ref pl, .ref fl, .ref rg, .int 0, .int 0, .int 0])), (bk, .inr (0, [.int 0, .ref bk_tail, .ref bk_head, .ref bk_hinder, .ref bk_size, .ref bk_walk, .ref bk_draught, .ref bk_doorIn, .ref bk_fanIn, .ref bk_faceIn, .int 0, .int (-1), .ref gr])), (gr, .inr (3, [.int 0, .ref gr_doorBy, .int 0, .ref gr_pairFirst, .ref gr_pairSecond, .int 0, .ref gr_fanPush, .ref gr_fanFall, .ref gr_fanCost, .int 0, .ref gr_faceWay, .ref gr_faceGas, .ref gr_faceNeed]))] H := hP
  have hD : va_D A [(x0, .inr (11, [.ref rd, .ref dr, .ref bk, .ref st, .ref nw, .ref tr, .ref pl, .ref fl, .ref rg, .int 0, .int 0, .int 0])), (bk, .inr (0, [.int 0, .ref bk_tail, .ref bk_head, .ref bk_hinder, .ref bk_size, .ref bk_walk, .ref bk_draught, .ref bk_doorIn, .ref bk_fanIn, .ref bk_faceIn, .int 0, .int (-1), .ref gr])), (gr, .inr (3, [.int 0, .ref gr_doorBy, .int 0, .ref gr_pairFirst, .ref gr_pairSecond, .int 0, .ref gr_fanPush, .ref gr_fanFall, .ref gr_fanCost, .int 0, .ref gr_faceWay, .ref gr_faceGas, .ref gr_faceNeed]))] := hD
  obtain rfl : r_1 = 0 := hw_2
  refine lv_if_ne (tgt := 15) hx hb dX11_change_6 (by decide) (fun c_3 => ?_) (fun c_3 => ?_)
  · exact absurd c_3 (by decide)
  refine lv_aload_n hx hb dX11_change_9 rfl (lv_at hl 0 rfl) ?_
  refine lv_iconst (v := 1) hx hb dX11_change_10 (by decide) ?_
  have hPc := hP.sub (ws' := [(x0, .inr (11, [.ref rd, .ref dr, .ref bk, .ref st, .ref nw, .ref tr, .ref pl, .ref fl, .ref rg, .int 0, .int 0, .int 0]))]) [0] rfl
  have hDc := hD.sub (ws' := [(x0, .inr (11, [.ref rd, .ref dr, .ref bk, .ref st, .ref nw, .ref tr, .ref pl, .ref fl, .ref rg, .int 0, .int 0, .int 0]))]) [0] (by decide) rfl
  have hKc := hK.sub (tys' := []) [] rfl
  have hFc := va_free (wc := [(x0, .inr (11, [.ref rd, .ref dr, .ref bk, .ref st, .ref nw, .ref tr, .ref pl, .ref fl, .ref rg, .int 0, .int 0, .int 0]))]) hD hS hA [0] rfl
  refine va_calli (va_runV (As := [.int 1]) (rest := []) ⟨hx, hb, hml, hown, hts⟩ (c_refuse l dC dI n0 H.size x0 rd dr bk st nw tr pl fl rg 0 0 0 1 ) (cwV 1 hts (gV (fun w h => wM_c h) wd_722 wd_719 wd_721 wd_0 wd_114) rfl rfl rfl (by decide +kernel) ⟨Nat.le_of_ble_eq_true rfl, Nat.le_of_ble_eq_true rfl⟩) ⟨fun a U g mk q => by obtain ⟨q0, q1, q2, qG, qP, qK, qD⟩ := q; exact ⟨q0, q1, q2, GW.blind qG, qP, va_K.moved (u := U) (U := U.calling g mk a) (Vm.Alike.refl U.vm) qK, qD⟩, va_recv hKc hPc (ci := 11) (q0 := 0) rfl rfl, fun U hU hW => ⟨rfl, by rw [hU], Nat.le_trans hn0 hS.1, GW.go hW hU hG (fun q hq hA9 => hS.2.1 q hq (fun h => hA9 (hA0 q h))), by rw [hU]; exact hPc, va_K.moved hW.alike hKc, hDc.weaken (fun _ _ _ h => hA0 _ h)⟩⟩ rfl rfl hl.1 rfl (lv_room (Nat.le_of_ble_eq_true rfl)) dX11_change_11 ⟨Nat.le_of_ble_eq_true rfl, Nat.le_of_ble_eq_true rfl⟩) hS (fun q _ h => hFc q h) hFc (fun r_4 u t H1 locs ht hvm hw_5 hB hz1 hk1 hS => ?_)
  obtain ⟨hP1, hK1, hD1⟩ := hB
  rw [ht] at hP1
  obtain ⟨hP, hD⟩ := va_join (wr := [(bk, .inr (0, [.int 0, .ref bk_tail, .ref bk_head, .ref bk_hinder, .ref bk_size, .ref bk_walk, .ref bk_draught, .ref bk_doorIn, .ref bk_fanIn, .ref bk_faceIn, .int 0, .int (-1), .ref gr])), (gr, .inr (3, [.int 0, .ref gr_doorBy, .int 0, .ref gr_pairFirst, .ref gr_pairSecond, .int 0, .ref gr_fanPush, .ref gr_fanFall, .ref gr_fanCost, .int 0, .ref gr_faceWay, .ref gr_faceGas, .ref gr_faceNeed]))]) (w1 := [(x0, .inr (11, [.ref rd, .ref dr, .ref bk, .ref st, .ref nw, .ref tr, .ref pl, .ref fl, .ref rg, .int 1, .int 0, .int 0]))]) hP hD [0] [1, 2] rfl rfl (by decide) (by decide) hk1 hFc hP1 hD1
  generalize H1 = H at hP hS ⊢
  have hP : va_P (dC, dI) classes [(bk, .inr (0, [.int 0, .ref bk_tail, .ref bk_head, .ref bk_hinder, .ref bk_size, .ref bk_walk, .ref bk_draught, .ref bk_doorIn, .ref bk_fanIn, .ref bk_faceIn, .int 0, .int (-1), .ref gr])), (gr, .inr (3, [.int 0, .ref gr_doorBy, .int 0, .ref gr_pairFirst, .ref gr_pairSecond, .int 0, .ref gr_fanPush, .ref gr_fanFall, .ref gr_fanCost, .int 0, .ref gr_faceWay, .ref gr_faceGas, .ref gr_faceNeed])), (x0, .inr (11, [.ref rd, .ref dr, .ref bk, .ref st, .ref nw, .ref tr, .ref pl, .ref fl, .ref rg, .int 1, .int 0, .int 0]))] H := hP
  have hD : va_D A [(bk, .inr (0, [.int 0, .ref bk_tail, .ref bk_head, .ref bk_hinder, .ref bk_size, .ref bk_walk, .ref bk_draught, .ref bk_doorIn, .ref bk_fanIn, .ref bk_faceIn, .int 0, .int (-1), .ref gr])), (gr, .inr (3, [.int 0, .ref gr_doorBy, .int 0, .ref gr_pairFirst, .ref gr_pairSecond, .int 0, .ref gr_fanPush, .ref gr_fanFall, .ref gr_fanCost, .int 0, .ref gr_faceWay, .ref gr_faceGas, .ref gr_faceNeed])), (x0, .inr (11, [.ref rd, .ref dr, .ref bk, .ref st, .ref nw, .ref tr, .ref pl, .ref fl, .ref rg, .int 1, .int 0, .int 0]))] := hD
  obtain rfl : r_4 = (-1) := hw_5
  exact W.iret (v := (-1)) hx hb hr (fun t ht hW => ⟨⟨(-1), (), rfl, rfl, trivial⟩, hS.F ht⟩) hS.2.2 dX11_change_14
set_option maxHeartbeats 4000000 in
set_option maxRecDepth 100000 in
theorem p_order (l : Launch) (dC : Nat → ClassId) (dI : Nat → Nat → Nat) (n0 sz : Nat) (x0 : Nat) (rd : Nat) (dr : Nat) (bk : Nat) (st : Nat) (nw : Nat) (tr : Nat) (pl : Nat) (fl : Nat) (rg : Nat) (pl_order : Nat) (pl_state : Nat) (pl_now : Nat) (pl_trial : Nat) (pl_kind : Nat) (pl_which : Nat) (pl_value : Nat) (pl_soundBy : Nat) (w : Int32) : Met l yX11_order (wM yX11_order cX11_order 2 (some .int)) ({ frames := 1, cells := 0, slots := 0, locals := 21 }) (va_Pc [.ref x0, .int w] (fun U => U.heap.size = sz ∧ n0 ≤ sz ∧ GW n0 U ∧ va_P (dC, dI) classes [(x0, .inr (11, [.ref rd, .ref dr, .ref bk, .ref st, .ref nw, .ref tr, .ref pl, .ref fl, .ref rg, .int 0, .int 0, .int 0])), (pl, .inr (6, [.int 0, .ref pl_order, .ref pl_state, .ref pl_now, .ref pl_trial, .ref pl_kind, .ref pl_which, .ref pl_value, .ref pl_soundBy, .int 0, .int 0]))] U.heap ∧ va_K (dC, dI) classes [] U ∧ va_D (fun q => n0 ≤ q) [(x0, .inr (11, [.ref rd, .ref dr, .ref bk, .ref st, .ref nw, .ref tr, .ref pl, .ref fl, .ref rg, .int 0, .int 0, .int 0])), (pl, .inr (6, [.int 0, .ref pl_order, .ref pl_state, .ref pl_now, .ref pl_trial, .ref pl_kind, .ref pl_which, .ref pl_value, .ref pl_soundBy, .int 0, .int 0]))])) (va_Qi (fun (r : Int32) (_ : Unit) => r = (-1)) (fun (_ : Unit) (_ : State) => True) (va_A [(x0, .inr (11, [.ref rd, .ref dr, .ref bk, .ref st, .ref nw, .ref tr, .ref pl, .ref fl, .ref rg, .int 0, .int 0, .int 0])), (pl, .inr (6, [.int 0, .ref pl_order, .ref pl_state, .ref pl_now, .ref pl_trial, .ref pl_kind, .ref pl_which, .ref pl_value, .ref pl_soundBy, .int 0, .int 0]))] sz)) 0 0 (va_A [(x0, .inr (11, [.ref rd, .ref dr, .ref bk, .ref st, .ref nw, .ref tr, .ref pl, .ref fl, .ref rg, .int 0, .int 0, .int 0])), (pl, .inr (6, [.int 0, .ref pl_order, .ref pl_state, .ref pl_now, .ref pl_trial, .ref pl_kind, .ref pl_which, .ref pl_value, .ref pl_soundBy, .int 0, .int 0]))] sz) := by
  refine Met.ofW (cc := cX11_order) (maxL := 2) (ret := (some .int)) (by decide) rfl ?_
  intro p e s m args below meth c s₁ B hml hv
  obtain ⟨rfl, hsz, hn0, hG, hP, hK, hD0⟩ := hv
  have hx := B.exec
  have hb := B.bytes
  have hr := B.returns
  have hts := atoms_spec (ws := wM yX11_order cX11_order 2 (some .int)) B.pre
  have hown : s.vm.findClass RX11 = some m.cls := findClass_of_methodNamed B.named
  have hlocks := B.notSynchronized
  subst hsz
  have hD := hD0.self (sz := s.heap.size)
  have hA0 := vA_n0 hD0 hn0
  generalize hAe : va_A [(x0, .inr (11, [.ref rd, .ref dr, .ref bk, .ref st, .ref nw, .ref tr, .ref pl, .ref fl, .ref rg, .int 0, .int 0, .int 0])), (pl, .inr (6, [.int 0, .ref pl_order, .ref pl_state, .ref pl_now, .ref pl_trial, .ref pl_kind, .ref pl_which, .ref pl_value, .ref pl_soundBy, .int 0, .int 0]))] s.heap.size = A at hD hA0 ⊢
  have hA : ∀ q : Nat, s.heap.size ≤ q → A q := fun q h => by rw [← hAe]; exact Or.inr h
  have hS : va_S A s.heap s.heap [] := va_S.rf
  have hl := lv_entry ([.ref x0, .int w]) (n := 2) (Nat.le_of_ble_eq_true rfl)
  rw [lg_entry_eq]
  generalize (lg_sl ([.ref x0, .int w]) ++ List.replicate (2 - (lg_sl ([.ref x0, .int w])).length) Slot.unset).toArray = ls at hl ⊢
  have hl : lv_has ls 2 [(0, .ref x0), (1, .int w)] := hl
  refine lv_iload_n hx hb dX11_order_0 rfl (lv_at hl 1 rfl) ?_
  refine lv_if_lt (tgt := 15) hx hb dX11_order_1 (by decide) (fun c_1 => ?_) (fun c_1 => ?_)
  · skip
    refine lv_aload_n hx hb dX11_order_15 rfl (lv_at hl 0 rfl) ?_
    refine lv_iconst (v := 1) hx hb dX11_order_16 (by decide) ?_
    have hPc := hP.sub (ws' := [(x0, .inr (11, [.ref rd, .ref dr, .ref bk, .ref st, .ref nw, .ref tr, .ref pl, .ref fl, .ref rg, .int 0, .int 0, .int 0]))]) [0] rfl
    have hDc := hD.sub (ws' := [(x0, .inr (11, [.ref rd, .ref dr, .ref bk, .ref st, .ref nw, .ref tr, .ref pl, .ref fl, .ref rg, .int 0, .int 0, .int 0]))]) [0] (by decide) rfl
    have hKc := hK.sub (tys' := []) [] rfl
    have hFc := va_free (wc := [(x0, .inr (11, [.ref rd, .ref dr, .ref bk, .ref st, .ref nw, .ref tr, .ref pl, .ref fl, .ref rg, .int 0, .int 0, .int 0]))]) hD hS hA [0] rfl
    refine va_calli (va_runV (As := [.int 1]) (rest := []) ⟨hx, hb, hml, hown, hts⟩ (c_refuse l dC dI n0 s.heap.size x0 rd dr bk st nw tr pl fl rg 0 0 0 1 ) (cwV 1 hts (gV (fun w h => wM_c h) wd_722 wd_719 wd_721 wd_0 wd_114) rfl rfl rfl (by decide +kernel) ⟨Nat.le_of_ble_eq_true rfl, Nat.le_of_ble_eq_true rfl⟩) ⟨fun a U g mk q => by obtain ⟨q0, q1, q2, qG, qP, qK, qD⟩ := q; exact ⟨q0, q1, q2, GW.blind qG, qP, va_K.moved (u := U) (U := U.calling g mk a) (Vm.Alike.refl U.vm) qK, qD⟩, va_recv hKc hPc (ci := 11) (q0 := 0) rfl rfl, fun U hU hW => ⟨rfl, by rw [hU], Nat.le_trans hn0 hS.1, GW.go hW hU hG (fun q hq hA9 => hS.2.1 q hq (fun h => hA9 (hA0 q h))), by rw [hU]; exact hPc, va_K.moved hW.alike hKc, hDc.weaken (fun _ _ _ h => hA0 _ h)⟩⟩ rfl rfl hl.1 rfl (lv_room (Nat.le_of_ble_eq_true rfl)) dX11_order_17 ⟨Nat.le_of_ble_eq_true rfl, Nat.le_of_ble_eq_true rfl⟩) hS (fun q _ h => hFc q h) hFc (fun r_2 u t H1 locs ht hvm hw_3 hB hz1 hk1 hS => ?_)
    obtain ⟨hP1, hK1, hD1⟩ := hB
    rw [ht] at hP1
    obtain ⟨hP, hD⟩ := va_join (wr := [(pl, .inr (6, [.int 0, .ref pl_order, .ref pl_state, .ref pl_now, .ref pl_trial, .ref pl_kind, .ref pl_which, .ref pl_value, .ref pl_soundBy, .int 0, .int 0]))]) (w1 := [(x0, .inr (11, [.ref rd, .ref dr, .ref bk, .ref st, .ref nw, .ref tr, .ref pl, .ref fl, .ref rg, .int 1, .int 0, .int 0]))]) hP hD [0] [1] rfl rfl (by decide) (by decide) hk1 hFc hP1 hD1
    generalize H1 = H at hP hS ⊢
    have hP : va_P (dC, dI) classes [(pl, .inr (6, [.int 0, .ref pl_order, .ref pl_state, .ref pl_now, .ref pl_trial, .ref pl_kind, .ref pl_which, .ref pl_value, .ref pl_soundBy, .int 0, .int 0])), (x0, .inr (11, [.ref rd, .ref dr, .ref bk, .ref st, .ref nw, .ref tr, .ref pl, .ref fl, .ref rg, .int 1, .int 0, .int 0]))] H := hP
    have hD : va_D A [(pl, .inr (6, [.int 0, .ref pl_order, .ref pl_state, .ref pl_now, .ref pl_trial, .ref pl_kind, .ref pl_which, .ref pl_value, .ref pl_soundBy, .int 0, .int 0])), (x0, .inr (11, [.ref rd, .ref dr, .ref bk, .ref st, .ref nw, .ref tr, .ref pl, .ref fl, .ref rg, .int 1, .int 0, .int 0]))] := hD
    obtain rfl : r_2 = (-1) := hw_3
    exact W.iret (v := (-1)) hx hb hr (fun t ht hW => ⟨⟨(-1), (), rfl, rfl, trivial⟩, hS.F ht⟩) hS.2.2 dX11_order_20
  · skip
    refine lv_iload_n hx hb dX11_order_4 rfl (lv_at hl 1 rfl) ?_
    refine lv_aload_n hx hb dX11_order_5 rfl (lv_at hl 0 rfl) ?_
    refine va_get (D := (dC, dI)) (ci := 11) (v := .ref pl) (C := RX11) (T := TX11) (N := 12) hx hb hts (fun w h => wM_c (iX11 w h)) hown hK hP 0 rfl rfl 6 (by decide) (hts _ (wM_c wd_676)) (fun _ h9 => h9) rfl dX11_order_6 ?_
    refine va_get (D := (dC, dI)) (ci := 6) (v := .int 0) (C := RX6) (T := TX6) (N := 11) hx hb hts (fun w h => wM_c (iX6 w h)) hown hK hP 1 rfl rfl 0 (by decide) (hts _ (wM_c wd_573)) (fun _ h9 => h9) rfl dX11_order_9 ?_
    refine lv_icmp_lt (tgt := 21) hx hb dX11_order_12 (by decide) (fun c_4 => ?_) (fun c_4 => ?_)
    · exact absurd c_4 c_1
    refine lv_aload_n hx hb dX11_order_15 rfl (lv_at hl 0 rfl) ?_
    refine lv_iconst (v := 1) hx hb dX11_order_16 (by decide) ?_
    have hPc := hP.sub (ws' := [(x0, .inr (11, [.ref rd, .ref dr, .ref bk, .ref st, .ref nw, .ref tr, .ref pl, .ref fl, .ref rg, .int 0, .int 0, .int 0]))]) [0] rfl
    have hDc := hD.sub (ws' := [(x0, .inr (11, [.ref rd, .ref dr, .ref bk, .ref st, .ref nw, .ref tr, .ref pl, .ref fl, .ref rg, .int 0, .int 0, .int 0]))]) [0] (by decide) rfl
    have hKc := hK.sub (tys' := []) [] rfl
    have hFc := va_free (wc := [(x0, .inr (11, [.ref rd, .ref dr, .ref bk, .ref st, .ref nw, .ref tr, .ref pl, .ref fl, .ref rg, .int 0, .int 0, .int 0]))]) hD hS hA [0] rfl
    refine va_calli (va_runV (As := [.int 1]) (rest := []) ⟨hx, hb, hml, hown, hts⟩ (c_refuse l dC dI n0 s.heap.size x0 rd dr bk st nw tr pl fl rg 0 0 0 1 ) (cwV 1 hts (gV (fun w h => wM_c h) wd_722 wd_719 wd_721 wd_0 wd_114) rfl rfl rfl (by decide +kernel) ⟨Nat.le_of_ble_eq_true rfl, Nat.le_of_ble_eq_true rfl⟩) ⟨fun a U g mk q => by obtain ⟨q0, q1, q2, qG, qP, qK, qD⟩ := q; exact ⟨q0, q1, q2, GW.blind qG, qP, va_K.moved (u := U) (U := U.calling g mk a) (Vm.Alike.refl U.vm) qK, qD⟩, va_recv hKc hPc (ci := 11) (q0 := 0) rfl rfl, fun U hU hW => ⟨rfl, by rw [hU], Nat.le_trans hn0 hS.1, GW.go hW hU hG (fun q hq hA9 => hS.2.1 q hq (fun h => hA9 (hA0 q h))), by rw [hU]; exact hPc, va_K.moved hW.alike hKc, hDc.weaken (fun _ _ _ h => hA0 _ h)⟩⟩ rfl rfl hl.1 rfl (lv_room (Nat.le_of_ble_eq_true rfl)) dX11_order_17 ⟨Nat.le_of_ble_eq_true rfl, Nat.le_of_ble_eq_true rfl⟩) hS (fun q _ h => hFc q h) hFc (fun r_5 u t H1 locs ht hvm hw_6 hB hz1 hk1 hS => ?_)
    obtain ⟨hP1, hK1, hD1⟩ := hB
    rw [ht] at hP1
    obtain ⟨hP, hD⟩ := va_join (wr := [(pl, .inr (6, [.int 0, .ref pl_order, .ref pl_state, .ref pl_now, .ref pl_trial, .ref pl_kind, .ref pl_which, .ref pl_value, .ref pl_soundBy, .int 0, .int 0]))]) (w1 := [(x0, .inr (11, [.ref rd, .ref dr, .ref bk, .ref st, .ref nw, .ref tr, .ref pl, .ref fl, .ref rg, .int 1, .int 0, .int 0]))]) hP hD [0] [1] rfl rfl (by decide) (by decide) hk1 hFc hP1 hD1
    generalize H1 = H at hP hS ⊢
    have hP : va_P (dC, dI) classes [(pl, .inr (6, [.int 0, .ref pl_order, .ref pl_state, .ref pl_now, .ref pl_trial, .ref pl_kind, .ref pl_which, .ref pl_value, .ref pl_soundBy, .int 0, .int 0])), (x0, .inr (11, [.ref rd, .ref dr, .ref bk, .ref st, .ref nw, .ref tr, .ref pl, .ref fl, .ref rg, .int 1, .int 0, .int 0]))] H := hP
    have hD : va_D A [(pl, .inr (6, [.int 0, .ref pl_order, .ref pl_state, .ref pl_now, .ref pl_trial, .ref pl_kind, .ref pl_which, .ref pl_value, .ref pl_soundBy, .int 0, .int 0])), (x0, .inr (11, [.ref rd, .ref dr, .ref bk, .ref st, .ref nw, .ref tr, .ref pl, .ref fl, .ref rg, .int 1, .int 0, .int 0]))] := hD
    obtain rfl : r_5 = (-1) := hw_6
    exact W.iret (v := (-1)) hx hb hr (fun t ht hW => ⟨⟨(-1), (), rfl, rfl, trivial⟩, hS.F ht⟩) hS.2.2 dX11_order_20
set_option maxHeartbeats 4000000 in
set_option maxRecDepth 100000 in
theorem p_make (l : Launch) (dC : Nat → ClassId) (dI : Nat → Nat → Nat) (n0 sz : Nat) (x0 : Nat) (rd : Nat) (dr : Nat) (bk : Nat) (st : Nat) (nw : Nat) (tr : Nat) (pl : Nat) (fl : Nat) (rg : Nat) (pl_order : Nat) (pl_state : Nat) (pl_now : Nat) (pl_trial : Nat) (pl_kind : Nat) (pl_which : Nat) (pl_value : Nat) (pl_soundBy : Nat) : Met l yX11_make (wM yX11_make cX11_make 2 (some .int)) ({ frames := 1, cells := 0, slots := 0, locals := 21 }) (va_Pc [.ref x0] (fun U => U.heap.size = sz ∧ n0 ≤ sz ∧ GW n0 U ∧ va_P (dC, dI) classes [(x0, .inr (11, [.ref rd, .ref dr, .ref bk, .ref st, .ref nw, .ref tr, .ref pl, .ref fl, .ref rg, .int 0, .int 0, .int 0])), (pl, .inr (6, [.int 0, .ref pl_order, .ref pl_state, .ref pl_now, .ref pl_trial, .ref pl_kind, .ref pl_which, .ref pl_value, .ref pl_soundBy, .int 0, .int 0]))] U.heap ∧ va_K (dC, dI) classes [] U ∧ va_D (fun q => n0 ≤ q) [(x0, .inr (11, [.ref rd, .ref dr, .ref bk, .ref st, .ref nw, .ref tr, .ref pl, .ref fl, .ref rg, .int 0, .int 0, .int 0])), (pl, .inr (6, [.int 0, .ref pl_order, .ref pl_state, .ref pl_now, .ref pl_trial, .ref pl_kind, .ref pl_which, .ref pl_value, .ref pl_soundBy, .int 0, .int 0]))])) (va_Qi (fun (r : Int32) (_ : Unit) => r = (-1)) (fun (_ : Unit) (_ : State) => True) (va_A [(x0, .inr (11, [.ref rd, .ref dr, .ref bk, .ref st, .ref nw, .ref tr, .ref pl, .ref fl, .ref rg, .int 0, .int 0, .int 0])), (pl, .inr (6, [.int 0, .ref pl_order, .ref pl_state, .ref pl_now, .ref pl_trial, .ref pl_kind, .ref pl_which, .ref pl_value, .ref pl_soundBy, .int 0, .int 0]))] sz)) 0 0 (va_A [(x0, .inr (11, [.ref rd, .ref dr, .ref bk, .ref st, .ref nw, .ref tr, .ref pl, .ref fl, .ref rg, .int 0, .int 0, .int 0])), (pl, .inr (6, [.int 0, .ref pl_order, .ref pl_state, .ref pl_now, .ref pl_trial, .ref pl_kind, .ref pl_which, .ref pl_value, .ref pl_soundBy, .int 0, .int 0]))] sz) := by
  refine Met.ofW (cc := cX11_make) (maxL := 2) (ret := (some .int)) (by decide) rfl ?_
  intro p e s m args below meth c s₁ B hml hv
  obtain ⟨rfl, hsz, hn0, hG, hP, hK, hD0⟩ := hv
  have hx := B.exec
  have hb := B.bytes
  have hr := B.returns
  have hts := atoms_spec (ws := wM yX11_make cX11_make 2 (some .int)) B.pre
  have hown : s.vm.findClass RX11 = some m.cls := findClass_of_methodNamed B.named
  have hlocks := B.notSynchronized
  subst hsz
  have hD := hD0.self (sz := s.heap.size)
  have hA0 := vA_n0 hD0 hn0
  generalize hAe : va_A [(x0, .inr (11, [.ref rd, .ref dr, .ref bk, .ref st, .ref nw, .ref tr, .ref pl, .ref fl, .ref rg, .int 0, .int 0, .int 0])), (pl, .inr (6, [.int 0, .ref pl_order, .ref pl_state, .ref pl_now, .ref pl_trial, .ref pl_kind, .ref pl_which, .ref pl_value, .ref pl_soundBy, .int 0, .int 0]))] s.heap.size = A at hD hA0 ⊢
  have hA : ∀ q : Nat, s.heap.size ≤ q → A q := fun q h => by rw [← hAe]; exact Or.inr h
  have hS : va_S A s.heap s.heap [] := va_S.rf
  have hl := lv_entry ([.ref x0]) (n := 2) (Nat.le_of_ble_eq_true rfl)
  rw [lg_entry_eq]
  generalize (lg_sl ([.ref x0]) ++ List.replicate (2 - (lg_sl ([.ref x0])).length) Slot.unset).toArray = ls at hl ⊢
  have hl : lv_has ls 2 [(0, .ref x0)] := hl
  refine lv_aload_n hx hb dX11_make_0 rfl (lv_at hl 0 rfl) ?_
  refine va_get (D := (dC, dI)) (ci := 11) (v := .ref pl) (C := RX11) (T := TX11) (N := 12) hx hb hts (fun w h => wM_c (iX11 w h)) hown hK hP 0 rfl rfl 6 (by decide) (hts _ (wM_c wd_676)) (fun _ h9 => h9) rfl dX11_make_1 ?_
  refine va_get (D := (dC, dI)) (ci := 6) (v := .int 0) (C := RX6) (T := TX6) (N := 11) hx hb hts (fun w h => wM_c (iX6 w h)) hown hK hP 1 rfl rfl 0 (by decide) (hts _ (wM_c wd_573)) (fun _ h9 => h9) rfl dX11_make_4 ?_
  refine lv_istore_n (lv' := [(1, .int 0), (0, .ref x0)]) hx hb dX11_make_7 rfl hl (by decide) rfl (fun ls hl => ?_)
  refine lv_iload_n hx hb dX11_make_8 rfl (lv_at hl 0 rfl) ?_
  refine lv_if_ne (tgt := 18) hx hb dX11_make_9 (by decide) (fun c_1 => ?_) (fun c_1 => ?_)
  · exact absurd c_1 (by decide)
  refine lv_aload_n hx hb dX11_make_12 rfl (lv_at hl 1 rfl) ?_
  refine lv_iconst (v := 5) hx hb dX11_make_13 (by decide) ?_
  have hPc := hP.sub (ws' := [(x0, .inr (11, [.ref rd, .ref dr, .ref bk, .ref st, .ref nw, .ref tr, .ref pl, .ref fl, .ref rg, .int 0, .int 0, .int 0]))]) [0] rfl
  have hDc := hD.sub (ws' := [(x0, .inr (11, [.ref rd, .ref dr, .ref bk, .ref st, .ref nw, .ref tr, .ref pl, .ref fl, .ref rg, .int 0, .int 0, .int 0]))]) [0] (by decide) rfl
  have hKc := hK.sub (tys' := []) [] rfl
  have hFc := va_free (wc := [(x0, .inr (11, [.ref rd, .ref dr, .ref bk, .ref st, .ref nw, .ref tr, .ref pl, .ref fl, .ref rg, .int 0, .int 0, .int 0]))]) hD hS hA [0] rfl
  refine va_calli (va_runV (As := [.int 5]) (rest := []) ⟨hx, hb, hml, hown, hts⟩ (c_refuse l dC dI n0 s.heap.size x0 rd dr bk st nw tr pl fl rg 0 0 0 5 ) (cwV 1 hts (gV (fun w h => wM_c h) wd_722 wd_719 wd_721 wd_0 wd_114) rfl rfl rfl (by decide +kernel) ⟨Nat.le_of_ble_eq_true rfl, Nat.le_of_ble_eq_true rfl⟩) ⟨fun a U g mk q => by obtain ⟨q0, q1, q2, qG, qP, qK, qD⟩ := q; exact ⟨q0, q1, q2, GW.blind qG, qP, va_K.moved (u := U) (U := U.calling g mk a) (Vm.Alike.refl U.vm) qK, qD⟩, va_recv hKc hPc (ci := 11) (q0 := 0) rfl rfl, fun U hU hW => ⟨rfl, by rw [hU], Nat.le_trans hn0 hS.1, GW.go hW hU hG (fun q hq hA9 => hS.2.1 q hq (fun h => hA9 (hA0 q h))), by rw [hU]; exact hPc, va_K.moved hW.alike hKc, hDc.weaken (fun _ _ _ h => hA0 _ h)⟩⟩ rfl rfl hl.1 rfl (lv_room (Nat.le_of_ble_eq_true rfl)) dX11_make_14 ⟨Nat.le_of_ble_eq_true rfl, Nat.le_of_ble_eq_true rfl⟩) hS (fun q _ h => hFc q h) hFc (fun r_2 u t H1 locs ht hvm hw_3 hB hz1 hk1 hS => ?_)
  obtain ⟨hP1, hK1, hD1⟩ := hB
  rw [ht] at hP1
  obtain ⟨hP, hD⟩ := va_join (wr := [(pl, .inr (6, [.int 0, .ref pl_order, .ref pl_state, .ref pl_now, .ref pl_trial, .ref pl_kind, .ref pl_which, .ref pl_value, .ref pl_soundBy, .int 0, .int 0]))]) (w1 := [(x0, .inr (11, [.ref rd, .ref dr, .ref bk, .ref st, .ref nw, .ref tr, .ref pl, .ref fl, .ref rg, .int 5, .int 0, .int 0]))]) hP hD [0] [1] rfl rfl (by decide) (by decide) hk1 hFc hP1 hD1
  generalize H1 = H at hP hS ⊢
  have hP : va_P (dC, dI) classes [(pl, .inr (6, [.int 0, .ref pl_order, .ref pl_state, .ref pl_now, .ref pl_trial, .ref pl_kind, .ref pl_which, .ref pl_value, .ref pl_soundBy, .int 0, .int 0])), (x0, .inr (11, [.ref rd, .ref dr, .ref bk, .ref st, .ref nw, .ref tr, .ref pl, .ref fl, .ref rg, .int 5, .int 0, .int 0]))] H := hP
  have hD : va_D A [(pl, .inr (6, [.int 0, .ref pl_order, .ref pl_state, .ref pl_now, .ref pl_trial, .ref pl_kind, .ref pl_which, .ref pl_value, .ref pl_soundBy, .int 0, .int 0])), (x0, .inr (11, [.ref rd, .ref dr, .ref bk, .ref st, .ref nw, .ref tr, .ref pl, .ref fl, .ref rg, .int 5, .int 0, .int 0]))] := hD
  obtain rfl : r_2 = (-1) := hw_3
  exact W.iret (v := (-1)) hx hb hr (fun t ht hW => ⟨⟨(-1), (), rfl, rfl, trivial⟩, hS.F ht⟩) hS.2.2 dX11_make_17
set_option maxHeartbeats 4000000 in
set_option maxRecDepth 100000 in
theorem p_reading (l : Launch) (dC : Nat → ClassId) (dI : Nat → Nat → Nat) (n0 sz : Nat) (x0 : Nat) (rd : Nat) (dr : Nat) (bk : Nat) (st : Nat) (nw : Nat) (tr : Nat) (pl : Nat) (fl : Nat) (rg : Nat) (bk_tail : Nat) (bk_head : Nat) (bk_hinder : Nat) (bk_size : Nat) (bk_walk : Nat) (bk_draught : Nat) (bk_doorIn : Nat) (bk_fanIn : Nat) (bk_faceIn : Nat) (gr : Nat) (w : Int32) (v : Int32) (uu : Int32) : Met l yX11_reading (wM yX11_reading cX11_reading 4 (some .int)) ({ frames := 1, cells := 0, slots := 0, locals := 21 }) (va_Pc [.ref x0, .int w, .int v, .int uu] (fun U => U.heap.size = sz ∧ n0 ≤ sz ∧ GW n0 U ∧ va_P (dC, dI) classes [(x0, .inr (11, [.ref rd, .ref dr, .ref bk, .ref st, .ref nw, .ref tr, .ref pl, .ref fl, .ref rg, .int 0, .int 0, .int 0])), (bk, .inr (0, [.int 0, .ref bk_tail, .ref bk_head, .ref bk_hinder, .ref bk_size, .ref bk_walk, .ref bk_draught, .ref bk_doorIn, .ref bk_fanIn, .ref bk_faceIn, .int 0, .int (-1), .ref gr]))] U.heap ∧ va_K (dC, dI) classes [] U ∧ va_D (fun q => n0 ≤ q) [(x0, .inr (11, [.ref rd, .ref dr, .ref bk, .ref st, .ref nw, .ref tr, .ref pl, .ref fl, .ref rg, .int 0, .int 0, .int 0])), (bk, .inr (0, [.int 0, .ref bk_tail, .ref bk_head, .ref bk_hinder, .ref bk_size, .ref bk_walk, .ref bk_draught, .ref bk_doorIn, .ref bk_fanIn, .ref bk_faceIn, .int 0, .int (-1), .ref gr]))])) (va_Qi (fun (r : Int32) (_ : Unit) => r = (-1)) (fun (_ : Unit) (_ : State) => True) (va_A [(x0, .inr (11, [.ref rd, .ref dr, .ref bk, .ref st, .ref nw, .ref tr, .ref pl, .ref fl, .ref rg, .int 0, .int 0, .int 0])), (bk, .inr (0, [.int 0, .ref bk_tail, .ref bk_head, .ref bk_hinder, .ref bk_size, .ref bk_walk, .ref bk_draught, .ref bk_doorIn, .ref bk_fanIn, .ref bk_faceIn, .int 0, .int (-1), .ref gr]))] sz)) 0 0 (va_A [(x0, .inr (11, [.ref rd, .ref dr, .ref bk, .ref st, .ref nw, .ref tr, .ref pl, .ref fl, .ref rg, .int 0, .int 0, .int 0])), (bk, .inr (0, [.int 0, .ref bk_tail, .ref bk_head, .ref bk_hinder, .ref bk_size, .ref bk_walk, .ref bk_draught, .ref bk_doorIn, .ref bk_fanIn, .ref bk_faceIn, .int 0, .int (-1), .ref gr]))] sz) := by
  refine Met.ofW (cc := cX11_reading) (maxL := 4) (ret := (some .int)) (by decide) rfl ?_
  intro p e s m args below meth c s₁ B hml hv
  obtain ⟨rfl, hsz, hn0, hG, hP, hK, hD0⟩ := hv
  have hx := B.exec
  have hb := B.bytes
  have hr := B.returns
  have hts := atoms_spec (ws := wM yX11_reading cX11_reading 4 (some .int)) B.pre
  have hown : s.vm.findClass RX11 = some m.cls := findClass_of_methodNamed B.named
  have hlocks := B.notSynchronized
  subst hsz
  have hD := hD0.self (sz := s.heap.size)
  have hA0 := vA_n0 hD0 hn0
  generalize hAe : va_A [(x0, .inr (11, [.ref rd, .ref dr, .ref bk, .ref st, .ref nw, .ref tr, .ref pl, .ref fl, .ref rg, .int 0, .int 0, .int 0])), (bk, .inr (0, [.int 0, .ref bk_tail, .ref bk_head, .ref bk_hinder, .ref bk_size, .ref bk_walk, .ref bk_draught, .ref bk_doorIn, .ref bk_fanIn, .ref bk_faceIn, .int 0, .int (-1), .ref gr]))] s.heap.size = A at hD hA0 ⊢
  have hA : ∀ q : Nat, s.heap.size ≤ q → A q := fun q h => by rw [← hAe]; exact Or.inr h
  have hS : va_S A s.heap s.heap [] := va_S.rf
  have hl := lv_entry ([.ref x0, .int w, .int v, .int uu]) (n := 4) (Nat.le_of_ble_eq_true rfl)
  rw [lg_entry_eq]
  generalize (lg_sl ([.ref x0, .int w, .int v, .int uu]) ++ List.replicate (4 - (lg_sl ([.ref x0, .int w, .int v, .int uu])).length) Slot.unset).toArray = ls at hl ⊢
  have hl : lv_has ls 4 [(0, .ref x0), (1, .int w), (2, .int v), (3, .int uu)] := hl
  refine lv_aload_n hx hb dX11_reading_0 rfl (lv_at hl 0 rfl) ?_
  refine lv_iload_n hx hb dX11_reading_1 rfl (lv_at hl 1 rfl) ?_
  have hPc := hP.sub (ws' := [(x0, .inr (11, [.ref rd, .ref dr, .ref bk, .ref st, .ref nw, .ref tr, .ref pl, .ref fl, .ref rg, .int 0, .int 0, .int 0])), (bk, .inr (0, [.int 0, .ref bk_tail, .ref bk_head, .ref bk_hinder, .ref bk_size, .ref bk_walk, .ref bk_draught, .ref bk_doorIn, .ref bk_fanIn, .ref bk_faceIn, .int 0, .int (-1), .ref gr]))]) [0, 1] rfl
  have hDc := hD.sub (ws' := [(x0, .inr (11, [.ref rd, .ref dr, .ref bk, .ref st, .ref nw, .ref tr, .ref pl, .ref fl, .ref rg, .int 0, .int 0, .int 0])), (bk, .inr (0, [.int 0, .ref bk_tail, .ref bk_head, .ref bk_hinder, .ref bk_size, .ref bk_walk, .ref bk_draught, .ref bk_doorIn, .ref bk_fanIn, .ref bk_faceIn, .int 0, .int (-1), .ref gr]))]) [0, 1] (by decide) rfl
  have hKc := hK.sub (tys' := []) [] rfl
  have hFc := va_free (wc := [(x0, .inr (11, [.ref rd, .ref dr, .ref bk, .ref st, .ref nw, .ref tr, .ref pl, .ref fl, .ref rg, .int 0, .int 0, .int 0])), (bk, .inr (0, [.int 0, .ref bk_tail, .ref bk_head, .ref bk_hinder, .ref bk_size, .ref bk_walk, .ref bk_draught, .ref bk_doorIn, .ref bk_fanIn, .ref bk_faceIn, .int 0, .int (-1), .ref gr]))]) hD hS hA [0, 1] rfl
  refine va_calli (va_runV (As := [.int w]) (rest := []) ⟨hx, hb, hml, hown, hts⟩ (c_isWay l dC dI n0 s.heap.size x0 rd dr bk st nw tr pl fl rg 0 0 0 bk_tail bk_head bk_hinder bk_size bk_walk bk_draught bk_doorIn bk_fanIn bk_faceIn gr w ) (cwV 1 hts (gV (fun w h => wM_c h) wd_950 wd_947 wd_949 wd_25 wd_114) rfl rfl rfl (by decide +kernel) ⟨Nat.le_of_ble_eq_true rfl, Nat.le_of_ble_eq_true rfl⟩) ⟨fun a U g mk q => by obtain ⟨q0, q1, q2, qG, qP, qK, qD⟩ := q; exact ⟨q0, q1, q2, GW.blind qG, qP, va_K.moved (u := U) (U := U.calling g mk a) (Vm.Alike.refl U.vm) qK, qD⟩, va_recv hKc hPc (ci := 11) (q0 := 0) rfl rfl, fun U hU hW => ⟨rfl, by rw [hU], Nat.le_trans hn0 hS.1, GW.go hW hU hG (fun q hq hA9 => hS.2.1 q hq (fun h => hA9 (hA0 q h))), by rw [hU]; exact hPc, va_K.moved hW.alike hKc, hDc.weaken (fun _ _ _ h => hA0 _ h)⟩⟩ rfl rfl hl.1 rfl (lv_room (Nat.le_of_ble_eq_true rfl)) dX11_reading_2 ⟨Nat.le_of_ble_eq_true rfl, Nat.le_of_ble_eq_true rfl⟩) hS (fun q _ h => hFc q h) hFc (fun r_1 u t H1 locs ht hvm hw_2 hB hz1 hk1 hS => ?_)
  obtain ⟨hP1, hK1, hD1⟩ := hB
  rw [ht] at hP1
  obtain ⟨hP, hD⟩ := va_join (wr := []) (w1 := [(x0, .inr (11, [.ref rd, .ref dr, .ref bk, .ref st, .ref nw, .ref tr, .ref pl, .ref fl, .ref rg, .int 0, .int 0, .int 0])), (bk, .inr (0, [.int 0, .ref bk_tail, .ref bk_head, .ref bk_hinder, .ref bk_size, .ref bk_walk, .ref bk_draught, .ref bk_doorIn, .ref bk_fanIn, .ref bk_faceIn, .int 0, .int (-1), .ref gr]))]) hP hD [0, 1] [] rfl rfl (by decide) (by decide) hk1 hFc hP1 hD1
  generalize H1 = H at hP hS ⊢
  have hP : va_P (dC, dI) classes [(x0, .inr (11, [.ref rd, .ref dr, .ref bk, .ref st, .ref nw, .ref tr, .ref pl, .ref fl, .ref rg, .int 0, .int 0, .int 0])), (bk, .inr (0, [.int 0, .ref bk_tail, .ref bk_head, .ref bk_hinder, .ref bk_size, .ref bk_walk, .ref bk_draught, .ref bk_doorIn, .ref bk_fanIn, .ref bk_faceIn, .int 0, .int (-1), .ref gr]))] H := hP
  have hD : va_D A [(x0, .inr (11, [.ref rd, .ref dr, .ref bk, .ref st, .ref nw, .ref tr, .ref pl, .ref fl, .ref rg, .int 0, .int 0, .int 0])), (bk, .inr (0, [.int 0, .ref bk_tail, .ref bk_head, .ref bk_hinder, .ref bk_size, .ref bk_walk, .ref bk_draught, .ref bk_doorIn, .ref bk_fanIn, .ref bk_faceIn, .int 0, .int (-1), .ref gr]))] := hD
  obtain rfl : r_1 = 0 := hw_2
  refine lv_if_ne (tgt := 14) hx hb dX11_reading_5 (by decide) (fun c_3 => ?_) (fun c_3 => ?_)
  · exact absurd c_3 (by decide)
  refine lv_aload_n hx hb dX11_reading_8 rfl (lv_at hl 0 rfl) ?_
  refine lv_iconst (v := 1) hx hb dX11_reading_9 (by decide) ?_
  have hPc := hP.sub (ws' := [(x0, .inr (11, [.ref rd, .ref dr, .ref bk, .ref st, .ref nw, .ref tr, .ref pl, .ref fl, .ref rg, .int 0, .int 0, .int 0]))]) [0] rfl
  have hDc := hD.sub (ws' := [(x0, .inr (11, [.ref rd, .ref dr, .ref bk, .ref st, .ref nw, .ref tr, .ref pl, .ref fl, .ref rg, .int 0, .int 0, .int 0]))]) [0] (by decide) rfl
  have hKc := hK.sub (tys' := []) [] rfl
  have hFc := va_free (wc := [(x0, .inr (11, [.ref rd, .ref dr, .ref bk, .ref st, .ref nw, .ref tr, .ref pl, .ref fl, .ref rg, .int 0, .int 0, .int 0]))]) hD hS hA [0] rfl
  refine va_calli (va_runV (As := [.int 1]) (rest := []) ⟨hx, hb, hml, hown, hts⟩ (c_refuse l dC dI n0 H.size x0 rd dr bk st nw tr pl fl rg 0 0 0 1 ) (cwV 1 hts (gV (fun w h => wM_c h) wd_722 wd_719 wd_721 wd_0 wd_114) rfl rfl rfl (by decide +kernel) ⟨Nat.le_of_ble_eq_true rfl, Nat.le_of_ble_eq_true rfl⟩) ⟨fun a U g mk q => by obtain ⟨q0, q1, q2, qG, qP, qK, qD⟩ := q; exact ⟨q0, q1, q2, GW.blind qG, qP, va_K.moved (u := U) (U := U.calling g mk a) (Vm.Alike.refl U.vm) qK, qD⟩, va_recv hKc hPc (ci := 11) (q0 := 0) rfl rfl, fun U hU hW => ⟨rfl, by rw [hU], Nat.le_trans hn0 hS.1, GW.go hW hU hG (fun q hq hA9 => hS.2.1 q hq (fun h => hA9 (hA0 q h))), by rw [hU]; exact hPc, va_K.moved hW.alike hKc, hDc.weaken (fun _ _ _ h => hA0 _ h)⟩⟩ rfl rfl hl.1 rfl (lv_room (Nat.le_of_ble_eq_true rfl)) dX11_reading_10 ⟨Nat.le_of_ble_eq_true rfl, Nat.le_of_ble_eq_true rfl⟩) hS (fun q _ h => hFc q h) hFc (fun r_4 u t H1 locs ht hvm hw_5 hB hz1 hk1 hS => ?_)
  obtain ⟨hP1, hK1, hD1⟩ := hB
  rw [ht] at hP1
  obtain ⟨hP, hD⟩ := va_join (wr := [(bk, .inr (0, [.int 0, .ref bk_tail, .ref bk_head, .ref bk_hinder, .ref bk_size, .ref bk_walk, .ref bk_draught, .ref bk_doorIn, .ref bk_fanIn, .ref bk_faceIn, .int 0, .int (-1), .ref gr]))]) (w1 := [(x0, .inr (11, [.ref rd, .ref dr, .ref bk, .ref st, .ref nw, .ref tr, .ref pl, .ref fl, .ref rg, .int 1, .int 0, .int 0]))]) hP hD [0] [1] rfl rfl (by decide) (by decide) hk1 hFc hP1 hD1
  generalize H1 = H at hP hS ⊢
  have hP : va_P (dC, dI) classes [(bk, .inr (0, [.int 0, .ref bk_tail, .ref bk_head, .ref bk_hinder, .ref bk_size, .ref bk_walk, .ref bk_draught, .ref bk_doorIn, .ref bk_fanIn, .ref bk_faceIn, .int 0, .int (-1), .ref gr])), (x0, .inr (11, [.ref rd, .ref dr, .ref bk, .ref st, .ref nw, .ref tr, .ref pl, .ref fl, .ref rg, .int 1, .int 0, .int 0]))] H := hP
  have hD : va_D A [(bk, .inr (0, [.int 0, .ref bk_tail, .ref bk_head, .ref bk_hinder, .ref bk_size, .ref bk_walk, .ref bk_draught, .ref bk_doorIn, .ref bk_fanIn, .ref bk_faceIn, .int 0, .int (-1), .ref gr])), (x0, .inr (11, [.ref rd, .ref dr, .ref bk, .ref st, .ref nw, .ref tr, .ref pl, .ref fl, .ref rg, .int 1, .int 0, .int 0]))] := hD
  obtain rfl : r_4 = (-1) := hw_5
  exact W.iret (v := (-1)) hx hb hr (fun t ht hW => ⟨⟨(-1), (), rfl, rfl, trivial⟩, hS.F ht⟩) hS.2.2 dX11_reading_13
set_option maxHeartbeats 4000000 in
set_option maxRecDepth 100000 in
theorem p_fits (l : Launch) (dC : Nat → ClassId) (dI : Nat → Nat → Nat) (n0 sz : Nat) (x0 : Nat) (rd : Nat) (dr : Nat) (bk : Nat) (st : Nat) (nw : Nat) (tr : Nat) (pl : Nat) (fl : Nat) (rg : Nat) (bk_tail : Nat) (bk_head : Nat) (bk_hinder : Nat) (bk_size : Nat) (bk_walk : Nat) (bk_draught : Nat) (bk_doorIn : Nat) (bk_fanIn : Nat) (bk_faceIn : Nat) (gr : Nat) (w : Int32) : Met l yX11_fits (wM yX11_fits cX11_fits 2 (some .int)) ({ frames := 1, cells := 0, slots := 0, locals := 21 }) (va_Pc [.ref x0, .int w] (fun U => U.heap.size = sz ∧ n0 ≤ sz ∧ GW n0 U ∧ va_P (dC, dI) classes [(x0, .inr (11, [.ref rd, .ref dr, .ref bk, .ref st, .ref nw, .ref tr, .ref pl, .ref fl, .ref rg, .int 0, .int 0, .int 0])), (bk, .inr (0, [.int 0, .ref bk_tail, .ref bk_head, .ref bk_hinder, .ref bk_size, .ref bk_walk, .ref bk_draught, .ref bk_doorIn, .ref bk_fanIn, .ref bk_faceIn, .int 0, .int (-1), .ref gr]))] U.heap ∧ va_K (dC, dI) classes [] U ∧ va_D (fun q => n0 ≤ q) [(x0, .inr (11, [.ref rd, .ref dr, .ref bk, .ref st, .ref nw, .ref tr, .ref pl, .ref fl, .ref rg, .int 0, .int 0, .int 0])), (bk, .inr (0, [.int 0, .ref bk_tail, .ref bk_head, .ref bk_hinder, .ref bk_size, .ref bk_walk, .ref bk_draught, .ref bk_doorIn, .ref bk_fanIn, .ref bk_faceIn, .int 0, .int (-1), .ref gr]))])) (va_Qi (fun (r : Int32) (_ : Unit) => r = (-1)) (fun (_ : Unit) (_ : State) => True) (va_A [(x0, .inr (11, [.ref rd, .ref dr, .ref bk, .ref st, .ref nw, .ref tr, .ref pl, .ref fl, .ref rg, .int 0, .int 0, .int 0])), (bk, .inr (0, [.int 0, .ref bk_tail, .ref bk_head, .ref bk_hinder, .ref bk_size, .ref bk_walk, .ref bk_draught, .ref bk_doorIn, .ref bk_fanIn, .ref bk_faceIn, .int 0, .int (-1), .ref gr]))] sz)) 0 0 (va_A [(x0, .inr (11, [.ref rd, .ref dr, .ref bk, .ref st, .ref nw, .ref tr, .ref pl, .ref fl, .ref rg, .int 0, .int 0, .int 0])), (bk, .inr (0, [.int 0, .ref bk_tail, .ref bk_head, .ref bk_hinder, .ref bk_size, .ref bk_walk, .ref bk_draught, .ref bk_doorIn, .ref bk_fanIn, .ref bk_faceIn, .int 0, .int (-1), .ref gr]))] sz) := by
  refine Met.ofW (cc := cX11_fits) (maxL := 2) (ret := (some .int)) (by decide) rfl ?_
  intro p e s m args below meth c s₁ B hml hv
  obtain ⟨rfl, hsz, hn0, hG, hP, hK, hD0⟩ := hv
  have hx := B.exec
  have hb := B.bytes
  have hr := B.returns
  have hts := atoms_spec (ws := wM yX11_fits cX11_fits 2 (some .int)) B.pre
  have hown : s.vm.findClass RX11 = some m.cls := findClass_of_methodNamed B.named
  have hlocks := B.notSynchronized
  subst hsz
  have hD := hD0.self (sz := s.heap.size)
  have hA0 := vA_n0 hD0 hn0
  generalize hAe : va_A [(x0, .inr (11, [.ref rd, .ref dr, .ref bk, .ref st, .ref nw, .ref tr, .ref pl, .ref fl, .ref rg, .int 0, .int 0, .int 0])), (bk, .inr (0, [.int 0, .ref bk_tail, .ref bk_head, .ref bk_hinder, .ref bk_size, .ref bk_walk, .ref bk_draught, .ref bk_doorIn, .ref bk_fanIn, .ref bk_faceIn, .int 0, .int (-1), .ref gr]))] s.heap.size = A at hD hA0 ⊢
  have hA : ∀ q : Nat, s.heap.size ≤ q → A q := fun q h => by rw [← hAe]; exact Or.inr h
  have hS : va_S A s.heap s.heap [] := va_S.rf
  have hl := lv_entry ([.ref x0, .int w]) (n := 2) (Nat.le_of_ble_eq_true rfl)
  rw [lg_entry_eq]
  generalize (lg_sl ([.ref x0, .int w]) ++ List.replicate (2 - (lg_sl ([.ref x0, .int w])).length) Slot.unset).toArray = ls at hl ⊢
  have hl : lv_has ls 2 [(0, .ref x0), (1, .int w)] := hl
  refine lv_aload_n hx hb dX11_fits_0 rfl (lv_at hl 0 rfl) ?_
  have hPc := hP.sub (ws' := [(x0, .inr (11, [.ref rd, .ref dr, .ref bk, .ref st, .ref nw, .ref tr, .ref pl, .ref fl, .ref rg, .int 0, .int 0, .int 0])), (bk, .inr (0, [.int 0, .ref bk_tail, .ref bk_head, .ref bk_hinder, .ref bk_size, .ref bk_walk, .ref bk_draught, .ref bk_doorIn, .ref bk_fanIn, .ref bk_faceIn, .int 0, .int (-1), .ref gr]))]) [0, 1] rfl
  have hDc := hD.sub (ws' := [(x0, .inr (11, [.ref rd, .ref dr, .ref bk, .ref st, .ref nw, .ref tr, .ref pl, .ref fl, .ref rg, .int 0, .int 0, .int 0])), (bk, .inr (0, [.int 0, .ref bk_tail, .ref bk_head, .ref bk_hinder, .ref bk_size, .ref bk_walk, .ref bk_draught, .ref bk_doorIn, .ref bk_fanIn, .ref bk_faceIn, .int 0, .int (-1), .ref gr]))]) [0, 1] (by decide) rfl
  have hKc := hK.sub (tys' := []) [] rfl
  have hFc := va_free (wc := [(x0, .inr (11, [.ref rd, .ref dr, .ref bk, .ref st, .ref nw, .ref tr, .ref pl, .ref fl, .ref rg, .int 0, .int 0, .int 0])), (bk, .inr (0, [.int 0, .ref bk_tail, .ref bk_head, .ref bk_hinder, .ref bk_size, .ref bk_walk, .ref bk_draught, .ref bk_doorIn, .ref bk_fanIn, .ref bk_faceIn, .int 0, .int (-1), .ref gr]))]) hD hS hA [0, 1] rfl
  refine va_calli (va_runV (As := []) (rest := []) ⟨hx, hb, hml, hown, hts⟩ (c_isBooked l dC dI n0 s.heap.size x0 rd dr bk st nw tr pl fl rg 0 0 0 bk_tail bk_head bk_hinder bk_size bk_walk bk_draught bk_doorIn bk_fanIn bk_faceIn gr ) (cwV 0 hts (gV (fun w h => wM_c h) wd_1068 wd_1065 wd_1067 wd_39 wd_114) rfl rfl rfl (by decide +kernel) ⟨Nat.le_of_ble_eq_true rfl, Nat.le_of_ble_eq_true rfl⟩) ⟨fun a U g mk q => by obtain ⟨q0, q1, q2, qG, qP, qK, qD⟩ := q; exact ⟨q0, q1, q2, GW.blind qG, qP, va_K.moved (u := U) (U := U.calling g mk a) (Vm.Alike.refl U.vm) qK, qD⟩, va_recv hKc hPc (ci := 11) (q0 := 0) rfl rfl, fun U hU hW => ⟨rfl, by rw [hU], Nat.le_trans hn0 hS.1, GW.go hW hU hG (fun q hq hA9 => hS.2.1 q hq (fun h => hA9 (hA0 q h))), by rw [hU]; exact hPc, va_K.moved hW.alike hKc, hDc.weaken (fun _ _ _ h => hA0 _ h)⟩⟩ rfl rfl hl.1 rfl (lv_room (Nat.le_of_ble_eq_true rfl)) dX11_fits_1 ⟨Nat.le_of_ble_eq_true rfl, Nat.le_of_ble_eq_true rfl⟩) hS (fun q _ h => hFc q h) hFc (fun r_1 u t H1 locs ht hvm hw_2 hB hz1 hk1 hS => ?_)
  obtain ⟨hP1, hK1, hD1⟩ := hB
  rw [ht] at hP1
  obtain ⟨hP, hD⟩ := va_join (wr := []) (w1 := [(x0, .inr (11, [.ref rd, .ref dr, .ref bk, .ref st, .ref nw, .ref tr, .ref pl, .ref fl, .ref rg, .int 0, .int 0, .int 0])), (bk, .inr (0, [.int 0, .ref bk_tail, .ref bk_head, .ref bk_hinder, .ref bk_size, .ref bk_walk, .ref bk_draught, .ref bk_doorIn, .ref bk_fanIn, .ref bk_faceIn, .int 0, .int (-1), .ref gr]))]) hP hD [0, 1] [] rfl rfl (by decide) (by decide) hk1 hFc hP1 hD1
  generalize H1 = H at hP hS ⊢
  have hP : va_P (dC, dI) classes [(x0, .inr (11, [.ref rd, .ref dr, .ref bk, .ref st, .ref nw, .ref tr, .ref pl, .ref fl, .ref rg, .int 0, .int 0, .int 0])), (bk, .inr (0, [.int 0, .ref bk_tail, .ref bk_head, .ref bk_hinder, .ref bk_size, .ref bk_walk, .ref bk_draught, .ref bk_doorIn, .ref bk_fanIn, .ref bk_faceIn, .int 0, .int (-1), .ref gr]))] H := hP
  have hD : va_D A [(x0, .inr (11, [.ref rd, .ref dr, .ref bk, .ref st, .ref nw, .ref tr, .ref pl, .ref fl, .ref rg, .int 0, .int 0, .int 0])), (bk, .inr (0, [.int 0, .ref bk_tail, .ref bk_head, .ref bk_hinder, .ref bk_size, .ref bk_walk, .ref bk_draught, .ref bk_doorIn, .ref bk_fanIn, .ref bk_faceIn, .int 0, .int (-1), .ref gr]))] := hD
  obtain rfl : r_1 = 0 := hw_2
  refine lv_if_ne (tgt := 13) hx hb dX11_fits_4 (by decide) (fun c_3 => ?_) (fun c_3 => ?_)
  · exact absurd c_3 (by decide)
  refine lv_aload_n hx hb dX11_fits_7 rfl (lv_at hl 0 rfl) ?_
  refine lv_iconst (v := 1) hx hb dX11_fits_8 (by decide) ?_
  have hPc := hP.sub (ws' := [(x0, .inr (11, [.ref rd, .ref dr, .ref bk, .ref st, .ref nw, .ref tr, .ref pl, .ref fl, .ref rg, .int 0, .int 0, .int 0]))]) [0] rfl
  have hDc := hD.sub (ws' := [(x0, .inr (11, [.ref rd, .ref dr, .ref bk, .ref st, .ref nw, .ref tr, .ref pl, .ref fl, .ref rg, .int 0, .int 0, .int 0]))]) [0] (by decide) rfl
  have hKc := hK.sub (tys' := []) [] rfl
  have hFc := va_free (wc := [(x0, .inr (11, [.ref rd, .ref dr, .ref bk, .ref st, .ref nw, .ref tr, .ref pl, .ref fl, .ref rg, .int 0, .int 0, .int 0]))]) hD hS hA [0] rfl
  refine va_calli (va_runV (As := [.int 1]) (rest := []) ⟨hx, hb, hml, hown, hts⟩ (c_refuse l dC dI n0 H.size x0 rd dr bk st nw tr pl fl rg 0 0 0 1 ) (cwV 1 hts (gV (fun w h => wM_c h) wd_722 wd_719 wd_721 wd_0 wd_114) rfl rfl rfl (by decide +kernel) ⟨Nat.le_of_ble_eq_true rfl, Nat.le_of_ble_eq_true rfl⟩) ⟨fun a U g mk q => by obtain ⟨q0, q1, q2, qG, qP, qK, qD⟩ := q; exact ⟨q0, q1, q2, GW.blind qG, qP, va_K.moved (u := U) (U := U.calling g mk a) (Vm.Alike.refl U.vm) qK, qD⟩, va_recv hKc hPc (ci := 11) (q0 := 0) rfl rfl, fun U hU hW => ⟨rfl, by rw [hU], Nat.le_trans hn0 hS.1, GW.go hW hU hG (fun q hq hA9 => hS.2.1 q hq (fun h => hA9 (hA0 q h))), by rw [hU]; exact hPc, va_K.moved hW.alike hKc, hDc.weaken (fun _ _ _ h => hA0 _ h)⟩⟩ rfl rfl hl.1 rfl (lv_room (Nat.le_of_ble_eq_true rfl)) dX11_fits_9 ⟨Nat.le_of_ble_eq_true rfl, Nat.le_of_ble_eq_true rfl⟩) hS (fun q _ h => hFc q h) hFc (fun r_4 u t H1 locs ht hvm hw_5 hB hz1 hk1 hS => ?_)
  obtain ⟨hP1, hK1, hD1⟩ := hB
  rw [ht] at hP1
  obtain ⟨hP, hD⟩ := va_join (wr := [(bk, .inr (0, [.int 0, .ref bk_tail, .ref bk_head, .ref bk_hinder, .ref bk_size, .ref bk_walk, .ref bk_draught, .ref bk_doorIn, .ref bk_fanIn, .ref bk_faceIn, .int 0, .int (-1), .ref gr]))]) (w1 := [(x0, .inr (11, [.ref rd, .ref dr, .ref bk, .ref st, .ref nw, .ref tr, .ref pl, .ref fl, .ref rg, .int 1, .int 0, .int 0]))]) hP hD [0] [1] rfl rfl (by decide) (by decide) hk1 hFc hP1 hD1
  generalize H1 = H at hP hS ⊢
  have hP : va_P (dC, dI) classes [(bk, .inr (0, [.int 0, .ref bk_tail, .ref bk_head, .ref bk_hinder, .ref bk_size, .ref bk_walk, .ref bk_draught, .ref bk_doorIn, .ref bk_fanIn, .ref bk_faceIn, .int 0, .int (-1), .ref gr])), (x0, .inr (11, [.ref rd, .ref dr, .ref bk, .ref st, .ref nw, .ref tr, .ref pl, .ref fl, .ref rg, .int 1, .int 0, .int 0]))] H := hP
  have hD : va_D A [(bk, .inr (0, [.int 0, .ref bk_tail, .ref bk_head, .ref bk_hinder, .ref bk_size, .ref bk_walk, .ref bk_draught, .ref bk_doorIn, .ref bk_fanIn, .ref bk_faceIn, .int 0, .int (-1), .ref gr])), (x0, .inr (11, [.ref rd, .ref dr, .ref bk, .ref st, .ref nw, .ref tr, .ref pl, .ref fl, .ref rg, .int 1, .int 0, .int 0]))] := hD
  obtain rfl : r_4 = (-1) := hw_5
  exact W.iret (v := (-1)) hx hb hr (fun t ht hW => ⟨⟨(-1), (), rfl, rfl, trivial⟩, hS.F ht⟩) hS.2.2 dX11_fits_12
set_option maxHeartbeats 4000000 in
set_option maxRecDepth 100000 in
theorem c_planForget (l : Launch) (dC : Nat → ClassId) (dI : Nat → Nat → Nat) (n0 sz : Nat) (pl : Nat) (pl_order : Nat) (pl_state : Nat) (pl_now : Nat) (pl_trial : Nat) (pl_kind : Nat) (pl_which : Nat) (pl_value : Nat) (pl_soundBy : Nat) : Met l yX6_forget (wM yX6_forget cX6_forget 1 none) ({ frames := 0, cells := 0, slots := 0, locals := 0 }) (va_Pc [.ref pl] (fun U => U.heap.size = sz ∧ n0 ≤ sz ∧ GW n0 U ∧ va_P (dC, dI) classes [(pl, .inr (6, [.int 0, .ref pl_order, .ref pl_state, .ref pl_now, .ref pl_trial, .ref pl_kind, .ref pl_which, .ref pl_value, .ref pl_soundBy, .int 0, .int 0]))] U.heap ∧ va_K (dC, dI) classes [] U ∧ va_D (fun q => n0 ≤ q) [(pl, .inr (6, [.int 0, .ref pl_order, .ref pl_state, .ref pl_now, .ref pl_trial, .ref pl_kind, .ref pl_which, .ref pl_value, .ref pl_soundBy, .int 0, .int 0]))])) (va_Qv (fun _ : Unit => True) (fun (_ : Unit) (t : State) => va_P (dC, dI) classes [(pl, .inr (6, [.int 0, .ref pl_order, .ref pl_state, .ref pl_now, .ref pl_trial, .ref pl_kind, .ref pl_which, .ref pl_value, .ref pl_soundBy, .int 0, .int 0]))] t.heap ∧ va_K (dC, dI) classes [] t ∧ va_D (va_A [(pl, .inr (6, [.int 0, .ref pl_order, .ref pl_state, .ref pl_now, .ref pl_trial, .ref pl_kind, .ref pl_which, .ref pl_value, .ref pl_soundBy, .int 0, .int 0]))] sz) [(pl, .inr (6, [.int 0, .ref pl_order, .ref pl_state, .ref pl_now, .ref pl_trial, .ref pl_kind, .ref pl_which, .ref pl_value, .ref pl_soundBy, .int 0, .int 0]))]) (va_A [(pl, .inr (6, [.int 0, .ref pl_order, .ref pl_state, .ref pl_now, .ref pl_trial, .ref pl_kind, .ref pl_which, .ref pl_value, .ref pl_soundBy, .int 0, .int 0]))] sz)) 0 0 (va_A [(pl, .inr (6, [.int 0, .ref pl_order, .ref pl_state, .ref pl_now, .ref pl_trial, .ref pl_kind, .ref pl_which, .ref pl_value, .ref pl_soundBy, .int 0, .int 0]))] sz) := by
  refine Met.ofW (cc := cX6_forget) (maxL := 1) (ret := none) (by decide) rfl ?_
  intro p e s m args below meth c s₁ B hml hv
  obtain ⟨rfl, hsz, hn0, hG, hP, hK, hD0⟩ := hv
  have hx := B.exec
  have hb := B.bytes
  have hr := B.returns
  have hts := atoms_spec (ws := wM yX6_forget cX6_forget 1 none) B.pre
  have hown : s.vm.findClass RX6 = some m.cls := findClass_of_methodNamed B.named
  have hlocks := B.notSynchronized
  subst hsz
  have hD := hD0.self (sz := s.heap.size)
  have hA0 := vA_n0 hD0 hn0
  generalize hAe : va_A [(pl, .inr (6, [.int 0, .ref pl_order, .ref pl_state, .ref pl_now, .ref pl_trial, .ref pl_kind, .ref pl_which, .ref pl_value, .ref pl_soundBy, .int 0, .int 0]))] s.heap.size = A at hD hA0 ⊢
  have hA : ∀ q : Nat, s.heap.size ≤ q → A q := fun q h => by rw [← hAe]; exact Or.inr h
  have hS : va_S A s.heap s.heap [] := va_S.rf
  have hl := lv_entry ([.ref pl]) (n := 1) (Nat.le_of_ble_eq_true rfl)
  rw [lg_entry_eq]
  generalize (lg_sl ([.ref pl]) ++ List.replicate (1 - (lg_sl ([.ref pl])).length) Slot.unset).toArray = ls at hl ⊢
  have hl : lv_has ls 1 [(0, .ref pl)] := hl
  refine lv_aload_n hx hb dX6_forget_0 rfl (lv_at hl 0 rfl) ?_
  refine lv_iconst (v := 0) hx hb dX6_forget_1 (by decide) ?_
  refine va_put (D := (dC, dI)) (ci := 6) (v := .int 0) (ty := .int) (C := RX6) (T := TX6) (N := 11) hx hb hts (fun w h => wM_c (iX6 w h)) tyX6 tyX6_ok nmX6 hown hK hP hD hS 0 rfl rfl 9 (by decide) (hts _ (wM_c wd_583)) (fun _ h9 => h9) rfl (by decide +kernel) rfl rfl (Nat.le_of_ble_eq_true rfl) dX6_forget_2 (fun H locs hP hD hS => ?_)
  have hP : va_P (dC, dI) classes [(pl, .inr (6, [.int 0, .ref pl_order, .ref pl_state, .ref pl_now, .ref pl_trial, .ref pl_kind, .ref pl_which, .ref pl_value, .ref pl_soundBy, .int 0, .int 0]))] H := hP
  have hD : va_D A [(pl, .inr (6, [.int 0, .ref pl_order, .ref pl_state, .ref pl_now, .ref pl_trial, .ref pl_kind, .ref pl_which, .ref pl_value, .ref pl_soundBy, .int 0, .int 0]))] := hD
  have hP9 := hP.sub (ws' := [(pl, .inr (6, [.int 0, .ref pl_order, .ref pl_state, .ref pl_now, .ref pl_trial, .ref pl_kind, .ref pl_which, .ref pl_value, .ref pl_soundBy, .int 0, .int 0]))]) [0] rfl
  have hD9 := hD.sub (ws' := [(pl, .inr (6, [.int 0, .ref pl_order, .ref pl_state, .ref pl_now, .ref pl_trial, .ref pl_kind, .ref pl_which, .ref pl_value, .ref pl_soundBy, .int 0, .int 0]))]) [0] (by decide) rfl
  have hK9 := hK.sub (tys' := []) [] rfl
  exact W.vret hx hb hr (fun t ht hW => ⟨⟨(), rfl, trivial, by rw [ht]; exact hP9, va_K.moved hW.alike hK9, hD9⟩, hS.F ht⟩) hS.2.2 dX6_forget_5
set_option maxHeartbeats 4000000 in
set_option maxRecDepth 100000 in
theorem c_forgetVerdicts (l : Launch) (dC : Nat → ClassId) (dI : Nat → Nat → Nat) (n0 sz : Nat) (x0 : Nat) (rd : Nat) (dr : Nat) (bk : Nat) (st : Nat) (nw : Nat) (tr : Nat) (pl : Nat) (fl : Nat) (rg : Nat) (tb : Int32) (ft : Int32) (pc : Int32) (tr_book : Nat) (tr_state : Nat) (tr_now : Nat) (tr_trial : Nat) (tr_ranks : Nat) (tr_keptSpeed : Nat) (pl_order : Nat) (pl_state : Nat) (pl_now : Nat) (pl_trial : Nat) (pl_kind : Nat) (pl_which : Nat) (pl_value : Nat) (pl_soundBy : Nat) : Met l yX11_forgetVerdicts (wM yX11_forgetVerdicts cX11_forgetVerdicts 1 none) ({ frames := 1, cells := 0, slots := 0, locals := 20 }) (va_Pc [.ref x0] (fun U => U.heap.size = sz ∧ n0 ≤ sz ∧ GW n0 U ∧ va_P (dC, dI) classes [(x0, .inr (11, [.ref rd, .ref dr, .ref bk, .ref st, .ref nw, .ref tr, .ref pl, .ref fl, .ref rg, .int tb, .int ft, .int pc])), (tr, .inr (10, [.int 0, .int 0, .ref tr_book, .ref tr_state, .ref tr_now, .ref tr_trial, .ref tr_ranks, .ref tr_keptSpeed])), (pl, .inr (6, [.int 0, .ref pl_order, .ref pl_state, .ref pl_now, .ref pl_trial, .ref pl_kind, .ref pl_which, .ref pl_value, .ref pl_soundBy, .int 0, .int 0]))] U.heap ∧ va_K (dC, dI) classes [] U ∧ va_D (fun q => n0 ≤ q) [(x0, .inr (11, [.ref rd, .ref dr, .ref bk, .ref st, .ref nw, .ref tr, .ref pl, .ref fl, .ref rg, .int tb, .int ft, .int pc])), (tr, .inr (10, [.int 0, .int 0, .ref tr_book, .ref tr_state, .ref tr_now, .ref tr_trial, .ref tr_ranks, .ref tr_keptSpeed])), (pl, .inr (6, [.int 0, .ref pl_order, .ref pl_state, .ref pl_now, .ref pl_trial, .ref pl_kind, .ref pl_which, .ref pl_value, .ref pl_soundBy, .int 0, .int 0]))])) (va_Qv (fun _ : Unit => True) (fun (_ : Unit) (t : State) => va_P (dC, dI) classes [(x0, .inr (11, [.ref rd, .ref dr, .ref bk, .ref st, .ref nw, .ref tr, .ref pl, .ref fl, .ref rg, .int tb, .int ft, .int pc])), (tr, .inr (10, [.int 0, .int 0, .ref tr_book, .ref tr_state, .ref tr_now, .ref tr_trial, .ref tr_ranks, .ref tr_keptSpeed])), (pl, .inr (6, [.int 0, .ref pl_order, .ref pl_state, .ref pl_now, .ref pl_trial, .ref pl_kind, .ref pl_which, .ref pl_value, .ref pl_soundBy, .int 0, .int 0]))] t.heap ∧ va_K (dC, dI) classes [] t ∧ va_D (va_A [(x0, .inr (11, [.ref rd, .ref dr, .ref bk, .ref st, .ref nw, .ref tr, .ref pl, .ref fl, .ref rg, .int tb, .int ft, .int pc])), (tr, .inr (10, [.int 0, .int 0, .ref tr_book, .ref tr_state, .ref tr_now, .ref tr_trial, .ref tr_ranks, .ref tr_keptSpeed])), (pl, .inr (6, [.int 0, .ref pl_order, .ref pl_state, .ref pl_now, .ref pl_trial, .ref pl_kind, .ref pl_which, .ref pl_value, .ref pl_soundBy, .int 0, .int 0]))] sz) [(x0, .inr (11, [.ref rd, .ref dr, .ref bk, .ref st, .ref nw, .ref tr, .ref pl, .ref fl, .ref rg, .int tb, .int ft, .int pc])), (tr, .inr (10, [.int 0, .int 0, .ref tr_book, .ref tr_state, .ref tr_now, .ref tr_trial, .ref tr_ranks, .ref tr_keptSpeed])), (pl, .inr (6, [.int 0, .ref pl_order, .ref pl_state, .ref pl_now, .ref pl_trial, .ref pl_kind, .ref pl_which, .ref pl_value, .ref pl_soundBy, .int 0, .int 0]))]) (va_A [(x0, .inr (11, [.ref rd, .ref dr, .ref bk, .ref st, .ref nw, .ref tr, .ref pl, .ref fl, .ref rg, .int tb, .int ft, .int pc])), (tr, .inr (10, [.int 0, .int 0, .ref tr_book, .ref tr_state, .ref tr_now, .ref tr_trial, .ref tr_ranks, .ref tr_keptSpeed])), (pl, .inr (6, [.int 0, .ref pl_order, .ref pl_state, .ref pl_now, .ref pl_trial, .ref pl_kind, .ref pl_which, .ref pl_value, .ref pl_soundBy, .int 0, .int 0]))] sz)) 0 0 (va_A [(x0, .inr (11, [.ref rd, .ref dr, .ref bk, .ref st, .ref nw, .ref tr, .ref pl, .ref fl, .ref rg, .int tb, .int ft, .int pc])), (tr, .inr (10, [.int 0, .int 0, .ref tr_book, .ref tr_state, .ref tr_now, .ref tr_trial, .ref tr_ranks, .ref tr_keptSpeed])), (pl, .inr (6, [.int 0, .ref pl_order, .ref pl_state, .ref pl_now, .ref pl_trial, .ref pl_kind, .ref pl_which, .ref pl_value, .ref pl_soundBy, .int 0, .int 0]))] sz) := by
  refine Met.ofW (cc := cX11_forgetVerdicts) (maxL := 1) (ret := none) (by decide) rfl ?_
  intro p e s m args below meth c s₁ B hml hv
  obtain ⟨rfl, hsz, hn0, hG, hP, hK, hD0⟩ := hv
  have hx := B.exec
  have hb := B.bytes
  have hr := B.returns
  have hts := atoms_spec (ws := wM yX11_forgetVerdicts cX11_forgetVerdicts 1 none) B.pre
  have hown : s.vm.findClass RX11 = some m.cls := findClass_of_methodNamed B.named
  have hlocks := B.notSynchronized
  subst hsz
  have hD := hD0.self (sz := s.heap.size)
  have hA0 := vA_n0 hD0 hn0
  generalize hAe : va_A [(x0, .inr (11, [.ref rd, .ref dr, .ref bk, .ref st, .ref nw, .ref tr, .ref pl, .ref fl, .ref rg, .int tb, .int ft, .int pc])), (tr, .inr (10, [.int 0, .int 0, .ref tr_book, .ref tr_state, .ref tr_now, .ref tr_trial, .ref tr_ranks, .ref tr_keptSpeed])), (pl, .inr (6, [.int 0, .ref pl_order, .ref pl_state, .ref pl_now, .ref pl_trial, .ref pl_kind, .ref pl_which, .ref pl_value, .ref pl_soundBy, .int 0, .int 0]))] s.heap.size = A at hD hA0 ⊢
  have hA : ∀ q : Nat, s.heap.size ≤ q → A q := fun q h => by rw [← hAe]; exact Or.inr h
  have hS : va_S A s.heap s.heap [] := va_S.rf
  have hl := lv_entry ([.ref x0]) (n := 1) (Nat.le_of_ble_eq_true rfl)
  rw [lg_entry_eq]
  generalize (lg_sl ([.ref x0]) ++ List.replicate (1 - (lg_sl ([.ref x0])).length) Slot.unset).toArray = ls at hl ⊢
  have hl : lv_has ls 1 [(0, .ref x0)] := hl
  refine lv_aload_n hx hb dX11_forgetVerdicts_0 rfl (lv_at hl 0 rfl) ?_
  refine va_get (D := (dC, dI)) (ci := 11) (v := .ref tr) (C := RX11) (T := TX11) (N := 12) hx hb hts (fun w h => wM_c (iX11 w h)) hown hK hP 0 rfl rfl 5 (by decide) (hts _ (wM_c wd_675)) (fun _ h9 => h9) rfl dX11_forgetVerdicts_1 ?_
  refine lv_iconst (v := 0) hx hb dX11_forgetVerdicts_4 (by decide) ?_
  refine va_put (D := (dC, dI)) (ci := 10) (v := .int 0) (ty := .boolean) (C := RX10) (T := TX10) (N := 8) hx hb hts (fun w h => wM_c (iX10 w h)) tyX10 tyX10_ok nmX10 hown hK hP hD hS 1 rfl rfl 0 (by decide) (hts _ (wM_c wd_541)) (fun _ h9 => h9) rfl (by decide +kernel) rfl rfl (Nat.le_of_ble_eq_true rfl) dX11_forgetVerdicts_5 (fun H locs hP hD hS => ?_)
  have hP : va_P (dC, dI) classes [(x0, .inr (11, [.ref rd, .ref dr, .ref bk, .ref st, .ref nw, .ref tr, .ref pl, .ref fl, .ref rg, .int tb, .int ft, .int pc])), (tr, .inr (10, [.int 0, .int 0, .ref tr_book, .ref tr_state, .ref tr_now, .ref tr_trial, .ref tr_ranks, .ref tr_keptSpeed])), (pl, .inr (6, [.int 0, .ref pl_order, .ref pl_state, .ref pl_now, .ref pl_trial, .ref pl_kind, .ref pl_which, .ref pl_value, .ref pl_soundBy, .int 0, .int 0]))] H := hP
  have hD : va_D A [(x0, .inr (11, [.ref rd, .ref dr, .ref bk, .ref st, .ref nw, .ref tr, .ref pl, .ref fl, .ref rg, .int tb, .int ft, .int pc])), (tr, .inr (10, [.int 0, .int 0, .ref tr_book, .ref tr_state, .ref tr_now, .ref tr_trial, .ref tr_ranks, .ref tr_keptSpeed])), (pl, .inr (6, [.int 0, .ref pl_order, .ref pl_state, .ref pl_now, .ref pl_trial, .ref pl_kind, .ref pl_which, .ref pl_value, .ref pl_soundBy, .int 0, .int 0]))] := hD
  refine lv_aload_n hx hb dX11_forgetVerdicts_8 rfl (lv_at hl 0 rfl) ?_
  refine va_get (D := (dC, dI)) (ci := 11) (v := .ref pl) (C := RX11) (T := TX11) (N := 12) hx hb hts (fun w h => wM_c (iX11 w h)) hown hK hP 0 rfl rfl 6 (by decide) (hts _ (wM_c wd_676)) (fun _ h9 => h9) rfl dX11_forgetVerdicts_9 ?_
  have hPc := hP.sub (ws' := [(pl, .inr (6, [.int 0, .ref pl_order, .ref pl_state, .ref pl_now, .ref pl_trial, .ref pl_kind, .ref pl_which, .ref pl_value, .ref pl_soundBy, .int 0, .int 0]))]) [2] rfl
  have hDc := hD.sub (ws' := [(pl, .inr (6, [.int 0, .ref pl_order, .ref pl_state, .ref pl_now, .ref pl_trial, .ref pl_kind, .ref pl_which, .ref pl_value, .ref pl_soundBy, .int 0, .int 0]))]) [2] (by decide) rfl
  have hKc := hK.sub (tys' := []) [] rfl
  have hFc := va_free (wc := [(pl, .inr (6, [.int 0, .ref pl_order, .ref pl_state, .ref pl_now, .ref pl_trial, .ref pl_kind, .ref pl_which, .ref pl_value, .ref pl_soundBy, .int 0, .int 0]))]) hD hS hA [2] rfl
  refine va_callv (va_runV (As := []) (rest := []) ⟨hx, hb, hml, hown, hts⟩ (c_planForget l dC dI n0 H.size pl pl_order pl_state pl_now pl_trial pl_kind pl_which pl_value pl_soundBy ) (cwV 0 hts (gV (fun w h => wM_c h) wd_929 wd_926 wd_927 wd_928 wd_123) rfl rfl rfl (by decide +kernel) ⟨Nat.le_of_ble_eq_true rfl, Nat.le_of_ble_eq_true rfl⟩) ⟨fun a U g mk q => by obtain ⟨q0, q1, q2, qG, qP, qK, qD⟩ := q; exact ⟨q0, q1, q2, GW.blind qG, qP, va_K.moved (u := U) (U := U.calling g mk a) (Vm.Alike.refl U.vm) qK, qD⟩, va_recv hKc hPc (ci := 6) (q0 := 0) rfl rfl, fun U hU hW => ⟨rfl, by rw [hU], Nat.le_trans hn0 hS.1, GW.go hW hU hG (fun q hq hA9 => hS.2.1 q hq (fun h => hA9 (hA0 q h))), by rw [hU]; exact hPc, va_K.moved hW.alike hKc, hDc.weaken (fun _ _ _ h => hA0 _ h)⟩⟩ rfl rfl hl.1 rfl (lv_room (Nat.le_of_ble_eq_true rfl)) dX11_forgetVerdicts_12 ⟨Nat.le_of_ble_eq_true rfl, Nat.le_of_ble_eq_true rfl⟩) hS (fun q _ h => hFc q h) hFc (fun u t H1 locs ht hvm hw_2 hB hz1 hk1 hS => ?_)
  obtain ⟨hP1, hK1, hD1⟩ := hB
  rw [ht] at hP1
  obtain ⟨hP, hD⟩ := va_join (wr := [(x0, .inr (11, [.ref rd, .ref dr, .ref bk, .ref st, .ref nw, .ref tr, .ref pl, .ref fl, .ref rg, .int tb, .int ft, .int pc])), (tr, .inr (10, [.int 0, .int 0, .ref tr_book, .ref tr_state, .ref tr_now, .ref tr_trial, .ref tr_ranks, .ref tr_keptSpeed]))]) (w1 := [(pl, .inr (6, [.int 0, .ref pl_order, .ref pl_state, .ref pl_now, .ref pl_trial, .ref pl_kind, .ref pl_which, .ref pl_value, .ref pl_soundBy, .int 0, .int 0]))]) hP hD [2] [0, 1] rfl rfl (by decide) (by decide) hk1 hFc hP1 hD1
  generalize H1 = H at hP hS ⊢
  have hP : va_P (dC, dI) classes [(x0, .inr (11, [.ref rd, .ref dr, .ref bk, .ref st, .ref nw, .ref tr, .ref pl, .ref fl, .ref rg, .int tb, .int ft, .int pc])), (tr, .inr (10, [.int 0, .int 0, .ref tr_book, .ref tr_state, .ref tr_now, .ref tr_trial, .ref tr_ranks, .ref tr_keptSpeed])), (pl, .inr (6, [.int 0, .ref pl_order, .ref pl_state, .ref pl_now, .ref pl_trial, .ref pl_kind, .ref pl_which, .ref pl_value, .ref pl_soundBy, .int 0, .int 0]))] H := hP
  have hD : va_D A [(x0, .inr (11, [.ref rd, .ref dr, .ref bk, .ref st, .ref nw, .ref tr, .ref pl, .ref fl, .ref rg, .int tb, .int ft, .int pc])), (tr, .inr (10, [.int 0, .int 0, .ref tr_book, .ref tr_state, .ref tr_now, .ref tr_trial, .ref tr_ranks, .ref tr_keptSpeed])), (pl, .inr (6, [.int 0, .ref pl_order, .ref pl_state, .ref pl_now, .ref pl_trial, .ref pl_kind, .ref pl_which, .ref pl_value, .ref pl_soundBy, .int 0, .int 0]))] := hD
  have hP9 := hP.sub (ws' := [(x0, .inr (11, [.ref rd, .ref dr, .ref bk, .ref st, .ref nw, .ref tr, .ref pl, .ref fl, .ref rg, .int tb, .int ft, .int pc])), (tr, .inr (10, [.int 0, .int 0, .ref tr_book, .ref tr_state, .ref tr_now, .ref tr_trial, .ref tr_ranks, .ref tr_keptSpeed])), (pl, .inr (6, [.int 0, .ref pl_order, .ref pl_state, .ref pl_now, .ref pl_trial, .ref pl_kind, .ref pl_which, .ref pl_value, .ref pl_soundBy, .int 0, .int 0]))]) [0, 1, 2] rfl
  have hD9 := hD.sub (ws' := [(x0, .inr (11, [.ref rd, .ref dr, .ref bk, .ref st, .ref nw, .ref tr, .ref pl, .ref fl, .ref rg, .int tb, .int ft, .int pc])), (tr, .inr (10, [.int 0, .int 0, .ref tr_book, .ref tr_state, .ref tr_now, .ref tr_trial, .ref tr_ranks, .ref tr_keptSpeed])), (pl, .inr (6, [.int 0, .ref pl_order, .ref pl_state, .ref pl_now, .ref pl_trial, .ref pl_kind, .ref pl_which, .ref pl_value, .ref pl_soundBy, .int 0, .int 0]))]) [0, 1, 2] (by decide) rfl
  have hK9 := hK.sub (tys' := []) [] rfl
  exact W.vret hx hb hr (fun t ht hW => ⟨⟨(), rfl, trivial, by rw [ht]; exact hP9, va_K.moved hW.alike hK9, hD9⟩, hS.F ht⟩) hS.2.2 dX11_forgetVerdicts_15
set_option maxHeartbeats 4000000 in
set_option maxRecDepth 100000 in
theorem p_mark (l : Launch) (dC : Nat → ClassId) (dI : Nat → Nat → Nat) (n0 sz : Nat) (x0 : Nat) (rd : Nat) (dr : Nat) (bk : Nat) (st : Nat) (nw : Nat) (tr : Nat) (pl : Nat) (fl : Nat) (rg : Nat) (st_open : Nat) (st_speed : Nat) (st_fallen : Nat) (st_fire : Nat) (st_book : Nat) (tr_book : Nat) (tr_state : Nat) (tr_now : Nat) (tr_trial : Nat) (tr_ranks : Nat) (tr_keptSpeed : Nat) (pl_order : Nat) (pl_state : Nat) (pl_now : Nat) (pl_trial : Nat) (pl_kind : Nat) (pl_which : Nat) (pl_value : Nat) (pl_soundBy : Nat) (w : Int32) : Met l yX11_mark (wM yX11_mark cX11_mark 2 (some .boolean)) ({ frames := 2, cells := 0, slots := 0, locals := 40 }) (va_Pc [.ref x0, .int w] (fun U => U.heap.size = sz ∧ n0 ≤ sz ∧ GW n0 U ∧ va_P (dC, dI) classes [(x0, .inr (11, [.ref rd, .ref dr, .ref bk, .ref st, .ref nw, .ref tr, .ref pl, .ref fl, .ref rg, .int 0, .int 0, .int 0])), (st, .inr (9, [.ref st_open, .ref st_speed, .ref st_fallen, .ref st_fire, .int 10, .int (-1), .int 0, .ref st_book])), (tr, .inr (10, [.int 0, .int 0, .ref tr_book, .ref tr_state, .ref tr_now, .ref tr_trial, .ref tr_ranks, .ref tr_keptSpeed])), (pl, .inr (6, [.int 0, .ref pl_order, .ref pl_state, .ref pl_now, .ref pl_trial, .ref pl_kind, .ref pl_which, .ref pl_value, .ref pl_soundBy, .int 0, .int 0]))] U.heap ∧ va_K (dC, dI) classes [] U ∧ va_D (fun q => n0 ≤ q) [(x0, .inr (11, [.ref rd, .ref dr, .ref bk, .ref st, .ref nw, .ref tr, .ref pl, .ref fl, .ref rg, .int 0, .int 0, .int 0])), (st, .inr (9, [.ref st_open, .ref st_speed, .ref st_fallen, .ref st_fire, .int 10, .int (-1), .int 0, .ref st_book])), (tr, .inr (10, [.int 0, .int 0, .ref tr_book, .ref tr_state, .ref tr_now, .ref tr_trial, .ref tr_ranks, .ref tr_keptSpeed])), (pl, .inr (6, [.int 0, .ref pl_order, .ref pl_state, .ref pl_now, .ref pl_trial, .ref pl_kind, .ref pl_which, .ref pl_value, .ref pl_soundBy, .int 0, .int 0]))])) (va_Qi (fun (r : Int32) (_ : Unit) => r = mrk w) (fun (_ : Unit) (_ : State) => True) (va_A [(x0, .inr (11, [.ref rd, .ref dr, .ref bk, .ref st, .ref nw, .ref tr, .ref pl, .ref fl, .ref rg, .int 0, .int 0, .int 0])), (st, .inr (9, [.ref st_open, .ref st_speed, .ref st_fallen, .ref st_fire, .int 10, .int (-1), .int 0, .ref st_book])), (tr, .inr (10, [.int 0, .int 0, .ref tr_book, .ref tr_state, .ref tr_now, .ref tr_trial, .ref tr_ranks, .ref tr_keptSpeed])), (pl, .inr (6, [.int 0, .ref pl_order, .ref pl_state, .ref pl_now, .ref pl_trial, .ref pl_kind, .ref pl_which, .ref pl_value, .ref pl_soundBy, .int 0, .int 0]))] sz)) 0 0 (va_A [(x0, .inr (11, [.ref rd, .ref dr, .ref bk, .ref st, .ref nw, .ref tr, .ref pl, .ref fl, .ref rg, .int 0, .int 0, .int 0])), (st, .inr (9, [.ref st_open, .ref st_speed, .ref st_fallen, .ref st_fire, .int 10, .int (-1), .int 0, .ref st_book])), (tr, .inr (10, [.int 0, .int 0, .ref tr_book, .ref tr_state, .ref tr_now, .ref tr_trial, .ref tr_ranks, .ref tr_keptSpeed])), (pl, .inr (6, [.int 0, .ref pl_order, .ref pl_state, .ref pl_now, .ref pl_trial, .ref pl_kind, .ref pl_which, .ref pl_value, .ref pl_soundBy, .int 0, .int 0]))] sz) := by
  refine Met.ofW (cc := cX11_mark) (maxL := 2) (ret := (some .boolean)) (by decide) rfl ?_
  intro p e s m args below meth c s₁ B hml hv
  obtain ⟨rfl, hsz, hn0, hG, hP, hK, hD0⟩ := hv
  have hx := B.exec
  have hb := B.bytes
  have hr := B.returns
  have hts := atoms_spec (ws := wM yX11_mark cX11_mark 2 (some .boolean)) B.pre
  have hown : s.vm.findClass RX11 = some m.cls := findClass_of_methodNamed B.named
  have hlocks := B.notSynchronized
  subst hsz
  have hD := hD0.self (sz := s.heap.size)
  have hA0 := vA_n0 hD0 hn0
  generalize hAe : va_A [(x0, .inr (11, [.ref rd, .ref dr, .ref bk, .ref st, .ref nw, .ref tr, .ref pl, .ref fl, .ref rg, .int 0, .int 0, .int 0])), (st, .inr (9, [.ref st_open, .ref st_speed, .ref st_fallen, .ref st_fire, .int 10, .int (-1), .int 0, .ref st_book])), (tr, .inr (10, [.int 0, .int 0, .ref tr_book, .ref tr_state, .ref tr_now, .ref tr_trial, .ref tr_ranks, .ref tr_keptSpeed])), (pl, .inr (6, [.int 0, .ref pl_order, .ref pl_state, .ref pl_now, .ref pl_trial, .ref pl_kind, .ref pl_which, .ref pl_value, .ref pl_soundBy, .int 0, .int 0]))] s.heap.size = A at hD hA0 ⊢
  have hA : ∀ q : Nat, s.heap.size ≤ q → A q := fun q h => by rw [← hAe]; exact Or.inr h
  have hS : va_S A s.heap s.heap [] := va_S.rf
  have hl := lv_entry ([.ref x0, .int w]) (n := 2) (Nat.le_of_ble_eq_true rfl)
  rw [lg_entry_eq]
  generalize (lg_sl ([.ref x0, .int w]) ++ List.replicate (2 - (lg_sl ([.ref x0, .int w])).length) Slot.unset).toArray = ls at hl ⊢
  have hl : lv_has ls 2 [(0, .ref x0), (1, .int w)] := hl
  refine lv_iload_n hx hb dX11_mark_0 rfl (lv_at hl 1 rfl) ?_
  refine lv_iconst (v := 1) hx hb dX11_mark_1 (by decide) ?_
  refine lv_icmp_lt (tgt := 12) hx hb dX11_mark_2 (by decide) (fun c_1 => ?_) (fun c_1 => ?_)
  · skip
    refine lv_aload_n hx hb dX11_mark_12 rfl (lv_at hl 0 rfl) ?_
    refine lv_iconst (v := 2) hx hb dX11_mark_13 (by decide) ?_
    have hPc := hP.sub (ws' := [(x0, .inr (11, [.ref rd, .ref dr, .ref bk, .ref st, .ref nw, .ref tr, .ref pl, .ref fl, .ref rg, .int 0, .int 0, .int 0]))]) [0] rfl
    have hDc := hD.sub (ws' := [(x0, .inr (11, [.ref rd, .ref dr, .ref bk, .ref st, .ref nw, .ref tr, .ref pl, .ref fl, .ref rg, .int 0, .int 0, .int 0]))]) [0] (by decide) rfl
    have hKc := hK.sub (tys' := []) [] rfl
    have hFc := va_free (wc := [(x0, .inr (11, [.ref rd, .ref dr, .ref bk, .ref st, .ref nw, .ref tr, .ref pl, .ref fl, .ref rg, .int 0, .int 0, .int 0]))]) hD hS hA [0] rfl
    refine va_calli (va_runV (As := [.int 2]) (rest := []) ⟨hx, hb, hml, hown, hts⟩ (c_deny l dC dI n0 s.heap.size x0 rd dr bk st nw tr pl fl rg 0 0 0 2 ) (cwV 1 hts (gV (fun w h => wM_c h) wd_970 wd_967 wd_969 wd_27 wd_114) rfl rfl rfl (by decide +kernel) ⟨Nat.le_of_ble_eq_true rfl, Nat.le_of_ble_eq_true rfl⟩) ⟨fun a U g mk q => by obtain ⟨q0, q1, q2, qG, qP, qK, qD⟩ := q; exact ⟨q0, q1, q2, GW.blind qG, qP, va_K.moved (u := U) (U := U.calling g mk a) (Vm.Alike.refl U.vm) qK, qD⟩, va_recv hKc hPc (ci := 11) (q0 := 0) rfl rfl, fun U hU hW => ⟨rfl, by rw [hU], Nat.le_trans hn0 hS.1, GW.go hW hU hG (fun q hq hA9 => hS.2.1 q hq (fun h => hA9 (hA0 q h))), by rw [hU]; exact hPc, va_K.moved hW.alike hKc, hDc.weaken (fun _ _ _ h => hA0 _ h)⟩⟩ rfl rfl hl.1 rfl (lv_room (Nat.le_of_ble_eq_true rfl)) dX11_mark_14 ⟨Nat.le_of_ble_eq_true rfl, Nat.le_of_ble_eq_true rfl⟩) hS (fun q _ h => hFc q h) hFc (fun r_2 u t H1 locs ht hvm hw_3 hB hz1 hk1 hS => ?_)
    obtain ⟨hP1, hK1, hD1⟩ := hB
    rw [ht] at hP1
    obtain ⟨hP, hD⟩ := va_join (wr := [(st, .inr (9, [.ref st_open, .ref st_speed, .ref st_fallen, .ref st_fire, .int 10, .int (-1), .int 0, .ref st_book])), (tr, .inr (10, [.int 0, .int 0, .ref tr_book, .ref tr_state, .ref tr_now, .ref tr_trial, .ref tr_ranks, .ref tr_keptSpeed])), (pl, .inr (6, [.int 0, .ref pl_order, .ref pl_state, .ref pl_now, .ref pl_trial, .ref pl_kind, .ref pl_which, .ref pl_value, .ref pl_soundBy, .int 0, .int 0]))]) (w1 := [(x0, .inr (11, [.ref rd, .ref dr, .ref bk, .ref st, .ref nw, .ref tr, .ref pl, .ref fl, .ref rg, .int 2, .int 0, .int 0]))]) hP hD [0] [1, 2, 3] rfl rfl (by decide) (by decide) hk1 hFc hP1 hD1
    generalize H1 = H at hP hS ⊢
    have hP : va_P (dC, dI) classes [(st, .inr (9, [.ref st_open, .ref st_speed, .ref st_fallen, .ref st_fire, .int 10, .int (-1), .int 0, .ref st_book])), (tr, .inr (10, [.int 0, .int 0, .ref tr_book, .ref tr_state, .ref tr_now, .ref tr_trial, .ref tr_ranks, .ref tr_keptSpeed])), (pl, .inr (6, [.int 0, .ref pl_order, .ref pl_state, .ref pl_now, .ref pl_trial, .ref pl_kind, .ref pl_which, .ref pl_value, .ref pl_soundBy, .int 0, .int 0])), (x0, .inr (11, [.ref rd, .ref dr, .ref bk, .ref st, .ref nw, .ref tr, .ref pl, .ref fl, .ref rg, .int 2, .int 0, .int 0]))] H := hP
    have hD : va_D A [(st, .inr (9, [.ref st_open, .ref st_speed, .ref st_fallen, .ref st_fire, .int 10, .int (-1), .int 0, .ref st_book])), (tr, .inr (10, [.int 0, .int 0, .ref tr_book, .ref tr_state, .ref tr_now, .ref tr_trial, .ref tr_ranks, .ref tr_keptSpeed])), (pl, .inr (6, [.int 0, .ref pl_order, .ref pl_state, .ref pl_now, .ref pl_trial, .ref pl_kind, .ref pl_which, .ref pl_value, .ref pl_soundBy, .int 0, .int 0])), (x0, .inr (11, [.ref rd, .ref dr, .ref bk, .ref st, .ref nw, .ref tr, .ref pl, .ref fl, .ref rg, .int 2, .int 0, .int 0]))] := hD
    obtain rfl : r_2 = 0 := hw_3
    exact W.zret (v := 0) hx hb hr rfl (fun t ht hW => ⟨⟨0, (), rfl, (mrk_lo c_1), trivial⟩, hS.F ht⟩) hS.2.2 dX11_mark_17
  · skip
    refine lv_iload_n hx hb dX11_mark_5 rfl (lv_at hl 1 rfl) ?_
    refine lv_sipush (v := 999) hx hb dX11_mark_6 (by decide) ?_
    refine lv_icmp_le (tgt := 18) hx hb dX11_mark_9 (by decide) (fun c_4 => ?_) (fun c_4 => ?_)
    · skip
      refine lv_aload_n hx hb dX11_mark_18 rfl (lv_at hl 0 rfl) ?_
      refine va_get (D := (dC, dI)) (ci := 11) (v := .ref st) (C := RX11) (T := TX11) (N := 12) hx hb hts (fun w h => wM_c (iX11 w h)) hown hK hP 0 rfl rfl 3 (by decide) (hts _ (wM_c wd_673)) (fun _ h9 => h9) rfl dX11_mark_19 ?_
      refine lv_iload_n hx hb dX11_mark_22 rfl (lv_at hl 1 rfl) ?_
      refine va_put (D := (dC, dI)) (ci := 9) (v := .int w) (ty := .int) (C := RX9) (T := TX9) (N := 8) hx hb hts (fun w h => wM_c (iX9 w h)) tyX9 tyX9_ok nmX9 hown hK hP hD hS 1 rfl rfl 4 (by decide) (hts _ (wM_c wd_407)) (fun _ h9 => h9) rfl (by decide +kernel) rfl rfl (Nat.le_of_ble_eq_true rfl) dX11_mark_23 (fun H locs hP hD hS => ?_)
      have hP : va_P (dC, dI) classes [(x0, .inr (11, [.ref rd, .ref dr, .ref bk, .ref st, .ref nw, .ref tr, .ref pl, .ref fl, .ref rg, .int 0, .int 0, .int 0])), (st, .inr (9, [.ref st_open, .ref st_speed, .ref st_fallen, .ref st_fire, .int w, .int (-1), .int 0, .ref st_book])), (tr, .inr (10, [.int 0, .int 0, .ref tr_book, .ref tr_state, .ref tr_now, .ref tr_trial, .ref tr_ranks, .ref tr_keptSpeed])), (pl, .inr (6, [.int 0, .ref pl_order, .ref pl_state, .ref pl_now, .ref pl_trial, .ref pl_kind, .ref pl_which, .ref pl_value, .ref pl_soundBy, .int 0, .int 0]))] H := hP
      have hD : va_D A [(x0, .inr (11, [.ref rd, .ref dr, .ref bk, .ref st, .ref nw, .ref tr, .ref pl, .ref fl, .ref rg, .int 0, .int 0, .int 0])), (st, .inr (9, [.ref st_open, .ref st_speed, .ref st_fallen, .ref st_fire, .int w, .int (-1), .int 0, .ref st_book])), (tr, .inr (10, [.int 0, .int 0, .ref tr_book, .ref tr_state, .ref tr_now, .ref tr_trial, .ref tr_ranks, .ref tr_keptSpeed])), (pl, .inr (6, [.int 0, .ref pl_order, .ref pl_state, .ref pl_now, .ref pl_trial, .ref pl_kind, .ref pl_which, .ref pl_value, .ref pl_soundBy, .int 0, .int 0]))] := hD
      refine lv_aload_n hx hb dX11_mark_26 rfl (lv_at hl 0 rfl) ?_
      have hPc := hP.sub (ws' := [(x0, .inr (11, [.ref rd, .ref dr, .ref bk, .ref st, .ref nw, .ref tr, .ref pl, .ref fl, .ref rg, .int 0, .int 0, .int 0])), (tr, .inr (10, [.int 0, .int 0, .ref tr_book, .ref tr_state, .ref tr_now, .ref tr_trial, .ref tr_ranks, .ref tr_keptSpeed])), (pl, .inr (6, [.int 0, .ref pl_order, .ref pl_state, .ref pl_now, .ref pl_trial, .ref pl_kind, .ref pl_which, .ref pl_value, .ref pl_soundBy, .int 0, .int 0]))]) [0, 2, 3] rfl
      have hDc := hD.sub (ws' := [(x0, .inr (11, [.ref rd, .ref dr, .ref bk, .ref st, .ref nw, .ref tr, .ref pl, .ref fl, .ref rg, .int 0, .int 0, .int 0])), (tr, .inr (10, [.int 0, .int 0, .ref tr_book, .ref tr_state, .ref tr_now, .ref tr_trial, .ref tr_ranks, .ref tr_keptSpeed])), (pl, .inr (6, [.int 0, .ref pl_order, .ref pl_state, .ref pl_now, .ref pl_trial, .ref pl_kind, .ref pl_which, .ref pl_value, .ref pl_soundBy, .int 0, .int 0]))]) [0, 2, 3] (by decide) rfl
      have hKc := hK.sub (tys' := []) [] rfl
      have hFc := va_free (wc := [(x0, .inr (11, [.ref rd, .ref dr, .ref bk, .ref st, .ref nw, .ref tr, .ref pl, .ref fl, .ref rg, .int 0, .int 0, .int 0])), (tr, .inr (10, [.int 0, .int 0, .ref tr_book, .ref tr_state, .ref tr_now, .ref tr_trial, .ref tr_ranks, .ref tr_keptSpeed])), (pl, .inr (6, [.int 0, .ref pl_order, .ref pl_state, .ref pl_now, .ref pl_trial, .ref pl_kind, .ref pl_which, .ref pl_value, .ref pl_soundBy, .int 0, .int 0]))]) hD hS hA [0, 2, 3] rfl
      refine va_callv (va_runV (As := []) (rest := []) ⟨hx, hb, hml, hown, hts⟩ (c_forgetVerdicts l dC dI n0 H.size x0 rd dr bk st nw tr pl fl rg 0 0 0 tr_book tr_state tr_now tr_trial tr_ranks tr_keptSpeed pl_order pl_state pl_now pl_trial pl_kind pl_which pl_value pl_soundBy ) (cwV 0 hts (gV (fun w h => wM_c h) wd_925 wd_922 wd_924 wd_23 wd_114) rfl rfl rfl (by decide +kernel) ⟨Nat.le_of_ble_eq_true rfl, Nat.le_of_ble_eq_true rfl⟩) ⟨fun a U g mk q => by obtain ⟨q0, q1, q2, qG, qP, qK, qD⟩ := q; exact ⟨q0, q1, q2, GW.blind qG, qP, va_K.moved (u := U) (U := U.calling g mk a) (Vm.Alike.refl U.vm) qK, qD⟩, va_recv hKc hPc (ci := 11) (q0 := 0) rfl rfl, fun U hU hW => ⟨rfl, by rw [hU], Nat.le_trans hn0 hS.1, GW.go hW hU hG (fun q hq hA9 => hS.2.1 q hq (fun h => hA9 (hA0 q h))), by rw [hU]; exact hPc, va_K.moved hW.alike hKc, hDc.weaken (fun _ _ _ h => hA0 _ h)⟩⟩ rfl rfl hl.1 rfl (lv_room (Nat.le_of_ble_eq_true rfl)) dX11_mark_27 ⟨Nat.le_of_ble_eq_true rfl, Nat.le_of_ble_eq_true rfl⟩) hS (fun q _ h => hFc q h) hFc (fun u t H1 locs ht hvm hw_6 hB hz1 hk1 hS => ?_)
      obtain ⟨hP1, hK1, hD1⟩ := hB
      rw [ht] at hP1
      obtain ⟨hP, hD⟩ := va_join (wr := [(st, .inr (9, [.ref st_open, .ref st_speed, .ref st_fallen, .ref st_fire, .int w, .int (-1), .int 0, .ref st_book]))]) (w1 := [(x0, .inr (11, [.ref rd, .ref dr, .ref bk, .ref st, .ref nw, .ref tr, .ref pl, .ref fl, .ref rg, .int 0, .int 0, .int 0])), (tr, .inr (10, [.int 0, .int 0, .ref tr_book, .ref tr_state, .ref tr_now, .ref tr_trial, .ref tr_ranks, .ref tr_keptSpeed])), (pl, .inr (6, [.int 0, .ref pl_order, .ref pl_state, .ref pl_now, .ref pl_trial, .ref pl_kind, .ref pl_which, .ref pl_value, .ref pl_soundBy, .int 0, .int 0]))]) hP hD [0, 2, 3] [1] rfl rfl (by decide) (by decide) hk1 hFc hP1 hD1
      generalize H1 = H at hP hS ⊢
      have hP : va_P (dC, dI) classes [(st, .inr (9, [.ref st_open, .ref st_speed, .ref st_fallen, .ref st_fire, .int w, .int (-1), .int 0, .ref st_book])), (x0, .inr (11, [.ref rd, .ref dr, .ref bk, .ref st, .ref nw, .ref tr, .ref pl, .ref fl, .ref rg, .int 0, .int 0, .int 0])), (tr, .inr (10, [.int 0, .int 0, .ref tr_book, .ref tr_state, .ref tr_now, .ref tr_trial, .ref tr_ranks, .ref tr_keptSpeed])), (pl, .inr (6, [.int 0, .ref pl_order, .ref pl_state, .ref pl_now, .ref pl_trial, .ref pl_kind, .ref pl_which, .ref pl_value, .ref pl_soundBy, .int 0, .int 0]))] H := hP
      have hD : va_D A [(st, .inr (9, [.ref st_open, .ref st_speed, .ref st_fallen, .ref st_fire, .int w, .int (-1), .int 0, .ref st_book])), (x0, .inr (11, [.ref rd, .ref dr, .ref bk, .ref st, .ref nw, .ref tr, .ref pl, .ref fl, .ref rg, .int 0, .int 0, .int 0])), (tr, .inr (10, [.int 0, .int 0, .ref tr_book, .ref tr_state, .ref tr_now, .ref tr_trial, .ref tr_ranks, .ref tr_keptSpeed])), (pl, .inr (6, [.int 0, .ref pl_order, .ref pl_state, .ref pl_now, .ref pl_trial, .ref pl_kind, .ref pl_which, .ref pl_value, .ref pl_soundBy, .int 0, .int 0]))] := hD
      refine lv_aload_n hx hb dX11_mark_30 rfl (lv_at hl 0 rfl) ?_
      have hPc := hP.sub (ws' := [(x0, .inr (11, [.ref rd, .ref dr, .ref bk, .ref st, .ref nw, .ref tr, .ref pl, .ref fl, .ref rg, .int 0, .int 0, .int 0]))]) [1] rfl
      have hDc := hD.sub (ws' := [(x0, .inr (11, [.ref rd, .ref dr, .ref bk, .ref st, .ref nw, .ref tr, .ref pl, .ref fl, .ref rg, .int 0, .int 0, .int 0]))]) [1] (by decide) rfl
      have hKc := hK.sub (tys' := []) [] rfl
      have hFc := va_free (wc := [(x0, .inr (11, [.ref rd, .ref dr, .ref bk, .ref st, .ref nw, .ref tr, .ref pl, .ref fl, .ref rg, .int 0, .int 0, .int 0]))]) hD hS hA [1] rfl
      refine va_calli (va_runV (As := []) (rest := []) ⟨hx, hb, hml, hown, hts⟩ (c_allow l dC dI n0 H.size x0 rd dr bk st nw tr pl fl rg 0 0 0 ) (cwV 0 hts (gV (fun w h => wM_c h) wd_974 wd_971 wd_973 wd_28 wd_114) rfl rfl rfl (by decide +kernel) ⟨Nat.le_of_ble_eq_true rfl, Nat.le_of_ble_eq_true rfl⟩) ⟨fun a U g mk q => by obtain ⟨q0, q1, q2, qG, qP, qK, qD⟩ := q; exact ⟨q0, q1, q2, GW.blind qG, qP, va_K.moved (u := U) (U := U.calling g mk a) (Vm.Alike.refl U.vm) qK, qD⟩, va_recv hKc hPc (ci := 11) (q0 := 0) rfl rfl, fun U hU hW => ⟨rfl, by rw [hU], Nat.le_trans hn0 hS.1, GW.go hW hU hG (fun q hq hA9 => hS.2.1 q hq (fun h => hA9 (hA0 q h))), by rw [hU]; exact hPc, va_K.moved hW.alike hKc, hDc.weaken (fun _ _ _ h => hA0 _ h)⟩⟩ rfl rfl hl.1 rfl (lv_room (Nat.le_of_ble_eq_true rfl)) dX11_mark_31 ⟨Nat.le_of_ble_eq_true rfl, Nat.le_of_ble_eq_true rfl⟩) hS (fun q _ h => hFc q h) hFc (fun r_7 u t H1 locs ht hvm hw_8 hB hz1 hk1 hS => ?_)
      obtain ⟨hP1, hK1, hD1⟩ := hB
      rw [ht] at hP1
      obtain ⟨hP, hD⟩ := va_join (wr := [(st, .inr (9, [.ref st_open, .ref st_speed, .ref st_fallen, .ref st_fire, .int w, .int (-1), .int 0, .ref st_book])), (tr, .inr (10, [.int 0, .int 0, .ref tr_book, .ref tr_state, .ref tr_now, .ref tr_trial, .ref tr_ranks, .ref tr_keptSpeed])), (pl, .inr (6, [.int 0, .ref pl_order, .ref pl_state, .ref pl_now, .ref pl_trial, .ref pl_kind, .ref pl_which, .ref pl_value, .ref pl_soundBy, .int 0, .int 0]))]) (w1 := [(x0, .inr (11, [.ref rd, .ref dr, .ref bk, .ref st, .ref nw, .ref tr, .ref pl, .ref fl, .ref rg, .int 0, .int 0, .int 0]))]) hP hD [1] [0, 2, 3] rfl rfl (by decide) (by decide) hk1 hFc hP1 hD1
      generalize H1 = H at hP hS ⊢
      have hP : va_P (dC, dI) classes [(st, .inr (9, [.ref st_open, .ref st_speed, .ref st_fallen, .ref st_fire, .int w, .int (-1), .int 0, .ref st_book])), (tr, .inr (10, [.int 0, .int 0, .ref tr_book, .ref tr_state, .ref tr_now, .ref tr_trial, .ref tr_ranks, .ref tr_keptSpeed])), (pl, .inr (6, [.int 0, .ref pl_order, .ref pl_state, .ref pl_now, .ref pl_trial, .ref pl_kind, .ref pl_which, .ref pl_value, .ref pl_soundBy, .int 0, .int 0])), (x0, .inr (11, [.ref rd, .ref dr, .ref bk, .ref st, .ref nw, .ref tr, .ref pl, .ref fl, .ref rg, .int 0, .int 0, .int 0]))] H := hP
      have hD : va_D A [(st, .inr (9, [.ref st_open, .ref st_speed, .ref st_fallen, .ref st_fire, .int w, .int (-1), .int 0, .ref st_book])), (tr, .inr (10, [.int 0, .int 0, .ref tr_book, .ref tr_state, .ref tr_now, .ref tr_trial, .ref tr_ranks, .ref tr_keptSpeed])), (pl, .inr (6, [.int 0, .ref pl_order, .ref pl_state, .ref pl_now, .ref pl_trial, .ref pl_kind, .ref pl_which, .ref pl_value, .ref pl_soundBy, .int 0, .int 0])), (x0, .inr (11, [.ref rd, .ref dr, .ref bk, .ref st, .ref nw, .ref tr, .ref pl, .ref fl, .ref rg, .int 0, .int 0, .int 0]))] := hD
      obtain rfl : r_7 = 1 := hw_8
      exact W.zret (v := 1) hx hb hr rfl (fun t ht hW => ⟨⟨1, (), rfl, (mrk_in c_1 c_4), trivial⟩, hS.F ht⟩) hS.2.2 dX11_mark_34
    · skip
      refine lv_aload_n hx hb dX11_mark_12 rfl (lv_at hl 0 rfl) ?_
      refine lv_iconst (v := 2) hx hb dX11_mark_13 (by decide) ?_
      have hPc := hP.sub (ws' := [(x0, .inr (11, [.ref rd, .ref dr, .ref bk, .ref st, .ref nw, .ref tr, .ref pl, .ref fl, .ref rg, .int 0, .int 0, .int 0]))]) [0] rfl
      have hDc := hD.sub (ws' := [(x0, .inr (11, [.ref rd, .ref dr, .ref bk, .ref st, .ref nw, .ref tr, .ref pl, .ref fl, .ref rg, .int 0, .int 0, .int 0]))]) [0] (by decide) rfl
      have hKc := hK.sub (tys' := []) [] rfl
      have hFc := va_free (wc := [(x0, .inr (11, [.ref rd, .ref dr, .ref bk, .ref st, .ref nw, .ref tr, .ref pl, .ref fl, .ref rg, .int 0, .int 0, .int 0]))]) hD hS hA [0] rfl
      refine va_calli (va_runV (As := [.int 2]) (rest := []) ⟨hx, hb, hml, hown, hts⟩ (c_deny l dC dI n0 s.heap.size x0 rd dr bk st nw tr pl fl rg 0 0 0 2 ) (cwV 1 hts (gV (fun w h => wM_c h) wd_970 wd_967 wd_969 wd_27 wd_114) rfl rfl rfl (by decide +kernel) ⟨Nat.le_of_ble_eq_true rfl, Nat.le_of_ble_eq_true rfl⟩) ⟨fun a U g mk q => by obtain ⟨q0, q1, q2, qG, qP, qK, qD⟩ := q; exact ⟨q0, q1, q2, GW.blind qG, qP, va_K.moved (u := U) (U := U.calling g mk a) (Vm.Alike.refl U.vm) qK, qD⟩, va_recv hKc hPc (ci := 11) (q0 := 0) rfl rfl, fun U hU hW => ⟨rfl, by rw [hU], Nat.le_trans hn0 hS.1, GW.go hW hU hG (fun q hq hA9 => hS.2.1 q hq (fun h => hA9 (hA0 q h))), by rw [hU]; exact hPc, va_K.moved hW.alike hKc, hDc.weaken (fun _ _ _ h => hA0 _ h)⟩⟩ rfl rfl hl.1 rfl (lv_room (Nat.le_of_ble_eq_true rfl)) dX11_mark_14 ⟨Nat.le_of_ble_eq_true rfl, Nat.le_of_ble_eq_true rfl⟩) hS (fun q _ h => hFc q h) hFc (fun r_9 u t H1 locs ht hvm hw_10 hB hz1 hk1 hS => ?_)
      obtain ⟨hP1, hK1, hD1⟩ := hB
      rw [ht] at hP1
      obtain ⟨hP, hD⟩ := va_join (wr := [(st, .inr (9, [.ref st_open, .ref st_speed, .ref st_fallen, .ref st_fire, .int 10, .int (-1), .int 0, .ref st_book])), (tr, .inr (10, [.int 0, .int 0, .ref tr_book, .ref tr_state, .ref tr_now, .ref tr_trial, .ref tr_ranks, .ref tr_keptSpeed])), (pl, .inr (6, [.int 0, .ref pl_order, .ref pl_state, .ref pl_now, .ref pl_trial, .ref pl_kind, .ref pl_which, .ref pl_value, .ref pl_soundBy, .int 0, .int 0]))]) (w1 := [(x0, .inr (11, [.ref rd, .ref dr, .ref bk, .ref st, .ref nw, .ref tr, .ref pl, .ref fl, .ref rg, .int 2, .int 0, .int 0]))]) hP hD [0] [1, 2, 3] rfl rfl (by decide) (by decide) hk1 hFc hP1 hD1
      generalize H1 = H at hP hS ⊢
      have hP : va_P (dC, dI) classes [(st, .inr (9, [.ref st_open, .ref st_speed, .ref st_fallen, .ref st_fire, .int 10, .int (-1), .int 0, .ref st_book])), (tr, .inr (10, [.int 0, .int 0, .ref tr_book, .ref tr_state, .ref tr_now, .ref tr_trial, .ref tr_ranks, .ref tr_keptSpeed])), (pl, .inr (6, [.int 0, .ref pl_order, .ref pl_state, .ref pl_now, .ref pl_trial, .ref pl_kind, .ref pl_which, .ref pl_value, .ref pl_soundBy, .int 0, .int 0])), (x0, .inr (11, [.ref rd, .ref dr, .ref bk, .ref st, .ref nw, .ref tr, .ref pl, .ref fl, .ref rg, .int 2, .int 0, .int 0]))] H := hP
      have hD : va_D A [(st, .inr (9, [.ref st_open, .ref st_speed, .ref st_fallen, .ref st_fire, .int 10, .int (-1), .int 0, .ref st_book])), (tr, .inr (10, [.int 0, .int 0, .ref tr_book, .ref tr_state, .ref tr_now, .ref tr_trial, .ref tr_ranks, .ref tr_keptSpeed])), (pl, .inr (6, [.int 0, .ref pl_order, .ref pl_state, .ref pl_now, .ref pl_trial, .ref pl_kind, .ref pl_which, .ref pl_value, .ref pl_soundBy, .int 0, .int 0])), (x0, .inr (11, [.ref rd, .ref dr, .ref bk, .ref st, .ref nw, .ref tr, .ref pl, .ref fl, .ref rg, .int 2, .int 0, .int 0]))] := hD
      obtain rfl : r_9 = 0 := hw_10
      exact W.zret (v := 0) hx hb hr rfl (fun t ht hW => ⟨⟨0, (), rfl, (mrk_hi c_4), trivial⟩, hS.F ht⟩) hS.2.2 dX11_mark_17
set_option maxHeartbeats 4000000 in
set_option maxRecDepth 100000 in
theorem p_count (l : Launch) (dC : Nat → ClassId) (dI : Nat → Nat → Nat) (n0 sz : Nat) (x0 : Nat) (rd : Nat) (dr : Nat) (bk : Nat) (st : Nat) (nw : Nat) (tr : Nat) (pl : Nat) (fl : Nat) (rg : Nat) (bk_tail : Nat) (bk_head : Nat) (bk_hinder : Nat) (bk_size : Nat) (bk_walk : Nat) (bk_draught : Nat) (bk_doorIn : Nat) (bk_fanIn : Nat) (bk_faceIn : Nat) (gr : Nat) (gr_doorBy : Nat) (gr_pairFirst : Nat) (gr_pairSecond : Nat) (gr_fanPush : Nat) (gr_fanFall : Nat) (gr_fanCost : Nat) (gr_faceWay : Nat) (gr_faceGas : Nat) (gr_faceNeed : Nat) (fl_knotOf : Nat) (fl_smokeAt : Nat) (fl_reach : Nat) (fl_route : Nat) (fl_book : Nat) (fl_state : Nat) (fl_smokeIn : Nat) (pl_order : Nat) (pl_state : Nat) (pl_now : Nat) (pl_trial : Nat) (pl_kind : Nat) (pl_which : Nat) (pl_value : Nat) (pl_soundBy : Nat) (rg_way : Nat) (rg_low : Nat) (rg_high : Nat) (rd_tape : Nat) (rd_names : Nat) (rd_nameKind : Nat) (rd_nameNumber : Nat) (rd_knotNames : Nat) (w : Int32) : Met l yX11_count (wM yX11_count cX11_count 2 (some .int)) ({ frames := 1, cells := 0, slots := 0, locals := 20 }) (va_Pc [.ref x0, .int w] (fun U => U.heap.size = sz ∧ n0 ≤ sz ∧ GW n0 U ∧ va_P (dC, dI) classes [(x0, .inr (11, [.ref rd, .ref dr, .ref bk, .ref st, .ref nw, .ref tr, .ref pl, .ref fl, .ref rg, .int 0, .int 0, .int 0])), (bk, .inr (0, [.int 0, .ref bk_tail, .ref bk_head, .ref bk_hinder, .ref bk_size, .ref bk_walk, .ref bk_draught, .ref bk_doorIn, .ref bk_fanIn, .ref bk_faceIn, .int 0, .int (-1), .ref gr])), (gr, .inr (3, [.int 0, .ref gr_doorBy, .int 0, .ref gr_pairFirst, .ref gr_pairSecond, .int 0, .ref gr_fanPush, .ref gr_fanFall, .ref gr_fanCost, .int 0, .ref gr_faceWay, .ref gr_faceGas, .ref gr_faceNeed])), (fl, .inr (1, [.int 0, .ref fl_knotOf, .ref fl_smokeAt, .ref fl_reach, .ref fl_route, .ref fl_book, .ref fl_state, .ref fl_smokeIn])), (pl, .inr (6, [.int 0, .ref pl_order, .ref pl_state, .ref pl_now, .ref pl_trial, .ref pl_kind, .ref pl_which, .ref pl_value, .ref pl_soundBy, .int 0, .int 0])), (rg, .inr (8, [.int 0, .ref rg_way, .ref rg_low, .ref rg_high])), (rd, .inr (7, [.ref rd_tape, .int 0, .int 0, .int 0, .ref dr, .ref rd_names, .ref rd_nameKind, .ref rd_nameNumber, .int 0, .ref rd_knotNames, .int 0, .int 0, .int 0, .int 0, .long 0]))] U.heap ∧ va_K (dC, dI) classes [] U ∧ va_D (fun q => n0 ≤ q) [(x0, .inr (11, [.ref rd, .ref dr, .ref bk, .ref st, .ref nw, .ref tr, .ref pl, .ref fl, .ref rg, .int 0, .int 0, .int 0])), (bk, .inr (0, [.int 0, .ref bk_tail, .ref bk_head, .ref bk_hinder, .ref bk_size, .ref bk_walk, .ref bk_draught, .ref bk_doorIn, .ref bk_fanIn, .ref bk_faceIn, .int 0, .int (-1), .ref gr])), (gr, .inr (3, [.int 0, .ref gr_doorBy, .int 0, .ref gr_pairFirst, .ref gr_pairSecond, .int 0, .ref gr_fanPush, .ref gr_fanFall, .ref gr_fanCost, .int 0, .ref gr_faceWay, .ref gr_faceGas, .ref gr_faceNeed])), (fl, .inr (1, [.int 0, .ref fl_knotOf, .ref fl_smokeAt, .ref fl_reach, .ref fl_route, .ref fl_book, .ref fl_state, .ref fl_smokeIn])), (pl, .inr (6, [.int 0, .ref pl_order, .ref pl_state, .ref pl_now, .ref pl_trial, .ref pl_kind, .ref pl_which, .ref pl_value, .ref pl_soundBy, .int 0, .int 0])), (rg, .inr (8, [.int 0, .ref rg_way, .ref rg_low, .ref rg_high])), (rd, .inr (7, [.ref rd_tape, .int 0, .int 0, .int 0, .ref dr, .ref rd_names, .ref rd_nameKind, .ref rd_nameNumber, .int 0, .ref rd_knotNames, .int 0, .int 0, .int 0, .int 0, .long 0]))])) (va_Qi (fun (r : Int32) (_ : Unit) => r = cnt0 w) (fun (_ : Unit) (_ : State) => True) (va_A [(x0, .inr (11, [.ref rd, .ref dr, .ref bk, .ref st, .ref nw, .ref tr, .ref pl, .ref fl, .ref rg, .int 0, .int 0, .int 0])), (bk, .inr (0, [.int 0, .ref bk_tail, .ref bk_head, .ref bk_hinder, .ref bk_size, .ref bk_walk, .ref bk_draught, .ref bk_doorIn, .ref bk_fanIn, .ref bk_faceIn, .int 0, .int (-1), .ref gr])), (gr, .inr (3, [.int 0, .ref gr_doorBy, .int 0, .ref gr_pairFirst, .ref gr_pairSecond, .int 0, .ref gr_fanPush, .ref gr_fanFall, .ref gr_fanCost, .int 0, .ref gr_faceWay, .ref gr_faceGas, .ref gr_faceNeed])), (fl, .inr (1, [.int 0, .ref fl_knotOf, .ref fl_smokeAt, .ref fl_reach, .ref fl_route, .ref fl_book, .ref fl_state, .ref fl_smokeIn])), (pl, .inr (6, [.int 0, .ref pl_order, .ref pl_state, .ref pl_now, .ref pl_trial, .ref pl_kind, .ref pl_which, .ref pl_value, .ref pl_soundBy, .int 0, .int 0])), (rg, .inr (8, [.int 0, .ref rg_way, .ref rg_low, .ref rg_high])), (rd, .inr (7, [.ref rd_tape, .int 0, .int 0, .int 0, .ref dr, .ref rd_names, .ref rd_nameKind, .ref rd_nameNumber, .int 0, .ref rd_knotNames, .int 0, .int 0, .int 0, .int 0, .long 0]))] sz)) 0 0 (va_A [(x0, .inr (11, [.ref rd, .ref dr, .ref bk, .ref st, .ref nw, .ref tr, .ref pl, .ref fl, .ref rg, .int 0, .int 0, .int 0])), (bk, .inr (0, [.int 0, .ref bk_tail, .ref bk_head, .ref bk_hinder, .ref bk_size, .ref bk_walk, .ref bk_draught, .ref bk_doorIn, .ref bk_fanIn, .ref bk_faceIn, .int 0, .int (-1), .ref gr])), (gr, .inr (3, [.int 0, .ref gr_doorBy, .int 0, .ref gr_pairFirst, .ref gr_pairSecond, .int 0, .ref gr_fanPush, .ref gr_fanFall, .ref gr_fanCost, .int 0, .ref gr_faceWay, .ref gr_faceGas, .ref gr_faceNeed])), (fl, .inr (1, [.int 0, .ref fl_knotOf, .ref fl_smokeAt, .ref fl_reach, .ref fl_route, .ref fl_book, .ref fl_state, .ref fl_smokeIn])), (pl, .inr (6, [.int 0, .ref pl_order, .ref pl_state, .ref pl_now, .ref pl_trial, .ref pl_kind, .ref pl_which, .ref pl_value, .ref pl_soundBy, .int 0, .int 0])), (rg, .inr (8, [.int 0, .ref rg_way, .ref rg_low, .ref rg_high])), (rd, .inr (7, [.ref rd_tape, .int 0, .int 0, .int 0, .ref dr, .ref rd_names, .ref rd_nameKind, .ref rd_nameNumber, .int 0, .ref rd_knotNames, .int 0, .int 0, .int 0, .int 0, .long 0]))] sz) := by
  refine Met.ofW (cc := cX11_count) (maxL := 2) (ret := (some .int)) (by decide) rfl ?_
  intro p e s m args below meth c s₁ B hml hv
  obtain ⟨rfl, hsz, hn0, hG, hP, hK, hD0⟩ := hv
  have hx := B.exec
  have hb := B.bytes
  have hr := B.returns
  have hts := atoms_spec (ws := wM yX11_count cX11_count 2 (some .int)) B.pre
  have hown : s.vm.findClass RX11 = some m.cls := findClass_of_methodNamed B.named
  have hlocks := B.notSynchronized
  subst hsz
  have hD := hD0.self (sz := s.heap.size)
  have hA0 := vA_n0 hD0 hn0
  generalize hAe : va_A [(x0, .inr (11, [.ref rd, .ref dr, .ref bk, .ref st, .ref nw, .ref tr, .ref pl, .ref fl, .ref rg, .int 0, .int 0, .int 0])), (bk, .inr (0, [.int 0, .ref bk_tail, .ref bk_head, .ref bk_hinder, .ref bk_size, .ref bk_walk, .ref bk_draught, .ref bk_doorIn, .ref bk_fanIn, .ref bk_faceIn, .int 0, .int (-1), .ref gr])), (gr, .inr (3, [.int 0, .ref gr_doorBy, .int 0, .ref gr_pairFirst, .ref gr_pairSecond, .int 0, .ref gr_fanPush, .ref gr_fanFall, .ref gr_fanCost, .int 0, .ref gr_faceWay, .ref gr_faceGas, .ref gr_faceNeed])), (fl, .inr (1, [.int 0, .ref fl_knotOf, .ref fl_smokeAt, .ref fl_reach, .ref fl_route, .ref fl_book, .ref fl_state, .ref fl_smokeIn])), (pl, .inr (6, [.int 0, .ref pl_order, .ref pl_state, .ref pl_now, .ref pl_trial, .ref pl_kind, .ref pl_which, .ref pl_value, .ref pl_soundBy, .int 0, .int 0])), (rg, .inr (8, [.int 0, .ref rg_way, .ref rg_low, .ref rg_high])), (rd, .inr (7, [.ref rd_tape, .int 0, .int 0, .int 0, .ref dr, .ref rd_names, .ref rd_nameKind, .ref rd_nameNumber, .int 0, .ref rd_knotNames, .int 0, .int 0, .int 0, .int 0, .long 0]))] s.heap.size = A at hD hA0 ⊢
  have hA : ∀ q : Nat, s.heap.size ≤ q → A q := fun q h => by rw [← hAe]; exact Or.inr h
  have hS : va_S A s.heap s.heap [] := va_S.rf
  have hl := lv_entry ([.ref x0, .int w]) (n := 2) (Nat.le_of_ble_eq_true rfl)
  rw [lg_entry_eq]
  generalize (lg_sl ([.ref x0, .int w]) ++ List.replicate (2 - (lg_sl ([.ref x0, .int w])).length) Slot.unset).toArray = ls at hl ⊢
  have hl : lv_has ls 2 [(0, .ref x0), (1, .int w)] := hl
  refine lv_iload_n hx hb dX11_count_0 rfl (lv_at hl 1 rfl) ?_
  rcases sw_0_10 w with sw_1 | sw_1 | sw_1 | sw_1 | sw_1 | sw_1 | sw_1 | sw_1 | sw_1 | sw_1 | sw_1 | sw_1
  · refine lv_tableOut (tgt := 163) hx hb dX11_count_1 sw_1 (by decide) ?_
    refine lv_iconst (v := (-1)) hx hb dX11_count_163 (by decide) ?_
    exact W.iret (v := (-1)) hx hb hr (fun t ht hW => ⟨⟨(-1), (), rfl, (cnt0_out sw_1), trivial⟩, hS.F ht⟩) hS.2.2 dX11_count_164
  · refine lv_tableIn (off := 59) (tgt := 60) hx hb dX11_count_1 (by rw [sw_1]; decide) (by rw [sw_1]; decide) (by rw [sw_1]; decide) (by decide) ?_
    refine lv_aload_n hx hb dX11_count_60 rfl (lv_at hl 0 rfl) ?_
    refine va_get (D := (dC, dI)) (ci := 11) (v := .ref bk) (C := RX11) (T := TX11) (N := 12) hx hb hts (fun w h => wM_c (iX11 w h)) hown hK hP 0 rfl rfl 2 (by decide) (hts _ (wM_c wd_672)) (fun _ h9 => h9) rfl dX11_count_61 ?_
    refine va_get (D := (dC, dI)) (ci := 0) (v := .int 0) (C := RX0) (T := TX0) (N := 13) hx hb hts (fun w h => wM_c (iX0 w h)) hown hK hP 1 rfl rfl 0 (by decide) (hts _ (wM_c wd_243)) (fun _ h9 => h9) rfl dX11_count_64 ?_
    exact W.iret (v := 0) hx hb hr (fun t ht hW => ⟨⟨0, (), rfl, (by rw [sw_1]; decide), trivial⟩, hS.F ht⟩) hS.2.2 dX11_count_67
  · refine lv_tableIn (off := 67) (tgt := 68) hx hb dX11_count_1 (by rw [sw_1]; decide) (by rw [sw_1]; decide) (by rw [sw_1]; decide) (by decide) ?_
    refine lv_aload_n hx hb dX11_count_68 rfl (lv_at hl 0 rfl) ?_
    refine va_get (D := (dC, dI)) (ci := 11) (v := .ref bk) (C := RX11) (T := TX11) (N := 12) hx hb hts (fun w h => wM_c (iX11 w h)) hown hK hP 0 rfl rfl 2 (by decide) (hts _ (wM_c wd_672)) (fun _ h9 => h9) rfl dX11_count_69 ?_
    refine va_get (D := (dC, dI)) (ci := 0) (v := .int 0) (C := RX0) (T := TX0) (N := 13) hx hb hts (fun w h => wM_c (iX0 w h)) hown hK hP 1 rfl rfl 10 (by decide) (hts _ (wM_c wd_287)) (fun _ h9 => h9) rfl dX11_count_72 ?_
    exact W.iret (v := 0) hx hb hr (fun t ht hW => ⟨⟨0, (), rfl, (by rw [sw_1]; decide), trivial⟩, hS.F ht⟩) hS.2.2 dX11_count_75
  · refine lv_tableIn (off := 75) (tgt := 76) hx hb dX11_count_1 (by rw [sw_1]; decide) (by rw [sw_1]; decide) (by rw [sw_1]; decide) (by decide) ?_
    refine lv_aload_n hx hb dX11_count_76 rfl (lv_at hl 0 rfl) ?_
    refine va_get (D := (dC, dI)) (ci := 11) (v := .ref bk) (C := RX11) (T := TX11) (N := 12) hx hb hts (fun w h => wM_c (iX11 w h)) hown hK hP 0 rfl rfl 2 (by decide) (hts _ (wM_c wd_672)) (fun _ h9 => h9) rfl dX11_count_77 ?_
    refine va_get (D := (dC, dI)) (ci := 0) (v := .ref gr) (C := RX0) (T := TX0) (N := 13) hx hb hts (fun w h => wM_c (iX0 w h)) hown hK hP 1 rfl rfl 12 (by decide) (hts _ (wM_c wd_299)) (fun _ h9 => h9) rfl dX11_count_80 ?_
    refine va_get (D := (dC, dI)) (ci := 3) (v := .int 0) (C := RX3) (T := TX3) (N := 13) hx hb hts (fun w h => wM_c (iX3 w h)) hown hK hP 2 rfl rfl 0 (by decide) (hts _ (wM_c wd_163)) (fun _ h9 => h9) rfl dX11_count_83 ?_
    exact W.iret (v := 0) hx hb hr (fun t ht hW => ⟨⟨0, (), rfl, (by rw [sw_1]; decide), trivial⟩, hS.F ht⟩) hS.2.2 dX11_count_86
  · refine lv_tableIn (off := 86) (tgt := 87) hx hb dX11_count_1 (by rw [sw_1]; decide) (by rw [sw_1]; decide) (by rw [sw_1]; decide) (by decide) ?_
    refine lv_aload_n hx hb dX11_count_87 rfl (lv_at hl 0 rfl) ?_
    refine va_get (D := (dC, dI)) (ci := 11) (v := .ref bk) (C := RX11) (T := TX11) (N := 12) hx hb hts (fun w h => wM_c (iX11 w h)) hown hK hP 0 rfl rfl 2 (by decide) (hts _ (wM_c wd_672)) (fun _ h9 => h9) rfl dX11_count_88 ?_
    refine va_get (D := (dC, dI)) (ci := 0) (v := .ref gr) (C := RX0) (T := TX0) (N := 13) hx hb hts (fun w h => wM_c (iX0 w h)) hown hK hP 1 rfl rfl 12 (by decide) (hts _ (wM_c wd_299)) (fun _ h9 => h9) rfl dX11_count_91 ?_
    refine va_get (D := (dC, dI)) (ci := 3) (v := .int 0) (C := RX3) (T := TX3) (N := 13) hx hb hts (fun w h => wM_c (iX3 w h)) hown hK hP 2 rfl rfl 2 (by decide) (hts _ (wM_c wd_171)) (fun _ h9 => h9) rfl dX11_count_94 ?_
    exact W.iret (v := 0) hx hb hr (fun t ht hW => ⟨⟨0, (), rfl, (by rw [sw_1]; decide), trivial⟩, hS.F ht⟩) hS.2.2 dX11_count_97
  · refine lv_tableIn (off := 97) (tgt := 98) hx hb dX11_count_1 (by rw [sw_1]; decide) (by rw [sw_1]; decide) (by rw [sw_1]; decide) (by decide) ?_
    refine lv_aload_n hx hb dX11_count_98 rfl (lv_at hl 0 rfl) ?_
    refine va_get (D := (dC, dI)) (ci := 11) (v := .ref bk) (C := RX11) (T := TX11) (N := 12) hx hb hts (fun w h => wM_c (iX11 w h)) hown hK hP 0 rfl rfl 2 (by decide) (hts _ (wM_c wd_672)) (fun _ h9 => h9) rfl dX11_count_99 ?_
    refine va_get (D := (dC, dI)) (ci := 0) (v := .ref gr) (C := RX0) (T := TX0) (N := 13) hx hb hts (fun w h => wM_c (iX0 w h)) hown hK hP 1 rfl rfl 12 (by decide) (hts _ (wM_c wd_299)) (fun _ h9 => h9) rfl dX11_count_102 ?_
    refine va_get (D := (dC, dI)) (ci := 3) (v := .int 0) (C := RX3) (T := TX3) (N := 13) hx hb hts (fun w h => wM_c (iX3 w h)) hown hK hP 2 rfl rfl 5 (by decide) (hts _ (wM_c wd_182)) (fun _ h9 => h9) rfl dX11_count_105 ?_
    exact W.iret (v := 0) hx hb hr (fun t ht hW => ⟨⟨0, (), rfl, (by rw [sw_1]; decide), trivial⟩, hS.F ht⟩) hS.2.2 dX11_count_108
  · refine lv_tableIn (off := 108) (tgt := 109) hx hb dX11_count_1 (by rw [sw_1]; decide) (by rw [sw_1]; decide) (by rw [sw_1]; decide) (by decide) ?_
    refine lv_aload_n hx hb dX11_count_109 rfl (lv_at hl 0 rfl) ?_
    refine va_get (D := (dC, dI)) (ci := 11) (v := .ref bk) (C := RX11) (T := TX11) (N := 12) hx hb hts (fun w h => wM_c (iX11 w h)) hown hK hP 0 rfl rfl 2 (by decide) (hts _ (wM_c wd_672)) (fun _ h9 => h9) rfl dX11_count_110 ?_
    refine va_get (D := (dC, dI)) (ci := 0) (v := .ref gr) (C := RX0) (T := TX0) (N := 13) hx hb hts (fun w h => wM_c (iX0 w h)) hown hK hP 1 rfl rfl 12 (by decide) (hts _ (wM_c wd_299)) (fun _ h9 => h9) rfl dX11_count_113 ?_
    refine va_get (D := (dC, dI)) (ci := 3) (v := .int 0) (C := RX3) (T := TX3) (N := 13) hx hb hts (fun w h => wM_c (iX3 w h)) hown hK hP 2 rfl rfl 9 (by decide) (hts _ (wM_c wd_197)) (fun _ h9 => h9) rfl dX11_count_116 ?_
    exact W.iret (v := 0) hx hb hr (fun t ht hW => ⟨⟨0, (), rfl, (by rw [sw_1]; decide), trivial⟩, hS.F ht⟩) hS.2.2 dX11_count_119
  · refine lv_tableIn (off := 119) (tgt := 120) hx hb dX11_count_1 (by rw [sw_1]; decide) (by rw [sw_1]; decide) (by rw [sw_1]; decide) (by decide) ?_
    refine lv_aload_n hx hb dX11_count_120 rfl (lv_at hl 0 rfl) ?_
    refine va_get (D := (dC, dI)) (ci := 11) (v := .ref fl) (C := RX11) (T := TX11) (N := 12) hx hb hts (fun w h => wM_c (iX11 w h)) hown hK hP 0 rfl rfl 7 (by decide) (hts _ (wM_c wd_677)) (fun _ h9 => h9) rfl dX11_count_121 ?_
    refine va_get (D := (dC, dI)) (ci := 1) (v := .int 0) (C := RX1) (T := TX1) (N := 8) hx hb hts (fun w h => wM_c (iX1 w h)) hown hK hP 3 rfl rfl 0 (by decide) (hts _ (wM_c wd_614)) (fun _ h9 => h9) rfl dX11_count_124 ?_
    exact W.iret (v := 0) hx hb hr (fun t ht hW => ⟨⟨0, (), rfl, (by rw [sw_1]; decide), trivial⟩, hS.F ht⟩) hS.2.2 dX11_count_127
  · refine lv_tableIn (off := 127) (tgt := 128) hx hb dX11_count_1 (by rw [sw_1]; decide) (by rw [sw_1]; decide) (by rw [sw_1]; decide) (by decide) ?_
    refine lv_aload_n hx hb dX11_count_128 rfl (lv_at hl 0 rfl) ?_
    refine va_get (D := (dC, dI)) (ci := 11) (v := .ref pl) (C := RX11) (T := TX11) (N := 12) hx hb hts (fun w h => wM_c (iX11 w h)) hown hK hP 0 rfl rfl 6 (by decide) (hts _ (wM_c wd_676)) (fun _ h9 => h9) rfl dX11_count_129 ?_
    refine va_get (D := (dC, dI)) (ci := 6) (v := .int 0) (C := RX6) (T := TX6) (N := 11) hx hb hts (fun w h => wM_c (iX6 w h)) hown hK hP 4 rfl rfl 0 (by decide) (hts _ (wM_c wd_573)) (fun _ h9 => h9) rfl dX11_count_132 ?_
    exact W.iret (v := 0) hx hb hr (fun t ht hW => ⟨⟨0, (), rfl, (by rw [sw_1]; decide), trivial⟩, hS.F ht⟩) hS.2.2 dX11_count_135
  · refine lv_tableIn (off := 135) (tgt := 136) hx hb dX11_count_1 (by rw [sw_1]; decide) (by rw [sw_1]; decide) (by rw [sw_1]; decide) (by decide) ?_
    refine lv_aload_n hx hb dX11_count_136 rfl (lv_at hl 0 rfl) ?_
    refine va_get (D := (dC, dI)) (ci := 11) (v := .ref rg) (C := RX11) (T := TX11) (N := 12) hx hb hts (fun w h => wM_c (iX11 w h)) hown hK hP 0 rfl rfl 8 (by decide) (hts _ (wM_c wd_678)) (fun _ h9 => h9) rfl dX11_count_137 ?_
    refine va_get (D := (dC, dI)) (ci := 8) (v := .int 0) (C := RX8) (T := TX8) (N := 4) hx hb hts (fun w h => wM_c (iX8 w h)) hown hK hP 5 rfl rfl 0 (by decide) (hts _ (wM_c wd_650)) (fun _ h9 => h9) rfl dX11_count_140 ?_
    exact W.iret (v := 0) hx hb hr (fun t ht hW => ⟨⟨0, (), rfl, (by rw [sw_1]; decide), trivial⟩, hS.F ht⟩) hS.2.2 dX11_count_143
  · refine lv_tableIn (off := 143) (tgt := 144) hx hb dX11_count_1 (by rw [sw_1]; decide) (by rw [sw_1]; decide) (by rw [sw_1]; decide) (by decide) ?_
    refine lv_aload_n hx hb dX11_count_144 rfl (lv_at hl 0 rfl) ?_
    refine va_get (D := (dC, dI)) (ci := 11) (v := .ref bk) (C := RX11) (T := TX11) (N := 12) hx hb hts (fun w h => wM_c (iX11 w h)) hown hK hP 0 rfl rfl 2 (by decide) (hts _ (wM_c wd_672)) (fun _ h9 => h9) rfl dX11_count_145 ?_
    refine va_get (D := (dC, dI)) (ci := 0) (v := .int (-1)) (C := RX0) (T := TX0) (N := 13) hx hb hts (fun w h => wM_c (iX0 w h)) hown hK hP 1 rfl rfl 11 (by decide) (hts _ (wM_c wd_292)) (fun _ h9 => h9) rfl dX11_count_148 ?_
    have hPc := hP.sub (ws' := []) [] rfl
    have hDc := hD.sub (ws' := []) [] (by decide) rfl
    have hKc := hK.sub (tys' := []) [] rfl
    have hFc := va_free (wc := []) hD hS hA [] rfl
    refine va_calli (va_runS (As := [.int (-1)]) (rest := []) ⟨hx, hb, hml, hown, hts⟩ (c_orNotSo l dC dI n0 s.heap.size (-1) ) (va_cwS 1 hts (gS (fun w h => wM_c h) wd_958 wd_956 wd_957 wd_114) rfl rfl rfl (by decide +kernel) ⟨Nat.le_of_ble_eq_true rfl, Nat.le_of_ble_eq_true rfl⟩) ⟨fun a U g mk q => by obtain ⟨q0, q1, q2, qG, qP, qK, qD⟩ := q; exact ⟨q0, q1, q2, GW.blind qG, qP, va_K.moved (u := U) (U := U.calling g mk a) (Vm.Alike.refl U.vm) qK, qD⟩, fun U hU hW => ⟨rfl, by rw [hU], Nat.le_trans hn0 hS.1, GW.go hW hU hG (fun q hq hA9 => hS.2.1 q hq (fun h => hA9 (hA0 q h))), by rw [hU]; exact hPc, va_K.moved hW.alike hKc, hDc.weaken (fun _ _ _ h => hA0 _ h)⟩⟩ rfl rfl hl.1 rfl (lv_room (Nat.le_of_ble_eq_true rfl)) dX11_count_151 ⟨Nat.le_of_ble_eq_true rfl, Nat.le_of_ble_eq_true rfl⟩) hS (fun q _ h => hFc q h) hFc (fun r_2 u t H1 locs ht hvm hw_3 hB hz1 hk1 hS => ?_)
    obtain ⟨hP1, hK1, hD1⟩ := hB
    rw [ht] at hP1
    obtain ⟨hP, hD⟩ := va_join (wr := [(x0, .inr (11, [.ref rd, .ref dr, .ref bk, .ref st, .ref nw, .ref tr, .ref pl, .ref fl, .ref rg, .int 0, .int 0, .int 0])), (bk, .inr (0, [.int 0, .ref bk_tail, .ref bk_head, .ref bk_hinder, .ref bk_size, .ref bk_walk, .ref bk_draught, .ref bk_doorIn, .ref bk_fanIn, .ref bk_faceIn, .int 0, .int (-1), .ref gr])), (gr, .inr (3, [.int 0, .ref gr_doorBy, .int 0, .ref gr_pairFirst, .ref gr_pairSecond, .int 0, .ref gr_fanPush, .ref gr_fanFall, .ref gr_fanCost, .int 0, .ref gr_faceWay, .ref gr_faceGas, .ref gr_faceNeed])), (fl, .inr (1, [.int 0, .ref fl_knotOf, .ref fl_smokeAt, .ref fl_reach, .ref fl_route, .ref fl_book, .ref fl_state, .ref fl_smokeIn])), (pl, .inr (6, [.int 0, .ref pl_order, .ref pl_state, .ref pl_now, .ref pl_trial, .ref pl_kind, .ref pl_which, .ref pl_value, .ref pl_soundBy, .int 0, .int 0])), (rg, .inr (8, [.int 0, .ref rg_way, .ref rg_low, .ref rg_high])), (rd, .inr (7, [.ref rd_tape, .int 0, .int 0, .int 0, .ref dr, .ref rd_names, .ref rd_nameKind, .ref rd_nameNumber, .int 0, .ref rd_knotNames, .int 0, .int 0, .int 0, .int 0, .long 0]))]) (w1 := []) hP hD [] [0, 1, 2, 3, 4, 5, 6] rfl rfl (by decide) (by decide) hk1 hFc hP1 hD1
    generalize H1 = H at hP hS ⊢
    have hP : va_P (dC, dI) classes [(x0, .inr (11, [.ref rd, .ref dr, .ref bk, .ref st, .ref nw, .ref tr, .ref pl, .ref fl, .ref rg, .int 0, .int 0, .int 0])), (bk, .inr (0, [.int 0, .ref bk_tail, .ref bk_head, .ref bk_hinder, .ref bk_size, .ref bk_walk, .ref bk_draught, .ref bk_doorIn, .ref bk_fanIn, .ref bk_faceIn, .int 0, .int (-1), .ref gr])), (gr, .inr (3, [.int 0, .ref gr_doorBy, .int 0, .ref gr_pairFirst, .ref gr_pairSecond, .int 0, .ref gr_fanPush, .ref gr_fanFall, .ref gr_fanCost, .int 0, .ref gr_faceWay, .ref gr_faceGas, .ref gr_faceNeed])), (fl, .inr (1, [.int 0, .ref fl_knotOf, .ref fl_smokeAt, .ref fl_reach, .ref fl_route, .ref fl_book, .ref fl_state, .ref fl_smokeIn])), (pl, .inr (6, [.int 0, .ref pl_order, .ref pl_state, .ref pl_now, .ref pl_trial, .ref pl_kind, .ref pl_which, .ref pl_value, .ref pl_soundBy, .int 0, .int 0])), (rg, .inr (8, [.int 0, .ref rg_way, .ref rg_low, .ref rg_high])), (rd, .inr (7, [.ref rd_tape, .int 0, .int 0, .int 0, .ref dr, .ref rd_names, .ref rd_nameKind, .ref rd_nameNumber, .int 0, .ref rd_knotNames, .int 0, .int 0, .int 0, .int 0, .long 0]))] H := hP
    have hD : va_D A [(x0, .inr (11, [.ref rd, .ref dr, .ref bk, .ref st, .ref nw, .ref tr, .ref pl, .ref fl, .ref rg, .int 0, .int 0, .int 0])), (bk, .inr (0, [.int 0, .ref bk_tail, .ref bk_head, .ref bk_hinder, .ref bk_size, .ref bk_walk, .ref bk_draught, .ref bk_doorIn, .ref bk_fanIn, .ref bk_faceIn, .int 0, .int (-1), .ref gr])), (gr, .inr (3, [.int 0, .ref gr_doorBy, .int 0, .ref gr_pairFirst, .ref gr_pairSecond, .int 0, .ref gr_fanPush, .ref gr_fanFall, .ref gr_fanCost, .int 0, .ref gr_faceWay, .ref gr_faceGas, .ref gr_faceNeed])), (fl, .inr (1, [.int 0, .ref fl_knotOf, .ref fl_smokeAt, .ref fl_reach, .ref fl_route, .ref fl_book, .ref fl_state, .ref fl_smokeIn])), (pl, .inr (6, [.int 0, .ref pl_order, .ref pl_state, .ref pl_now, .ref pl_trial, .ref pl_kind, .ref pl_which, .ref pl_value, .ref pl_soundBy, .int 0, .int 0])), (rg, .inr (8, [.int 0, .ref rg_way, .ref rg_low, .ref rg_high])), (rd, .inr (7, [.ref rd_tape, .int 0, .int 0, .int 0, .ref dr, .ref rd_names, .ref rd_nameKind, .ref rd_nameNumber, .int 0, .ref rd_knotNames, .int 0, .int 0, .int 0, .int 0, .long 0]))] := hD
    obtain rfl : r_2 = (-2) := hw_3
    exact W.iret (v := (-2)) hx hb hr (fun t ht hW => ⟨⟨(-2), (), rfl, (by rw [sw_1]; decide), trivial⟩, hS.F ht⟩) hS.2.2 dX11_count_154
  · refine lv_tableIn (off := 154) (tgt := 155) hx hb dX11_count_1 (by rw [sw_1]; decide) (by rw [sw_1]; decide) (by rw [sw_1]; decide) (by decide) ?_
    refine lv_aload_n hx hb dX11_count_155 rfl (lv_at hl 0 rfl) ?_
    refine va_get (D := (dC, dI)) (ci := 11) (v := .ref rd) (C := RX11) (T := TX11) (N := 12) hx hb hts (fun w h => wM_c (iX11 w h)) hown hK hP 0 rfl rfl 0 (by decide) (hts _ (wM_c wd_670)) (fun _ h9 => h9) rfl dX11_count_156 ?_
    refine va_get (D := (dC, dI)) (ci := 7) (v := .int 0) (C := RX7) (T := TX7) (N := 15) hx hb hts (fun w h => wM_c (iX7 w h)) hown hK hP 6 rfl rfl 1 (by decide) (hts _ (wM_c wd_334)) (fun _ h9 => h9) rfl dX11_count_159 ?_
    exact W.iret (v := 0) hx hb hr (fun t ht hW => ⟨⟨0, (), rfl, (by rw [sw_1]; decide), trivial⟩, hS.F ht⟩) hS.2.2 dX11_count_162
