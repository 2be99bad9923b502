theorem wd_7 : Cond.selects "MineAir$Reader" (⟨"MineAir$Reader", "takeNewName", "(III)I"⟩ : MethodName) (⟨"MineAir$Reader", "takeNewName", "(III)I"⟩ : MethodName) ∈ wG := wG_of 7 (by decide +kernel) (by decide +kernel)
theorem wd_11 : Cond.selects "MineAir$Reader" (⟨"MineAir$Reader", "takeKnot", "(I)I"⟩ : MethodName) (⟨"MineAir$Reader", "takeKnot", "(I)I"⟩ : MethodName) ∈ wG := wG_of 11 (by decide +kernel) (by decide +kernel)
theorem wd_14 : Cond.selects "MineAir$Reader" (⟨"MineAir$Reader", "takeWhole", "(Ljava/lang/String;II)I"⟩ : MethodName) (⟨"MineAir$Reader", "takeWhole", "(Ljava/lang/String;II)I"⟩ : MethodName) ∈ wG := wG_of 14 (by decide +kernel) (by decide +kernel)
theorem wd_15 : Cond.selects "MineAir$Reader" (⟨"MineAir$Reader", "takeDraught", "()I"⟩ : MethodName) (⟨"MineAir$Reader", "takeDraught", "()I"⟩ : MethodName) ∈ wG := wG_of 15 (by decide +kernel) (by decide +kernel)
theorem wd_17 : Cond.selects "MineAir$Reader" (⟨"MineAir$Reader", "takePlace", "([I)I"⟩ : MethodName) (⟨"MineAir$Reader", "takePlace", "([I)I"⟩ : MethodName) ∈ wG := wG_of 17 (by decide +kernel) (by decide +kernel)
theorem wd_161 : Cond.fieldLink "MineAir$Book" 56 "MineAir$Gear" "doors" "I" ∈ wG := wG_of 161 (by decide +kernel) (by decide +kernel)
theorem wd_162 : Cond.fieldLink "MineAir$Reader" 139 "MineAir$Gear" "doors" "I" ∈ wG := wG_of 162 (by decide +kernel) (by decide +kernel)
theorem wd_166 : Cond.fieldLink "MineAir$Reader" 153 "MineAir$Gear" "doorBy" "[I" ∈ wG := wG_of 166 (by decide +kernel) (by decide +kernel)
theorem wd_168 : Cond.fieldLink "MineAir$Book" 59 "MineAir$Gear" "pairs" "I" ∈ wG := wG_of 168 (by decide +kernel) (by decide +kernel)
theorem wd_170 : Cond.fieldLink "MineAir$Reader" 156 "MineAir$Gear" "pairs" "I" ∈ wG := wG_of 170 (by decide +kernel) (by decide +kernel)
theorem wd_174 : Cond.fieldLink "MineAir$Reader" 162 "MineAir$Gear" "pairFirst" "[I" ∈ wG := wG_of 174 (by decide +kernel) (by decide +kernel)
theorem wd_177 : Cond.fieldLink "MineAir$Reader" 165 "MineAir$Gear" "pairSecond" "[I" ∈ wG := wG_of 177 (by decide +kernel) (by decide +kernel)
theorem wd_178 : Cond.fieldLink "MineAir$Book" 62 "MineAir$Gear" "fans" "I" ∈ wG := wG_of 178 (by decide +kernel) (by decide +kernel)
theorem wd_181 : Cond.fieldLink "MineAir$Reader" 168 "MineAir$Gear" "fans" "I" ∈ wG := wG_of 181 (by decide +kernel) (by decide +kernel)
theorem wd_185 : Cond.fieldLink "MineAir$Reader" 180 "MineAir$Gear" "fanPush" "[I" ∈ wG := wG_of 185 (by decide +kernel) (by decide +kernel)
theorem wd_188 : Cond.fieldLink "MineAir$Reader" 183 "MineAir$Gear" "fanFall" "[I" ∈ wG := wG_of 188 (by decide +kernel) (by decide +kernel)
theorem wd_190 : Cond.fieldLink "MineAir$Reader" 186 "MineAir$Gear" "fanCost" "[I" ∈ wG := wG_of 190 (by decide +kernel) (by decide +kernel)
theorem wd_192 : Cond.fieldLink "MineAir$Book" 65 "MineAir$Gear" "faces" "I" ∈ wG := wG_of 192 (by decide +kernel) (by decide +kernel)
theorem wd_195 : Cond.fieldLink "MineAir$Reader" 189 "MineAir$Gear" "faces" "I" ∈ wG := wG_of 195 (by decide +kernel) (by decide +kernel)
theorem wd_200 : Cond.fieldLink "MineAir$Reader" 199 "MineAir$Gear" "faceWay" "[I" ∈ wG := wG_of 200 (by decide +kernel) (by decide +kernel)
theorem wd_205 : Cond.fieldLink "MineAir$Reader" 202 "MineAir$Gear" "faceGas" "[I" ∈ wG := wG_of 205 (by decide +kernel) (by decide +kernel)
theorem wd_208 : Cond.fieldLink "MineAir$Reader" 205 "MineAir$Gear" "faceNeed" "[I" ∈ wG := wG_of 208 (by decide +kernel) (by decide +kernel)
theorem wd_238 : Cond.fieldLink "MineAir$Book" 50 "MineAir$Book" "ways" "I" ∈ wG := wG_of 238 (by decide +kernel) (by decide +kernel)
theorem wd_244 : Cond.fieldLink "MineAir$Reader" 95 "MineAir$Book" "ways" "I" ∈ wG := wG_of 244 (by decide +kernel) (by decide +kernel)
theorem wd_247 : Cond.fieldLink "MineAir$Reader" 120 "MineAir$Book" "tail" "[I" ∈ wG := wG_of 247 (by decide +kernel) (by decide +kernel)
theorem wd_252 : Cond.fieldLink "MineAir$Reader" 123 "MineAir$Book" "head" "[I" ∈ wG := wG_of 252 (by decide +kernel) (by decide +kernel)
theorem wd_258 : Cond.fieldLink "MineAir$Reader" 126 "MineAir$Book" "hinder" "[I" ∈ wG := wG_of 258 (by decide +kernel) (by decide +kernel)
theorem wd_261 : Cond.fieldLink "MineAir$Reader" 128 "MineAir$Book" "size" "[I" ∈ wG := wG_of 261 (by decide +kernel) (by decide +kernel)
theorem wd_264 : Cond.fieldLink "MineAir$Reader" 130 "MineAir$Book" "walk" "[I" ∈ wG := wG_of 264 (by decide +kernel) (by decide +kernel)
theorem wd_269 : Cond.fieldLink "MineAir$Reader" 132 "MineAir$Book" "draught" "[I" ∈ wG := wG_of 269 (by decide +kernel) (by decide +kernel)
theorem wd_271 : Cond.fieldLink "MineAir$Book" 30 "MineAir$Book" "doorIn" "[I" ∈ wG := wG_of 271 (by decide +kernel) (by decide +kernel)
theorem wd_273 : Cond.fieldLink "MineAir$Reader" 144 "MineAir$Book" "doorIn" "[I" ∈ wG := wG_of 273 (by decide +kernel) (by decide +kernel)
theorem wd_275 : Cond.fieldLink "MineAir$Book" 33 "MineAir$Book" "fanIn" "[I" ∈ wG := wG_of 275 (by decide +kernel) (by decide +kernel)
theorem wd_279 : Cond.fieldLink "MineAir$Reader" 171 "MineAir$Book" "fanIn" "[I" ∈ wG := wG_of 279 (by decide +kernel) (by decide +kernel)
theorem wd_282 : Cond.fieldLink "MineAir$Reader" 192 "MineAir$Book" "faceIn" "[I" ∈ wG := wG_of 282 (by decide +kernel) (by decide +kernel)
theorem wd_283 : Cond.fieldLink "MineAir$Book" 53 "MineAir$Book" "knots" "I" ∈ wG := wG_of 283 (by decide +kernel) (by decide +kernel)
theorem wd_288 : Cond.fieldLink "MineAir$Book" 39 "MineAir$Book" "day" "I" ∈ wG := wG_of 288 (by decide +kernel) (by decide +kernel)
theorem wd_296 : Cond.fieldLink "MineAir$Reader" 135 "MineAir$Book" "gear" "LMineAir$Gear;" ∈ wG := wG_of 296 (by decide +kernel) (by decide +kernel)
theorem wd_731 : Cond.methodLink "MineAir$Book" 68 (⟨"java/util/Arrays", "fill", "([II)V"⟩ : MethodName) ∈ wG := wG_of 731 (by decide +kernel) (by decide +kernel)
theorem wd_816 : Cond.methodLink "MineAir$Reader" 98 (⟨"MineAir$Reader", "takeNewName", "(III)I"⟩ : MethodName) ∈ wG := wG_of 816 (by decide +kernel) (by decide +kernel)
theorem wd_818 : Cond.instanceMethod (⟨"MineAir$Reader", "takeNewName", "(III)I"⟩ : MethodName) ∈ wG := wG_of 818 (by decide +kernel) (by decide +kernel)
theorem wd_819 : Cond.code (⟨"MineAir$Reader", "takeNewName", "(III)I"⟩ : MethodName) prog_9_method_9_code 4 (Option.some Jvm.ClassFile.FieldType.int) ∈ wG := wG_of 819 (by decide +kernel) (by decide +kernel)
theorem wd_836 : Cond.methodLink "MineAir$Reader" 102 (⟨"MineAir$Reader", "takeKnot", "(I)I"⟩ : MethodName) ∈ wG := wG_of 836 (by decide +kernel) (by decide +kernel)
theorem wd_838 : Cond.instanceMethod (⟨"MineAir$Reader", "takeKnot", "(I)I"⟩ : MethodName) ∈ wG := wG_of 838 (by decide +kernel) (by decide +kernel)
theorem wd_839 : Cond.code (⟨"MineAir$Reader", "takeKnot", "(I)I"⟩ : MethodName) prog_9_method_10_code 3 (Option.some Jvm.ClassFile.FieldType.int) ∈ wG := wG_of 839 (by decide +kernel) (by decide +kernel)
theorem wd_850 : Cond.methodLink "MineAir$Reader" 108 (⟨"MineAir$Reader", "takeWhole", "(Ljava/lang/String;II)I"⟩ : MethodName) ∈ wG := wG_of 850 (by decide +kernel) (by decide +kernel)
theorem wd_852 : Cond.instanceMethod (⟨"MineAir$Reader", "takeWhole", "(Ljava/lang/String;II)I"⟩ : MethodName) ∈ wG := wG_of 852 (by decide +kernel) (by decide +kernel)
theorem wd_853 : Cond.code (⟨"MineAir$Reader", "takeWhole", "(Ljava/lang/String;II)I"⟩ : MethodName) prog_9_method_14_code 5 (Option.some Jvm.ClassFile.FieldType.int) ∈ wG := wG_of 853 (by decide +kernel) (by decide +kernel)
theorem wd_856 : Cond.methodLink "MineAir$Reader" 116 (⟨"MineAir$Reader", "takeDraught", "()I"⟩ : MethodName) ∈ wG := wG_of 856 (by decide +kernel) (by decide +kernel)
theorem wd_858 : Cond.instanceMethod (⟨"MineAir$Reader", "takeDraught", "()I"⟩ : MethodName) ∈ wG := wG_of 858 (by decide +kernel) (by decide +kernel)
theorem wd_859 : Cond.code (⟨"MineAir$Reader", "takeDraught", "()I"⟩ : MethodName) prog_9_method_15_code 3 (Option.some Jvm.ClassFile.FieldType.int) ∈ wG := wG_of 859 (by decide +kernel) (by decide +kernel)
theorem wd_865 : Cond.methodLink "MineAir$Reader" 147 (⟨"MineAir$Reader", "takePlace", "([I)I"⟩ : MethodName) ∈ wG := wG_of 865 (by decide +kernel) (by decide +kernel)
theorem wd_867 : Cond.instanceMethod (⟨"MineAir$Reader", "takePlace", "([I)I"⟩ : MethodName) ∈ wG := wG_of 867 (by decide +kernel) (by decide +kernel)
theorem wd_868 : Cond.code (⟨"MineAir$Reader", "takePlace", "([I)I"⟩ : MethodName) prog_9_method_12_code 3 (Option.some Jvm.ClassFile.FieldType.int) ∈ wG := wG_of 868 (by decide +kernel) (by decide +kernel)
theorem dX0_clear_0 : decode cX0_clear 0 = .ok (.aload_n 0, 1) := by decide +kernel
theorem dX0_clear_1 : decode cX0_clear 1 = .ok (.iconst 0, 1) := by decide +kernel
theorem dX0_clear_2 : decode cX0_clear 2 = .ok (.putfield 50, 3) := by decide +kernel
theorem dX0_clear_5 : decode cX0_clear 5 = .ok (.aload_n 0, 1) := by decide +kernel
theorem dX0_clear_6 : decode cX0_clear 6 = .ok (.iconst 0, 1) := by decide +kernel
theorem dX0_clear_7 : decode cX0_clear 7 = .ok (.putfield 53, 3) := by decide +kernel
theorem dX0_clear_10 : decode cX0_clear 10 = .ok (.aload_n 0, 1) := by decide +kernel
theorem dX0_clear_11 : decode cX0_clear 11 = .ok (.iconst (-1), 1) := by decide +kernel
theorem dX0_clear_12 : decode cX0_clear 12 = .ok (.putfield 39, 3) := by decide +kernel
theorem dX0_clear_15 : decode cX0_clear 15 = .ok (.aload_n 0, 1) := by decide +kernel
theorem dX0_clear_16 : decode cX0_clear 16 = .ok (.getfield 46, 3) := by decide +kernel
theorem dX0_clear_19 : decode cX0_clear 19 = .ok (.iconst 0, 1) := by decide +kernel
theorem dX0_clear_20 : decode cX0_clear 20 = .ok (.putfield 56, 3) := by decide +kernel
theorem dX0_clear_23 : decode cX0_clear 23 = .ok (.aload_n 0, 1) := by decide +kernel
theorem dX0_clear_24 : decode cX0_clear 24 = .ok (.getfield 46, 3) := by decide +kernel
theorem dX0_clear_27 : decode cX0_clear 27 = .ok (.iconst 0, 1) := by decide +kernel
theorem dX0_clear_28 : decode cX0_clear 28 = .ok (.putfield 59, 3) := by decide +kernel
theorem dX0_clear_31 : decode cX0_clear 31 = .ok (.aload_n 0, 1) := by decide +kernel
theorem dX0_clear_32 : decode cX0_clear 32 = .ok (.getfield 46, 3) := by decide +kernel
theorem dX0_clear_35 : decode cX0_clear 35 = .ok (.iconst 0, 1) := by decide +kernel
theorem dX0_clear_36 : decode cX0_clear 36 = .ok (.putfield 62, 3) := by decide +kernel
theorem dX0_clear_39 : decode cX0_clear 39 = .ok (.aload_n 0, 1) := by decide +kernel
theorem dX0_clear_40 : decode cX0_clear 40 = .ok (.getfield 46, 3) := by decide +kernel
theorem dX0_clear_43 : decode cX0_clear 43 = .ok (.iconst 0, 1) := by decide +kernel
theorem dX0_clear_44 : decode cX0_clear 44 = .ok (.putfield 65, 3) := by decide +kernel
theorem dX0_clear_47 : decode cX0_clear 47 = .ok (.aload_n 0, 1) := by decide +kernel
theorem dX0_clear_48 : decode cX0_clear 48 = .ok (.getfield 30, 3) := by decide +kernel
theorem dX0_clear_51 : decode cX0_clear 51 = .ok (.iconst (-1), 1) := by decide +kernel
theorem dX0_clear_52 : decode cX0_clear 52 = .ok (.invokestatic 68, 3) := by decide +kernel
theorem dX0_clear_55 : decode cX0_clear 55 = .ok (.aload_n 0, 1) := by decide +kernel
theorem dX0_clear_56 : decode cX0_clear 56 = .ok (.getfield 33, 3) := by decide +kernel
theorem dX0_clear_59 : decode cX0_clear 59 = .ok (.iconst (-1), 1) := by decide +kernel
theorem dX0_clear_60 : decode cX0_clear 60 = .ok (.invokestatic 68, 3) := by decide +kernel
theorem dX0_clear_63 : decode cX0_clear 63 = .ok (.aload_n 0, 1) := by decide +kernel
theorem dX0_clear_64 : decode cX0_clear 64 = .ok (.getfield 36, 3) := by decide +kernel
theorem dX0_clear_67 : decode cX0_clear 67 = .ok (.iconst (-1), 1) := by decide +kernel
theorem dX0_clear_68 : decode cX0_clear 68 = .ok (.invokestatic 68, 3) := by decide +kernel
theorem dX0_clear_71 : decode cX0_clear 71 = .ok (.return_, 1) := by decide +kernel
theorem dX7_readDoor_0 : decode cX7_readDoor 0 = .ok (.aload_n 0, 1) := by decide +kernel
theorem dX7_readDoor_1 : decode cX7_readDoor 1 = .ok (.getfield 28, 3) := by decide +kernel
theorem dX7_readDoor_4 : decode cX7_readDoor 4 = .ok (.getfield 135, 3) := by decide +kernel
theorem dX7_readDoor_7 : decode cX7_readDoor 7 = .ok (.astore_n 1, 1) := by decide +kernel
theorem dX7_readDoor_8 : decode cX7_readDoor 8 = .ok (.aload_n 0, 1) := by decide +kernel
theorem dX7_readDoor_9 : decode cX7_readDoor 9 = .ok (.iconst 1, 1) := by decide +kernel
theorem dX7_readDoor_10 : decode cX7_readDoor 10 = .ok (.aload_n 1, 1) := by decide +kernel
theorem dX7_readDoor_11 : decode cX7_readDoor 11 = .ok (.getfield 139, 3) := by decide +kernel
theorem dX7_readDoor_14 : decode cX7_readDoor 14 = .ok (.bipush 6, 2) := by decide +kernel
theorem dX7_readDoor_16 : decode cX7_readDoor 16 = .ok (.invokevirtual 98, 3) := by decide +kernel
theorem dX7_readDoor_19 : decode cX7_readDoor 19 = .ok (.istore_n 2, 1) := by decide +kernel
theorem dX7_readDoor_20 : decode cX7_readDoor 20 = .ok (.aload_n 0, 1) := by decide +kernel
theorem dX7_readDoor_21 : decode cX7_readDoor 21 = .ok (.aload_n 0, 1) := by decide +kernel
theorem dX7_readDoor_22 : decode cX7_readDoor 22 = .ok (.getfield 28, 3) := by decide +kernel
theorem dX7_readDoor_25 : decode cX7_readDoor 25 = .ok (.getfield 144, 3) := by decide +kernel
theorem dX7_readDoor_28 : decode cX7_readDoor 28 = .ok (.invokevirtual 147, 3) := by decide +kernel
theorem dX7_readDoor_31 : decode cX7_readDoor 31 = .ok (.istore_n 3, 1) := by decide +kernel
theorem dX7_readDoor_32 : decode cX7_readDoor 32 = .ok (.aload_n 0, 1) := by decide +kernel
theorem dX7_readDoor_33 : decode cX7_readDoor 33 = .ok (.ldc 151, 2) := by decide +kernel
theorem dX7_readDoor_35 : decode cX7_readDoor 35 = .ok (.iconst 1, 1) := by decide +kernel
theorem dX7_readDoor_36 : decode cX7_readDoor 36 = .ok (.bipush 99, 2) := by decide +kernel
theorem dX7_readDoor_38 : decode cX7_readDoor 38 = .ok (.invokevirtual 108, 3) := by decide +kernel
theorem dX7_readDoor_41 : decode cX7_readDoor 41 = .ok (.istore 4, 2) := by decide +kernel
theorem dX7_readDoor_43 : decode cX7_readDoor 43 = .ok (.aload_n 0, 1) := by decide +kernel
theorem dX7_readDoor_44 : decode cX7_readDoor 44 = .ok (.getfield 45, 3) := by decide +kernel
theorem dX7_readDoor_47 : decode cX7_readDoor 47 = .ok (.ifCond .eq 4, 3) := by decide +kernel
theorem dX7_readDoor_50 : decode cX7_readDoor 50 = .ok (.return_, 1) := by decide +kernel
theorem dX7_readDoor_51 : decode cX7_readDoor 51 = .ok (.aload_n 0, 1) := by decide +kernel
theorem dX7_readDoor_52 : decode cX7_readDoor 52 = .ok (.getfield 28, 3) := by decide +kernel
theorem dX7_readDoor_55 : decode cX7_readDoor 55 = .ok (.getfield 144, 3) := by decide +kernel
theorem dX7_readDoor_58 : decode cX7_readDoor 58 = .ok (.iload_n 3, 1) := by decide +kernel
theorem dX7_readDoor_59 : decode cX7_readDoor 59 = .ok (.iload_n 2, 1) := by decide +kernel
theorem dX7_readDoor_60 : decode cX7_readDoor 60 = .ok (.iastore, 1) := by decide +kernel
theorem dX7_readDoor_61 : decode cX7_readDoor 61 = .ok (.aload_n 1, 1) := by decide +kernel
theorem dX7_readDoor_62 : decode cX7_readDoor 62 = .ok (.getfield 153, 3) := by decide +kernel
theorem dX7_readDoor_65 : decode cX7_readDoor 65 = .ok (.iload_n 2, 1) := by decide +kernel
theorem dX7_readDoor_66 : decode cX7_readDoor 66 = .ok (.iload 4, 2) := by decide +kernel
theorem dX7_readDoor_68 : decode cX7_readDoor 68 = .ok (.iastore, 1) := by decide +kernel
theorem dX7_readDoor_69 : decode cX7_readDoor 69 = .ok (.aload_n 1, 1) := by decide +kernel
theorem dX7_readDoor_70 : decode cX7_readDoor 70 = .ok (.dup, 1) := by decide +kernel
theorem dX7_readDoor_71 : decode cX7_readDoor 71 = .ok (.getfield 139, 3) := by decide +kernel
theorem dX7_readDoor_74 : decode cX7_readDoor 74 = .ok (.iconst 1, 1) := by decide +kernel
theorem dX7_readDoor_75 : decode cX7_readDoor 75 = .ok (.iadd, 1) := by decide +kernel
theorem dX7_readDoor_76 : decode cX7_readDoor 76 = .ok (.putfield 139, 3) := by decide +kernel
theorem dX7_readDoor_79 : decode cX7_readDoor 79 = .ok (.return_, 1) := by decide +kernel
theorem dX7_readFace_0 : decode cX7_readFace 0 = .ok (.aload_n 0, 1) := by decide +kernel
theorem dX7_readFace_1 : decode cX7_readFace 1 = .ok (.getfield 28, 3) := by decide +kernel
theorem dX7_readFace_4 : decode cX7_readFace 4 = .ok (.getfield 135, 3) := by decide +kernel
theorem dX7_readFace_7 : decode cX7_readFace 7 = .ok (.astore_n 1, 1) := by decide +kernel
theorem dX7_readFace_8 : decode cX7_readFace 8 = .ok (.aload_n 0, 1) := by decide +kernel
theorem dX7_readFace_9 : decode cX7_readFace 9 = .ok (.iconst 3, 1) := by decide +kernel
theorem dX7_readFace_10 : decode cX7_readFace 10 = .ok (.aload_n 1, 1) := by decide +kernel
theorem dX7_readFace_11 : decode cX7_readFace 11 = .ok (.getfield 189, 3) := by decide +kernel
theorem dX7_readFace_14 : decode cX7_readFace 14 = .ok (.iconst 4, 1) := by decide +kernel
theorem dX7_readFace_15 : decode cX7_readFace 15 = .ok (.invokevirtual 98, 3) := by decide +kernel
theorem dX7_readFace_18 : decode cX7_readFace 18 = .ok (.istore_n 2, 1) := by decide +kernel
theorem dX7_readFace_19 : decode cX7_readFace 19 = .ok (.aload_n 0, 1) := by decide +kernel
theorem dX7_readFace_20 : decode cX7_readFace 20 = .ok (.aload_n 0, 1) := by decide +kernel
theorem dX7_readFace_21 : decode cX7_readFace 21 = .ok (.getfield 28, 3) := by decide +kernel
theorem dX7_readFace_24 : decode cX7_readFace 24 = .ok (.getfield 192, 3) := by decide +kernel
theorem dX7_readFace_27 : decode cX7_readFace 27 = .ok (.invokevirtual 147, 3) := by decide +kernel
theorem dX7_readFace_30 : decode cX7_readFace 30 = .ok (.istore_n 3, 1) := by decide +kernel
theorem dX7_readFace_31 : decode cX7_readFace 31 = .ok (.aload_n 0, 1) := by decide +kernel
theorem dX7_readFace_32 : decode cX7_readFace 32 = .ok (.ldc 195, 2) := by decide +kernel
theorem dX7_readFace_34 : decode cX7_readFace 34 = .ok (.iconst 0, 1) := by decide +kernel
theorem dX7_readFace_35 : decode cX7_readFace 35 = .ok (.sipush 999, 3) := by decide +kernel
theorem dX7_readFace_38 : decode cX7_readFace 38 = .ok (.invokevirtual 108, 3) := by decide +kernel
theorem dX7_readFace_41 : decode cX7_readFace 41 = .ok (.istore 4, 2) := by decide +kernel
theorem dX7_readFace_43 : decode cX7_readFace 43 = .ok (.aload_n 0, 1) := by decide +kernel
theorem dX7_readFace_44 : decode cX7_readFace 44 = .ok (.ldc 197, 2) := by decide +kernel
theorem dX7_readFace_46 : decode cX7_readFace 46 = .ok (.iconst 0, 1) := by decide +kernel
theorem dX7_readFace_47 : decode cX7_readFace 47 = .ok (.bipush 60, 2) := by decide +kernel
theorem dX7_readFace_49 : decode cX7_readFace 49 = .ok (.invokevirtual 108, 3) := by decide +kernel
theorem dX7_readFace_52 : decode cX7_readFace 52 = .ok (.istore 5, 2) := by decide +kernel
theorem dX7_readFace_54 : decode cX7_readFace 54 = .ok (.aload_n 0, 1) := by decide +kernel
theorem dX7_readFace_55 : decode cX7_readFace 55 = .ok (.getfield 45, 3) := by decide +kernel
theorem dX7_readFace_58 : decode cX7_readFace 58 = .ok (.ifCond .eq 4, 3) := by decide +kernel
theorem dX7_readFace_61 : decode cX7_readFace 61 = .ok (.return_, 1) := by decide +kernel
theorem dX7_readFace_62 : decode cX7_readFace 62 = .ok (.aload_n 0, 1) := by decide +kernel
theorem dX7_readFace_63 : decode cX7_readFace 63 = .ok (.getfield 28, 3) := by decide +kernel
theorem dX7_readFace_66 : decode cX7_readFace 66 = .ok (.getfield 192, 3) := by decide +kernel
theorem dX7_readFace_69 : decode cX7_readFace 69 = .ok (.iload_n 3, 1) := by decide +kernel
theorem dX7_readFace_70 : decode cX7_readFace 70 = .ok (.iload_n 2, 1) := by decide +kernel
theorem dX7_readFace_71 : decode cX7_readFace 71 = .ok (.iastore, 1) := by decide +kernel
theorem dX7_readFace_72 : decode cX7_readFace 72 = .ok (.aload_n 1, 1) := by decide +kernel
theorem dX7_readFace_73 : decode cX7_readFace 73 = .ok (.getfield 199, 3) := by decide +kernel
theorem dX7_readFace_76 : decode cX7_readFace 76 = .ok (.iload_n 2, 1) := by decide +kernel
theorem dX7_readFace_77 : decode cX7_readFace 77 = .ok (.iload_n 3, 1) := by decide +kernel
theorem dX7_readFace_78 : decode cX7_readFace 78 = .ok (.iastore, 1) := by decide +kernel
theorem dX7_readFace_79 : decode cX7_readFace 79 = .ok (.aload_n 1, 1) := by decide +kernel
theorem dX7_readFace_80 : decode cX7_readFace 80 = .ok (.getfield 202, 3) := by decide +kernel
theorem dX7_readFace_83 : decode cX7_readFace 83 = .ok (.iload_n 2, 1) := by decide +kernel
theorem dX7_readFace_84 : decode cX7_readFace 84 = .ok (.iload 4, 2) := by decide +kernel
theorem dX7_readFace_86 : decode cX7_readFace 86 = .ok (.iastore, 1) := by decide +kernel
theorem dX7_readFace_87 : decode cX7_readFace 87 = .ok (.aload_n 1, 1) := by decide +kernel
theorem dX7_readFace_88 : decode cX7_readFace 88 = .ok (.getfield 205, 3) := by decide +kernel
theorem dX7_readFace_91 : decode cX7_readFace 91 = .ok (.iload_n 2, 1) := by decide +kernel
theorem dX7_readFace_92 : decode cX7_readFace 92 = .ok (.iload 5, 2) := by decide +kernel
theorem dX7_readFace_94 : decode cX7_readFace 94 = .ok (.iastore, 1) := by decide +kernel
theorem dX7_readFace_95 : decode cX7_readFace 95 = .ok (.aload_n 1, 1) := by decide +kernel
theorem dX7_readFace_96 : decode cX7_readFace 96 = .ok (.dup, 1) := by decide +kernel
theorem dX7_readFace_97 : decode cX7_readFace 97 = .ok (.getfield 189, 3) := by decide +kernel
theorem dX7_readFace_100 : decode cX7_readFace 100 = .ok (.iconst 1, 1) := by decide +kernel
theorem dX7_readFace_101 : decode cX7_readFace 101 = .ok (.iadd, 1) := by decide +kernel
theorem dX7_readFace_102 : decode cX7_readFace 102 = .ok (.putfield 189, 3) := by decide +kernel
theorem dX7_readFace_105 : decode cX7_readFace 105 = .ok (.return_, 1) := by decide +kernel
theorem dX7_readFan_0 : decode cX7_readFan 0 = .ok (.aload_n 0, 1) := by decide +kernel
theorem dX7_readFan_1 : decode cX7_readFan 1 = .ok (.getfield 28, 3) := by decide +kernel
theorem dX7_readFan_4 : decode cX7_readFan 4 = .ok (.getfield 135, 3) := by decide +kernel
theorem dX7_readFan_7 : decode cX7_readFan 7 = .ok (.astore_n 1, 1) := by decide +kernel
theorem dX7_readFan_8 : decode cX7_readFan 8 = .ok (.aload_n 0, 1) := by decide +kernel
theorem dX7_readFan_9 : decode cX7_readFan 9 = .ok (.iconst 2, 1) := by decide +kernel
theorem dX7_readFan_10 : decode cX7_readFan 10 = .ok (.aload_n 1, 1) := by decide +kernel
theorem dX7_readFan_11 : decode cX7_readFan 11 = .ok (.getfield 168, 3) := by decide +kernel
theorem dX7_readFan_14 : decode cX7_readFan 14 = .ok (.iconst 4, 1) := by decide +kernel
theorem dX7_readFan_15 : decode cX7_readFan 15 = .ok (.invokevirtual 98, 3) := by decide +kernel
theorem dX7_readFan_18 : decode cX7_readFan 18 = .ok (.istore_n 2, 1) := by decide +kernel
theorem dX7_readFan_19 : decode cX7_readFan 19 = .ok (.aload_n 0, 1) := by decide +kernel
theorem dX7_readFan_20 : decode cX7_readFan 20 = .ok (.aload_n 0, 1) := by decide +kernel
theorem dX7_readFan_21 : decode cX7_readFan 21 = .ok (.getfield 28, 3) := by decide +kernel
theorem dX7_readFan_24 : decode cX7_readFan 24 = .ok (.getfield 171, 3) := by decide +kernel
theorem dX7_readFan_27 : decode cX7_readFan 27 = .ok (.invokevirtual 147, 3) := by decide +kernel
theorem dX7_readFan_30 : decode cX7_readFan 30 = .ok (.istore_n 3, 1) := by decide +kernel
theorem dX7_readFan_31 : decode cX7_readFan 31 = .ok (.aload_n 0, 1) := by decide +kernel
theorem dX7_readFan_32 : decode cX7_readFan 32 = .ok (.ldc 174, 2) := by decide +kernel
theorem dX7_readFan_34 : decode cX7_readFan 34 = .ok (.iconst 1, 1) := by decide +kernel
theorem dX7_readFan_35 : decode cX7_readFan 35 = .ok (.sipush 999, 3) := by decide +kernel
theorem dX7_readFan_38 : decode cX7_readFan 38 = .ok (.invokevirtual 108, 3) := by decide +kernel
theorem dX7_readFan_41 : decode cX7_readFan 41 = .ok (.istore 4, 2) := by decide +kernel
theorem dX7_readFan_43 : decode cX7_readFan 43 = .ok (.aload_n 0, 1) := by decide +kernel
theorem dX7_readFan_44 : decode cX7_readFan 44 = .ok (.ldc 176, 2) := by decide +kernel
theorem dX7_readFan_46 : decode cX7_readFan 46 = .ok (.iconst 0, 1) := by decide +kernel
theorem dX7_readFan_47 : decode cX7_readFan 47 = .ok (.bipush 99, 2) := by decide +kernel
theorem dX7_readFan_49 : decode cX7_readFan 49 = .ok (.invokevirtual 108, 3) := by decide +kernel
theorem dX7_readFan_52 : decode cX7_readFan 52 = .ok (.istore 5, 2) := by decide +kernel
theorem dX7_readFan_54 : decode cX7_readFan 54 = .ok (.aload_n 0, 1) := by decide +kernel
theorem dX7_readFan_55 : decode cX7_readFan 55 = .ok (.ldc 178, 2) := by decide +kernel
theorem dX7_readFan_57 : decode cX7_readFan 57 = .ok (.iconst 1, 1) := by decide +kernel
theorem dX7_readFan_58 : decode cX7_readFan 58 = .ok (.bipush 99, 2) := by decide +kernel
theorem dX7_readFan_60 : decode cX7_readFan 60 = .ok (.invokevirtual 108, 3) := by decide +kernel
theorem dX7_readFan_63 : decode cX7_readFan 63 = .ok (.istore 6, 2) := by decide +kernel
theorem dX7_readFan_65 : decode cX7_readFan 65 = .ok (.aload_n 0, 1) := by decide +kernel
theorem dX7_readFan_66 : decode cX7_readFan 66 = .ok (.getfield 45, 3) := by decide +kernel
theorem dX7_readFan_69 : decode cX7_readFan 69 = .ok (.ifCond .eq 4, 3) := by decide +kernel
theorem dX7_readFan_72 : decode cX7_readFan 72 = .ok (.return_, 1) := by decide +kernel
theorem dX7_readFan_73 : decode cX7_readFan 73 = .ok (.aload_n 0, 1) := by decide +kernel
theorem dX7_readFan_74 : decode cX7_readFan 74 = .ok (.getfield 28, 3) := by decide +kernel
theorem dX7_readFan_77 : decode cX7_readFan 77 = .ok (.getfield 171, 3) := by decide +kernel
theorem dX7_readFan_80 : decode cX7_readFan 80 = .ok (.iload_n 3, 1) := by decide +kernel
theorem dX7_readFan_81 : decode cX7_readFan 81 = .ok (.iload_n 2, 1) := by decide +kernel
theorem dX7_readFan_82 : decode cX7_readFan 82 = .ok (.iastore, 1) := by decide +kernel
theorem dX7_readFan_83 : decode cX7_readFan 83 = .ok (.aload_n 1, 1) := by decide +kernel
theorem dX7_readFan_84 : decode cX7_readFan 84 = .ok (.getfield 180, 3) := by decide +kernel
theorem dX7_readFan_87 : decode cX7_readFan 87 = .ok (.iload_n 2, 1) := by decide +kernel
theorem dX7_readFan_88 : decode cX7_readFan 88 = .ok (.iload 4, 2) := by decide +kernel
theorem dX7_readFan_90 : decode cX7_readFan 90 = .ok (.iastore, 1) := by decide +kernel
theorem dX7_readFan_91 : decode cX7_readFan 91 = .ok (.aload_n 1, 1) := by decide +kernel
theorem dX7_readFan_92 : decode cX7_readFan 92 = .ok (.getfield 183, 3) := by decide +kernel
theorem dX7_readFan_95 : decode cX7_readFan 95 = .ok (.iload_n 2, 1) := by decide +kernel
theorem dX7_readFan_96 : decode cX7_readFan 96 = .ok (.iload 5, 2) := by decide +kernel
theorem dX7_readFan_98 : decode cX7_readFan 98 = .ok (.iastore, 1) := by decide +kernel
theorem dX7_readFan_99 : decode cX7_readFan 99 = .ok (.aload_n 1, 1) := by decide +kernel
theorem dX7_readFan_100 : decode cX7_readFan 100 = .ok (.getfield 186, 3) := by decide +kernel
theorem dX7_readFan_103 : decode cX7_readFan 103 = .ok (.iload_n 2, 1) := by decide +kernel
theorem dX7_readFan_104 : decode cX7_readFan 104 = .ok (.iload 6, 2) := by decide +kernel
theorem dX7_readFan_106 : decode cX7_readFan 106 = .ok (.iastore, 1) := by decide +kernel
theorem dX7_readFan_107 : decode cX7_readFan 107 = .ok (.aload_n 1, 1) := by decide +kernel
theorem dX7_readFan_108 : decode cX7_readFan 108 = .ok (.dup, 1) := by decide +kernel
theorem dX7_readFan_109 : decode cX7_readFan 109 = .ok (.getfield 168, 3) := by decide +kernel
theorem dX7_readFan_112 : decode cX7_readFan 112 = .ok (.iconst 1, 1) := by decide +kernel
theorem dX7_readFan_113 : decode cX7_readFan 113 = .ok (.iadd, 1) := by decide +kernel
theorem dX7_readFan_114 : decode cX7_readFan 114 = .ok (.putfield 168, 3) := by decide +kernel
theorem dX7_readFan_117 : decode cX7_readFan 117 = .ok (.return_, 1) := by decide +kernel
theorem dX7_readPair_0 : decode cX7_readPair 0 = .ok (.aload_n 0, 1) := by decide +kernel
theorem dX7_readPair_1 : decode cX7_readPair 1 = .ok (.getfield 28, 3) := by decide +kernel
theorem dX7_readPair_4 : decode cX7_readPair 4 = .ok (.getfield 135, 3) := by decide +kernel
theorem dX7_readPair_7 : decode cX7_readPair 7 = .ok (.astore_n 1, 1) := by decide +kernel
theorem dX7_readPair_8 : decode cX7_readPair 8 = .ok (.aload_n 1, 1) := by decide +kernel
theorem dX7_readPair_9 : decode cX7_readPair 9 = .ok (.getfield 156, 3) := by decide +kernel
theorem dX7_readPair_12 : decode cX7_readPair 12 = .ok (.istore_n 2, 1) := by decide +kernel
theorem dX7_readPair_13 : decode cX7_readPair 13 = .ok (.aload_n 0, 1) := by decide +kernel
theorem dX7_readPair_14 : decode cX7_readPair 14 = .ok (.iconst 1, 1) := by decide +kernel
theorem dX7_readPair_15 : decode cX7_readPair 15 = .ok (.invokevirtual 159, 3) := by decide +kernel
theorem dX7_readPair_18 : decode cX7_readPair 18 = .ok (.istore_n 3, 1) := by decide +kernel
theorem dX7_readPair_19 : decode cX7_readPair 19 = .ok (.iload_n 2, 1) := by decide +kernel
theorem dX7_readPair_20 : decode cX7_readPair 20 = .ok (.iconst 3, 1) := by decide +kernel
theorem dX7_readPair_21 : decode cX7_readPair 21 = .ok (.if_icmp .lt 9, 3) := by decide +kernel
theorem dX7_readPair_24 : decode cX7_readPair 24 = .ok (.aload_n 0, 1) := by decide +kernel
theorem dX7_readPair_25 : decode cX7_readPair 25 = .ok (.iconst 5, 1) := by decide +kernel
theorem dX7_readPair_26 : decode cX7_readPair 26 = .ok (.invokevirtual 88, 3) := by decide +kernel
theorem dX7_readPair_29 : decode cX7_readPair 29 = .ok (.pop, 1) := by decide +kernel
theorem dX7_readPair_30 : decode cX7_readPair 30 = .ok (.aload_n 0, 1) := by decide +kernel
theorem dX7_readPair_31 : decode cX7_readPair 31 = .ok (.getfield 45, 3) := by decide +kernel
theorem dX7_readPair_34 : decode cX7_readPair 34 = .ok (.ifCond .eq 4, 3) := by decide +kernel
theorem dX7_readPair_37 : decode cX7_readPair 37 = .ok (.return_, 1) := by decide +kernel
theorem dX7_readPair_38 : decode cX7_readPair 38 = .ok (.aload_n 0, 1) := by decide +kernel
theorem dX7_readPair_39 : decode cX7_readPair 39 = .ok (.invokevirtual 56, 3) := by decide +kernel
theorem dX7_readPair_42 : decode cX7_readPair 42 = .ok (.aload_n 0, 1) := by decide +kernel
theorem dX7_readPair_43 : decode cX7_readPair 43 = .ok (.iconst 1, 1) := by decide +kernel
theorem dX7_readPair_44 : decode cX7_readPair 44 = .ok (.invokevirtual 159, 3) := by decide +kernel
theorem dX7_readPair_47 : decode cX7_readPair 47 = .ok (.istore 4, 2) := by decide +kernel
theorem dX7_readPair_49 : decode cX7_readPair 49 = .ok (.iload 4, 2) := by decide +kernel
theorem dX7_readPair_51 : decode cX7_readPair 51 = .ok (.iload_n 3, 1) := by decide +kernel
theorem dX7_readPair_52 : decode cX7_readPair 52 = .ok (.if_icmp .ne 9, 3) := by decide +kernel
theorem dX7_readPair_55 : decode cX7_readPair 55 = .ok (.aload_n 0, 1) := by decide +kernel
theorem dX7_readPair_56 : decode cX7_readPair 56 = .ok (.iconst 3, 1) := by decide +kernel
theorem dX7_readPair_57 : decode cX7_readPair 57 = .ok (.invokevirtual 88, 3) := by decide +kernel
theorem dX7_readPair_60 : decode cX7_readPair 60 = .ok (.pop, 1) := by decide +kernel
theorem dX7_readPair_61 : decode cX7_readPair 61 = .ok (.aload_n 0, 1) := by decide +kernel
theorem dX7_readPair_62 : decode cX7_readPair 62 = .ok (.getfield 45, 3) := by decide +kernel
theorem dX7_readPair_65 : decode cX7_readPair 65 = .ok (.ifCond .eq 4, 3) := by decide +kernel
theorem dX7_readPair_68 : decode cX7_readPair 68 = .ok (.return_, 1) := by decide +kernel
theorem dX7_readPair_69 : decode cX7_readPair 69 = .ok (.aload_n 0, 1) := by decide +kernel
theorem dX7_readPair_70 : decode cX7_readPair 70 = .ok (.invokevirtual 56, 3) := by decide +kernel
theorem dX7_readPair_73 : decode cX7_readPair 73 = .ok (.aload_n 1, 1) := by decide +kernel
theorem dX7_readPair_74 : decode cX7_readPair 74 = .ok (.getfield 162, 3) := by decide +kernel
theorem dX7_readPair_77 : decode cX7_readPair 77 = .ok (.iload_n 2, 1) := by decide +kernel
theorem dX7_readPair_78 : decode cX7_readPair 78 = .ok (.iload_n 3, 1) := by decide +kernel
theorem dX7_readPair_79 : decode cX7_readPair 79 = .ok (.iastore, 1) := by decide +kernel
theorem dX7_readPair_80 : decode cX7_readPair 80 = .ok (.aload_n 1, 1) := by decide +kernel
theorem dX7_readPair_81 : decode cX7_readPair 81 = .ok (.getfield 165, 3) := by decide +kernel
theorem dX7_readPair_84 : decode cX7_readPair 84 = .ok (.iload_n 2, 1) := by decide +kernel
theorem dX7_readPair_85 : decode cX7_readPair 85 = .ok (.iload 4, 2) := by decide +kernel
theorem dX7_readPair_87 : decode cX7_readPair 87 = .ok (.iastore, 1) := by decide +kernel
theorem dX7_readPair_88 : decode cX7_readPair 88 = .ok (.aload_n 1, 1) := by decide +kernel
theorem dX7_readPair_89 : decode cX7_readPair 89 = .ok (.dup, 1) := by decide +kernel
theorem dX7_readPair_90 : decode cX7_readPair 90 = .ok (.getfield 156, 3) := by decide +kernel
theorem dX7_readPair_93 : decode cX7_readPair 93 = .ok (.iconst 1, 1) := by decide +kernel
theorem dX7_readPair_94 : decode cX7_readPair 94 = .ok (.iadd, 1) := by decide +kernel
theorem dX7_readPair_95 : decode cX7_readPair 95 = .ok (.putfield 156, 3) := by decide +kernel
theorem dX7_readPair_98 : decode cX7_readPair 98 = .ok (.return_, 1) := by decide +kernel
theorem dX7_readWay_0 : decode cX7_readWay 0 = .ok (.aload_n 0, 1) := by decide +kernel
theorem dX7_readWay_1 : decode cX7_readWay 1 = .ok (.iconst 0, 1) := by decide +kernel
theorem dX7_readWay_2 : decode cX7_readWay 2 = .ok (.aload_n 0, 1) := by decide +kernel
theorem dX7_readWay_3 : decode cX7_readWay 3 = .ok (.getfield 28, 3) := by decide +kernel
theorem dX7_readWay_6 : decode cX7_readWay 6 = .ok (.getfield 95, 3) := by decide +kernel
theorem dX7_readWay_9 : decode cX7_readWay 9 = .ok (.bipush 14, 2) := by decide +kernel
theorem dX7_readWay_11 : decode cX7_readWay 11 = .ok (.invokevirtual 98, 3) := by decide +kernel
theorem dX7_readWay_14 : decode cX7_readWay 14 = .ok (.istore_n 1, 1) := by decide +kernel
theorem dX7_readWay_15 : decode cX7_readWay 15 = .ok (.aload_n 0, 1) := by decide +kernel
theorem dX7_readWay_16 : decode cX7_readWay 16 = .ok (.iconst (-1), 1) := by decide +kernel
theorem dX7_readWay_17 : decode cX7_readWay 17 = .ok (.invokevirtual 102, 3) := by decide +kernel
theorem dX7_readWay_20 : decode cX7_readWay 20 = .ok (.istore_n 2, 1) := by decide +kernel
theorem dX7_readWay_21 : decode cX7_readWay 21 = .ok (.aload_n 0, 1) := by decide +kernel
theorem dX7_readWay_22 : decode cX7_readWay 22 = .ok (.iload_n 2, 1) := by decide +kernel
theorem dX7_readWay_23 : decode cX7_readWay 23 = .ok (.invokevirtual 102, 3) := by decide +kernel
theorem dX7_readWay_26 : decode cX7_readWay 26 = .ok (.istore_n 3, 1) := by decide +kernel
theorem dX7_readWay_27 : decode cX7_readWay 27 = .ok (.aload_n 0, 1) := by decide +kernel
theorem dX7_readWay_28 : decode cX7_readWay 28 = .ok (.ldc 106, 2) := by decide +kernel
theorem dX7_readWay_30 : decode cX7_readWay 30 = .ok (.iconst 1, 1) := by decide +kernel
theorem dX7_readWay_31 : decode cX7_readWay 31 = .ok (.bipush 99, 2) := by decide +kernel
theorem dX7_readWay_33 : decode cX7_readWay 33 = .ok (.invokevirtual 108, 3) := by decide +kernel
theorem dX7_readWay_36 : decode cX7_readWay 36 = .ok (.istore 4, 2) := by decide +kernel
theorem dX7_readWay_38 : decode cX7_readWay 38 = .ok (.aload_n 0, 1) := by decide +kernel
theorem dX7_readWay_39 : decode cX7_readWay 39 = .ok (.ldc 112, 2) := by decide +kernel
theorem dX7_readWay_41 : decode cX7_readWay 41 = .ok (.iconst 1, 1) := by decide +kernel
theorem dX7_readWay_42 : decode cX7_readWay 42 = .ok (.sipush 999, 3) := by decide +kernel
theorem dX7_readWay_45 : decode cX7_readWay 45 = .ok (.invokevirtual 108, 3) := by decide +kernel
theorem dX7_readWay_48 : decode cX7_readWay 48 = .ok (.istore 5, 2) := by decide +kernel
theorem dX7_readWay_50 : decode cX7_readWay 50 = .ok (.aload_n 0, 1) := by decide +kernel
theorem dX7_readWay_51 : decode cX7_readWay 51 = .ok (.ldc 114, 2) := by decide +kernel
theorem dX7_readWay_53 : decode cX7_readWay 53 = .ok (.iconst 1, 1) := by decide +kernel
theorem dX7_readWay_54 : decode cX7_readWay 54 = .ok (.bipush 99, 2) := by decide +kernel
theorem dX7_readWay_56 : decode cX7_readWay 56 = .ok (.invokevirtual 108, 3) := by decide +kernel
theorem dX7_readWay_59 : decode cX7_readWay 59 = .ok (.istore 6, 2) := by decide +kernel
theorem dX7_readWay_61 : decode cX7_readWay 61 = .ok (.aload_n 0, 1) := by decide +kernel
theorem dX7_readWay_62 : decode cX7_readWay 62 = .ok (.invokevirtual 116, 3) := by decide +kernel
theorem dX7_readWay_65 : decode cX7_readWay 65 = .ok (.istore 7, 2) := by decide +kernel
theorem dX7_readWay_67 : decode cX7_readWay 67 = .ok (.aload_n 0, 1) := by decide +kernel
theorem dX7_readWay_68 : decode cX7_readWay 68 = .ok (.getfield 45, 3) := by decide +kernel
theorem dX7_readWay_71 : decode cX7_readWay 71 = .ok (.ifCond .eq 4, 3) := by decide +kernel
theorem dX7_readWay_74 : decode cX7_readWay 74 = .ok (.return_, 1) := by decide +kernel
theorem dX7_readWay_75 : decode cX7_readWay 75 = .ok (.aload_n 0, 1) := by decide +kernel
theorem dX7_readWay_76 : decode cX7_readWay 76 = .ok (.getfield 28, 3) := by decide +kernel
theorem dX7_readWay_79 : decode cX7_readWay 79 = .ok (.getfield 120, 3) := by decide +kernel
theorem dX7_readWay_82 : decode cX7_readWay 82 = .ok (.iload_n 1, 1) := by decide +kernel
theorem dX7_readWay_83 : decode cX7_readWay 83 = .ok (.iload_n 2, 1) := by decide +kernel
theorem dX7_readWay_84 : decode cX7_readWay 84 = .ok (.iastore, 1) := by decide +kernel
theorem dX7_readWay_85 : decode cX7_readWay 85 = .ok (.aload_n 0, 1) := by decide +kernel
theorem dX7_readWay_86 : decode cX7_readWay 86 = .ok (.getfield 28, 3) := by decide +kernel
theorem dX7_readWay_89 : decode cX7_readWay 89 = .ok (.getfield 123, 3) := by decide +kernel
theorem dX7_readWay_92 : decode cX7_readWay 92 = .ok (.iload_n 1, 1) := by decide +kernel
theorem dX7_readWay_93 : decode cX7_readWay 93 = .ok (.iload_n 3, 1) := by decide +kernel
theorem dX7_readWay_94 : decode cX7_readWay 94 = .ok (.iastore, 1) := by decide +kernel
theorem dX7_readWay_95 : decode cX7_readWay 95 = .ok (.aload_n 0, 1) := by decide +kernel
theorem dX7_readWay_96 : decode cX7_readWay 96 = .ok (.getfield 28, 3) := by decide +kernel
theorem dX7_readWay_99 : decode cX7_readWay 99 = .ok (.getfield 126, 3) := by decide +kernel
theorem dX7_readWay_102 : decode cX7_readWay 102 = .ok (.iload_n 1, 1) := by decide +kernel
theorem dX7_readWay_103 : decode cX7_readWay 103 = .ok (.iload 4, 2) := by decide +kernel
theorem dX7_readWay_105 : decode cX7_readWay 105 = .ok (.iastore, 1) := by decide +kernel
theorem dX7_readWay_106 : decode cX7_readWay 106 = .ok (.aload_n 0, 1) := by decide +kernel
theorem dX7_readWay_107 : decode cX7_readWay 107 = .ok (.getfield 28, 3) := by decide +kernel
theorem dX7_readWay_110 : decode cX7_readWay 110 = .ok (.getfield 128, 3) := by decide +kernel
theorem dX7_readWay_113 : decode cX7_readWay 113 = .ok (.iload_n 1, 1) := by decide +kernel
theorem dX7_readWay_114 : decode cX7_readWay 114 = .ok (.iload 5, 2) := by decide +kernel
theorem dX7_readWay_116 : decode cX7_readWay 116 = .ok (.iastore, 1) := by decide +kernel
theorem dX7_readWay_117 : decode cX7_readWay 117 = .ok (.aload_n 0, 1) := by decide +kernel
theorem dX7_readWay_118 : decode cX7_readWay 118 = .ok (.getfield 28, 3) := by decide +kernel
theorem dX7_readWay_121 : decode cX7_readWay 121 = .ok (.getfield 130, 3) := by decide +kernel
theorem dX7_readWay_124 : decode cX7_readWay 124 = .ok (.iload_n 1, 1) := by decide +kernel
theorem dX7_readWay_125 : decode cX7_readWay 125 = .ok (.iload 6, 2) := by decide +kernel
theorem dX7_readWay_127 : decode cX7_readWay 127 = .ok (.iastore, 1) := by decide +kernel
theorem dX7_readWay_128 : decode cX7_readWay 128 = .ok (.aload_n 0, 1) := by decide +kernel
theorem dX7_readWay_129 : decode cX7_readWay 129 = .ok (.getfield 28, 3) := by decide +kernel
theorem dX7_readWay_132 : decode cX7_readWay 132 = .ok (.getfield 132, 3) := by decide +kernel
theorem dX7_readWay_135 : decode cX7_readWay 135 = .ok (.iload_n 1, 1) := by decide +kernel
theorem dX7_readWay_136 : decode cX7_readWay 136 = .ok (.iload 7, 2) := by decide +kernel
theorem dX7_readWay_138 : decode cX7_readWay 138 = .ok (.iastore, 1) := by decide +kernel
theorem dX7_readWay_139 : decode cX7_readWay 139 = .ok (.aload_n 0, 1) := by decide +kernel
theorem dX7_readWay_140 : decode cX7_readWay 140 = .ok (.getfield 28, 3) := by decide +kernel
theorem dX7_readWay_143 : decode cX7_readWay 143 = .ok (.dup, 1) := by decide +kernel
theorem dX7_readWay_144 : decode cX7_readWay 144 = .ok (.getfield 95, 3) := by decide +kernel
theorem dX7_readWay_147 : decode cX7_readWay 147 = .ok (.iconst 1, 1) := by decide +kernel
theorem dX7_readWay_148 : decode cX7_readWay 148 = .ok (.iadd, 1) := by decide +kernel
theorem dX7_readWay_149 : decode cX7_readWay 149 = .ok (.putfield 95, 3) := by decide +kernel
theorem dX7_readWay_152 : decode cX7_readWay 152 = .ok (.return_, 1) := by decide +kernel
set_option maxHeartbeats 4000000 in
set_option maxRecDepth 100000 in
theorem c0_clear (l : Launch) (dC : Nat → ClassId) (dI : Nat → Nat → Nat) (n0 : Nat) (atx : Nat → Nat × Nat) (sz : Nat) (bk : Nat) (bw : Nat) (bk_tail : Nat) (bk_head : Nat) (bk_hinder : Nat) (bk_size : Nat) (bk_walk : Nat) (bk_draught : Nat) (bk_doorIn : Nat) (bk_fanIn : Nat) (bk_faceIn : Nat) (bn : Nat) (bk_day : Int32) (gr : Nat) (gd : Nat) (gr_doorBy : Nat) (gp : Nat) (gr_pairFirst : Nat) (gr_pairSecond : Nat) (gf : Nat) (gr_fanPush : Nat) (gr_fanFall : Nat) (gr_fanCost : Nat) (ge : Nat) (gr_faceWay : Nat) (gr_faceGas : Nat) (gr_faceNeed : Nat) (k_bk_doorIn : ClassId) (f_bk_doorIn : Nat → Int32) (k_bk_fanIn : ClassId) (f_bk_fanIn : Nat → Int32) (k_bk_faceIn : ClassId) (f_bk_faceIn : Nat → Int32) (hbw : bw ≤ 14) (hbn : bn ≤ 10) (hgd : gd ≤ 6) (hgp : gp ≤ 3) (hgf : gf ≤ 4) (hge : ge ≤ 4) (q_day : -1 ≤ bk_day.toInt ∧ bk_day.toInt < 10) (q_doorIn : rg f_bk_doorIn 14 (-1) 6) (q_fanIn : rg f_bk_fanIn 14 (-1) 4) (q_faceIn : rg f_bk_faceIn 14 (-1) 4) : Met l yX0_clear (wM yX0_clear cX0_clear 1 none) ({ frames := 1, cells := 0, slots := 0, locals := 23 }) (va_Pc [.ref bk] (fun U => U.heap.size = sz ∧ n0 ≤ sz ∧ GW n0 atx U ∧ va_P (dC, dI) classes [(bk, .inr (0, [.int (nI bw), .ref bk_tail, .ref bk_head, .ref bk_hinder, .ref bk_size, .ref bk_walk, .ref bk_draught, .ref bk_doorIn, .ref bk_fanIn, .ref bk_faceIn, .int (nI bn), .int bk_day, .ref gr])), (gr, .inr (3, [.int (nI gd), .ref gr_doorBy, .int (nI gp), .ref gr_pairFirst, .ref gr_pairSecond, .int (nI gf), .ref gr_fanPush, .ref gr_fanFall, .ref gr_fanCost, .int (nI ge), .ref gr_faceWay, .ref gr_faceGas, .ref gr_faceNeed])), (bk_doorIn, .inl (k_bk_doorIn, 14, .inl f_bk_doorIn)), (bk_fanIn, .inl (k_bk_fanIn, 14, .inl f_bk_fanIn)), (bk_faceIn, .inl (k_bk_faceIn, 14, .inl f_bk_faceIn))] U.heap ∧ va_K (dC, dI) classes [(k_bk_doorIn, .int), (k_bk_fanIn, .int), (k_bk_faceIn, .int)] U ∧ va_D (fun q => n0 ≤ q) [(bk, .inr (0, [.int (nI bw), .ref bk_tail, .ref bk_head, .ref bk_hinder, .ref bk_size, .ref bk_walk, .ref bk_draught, .ref bk_doorIn, .ref bk_fanIn, .ref bk_faceIn, .int (nI bn), .int bk_day, .ref gr])), (gr, .inr (3, [.int (nI gd), .ref gr_doorBy, .int (nI gp), .ref gr_pairFirst, .ref gr_pairSecond, .int (nI gf), .ref gr_fanPush, .ref gr_fanFall, .ref gr_fanCost, .int (nI ge), .ref gr_faceWay, .ref gr_faceGas, .ref gr_faceNeed])), (bk_doorIn, .inl (k_bk_doorIn, 14, .inl f_bk_doorIn)), (bk_fanIn, .inl (k_bk_fanIn, 14, .inl f_bk_fanIn)), (bk_faceIn, .inl (k_bk_faceIn, 14, .inl f_bk_faceIn))])) (va_Qv (fun _ : Unit => True) (fun (_ : Unit) (t : State) => ∃ (di9 : Nat → Int32), ∃ (fi9 : Nat → Int32), ∃ (fc9 : Nat → Int32), (∀ j, j < 14 → di9 j = -1) ∧ (∀ j, j < 14 → fi9 j = -1) ∧ (∀ j, j < 14 → fc9 j = -1) ∧ va_P (dC, dI) classes [(bk, .inr (0, [.int 0, .ref bk_tail, .ref bk_head, .ref bk_hinder, .ref bk_size, .ref bk_walk, .ref bk_draught, .ref bk_doorIn, .ref bk_fanIn, .ref bk_faceIn, .int 0, .int (-1), .ref gr])), (gr, .inr (3, [.int 0, .ref gr_doorBy, .int 0, .ref gr_pairFirst, .ref gr_pairSecond, .int 0, .ref gr_fanPush, .ref gr_fanFall, .ref gr_fanCost, .int 0, .ref gr_faceWay, .ref gr_faceGas, .ref gr_faceNeed])), (bk_doorIn, .inl (k_bk_doorIn, 14, .inl di9)), (bk_fanIn, .inl (k_bk_fanIn, 14, .inl fi9)), (bk_faceIn, .inl (k_bk_faceIn, 14, .inl fc9))] t.heap ∧ va_K (dC, dI) classes [(k_bk_doorIn, .int), (k_bk_fanIn, .int), (k_bk_faceIn, .int)] t ∧ va_D (va_A [(bk, .inr (0, [.int (nI bw), .ref bk_tail, .ref bk_head, .ref bk_hinder, .ref bk_size, .ref bk_walk, .ref bk_draught, .ref bk_doorIn, .ref bk_fanIn, .ref bk_faceIn, .int (nI bn), .int bk_day, .ref gr])), (gr, .inr (3, [.int (nI gd), .ref gr_doorBy, .int (nI gp), .ref gr_pairFirst, .ref gr_pairSecond, .int (nI gf), .ref gr_fanPush, .ref gr_fanFall, .ref gr_fanCost, .int (nI ge), .ref gr_faceWay, .ref gr_faceGas, .ref gr_faceNeed])), (bk_doorIn, .inl (k_bk_doorIn, 14, .inl f_bk_doorIn)), (bk_fanIn, .inl (k_bk_fanIn, 14, .inl f_bk_fanIn)), (bk_faceIn, .inl (k_bk_faceIn, 14, .inl f_bk_faceIn))] sz) [(bk, .inr (0, [.int 0, .ref bk_tail, .ref bk_head, .ref bk_hinder, .ref bk_size, .ref bk_walk, .ref bk_draught, .ref bk_doorIn, .ref bk_fanIn, .ref bk_faceIn, .int 0, .int (-1), .ref gr])), (gr, .inr (3, [.int 0, .ref gr_doorBy, .int 0, .ref gr_pairFirst, .ref gr_pairSecond, .int 0, .ref gr_fanPush, .ref gr_fanFall, .ref gr_fanCost, .int 0, .ref gr_faceWay, .ref gr_faceGas, .ref gr_faceNeed])), (bk_doorIn, .inl (k_bk_doorIn, 14, .inl di9)), (bk_fanIn, .inl (k_bk_fanIn, 14, .inl fi9)), (bk_faceIn, .inl (k_bk_faceIn, 14, .inl fc9))]) (va_A [(bk, .inr (0, [.int (nI bw), .ref bk_tail, .ref bk_head, .ref bk_hinder, .ref bk_size, .ref bk_walk, .ref bk_draught, .ref bk_doorIn, .ref bk_fanIn, .ref bk_faceIn, .int (nI bn), .int bk_day, .ref gr])), (gr, .inr (3, [.int (nI gd), .ref gr_doorBy, .int (nI gp), .ref gr_pairFirst, .ref gr_pairSecond, .int (nI gf), .ref gr_fanPush, .ref gr_fanFall, .ref gr_fanCost, .int (nI ge), .ref gr_faceWay, .ref gr_faceGas, .ref gr_faceNeed])), (bk_doorIn, .inl (k_bk_doorIn, 14, .inl f_bk_doorIn)), (bk_fanIn, .inl (k_bk_fanIn, 14, .inl f_bk_fanIn)), (bk_faceIn, .inl (k_bk_faceIn, 14, .inl f_bk_faceIn))] sz)) 0 0 (va_A [(bk, .inr (0, [.int (nI bw), .ref bk_tail, .ref bk_head, .ref bk_hinder, .ref bk_size, .ref bk_walk, .ref bk_draught, .ref bk_doorIn, .ref bk_fanIn, .ref bk_faceIn, .int (nI bn), .int bk_day, .ref gr])), (gr, .inr (3, [.int (nI gd), .ref gr_doorBy, .int (nI gp), .ref gr_pairFirst, .ref gr_pairSecond, .int (nI gf), .ref gr_fanPush, .ref gr_fanFall, .ref gr_fanCost, .int (nI ge), .ref gr_faceWay, .ref gr_faceGas, .ref gr_faceNeed])), (bk_doorIn, .inl (k_bk_doorIn, 14, .inl f_bk_doorIn)), (bk_fanIn, .inl (k_bk_fanIn, 14, .inl f_bk_fanIn)), (bk_faceIn, .inl (k_bk_faceIn, 14, .inl f_bk_faceIn))] sz) := by
  refine Met.ofW (cc := cX0_clear) (maxL := 1) (ret := none) (by decide) rfl ?_
  intro p e s m args below meth c s₁ B hml hv
  obtain ⟨rfl, hsz, hn0, hG, hP, hK, hD0⟩ := hv
  have hx := B.exec
  have hb := B.bytes
  have hr := B.returns
  have hts := atoms_spec (ws := wM yX0_clear cX0_clear 1 none) B.pre
  have hown : s.vm.findClass RX0 = some m.cls := findClass_of_methodNamed B.named
  have hlocks := B.notSynchronized
  subst hsz
  have hD := hD0.self (sz := s.heap.size)
  have hA0 := vA_n0 hD0 hn0
  generalize hAe : va_A [(bk, .inr (0, [.int (nI bw), .ref bk_tail, .ref bk_head, .ref bk_hinder, .ref bk_size, .ref bk_walk, .ref bk_draught, .ref bk_doorIn, .ref bk_fanIn, .ref bk_faceIn, .int (nI bn), .int bk_day, .ref gr])), (gr, .inr (3, [.int (nI gd), .ref gr_doorBy, .int (nI gp), .ref gr_pairFirst, .ref gr_pairSecond, .int (nI gf), .ref gr_fanPush, .ref gr_fanFall, .ref gr_fanCost, .int (nI ge), .ref gr_faceWay, .ref gr_faceGas, .ref gr_faceNeed])), (bk_doorIn, .inl (k_bk_doorIn, 14, .inl f_bk_doorIn)), (bk_fanIn, .inl (k_bk_fanIn, 14, .inl f_bk_fanIn)), (bk_faceIn, .inl (k_bk_faceIn, 14, .inl f_bk_faceIn))] s.heap.size = A at hD hA0 ⊢
  have hA : ∀ q : Nat, s.heap.size ≤ q → A q := fun q h => by rw [← hAe]; exact Or.inr h
  have hS : va_S A s.heap s.heap [] := va_S.rf
  have hl := lv_entry ([.ref bk]) (n := 1) (Nat.le_of_ble_eq_true rfl)
  rw [lg_entry_eq]
  generalize (lg_sl ([.ref bk]) ++ List.replicate (1 - (lg_sl ([.ref bk])).length) Slot.unset).toArray = ls at hl ⊢
  have hl : lv_has ls 1 [(0, .ref bk)] := hl
  refine lv_aload_n hx hb dX0_clear_0 rfl (lv_at hl 0 rfl) ?_
  refine lv_iconst (v := 0) hx hb dX0_clear_1 (by decide) ?_
  refine va_put (D := (dC, dI)) (ci := 0) (v := .int 0) (ty := .int) (C := RX0) (T := TX0) (N := 13) hx hb hts (fun w h => wM_c (iX0 w h)) tyX0 tyX0_ok nmX0 hown hK hP hD hS 0 rfl rfl 0 (by decide) (hts _ (wM_c wd_238)) (fun _ h9 => h9) rfl (by decide +kernel) rfl rfl (Nat.le_of_ble_eq_true rfl) dX0_clear_2 (fun H locs hP hD hS => ?_)
  obtain ⟨hP, hD⟩ : s3_w (dC, dI) classes A [(bk, .inr (0, [.int 0, .ref bk_tail, .ref bk_head, .ref bk_hinder, .ref bk_size, .ref bk_walk, .ref bk_draught, .ref bk_doorIn, .ref bk_fanIn, .ref bk_faceIn, .int (nI bn), .int bk_day, .ref gr])), (gr, .inr (3, [.int (nI gd), .ref gr_doorBy, .int (nI gp), .ref gr_pairFirst, .ref gr_pairSecond, .int (nI gf), .ref gr_fanPush, .ref gr_fanFall, .ref gr_fanCost, .int (nI ge), .ref gr_faceWay, .ref gr_faceGas, .ref gr_faceNeed])), (bk_doorIn, .inl (k_bk_doorIn, 14, .inl f_bk_doorIn)), (bk_fanIn, .inl (k_bk_fanIn, 14, .inl f_bk_fanIn)), (bk_faceIn, .inl (k_bk_faceIn, 14, .inl f_bk_faceIn))] H := ⟨hP, hD⟩
  refine lv_aload_n hx hb dX0_clear_5 rfl (lv_at hl 0 rfl) ?_
  refine lv_iconst (v := 0) hx hb dX0_clear_6 (by decide) ?_
  refine va_put (D := (dC, dI)) (ci := 0) (v := .int 0) (ty := .int) (C := RX0) (T := TX0) (N := 13) hx hb hts (fun w h => wM_c (iX0 w h)) tyX0 tyX0_ok nmX0 hown hK hP hD hS 0 rfl rfl 10 (by decide) (hts _ (wM_c wd_283)) (fun _ h9 => h9) rfl (by decide +kernel) rfl rfl (Nat.le_of_ble_eq_true rfl) dX0_clear_7 (fun H locs hP hD hS => ?_)
  obtain ⟨hP, hD⟩ : s3_w (dC, dI) classes A [(bk, .inr (0, [.int 0, .ref bk_tail, .ref bk_head, .ref bk_hinder, .ref bk_size, .ref bk_walk, .ref bk_draught, .ref bk_doorIn, .ref bk_fanIn, .ref bk_faceIn, .int 0, .int bk_day, .ref gr])), (gr, .inr (3, [.int (nI gd), .ref gr_doorBy, .int (nI gp), .ref gr_pairFirst, .ref gr_pairSecond, .int (nI gf), .ref gr_fanPush, .ref gr_fanFall, .ref gr_fanCost, .int (nI ge), .ref gr_faceWay, .ref gr_faceGas, .ref gr_faceNeed])), (bk_doorIn, .inl (k_bk_doorIn, 14, .inl f_bk_doorIn)), (bk_fanIn, .inl (k_bk_fanIn, 14, .inl f_bk_fanIn)), (bk_faceIn, .inl (k_bk_faceIn, 14, .inl f_bk_faceIn))] H := ⟨hP, hD⟩
  refine lv_aload_n hx hb dX0_clear_10 rfl (lv_at hl 0 rfl) ?_
  refine lv_iconst (v := (-1)) hx hb dX0_clear_11 (by decide) ?_
  refine va_put (D := (dC, dI)) (ci := 0) (v := .int (-1)) (ty := .int) (C := RX0) (T := TX0) (N := 13) hx hb hts (fun w h => wM_c (iX0 w h)) tyX0 tyX0_ok nmX0 hown hK hP hD hS 0 rfl rfl 11 (by decide) (hts _ (wM_c wd_288)) (fun _ h9 => h9) rfl (by decide +kernel) rfl rfl (Nat.le_of_ble_eq_true rfl) dX0_clear_12 (fun H locs hP hD hS => ?_)
  obtain ⟨hP, hD⟩ : s3_w (dC, dI) classes A [(bk, .inr (0, [.int 0, .ref bk_tail, .ref bk_head, .ref bk_hinder, .ref bk_size, .ref bk_walk, .ref bk_draught, .ref bk_doorIn, .ref bk_fanIn, .ref bk_faceIn, .int 0, .int (-1), .ref gr])), (gr, .inr (3, [.int (nI gd), .ref gr_doorBy, .int (nI gp), .ref gr_pairFirst, .ref gr_pairSecond, .int (nI gf), .ref gr_fanPush, .ref gr_fanFall, .ref gr_fanCost, .int (nI ge), .ref gr_faceWay, .ref gr_faceGas, .ref gr_faceNeed])), (bk_doorIn, .inl (k_bk_doorIn, 14, .inl f_bk_doorIn)), (bk_fanIn, .inl (k_bk_fanIn, 14, .inl f_bk_fanIn)), (bk_faceIn, .inl (k_bk_faceIn, 14, .inl f_bk_faceIn))] H := ⟨hP, hD⟩
  refine lv_aload_n hx hb dX0_clear_15 rfl (lv_at hl 0 rfl) ?_
  refine va_get (D := (dC, dI)) (ci := 0) (v := .ref gr) (C := RX0) (T := TX0) (N := 13) hx hb hts (fun w h => wM_c (iX0 w h)) hown hK hP 0 rfl rfl 12 (by decide) (hts _ (wM_c wd_293)) (fun _ h9 => h9) rfl dX0_clear_16 ?_
  refine lv_iconst (v := 0) hx hb dX0_clear_19 (by decide) ?_
  refine va_put (D := (dC, dI)) (ci := 3) (v := .int 0) (ty := .int) (C := RX3) (T := TX3) (N := 13) hx hb hts (fun w h => wM_c (iX3 w h)) tyX3 tyX3_ok nmX3 hown hK hP hD hS 1 rfl rfl 0 (by decide) (hts _ (wM_c wd_161)) (fun _ h9 => h9) rfl (by decide +kernel) rfl rfl (Nat.le_of_ble_eq_true rfl) dX0_clear_20 (fun H locs hP hD hS => ?_)
  obtain ⟨hP, hD⟩ : s3_w (dC, dI) classes A [(bk, .inr (0, [.int 0, .ref bk_tail, .ref bk_head, .ref bk_hinder, .ref bk_size, .ref bk_walk, .ref bk_draught, .ref bk_doorIn, .ref bk_fanIn, .ref bk_faceIn, .int 0, .int (-1), .ref gr])), (gr, .inr (3, [.int 0, .ref gr_doorBy, .int (nI gp), .ref gr_pairFirst, .ref gr_pairSecond, .int (nI gf), .ref gr_fanPush, .ref gr_fanFall, .ref gr_fanCost, .int (nI ge), .ref gr_faceWay, .ref gr_faceGas, .ref gr_faceNeed])), (bk_doorIn, .inl (k_bk_doorIn, 14, .inl f_bk_doorIn)), (bk_fanIn, .inl (k_bk_fanIn, 14, .inl f_bk_fanIn)), (bk_faceIn, .inl (k_bk_faceIn, 14, .inl f_bk_faceIn))] H := ⟨hP, hD⟩
  refine lv_aload_n hx hb dX0_clear_23 rfl (lv_at hl 0 rfl) ?_
  refine va_get (D := (dC, dI)) (ci := 0) (v := .ref gr) (C := RX0) (T := TX0) (N := 13) hx hb hts (fun w h => wM_c (iX0 w h)) hown hK hP 0 rfl rfl 12 (by decide) (hts _ (wM_c wd_293)) (fun _ h9 => h9) rfl dX0_clear_24 ?_
  refine lv_iconst (v := 0) hx hb dX0_clear_27 (by decide) ?_
  refine va_put (D := (dC, dI)) (ci := 3) (v := .int 0) (ty := .int) (C := RX3) (T := TX3) (N := 13) hx hb hts (fun w h => wM_c (iX3 w h)) tyX3 tyX3_ok nmX3 hown hK hP hD hS 1 rfl rfl 2 (by decide) (hts _ (wM_c wd_168)) (fun _ h9 => h9) rfl (by decide +kernel) rfl rfl (Nat.le_of_ble_eq_true rfl) dX0_clear_28 (fun H locs hP hD hS => ?_)
  obtain ⟨hP, hD⟩ : s3_w (dC, dI) classes A [(bk, .inr (0, [.int 0, .ref bk_tail, .ref bk_head, .ref bk_hinder, .ref bk_size, .ref bk_walk, .ref bk_draught, .ref bk_doorIn, .ref bk_fanIn, .ref bk_faceIn, .int 0, .int (-1), .ref gr])), (gr, .inr (3, [.int 0, .ref gr_doorBy, .int 0, .ref gr_pairFirst, .ref gr_pairSecond, .int (nI gf), .ref gr_fanPush, .ref gr_fanFall, .ref gr_fanCost, .int (nI ge), .ref gr_faceWay, .ref gr_faceGas, .ref gr_faceNeed])), (bk_doorIn, .inl (k_bk_doorIn, 14, .inl f_bk_doorIn)), (bk_fanIn, .inl (k_bk_fanIn, 14, .inl f_bk_fanIn)), (bk_faceIn, .inl (k_bk_faceIn, 14, .inl f_bk_faceIn))] H := ⟨hP, hD⟩
  refine lv_aload_n hx hb dX0_clear_31 rfl (lv_at hl 0 rfl) ?_
  refine va_get (D := (dC, dI)) (ci := 0) (v := .ref gr) (C := RX0) (T := TX0) (N := 13) hx hb hts (fun w h => wM_c (iX0 w h)) hown hK hP 0 rfl rfl 12 (by decide) (hts _ (wM_c wd_293)) (fun _ h9 => h9) rfl dX0_clear_32 ?_
  refine lv_iconst (v := 0) hx hb dX0_clear_35 (by decide) ?_
  refine va_put (D := (dC, dI)) (ci := 3) (v := .int 0) (ty := .int) (C := RX3) (T := TX3) (N := 13) hx hb hts (fun w h => wM_c (iX3 w h)) tyX3 tyX3_ok nmX3 hown hK hP hD hS 1 rfl rfl 5 (by decide) (hts _ (wM_c wd_178)) (fun _ h9 => h9) rfl (by decide +kernel) rfl rfl (Nat.le_of_ble_eq_true rfl) dX0_clear_36 (fun H locs hP hD hS => ?_)
  obtain ⟨hP, hD⟩ : s3_w (dC, dI) classes A [(bk, .inr (0, [.int 0, .ref bk_tail, .ref bk_head, .ref bk_hinder, .ref bk_size, .ref bk_walk, .ref bk_draught, .ref bk_doorIn, .ref bk_fanIn, .ref bk_faceIn, .int 0, .int (-1), .ref gr])), (gr, .inr (3, [.int 0, .ref gr_doorBy, .int 0, .ref gr_pairFirst, .ref gr_pairSecond, .int 0, .ref gr_fanPush, .ref gr_fanFall, .ref gr_fanCost, .int (nI ge), .ref gr_faceWay, .ref gr_faceGas, .ref gr_faceNeed])), (bk_doorIn, .inl (k_bk_doorIn, 14, .inl f_bk_doorIn)), (bk_fanIn, .inl (k_bk_fanIn, 14, .inl f_bk_fanIn)), (bk_faceIn, .inl (k_bk_faceIn, 14, .inl f_bk_faceIn))] H := ⟨hP, hD⟩
  refine lv_aload_n hx hb dX0_clear_39 rfl (lv_at hl 0 rfl) ?_
  refine va_get (D := (dC, dI)) (ci := 0) (v := .ref gr) (C := RX0) (T := TX0) (N := 13) hx hb hts (fun w h => wM_c (iX0 w h)) hown hK hP 0 rfl rfl 12 (by decide) (hts _ (wM_c wd_293)) (fun _ h9 => h9) rfl dX0_clear_40 ?_
  refine lv_iconst (v := 0) hx hb dX0_clear_43 (by decide) ?_
  refine va_put (D := (dC, dI)) (ci := 3) (v := .int 0) (ty := .int) (C := RX3) (T := TX3) (N := 13) hx hb hts (fun w h => wM_c (iX3 w h)) tyX3 tyX3_ok nmX3 hown hK hP hD hS 1 rfl rfl 9 (by decide) (hts _ (wM_c wd_192)) (fun _ h9 => h9) rfl (by decide +kernel) rfl rfl (Nat.le_of_ble_eq_true rfl) dX0_clear_44 (fun H locs hP hD hS => ?_)
  obtain ⟨hP, hD⟩ : s3_w (dC, dI) classes A [(bk, .inr (0, [.int 0, .ref bk_tail, .ref bk_head, .ref bk_hinder, .ref bk_size, .ref bk_walk, .ref bk_draught, .ref bk_doorIn, .ref bk_fanIn, .ref bk_faceIn, .int 0, .int (-1), .ref gr])), (gr, .inr (3, [.int 0, .ref gr_doorBy, .int 0, .ref gr_pairFirst, .ref gr_pairSecond, .int 0, .ref gr_fanPush, .ref gr_fanFall, .ref gr_fanCost, .int 0, .ref gr_faceWay, .ref gr_faceGas, .ref gr_faceNeed])), (bk_doorIn, .inl (k_bk_doorIn, 14, .inl f_bk_doorIn)), (bk_fanIn, .inl (k_bk_fanIn, 14, .inl f_bk_fanIn)), (bk_faceIn, .inl (k_bk_faceIn, 14, .inl f_bk_faceIn))] H := ⟨hP, hD⟩
  refine lv_aload_n hx hb dX0_clear_47 rfl (lv_at hl 0 rfl) ?_
  refine va_get (D := (dC, dI)) (ci := 0) (v := .ref bk_doorIn) (C := RX0) (T := TX0) (N := 13) hx hb hts (fun w h => wM_c (iX0 w h)) hown hK hP 0 rfl rfl 7 (by decide) (hts _ (wM_c wd_271)) (fun _ h9 => h9) rfl dX0_clear_48 ?_
  refine lv_iconst (v := (-1)) hx hb dX0_clear_51 (by decide) ?_
  obtain ⟨hPc, hDc, hFc⟩ := s3_c (ws' := [(bk_doorIn, .inl (k_bk_doorIn, 14, .inl f_bk_doorIn))]) [2] hP hD hS hA rfl (by decide)
  have hKc := hK.sub (tys' := [(k_bk_doorIn, .int)]) [0] rfl
  refine va_callv (va_runS (As := [.ref bk_doorIn, .int (-1)]) (rest := []) ⟨hx, hb, hml, hown, hts⟩ (c_fill14 l dC dI n0 atx H.size bk_doorIn k_bk_doorIn f_bk_doorIn (-1) ) (va_cwS 2 hts (gS (fun w h => wM_c h) wd_669 wd_731 wd_668 wd_126) rfl rfl rfl (by decide +kernel) ⟨Nat.le_of_ble_eq_true rfl, Nat.le_of_ble_eq_true rfl⟩) ⟨fun a U g mk q => by obtain ⟨q0, q1, q2, qG, qP, qK, qD⟩ := q; exact ⟨q0, q1, q2, GW.blind qG, qP, va_K.moved (u := U) (U := U.calling g mk a) (Vm.Alike.refl U.vm) qK, qD⟩, fun U hU hW => ⟨rfl, by rw [hU], Nat.le_trans hn0 hS.1, GW.go hW hU hG (fun q hq hA9 => hS.2.1 q hq (fun h => hA9 (hA0 q h))), by rw [hU]; exact hPc, va_K.moved hW.alike hKc, hDc.weaken (fun _ _ _ h => hA0 _ h)⟩⟩ rfl rfl hl.1 rfl (lv_room (Nat.le_of_ble_eq_true rfl)) dX0_clear_52 ⟨Nat.le_of_ble_eq_true rfl, Nat.le_of_ble_eq_true rfl⟩) hS (fun q _ h => hFc q h) hFc (fun u t H1 locs ht hvm hw_2 hB hz1 hk1 hS => ?_)
  obtain ⟨f2_3, hf_4, hP1, hK1, hD1⟩ := hB
  rw [ht] at hP1
  obtain ⟨hP, hD⟩ := s3_j (L := [(bk, .inr (0, [.int 0, .ref bk_tail, .ref bk_head, .ref bk_hinder, .ref bk_size, .ref bk_walk, .ref bk_draught, .ref bk_doorIn, .ref bk_fanIn, .ref bk_faceIn, .int 0, .int (-1), .ref gr])), (gr, .inr (3, [.int 0, .ref gr_doorBy, .int 0, .ref gr_pairFirst, .ref gr_pairSecond, .int 0, .ref gr_fanPush, .ref gr_fanFall, .ref gr_fanCost, .int 0, .ref gr_faceWay, .ref gr_faceGas, .ref gr_faceNeed])), (bk_fanIn, .inl (k_bk_fanIn, 14, .inl f_bk_fanIn)), (bk_faceIn, .inl (k_bk_faceIn, 14, .inl f_bk_faceIn)), (bk_doorIn, .inl (k_bk_doorIn, 14, .inl f2_3))]) 4 hP hD [2] [0, 1, 3, 4] hk1 hFc hP1 hD1 rfl rfl rfl (by decide) (by decide)
  generalize H1 = H at hP hS ⊢
  refine lv_aload_n hx hb dX0_clear_55 rfl (lv_at hl 0 rfl) ?_
  refine va_get (D := (dC, dI)) (ci := 0) (v := .ref bk_fanIn) (C := RX0) (T := TX0) (N := 13) hx hb hts (fun w h => wM_c (iX0 w h)) hown hK hP 0 rfl rfl 8 (by decide) (hts _ (wM_c wd_275)) (fun _ h9 => h9) rfl dX0_clear_56 ?_
  refine lv_iconst (v := (-1)) hx hb dX0_clear_59 (by decide) ?_
  obtain ⟨hPc, hDc, hFc⟩ := s3_c (ws' := [(bk_fanIn, .inl (k_bk_fanIn, 14, .inl f_bk_fanIn))]) [2] hP hD hS hA rfl (by decide)
  have hKc := hK.sub (tys' := [(k_bk_fanIn, .int)]) [1] rfl
  refine va_callv (va_runS (As := [.ref bk_fanIn, .int (-1)]) (rest := []) ⟨hx, hb, hml, hown, hts⟩ (c_fill14 l dC dI n0 atx H.size bk_fanIn k_bk_fanIn f_bk_fanIn (-1) ) (va_cwS 2 hts (gS (fun w h => wM_c h) wd_669 wd_731 wd_668 wd_126) rfl rfl rfl (by decide +kernel) ⟨Nat.le_of_ble_eq_true rfl, Nat.le_of_ble_eq_true rfl⟩) ⟨fun a U g mk q => by obtain ⟨q0, q1, q2, qG, qP, qK, qD⟩ := q; exact ⟨q0, q1, q2, GW.blind qG, qP, va_K.moved (u := U) (U := U.calling g mk a) (Vm.Alike.refl U.vm) qK, qD⟩, fun U hU hW => ⟨rfl, by rw [hU], Nat.le_trans hn0 hS.1, GW.go hW hU hG (fun q hq hA9 => hS.2.1 q hq (fun h => hA9 (hA0 q h))), by rw [hU]; exact hPc, va_K.moved hW.alike hKc, hDc.weaken (fun _ _ _ h => hA0 _ h)⟩⟩ rfl rfl hl.1 rfl (lv_room (Nat.le_of_ble_eq_true rfl)) dX0_clear_60 ⟨Nat.le_of_ble_eq_true rfl, Nat.le_of_ble_eq_true rfl⟩) hS (fun q _ h => hFc q h) hFc (fun u t H1 locs ht hvm hw_6 hB hz1 hk1 hS => ?_)
  obtain ⟨f2_7, hf_8, hP1, hK1, hD1⟩ := hB
  rw [ht] at hP1
  obtain ⟨hP, hD⟩ := s3_j (L := [(bk, .inr (0, [.int 0, .ref bk_tail, .ref bk_head, .ref bk_hinder, .ref bk_size, .ref bk_walk, .ref bk_draught, .ref bk_doorIn, .ref bk_fanIn, .ref bk_faceIn, .int 0, .int (-1), .ref gr])), (gr, .inr (3, [.int 0, .ref gr_doorBy, .int 0, .ref gr_pairFirst, .ref gr_pairSecond, .int 0, .ref gr_fanPush, .ref gr_fanFall, .ref gr_fanCost, .int 0, .ref gr_faceWay, .ref gr_faceGas, .ref gr_faceNeed])), (bk_faceIn, .inl (k_bk_faceIn, 14, .inl f_bk_faceIn)), (bk_doorIn, .inl (k_bk_doorIn, 14, .inl f2_3)), (bk_fanIn, .inl (k_bk_fanIn, 14, .inl f2_7))]) 4 hP hD [2] [0, 1, 3, 4] hk1 hFc hP1 hD1 rfl rfl rfl (by decide) (by decide)
  generalize H1 = H at hP hS ⊢
  refine lv_aload_n hx hb dX0_clear_63 rfl (lv_at hl 0 rfl) ?_
  refine va_get (D := (dC, dI)) (ci := 0) (v := .ref bk_faceIn) (C := RX0) (T := TX0) (N := 13) hx hb hts (fun w h => wM_c (iX0 w h)) hown hK hP 0 rfl rfl 9 (by decide) (hts _ (wM_c wd_280)) (fun _ h9 => h9) rfl dX0_clear_64 ?_
  refine lv_iconst (v := (-1)) hx hb dX0_clear_67 (by decide) ?_
  obtain ⟨hPc, hDc, hFc⟩ := s3_c (ws' := [(bk_faceIn, .inl (k_bk_faceIn, 14, .inl f_bk_faceIn))]) [2] hP hD hS hA rfl (by decide)
  have hKc := hK.sub (tys' := [(k_bk_faceIn, .int)]) [2] rfl
  refine va_callv (va_runS (As := [.ref bk_faceIn, .int (-1)]) (rest := []) ⟨hx, hb, hml, hown, hts⟩ (c_fill14 l dC dI n0 atx H.size bk_faceIn k_bk_faceIn f_bk_faceIn (-1) ) (va_cwS 2 hts (gS (fun w h => wM_c h) wd_669 wd_731 wd_668 wd_126) rfl rfl rfl (by decide +kernel) ⟨Nat.le_of_ble_eq_true rfl, Nat.le_of_ble_eq_true rfl⟩) ⟨fun a U g mk q => by obtain ⟨q0, q1, q2, qG, qP, qK, qD⟩ := q; exact ⟨q0, q1, q2, GW.blind qG, qP, va_K.moved (u := U) (U := U.calling g mk a) (Vm.Alike.refl U.vm) qK, qD⟩, fun U hU hW => ⟨rfl, by rw [hU], Nat.le_trans hn0 hS.1, GW.go hW hU hG (fun q hq hA9 => hS.2.1 q hq (fun h => hA9 (hA0 q h))), by rw [hU]; exact hPc, va_K.moved hW.alike hKc, hDc.weaken (fun _ _ _ h => hA0 _ h)⟩⟩ rfl rfl hl.1 rfl (lv_room (Nat.le_of_ble_eq_true rfl)) dX0_clear_68 ⟨Nat.le_of_ble_eq_true rfl, Nat.le_of_ble_eq_true rfl⟩) hS (fun q _ h => hFc q h) hFc (fun u t H1 locs ht hvm hw_10 hB hz1 hk1 hS => ?_)
  obtain ⟨f2_11, hf_12, hP1, hK1, hD1⟩ := hB
  rw [ht] at hP1
  obtain ⟨hP, hD⟩ := s3_j (L := [(bk, .inr (0, [.int 0, .ref bk_tail, .ref bk_head, .ref bk_hinder, .ref bk_size, .ref bk_walk, .ref bk_draught, .ref bk_doorIn, .ref bk_fanIn, .ref bk_faceIn, .int 0, .int (-1), .ref gr])), (gr, .inr (3, [.int 0, .ref gr_doorBy, .int 0, .ref gr_pairFirst, .ref gr_pairSecond, .int 0, .ref gr_fanPush, .ref gr_fanFall, .ref gr_fanCost, .int 0, .ref gr_faceWay, .ref gr_faceGas, .ref gr_faceNeed])), (bk_doorIn, .inl (k_bk_doorIn, 14, .inl f2_3)), (bk_fanIn, .inl (k_bk_fanIn, 14, .inl f2_7)), (bk_faceIn, .inl (k_bk_faceIn, 14, .inl f2_11))]) 4 hP hD [2] [0, 1, 3, 4] hk1 hFc hP1 hD1 rfl rfl rfl (by decide) (by decide)
  generalize H1 = H at hP hS ⊢
  have hK9 := hK.sub (tys' := [(k_bk_doorIn, .int), (k_bk_fanIn, .int), (k_bk_faceIn, .int)]) [0, 1, 2] rfl
  exact W.vret hx hb hr (fun t ht hW => ⟨⟨(), rfl, trivial, f2_3, f2_7, f2_11, hf_4, hf_8, hf_12, by rw [ht]; exact hP.sub [0, 1, 2, 3, 4] rfl, va_K.moved hW.alike hK9, hD.sub [0, 1, 2, 3, 4] (by decide) rfl⟩, hS.F ht⟩) hS.2.2 dX0_clear_71
