theorem wd_1 : Cond.selects "MineAir$Reader" (⟨"MineAir$Reader", "next", "()V"⟩ : MethodName) (⟨"MineAir$Reader", "next", "()V"⟩ : MethodName) ∈ wG := wG_of 1 (by decide +kernel) (by decide +kernel)
theorem wd_2 : Cond.selects "MineAir$Reader" (⟨"MineAir$Reader", "readWord", "()V"⟩ : MethodName) (⟨"MineAir$Reader", "readWord", "()V"⟩ : MethodName) ∈ wG := wG_of 2 (by decide +kernel) (by decide +kernel)
theorem wd_3 : Cond.selects "MineAir$Reader" (⟨"MineAir$Reader", "readDigits", "()V"⟩ : MethodName) (⟨"MineAir$Reader", "readDigits", "()V"⟩ : MethodName) ∈ wG := wG_of 3 (by decide +kernel) (by decide +kernel)
theorem wd_5 : Cond.selects "MineAir$Reader" (⟨"MineAir$Reader", "isWord", "(Ljava/lang/String;)Z"⟩ : MethodName) (⟨"MineAir$Reader", "isWord", "(Ljava/lang/String;)Z"⟩ : MethodName) ∈ wG := wG_of 5 (by decide +kernel) (by decide +kernel)
theorem wd_117 : Cond.initialized "MineAir$Reader" ∈ wG := wG_of 117 (by decide +kernel) (by decide +kernel)
theorem wd_286 : Cond.fieldLink "MineAir$Reader" 225 "MineAir$Book" "knots" "I" ∈ wG := wG_of 286 (by decide +kernel) (by decide +kernel)
theorem wd_333 : Cond.fieldLink "MineAir$Reader" 9 "MineAir$Reader" "tape" "[I" ∈ wG := wG_of 333 (by decide +kernel) (by decide +kernel)
theorem wd_337 : Cond.fieldLink "MineAir$Reader" 45 "MineAir$Reader" "fault" "I" ∈ wG := wG_of 337 (by decide +kernel) (by decide +kernel)
theorem wd_338 : Cond.fieldLink "MineAir$Reader" 48 "MineAir$Reader" "faultPlace" "I" ∈ wG := wG_of 338 (by decide +kernel) (by decide +kernel)
theorem wd_340 : Cond.fieldLink "MineAir$Reader" 28 "MineAir$Reader" "draft" "LMineAir$Book;" ∈ wG := wG_of 340 (by decide +kernel) (by decide +kernel)
theorem wd_341 : Cond.fieldLink "MineAir$Reader" 15 "MineAir$Reader" "names" "[J" ∈ wG := wG_of 341 (by decide +kernel) (by decide +kernel)
theorem wd_344 : Cond.fieldLink "MineAir$Reader" 42 "MineAir$Reader" "named" "I" ∈ wG := wG_of 344 (by decide +kernel) (by decide +kernel)
theorem wd_345 : Cond.fieldLink "MineAir$Reader" 25 "MineAir$Reader" "knotNames" "[J" ∈ wG := wG_of 345 (by decide +kernel) (by decide +kernel)
theorem wd_346 : Cond.fieldLink "MineAir$Reader" 36 "MineAir$Reader" "end" "I" ∈ wG := wG_of 346 (by decide +kernel) (by decide +kernel)
theorem wd_347 : Cond.fieldLink "MineAir$Reader" 39 "MineAir$Reader" "at" "I" ∈ wG := wG_of 347 (by decide +kernel) (by decide +kernel)
theorem wd_348 : Cond.fieldLink "MineAir$Reader" 92 "MineAir$Reader" "token" "I" ∈ wG := wG_of 348 (by decide +kernel) (by decide +kernel)
theorem wd_349 : Cond.fieldLink "MineAir$Reader" 242 "MineAir$Reader" "tokenStart" "I" ∈ wG := wG_of 349 (by decide +kernel) (by decide +kernel)
theorem wd_350 : Cond.fieldLink "MineAir$Reader" 215 "MineAir$Reader" "tokenValue" "J" ∈ wG := wG_of 350 (by decide +kernel) (by decide +kernel)
theorem wd_732 : Cond.methodLink "MineAir$Reader" 56 (⟨"MineAir$Reader", "next", "()V"⟩ : MethodName) ∈ wG := wG_of 732 (by decide +kernel) (by decide +kernel)
theorem wd_734 : Cond.instanceMethod (⟨"MineAir$Reader", "next", "()V"⟩ : MethodName) ∈ wG := wG_of 734 (by decide +kernel) (by decide +kernel)
theorem wd_735 : Cond.code (⟨"MineAir$Reader", "next", "()V"⟩ : MethodName) prog_9_method_22_code 2 (Option.none : Option Jvm.ClassFile.FieldType) ∈ wG := wG_of 735 (by decide +kernel) (by decide +kernel)
theorem wd_736 : Cond.methodLink "MineAir$Reader" 245 (⟨"MineAir$Reader", "isLetter", "(I)Z"⟩ : MethodName) ∈ wG := wG_of 736 (by decide +kernel) (by decide +kernel)
theorem wd_737 : Cond.static (⟨"MineAir$Reader", "isLetter", "(I)Z"⟩ : MethodName) ∈ wG := wG_of 737 (by decide +kernel) (by decide +kernel)
theorem wd_738 : Cond.code (⟨"MineAir$Reader", "isLetter", "(I)Z"⟩ : MethodName) prog_9_method_25_code 1 (Option.some Jvm.ClassFile.FieldType.boolean) ∈ wG := wG_of 738 (by decide +kernel) (by decide +kernel)
theorem wd_739 : Cond.methodLink "MineAir$Reader" 248 (⟨"MineAir$Reader", "readWord", "()V"⟩ : MethodName) ∈ wG := wG_of 739 (by decide +kernel) (by decide +kernel)
theorem wd_741 : Cond.instanceMethod (⟨"MineAir$Reader", "readWord", "()V"⟩ : MethodName) ∈ wG := wG_of 741 (by decide +kernel) (by decide +kernel)
theorem wd_742 : Cond.code (⟨"MineAir$Reader", "readWord", "()V"⟩ : MethodName) prog_9_method_23_code 2 (Option.none : Option Jvm.ClassFile.FieldType) ∈ wG := wG_of 742 (by decide +kernel) (by decide +kernel)
theorem wd_743 : Cond.methodLink "MineAir$Reader" 251 (⟨"MineAir$Reader", "isDigit", "(I)Z"⟩ : MethodName) ∈ wG := wG_of 743 (by decide +kernel) (by decide +kernel)
theorem wd_744 : Cond.static (⟨"MineAir$Reader", "isDigit", "(I)Z"⟩ : MethodName) ∈ wG := wG_of 744 (by decide +kernel) (by decide +kernel)
theorem wd_745 : Cond.code (⟨"MineAir$Reader", "isDigit", "(I)Z"⟩ : MethodName) prog_9_method_26_code 1 (Option.some Jvm.ClassFile.FieldType.boolean) ∈ wG := wG_of 745 (by decide +kernel) (by decide +kernel)
theorem wd_746 : Cond.methodLink "MineAir$Reader" 254 (⟨"MineAir$Reader", "readDigits", "()V"⟩ : MethodName) ∈ wG := wG_of 746 (by decide +kernel) (by decide +kernel)
theorem wd_748 : Cond.instanceMethod (⟨"MineAir$Reader", "readDigits", "()V"⟩ : MethodName) ∈ wG := wG_of 748 (by decide +kernel) (by decide +kernel)
theorem wd_749 : Cond.code (⟨"MineAir$Reader", "readDigits", "()V"⟩ : MethodName) prog_9_method_24_code 2 (Option.none : Option Jvm.ClassFile.FieldType) ∈ wG := wG_of 749 (by decide +kernel) (by decide +kernel)
theorem wd_750 : Cond.constantLong "MineAir$Reader" 257 10 ∈ wG := wG_of 750 (by decide +kernel) (by decide +kernel)
theorem wd_751 : Cond.constantLong "MineAir$Reader" 259 48 ∈ wG := wG_of 751 (by decide +kernel) (by decide +kernel)
theorem wd_757 : Cond.methodLink "MineAir$Reader" 230 (⟨"MineAir$Reader", "isWord", "(Ljava/lang/String;)Z"⟩ : MethodName) ∈ wG := wG_of 757 (by decide +kernel) (by decide +kernel)
theorem wd_759 : Cond.instanceMethod (⟨"MineAir$Reader", "isWord", "(Ljava/lang/String;)Z"⟩ : MethodName) ∈ wG := wG_of 759 (by decide +kernel) (by decide +kernel)
theorem wd_760 : Cond.code (⟨"MineAir$Reader", "isWord", "(Ljava/lang/String;)Z"⟩ : MethodName) prog_9_method_17_code 2 (Option.some Jvm.ClassFile.FieldType.boolean) ∈ wG := wG_of 760 (by decide +kernel) (by decide +kernel)
theorem wd_761 : Cond.methodLink "MineAir$Reader" 238 (⟨"MineAir$Reader", "codeOf", "(Ljava/lang/String;)J"⟩ : MethodName) ∈ wG := wG_of 761 (by decide +kernel) (by decide +kernel)
theorem wd_762 : Cond.static (⟨"MineAir$Reader", "codeOf", "(Ljava/lang/String;)J"⟩ : MethodName) ∈ wG := wG_of 762 (by decide +kernel) (by decide +kernel)
theorem wd_763 : Cond.code (⟨"MineAir$Reader", "codeOf", "(Ljava/lang/String;)J"⟩ : MethodName) prog_9_method_27_code 4 (Option.some Jvm.ClassFile.FieldType.long) ∈ wG := wG_of 763 (by decide +kernel) (by decide +kernel)
theorem wd_764 : Cond.methodLink "MineAir$Reader" 261 (⟨"java/lang/String", "length", "()I"⟩ : MethodName) ∈ wG := wG_of 764 (by decide +kernel) (by decide +kernel)
theorem wd_774 : Cond.methodLink "MineAir$Reader" 266 (⟨"java/lang/String", "charAt", "(I)C"⟩ : MethodName) ∈ wG := wG_of 774 (by decide +kernel) (by decide +kernel)
theorem dX7_codeOf_0 : decode cX7_codeOf 0 = .ok (.lconst 0, 1) := by decide +kernel
theorem dX7_codeOf_1 : decode cX7_codeOf 1 = .ok (.lstore_n 1, 1) := by decide +kernel
theorem dX7_codeOf_2 : decode cX7_codeOf 2 = .ok (.iconst 0, 1) := by decide +kernel
theorem dX7_codeOf_3 : decode cX7_codeOf 3 = .ok (.istore_n 3, 1) := by decide +kernel
theorem dX7_codeOf_4 : decode cX7_codeOf 4 = .ok (.iload_n 3, 1) := by decide +kernel
theorem dX7_codeOf_5 : decode cX7_codeOf 5 = .ok (.aload_n 0, 1) := by decide +kernel
theorem dX7_codeOf_6 : decode cX7_codeOf 6 = .ok (.invokevirtual 261, 3) := by decide +kernel
theorem dX7_codeOf_9 : decode cX7_codeOf 9 = .ok (.if_icmp .ge 25, 3) := by decide +kernel
theorem dX7_codeOf_12 : decode cX7_codeOf 12 = .ok (.lload_n 1, 1) := by decide +kernel
theorem dX7_codeOf_13 : decode cX7_codeOf 13 = .ok (.iconst 5, 1) := by decide +kernel
theorem dX7_codeOf_14 : decode cX7_codeOf 14 = .ok (.lshl, 1) := by decide +kernel
theorem dX7_codeOf_15 : decode cX7_codeOf 15 = .ok (.aload_n 0, 1) := by decide +kernel
theorem dX7_codeOf_16 : decode cX7_codeOf 16 = .ok (.iload_n 3, 1) := by decide +kernel
theorem dX7_codeOf_17 : decode cX7_codeOf 17 = .ok (.invokevirtual 266, 3) := by decide +kernel
theorem dX7_codeOf_20 : decode cX7_codeOf 20 = .ok (.bipush 97, 2) := by decide +kernel
theorem dX7_codeOf_22 : decode cX7_codeOf 22 = .ok (.isub, 1) := by decide +kernel
theorem dX7_codeOf_23 : decode cX7_codeOf 23 = .ok (.iconst 1, 1) := by decide +kernel
theorem dX7_codeOf_24 : decode cX7_codeOf 24 = .ok (.iadd, 1) := by decide +kernel
theorem dX7_codeOf_25 : decode cX7_codeOf 25 = .ok (.i2l, 1) := by decide +kernel
theorem dX7_codeOf_26 : decode cX7_codeOf 26 = .ok (.lor, 1) := by decide +kernel
theorem dX7_codeOf_27 : decode cX7_codeOf 27 = .ok (.lstore_n 1, 1) := by decide +kernel
theorem dX7_codeOf_28 : decode cX7_codeOf 28 = .ok (.iinc 3 1, 3) := by decide +kernel
theorem dX7_codeOf_31 : decode cX7_codeOf 31 = .ok (.goto (-27), 3) := by decide +kernel
theorem dX7_codeOf_34 : decode cX7_codeOf 34 = .ok (.lload_n 1, 1) := by decide +kernel
theorem dX7_codeOf_35 : decode cX7_codeOf 35 = .ok (.lreturn, 1) := by decide +kernel
theorem dX7_isDigit_0 : decode cX7_isDigit 0 = .ok (.iload_n 0, 1) := by decide +kernel
theorem dX7_isDigit_1 : decode cX7_isDigit 1 = .ok (.bipush 48, 2) := by decide +kernel
theorem dX7_isDigit_3 : decode cX7_isDigit 3 = .ok (.if_icmp .lt 13, 3) := by decide +kernel
theorem dX7_isDigit_6 : decode cX7_isDigit 6 = .ok (.iload_n 0, 1) := by decide +kernel
theorem dX7_isDigit_7 : decode cX7_isDigit 7 = .ok (.bipush 57, 2) := by decide +kernel
theorem dX7_isDigit_9 : decode cX7_isDigit 9 = .ok (.if_icmp .gt 7, 3) := by decide +kernel
theorem dX7_isDigit_12 : decode cX7_isDigit 12 = .ok (.iconst 1, 1) := by decide +kernel
theorem dX7_isDigit_13 : decode cX7_isDigit 13 = .ok (.goto 4, 3) := by decide +kernel
theorem dX7_isDigit_16 : decode cX7_isDigit 16 = .ok (.iconst 0, 1) := by decide +kernel
theorem dX7_isDigit_17 : decode cX7_isDigit 17 = .ok (.ireturn, 1) := by decide +kernel
theorem dX7_isLetter_0 : decode cX7_isLetter 0 = .ok (.iload_n 0, 1) := by decide +kernel
theorem dX7_isLetter_1 : decode cX7_isLetter 1 = .ok (.bipush 97, 2) := by decide +kernel
theorem dX7_isLetter_3 : decode cX7_isLetter 3 = .ok (.if_icmp .lt 13, 3) := by decide +kernel
theorem dX7_isLetter_6 : decode cX7_isLetter 6 = .ok (.iload_n 0, 1) := by decide +kernel
theorem dX7_isLetter_7 : decode cX7_isLetter 7 = .ok (.bipush 122, 2) := by decide +kernel
theorem dX7_isLetter_9 : decode cX7_isLetter 9 = .ok (.if_icmp .gt 7, 3) := by decide +kernel
theorem dX7_isLetter_12 : decode cX7_isLetter 12 = .ok (.iconst 1, 1) := by decide +kernel
theorem dX7_isLetter_13 : decode cX7_isLetter 13 = .ok (.goto 4, 3) := by decide +kernel
theorem dX7_isLetter_16 : decode cX7_isLetter 16 = .ok (.iconst 0, 1) := by decide +kernel
theorem dX7_isLetter_17 : decode cX7_isLetter 17 = .ok (.ireturn, 1) := by decide +kernel
theorem dX7_isName_0 : decode cX7_isName 0 = .ok (.aload_n 0, 1) := by decide +kernel
theorem dX7_isName_1 : decode cX7_isName 1 = .ok (.getfield 92, 3) := by decide +kernel
theorem dX7_isName_4 : decode cX7_isName 4 = .ok (.iconst 1, 1) := by decide +kernel
theorem dX7_isName_5 : decode cX7_isName 5 = .ok (.if_icmp .ne 52, 3) := by decide +kernel
theorem dX7_isName_8 : decode cX7_isName 8 = .ok (.aload_n 0, 1) := by decide +kernel
theorem dX7_isName_9 : decode cX7_isName 9 = .ok (.ldc 59, 2) := by decide +kernel
theorem dX7_isName_11 : decode cX7_isName 11 = .ok (.invokevirtual 230, 3) := by decide +kernel
theorem dX7_isName_14 : decode cX7_isName 14 = .ok (.ifCond .ne 43, 3) := by decide +kernel
theorem dX7_isName_17 : decode cX7_isName 17 = .ok (.aload_n 0, 1) := by decide +kernel
theorem dX7_isName_18 : decode cX7_isName 18 = .ok (.ldc 68, 2) := by decide +kernel
theorem dX7_isName_20 : decode cX7_isName 20 = .ok (.invokevirtual 230, 3) := by decide +kernel
theorem dX7_isName_23 : decode cX7_isName 23 = .ok (.ifCond .ne 34, 3) := by decide +kernel
theorem dX7_isName_26 : decode cX7_isName 26 = .ok (.aload_n 0, 1) := by decide +kernel
theorem dX7_isName_27 : decode cX7_isName 27 = .ok (.ldc 73, 2) := by decide +kernel
theorem dX7_isName_29 : decode cX7_isName 29 = .ok (.invokevirtual 230, 3) := by decide +kernel
theorem dX7_isName_32 : decode cX7_isName 32 = .ok (.ifCond .ne 25, 3) := by decide +kernel
theorem dX7_isName_35 : decode cX7_isName 35 = .ok (.aload_n 0, 1) := by decide +kernel
theorem dX7_isName_36 : decode cX7_isName 36 = .ok (.ldc 78, 2) := by decide +kernel
theorem dX7_isName_38 : decode cX7_isName 38 = .ok (.invokevirtual 230, 3) := by decide +kernel
theorem dX7_isName_41 : decode cX7_isName 41 = .ok (.ifCond .ne 16, 3) := by decide +kernel
theorem dX7_isName_44 : decode cX7_isName 44 = .ok (.aload_n 0, 1) := by decide +kernel
theorem dX7_isName_45 : decode cX7_isName 45 = .ok (.ldc 83, 2) := by decide +kernel
theorem dX7_isName_47 : decode cX7_isName 47 = .ok (.invokevirtual 230, 3) := by decide +kernel
theorem dX7_isName_50 : decode cX7_isName 50 = .ok (.ifCond .ne 7, 3) := by decide +kernel
theorem dX7_isName_53 : decode cX7_isName 53 = .ok (.iconst 1, 1) := by decide +kernel
theorem dX7_isName_54 : decode cX7_isName 54 = .ok (.goto 4, 3) := by decide +kernel
theorem dX7_isName_57 : decode cX7_isName 57 = .ok (.iconst 0, 1) := by decide +kernel
theorem dX7_isName_58 : decode cX7_isName 58 = .ok (.ireturn, 1) := by decide +kernel
theorem dX7_isWord_0 : decode cX7_isWord 0 = .ok (.aload_n 0, 1) := by decide +kernel
theorem dX7_isWord_1 : decode cX7_isWord 1 = .ok (.getfield 92, 3) := by decide +kernel
theorem dX7_isWord_4 : decode cX7_isWord 4 = .ok (.iconst 1, 1) := by decide +kernel
theorem dX7_isWord_5 : decode cX7_isWord 5 = .ok (.if_icmp .ne 19, 3) := by decide +kernel
theorem dX7_isWord_8 : decode cX7_isWord 8 = .ok (.aload_n 0, 1) := by decide +kernel
theorem dX7_isWord_9 : decode cX7_isWord 9 = .ok (.getfield 215, 3) := by decide +kernel
theorem dX7_isWord_12 : decode cX7_isWord 12 = .ok (.aload_n 1, 1) := by decide +kernel
theorem dX7_isWord_13 : decode cX7_isWord 13 = .ok (.invokestatic 238, 3) := by decide +kernel
theorem dX7_isWord_16 : decode cX7_isWord 16 = .ok (.lcmp, 1) := by decide +kernel
theorem dX7_isWord_17 : decode cX7_isWord 17 = .ok (.ifCond .ne 7, 3) := by decide +kernel
theorem dX7_isWord_20 : decode cX7_isWord 20 = .ok (.iconst 1, 1) := by decide +kernel
theorem dX7_isWord_21 : decode cX7_isWord 21 = .ok (.goto 4, 3) := by decide +kernel
theorem dX7_isWord_24 : decode cX7_isWord 24 = .ok (.iconst 0, 1) := by decide +kernel
theorem dX7_isWord_25 : decode cX7_isWord 25 = .ok (.ireturn, 1) := by decide +kernel
theorem dX7_knotNumber_0 : decode cX7_knotNumber 0 = .ok (.iconst 0, 1) := by decide +kernel
theorem dX7_knotNumber_1 : decode cX7_knotNumber 1 = .ok (.istore_n 1, 1) := by decide +kernel
theorem dX7_knotNumber_2 : decode cX7_knotNumber 2 = .ok (.iload_n 1, 1) := by decide +kernel
theorem dX7_knotNumber_3 : decode cX7_knotNumber 3 = .ok (.aload_n 0, 1) := by decide +kernel
theorem dX7_knotNumber_4 : decode cX7_knotNumber 4 = .ok (.getfield 28, 3) := by decide +kernel
theorem dX7_knotNumber_7 : decode cX7_knotNumber 7 = .ok (.getfield 225, 3) := by decide +kernel
theorem dX7_knotNumber_10 : decode cX7_knotNumber 10 = .ok (.if_icmp .ge 25, 3) := by decide +kernel
theorem dX7_knotNumber_13 : decode cX7_knotNumber 13 = .ok (.aload_n 0, 1) := by decide +kernel
theorem dX7_knotNumber_14 : decode cX7_knotNumber 14 = .ok (.getfield 25, 3) := by decide +kernel
theorem dX7_knotNumber_17 : decode cX7_knotNumber 17 = .ok (.iload_n 1, 1) := by decide +kernel
theorem dX7_knotNumber_18 : decode cX7_knotNumber 18 = .ok (.laload, 1) := by decide +kernel
theorem dX7_knotNumber_19 : decode cX7_knotNumber 19 = .ok (.aload_n 0, 1) := by decide +kernel
theorem dX7_knotNumber_20 : decode cX7_knotNumber 20 = .ok (.getfield 215, 3) := by decide +kernel
theorem dX7_knotNumber_23 : decode cX7_knotNumber 23 = .ok (.lcmp, 1) := by decide +kernel
theorem dX7_knotNumber_24 : decode cX7_knotNumber 24 = .ok (.ifCond .ne 5, 3) := by decide +kernel
theorem dX7_knotNumber_27 : decode cX7_knotNumber 27 = .ok (.iload_n 1, 1) := by decide +kernel
theorem dX7_knotNumber_28 : decode cX7_knotNumber 28 = .ok (.ireturn, 1) := by decide +kernel
theorem dX7_knotNumber_29 : decode cX7_knotNumber 29 = .ok (.iinc 1 1, 3) := by decide +kernel
theorem dX7_knotNumber_32 : decode cX7_knotNumber 32 = .ok (.goto (-30), 3) := by decide +kernel
theorem dX7_knotNumber_35 : decode cX7_knotNumber 35 = .ok (.iconst (-1), 1) := by decide +kernel
theorem dX7_knotNumber_36 : decode cX7_knotNumber 36 = .ok (.ireturn, 1) := by decide +kernel
theorem dX7_miss_0 : decode cX7_miss 0 = .ok (.aload_n 0, 1) := by decide +kernel
theorem dX7_miss_1 : decode cX7_miss 1 = .ok (.getfield 45, 3) := by decide +kernel
theorem dX7_miss_4 : decode cX7_miss 4 = .ok (.ifCond .ne 16, 3) := by decide +kernel
theorem dX7_miss_7 : decode cX7_miss 7 = .ok (.aload_n 0, 1) := by decide +kernel
theorem dX7_miss_8 : decode cX7_miss 8 = .ok (.iload_n 1, 1) := by decide +kernel
theorem dX7_miss_9 : decode cX7_miss 9 = .ok (.putfield 45, 3) := by decide +kernel
theorem dX7_miss_12 : decode cX7_miss 12 = .ok (.aload_n 0, 1) := by decide +kernel
theorem dX7_miss_13 : decode cX7_miss 13 = .ok (.aload_n 0, 1) := by decide +kernel
theorem dX7_miss_14 : decode cX7_miss 14 = .ok (.getfield 242, 3) := by decide +kernel
theorem dX7_miss_17 : decode cX7_miss 17 = .ok (.putfield 48, 3) := by decide +kernel
theorem dX7_miss_20 : decode cX7_miss 20 = .ok (.iconst 0, 1) := by decide +kernel
theorem dX7_miss_21 : decode cX7_miss 21 = .ok (.ireturn, 1) := by decide +kernel
theorem dX7_nameIndex_0 : decode cX7_nameIndex 0 = .ok (.iconst 0, 1) := by decide +kernel
theorem dX7_nameIndex_1 : decode cX7_nameIndex 1 = .ok (.istore_n 1, 1) := by decide +kernel
theorem dX7_nameIndex_2 : decode cX7_nameIndex 2 = .ok (.iload_n 1, 1) := by decide +kernel
theorem dX7_nameIndex_3 : decode cX7_nameIndex 3 = .ok (.aload_n 0, 1) := by decide +kernel
theorem dX7_nameIndex_4 : decode cX7_nameIndex 4 = .ok (.getfield 42, 3) := by decide +kernel
theorem dX7_nameIndex_7 : decode cX7_nameIndex 7 = .ok (.if_icmp .ge 25, 3) := by decide +kernel
theorem dX7_nameIndex_10 : decode cX7_nameIndex 10 = .ok (.aload_n 0, 1) := by decide +kernel
theorem dX7_nameIndex_11 : decode cX7_nameIndex 11 = .ok (.getfield 15, 3) := by decide +kernel
theorem dX7_nameIndex_14 : decode cX7_nameIndex 14 = .ok (.iload_n 1, 1) := by decide +kernel
theorem dX7_nameIndex_15 : decode cX7_nameIndex 15 = .ok (.laload, 1) := by decide +kernel
theorem dX7_nameIndex_16 : decode cX7_nameIndex 16 = .ok (.aload_n 0, 1) := by decide +kernel
theorem dX7_nameIndex_17 : decode cX7_nameIndex 17 = .ok (.getfield 215, 3) := by decide +kernel
theorem dX7_nameIndex_20 : decode cX7_nameIndex 20 = .ok (.lcmp, 1) := by decide +kernel
theorem dX7_nameIndex_21 : decode cX7_nameIndex 21 = .ok (.ifCond .ne 5, 3) := by decide +kernel
theorem dX7_nameIndex_24 : decode cX7_nameIndex 24 = .ok (.iload_n 1, 1) := by decide +kernel
theorem dX7_nameIndex_25 : decode cX7_nameIndex 25 = .ok (.ireturn, 1) := by decide +kernel
theorem dX7_nameIndex_26 : decode cX7_nameIndex 26 = .ok (.iinc 1 1, 3) := by decide +kernel
theorem dX7_nameIndex_29 : decode cX7_nameIndex 29 = .ok (.goto (-27), 3) := by decide +kernel
theorem dX7_nameIndex_32 : decode cX7_nameIndex 32 = .ok (.iconst (-1), 1) := by decide +kernel
theorem dX7_nameIndex_33 : decode cX7_nameIndex 33 = .ok (.ireturn, 1) := by decide +kernel
theorem dX7_next_0 : decode cX7_next 0 = .ok (.aload_n 0, 1) := by decide +kernel
theorem dX7_next_1 : decode cX7_next 1 = .ok (.getfield 39, 3) := by decide +kernel
theorem dX7_next_4 : decode cX7_next 4 = .ok (.istore_n 1, 1) := by decide +kernel
theorem dX7_next_5 : decode cX7_next 5 = .ok (.iload_n 1, 1) := by decide +kernel
theorem dX7_next_6 : decode cX7_next 6 = .ok (.aload_n 0, 1) := by decide +kernel
theorem dX7_next_7 : decode cX7_next 7 = .ok (.getfield 36, 3) := by decide +kernel
theorem dX7_next_10 : decode cX7_next 10 = .ok (.if_icmp .ge 27, 3) := by decide +kernel
theorem dX7_next_13 : decode cX7_next 13 = .ok (.aload_n 0, 1) := by decide +kernel
theorem dX7_next_14 : decode cX7_next 14 = .ok (.getfield 9, 3) := by decide +kernel
theorem dX7_next_17 : decode cX7_next 17 = .ok (.iload_n 1, 1) := by decide +kernel
theorem dX7_next_18 : decode cX7_next 18 = .ok (.iaload, 1) := by decide +kernel
theorem dX7_next_19 : decode cX7_next 19 = .ok (.bipush 32, 2) := by decide +kernel
theorem dX7_next_21 : decode cX7_next 21 = .ok (.if_icmp .ne 16, 3) := by decide +kernel
theorem dX7_next_24 : decode cX7_next 24 = .ok (.aload_n 0, 1) := by decide +kernel
theorem dX7_next_25 : decode cX7_next 25 = .ok (.iload_n 1, 1) := by decide +kernel
theorem dX7_next_26 : decode cX7_next 26 = .ok (.iconst 1, 1) := by decide +kernel
theorem dX7_next_27 : decode cX7_next 27 = .ok (.iadd, 1) := by decide +kernel
theorem dX7_next_28 : decode cX7_next 28 = .ok (.putfield 39, 3) := by decide +kernel
theorem dX7_next_31 : decode cX7_next 31 = .ok (.iinc 1 1, 3) := by decide +kernel
theorem dX7_next_34 : decode cX7_next 34 = .ok (.goto (-29), 3) := by decide +kernel
theorem dX7_next_37 : decode cX7_next 37 = .ok (.aload_n 0, 1) := by decide +kernel
theorem dX7_next_38 : decode cX7_next 38 = .ok (.aload_n 0, 1) := by decide +kernel
theorem dX7_next_39 : decode cX7_next 39 = .ok (.getfield 39, 3) := by decide +kernel
theorem dX7_next_42 : decode cX7_next 42 = .ok (.putfield 242, 3) := by decide +kernel
theorem dX7_next_45 : decode cX7_next 45 = .ok (.aload_n 0, 1) := by decide +kernel
theorem dX7_next_46 : decode cX7_next 46 = .ok (.lconst 0, 1) := by decide +kernel
theorem dX7_next_47 : decode cX7_next 47 = .ok (.putfield 215, 3) := by decide +kernel
theorem dX7_next_50 : decode cX7_next 50 = .ok (.aload_n 0, 1) := by decide +kernel
theorem dX7_next_51 : decode cX7_next 51 = .ok (.getfield 39, 3) := by decide +kernel
theorem dX7_next_54 : decode cX7_next 54 = .ok (.aload_n 0, 1) := by decide +kernel
theorem dX7_next_55 : decode cX7_next 55 = .ok (.getfield 36, 3) := by decide +kernel
theorem dX7_next_58 : decode cX7_next 58 = .ok (.if_icmp .lt 11, 3) := by decide +kernel
theorem dX7_next_61 : decode cX7_next 61 = .ok (.aload_n 0, 1) := by decide +kernel
theorem dX7_next_62 : decode cX7_next 62 = .ok (.iconst 0, 1) := by decide +kernel
theorem dX7_next_63 : decode cX7_next 63 = .ok (.putfield 92, 3) := by decide +kernel
theorem dX7_next_66 : decode cX7_next 66 = .ok (.goto 98, 3) := by decide +kernel
theorem dX7_next_69 : decode cX7_next 69 = .ok (.aload_n 0, 1) := by decide +kernel
theorem dX7_next_70 : decode cX7_next 70 = .ok (.getfield 9, 3) := by decide +kernel
theorem dX7_next_73 : decode cX7_next 73 = .ok (.aload_n 0, 1) := by decide +kernel
theorem dX7_next_74 : decode cX7_next 74 = .ok (.getfield 39, 3) := by decide +kernel
theorem dX7_next_77 : decode cX7_next 77 = .ok (.iaload, 1) := by decide +kernel
theorem dX7_next_78 : decode cX7_next 78 = .ok (.invokestatic 245, 3) := by decide +kernel
theorem dX7_next_81 : decode cX7_next 81 = .ok (.ifCond .eq 10, 3) := by decide +kernel
theorem dX7_next_84 : decode cX7_next 84 = .ok (.aload_n 0, 1) := by decide +kernel
theorem dX7_next_85 : decode cX7_next 85 = .ok (.invokevirtual 248, 3) := by decide +kernel
theorem dX7_next_88 : decode cX7_next 88 = .ok (.goto 76, 3) := by decide +kernel
theorem dX7_next_91 : decode cX7_next 91 = .ok (.aload_n 0, 1) := by decide +kernel
theorem dX7_next_92 : decode cX7_next 92 = .ok (.getfield 9, 3) := by decide +kernel
theorem dX7_next_95 : decode cX7_next 95 = .ok (.aload_n 0, 1) := by decide +kernel
theorem dX7_next_96 : decode cX7_next 96 = .ok (.getfield 39, 3) := by decide +kernel
theorem dX7_next_99 : decode cX7_next 99 = .ok (.iaload, 1) := by decide +kernel
theorem dX7_next_100 : decode cX7_next 100 = .ok (.invokestatic 251, 3) := by decide +kernel
theorem dX7_next_103 : decode cX7_next 103 = .ok (.ifCond .eq 10, 3) := by decide +kernel
theorem dX7_next_106 : decode cX7_next 106 = .ok (.aload_n 0, 1) := by decide +kernel
theorem dX7_next_107 : decode cX7_next 107 = .ok (.invokevirtual 254, 3) := by decide +kernel
theorem dX7_next_110 : decode cX7_next 110 = .ok (.goto 54, 3) := by decide +kernel
theorem dX7_next_113 : decode cX7_next 113 = .ok (.aload_n 0, 1) := by decide +kernel
theorem dX7_next_114 : decode cX7_next 114 = .ok (.aload_n 0, 1) := by decide +kernel
theorem dX7_next_115 : decode cX7_next 115 = .ok (.getfield 9, 3) := by decide +kernel
theorem dX7_next_118 : decode cX7_next 118 = .ok (.aload_n 0, 1) := by decide +kernel
theorem dX7_next_119 : decode cX7_next 119 = .ok (.getfield 39, 3) := by decide +kernel
theorem dX7_next_122 : decode cX7_next 122 = .ok (.iaload, 1) := by decide +kernel
theorem dX7_next_123 : decode cX7_next 123 = .ok (.bipush 59, 2) := by decide +kernel
theorem dX7_next_125 : decode cX7_next 125 = .ok (.if_icmp .ne 7, 3) := by decide +kernel
theorem dX7_next_128 : decode cX7_next 128 = .ok (.iconst 3, 1) := by decide +kernel
theorem dX7_next_129 : decode cX7_next 129 = .ok (.goto 22, 3) := by decide +kernel
theorem dX7_next_132 : decode cX7_next 132 = .ok (.aload_n 0, 1) := by decide +kernel
theorem dX7_next_133 : decode cX7_next 133 = .ok (.getfield 9, 3) := by decide +kernel
theorem dX7_next_136 : decode cX7_next 136 = .ok (.aload_n 0, 1) := by decide +kernel
theorem dX7_next_137 : decode cX7_next 137 = .ok (.getfield 39, 3) := by decide +kernel
theorem dX7_next_140 : decode cX7_next 140 = .ok (.iaload, 1) := by decide +kernel
theorem dX7_next_141 : decode cX7_next 141 = .ok (.bipush 45, 2) := by decide +kernel
theorem dX7_next_143 : decode cX7_next 143 = .ok (.if_icmp .ne 7, 3) := by decide +kernel
theorem dX7_next_146 : decode cX7_next 146 = .ok (.iconst 4, 1) := by decide +kernel
theorem dX7_next_147 : decode cX7_next 147 = .ok (.goto 4, 3) := by decide +kernel
theorem dX7_next_150 : decode cX7_next 150 = .ok (.iconst 5, 1) := by decide +kernel
theorem dX7_next_151 : decode cX7_next 151 = .ok (.putfield 92, 3) := by decide +kernel
theorem dX7_next_154 : decode cX7_next 154 = .ok (.aload_n 0, 1) := by decide +kernel
theorem dX7_next_155 : decode cX7_next 155 = .ok (.dup, 1) := by decide +kernel
theorem dX7_next_156 : decode cX7_next 156 = .ok (.getfield 39, 3) := by decide +kernel
theorem dX7_next_159 : decode cX7_next 159 = .ok (.iconst 1, 1) := by decide +kernel
theorem dX7_next_160 : decode cX7_next 160 = .ok (.iadd, 1) := by decide +kernel
theorem dX7_next_161 : decode cX7_next 161 = .ok (.putfield 39, 3) := by decide +kernel
theorem dX7_next_164 : decode cX7_next 164 = .ok (.return_, 1) := by decide +kernel
theorem dX7_readDigits_0 : decode cX7_readDigits 0 = .ok (.aload_n 0, 1) := by decide +kernel
theorem dX7_readDigits_1 : decode cX7_readDigits 1 = .ok (.getfield 39, 3) := by decide +kernel
theorem dX7_readDigits_4 : decode cX7_readDigits 4 = .ok (.istore_n 1, 1) := by decide +kernel
theorem dX7_readDigits_5 : decode cX7_readDigits 5 = .ok (.iload_n 1, 1) := by decide +kernel
theorem dX7_readDigits_6 : decode cX7_readDigits 6 = .ok (.aload_n 0, 1) := by decide +kernel
theorem dX7_readDigits_7 : decode cX7_readDigits 7 = .ok (.getfield 36, 3) := by decide +kernel
theorem dX7_readDigits_10 : decode cX7_readDigits 10 = .ok (.if_icmp .ge 52, 3) := by decide +kernel
theorem dX7_readDigits_13 : decode cX7_readDigits 13 = .ok (.aload_n 0, 1) := by decide +kernel
theorem dX7_readDigits_14 : decode cX7_readDigits 14 = .ok (.getfield 9, 3) := by decide +kernel
theorem dX7_readDigits_17 : decode cX7_readDigits 17 = .ok (.iload_n 1, 1) := by decide +kernel
theorem dX7_readDigits_18 : decode cX7_readDigits 18 = .ok (.iaload, 1) := by decide +kernel
theorem dX7_readDigits_19 : decode cX7_readDigits 19 = .ok (.invokestatic 251, 3) := by decide +kernel
theorem dX7_readDigits_22 : decode cX7_readDigits 22 = .ok (.ifCond .eq 40, 3) := by decide +kernel
theorem dX7_readDigits_25 : decode cX7_readDigits 25 = .ok (.aload_n 0, 1) := by decide +kernel
theorem dX7_readDigits_26 : decode cX7_readDigits 26 = .ok (.aload_n 0, 1) := by decide +kernel
theorem dX7_readDigits_27 : decode cX7_readDigits 27 = .ok (.getfield 215, 3) := by decide +kernel
theorem dX7_readDigits_30 : decode cX7_readDigits 30 = .ok (.ldc2_w 257, 3) := by decide +kernel
theorem dX7_readDigits_33 : decode cX7_readDigits 33 = .ok (.lmul, 1) := by decide +kernel
theorem dX7_readDigits_34 : decode cX7_readDigits 34 = .ok (.aload_n 0, 1) := by decide +kernel
theorem dX7_readDigits_35 : decode cX7_readDigits 35 = .ok (.getfield 9, 3) := by decide +kernel
theorem dX7_readDigits_38 : decode cX7_readDigits 38 = .ok (.iload_n 1, 1) := by decide +kernel
theorem dX7_readDigits_39 : decode cX7_readDigits 39 = .ok (.iaload, 1) := by decide +kernel
theorem dX7_readDigits_40 : decode cX7_readDigits 40 = .ok (.i2l, 1) := by decide +kernel
theorem dX7_readDigits_41 : decode cX7_readDigits 41 = .ok (.ladd, 1) := by decide +kernel
theorem dX7_readDigits_42 : decode cX7_readDigits 42 = .ok (.ldc2_w 259, 3) := by decide +kernel
theorem dX7_readDigits_45 : decode cX7_readDigits 45 = .ok (.lsub, 1) := by decide +kernel
theorem dX7_readDigits_46 : decode cX7_readDigits 46 = .ok (.putfield 215, 3) := by decide +kernel
theorem dX7_readDigits_49 : decode cX7_readDigits 49 = .ok (.aload_n 0, 1) := by decide +kernel
theorem dX7_readDigits_50 : decode cX7_readDigits 50 = .ok (.iload_n 1, 1) := by decide +kernel
theorem dX7_readDigits_51 : decode cX7_readDigits 51 = .ok (.iconst 1, 1) := by decide +kernel
theorem dX7_readDigits_52 : decode cX7_readDigits 52 = .ok (.iadd, 1) := by decide +kernel
theorem dX7_readDigits_53 : decode cX7_readDigits 53 = .ok (.putfield 39, 3) := by decide +kernel
theorem dX7_readDigits_56 : decode cX7_readDigits 56 = .ok (.iinc 1 1, 3) := by decide +kernel
theorem dX7_readDigits_59 : decode cX7_readDigits 59 = .ok (.goto (-54), 3) := by decide +kernel
theorem dX7_readDigits_62 : decode cX7_readDigits 62 = .ok (.aload_n 0, 1) := by decide +kernel
theorem dX7_readDigits_63 : decode cX7_readDigits 63 = .ok (.aload_n 0, 1) := by decide +kernel
theorem dX7_readDigits_64 : decode cX7_readDigits 64 = .ok (.getfield 39, 3) := by decide +kernel
theorem dX7_readDigits_67 : decode cX7_readDigits 67 = .ok (.aload_n 0, 1) := by decide +kernel
theorem dX7_readDigits_68 : decode cX7_readDigits 68 = .ok (.getfield 242, 3) := by decide +kernel
theorem dX7_readDigits_71 : decode cX7_readDigits 71 = .ok (.isub, 1) := by decide +kernel
theorem dX7_readDigits_72 : decode cX7_readDigits 72 = .ok (.iconst 4, 1) := by decide +kernel
theorem dX7_readDigits_73 : decode cX7_readDigits 73 = .ok (.if_icmp .le 7, 3) := by decide +kernel
theorem dX7_readDigits_76 : decode cX7_readDigits 76 = .ok (.iconst 5, 1) := by decide +kernel
theorem dX7_readDigits_77 : decode cX7_readDigits 77 = .ok (.goto 4, 3) := by decide +kernel
theorem dX7_readDigits_80 : decode cX7_readDigits 80 = .ok (.iconst 2, 1) := by decide +kernel
theorem dX7_readDigits_81 : decode cX7_readDigits 81 = .ok (.putfield 92, 3) := by decide +kernel
theorem dX7_readDigits_84 : decode cX7_readDigits 84 = .ok (.return_, 1) := by decide +kernel
theorem dX7_readWord_0 : decode cX7_readWord 0 = .ok (.aload_n 0, 1) := by decide +kernel
theorem dX7_readWord_1 : decode cX7_readWord 1 = .ok (.getfield 39, 3) := by decide +kernel
theorem dX7_readWord_4 : decode cX7_readWord 4 = .ok (.istore_n 1, 1) := by decide +kernel
theorem dX7_readWord_5 : decode cX7_readWord 5 = .ok (.iload_n 1, 1) := by decide +kernel
theorem dX7_readWord_6 : decode cX7_readWord 6 = .ok (.aload_n 0, 1) := by decide +kernel
theorem dX7_readWord_7 : decode cX7_readWord 7 = .ok (.getfield 36, 3) := by decide +kernel
theorem dX7_readWord_10 : decode cX7_readWord 10 = .ok (.if_icmp .ge 51, 3) := by decide +kernel
theorem dX7_readWord_13 : decode cX7_readWord 13 = .ok (.aload_n 0, 1) := by decide +kernel
theorem dX7_readWord_14 : decode cX7_readWord 14 = .ok (.getfield 9, 3) := by decide +kernel
theorem dX7_readWord_17 : decode cX7_readWord 17 = .ok (.iload_n 1, 1) := by decide +kernel
theorem dX7_readWord_18 : decode cX7_readWord 18 = .ok (.iaload, 1) := by decide +kernel
theorem dX7_readWord_19 : decode cX7_readWord 19 = .ok (.invokestatic 245, 3) := by decide +kernel
theorem dX7_readWord_22 : decode cX7_readWord 22 = .ok (.ifCond .eq 39, 3) := by decide +kernel
theorem dX7_readWord_25 : decode cX7_readWord 25 = .ok (.aload_n 0, 1) := by decide +kernel
theorem dX7_readWord_26 : decode cX7_readWord 26 = .ok (.aload_n 0, 1) := by decide +kernel
theorem dX7_readWord_27 : decode cX7_readWord 27 = .ok (.getfield 215, 3) := by decide +kernel
theorem dX7_readWord_30 : decode cX7_readWord 30 = .ok (.iconst 5, 1) := by decide +kernel
theorem dX7_readWord_31 : decode cX7_readWord 31 = .ok (.lshl, 1) := by decide +kernel
theorem dX7_readWord_32 : decode cX7_readWord 32 = .ok (.aload_n 0, 1) := by decide +kernel
theorem dX7_readWord_33 : decode cX7_readWord 33 = .ok (.getfield 9, 3) := by decide +kernel
theorem dX7_readWord_36 : decode cX7_readWord 36 = .ok (.iload_n 1, 1) := by decide +kernel
theorem dX7_readWord_37 : decode cX7_readWord 37 = .ok (.iaload, 1) := by decide +kernel
theorem dX7_readWord_38 : decode cX7_readWord 38 = .ok (.bipush 97, 2) := by decide +kernel
theorem dX7_readWord_40 : decode cX7_readWord 40 = .ok (.isub, 1) := by decide +kernel
theorem dX7_readWord_41 : decode cX7_readWord 41 = .ok (.iconst 1, 1) := by decide +kernel
theorem dX7_readWord_42 : decode cX7_readWord 42 = .ok (.iadd, 1) := by decide +kernel
theorem dX7_readWord_43 : decode cX7_readWord 43 = .ok (.i2l, 1) := by decide +kernel
theorem dX7_readWord_44 : decode cX7_readWord 44 = .ok (.lor, 1) := by decide +kernel
theorem dX7_readWord_45 : decode cX7_readWord 45 = .ok (.putfield 215, 3) := by decide +kernel
theorem dX7_readWord_48 : decode cX7_readWord 48 = .ok (.aload_n 0, 1) := by decide +kernel
theorem dX7_readWord_49 : decode cX7_readWord 49 = .ok (.iload_n 1, 1) := by decide +kernel
theorem dX7_readWord_50 : decode cX7_readWord 50 = .ok (.iconst 1, 1) := by decide +kernel
theorem dX7_readWord_51 : decode cX7_readWord 51 = .ok (.iadd, 1) := by decide +kernel
theorem dX7_readWord_52 : decode cX7_readWord 52 = .ok (.putfield 39, 3) := by decide +kernel
theorem dX7_readWord_55 : decode cX7_readWord 55 = .ok (.iinc 1 1, 3) := by decide +kernel
theorem dX7_readWord_58 : decode cX7_readWord 58 = .ok (.goto (-53), 3) := by decide +kernel
theorem dX7_readWord_61 : decode cX7_readWord 61 = .ok (.aload_n 0, 1) := by decide +kernel
theorem dX7_readWord_62 : decode cX7_readWord 62 = .ok (.aload_n 0, 1) := by decide +kernel
theorem dX7_readWord_63 : decode cX7_readWord 63 = .ok (.getfield 39, 3) := by decide +kernel
theorem dX7_readWord_66 : decode cX7_readWord 66 = .ok (.aload_n 0, 1) := by decide +kernel
theorem dX7_readWord_67 : decode cX7_readWord 67 = .ok (.getfield 242, 3) := by decide +kernel
theorem dX7_readWord_70 : decode cX7_readWord 70 = .ok (.isub, 1) := by decide +kernel
theorem dX7_readWord_71 : decode cX7_readWord 71 = .ok (.bipush 8, 2) := by decide +kernel
theorem dX7_readWord_73 : decode cX7_readWord 73 = .ok (.if_icmp .le 7, 3) := by decide +kernel
theorem dX7_readWord_76 : decode cX7_readWord 76 = .ok (.iconst 5, 1) := by decide +kernel
theorem dX7_readWord_77 : decode cX7_readWord 77 = .ok (.goto 4, 3) := by decide +kernel
theorem dX7_readWord_80 : decode cX7_readWord 80 = .ok (.iconst 1, 1) := by decide +kernel
theorem dX7_readWord_81 : decode cX7_readWord 81 = .ok (.putfield 92, 3) := by decide +kernel
theorem dX7_readWord_84 : decode cX7_readWord 84 = .ok (.return_, 1) := by decide +kernel
theorem dX7_takeWord_0 : decode cX7_takeWord 0 = .ok (.aload_n 0, 1) := by decide +kernel
theorem dX7_takeWord_1 : decode cX7_takeWord 1 = .ok (.aload_n 1, 1) := by decide +kernel
theorem dX7_takeWord_2 : decode cX7_takeWord 2 = .ok (.invokevirtual 230, 3) := by decide +kernel
theorem dX7_takeWord_5 : decode cX7_takeWord 5 = .ok (.ifCond .ne 5, 3) := by decide +kernel
theorem dX7_takeWord_8 : decode cX7_takeWord 8 = .ok (.iconst 0, 1) := by decide +kernel
theorem dX7_takeWord_9 : decode cX7_takeWord 9 = .ok (.ireturn, 1) := by decide +kernel
theorem dX7_takeWord_10 : decode cX7_takeWord 10 = .ok (.aload_n 0, 1) := by decide +kernel
theorem dX7_takeWord_11 : decode cX7_takeWord 11 = .ok (.invokevirtual 56, 3) := by decide +kernel
theorem dX7_takeWord_14 : decode cX7_takeWord 14 = .ok (.iconst 1, 1) := by decide +kernel
theorem dX7_takeWord_15 : decode cX7_takeWord 15 = .ok (.ireturn, 1) := by decide +kernel
set_option maxHeartbeats 4000000 in
set_option maxRecDepth 100000 in
theorem c7_isLetter (l : Launch) (dC : Nat → ClassId) (dI : Nat → Nat → Nat) (n0 : Nat) (atx : Nat → Nat × Nat) (sz : Nat) (b : Int32) : Met l yX7_isLetter (wM yX7_isLetter cX7_isLetter 1 (some .boolean)) ({ frames := 0, cells := 0, slots := 0, locals := 0 }) (va_Pc [.int b] (fun U => U.heap.size = sz ∧ n0 ≤ sz ∧ GW n0 atx U ∧ va_P (dC, dI) classes [] U.heap ∧ va_K (dC, dI) classes [] U ∧ va_D (fun q => n0 ≤ q) [])) (va_Qi (fun (r : Int32) (_ : Unit) => r = 0 ∨ r = 1) (fun (_ : Unit) (t : State) => va_P (dC, dI) classes [] t.heap ∧ va_K (dC, dI) classes [] t ∧ va_D (va_A [] sz) []) (va_A [] sz)) 0 0 (va_A [] sz) := by
  refine Met.ofW (cc := cX7_isLetter) (maxL := 1) (ret := (some .boolean)) (by decide) rfl ?_
  intro p e s m args below meth c s₁ B hml hv
  obtain ⟨rfl, hsz, hn0, hG, hP, hK, hD0⟩ := hv
  have hx := B.exec
  have hb := B.bytes
  have hr := B.returns
  have hts := atoms_spec (ws := wM yX7_isLetter cX7_isLetter 1 (some .boolean)) B.pre
  have hown : s.vm.findClass RX7 = some m.cls := findClass_of_methodNamed B.named
  have hlocks := B.notSynchronized
  subst hsz
  have hD := hD0.self (sz := s.heap.size)
  have hA0 := vA_n0 hD0 hn0
  generalize hAe : va_A [] s.heap.size = A at hD hA0 ⊢
  have hA : ∀ q : Nat, s.heap.size ≤ q → A q := fun q h => by rw [← hAe]; exact Or.inr h
  have hS : va_S A s.heap s.heap [] := va_S.rf
  have hl := lv_entry ([.int b]) (n := 1) (Nat.le_of_ble_eq_true rfl)
  rw [lg_entry_eq]
  generalize (lg_sl ([.int b]) ++ List.replicate (1 - (lg_sl ([.int b])).length) Slot.unset).toArray = ls at hl ⊢
  have hl : lv_has ls 1 [(0, .int b)] := hl
  refine lv_iload_n hx hb dX7_isLetter_0 rfl (lv_at hl 0 rfl) ?_
  refine lv_bipush (v := 97) hx hb dX7_isLetter_1 (by decide) ?_
  refine lv_icmp_lt (tgt := 16) hx hb dX7_isLetter_3 (by decide) (fun c_1 => ?_) (fun c_1 => ?_)
  · skip
    have g_2 : b.toInt < (97 : Int) := i_lt c_1
    refine lv_iconst (v := 0) hx hb dX7_isLetter_16 (by decide) ?_
    have hP9 := hP.sub (ws' := []) [] rfl
    have hD9 := hD.sub (ws' := []) [] (by decide) rfl
    have hK9 := hK.sub (tys' := []) [] rfl
    exact W.zret (v := 0) hx hb hr rfl (fun t ht hW => ⟨⟨0, (), rfl, (Or.inl rfl), by rw [ht]; exact hP9, va_K.moved hW.alike hK9, hD9⟩, hS.F ht⟩) hS.2.2 dX7_isLetter_17
  · skip
    have g_3 : (97 : Int) ≤ b.toInt := i_nlt c_1
    refine lv_iload_n hx hb dX7_isLetter_6 rfl (lv_at hl 0 rfl) ?_
    refine lv_bipush (v := 122) hx hb dX7_isLetter_7 (by decide) ?_
    refine lv_icmp_gt (tgt := 16) hx hb dX7_isLetter_9 (by decide) (fun c_4 => ?_) (fun c_4 => ?_)
    · skip
      have g_5 : (122 : Int) < b.toInt := i_lt c_4
      refine lv_iconst (v := 0) hx hb dX7_isLetter_16 (by decide) ?_
      have hP9 := hP.sub (ws' := []) [] rfl
      have hD9 := hD.sub (ws' := []) [] (by decide) rfl
      have hK9 := hK.sub (tys' := []) [] rfl
      exact W.zret (v := 0) hx hb hr rfl (fun t ht hW => ⟨⟨0, (), rfl, (Or.inl rfl), by rw [ht]; exact hP9, va_K.moved hW.alike hK9, hD9⟩, hS.F ht⟩) hS.2.2 dX7_isLetter_17
    · skip
      have g_6 : b.toInt ≤ (122 : Int) := i_nlt c_4
      refine lv_iconst (v := 1) hx hb dX7_isLetter_12 (by decide) ?_
      refine lv_goto (tgt := 17) hx hb dX7_isLetter_13 (by decide) ?_
      have hP9 := hP.sub (ws' := []) [] rfl
      have hD9 := hD.sub (ws' := []) [] (by decide) rfl
      have hK9 := hK.sub (tys' := []) [] rfl
      exact W.zret (v := 1) hx hb hr rfl (fun t ht hW => ⟨⟨1, (), rfl, (Or.inr rfl), by rw [ht]; exact hP9, va_K.moved hW.alike hK9, hD9⟩, hS.F ht⟩) hS.2.2 dX7_isLetter_17
set_option maxHeartbeats 4000000 in
set_option maxRecDepth 100000 in
theorem c7_isDigit (l : Launch) (dC : Nat → ClassId) (dI : Nat → Nat → Nat) (n0 : Nat) (atx : Nat → Nat × Nat) (sz : Nat) (b : Int32) : Met l yX7_isDigit (wM yX7_isDigit cX7_isDigit 1 (some .boolean)) ({ frames := 0, cells := 0, slots := 0, locals := 0 }) (va_Pc [.int b] (fun U => U.heap.size = sz ∧ n0 ≤ sz ∧ GW n0 atx U ∧ va_P (dC, dI) classes [] U.heap ∧ va_K (dC, dI) classes [] U ∧ va_D (fun q => n0 ≤ q) [])) (va_Qi (fun (r : Int32) (_ : Unit) => r = 0 ∨ r = 1) (fun (_ : Unit) (t : State) => va_P (dC, dI) classes [] t.heap ∧ va_K (dC, dI) classes [] t ∧ va_D (va_A [] sz) []) (va_A [] sz)) 0 0 (va_A [] sz) := by
  refine Met.ofW (cc := cX7_isDigit) (maxL := 1) (ret := (some .boolean)) (by decide) rfl ?_
  intro p e s m args below meth c s₁ B hml hv
  obtain ⟨rfl, hsz, hn0, hG, hP, hK, hD0⟩ := hv
  have hx := B.exec
  have hb := B.bytes
  have hr := B.returns
  have hts := atoms_spec (ws := wM yX7_isDigit cX7_isDigit 1 (some .boolean)) B.pre
  have hown : s.vm.findClass RX7 = some m.cls := findClass_of_methodNamed B.named
  have hlocks := B.notSynchronized
  subst hsz
  have hD := hD0.self (sz := s.heap.size)
  have hA0 := vA_n0 hD0 hn0
  generalize hAe : va_A [] s.heap.size = A at hD hA0 ⊢
  have hA : ∀ q : Nat, s.heap.size ≤ q → A q := fun q h => by rw [← hAe]; exact Or.inr h
  have hS : va_S A s.heap s.heap [] := va_S.rf
  have hl := lv_entry ([.int b]) (n := 1) (Nat.le_of_ble_eq_true rfl)
  rw [lg_entry_eq]
  generalize (lg_sl ([.int b]) ++ List.replicate (1 - (lg_sl ([.int b])).length) Slot.unset).toArray = ls at hl ⊢
  have hl : lv_has ls 1 [(0, .int b)] := hl
  refine lv_iload_n hx hb dX7_isDigit_0 rfl (lv_at hl 0 rfl) ?_
  refine lv_bipush (v := 48) hx hb dX7_isDigit_1 (by decide) ?_
  refine lv_icmp_lt (tgt := 16) hx hb dX7_isDigit_3 (by decide) (fun c_1 => ?_) (fun c_1 => ?_)
  · skip
    have g_2 : b.toInt < (48 : Int) := i_lt c_1
    refine lv_iconst (v := 0) hx hb dX7_isDigit_16 (by decide) ?_
    have hP9 := hP.sub (ws' := []) [] rfl
    have hD9 := hD.sub (ws' := []) [] (by decide) rfl
    have hK9 := hK.sub (tys' := []) [] rfl
    exact W.zret (v := 0) hx hb hr rfl (fun t ht hW => ⟨⟨0, (), rfl, (Or.inl rfl), by rw [ht]; exact hP9, va_K.moved hW.alike hK9, hD9⟩, hS.F ht⟩) hS.2.2 dX7_isDigit_17
  · skip
    have g_3 : (48 : Int) ≤ b.toInt := i_nlt c_1
    refine lv_iload_n hx hb dX7_isDigit_6 rfl (lv_at hl 0 rfl) ?_
    refine lv_bipush (v := 57) hx hb dX7_isDigit_7 (by decide) ?_
    refine lv_icmp_gt (tgt := 16) hx hb dX7_isDigit_9 (by decide) (fun c_4 => ?_) (fun c_4 => ?_)
    · skip
      have g_5 : (57 : Int) < b.toInt := i_lt c_4
      refine lv_iconst (v := 0) hx hb dX7_isDigit_16 (by decide) ?_
      have hP9 := hP.sub (ws' := []) [] rfl
      have hD9 := hD.sub (ws' := []) [] (by decide) rfl
      have hK9 := hK.sub (tys' := []) [] rfl
      exact W.zret (v := 0) hx hb hr rfl (fun t ht hW => ⟨⟨0, (), rfl, (Or.inl rfl), by rw [ht]; exact hP9, va_K.moved hW.alike hK9, hD9⟩, hS.F ht⟩) hS.2.2 dX7_isDigit_17
    · skip
      have g_6 : b.toInt ≤ (57 : Int) := i_nlt c_4
      refine lv_iconst (v := 1) hx hb dX7_isDigit_12 (by decide) ?_
      refine lv_goto (tgt := 17) hx hb dX7_isDigit_13 (by decide) ?_
      have hP9 := hP.sub (ws' := []) [] rfl
      have hD9 := hD.sub (ws' := []) [] (by decide) rfl
      have hK9 := hK.sub (tys' := []) [] rfl
      exact W.zret (v := 1) hx hb hr rfl (fun t ht hW => ⟨⟨1, (), rfl, (Or.inr rfl), by rw [ht]; exact hP9, va_K.moved hW.alike hK9, hD9⟩, hS.F ht⟩) hS.2.2 dX7_isDigit_17
set_option maxHeartbeats 4000000 in
set_option maxRecDepth 100000 in
theorem c7_readWord (l : Launch) (dC : Nat → ClassId) (dI : Nat → Nat → Nat) (n0 : Nat) (atx : Nat → Nat × Nat) (sz : Nat) (rd : Nat) (rd_tape : Nat) (fd1 : Int32) (fa1 : Int32) (fp1 : Int32) (bk : Nat) (rd_names : Nat) (rd_nameKind : Nat) (rd_nameNumber : Nat) (nm : Nat) (rd_knotNames : Nat) (en : Nat) (at1 : Nat) (tk1 : Int32) (ts1 : Int32) (tv1 : Int64) (k_rd_tape : ClassId) (f_rd_tape : Nat → Int32) (h_en : en ≤ 600) (h_at : at1 ≤ en) : Met l yX7_readWord (wM yX7_readWord cX7_readWord 2 none) ({ frames := 1, cells := 0, slots := 0, locals := 20 }) (va_Pc [.ref rd] (fun U => U.heap.size = sz ∧ n0 ≤ sz ∧ GW n0 atx U ∧ va_P (dC, dI) classes [(rd, .inr (7, [.ref rd_tape, .int fd1, .int fa1, .int fp1, .ref bk, .ref rd_names, .ref rd_nameKind, .ref rd_nameNumber, .int (nI nm), .ref rd_knotNames, .int (nI en), .int (nI at1), .int tk1, .int ts1, .long tv1])), (rd_tape, .inl (k_rd_tape, 600, .inl f_rd_tape))] U.heap ∧ va_K (dC, dI) classes [(k_rd_tape, .int)] U ∧ va_D (fun q => n0 ≤ q) [(rd, .inr (7, [.ref rd_tape, .int fd1, .int fa1, .int fp1, .ref bk, .ref rd_names, .ref rd_nameKind, .ref rd_nameNumber, .int (nI nm), .ref rd_knotNames, .int (nI en), .int (nI at1), .int tk1, .int ts1, .long tv1])), (rd_tape, .inl (k_rd_tape, 600, .inl f_rd_tape))])) (va_Qv (fun _ : Unit => True) (fun (_ : Unit) (t : State) => ∃ (at9 : Nat), ∃ (tk9 : Int32), ∃ (tv9 : Int64), (at9 ≤ en) ∧ va_P (dC, dI) classes [(rd, .inr (7, [.ref rd_tape, .int fd1, .int fa1, .int fp1, .ref bk, .ref rd_names, .ref rd_nameKind, .ref rd_nameNumber, .int (nI nm), .ref rd_knotNames, .int (nI en), .int (nI at9), .int tk9, .int ts1, .long tv9])), (rd_tape, .inl (k_rd_tape, 600, .inl f_rd_tape))] t.heap ∧ va_K (dC, dI) classes [(k_rd_tape, .int)] t ∧ va_D (va_A [(rd, .inr (7, [.ref rd_tape, .int fd1, .int fa1, .int fp1, .ref bk, .ref rd_names, .ref rd_nameKind, .ref rd_nameNumber, .int (nI nm), .ref rd_knotNames, .int (nI en), .int (nI at1), .int tk1, .int ts1, .long tv1])), (rd_tape, .inl (k_rd_tape, 600, .inl f_rd_tape))] sz) [(rd, .inr (7, [.ref rd_tape, .int fd1, .int fa1, .int fp1, .ref bk, .ref rd_names, .ref rd_nameKind, .ref rd_nameNumber, .int (nI nm), .ref rd_knotNames, .int (nI en), .int (nI at9), .int tk9, .int ts1, .long tv9])), (rd_tape, .inl (k_rd_tape, 600, .inl f_rd_tape))]) (va_A [(rd, .inr (7, [.ref rd_tape, .int fd1, .int fa1, .int fp1, .ref bk, .ref rd_names, .ref rd_nameKind, .ref rd_nameNumber, .int (nI nm), .ref rd_knotNames, .int (nI en), .int (nI at1), .int tk1, .int ts1, .long tv1])), (rd_tape, .inl (k_rd_tape, 600, .inl f_rd_tape))] sz)) 0 0 (va_A [(rd, .inr (7, [.ref rd_tape, .int fd1, .int fa1, .int fp1, .ref bk, .ref rd_names, .ref rd_nameKind, .ref rd_nameNumber, .int (nI nm), .ref rd_knotNames, .int (nI en), .int (nI at1), .int tk1, .int ts1, .long tv1])), (rd_tape, .inl (k_rd_tape, 600, .inl f_rd_tape))] sz) := by
  refine Met.ofW (cc := cX7_readWord) (maxL := 2) (ret := none) (by decide) rfl ?_
  intro p e s m args below meth c s₁ B hml hv
  obtain ⟨rfl, hsz, hn0, hG, hP, hK, hD0⟩ := hv
  have hx := B.exec
  have hb := B.bytes
  have hr := B.returns
  have hts := atoms_spec (ws := wM yX7_readWord cX7_readWord 2 none) B.pre
  have hown : s.vm.findClass RX7 = some m.cls := findClass_of_methodNamed B.named
  have hlocks := B.notSynchronized
  subst hsz
  have hD := hD0.self (sz := s.heap.size)
  have hA0 := vA_n0 hD0 hn0
  generalize hAe : va_A [(rd, .inr (7, [.ref rd_tape, .int fd1, .int fa1, .int fp1, .ref bk, .ref rd_names, .ref rd_nameKind, .ref rd_nameNumber, .int (nI nm), .ref rd_knotNames, .int (nI en), .int (nI at1), .int tk1, .int ts1, .long tv1])), (rd_tape, .inl (k_rd_tape, 600, .inl f_rd_tape))] s.heap.size = A at hD hA0 ⊢
  have hA : ∀ q : Nat, s.heap.size ≤ q → A q := fun q h => by rw [← hAe]; exact Or.inr h
  have hS : va_S A s.heap s.heap [] := va_S.rf
  have hl := lv_entry ([.ref rd]) (n := 2) (Nat.le_of_ble_eq_true rfl)
  rw [lg_entry_eq]
  generalize (lg_sl ([.ref rd]) ++ List.replicate (2 - (lg_sl ([.ref rd])).length) Slot.unset).toArray = ls at hl ⊢
  have hl : lv_has ls 2 [(0, .ref rd)] := hl
  refine lv_aload_n hx hb dX7_readWord_0 rfl (lv_at hl 0 rfl) ?_
  refine va_get (D := (dC, dI)) (ci := 7) (v := .int (nI at1)) (C := RX7) (T := TX7) (N := 15) hx hb hts (fun w h => wM_c (iX7 w h)) hown hK hP 0 rfl rfl 11 (by decide) (hts _ (wM_c wd_347)) (fun _ h9 => h9) rfl dX7_readWord_1 ?_
  refine lv_istore_n (lv' := [(1, .int (nI at1)), (0, .ref rd)]) hx hb dX7_readWord_4 rfl hl (by decide) rfl (fun ls hl => ?_)
  refine W_lp3 (I := fun (i : Nat) (a2 : Nat) (t2 : Int64) H locs ls => (i ≤ en ∧ a2 ≤ en) ∧ va_P (dC, dI) classes [(rd, .inr (7, [.ref rd_tape, .int fd1, .int fa1, .int fp1, .ref bk, .ref rd_names, .ref rd_nameKind, .ref rd_nameNumber, .int (nI nm), .ref rd_knotNames, .int (nI en), .int (nI a2), .int tk1, .int ts1, .long t2])), (rd_tape, .inl (k_rd_tape, 600, .inl f_rd_tape))] H ∧ va_D A [(rd, .inr (7, [.ref rd_tape, .int fd1, .int fa1, .int fp1, .ref bk, .ref rd_names, .ref rd_nameKind, .ref rd_nameNumber, .int (nI nm), .ref rd_knotNames, .int (nI en), .int (nI a2), .int tk1, .int ts1, .long t2])), (rd_tape, .inl (k_rd_tape, 600, .inl f_rd_tape))] ∧ va_S A s.heap H locs ∧ lv_has ls 2 [(0, .ref rd), (1, .int (nI i))]) (μ := fun (i : Nat) (a2 : Nat) (t2 : Int64) => en - i) ?_ at1 at1 tv1 _ _ _ ⟨(by first | with_reducible assumption | omega | exact vp_in_iff.mpr (by omega) | exact vp_in_nI (by omega) (by omega) | exact ⟨by omega, by omega⟩), hP, hD, hS, lv_sub hl [1, 0] rfl⟩
  intro i a2 t2 H locs ls hI ih_1
  obtain ⟨hi, hP, hD, hS, hl⟩ := hI
  refine lv_iload_n hx hb dX7_readWord_5 rfl (lv_at hl 1 rfl) ?_
  refine lv_aload_n hx hb dX7_readWord_6 rfl (lv_at hl 0 rfl) ?_
  refine va_get (D := (dC, dI)) (ci := 7) (v := .int (nI en)) (C := RX7) (T := TX7) (N := 15) hx hb hts (fun w h => wM_c (iX7 w h)) hown hK hP 0 rfl rfl 10 (by decide) (hts _ (wM_c wd_346)) (fun _ h9 => h9) rfl dX7_readWord_7 ?_
  refine lv_icmp_ge (tgt := 61) hx hb dX7_readWord_10 (by decide) (fun c_2 => ?_) (fun c_2 => ?_)
  · skip
    have g_3 := n_ge (a := i) (b := en) c_2 (by omega) (by omega)
    refine lv_aload_n hx hb dX7_readWord_61 rfl (lv_at hl 0 rfl) ?_
    refine lv_aload_n hx hb dX7_readWord_62 rfl (lv_at hl 0 rfl) ?_
    refine va_get (D := (dC, dI)) (ci := 7) (v := .int (nI a2)) (C := RX7) (T := TX7) (N := 15) hx hb hts (fun w h => wM_c (iX7 w h)) hown hK hP 0 rfl rfl 11 (by decide) (hts _ (wM_c wd_347)) (fun _ h9 => h9) rfl dX7_readWord_63 ?_
    refine lv_aload_n hx hb dX7_readWord_66 rfl (lv_at hl 0 rfl) ?_
    refine va_get (D := (dC, dI)) (ci := 7) (v := .int ts1) (C := RX7) (T := TX7) (N := 15) hx hb hts (fun w h => wM_c (iX7 w h)) hown hK hP 0 rfl rfl 13 (by decide) (hts _ (wM_c wd_349)) (fun _ h9 => h9) rfl dX7_readWord_67 ?_
    refine lv_isub hx hb dX7_readWord_70 ?_
    refine lv_topi (fun v_4 ev_4 => ?_)
    refine lv_bipush (v := 8) hx hb dX7_readWord_71 (by decide) ?_
    refine lv_icmp_le (tgt := 80) hx hb dX7_readWord_73 (by decide) (fun c_5 => ?_) (fun c_5 => ?_)
    · skip
      have g_6 : v_4.toInt ≤ (8 : Int) := i_le c_5
      refine lv_iconst (v := 1) hx hb dX7_readWord_80 (by decide) ?_
      refine va_put (D := (dC, dI)) (ci := 7) (v := .int 1) (ty := .int) (C := RX7) (T := TX7) (N := 15) hx hb hts (fun w h => wM_c (iX7 w h)) tyX7 tyX7_ok nmX7 hown hK hP hD hS 0 rfl rfl 12 (by decide) (hts _ (wM_c wd_348)) (fun _ h9 => h9) rfl (by decide +kernel) rfl rfl (Nat.le_of_ble_eq_true rfl) dX7_readWord_81 (fun H locs hP hD hS => ?_)
      have hP : va_P (dC, dI) classes [(rd, .inr (7, [.ref rd_tape, .int fd1, .int fa1, .int fp1, .ref bk, .ref rd_names, .ref rd_nameKind, .ref rd_nameNumber, .int (nI nm), .ref rd_knotNames, .int (nI en), .int (nI a2), .int 1, .int ts1, .long t2])), (rd_tape, .inl (k_rd_tape, 600, .inl f_rd_tape))] H := hP
      have hD : va_D A [(rd, .inr (7, [.ref rd_tape, .int fd1, .int fa1, .int fp1, .ref bk, .ref rd_names, .ref rd_nameKind, .ref rd_nameNumber, .int (nI nm), .ref rd_knotNames, .int (nI en), .int (nI a2), .int 1, .int ts1, .long t2])), (rd_tape, .inl (k_rd_tape, 600, .inl f_rd_tape))] := hD
      have hP9 := hP.sub (ws' := [(rd, .inr (7, [.ref rd_tape, .int fd1, .int fa1, .int fp1, .ref bk, .ref rd_names, .ref rd_nameKind, .ref rd_nameNumber, .int (nI nm), .ref rd_knotNames, .int (nI en), .int (nI a2), .int 1, .int ts1, .long t2])), (rd_tape, .inl (k_rd_tape, 600, .inl f_rd_tape))]) [0, 1] rfl
      have hD9 := hD.sub (ws' := [(rd, .inr (7, [.ref rd_tape, .int fd1, .int fa1, .int fp1, .ref bk, .ref rd_names, .ref rd_nameKind, .ref rd_nameNumber, .int (nI nm), .ref rd_knotNames, .int (nI en), .int (nI a2), .int 1, .int ts1, .long t2])), (rd_tape, .inl (k_rd_tape, 600, .inl f_rd_tape))]) [0, 1] (by decide) rfl
      have hK9 := hK.sub (tys' := [(k_rd_tape, .int)]) [0] rfl
      exact W.vret hx hb hr (fun t ht hW => ⟨⟨(), rfl, trivial, a2, 1, t2, (by first | with_reducible assumption | omega | exact vp_in_iff.mpr (by omega) | exact vp_in_nI (by omega) (by omega) | exact ⟨by omega, by omega⟩), by rw [ht]; exact hP9, va_K.moved hW.alike hK9, hD9⟩, hS.F ht⟩) hS.2.2 dX7_readWord_84
    · skip
      have g_7 : (8 : Int) < v_4.toInt := i_nle c_5
      refine lv_iconst (v := 5) hx hb dX7_readWord_76 (by decide) ?_
      refine lv_goto (tgt := 81) hx hb dX7_readWord_77 (by decide) ?_
      refine va_put (D := (dC, dI)) (ci := 7) (v := .int 5) (ty := .int) (C := RX7) (T := TX7) (N := 15) hx hb hts (fun w h => wM_c (iX7 w h)) tyX7 tyX7_ok nmX7 hown hK hP hD hS 0 rfl rfl 12 (by decide) (hts _ (wM_c wd_348)) (fun _ h9 => h9) rfl (by decide +kernel) rfl rfl (Nat.le_of_ble_eq_true rfl) dX7_readWord_81 (fun H locs hP hD hS => ?_)
      have hP : va_P (dC, dI) classes [(rd, .inr (7, [.ref rd_tape, .int fd1, .int fa1, .int fp1, .ref bk, .ref rd_names, .ref rd_nameKind, .ref rd_nameNumber, .int (nI nm), .ref rd_knotNames, .int (nI en), .int (nI a2), .int 5, .int ts1, .long t2])), (rd_tape, .inl (k_rd_tape, 600, .inl f_rd_tape))] H := hP
      have hD : va_D A [(rd, .inr (7, [.ref rd_tape, .int fd1, .int fa1, .int fp1, .ref bk, .ref rd_names, .ref rd_nameKind, .ref rd_nameNumber, .int (nI nm), .ref rd_knotNames, .int (nI en), .int (nI a2), .int 5, .int ts1, .long t2])), (rd_tape, .inl (k_rd_tape, 600, .inl f_rd_tape))] := hD
      have hP9 := hP.sub (ws' := [(rd, .inr (7, [.ref rd_tape, .int fd1, .int fa1, .int fp1, .ref bk, .ref rd_names, .ref rd_nameKind, .ref rd_nameNumber, .int (nI nm), .ref rd_knotNames, .int (nI en), .int (nI a2), .int 5, .int ts1, .long t2])), (rd_tape, .inl (k_rd_tape, 600, .inl f_rd_tape))]) [0, 1] rfl
      have hD9 := hD.sub (ws' := [(rd, .inr (7, [.ref rd_tape, .int fd1, .int fa1, .int fp1, .ref bk, .ref rd_names, .ref rd_nameKind, .ref rd_nameNumber, .int (nI nm), .ref rd_knotNames, .int (nI en), .int (nI a2), .int 5, .int ts1, .long t2])), (rd_tape, .inl (k_rd_tape, 600, .inl f_rd_tape))]) [0, 1] (by decide) rfl
      have hK9 := hK.sub (tys' := [(k_rd_tape, .int)]) [0] rfl
      exact W.vret hx hb hr (fun t ht hW => ⟨⟨(), rfl, trivial, a2, 5, t2, (by first | with_reducible assumption | omega | exact vp_in_iff.mpr (by omega) | exact vp_in_nI (by omega) (by omega) | exact ⟨by omega, by omega⟩), by rw [ht]; exact hP9, va_K.moved hW.alike hK9, hD9⟩, hS.F ht⟩) hS.2.2 dX7_readWord_84
  · skip
    have g_8 := n_nge (a := i) (b := en) c_2 (by omega) (by omega)
    refine lv_aload_n hx hb dX7_readWord_13 rfl (lv_at hl 0 rfl) ?_
    refine va_get (D := (dC, dI)) (ci := 7) (v := .ref rd_tape) (C := RX7) (T := TX7) (N := 15) hx hb hts (fun w h => wM_c (iX7 w h)) hown hK hP 0 rfl rfl 0 (by decide) (hts _ (wM_c wd_333)) (fun _ h9 => h9) rfl dX7_readWord_14 ?_
    refine lv_iload_n hx hb dX7_readWord_17 rfl (lv_at hl 1 rfl) ?_
    refine va_iald hx hb hK hP 1 0 rfl rfl (vp_in_nI (n := i) (by omega) (by omega)) dX7_readWord_18 ?_
    refine lv_topi (fun v_9 ev_9 => ?_)
    have nv_9 : v_9 = f_rd_tape i := by rw [ev_9]; exact congrArg _ (nI_clamp (by omega))
    have hPc := hP.sub (ws' := []) [] rfl
    have hDc := hD.sub (ws' := []) [] (by decide) rfl
    have hKc := hK.sub (tys' := []) [] rfl
    have hFc := va_free (wc := []) hD hS hA [] rfl
    refine va_calli (va_runS (As := [.int v_9]) (rest := []) ⟨hx, hb, hml, hown, hts⟩ (c7_isLetter l dC dI n0 atx H.size v_9 ) (va_cwS 1 hts (gS (fun w h => wM_c h) wd_738 wd_736 wd_737 wd_117) rfl rfl rfl (by decide +kernel) ⟨Nat.le_of_ble_eq_true rfl, Nat.le_of_ble_eq_true rfl⟩) ⟨fun a U g mk q => by obtain ⟨q0, q1, q2, qG, qP, qK, qD⟩ := q; exact ⟨q0, q1, q2, GW.blind qG, qP, va_K.moved (u := U) (U := U.calling g mk a) (Vm.Alike.refl U.vm) qK, qD⟩, fun U hU hW => ⟨rfl, by rw [hU], Nat.le_trans hn0 hS.1, GW.go hW hU hG (fun q hq hA9 => hS.2.1 q hq (fun h => hA9 (hA0 q h))), by rw [hU]; exact hPc, va_K.moved hW.alike hKc, hDc.weaken (fun _ _ _ h => hA0 _ h)⟩⟩ rfl rfl hl.1 rfl (lv_room (Nat.le_of_ble_eq_true rfl)) dX7_readWord_19 ⟨Nat.le_of_ble_eq_true rfl, Nat.le_of_ble_eq_true rfl⟩) hS (fun q _ h => hFc q h) hFc (fun r_10 u t H1 locs ht hvm hw_11 hB hz1 hk1 hS => ?_)
    obtain ⟨hP1, hK1, hD1⟩ := hB
    rw [ht] at hP1
    obtain ⟨hP, hD⟩ := va_join (wr := [(rd, .inr (7, [.ref rd_tape, .int fd1, .int fa1, .int fp1, .ref bk, .ref rd_names, .ref rd_nameKind, .ref rd_nameNumber, .int (nI nm), .ref rd_knotNames, .int (nI en), .int (nI a2), .int tk1, .int ts1, .long t2])), (rd_tape, .inl (k_rd_tape, 600, .inl f_rd_tape))]) (w1 := []) hP hD [] [0, 1] rfl rfl (by decide) (by decide) hk1 hFc hP1 hD1
    generalize H1 = H at hP hS ⊢
    have hP : va_P (dC, dI) classes [(rd, .inr (7, [.ref rd_tape, .int fd1, .int fa1, .int fp1, .ref bk, .ref rd_names, .ref rd_nameKind, .ref rd_nameNumber, .int (nI nm), .ref rd_knotNames, .int (nI en), .int (nI a2), .int tk1, .int ts1, .long t2])), (rd_tape, .inl (k_rd_tape, 600, .inl f_rd_tape))] H := hP
    have hD : va_D A [(rd, .inr (7, [.ref rd_tape, .int fd1, .int fa1, .int fp1, .ref bk, .ref rd_names, .ref rd_nameKind, .ref rd_nameNumber, .int (nI nm), .ref rd_knotNames, .int (nI en), .int (nI a2), .int tk1, .int ts1, .long t2])), (rd_tape, .inl (k_rd_tape, 600, .inl f_rd_tape))] := hD
    rcases hw_11 with rfl | rfl
    · skip
      refine lv_if_eq (tgt := 61) hx hb dX7_readWord_22 (by decide) (fun c_12 => ?_) (fun c_12 => ?_)
      · skip
        refine lv_aload_n hx hb dX7_readWord_61 rfl (lv_at hl 0 rfl) ?_
        refine lv_aload_n hx hb dX7_readWord_62 rfl (lv_at hl 0 rfl) ?_
        refine va_get (D := (dC, dI)) (ci := 7) (v := .int (nI a2)) (C := RX7) (T := TX7) (N := 15) hx hb hts (fun w h => wM_c (iX7 w h)) hown hK hP 0 rfl rfl 11 (by decide) (hts _ (wM_c wd_347)) (fun _ h9 => h9) rfl dX7_readWord_63 ?_
        refine lv_aload_n hx hb dX7_readWord_66 rfl (lv_at hl 0 rfl) ?_
        refine va_get (D := (dC, dI)) (ci := 7) (v := .int ts1) (C := RX7) (T := TX7) (N := 15) hx hb hts (fun w h => wM_c (iX7 w h)) hown hK hP 0 rfl rfl 13 (by decide) (hts _ (wM_c wd_349)) (fun _ h9 => h9) rfl dX7_readWord_67 ?_
        refine lv_isub hx hb dX7_readWord_70 ?_
        refine lv_topi (fun v_13 ev_13 => ?_)
        refine lv_bipush (v := 8) hx hb dX7_readWord_71 (by decide) ?_
        refine lv_icmp_le (tgt := 80) hx hb dX7_readWord_73 (by decide) (fun c_14 => ?_) (fun c_14 => ?_)
        · skip
          have g_15 : v_13.toInt ≤ (8 : Int) := i_le c_14
          refine lv_iconst (v := 1) hx hb dX7_readWord_80 (by decide) ?_
          refine va_put (D := (dC, dI)) (ci := 7) (v := .int 1) (ty := .int) (C := RX7) (T := TX7) (N := 15) hx hb hts (fun w h => wM_c (iX7 w h)) tyX7 tyX7_ok nmX7 hown hK hP hD hS 0 rfl rfl 12 (by decide) (hts _ (wM_c wd_348)) (fun _ h9 => h9) rfl (by decide +kernel) rfl rfl (Nat.le_of_ble_eq_true rfl) dX7_readWord_81 (fun H locs hP hD hS => ?_)
          have hP : va_P (dC, dI) classes [(rd, .inr (7, [.ref rd_tape, .int fd1, .int fa1, .int fp1, .ref bk, .ref rd_names, .ref rd_nameKind, .ref rd_nameNumber, .int (nI nm), .ref rd_knotNames, .int (nI en), .int (nI a2), .int 1, .int ts1, .long t2])), (rd_tape, .inl (k_rd_tape, 600, .inl f_rd_tape))] H := hP
          have hD : va_D A [(rd, .inr (7, [.ref rd_tape, .int fd1, .int fa1, .int fp1, .ref bk, .ref rd_names, .ref rd_nameKind, .ref rd_nameNumber, .int (nI nm), .ref rd_knotNames, .int (nI en), .int (nI a2), .int 1, .int ts1, .long t2])), (rd_tape, .inl (k_rd_tape, 600, .inl f_rd_tape))] := hD
          have hP9 := hP.sub (ws' := [(rd, .inr (7, [.ref rd_tape, .int fd1, .int fa1, .int fp1, .ref bk, .ref rd_names, .ref rd_nameKind, .ref rd_nameNumber, .int (nI nm), .ref rd_knotNames, .int (nI en), .int (nI a2), .int 1, .int ts1, .long t2])), (rd_tape, .inl (k_rd_tape, 600, .inl f_rd_tape))]) [0, 1] rfl
          have hD9 := hD.sub (ws' := [(rd, .inr (7, [.ref rd_tape, .int fd1, .int fa1, .int fp1, .ref bk, .ref rd_names, .ref rd_nameKind, .ref rd_nameNumber, .int (nI nm), .ref rd_knotNames, .int (nI en), .int (nI a2), .int 1, .int ts1, .long t2])), (rd_tape, .inl (k_rd_tape, 600, .inl f_rd_tape))]) [0, 1] (by decide) rfl
          have hK9 := hK.sub (tys' := [(k_rd_tape, .int)]) [0] rfl
          exact W.vret hx hb hr (fun t ht hW => ⟨⟨(), rfl, trivial, a2, 1, t2, (by first | with_reducible assumption | omega | exact vp_in_iff.mpr (by omega) | exact vp_in_nI (by omega) (by omega) | exact ⟨by omega, by omega⟩), by rw [ht]; exact hP9, va_K.moved hW.alike hK9, hD9⟩, hS.F ht⟩) hS.2.2 dX7_readWord_84
        · skip
          have g_16 : (8 : Int) < v_13.toInt := i_nle c_14
          refine lv_iconst (v := 5) hx hb dX7_readWord_76 (by decide) ?_
          refine lv_goto (tgt := 81) hx hb dX7_readWord_77 (by decide) ?_
          refine va_put (D := (dC, dI)) (ci := 7) (v := .int 5) (ty := .int) (C := RX7) (T := TX7) (N := 15) hx hb hts (fun w h => wM_c (iX7 w h)) tyX7 tyX7_ok nmX7 hown hK hP hD hS 0 rfl rfl 12 (by decide) (hts _ (wM_c wd_348)) (fun _ h9 => h9) rfl (by decide +kernel) rfl rfl (Nat.le_of_ble_eq_true rfl) dX7_readWord_81 (fun H locs hP hD hS => ?_)
          have hP : va_P (dC, dI) classes [(rd, .inr (7, [.ref rd_tape, .int fd1, .int fa1, .int fp1, .ref bk, .ref rd_names, .ref rd_nameKind, .ref rd_nameNumber, .int (nI nm), .ref rd_knotNames, .int (nI en), .int (nI a2), .int 5, .int ts1, .long t2])), (rd_tape, .inl (k_rd_tape, 600, .inl f_rd_tape))] H := hP
          have hD : va_D A [(rd, .inr (7, [.ref rd_tape, .int fd1, .int fa1, .int fp1, .ref bk, .ref rd_names, .ref rd_nameKind, .ref rd_nameNumber, .int (nI nm), .ref rd_knotNames, .int (nI en), .int (nI a2), .int 5, .int ts1, .long t2])), (rd_tape, .inl (k_rd_tape, 600, .inl f_rd_tape))] := hD
          have hP9 := hP.sub (ws' := [(rd, .inr (7, [.ref rd_tape, .int fd1, .int fa1, .int fp1, .ref bk, .ref rd_names, .ref rd_nameKind, .ref rd_nameNumber, .int (nI nm), .ref rd_knotNames, .int (nI en), .int (nI a2), .int 5, .int ts1, .long t2])), (rd_tape, .inl (k_rd_tape, 600, .inl f_rd_tape))]) [0, 1] rfl
          have hD9 := hD.sub (ws' := [(rd, .inr (7, [.ref rd_tape, .int fd1, .int fa1, .int fp1, .ref bk, .ref rd_names, .ref rd_nameKind, .ref rd_nameNumber, .int (nI nm), .ref rd_knotNames, .int (nI en), .int (nI a2), .int 5, .int ts1, .long t2])), (rd_tape, .inl (k_rd_tape, 600, .inl f_rd_tape))]) [0, 1] (by decide) rfl
          have hK9 := hK.sub (tys' := [(k_rd_tape, .int)]) [0] rfl
          exact W.vret hx hb hr (fun t ht hW => ⟨⟨(), rfl, trivial, a2, 5, t2, (by first | with_reducible assumption | omega | exact vp_in_iff.mpr (by omega) | exact vp_in_nI (by omega) (by omega) | exact ⟨by omega, by omega⟩), by rw [ht]; exact hP9, va_K.moved hW.alike hK9, hD9⟩, hS.F ht⟩) hS.2.2 dX7_readWord_84
      · exact absurd c_12 (by decide)
    · skip
      refine lv_if_eq (tgt := 61) hx hb dX7_readWord_22 (by decide) (fun c_17 => ?_) (fun c_17 => ?_)
      · exact absurd c_17 (by decide)
      refine lv_aload_n hx hb dX7_readWord_25 rfl (lv_at hl 0 rfl) ?_
      refine lv_aload_n hx hb dX7_readWord_26 rfl (lv_at hl 0 rfl) ?_
      refine va_get (D := (dC, dI)) (ci := 7) (v := .long t2) (C := RX7) (T := TX7) (N := 15) hx hb hts (fun w h => wM_c (iX7 w h)) hown hK hP 0 rfl rfl 14 (by decide) (hts _ (wM_c wd_350)) (fun _ h9 => h9) rfl dX7_readWord_27 ?_
      refine lv_iconst (v := 5) hx hb dX7_readWord_30 (by decide) ?_
      refine lv_lshl hx hb dX7_readWord_31 rfl ?_
      refine lv_topl (fun v_18 ev_18 => ?_)
      refine lv_aload_n hx hb dX7_readWord_32 rfl (lv_at hl 0 rfl) ?_
      refine va_get (D := (dC, dI)) (ci := 7) (v := .ref rd_tape) (C := RX7) (T := TX7) (N := 15) hx hb hts (fun w h => wM_c (iX7 w h)) hown hK hP 0 rfl rfl 0 (by decide) (hts _ (wM_c wd_333)) (fun _ h9 => h9) rfl dX7_readWord_33 ?_
      refine lv_iload_n hx hb dX7_readWord_36 rfl (lv_at hl 1 rfl) ?_
      refine va_iald hx hb hK hP 1 0 rfl rfl (vp_in_nI (n := i) (by omega) (by omega)) dX7_readWord_37 ?_
      refine lv_topi (fun v_19 ev_19 => ?_)
      have nv_19 : v_19 = f_rd_tape i := by rw [ev_19]; exact congrArg _ (nI_clamp (by omega))
      refine lv_bipush (v := 97) hx hb dX7_readWord_38 (by decide) ?_
      refine lv_isub hx hb dX7_readWord_40 ?_
      refine lv_topi (fun v_20 ev_20 => ?_)
      refine lv_iconst (v := 1) hx hb dX7_readWord_41 (by decide) ?_
      refine lv_iadd hx hb dX7_readWord_42 ?_
      refine lv_topi (fun v_21 ev_21 => ?_)
      refine lv_i2l (v := v_21.toInt64) hx hb dX7_readWord_43 rfl ?_
      refine lv_topl (fun v_22 ev_22 => ?_)
      refine lv_lor hx hb dX7_readWord_44 ?_
      refine lv_topl (fun v_23 ev_23 => ?_)
      refine va_put (D := (dC, dI)) (ci := 7) (v := .long v_23) (ty := .long) (C := RX7) (T := TX7) (N := 15) hx hb hts (fun w h => wM_c (iX7 w h)) tyX7 tyX7_ok nmX7 hown hK hP hD hS 0 rfl rfl 14 (by decide) (hts _ (wM_c wd_350)) (fun _ h9 => h9) rfl (by decide +kernel) rfl rfl (Nat.le_of_ble_eq_true rfl) dX7_readWord_45 (fun H locs hP hD hS => ?_)
      have hP : va_P (dC, dI) classes [(rd, .inr (7, [.ref rd_tape, .int fd1, .int fa1, .int fp1, .ref bk, .ref rd_names, .ref rd_nameKind, .ref rd_nameNumber, .int (nI nm), .ref rd_knotNames, .int (nI en), .int (nI a2), .int tk1, .int ts1, .long v_23])), (rd_tape, .inl (k_rd_tape, 600, .inl f_rd_tape))] H := hP
      have hD : va_D A [(rd, .inr (7, [.ref rd_tape, .int fd1, .int fa1, .int fp1, .ref bk, .ref rd_names, .ref rd_nameKind, .ref rd_nameNumber, .int (nI nm), .ref rd_knotNames, .int (nI en), .int (nI a2), .int tk1, .int ts1, .long v_23])), (rd_tape, .inl (k_rd_tape, 600, .inl f_rd_tape))] := hD
      refine lv_aload_n hx hb dX7_readWord_48 rfl (lv_at hl 0 rfl) ?_
      refine lv_iload_n hx hb dX7_readWord_49 rfl (lv_at hl 1 rfl) ?_
      refine lv_iconst (v := 1) hx hb dX7_readWord_50 (by decide) ?_
      refine lv_iadd hx hb dX7_readWord_51 ?_
      refine lv_topi (fun v_24 ev_24 => ?_)
      obtain rfl : v_24 = nI (i + 1) := ev_24.trans (nI_add i 1)
      refine va_put (D := (dC, dI)) (ci := 7) (v := .int (nI (i + 1))) (ty := .int) (C := RX7) (T := TX7) (N := 15) hx hb hts (fun w h => wM_c (iX7 w h)) tyX7 tyX7_ok nmX7 hown hK hP hD hS 0 rfl rfl 11 (by decide) (hts _ (wM_c wd_347)) (fun _ h9 => h9) rfl (by decide +kernel) rfl rfl (Nat.le_of_ble_eq_true rfl) dX7_readWord_52 (fun H locs hP hD hS => ?_)
      have hP : va_P (dC, dI) classes [(rd, .inr (7, [.ref rd_tape, .int fd1, .int fa1, .int fp1, .ref bk, .ref rd_names, .ref rd_nameKind, .ref rd_nameNumber, .int (nI nm), .ref rd_knotNames, .int (nI en), .int (nI (i + 1)), .int tk1, .int ts1, .long v_23])), (rd_tape, .inl (k_rd_tape, 600, .inl f_rd_tape))] H := hP
      have hD : va_D A [(rd, .inr (7, [.ref rd_tape, .int fd1, .int fa1, .int fp1, .ref bk, .ref rd_names, .ref rd_nameKind, .ref rd_nameNumber, .int (nI nm), .ref rd_knotNames, .int (nI en), .int (nI (i + 1)), .int tk1, .int ts1, .long v_23])), (rd_tape, .inl (k_rd_tape, 600, .inl f_rd_tape))] := hD
      refine lv_iinc (v := (nI (i + 1))) (lv' := [(1, .int (nI (i + 1))), (0, .ref rd)]) hx hb dX7_readWord_55 hl (k := 1) rfl (nI_add _ 1) (by decide) rfl (fun ls hl => ?_)
      refine lv_goto (tgt := 5) hx hb dX7_readWord_58 (by decide) ?_
      exact ih_1 (i + 1) (i + 1) v_23 _ _ _ ⟨(by first | with_reducible assumption | omega | exact vp_in_iff.mpr (by omega) | exact vp_in_nI (by omega) (by omega) | exact ⟨by omega, by omega⟩), hP.sub [0, 1] rfl, hD.sub [0, 1] (by decide) rfl, hS, lv_sub hl [1, 0] rfl⟩ (by omega)
set_option maxHeartbeats 4000000 in
set_option maxRecDepth 100000 in
theorem c7_readDigits (l : Launch) (dC : Nat → ClassId) (dI : Nat → Nat → Nat) (n0 : Nat) (atx : Nat → Nat × Nat) (sz : Nat) (rd : Nat) (rd_tape : Nat) (fd1 : Int32) (fa1 : Int32) (fp1 : Int32) (bk : Nat) (rd_names : Nat) (rd_nameKind : Nat) (rd_nameNumber : Nat) (nm : Nat) (rd_knotNames : Nat) (en : Nat) (at1 : Nat) (tk1 : Int32) (ts1 : Int32) (tv1 : Int64) (k_rd_tape : ClassId) (f_rd_tape : Nat → Int32) (h_en : en ≤ 600) (h_at : at1 ≤ en) : Met l yX7_readDigits (wM yX7_readDigits cX7_readDigits 2 none) ({ frames := 1, cells := 0, slots := 0, locals := 20 }) (va_Pc [.ref rd] (fun U => U.heap.size = sz ∧ n0 ≤ sz ∧ GW n0 atx U ∧ va_P (dC, dI) classes [(rd, .inr (7, [.ref rd_tape, .int fd1, .int fa1, .int fp1, .ref bk, .ref rd_names, .ref rd_nameKind, .ref rd_nameNumber, .int (nI nm), .ref rd_knotNames, .int (nI en), .int (nI at1), .int tk1, .int ts1, .long tv1])), (rd_tape, .inl (k_rd_tape, 600, .inl f_rd_tape))] U.heap ∧ va_K (dC, dI) classes [(k_rd_tape, .int)] U ∧ va_D (fun q => n0 ≤ q) [(rd, .inr (7, [.ref rd_tape, .int fd1, .int fa1, .int fp1, .ref bk, .ref rd_names, .ref rd_nameKind, .ref rd_nameNumber, .int (nI nm), .ref rd_knotNames, .int (nI en), .int (nI at1), .int tk1, .int ts1, .long tv1])), (rd_tape, .inl (k_rd_tape, 600, .inl f_rd_tape))])) (va_Qv (fun _ : Unit => True) (fun (_ : Unit) (t : State) => ∃ (at9 : Nat), ∃ (tk9 : Int32), ∃ (tv9 : Int64), (at9 ≤ en) ∧ va_P (dC, dI) classes [(rd, .inr (7, [.ref rd_tape, .int fd1, .int fa1, .int fp1, .ref bk, .ref rd_names, .ref rd_nameKind, .ref rd_nameNumber, .int (nI nm), .ref rd_knotNames, .int (nI en), .int (nI at9), .int tk9, .int ts1, .long tv9])), (rd_tape, .inl (k_rd_tape, 600, .inl f_rd_tape))] t.heap ∧ va_K (dC, dI) classes [(k_rd_tape, .int)] t ∧ va_D (va_A [(rd, .inr (7, [.ref rd_tape, .int fd1, .int fa1, .int fp1, .ref bk, .ref rd_names, .ref rd_nameKind, .ref rd_nameNumber, .int (nI nm), .ref rd_knotNames, .int (nI en), .int (nI at1), .int tk1, .int ts1, .long tv1])), (rd_tape, .inl (k_rd_tape, 600, .inl f_rd_tape))] sz) [(rd, .inr (7, [.ref rd_tape, .int fd1, .int fa1, .int fp1, .ref bk, .ref rd_names, .ref rd_nameKind, .ref rd_nameNumber, .int (nI nm), .ref rd_knotNames, .int (nI en), .int (nI at9), .int tk9, .int ts1, .long tv9])), (rd_tape, .inl (k_rd_tape, 600, .inl f_rd_tape))]) (va_A [(rd, .inr (7, [.ref rd_tape, .int fd1, .int fa1, .int fp1, .ref bk, .ref rd_names, .ref rd_nameKind, .ref rd_nameNumber, .int (nI nm), .ref rd_knotNames, .int (nI en), .int (nI at1), .int tk1, .int ts1, .long tv1])), (rd_tape, .inl (k_rd_tape, 600, .inl f_rd_tape))] sz)) 0 0 (va_A [(rd, .inr (7, [.ref rd_tape, .int fd1, .int fa1, .int fp1, .ref bk, .ref rd_names, .ref rd_nameKind, .ref rd_nameNumber, .int (nI nm), .ref rd_knotNames, .int (nI en), .int (nI at1), .int tk1, .int ts1, .long tv1])), (rd_tape, .inl (k_rd_tape, 600, .inl f_rd_tape))] sz) := by
  refine Met.ofW (cc := cX7_readDigits) (maxL := 2) (ret := none) (by decide) rfl ?_
  intro p e s m args below meth c s₁ B hml hv
  obtain ⟨rfl, hsz, hn0, hG, hP, hK, hD0⟩ := hv
  have hx := B.exec
  have hb := B.bytes
  have hr := B.returns
  have hts := atoms_spec (ws := wM yX7_readDigits cX7_readDigits 2 none) B.pre
  have hown : s.vm.findClass RX7 = some m.cls := findClass_of_methodNamed B.named
  have hlocks := B.notSynchronized
  subst hsz
  have hD := hD0.self (sz := s.heap.size)
  have hA0 := vA_n0 hD0 hn0
  generalize hAe : va_A [(rd, .inr (7, [.ref rd_tape, .int fd1, .int fa1, .int fp1, .ref bk, .ref rd_names, .ref rd_nameKind, .ref rd_nameNumber, .int (nI nm), .ref rd_knotNames, .int (nI en), .int (nI at1), .int tk1, .int ts1, .long tv1])), (rd_tape, .inl (k_rd_tape, 600, .inl f_rd_tape))] s.heap.size = A at hD hA0 ⊢
  have hA : ∀ q : Nat, s.heap.size ≤ q → A q := fun q h => by rw [← hAe]; exact Or.inr h
  have hS : va_S A s.heap s.heap [] := va_S.rf
  have hl := lv_entry ([.ref rd]) (n := 2) (Nat.le_of_ble_eq_true rfl)
  rw [lg_entry_eq]
  generalize (lg_sl ([.ref rd]) ++ List.replicate (2 - (lg_sl ([.ref rd])).length) Slot.unset).toArray = ls at hl ⊢
  have hl : lv_has ls 2 [(0, .ref rd)] := hl
  refine lv_aload_n hx hb dX7_readDigits_0 rfl (lv_at hl 0 rfl) ?_
  refine va_get (D := (dC, dI)) (ci := 7) (v := .int (nI at1)) (C := RX7) (T := TX7) (N := 15) hx hb hts (fun w h => wM_c (iX7 w h)) hown hK hP 0 rfl rfl 11 (by decide) (hts _ (wM_c wd_347)) (fun _ h9 => h9) rfl dX7_readDigits_1 ?_
  refine lv_istore_n (lv' := [(1, .int (nI at1)), (0, .ref rd)]) hx hb dX7_readDigits_4 rfl hl (by decide) rfl (fun ls hl => ?_)
  refine W_lp3 (I := fun (i : Nat) (a2 : Nat) (t2 : Int64) H locs ls => (i ≤ en ∧ a2 ≤ en) ∧ va_P (dC, dI) classes [(rd, .inr (7, [.ref rd_tape, .int fd1, .int fa1, .int fp1, .ref bk, .ref rd_names, .ref rd_nameKind, .ref rd_nameNumber, .int (nI nm), .ref rd_knotNames, .int (nI en), .int (nI a2), .int tk1, .int ts1, .long t2])), (rd_tape, .inl (k_rd_tape, 600, .inl f_rd_tape))] H ∧ va_D A [(rd, .inr (7, [.ref rd_tape, .int fd1, .int fa1, .int fp1, .ref bk, .ref rd_names, .ref rd_nameKind, .ref rd_nameNumber, .int (nI nm), .ref rd_knotNames, .int (nI en), .int (nI a2), .int tk1, .int ts1, .long t2])), (rd_tape, .inl (k_rd_tape, 600, .inl f_rd_tape))] ∧ va_S A s.heap H locs ∧ lv_has ls 2 [(0, .ref rd), (1, .int (nI i))]) (μ := fun (i : Nat) (a2 : Nat) (t2 : Int64) => en - i) ?_ at1 at1 tv1 _ _ _ ⟨(by first | with_reducible assumption | omega | exact vp_in_iff.mpr (by omega) | exact vp_in_nI (by omega) (by omega) | exact ⟨by omega, by omega⟩), hP, hD, hS, lv_sub hl [1, 0] rfl⟩
  intro i a2 t2 H locs ls hI ih_1
  obtain ⟨hi, hP, hD, hS, hl⟩ := hI
  refine lv_iload_n hx hb dX7_readDigits_5 rfl (lv_at hl 1 rfl) ?_
  refine lv_aload_n hx hb dX7_readDigits_6 rfl (lv_at hl 0 rfl) ?_
  refine va_get (D := (dC, dI)) (ci := 7) (v := .int (nI en)) (C := RX7) (T := TX7) (N := 15) hx hb hts (fun w h => wM_c (iX7 w h)) hown hK hP 0 rfl rfl 10 (by decide) (hts _ (wM_c wd_346)) (fun _ h9 => h9) rfl dX7_readDigits_7 ?_
  refine lv_icmp_ge (tgt := 62) hx hb dX7_readDigits_10 (by decide) (fun c_2 => ?_) (fun c_2 => ?_)
  · skip
    have g_3 := n_ge (a := i) (b := en) c_2 (by omega) (by omega)
    refine lv_aload_n hx hb dX7_readDigits_62 rfl (lv_at hl 0 rfl) ?_
    refine lv_aload_n hx hb dX7_readDigits_63 rfl (lv_at hl 0 rfl) ?_
    refine va_get (D := (dC, dI)) (ci := 7) (v := .int (nI a2)) (C := RX7) (T := TX7) (N := 15) hx hb hts (fun w h => wM_c (iX7 w h)) hown hK hP 0 rfl rfl 11 (by decide) (hts _ (wM_c wd_347)) (fun _ h9 => h9) rfl dX7_readDigits_64 ?_
    refine lv_aload_n hx hb dX7_readDigits_67 rfl (lv_at hl 0 rfl) ?_
    refine va_get (D := (dC, dI)) (ci := 7) (v := .int ts1) (C := RX7) (T := TX7) (N := 15) hx hb hts (fun w h => wM_c (iX7 w h)) hown hK hP 0 rfl rfl 13 (by decide) (hts _ (wM_c wd_349)) (fun _ h9 => h9) rfl dX7_readDigits_68 ?_
    refine lv_isub hx hb dX7_readDigits_71 ?_
    refine lv_topi (fun v_4 ev_4 => ?_)
    refine lv_iconst (v := 4) hx hb dX7_readDigits_72 (by decide) ?_
    refine lv_icmp_le (tgt := 80) hx hb dX7_readDigits_73 (by decide) (fun c_5 => ?_) (fun c_5 => ?_)
    · skip
      have g_6 : v_4.toInt ≤ (4 : Int) := i_le c_5
      refine lv_iconst (v := 2) hx hb dX7_readDigits_80 (by decide) ?_
      refine va_put (D := (dC, dI)) (ci := 7) (v := .int 2) (ty := .int) (C := RX7) (T := TX7) (N := 15) hx hb hts (fun w h => wM_c (iX7 w h)) tyX7 tyX7_ok nmX7 hown hK hP hD hS 0 rfl rfl 12 (by decide) (hts _ (wM_c wd_348)) (fun _ h9 => h9) rfl (by decide +kernel) rfl rfl (Nat.le_of_ble_eq_true rfl) dX7_readDigits_81 (fun H locs hP hD hS => ?_)
      have hP : va_P (dC, dI) classes [(rd, .inr (7, [.ref rd_tape, .int fd1, .int fa1, .int fp1, .ref bk, .ref rd_names, .ref rd_nameKind, .ref rd_nameNumber, .int (nI nm), .ref rd_knotNames, .int (nI en), .int (nI a2), .int 2, .int ts1, .long t2])), (rd_tape, .inl (k_rd_tape, 600, .inl f_rd_tape))] H := hP
      have hD : va_D A [(rd, .inr (7, [.ref rd_tape, .int fd1, .int fa1, .int fp1, .ref bk, .ref rd_names, .ref rd_nameKind, .ref rd_nameNumber, .int (nI nm), .ref rd_knotNames, .int (nI en), .int (nI a2), .int 2, .int ts1, .long t2])), (rd_tape, .inl (k_rd_tape, 600, .inl f_rd_tape))] := hD
      have hP9 := hP.sub (ws' := [(rd, .inr (7, [.ref rd_tape, .int fd1, .int fa1, .int fp1, .ref bk, .ref rd_names, .ref rd_nameKind, .ref rd_nameNumber, .int (nI nm), .ref rd_knotNames, .int (nI en), .int (nI a2), .int 2, .int ts1, .long t2])), (rd_tape, .inl (k_rd_tape, 600, .inl f_rd_tape))]) [0, 1] rfl
      have hD9 := hD.sub (ws' := [(rd, .inr (7, [.ref rd_tape, .int fd1, .int fa1, .int fp1, .ref bk, .ref rd_names, .ref rd_nameKind, .ref rd_nameNumber, .int (nI nm), .ref rd_knotNames, .int (nI en), .int (nI a2), .int 2, .int ts1, .long t2])), (rd_tape, .inl (k_rd_tape, 600, .inl f_rd_tape))]) [0, 1] (by decide) rfl
      have hK9 := hK.sub (tys' := [(k_rd_tape, .int)]) [0] rfl
      exact W.vret hx hb hr (fun t ht hW => ⟨⟨(), rfl, trivial, a2, 2, t2, (by first | with_reducible assumption | omega | exact vp_in_iff.mpr (by omega) | exact vp_in_nI (by omega) (by omega) | exact ⟨by omega, by omega⟩), by rw [ht]; exact hP9, va_K.moved hW.alike hK9, hD9⟩, hS.F ht⟩) hS.2.2 dX7_readDigits_84
    · skip
      have g_7 : (4 : Int) < v_4.toInt := i_nle c_5
      refine lv_iconst (v := 5) hx hb dX7_readDigits_76 (by decide) ?_
      refine lv_goto (tgt := 81) hx hb dX7_readDigits_77 (by decide) ?_
      refine va_put (D := (dC, dI)) (ci := 7) (v := .int 5) (ty := .int) (C := RX7) (T := TX7) (N := 15) hx hb hts (fun w h => wM_c (iX7 w h)) tyX7 tyX7_ok nmX7 hown hK hP hD hS 0 rfl rfl 12 (by decide) (hts _ (wM_c wd_348)) (fun _ h9 => h9) rfl (by decide +kernel) rfl rfl (Nat.le_of_ble_eq_true rfl) dX7_readDigits_81 (fun H locs hP hD hS => ?_)
      have hP : va_P (dC, dI) classes [(rd, .inr (7, [.ref rd_tape, .int fd1, .int fa1, .int fp1, .ref bk, .ref rd_names, .ref rd_nameKind, .ref rd_nameNumber, .int (nI nm), .ref rd_knotNames, .int (nI en), .int (nI a2), .int 5, .int ts1, .long t2])), (rd_tape, .inl (k_rd_tape, 600, .inl f_rd_tape))] H := hP
      have hD : va_D A [(rd, .inr (7, [.ref rd_tape, .int fd1, .int fa1, .int fp1, .ref bk, .ref rd_names, .ref rd_nameKind, .ref rd_nameNumber, .int (nI nm), .ref rd_knotNames, .int (nI en), .int (nI a2), .int 5, .int ts1, .long t2])), (rd_tape, .inl (k_rd_tape, 600, .inl f_rd_tape))] := hD
      have hP9 := hP.sub (ws' := [(rd, .inr (7, [.ref rd_tape, .int fd1, .int fa1, .int fp1, .ref bk, .ref rd_names, .ref rd_nameKind, .ref rd_nameNumber, .int (nI nm), .ref rd_knotNames, .int (nI en), .int (nI a2), .int 5, .int ts1, .long t2])), (rd_tape, .inl (k_rd_tape, 600, .inl f_rd_tape))]) [0, 1] rfl
      have hD9 := hD.sub (ws' := [(rd, .inr (7, [.ref rd_tape, .int fd1, .int fa1, .int fp1, .ref bk, .ref rd_names, .ref rd_nameKind, .ref rd_nameNumber, .int (nI nm), .ref rd_knotNames, .int (nI en), .int (nI a2), .int 5, .int ts1, .long t2])), (rd_tape, .inl (k_rd_tape, 600, .inl f_rd_tape))]) [0, 1] (by decide) rfl
      have hK9 := hK.sub (tys' := [(k_rd_tape, .int)]) [0] rfl
      exact W.vret hx hb hr (fun t ht hW => ⟨⟨(), rfl, trivial, a2, 5, t2, (by first | with_reducible assumption | omega | exact vp_in_iff.mpr (by omega) | exact vp_in_nI (by omega) (by omega) | exact ⟨by omega, by omega⟩), by rw [ht]; exact hP9, va_K.moved hW.alike hK9, hD9⟩, hS.F ht⟩) hS.2.2 dX7_readDigits_84
  · skip
    have g_8 := n_nge (a := i) (b := en) c_2 (by omega) (by omega)
    refine lv_aload_n hx hb dX7_readDigits_13 rfl (lv_at hl 0 rfl) ?_
    refine va_get (D := (dC, dI)) (ci := 7) (v := .ref rd_tape) (C := RX7) (T := TX7) (N := 15) hx hb hts (fun w h => wM_c (iX7 w h)) hown hK hP 0 rfl rfl 0 (by decide) (hts _ (wM_c wd_333)) (fun _ h9 => h9) rfl dX7_readDigits_14 ?_
    refine lv_iload_n hx hb dX7_readDigits_17 rfl (lv_at hl 1 rfl) ?_
    refine va_iald hx hb hK hP 1 0 rfl rfl (vp_in_nI (n := i) (by omega) (by omega)) dX7_readDigits_18 ?_
    refine lv_topi (fun v_9 ev_9 => ?_)
    have nv_9 : v_9 = f_rd_tape i := by rw [ev_9]; exact congrArg _ (nI_clamp (by omega))
    have hPc := hP.sub (ws' := []) [] rfl
    have hDc := hD.sub (ws' := []) [] (by decide) rfl
    have hKc := hK.sub (tys' := []) [] rfl
    have hFc := va_free (wc := []) hD hS hA [] rfl
    refine va_calli (va_runS (As := [.int v_9]) (rest := []) ⟨hx, hb, hml, hown, hts⟩ (c7_isDigit l dC dI n0 atx H.size v_9 ) (va_cwS 1 hts (gS (fun w h => wM_c h) wd_745 wd_743 wd_744 wd_117) rfl rfl rfl (by decide +kernel) ⟨Nat.le_of_ble_eq_true rfl, Nat.le_of_ble_eq_true rfl⟩) ⟨fun a U g mk q => by obtain ⟨q0, q1, q2, qG, qP, qK, qD⟩ := q; exact ⟨q0, q1, q2, GW.blind qG, qP, va_K.moved (u := U) (U := U.calling g mk a) (Vm.Alike.refl U.vm) qK, qD⟩, fun U hU hW => ⟨rfl, by rw [hU], Nat.le_trans hn0 hS.1, GW.go hW hU hG (fun q hq hA9 => hS.2.1 q hq (fun h => hA9 (hA0 q h))), by rw [hU]; exact hPc, va_K.moved hW.alike hKc, hDc.weaken (fun _ _ _ h => hA0 _ h)⟩⟩ rfl rfl hl.1 rfl (lv_room (Nat.le_of_ble_eq_true rfl)) dX7_readDigits_19 ⟨Nat.le_of_ble_eq_true rfl, Nat.le_of_ble_eq_true rfl⟩) hS (fun q _ h => hFc q h) hFc (fun r_10 u t H1 locs ht hvm hw_11 hB hz1 hk1 hS => ?_)
    obtain ⟨hP1, hK1, hD1⟩ := hB
    rw [ht] at hP1
    obtain ⟨hP, hD⟩ := va_join (wr := [(rd, .inr (7, [.ref rd_tape, .int fd1, .int fa1, .int fp1, .ref bk, .ref rd_names, .ref rd_nameKind, .ref rd_nameNumber, .int (nI nm), .ref rd_knotNames, .int (nI en), .int (nI a2), .int tk1, .int ts1, .long t2])), (rd_tape, .inl (k_rd_tape, 600, .inl f_rd_tape))]) (w1 := []) hP hD [] [0, 1] rfl rfl (by decide) (by decide) hk1 hFc hP1 hD1
    generalize H1 = H at hP hS ⊢
    have hP : va_P (dC, dI) classes [(rd, .inr (7, [.ref rd_tape, .int fd1, .int fa1, .int fp1, .ref bk, .ref rd_names, .ref rd_nameKind, .ref rd_nameNumber, .int (nI nm), .ref rd_knotNames, .int (nI en), .int (nI a2), .int tk1, .int ts1, .long t2])), (rd_tape, .inl (k_rd_tape, 600, .inl f_rd_tape))] H := hP
    have hD : va_D A [(rd, .inr (7, [.ref rd_tape, .int fd1, .int fa1, .int fp1, .ref bk, .ref rd_names, .ref rd_nameKind, .ref rd_nameNumber, .int (nI nm), .ref rd_knotNames, .int (nI en), .int (nI a2), .int tk1, .int ts1, .long t2])), (rd_tape, .inl (k_rd_tape, 600, .inl f_rd_tape))] := hD
    rcases hw_11 with rfl | rfl
    · skip
      refine lv_if_eq (tgt := 62) hx hb dX7_readDigits_22 (by decide) (fun c_12 => ?_) (fun c_12 => ?_)
      · skip
        refine lv_aload_n hx hb dX7_readDigits_62 rfl (lv_at hl 0 rfl) ?_
        refine lv_aload_n hx hb dX7_readDigits_63 rfl (lv_at hl 0 rfl) ?_
        refine va_get (D := (dC, dI)) (ci := 7) (v := .int (nI a2)) (C := RX7) (T := TX7) (N := 15) hx hb hts (fun w h => wM_c (iX7 w h)) hown hK hP 0 rfl rfl 11 (by decide) (hts _ (wM_c wd_347)) (fun _ h9 => h9) rfl dX7_readDigits_64 ?_
        refine lv_aload_n hx hb dX7_readDigits_67 rfl (lv_at hl 0 rfl) ?_
        refine va_get (D := (dC, dI)) (ci := 7) (v := .int ts1) (C := RX7) (T := TX7) (N := 15) hx hb hts (fun w h => wM_c (iX7 w h)) hown hK hP 0 rfl rfl 13 (by decide) (hts _ (wM_c wd_349)) (fun _ h9 => h9) rfl dX7_readDigits_68 ?_
        refine lv_isub hx hb dX7_readDigits_71 ?_
        refine lv_topi (fun v_13 ev_13 => ?_)
        refine lv_iconst (v := 4) hx hb dX7_readDigits_72 (by decide) ?_
        refine lv_icmp_le (tgt := 80) hx hb dX7_readDigits_73 (by decide) (fun c_14 => ?_) (fun c_14 => ?_)
        · skip
          have g_15 : v_13.toInt ≤ (4 : Int) := i_le c_14
          refine lv_iconst (v := 2) hx hb dX7_readDigits_80 (by decide) ?_
          refine va_put (D := (dC, dI)) (ci := 7) (v := .int 2) (ty := .int) (C := RX7) (T := TX7) (N := 15) hx hb hts (fun w h => wM_c (iX7 w h)) tyX7 tyX7_ok nmX7 hown hK hP hD hS 0 rfl rfl 12 (by decide) (hts _ (wM_c wd_348)) (fun _ h9 => h9) rfl (by decide +kernel) rfl rfl (Nat.le_of_ble_eq_true rfl) dX7_readDigits_81 (fun H locs hP hD hS => ?_)
          have hP : va_P (dC, dI) classes [(rd, .inr (7, [.ref rd_tape, .int fd1, .int fa1, .int fp1, .ref bk, .ref rd_names, .ref rd_nameKind, .ref rd_nameNumber, .int (nI nm), .ref rd_knotNames, .int (nI en), .int (nI a2), .int 2, .int ts1, .long t2])), (rd_tape, .inl (k_rd_tape, 600, .inl f_rd_tape))] H := hP
          have hD : va_D A [(rd, .inr (7, [.ref rd_tape, .int fd1, .int fa1, .int fp1, .ref bk, .ref rd_names, .ref rd_nameKind, .ref rd_nameNumber, .int (nI nm), .ref rd_knotNames, .int (nI en), .int (nI a2), .int 2, .int ts1, .long t2])), (rd_tape, .inl (k_rd_tape, 600, .inl f_rd_tape))] := hD
          have hP9 := hP.sub (ws' := [(rd, .inr (7, [.ref rd_tape, .int fd1, .int fa1, .int fp1, .ref bk, .ref rd_names, .ref rd_nameKind, .ref rd_nameNumber, .int (nI nm), .ref rd_knotNames, .int (nI en), .int (nI a2), .int 2, .int ts1, .long t2])), (rd_tape, .inl (k_rd_tape, 600, .inl f_rd_tape))]) [0, 1] rfl
          have hD9 := hD.sub (ws' := [(rd, .inr (7, [.ref rd_tape, .int fd1, .int fa1, .int fp1, .ref bk, .ref rd_names, .ref rd_nameKind, .ref rd_nameNumber, .int (nI nm), .ref rd_knotNames, .int (nI en), .int (nI a2), .int 2, .int ts1, .long t2])), (rd_tape, .inl (k_rd_tape, 600, .inl f_rd_tape))]) [0, 1] (by decide) rfl
          have hK9 := hK.sub (tys' := [(k_rd_tape, .int)]) [0] rfl
          exact W.vret hx hb hr (fun t ht hW => ⟨⟨(), rfl, trivial, a2, 2, t2, (by first | with_reducible assumption | omega | exact vp_in_iff.mpr (by omega) | exact vp_in_nI (by omega) (by omega) | exact ⟨by omega, by omega⟩), by rw [ht]; exact hP9, va_K.moved hW.alike hK9, hD9⟩, hS.F ht⟩) hS.2.2 dX7_readDigits_84
        · skip
          have g_16 : (4 : Int) < v_13.toInt := i_nle c_14
          refine lv_iconst (v := 5) hx hb dX7_readDigits_76 (by decide) ?_
          refine lv_goto (tgt := 81) hx hb dX7_readDigits_77 (by decide) ?_
          refine va_put (D := (dC, dI)) (ci := 7) (v := .int 5) (ty := .int) (C := RX7) (T := TX7) (N := 15) hx hb hts (fun w h => wM_c (iX7 w h)) tyX7 tyX7_ok nmX7 hown hK hP hD hS 0 rfl rfl 12 (by decide) (hts _ (wM_c wd_348)) (fun _ h9 => h9) rfl (by decide +kernel) rfl rfl (Nat.le_of_ble_eq_true rfl) dX7_readDigits_81 (fun H locs hP hD hS => ?_)
          have hP : va_P (dC, dI) classes [(rd, .inr (7, [.ref rd_tape, .int fd1, .int fa1, .int fp1, .ref bk, .ref rd_names, .ref rd_nameKind, .ref rd_nameNumber, .int (nI nm), .ref rd_knotNames, .int (nI en), .int (nI a2), .int 5, .int ts1, .long t2])), (rd_tape, .inl (k_rd_tape, 600, .inl f_rd_tape))] H := hP
          have hD : va_D A [(rd, .inr (7, [.ref rd_tape, .int fd1, .int fa1, .int fp1, .ref bk, .ref rd_names, .ref rd_nameKind, .ref rd_nameNumber, .int (nI nm), .ref rd_knotNames, .int (nI en), .int (nI a2), .int 5, .int ts1, .long t2])), (rd_tape, .inl (k_rd_tape, 600, .inl f_rd_tape))] := hD
          have hP9 := hP.sub (ws' := [(rd, .inr (7, [.ref rd_tape, .int fd1, .int fa1, .int fp1, .ref bk, .ref rd_names, .ref rd_nameKind, .ref rd_nameNumber, .int (nI nm), .ref rd_knotNames, .int (nI en), .int (nI a2), .int 5, .int ts1, .long t2])), (rd_tape, .inl (k_rd_tape, 600, .inl f_rd_tape))]) [0, 1] rfl
          have hD9 := hD.sub (ws' := [(rd, .inr (7, [.ref rd_tape, .int fd1, .int fa1, .int fp1, .ref bk, .ref rd_names, .ref rd_nameKind, .ref rd_nameNumber, .int (nI nm), .ref rd_knotNames, .int (nI en), .int (nI a2), .int 5, .int ts1, .long t2])), (rd_tape, .inl (k_rd_tape, 600, .inl f_rd_tape))]) [0, 1] (by decide) rfl
          have hK9 := hK.sub (tys' := [(k_rd_tape, .int)]) [0] rfl
          exact W.vret hx hb hr (fun t ht hW => ⟨⟨(), rfl, trivial, a2, 5, t2, (by first | with_reducible assumption | omega | exact vp_in_iff.mpr (by omega) | exact vp_in_nI (by omega) (by omega) | exact ⟨by omega, by omega⟩), by rw [ht]; exact hP9, va_K.moved hW.alike hK9, hD9⟩, hS.F ht⟩) hS.2.2 dX7_readDigits_84
      · exact absurd c_12 (by decide)
    · skip
      refine lv_if_eq (tgt := 62) hx hb dX7_readDigits_22 (by decide) (fun c_17 => ?_) (fun c_17 => ?_)
      · exact absurd c_17 (by decide)
      refine lv_aload_n hx hb dX7_readDigits_25 rfl (lv_at hl 0 rfl) ?_
      refine lv_aload_n hx hb dX7_readDigits_26 rfl (lv_at hl 0 rfl) ?_
      refine va_get (D := (dC, dI)) (ci := 7) (v := .long t2) (C := RX7) (T := TX7) (N := 15) hx hb hts (fun w h => wM_c (iX7 w h)) hown hK hP 0 rfl rfl 14 (by decide) (hts _ (wM_c wd_350)) (fun _ h9 => h9) rfl dX7_readDigits_27 ?_
      refine lv_ldc2 hx hb hown (hts _ (wM_c wd_750)) dX7_readDigits_30 ?_
      refine lv_lmul hx hb dX7_readDigits_33 ?_
      refine lv_topl (fun v_18 ev_18 => ?_)
      refine lv_aload_n hx hb dX7_readDigits_34 rfl (lv_at hl 0 rfl) ?_
      refine va_get (D := (dC, dI)) (ci := 7) (v := .ref rd_tape) (C := RX7) (T := TX7) (N := 15) hx hb hts (fun w h => wM_c (iX7 w h)) hown hK hP 0 rfl rfl 0 (by decide) (hts _ (wM_c wd_333)) (fun _ h9 => h9) rfl dX7_readDigits_35 ?_
      refine lv_iload_n hx hb dX7_readDigits_38 rfl (lv_at hl 1 rfl) ?_
      refine va_iald hx hb hK hP 1 0 rfl rfl (vp_in_nI (n := i) (by omega) (by omega)) dX7_readDigits_39 ?_
      refine lv_topi (fun v_19 ev_19 => ?_)
      have nv_19 : v_19 = f_rd_tape i := by rw [ev_19]; exact congrArg _ (nI_clamp (by omega))
      refine lv_i2l (v := v_19.toInt64) hx hb dX7_readDigits_40 rfl ?_
      refine lv_topl (fun v_20 ev_20 => ?_)
      refine lv_ladd hx hb dX7_readDigits_41 ?_
      refine lv_topl (fun v_21 ev_21 => ?_)
      refine lv_ldc2 hx hb hown (hts _ (wM_c wd_751)) dX7_readDigits_42 ?_
      refine lv_lsub hx hb dX7_readDigits_45 ?_
      refine lv_topl (fun v_22 ev_22 => ?_)
      refine va_put (D := (dC, dI)) (ci := 7) (v := .long v_22) (ty := .long) (C := RX7) (T := TX7) (N := 15) hx hb hts (fun w h => wM_c (iX7 w h)) tyX7 tyX7_ok nmX7 hown hK hP hD hS 0 rfl rfl 14 (by decide) (hts _ (wM_c wd_350)) (fun _ h9 => h9) rfl (by decide +kernel) rfl rfl (Nat.le_of_ble_eq_true rfl) dX7_readDigits_46 (fun H locs hP hD hS => ?_)
      have hP : va_P (dC, dI) classes [(rd, .inr (7, [.ref rd_tape, .int fd1, .int fa1, .int fp1, .ref bk, .ref rd_names, .ref rd_nameKind, .ref rd_nameNumber, .int (nI nm), .ref rd_knotNames, .int (nI en), .int (nI a2), .int tk1, .int ts1, .long v_22])), (rd_tape, .inl (k_rd_tape, 600, .inl f_rd_tape))] H := hP
      have hD : va_D A [(rd, .inr (7, [.ref rd_tape, .int fd1, .int fa1, .int fp1, .ref bk, .ref rd_names, .ref rd_nameKind, .ref rd_nameNumber, .int (nI nm), .ref rd_knotNames, .int (nI en), .int (nI a2), .int tk1, .int ts1, .long v_22])), (rd_tape, .inl (k_rd_tape, 600, .inl f_rd_tape))] := hD
      refine lv_aload_n hx hb dX7_readDigits_49 rfl (lv_at hl 0 rfl) ?_
      refine lv_iload_n hx hb dX7_readDigits_50 rfl (lv_at hl 1 rfl) ?_
      refine lv_iconst (v := 1) hx hb dX7_readDigits_51 (by decide) ?_
      refine lv_iadd hx hb dX7_readDigits_52 ?_
      refine lv_topi (fun v_23 ev_23 => ?_)
      obtain rfl : v_23 = nI (i + 1) := ev_23.trans (nI_add i 1)
      refine va_put (D := (dC, dI)) (ci := 7) (v := .int (nI (i + 1))) (ty := .int) (C := RX7) (T := TX7) (N := 15) hx hb hts (fun w h => wM_c (iX7 w h)) tyX7 tyX7_ok nmX7 hown hK hP hD hS 0 rfl rfl 11 (by decide) (hts _ (wM_c wd_347)) (fun _ h9 => h9) rfl (by decide +kernel) rfl rfl (Nat.le_of_ble_eq_true rfl) dX7_readDigits_53 (fun H locs hP hD hS => ?_)
      have hP : va_P (dC, dI) classes [(rd, .inr (7, [.ref rd_tape, .int fd1, .int fa1, .int fp1, .ref bk, .ref rd_names, .ref rd_nameKind, .ref rd_nameNumber, .int (nI nm), .ref rd_knotNames, .int (nI en), .int (nI (i + 1)), .int tk1, .int ts1, .long v_22])), (rd_tape, .inl (k_rd_tape, 600, .inl f_rd_tape))] H := hP
      have hD : va_D A [(rd, .inr (7, [.ref rd_tape, .int fd1, .int fa1, .int fp1, .ref bk, .ref rd_names, .ref rd_nameKind, .ref rd_nameNumber, .int (nI nm), .ref rd_knotNames, .int (nI en), .int (nI (i + 1)), .int tk1, .int ts1, .long v_22])), (rd_tape, .inl (k_rd_tape, 600, .inl f_rd_tape))] := hD
      refine lv_iinc (v := (nI (i + 1))) (lv' := [(1, .int (nI (i + 1))), (0, .ref rd)]) hx hb dX7_readDigits_56 hl (k := 1) rfl (nI_add _ 1) (by decide) rfl (fun ls hl => ?_)
      refine lv_goto (tgt := 5) hx hb dX7_readDigits_59 (by decide) ?_
      exact ih_1 (i + 1) (i + 1) v_22 _ _ _ ⟨(by first | with_reducible assumption | omega | exact vp_in_iff.mpr (by omega) | exact vp_in_nI (by omega) (by omega) | exact ⟨by omega, by omega⟩), hP.sub [0, 1] rfl, hD.sub [0, 1] (by decide) rfl, hS, lv_sub hl [1, 0] rfl⟩ (by omega)
set_option maxHeartbeats 4000000 in
set_option maxRecDepth 100000 in
theorem c7_next (l : Launch) (dC : Nat → ClassId) (dI : Nat → Nat → Nat) (n0 : Nat) (atx : Nat → Nat × Nat) (sz : Nat) (rd : Nat) (rd_tape : Nat) (fd1 : Int32) (fa1 : Int32) (fp1 : Int32) (bk : Nat) (rd_names : Nat) (rd_nameKind : Nat) (rd_nameNumber : Nat) (nm : Nat) (rd_knotNames : Nat) (en : Nat) (at1 : Nat) (tk1 : Int32) (ts1 : Int32) (tv1 : Int64) (k_rd_tape : ClassId) (f_rd_tape : Nat → Int32) (h_en : en ≤ 600) (h_at : at1 ≤ en) : Met l yX7_next (wM yX7_next cX7_next 2 none) ({ frames := 2, cells := 0, slots := 0, locals := 41 }) (va_Pc [.ref rd] (fun U => U.heap.size = sz ∧ n0 ≤ sz ∧ GW n0 atx U ∧ va_P (dC, dI) classes [(rd, .inr (7, [.ref rd_tape, .int fd1, .int fa1, .int fp1, .ref bk, .ref rd_names, .ref rd_nameKind, .ref rd_nameNumber, .int (nI nm), .ref rd_knotNames, .int (nI en), .int (nI at1), .int tk1, .int ts1, .long tv1])), (rd_tape, .inl (k_rd_tape, 600, .inl f_rd_tape))] U.heap ∧ va_K (dC, dI) classes [(k_rd_tape, .int)] U ∧ va_D (fun q => n0 ≤ q) [(rd, .inr (7, [.ref rd_tape, .int fd1, .int fa1, .int fp1, .ref bk, .ref rd_names, .ref rd_nameKind, .ref rd_nameNumber, .int (nI nm), .ref rd_knotNames, .int (nI en), .int (nI at1), .int tk1, .int ts1, .long tv1])), (rd_tape, .inl (k_rd_tape, 600, .inl f_rd_tape))])) (va_Qv (fun _ : Unit => True) (fun (_ : Unit) (t : State) => ∃ (at9 : Nat), ∃ (tk9 : Int32), ∃ (ts9 : Int32), ∃ (tv9 : Int64), (at9 ≤ en) ∧ va_P (dC, dI) classes [(rd, .inr (7, [.ref rd_tape, .int fd1, .int fa1, .int fp1, .ref bk, .ref rd_names, .ref rd_nameKind, .ref rd_nameNumber, .int (nI nm), .ref rd_knotNames, .int (nI en), .int (nI at9), .int tk9, .int ts9, .long tv9])), (rd_tape, .inl (k_rd_tape, 600, .inl f_rd_tape))] t.heap ∧ va_K (dC, dI) classes [(k_rd_tape, .int)] t ∧ va_D (va_A [(rd, .inr (7, [.ref rd_tape, .int fd1, .int fa1, .int fp1, .ref bk, .ref rd_names, .ref rd_nameKind, .ref rd_nameNumber, .int (nI nm), .ref rd_knotNames, .int (nI en), .int (nI at1), .int tk1, .int ts1, .long tv1])), (rd_tape, .inl (k_rd_tape, 600, .inl f_rd_tape))] sz) [(rd, .inr (7, [.ref rd_tape, .int fd1, .int fa1, .int fp1, .ref bk, .ref rd_names, .ref rd_nameKind, .ref rd_nameNumber, .int (nI nm), .ref rd_knotNames, .int (nI en), .int (nI at9), .int tk9, .int ts9, .long tv9])), (rd_tape, .inl (k_rd_tape, 600, .inl f_rd_tape))]) (va_A [(rd, .inr (7, [.ref rd_tape, .int fd1, .int fa1, .int fp1, .ref bk, .ref rd_names, .ref rd_nameKind, .ref rd_nameNumber, .int (nI nm), .ref rd_knotNames, .int (nI en), .int (nI at1), .int tk1, .int ts1, .long tv1])), (rd_tape, .inl (k_rd_tape, 600, .inl f_rd_tape))] sz)) 0 0 (va_A [(rd, .inr (7, [.ref rd_tape, .int fd1, .int fa1, .int fp1, .ref bk, .ref rd_names, .ref rd_nameKind, .ref rd_nameNumber, .int (nI nm), .ref rd_knotNames, .int (nI en), .int (nI at1), .int tk1, .int ts1, .long tv1])), (rd_tape, .inl (k_rd_tape, 600, .inl f_rd_tape))] sz) := by
  refine Met.ofW (cc := cX7_next) (maxL := 2) (ret := none) (by decide) rfl ?_
  intro p e s m args below meth c s₁ B hml hv
  obtain ⟨rfl, hsz, hn0, hG, hP, hK, hD0⟩ := hv
  have hx := B.exec
  have hb := B.bytes
  have hr := B.returns
  have hts := atoms_spec (ws := wM yX7_next cX7_next 2 none) B.pre
  have hown : s.vm.findClass RX7 = some m.cls := findClass_of_methodNamed B.named
  have hlocks := B.notSynchronized
  subst hsz
  have hD := hD0.self (sz := s.heap.size)
  have hA0 := vA_n0 hD0 hn0
  generalize hAe : va_A [(rd, .inr (7, [.ref rd_tape, .int fd1, .int fa1, .int fp1, .ref bk, .ref rd_names, .ref rd_nameKind, .ref rd_nameNumber, .int (nI nm), .ref rd_knotNames, .int (nI en), .int (nI at1), .int tk1, .int ts1, .long tv1])), (rd_tape, .inl (k_rd_tape, 600, .inl f_rd_tape))] s.heap.size = A at hD hA0 ⊢
  have hA : ∀ q : Nat, s.heap.size ≤ q → A q := fun q h => by rw [← hAe]; exact Or.inr h
  have hS : va_S A s.heap s.heap [] := va_S.rf
  have hl := lv_entry ([.ref rd]) (n := 2) (Nat.le_of_ble_eq_true rfl)
  rw [lg_entry_eq]
  generalize (lg_sl ([.ref rd]) ++ List.replicate (2 - (lg_sl ([.ref rd])).length) Slot.unset).toArray = ls at hl ⊢
  have hl : lv_has ls 2 [(0, .ref rd)] := hl
  refine lv_aload_n hx hb dX7_next_0 rfl (lv_at hl 0 rfl) ?_
  refine va_get (D := (dC, dI)) (ci := 7) (v := .int (nI at1)) (C := RX7) (T := TX7) (N := 15) hx hb hts (fun w h => wM_c (iX7 w h)) hown hK hP 0 rfl rfl 11 (by decide) (hts _ (wM_c wd_347)) (fun _ h9 => h9) rfl dX7_next_1 ?_
  refine lv_istore_n (lv' := [(1, .int (nI at1)), (0, .ref rd)]) hx hb dX7_next_4 rfl hl (by decide) rfl (fun ls hl => ?_)
  refine W_lp2 (I := fun (i : Nat) (a2 : Nat) H locs ls => (i ≤ en ∧ a2 ≤ en) ∧ va_P (dC, dI) classes [(rd, .inr (7, [.ref rd_tape, .int fd1, .int fa1, .int fp1, .ref bk, .ref rd_names, .ref rd_nameKind, .ref rd_nameNumber, .int (nI nm), .ref rd_knotNames, .int (nI en), .int (nI a2), .int tk1, .int ts1, .long tv1])), (rd_tape, .inl (k_rd_tape, 600, .inl f_rd_tape))] H ∧ va_D A [(rd, .inr (7, [.ref rd_tape, .int fd1, .int fa1, .int fp1, .ref bk, .ref rd_names, .ref rd_nameKind, .ref rd_nameNumber, .int (nI nm), .ref rd_knotNames, .int (nI en), .int (nI a2), .int tk1, .int ts1, .long tv1])), (rd_tape, .inl (k_rd_tape, 600, .inl f_rd_tape))] ∧ va_S A s.heap H locs ∧ lv_has ls 2 [(0, .ref rd), (1, .int (nI i))]) (μ := fun (i : Nat) (a2 : Nat) => en - i) ?_ at1 at1 _ _ _ ⟨(by first | with_reducible assumption | omega | exact vp_in_iff.mpr (by omega) | exact vp_in_nI (by omega) (by omega) | exact ⟨by omega, by omega⟩), hP, hD, hS, lv_sub hl [1, 0] rfl⟩
  intro i a2 H locs ls hI ih_1
  obtain ⟨hi, hP, hD, hS, hl⟩ := hI
  refine lv_iload_n hx hb dX7_next_5 rfl (lv_at hl 1 rfl) ?_
  refine lv_aload_n hx hb dX7_next_6 rfl (lv_at hl 0 rfl) ?_
  refine va_get (D := (dC, dI)) (ci := 7) (v := .int (nI en)) (C := RX7) (T := TX7) (N := 15) hx hb hts (fun w h => wM_c (iX7 w h)) hown hK hP 0 rfl rfl 10 (by decide) (hts _ (wM_c wd_346)) (fun _ h9 => h9) rfl dX7_next_7 ?_
  refine lv_icmp_ge (tgt := 37) hx hb dX7_next_10 (by decide) (fun c_2 => ?_) (fun c_2 => ?_)
  · skip
    have g_3 := n_ge (a := i) (b := en) c_2 (by omega) (by omega)
    refine lv_aload_n hx hb dX7_next_37 rfl (lv_at hl 0 rfl) ?_
    refine lv_aload_n hx hb dX7_next_38 rfl (lv_at hl 0 rfl) ?_
    refine va_get (D := (dC, dI)) (ci := 7) (v := .int (nI a2)) (C := RX7) (T := TX7) (N := 15) hx hb hts (fun w h => wM_c (iX7 w h)) hown hK hP 0 rfl rfl 11 (by decide) (hts _ (wM_c wd_347)) (fun _ h9 => h9) rfl dX7_next_39 ?_
    refine va_put (D := (dC, dI)) (ci := 7) (v := .int (nI a2)) (ty := .int) (C := RX7) (T := TX7) (N := 15) hx hb hts (fun w h => wM_c (iX7 w h)) tyX7 tyX7_ok nmX7 hown hK hP hD hS 0 rfl rfl 13 (by decide) (hts _ (wM_c wd_349)) (fun _ h9 => h9) rfl (by decide +kernel) rfl rfl (Nat.le_of_ble_eq_true rfl) dX7_next_42 (fun H locs hP hD hS => ?_)
    have hP : va_P (dC, dI) classes [(rd, .inr (7, [.ref rd_tape, .int fd1, .int fa1, .int fp1, .ref bk, .ref rd_names, .ref rd_nameKind, .ref rd_nameNumber, .int (nI nm), .ref rd_knotNames, .int (nI en), .int (nI a2), .int tk1, .int (nI a2), .long tv1])), (rd_tape, .inl (k_rd_tape, 600, .inl f_rd_tape))] H := hP
    have hD : va_D A [(rd, .inr (7, [.ref rd_tape, .int fd1, .int fa1, .int fp1, .ref bk, .ref rd_names, .ref rd_nameKind, .ref rd_nameNumber, .int (nI nm), .ref rd_knotNames, .int (nI en), .int (nI a2), .int tk1, .int (nI a2), .long tv1])), (rd_tape, .inl (k_rd_tape, 600, .inl f_rd_tape))] := hD
    refine lv_aload_n hx hb dX7_next_45 rfl (lv_at hl 0 rfl) ?_
    refine lv_lconst (v := 0) hx hb dX7_next_46 (by decide) ?_
    refine va_put (D := (dC, dI)) (ci := 7) (v := .long 0) (ty := .long) (C := RX7) (T := TX7) (N := 15) hx hb hts (fun w h => wM_c (iX7 w h)) tyX7 tyX7_ok nmX7 hown hK hP hD hS 0 rfl rfl 14 (by decide) (hts _ (wM_c wd_350)) (fun _ h9 => h9) rfl (by decide +kernel) rfl rfl (Nat.le_of_ble_eq_true rfl) dX7_next_47 (fun H locs hP hD hS => ?_)
    have hP : va_P (dC, dI) classes [(rd, .inr (7, [.ref rd_tape, .int fd1, .int fa1, .int fp1, .ref bk, .ref rd_names, .ref rd_nameKind, .ref rd_nameNumber, .int (nI nm), .ref rd_knotNames, .int (nI en), .int (nI a2), .int tk1, .int (nI a2), .long 0])), (rd_tape, .inl (k_rd_tape, 600, .inl f_rd_tape))] H := hP
    have hD : va_D A [(rd, .inr (7, [.ref rd_tape, .int fd1, .int fa1, .int fp1, .ref bk, .ref rd_names, .ref rd_nameKind, .ref rd_nameNumber, .int (nI nm), .ref rd_knotNames, .int (nI en), .int (nI a2), .int tk1, .int (nI a2), .long 0])), (rd_tape, .inl (k_rd_tape, 600, .inl f_rd_tape))] := hD
    refine lv_aload_n hx hb dX7_next_50 rfl (lv_at hl 0 rfl) ?_
    refine va_get (D := (dC, dI)) (ci := 7) (v := .int (nI a2)) (C := RX7) (T := TX7) (N := 15) hx hb hts (fun w h => wM_c (iX7 w h)) hown hK hP 0 rfl rfl 11 (by decide) (hts _ (wM_c wd_347)) (fun _ h9 => h9) rfl dX7_next_51 ?_
    refine lv_aload_n hx hb dX7_next_54 rfl (lv_at hl 0 rfl) ?_
    refine va_get (D := (dC, dI)) (ci := 7) (v := .int (nI en)) (C := RX7) (T := TX7) (N := 15) hx hb hts (fun w h => wM_c (iX7 w h)) hown hK hP 0 rfl rfl 10 (by decide) (hts _ (wM_c wd_346)) (fun _ h9 => h9) rfl dX7_next_55 ?_
    refine lv_icmp_lt (tgt := 69) hx hb dX7_next_58 (by decide) (fun c_4 => ?_) (fun c_4 => ?_)
    · skip
      have g_5 := n_lt (a := a2) (b := en) c_4 (by omega) (by omega)
      refine lv_aload_n hx hb dX7_next_69 rfl (lv_at hl 0 rfl) ?_
      refine va_get (D := (dC, dI)) (ci := 7) (v := .ref rd_tape) (C := RX7) (T := TX7) (N := 15) hx hb hts (fun w h => wM_c (iX7 w h)) hown hK hP 0 rfl rfl 0 (by decide) (hts _ (wM_c wd_333)) (fun _ h9 => h9) rfl dX7_next_70 ?_
      refine lv_aload_n hx hb dX7_next_73 rfl (lv_at hl 0 rfl) ?_
      refine va_get (D := (dC, dI)) (ci := 7) (v := .int (nI a2)) (C := RX7) (T := TX7) (N := 15) hx hb hts (fun w h => wM_c (iX7 w h)) hown hK hP 0 rfl rfl 11 (by decide) (hts _ (wM_c wd_347)) (fun _ h9 => h9) rfl dX7_next_74 ?_
      refine va_iald hx hb hK hP 1 0 rfl rfl (vp_in_nI (n := a2) (by omega) (by omega)) dX7_next_77 ?_
      refine lv_topi (fun v_6 ev_6 => ?_)
      have nv_6 : v_6 = f_rd_tape a2 := by rw [ev_6]; exact congrArg _ (nI_clamp (by omega))
      have hPc := hP.sub (ws' := []) [] rfl
      have hDc := hD.sub (ws' := []) [] (by decide) rfl
      have hKc := hK.sub (tys' := []) [] rfl
      have hFc := va_free (wc := []) hD hS hA [] rfl
      refine va_calli (va_runS (As := [.int v_6]) (rest := []) ⟨hx, hb, hml, hown, hts⟩ (c7_isLetter l dC dI n0 atx H.size v_6 ) (va_cwS 1 hts (gS (fun w h => wM_c h) wd_738 wd_736 wd_737 wd_117) rfl rfl rfl (by decide +kernel) ⟨Nat.le_of_ble_eq_true rfl, Nat.le_of_ble_eq_true rfl⟩) ⟨fun a U g mk q => by obtain ⟨q0, q1, q2, qG, qP, qK, qD⟩ := q; exact ⟨q0, q1, q2, GW.blind qG, qP, va_K.moved (u := U) (U := U.calling g mk a) (Vm.Alike.refl U.vm) qK, qD⟩, fun U hU hW => ⟨rfl, by rw [hU], Nat.le_trans hn0 hS.1, GW.go hW hU hG (fun q hq hA9 => hS.2.1 q hq (fun h => hA9 (hA0 q h))), by rw [hU]; exact hPc, va_K.moved hW.alike hKc, hDc.weaken (fun _ _ _ h => hA0 _ h)⟩⟩ rfl rfl hl.1 rfl (lv_room (Nat.le_of_ble_eq_true rfl)) dX7_next_78 ⟨Nat.le_of_ble_eq_true rfl, Nat.le_of_ble_eq_true rfl⟩) hS (fun q _ h => hFc q h) hFc (fun r_7 u t H1 locs ht hvm hw_8 hB hz1 hk1 hS => ?_)
      obtain ⟨hP1, hK1, hD1⟩ := hB
      rw [ht] at hP1
      obtain ⟨hP, hD⟩ := va_join (wr := [(rd, .inr (7, [.ref rd_tape, .int fd1, .int fa1, .int fp1, .ref bk, .ref rd_names, .ref rd_nameKind, .ref rd_nameNumber, .int (nI nm), .ref rd_knotNames, .int (nI en), .int (nI a2), .int tk1, .int (nI a2), .long 0])), (rd_tape, .inl (k_rd_tape, 600, .inl f_rd_tape))]) (w1 := []) hP hD [] [0, 1] rfl rfl (by decide) (by decide) hk1 hFc hP1 hD1
      generalize H1 = H at hP hS ⊢
      have hP : va_P (dC, dI) classes [(rd, .inr (7, [.ref rd_tape, .int fd1, .int fa1, .int fp1, .ref bk, .ref rd_names, .ref rd_nameKind, .ref rd_nameNumber, .int (nI nm), .ref rd_knotNames, .int (nI en), .int (nI a2), .int tk1, .int (nI a2), .long 0])), (rd_tape, .inl (k_rd_tape, 600, .inl f_rd_tape))] H := hP
      have hD : va_D A [(rd, .inr (7, [.ref rd_tape, .int fd1, .int fa1, .int fp1, .ref bk, .ref rd_names, .ref rd_nameKind, .ref rd_nameNumber, .int (nI nm), .ref rd_knotNames, .int (nI en), .int (nI a2), .int tk1, .int (nI a2), .long 0])), (rd_tape, .inl (k_rd_tape, 600, .inl f_rd_tape))] := hD
      rcases hw_8 with rfl | rfl
      · skip
        refine lv_if_eq (tgt := 91) hx hb dX7_next_81 (by decide) (fun c_9 => ?_) (fun c_9 => ?_)
        · skip
          refine lv_aload_n hx hb dX7_next_91 rfl (lv_at hl 0 rfl) ?_
          refine va_get (D := (dC, dI)) (ci := 7) (v := .ref rd_tape) (C := RX7) (T := TX7) (N := 15) hx hb hts (fun w h => wM_c (iX7 w h)) hown hK hP 0 rfl rfl 0 (by decide) (hts _ (wM_c wd_333)) (fun _ h9 => h9) rfl dX7_next_92 ?_
          refine lv_aload_n hx hb dX7_next_95 rfl (lv_at hl 0 rfl) ?_
          refine va_get (D := (dC, dI)) (ci := 7) (v := .int (nI a2)) (C := RX7) (T := TX7) (N := 15) hx hb hts (fun w h => wM_c (iX7 w h)) hown hK hP 0 rfl rfl 11 (by decide) (hts _ (wM_c wd_347)) (fun _ h9 => h9) rfl dX7_next_96 ?_
          refine va_iald hx hb hK hP 1 0 rfl rfl (vp_in_nI (n := a2) (by omega) (by omega)) dX7_next_99 ?_
          refine lv_topi (fun v_10 ev_10 => ?_)
          have nv_10 : v_10 = f_rd_tape a2 := by rw [ev_10]; exact congrArg _ (nI_clamp (by omega))
          have hPc := hP.sub (ws' := []) [] rfl
          have hDc := hD.sub (ws' := []) [] (by decide) rfl
          have hKc := hK.sub (tys' := []) [] rfl
          have hFc := va_free (wc := []) hD hS hA [] rfl
          refine va_calli (va_runS (As := [.int v_10]) (rest := []) ⟨hx, hb, hml, hown, hts⟩ (c7_isDigit l dC dI n0 atx H.size v_10 ) (va_cwS 1 hts (gS (fun w h => wM_c h) wd_745 wd_743 wd_744 wd_117) rfl rfl rfl (by decide +kernel) ⟨Nat.le_of_ble_eq_true rfl, Nat.le_of_ble_eq_true rfl⟩) ⟨fun a U g mk q => by obtain ⟨q0, q1, q2, qG, qP, qK, qD⟩ := q; exact ⟨q0, q1, q2, GW.blind qG, qP, va_K.moved (u := U) (U := U.calling g mk a) (Vm.Alike.refl U.vm) qK, qD⟩, fun U hU hW => ⟨rfl, by rw [hU], Nat.le_trans hn0 hS.1, GW.go hW hU hG (fun q hq hA9 => hS.2.1 q hq (fun h => hA9 (hA0 q h))), by rw [hU]; exact hPc, va_K.moved hW.alike hKc, hDc.weaken (fun _ _ _ h => hA0 _ h)⟩⟩ rfl rfl hl.1 rfl (lv_room (Nat.le_of_ble_eq_true rfl)) dX7_next_100 ⟨Nat.le_of_ble_eq_true rfl, Nat.le_of_ble_eq_true rfl⟩) hS (fun q _ h => hFc q h) hFc (fun r_11 u t H1 locs ht hvm hw_12 hB hz1 hk1 hS => ?_)
          obtain ⟨hP1, hK1, hD1⟩ := hB
          rw [ht] at hP1
          obtain ⟨hP, hD⟩ := va_join (wr := [(rd, .inr (7, [.ref rd_tape, .int fd1, .int fa1, .int fp1, .ref bk, .ref rd_names, .ref rd_nameKind, .ref rd_nameNumber, .int (nI nm), .ref rd_knotNames, .int (nI en), .int (nI a2), .int tk1, .int (nI a2), .long 0])), (rd_tape, .inl (k_rd_tape, 600, .inl f_rd_tape))]) (w1 := []) hP hD [] [0, 1] rfl rfl (by decide) (by decide) hk1 hFc hP1 hD1
          generalize H1 = H at hP hS ⊢
          have hP : va_P (dC, dI) classes [(rd, .inr (7, [.ref rd_tape, .int fd1, .int fa1, .int fp1, .ref bk, .ref rd_names, .ref rd_nameKind, .ref rd_nameNumber, .int (nI nm), .ref rd_knotNames, .int (nI en), .int (nI a2), .int tk1, .int (nI a2), .long 0])), (rd_tape, .inl (k_rd_tape, 600, .inl f_rd_tape))] H := hP
          have hD : va_D A [(rd, .inr (7, [.ref rd_tape, .int fd1, .int fa1, .int fp1, .ref bk, .ref rd_names, .ref rd_nameKind, .ref rd_nameNumber, .int (nI nm), .ref rd_knotNames, .int (nI en), .int (nI a2), .int tk1, .int (nI a2), .long 0])), (rd_tape, .inl (k_rd_tape, 600, .inl f_rd_tape))] := hD
          rcases hw_12 with rfl | rfl
          · skip
            refine lv_if_eq (tgt := 113) hx hb dX7_next_103 (by decide) (fun c_13 => ?_) (fun c_13 => ?_)
            · skip
              refine lv_aload_n hx hb dX7_next_113 rfl (lv_at hl 0 rfl) ?_
              refine lv_aload_n hx hb dX7_next_114 rfl (lv_at hl 0 rfl) ?_
              refine va_get (D := (dC, dI)) (ci := 7) (v := .ref rd_tape) (C := RX7) (T := TX7) (N := 15) hx hb hts (fun w h => wM_c (iX7 w h)) hown hK hP 0 rfl rfl 0 (by decide) (hts _ (wM_c wd_333)) (fun _ h9 => h9) rfl dX7_next_115 ?_
              refine lv_aload_n hx hb dX7_next_118 rfl (lv_at hl 0 rfl) ?_
              refine va_get (D := (dC, dI)) (ci := 7) (v := .int (nI a2)) (C := RX7) (T := TX7) (N := 15) hx hb hts (fun w h => wM_c (iX7 w h)) hown hK hP 0 rfl rfl 11 (by decide) (hts _ (wM_c wd_347)) (fun _ h9 => h9) rfl dX7_next_119 ?_
              refine va_iald hx hb hK hP 1 0 rfl rfl (vp_in_nI (n := a2) (by omega) (by omega)) dX7_next_122 ?_
              refine lv_topi (fun v_14 ev_14 => ?_)
              have nv_14 : v_14 = f_rd_tape a2 := by rw [ev_14]; exact congrArg _ (nI_clamp (by omega))
              refine lv_bipush (v := 59) hx hb dX7_next_123 (by decide) ?_
              refine lv_icmp_ne (tgt := 132) hx hb dX7_next_125 (by decide) (fun c_15 => ?_) (fun c_15 => ?_)
              · skip
                have g_16 : v_14.toInt ≠ (59 : Int) := i_ne c_15
                refine lv_aload_n hx hb dX7_next_132 rfl (lv_at hl 0 rfl) ?_
                refine va_get (D := (dC, dI)) (ci := 7) (v := .ref rd_tape) (C := RX7) (T := TX7) (N := 15) hx hb hts (fun w h => wM_c (iX7 w h)) hown hK hP 0 rfl rfl 0 (by decide) (hts _ (wM_c wd_333)) (fun _ h9 => h9) rfl dX7_next_133 ?_
                refine lv_aload_n hx hb dX7_next_136 rfl (lv_at hl 0 rfl) ?_
                refine va_get (D := (dC, dI)) (ci := 7) (v := .int (nI a2)) (C := RX7) (T := TX7) (N := 15) hx hb hts (fun w h => wM_c (iX7 w h)) hown hK hP 0 rfl rfl 11 (by decide) (hts _ (wM_c wd_347)) (fun _ h9 => h9) rfl dX7_next_137 ?_
                refine va_iald hx hb hK hP 1 0 rfl rfl (vp_in_nI (n := a2) (by omega) (by omega)) dX7_next_140 ?_
                refine lv_topi (fun v_17 ev_17 => ?_)
                have nv_17 : v_17 = f_rd_tape a2 := by rw [ev_17]; exact congrArg _ (nI_clamp (by omega))
                refine lv_bipush (v := 45) hx hb dX7_next_141 (by decide) ?_
                refine lv_icmp_ne (tgt := 150) hx hb dX7_next_143 (by decide) (fun c_18 => ?_) (fun c_18 => ?_)
                · skip
                  have g_19 : v_17.toInt ≠ (45 : Int) := i_ne c_18
                  refine lv_iconst (v := 5) hx hb dX7_next_150 (by decide) ?_
                  refine va_put (D := (dC, dI)) (ci := 7) (v := .int 5) (ty := .int) (C := RX7) (T := TX7) (N := 15) hx hb hts (fun w h => wM_c (iX7 w h)) tyX7 tyX7_ok nmX7 hown hK hP hD hS 0 rfl rfl 12 (by decide) (hts _ (wM_c wd_348)) (fun _ h9 => h9) rfl (by decide +kernel) rfl rfl (Nat.le_of_ble_eq_true rfl) dX7_next_151 (fun H locs hP hD hS => ?_)
                  have hP : va_P (dC, dI) classes [(rd, .inr (7, [.ref rd_tape, .int fd1, .int fa1, .int fp1, .ref bk, .ref rd_names, .ref rd_nameKind, .ref rd_nameNumber, .int (nI nm), .ref rd_knotNames, .int (nI en), .int (nI a2), .int 5, .int (nI a2), .long 0])), (rd_tape, .inl (k_rd_tape, 600, .inl f_rd_tape))] H := hP
                  have hD : va_D A [(rd, .inr (7, [.ref rd_tape, .int fd1, .int fa1, .int fp1, .ref bk, .ref rd_names, .ref rd_nameKind, .ref rd_nameNumber, .int (nI nm), .ref rd_knotNames, .int (nI en), .int (nI a2), .int 5, .int (nI a2), .long 0])), (rd_tape, .inl (k_rd_tape, 600, .inl f_rd_tape))] := hD
                  refine lv_aload_n hx hb dX7_next_154 rfl (lv_at hl 0 rfl) ?_
                  refine lv_dup hx hb dX7_next_155 rfl ?_
                  refine va_get (D := (dC, dI)) (ci := 7) (v := .int (nI a2)) (C := RX7) (T := TX7) (N := 15) hx hb hts (fun w h => wM_c (iX7 w h)) hown hK hP 0 rfl rfl 11 (by decide) (hts _ (wM_c wd_347)) (fun _ h9 => h9) rfl dX7_next_156 ?_
                  refine lv_iconst (v := 1) hx hb dX7_next_159 (by decide) ?_
                  refine lv_iadd hx hb dX7_next_160 ?_
                  refine lv_topi (fun v_20 ev_20 => ?_)
                  obtain rfl : v_20 = nI (a2 + 1) := ev_20.trans (nI_add a2 1)
                  refine va_put (D := (dC, dI)) (ci := 7) (v := .int (nI (a2 + 1))) (ty := .int) (C := RX7) (T := TX7) (N := 15) hx hb hts (fun w h => wM_c (iX7 w h)) tyX7 tyX7_ok nmX7 hown hK hP hD hS 0 rfl rfl 11 (by decide) (hts _ (wM_c wd_347)) (fun _ h9 => h9) rfl (by decide +kernel) rfl rfl (Nat.le_of_ble_eq_true rfl) dX7_next_161 (fun H locs hP hD hS => ?_)
                  have hP : va_P (dC, dI) classes [(rd, .inr (7, [.ref rd_tape, .int fd1, .int fa1, .int fp1, .ref bk, .ref rd_names, .ref rd_nameKind, .ref rd_nameNumber, .int (nI nm), .ref rd_knotNames, .int (nI en), .int (nI (a2 + 1)), .int 5, .int (nI a2), .long 0])), (rd_tape, .inl (k_rd_tape, 600, .inl f_rd_tape))] H := hP
                  have hD : va_D A [(rd, .inr (7, [.ref rd_tape, .int fd1, .int fa1, .int fp1, .ref bk, .ref rd_names, .ref rd_nameKind, .ref rd_nameNumber, .int (nI nm), .ref rd_knotNames, .int (nI en), .int (nI (a2 + 1)), .int 5, .int (nI a2), .long 0])), (rd_tape, .inl (k_rd_tape, 600, .inl f_rd_tape))] := hD
                  have hP9 := hP.sub (ws' := [(rd, .inr (7, [.ref rd_tape, .int fd1, .int fa1, .int fp1, .ref bk, .ref rd_names, .ref rd_nameKind, .ref rd_nameNumber, .int (nI nm), .ref rd_knotNames, .int (nI en), .int (nI (a2 + 1)), .int 5, .int (nI a2), .long 0])), (rd_tape, .inl (k_rd_tape, 600, .inl f_rd_tape))]) [0, 1] rfl
                  have hD9 := hD.sub (ws' := [(rd, .inr (7, [.ref rd_tape, .int fd1, .int fa1, .int fp1, .ref bk, .ref rd_names, .ref rd_nameKind, .ref rd_nameNumber, .int (nI nm), .ref rd_knotNames, .int (nI en), .int (nI (a2 + 1)), .int 5, .int (nI a2), .long 0])), (rd_tape, .inl (k_rd_tape, 600, .inl f_rd_tape))]) [0, 1] (by decide) rfl
                  have hK9 := hK.sub (tys' := [(k_rd_tape, .int)]) [0] rfl
                  exact W.vret hx hb hr (fun t ht hW => ⟨⟨(), rfl, trivial, (a2 + 1), 5, (nI a2), 0, (by first | with_reducible assumption | omega | exact vp_in_iff.mpr (by omega) | exact vp_in_nI (by omega) (by omega) | exact ⟨by omega, by omega⟩), by rw [ht]; exact hP9, va_K.moved hW.alike hK9, hD9⟩, hS.F ht⟩) hS.2.2 dX7_next_164
                · skip
                  have g_21 : v_17.toInt = (45 : Int) := i_eq c_18
                  refine lv_iconst (v := 4) hx hb dX7_next_146 (by decide) ?_
                  refine lv_goto (tgt := 151) hx hb dX7_next_147 (by decide) ?_
                  refine va_put (D := (dC, dI)) (ci := 7) (v := .int 4) (ty := .int) (C := RX7) (T := TX7) (N := 15) hx hb hts (fun w h => wM_c (iX7 w h)) tyX7 tyX7_ok nmX7 hown hK hP hD hS 0 rfl rfl 12 (by decide) (hts _ (wM_c wd_348)) (fun _ h9 => h9) rfl (by decide +kernel) rfl rfl (Nat.le_of_ble_eq_true rfl) dX7_next_151 (fun H locs hP hD hS => ?_)
                  have hP : va_P (dC, dI) classes [(rd, .inr (7, [.ref rd_tape, .int fd1, .int fa1, .int fp1, .ref bk, .ref rd_names, .ref rd_nameKind, .ref rd_nameNumber, .int (nI nm), .ref rd_knotNames, .int (nI en), .int (nI a2), .int 4, .int (nI a2), .long 0])), (rd_tape, .inl (k_rd_tape, 600, .inl f_rd_tape))] H := hP
                  have hD : va_D A [(rd, .inr (7, [.ref rd_tape, .int fd1, .int fa1, .int fp1, .ref bk, .ref rd_names, .ref rd_nameKind, .ref rd_nameNumber, .int (nI nm), .ref rd_knotNames, .int (nI en), .int (nI a2), .int 4, .int (nI a2), .long 0])), (rd_tape, .inl (k_rd_tape, 600, .inl f_rd_tape))] := hD
                  refine lv_aload_n hx hb dX7_next_154 rfl (lv_at hl 0 rfl) ?_
                  refine lv_dup hx hb dX7_next_155 rfl ?_
                  refine va_get (D := (dC, dI)) (ci := 7) (v := .int (nI a2)) (C := RX7) (T := TX7) (N := 15) hx hb hts (fun w h => wM_c (iX7 w h)) hown hK hP 0 rfl rfl 11 (by decide) (hts _ (wM_c wd_347)) (fun _ h9 => h9) rfl dX7_next_156 ?_
                  refine lv_iconst (v := 1) hx hb dX7_next_159 (by decide) ?_
                  refine lv_iadd hx hb dX7_next_160 ?_
                  refine lv_topi (fun v_22 ev_22 => ?_)
                  obtain rfl : v_22 = nI (a2 + 1) := ev_22.trans (nI_add a2 1)
                  refine va_put (D := (dC, dI)) (ci := 7) (v := .int (nI (a2 + 1))) (ty := .int) (C := RX7) (T := TX7) (N := 15) hx hb hts (fun w h => wM_c (iX7 w h)) tyX7 tyX7_ok nmX7 hown hK hP hD hS 0 rfl rfl 11 (by decide) (hts _ (wM_c wd_347)) (fun _ h9 => h9) rfl (by decide +kernel) rfl rfl (Nat.le_of_ble_eq_true rfl) dX7_next_161 (fun H locs hP hD hS => ?_)
                  have hP : va_P (dC, dI) classes [(rd, .inr (7, [.ref rd_tape, .int fd1, .int fa1, .int fp1, .ref bk, .ref rd_names, .ref rd_nameKind, .ref rd_nameNumber, .int (nI nm), .ref rd_knotNames, .int (nI en), .int (nI (a2 + 1)), .int 4, .int (nI a2), .long 0])), (rd_tape, .inl (k_rd_tape, 600, .inl f_rd_tape))] H := hP
                  have hD : va_D A [(rd, .inr (7, [.ref rd_tape, .int fd1, .int fa1, .int fp1, .ref bk, .ref rd_names, .ref rd_nameKind, .ref rd_nameNumber, .int (nI nm), .ref rd_knotNames, .int (nI en), .int (nI (a2 + 1)), .int 4, .int (nI a2), .long 0])), (rd_tape, .inl (k_rd_tape, 600, .inl f_rd_tape))] := hD
                  have hP9 := hP.sub (ws' := [(rd, .inr (7, [.ref rd_tape, .int fd1, .int fa1, .int fp1, .ref bk, .ref rd_names, .ref rd_nameKind, .ref rd_nameNumber, .int (nI nm), .ref rd_knotNames, .int (nI en), .int (nI (a2 + 1)), .int 4, .int (nI a2), .long 0])), (rd_tape, .inl (k_rd_tape, 600, .inl f_rd_tape))]) [0, 1] rfl
                  have hD9 := hD.sub (ws' := [(rd, .inr (7, [.ref rd_tape, .int fd1, .int fa1, .int fp1, .ref bk, .ref rd_names, .ref rd_nameKind, .ref rd_nameNumber, .int (nI nm), .ref rd_knotNames, .int (nI en), .int (nI (a2 + 1)), .int 4, .int (nI a2), .long 0])), (rd_tape, .inl (k_rd_tape, 600, .inl f_rd_tape))]) [0, 1] (by decide) rfl
                  have hK9 := hK.sub (tys' := [(k_rd_tape, .int)]) [0] rfl
                  exact W.vret hx hb hr (fun t ht hW => ⟨⟨(), rfl, trivial, (a2 + 1), 4, (nI a2), 0, (by first | with_reducible assumption | omega | exact vp_in_iff.mpr (by omega) | exact vp_in_nI (by omega) (by omega) | exact ⟨by omega, by omega⟩), by rw [ht]; exact hP9, va_K.moved hW.alike hK9, hD9⟩, hS.F ht⟩) hS.2.2 dX7_next_164
              · skip
                have g_23 : v_14.toInt = (59 : Int) := i_eq c_15
                refine lv_iconst (v := 3) hx hb dX7_next_128 (by decide) ?_
                refine lv_goto (tgt := 151) hx hb dX7_next_129 (by decide) ?_
                refine va_put (D := (dC, dI)) (ci := 7) (v := .int 3) (ty := .int) (C := RX7) (T := TX7) (N := 15) hx hb hts (fun w h => wM_c (iX7 w h)) tyX7 tyX7_ok nmX7 hown hK hP hD hS 0 rfl rfl 12 (by decide) (hts _ (wM_c wd_348)) (fun _ h9 => h9) rfl (by decide +kernel) rfl rfl (Nat.le_of_ble_eq_true rfl) dX7_next_151 (fun H locs hP hD hS => ?_)
                have hP : va_P (dC, dI) classes [(rd, .inr (7, [.ref rd_tape, .int fd1, .int fa1, .int fp1, .ref bk, .ref rd_names, .ref rd_nameKind, .ref rd_nameNumber, .int (nI nm), .ref rd_knotNames, .int (nI en), .int (nI a2), .int 3, .int (nI a2), .long 0])), (rd_tape, .inl (k_rd_tape, 600, .inl f_rd_tape))] H := hP
                have hD : va_D A [(rd, .inr (7, [.ref rd_tape, .int fd1, .int fa1, .int fp1, .ref bk, .ref rd_names, .ref rd_nameKind, .ref rd_nameNumber, .int (nI nm), .ref rd_knotNames, .int (nI en), .int (nI a2), .int 3, .int (nI a2), .long 0])), (rd_tape, .inl (k_rd_tape, 600, .inl f_rd_tape))] := hD
                refine lv_aload_n hx hb dX7_next_154 rfl (lv_at hl 0 rfl) ?_
                refine lv_dup hx hb dX7_next_155 rfl ?_
                refine va_get (D := (dC, dI)) (ci := 7) (v := .int (nI a2)) (C := RX7) (T := TX7) (N := 15) hx hb hts (fun w h => wM_c (iX7 w h)) hown hK hP 0 rfl rfl 11 (by decide) (hts _ (wM_c wd_347)) (fun _ h9 => h9) rfl dX7_next_156 ?_
                refine lv_iconst (v := 1) hx hb dX7_next_159 (by decide) ?_
                refine lv_iadd hx hb dX7_next_160 ?_
                refine lv_topi (fun v_24 ev_24 => ?_)
                obtain rfl : v_24 = nI (a2 + 1) := ev_24.trans (nI_add a2 1)
                refine va_put (D := (dC, dI)) (ci := 7) (v := .int (nI (a2 + 1))) (ty := .int) (C := RX7) (T := TX7) (N := 15) hx hb hts (fun w h => wM_c (iX7 w h)) tyX7 tyX7_ok nmX7 hown hK hP hD hS 0 rfl rfl 11 (by decide) (hts _ (wM_c wd_347)) (fun _ h9 => h9) rfl (by decide +kernel) rfl rfl (Nat.le_of_ble_eq_true rfl) dX7_next_161 (fun H locs hP hD hS => ?_)
                have hP : va_P (dC, dI) classes [(rd, .inr (7, [.ref rd_tape, .int fd1, .int fa1, .int fp1, .ref bk, .ref rd_names, .ref rd_nameKind, .ref rd_nameNumber, .int (nI nm), .ref rd_knotNames, .int (nI en), .int (nI (a2 + 1)), .int 3, .int (nI a2), .long 0])), (rd_tape, .inl (k_rd_tape, 600, .inl f_rd_tape))] H := hP
                have hD : va_D A [(rd, .inr (7, [.ref rd_tape, .int fd1, .int fa1, .int fp1, .ref bk, .ref rd_names, .ref rd_nameKind, .ref rd_nameNumber, .int (nI nm), .ref rd_knotNames, .int (nI en), .int (nI (a2 + 1)), .int 3, .int (nI a2), .long 0])), (rd_tape, .inl (k_rd_tape, 600, .inl f_rd_tape))] := hD
                have hP9 := hP.sub (ws' := [(rd, .inr (7, [.ref rd_tape, .int fd1, .int fa1, .int fp1, .ref bk, .ref rd_names, .ref rd_nameKind, .ref rd_nameNumber, .int (nI nm), .ref rd_knotNames, .int (nI en), .int (nI (a2 + 1)), .int 3, .int (nI a2), .long 0])), (rd_tape, .inl (k_rd_tape, 600, .inl f_rd_tape))]) [0, 1] rfl
                have hD9 := hD.sub (ws' := [(rd, .inr (7, [.ref rd_tape, .int fd1, .int fa1, .int fp1, .ref bk, .ref rd_names, .ref rd_nameKind, .ref rd_nameNumber, .int (nI nm), .ref rd_knotNames, .int (nI en), .int (nI (a2 + 1)), .int 3, .int (nI a2), .long 0])), (rd_tape, .inl (k_rd_tape, 600, .inl f_rd_tape))]) [0, 1] (by decide) rfl
                have hK9 := hK.sub (tys' := [(k_rd_tape, .int)]) [0] rfl
                exact W.vret hx hb hr (fun t ht hW => ⟨⟨(), rfl, trivial, (a2 + 1), 3, (nI a2), 0, (by first | with_reducible assumption | omega | exact vp_in_iff.mpr (by omega) | exact vp_in_nI (by omega) (by omega) | exact ⟨by omega, by omega⟩), by rw [ht]; exact hP9, va_K.moved hW.alike hK9, hD9⟩, hS.F ht⟩) hS.2.2 dX7_next_164
            · exact absurd c_13 (by decide)
          · skip
            refine lv_if_eq (tgt := 113) hx hb dX7_next_103 (by decide) (fun c_25 => ?_) (fun c_25 => ?_)
            · exact absurd c_25 (by decide)
            refine lv_aload_n hx hb dX7_next_106 rfl (lv_at hl 0 rfl) ?_
            have hPc := hP.sub (ws' := [(rd, .inr (7, [.ref rd_tape, .int fd1, .int fa1, .int fp1, .ref bk, .ref rd_names, .ref rd_nameKind, .ref rd_nameNumber, .int (nI nm), .ref rd_knotNames, .int (nI en), .int (nI a2), .int tk1, .int (nI a2), .long 0])), (rd_tape, .inl (k_rd_tape, 600, .inl f_rd_tape))]) [0, 1] rfl
            have hDc := hD.sub (ws' := [(rd, .inr (7, [.ref rd_tape, .int fd1, .int fa1, .int fp1, .ref bk, .ref rd_names, .ref rd_nameKind, .ref rd_nameNumber, .int (nI nm), .ref rd_knotNames, .int (nI en), .int (nI a2), .int tk1, .int (nI a2), .long 0])), (rd_tape, .inl (k_rd_tape, 600, .inl f_rd_tape))]) [0, 1] (by decide) rfl
            have hKc := hK.sub (tys' := [(k_rd_tape, .int)]) [0] rfl
            have hFc := va_free (wc := [(rd, .inr (7, [.ref rd_tape, .int fd1, .int fa1, .int fp1, .ref bk, .ref rd_names, .ref rd_nameKind, .ref rd_nameNumber, .int (nI nm), .ref rd_knotNames, .int (nI en), .int (nI a2), .int tk1, .int (nI a2), .long 0])), (rd_tape, .inl (k_rd_tape, 600, .inl f_rd_tape))]) hD hS hA [0, 1] rfl
            refine va_callv (va_runV (As := []) (rest := []) ⟨hx, hb, hml, hown, hts⟩ (c7_readDigits l dC dI n0 atx H.size rd rd_tape fd1 fa1 fp1 bk rd_names rd_nameKind rd_nameNumber nm rd_knotNames en a2 tk1 (nI a2) 0 k_rd_tape f_rd_tape (by first | with_reducible assumption | omega | exact vp_in_iff.mpr (by omega) | exact vp_in_nI (by omega) (by omega) | exact ⟨by omega, by omega⟩) (by first | with_reducible assumption | omega | exact vp_in_iff.mpr (by omega) | exact vp_in_nI (by omega) (by omega) | exact ⟨by omega, by omega⟩)) (cwV 0 hts (gV (fun w h => wM_c h) wd_749 wd_746 wd_748 wd_3 wd_117) rfl rfl rfl (by decide +kernel) ⟨Nat.le_of_ble_eq_true rfl, Nat.le_of_ble_eq_true rfl⟩) ⟨fun a U g mk q => by obtain ⟨q0, q1, q2, qG, qP, qK, qD⟩ := q; exact ⟨q0, q1, q2, GW.blind qG, qP, va_K.moved (u := U) (U := U.calling g mk a) (Vm.Alike.refl U.vm) qK, qD⟩, va_recv hKc hPc (ci := 7) (q0 := 0) rfl rfl, fun U hU hW => ⟨rfl, by rw [hU], Nat.le_trans hn0 hS.1, GW.go hW hU hG (fun q hq hA9 => hS.2.1 q hq (fun h => hA9 (hA0 q h))), by rw [hU]; exact hPc, va_K.moved hW.alike hKc, hDc.weaken (fun _ _ _ h => hA0 _ h)⟩⟩ rfl rfl hl.1 rfl (lv_room (Nat.le_of_ble_eq_true rfl)) dX7_next_107 ⟨Nat.le_of_ble_eq_true rfl, Nat.le_of_ble_eq_true rfl⟩) hS (fun q _ h => hFc q h) hFc (fun u t H1 locs ht hvm hw_27 hB hz1 hk1 hS => ?_)
            obtain ⟨at9_28, tk9_29, tv9_30, hf_31, hP1, hK1, hD1⟩ := hB
            rw [ht] at hP1
            obtain ⟨hP, hD⟩ := va_join (wr := []) (w1 := [(rd, .inr (7, [.ref rd_tape, .int fd1, .int fa1, .int fp1, .ref bk, .ref rd_names, .ref rd_nameKind, .ref rd_nameNumber, .int (nI nm), .ref rd_knotNames, .int (nI en), .int (nI at9_28), .int tk9_29, .int (nI a2), .long tv9_30])), (rd_tape, .inl (k_rd_tape, 600, .inl f_rd_tape))]) hP hD [0, 1] [] rfl rfl (by decide) (by decide) hk1 hFc hP1 hD1
            generalize H1 = H at hP hS ⊢
            have hP : va_P (dC, dI) classes [(rd, .inr (7, [.ref rd_tape, .int fd1, .int fa1, .int fp1, .ref bk, .ref rd_names, .ref rd_nameKind, .ref rd_nameNumber, .int (nI nm), .ref rd_knotNames, .int (nI en), .int (nI at9_28), .int tk9_29, .int (nI a2), .long tv9_30])), (rd_tape, .inl (k_rd_tape, 600, .inl f_rd_tape))] H := hP
            have hD : va_D A [(rd, .inr (7, [.ref rd_tape, .int fd1, .int fa1, .int fp1, .ref bk, .ref rd_names, .ref rd_nameKind, .ref rd_nameNumber, .int (nI nm), .ref rd_knotNames, .int (nI en), .int (nI at9_28), .int tk9_29, .int (nI a2), .long tv9_30])), (rd_tape, .inl (k_rd_tape, 600, .inl f_rd_tape))] := hD
            refine lv_goto (tgt := 164) hx hb dX7_next_110 (by decide) ?_
            have hP9 := hP.sub (ws' := [(rd, .inr (7, [.ref rd_tape, .int fd1, .int fa1, .int fp1, .ref bk, .ref rd_names, .ref rd_nameKind, .ref rd_nameNumber, .int (nI nm), .ref rd_knotNames, .int (nI en), .int (nI at9_28), .int tk9_29, .int (nI a2), .long tv9_30])), (rd_tape, .inl (k_rd_tape, 600, .inl f_rd_tape))]) [0, 1] rfl
            have hD9 := hD.sub (ws' := [(rd, .inr (7, [.ref rd_tape, .int fd1, .int fa1, .int fp1, .ref bk, .ref rd_names, .ref rd_nameKind, .ref rd_nameNumber, .int (nI nm), .ref rd_knotNames, .int (nI en), .int (nI at9_28), .int tk9_29, .int (nI a2), .long tv9_30])), (rd_tape, .inl (k_rd_tape, 600, .inl f_rd_tape))]) [0, 1] (by decide) rfl
            have hK9 := hK.sub (tys' := [(k_rd_tape, .int)]) [0] rfl
            exact W.vret hx hb hr (fun t ht hW => ⟨⟨(), rfl, trivial, at9_28, tk9_29, (nI a2), tv9_30, (by first | with_reducible assumption | omega | exact vp_in_iff.mpr (by omega) | exact vp_in_nI (by omega) (by omega) | exact ⟨by omega, by omega⟩), by rw [ht]; exact hP9, va_K.moved hW.alike hK9, hD9⟩, hS.F ht⟩) hS.2.2 dX7_next_164
        · exact absurd c_9 (by decide)
      · skip
        refine lv_if_eq (tgt := 91) hx hb dX7_next_81 (by decide) (fun c_32 => ?_) (fun c_32 => ?_)
        · exact absurd c_32 (by decide)
        refine lv_aload_n hx hb dX7_next_84 rfl (lv_at hl 0 rfl) ?_
        have hPc := hP.sub (ws' := [(rd, .inr (7, [.ref rd_tape, .int fd1, .int fa1, .int fp1, .ref bk, .ref rd_names, .ref rd_nameKind, .ref rd_nameNumber, .int (nI nm), .ref rd_knotNames, .int (nI en), .int (nI a2), .int tk1, .int (nI a2), .long 0])), (rd_tape, .inl (k_rd_tape, 600, .inl f_rd_tape))]) [0, 1] rfl
        have hDc := hD.sub (ws' := [(rd, .inr (7, [.ref rd_tape, .int fd1, .int fa1, .int fp1, .ref bk, .ref rd_names, .ref rd_nameKind, .ref rd_nameNumber, .int (nI nm), .ref rd_knotNames, .int (nI en), .int (nI a2), .int tk1, .int (nI a2), .long 0])), (rd_tape, .inl (k_rd_tape, 600, .inl f_rd_tape))]) [0, 1] (by decide) rfl
        have hKc := hK.sub (tys' := [(k_rd_tape, .int)]) [0] rfl
        have hFc := va_free (wc := [(rd, .inr (7, [.ref rd_tape, .int fd1, .int fa1, .int fp1, .ref bk, .ref rd_names, .ref rd_nameKind, .ref rd_nameNumber, .int (nI nm), .ref rd_knotNames, .int (nI en), .int (nI a2), .int tk1, .int (nI a2), .long 0])), (rd_tape, .inl (k_rd_tape, 600, .inl f_rd_tape))]) hD hS hA [0, 1] rfl
        refine va_callv (va_runV (As := []) (rest := []) ⟨hx, hb, hml, hown, hts⟩ (c7_readWord l dC dI n0 atx H.size rd rd_tape fd1 fa1 fp1 bk rd_names rd_nameKind rd_nameNumber nm rd_knotNames en a2 tk1 (nI a2) 0 k_rd_tape f_rd_tape (by first | with_reducible assumption | omega | exact vp_in_iff.mpr (by omega) | exact vp_in_nI (by omega) (by omega) | exact ⟨by omega, by omega⟩) (by first | with_reducible assumption | omega | exact vp_in_iff.mpr (by omega) | exact vp_in_nI (by omega) (by omega) | exact ⟨by omega, by omega⟩)) (cwV 0 hts (gV (fun w h => wM_c h) wd_742 wd_739 wd_741 wd_2 wd_117) rfl rfl rfl (by decide +kernel) ⟨Nat.le_of_ble_eq_true rfl, Nat.le_of_ble_eq_true rfl⟩) ⟨fun a U g mk q => by obtain ⟨q0, q1, q2, qG, qP, qK, qD⟩ := q; exact ⟨q0, q1, q2, GW.blind qG, qP, va_K.moved (u := U) (U := U.calling g mk a) (Vm.Alike.refl U.vm) qK, qD⟩, va_recv hKc hPc (ci := 7) (q0 := 0) rfl rfl, fun U hU hW => ⟨rfl, by rw [hU], Nat.le_trans hn0 hS.1, GW.go hW hU hG (fun q hq hA9 => hS.2.1 q hq (fun h => hA9 (hA0 q h))), by rw [hU]; exact hPc, va_K.moved hW.alike hKc, hDc.weaken (fun _ _ _ h => hA0 _ h)⟩⟩ rfl rfl hl.1 rfl (lv_room (Nat.le_of_ble_eq_true rfl)) dX7_next_85 ⟨Nat.le_of_ble_eq_true rfl, Nat.le_of_ble_eq_true rfl⟩) hS (fun q _ h => hFc q h) hFc (fun u t H1 locs ht hvm hw_34 hB hz1 hk1 hS => ?_)
        obtain ⟨at9_35, tk9_36, tv9_37, hf_38, hP1, hK1, hD1⟩ := hB
        rw [ht] at hP1
        obtain ⟨hP, hD⟩ := va_join (wr := []) (w1 := [(rd, .inr (7, [.ref rd_tape, .int fd1, .int fa1, .int fp1, .ref bk, .ref rd_names, .ref rd_nameKind, .ref rd_nameNumber, .int (nI nm), .ref rd_knotNames, .int (nI en), .int (nI at9_35), .int tk9_36, .int (nI a2), .long tv9_37])), (rd_tape, .inl (k_rd_tape, 600, .inl f_rd_tape))]) hP hD [0, 1] [] rfl rfl (by decide) (by decide) hk1 hFc hP1 hD1
        generalize H1 = H at hP hS ⊢
        have hP : va_P (dC, dI) classes [(rd, .inr (7, [.ref rd_tape, .int fd1, .int fa1, .int fp1, .ref bk, .ref rd_names, .ref rd_nameKind, .ref rd_nameNumber, .int (nI nm), .ref rd_knotNames, .int (nI en), .int (nI at9_35), .int tk9_36, .int (nI a2), .long tv9_37])), (rd_tape, .inl (k_rd_tape, 600, .inl f_rd_tape))] H := hP
        have hD : va_D A [(rd, .inr (7, [.ref rd_tape, .int fd1, .int fa1, .int fp1, .ref bk, .ref rd_names, .ref rd_nameKind, .ref rd_nameNumber, .int (nI nm), .ref rd_knotNames, .int (nI en), .int (nI at9_35), .int tk9_36, .int (nI a2), .long tv9_37])), (rd_tape, .inl (k_rd_tape, 600, .inl f_rd_tape))] := hD
        refine lv_goto (tgt := 164) hx hb dX7_next_88 (by decide) ?_
        have hP9 := hP.sub (ws' := [(rd, .inr (7, [.ref rd_tape, .int fd1, .int fa1, .int fp1, .ref bk, .ref rd_names, .ref rd_nameKind, .ref rd_nameNumber, .int (nI nm), .ref rd_knotNames, .int (nI en), .int (nI at9_35), .int tk9_36, .int (nI a2), .long tv9_37])), (rd_tape, .inl (k_rd_tape, 600, .inl f_rd_tape))]) [0, 1] rfl
        have hD9 := hD.sub (ws' := [(rd, .inr (7, [.ref rd_tape, .int fd1, .int fa1, .int fp1, .ref bk, .ref rd_names, .ref rd_nameKind, .ref rd_nameNumber, .int (nI nm), .ref rd_knotNames, .int (nI en), .int (nI at9_35), .int tk9_36, .int (nI a2), .long tv9_37])), (rd_tape, .inl (k_rd_tape, 600, .inl f_rd_tape))]) [0, 1] (by decide) rfl
        have hK9 := hK.sub (tys' := [(k_rd_tape, .int)]) [0] rfl
        exact W.vret hx hb hr (fun t ht hW => ⟨⟨(), rfl, trivial, at9_35, tk9_36, (nI a2), tv9_37, (by first | with_reducible assumption | omega | exact vp_in_iff.mpr (by omega) | exact vp_in_nI (by omega) (by omega) | exact ⟨by omega, by omega⟩), by rw [ht]; exact hP9, va_K.moved hW.alike hK9, hD9⟩, hS.F ht⟩) hS.2.2 dX7_next_164
    · skip
      have g_39 := n_nlt (a := a2) (b := en) c_4 (by omega) (by omega)
      refine lv_aload_n hx hb dX7_next_61 rfl (lv_at hl 0 rfl) ?_
      refine lv_iconst (v := 0) hx hb dX7_next_62 (by decide) ?_
      refine va_put (D := (dC, dI)) (ci := 7) (v := .int 0) (ty := .int) (C := RX7) (T := TX7) (N := 15) hx hb hts (fun w h => wM_c (iX7 w h)) tyX7 tyX7_ok nmX7 hown hK hP hD hS 0 rfl rfl 12 (by decide) (hts _ (wM_c wd_348)) (fun _ h9 => h9) rfl (by decide +kernel) rfl rfl (Nat.le_of_ble_eq_true rfl) dX7_next_63 (fun H locs hP hD hS => ?_)
      have hP : va_P (dC, dI) classes [(rd, .inr (7, [.ref rd_tape, .int fd1, .int fa1, .int fp1, .ref bk, .ref rd_names, .ref rd_nameKind, .ref rd_nameNumber, .int (nI nm), .ref rd_knotNames, .int (nI en), .int (nI a2), .int 0, .int (nI a2), .long 0])), (rd_tape, .inl (k_rd_tape, 600, .inl f_rd_tape))] H := hP
      have hD : va_D A [(rd, .inr (7, [.ref rd_tape, .int fd1, .int fa1, .int fp1, .ref bk, .ref rd_names, .ref rd_nameKind, .ref rd_nameNumber, .int (nI nm), .ref rd_knotNames, .int (nI en), .int (nI a2), .int 0, .int (nI a2), .long 0])), (rd_tape, .inl (k_rd_tape, 600, .inl f_rd_tape))] := hD
      refine lv_goto (tgt := 164) hx hb dX7_next_66 (by decide) ?_
      have hP9 := hP.sub (ws' := [(rd, .inr (7, [.ref rd_tape, .int fd1, .int fa1, .int fp1, .ref bk, .ref rd_names, .ref rd_nameKind, .ref rd_nameNumber, .int (nI nm), .ref rd_knotNames, .int (nI en), .int (nI a2), .int 0, .int (nI a2), .long 0])), (rd_tape, .inl (k_rd_tape, 600, .inl f_rd_tape))]) [0, 1] rfl
      have hD9 := hD.sub (ws' := [(rd, .inr (7, [.ref rd_tape, .int fd1, .int fa1, .int fp1, .ref bk, .ref rd_names, .ref rd_nameKind, .ref rd_nameNumber, .int (nI nm), .ref rd_knotNames, .int (nI en), .int (nI a2), .int 0, .int (nI a2), .long 0])), (rd_tape, .inl (k_rd_tape, 600, .inl f_rd_tape))]) [0, 1] (by decide) rfl
      have hK9 := hK.sub (tys' := [(k_rd_tape, .int)]) [0] rfl
      exact W.vret hx hb hr (fun t ht hW => ⟨⟨(), rfl, trivial, a2, 0, (nI a2), 0, (by first | with_reducible assumption | omega | exact vp_in_iff.mpr (by omega) | exact vp_in_nI (by omega) (by omega) | exact ⟨by omega, by omega⟩), by rw [ht]; exact hP9, va_K.moved hW.alike hK9, hD9⟩, hS.F ht⟩) hS.2.2 dX7_next_164
  · skip
    have g_40 := n_nge (a := i) (b := en) c_2 (by omega) (by omega)
    refine lv_aload_n hx hb dX7_next_13 rfl (lv_at hl 0 rfl) ?_
    refine va_get (D := (dC, dI)) (ci := 7) (v := .ref rd_tape) (C := RX7) (T := TX7) (N := 15) hx hb hts (fun w h => wM_c (iX7 w h)) hown hK hP 0 rfl rfl 0 (by decide) (hts _ (wM_c wd_333)) (fun _ h9 => h9) rfl dX7_next_14 ?_
    refine lv_iload_n hx hb dX7_next_17 rfl (lv_at hl 1 rfl) ?_
    refine va_iald hx hb hK hP 1 0 rfl rfl (vp_in_nI (n := i) (by omega) (by omega)) dX7_next_18 ?_
    refine lv_topi (fun v_41 ev_41 => ?_)
    have nv_41 : v_41 = f_rd_tape i := by rw [ev_41]; exact congrArg _ (nI_clamp (by omega))
    refine lv_bipush (v := 32) hx hb dX7_next_19 (by decide) ?_
    refine lv_icmp_ne (tgt := 37) hx hb dX7_next_21 (by decide) (fun c_42 => ?_) (fun c_42 => ?_)
    · skip
      have g_43 : v_41.toInt ≠ (32 : Int) := i_ne c_42
      refine lv_aload_n hx hb dX7_next_37 rfl (lv_at hl 0 rfl) ?_
      refine lv_aload_n hx hb dX7_next_38 rfl (lv_at hl 0 rfl) ?_
      refine va_get (D := (dC, dI)) (ci := 7) (v := .int (nI a2)) (C := RX7) (T := TX7) (N := 15) hx hb hts (fun w h => wM_c (iX7 w h)) hown hK hP 0 rfl rfl 11 (by decide) (hts _ (wM_c wd_347)) (fun _ h9 => h9) rfl dX7_next_39 ?_
      refine va_put (D := (dC, dI)) (ci := 7) (v := .int (nI a2)) (ty := .int) (C := RX7) (T := TX7) (N := 15) hx hb hts (fun w h => wM_c (iX7 w h)) tyX7 tyX7_ok nmX7 hown hK hP hD hS 0 rfl rfl 13 (by decide) (hts _ (wM_c wd_349)) (fun _ h9 => h9) rfl (by decide +kernel) rfl rfl (Nat.le_of_ble_eq_true rfl) dX7_next_42 (fun H locs hP hD hS => ?_)
      have hP : va_P (dC, dI) classes [(rd, .inr (7, [.ref rd_tape, .int fd1, .int fa1, .int fp1, .ref bk, .ref rd_names, .ref rd_nameKind, .ref rd_nameNumber, .int (nI nm), .ref rd_knotNames, .int (nI en), .int (nI a2), .int tk1, .int (nI a2), .long tv1])), (rd_tape, .inl (k_rd_tape, 600, .inl f_rd_tape))] H := hP
      have hD : va_D A [(rd, .inr (7, [.ref rd_tape, .int fd1, .int fa1, .int fp1, .ref bk, .ref rd_names, .ref rd_nameKind, .ref rd_nameNumber, .int (nI nm), .ref rd_knotNames, .int (nI en), .int (nI a2), .int tk1, .int (nI a2), .long tv1])), (rd_tape, .inl (k_rd_tape, 600, .inl f_rd_tape))] := hD
      refine lv_aload_n hx hb dX7_next_45 rfl (lv_at hl 0 rfl) ?_
      refine lv_lconst (v := 0) hx hb dX7_next_46 (by decide) ?_
      refine va_put (D := (dC, dI)) (ci := 7) (v := .long 0) (ty := .long) (C := RX7) (T := TX7) (N := 15) hx hb hts (fun w h => wM_c (iX7 w h)) tyX7 tyX7_ok nmX7 hown hK hP hD hS 0 rfl rfl 14 (by decide) (hts _ (wM_c wd_350)) (fun _ h9 => h9) rfl (by decide +kernel) rfl rfl (Nat.le_of_ble_eq_true rfl) dX7_next_47 (fun H locs hP hD hS => ?_)
      have hP : va_P (dC, dI) classes [(rd, .inr (7, [.ref rd_tape, .int fd1, .int fa1, .int fp1, .ref bk, .ref rd_names, .ref rd_nameKind, .ref rd_nameNumber, .int (nI nm), .ref rd_knotNames, .int (nI en), .int (nI a2), .int tk1, .int (nI a2), .long 0])), (rd_tape, .inl (k_rd_tape, 600, .inl f_rd_tape))] H := hP
      have hD : va_D A [(rd, .inr (7, [.ref rd_tape, .int fd1, .int fa1, .int fp1, .ref bk, .ref rd_names, .ref rd_nameKind, .ref rd_nameNumber, .int (nI nm), .ref rd_knotNames, .int (nI en), .int (nI a2), .int tk1, .int (nI a2), .long 0])), (rd_tape, .inl (k_rd_tape, 600, .inl f_rd_tape))] := hD
      refine lv_aload_n hx hb dX7_next_50 rfl (lv_at hl 0 rfl) ?_
      refine va_get (D := (dC, dI)) (ci := 7) (v := .int (nI a2)) (C := RX7) (T := TX7) (N := 15) hx hb hts (fun w h => wM_c (iX7 w h)) hown hK hP 0 rfl rfl 11 (by decide) (hts _ (wM_c wd_347)) (fun _ h9 => h9) rfl dX7_next_51 ?_
      refine lv_aload_n hx hb dX7_next_54 rfl (lv_at hl 0 rfl) ?_
      refine va_get (D := (dC, dI)) (ci := 7) (v := .int (nI en)) (C := RX7) (T := TX7) (N := 15) hx hb hts (fun w h => wM_c (iX7 w h)) hown hK hP 0 rfl rfl 10 (by decide) (hts _ (wM_c wd_346)) (fun _ h9 => h9) rfl dX7_next_55 ?_
      refine lv_icmp_lt (tgt := 69) hx hb dX7_next_58 (by decide) (fun c_44 => ?_) (fun c_44 => ?_)
      · skip
        have g_45 := n_lt (a := a2) (b := en) c_44 (by omega) (by omega)
        refine lv_aload_n hx hb dX7_next_69 rfl (lv_at hl 0 rfl) ?_
        refine va_get (D := (dC, dI)) (ci := 7) (v := .ref rd_tape) (C := RX7) (T := TX7) (N := 15) hx hb hts (fun w h => wM_c (iX7 w h)) hown hK hP 0 rfl rfl 0 (by decide) (hts _ (wM_c wd_333)) (fun _ h9 => h9) rfl dX7_next_70 ?_
        refine lv_aload_n hx hb dX7_next_73 rfl (lv_at hl 0 rfl) ?_
        refine va_get (D := (dC, dI)) (ci := 7) (v := .int (nI a2)) (C := RX7) (T := TX7) (N := 15) hx hb hts (fun w h => wM_c (iX7 w h)) hown hK hP 0 rfl rfl 11 (by decide) (hts _ (wM_c wd_347)) (fun _ h9 => h9) rfl dX7_next_74 ?_
        refine va_iald hx hb hK hP 1 0 rfl rfl (vp_in_nI (n := a2) (by omega) (by omega)) dX7_next_77 ?_
        refine lv_topi (fun v_46 ev_46 => ?_)
        have nv_46 : v_46 = f_rd_tape a2 := by rw [ev_46]; exact congrArg _ (nI_clamp (by omega))
        have hPc := hP.sub (ws' := []) [] rfl
        have hDc := hD.sub (ws' := []) [] (by decide) rfl
        have hKc := hK.sub (tys' := []) [] rfl
        have hFc := va_free (wc := []) hD hS hA [] rfl
        refine va_calli (va_runS (As := [.int v_46]) (rest := []) ⟨hx, hb, hml, hown, hts⟩ (c7_isLetter l dC dI n0 atx H.size v_46 ) (va_cwS 1 hts (gS (fun w h => wM_c h) wd_738 wd_736 wd_737 wd_117) rfl rfl rfl (by decide +kernel) ⟨Nat.le_of_ble_eq_true rfl, Nat.le_of_ble_eq_true rfl⟩) ⟨fun a U g mk q => by obtain ⟨q0, q1, q2, qG, qP, qK, qD⟩ := q; exact ⟨q0, q1, q2, GW.blind qG, qP, va_K.moved (u := U) (U := U.calling g mk a) (Vm.Alike.refl U.vm) qK, qD⟩, fun U hU hW => ⟨rfl, by rw [hU], Nat.le_trans hn0 hS.1, GW.go hW hU hG (fun q hq hA9 => hS.2.1 q hq (fun h => hA9 (hA0 q h))), by rw [hU]; exact hPc, va_K.moved hW.alike hKc, hDc.weaken (fun _ _ _ h => hA0 _ h)⟩⟩ rfl rfl hl.1 rfl (lv_room (Nat.le_of_ble_eq_true rfl)) dX7_next_78 ⟨Nat.le_of_ble_eq_true rfl, Nat.le_of_ble_eq_true rfl⟩) hS (fun q _ h => hFc q h) hFc (fun r_47 u t H1 locs ht hvm hw_48 hB hz1 hk1 hS => ?_)
        obtain ⟨hP1, hK1, hD1⟩ := hB
        rw [ht] at hP1
        obtain ⟨hP, hD⟩ := va_join (wr := [(rd, .inr (7, [.ref rd_tape, .int fd1, .int fa1, .int fp1, .ref bk, .ref rd_names, .ref rd_nameKind, .ref rd_nameNumber, .int (nI nm), .ref rd_knotNames, .int (nI en), .int (nI a2), .int tk1, .int (nI a2), .long 0])), (rd_tape, .inl (k_rd_tape, 600, .inl f_rd_tape))]) (w1 := []) hP hD [] [0, 1] rfl rfl (by decide) (by decide) hk1 hFc hP1 hD1
        generalize H1 = H at hP hS ⊢
        have hP : va_P (dC, dI) classes [(rd, .inr (7, [.ref rd_tape, .int fd1, .int fa1, .int fp1, .ref bk, .ref rd_names, .ref rd_nameKind, .ref rd_nameNumber, .int (nI nm), .ref rd_knotNames, .int (nI en), .int (nI a2), .int tk1, .int (nI a2), .long 0])), (rd_tape, .inl (k_rd_tape, 600, .inl f_rd_tape))] H := hP
        have hD : va_D A [(rd, .inr (7, [.ref rd_tape, .int fd1, .int fa1, .int fp1, .ref bk, .ref rd_names, .ref rd_nameKind, .ref rd_nameNumber, .int (nI nm), .ref rd_knotNames, .int (nI en), .int (nI a2), .int tk1, .int (nI a2), .long 0])), (rd_tape, .inl (k_rd_tape, 600, .inl f_rd_tape))] := hD
        rcases hw_48 with rfl | rfl
        · skip
          refine lv_if_eq (tgt := 91) hx hb dX7_next_81 (by decide) (fun c_49 => ?_) (fun c_49 => ?_)
          · skip
            refine lv_aload_n hx hb dX7_next_91 rfl (lv_at hl 0 rfl) ?_
            refine va_get (D := (dC, dI)) (ci := 7) (v := .ref rd_tape) (C := RX7) (T := TX7) (N := 15) hx hb hts (fun w h => wM_c (iX7 w h)) hown hK hP 0 rfl rfl 0 (by decide) (hts _ (wM_c wd_333)) (fun _ h9 => h9) rfl dX7_next_92 ?_
            refine lv_aload_n hx hb dX7_next_95 rfl (lv_at hl 0 rfl) ?_
            refine va_get (D := (dC, dI)) (ci := 7) (v := .int (nI a2)) (C := RX7) (T := TX7) (N := 15) hx hb hts (fun w h => wM_c (iX7 w h)) hown hK hP 0 rfl rfl 11 (by decide) (hts _ (wM_c wd_347)) (fun _ h9 => h9) rfl dX7_next_96 ?_
            refine va_iald hx hb hK hP 1 0 rfl rfl (vp_in_nI (n := a2) (by omega) (by omega)) dX7_next_99 ?_
            refine lv_topi (fun v_50 ev_50 => ?_)
            have nv_50 : v_50 = f_rd_tape a2 := by rw [ev_50]; exact congrArg _ (nI_clamp (by omega))
            have hPc := hP.sub (ws' := []) [] rfl
            have hDc := hD.sub (ws' := []) [] (by decide) rfl
            have hKc := hK.sub (tys' := []) [] rfl
            have hFc := va_free (wc := []) hD hS hA [] rfl
            refine va_calli (va_runS (As := [.int v_50]) (rest := []) ⟨hx, hb, hml, hown, hts⟩ (c7_isDigit l dC dI n0 atx H.size v_50 ) (va_cwS 1 hts (gS (fun w h => wM_c h) wd_745 wd_743 wd_744 wd_117) rfl rfl rfl (by decide +kernel) ⟨Nat.le_of_ble_eq_true rfl, Nat.le_of_ble_eq_true rfl⟩) ⟨fun a U g mk q => by obtain ⟨q0, q1, q2, qG, qP, qK, qD⟩ := q; exact ⟨q0, q1, q2, GW.blind qG, qP, va_K.moved (u := U) (U := U.calling g mk a) (Vm.Alike.refl U.vm) qK, qD⟩, fun U hU hW => ⟨rfl, by rw [hU], Nat.le_trans hn0 hS.1, GW.go hW hU hG (fun q hq hA9 => hS.2.1 q hq (fun h => hA9 (hA0 q h))), by rw [hU]; exact hPc, va_K.moved hW.alike hKc, hDc.weaken (fun _ _ _ h => hA0 _ h)⟩⟩ rfl rfl hl.1 rfl (lv_room (Nat.le_of_ble_eq_true rfl)) dX7_next_100 ⟨Nat.le_of_ble_eq_true rfl, Nat.le_of_ble_eq_true rfl⟩) hS (fun q _ h => hFc q h) hFc (fun r_51 u t H1 locs ht hvm hw_52 hB hz1 hk1 hS => ?_)
            obtain ⟨hP1, hK1, hD1⟩ := hB
            rw [ht] at hP1
            obtain ⟨hP, hD⟩ := va_join (wr := [(rd, .inr (7, [.ref rd_tape, .int fd1, .int fa1, .int fp1, .ref bk, .ref rd_names, .ref rd_nameKind, .ref rd_nameNumber, .int (nI nm), .ref rd_knotNames, .int (nI en), .int (nI a2), .int tk1, .int (nI a2), .long 0])), (rd_tape, .inl (k_rd_tape, 600, .inl f_rd_tape))]) (w1 := []) hP hD [] [0, 1] rfl rfl (by decide) (by decide) hk1 hFc hP1 hD1
            generalize H1 = H at hP hS ⊢
            have hP : va_P (dC, dI) classes [(rd, .inr (7, [.ref rd_tape, .int fd1, .int fa1, .int fp1, .ref bk, .ref rd_names, .ref rd_nameKind, .ref rd_nameNumber, .int (nI nm), .ref rd_knotNames, .int (nI en), .int (nI a2), .int tk1, .int (nI a2), .long 0])), (rd_tape, .inl (k_rd_tape, 600, .inl f_rd_tape))] H := hP
            have hD : va_D A [(rd, .inr (7, [.ref rd_tape, .int fd1, .int fa1, .int fp1, .ref bk, .ref rd_names, .ref rd_nameKind, .ref rd_nameNumber, .int (nI nm), .ref rd_knotNames, .int (nI en), .int (nI a2), .int tk1, .int (nI a2), .long 0])), (rd_tape, .inl (k_rd_tape, 600, .inl f_rd_tape))] := hD
            rcases hw_52 with rfl | rfl
            · skip
              refine lv_if_eq (tgt := 113) hx hb dX7_next_103 (by decide) (fun c_53 => ?_) (fun c_53 => ?_)
              · skip
                refine lv_aload_n hx hb dX7_next_113 rfl (lv_at hl 0 rfl) ?_
                refine lv_aload_n hx hb dX7_next_114 rfl (lv_at hl 0 rfl) ?_
                refine va_get (D := (dC, dI)) (ci := 7) (v := .ref rd_tape) (C := RX7) (T := TX7) (N := 15) hx hb hts (fun w h => wM_c (iX7 w h)) hown hK hP 0 rfl rfl 0 (by decide) (hts _ (wM_c wd_333)) (fun _ h9 => h9) rfl dX7_next_115 ?_
                refine lv_aload_n hx hb dX7_next_118 rfl (lv_at hl 0 rfl) ?_
                refine va_get (D := (dC, dI)) (ci := 7) (v := .int (nI a2)) (C := RX7) (T := TX7) (N := 15) hx hb hts (fun w h => wM_c (iX7 w h)) hown hK hP 0 rfl rfl 11 (by decide) (hts _ (wM_c wd_347)) (fun _ h9 => h9) rfl dX7_next_119 ?_
                refine va_iald hx hb hK hP 1 0 rfl rfl (vp_in_nI (n := a2) (by omega) (by omega)) dX7_next_122 ?_
                refine lv_topi (fun v_54 ev_54 => ?_)
                have nv_54 : v_54 = f_rd_tape a2 := by rw [ev_54]; exact congrArg _ (nI_clamp (by omega))
                refine lv_bipush (v := 59) hx hb dX7_next_123 (by decide) ?_
                refine lv_icmp_ne (tgt := 132) hx hb dX7_next_125 (by decide) (fun c_55 => ?_) (fun c_55 => ?_)
                · skip
                  have g_56 : v_54.toInt ≠ (59 : Int) := i_ne c_55
                  refine lv_aload_n hx hb dX7_next_132 rfl (lv_at hl 0 rfl) ?_
                  refine va_get (D := (dC, dI)) (ci := 7) (v := .ref rd_tape) (C := RX7) (T := TX7) (N := 15) hx hb hts (fun w h => wM_c (iX7 w h)) hown hK hP 0 rfl rfl 0 (by decide) (hts _ (wM_c wd_333)) (fun _ h9 => h9) rfl dX7_next_133 ?_
                  refine lv_aload_n hx hb dX7_next_136 rfl (lv_at hl 0 rfl) ?_
                  refine va_get (D := (dC, dI)) (ci := 7) (v := .int (nI a2)) (C := RX7) (T := TX7) (N := 15) hx hb hts (fun w h => wM_c (iX7 w h)) hown hK hP 0 rfl rfl 11 (by decide) (hts _ (wM_c wd_347)) (fun _ h9 => h9) rfl dX7_next_137 ?_
                  refine va_iald hx hb hK hP 1 0 rfl rfl (vp_in_nI (n := a2) (by omega) (by omega)) dX7_next_140 ?_
                  refine lv_topi (fun v_57 ev_57 => ?_)
                  have nv_57 : v_57 = f_rd_tape a2 := by rw [ev_57]; exact congrArg _ (nI_clamp (by omega))
                  refine lv_bipush (v := 45) hx hb dX7_next_141 (by decide) ?_
                  refine lv_icmp_ne (tgt := 150) hx hb dX7_next_143 (by decide) (fun c_58 => ?_) (fun c_58 => ?_)
                  · skip
                    have g_59 : v_57.toInt ≠ (45 : Int) := i_ne c_58
                    refine lv_iconst (v := 5) hx hb dX7_next_150 (by decide) ?_
                    refine va_put (D := (dC, dI)) (ci := 7) (v := .int 5) (ty := .int) (C := RX7) (T := TX7) (N := 15) hx hb hts (fun w h => wM_c (iX7 w h)) tyX7 tyX7_ok nmX7 hown hK hP hD hS 0 rfl rfl 12 (by decide) (hts _ (wM_c wd_348)) (fun _ h9 => h9) rfl (by decide +kernel) rfl rfl (Nat.le_of_ble_eq_true rfl) dX7_next_151 (fun H locs hP hD hS => ?_)
                    have hP : va_P (dC, dI) classes [(rd, .inr (7, [.ref rd_tape, .int fd1, .int fa1, .int fp1, .ref bk, .ref rd_names, .ref rd_nameKind, .ref rd_nameNumber, .int (nI nm), .ref rd_knotNames, .int (nI en), .int (nI a2), .int 5, .int (nI a2), .long 0])), (rd_tape, .inl (k_rd_tape, 600, .inl f_rd_tape))] H := hP
                    have hD : va_D A [(rd, .inr (7, [.ref rd_tape, .int fd1, .int fa1, .int fp1, .ref bk, .ref rd_names, .ref rd_nameKind, .ref rd_nameNumber, .int (nI nm), .ref rd_knotNames, .int (nI en), .int (nI a2), .int 5, .int (nI a2), .long 0])), (rd_tape, .inl (k_rd_tape, 600, .inl f_rd_tape))] := hD
                    refine lv_aload_n hx hb dX7_next_154 rfl (lv_at hl 0 rfl) ?_
                    refine lv_dup hx hb dX7_next_155 rfl ?_
                    refine va_get (D := (dC, dI)) (ci := 7) (v := .int (nI a2)) (C := RX7) (T := TX7) (N := 15) hx hb hts (fun w h => wM_c (iX7 w h)) hown hK hP 0 rfl rfl 11 (by decide) (hts _ (wM_c wd_347)) (fun _ h9 => h9) rfl dX7_next_156 ?_
                    refine lv_iconst (v := 1) hx hb dX7_next_159 (by decide) ?_
                    refine lv_iadd hx hb dX7_next_160 ?_
                    refine lv_topi (fun v_60 ev_60 => ?_)
                    obtain rfl : v_60 = nI (a2 + 1) := ev_60.trans (nI_add a2 1)
                    refine va_put (D := (dC, dI)) (ci := 7) (v := .int (nI (a2 + 1))) (ty := .int) (C := RX7) (T := TX7) (N := 15) hx hb hts (fun w h => wM_c (iX7 w h)) tyX7 tyX7_ok nmX7 hown hK hP hD hS 0 rfl rfl 11 (by decide) (hts _ (wM_c wd_347)) (fun _ h9 => h9) rfl (by decide +kernel) rfl rfl (Nat.le_of_ble_eq_true rfl) dX7_next_161 (fun H locs hP hD hS => ?_)
                    have hP : va_P (dC, dI) classes [(rd, .inr (7, [.ref rd_tape, .int fd1, .int fa1, .int fp1, .ref bk, .ref rd_names, .ref rd_nameKind, .ref rd_nameNumber, .int (nI nm), .ref rd_knotNames, .int (nI en), .int (nI (a2 + 1)), .int 5, .int (nI a2), .long 0])), (rd_tape, .inl (k_rd_tape, 600, .inl f_rd_tape))] H := hP
                    have hD : va_D A [(rd, .inr (7, [.ref rd_tape, .int fd1, .int fa1, .int fp1, .ref bk, .ref rd_names, .ref rd_nameKind, .ref rd_nameNumber, .int (nI nm), .ref rd_knotNames, .int (nI en), .int (nI (a2 + 1)), .int 5, .int (nI a2), .long 0])), (rd_tape, .inl (k_rd_tape, 600, .inl f_rd_tape))] := hD
                    have hP9 := hP.sub (ws' := [(rd, .inr (7, [.ref rd_tape, .int fd1, .int fa1, .int fp1, .ref bk, .ref rd_names, .ref rd_nameKind, .ref rd_nameNumber, .int (nI nm), .ref rd_knotNames, .int (nI en), .int (nI (a2 + 1)), .int 5, .int (nI a2), .long 0])), (rd_tape, .inl (k_rd_tape, 600, .inl f_rd_tape))]) [0, 1] rfl
                    have hD9 := hD.sub (ws' := [(rd, .inr (7, [.ref rd_tape, .int fd1, .int fa1, .int fp1, .ref bk, .ref rd_names, .ref rd_nameKind, .ref rd_nameNumber, .int (nI nm), .ref rd_knotNames, .int (nI en), .int (nI (a2 + 1)), .int 5, .int (nI a2), .long 0])), (rd_tape, .inl (k_rd_tape, 600, .inl f_rd_tape))]) [0, 1] (by decide) rfl
                    have hK9 := hK.sub (tys' := [(k_rd_tape, .int)]) [0] rfl
                    exact W.vret hx hb hr (fun t ht hW => ⟨⟨(), rfl, trivial, (a2 + 1), 5, (nI a2), 0, (by first | with_reducible assumption | omega | exact vp_in_iff.mpr (by omega) | exact vp_in_nI (by omega) (by omega) | exact ⟨by omega, by omega⟩), by rw [ht]; exact hP9, va_K.moved hW.alike hK9, hD9⟩, hS.F ht⟩) hS.2.2 dX7_next_164
                  · skip
                    have g_61 : v_57.toInt = (45 : Int) := i_eq c_58
                    refine lv_iconst (v := 4) hx hb dX7_next_146 (by decide) ?_
                    refine lv_goto (tgt := 151) hx hb dX7_next_147 (by decide) ?_
                    refine va_put (D := (dC, dI)) (ci := 7) (v := .int 4) (ty := .int) (C := RX7) (T := TX7) (N := 15) hx hb hts (fun w h => wM_c (iX7 w h)) tyX7 tyX7_ok nmX7 hown hK hP hD hS 0 rfl rfl 12 (by decide) (hts _ (wM_c wd_348)) (fun _ h9 => h9) rfl (by decide +kernel) rfl rfl (Nat.le_of_ble_eq_true rfl) dX7_next_151 (fun H locs hP hD hS => ?_)
                    have hP : va_P (dC, dI) classes [(rd, .inr (7, [.ref rd_tape, .int fd1, .int fa1, .int fp1, .ref bk, .ref rd_names, .ref rd_nameKind, .ref rd_nameNumber, .int (nI nm), .ref rd_knotNames, .int (nI en), .int (nI a2), .int 4, .int (nI a2), .long 0])), (rd_tape, .inl (k_rd_tape, 600, .inl f_rd_tape))] H := hP
                    have hD : va_D A [(rd, .inr (7, [.ref rd_tape, .int fd1, .int fa1, .int fp1, .ref bk, .ref rd_names, .ref rd_nameKind, .ref rd_nameNumber, .int (nI nm), .ref rd_knotNames, .int (nI en), .int (nI a2), .int 4, .int (nI a2), .long 0])), (rd_tape, .inl (k_rd_tape, 600, .inl f_rd_tape))] := hD
                    refine lv_aload_n hx hb dX7_next_154 rfl (lv_at hl 0 rfl) ?_
                    refine lv_dup hx hb dX7_next_155 rfl ?_
                    refine va_get (D := (dC, dI)) (ci := 7) (v := .int (nI a2)) (C := RX7) (T := TX7) (N := 15) hx hb hts (fun w h => wM_c (iX7 w h)) hown hK hP 0 rfl rfl 11 (by decide) (hts _ (wM_c wd_347)) (fun _ h9 => h9) rfl dX7_next_156 ?_
                    refine lv_iconst (v := 1) hx hb dX7_next_159 (by decide) ?_
                    refine lv_iadd hx hb dX7_next_160 ?_
                    refine lv_topi (fun v_62 ev_62 => ?_)
                    obtain rfl : v_62 = nI (a2 + 1) := ev_62.trans (nI_add a2 1)
                    refine va_put (D := (dC, dI)) (ci := 7) (v := .int (nI (a2 + 1))) (ty := .int) (C := RX7) (T := TX7) (N := 15) hx hb hts (fun w h => wM_c (iX7 w h)) tyX7 tyX7_ok nmX7 hown hK hP hD hS 0 rfl rfl 11 (by decide) (hts _ (wM_c wd_347)) (fun _ h9 => h9) rfl (by decide +kernel) rfl rfl (Nat.le_of_ble_eq_true rfl) dX7_next_161 (fun H locs hP hD hS => ?_)
                    have hP : va_P (dC, dI) classes [(rd, .inr (7, [.ref rd_tape, .int fd1, .int fa1, .int fp1, .ref bk, .ref rd_names, .ref rd_nameKind, .ref rd_nameNumber, .int (nI nm), .ref rd_knotNames, .int (nI en), .int (nI (a2 + 1)), .int 4, .int (nI a2), .long 0])), (rd_tape, .inl (k_rd_tape, 600, .inl f_rd_tape))] H := hP
                    have hD : va_D A [(rd, .inr (7, [.ref rd_tape, .int fd1, .int fa1, .int fp1, .ref bk, .ref rd_names, .ref rd_nameKind, .ref rd_nameNumber, .int (nI nm), .ref rd_knotNames, .int (nI en), .int (nI (a2 + 1)), .int 4, .int (nI a2), .long 0])), (rd_tape, .inl (k_rd_tape, 600, .inl f_rd_tape))] := hD
                    have hP9 := hP.sub (ws' := [(rd, .inr (7, [.ref rd_tape, .int fd1, .int fa1, .int fp1, .ref bk, .ref rd_names, .ref rd_nameKind, .ref rd_nameNumber, .int (nI nm), .ref rd_knotNames, .int (nI en), .int (nI (a2 + 1)), .int 4, .int (nI a2), .long 0])), (rd_tape, .inl (k_rd_tape, 600, .inl f_rd_tape))]) [0, 1] rfl
                    have hD9 := hD.sub (ws' := [(rd, .inr (7, [.ref rd_tape, .int fd1, .int fa1, .int fp1, .ref bk, .ref rd_names, .ref rd_nameKind, .ref rd_nameNumber, .int (nI nm), .ref rd_knotNames, .int (nI en), .int (nI (a2 + 1)), .int 4, .int (nI a2), .long 0])), (rd_tape, .inl (k_rd_tape, 600, .inl f_rd_tape))]) [0, 1] (by decide) rfl
                    have hK9 := hK.sub (tys' := [(k_rd_tape, .int)]) [0] rfl
                    exact W.vret hx hb hr (fun t ht hW => ⟨⟨(), rfl, trivial, (a2 + 1), 4, (nI a2), 0, (by first | with_reducible assumption | omega | exact vp_in_iff.mpr (by omega) | exact vp_in_nI (by omega) (by omega) | exact ⟨by omega, by omega⟩), by rw [ht]; exact hP9, va_K.moved hW.alike hK9, hD9⟩, hS.F ht⟩) hS.2.2 dX7_next_164
                · skip
                  have g_63 : v_54.toInt = (59 : Int) := i_eq c_55
                  refine lv_iconst (v := 3) hx hb dX7_next_128 (by decide) ?_
                  refine lv_goto (tgt := 151) hx hb dX7_next_129 (by decide) ?_
                  refine va_put (D := (dC, dI)) (ci := 7) (v := .int 3) (ty := .int) (C := RX7) (T := TX7) (N := 15) hx hb hts (fun w h => wM_c (iX7 w h)) tyX7 tyX7_ok nmX7 hown hK hP hD hS 0 rfl rfl 12 (by decide) (hts _ (wM_c wd_348)) (fun _ h9 => h9) rfl (by decide +kernel) rfl rfl (Nat.le_of_ble_eq_true rfl) dX7_next_151 (fun H locs hP hD hS => ?_)
                  have hP : va_P (dC, dI) classes [(rd, .inr (7, [.ref rd_tape, .int fd1, .int fa1, .int fp1, .ref bk, .ref rd_names, .ref rd_nameKind, .ref rd_nameNumber, .int (nI nm), .ref rd_knotNames, .int (nI en), .int (nI a2), .int 3, .int (nI a2), .long 0])), (rd_tape, .inl (k_rd_tape, 600, .inl f_rd_tape))] H := hP
                  have hD : va_D A [(rd, .inr (7, [.ref rd_tape, .int fd1, .int fa1, .int fp1, .ref bk, .ref rd_names, .ref rd_nameKind, .ref rd_nameNumber, .int (nI nm), .ref rd_knotNames, .int (nI en), .int (nI a2), .int 3, .int (nI a2), .long 0])), (rd_tape, .inl (k_rd_tape, 600, .inl f_rd_tape))] := hD
                  refine lv_aload_n hx hb dX7_next_154 rfl (lv_at hl 0 rfl) ?_
                  refine lv_dup hx hb dX7_next_155 rfl ?_
                  refine va_get (D := (dC, dI)) (ci := 7) (v := .int (nI a2)) (C := RX7) (T := TX7) (N := 15) hx hb hts (fun w h => wM_c (iX7 w h)) hown hK hP 0 rfl rfl 11 (by decide) (hts _ (wM_c wd_347)) (fun _ h9 => h9) rfl dX7_next_156 ?_
                  refine lv_iconst (v := 1) hx hb dX7_next_159 (by decide) ?_
                  refine lv_iadd hx hb dX7_next_160 ?_
                  refine lv_topi (fun v_64 ev_64 => ?_)
                  obtain rfl : v_64 = nI (a2 + 1) := ev_64.trans (nI_add a2 1)
                  refine va_put (D := (dC, dI)) (ci := 7) (v := .int (nI (a2 + 1))) (ty := .int) (C := RX7) (T := TX7) (N := 15) hx hb hts (fun w h => wM_c (iX7 w h)) tyX7 tyX7_ok nmX7 hown hK hP hD hS 0 rfl rfl 11 (by decide) (hts _ (wM_c wd_347)) (fun _ h9 => h9) rfl (by decide +kernel) rfl rfl (Nat.le_of_ble_eq_true rfl) dX7_next_161 (fun H locs hP hD hS => ?_)
                  have hP : va_P (dC, dI) classes [(rd, .inr (7, [.ref rd_tape, .int fd1, .int fa1, .int fp1, .ref bk, .ref rd_names, .ref rd_nameKind, .ref rd_nameNumber, .int (nI nm), .ref rd_knotNames, .int (nI en), .int (nI (a2 + 1)), .int 3, .int (nI a2), .long 0])), (rd_tape, .inl (k_rd_tape, 600, .inl f_rd_tape))] H := hP
                  have hD : va_D A [(rd, .inr (7, [.ref rd_tape, .int fd1, .int fa1, .int fp1, .ref bk, .ref rd_names, .ref rd_nameKind, .ref rd_nameNumber, .int (nI nm), .ref rd_knotNames, .int (nI en), .int (nI (a2 + 1)), .int 3, .int (nI a2), .long 0])), (rd_tape, .inl (k_rd_tape, 600, .inl f_rd_tape))] := hD
                  have hP9 := hP.sub (ws' := [(rd, .inr (7, [.ref rd_tape, .int fd1, .int fa1, .int fp1, .ref bk, .ref rd_names, .ref rd_nameKind, .ref rd_nameNumber, .int (nI nm), .ref rd_knotNames, .int (nI en), .int (nI (a2 + 1)), .int 3, .int (nI a2), .long 0])), (rd_tape, .inl (k_rd_tape, 600, .inl f_rd_tape))]) [0, 1] rfl
                  have hD9 := hD.sub (ws' := [(rd, .inr (7, [.ref rd_tape, .int fd1, .int fa1, .int fp1, .ref bk, .ref rd_names, .ref rd_nameKind, .ref rd_nameNumber, .int (nI nm), .ref rd_knotNames, .int (nI en), .int (nI (a2 + 1)), .int 3, .int (nI a2), .long 0])), (rd_tape, .inl (k_rd_tape, 600, .inl f_rd_tape))]) [0, 1] (by decide) rfl
                  have hK9 := hK.sub (tys' := [(k_rd_tape, .int)]) [0] rfl
                  exact W.vret hx hb hr (fun t ht hW => ⟨⟨(), rfl, trivial, (a2 + 1), 3, (nI a2), 0, (by first | with_reducible assumption | omega | exact vp_in_iff.mpr (by omega) | exact vp_in_nI (by omega) (by omega) | exact ⟨by omega, by omega⟩), by rw [ht]; exact hP9, va_K.moved hW.alike hK9, hD9⟩, hS.F ht⟩) hS.2.2 dX7_next_164
              · exact absurd c_53 (by decide)
            · skip
              refine lv_if_eq (tgt := 113) hx hb dX7_next_103 (by decide) (fun c_65 => ?_) (fun c_65 => ?_)
              · exact absurd c_65 (by decide)
              refine lv_aload_n hx hb dX7_next_106 rfl (lv_at hl 0 rfl) ?_
              have hPc := hP.sub (ws' := [(rd, .inr (7, [.ref rd_tape, .int fd1, .int fa1, .int fp1, .ref bk, .ref rd_names, .ref rd_nameKind, .ref rd_nameNumber, .int (nI nm), .ref rd_knotNames, .int (nI en), .int (nI a2), .int tk1, .int (nI a2), .long 0])), (rd_tape, .inl (k_rd_tape, 600, .inl f_rd_tape))]) [0, 1] rfl
              have hDc := hD.sub (ws' := [(rd, .inr (7, [.ref rd_tape, .int fd1, .int fa1, .int fp1, .ref bk, .ref rd_names, .ref rd_nameKind, .ref rd_nameNumber, .int (nI nm), .ref rd_knotNames, .int (nI en), .int (nI a2), .int tk1, .int (nI a2), .long 0])), (rd_tape, .inl (k_rd_tape, 600, .inl f_rd_tape))]) [0, 1] (by decide) rfl
              have hKc := hK.sub (tys' := [(k_rd_tape, .int)]) [0] rfl
              have hFc := va_free (wc := [(rd, .inr (7, [.ref rd_tape, .int fd1, .int fa1, .int fp1, .ref bk, .ref rd_names, .ref rd_nameKind, .ref rd_nameNumber, .int (nI nm), .ref rd_knotNames, .int (nI en), .int (nI a2), .int tk1, .int (nI a2), .long 0])), (rd_tape, .inl (k_rd_tape, 600, .inl f_rd_tape))]) hD hS hA [0, 1] rfl
              refine va_callv (va_runV (As := []) (rest := []) ⟨hx, hb, hml, hown, hts⟩ (c7_readDigits l dC dI n0 atx H.size rd rd_tape fd1 fa1 fp1 bk rd_names rd_nameKind rd_nameNumber nm rd_knotNames en a2 tk1 (nI a2) 0 k_rd_tape f_rd_tape (by first | with_reducible assumption | omega | exact vp_in_iff.mpr (by omega) | exact vp_in_nI (by omega) (by omega) | exact ⟨by omega, by omega⟩) (by first | with_reducible assumption | omega | exact vp_in_iff.mpr (by omega) | exact vp_in_nI (by omega) (by omega) | exact ⟨by omega, by omega⟩)) (cwV 0 hts (gV (fun w h => wM_c h) wd_749 wd_746 wd_748 wd_3 wd_117) rfl rfl rfl (by decide +kernel) ⟨Nat.le_of_ble_eq_true rfl, Nat.le_of_ble_eq_true rfl⟩) ⟨fun a U g mk q => by obtain ⟨q0, q1, q2, qG, qP, qK, qD⟩ := q; exact ⟨q0, q1, q2, GW.blind qG, qP, va_K.moved (u := U) (U := U.calling g mk a) (Vm.Alike.refl U.vm) qK, qD⟩, va_recv hKc hPc (ci := 7) (q0 := 0) rfl rfl, fun U hU hW => ⟨rfl, by rw [hU], Nat.le_trans hn0 hS.1, GW.go hW hU hG (fun q hq hA9 => hS.2.1 q hq (fun h => hA9 (hA0 q h))), by rw [hU]; exact hPc, va_K.moved hW.alike hKc, hDc.weaken (fun _ _ _ h => hA0 _ h)⟩⟩ rfl rfl hl.1 rfl (lv_room (Nat.le_of_ble_eq_true rfl)) dX7_next_107 ⟨Nat.le_of_ble_eq_true rfl, Nat.le_of_ble_eq_true rfl⟩) hS (fun q _ h => hFc q h) hFc (fun u t H1 locs ht hvm hw_67 hB hz1 hk1 hS => ?_)
              obtain ⟨at9_68, tk9_69, tv9_70, hf_71, hP1, hK1, hD1⟩ := hB
              rw [ht] at hP1
              obtain ⟨hP, hD⟩ := va_join (wr := []) (w1 := [(rd, .inr (7, [.ref rd_tape, .int fd1, .int fa1, .int fp1, .ref bk, .ref rd_names, .ref rd_nameKind, .ref rd_nameNumber, .int (nI nm), .ref rd_knotNames, .int (nI en), .int (nI at9_68), .int tk9_69, .int (nI a2), .long tv9_70])), (rd_tape, .inl (k_rd_tape, 600, .inl f_rd_tape))]) hP hD [0, 1] [] rfl rfl (by decide) (by decide) hk1 hFc hP1 hD1
              generalize H1 = H at hP hS ⊢
              have hP : va_P (dC, dI) classes [(rd, .inr (7, [.ref rd_tape, .int fd1, .int fa1, .int fp1, .ref bk, .ref rd_names, .ref rd_nameKind, .ref rd_nameNumber, .int (nI nm), .ref rd_knotNames, .int (nI en), .int (nI at9_68), .int tk9_69, .int (nI a2), .long tv9_70])), (rd_tape, .inl (k_rd_tape, 600, .inl f_rd_tape))] H := hP
              have hD : va_D A [(rd, .inr (7, [.ref rd_tape, .int fd1, .int fa1, .int fp1, .ref bk, .ref rd_names, .ref rd_nameKind, .ref rd_nameNumber, .int (nI nm), .ref rd_knotNames, .int (nI en), .int (nI at9_68), .int tk9_69, .int (nI a2), .long tv9_70])), (rd_tape, .inl (k_rd_tape, 600, .inl f_rd_tape))] := hD
              refine lv_goto (tgt := 164) hx hb dX7_next_110 (by decide) ?_
              have hP9 := hP.sub (ws' := [(rd, .inr (7, [.ref rd_tape, .int fd1, .int fa1, .int fp1, .ref bk, .ref rd_names, .ref rd_nameKind, .ref rd_nameNumber, .int (nI nm), .ref rd_knotNames, .int (nI en), .int (nI at9_68), .int tk9_69, .int (nI a2), .long tv9_70])), (rd_tape, .inl (k_rd_tape, 600, .inl f_rd_tape))]) [0, 1] rfl
              have hD9 := hD.sub (ws' := [(rd, .inr (7, [.ref rd_tape, .int fd1, .int fa1, .int fp1, .ref bk, .ref rd_names, .ref rd_nameKind, .ref rd_nameNumber, .int (nI nm), .ref rd_knotNames, .int (nI en), .int (nI at9_68), .int tk9_69, .int (nI a2), .long tv9_70])), (rd_tape, .inl (k_rd_tape, 600, .inl f_rd_tape))]) [0, 1] (by decide) rfl
              have hK9 := hK.sub (tys' := [(k_rd_tape, .int)]) [0] rfl
              exact W.vret hx hb hr (fun t ht hW => ⟨⟨(), rfl, trivial, at9_68, tk9_69, (nI a2), tv9_70, (by first | with_reducible assumption | omega | exact vp_in_iff.mpr (by omega) | exact vp_in_nI (by omega) (by omega) | exact ⟨by omega, by omega⟩), by rw [ht]; exact hP9, va_K.moved hW.alike hK9, hD9⟩, hS.F ht⟩) hS.2.2 dX7_next_164
          · exact absurd c_49 (by decide)
        · skip
          refine lv_if_eq (tgt := 91) hx hb dX7_next_81 (by decide) (fun c_72 => ?_) (fun c_72 => ?_)
          · exact absurd c_72 (by decide)
          refine lv_aload_n hx hb dX7_next_84 rfl (lv_at hl 0 rfl) ?_
          have hPc := hP.sub (ws' := [(rd, .inr (7, [.ref rd_tape, .int fd1, .int fa1, .int fp1, .ref bk, .ref rd_names, .ref rd_nameKind, .ref rd_nameNumber, .int (nI nm), .ref rd_knotNames, .int (nI en), .int (nI a2), .int tk1, .int (nI a2), .long 0])), (rd_tape, .inl (k_rd_tape, 600, .inl f_rd_tape))]) [0, 1] rfl
          have hDc := hD.sub (ws' := [(rd, .inr (7, [.ref rd_tape, .int fd1, .int fa1, .int fp1, .ref bk, .ref rd_names, .ref rd_nameKind, .ref rd_nameNumber, .int (nI nm), .ref rd_knotNames, .int (nI en), .int (nI a2), .int tk1, .int (nI a2), .long 0])), (rd_tape, .inl (k_rd_tape, 600, .inl f_rd_tape))]) [0, 1] (by decide) rfl
          have hKc := hK.sub (tys' := [(k_rd_tape, .int)]) [0] rfl
          have hFc := va_free (wc := [(rd, .inr (7, [.ref rd_tape, .int fd1, .int fa1, .int fp1, .ref bk, .ref rd_names, .ref rd_nameKind, .ref rd_nameNumber, .int (nI nm), .ref rd_knotNames, .int (nI en), .int (nI a2), .int tk1, .int (nI a2), .long 0])), (rd_tape, .inl (k_rd_tape, 600, .inl f_rd_tape))]) hD hS hA [0, 1] rfl
          refine va_callv (va_runV (As := []) (rest := []) ⟨hx, hb, hml, hown, hts⟩ (c7_readWord l dC dI n0 atx H.size rd rd_tape fd1 fa1 fp1 bk rd_names rd_nameKind rd_nameNumber nm rd_knotNames en a2 tk1 (nI a2) 0 k_rd_tape f_rd_tape (by first | with_reducible assumption | omega | exact vp_in_iff.mpr (by omega) | exact vp_in_nI (by omega) (by omega) | exact ⟨by omega, by omega⟩) (by first | with_reducible assumption | omega | exact vp_in_iff.mpr (by omega) | exact vp_in_nI (by omega) (by omega) | exact ⟨by omega, by omega⟩)) (cwV 0 hts (gV (fun w h => wM_c h) wd_742 wd_739 wd_741 wd_2 wd_117) rfl rfl rfl (by decide +kernel) ⟨Nat.le_of_ble_eq_true rfl, Nat.le_of_ble_eq_true rfl⟩) ⟨fun a U g mk q => by obtain ⟨q0, q1, q2, qG, qP, qK, qD⟩ := q; exact ⟨q0, q1, q2, GW.blind qG, qP, va_K.moved (u := U) (U := U.calling g mk a) (Vm.Alike.refl U.vm) qK, qD⟩, va_recv hKc hPc (ci := 7) (q0 := 0) rfl rfl, fun U hU hW => ⟨rfl, by rw [hU], Nat.le_trans hn0 hS.1, GW.go hW hU hG (fun q hq hA9 => hS.2.1 q hq (fun h => hA9 (hA0 q h))), by rw [hU]; exact hPc, va_K.moved hW.alike hKc, hDc.weaken (fun _ _ _ h => hA0 _ h)⟩⟩ rfl rfl hl.1 rfl (lv_room (Nat.le_of_ble_eq_true rfl)) dX7_next_85 ⟨Nat.le_of_ble_eq_true rfl, Nat.le_of_ble_eq_true rfl⟩) hS (fun q _ h => hFc q h) hFc (fun u t H1 locs ht hvm hw_74 hB hz1 hk1 hS => ?_)
          obtain ⟨at9_75, tk9_76, tv9_77, hf_78, hP1, hK1, hD1⟩ := hB
          rw [ht] at hP1
          obtain ⟨hP, hD⟩ := va_join (wr := []) (w1 := [(rd, .inr (7, [.ref rd_tape, .int fd1, .int fa1, .int fp1, .ref bk, .ref rd_names, .ref rd_nameKind, .ref rd_nameNumber, .int (nI nm), .ref rd_knotNames, .int (nI en), .int (nI at9_75), .int tk9_76, .int (nI a2), .long tv9_77])), (rd_tape, .inl (k_rd_tape, 600, .inl f_rd_tape))]) hP hD [0, 1] [] rfl rfl (by decide) (by decide) hk1 hFc hP1 hD1
          generalize H1 = H at hP hS ⊢
          have hP : va_P (dC, dI) classes [(rd, .inr (7, [.ref rd_tape, .int fd1, .int fa1, .int fp1, .ref bk, .ref rd_names, .ref rd_nameKind, .ref rd_nameNumber, .int (nI nm), .ref rd_knotNames, .int (nI en), .int (nI at9_75), .int tk9_76, .int (nI a2), .long tv9_77])), (rd_tape, .inl (k_rd_tape, 600, .inl f_rd_tape))] H := hP
          have hD : va_D A [(rd, .inr (7, [.ref rd_tape, .int fd1, .int fa1, .int fp1, .ref bk, .ref rd_names, .ref rd_nameKind, .ref rd_nameNumber, .int (nI nm), .ref rd_knotNames, .int (nI en), .int (nI at9_75), .int tk9_76, .int (nI a2), .long tv9_77])), (rd_tape, .inl (k_rd_tape, 600, .inl f_rd_tape))] := hD
          refine lv_goto (tgt := 164) hx hb dX7_next_88 (by decide) ?_
          have hP9 := hP.sub (ws' := [(rd, .inr (7, [.ref rd_tape, .int fd1, .int fa1, .int fp1, .ref bk, .ref rd_names, .ref rd_nameKind, .ref rd_nameNumber, .int (nI nm), .ref rd_knotNames, .int (nI en), .int (nI at9_75), .int tk9_76, .int (nI a2), .long tv9_77])), (rd_tape, .inl (k_rd_tape, 600, .inl f_rd_tape))]) [0, 1] rfl
          have hD9 := hD.sub (ws' := [(rd, .inr (7, [.ref rd_tape, .int fd1, .int fa1, .int fp1, .ref bk, .ref rd_names, .ref rd_nameKind, .ref rd_nameNumber, .int (nI nm), .ref rd_knotNames, .int (nI en), .int (nI at9_75), .int tk9_76, .int (nI a2), .long tv9_77])), (rd_tape, .inl (k_rd_tape, 600, .inl f_rd_tape))]) [0, 1] (by decide) rfl
          have hK9 := hK.sub (tys' := [(k_rd_tape, .int)]) [0] rfl
          exact W.vret hx hb hr (fun t ht hW => ⟨⟨(), rfl, trivial, at9_75, tk9_76, (nI a2), tv9_77, (by first | with_reducible assumption | omega | exact vp_in_iff.mpr (by omega) | exact vp_in_nI (by omega) (by omega) | exact ⟨by omega, by omega⟩), by rw [ht]; exact hP9, va_K.moved hW.alike hK9, hD9⟩, hS.F ht⟩) hS.2.2 dX7_next_164
      · skip
        have g_79 := n_nlt (a := a2) (b := en) c_44 (by omega) (by omega)
        refine lv_aload_n hx hb dX7_next_61 rfl (lv_at hl 0 rfl) ?_
        refine lv_iconst (v := 0) hx hb dX7_next_62 (by decide) ?_
        refine va_put (D := (dC, dI)) (ci := 7) (v := .int 0) (ty := .int) (C := RX7) (T := TX7) (N := 15) hx hb hts (fun w h => wM_c (iX7 w h)) tyX7 tyX7_ok nmX7 hown hK hP hD hS 0 rfl rfl 12 (by decide) (hts _ (wM_c wd_348)) (fun _ h9 => h9) rfl (by decide +kernel) rfl rfl (Nat.le_of_ble_eq_true rfl) dX7_next_63 (fun H locs hP hD hS => ?_)
        have hP : va_P (dC, dI) classes [(rd, .inr (7, [.ref rd_tape, .int fd1, .int fa1, .int fp1, .ref bk, .ref rd_names, .ref rd_nameKind, .ref rd_nameNumber, .int (nI nm), .ref rd_knotNames, .int (nI en), .int (nI a2), .int 0, .int (nI a2), .long 0])), (rd_tape, .inl (k_rd_tape, 600, .inl f_rd_tape))] H := hP
        have hD : va_D A [(rd, .inr (7, [.ref rd_tape, .int fd1, .int fa1, .int fp1, .ref bk, .ref rd_names, .ref rd_nameKind, .ref rd_nameNumber, .int (nI nm), .ref rd_knotNames, .int (nI en), .int (nI a2), .int 0, .int (nI a2), .long 0])), (rd_tape, .inl (k_rd_tape, 600, .inl f_rd_tape))] := hD
        refine lv_goto (tgt := 164) hx hb dX7_next_66 (by decide) ?_
        have hP9 := hP.sub (ws' := [(rd, .inr (7, [.ref rd_tape, .int fd1, .int fa1, .int fp1, .ref bk, .ref rd_names, .ref rd_nameKind, .ref rd_nameNumber, .int (nI nm), .ref rd_knotNames, .int (nI en), .int (nI a2), .int 0, .int (nI a2), .long 0])), (rd_tape, .inl (k_rd_tape, 600, .inl f_rd_tape))]) [0, 1] rfl
        have hD9 := hD.sub (ws' := [(rd, .inr (7, [.ref rd_tape, .int fd1, .int fa1, .int fp1, .ref bk, .ref rd_names, .ref rd_nameKind, .ref rd_nameNumber, .int (nI nm), .ref rd_knotNames, .int (nI en), .int (nI a2), .int 0, .int (nI a2), .long 0])), (rd_tape, .inl (k_rd_tape, 600, .inl f_rd_tape))]) [0, 1] (by decide) rfl
        have hK9 := hK.sub (tys' := [(k_rd_tape, .int)]) [0] rfl
        exact W.vret hx hb hr (fun t ht hW => ⟨⟨(), rfl, trivial, a2, 0, (nI a2), 0, (by first | with_reducible assumption | omega | exact vp_in_iff.mpr (by omega) | exact vp_in_nI (by omega) (by omega) | exact ⟨by omega, by omega⟩), by rw [ht]; exact hP9, va_K.moved hW.alike hK9, hD9⟩, hS.F ht⟩) hS.2.2 dX7_next_164
    · skip
      have g_80 : v_41.toInt = (32 : Int) := i_eq c_42
      refine lv_aload_n hx hb dX7_next_24 rfl (lv_at hl 0 rfl) ?_
      refine lv_iload_n hx hb dX7_next_25 rfl (lv_at hl 1 rfl) ?_
      refine lv_iconst (v := 1) hx hb dX7_next_26 (by decide) ?_
      refine lv_iadd hx hb dX7_next_27 ?_
      refine lv_topi (fun v_81 ev_81 => ?_)
      obtain rfl : v_81 = nI (i + 1) := ev_81.trans (nI_add i 1)
      refine va_put (D := (dC, dI)) (ci := 7) (v := .int (nI (i + 1))) (ty := .int) (C := RX7) (T := TX7) (N := 15) hx hb hts (fun w h => wM_c (iX7 w h)) tyX7 tyX7_ok nmX7 hown hK hP hD hS 0 rfl rfl 11 (by decide) (hts _ (wM_c wd_347)) (fun _ h9 => h9) rfl (by decide +kernel) rfl rfl (Nat.le_of_ble_eq_true rfl) dX7_next_28 (fun H locs hP hD hS => ?_)
      have hP : va_P (dC, dI) classes [(rd, .inr (7, [.ref rd_tape, .int fd1, .int fa1, .int fp1, .ref bk, .ref rd_names, .ref rd_nameKind, .ref rd_nameNumber, .int (nI nm), .ref rd_knotNames, .int (nI en), .int (nI (i + 1)), .int tk1, .int ts1, .long tv1])), (rd_tape, .inl (k_rd_tape, 600, .inl f_rd_tape))] H := hP
      have hD : va_D A [(rd, .inr (7, [.ref rd_tape, .int fd1, .int fa1, .int fp1, .ref bk, .ref rd_names, .ref rd_nameKind, .ref rd_nameNumber, .int (nI nm), .ref rd_knotNames, .int (nI en), .int (nI (i + 1)), .int tk1, .int ts1, .long tv1])), (rd_tape, .inl (k_rd_tape, 600, .inl f_rd_tape))] := hD
      refine lv_iinc (v := (nI (i + 1))) (lv' := [(1, .int (nI (i + 1))), (0, .ref rd)]) hx hb dX7_next_31 hl (k := 1) rfl (nI_add _ 1) (by decide) rfl (fun ls hl => ?_)
      refine lv_goto (tgt := 5) hx hb dX7_next_34 (by decide) ?_
      exact ih_1 (i + 1) (i + 1) _ _ _ ⟨(by first | with_reducible assumption | omega | exact vp_in_iff.mpr (by omega) | exact vp_in_nI (by omega) (by omega) | exact ⟨by omega, by omega⟩), hP.sub [0, 1] rfl, hD.sub [0, 1] (by decide) rfl, hS, lv_sub hl [1, 0] rfl⟩ (by omega)
set_option maxHeartbeats 4000000 in
set_option maxRecDepth 100000 in
theorem c7_codeOf (l : Launch) (dC : Nat → ClassId) (dI : Nat → Nat → Nat) (n0 : Nat) (atx : Nat → Nat × Nat) (sz : Nat) (ti : Nat) (hti : ti < 34) : Met l yX7_codeOf (wM yX7_codeOf cX7_codeOf 4 (some .long)) ({ frames := 4, cells := 0, slots := 0, locals := 85 }) (va_Pc [.ref (atx ti).1] (fun U => U.heap.size = sz ∧ n0 ≤ sz ∧ GW n0 atx U ∧ va_P (dC, dI) classes [] U.heap ∧ va_K (dC, dI) classes [] U ∧ va_D (fun q => n0 ≤ q) [])) (va_Ql (fun (r : Int64) (_ : Unit) => True) (fun (_ : Unit) (t : State) => va_P (dC, dI) classes [] t.heap ∧ va_K (dC, dI) classes [] t ∧ va_D (va_A [] sz) []) (va_A [] sz)) 0 0 (va_A [] sz) := by
  refine Met.ofW (cc := cX7_codeOf) (maxL := 4) (ret := (some .long)) (by decide) rfl ?_
  intro p e s m args below meth c s₁ B hml hv
  obtain ⟨rfl, hsz, hn0, hG, hP, hK, hD0⟩ := hv
  have hx := B.exec
  have hb := B.bytes
  have hr := B.returns
  have hts := atoms_spec (ws := wM yX7_codeOf cX7_codeOf 4 (some .long)) B.pre
  have hown : s.vm.findClass RX7 = some m.cls := findClass_of_methodNamed B.named
  have hlocks := B.notSynchronized
  subst hsz
  have hD := hD0.self (sz := s.heap.size)
  have hA0 := vA_n0 hD0 hn0
  generalize hAe : va_A [] s.heap.size = A at hD hA0 ⊢
  have hA : ∀ q : Nat, s.heap.size ≤ q → A q := fun q h => by rw [← hAe]; exact Or.inr h
  have hS : va_S A s.heap s.heap [] := va_S.rf
  have hl := lv_entry ([.ref (atx ti).1]) (n := 4) (Nat.le_of_ble_eq_true rfl)
  rw [lg_entry_eq]
  generalize (lg_sl ([.ref (atx ti).1]) ++ List.replicate (4 - (lg_sl ([.ref (atx ti).1])).length) Slot.unset).toArray = ls at hl ⊢
  have hl : lv_has ls 4 [(0, .ref (atx ti).1)] := hl
  have hL := tx_len ti hti
  refine lv_lconst (v := 0) hx hb dX7_codeOf_0 (by decide) ?_
  refine lv_lstore_n (lv' := [(1, .long 0), (0, .ref (atx ti).1)]) hx hb dX7_codeOf_1 rfl hl (by decide) rfl (fun ls hl => ?_)
  refine lv_iconst (v := 0) hx hb dX7_codeOf_2 (by decide) ?_
  refine lv_istore_n (lv' := [(3, .int 0), (1, .long 0), (0, .ref (atx ti).1)]) hx hb dX7_codeOf_3 rfl hl (by decide) rfl (fun ls hl => ?_)
  refine W_lp2 (I := fun (v1 : Int64) (i : Nat) H locs ls => (i ≤ (txb ti).length) ∧ va_P (dC, dI) classes [] H ∧ va_D A [] ∧ va_S A s.heap H locs ∧ lv_has ls 4 [(0, .ref (atx ti).1), (1, .long v1), (3, .int (nI i))]) (μ := fun (v1 : Int64) (i : Nat) => (txb ti).length - i) ?_ 0 0 _ _ _ ⟨(by first | with_reducible assumption | omega | exact vp_in_iff.mpr (by omega) | exact vp_in_nI (by omega) (by omega) | exact ⟨by omega, by omega⟩), hP, hD, hS, lv_sub hl [2, 1, 0] rfl⟩
  intro v1 i H locs ls hI ih_1
  obtain ⟨hi, hP, hD, hS, hl⟩ := hI
  refine lv_iload_n hx hb dX7_codeOf_4 rfl (lv_at hl 2 rfl) ?_
  refine lv_aload_n hx hb dX7_codeOf_5 rfl (lv_at hl 0 rfl) ?_
  have hPc := hP.sub (ws' := []) [] rfl
  have hDc := hD.sub (ws' := []) [] (by decide) rfl
  have hKc := hK.sub (tys' := []) [] rfl
  have hFc := va_free (wc := []) hD hS hA [] rfl
  refine va_calli (va_runV (As := []) (rest := [.int (nI i)]) ⟨hx, hb, hml, hown, hts⟩ (j_length l dC dI n0 atx H.size ti (by first | with_reducible assumption | omega | exact vp_in_iff.mpr (by omega) | exact vp_in_nI (by omega) (by omega) | exact ⟨by omega, by omega⟩)) (cwV 0 hts (gV (fun w h => wM_c h) wd_767 wd_764 wd_765 wd_766 wd_132) rfl rfl rfl (by decide +kernel) ⟨Nat.le_of_ble_eq_true rfl, Nat.le_of_ble_eq_true rfl⟩) ⟨fun a U g mk q => by obtain ⟨q0, q1, q2, qG, qP, qK, qD⟩ := q; exact ⟨q0, q1, q2, GW.blind qG, qP, va_K.moved (u := U) (U := U.calling g mk a) (Vm.Alike.refl U.vm) qK, qD⟩, (by obtain ⟨cell, h1, h2, h3, -⟩ := ((hG.txi (by first | with_reducible assumption | omega | exact vp_in_iff.mpr (by omega) | exact vp_in_nI (by omega) (by omega) | exact ⟨by omega, by omega⟩)).1.narrow hA0).kept hS.2.1; exact ⟨cell, h1, h2, h3⟩), fun U hU hW => ⟨rfl, by rw [hU], Nat.le_trans hn0 hS.1, GW.go hW hU hG (fun q hq hA9 => hS.2.1 q hq (fun h => hA9 (hA0 q h))), by rw [hU]; exact hPc, va_K.moved hW.alike hKc, hDc.weaken (fun _ _ _ h => hA0 _ h)⟩⟩ rfl rfl hl.1 rfl (lv_room (Nat.le_of_ble_eq_true rfl)) dX7_codeOf_6 ⟨Nat.le_of_ble_eq_true rfl, Nat.le_of_ble_eq_true rfl⟩) hS (fun q _ h => hFc q h) hFc (fun r_2 u t H1 locs ht hvm hw_3 hB hz1 hk1 hS => ?_)
  obtain ⟨hP1, hK1, hD1⟩ := hB
  rw [ht] at hP1
  obtain ⟨hP, hD⟩ := va_join (wr := []) (w1 := []) hP hD [] [] rfl rfl (by decide) (by decide) hk1 hFc hP1 hD1
  generalize H1 = H at hP hS ⊢
  have hP : va_P (dC, dI) classes [] H := hP
  have hD : va_D A [] := hD
  subst hw_3
  refine lv_icmp_ge (tgt := 34) hx hb dX7_codeOf_9 (by decide) (fun c_4 => ?_) (fun c_4 => ?_)
  · skip
    have g_5 := n_ge (a := i) (b := (txb ti).length) c_4 (by omega) (by omega)
    refine lv_lload_n hx hb dX7_codeOf_34 rfl (lv_at hl 1 rfl) ?_
    have hP9 := hP.sub (ws' := []) [] rfl
    have hD9 := hD.sub (ws' := []) [] (by decide) rfl
    have hK9 := hK.sub (tys' := []) [] rfl
    exact W.lret (v := v1) hx hb hr (fun t ht hW => ⟨⟨v1, (), rfl, trivial, by rw [ht]; exact hP9, va_K.moved hW.alike hK9, hD9⟩, hS.F ht⟩) hS.2.2 dX7_codeOf_35
  · skip
    have g_6 := n_nge (a := i) (b := (txb ti).length) c_4 (by omega) (by omega)
    refine lv_lload_n hx hb dX7_codeOf_12 rfl (lv_at hl 1 rfl) ?_
    refine lv_iconst (v := 5) hx hb dX7_codeOf_13 (by decide) ?_
    refine lv_lshl hx hb dX7_codeOf_14 rfl ?_
    refine lv_topl (fun v_7 ev_7 => ?_)
    refine lv_aload_n hx hb dX7_codeOf_15 rfl (lv_at hl 0 rfl) ?_
    refine lv_iload_n hx hb dX7_codeOf_16 rfl (lv_at hl 2 rfl) ?_
    have hPc := hP.sub (ws' := []) [] rfl
    have hDc := hD.sub (ws' := []) [] (by decide) rfl
    have hKc := hK.sub (tys' := []) [] rfl
    have hFc := va_free (wc := []) hD hS hA [] rfl
    refine va_calli (va_runV (As := [.int (nI i)]) (rest := [.long v_7]) ⟨hx, hb, hml, hown, hts⟩ (j_charAt l dC dI n0 atx H.size ti i (by first | with_reducible assumption | omega | exact vp_in_iff.mpr (by omega) | exact vp_in_nI (by omega) (by omega) | exact ⟨by omega, by omega⟩) (by first | with_reducible assumption | omega | exact vp_in_iff.mpr (by omega) | exact vp_in_nI (by omega) (by omega) | exact ⟨by omega, by omega⟩)) (cwV 1 hts (gV (fun w h => wM_c h) wd_777 wd_774 wd_775 wd_776 wd_132) rfl rfl rfl (by decide +kernel) ⟨Nat.le_of_ble_eq_true rfl, Nat.le_of_ble_eq_true rfl⟩) ⟨fun a U g mk q => by obtain ⟨q0, q1, q2, qG, qP, qK, qD⟩ := q; exact ⟨q0, q1, q2, GW.blind qG, qP, va_K.moved (u := U) (U := U.calling g mk a) (Vm.Alike.refl U.vm) qK, qD⟩, (by obtain ⟨cell, h1, h2, h3, -⟩ := ((hG.txi (by first | with_reducible assumption | omega | exact vp_in_iff.mpr (by omega) | exact vp_in_nI (by omega) (by omega) | exact ⟨by omega, by omega⟩)).1.narrow hA0).kept hS.2.1; exact ⟨cell, h1, h2, h3⟩), fun U hU hW => ⟨rfl, by rw [hU], Nat.le_trans hn0 hS.1, GW.go hW hU hG (fun q hq hA9 => hS.2.1 q hq (fun h => hA9 (hA0 q h))), by rw [hU]; exact hPc, va_K.moved hW.alike hKc, hDc.weaken (fun _ _ _ h => hA0 _ h)⟩⟩ rfl rfl hl.1 rfl (lv_room (Nat.le_of_ble_eq_true rfl)) dX7_codeOf_17 ⟨Nat.le_of_ble_eq_true rfl, Nat.le_of_ble_eq_true rfl⟩) hS (fun q _ h => hFc q h) hFc (fun r_8 u t H1 locs ht hvm hw_9 hB hz1 hk1 hS => ?_)
    obtain ⟨hP1, hK1, hD1⟩ := hB
    rw [ht] at hP1
    obtain ⟨hP, hD⟩ := va_join (wr := []) (w1 := []) hP hD [] [] rfl rfl (by decide) (by decide) hk1 hFc hP1 hD1
    generalize H1 = H at hP hS ⊢
    have hP : va_P (dC, dI) classes [] H := hP
    have hD : va_D A [] := hD
    refine lv_bipush (v := 97) hx hb dX7_codeOf_20 (by decide) ?_
    refine lv_isub hx hb dX7_codeOf_22 ?_
    refine lv_topi (fun v_10 ev_10 => ?_)
    refine lv_iconst (v := 1) hx hb dX7_codeOf_23 (by decide) ?_
    refine lv_iadd hx hb dX7_codeOf_24 ?_
    refine lv_topi (fun v_11 ev_11 => ?_)
    refine lv_i2l (v := v_11.toInt64) hx hb dX7_codeOf_25 rfl ?_
    refine lv_topl (fun v_12 ev_12 => ?_)
    refine lv_lor hx hb dX7_codeOf_26 ?_
    refine lv_topl (fun v_13 ev_13 => ?_)
    refine lv_lstore_n (lv' := [(1, .long v_13), (0, .ref (atx ti).1), (3, .int (nI i))]) hx hb dX7_codeOf_27 rfl hl (by decide) rfl (fun ls hl => ?_)
    refine lv_iinc (v := (nI (i + 1))) (lv' := [(3, .int (nI (i + 1))), (1, .long v_13), (0, .ref (atx ti).1)]) hx hb dX7_codeOf_28 hl (k := 2) rfl (nI_add _ 1) (by decide) rfl (fun ls hl => ?_)
    refine lv_goto (tgt := 4) hx hb dX7_codeOf_31 (by decide) ?_
    exact ih_1 v_13 (i + 1) _ _ _ ⟨(by first | with_reducible assumption | omega | exact vp_in_iff.mpr (by omega) | exact vp_in_nI (by omega) (by omega) | exact ⟨by omega, by omega⟩), hP.sub [] rfl, hD.sub [] (by decide) rfl, hS, lv_sub hl [2, 1, 0] rfl⟩ (by omega)
set_option maxHeartbeats 4000000 in
set_option maxRecDepth 100000 in
theorem c7_isWord (l : Launch) (dC : Nat → ClassId) (dI : Nat → Nat → Nat) (n0 : Nat) (atx : Nat → Nat × Nat) (sz : Nat) (rd : Nat) (rd_tape : Nat) (fd1 : Int32) (fa1 : Int32) (fp1 : Int32) (bk : Nat) (rd_names : Nat) (rd_nameKind : Nat) (rd_nameNumber : Nat) (nm : Nat) (rd_knotNames : Nat) (en : Nat) (at1 : Nat) (tk1 : Int32) (ts1 : Int32) (tv1 : Int64) (ti : Nat) (hti : ti < 34) : Met l yX7_isWord (wM yX7_isWord cX7_isWord 2 (some .boolean)) ({ frames := 5, cells := 0, slots := 0, locals := 108 }) (va_Pc [.ref rd, .ref (atx ti).1] (fun U => U.heap.size = sz ∧ n0 ≤ sz ∧ GW n0 atx U ∧ va_P (dC, dI) classes [(rd, .inr (7, [.ref rd_tape, .int fd1, .int fa1, .int fp1, .ref bk, .ref rd_names, .ref rd_nameKind, .ref rd_nameNumber, .int (nI nm), .ref rd_knotNames, .int (nI en), .int (nI at1), .int tk1, .int ts1, .long tv1]))] U.heap ∧ va_K (dC, dI) classes [] U ∧ va_D (fun q => n0 ≤ q) [(rd, .inr (7, [.ref rd_tape, .int fd1, .int fa1, .int fp1, .ref bk, .ref rd_names, .ref rd_nameKind, .ref rd_nameNumber, .int (nI nm), .ref rd_knotNames, .int (nI en), .int (nI at1), .int tk1, .int ts1, .long tv1]))])) (va_Qi (fun (r : Int32) (_ : Unit) => r = 0 ∨ r = 1) (fun (_ : Unit) (t : State) => va_P (dC, dI) classes [(rd, .inr (7, [.ref rd_tape, .int fd1, .int fa1, .int fp1, .ref bk, .ref rd_names, .ref rd_nameKind, .ref rd_nameNumber, .int (nI nm), .ref rd_knotNames, .int (nI en), .int (nI at1), .int tk1, .int ts1, .long tv1]))] t.heap ∧ va_K (dC, dI) classes [] t ∧ va_D (va_A [(rd, .inr (7, [.ref rd_tape, .int fd1, .int fa1, .int fp1, .ref bk, .ref rd_names, .ref rd_nameKind, .ref rd_nameNumber, .int (nI nm), .ref rd_knotNames, .int (nI en), .int (nI at1), .int tk1, .int ts1, .long tv1]))] sz) [(rd, .inr (7, [.ref rd_tape, .int fd1, .int fa1, .int fp1, .ref bk, .ref rd_names, .ref rd_nameKind, .ref rd_nameNumber, .int (nI nm), .ref rd_knotNames, .int (nI en), .int (nI at1), .int tk1, .int ts1, .long tv1]))]) (va_A [(rd, .inr (7, [.ref rd_tape, .int fd1, .int fa1, .int fp1, .ref bk, .ref rd_names, .ref rd_nameKind, .ref rd_nameNumber, .int (nI nm), .ref rd_knotNames, .int (nI en), .int (nI at1), .int tk1, .int ts1, .long tv1]))] sz)) 0 0 (va_A [(rd, .inr (7, [.ref rd_tape, .int fd1, .int fa1, .int fp1, .ref bk, .ref rd_names, .ref rd_nameKind, .ref rd_nameNumber, .int (nI nm), .ref rd_knotNames, .int (nI en), .int (nI at1), .int tk1, .int ts1, .long tv1]))] sz) := by
  refine Met.ofW (cc := cX7_isWord) (maxL := 2) (ret := (some .boolean)) (by decide) rfl ?_
  intro p e s m args below meth c s₁ B hml hv
  obtain ⟨rfl, hsz, hn0, hG, hP, hK, hD0⟩ := hv
  have hx := B.exec
  have hb := B.bytes
  have hr := B.returns
  have hts := atoms_spec (ws := wM yX7_isWord cX7_isWord 2 (some .boolean)) B.pre
  have hown : s.vm.findClass RX7 = some m.cls := findClass_of_methodNamed B.named
  have hlocks := B.notSynchronized
  subst hsz
  have hD := hD0.self (sz := s.heap.size)
  have hA0 := vA_n0 hD0 hn0
  generalize hAe : va_A [(rd, .inr (7, [.ref rd_tape, .int fd1, .int fa1, .int fp1, .ref bk, .ref rd_names, .ref rd_nameKind, .ref rd_nameNumber, .int (nI nm), .ref rd_knotNames, .int (nI en), .int (nI at1), .int tk1, .int ts1, .long tv1]))] s.heap.size = A at hD hA0 ⊢
  have hA : ∀ q : Nat, s.heap.size ≤ q → A q := fun q h => by rw [← hAe]; exact Or.inr h
  have hS : va_S A s.heap s.heap [] := va_S.rf
  have hl := lv_entry ([.ref rd, .ref (atx ti).1]) (n := 2) (Nat.le_of_ble_eq_true rfl)
  rw [lg_entry_eq]
  generalize (lg_sl ([.ref rd, .ref (atx ti).1]) ++ List.replicate (2 - (lg_sl ([.ref rd, .ref (atx ti).1])).length) Slot.unset).toArray = ls at hl ⊢
  have hl : lv_has ls 2 [(0, .ref rd), (1, .ref (atx ti).1)] := hl
  refine lv_aload_n hx hb dX7_isWord_0 rfl (lv_at hl 0 rfl) ?_
  refine va_get (D := (dC, dI)) (ci := 7) (v := .int tk1) (C := RX7) (T := TX7) (N := 15) hx hb hts (fun w h => wM_c (iX7 w h)) hown hK hP 0 rfl rfl 12 (by decide) (hts _ (wM_c wd_348)) (fun _ h9 => h9) rfl dX7_isWord_1 ?_
  refine lv_iconst (v := 1) hx hb dX7_isWord_4 (by decide) ?_
  refine lv_icmp_ne (tgt := 24) hx hb dX7_isWord_5 (by decide) (fun c_1 => ?_) (fun c_1 => ?_)
  · skip
    have g_2 : tk1.toInt ≠ (1 : Int) := i_ne c_1
    refine lv_iconst (v := 0) hx hb dX7_isWord_24 (by decide) ?_
    have hP9 := hP.sub (ws' := [(rd, .inr (7, [.ref rd_tape, .int fd1, .int fa1, .int fp1, .ref bk, .ref rd_names, .ref rd_nameKind, .ref rd_nameNumber, .int (nI nm), .ref rd_knotNames, .int (nI en), .int (nI at1), .int tk1, .int ts1, .long tv1]))]) [0] rfl
    have hD9 := hD.sub (ws' := [(rd, .inr (7, [.ref rd_tape, .int fd1, .int fa1, .int fp1, .ref bk, .ref rd_names, .ref rd_nameKind, .ref rd_nameNumber, .int (nI nm), .ref rd_knotNames, .int (nI en), .int (nI at1), .int tk1, .int ts1, .long tv1]))]) [0] (by decide) rfl
    have hK9 := hK.sub (tys' := []) [] rfl
    exact W.zret (v := 0) hx hb hr rfl (fun t ht hW => ⟨⟨0, (), rfl, (Or.inl rfl), by rw [ht]; exact hP9, va_K.moved hW.alike hK9, hD9⟩, hS.F ht⟩) hS.2.2 dX7_isWord_25
  · skip
    have g_3 : tk1.toInt = (1 : Int) := i_eq c_1
    refine lv_aload_n hx hb dX7_isWord_8 rfl (lv_at hl 0 rfl) ?_
    refine va_get (D := (dC, dI)) (ci := 7) (v := .long tv1) (C := RX7) (T := TX7) (N := 15) hx hb hts (fun w h => wM_c (iX7 w h)) hown hK hP 0 rfl rfl 14 (by decide) (hts _ (wM_c wd_350)) (fun _ h9 => h9) rfl dX7_isWord_9 ?_
    refine lv_aload_n hx hb dX7_isWord_12 rfl (lv_at hl 1 rfl) ?_
    have hPc := hP.sub (ws' := []) [] rfl
    have hDc := hD.sub (ws' := []) [] (by decide) rfl
    have hKc := hK.sub (tys' := []) [] rfl
    have hFc := va_free (wc := []) hD hS hA [] rfl
    refine va_calll (va_runS (As := [.ref (atx ti).1]) (rest := [.long tv1]) ⟨hx, hb, hml, hown, hts⟩ (c7_codeOf l dC dI n0 atx s.heap.size ti (by first | with_reducible assumption | omega | exact vp_in_iff.mpr (by omega) | exact vp_in_nI (by omega) (by omega) | exact ⟨by omega, by omega⟩)) (va_cwS 1 hts (gS (fun w h => wM_c h) wd_763 wd_761 wd_762 wd_117) rfl rfl rfl (by decide +kernel) ⟨Nat.le_of_ble_eq_true rfl, Nat.le_of_ble_eq_true rfl⟩) ⟨fun a U g mk q => by obtain ⟨q0, q1, q2, qG, qP, qK, qD⟩ := q; exact ⟨q0, q1, q2, GW.blind qG, qP, va_K.moved (u := U) (U := U.calling g mk a) (Vm.Alike.refl U.vm) qK, qD⟩, fun U hU hW => ⟨rfl, by rw [hU], Nat.le_trans hn0 hS.1, GW.go hW hU hG (fun q hq hA9 => hS.2.1 q hq (fun h => hA9 (hA0 q h))), by rw [hU]; exact hPc, va_K.moved hW.alike hKc, hDc.weaken (fun _ _ _ h => hA0 _ h)⟩⟩ rfl rfl hl.1 rfl (lv_room (Nat.le_of_ble_eq_true rfl)) dX7_isWord_13 ⟨Nat.le_of_ble_eq_true rfl, Nat.le_of_ble_eq_true rfl⟩) hS (fun q _ h => hFc q h) hFc (fun r_4 u t H1 locs ht hvm hw_5 hB hz1 hk1 hS => ?_)
    obtain ⟨hP1, hK1, hD1⟩ := hB
    rw [ht] at hP1
    obtain ⟨hP, hD⟩ := va_join (wr := [(rd, .inr (7, [.ref rd_tape, .int fd1, .int fa1, .int fp1, .ref bk, .ref rd_names, .ref rd_nameKind, .ref rd_nameNumber, .int (nI nm), .ref rd_knotNames, .int (nI en), .int (nI at1), .int tk1, .int ts1, .long tv1]))]) (w1 := []) hP hD [] [0] rfl rfl (by decide) (by decide) hk1 hFc hP1 hD1
    generalize H1 = H at hP hS ⊢
    have hP : va_P (dC, dI) classes [(rd, .inr (7, [.ref rd_tape, .int fd1, .int fa1, .int fp1, .ref bk, .ref rd_names, .ref rd_nameKind, .ref rd_nameNumber, .int (nI nm), .ref rd_knotNames, .int (nI en), .int (nI at1), .int tk1, .int ts1, .long tv1]))] H := hP
    have hD : va_D A [(rd, .inr (7, [.ref rd_tape, .int fd1, .int fa1, .int fp1, .ref bk, .ref rd_names, .ref rd_nameKind, .ref rd_nameNumber, .int (nI nm), .ref rd_knotNames, .int (nI en), .int (nI at1), .int tk1, .int ts1, .long tv1]))] := hD
    refine W.lcmp hx hb dX7_isWord_16 ?_
    refine lv_topi (fun v_6 ev_6 => ?_)
    refine lv_if_ne (tgt := 24) hx hb dX7_isWord_17 (by decide) (fun c_7 => ?_) (fun c_7 => ?_)
    · skip
      have g_8 : ¬ tv1 = r_4 := fun q9 => c_7 (by rw [ev_6]; exact (lg_cmp_eq tv1 r_4).mpr q9)
      refine lv_iconst (v := 0) hx hb dX7_isWord_24 (by decide) ?_
      have hP9 := hP.sub (ws' := [(rd, .inr (7, [.ref rd_tape, .int fd1, .int fa1, .int fp1, .ref bk, .ref rd_names, .ref rd_nameKind, .ref rd_nameNumber, .int (nI nm), .ref rd_knotNames, .int (nI en), .int (nI at1), .int tk1, .int ts1, .long tv1]))]) [0] rfl
      have hD9 := hD.sub (ws' := [(rd, .inr (7, [.ref rd_tape, .int fd1, .int fa1, .int fp1, .ref bk, .ref rd_names, .ref rd_nameKind, .ref rd_nameNumber, .int (nI nm), .ref rd_knotNames, .int (nI en), .int (nI at1), .int tk1, .int ts1, .long tv1]))]) [0] (by decide) rfl
      have hK9 := hK.sub (tys' := []) [] rfl
      exact W.zret (v := 0) hx hb hr rfl (fun t ht hW => ⟨⟨0, (), rfl, (Or.inl rfl), by rw [ht]; exact hP9, va_K.moved hW.alike hK9, hD9⟩, hS.F ht⟩) hS.2.2 dX7_isWord_25
    · skip
      have g_9 : tv1 = r_4 := (lg_cmp_eq tv1 r_4).mp (by rw [← ev_6]; exact c_7)
      refine lv_iconst (v := 1) hx hb dX7_isWord_20 (by decide) ?_
      refine lv_goto (tgt := 25) hx hb dX7_isWord_21 (by decide) ?_
      have hP9 := hP.sub (ws' := [(rd, .inr (7, [.ref rd_tape, .int fd1, .int fa1, .int fp1, .ref bk, .ref rd_names, .ref rd_nameKind, .ref rd_nameNumber, .int (nI nm), .ref rd_knotNames, .int (nI en), .int (nI at1), .int tk1, .int ts1, .long tv1]))]) [0] rfl
      have hD9 := hD.sub (ws' := [(rd, .inr (7, [.ref rd_tape, .int fd1, .int fa1, .int fp1, .ref bk, .ref rd_names, .ref rd_nameKind, .ref rd_nameNumber, .int (nI nm), .ref rd_knotNames, .int (nI en), .int (nI at1), .int tk1, .int ts1, .long tv1]))]) [0] (by decide) rfl
      have hK9 := hK.sub (tys' := []) [] rfl
      exact W.zret (v := 1) hx hb hr rfl (fun t ht hW => ⟨⟨1, (), rfl, (Or.inr rfl), by rw [ht]; exact hP9, va_K.moved hW.alike hK9, hD9⟩, hS.F ht⟩) hS.2.2 dX7_isWord_25
set_option maxHeartbeats 4000000 in
set_option maxRecDepth 100000 in
theorem c7_isName (l : Launch) (dC : Nat → ClassId) (dI : Nat → Nat → Nat) (n0 : Nat) (atx : Nat → Nat × Nat) (sz : Nat) (rd : Nat) (rd_tape : Nat) (fd1 : Int32) (fa1 : Int32) (fp1 : Int32) (bk : Nat) (rd_names : Nat) (rd_nameKind : Nat) (rd_nameNumber : Nat) (nm : Nat) (rd_knotNames : Nat) (en : Nat) (at1 : Nat) (tk1 : Int32) (ts1 : Int32) (tv1 : Int64) : Met l yX7_isName (wM yX7_isName cX7_isName 1 (some .boolean)) ({ frames := 6, cells := 0, slots := 0, locals := 129 }) (va_Pc [.ref rd] (fun U => U.heap.size = sz ∧ n0 ≤ sz ∧ GW n0 atx U ∧ va_P (dC, dI) classes [(rd, .inr (7, [.ref rd_tape, .int fd1, .int fa1, .int fp1, .ref bk, .ref rd_names, .ref rd_nameKind, .ref rd_nameNumber, .int (nI nm), .ref rd_knotNames, .int (nI en), .int (nI at1), .int tk1, .int ts1, .long tv1]))] U.heap ∧ va_K (dC, dI) classes [] U ∧ va_D (fun q => n0 ≤ q) [(rd, .inr (7, [.ref rd_tape, .int fd1, .int fa1, .int fp1, .ref bk, .ref rd_names, .ref rd_nameKind, .ref rd_nameNumber, .int (nI nm), .ref rd_knotNames, .int (nI en), .int (nI at1), .int tk1, .int ts1, .long tv1]))])) (va_Qi (fun (r : Int32) (_ : Unit) => r = 0 ∨ r = 1) (fun (_ : Unit) (t : State) => va_P (dC, dI) classes [(rd, .inr (7, [.ref rd_tape, .int fd1, .int fa1, .int fp1, .ref bk, .ref rd_names, .ref rd_nameKind, .ref rd_nameNumber, .int (nI nm), .ref rd_knotNames, .int (nI en), .int (nI at1), .int tk1, .int ts1, .long tv1]))] t.heap ∧ va_K (dC, dI) classes [] t ∧ va_D (va_A [(rd, .inr (7, [.ref rd_tape, .int fd1, .int fa1, .int fp1, .ref bk, .ref rd_names, .ref rd_nameKind, .ref rd_nameNumber, .int (nI nm), .ref rd_knotNames, .int (nI en), .int (nI at1), .int tk1, .int ts1, .long tv1]))] sz) [(rd, .inr (7, [.ref rd_tape, .int fd1, .int fa1, .int fp1, .ref bk, .ref rd_names, .ref rd_nameKind, .ref rd_nameNumber, .int (nI nm), .ref rd_knotNames, .int (nI en), .int (nI at1), .int tk1, .int ts1, .long tv1]))]) (va_A [(rd, .inr (7, [.ref rd_tape, .int fd1, .int fa1, .int fp1, .ref bk, .ref rd_names, .ref rd_nameKind, .ref rd_nameNumber, .int (nI nm), .ref rd_knotNames, .int (nI en), .int (nI at1), .int tk1, .int ts1, .long tv1]))] sz)) 0 0 (va_A [(rd, .inr (7, [.ref rd_tape, .int fd1, .int fa1, .int fp1, .ref bk, .ref rd_names, .ref rd_nameKind, .ref rd_nameNumber, .int (nI nm), .ref rd_knotNames, .int (nI en), .int (nI at1), .int tk1, .int ts1, .long tv1]))] sz) := by
  refine Met.ofW (cc := cX7_isName) (maxL := 1) (ret := (some .boolean)) (by decide) rfl ?_
  intro p e s m args below meth c s₁ B hml hv
  obtain ⟨rfl, hsz, hn0, hG, hP, hK, hD0⟩ := hv
  have hx := B.exec
  have hb := B.bytes
  have hr := B.returns
  have hts := atoms_spec (ws := wM yX7_isName cX7_isName 1 (some .boolean)) B.pre
  have hown : s.vm.findClass RX7 = some m.cls := findClass_of_methodNamed B.named
  have hlocks := B.notSynchronized
  subst hsz
  have hD := hD0.self (sz := s.heap.size)
  have hA0 := vA_n0 hD0 hn0
  generalize hAe : va_A [(rd, .inr (7, [.ref rd_tape, .int fd1, .int fa1, .int fp1, .ref bk, .ref rd_names, .ref rd_nameKind, .ref rd_nameNumber, .int (nI nm), .ref rd_knotNames, .int (nI en), .int (nI at1), .int tk1, .int ts1, .long tv1]))] s.heap.size = A at hD hA0 ⊢
  have hA : ∀ q : Nat, s.heap.size ≤ q → A q := fun q h => by rw [← hAe]; exact Or.inr h
  have hS : va_S A s.heap s.heap [] := va_S.rf
  have hl := lv_entry ([.ref rd]) (n := 1) (Nat.le_of_ble_eq_true rfl)
  rw [lg_entry_eq]
  generalize (lg_sl ([.ref rd]) ++ List.replicate (1 - (lg_sl ([.ref rd])).length) Slot.unset).toArray = ls at hl ⊢
  have hl : lv_has ls 1 [(0, .ref rd)] := hl
  refine lv_aload_n hx hb dX7_isName_0 rfl (lv_at hl 0 rfl) ?_
  refine va_get (D := (dC, dI)) (ci := 7) (v := .int tk1) (C := RX7) (T := TX7) (N := 15) hx hb hts (fun w h => wM_c (iX7 w h)) hown hK hP 0 rfl rfl 12 (by decide) (hts _ (wM_c wd_348)) (fun _ h9 => h9) rfl dX7_isName_1 ?_
  refine lv_iconst (v := 1) hx hb dX7_isName_4 (by decide) ?_
  refine lv_icmp_ne (tgt := 57) hx hb dX7_isName_5 (by decide) (fun c_1 => ?_) (fun c_1 => ?_)
  · skip
    have g_2 : tk1.toInt ≠ (1 : Int) := i_ne c_1
    refine lv_iconst (v := 0) hx hb dX7_isName_57 (by decide) ?_
    have hP9 := hP.sub (ws' := [(rd, .inr (7, [.ref rd_tape, .int fd1, .int fa1, .int fp1, .ref bk, .ref rd_names, .ref rd_nameKind, .ref rd_nameNumber, .int (nI nm), .ref rd_knotNames, .int (nI en), .int (nI at1), .int tk1, .int ts1, .long tv1]))]) [0] rfl
    have hD9 := hD.sub (ws' := [(rd, .inr (7, [.ref rd_tape, .int fd1, .int fa1, .int fp1, .ref bk, .ref rd_names, .ref rd_nameKind, .ref rd_nameNumber, .int (nI nm), .ref rd_knotNames, .int (nI en), .int (nI at1), .int tk1, .int ts1, .long tv1]))]) [0] (by decide) rfl
    have hK9 := hK.sub (tys' := []) [] rfl
    exact W.zret (v := 0) hx hb hr rfl (fun t ht hW => ⟨⟨0, (), rfl, (Or.inl rfl), by rw [ht]; exact hP9, va_K.moved hW.alike hK9, hD9⟩, hS.F ht⟩) hS.2.2 dX7_isName_58
  · skip
    have g_3 : tk1.toInt = (1 : Int) := i_eq c_1
    refine lv_aload_n hx hb dX7_isName_8 rfl (lv_at hl 0 rfl) ?_
    refine va_ldcS (q := (atx 0).1) hx hb hown (hG.t 0 (q := ("MineAir$Reader", 59, "way", _)) rfl) dX7_isName_9 ?_
    have hPc := hP.sub (ws' := [(rd, .inr (7, [.ref rd_tape, .int fd1, .int fa1, .int fp1, .ref bk, .ref rd_names, .ref rd_nameKind, .ref rd_nameNumber, .int (nI nm), .ref rd_knotNames, .int (nI en), .int (nI at1), .int tk1, .int ts1, .long tv1]))]) [0] rfl
    have hDc := hD.sub (ws' := [(rd, .inr (7, [.ref rd_tape, .int fd1, .int fa1, .int fp1, .ref bk, .ref rd_names, .ref rd_nameKind, .ref rd_nameNumber, .int (nI nm), .ref rd_knotNames, .int (nI en), .int (nI at1), .int tk1, .int ts1, .long tv1]))]) [0] (by decide) rfl
    have hKc := hK.sub (tys' := []) [] rfl
    have hFc := va_free (wc := [(rd, .inr (7, [.ref rd_tape, .int fd1, .int fa1, .int fp1, .ref bk, .ref rd_names, .ref rd_nameKind, .ref rd_nameNumber, .int (nI nm), .ref rd_knotNames, .int (nI en), .int (nI at1), .int tk1, .int ts1, .long tv1]))]) hD hS hA [0] rfl
    refine va_calli (va_runV (As := [.ref (atx 0).1]) (rest := []) ⟨hx, hb, hml, hown, hts⟩ (c7_isWord l dC dI n0 atx s.heap.size rd rd_tape fd1 fa1 fp1 bk rd_names rd_nameKind rd_nameNumber nm rd_knotNames en at1 tk1 ts1 tv1 0 (by first | with_reducible assumption | omega | exact vp_in_iff.mpr (by omega) | exact vp_in_nI (by omega) (by omega) | exact ⟨by omega, by omega⟩)) (cwV 1 hts (gV (fun w h => wM_c h) wd_760 wd_757 wd_759 wd_5 wd_117) rfl rfl rfl (by decide +kernel) ⟨Nat.le_of_ble_eq_true rfl, Nat.le_of_ble_eq_true rfl⟩) ⟨fun a U g mk q => by obtain ⟨q0, q1, q2, qG, qP, qK, qD⟩ := q; exact ⟨q0, q1, q2, GW.blind qG, qP, va_K.moved (u := U) (U := U.calling g mk a) (Vm.Alike.refl U.vm) qK, qD⟩, va_recv hKc hPc (ci := 7) (q0 := 0) rfl rfl, fun U hU hW => ⟨rfl, by rw [hU], Nat.le_trans hn0 hS.1, GW.go hW hU hG (fun q hq hA9 => hS.2.1 q hq (fun h => hA9 (hA0 q h))), by rw [hU]; exact hPc, va_K.moved hW.alike hKc, hDc.weaken (fun _ _ _ h => hA0 _ h)⟩⟩ rfl rfl hl.1 rfl (lv_room (Nat.le_of_ble_eq_true rfl)) dX7_isName_11 ⟨Nat.le_of_ble_eq_true rfl, Nat.le_of_ble_eq_true rfl⟩) hS (fun q _ h => hFc q h) hFc (fun r_4 u t H1 locs ht hvm hw_5 hB hz1 hk1 hS => ?_)
    obtain ⟨hP1, hK1, hD1⟩ := hB
    rw [ht] at hP1
    obtain ⟨hP, hD⟩ := va_join (wr := []) (w1 := [(rd, .inr (7, [.ref rd_tape, .int fd1, .int fa1, .int fp1, .ref bk, .ref rd_names, .ref rd_nameKind, .ref rd_nameNumber, .int (nI nm), .ref rd_knotNames, .int (nI en), .int (nI at1), .int tk1, .int ts1, .long tv1]))]) hP hD [0] [] rfl rfl (by decide) (by decide) hk1 hFc hP1 hD1
    generalize H1 = H at hP hS ⊢
    have hP : va_P (dC, dI) classes [(rd, .inr (7, [.ref rd_tape, .int fd1, .int fa1, .int fp1, .ref bk, .ref rd_names, .ref rd_nameKind, .ref rd_nameNumber, .int (nI nm), .ref rd_knotNames, .int (nI en), .int (nI at1), .int tk1, .int ts1, .long tv1]))] H := hP
    have hD : va_D A [(rd, .inr (7, [.ref rd_tape, .int fd1, .int fa1, .int fp1, .ref bk, .ref rd_names, .ref rd_nameKind, .ref rd_nameNumber, .int (nI nm), .ref rd_knotNames, .int (nI en), .int (nI at1), .int tk1, .int ts1, .long tv1]))] := hD
    rcases hw_5 with rfl | rfl
    · skip
      refine lv_if_ne (tgt := 57) hx hb dX7_isName_14 (by decide) (fun c_6 => ?_) (fun c_6 => ?_)
      · exact absurd c_6 (by decide)
      refine lv_aload_n hx hb dX7_isName_17 rfl (lv_at hl 0 rfl) ?_
      refine va_ldcS (q := (atx 1).1) hx hb hown (hG.t 1 (q := ("MineAir$Reader", 68, "door", _)) rfl) dX7_isName_18 ?_
      have hPc := hP.sub (ws' := [(rd, .inr (7, [.ref rd_tape, .int fd1, .int fa1, .int fp1, .ref bk, .ref rd_names, .ref rd_nameKind, .ref rd_nameNumber, .int (nI nm), .ref rd_knotNames, .int (nI en), .int (nI at1), .int tk1, .int ts1, .long tv1]))]) [0] rfl
      have hDc := hD.sub (ws' := [(rd, .inr (7, [.ref rd_tape, .int fd1, .int fa1, .int fp1, .ref bk, .ref rd_names, .ref rd_nameKind, .ref rd_nameNumber, .int (nI nm), .ref rd_knotNames, .int (nI en), .int (nI at1), .int tk1, .int ts1, .long tv1]))]) [0] (by decide) rfl
      have hKc := hK.sub (tys' := []) [] rfl
      have hFc := va_free (wc := [(rd, .inr (7, [.ref rd_tape, .int fd1, .int fa1, .int fp1, .ref bk, .ref rd_names, .ref rd_nameKind, .ref rd_nameNumber, .int (nI nm), .ref rd_knotNames, .int (nI en), .int (nI at1), .int tk1, .int ts1, .long tv1]))]) hD hS hA [0] rfl
      refine va_calli (va_runV (As := [.ref (atx 1).1]) (rest := []) ⟨hx, hb, hml, hown, hts⟩ (c7_isWord l dC dI n0 atx H.size rd rd_tape fd1 fa1 fp1 bk rd_names rd_nameKind rd_nameNumber nm rd_knotNames en at1 tk1 ts1 tv1 1 (by first | with_reducible assumption | omega | exact vp_in_iff.mpr (by omega) | exact vp_in_nI (by omega) (by omega) | exact ⟨by omega, by omega⟩)) (cwV 1 hts (gV (fun w h => wM_c h) wd_760 wd_757 wd_759 wd_5 wd_117) rfl rfl rfl (by decide +kernel) ⟨Nat.le_of_ble_eq_true rfl, Nat.le_of_ble_eq_true rfl⟩) ⟨fun a U g mk q => by obtain ⟨q0, q1, q2, qG, qP, qK, qD⟩ := q; exact ⟨q0, q1, q2, GW.blind qG, qP, va_K.moved (u := U) (U := U.calling g mk a) (Vm.Alike.refl U.vm) qK, qD⟩, va_recv hKc hPc (ci := 7) (q0 := 0) rfl rfl, fun U hU hW => ⟨rfl, by rw [hU], Nat.le_trans hn0 hS.1, GW.go hW hU hG (fun q hq hA9 => hS.2.1 q hq (fun h => hA9 (hA0 q h))), by rw [hU]; exact hPc, va_K.moved hW.alike hKc, hDc.weaken (fun _ _ _ h => hA0 _ h)⟩⟩ rfl rfl hl.1 rfl (lv_room (Nat.le_of_ble_eq_true rfl)) dX7_isName_20 ⟨Nat.le_of_ble_eq_true rfl, Nat.le_of_ble_eq_true rfl⟩) hS (fun q _ h => hFc q h) hFc (fun r_7 u t H1 locs ht hvm hw_8 hB hz1 hk1 hS => ?_)
      obtain ⟨hP1, hK1, hD1⟩ := hB
      rw [ht] at hP1
      obtain ⟨hP, hD⟩ := va_join (wr := []) (w1 := [(rd, .inr (7, [.ref rd_tape, .int fd1, .int fa1, .int fp1, .ref bk, .ref rd_names, .ref rd_nameKind, .ref rd_nameNumber, .int (nI nm), .ref rd_knotNames, .int (nI en), .int (nI at1), .int tk1, .int ts1, .long tv1]))]) hP hD [0] [] rfl rfl (by decide) (by decide) hk1 hFc hP1 hD1
      generalize H1 = H at hP hS ⊢
      have hP : va_P (dC, dI) classes [(rd, .inr (7, [.ref rd_tape, .int fd1, .int fa1, .int fp1, .ref bk, .ref rd_names, .ref rd_nameKind, .ref rd_nameNumber, .int (nI nm), .ref rd_knotNames, .int (nI en), .int (nI at1), .int tk1, .int ts1, .long tv1]))] H := hP
      have hD : va_D A [(rd, .inr (7, [.ref rd_tape, .int fd1, .int fa1, .int fp1, .ref bk, .ref rd_names, .ref rd_nameKind, .ref rd_nameNumber, .int (nI nm), .ref rd_knotNames, .int (nI en), .int (nI at1), .int tk1, .int ts1, .long tv1]))] := hD
      rcases hw_8 with rfl | rfl
      · skip
        refine lv_if_ne (tgt := 57) hx hb dX7_isName_23 (by decide) (fun c_9 => ?_) (fun c_9 => ?_)
        · exact absurd c_9 (by decide)
        refine lv_aload_n hx hb dX7_isName_26 rfl (lv_at hl 0 rfl) ?_
        refine va_ldcS (q := (atx 2).1) hx hb hown (hG.t 2 (q := ("MineAir$Reader", 73, "pair", _)) rfl) dX7_isName_27 ?_
        have hPc := hP.sub (ws' := [(rd, .inr (7, [.ref rd_tape, .int fd1, .int fa1, .int fp1, .ref bk, .ref rd_names, .ref rd_nameKind, .ref rd_nameNumber, .int (nI nm), .ref rd_knotNames, .int (nI en), .int (nI at1), .int tk1, .int ts1, .long tv1]))]) [0] rfl
        have hDc := hD.sub (ws' := [(rd, .inr (7, [.ref rd_tape, .int fd1, .int fa1, .int fp1, .ref bk, .ref rd_names, .ref rd_nameKind, .ref rd_nameNumber, .int (nI nm), .ref rd_knotNames, .int (nI en), .int (nI at1), .int tk1, .int ts1, .long tv1]))]) [0] (by decide) rfl
        have hKc := hK.sub (tys' := []) [] rfl
        have hFc := va_free (wc := [(rd, .inr (7, [.ref rd_tape, .int fd1, .int fa1, .int fp1, .ref bk, .ref rd_names, .ref rd_nameKind, .ref rd_nameNumber, .int (nI nm), .ref rd_knotNames, .int (nI en), .int (nI at1), .int tk1, .int ts1, .long tv1]))]) hD hS hA [0] rfl
        refine va_calli (va_runV (As := [.ref (atx 2).1]) (rest := []) ⟨hx, hb, hml, hown, hts⟩ (c7_isWord l dC dI n0 atx H.size rd rd_tape fd1 fa1 fp1 bk rd_names rd_nameKind rd_nameNumber nm rd_knotNames en at1 tk1 ts1 tv1 2 (by first | with_reducible assumption | omega | exact vp_in_iff.mpr (by omega) | exact vp_in_nI (by omega) (by omega) | exact ⟨by omega, by omega⟩)) (cwV 1 hts (gV (fun w h => wM_c h) wd_760 wd_757 wd_759 wd_5 wd_117) rfl rfl rfl (by decide +kernel) ⟨Nat.le_of_ble_eq_true rfl, Nat.le_of_ble_eq_true rfl⟩) ⟨fun a U g mk q => by obtain ⟨q0, q1, q2, qG, qP, qK, qD⟩ := q; exact ⟨q0, q1, q2, GW.blind qG, qP, va_K.moved (u := U) (U := U.calling g mk a) (Vm.Alike.refl U.vm) qK, qD⟩, va_recv hKc hPc (ci := 7) (q0 := 0) rfl rfl, fun U hU hW => ⟨rfl, by rw [hU], Nat.le_trans hn0 hS.1, GW.go hW hU hG (fun q hq hA9 => hS.2.1 q hq (fun h => hA9 (hA0 q h))), by rw [hU]; exact hPc, va_K.moved hW.alike hKc, hDc.weaken (fun _ _ _ h => hA0 _ h)⟩⟩ rfl rfl hl.1 rfl (lv_room (Nat.le_of_ble_eq_true rfl)) dX7_isName_29 ⟨Nat.le_of_ble_eq_true rfl, Nat.le_of_ble_eq_true rfl⟩) hS (fun q _ h => hFc q h) hFc (fun r_10 u t H1 locs ht hvm hw_11 hB hz1 hk1 hS => ?_)
        obtain ⟨hP1, hK1, hD1⟩ := hB
        rw [ht] at hP1
        obtain ⟨hP, hD⟩ := va_join (wr := []) (w1 := [(rd, .inr (7, [.ref rd_tape, .int fd1, .int fa1, .int fp1, .ref bk, .ref rd_names, .ref rd_nameKind, .ref rd_nameNumber, .int (nI nm), .ref rd_knotNames, .int (nI en), .int (nI at1), .int tk1, .int ts1, .long tv1]))]) hP hD [0] [] rfl rfl (by decide) (by decide) hk1 hFc hP1 hD1
        generalize H1 = H at hP hS ⊢
        have hP : va_P (dC, dI) classes [(rd, .inr (7, [.ref rd_tape, .int fd1, .int fa1, .int fp1, .ref bk, .ref rd_names, .ref rd_nameKind, .ref rd_nameNumber, .int (nI nm), .ref rd_knotNames, .int (nI en), .int (nI at1), .int tk1, .int ts1, .long tv1]))] H := hP
        have hD : va_D A [(rd, .inr (7, [.ref rd_tape, .int fd1, .int fa1, .int fp1, .ref bk, .ref rd_names, .ref rd_nameKind, .ref rd_nameNumber, .int (nI nm), .ref rd_knotNames, .int (nI en), .int (nI at1), .int tk1, .int ts1, .long tv1]))] := hD
        rcases hw_11 with rfl | rfl
        · skip
          refine lv_if_ne (tgt := 57) hx hb dX7_isName_32 (by decide) (fun c_12 => ?_) (fun c_12 => ?_)
          · exact absurd c_12 (by decide)
          refine lv_aload_n hx hb dX7_isName_35 rfl (lv_at hl 0 rfl) ?_
          refine va_ldcS (q := (atx 3).1) hx hb hown (hG.t 3 (q := ("MineAir$Reader", 78, "fan", _)) rfl) dX7_isName_36 ?_
          have hPc := hP.sub (ws' := [(rd, .inr (7, [.ref rd_tape, .int fd1, .int fa1, .int fp1, .ref bk, .ref rd_names, .ref rd_nameKind, .ref rd_nameNumber, .int (nI nm), .ref rd_knotNames, .int (nI en), .int (nI at1), .int tk1, .int ts1, .long tv1]))]) [0] rfl
          have hDc := hD.sub (ws' := [(rd, .inr (7, [.ref rd_tape, .int fd1, .int fa1, .int fp1, .ref bk, .ref rd_names, .ref rd_nameKind, .ref rd_nameNumber, .int (nI nm), .ref rd_knotNames, .int (nI en), .int (nI at1), .int tk1, .int ts1, .long tv1]))]) [0] (by decide) rfl
          have hKc := hK.sub (tys' := []) [] rfl
          have hFc := va_free (wc := [(rd, .inr (7, [.ref rd_tape, .int fd1, .int fa1, .int fp1, .ref bk, .ref rd_names, .ref rd_nameKind, .ref rd_nameNumber, .int (nI nm), .ref rd_knotNames, .int (nI en), .int (nI at1), .int tk1, .int ts1, .long tv1]))]) hD hS hA [0] rfl
          refine va_calli (va_runV (As := [.ref (atx 3).1]) (rest := []) ⟨hx, hb, hml, hown, hts⟩ (c7_isWord l dC dI n0 atx H.size rd rd_tape fd1 fa1 fp1 bk rd_names rd_nameKind rd_nameNumber nm rd_knotNames en at1 tk1 ts1 tv1 3 (by first | with_reducible assumption | omega | exact vp_in_iff.mpr (by omega) | exact vp_in_nI (by omega) (by omega) | exact ⟨by omega, by omega⟩)) (cwV 1 hts (gV (fun w h => wM_c h) wd_760 wd_757 wd_759 wd_5 wd_117) rfl rfl rfl (by decide +kernel) ⟨Nat.le_of_ble_eq_true rfl, Nat.le_of_ble_eq_true rfl⟩) ⟨fun a U g mk q => by obtain ⟨q0, q1, q2, qG, qP, qK, qD⟩ := q; exact ⟨q0, q1, q2, GW.blind qG, qP, va_K.moved (u := U) (U := U.calling g mk a) (Vm.Alike.refl U.vm) qK, qD⟩, va_recv hKc hPc (ci := 7) (q0 := 0) rfl rfl, fun U hU hW => ⟨rfl, by rw [hU], Nat.le_trans hn0 hS.1, GW.go hW hU hG (fun q hq hA9 => hS.2.1 q hq (fun h => hA9 (hA0 q h))), by rw [hU]; exact hPc, va_K.moved hW.alike hKc, hDc.weaken (fun _ _ _ h => hA0 _ h)⟩⟩ rfl rfl hl.1 rfl (lv_room (Nat.le_of_ble_eq_true rfl)) dX7_isName_38 ⟨Nat.le_of_ble_eq_true rfl, Nat.le_of_ble_eq_true rfl⟩) hS (fun q _ h => hFc q h) hFc (fun r_13 u t H1 locs ht hvm hw_14 hB hz1 hk1 hS => ?_)
          obtain ⟨hP1, hK1, hD1⟩ := hB
          rw [ht] at hP1
          obtain ⟨hP, hD⟩ := va_join (wr := []) (w1 := [(rd, .inr (7, [.ref rd_tape, .int fd1, .int fa1, .int fp1, .ref bk, .ref rd_names, .ref rd_nameKind, .ref rd_nameNumber, .int (nI nm), .ref rd_knotNames, .int (nI en), .int (nI at1), .int tk1, .int ts1, .long tv1]))]) hP hD [0] [] rfl rfl (by decide) (by decide) hk1 hFc hP1 hD1
          generalize H1 = H at hP hS ⊢
          have hP : va_P (dC, dI) classes [(rd, .inr (7, [.ref rd_tape, .int fd1, .int fa1, .int fp1, .ref bk, .ref rd_names, .ref rd_nameKind, .ref rd_nameNumber, .int (nI nm), .ref rd_knotNames, .int (nI en), .int (nI at1), .int tk1, .int ts1, .long tv1]))] H := hP
          have hD : va_D A [(rd, .inr (7, [.ref rd_tape, .int fd1, .int fa1, .int fp1, .ref bk, .ref rd_names, .ref rd_nameKind, .ref rd_nameNumber, .int (nI nm), .ref rd_knotNames, .int (nI en), .int (nI at1), .int tk1, .int ts1, .long tv1]))] := hD
          rcases hw_14 with rfl | rfl
          · skip
            refine lv_if_ne (tgt := 57) hx hb dX7_isName_41 (by decide) (fun c_15 => ?_) (fun c_15 => ?_)
            · exact absurd c_15 (by decide)
            refine lv_aload_n hx hb dX7_isName_44 rfl (lv_at hl 0 rfl) ?_
            refine va_ldcS (q := (atx 4).1) hx hb hown (hG.t 4 (q := ("MineAir$Reader", 83, "face", _)) rfl) dX7_isName_45 ?_
            have hPc := hP.sub (ws' := [(rd, .inr (7, [.ref rd_tape, .int fd1, .int fa1, .int fp1, .ref bk, .ref rd_names, .ref rd_nameKind, .ref rd_nameNumber, .int (nI nm), .ref rd_knotNames, .int (nI en), .int (nI at1), .int tk1, .int ts1, .long tv1]))]) [0] rfl
            have hDc := hD.sub (ws' := [(rd, .inr (7, [.ref rd_tape, .int fd1, .int fa1, .int fp1, .ref bk, .ref rd_names, .ref rd_nameKind, .ref rd_nameNumber, .int (nI nm), .ref rd_knotNames, .int (nI en), .int (nI at1), .int tk1, .int ts1, .long tv1]))]) [0] (by decide) rfl
            have hKc := hK.sub (tys' := []) [] rfl
            have hFc := va_free (wc := [(rd, .inr (7, [.ref rd_tape, .int fd1, .int fa1, .int fp1, .ref bk, .ref rd_names, .ref rd_nameKind, .ref rd_nameNumber, .int (nI nm), .ref rd_knotNames, .int (nI en), .int (nI at1), .int tk1, .int ts1, .long tv1]))]) hD hS hA [0] rfl
            refine va_calli (va_runV (As := [.ref (atx 4).1]) (rest := []) ⟨hx, hb, hml, hown, hts⟩ (c7_isWord l dC dI n0 atx H.size rd rd_tape fd1 fa1 fp1 bk rd_names rd_nameKind rd_nameNumber nm rd_knotNames en at1 tk1 ts1 tv1 4 (by first | with_reducible assumption | omega | exact vp_in_iff.mpr (by omega) | exact vp_in_nI (by omega) (by omega) | exact ⟨by omega, by omega⟩)) (cwV 1 hts (gV (fun w h => wM_c h) wd_760 wd_757 wd_759 wd_5 wd_117) rfl rfl rfl (by decide +kernel) ⟨Nat.le_of_ble_eq_true rfl, Nat.le_of_ble_eq_true rfl⟩) ⟨fun a U g mk q => by obtain ⟨q0, q1, q2, qG, qP, qK, qD⟩ := q; exact ⟨q0, q1, q2, GW.blind qG, qP, va_K.moved (u := U) (U := U.calling g mk a) (Vm.Alike.refl U.vm) qK, qD⟩, va_recv hKc hPc (ci := 7) (q0 := 0) rfl rfl, fun U hU hW => ⟨rfl, by rw [hU], Nat.le_trans hn0 hS.1, GW.go hW hU hG (fun q hq hA9 => hS.2.1 q hq (fun h => hA9 (hA0 q h))), by rw [hU]; exact hPc, va_K.moved hW.alike hKc, hDc.weaken (fun _ _ _ h => hA0 _ h)⟩⟩ rfl rfl hl.1 rfl (lv_room (Nat.le_of_ble_eq_true rfl)) dX7_isName_47 ⟨Nat.le_of_ble_eq_true rfl, Nat.le_of_ble_eq_true rfl⟩) hS (fun q _ h => hFc q h) hFc (fun r_16 u t H1 locs ht hvm hw_17 hB hz1 hk1 hS => ?_)
            obtain ⟨hP1, hK1, hD1⟩ := hB
            rw [ht] at hP1
            obtain ⟨hP, hD⟩ := va_join (wr := []) (w1 := [(rd, .inr (7, [.ref rd_tape, .int fd1, .int fa1, .int fp1, .ref bk, .ref rd_names, .ref rd_nameKind, .ref rd_nameNumber, .int (nI nm), .ref rd_knotNames, .int (nI en), .int (nI at1), .int tk1, .int ts1, .long tv1]))]) hP hD [0] [] rfl rfl (by decide) (by decide) hk1 hFc hP1 hD1
            generalize H1 = H at hP hS ⊢
            have hP : va_P (dC, dI) classes [(rd, .inr (7, [.ref rd_tape, .int fd1, .int fa1, .int fp1, .ref bk, .ref rd_names, .ref rd_nameKind, .ref rd_nameNumber, .int (nI nm), .ref rd_knotNames, .int (nI en), .int (nI at1), .int tk1, .int ts1, .long tv1]))] H := hP
            have hD : va_D A [(rd, .inr (7, [.ref rd_tape, .int fd1, .int fa1, .int fp1, .ref bk, .ref rd_names, .ref rd_nameKind, .ref rd_nameNumber, .int (nI nm), .ref rd_knotNames, .int (nI en), .int (nI at1), .int tk1, .int ts1, .long tv1]))] := hD
            rcases hw_17 with rfl | rfl
            · skip
              refine lv_if_ne (tgt := 57) hx hb dX7_isName_50 (by decide) (fun c_18 => ?_) (fun c_18 => ?_)
              · exact absurd c_18 (by decide)
              refine lv_iconst (v := 1) hx hb dX7_isName_53 (by decide) ?_
              refine lv_goto (tgt := 58) hx hb dX7_isName_54 (by decide) ?_
              have hP9 := hP.sub (ws' := [(rd, .inr (7, [.ref rd_tape, .int fd1, .int fa1, .int fp1, .ref bk, .ref rd_names, .ref rd_nameKind, .ref rd_nameNumber, .int (nI nm), .ref rd_knotNames, .int (nI en), .int (nI at1), .int tk1, .int ts1, .long tv1]))]) [0] rfl
              have hD9 := hD.sub (ws' := [(rd, .inr (7, [.ref rd_tape, .int fd1, .int fa1, .int fp1, .ref bk, .ref rd_names, .ref rd_nameKind, .ref rd_nameNumber, .int (nI nm), .ref rd_knotNames, .int (nI en), .int (nI at1), .int tk1, .int ts1, .long tv1]))]) [0] (by decide) rfl
              have hK9 := hK.sub (tys' := []) [] rfl
              exact W.zret (v := 1) hx hb hr rfl (fun t ht hW => ⟨⟨1, (), rfl, (Or.inr rfl), by rw [ht]; exact hP9, va_K.moved hW.alike hK9, hD9⟩, hS.F ht⟩) hS.2.2 dX7_isName_58
            · skip
              refine lv_if_ne (tgt := 57) hx hb dX7_isName_50 (by decide) (fun c_19 => ?_) (fun c_19 => ?_)
              · skip
                refine lv_iconst (v := 0) hx hb dX7_isName_57 (by decide) ?_
                have hP9 := hP.sub (ws' := [(rd, .inr (7, [.ref rd_tape, .int fd1, .int fa1, .int fp1, .ref bk, .ref rd_names, .ref rd_nameKind, .ref rd_nameNumber, .int (nI nm), .ref rd_knotNames, .int (nI en), .int (nI at1), .int tk1, .int ts1, .long tv1]))]) [0] rfl
                have hD9 := hD.sub (ws' := [(rd, .inr (7, [.ref rd_tape, .int fd1, .int fa1, .int fp1, .ref bk, .ref rd_names, .ref rd_nameKind, .ref rd_nameNumber, .int (nI nm), .ref rd_knotNames, .int (nI en), .int (nI at1), .int tk1, .int ts1, .long tv1]))]) [0] (by decide) rfl
                have hK9 := hK.sub (tys' := []) [] rfl
                exact W.zret (v := 0) hx hb hr rfl (fun t ht hW => ⟨⟨0, (), rfl, (Or.inl rfl), by rw [ht]; exact hP9, va_K.moved hW.alike hK9, hD9⟩, hS.F ht⟩) hS.2.2 dX7_isName_58
              · exact absurd c_19 (by decide)
          · skip
            refine lv_if_ne (tgt := 57) hx hb dX7_isName_41 (by decide) (fun c_20 => ?_) (fun c_20 => ?_)
            · skip
              refine lv_iconst (v := 0) hx hb dX7_isName_57 (by decide) ?_
              have hP9 := hP.sub (ws' := [(rd, .inr (7, [.ref rd_tape, .int fd1, .int fa1, .int fp1, .ref bk, .ref rd_names, .ref rd_nameKind, .ref rd_nameNumber, .int (nI nm), .ref rd_knotNames, .int (nI en), .int (nI at1), .int tk1, .int ts1, .long tv1]))]) [0] rfl
              have hD9 := hD.sub (ws' := [(rd, .inr (7, [.ref rd_tape, .int fd1, .int fa1, .int fp1, .ref bk, .ref rd_names, .ref rd_nameKind, .ref rd_nameNumber, .int (nI nm), .ref rd_knotNames, .int (nI en), .int (nI at1), .int tk1, .int ts1, .long tv1]))]) [0] (by decide) rfl
              have hK9 := hK.sub (tys' := []) [] rfl
              exact W.zret (v := 0) hx hb hr rfl (fun t ht hW => ⟨⟨0, (), rfl, (Or.inl rfl), by rw [ht]; exact hP9, va_K.moved hW.alike hK9, hD9⟩, hS.F ht⟩) hS.2.2 dX7_isName_58
            · exact absurd c_20 (by decide)
        · skip
          refine lv_if_ne (tgt := 57) hx hb dX7_isName_32 (by decide) (fun c_21 => ?_) (fun c_21 => ?_)
          · skip
            refine lv_iconst (v := 0) hx hb dX7_isName_57 (by decide) ?_
            have hP9 := hP.sub (ws' := [(rd, .inr (7, [.ref rd_tape, .int fd1, .int fa1, .int fp1, .ref bk, .ref rd_names, .ref rd_nameKind, .ref rd_nameNumber, .int (nI nm), .ref rd_knotNames, .int (nI en), .int (nI at1), .int tk1, .int ts1, .long tv1]))]) [0] rfl
            have hD9 := hD.sub (ws' := [(rd, .inr (7, [.ref rd_tape, .int fd1, .int fa1, .int fp1, .ref bk, .ref rd_names, .ref rd_nameKind, .ref rd_nameNumber, .int (nI nm), .ref rd_knotNames, .int (nI en), .int (nI at1), .int tk1, .int ts1, .long tv1]))]) [0] (by decide) rfl
            have hK9 := hK.sub (tys' := []) [] rfl
            exact W.zret (v := 0) hx hb hr rfl (fun t ht hW => ⟨⟨0, (), rfl, (Or.inl rfl), by rw [ht]; exact hP9, va_K.moved hW.alike hK9, hD9⟩, hS.F ht⟩) hS.2.2 dX7_isName_58
          · exact absurd c_21 (by decide)
      · skip
        refine lv_if_ne (tgt := 57) hx hb dX7_isName_23 (by decide) (fun c_22 => ?_) (fun c_22 => ?_)
        · skip
          refine lv_iconst (v := 0) hx hb dX7_isName_57 (by decide) ?_
          have hP9 := hP.sub (ws' := [(rd, .inr (7, [.ref rd_tape, .int fd1, .int fa1, .int fp1, .ref bk, .ref rd_names, .ref rd_nameKind, .ref rd_nameNumber, .int (nI nm), .ref rd_knotNames, .int (nI en), .int (nI at1), .int tk1, .int ts1, .long tv1]))]) [0] rfl
          have hD9 := hD.sub (ws' := [(rd, .inr (7, [.ref rd_tape, .int fd1, .int fa1, .int fp1, .ref bk, .ref rd_names, .ref rd_nameKind, .ref rd_nameNumber, .int (nI nm), .ref rd_knotNames, .int (nI en), .int (nI at1), .int tk1, .int ts1, .long tv1]))]) [0] (by decide) rfl
          have hK9 := hK.sub (tys' := []) [] rfl
          exact W.zret (v := 0) hx hb hr rfl (fun t ht hW => ⟨⟨0, (), rfl, (Or.inl rfl), by rw [ht]; exact hP9, va_K.moved hW.alike hK9, hD9⟩, hS.F ht⟩) hS.2.2 dX7_isName_58
        · exact absurd c_22 (by decide)
    · skip
      refine lv_if_ne (tgt := 57) hx hb dX7_isName_14 (by decide) (fun c_23 => ?_) (fun c_23 => ?_)
      · skip
        refine lv_iconst (v := 0) hx hb dX7_isName_57 (by decide) ?_
        have hP9 := hP.sub (ws' := [(rd, .inr (7, [.ref rd_tape, .int fd1, .int fa1, .int fp1, .ref bk, .ref rd_names, .ref rd_nameKind, .ref rd_nameNumber, .int (nI nm), .ref rd_knotNames, .int (nI en), .int (nI at1), .int tk1, .int ts1, .long tv1]))]) [0] rfl
        have hD9 := hD.sub (ws' := [(rd, .inr (7, [.ref rd_tape, .int fd1, .int fa1, .int fp1, .ref bk, .ref rd_names, .ref rd_nameKind, .ref rd_nameNumber, .int (nI nm), .ref rd_knotNames, .int (nI en), .int (nI at1), .int tk1, .int ts1, .long tv1]))]) [0] (by decide) rfl
        have hK9 := hK.sub (tys' := []) [] rfl
        exact W.zret (v := 0) hx hb hr rfl (fun t ht hW => ⟨⟨0, (), rfl, (Or.inl rfl), by rw [ht]; exact hP9, va_K.moved hW.alike hK9, hD9⟩, hS.F ht⟩) hS.2.2 dX7_isName_58
      · exact absurd c_23 (by decide)
set_option maxHeartbeats 4000000 in
set_option maxRecDepth 100000 in
theorem c7_takeWord (l : Launch) (dC : Nat → ClassId) (dI : Nat → Nat → Nat) (n0 : Nat) (atx : Nat → Nat × Nat) (sz : Nat) (rd : Nat) (rd_tape : Nat) (fd1 : Int32) (fa1 : Int32) (fp1 : Int32) (bk : Nat) (rd_names : Nat) (rd_nameKind : Nat) (rd_nameNumber : Nat) (nm : Nat) (rd_knotNames : Nat) (en : Nat) (at1 : Nat) (tk1 : Int32) (ts1 : Int32) (tv1 : Int64) (k_rd_tape : ClassId) (f_rd_tape : Nat → Int32) (ti : Nat) (hti : ti < 34) (h_en : en ≤ 600) (h_at : at1 ≤ en) : Met l yX7_takeWord (wM yX7_takeWord cX7_takeWord 2 (some .boolean)) ({ frames := 6, cells := 0, slots := 0, locals := 129 }) (va_Pc [.ref rd, .ref (atx ti).1] (fun U => U.heap.size = sz ∧ n0 ≤ sz ∧ GW n0 atx U ∧ va_P (dC, dI) classes [(rd, .inr (7, [.ref rd_tape, .int fd1, .int fa1, .int fp1, .ref bk, .ref rd_names, .ref rd_nameKind, .ref rd_nameNumber, .int (nI nm), .ref rd_knotNames, .int (nI en), .int (nI at1), .int tk1, .int ts1, .long tv1])), (rd_tape, .inl (k_rd_tape, 600, .inl f_rd_tape))] U.heap ∧ va_K (dC, dI) classes [(k_rd_tape, .int)] U ∧ va_D (fun q => n0 ≤ q) [(rd, .inr (7, [.ref rd_tape, .int fd1, .int fa1, .int fp1, .ref bk, .ref rd_names, .ref rd_nameKind, .ref rd_nameNumber, .int (nI nm), .ref rd_knotNames, .int (nI en), .int (nI at1), .int tk1, .int ts1, .long tv1])), (rd_tape, .inl (k_rd_tape, 600, .inl f_rd_tape))])) (va_Qi (fun (r : Int32) (_ : Unit) => r = 0 ∨ r = 1) (fun (_ : Unit) (t : State) => ∃ (at9 : Nat), ∃ (tk9 : Int32), ∃ (ts9 : Int32), ∃ (tv9 : Int64), (at9 ≤ en) ∧ va_P (dC, dI) classes [(rd, .inr (7, [.ref rd_tape, .int fd1, .int fa1, .int fp1, .ref bk, .ref rd_names, .ref rd_nameKind, .ref rd_nameNumber, .int (nI nm), .ref rd_knotNames, .int (nI en), .int (nI at9), .int tk9, .int ts9, .long tv9])), (rd_tape, .inl (k_rd_tape, 600, .inl f_rd_tape))] t.heap ∧ va_K (dC, dI) classes [(k_rd_tape, .int)] t ∧ va_D (va_A [(rd, .inr (7, [.ref rd_tape, .int fd1, .int fa1, .int fp1, .ref bk, .ref rd_names, .ref rd_nameKind, .ref rd_nameNumber, .int (nI nm), .ref rd_knotNames, .int (nI en), .int (nI at1), .int tk1, .int ts1, .long tv1])), (rd_tape, .inl (k_rd_tape, 600, .inl f_rd_tape))] sz) [(rd, .inr (7, [.ref rd_tape, .int fd1, .int fa1, .int fp1, .ref bk, .ref rd_names, .ref rd_nameKind, .ref rd_nameNumber, .int (nI nm), .ref rd_knotNames, .int (nI en), .int (nI at9), .int tk9, .int ts9, .long tv9])), (rd_tape, .inl (k_rd_tape, 600, .inl f_rd_tape))]) (va_A [(rd, .inr (7, [.ref rd_tape, .int fd1, .int fa1, .int fp1, .ref bk, .ref rd_names, .ref rd_nameKind, .ref rd_nameNumber, .int (nI nm), .ref rd_knotNames, .int (nI en), .int (nI at1), .int tk1, .int ts1, .long tv1])), (rd_tape, .inl (k_rd_tape, 600, .inl f_rd_tape))] sz)) 0 0 (va_A [(rd, .inr (7, [.ref rd_tape, .int fd1, .int fa1, .int fp1, .ref bk, .ref rd_names, .ref rd_nameKind, .ref rd_nameNumber, .int (nI nm), .ref rd_knotNames, .int (nI en), .int (nI at1), .int tk1, .int ts1, .long tv1])), (rd_tape, .inl (k_rd_tape, 600, .inl f_rd_tape))] sz) := by
  refine Met.ofW (cc := cX7_takeWord) (maxL := 2) (ret := (some .boolean)) (by decide) rfl ?_
  intro p e s m args below meth c s₁ B hml hv
  obtain ⟨rfl, hsz, hn0, hG, hP, hK, hD0⟩ := hv
  have hx := B.exec
  have hb := B.bytes
  have hr := B.returns
  have hts := atoms_spec (ws := wM yX7_takeWord cX7_takeWord 2 (some .boolean)) B.pre
  have hown : s.vm.findClass RX7 = some m.cls := findClass_of_methodNamed B.named
  have hlocks := B.notSynchronized
  subst hsz
  have hD := hD0.self (sz := s.heap.size)
  have hA0 := vA_n0 hD0 hn0
  generalize hAe : va_A [(rd, .inr (7, [.ref rd_tape, .int fd1, .int fa1, .int fp1, .ref bk, .ref rd_names, .ref rd_nameKind, .ref rd_nameNumber, .int (nI nm), .ref rd_knotNames, .int (nI en), .int (nI at1), .int tk1, .int ts1, .long tv1])), (rd_tape, .inl (k_rd_tape, 600, .inl f_rd_tape))] s.heap.size = A at hD hA0 ⊢
  have hA : ∀ q : Nat, s.heap.size ≤ q → A q := fun q h => by rw [← hAe]; exact Or.inr h
  have hS : va_S A s.heap s.heap [] := va_S.rf
  have hl := lv_entry ([.ref rd, .ref (atx ti).1]) (n := 2) (Nat.le_of_ble_eq_true rfl)
  rw [lg_entry_eq]
  generalize (lg_sl ([.ref rd, .ref (atx ti).1]) ++ List.replicate (2 - (lg_sl ([.ref rd, .ref (atx ti).1])).length) Slot.unset).toArray = ls at hl ⊢
  have hl : lv_has ls 2 [(0, .ref rd), (1, .ref (atx ti).1)] := hl
  refine lv_aload_n hx hb dX7_takeWord_0 rfl (lv_at hl 0 rfl) ?_
  refine lv_aload_n hx hb dX7_takeWord_1 rfl (lv_at hl 1 rfl) ?_
  have hPc := hP.sub (ws' := [(rd, .inr (7, [.ref rd_tape, .int fd1, .int fa1, .int fp1, .ref bk, .ref rd_names, .ref rd_nameKind, .ref rd_nameNumber, .int (nI nm), .ref rd_knotNames, .int (nI en), .int (nI at1), .int tk1, .int ts1, .long tv1]))]) [0] rfl
  have hDc := hD.sub (ws' := [(rd, .inr (7, [.ref rd_tape, .int fd1, .int fa1, .int fp1, .ref bk, .ref rd_names, .ref rd_nameKind, .ref rd_nameNumber, .int (nI nm), .ref rd_knotNames, .int (nI en), .int (nI at1), .int tk1, .int ts1, .long tv1]))]) [0] (by decide) rfl
  have hKc := hK.sub (tys' := []) [] rfl
  have hFc := va_free (wc := [(rd, .inr (7, [.ref rd_tape, .int fd1, .int fa1, .int fp1, .ref bk, .ref rd_names, .ref rd_nameKind, .ref rd_nameNumber, .int (nI nm), .ref rd_knotNames, .int (nI en), .int (nI at1), .int tk1, .int ts1, .long tv1]))]) hD hS hA [0] rfl
  refine va_calli (va_runV (As := [.ref (atx ti).1]) (rest := []) ⟨hx, hb, hml, hown, hts⟩ (c7_isWord l dC dI n0 atx s.heap.size rd rd_tape fd1 fa1 fp1 bk rd_names rd_nameKind rd_nameNumber nm rd_knotNames en at1 tk1 ts1 tv1 ti (by first | with_reducible assumption | omega | exact vp_in_iff.mpr (by omega) | exact vp_in_nI (by omega) (by omega) | exact ⟨by omega, by omega⟩)) (cwV 1 hts (gV (fun w h => wM_c h) wd_760 wd_757 wd_759 wd_5 wd_117) rfl rfl rfl (by decide +kernel) ⟨Nat.le_of_ble_eq_true rfl, Nat.le_of_ble_eq_true rfl⟩) ⟨fun a U g mk q => by obtain ⟨q0, q1, q2, qG, qP, qK, qD⟩ := q; exact ⟨q0, q1, q2, GW.blind qG, qP, va_K.moved (u := U) (U := U.calling g mk a) (Vm.Alike.refl U.vm) qK, qD⟩, va_recv hKc hPc (ci := 7) (q0 := 0) rfl rfl, fun U hU hW => ⟨rfl, by rw [hU], Nat.le_trans hn0 hS.1, GW.go hW hU hG (fun q hq hA9 => hS.2.1 q hq (fun h => hA9 (hA0 q h))), by rw [hU]; exact hPc, va_K.moved hW.alike hKc, hDc.weaken (fun _ _ _ h => hA0 _ h)⟩⟩ rfl rfl hl.1 rfl (lv_room (Nat.le_of_ble_eq_true rfl)) dX7_takeWord_2 ⟨Nat.le_of_ble_eq_true rfl, Nat.le_of_ble_eq_true rfl⟩) hS (fun q _ h => hFc q h) hFc (fun r_1 u t H1 locs ht hvm hw_2 hB hz1 hk1 hS => ?_)
  obtain ⟨hP1, hK1, hD1⟩ := hB
  rw [ht] at hP1
  obtain ⟨hP, hD⟩ := va_join (wr := [(rd_tape, .inl (k_rd_tape, 600, .inl f_rd_tape))]) (w1 := [(rd, .inr (7, [.ref rd_tape, .int fd1, .int fa1, .int fp1, .ref bk, .ref rd_names, .ref rd_nameKind, .ref rd_nameNumber, .int (nI nm), .ref rd_knotNames, .int (nI en), .int (nI at1), .int tk1, .int ts1, .long tv1]))]) hP hD [0] [1] rfl rfl (by decide) (by decide) hk1 hFc hP1 hD1
  generalize H1 = H at hP hS ⊢
  have hP : va_P (dC, dI) classes [(rd_tape, .inl (k_rd_tape, 600, .inl f_rd_tape)), (rd, .inr (7, [.ref rd_tape, .int fd1, .int fa1, .int fp1, .ref bk, .ref rd_names, .ref rd_nameKind, .ref rd_nameNumber, .int (nI nm), .ref rd_knotNames, .int (nI en), .int (nI at1), .int tk1, .int ts1, .long tv1]))] H := hP
  have hD : va_D A [(rd_tape, .inl (k_rd_tape, 600, .inl f_rd_tape)), (rd, .inr (7, [.ref rd_tape, .int fd1, .int fa1, .int fp1, .ref bk, .ref rd_names, .ref rd_nameKind, .ref rd_nameNumber, .int (nI nm), .ref rd_knotNames, .int (nI en), .int (nI at1), .int tk1, .int ts1, .long tv1]))] := hD
  rcases hw_2 with rfl | rfl
  · skip
    refine lv_if_ne (tgt := 10) hx hb dX7_takeWord_5 (by decide) (fun c_3 => ?_) (fun c_3 => ?_)
    · exact absurd c_3 (by decide)
    refine lv_iconst (v := 0) hx hb dX7_takeWord_8 (by decide) ?_
    have hP9 := hP.sub (ws' := [(rd, .inr (7, [.ref rd_tape, .int fd1, .int fa1, .int fp1, .ref bk, .ref rd_names, .ref rd_nameKind, .ref rd_nameNumber, .int (nI nm), .ref rd_knotNames, .int (nI en), .int (nI at1), .int tk1, .int ts1, .long tv1])), (rd_tape, .inl (k_rd_tape, 600, .inl f_rd_tape))]) [1, 0] rfl
    have hD9 := hD.sub (ws' := [(rd, .inr (7, [.ref rd_tape, .int fd1, .int fa1, .int fp1, .ref bk, .ref rd_names, .ref rd_nameKind, .ref rd_nameNumber, .int (nI nm), .ref rd_knotNames, .int (nI en), .int (nI at1), .int tk1, .int ts1, .long tv1])), (rd_tape, .inl (k_rd_tape, 600, .inl f_rd_tape))]) [1, 0] (by decide) rfl
    have hK9 := hK.sub (tys' := [(k_rd_tape, .int)]) [0] rfl
    exact W.zret (v := 0) hx hb hr rfl (fun t ht hW => ⟨⟨0, (), rfl, (Or.inl rfl), at1, tk1, ts1, tv1, (by first | with_reducible assumption | omega | exact vp_in_iff.mpr (by omega) | exact vp_in_nI (by omega) (by omega) | exact ⟨by omega, by omega⟩), by rw [ht]; exact hP9, va_K.moved hW.alike hK9, hD9⟩, hS.F ht⟩) hS.2.2 dX7_takeWord_9
  · skip
    refine lv_if_ne (tgt := 10) hx hb dX7_takeWord_5 (by decide) (fun c_4 => ?_) (fun c_4 => ?_)
    · skip
      refine lv_aload_n hx hb dX7_takeWord_10 rfl (lv_at hl 0 rfl) ?_
      have hPc := hP.sub (ws' := [(rd, .inr (7, [.ref rd_tape, .int fd1, .int fa1, .int fp1, .ref bk, .ref rd_names, .ref rd_nameKind, .ref rd_nameNumber, .int (nI nm), .ref rd_knotNames, .int (nI en), .int (nI at1), .int tk1, .int ts1, .long tv1])), (rd_tape, .inl (k_rd_tape, 600, .inl f_rd_tape))]) [1, 0] rfl
      have hDc := hD.sub (ws' := [(rd, .inr (7, [.ref rd_tape, .int fd1, .int fa1, .int fp1, .ref bk, .ref rd_names, .ref rd_nameKind, .ref rd_nameNumber, .int (nI nm), .ref rd_knotNames, .int (nI en), .int (nI at1), .int tk1, .int ts1, .long tv1])), (rd_tape, .inl (k_rd_tape, 600, .inl f_rd_tape))]) [1, 0] (by decide) rfl
      have hKc := hK.sub (tys' := [(k_rd_tape, .int)]) [0] rfl
      have hFc := va_free (wc := [(rd, .inr (7, [.ref rd_tape, .int fd1, .int fa1, .int fp1, .ref bk, .ref rd_names, .ref rd_nameKind, .ref rd_nameNumber, .int (nI nm), .ref rd_knotNames, .int (nI en), .int (nI at1), .int tk1, .int ts1, .long tv1])), (rd_tape, .inl (k_rd_tape, 600, .inl f_rd_tape))]) hD hS hA [1, 0] rfl
      refine va_callv (va_runV (As := []) (rest := []) ⟨hx, hb, hml, hown, hts⟩ (c7_next l dC dI n0 atx H.size rd rd_tape fd1 fa1 fp1 bk rd_names rd_nameKind rd_nameNumber nm rd_knotNames en at1 tk1 ts1 tv1 k_rd_tape f_rd_tape (by first | with_reducible assumption | omega | exact vp_in_iff.mpr (by omega) | exact vp_in_nI (by omega) (by omega) | exact ⟨by omega, by omega⟩) (by first | with_reducible assumption | omega | exact vp_in_iff.mpr (by omega) | exact vp_in_nI (by omega) (by omega) | exact ⟨by omega, by omega⟩)) (cwV 0 hts (gV (fun w h => wM_c h) wd_735 wd_732 wd_734 wd_1 wd_117) rfl rfl rfl (by decide +kernel) ⟨Nat.le_of_ble_eq_true rfl, Nat.le_of_ble_eq_true rfl⟩) ⟨fun a U g mk q => by obtain ⟨q0, q1, q2, qG, qP, qK, qD⟩ := q; exact ⟨q0, q1, q2, GW.blind qG, qP, va_K.moved (u := U) (U := U.calling g mk a) (Vm.Alike.refl U.vm) qK, qD⟩, va_recv hKc hPc (ci := 7) (q0 := 0) rfl rfl, fun U hU hW => ⟨rfl, by rw [hU], Nat.le_trans hn0 hS.1, GW.go hW hU hG (fun q hq hA9 => hS.2.1 q hq (fun h => hA9 (hA0 q h))), by rw [hU]; exact hPc, va_K.moved hW.alike hKc, hDc.weaken (fun _ _ _ h => hA0 _ h)⟩⟩ rfl rfl hl.1 rfl (lv_room (Nat.le_of_ble_eq_true rfl)) dX7_takeWord_11 ⟨Nat.le_of_ble_eq_true rfl, Nat.le_of_ble_eq_true rfl⟩) hS (fun q _ h => hFc q h) hFc (fun u t H1 locs ht hvm hw_6 hB hz1 hk1 hS => ?_)
      obtain ⟨at9_7, tk9_8, ts9_9, tv9_10, hf_11, hP1, hK1, hD1⟩ := hB
      rw [ht] at hP1
      obtain ⟨hP, hD⟩ := va_join (wr := []) (w1 := [(rd, .inr (7, [.ref rd_tape, .int fd1, .int fa1, .int fp1, .ref bk, .ref rd_names, .ref rd_nameKind, .ref rd_nameNumber, .int (nI nm), .ref rd_knotNames, .int (nI en), .int (nI at9_7), .int tk9_8, .int ts9_9, .long tv9_10])), (rd_tape, .inl (k_rd_tape, 600, .inl f_rd_tape))]) hP hD [1, 0] [] rfl rfl (by decide) (by decide) hk1 hFc hP1 hD1
      generalize H1 = H at hP hS ⊢
      have hP : va_P (dC, dI) classes [(rd, .inr (7, [.ref rd_tape, .int fd1, .int fa1, .int fp1, .ref bk, .ref rd_names, .ref rd_nameKind, .ref rd_nameNumber, .int (nI nm), .ref rd_knotNames, .int (nI en), .int (nI at9_7), .int tk9_8, .int ts9_9, .long tv9_10])), (rd_tape, .inl (k_rd_tape, 600, .inl f_rd_tape))] H := hP
      have hD : va_D A [(rd, .inr (7, [.ref rd_tape, .int fd1, .int fa1, .int fp1, .ref bk, .ref rd_names, .ref rd_nameKind, .ref rd_nameNumber, .int (nI nm), .ref rd_knotNames, .int (nI en), .int (nI at9_7), .int tk9_8, .int ts9_9, .long tv9_10])), (rd_tape, .inl (k_rd_tape, 600, .inl f_rd_tape))] := hD
      refine lv_iconst (v := 1) hx hb dX7_takeWord_14 (by decide) ?_
      have hP9 := hP.sub (ws' := [(rd, .inr (7, [.ref rd_tape, .int fd1, .int fa1, .int fp1, .ref bk, .ref rd_names, .ref rd_nameKind, .ref rd_nameNumber, .int (nI nm), .ref rd_knotNames, .int (nI en), .int (nI at9_7), .int tk9_8, .int ts9_9, .long tv9_10])), (rd_tape, .inl (k_rd_tape, 600, .inl f_rd_tape))]) [0, 1] rfl
      have hD9 := hD.sub (ws' := [(rd, .inr (7, [.ref rd_tape, .int fd1, .int fa1, .int fp1, .ref bk, .ref rd_names, .ref rd_nameKind, .ref rd_nameNumber, .int (nI nm), .ref rd_knotNames, .int (nI en), .int (nI at9_7), .int tk9_8, .int ts9_9, .long tv9_10])), (rd_tape, .inl (k_rd_tape, 600, .inl f_rd_tape))]) [0, 1] (by decide) rfl
      have hK9 := hK.sub (tys' := [(k_rd_tape, .int)]) [0] rfl
      exact W.zret (v := 1) hx hb hr rfl (fun t ht hW => ⟨⟨1, (), rfl, (Or.inr rfl), at9_7, tk9_8, ts9_9, tv9_10, (by first | with_reducible assumption | omega | exact vp_in_iff.mpr (by omega) | exact vp_in_nI (by omega) (by omega) | exact ⟨by omega, by omega⟩), by rw [ht]; exact hP9, va_K.moved hW.alike hK9, hD9⟩, hS.F ht⟩) hS.2.2 dX7_takeWord_15
    · exact absurd c_4 (by decide)
set_option maxHeartbeats 4000000 in
set_option maxRecDepth 100000 in
theorem c7_miss (l : Launch) (dC : Nat → ClassId) (dI : Nat → Nat → Nat) (n0 : Nat) (atx : Nat → Nat × Nat) (sz : Nat) (rd : Nat) (rd_tape : Nat) (fd1 : Int32) (fa1 : Int32) (fp1 : Int32) (bk : Nat) (rd_names : Nat) (rd_nameKind : Nat) (rd_nameNumber : Nat) (nm : Nat) (rd_knotNames : Nat) (en : Nat) (at1 : Nat) (tk1 : Int32) (ts1 : Int32) (tv1 : Int64) (ny : Int32) (hnz : ¬ ny = 0) : Met l yX7_miss (wM yX7_miss cX7_miss 2 (some .boolean)) ({ frames := 0, cells := 0, slots := 0, locals := 0 }) (va_Pc [.ref rd, .int ny] (fun U => U.heap.size = sz ∧ n0 ≤ sz ∧ GW n0 atx U ∧ va_P (dC, dI) classes [(rd, .inr (7, [.ref rd_tape, .int fd1, .int fa1, .int fp1, .ref bk, .ref rd_names, .ref rd_nameKind, .ref rd_nameNumber, .int (nI nm), .ref rd_knotNames, .int (nI en), .int (nI at1), .int tk1, .int ts1, .long tv1]))] U.heap ∧ va_K (dC, dI) classes [] U ∧ va_D (fun q => n0 ≤ q) [(rd, .inr (7, [.ref rd_tape, .int fd1, .int fa1, .int fp1, .ref bk, .ref rd_names, .ref rd_nameKind, .ref rd_nameNumber, .int (nI nm), .ref rd_knotNames, .int (nI en), .int (nI at1), .int tk1, .int ts1, .long tv1]))])) (va_Qi (fun (r : Int32) (_ : Unit) => r = 0) (fun (_ : Unit) (t : State) => ∃ (fa9 : Int32), ∃ (fp9 : Int32), (¬ fa9 = 0) ∧ va_P (dC, dI) classes [(rd, .inr (7, [.ref rd_tape, .int fd1, .int fa9, .int fp9, .ref bk, .ref rd_names, .ref rd_nameKind, .ref rd_nameNumber, .int (nI nm), .ref rd_knotNames, .int (nI en), .int (nI at1), .int tk1, .int ts1, .long tv1]))] t.heap ∧ va_K (dC, dI) classes [] t ∧ va_D (va_A [(rd, .inr (7, [.ref rd_tape, .int fd1, .int fa1, .int fp1, .ref bk, .ref rd_names, .ref rd_nameKind, .ref rd_nameNumber, .int (nI nm), .ref rd_knotNames, .int (nI en), .int (nI at1), .int tk1, .int ts1, .long tv1]))] sz) [(rd, .inr (7, [.ref rd_tape, .int fd1, .int fa9, .int fp9, .ref bk, .ref rd_names, .ref rd_nameKind, .ref rd_nameNumber, .int (nI nm), .ref rd_knotNames, .int (nI en), .int (nI at1), .int tk1, .int ts1, .long tv1]))]) (va_A [(rd, .inr (7, [.ref rd_tape, .int fd1, .int fa1, .int fp1, .ref bk, .ref rd_names, .ref rd_nameKind, .ref rd_nameNumber, .int (nI nm), .ref rd_knotNames, .int (nI en), .int (nI at1), .int tk1, .int ts1, .long tv1]))] sz)) 0 0 (va_A [(rd, .inr (7, [.ref rd_tape, .int fd1, .int fa1, .int fp1, .ref bk, .ref rd_names, .ref rd_nameKind, .ref rd_nameNumber, .int (nI nm), .ref rd_knotNames, .int (nI en), .int (nI at1), .int tk1, .int ts1, .long tv1]))] sz) := by
  refine Met.ofW (cc := cX7_miss) (maxL := 2) (ret := (some .boolean)) (by decide) rfl ?_
  intro p e s m args below meth c s₁ B hml hv
  obtain ⟨rfl, hsz, hn0, hG, hP, hK, hD0⟩ := hv
  have hx := B.exec
  have hb := B.bytes
  have hr := B.returns
  have hts := atoms_spec (ws := wM yX7_miss cX7_miss 2 (some .boolean)) B.pre
  have hown : s.vm.findClass RX7 = some m.cls := findClass_of_methodNamed B.named
  have hlocks := B.notSynchronized
  subst hsz
  have hD := hD0.self (sz := s.heap.size)
  have hA0 := vA_n0 hD0 hn0
  generalize hAe : va_A [(rd, .inr (7, [.ref rd_tape, .int fd1, .int fa1, .int fp1, .ref bk, .ref rd_names, .ref rd_nameKind, .ref rd_nameNumber, .int (nI nm), .ref rd_knotNames, .int (nI en), .int (nI at1), .int tk1, .int ts1, .long tv1]))] s.heap.size = A at hD hA0 ⊢
  have hA : ∀ q : Nat, s.heap.size ≤ q → A q := fun q h => by rw [← hAe]; exact Or.inr h
  have hS : va_S A s.heap s.heap [] := va_S.rf
  have hl := lv_entry ([.ref rd, .int ny]) (n := 2) (Nat.le_of_ble_eq_true rfl)
  rw [lg_entry_eq]
  generalize (lg_sl ([.ref rd, .int ny]) ++ List.replicate (2 - (lg_sl ([.ref rd, .int ny])).length) Slot.unset).toArray = ls at hl ⊢
  have hl : lv_has ls 2 [(0, .ref rd), (1, .int ny)] := hl
  refine lv_aload_n hx hb dX7_miss_0 rfl (lv_at hl 0 rfl) ?_
  refine va_get (D := (dC, dI)) (ci := 7) (v := .int fa1) (C := RX7) (T := TX7) (N := 15) hx hb hts (fun w h => wM_c (iX7 w h)) hown hK hP 0 rfl rfl 2 (by decide) (hts _ (wM_c wd_337)) (fun _ h9 => h9) rfl dX7_miss_1 ?_
  refine lv_if_ne (tgt := 20) hx hb dX7_miss_4 (by decide) (fun c_1 => ?_) (fun c_1 => ?_)
  · skip
    have g_2 : fa1.toInt ≠ (0 : Int) := i_ne c_1
    refine lv_iconst (v := 0) hx hb dX7_miss_20 (by decide) ?_
    have hP9 := hP.sub (ws' := [(rd, .inr (7, [.ref rd_tape, .int fd1, .int fa1, .int fp1, .ref bk, .ref rd_names, .ref rd_nameKind, .ref rd_nameNumber, .int (nI nm), .ref rd_knotNames, .int (nI en), .int (nI at1), .int tk1, .int ts1, .long tv1]))]) [0] rfl
    have hD9 := hD.sub (ws' := [(rd, .inr (7, [.ref rd_tape, .int fd1, .int fa1, .int fp1, .ref bk, .ref rd_names, .ref rd_nameKind, .ref rd_nameNumber, .int (nI nm), .ref rd_knotNames, .int (nI en), .int (nI at1), .int tk1, .int ts1, .long tv1]))]) [0] (by decide) rfl
    have hK9 := hK.sub (tys' := []) [] rfl
    exact W.zret (v := 0) hx hb hr rfl (fun t ht hW => ⟨⟨0, (), rfl, rfl, fa1, fp1, c_1, by rw [ht]; exact hP9, va_K.moved hW.alike hK9, hD9⟩, hS.F ht⟩) hS.2.2 dX7_miss_21
  · skip
    have g_3 : fa1.toInt = (0 : Int) := i_eq c_1
    refine lv_aload_n hx hb dX7_miss_7 rfl (lv_at hl 0 rfl) ?_
    refine lv_iload_n hx hb dX7_miss_8 rfl (lv_at hl 1 rfl) ?_
    refine va_put (D := (dC, dI)) (ci := 7) (v := .int ny) (ty := .int) (C := RX7) (T := TX7) (N := 15) hx hb hts (fun w h => wM_c (iX7 w h)) tyX7 tyX7_ok nmX7 hown hK hP hD hS 0 rfl rfl 2 (by decide) (hts _ (wM_c wd_337)) (fun _ h9 => h9) rfl (by decide +kernel) rfl rfl (Nat.le_of_ble_eq_true rfl) dX7_miss_9 (fun H locs hP hD hS => ?_)
    have hP : va_P (dC, dI) classes [(rd, .inr (7, [.ref rd_tape, .int fd1, .int ny, .int fp1, .ref bk, .ref rd_names, .ref rd_nameKind, .ref rd_nameNumber, .int (nI nm), .ref rd_knotNames, .int (nI en), .int (nI at1), .int tk1, .int ts1, .long tv1]))] H := hP
    have hD : va_D A [(rd, .inr (7, [.ref rd_tape, .int fd1, .int ny, .int fp1, .ref bk, .ref rd_names, .ref rd_nameKind, .ref rd_nameNumber, .int (nI nm), .ref rd_knotNames, .int (nI en), .int (nI at1), .int tk1, .int ts1, .long tv1]))] := hD
    refine lv_aload_n hx hb dX7_miss_12 rfl (lv_at hl 0 rfl) ?_
    refine lv_aload_n hx hb dX7_miss_13 rfl (lv_at hl 0 rfl) ?_
    refine va_get (D := (dC, dI)) (ci := 7) (v := .int ts1) (C := RX7) (T := TX7) (N := 15) hx hb hts (fun w h => wM_c (iX7 w h)) hown hK hP 0 rfl rfl 13 (by decide) (hts _ (wM_c wd_349)) (fun _ h9 => h9) rfl dX7_miss_14 ?_
    refine va_put (D := (dC, dI)) (ci := 7) (v := .int ts1) (ty := .int) (C := RX7) (T := TX7) (N := 15) hx hb hts (fun w h => wM_c (iX7 w h)) tyX7 tyX7_ok nmX7 hown hK hP hD hS 0 rfl rfl 3 (by decide) (hts _ (wM_c wd_338)) (fun _ h9 => h9) rfl (by decide +kernel) rfl rfl (Nat.le_of_ble_eq_true rfl) dX7_miss_17 (fun H locs hP hD hS => ?_)
    have hP : va_P (dC, dI) classes [(rd, .inr (7, [.ref rd_tape, .int fd1, .int ny, .int ts1, .ref bk, .ref rd_names, .ref rd_nameKind, .ref rd_nameNumber, .int (nI nm), .ref rd_knotNames, .int (nI en), .int (nI at1), .int tk1, .int ts1, .long tv1]))] H := hP
    have hD : va_D A [(rd, .inr (7, [.ref rd_tape, .int fd1, .int ny, .int ts1, .ref bk, .ref rd_names, .ref rd_nameKind, .ref rd_nameNumber, .int (nI nm), .ref rd_knotNames, .int (nI en), .int (nI at1), .int tk1, .int ts1, .long tv1]))] := hD
    refine lv_iconst (v := 0) hx hb dX7_miss_20 (by decide) ?_
    have hP9 := hP.sub (ws' := [(rd, .inr (7, [.ref rd_tape, .int fd1, .int ny, .int ts1, .ref bk, .ref rd_names, .ref rd_nameKind, .ref rd_nameNumber, .int (nI nm), .ref rd_knotNames, .int (nI en), .int (nI at1), .int tk1, .int ts1, .long tv1]))]) [0] rfl
    have hD9 := hD.sub (ws' := [(rd, .inr (7, [.ref rd_tape, .int fd1, .int ny, .int ts1, .ref bk, .ref rd_names, .ref rd_nameKind, .ref rd_nameNumber, .int (nI nm), .ref rd_knotNames, .int (nI en), .int (nI at1), .int tk1, .int ts1, .long tv1]))]) [0] (by decide) rfl
    have hK9 := hK.sub (tys' := []) [] rfl
    exact W.zret (v := 0) hx hb hr rfl (fun t ht hW => ⟨⟨0, (), rfl, rfl, ny, ts1, hnz, by rw [ht]; exact hP9, va_K.moved hW.alike hK9, hD9⟩, hS.F ht⟩) hS.2.2 dX7_miss_21
set_option maxHeartbeats 4000000 in
set_option maxRecDepth 100000 in
theorem c7_nameIndex (l : Launch) (dC : Nat → ClassId) (dI : Nat → Nat → Nat) (n0 : Nat) (atx : Nat → Nat × Nat) (sz : Nat) (rd : Nat) (rd_tape : Nat) (fd1 : Int32) (fa1 : Int32) (fp1 : Int32) (bk : Nat) (rd_names : Nat) (rd_nameKind : Nat) (rd_nameNumber : Nat) (nm : Nat) (rd_knotNames : Nat) (en : Nat) (at1 : Nat) (tk1 : Int32) (ts1 : Int32) (tv1 : Int64) (k_rd_names : ClassId) (f_rd_names : Nat → Int64) (hcnt : nm ≤ 28) : Met l yX7_nameIndex (wM yX7_nameIndex cX7_nameIndex 2 (some .int)) ({ frames := 0, cells := 0, slots := 0, locals := 0 }) (va_Pc [.ref rd] (fun U => U.heap.size = sz ∧ n0 ≤ sz ∧ GW n0 atx U ∧ va_P (dC, dI) classes [(rd, .inr (7, [.ref rd_tape, .int fd1, .int fa1, .int fp1, .ref bk, .ref rd_names, .ref rd_nameKind, .ref rd_nameNumber, .int (nI nm), .ref rd_knotNames, .int (nI en), .int (nI at1), .int tk1, .int ts1, .long tv1])), (rd_names, .inl (k_rd_names, 28, .inr (.inl f_rd_names)))] U.heap ∧ va_K (dC, dI) classes [(k_rd_names, .long)] U ∧ va_D (fun q => n0 ≤ q) [(rd, .inr (7, [.ref rd_tape, .int fd1, .int fa1, .int fp1, .ref bk, .ref rd_names, .ref rd_nameKind, .ref rd_nameNumber, .int (nI nm), .ref rd_knotNames, .int (nI en), .int (nI at1), .int tk1, .int ts1, .long tv1])), (rd_names, .inl (k_rd_names, 28, .inr (.inl f_rd_names)))])) (va_Qi (fun (r : Int32) (_ : Unit) => (∃ k : Nat, k < nm ∧ r = nI k) ∨ r = -1) (fun (_ : Unit) (t : State) => va_P (dC, dI) classes [(rd, .inr (7, [.ref rd_tape, .int fd1, .int fa1, .int fp1, .ref bk, .ref rd_names, .ref rd_nameKind, .ref rd_nameNumber, .int (nI nm), .ref rd_knotNames, .int (nI en), .int (nI at1), .int tk1, .int ts1, .long tv1])), (rd_names, .inl (k_rd_names, 28, .inr (.inl f_rd_names)))] t.heap ∧ va_K (dC, dI) classes [(k_rd_names, .long)] t ∧ va_D (va_A [(rd, .inr (7, [.ref rd_tape, .int fd1, .int fa1, .int fp1, .ref bk, .ref rd_names, .ref rd_nameKind, .ref rd_nameNumber, .int (nI nm), .ref rd_knotNames, .int (nI en), .int (nI at1), .int tk1, .int ts1, .long tv1])), (rd_names, .inl (k_rd_names, 28, .inr (.inl f_rd_names)))] sz) [(rd, .inr (7, [.ref rd_tape, .int fd1, .int fa1, .int fp1, .ref bk, .ref rd_names, .ref rd_nameKind, .ref rd_nameNumber, .int (nI nm), .ref rd_knotNames, .int (nI en), .int (nI at1), .int tk1, .int ts1, .long tv1])), (rd_names, .inl (k_rd_names, 28, .inr (.inl f_rd_names)))]) (va_A [(rd, .inr (7, [.ref rd_tape, .int fd1, .int fa1, .int fp1, .ref bk, .ref rd_names, .ref rd_nameKind, .ref rd_nameNumber, .int (nI nm), .ref rd_knotNames, .int (nI en), .int (nI at1), .int tk1, .int ts1, .long tv1])), (rd_names, .inl (k_rd_names, 28, .inr (.inl f_rd_names)))] sz)) 0 0 (va_A [(rd, .inr (7, [.ref rd_tape, .int fd1, .int fa1, .int fp1, .ref bk, .ref rd_names, .ref rd_nameKind, .ref rd_nameNumber, .int (nI nm), .ref rd_knotNames, .int (nI en), .int (nI at1), .int tk1, .int ts1, .long tv1])), (rd_names, .inl (k_rd_names, 28, .inr (.inl f_rd_names)))] sz) := by
  refine Met.ofW (cc := cX7_nameIndex) (maxL := 2) (ret := (some .int)) (by decide) rfl ?_
  intro p e s m args below meth c s₁ B hml hv
  obtain ⟨rfl, hsz, hn0, hG, hP, hK, hD0⟩ := hv
  have hx := B.exec
  have hb := B.bytes
  have hr := B.returns
  have hts := atoms_spec (ws := wM yX7_nameIndex cX7_nameIndex 2 (some .int)) B.pre
  have hown : s.vm.findClass RX7 = some m.cls := findClass_of_methodNamed B.named
  have hlocks := B.notSynchronized
  subst hsz
  have hD := hD0.self (sz := s.heap.size)
  have hA0 := vA_n0 hD0 hn0
  generalize hAe : va_A [(rd, .inr (7, [.ref rd_tape, .int fd1, .int fa1, .int fp1, .ref bk, .ref rd_names, .ref rd_nameKind, .ref rd_nameNumber, .int (nI nm), .ref rd_knotNames, .int (nI en), .int (nI at1), .int tk1, .int ts1, .long tv1])), (rd_names, .inl (k_rd_names, 28, .inr (.inl f_rd_names)))] s.heap.size = A at hD hA0 ⊢
  have hA : ∀ q : Nat, s.heap.size ≤ q → A q := fun q h => by rw [← hAe]; exact Or.inr h
  have hS : va_S A s.heap s.heap [] := va_S.rf
  have hl := lv_entry ([.ref rd]) (n := 2) (Nat.le_of_ble_eq_true rfl)
  rw [lg_entry_eq]
  generalize (lg_sl ([.ref rd]) ++ List.replicate (2 - (lg_sl ([.ref rd])).length) Slot.unset).toArray = ls at hl ⊢
  have hl : lv_has ls 2 [(0, .ref rd)] := hl
  refine lv_iconst (v := 0) hx hb dX7_nameIndex_0 (by decide) ?_
  refine lv_istore_n (lv' := [(1, .int 0), (0, .ref rd)]) hx hb dX7_nameIndex_1 rfl hl (by decide) rfl (fun ls hl => ?_)
  refine W_lp1 (I := fun (i : Nat) H locs ls => (i ≤ nm) ∧ va_P (dC, dI) classes [(rd, .inr (7, [.ref rd_tape, .int fd1, .int fa1, .int fp1, .ref bk, .ref rd_names, .ref rd_nameKind, .ref rd_nameNumber, .int (nI nm), .ref rd_knotNames, .int (nI en), .int (nI at1), .int tk1, .int ts1, .long tv1])), (rd_names, .inl (k_rd_names, 28, .inr (.inl f_rd_names)))] H ∧ va_D A [(rd, .inr (7, [.ref rd_tape, .int fd1, .int fa1, .int fp1, .ref bk, .ref rd_names, .ref rd_nameKind, .ref rd_nameNumber, .int (nI nm), .ref rd_knotNames, .int (nI en), .int (nI at1), .int tk1, .int ts1, .long tv1])), (rd_names, .inl (k_rd_names, 28, .inr (.inl f_rd_names)))] ∧ va_S A s.heap H locs ∧ lv_has ls 2 [(0, .ref rd), (1, .int (nI i))]) (μ := fun (i : Nat) => nm - i) ?_ 0 _ _ _ ⟨(by first | with_reducible assumption | omega | exact vp_in_iff.mpr (by omega) | exact vp_in_nI (by omega) (by omega) | exact ⟨by omega, by omega⟩), hP, hD, hS, lv_sub hl [1, 0] rfl⟩
  intro i H locs ls hI ih_1
  obtain ⟨hi, hP, hD, hS, hl⟩ := hI
  refine lv_iload_n hx hb dX7_nameIndex_2 rfl (lv_at hl 1 rfl) ?_
  refine lv_aload_n hx hb dX7_nameIndex_3 rfl (lv_at hl 0 rfl) ?_
  refine va_get (D := (dC, dI)) (ci := 7) (v := .int (nI nm)) (C := RX7) (T := TX7) (N := 15) hx hb hts (fun w h => wM_c (iX7 w h)) hown hK hP 0 rfl rfl 8 (by decide) (hts _ (wM_c wd_344)) (fun _ h9 => h9) rfl dX7_nameIndex_4 ?_
  refine lv_icmp_ge (tgt := 32) hx hb dX7_nameIndex_7 (by decide) (fun c_2 => ?_) (fun c_2 => ?_)
  · skip
    have g_3 := n_ge (a := i) (b := nm) c_2 (by omega) (by omega)
    refine lv_iconst (v := (-1)) hx hb dX7_nameIndex_32 (by decide) ?_
    have hP9 := hP.sub (ws' := [(rd, .inr (7, [.ref rd_tape, .int fd1, .int fa1, .int fp1, .ref bk, .ref rd_names, .ref rd_nameKind, .ref rd_nameNumber, .int (nI nm), .ref rd_knotNames, .int (nI en), .int (nI at1), .int tk1, .int ts1, .long tv1])), (rd_names, .inl (k_rd_names, 28, .inr (.inl f_rd_names)))]) [0, 1] rfl
    have hD9 := hD.sub (ws' := [(rd, .inr (7, [.ref rd_tape, .int fd1, .int fa1, .int fp1, .ref bk, .ref rd_names, .ref rd_nameKind, .ref rd_nameNumber, .int (nI nm), .ref rd_knotNames, .int (nI en), .int (nI at1), .int tk1, .int ts1, .long tv1])), (rd_names, .inl (k_rd_names, 28, .inr (.inl f_rd_names)))]) [0, 1] (by decide) rfl
    have hK9 := hK.sub (tys' := [(k_rd_names, .long)]) [0] rfl
    exact W.iret (v := (-1)) hx hb hr (fun t ht hW => ⟨⟨(-1), (), rfl, (Or.inr rfl), by rw [ht]; exact hP9, va_K.moved hW.alike hK9, hD9⟩, hS.F ht⟩) hS.2.2 dX7_nameIndex_33
  · skip
    have g_4 := n_nge (a := i) (b := nm) c_2 (by omega) (by omega)
    refine lv_aload_n hx hb dX7_nameIndex_10 rfl (lv_at hl 0 rfl) ?_
    refine va_get (D := (dC, dI)) (ci := 7) (v := .ref rd_names) (C := RX7) (T := TX7) (N := 15) hx hb hts (fun w h => wM_c (iX7 w h)) hown hK hP 0 rfl rfl 5 (by decide) (hts _ (wM_c wd_341)) (fun _ h9 => h9) rfl dX7_nameIndex_11 ?_
    refine lv_iload_n hx hb dX7_nameIndex_14 rfl (lv_at hl 1 rfl) ?_
    refine va_lald hx hb hK hP 1 0 rfl rfl (vp_in_nI (n := i) (by omega) (by omega)) dX7_nameIndex_15 ?_
    refine lv_topl (fun v_5 ev_5 => ?_)
    have nv_5 : v_5 = f_rd_names i := by rw [ev_5]; exact congrArg _ (nI_clamp (by omega))
    refine lv_aload_n hx hb dX7_nameIndex_16 rfl (lv_at hl 0 rfl) ?_
    refine va_get (D := (dC, dI)) (ci := 7) (v := .long tv1) (C := RX7) (T := TX7) (N := 15) hx hb hts (fun w h => wM_c (iX7 w h)) hown hK hP 0 rfl rfl 14 (by decide) (hts _ (wM_c wd_350)) (fun _ h9 => h9) rfl dX7_nameIndex_17 ?_
    refine W.lcmp hx hb dX7_nameIndex_20 ?_
    refine lv_topi (fun v_6 ev_6 => ?_)
    refine lv_if_ne (tgt := 26) hx hb dX7_nameIndex_21 (by decide) (fun c_7 => ?_) (fun c_7 => ?_)
    · skip
      have g_8 : ¬ v_5 = tv1 := fun q9 => c_7 (by rw [ev_6]; exact (lg_cmp_eq v_5 tv1).mpr q9)
      refine lv_iinc (v := (nI (i + 1))) (lv' := [(1, .int (nI (i + 1))), (0, .ref rd)]) hx hb dX7_nameIndex_26 hl (k := 1) rfl (nI_add _ 1) (by decide) rfl (fun ls hl => ?_)
      refine lv_goto (tgt := 2) hx hb dX7_nameIndex_29 (by decide) ?_
      exact ih_1 (i + 1) _ _ _ ⟨(by first | with_reducible assumption | omega | exact vp_in_iff.mpr (by omega) | exact vp_in_nI (by omega) (by omega) | exact ⟨by omega, by omega⟩), hP.sub [0, 1] rfl, hD.sub [0, 1] (by decide) rfl, hS, lv_sub hl [1, 0] rfl⟩ (by omega)
    · skip
      have g_9 : v_5 = tv1 := (lg_cmp_eq v_5 tv1).mp (by rw [← ev_6]; exact c_7)
      refine lv_iload_n hx hb dX7_nameIndex_24 rfl (lv_at hl 1 rfl) ?_
      have hP9 := hP.sub (ws' := [(rd, .inr (7, [.ref rd_tape, .int fd1, .int fa1, .int fp1, .ref bk, .ref rd_names, .ref rd_nameKind, .ref rd_nameNumber, .int (nI nm), .ref rd_knotNames, .int (nI en), .int (nI at1), .int tk1, .int ts1, .long tv1])), (rd_names, .inl (k_rd_names, 28, .inr (.inl f_rd_names)))]) [0, 1] rfl
      have hD9 := hD.sub (ws' := [(rd, .inr (7, [.ref rd_tape, .int fd1, .int fa1, .int fp1, .ref bk, .ref rd_names, .ref rd_nameKind, .ref rd_nameNumber, .int (nI nm), .ref rd_knotNames, .int (nI en), .int (nI at1), .int tk1, .int ts1, .long tv1])), (rd_names, .inl (k_rd_names, 28, .inr (.inl f_rd_names)))]) [0, 1] (by decide) rfl
      have hK9 := hK.sub (tys' := [(k_rd_names, .long)]) [0] rfl
      exact W.iret (v := (nI i)) hx hb hr (fun t ht hW => ⟨⟨(nI i), (), rfl, (Or.inl ⟨i, by omega, rfl⟩), by rw [ht]; exact hP9, va_K.moved hW.alike hK9, hD9⟩, hS.F ht⟩) hS.2.2 dX7_nameIndex_25
set_option maxHeartbeats 4000000 in
set_option maxRecDepth 100000 in
theorem c7_knotNumber (l : Launch) (dC : Nat → ClassId) (dI : Nat → Nat → Nat) (n0 : Nat) (atx : Nat → Nat × Nat) (sz : Nat) (rd : Nat) (rd_tape : Nat) (fd1 : Int32) (fa1 : Int32) (fp1 : Int32) (bk : Nat) (rd_names : Nat) (rd_nameKind : Nat) (rd_nameNumber : Nat) (nm : Nat) (rd_knotNames : Nat) (en : Nat) (at1 : Nat) (tk1 : Int32) (ts1 : Int32) (tv1 : Int64) (bw : Nat) (bk_tail : Nat) (bk_head : Nat) (bk_hinder : Nat) (bk_size : Nat) (bk_walk : Nat) (bk_draught : Nat) (bk_doorIn : Nat) (bk_fanIn : Nat) (bk_faceIn : Nat) (bn : Nat) (bk_day : Int32) (gr : Nat) (k_rd_knotNames : ClassId) (f_rd_knotNames : Nat → Int64) (hbw : bw ≤ 14) (hbn : bn ≤ 10) (q_day : -1 ≤ bk_day.toInt ∧ bk_day.toInt < 10) (hcnt : bn ≤ 10) : Met l yX7_knotNumber (wM yX7_knotNumber cX7_knotNumber 2 (some .int)) ({ frames := 0, cells := 0, slots := 0, locals := 0 }) (va_Pc [.ref rd] (fun U => U.heap.size = sz ∧ n0 ≤ sz ∧ GW n0 atx U ∧ va_P (dC, dI) classes [(rd, .inr (7, [.ref rd_tape, .int fd1, .int fa1, .int fp1, .ref bk, .ref rd_names, .ref rd_nameKind, .ref rd_nameNumber, .int (nI nm), .ref rd_knotNames, .int (nI en), .int (nI at1), .int tk1, .int ts1, .long tv1])), (bk, .inr (0, [.int (nI bw), .ref bk_tail, .ref bk_head, .ref bk_hinder, .ref bk_size, .ref bk_walk, .ref bk_draught, .ref bk_doorIn, .ref bk_fanIn, .ref bk_faceIn, .int (nI bn), .int bk_day, .ref gr])), (rd_knotNames, .inl (k_rd_knotNames, 10, .inr (.inl f_rd_knotNames)))] U.heap ∧ va_K (dC, dI) classes [(k_rd_knotNames, .long)] U ∧ va_D (fun q => n0 ≤ q) [(rd, .inr (7, [.ref rd_tape, .int fd1, .int fa1, .int fp1, .ref bk, .ref rd_names, .ref rd_nameKind, .ref rd_nameNumber, .int (nI nm), .ref rd_knotNames, .int (nI en), .int (nI at1), .int tk1, .int ts1, .long tv1])), (bk, .inr (0, [.int (nI bw), .ref bk_tail, .ref bk_head, .ref bk_hinder, .ref bk_size, .ref bk_walk, .ref bk_draught, .ref bk_doorIn, .ref bk_fanIn, .ref bk_faceIn, .int (nI bn), .int bk_day, .ref gr])), (rd_knotNames, .inl (k_rd_knotNames, 10, .inr (.inl f_rd_knotNames)))])) (va_Qi (fun (r : Int32) (_ : Unit) => (∃ k : Nat, k < bn ∧ r = nI k) ∨ r = -1) (fun (_ : Unit) (t : State) => va_P (dC, dI) classes [(rd, .inr (7, [.ref rd_tape, .int fd1, .int fa1, .int fp1, .ref bk, .ref rd_names, .ref rd_nameKind, .ref rd_nameNumber, .int (nI nm), .ref rd_knotNames, .int (nI en), .int (nI at1), .int tk1, .int ts1, .long tv1])), (bk, .inr (0, [.int (nI bw), .ref bk_tail, .ref bk_head, .ref bk_hinder, .ref bk_size, .ref bk_walk, .ref bk_draught, .ref bk_doorIn, .ref bk_fanIn, .ref bk_faceIn, .int (nI bn), .int bk_day, .ref gr])), (rd_knotNames, .inl (k_rd_knotNames, 10, .inr (.inl f_rd_knotNames)))] t.heap ∧ va_K (dC, dI) classes [(k_rd_knotNames, .long)] t ∧ va_D (va_A [(rd, .inr (7, [.ref rd_tape, .int fd1, .int fa1, .int fp1, .ref bk, .ref rd_names, .ref rd_nameKind, .ref rd_nameNumber, .int (nI nm), .ref rd_knotNames, .int (nI en), .int (nI at1), .int tk1, .int ts1, .long tv1])), (bk, .inr (0, [.int (nI bw), .ref bk_tail, .ref bk_head, .ref bk_hinder, .ref bk_size, .ref bk_walk, .ref bk_draught, .ref bk_doorIn, .ref bk_fanIn, .ref bk_faceIn, .int (nI bn), .int bk_day, .ref gr])), (rd_knotNames, .inl (k_rd_knotNames, 10, .inr (.inl f_rd_knotNames)))] sz) [(rd, .inr (7, [.ref rd_tape, .int fd1, .int fa1, .int fp1, .ref bk, .ref rd_names, .ref rd_nameKind, .ref rd_nameNumber, .int (nI nm), .ref rd_knotNames, .int (nI en), .int (nI at1), .int tk1, .int ts1, .long tv1])), (bk, .inr (0, [.int (nI bw), .ref bk_tail, .ref bk_head, .ref bk_hinder, .ref bk_size, .ref bk_walk, .ref bk_draught, .ref bk_doorIn, .ref bk_fanIn, .ref bk_faceIn, .int (nI bn), .int bk_day, .ref gr])), (rd_knotNames, .inl (k_rd_knotNames, 10, .inr (.inl f_rd_knotNames)))]) (va_A [(rd, .inr (7, [.ref rd_tape, .int fd1, .int fa1, .int fp1, .ref bk, .ref rd_names, .ref rd_nameKind, .ref rd_nameNumber, .int (nI nm), .ref rd_knotNames, .int (nI en), .int (nI at1), .int tk1, .int ts1, .long tv1])), (bk, .inr (0, [.int (nI bw), .ref bk_tail, .ref bk_head, .ref bk_hinder, .ref bk_size, .ref bk_walk, .ref bk_draught, .ref bk_doorIn, .ref bk_fanIn, .ref bk_faceIn, .int (nI bn), .int bk_day, .ref gr])), (rd_knotNames, .inl (k_rd_knotNames, 10, .inr (.inl f_rd_knotNames)))] sz)) 0 0 (va_A [(rd, .inr (7, [.ref rd_tape, .int fd1, .int fa1, .int fp1, .ref bk, .ref rd_names, .ref rd_nameKind, .ref rd_nameNumber, .int (nI nm), .ref rd_knotNames, .int (nI en), .int (nI at1), .int tk1, .int ts1, .long tv1])), (bk, .inr (0, [.int (nI bw), .ref bk_tail, .ref bk_head, .ref bk_hinder, .ref bk_size, .ref bk_walk, .ref bk_draught, .ref bk_doorIn, .ref bk_fanIn, .ref bk_faceIn, .int (nI bn), .int bk_day, .ref gr])), (rd_knotNames, .inl (k_rd_knotNames, 10, .inr (.inl f_rd_knotNames)))] sz) := by
  refine Met.ofW (cc := cX7_knotNumber) (maxL := 2) (ret := (some .int)) (by decide) rfl ?_
  intro p e s m args below meth c s₁ B hml hv
  obtain ⟨rfl, hsz, hn0, hG, hP, hK, hD0⟩ := hv
  have hx := B.exec
  have hb := B.bytes
  have hr := B.returns
  have hts := atoms_spec (ws := wM yX7_knotNumber cX7_knotNumber 2 (some .int)) B.pre
  have hown : s.vm.findClass RX7 = some m.cls := findClass_of_methodNamed B.named
  have hlocks := B.notSynchronized
  subst hsz
  have hD := hD0.self (sz := s.heap.size)
  have hA0 := vA_n0 hD0 hn0
  generalize hAe : va_A [(rd, .inr (7, [.ref rd_tape, .int fd1, .int fa1, .int fp1, .ref bk, .ref rd_names, .ref rd_nameKind, .ref rd_nameNumber, .int (nI nm), .ref rd_knotNames, .int (nI en), .int (nI at1), .int tk1, .int ts1, .long tv1])), (bk, .inr (0, [.int (nI bw), .ref bk_tail, .ref bk_head, .ref bk_hinder, .ref bk_size, .ref bk_walk, .ref bk_draught, .ref bk_doorIn, .ref bk_fanIn, .ref bk_faceIn, .int (nI bn), .int bk_day, .ref gr])), (rd_knotNames, .inl (k_rd_knotNames, 10, .inr (.inl f_rd_knotNames)))] s.heap.size = A at hD hA0 ⊢
  have hA : ∀ q : Nat, s.heap.size ≤ q → A q := fun q h => by rw [← hAe]; exact Or.inr h
  have hS : va_S A s.heap s.heap [] := va_S.rf
  have hl := lv_entry ([.ref rd]) (n := 2) (Nat.le_of_ble_eq_true rfl)
  rw [lg_entry_eq]
  generalize (lg_sl ([.ref rd]) ++ List.replicate (2 - (lg_sl ([.ref rd])).length) Slot.unset).toArray = ls at hl ⊢
  have hl : lv_has ls 2 [(0, .ref rd)] := hl
  refine lv_iconst (v := 0) hx hb dX7_knotNumber_0 (by decide) ?_
  refine lv_istore_n (lv' := [(1, .int 0), (0, .ref rd)]) hx hb dX7_knotNumber_1 rfl hl (by decide) rfl (fun ls hl => ?_)
  refine W_lp1 (I := fun (i : Nat) H locs ls => (i ≤ bn) ∧ va_P (dC, dI) classes [(rd, .inr (7, [.ref rd_tape, .int fd1, .int fa1, .int fp1, .ref bk, .ref rd_names, .ref rd_nameKind, .ref rd_nameNumber, .int (nI nm), .ref rd_knotNames, .int (nI en), .int (nI at1), .int tk1, .int ts1, .long tv1])), (bk, .inr (0, [.int (nI bw), .ref bk_tail, .ref bk_head, .ref bk_hinder, .ref bk_size, .ref bk_walk, .ref bk_draught, .ref bk_doorIn, .ref bk_fanIn, .ref bk_faceIn, .int (nI bn), .int bk_day, .ref gr])), (rd_knotNames, .inl (k_rd_knotNames, 10, .inr (.inl f_rd_knotNames)))] H ∧ va_D A [(rd, .inr (7, [.ref rd_tape, .int fd1, .int fa1, .int fp1, .ref bk, .ref rd_names, .ref rd_nameKind, .ref rd_nameNumber, .int (nI nm), .ref rd_knotNames, .int (nI en), .int (nI at1), .int tk1, .int ts1, .long tv1])), (bk, .inr (0, [.int (nI bw), .ref bk_tail, .ref bk_head, .ref bk_hinder, .ref bk_size, .ref bk_walk, .ref bk_draught, .ref bk_doorIn, .ref bk_fanIn, .ref bk_faceIn, .int (nI bn), .int bk_day, .ref gr])), (rd_knotNames, .inl (k_rd_knotNames, 10, .inr (.inl f_rd_knotNames)))] ∧ va_S A s.heap H locs ∧ lv_has ls 2 [(0, .ref rd), (1, .int (nI i))]) (μ := fun (i : Nat) => bn - i) ?_ 0 _ _ _ ⟨(by first | with_reducible assumption | omega | exact vp_in_iff.mpr (by omega) | exact vp_in_nI (by omega) (by omega) | exact ⟨by omega, by omega⟩), hP, hD, hS, lv_sub hl [1, 0] rfl⟩
  intro i H locs ls hI ih_1
  obtain ⟨hi, hP, hD, hS, hl⟩ := hI
  refine lv_iload_n hx hb dX7_knotNumber_2 rfl (lv_at hl 1 rfl) ?_
  refine lv_aload_n hx hb dX7_knotNumber_3 rfl (lv_at hl 0 rfl) ?_
  refine va_get (D := (dC, dI)) (ci := 7) (v := .ref bk) (C := RX7) (T := TX7) (N := 15) hx hb hts (fun w h => wM_c (iX7 w h)) hown hK hP 0 rfl rfl 4 (by decide) (hts _ (wM_c wd_340)) (fun _ h9 => h9) rfl dX7_knotNumber_4 ?_
  refine va_get (D := (dC, dI)) (ci := 0) (v := .int (nI bn)) (C := RX0) (T := TX0) (N := 13) hx hb hts (fun w h => wM_c (iX0 w h)) hown hK hP 1 rfl rfl 10 (by decide) (hts _ (wM_c wd_286)) (fun _ h9 => h9) rfl dX7_knotNumber_7 ?_
  refine lv_icmp_ge (tgt := 35) hx hb dX7_knotNumber_10 (by decide) (fun c_2 => ?_) (fun c_2 => ?_)
  · skip
    have g_3 := n_ge (a := i) (b := bn) c_2 (by omega) (by omega)
    refine lv_iconst (v := (-1)) hx hb dX7_knotNumber_35 (by decide) ?_
    have hP9 := hP.sub (ws' := [(rd, .inr (7, [.ref rd_tape, .int fd1, .int fa1, .int fp1, .ref bk, .ref rd_names, .ref rd_nameKind, .ref rd_nameNumber, .int (nI nm), .ref rd_knotNames, .int (nI en), .int (nI at1), .int tk1, .int ts1, .long tv1])), (bk, .inr (0, [.int (nI bw), .ref bk_tail, .ref bk_head, .ref bk_hinder, .ref bk_size, .ref bk_walk, .ref bk_draught, .ref bk_doorIn, .ref bk_fanIn, .ref bk_faceIn, .int (nI bn), .int bk_day, .ref gr])), (rd_knotNames, .inl (k_rd_knotNames, 10, .inr (.inl f_rd_knotNames)))]) [0, 1, 2] rfl
    have hD9 := hD.sub (ws' := [(rd, .inr (7, [.ref rd_tape, .int fd1, .int fa1, .int fp1, .ref bk, .ref rd_names, .ref rd_nameKind, .ref rd_nameNumber, .int (nI nm), .ref rd_knotNames, .int (nI en), .int (nI at1), .int tk1, .int ts1, .long tv1])), (bk, .inr (0, [.int (nI bw), .ref bk_tail, .ref bk_head, .ref bk_hinder, .ref bk_size, .ref bk_walk, .ref bk_draught, .ref bk_doorIn, .ref bk_fanIn, .ref bk_faceIn, .int (nI bn), .int bk_day, .ref gr])), (rd_knotNames, .inl (k_rd_knotNames, 10, .inr (.inl f_rd_knotNames)))]) [0, 1, 2] (by decide) rfl
    have hK9 := hK.sub (tys' := [(k_rd_knotNames, .long)]) [0] rfl
    exact W.iret (v := (-1)) hx hb hr (fun t ht hW => ⟨⟨(-1), (), rfl, (Or.inr rfl), by rw [ht]; exact hP9, va_K.moved hW.alike hK9, hD9⟩, hS.F ht⟩) hS.2.2 dX7_knotNumber_36
  · skip
    have g_4 := n_nge (a := i) (b := bn) c_2 (by omega) (by omega)
    refine lv_aload_n hx hb dX7_knotNumber_13 rfl (lv_at hl 0 rfl) ?_
    refine va_get (D := (dC, dI)) (ci := 7) (v := .ref rd_knotNames) (C := RX7) (T := TX7) (N := 15) hx hb hts (fun w h => wM_c (iX7 w h)) hown hK hP 0 rfl rfl 9 (by decide) (hts _ (wM_c wd_345)) (fun _ h9 => h9) rfl dX7_knotNumber_14 ?_
    refine lv_iload_n hx hb dX7_knotNumber_17 rfl (lv_at hl 1 rfl) ?_
    refine va_lald hx hb hK hP 2 0 rfl rfl (vp_in_nI (n := i) (by omega) (by omega)) dX7_knotNumber_18 ?_
    refine lv_topl (fun v_5 ev_5 => ?_)
    have nv_5 : v_5 = f_rd_knotNames i := by rw [ev_5]; exact congrArg _ (nI_clamp (by omega))
    refine lv_aload_n hx hb dX7_knotNumber_19 rfl (lv_at hl 0 rfl) ?_
    refine va_get (D := (dC, dI)) (ci := 7) (v := .long tv1) (C := RX7) (T := TX7) (N := 15) hx hb hts (fun w h => wM_c (iX7 w h)) hown hK hP 0 rfl rfl 14 (by decide) (hts _ (wM_c wd_350)) (fun _ h9 => h9) rfl dX7_knotNumber_20 ?_
    refine W.lcmp hx hb dX7_knotNumber_23 ?_
    refine lv_topi (fun v_6 ev_6 => ?_)
    refine lv_if_ne (tgt := 29) hx hb dX7_knotNumber_24 (by decide) (fun c_7 => ?_) (fun c_7 => ?_)
    · skip
      have g_8 : ¬ v_5 = tv1 := fun q9 => c_7 (by rw [ev_6]; exact (lg_cmp_eq v_5 tv1).mpr q9)
      refine lv_iinc (v := (nI (i + 1))) (lv' := [(1, .int (nI (i + 1))), (0, .ref rd)]) hx hb dX7_knotNumber_29 hl (k := 1) rfl (nI_add _ 1) (by decide) rfl (fun ls hl => ?_)
      refine lv_goto (tgt := 2) hx hb dX7_knotNumber_32 (by decide) ?_
      exact ih_1 (i + 1) _ _ _ ⟨(by first | with_reducible assumption | omega | exact vp_in_iff.mpr (by omega) | exact vp_in_nI (by omega) (by omega) | exact ⟨by omega, by omega⟩), hP.sub [0, 1, 2] rfl, hD.sub [0, 1, 2] (by decide) rfl, hS, lv_sub hl [1, 0] rfl⟩ (by omega)
    · skip
      have g_9 : v_5 = tv1 := (lg_cmp_eq v_5 tv1).mp (by rw [← ev_6]; exact c_7)
      refine lv_iload_n hx hb dX7_knotNumber_27 rfl (lv_at hl 1 rfl) ?_
      have hP9 := hP.sub (ws' := [(rd, .inr (7, [.ref rd_tape, .int fd1, .int fa1, .int fp1, .ref bk, .ref rd_names, .ref rd_nameKind, .ref rd_nameNumber, .int (nI nm), .ref rd_knotNames, .int (nI en), .int (nI at1), .int tk1, .int ts1, .long tv1])), (bk, .inr (0, [.int (nI bw), .ref bk_tail, .ref bk_head, .ref bk_hinder, .ref bk_size, .ref bk_walk, .ref bk_draught, .ref bk_doorIn, .ref bk_fanIn, .ref bk_faceIn, .int (nI bn), .int bk_day, .ref gr])), (rd_knotNames, .inl (k_rd_knotNames, 10, .inr (.inl f_rd_knotNames)))]) [0, 1, 2] rfl
      have hD9 := hD.sub (ws' := [(rd, .inr (7, [.ref rd_tape, .int fd1, .int fa1, .int fp1, .ref bk, .ref rd_names, .ref rd_nameKind, .ref rd_nameNumber, .int (nI nm), .ref rd_knotNames, .int (nI en), .int (nI at1), .int tk1, .int ts1, .long tv1])), (bk, .inr (0, [.int (nI bw), .ref bk_tail, .ref bk_head, .ref bk_hinder, .ref bk_size, .ref bk_walk, .ref bk_draught, .ref bk_doorIn, .ref bk_fanIn, .ref bk_faceIn, .int (nI bn), .int bk_day, .ref gr])), (rd_knotNames, .inl (k_rd_knotNames, 10, .inr (.inl f_rd_knotNames)))]) [0, 1, 2] (by decide) rfl
      have hK9 := hK.sub (tys' := [(k_rd_knotNames, .long)]) [0] rfl
      exact W.iret (v := (nI i)) hx hb hr (fun t ht hW => ⟨⟨(nI i), (), rfl, (Or.inl ⟨i, by omega, rfl⟩), by rw [ht]; exact hP9, va_K.moved hW.alike hK9, hD9⟩, hS.F ht⟩) hS.2.2 dX7_knotNumber_28
