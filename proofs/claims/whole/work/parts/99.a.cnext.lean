theorem wd_1 : Cond.selects "MineAir$Reader" (⟨"MineAir$Reader", "next", "()V"⟩ : MethodName) (⟨"MineAir$Reader", "next", "()V"⟩ : MethodName) ∈ wG := wG_of 1 (by decide +kernel) (by decide +kernel)
theorem wd_2 : Cond.selects "MineAir$Reader" (⟨"MineAir$Reader", "readWord", "()V"⟩ : MethodName) (⟨"MineAir$Reader", "readWord", "()V"⟩ : MethodName) ∈ wG := wG_of 2 (by decide +kernel) (by decide +kernel)
theorem wd_3 : Cond.selects "MineAir$Reader" (⟨"MineAir$Reader", "readDigits", "()V"⟩ : MethodName) (⟨"MineAir$Reader", "readDigits", "()V"⟩ : MethodName) ∈ wG := wG_of 3 (by decide +kernel) (by decide +kernel)
theorem wd_5 : Cond.selects "MineAir$Reader" (⟨"MineAir$Reader", "isWord", "(Ljava/lang/String;)Z"⟩ : MethodName) (⟨"MineAir$Reader", "isWord", "(Ljava/lang/String;)Z"⟩ : MethodName) ∈ wG := wG_of 5 (by decide +kernel) (by decide +kernel)
theorem wd_117 : Cond.initialized "MineAir$Reader" ∈ wG := wG_of 117 (by decide +kernel) (by decide +kernel)
theorem wd_286 : Cond.fieldLink "MineAir$Reader" 225 "MineAir$Book" "knots" "I" ∈ wG := wG_of 286 (by decide +kernel) (by decide +kernel)
theorem wd_333 : Cond.fieldLink "MineAir$Reader" 9 "MineAir$Reader" "tape" "[I" ∈ wG := wG_of 333 (by decide +kernel) (by decide +kernel)
theorem wd_337 : Cond.fieldLink "MineAir$Reader" 45 "MineAir$Reader" "fault" "I" ∈ wG := wG_of 337 (by decide +kernel) (by decide +kernel)
theorem wd_338 : Cond.fieldLink "MineAir$Reader" 48 "MineAir$Reader" "faultPlace" "I" ∈ wG := wG_of 338 (by decide +kernel) (by decide +kernel)
theorem wd_340 : Cond.fieldLink "MineAir$Reader" 28 "MineAir$Reader" "draft" "LMineAir$Book;" ∈ wG := wG_of 340 (by decide +kernel) (by decide +kernel)
theorem wd_341 : Cond.fieldLink "MineAir$Reader" 15 "MineAir$Reader" "names" "[J" ∈ wG := wG_of 341 (by decide +kernel) (by decide +kernel)
theorem wd_344 : Cond.fieldLink "MineAir$Reader" 42 "MineAir$Reader" "named" "I" ∈ wG := wG_of 344 (by decide +kernel) (by decide +kernel)
theorem wd_345 : Cond.fieldLink "MineAir$Reader" 25 "MineAir$Reader" "knotNames" "[J" ∈ wG := wG_of 345 (by decide +kernel) (by decide +kernel)
theorem wd_346 : Cond.fieldLink "MineAir$Reader" 36 "MineAir$Reader" "end" "I" ∈ wG := wG_of 346 (by decide +kernel) (by decide +kernel)
theorem wd_347 : Cond.fieldLink "MineAir$Reader" 39 "MineAir$Reader" "at" "I" ∈ wG := wG_of 347 (by decide +kernel) (by decide +kernel)
theorem wd_348 : Cond.fieldLink "MineAir$Reader" 92 "MineAir$Reader" "token" "I" ∈ wG := wG_of 348 (by decide +kernel) (by decide +kernel)
theorem wd_349 : Cond.fieldLink "MineAir$Reader" 242 "MineAir$Reader" "tokenStart" "I" ∈ wG := wG_of 349 (by decide +kernel) (by decide +kernel)
theorem wd_350 : Cond.fieldLink "MineAir$Reader" 215 "MineAir$Reader" "tokenValue" "J" ∈ wG := wG_of 350 (by decide +kernel) (by decide +kernel)
theorem wd_732 : Cond.methodLink "MineAir$Reader" 56 (⟨"MineAir$Reader", "next", "()V"⟩ : MethodName) ∈ wG := wG_of 732 (by decide +kernel) (by decide +kernel)
theorem wd_734 : Cond.instanceMethod (⟨"MineAir$Reader", "next", "()V"⟩ : MethodName) ∈ wG := wG_of 734 (by decide +kernel) (by decide +kernel)
theorem wd_735 : Cond.code (⟨"MineAir$Reader", "next", "()V"⟩ : MethodName) prog_9_method_22_code 2 (Option.none : Option Jvm.ClassFile.FieldType) ∈ wG := wG_of 735 (by decide +kernel) (by decide +kernel)
theorem wd_736 : Cond.methodLink "MineAir$Reader" 245 (⟨"MineAir$Reader", "isLetter", "(I)Z"⟩ : MethodName) ∈ wG := wG_of 736 (by decide +kernel) (by decide +kernel)
theorem wd_737 : Cond.static (⟨"MineAir$Reader", "isLetter", "(I)Z"⟩ : MethodName) ∈ wG := wG_of 737 (by decide +kernel) (by decide +kernel)
theorem wd_738 : Cond.code (⟨"MineAir$Reader", "isLetter", "(I)Z"⟩ : MethodName) prog_9_method_25_code 1 (Option.some Jvm.ClassFile.FieldType.boolean) ∈ wG := wG_of 738 (by decide +kernel) (by decide +kernel)
theorem wd_739 : Cond.methodLink "MineAir$Reader" 248 (⟨"MineAir$Reader", "readWord", "()V"⟩ : MethodName) ∈ wG := wG_of 739 (by decide +kernel) (by decide +kernel)
theorem wd_741 : Cond.instanceMethod (⟨"MineAir$Reader", "readWord", "()V"⟩ : MethodName) ∈ wG := wG_of 741 (by decide +kernel) (by decide +kernel)
theorem wd_742 : Cond.code (⟨"MineAir$Reader", "readWord", "()V"⟩ : MethodName) prog_9_method_23_code 2 (Option.none : Option Jvm.ClassFile.FieldType) ∈ wG := wG_of 742 (by decide +kernel) (by decide +kernel)
theorem wd_743 : Cond.methodLink "MineAir$Reader" 251 (⟨"MineAir$Reader", "isDigit", "(I)Z"⟩ : MethodName) ∈ wG := wG_of 743 (by decide +kernel) (by decide +kernel)
theorem wd_744 : Cond.static (⟨"MineAir$Reader", "isDigit", "(I)Z"⟩ : MethodName) ∈ wG := wG_of 744 (by decide +kernel) (by decide +kernel)
theorem wd_745 : Cond.code (⟨"MineAir$Reader", "isDigit", "(I)Z"⟩ : MethodName) prog_9_method_26_code 1 (Option.some Jvm.ClassFile.FieldType.boolean) ∈ wG := wG_of 745 (by decide +kernel) (by decide +kernel)
theorem wd_746 : Cond.methodLink "MineAir$Reader" 254 (⟨"MineAir$Reader", "readDigits", "()V"⟩ : MethodName) ∈ wG := wG_of 746 (by decide +kernel) (by decide +kernel)
theorem wd_748 : Cond.instanceMethod (⟨"MineAir$Reader", "readDigits", "()V"⟩ : MethodName) ∈ wG := wG_of 748 (by decide +kernel) (by decide +kernel)
theorem wd_749 : Cond.code (⟨"MineAir$Reader", "readDigits", "()V"⟩ : MethodName) prog_9_method_24_code 2 (Option.none : Option Jvm.ClassFile.FieldType) ∈ wG := wG_of 749 (by decide +kernel) (by decide +kernel)
theorem wd_750 : Cond.constantLong "MineAir$Reader" 257 10 ∈ wG := wG_of 750 (by decide +kernel) (by decide +kernel)
theorem wd_751 : Cond.constantLong "MineAir$Reader" 259 48 ∈ wG := wG_of 751 (by decide +kernel) (by decide +kernel)
theorem wd_757 : Cond.methodLink "MineAir$Reader" 230 (⟨"MineAir$Reader", "isWord", "(Ljava/lang/String;)Z"⟩ : MethodName) ∈ wG := wG_of 757 (by decide +kernel) (by decide +kernel)
theorem wd_759 : Cond.instanceMethod (⟨"MineAir$Reader", "isWord", "(Ljava/lang/String;)Z"⟩ : MethodName) ∈ wG := wG_of 759 (by decide +kernel) (by decide +kernel)
theorem wd_760 : Cond.code (⟨"MineAir$Reader", "isWord", "(Ljava/lang/String;)Z"⟩ : MethodName) prog_9_method_17_code 2 (Option.some Jvm.ClassFile.FieldType.boolean) ∈ wG := wG_of 760 (by decide +kernel) (by decide +kernel)
theorem wd_761 : Cond.methodLink "MineAir$Reader" 238 (⟨"MineAir$Reader", "codeOf", "(Ljava/lang/String;)J"⟩ : MethodName) ∈ wG := wG_of 761 (by decide +kernel) (by decide +kernel)
theorem wd_762 : Cond.static (⟨"MineAir$Reader", "codeOf", "(Ljava/lang/String;)J"⟩ : MethodName) ∈ wG := wG_of 762 (by decide +kernel) (by decide +kernel)
theorem wd_763 : Cond.code (⟨"MineAir$Reader", "codeOf", "(Ljava/lang/String;)J"⟩ : MethodName) prog_9_method_27_code 4 (Option.some Jvm.ClassFile.FieldType.long) ∈ wG := wG_of 763 (by decide +kernel) (by decide +kernel)
theorem wd_764 : Cond.methodLink "MineAir$Reader" 261 (⟨"java/lang/String", "length", "()I"⟩ : MethodName) ∈ wG := wG_of 764 (by decide +kernel) (by decide +kernel)
theorem wd_774 : Cond.methodLink "MineAir$Reader" 266 (⟨"java/lang/String", "charAt", "(I)C"⟩ : MethodName) ∈ wG := wG_of 774 (by decide +kernel) (by decide +kernel)
theorem dX7_codeOf_0 : decode cX7_codeOf 0 = .ok (.lconst 0, 1) := by decide +kernel
theorem dX7_codeOf_1 : decode cX7_codeOf 1 = .ok (.lstore_n 1, 1) := by decide +kernel
theorem dX7_codeOf_2 : decode cX7_codeOf 2 = .ok (.iconst 0, 1) := by decide +kernel
theorem dX7_codeOf_3 : decode cX7_codeOf 3 = .ok (.istore_n 3, 1) := by decide +kernel
theorem dX7_codeOf_4 : decode cX7_codeOf 4 = .ok (.iload_n 3, 1) := by decide +kernel
theorem dX7_codeOf_5 : decode cX7_codeOf 5 = .ok (.aload_n 0, 1) := by decide +kernel
theorem dX7_codeOf_6 : decode cX7_codeOf 6 = .ok (.invokevirtual 261, 3) := by decide +kernel
theorem dX7_codeOf_9 : decode cX7_codeOf 9 = .ok (.if_icmp .ge 25, 3) := by decide +kernel
theorem dX7_codeOf_12 : decode cX7_codeOf 12 = .ok (.lload_n 1, 1) := by decide +kernel
theorem dX7_codeOf_13 : decode cX7_codeOf 13 = .ok (.iconst 5, 1) := by decide +kernel
theorem dX7_codeOf_14 : decode cX7_codeOf 14 = .ok (.lshl, 1) := by decide +kernel
theorem dX7_codeOf_15 : decode cX7_codeOf 15 = .ok (.aload_n 0, 1) := by decide +kernel
theorem dX7_codeOf_16 : decode cX7_codeOf 16 = .ok (.iload_n 3, 1) := by decide +kernel
theorem dX7_codeOf_17 : decode cX7_codeOf 17 = .ok (.invokevirtual 266, 3) := by decide +kernel
theorem dX7_codeOf_20 : decode cX7_codeOf 20 = .ok (.bipush 97, 2) := by decide +kernel
theorem dX7_codeOf_22 : decode cX7_codeOf 22 = .ok (.isub, 1) := by decide +kernel
theorem dX7_codeOf_23 : decode cX7_codeOf 23 = .ok (.iconst 1, 1) := by decide +kernel
theorem dX7_codeOf_24 : decode cX7_codeOf 24 = .ok (.iadd, 1) := by decide +kernel
theorem dX7_codeOf_25 : decode cX7_codeOf 25 = .ok (.i2l, 1) := by decide +kernel
theorem dX7_codeOf_26 : decode cX7_codeOf 26 = .ok (.lor, 1) := by decide +kernel
theorem dX7_codeOf_27 : decode cX7_codeOf 27 = .ok (.lstore_n 1, 1) := by decide +kernel
theorem dX7_codeOf_28 : decode cX7_codeOf 28 = .ok (.iinc 3 1, 3) := by decide +kernel
theorem dX7_codeOf_31 : decode cX7_codeOf 31 = .ok (.goto (-27), 3) := by decide +kernel
theorem dX7_codeOf_34 : decode cX7_codeOf 34 = .ok (.lload_n 1, 1) := by decide +kernel
theorem dX7_codeOf_35 : decode cX7_codeOf 35 = .ok (.lreturn, 1) := by decide +kernel
theorem dX7_isDigit_0 : decode cX7_isDigit 0 = .ok (.iload_n 0, 1) := by decide +kernel
theorem dX7_isDigit_1 : decode cX7_isDigit 1 = .ok (.bipush 48, 2) := by decide +kernel
theorem dX7_isDigit_3 : decode cX7_isDigit 3 = .ok (.if_icmp .lt 13, 3) := by decide +kernel
theorem dX7_isDigit_6 : decode cX7_isDigit 6 = .ok (.iload_n 0, 1) := by decide +kernel
theorem dX7_isDigit_7 : decode cX7_isDigit 7 = .ok (.bipush 57, 2) := by decide +kernel
theorem dX7_isDigit_9 : decode cX7_isDigit 9 = .ok (.if_icmp .gt 7, 3) := by decide +kernel
theorem dX7_isDigit_12 : decode cX7_isDigit 12 = .ok (.iconst 1, 1) := by decide +kernel
theorem dX7_isDigit_13 : decode cX7_isDigit 13 = .ok (.goto 4, 3) := by decide +kernel
theorem dX7_isDigit_16 : decode cX7_isDigit 16 = .ok (.iconst 0, 1) := by decide +kernel
theorem dX7_isDigit_17 : decode cX7_isDigit 17 = .ok (.ireturn, 1) := by decide +kernel
theorem dX7_isLetter_0 : decode cX7_isLetter 0 = .ok (.iload_n 0, 1) := by decide +kernel
theorem dX7_isLetter_1 : decode cX7_isLetter 1 = .ok (.bipush 97, 2) := by decide +kernel
theorem dX7_isLetter_3 : decode cX7_isLetter 3 = .ok (.if_icmp .lt 13, 3) := by decide +kernel
theorem dX7_isLetter_6 : decode cX7_isLetter 6 = .ok (.iload_n 0, 1) := by decide +kernel
theorem dX7_isLetter_7 : decode cX7_isLetter 7 = .ok (.bipush 122, 2) := by decide +kernel
theorem dX7_isLetter_9 : decode cX7_isLetter 9 = .ok (.if_icmp .gt 7, 3) := by decide +kernel
theorem dX7_isLetter_12 : decode cX7_isLetter 12 = .ok (.iconst 1, 1) := by decide +kernel
theorem dX7_isLetter_13 : decode cX7_isLetter 13 = .ok (.goto 4, 3) := by decide +kernel
theorem dX7_isLetter_16 : decode cX7_isLetter 16 = .ok (.iconst 0, 1) := by decide +kernel
theorem dX7_isLetter_17 : decode cX7_isLetter 17 = .ok (.ireturn, 1) := by decide +kernel
theorem dX7_isName_0 : decode cX7_isName 0 = .ok (.aload_n 0, 1) := by decide +kernel
theorem dX7_isName_1 : decode cX7_isName 1 = .ok (.getfield 92, 3) := by decide +kernel
theorem dX7_isName_4 : decode cX7_isName 4 = .ok (.iconst 1, 1) := by decide +kernel
theorem dX7_isName_5 : decode cX7_isName 5 = .ok (.if_icmp .ne 52, 3) := by decide +kernel
theorem dX7_isName_8 : decode cX7_isName 8 = .ok (.aload_n 0, 1) := by decide +kernel
theorem dX7_isName_9 : decode cX7_isName 9 = .ok (.ldc 59, 2) := by decide +kernel
theorem dX7_isName_11 : decode cX7_isName 11 = .ok (.invokevirtual 230, 3) := by decide +kernel
theorem dX7_isName_14 : decode cX7_isName 14 = .ok (.ifCond .ne 43, 3) := by decide +kernel
theorem dX7_isName_17 : decode cX7_isName 17 = .ok (.aload_n 0, 1) := by decide +kernel
theorem dX7_isName_18 : decode cX7_isName 18 = .ok (.ldc 68, 2) := by decide +kernel
theorem dX7_isName_20 : decode cX7_isName 20 = .ok (.invokevirtual 230, 3) := by decide +kernel
theorem dX7_isName_23 : decode cX7_isName 23 = .ok (.ifCond .ne 34, 3) := by decide +kernel
theorem dX7_isName_26 : decode cX7_isName 26 = .ok (.aload_n 0, 1) := by decide +kernel
theorem dX7_isName_27 : decode cX7_isName 27 = .ok (.ldc 73, 2) := by decide +kernel
theorem dX7_isName_29 : decode cX7_isName 29 = .ok (.invokevirtual 230, 3) := by decide +kernel
theorem dX7_isName_32 : decode cX7_isName 32 = .ok (.ifCond .ne 25, 3) := by decide +kernel
theorem dX7_isName_35 : decode cX7_isName 35 = .ok (.aload_n 0, 1) := by decide +kernel
theorem dX7_isName_36 : decode cX7_isName 36 = .ok (.ldc 78, 2) := by decide +kernel
theorem dX7_isName_38 : decode cX7_isName 38 = .ok (.invokevirtual 230, 3) := by decide +kernel
theorem dX7_isName_41 : decode cX7_isName 41 = .ok (.ifCond .ne 16, 3) := by decide +kernel
theorem dX7_isName_44 : decode cX7_isName 44 = .ok (.aload_n 0, 1) := by decide +kernel
theorem dX7_isName_45 : decode cX7_isName 45 = .ok (.ldc 83, 2) := by decide +kernel
theorem dX7_isName_47 : decode cX7_isName 47 = .ok (.invokevirtual 230, 3) := by decide +kernel
theorem dX7_isName_50 : decode cX7_isName 50 = .ok (.ifCond .ne 7, 3) := by decide +kernel
theorem dX7_isName_53 : decode cX7_isName 53 = .ok (.iconst 1, 1) := by decide +kernel
theorem dX7_isName_54 : decode cX7_isName 54 = .ok (.goto 4, 3) := by decide +kernel
theorem dX7_isName_57 : decode cX7_isName 57 = .ok (.iconst 0, 1) := by decide +kernel
theorem dX7_isName_58 : decode cX7_isName 58 = .ok (.ireturn, 1) := by decide +kernel
theorem dX7_isWord_0 : decode cX7_isWord 0 = .ok (.aload_n 0, 1) := by decide +kernel
theorem dX7_isWord_1 : decode cX7_isWord 1 = .ok (.getfield 92, 3) := by decide +kernel
theorem dX7_isWord_4 : decode cX7_isWord 4 = .ok (.iconst 1, 1) := by decide +kernel
theorem dX7_isWord_5 : decode cX7_isWord 5 = .ok (.if_icmp .ne 19, 3) := by decide +kernel
theorem dX7_isWord_8 : decode cX7_isWord 8 = .ok (.aload_n 0, 1) := by decide +kernel
theorem dX7_isWord_9 : decode cX7_isWord 9 = .ok (.getfield 215, 3) := by decide +kernel
theorem dX7_isWord_12 : decode cX7_isWord 12 = .ok (.aload_n 1, 1) := by decide +kernel
theorem dX7_isWord_13 : decode cX7_isWord 13 = .ok (.invokestatic 238, 3) := by decide +kernel
theorem dX7_isWord_16 : decode cX7_isWord 16 = .ok (.lcmp, 1) := by decide +kernel
theorem dX7_isWord_17 : decode cX7_isWord 17 = .ok (.ifCond .ne 7, 3) := by decide +kernel
theorem dX7_isWord_20 : decode cX7_isWord 20 = .ok (.iconst 1, 1) := by decide +kernel
theorem dX7_isWord_21 : decode cX7_isWord 21 = .ok (.goto 4, 3) := by decide +kernel
theorem dX7_isWord_24 : decode cX7_isWord 24 = .ok (.iconst 0, 1) := by decide +kernel
theorem dX7_isWord_25 : decode cX7_isWord 25 = .ok (.ireturn, 1) := by decide +kernel
theorem dX7_knotNumber_0 : decode cX7_knotNumber 0 = .ok (.iconst 0, 1) := by decide +kernel
theorem dX7_knotNumber_1 : decode cX7_knotNumber 1 = .ok (.istore_n 1, 1) := by decide +kernel
theorem dX7_knotNumber_2 : decode cX7_knotNumber 2 = .ok (.iload_n 1, 1) := by decide +kernel
theorem dX7_knotNumber_3 : decode cX7_knotNumber 3 = .ok (.aload_n 0, 1) := by decide +kernel
theorem dX7_knotNumber_4 : decode cX7_knotNumber 4 = .ok (.getfield 28, 3) := by decide +kernel
theorem dX7_knotNumber_7 : decode cX7_knotNumber 7 = .ok (.getfield 225, 3) := by decide +kernel
theorem dX7_knotNumber_10 : decode cX7_knotNumber 10 = .ok (.if_icmp .ge 25, 3) := by decide +kernel
theorem dX7_knotNumber_13 : decode cX7_knotNumber 13 = .ok (.aload_n 0, 1) := by decide +kernel
theorem dX7_knotNumber_14 : decode cX7_knotNumber 14 = .ok (.getfield 25, 3) := by decide +kernel
theorem dX7_knotNumber_17 : decode cX7_knotNumber 17 = .ok (.iload_n 1, 1) := by decide +kernel
theorem dX7_knotNumber_18 : decode cX7_knotNumber 18 = .ok (.laload, 1) := by decide +kernel
theorem dX7_knotNumber_19 : decode cX7_knotNumber 19 = .ok (.aload_n 0, 1) := by decide +kernel
theorem dX7_knotNumber_20 : decode cX7_knotNumber 20 = .ok (.getfield 215, 3) := by decide +kernel
theorem dX7_knotNumber_23 : decode cX7_knotNumber 23 = .ok (.lcmp, 1) := by decide +kernel
theorem dX7_knotNumber_24 : decode cX7_knotNumber 24 = .ok (.ifCond .ne 5, 3) := by decide +kernel
theorem dX7_knotNumber_27 : decode cX7_knotNumber 27 = .ok (.iload_n 1, 1) := by decide +kernel
theorem dX7_knotNumber_28 : decode cX7_knotNumber 28 = .ok (.ireturn, 1) := by decide +kernel
theorem dX7_knotNumber_29 : decode cX7_knotNumber 29 = .ok (.iinc 1 1, 3) := by decide +kernel
theorem dX7_knotNumber_32 : decode cX7_knotNumber 32 = .ok (.goto (-30), 3) := by decide +kernel
theorem dX7_knotNumber_35 : decode cX7_knotNumber 35 = .ok (.iconst (-1), 1) := by decide +kernel
theorem dX7_knotNumber_36 : decode cX7_knotNumber 36 = .ok (.ireturn, 1) := by decide +kernel
theorem dX7_miss_0 : decode cX7_miss 0 = .ok (.aload_n 0, 1) := by decide +kernel
theorem dX7_miss_1 : decode cX7_miss 1 = .ok (.getfield 45, 3) := by decide +kernel
theorem dX7_miss_4 : decode cX7_miss 4 = .ok (.ifCond .ne 16, 3) := by decide +kernel
theorem dX7_miss_7 : decode cX7_miss 7 = .ok (.aload_n 0, 1) := by decide +kernel
theorem dX7_miss_8 : decode cX7_miss 8 = .ok (.iload_n 1, 1) := by decide +kernel
theorem dX7_miss_9 : decode cX7_miss 9 = .ok (.putfield 45, 3) := by decide +kernel
theorem dX7_miss_12 : decode cX7_miss 12 = .ok (.aload_n 0, 1) := by decide +kernel
theorem dX7_miss_13 : decode cX7_miss 13 = .ok (.aload_n 0, 1) := by decide +kernel
theorem dX7_miss_14 : decode cX7_miss 14 = .ok (.getfield 242, 3) := by decide +kernel
theorem dX7_miss_17 : decode cX7_miss 17 = .ok (.putfield 48, 3) := by decide +kernel
theorem dX7_miss_20 : decode cX7_miss 20 = .ok (.iconst 0, 1) := by decide +kernel
theorem dX7_miss_21 : decode cX7_miss 21 = .ok (.ireturn, 1) := by decide +kernel
theorem dX7_nameIndex_0 : decode cX7_nameIndex 0 = .ok (.iconst 0, 1) := by decide +kernel
theorem dX7_nameIndex_1 : decode cX7_nameIndex 1 = .ok (.istore_n 1, 1) := by decide +kernel
theorem dX7_nameIndex_2 : decode cX7_nameIndex 2 = .ok (.iload_n 1, 1) := by decide +kernel
theorem dX7_nameIndex_3 : decode cX7_nameIndex 3 = .ok (.aload_n 0, 1) := by decide +kernel
theorem dX7_nameIndex_4 : decode cX7_nameIndex 4 = .ok (.getfield 42, 3) := by decide +kernel
theorem dX7_nameIndex_7 : decode cX7_nameIndex 7 = .ok (.if_icmp .ge 25, 3) := by decide +kernel
theorem dX7_nameIndex_10 : decode cX7_nameIndex 10 = .ok (.aload_n 0, 1) := by decide +kernel
theorem dX7_nameIndex_11 : decode cX7_nameIndex 11 = .ok (.getfield 15, 3) := by decide +kernel
theorem dX7_nameIndex_14 : decode cX7_nameIndex 14 = .ok (.iload_n 1, 1) := by decide +kernel
theorem dX7_nameIndex_15 : decode cX7_nameIndex 15 = .ok (.laload, 1) := by decide +kernel
theorem dX7_nameIndex_16 : decode cX7_nameIndex 16 = .ok (.aload_n 0, 1) := by decide +kernel
theorem dX7_nameIndex_17 : decode cX7_nameIndex 17 = .ok (.getfield 215, 3) := by decide +kernel
theorem dX7_nameIndex_20 : decode cX7_nameIndex 20 = .ok (.lcmp, 1) := by decide +kernel
theorem dX7_nameIndex_21 : decode cX7_nameIndex 21 = .ok (.ifCond .ne 5, 3) := by decide +kernel
theorem dX7_nameIndex_24 : decode cX7_nameIndex 24 = .ok (.iload_n 1, 1) := by decide +kernel
theorem dX7_nameIndex_25 : decode cX7_nameIndex 25 = .ok (.ireturn, 1) := by decide +kernel
theorem dX7_nameIndex_26 : decode cX7_nameIndex 26 = .ok (.iinc 1 1, 3) := by decide +kernel
theorem dX7_nameIndex_29 : decode cX7_nameIndex 29 = .ok (.goto (-27), 3) := by decide +kernel
theorem dX7_nameIndex_32 : decode cX7_nameIndex 32 = .ok (.iconst (-1), 1) := by decide +kernel
theorem dX7_nameIndex_33 : decode cX7_nameIndex 33 = .ok (.ireturn, 1) := by decide +kernel
theorem dX7_next_0 : decode cX7_next 0 = .ok (.aload_n 0, 1) := by decide +kernel
theorem dX7_next_1 : decode cX7_next 1 = .ok (.getfield 39, 3) := by decide +kernel
theorem dX7_next_4 : decode cX7_next 4 = .ok (.istore_n 1, 1) := by decide +kernel
theorem dX7_next_5 : decode cX7_next 5 = .ok (.iload_n 1, 1) := by decide +kernel
theorem dX7_next_6 : decode cX7_next 6 = .ok (.aload_n 0, 1) := by decide +kernel
theorem dX7_next_7 : decode cX7_next 7 = .ok (.getfield 36, 3) := by decide +kernel
theorem dX7_next_10 : decode cX7_next 10 = .ok (.if_icmp .ge 27, 3) := by decide +kernel
theorem dX7_next_13 : decode cX7_next 13 = .ok (.aload_n 0, 1) := by decide +kernel
theorem dX7_next_14 : decode cX7_next 14 = .ok (.getfield 9, 3) := by decide +kernel
theorem dX7_next_17 : decode cX7_next 17 = .ok (.iload_n 1, 1) := by decide +kernel
theorem dX7_next_18 : decode cX7_next 18 = .ok (.iaload, 1) := by decide +kernel
theorem dX7_next_19 : decode cX7_next 19 = .ok (.bipush 32, 2) := by decide +kernel
theorem dX7_next_21 : decode cX7_next 21 = .ok (.if_icmp .ne 16, 3) := by decide +kernel
theorem dX7_next_24 : decode cX7_next 24 = .ok (.aload_n 0, 1) := by decide +kernel
theorem dX7_next_25 : decode cX7_next 25 = .ok (.iload_n 1, 1) := by decide +kernel
theorem dX7_next_26 : decode cX7_next 26 = .ok (.iconst 1, 1) := by decide +kernel
theorem dX7_next_27 : decode cX7_next 27 = .ok (.iadd, 1) := by decide +kernel
theorem dX7_next_28 : decode cX7_next 28 = .ok (.putfield 39, 3) := by decide +kernel
theorem dX7_next_31 : decode cX7_next 31 = .ok (.iinc 1 1, 3) := by decide +kernel
theorem dX7_next_34 : decode cX7_next 34 = .ok (.goto (-29), 3) := by decide +kernel
theorem dX7_next_37 : decode cX7_next 37 = .ok (.aload_n 0, 1) := by decide +kernel
theorem dX7_next_38 : decode cX7_next 38 = .ok (.aload_n 0, 1) := by decide +kernel
theorem dX7_next_39 : decode cX7_next 39 = .ok (.getfield 39, 3) := by decide +kernel
theorem dX7_next_42 : decode cX7_next 42 = .ok (.putfield 242, 3) := by decide +kernel
theorem dX7_next_45 : decode cX7_next 45 = .ok (.aload_n 0, 1) := by decide +kernel
theorem dX7_next_46 : decode cX7_next 46 = .ok (.lconst 0, 1) := by decide +kernel
theorem dX7_next_47 : decode cX7_next 47 = .ok (.putfield 215, 3) := by decide +kernel
theorem dX7_next_50 : decode cX7_next 50 = .ok (.aload_n 0, 1) := by decide +kernel
theorem dX7_next_51 : decode cX7_next 51 = .ok (.getfield 39, 3) := by decide +kernel
theorem dX7_next_54 : decode cX7_next 54 = .ok (.aload_n 0, 1) := by decide +kernel
theorem dX7_next_55 : decode cX7_next 55 = .ok (.getfield 36, 3) := by decide +kernel
theorem dX7_next_58 : decode cX7_next 58 = .ok (.if_icmp .lt 11, 3) := by decide +kernel
theorem dX7_next_61 : decode cX7_next 61 = .ok (.aload_n 0, 1) := by decide +kernel
theorem dX7_next_62 : decode cX7_next 62 = .ok (.iconst 0, 1) := by decide +kernel
theorem dX7_next_63 : decode cX7_next 63 = .ok (.putfield 92, 3) := by decide +kernel
theorem dX7_next_66 : decode cX7_next 66 = .ok (.goto 98, 3) := by decide +kernel
theorem dX7_next_69 : decode cX7_next 69 = .ok (.aload_n 0, 1) := by decide +kernel
theorem dX7_next_70 : decode cX7_next 70 = .ok (.getfield 9, 3) := by decide +kernel
theorem dX7_next_73 : decode cX7_next 73 = .ok (.aload_n 0, 1) := by decide +kernel
theorem dX7_next_74 : decode cX7_next 74 = .ok (.getfield 39, 3) := by decide +kernel
theorem dX7_next_77 : decode cX7_next 77 = .ok (.iaload, 1) := by decide +kernel
theorem dX7_next_78 : decode cX7_next 78 = .ok (.invokestatic 245, 3) := by decide +kernel
theorem dX7_next_81 : decode cX7_next 81 = .ok (.ifCond .eq 10, 3) := by decide +kernel
theorem dX7_next_84 : decode cX7_next 84 = .ok (.aload_n 0, 1) := by decide +kernel
theorem dX7_next_85 : decode cX7_next 85 = .ok (.invokevirtual 248, 3) := by decide +kernel
theorem dX7_next_88 : decode cX7_next 88 = .ok (.goto 76, 3) := by decide +kernel
theorem dX7_next_91 : decode cX7_next 91 = .ok (.aload_n 0, 1) := by decide +kernel
theorem dX7_next_92 : decode cX7_next 92 = .ok (.getfield 9, 3) := by decide +kernel
theorem dX7_next_95 : decode cX7_next 95 = .ok (.aload_n 0, 1) := by decide +kernel
theorem dX7_next_96 : decode cX7_next 96 = .ok (.getfield 39, 3) := by decide +kernel
theorem dX7_next_99 : decode cX7_next 99 = .ok (.iaload, 1) := by decide +kernel
theorem dX7_next_100 : decode cX7_next 100 = .ok (.invokestatic 251, 3) := by decide +kernel
theorem dX7_next_103 : decode cX7_next 103 = .ok (.ifCond .eq 10, 3) := by decide +kernel
theorem dX7_next_106 : decode cX7_next 106 = .ok (.aload_n 0, 1) := by decide +kernel
theorem dX7_next_107 : decode cX7_next 107 = .ok (.invokevirtual 254, 3) := by decide +kernel
theorem dX7_next_110 : decode cX7_next 110 = .ok (.goto 54, 3) := by decide +kernel
theorem dX7_next_113 : decode cX7_next 113 = .ok (.aload_n 0, 1) := by decide +kernel
theorem dX7_next_114 : decode cX7_next 114 = .ok (.aload_n 0, 1) := by decide +kernel
theorem dX7_next_115 : decode cX7_next 115 = .ok (.getfield 9, 3) := by decide +kernel
theorem dX7_next_118 : decode cX7_next 118 = .ok (.aload_n 0, 1) := by decide +kernel
theorem dX7_next_119 : decode cX7_next 119 = .ok (.getfield 39, 3) := by decide +kernel
theorem dX7_next_122 : decode cX7_next 122 = .ok (.iaload, 1) := by decide +kernel
theorem dX7_next_123 : decode cX7_next 123 = .ok (.bipush 59, 2) := by decide +kernel
theorem dX7_next_125 : decode cX7_next 125 = .ok (.if_icmp .ne 7, 3) := by decide +kernel
theorem dX7_next_128 : decode cX7_next 128 = .ok (.iconst 3, 1) := by decide +kernel
theorem dX7_next_129 : decode cX7_next 129 = .ok (.goto 22, 3) := by decide +kernel
theorem dX7_next_132 : decode cX7_next 132 = .ok (.aload_n 0, 1) := by decide +kernel
theorem dX7_next_133 : decode cX7_next 133 = .ok (.getfield 9, 3) := by decide +kernel
theorem dX7_next_136 : decode cX7_next 136 = .ok (.aload_n 0, 1) := by decide +kernel
theorem dX7_next_137 : decode cX7_next 137 = .ok (.getfield 39, 3) := by decide +kernel
theorem dX7_next_140 : decode cX7_next 140 = .ok (.iaload, 1) := by decide +kernel
theorem dX7_next_141 : decode cX7_next 141 = .ok (.bipush 45, 2) := by decide +kernel
theorem dX7_next_143 : decode cX7_next 143 = .ok (.if_icmp .ne 7, 3) := by decide +kernel
theorem dX7_next_146 : decode cX7_next 146 = .ok (.iconst 4, 1) := by decide +kernel
theorem dX7_next_147 : decode cX7_next 147 = .ok (.goto 4, 3) := by decide +kernel
theorem dX7_next_150 : decode cX7_next 150 = .ok (.iconst 5, 1) := by decide +kernel
theorem dX7_next_151 : decode cX7_next 151 = .ok (.putfield 92, 3) := by decide +kernel
theorem dX7_next_154 : decode cX7_next 154 = .ok (.aload_n 0, 1) := by decide +kernel
theorem dX7_next_155 : decode cX7_next 155 = .ok (.dup, 1) := by decide +kernel
theorem dX7_next_156 : decode cX7_next 156 = .ok (.getfield 39, 3) := by decide +kernel
theorem dX7_next_159 : decode cX7_next 159 = .ok (.iconst 1, 1) := by decide +kernel
theorem dX7_next_160 : decode cX7_next 160 = .ok (.iadd, 1) := by decide +kernel
theorem dX7_next_161 : decode cX7_next 161 = .ok (.putfield 39, 3) := by decide +kernel
theorem dX7_next_164 : decode cX7_next 164 = .ok (.return_, 1) := by decide +kernel
theorem dX7_readDigits_0 : decode cX7_readDigits 0 = .ok (.aload_n 0, 1) := by decide +kernel
theorem dX7_readDigits_1 : decode cX7_readDigits 1 = .ok (.getfield 39, 3) := by decide +kernel
theorem dX7_readDigits_4 : decode cX7_readDigits 4 = .ok (.istore_n 1, 1) := by decide +kernel
theorem dX7_readDigits_5 : decode cX7_readDigits 5 = .ok (.iload_n 1, 1) := by decide +kernel
theorem dX7_readDigits_6 : decode cX7_readDigits 6 = .ok (.aload_n 0, 1) := by decide +kernel
theorem dX7_readDigits_7 : decode cX7_readDigits 7 = .ok (.getfield 36, 3) := by decide +kernel
theorem dX7_readDigits_10 : decode cX7_readDigits 10 = .ok (.if_icmp .ge 52, 3) := by decide +kernel
theorem dX7_readDigits_13 : decode cX7_readDigits 13 = .ok (.aload_n 0, 1) := by decide +kernel
theorem dX7_readDigits_14 : decode cX7_readDigits 14 = .ok (.getfield 9, 3) := by decide +kernel
theorem dX7_readDigits_17 : decode cX7_readDigits 17 = .ok (.iload_n 1, 1) := by decide +kernel
theorem dX7_readDigits_18 : decode cX7_readDigits 18 = .ok (.iaload, 1) := by decide +kernel
theorem dX7_readDigits_19 : decode cX7_readDigits 19 = .ok (.invokestatic 251, 3) := by decide +kernel
theorem dX7_readDigits_22 : decode cX7_readDigits 22 = .ok (.ifCond .eq 40, 3) := by decide +kernel
theorem dX7_readDigits_25 : decode cX7_readDigits 25 = .ok (.aload_n 0, 1) := by decide +kernel
theorem dX7_readDigits_26 : decode cX7_readDigits 26 = .ok (.aload_n 0, 1) := by decide +kernel
theorem dX7_readDigits_27 : decode cX7_readDigits 27 = .ok (.getfield 215, 3) := by decide +kernel
theorem dX7_readDigits_30 : decode cX7_readDigits 30 = .ok (.ldc2_w 257, 3) := by decide +kernel
theorem dX7_readDigits_33 : decode cX7_readDigits 33 = .ok (.lmul, 1) := by decide +kernel
theorem dX7_readDigits_34 : decode cX7_readDigits 34 = .ok (.aload_n 0, 1) := by decide +kernel
theorem dX7_readDigits_35 : decode cX7_readDigits 35 = .ok (.getfield 9, 3) := by decide +kernel
theorem dX7_readDigits_38 : decode cX7_readDigits 38 = .ok (.iload_n 1, 1) := by decide +kernel
theorem dX7_readDigits_39 : decode cX7_readDigits 39 = .ok (.iaload, 1) := by decide +kernel
theorem dX7_readDigits_40 : decode cX7_readDigits 40 = .ok (.i2l, 1) := by decide +kernel
theorem dX7_readDigits_41 : decode cX7_readDigits 41 = .ok (.ladd, 1) := by decide +kernel
theorem dX7_readDigits_42 : decode cX7_readDigits 42 = .ok (.ldc2_w 259, 3) := by decide +kernel
theorem dX7_readDigits_45 : decode cX7_readDigits 45 = .ok (.lsub, 1) := by decide +kernel
theorem dX7_readDigits_46 : decode cX7_readDigits 46 = .ok (.putfield 215, 3) := by decide +kernel
theorem dX7_readDigits_49 : decode cX7_readDigits 49 = .ok (.aload_n 0, 1) := by decide +kernel
theorem dX7_readDigits_50 : decode cX7_readDigits 50 = .ok (.iload_n 1, 1) := by decide +kernel
theorem dX7_readDigits_51 : decode cX7_readDigits 51 = .ok (.iconst 1, 1) := by decide +kernel
theorem dX7_readDigits_52 : decode cX7_readDigits 52 = .ok (.iadd, 1) := by decide +kernel
theorem dX7_readDigits_53 : decode cX7_readDigits 53 = .ok (.putfield 39, 3) := by decide +kernel
theorem dX7_readDigits_56 : decode cX7_readDigits 56 = .ok (.iinc 1 1, 3) := by decide +kernel
theorem dX7_readDigits_59 : decode cX7_readDigits 59 = .ok (.goto (-54), 3) := by decide +kernel
theorem dX7_readDigits_62 : decode cX7_readDigits 62 = .ok (.aload_n 0, 1) := by decide +kernel
theorem dX7_readDigits_63 : decode cX7_readDigits 63 = .ok (.aload_n 0, 1) := by decide +kernel
theorem dX7_readDigits_64 : decode cX7_readDigits 64 = .ok (.getfield 39, 3) := by decide +kernel
theorem dX7_readDigits_67 : decode cX7_readDigits 67 = .ok (.aload_n 0, 1) := by decide +kernel
theorem dX7_readDigits_68 : decode cX7_readDigits 68 = .ok (.getfield 242, 3) := by decide +kernel
theorem dX7_readDigits_71 : decode cX7_readDigits 71 = .ok (.isub, 1) := by decide +kernel
theorem dX7_readDigits_72 : decode cX7_readDigits 72 = .ok (.iconst 4, 1) := by decide +kernel
theorem dX7_readDigits_73 : decode cX7_readDigits 73 = .ok (.if_icmp .le 7, 3) := by decide +kernel
theorem dX7_readDigits_76 : decode cX7_readDigits 76 = .ok (.iconst 5, 1) := by decide +kernel
theorem dX7_readDigits_77 : decode cX7_readDigits 77 = .ok (.goto 4, 3) := by decide +kernel
theorem dX7_readDigits_80 : decode cX7_readDigits 80 = .ok (.iconst 2, 1) := by decide +kernel
theorem dX7_readDigits_81 : decode cX7_readDigits 81 = .ok (.putfield 92, 3) := by decide +kernel
theorem dX7_readDigits_84 : decode cX7_readDigits 84 = .ok (.return_, 1) := by decide +kernel
theorem dX7_readWord_0 : decode cX7_readWord 0 = .ok (.aload_n 0, 1) := by decide +kernel
theorem dX7_readWord_1 : decode cX7_readWord 1 = .ok (.getfield 39, 3) := by decide +kernel
theorem dX7_readWord_4 : decode cX7_readWord 4 = .ok (.istore_n 1, 1) := by decide +kernel
theorem dX7_readWord_5 : decode cX7_readWord 5 = .ok (.iload_n 1, 1) := by decide +kernel
theorem dX7_readWord_6 : decode cX7_readWord 6 = .ok (.aload_n 0, 1) := by decide +kernel
theorem dX7_readWord_7 : decode cX7_readWord 7 = .ok (.getfield 36, 3) := by decide +kernel
theorem dX7_readWord_10 : decode cX7_readWord 10 = .ok (.if_icmp .ge 51, 3) := by decide +kernel
theorem dX7_readWord_13 : decode cX7_readWord 13 = .ok (.aload_n 0, 1) := by decide +kernel
theorem dX7_readWord_14 : decode cX7_readWord 14 = .ok (.getfield 9, 3) := by decide +kernel
theorem dX7_readWord_17 : decode cX7_readWord 17 = .ok (.iload_n 1, 1) := by decide +kernel
theorem dX7_readWord_18 : decode cX7_readWord 18 = .ok (.iaload, 1) := by decide +kernel
theorem dX7_readWord_19 : decode cX7_readWord 19 = .ok (.invokestatic 245, 3) := by decide +kernel
theorem dX7_readWord_22 : decode cX7_readWord 22 = .ok (.ifCond .eq 39, 3) := by decide +kernel
theorem dX7_readWord_25 : decode cX7_readWord 25 = .ok (.aload_n 0, 1) := by decide +kernel
theorem dX7_readWord_26 : decode cX7_readWord 26 = .ok (.aload_n 0, 1) := by decide +kernel
theorem dX7_readWord_27 : decode cX7_readWord 27 = .ok (.getfield 215, 3) := by decide +kernel
theorem dX7_readWord_30 : decode cX7_readWord 30 = .ok (.iconst 5, 1) := by decide +kernel
theorem dX7_readWord_31 : decode cX7_readWord 31 = .ok (.lshl, 1) := by decide +kernel
theorem dX7_readWord_32 : decode cX7_readWord 32 = .ok (.aload_n 0, 1) := by decide +kernel
theorem dX7_readWord_33 : decode cX7_readWord 33 = .ok (.getfield 9, 3) := by decide +kernel
theorem dX7_readWord_36 : decode cX7_readWord 36 = .ok (.iload_n 1, 1) := by decide +kernel
theorem dX7_readWord_37 : decode cX7_readWord 37 = .ok (.iaload, 1) := by decide +kernel
theorem dX7_readWord_38 : decode cX7_readWord 38 = .ok (.bipush 97, 2) := by decide +kernel
theorem dX7_readWord_40 : decode cX7_readWord 40 = .ok (.isub, 1) := by decide +kernel
theorem dX7_readWord_41 : decode cX7_readWord 41 = .ok (.iconst 1, 1) := by decide +kernel
theorem dX7_readWord_42 : decode cX7_readWord 42 = .ok (.iadd, 1) := by decide +kernel
theorem dX7_readWord_43 : decode cX7_readWord 43 = .ok (.i2l, 1) := by decide +kernel
theorem dX7_readWord_44 : decode cX7_readWord 44 = .ok (.lor, 1) := by decide +kernel
theorem dX7_readWord_45 : decode cX7_readWord 45 = .ok (.putfield 215, 3) := by decide +kernel
theorem dX7_readWord_48 : decode cX7_readWord 48 = .ok (.aload_n 0, 1) := by decide +kernel
theorem dX7_readWord_49 : decode cX7_readWord 49 = .ok (.iload_n 1, 1) := by decide +kernel
theorem dX7_readWord_50 : decode cX7_readWord 50 = .ok (.iconst 1, 1) := by decide +kernel
theorem dX7_readWord_51 : decode cX7_readWord 51 = .ok (.iadd, 1) := by decide +kernel
theorem dX7_readWord_52 : decode cX7_readWord 52 = .ok (.putfield 39, 3) := by decide +kernel
theorem dX7_readWord_55 : decode cX7_readWord 55 = .ok (.iinc 1 1, 3) := by decide +kernel
theorem dX7_readWord_58 : decode cX7_readWord 58 = .ok (.goto (-53), 3) := by decide +kernel
theorem dX7_readWord_61 : decode cX7_readWord 61 = .ok (.aload_n 0, 1) := by decide +kernel
theorem dX7_readWord_62 : decode cX7_readWord 62 = .ok (.aload_n 0, 1) := by decide +kernel
theorem dX7_readWord_63 : decode cX7_readWord 63 = .ok (.getfield 39, 3) := by decide +kernel
theorem dX7_readWord_66 : decode cX7_readWord 66 = .ok (.aload_n 0, 1) := by decide +kernel
theorem dX7_readWord_67 : decode cX7_readWord 67 = .ok (.getfield 242, 3) := by decide +kernel
theorem dX7_readWord_70 : decode cX7_readWord 70 = .ok (.isub, 1) := by decide +kernel
theorem dX7_readWord_71 : decode cX7_readWord 71 = .ok (.bipush 8, 2) := by decide +kernel
theorem dX7_readWord_73 : decode cX7_readWord 73 = .ok (.if_icmp .le 7, 3) := by decide +kernel
theorem dX7_readWord_76 : decode cX7_readWord 76 = .ok (.iconst 5, 1) := by decide +kernel
theorem dX7_readWord_77 : decode cX7_readWord 77 = .ok (.goto 4, 3) := by decide +kernel
theorem dX7_readWord_80 : decode cX7_readWord 80 = .ok (.iconst 1, 1) := by decide +kernel
theorem dX7_readWord_81 : decode cX7_readWord 81 = .ok (.putfield 92, 3) := by decide +kernel
theorem dX7_readWord_84 : decode cX7_readWord 84 = .ok (.return_, 1) := by decide +kernel
theorem dX7_takeWord_0 : decode cX7_takeWord 0 = .ok (.aload_n 0, 1) := by decide +kernel
theorem dX7_takeWord_1 : decode cX7_takeWord 1 = .ok (.aload_n 1, 1) := by decide +kernel
theorem dX7_takeWord_2 : decode cX7_takeWord 2 = .ok (.invokevirtual 230, 3) := by decide +kernel
theorem dX7_takeWord_5 : decode cX7_takeWord 5 = .ok (.ifCond .ne 5, 3) := by decide +kernel
theorem dX7_takeWord_8 : decode cX7_takeWord 8 = .ok (.iconst 0, 1) := by decide +kernel
theorem dX7_takeWord_9 : decode cX7_takeWord 9 = .ok (.ireturn, 1) := by decide +kernel
theorem dX7_takeWord_10 : decode cX7_takeWord 10 = .ok (.aload_n 0, 1) := by decide +kernel
theorem dX7_takeWord_11 : decode cX7_takeWord 11 = .ok (.invokevirtual 56, 3) := by decide +kernel
theorem dX7_takeWord_14 : decode cX7_takeWord 14 = .ok (.iconst 1, 1) := by decide +kernel
theorem dX7_takeWord_15 : decode cX7_takeWord 15 = .ok (.ireturn, 1) := by decide +kernel
