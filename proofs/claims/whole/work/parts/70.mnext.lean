theorem wd_62 : Cond.selects "MineAirModel" (⟨"MineAirModel", "byteAt", "(I)I"⟩ : MethodName) (⟨"MineAirModel", "byteAt", "(I)I"⟩ : MethodName) ∈ wG := wG_of 62 (by decide +kernel) (by decide +kernel)
theorem wd_64 : Cond.selects "MineAirModel" (⟨"MineAirModel", "isWord", "(Ljava/lang/String;)Z"⟩ : MethodName) (⟨"MineAirModel", "isWord", "(Ljava/lang/String;)Z"⟩ : MethodName) ∈ wG := wG_of 64 (by decide +kernel) (by decide +kernel)
theorem wd_1444 : Cond.fieldLinkNest "MineAirModel" 128 "MineAirModel$Stop" "kind" "I" "MineAirModel" ∈ wN := wN_of 1444 (by decide +kernel) rfl
theorem wd_1445 : Cond.fieldLinkNest "MineAirModel" 134 "MineAirModel$Stop" "place" "I" "MineAirModel" ∈ wN := wN_of 1445 (by decide +kernel) rfl
theorem wd_1460 : Cond.fieldLink "MineAirModel" 20 "MineAirModel" "stop" "LMineAirModel$Stop;" ∈ wG := wG_of 1460 (by decide +kernel) (by decide +kernel)
theorem wd_1461 : Cond.fieldLink "MineAirModel" 24 "MineAirModel" "tape" "[B" ∈ wG := wG_of 1461 (by decide +kernel) (by decide +kernel)
theorem wd_1463 : Cond.fieldLink "MineAirModel" 135 "MineAirModel" "size" "I" ∈ wG := wG_of 1463 (by decide +kernel) (by decide +kernel)
theorem wd_1464 : Cond.fieldLink "MineAirModel" 150 "MineAirModel" "at" "I" ∈ wG := wG_of 1464 (by decide +kernel) (by decide +kernel)
theorem wd_1465 : Cond.fieldLink "MineAirModel" 157 "MineAirModel" "sort" "I" ∈ wG := wG_of 1465 (by decide +kernel) (by decide +kernel)
theorem wd_1466 : Cond.fieldLink "MineAirModel" 131 "MineAirModel" "place" "I" ∈ wG := wG_of 1466 (by decide +kernel) (by decide +kernel)
theorem wd_1467 : Cond.fieldLink "MineAirModel" 160 "MineAirModel" "mark" "I" ∈ wG := wG_of 1467 (by decide +kernel) (by decide +kernel)
theorem wd_1468 : Cond.fieldLink "MineAirModel" 174 "MineAirModel" "number" "I" ∈ wG := wG_of 1468 (by decide +kernel) (by decide +kernel)
theorem wd_1469 : Cond.fieldLink "MineAirModel" 167 "MineAirModel" "word" "J" ∈ wG := wG_of 1469 (by decide +kernel) (by decide +kernel)
theorem wd_1739 : Cond.methodLink "MineAirModel" 153 (⟨"MineAirModel", "byteAt", "(I)I"⟩ : MethodName) ∈ wG := wG_of 1739 (by decide +kernel) (by decide +kernel)
theorem wd_1741 : Cond.instanceMethod (⟨"MineAirModel", "byteAt", "(I)I"⟩ : MethodName) ∈ wG := wG_of 1741 (by decide +kernel) (by decide +kernel)
theorem wd_1742 : Cond.code (⟨"MineAirModel", "byteAt", "(I)I"⟩ : MethodName) prog_14_method_9_code 2 (Option.some Jvm.ClassFile.FieldType.int) ∈ wG := wG_of 1742 (by decide +kernel) (by decide +kernel)
theorem wd_1743 : Cond.methodLink "MineAirModel" 163 (⟨"MineAirModel", "isLetter", "(I)Z"⟩ : MethodName) ∈ wG := wG_of 1743 (by decide +kernel) (by decide +kernel)
theorem wd_1744 : Cond.static (⟨"MineAirModel", "isLetter", "(I)Z"⟩ : MethodName) ∈ wG := wG_of 1744 (by decide +kernel) (by decide +kernel)
theorem wd_1745 : Cond.code (⟨"MineAirModel", "isLetter", "(I)Z"⟩ : MethodName) prog_14_method_10_code 1 (Option.some Jvm.ClassFile.FieldType.boolean) ∈ wG := wG_of 1745 (by decide +kernel) (by decide +kernel)
theorem wd_1747 : Cond.methodLink "MineAirModel" 171 (⟨"MineAirModel", "isDigit", "(I)Z"⟩ : MethodName) ∈ wG := wG_of 1747 (by decide +kernel) (by decide +kernel)
theorem wd_1748 : Cond.static (⟨"MineAirModel", "isDigit", "(I)Z"⟩ : MethodName) ∈ wG := wG_of 1748 (by decide +kernel) (by decide +kernel)
theorem wd_1749 : Cond.code (⟨"MineAirModel", "isDigit", "(I)Z"⟩ : MethodName) prog_14_method_11_code 1 (Option.some Jvm.ClassFile.FieldType.boolean) ∈ wG := wG_of 1749 (by decide +kernel) (by decide +kernel)
theorem wd_1755 : Cond.methodLink "MineAirModel" 183 (⟨"MineAirModel", "isWord", "(Ljava/lang/String;)Z"⟩ : MethodName) ∈ wG := wG_of 1755 (by decide +kernel) (by decide +kernel)
theorem wd_1757 : Cond.instanceMethod (⟨"MineAirModel", "isWord", "(Ljava/lang/String;)Z"⟩ : MethodName) ∈ wG := wG_of 1757 (by decide +kernel) (by decide +kernel)
theorem wd_1758 : Cond.code (⟨"MineAirModel", "isWord", "(Ljava/lang/String;)Z"⟩ : MethodName) prog_14_method_14_code 2 (Option.some Jvm.ClassFile.FieldType.boolean) ∈ wG := wG_of 1758 (by decide +kernel) (by decide +kernel)
theorem dX14_byteAt_0 : decode cX14_byteAt 0 = .ok (.iload_n 1, 1) := by decide +kernel
theorem dX14_byteAt_1 : decode cX14_byteAt 1 = .ok (.aload_n 0, 1) := by decide +kernel
theorem dX14_byteAt_2 : decode cX14_byteAt 2 = .ok (.getfield 135, 3) := by decide +kernel
theorem dX14_byteAt_5 : decode cX14_byteAt 5 = .ok (.if_icmp .ge 16, 3) := by decide +kernel
theorem dX14_byteAt_8 : decode cX14_byteAt 8 = .ok (.aload_n 0, 1) := by decide +kernel
theorem dX14_byteAt_9 : decode cX14_byteAt 9 = .ok (.getfield 24, 3) := by decide +kernel
theorem dX14_byteAt_12 : decode cX14_byteAt 12 = .ok (.iload_n 1, 1) := by decide +kernel
theorem dX14_byteAt_13 : decode cX14_byteAt 13 = .ok (.baload, 1) := by decide +kernel
theorem dX14_byteAt_14 : decode cX14_byteAt 14 = .ok (.sipush 255, 3) := by decide +kernel
theorem dX14_byteAt_17 : decode cX14_byteAt 17 = .ok (.iand, 1) := by decide +kernel
theorem dX14_byteAt_18 : decode cX14_byteAt 18 = .ok (.goto 4, 3) := by decide +kernel
theorem dX14_byteAt_21 : decode cX14_byteAt 21 = .ok (.iconst (-1), 1) := by decide +kernel
theorem dX14_byteAt_22 : decode cX14_byteAt 22 = .ok (.ireturn, 1) := by decide +kernel
theorem dX14_is_0 : decode cX14_is 0 = .ok (.aload_n 0, 1) := by decide +kernel
theorem dX14_is_1 : decode cX14_is 1 = .ok (.getfield 157, 3) := by decide +kernel
theorem dX14_is_4 : decode cX14_is 4 = .ok (.iconst 4, 1) := by decide +kernel
theorem dX14_is_5 : decode cX14_is 5 = .ok (.if_icmp .ne 15, 3) := by decide +kernel
theorem dX14_is_8 : decode cX14_is 8 = .ok (.aload_n 0, 1) := by decide +kernel
theorem dX14_is_9 : decode cX14_is 9 = .ok (.getfield 160, 3) := by decide +kernel
theorem dX14_is_12 : decode cX14_is 12 = .ok (.iload_n 1, 1) := by decide +kernel
theorem dX14_is_13 : decode cX14_is 13 = .ok (.if_icmp .ne 7, 3) := by decide +kernel
theorem dX14_is_16 : decode cX14_is 16 = .ok (.iconst 1, 1) := by decide +kernel
theorem dX14_is_17 : decode cX14_is 17 = .ok (.goto 4, 3) := by decide +kernel
theorem dX14_is_20 : decode cX14_is 20 = .ok (.iconst 0, 1) := by decide +kernel
theorem dX14_is_21 : decode cX14_is 21 = .ok (.ireturn, 1) := by decide +kernel
theorem dX14_isDigit_0 : decode cX14_isDigit 0 = .ok (.iload_n 0, 1) := by decide +kernel
theorem dX14_isDigit_1 : decode cX14_isDigit 1 = .ok (.bipush 48, 2) := by decide +kernel
theorem dX14_isDigit_3 : decode cX14_isDigit 3 = .ok (.if_icmp .lt 13, 3) := by decide +kernel
theorem dX14_isDigit_6 : decode cX14_isDigit 6 = .ok (.iload_n 0, 1) := by decide +kernel
theorem dX14_isDigit_7 : decode cX14_isDigit 7 = .ok (.bipush 57, 2) := by decide +kernel
theorem dX14_isDigit_9 : decode cX14_isDigit 9 = .ok (.if_icmp .gt 7, 3) := by decide +kernel
theorem dX14_isDigit_12 : decode cX14_isDigit 12 = .ok (.iconst 1, 1) := by decide +kernel
theorem dX14_isDigit_13 : decode cX14_isDigit 13 = .ok (.goto 4, 3) := by decide +kernel
theorem dX14_isDigit_16 : decode cX14_isDigit 16 = .ok (.iconst 0, 1) := by decide +kernel
theorem dX14_isDigit_17 : decode cX14_isDigit 17 = .ok (.ireturn, 1) := by decide +kernel
theorem dX14_isLetter_0 : decode cX14_isLetter 0 = .ok (.iload_n 0, 1) := by decide +kernel
theorem dX14_isLetter_1 : decode cX14_isLetter 1 = .ok (.bipush 97, 2) := by decide +kernel
theorem dX14_isLetter_3 : decode cX14_isLetter 3 = .ok (.if_icmp .lt 13, 3) := by decide +kernel
theorem dX14_isLetter_6 : decode cX14_isLetter 6 = .ok (.iload_n 0, 1) := by decide +kernel
theorem dX14_isLetter_7 : decode cX14_isLetter 7 = .ok (.bipush 122, 2) := by decide +kernel
theorem dX14_isLetter_9 : decode cX14_isLetter 9 = .ok (.if_icmp .gt 7, 3) := by decide +kernel
theorem dX14_isLetter_12 : decode cX14_isLetter 12 = .ok (.iconst 1, 1) := by decide +kernel
theorem dX14_isLetter_13 : decode cX14_isLetter 13 = .ok (.goto 4, 3) := by decide +kernel
theorem dX14_isLetter_16 : decode cX14_isLetter 16 = .ok (.iconst 0, 1) := by decide +kernel
theorem dX14_isLetter_17 : decode cX14_isLetter 17 = .ok (.ireturn, 1) := by decide +kernel
theorem dX14_isName_0 : decode cX14_isName 0 = .ok (.aload_n 0, 1) := by decide +kernel
theorem dX14_isName_1 : decode cX14_isName 1 = .ok (.getfield 157, 3) := by decide +kernel
theorem dX14_isName_4 : decode cX14_isName 4 = .ok (.iconst 2, 1) := by decide +kernel
theorem dX14_isName_5 : decode cX14_isName 5 = .ok (.if_icmp .ne 52, 3) := by decide +kernel
theorem dX14_isName_8 : decode cX14_isName 8 = .ok (.aload_n 0, 1) := by decide +kernel
theorem dX14_isName_9 : decode cX14_isName 9 = .ok (.ldc 181, 2) := by decide +kernel
theorem dX14_isName_11 : decode cX14_isName 11 = .ok (.invokevirtual 183, 3) := by decide +kernel
theorem dX14_isName_14 : decode cX14_isName 14 = .ok (.ifCond .ne 43, 3) := by decide +kernel
theorem dX14_isName_17 : decode cX14_isName 17 = .ok (.aload_n 0, 1) := by decide +kernel
theorem dX14_isName_18 : decode cX14_isName 18 = .ok (.ldc 187, 2) := by decide +kernel
theorem dX14_isName_20 : decode cX14_isName 20 = .ok (.invokevirtual 183, 3) := by decide +kernel
theorem dX14_isName_23 : decode cX14_isName 23 = .ok (.ifCond .ne 34, 3) := by decide +kernel
theorem dX14_isName_26 : decode cX14_isName 26 = .ok (.aload_n 0, 1) := by decide +kernel
theorem dX14_isName_27 : decode cX14_isName 27 = .ok (.ldc 189, 2) := by decide +kernel
theorem dX14_isName_29 : decode cX14_isName 29 = .ok (.invokevirtual 183, 3) := by decide +kernel
theorem dX14_isName_32 : decode cX14_isName 32 = .ok (.ifCond .ne 25, 3) := by decide +kernel
theorem dX14_isName_35 : decode cX14_isName 35 = .ok (.aload_n 0, 1) := by decide +kernel
theorem dX14_isName_36 : decode cX14_isName 36 = .ok (.ldc 191, 2) := by decide +kernel
theorem dX14_isName_38 : decode cX14_isName 38 = .ok (.invokevirtual 183, 3) := by decide +kernel
theorem dX14_isName_41 : decode cX14_isName 41 = .ok (.ifCond .ne 16, 3) := by decide +kernel
theorem dX14_isName_44 : decode cX14_isName 44 = .ok (.aload_n 0, 1) := by decide +kernel
theorem dX14_isName_45 : decode cX14_isName 45 = .ok (.ldc 193, 2) := by decide +kernel
theorem dX14_isName_47 : decode cX14_isName 47 = .ok (.invokevirtual 183, 3) := by decide +kernel
theorem dX14_isName_50 : decode cX14_isName 50 = .ok (.ifCond .ne 7, 3) := by decide +kernel
theorem dX14_isName_53 : decode cX14_isName 53 = .ok (.iconst 1, 1) := by decide +kernel
theorem dX14_isName_54 : decode cX14_isName 54 = .ok (.goto 4, 3) := by decide +kernel
theorem dX14_isName_57 : decode cX14_isName 57 = .ok (.iconst 0, 1) := by decide +kernel
theorem dX14_isName_58 : decode cX14_isName 58 = .ok (.ireturn, 1) := by decide +kernel
theorem dX14_isWord_0 : decode cX14_isWord 0 = .ok (.aload_n 0, 1) := by decide +kernel
theorem dX14_isWord_1 : decode cX14_isWord 1 = .ok (.getfield 157, 3) := by decide +kernel
theorem dX14_isWord_4 : decode cX14_isWord 4 = .ok (.iconst 2, 1) := by decide +kernel
theorem dX14_isWord_5 : decode cX14_isWord 5 = .ok (.if_icmp .ne 19, 3) := by decide +kernel
theorem dX14_isWord_8 : decode cX14_isWord 8 = .ok (.aload_n 0, 1) := by decide +kernel
theorem dX14_isWord_9 : decode cX14_isWord 9 = .ok (.getfield 167, 3) := by decide +kernel
theorem dX14_isWord_12 : decode cX14_isWord 12 = .ok (.aload_n 1, 1) := by decide +kernel
theorem dX14_isWord_13 : decode cX14_isWord 13 = .ok (.invokestatic 177, 3) := by decide +kernel
theorem dX14_isWord_16 : decode cX14_isWord 16 = .ok (.lcmp, 1) := by decide +kernel
theorem dX14_isWord_17 : decode cX14_isWord 17 = .ok (.ifCond .ne 7, 3) := by decide +kernel
theorem dX14_isWord_20 : decode cX14_isWord 20 = .ok (.iconst 1, 1) := by decide +kernel
theorem dX14_isWord_21 : decode cX14_isWord 21 = .ok (.goto 4, 3) := by decide +kernel
theorem dX14_isWord_24 : decode cX14_isWord 24 = .ok (.iconst 0, 1) := by decide +kernel
theorem dX14_isWord_25 : decode cX14_isWord 25 = .ok (.ireturn, 1) := by decide +kernel
theorem dX14_next_0 : decode cX14_next 0 = .ok (.aload_n 0, 1) := by decide +kernel
theorem dX14_next_1 : decode cX14_next 1 = .ok (.aload_n 0, 1) := by decide +kernel
theorem dX14_next_2 : decode cX14_next 2 = .ok (.getfield 150, 3) := by decide +kernel
theorem dX14_next_5 : decode cX14_next 5 = .ok (.invokevirtual 153, 3) := by decide +kernel
theorem dX14_next_8 : decode cX14_next 8 = .ok (.bipush 32, 2) := by decide +kernel
theorem dX14_next_10 : decode cX14_next 10 = .ok (.if_icmp .ne 16, 3) := by decide +kernel
theorem dX14_next_13 : decode cX14_next 13 = .ok (.aload_n 0, 1) := by decide +kernel
theorem dX14_next_14 : decode cX14_next 14 = .ok (.dup, 1) := by decide +kernel
theorem dX14_next_15 : decode cX14_next 15 = .ok (.getfield 150, 3) := by decide +kernel
theorem dX14_next_18 : decode cX14_next 18 = .ok (.iconst 1, 1) := by decide +kernel
theorem dX14_next_19 : decode cX14_next 19 = .ok (.iadd, 1) := by decide +kernel
theorem dX14_next_20 : decode cX14_next 20 = .ok (.putfield 150, 3) := by decide +kernel
theorem dX14_next_23 : decode cX14_next 23 = .ok (.goto (-23), 3) := by decide +kernel
theorem dX14_next_26 : decode cX14_next 26 = .ok (.aload_n 0, 1) := by decide +kernel
theorem dX14_next_27 : decode cX14_next 27 = .ok (.aload_n 0, 1) := by decide +kernel
theorem dX14_next_28 : decode cX14_next 28 = .ok (.getfield 150, 3) := by decide +kernel
theorem dX14_next_31 : decode cX14_next 31 = .ok (.putfield 131, 3) := by decide +kernel
theorem dX14_next_34 : decode cX14_next 34 = .ok (.aload_n 0, 1) := by decide +kernel
theorem dX14_next_35 : decode cX14_next 35 = .ok (.iconst 0, 1) := by decide +kernel
theorem dX14_next_36 : decode cX14_next 36 = .ok (.putfield 157, 3) := by decide +kernel
theorem dX14_next_39 : decode cX14_next 39 = .ok (.aload_n 0, 1) := by decide +kernel
theorem dX14_next_40 : decode cX14_next 40 = .ok (.iconst 0, 1) := by decide +kernel
theorem dX14_next_41 : decode cX14_next 41 = .ok (.putfield 160, 3) := by decide +kernel
theorem dX14_next_44 : decode cX14_next 44 = .ok (.aload_n 0, 1) := by decide +kernel
theorem dX14_next_45 : decode cX14_next 45 = .ok (.aload_n 0, 1) := by decide +kernel
theorem dX14_next_46 : decode cX14_next 46 = .ok (.getfield 150, 3) := by decide +kernel
theorem dX14_next_49 : decode cX14_next 49 = .ok (.invokevirtual 153, 3) := by decide +kernel
theorem dX14_next_52 : decode cX14_next 52 = .ok (.istore_n 1, 1) := by decide +kernel
theorem dX14_next_53 : decode cX14_next 53 = .ok (.iconst 0, 1) := by decide +kernel
theorem dX14_next_54 : decode cX14_next 54 = .ok (.istore_n 2, 1) := by decide +kernel
theorem dX14_next_55 : decode cX14_next 55 = .ok (.iload_n 1, 1) := by decide +kernel
theorem dX14_next_56 : decode cX14_next 56 = .ok (.iconst (-1), 1) := by decide +kernel
theorem dX14_next_57 : decode cX14_next 57 = .ok (.if_icmp .ne 11, 3) := by decide +kernel
theorem dX14_next_60 : decode cX14_next 60 = .ok (.aload_n 0, 1) := by decide +kernel
theorem dX14_next_61 : decode cX14_next 61 = .ok (.iconst 1, 1) := by decide +kernel
theorem dX14_next_62 : decode cX14_next 62 = .ok (.putfield 157, 3) := by decide +kernel
theorem dX14_next_65 : decode cX14_next 65 = .ok (.goto 207, 3) := by decide +kernel
theorem dX14_next_68 : decode cX14_next 68 = .ok (.iload_n 1, 1) := by decide +kernel
theorem dX14_next_69 : decode cX14_next 69 = .ok (.invokestatic 163, 3) := by decide +kernel
theorem dX14_next_72 : decode cX14_next 72 = .ok (.ifCond .eq 85, 3) := by decide +kernel
theorem dX14_next_75 : decode cX14_next 75 = .ok (.aload_n 0, 1) := by decide +kernel
theorem dX14_next_76 : decode cX14_next 76 = .ok (.lconst 0, 1) := by decide +kernel
theorem dX14_next_77 : decode cX14_next 77 = .ok (.putfield 167, 3) := by decide +kernel
theorem dX14_next_80 : decode cX14_next 80 = .ok (.aload_n 0, 1) := by decide +kernel
theorem dX14_next_81 : decode cX14_next 81 = .ok (.aload_n 0, 1) := by decide +kernel
theorem dX14_next_82 : decode cX14_next 82 = .ok (.getfield 150, 3) := by decide +kernel
theorem dX14_next_85 : decode cX14_next 85 = .ok (.invokevirtual 153, 3) := by decide +kernel
theorem dX14_next_88 : decode cX14_next 88 = .ok (.invokestatic 163, 3) := by decide +kernel
theorem dX14_next_91 : decode cX14_next 91 = .ok (.ifCond .eq 52, 3) := by decide +kernel
theorem dX14_next_94 : decode cX14_next 94 = .ok (.iload_n 2, 1) := by decide +kernel
theorem dX14_next_95 : decode cX14_next 95 = .ok (.bipush 8, 2) := by decide +kernel
theorem dX14_next_97 : decode cX14_next 97 = .ok (.if_icmp .ge 30, 3) := by decide +kernel
theorem dX14_next_100 : decode cX14_next 100 = .ok (.aload_n 0, 1) := by decide +kernel
theorem dX14_next_101 : decode cX14_next 101 = .ok (.ldc2_w 144, 3) := by decide +kernel
theorem dX14_next_104 : decode cX14_next 104 = .ok (.aload_n 0, 1) := by decide +kernel
theorem dX14_next_105 : decode cX14_next 105 = .ok (.getfield 167, 3) := by decide +kernel
theorem dX14_next_108 : decode cX14_next 108 = .ok (.lmul, 1) := by decide +kernel
theorem dX14_next_109 : decode cX14_next 109 = .ok (.aload_n 0, 1) := by decide +kernel
theorem dX14_next_110 : decode cX14_next 110 = .ok (.aload_n 0, 1) := by decide +kernel
theorem dX14_next_111 : decode cX14_next 111 = .ok (.getfield 150, 3) := by decide +kernel
theorem dX14_next_114 : decode cX14_next 114 = .ok (.invokevirtual 153, 3) := by decide +kernel
theorem dX14_next_117 : decode cX14_next 117 = .ok (.bipush 97, 2) := by decide +kernel
theorem dX14_next_119 : decode cX14_next 119 = .ok (.isub, 1) := by decide +kernel
theorem dX14_next_120 : decode cX14_next 120 = .ok (.iconst 1, 1) := by decide +kernel
theorem dX14_next_121 : decode cX14_next 121 = .ok (.iadd, 1) := by decide +kernel
theorem dX14_next_122 : decode cX14_next 122 = .ok (.i2l, 1) := by decide +kernel
theorem dX14_next_123 : decode cX14_next 123 = .ok (.ladd, 1) := by decide +kernel
theorem dX14_next_124 : decode cX14_next 124 = .ok (.putfield 167, 3) := by decide +kernel
theorem dX14_next_127 : decode cX14_next 127 = .ok (.iinc 2 1, 3) := by decide +kernel
theorem dX14_next_130 : decode cX14_next 130 = .ok (.aload_n 0, 1) := by decide +kernel
theorem dX14_next_131 : decode cX14_next 131 = .ok (.dup, 1) := by decide +kernel
theorem dX14_next_132 : decode cX14_next 132 = .ok (.getfield 150, 3) := by decide +kernel
theorem dX14_next_135 : decode cX14_next 135 = .ok (.iconst 1, 1) := by decide +kernel
theorem dX14_next_136 : decode cX14_next 136 = .ok (.iadd, 1) := by decide +kernel
theorem dX14_next_137 : decode cX14_next 137 = .ok (.putfield 150, 3) := by decide +kernel
theorem dX14_next_140 : decode cX14_next 140 = .ok (.goto (-60), 3) := by decide +kernel
theorem dX14_next_143 : decode cX14_next 143 = .ok (.iload_n 2, 1) := by decide +kernel
theorem dX14_next_144 : decode cX14_next 144 = .ok (.bipush 8, 2) := by decide +kernel
theorem dX14_next_146 : decode cX14_next 146 = .ok (.if_icmp .gt 126, 3) := by decide +kernel
theorem dX14_next_149 : decode cX14_next 149 = .ok (.aload_n 0, 1) := by decide +kernel
theorem dX14_next_150 : decode cX14_next 150 = .ok (.iconst 2, 1) := by decide +kernel
theorem dX14_next_151 : decode cX14_next 151 = .ok (.putfield 157, 3) := by decide +kernel
theorem dX14_next_154 : decode cX14_next 154 = .ok (.goto 118, 3) := by decide +kernel
theorem dX14_next_157 : decode cX14_next 157 = .ok (.iload_n 1, 1) := by decide +kernel
theorem dX14_next_158 : decode cX14_next 158 = .ok (.invokestatic 171, 3) := by decide +kernel
theorem dX14_next_161 : decode cX14_next 161 = .ok (.ifCond .eq 79, 3) := by decide +kernel
theorem dX14_next_164 : decode cX14_next 164 = .ok (.aload_n 0, 1) := by decide +kernel
theorem dX14_next_165 : decode cX14_next 165 = .ok (.iconst 0, 1) := by decide +kernel
theorem dX14_next_166 : decode cX14_next 166 = .ok (.putfield 174, 3) := by decide +kernel
theorem dX14_next_169 : decode cX14_next 169 = .ok (.aload_n 0, 1) := by decide +kernel
theorem dX14_next_170 : decode cX14_next 170 = .ok (.aload_n 0, 1) := by decide +kernel
theorem dX14_next_171 : decode cX14_next 171 = .ok (.getfield 150, 3) := by decide +kernel
theorem dX14_next_174 : decode cX14_next 174 = .ok (.invokevirtual 153, 3) := by decide +kernel
theorem dX14_next_177 : decode cX14_next 177 = .ok (.invokestatic 171, 3) := by decide +kernel
theorem dX14_next_180 : decode cX14_next 180 = .ok (.ifCond .eq 47, 3) := by decide +kernel
theorem dX14_next_183 : decode cX14_next 183 = .ok (.iload_n 2, 1) := by decide +kernel
theorem dX14_next_184 : decode cX14_next 184 = .ok (.iconst 4, 1) := by decide +kernel
theorem dX14_next_185 : decode cX14_next 185 = .ok (.if_icmp .ge 26, 3) := by decide +kernel
theorem dX14_next_188 : decode cX14_next 188 = .ok (.aload_n 0, 1) := by decide +kernel
theorem dX14_next_189 : decode cX14_next 189 = .ok (.bipush 10, 2) := by decide +kernel
theorem dX14_next_191 : decode cX14_next 191 = .ok (.aload_n 0, 1) := by decide +kernel
theorem dX14_next_192 : decode cX14_next 192 = .ok (.getfield 174, 3) := by decide +kernel
theorem dX14_next_195 : decode cX14_next 195 = .ok (.imul, 1) := by decide +kernel
theorem dX14_next_196 : decode cX14_next 196 = .ok (.aload_n 0, 1) := by decide +kernel
theorem dX14_next_197 : decode cX14_next 197 = .ok (.aload_n 0, 1) := by decide +kernel
theorem dX14_next_198 : decode cX14_next 198 = .ok (.getfield 150, 3) := by decide +kernel
theorem dX14_next_201 : decode cX14_next 201 = .ok (.invokevirtual 153, 3) := by decide +kernel
theorem dX14_next_204 : decode cX14_next 204 = .ok (.iadd, 1) := by decide +kernel
theorem dX14_next_205 : decode cX14_next 205 = .ok (.bipush 48, 2) := by decide +kernel
theorem dX14_next_207 : decode cX14_next 207 = .ok (.isub, 1) := by decide +kernel
theorem dX14_next_208 : decode cX14_next 208 = .ok (.putfield 174, 3) := by decide +kernel
theorem dX14_next_211 : decode cX14_next 211 = .ok (.iinc 2 1, 3) := by decide +kernel
theorem dX14_next_214 : decode cX14_next 214 = .ok (.aload_n 0, 1) := by decide +kernel
theorem dX14_next_215 : decode cX14_next 215 = .ok (.dup, 1) := by decide +kernel
theorem dX14_next_216 : decode cX14_next 216 = .ok (.getfield 150, 3) := by decide +kernel
theorem dX14_next_219 : decode cX14_next 219 = .ok (.iconst 1, 1) := by decide +kernel
theorem dX14_next_220 : decode cX14_next 220 = .ok (.iadd, 1) := by decide +kernel
theorem dX14_next_221 : decode cX14_next 221 = .ok (.putfield 150, 3) := by decide +kernel
theorem dX14_next_224 : decode cX14_next 224 = .ok (.goto (-55), 3) := by decide +kernel
theorem dX14_next_227 : decode cX14_next 227 = .ok (.iload_n 2, 1) := by decide +kernel
theorem dX14_next_228 : decode cX14_next 228 = .ok (.iconst 5, 1) := by decide +kernel
theorem dX14_next_229 : decode cX14_next 229 = .ok (.if_icmp .ge 43, 3) := by decide +kernel
theorem dX14_next_232 : decode cX14_next 232 = .ok (.aload_n 0, 1) := by decide +kernel
theorem dX14_next_233 : decode cX14_next 233 = .ok (.iconst 3, 1) := by decide +kernel
theorem dX14_next_234 : decode cX14_next 234 = .ok (.putfield 157, 3) := by decide +kernel
theorem dX14_next_237 : decode cX14_next 237 = .ok (.goto 35, 3) := by decide +kernel
theorem dX14_next_240 : decode cX14_next 240 = .ok (.iload_n 1, 1) := by decide +kernel
theorem dX14_next_241 : decode cX14_next 241 = .ok (.bipush 59, 2) := by decide +kernel
theorem dX14_next_243 : decode cX14_next 243 = .ok (.if_icmp .eq 9, 3) := by decide +kernel
theorem dX14_next_246 : decode cX14_next 246 = .ok (.iload_n 1, 1) := by decide +kernel
theorem dX14_next_247 : decode cX14_next 247 = .ok (.bipush 45, 2) := by decide +kernel
theorem dX14_next_249 : decode cX14_next 249 = .ok (.if_icmp .ne 23, 3) := by decide +kernel
theorem dX14_next_252 : decode cX14_next 252 = .ok (.aload_n 0, 1) := by decide +kernel
theorem dX14_next_253 : decode cX14_next 253 = .ok (.iconst 4, 1) := by decide +kernel
theorem dX14_next_254 : decode cX14_next 254 = .ok (.putfield 157, 3) := by decide +kernel
theorem dX14_next_257 : decode cX14_next 257 = .ok (.aload_n 0, 1) := by decide +kernel
theorem dX14_next_258 : decode cX14_next 258 = .ok (.iload_n 1, 1) := by decide +kernel
theorem dX14_next_259 : decode cX14_next 259 = .ok (.putfield 160, 3) := by decide +kernel
theorem dX14_next_262 : decode cX14_next 262 = .ok (.aload_n 0, 1) := by decide +kernel
theorem dX14_next_263 : decode cX14_next 263 = .ok (.dup, 1) := by decide +kernel
theorem dX14_next_264 : decode cX14_next 264 = .ok (.getfield 150, 3) := by decide +kernel
theorem dX14_next_267 : decode cX14_next 267 = .ok (.iconst 1, 1) := by decide +kernel
theorem dX14_next_268 : decode cX14_next 268 = .ok (.iadd, 1) := by decide +kernel
theorem dX14_next_269 : decode cX14_next 269 = .ok (.putfield 150, 3) := by decide +kernel
theorem dX14_next_272 : decode cX14_next 272 = .ok (.return_, 1) := by decide +kernel
theorem dX14_stop_0 : decode cX14_stop 0 = .ok (.aload_n 0, 1) := by decide +kernel
theorem dX14_stop_1 : decode cX14_stop 1 = .ok (.getfield 20, 3) := by decide +kernel
theorem dX14_stop_4 : decode cX14_stop 4 = .ok (.iload_n 1, 1) := by decide +kernel
theorem dX14_stop_5 : decode cX14_stop 5 = .ok (.putfield 128, 3) := by decide +kernel
theorem dX14_stop_8 : decode cX14_stop 8 = .ok (.aload_n 0, 1) := by decide +kernel
theorem dX14_stop_9 : decode cX14_stop 9 = .ok (.getfield 20, 3) := by decide +kernel
theorem dX14_stop_12 : decode cX14_stop 12 = .ok (.aload_n 0, 1) := by decide +kernel
theorem dX14_stop_13 : decode cX14_stop 13 = .ok (.getfield 131, 3) := by decide +kernel
theorem dX14_stop_16 : decode cX14_stop 16 = .ok (.putfield 134, 3) := by decide +kernel
theorem dX14_stop_19 : decode cX14_stop 19 = .ok (.aload_n 0, 1) := by decide +kernel
theorem dX14_stop_20 : decode cX14_stop 20 = .ok (.getfield 20, 3) := by decide +kernel
theorem dX14_stop_23 : decode cX14_stop 23 = .ok (.areturn, 1) := by decide +kernel
theorem and255 (x : Int32) : 0 ≤ (x &&& 255).toInt ∧ (x &&& 255).toInt < 256 := by
  have h : (x &&& 255).toBitVec = x.toBitVec &&& 255#32 := rfl
  have h1 : (x.toBitVec &&& 255#32).toNat ≤ 255 := by
    rw [BitVec.toNat_and]
    exact Nat.and_le_right
  have h2 : (x &&& 255).toInt = ((x.toBitVec &&& 255#32).toNat : Int) := by
    show (x &&& 255).toBitVec.toInt = _
    rw [h, BitVec.toInt_eq_toNat_of_lt (by omega)]
  omega
def byF (f : Nat → Int32) (n k : Nat) : Int32 := if k < n then f k &&& 255 else -1
theorem by_or {f : Nat → Int32} {n k : Nat} {r : Int32} (h : r = byF f n k) : (r.toInt = -1 ∧ n ≤ k) ∨ (k < n ∧ 0 ≤ r.toInt ∧ r.toInt < 256) := by
  unfold byF at h
  by_cases c : k < n
  · rw [if_pos c] at h; rw [h]; have := and255 (f k); omega
  · rw [if_neg c] at h; rw [h]; left; exact ⟨rfl, by omega⟩
set_option maxHeartbeats 4000000 in
set_option maxRecDepth 100000 in
theorem m_byteAt (l : Launch) (dC : Nat → ClassId) (dI : Nat → Nat → Nat) (n0 : Nat) (atx : Nat → Nat × Nat) (sz : Nat) (m0 : Nat) (m0_thrown : Int32) (m0_power : Nat) (m0_trouble : Int32) (m0_where : Int32) (m0_fault : Int32) (bv : Value) (fb : Nat) (sp : Nat) (m0_tape : Nat) (m0_taped : Int32) (n1 : Nat) (a1 : Nat) (s1 : Int32) (p1 : Nat) (m1 : Int32) (u1 : Int32) (w1 : Int64) (m0_isOpen : Nat) (m0_isFallen : Nat) (m0_speed : Nat) (m0_fire : Nat) (m0_most : Int32) (m0_hindered : Int32) (m0_hinderedBy : Int32) (m0_air : Nat) (m0_cameBy : Nat) (m0_least : Nat) (m0_before : Nat) (m0_gas : Nat) (m0_into : Nat) (m0_rest : Nat) (m0_isTold : Nat) (m0_isPast : Nat) (m0_kept : Nat) (m0_smoke : Nat) (m0_early : Nat) (m0_men : Int32) (m0_manAt : Nat) (m0_changes : Int32) (m0_changeKind : Nat) (m0_changeOf : Nat) (m0_changeTo : Nat) (m0_row : Nat) (m0_openWas : Nat) (m0_fallenWas : Nat) (m0_speedWas : Nat) (m0_readings : Int32) (m0_readingOf : Nat) (m0_low : Nat) (m0_high : Nat) (m0_back : Nat) (k_m0_tape : ClassId) (f_m0_tape : Nat → Int32) (k : Nat) (h_n : n1 ≤ 600) (hk : k ≤ 600) : Met l yX14_byteAt (wM yX14_byteAt cX14_byteAt 2 (some .int)) ({ frames := 0, cells := 0, slots := 0, locals := 0 }) (va_Pc [.ref m0, .int (nI k)] (fun U => U.heap.size = sz ∧ n0 ≤ sz ∧ GW n0 atx U ∧ va_P (dC, dI) classes [(m0, .inr (14, fX14 (.int m0_thrown) (.ref m0_power) (.int m0_trouble) (.int m0_where) (.int m0_fault) bv (.ref fb) (.ref sp) (.ref m0_tape) (.int m0_taped) (.int (nI n1)) (.int (nI a1)) (.int s1) (.int (nI p1)) (.int m1) (.int u1) (.long w1) (.ref m0_isOpen) (.ref m0_isFallen) (.ref m0_speed) (.ref m0_fire) (.int m0_most) (.int m0_hindered) (.int m0_hinderedBy) (.ref m0_air) (.ref m0_cameBy) (.ref m0_least) (.ref m0_before) (.ref m0_gas) (.ref m0_into) (.ref m0_rest) (.ref m0_isTold) (.ref m0_isPast) (.ref m0_kept) (.ref m0_smoke) (.ref m0_early) (.int m0_men) (.ref m0_manAt) (.int m0_changes) (.ref m0_changeKind) (.ref m0_changeOf) (.ref m0_changeTo) (.ref m0_row) (.ref m0_openWas) (.ref m0_fallenWas) (.ref m0_speedWas) (.int m0_readings) (.ref m0_readingOf) (.ref m0_low) (.ref m0_high) (.ref m0_back))), (m0_tape, .inl (k_m0_tape, 600, .inl f_m0_tape))] U.heap ∧ va_K (dC, dI) classes [(k_m0_tape, .byte)] U ∧ va_D (fun q => n0 ≤ q) [(m0, .inr (14, fX14 (.int m0_thrown) (.ref m0_power) (.int m0_trouble) (.int m0_where) (.int m0_fault) bv (.ref fb) (.ref sp) (.ref m0_tape) (.int m0_taped) (.int (nI n1)) (.int (nI a1)) (.int s1) (.int (nI p1)) (.int m1) (.int u1) (.long w1) (.ref m0_isOpen) (.ref m0_isFallen) (.ref m0_speed) (.ref m0_fire) (.int m0_most) (.int m0_hindered) (.int m0_hinderedBy) (.ref m0_air) (.ref m0_cameBy) (.ref m0_least) (.ref m0_before) (.ref m0_gas) (.ref m0_into) (.ref m0_rest) (.ref m0_isTold) (.ref m0_isPast) (.ref m0_kept) (.ref m0_smoke) (.ref m0_early) (.int m0_men) (.ref m0_manAt) (.int m0_changes) (.ref m0_changeKind) (.ref m0_changeOf) (.ref m0_changeTo) (.ref m0_row) (.ref m0_openWas) (.ref m0_fallenWas) (.ref m0_speedWas) (.int m0_readings) (.ref m0_readingOf) (.ref m0_low) (.ref m0_high) (.ref m0_back))), (m0_tape, .inl (k_m0_tape, 600, .inl f_m0_tape))])) (va_Qi (fun (r : Int32) (_ : Unit) => r = byF f_m0_tape n1 k) (fun (_ : Unit) (t : State) => va_P (dC, dI) classes [(m0, .inr (14, fX14 (.int m0_thrown) (.ref m0_power) (.int m0_trouble) (.int m0_where) (.int m0_fault) bv (.ref fb) (.ref sp) (.ref m0_tape) (.int m0_taped) (.int (nI n1)) (.int (nI a1)) (.int s1) (.int (nI p1)) (.int m1) (.int u1) (.long w1) (.ref m0_isOpen) (.ref m0_isFallen) (.ref m0_speed) (.ref m0_fire) (.int m0_most) (.int m0_hindered) (.int m0_hinderedBy) (.ref m0_air) (.ref m0_cameBy) (.ref m0_least) (.ref m0_before) (.ref m0_gas) (.ref m0_into) (.ref m0_rest) (.ref m0_isTold) (.ref m0_isPast) (.ref m0_kept) (.ref m0_smoke) (.ref m0_early) (.int m0_men) (.ref m0_manAt) (.int m0_changes) (.ref m0_changeKind) (.ref m0_changeOf) (.ref m0_changeTo) (.ref m0_row) (.ref m0_openWas) (.ref m0_fallenWas) (.ref m0_speedWas) (.int m0_readings) (.ref m0_readingOf) (.ref m0_low) (.ref m0_high) (.ref m0_back))), (m0_tape, .inl (k_m0_tape, 600, .inl f_m0_tape))] t.heap ∧ va_K (dC, dI) classes [(k_m0_tape, .byte)] t ∧ va_D (va_A [(m0, .inr (14, fX14 (.int m0_thrown) (.ref m0_power) (.int m0_trouble) (.int m0_where) (.int m0_fault) bv (.ref fb) (.ref sp) (.ref m0_tape) (.int m0_taped) (.int (nI n1)) (.int (nI a1)) (.int s1) (.int (nI p1)) (.int m1) (.int u1) (.long w1) (.ref m0_isOpen) (.ref m0_isFallen) (.ref m0_speed) (.ref m0_fire) (.int m0_most) (.int m0_hindered) (.int m0_hinderedBy) (.ref m0_air) (.ref m0_cameBy) (.ref m0_least) (.ref m0_before) (.ref m0_gas) (.ref m0_into) (.ref m0_rest) (.ref m0_isTold) (.ref m0_isPast) (.ref m0_kept) (.ref m0_smoke) (.ref m0_early) (.int m0_men) (.ref m0_manAt) (.int m0_changes) (.ref m0_changeKind) (.ref m0_changeOf) (.ref m0_changeTo) (.ref m0_row) (.ref m0_openWas) (.ref m0_fallenWas) (.ref m0_speedWas) (.int m0_readings) (.ref m0_readingOf) (.ref m0_low) (.ref m0_high) (.ref m0_back))), (m0_tape, .inl (k_m0_tape, 600, .inl f_m0_tape))] sz) [(m0, .inr (14, fX14 (.int m0_thrown) (.ref m0_power) (.int m0_trouble) (.int m0_where) (.int m0_fault) bv (.ref fb) (.ref sp) (.ref m0_tape) (.int m0_taped) (.int (nI n1)) (.int (nI a1)) (.int s1) (.int (nI p1)) (.int m1) (.int u1) (.long w1) (.ref m0_isOpen) (.ref m0_isFallen) (.ref m0_speed) (.ref m0_fire) (.int m0_most) (.int m0_hindered) (.int m0_hinderedBy) (.ref m0_air) (.ref m0_cameBy) (.ref m0_least) (.ref m0_before) (.ref m0_gas) (.ref m0_into) (.ref m0_rest) (.ref m0_isTold) (.ref m0_isPast) (.ref m0_kept) (.ref m0_smoke) (.ref m0_early) (.int m0_men) (.ref m0_manAt) (.int m0_changes) (.ref m0_changeKind) (.ref m0_changeOf) (.ref m0_changeTo) (.ref m0_row) (.ref m0_openWas) (.ref m0_fallenWas) (.ref m0_speedWas) (.int m0_readings) (.ref m0_readingOf) (.ref m0_low) (.ref m0_high) (.ref m0_back))), (m0_tape, .inl (k_m0_tape, 600, .inl f_m0_tape))]) (va_A [(m0, .inr (14, fX14 (.int m0_thrown) (.ref m0_power) (.int m0_trouble) (.int m0_where) (.int m0_fault) bv (.ref fb) (.ref sp) (.ref m0_tape) (.int m0_taped) (.int (nI n1)) (.int (nI a1)) (.int s1) (.int (nI p1)) (.int m1) (.int u1) (.long w1) (.ref m0_isOpen) (.ref m0_isFallen) (.ref m0_speed) (.ref m0_fire) (.int m0_most) (.int m0_hindered) (.int m0_hinderedBy) (.ref m0_air) (.ref m0_cameBy) (.ref m0_least) (.ref m0_before) (.ref m0_gas) (.ref m0_into) (.ref m0_rest) (.ref m0_isTold) (.ref m0_isPast) (.ref m0_kept) (.ref m0_smoke) (.ref m0_early) (.int m0_men) (.ref m0_manAt) (.int m0_changes) (.ref m0_changeKind) (.ref m0_changeOf) (.ref m0_changeTo) (.ref m0_row) (.ref m0_openWas) (.ref m0_fallenWas) (.ref m0_speedWas) (.int m0_readings) (.ref m0_readingOf) (.ref m0_low) (.ref m0_high) (.ref m0_back))), (m0_tape, .inl (k_m0_tape, 600, .inl f_m0_tape))] sz)) 0 0 (va_A [(m0, .inr (14, fX14 (.int m0_thrown) (.ref m0_power) (.int m0_trouble) (.int m0_where) (.int m0_fault) bv (.ref fb) (.ref sp) (.ref m0_tape) (.int m0_taped) (.int (nI n1)) (.int (nI a1)) (.int s1) (.int (nI p1)) (.int m1) (.int u1) (.long w1) (.ref m0_isOpen) (.ref m0_isFallen) (.ref m0_speed) (.ref m0_fire) (.int m0_most) (.int m0_hindered) (.int m0_hinderedBy) (.ref m0_air) (.ref m0_cameBy) (.ref m0_least) (.ref m0_before) (.ref m0_gas) (.ref m0_into) (.ref m0_rest) (.ref m0_isTold) (.ref m0_isPast) (.ref m0_kept) (.ref m0_smoke) (.ref m0_early) (.int m0_men) (.ref m0_manAt) (.int m0_changes) (.ref m0_changeKind) (.ref m0_changeOf) (.ref m0_changeTo) (.ref m0_row) (.ref m0_openWas) (.ref m0_fallenWas) (.ref m0_speedWas) (.int m0_readings) (.ref m0_readingOf) (.ref m0_low) (.ref m0_high) (.ref m0_back))), (m0_tape, .inl (k_m0_tape, 600, .inl f_m0_tape))] sz) := by
  refine Met.ofW (cc := cX14_byteAt) (maxL := 2) (ret := (some .int)) (by decide) rfl ?_
  intro p e s m args below meth c s₁ B hml hv
  obtain ⟨rfl, hsz, hn0, hG, hP, hK, hD0⟩ := hv
  have hx := B.exec
  have hb := B.bytes
  have hr := B.returns
  have hts := atoms_spec (ws := wM yX14_byteAt cX14_byteAt 2 (some .int)) B.pre
  have hown : s.vm.findClass RX14 = some m.cls := findClass_of_methodNamed B.named
  have hlocks := B.notSynchronized
  subst hsz
  have hD := hD0.self (sz := s.heap.size)
  have hA0 := vA_n0 hD0 hn0
  generalize hAe : va_A [(m0, .inr (14, fX14 (.int m0_thrown) (.ref m0_power) (.int m0_trouble) (.int m0_where) (.int m0_fault) bv (.ref fb) (.ref sp) (.ref m0_tape) (.int m0_taped) (.int (nI n1)) (.int (nI a1)) (.int s1) (.int (nI p1)) (.int m1) (.int u1) (.long w1) (.ref m0_isOpen) (.ref m0_isFallen) (.ref m0_speed) (.ref m0_fire) (.int m0_most) (.int m0_hindered) (.int m0_hinderedBy) (.ref m0_air) (.ref m0_cameBy) (.ref m0_least) (.ref m0_before) (.ref m0_gas) (.ref m0_into) (.ref m0_rest) (.ref m0_isTold) (.ref m0_isPast) (.ref m0_kept) (.ref m0_smoke) (.ref m0_early) (.int m0_men) (.ref m0_manAt) (.int m0_changes) (.ref m0_changeKind) (.ref m0_changeOf) (.ref m0_changeTo) (.ref m0_row) (.ref m0_openWas) (.ref m0_fallenWas) (.ref m0_speedWas) (.int m0_readings) (.ref m0_readingOf) (.ref m0_low) (.ref m0_high) (.ref m0_back))), (m0_tape, .inl (k_m0_tape, 600, .inl f_m0_tape))] s.heap.size = A at hD hA0 ⊢
  have hA : ∀ q : Nat, s.heap.size ≤ q → A q := fun q h => by rw [← hAe]; exact Or.inr h
  have hS : va_S A s.heap s.heap [] := va_S.rf
  have hl := lv_entry ([.ref m0, .int (nI k)]) (n := 2) (Nat.le_of_ble_eq_true rfl)
  rw [lg_entry_eq]
  generalize (lg_sl ([.ref m0, .int (nI k)]) ++ List.replicate (2 - (lg_sl ([.ref m0, .int (nI k)])).length) Slot.unset).toArray = ls at hl ⊢
  have hl : lv_has ls 2 [(0, .ref m0), (1, .int (nI k))] := hl
  refine lv_iload_n hx hb dX14_byteAt_0 rfl (lv_at hl 1 rfl) ?_
  refine lv_aload_n hx hb dX14_byteAt_1 rfl (lv_at hl 0 rfl) ?_
  refine va_get (D := (dC, dI)) (ci := 14) (v := .int (nI n1)) (C := RX14) (T := TX14) (N := 51) hx hb hts (fun w h => wM_c (iX14 w h)) hown hK hP 0 rfl rfl 10 (by decide) (hts _ (wM_c wd_1463)) (fun _ h9 => h9) rfl dX14_byteAt_2 ?_
  refine lv_icmp_ge (tgt := 21) hx hb dX14_byteAt_5 (by decide) (fun c_1 => ?_) (fun c_1 => ?_)
  · skip
    have g_2 := n_ge (a := k) (b := n1) c_1 (by omega) (by omega)
    refine lv_iconst (v := (-1)) hx hb dX14_byteAt_21 (by decide) ?_
    have hK9 := hK.sub (tys' := [(k_m0_tape, .byte)]) [0] rfl
    exact W.iret (v := (-1)) hx hb hr (fun t ht hW => ⟨⟨(-1), (), rfl, (by unfold byF; rw [if_neg (by omega)]), by rw [ht]; exact hP.sub [0, 1] rfl, va_K.moved hW.alike hK9, hD.sub [0, 1] (by decide) rfl⟩, hS.F ht⟩) hS.2.2 dX14_byteAt_22
  · skip
    have g_3 := n_nge (a := k) (b := n1) c_1 (by omega) (by omega)
    refine lv_aload_n hx hb dX14_byteAt_8 rfl (lv_at hl 0 rfl) ?_
    refine va_get (D := (dC, dI)) (ci := 14) (v := .ref m0_tape) (C := RX14) (T := TX14) (N := 51) hx hb hts (fun w h => wM_c (iX14 w h)) hown hK hP 0 rfl rfl 8 (by decide) (hts _ (wM_c wd_1461)) (fun _ h9 => h9) rfl dX14_byteAt_9 ?_
    refine lv_iload_n hx hb dX14_byteAt_12 rfl (lv_at hl 1 rfl) ?_
    refine va_bald hx hb hK hP 1 0 rfl rfl (vp_in_nI (n := k) (by omega) (by omega)) dX14_byteAt_13 ?_
    refine lv_topi (fun v_4 ev_4 => ?_)
    have nv_4 : v_4 = f_m0_tape k := by rw [ev_4]; exact congrArg _ (nI_clamp (by omega))
    refine lv_sipush (v := 255) hx hb dX14_byteAt_14 (by decide) ?_
    refine lv_iand hx hb dX14_byteAt_17 ?_
    refine lv_topi (fun v_5 ev_5 => ?_)
    refine lv_goto (tgt := 22) hx hb dX14_byteAt_18 (by decide) ?_
    have hK9 := hK.sub (tys' := [(k_m0_tape, .byte)]) [0] rfl
    exact W.iret (v := v_5) hx hb hr (fun t ht hW => ⟨⟨v_5, (), rfl, (by unfold byF; rw [if_pos (by omega), ev_5, nv_4]), by rw [ht]; exact hP.sub [0, 1] rfl, va_K.moved hW.alike hK9, hD.sub [0, 1] (by decide) rfl⟩, hS.F ht⟩) hS.2.2 dX14_byteAt_22
set_option maxHeartbeats 4000000 in
set_option maxRecDepth 100000 in
theorem m_isLetter (l : Launch) (dC : Nat → ClassId) (dI : Nat → Nat → Nat) (n0 : Nat) (atx : Nat → Nat × Nat) (sz : Nat) (b : Int32) : Met l yX14_isLetter (wM yX14_isLetter cX14_isLetter 1 (some .boolean)) ({ frames := 0, cells := 0, slots := 0, locals := 0 }) (va_Pc [.int b] (fun U => U.heap.size = sz ∧ n0 ≤ sz ∧ GW n0 atx U ∧ va_P (dC, dI) classes [] U.heap ∧ va_K (dC, dI) classes [] U ∧ va_D (fun q => n0 ≤ q) [])) (va_Qi (fun (r : Int32) (_ : Unit) => (r = 1 ∧ 97 ≤ b.toInt ∧ b.toInt ≤ 122) ∨ (r = 0 ∧ ¬ (97 ≤ b.toInt ∧ b.toInt ≤ 122))) (fun (_ : Unit) (t : State) => va_P (dC, dI) classes [] t.heap ∧ va_K (dC, dI) classes [] t ∧ va_D (va_A [] sz) []) (va_A [] sz)) 0 0 (va_A [] sz) := by
  refine Met.ofW (cc := cX14_isLetter) (maxL := 1) (ret := (some .boolean)) (by decide) rfl ?_
  intro p e s m args below meth c s₁ B hml hv
  obtain ⟨rfl, hsz, hn0, hG, hP, hK, hD0⟩ := hv
  have hx := B.exec
  have hb := B.bytes
  have hr := B.returns
  have hts := atoms_spec (ws := wM yX14_isLetter cX14_isLetter 1 (some .boolean)) B.pre
  have hown : s.vm.findClass RX14 = some m.cls := findClass_of_methodNamed B.named
  have hlocks := B.notSynchronized
  subst hsz
  have hD := hD0.self (sz := s.heap.size)
  have hA0 := vA_n0 hD0 hn0
  generalize hAe : va_A [] s.heap.size = A at hD hA0 ⊢
  have hA : ∀ q : Nat, s.heap.size ≤ q → A q := fun q h => by rw [← hAe]; exact Or.inr h
  have hS : va_S A s.heap s.heap [] := va_S.rf
  have hl := lv_entry ([.int b]) (n := 1) (Nat.le_of_ble_eq_true rfl)
  rw [lg_entry_eq]
  generalize (lg_sl ([.int b]) ++ List.replicate (1 - (lg_sl ([.int b])).length) Slot.unset).toArray = ls at hl ⊢
  have hl : lv_has ls 1 [(0, .int b)] := hl
  refine lv_iload_n hx hb dX14_isLetter_0 rfl (lv_at hl 0 rfl) ?_
  refine lv_bipush (v := 97) hx hb dX14_isLetter_1 (by decide) ?_
  refine lv_icmp_lt (tgt := 16) hx hb dX14_isLetter_3 (by decide) (fun c_1 => ?_) (fun c_1 => ?_)
  · skip
    have g_2 : b.toInt < (97 : Int) := i_lt c_1
    refine lv_iconst (v := 0) hx hb dX14_isLetter_16 (by decide) ?_
    have hK9 := hK.sub (tys' := []) [] rfl
    exact W.zret (v := 0) hx hb hr rfl (fun t ht hW => ⟨⟨0, (), rfl, (Or.inr ⟨rfl, by omega⟩), by rw [ht]; exact hP.sub [] rfl, va_K.moved hW.alike hK9, hD.sub [] (by decide) rfl⟩, hS.F ht⟩) hS.2.2 dX14_isLetter_17
  · skip
    have g_3 : (97 : Int) ≤ b.toInt := i_nlt c_1
    refine lv_iload_n hx hb dX14_isLetter_6 rfl (lv_at hl 0 rfl) ?_
    refine lv_bipush (v := 122) hx hb dX14_isLetter_7 (by decide) ?_
    refine lv_icmp_gt (tgt := 16) hx hb dX14_isLetter_9 (by decide) (fun c_4 => ?_) (fun c_4 => ?_)
    · skip
      have g_5 : (122 : Int) < b.toInt := i_lt c_4
      refine lv_iconst (v := 0) hx hb dX14_isLetter_16 (by decide) ?_
      have hK9 := hK.sub (tys' := []) [] rfl
      exact W.zret (v := 0) hx hb hr rfl (fun t ht hW => ⟨⟨0, (), rfl, (Or.inr ⟨rfl, by omega⟩), by rw [ht]; exact hP.sub [] rfl, va_K.moved hW.alike hK9, hD.sub [] (by decide) rfl⟩, hS.F ht⟩) hS.2.2 dX14_isLetter_17
    · skip
      have g_6 : b.toInt ≤ (122 : Int) := i_nlt c_4
      refine lv_iconst (v := 1) hx hb dX14_isLetter_12 (by decide) ?_
      refine lv_goto (tgt := 17) hx hb dX14_isLetter_13 (by decide) ?_
      have hK9 := hK.sub (tys' := []) [] rfl
      exact W.zret (v := 1) hx hb hr rfl (fun t ht hW => ⟨⟨1, (), rfl, (Or.inl ⟨rfl, by omega, by omega⟩), by rw [ht]; exact hP.sub [] rfl, va_K.moved hW.alike hK9, hD.sub [] (by decide) rfl⟩, hS.F ht⟩) hS.2.2 dX14_isLetter_17
set_option maxHeartbeats 4000000 in
set_option maxRecDepth 100000 in
theorem m_isDigit (l : Launch) (dC : Nat → ClassId) (dI : Nat → Nat → Nat) (n0 : Nat) (atx : Nat → Nat × Nat) (sz : Nat) (b : Int32) : Met l yX14_isDigit (wM yX14_isDigit cX14_isDigit 1 (some .boolean)) ({ frames := 0, cells := 0, slots := 0, locals := 0 }) (va_Pc [.int b] (fun U => U.heap.size = sz ∧ n0 ≤ sz ∧ GW n0 atx U ∧ va_P (dC, dI) classes [] U.heap ∧ va_K (dC, dI) classes [] U ∧ va_D (fun q => n0 ≤ q) [])) (va_Qi (fun (r : Int32) (_ : Unit) => (r = 1 ∧ 48 ≤ b.toInt ∧ b.toInt ≤ 57) ∨ (r = 0 ∧ ¬ (48 ≤ b.toInt ∧ b.toInt ≤ 57))) (fun (_ : Unit) (t : State) => va_P (dC, dI) classes [] t.heap ∧ va_K (dC, dI) classes [] t ∧ va_D (va_A [] sz) []) (va_A [] sz)) 0 0 (va_A [] sz) := by
  refine Met.ofW (cc := cX14_isDigit) (maxL := 1) (ret := (some .boolean)) (by decide) rfl ?_
  intro p e s m args below meth c s₁ B hml hv
  obtain ⟨rfl, hsz, hn0, hG, hP, hK, hD0⟩ := hv
  have hx := B.exec
  have hb := B.bytes
  have hr := B.returns
  have hts := atoms_spec (ws := wM yX14_isDigit cX14_isDigit 1 (some .boolean)) B.pre
  have hown : s.vm.findClass RX14 = some m.cls := findClass_of_methodNamed B.named
  have hlocks := B.notSynchronized
  subst hsz
  have hD := hD0.self (sz := s.heap.size)
  have hA0 := vA_n0 hD0 hn0
  generalize hAe : va_A [] s.heap.size = A at hD hA0 ⊢
  have hA : ∀ q : Nat, s.heap.size ≤ q → A q := fun q h => by rw [← hAe]; exact Or.inr h
  have hS : va_S A s.heap s.heap [] := va_S.rf
  have hl := lv_entry ([.int b]) (n := 1) (Nat.le_of_ble_eq_true rfl)
  rw [lg_entry_eq]
  generalize (lg_sl ([.int b]) ++ List.replicate (1 - (lg_sl ([.int b])).length) Slot.unset).toArray = ls at hl ⊢
  have hl : lv_has ls 1 [(0, .int b)] := hl
  refine lv_iload_n hx hb dX14_isDigit_0 rfl (lv_at hl 0 rfl) ?_
  refine lv_bipush (v := 48) hx hb dX14_isDigit_1 (by decide) ?_
  refine lv_icmp_lt (tgt := 16) hx hb dX14_isDigit_3 (by decide) (fun c_1 => ?_) (fun c_1 => ?_)
  · skip
    have g_2 : b.toInt < (48 : Int) := i_lt c_1
    refine lv_iconst (v := 0) hx hb dX14_isDigit_16 (by decide) ?_
    have hK9 := hK.sub (tys' := []) [] rfl
    exact W.zret (v := 0) hx hb hr rfl (fun t ht hW => ⟨⟨0, (), rfl, (Or.inr ⟨rfl, by omega⟩), by rw [ht]; exact hP.sub [] rfl, va_K.moved hW.alike hK9, hD.sub [] (by decide) rfl⟩, hS.F ht⟩) hS.2.2 dX14_isDigit_17
  · skip
    have g_3 : (48 : Int) ≤ b.toInt := i_nlt c_1
    refine lv_iload_n hx hb dX14_isDigit_6 rfl (lv_at hl 0 rfl) ?_
    refine lv_bipush (v := 57) hx hb dX14_isDigit_7 (by decide) ?_
    refine lv_icmp_gt (tgt := 16) hx hb dX14_isDigit_9 (by decide) (fun c_4 => ?_) (fun c_4 => ?_)
    · skip
      have g_5 : (57 : Int) < b.toInt := i_lt c_4
      refine lv_iconst (v := 0) hx hb dX14_isDigit_16 (by decide) ?_
      have hK9 := hK.sub (tys' := []) [] rfl
      exact W.zret (v := 0) hx hb hr rfl (fun t ht hW => ⟨⟨0, (), rfl, (Or.inr ⟨rfl, by omega⟩), by rw [ht]; exact hP.sub [] rfl, va_K.moved hW.alike hK9, hD.sub [] (by decide) rfl⟩, hS.F ht⟩) hS.2.2 dX14_isDigit_17
    · skip
      have g_6 : b.toInt ≤ (57 : Int) := i_nlt c_4
      refine lv_iconst (v := 1) hx hb dX14_isDigit_12 (by decide) ?_
      refine lv_goto (tgt := 17) hx hb dX14_isDigit_13 (by decide) ?_
      have hK9 := hK.sub (tys' := []) [] rfl
      exact W.zret (v := 1) hx hb hr rfl (fun t ht hW => ⟨⟨1, (), rfl, (Or.inl ⟨rfl, by omega, by omega⟩), by rw [ht]; exact hP.sub [] rfl, va_K.moved hW.alike hK9, hD.sub [] (by decide) rfl⟩, hS.F ht⟩) hS.2.2 dX14_isDigit_17
set_option maxHeartbeats 4000000 in
set_option maxRecDepth 100000 in
theorem m_isWord (l : Launch) (dC : Nat → ClassId) (dI : Nat → Nat → Nat) (n0 : Nat) (atx : Nat → Nat × Nat) (sz : Nat) (m0 : Nat) (m0_thrown : Int32) (m0_power : Nat) (m0_trouble : Int32) (m0_where : Int32) (m0_fault : Int32) (bv : Value) (fb : Nat) (sp : Nat) (m0_tape : Nat) (m0_taped : Int32) (n1 : Nat) (a1 : Nat) (s1 : Int32) (p1 : Nat) (m1 : Int32) (u1 : Int32) (w1 : Int64) (m0_isOpen : Nat) (m0_isFallen : Nat) (m0_speed : Nat) (m0_fire : Nat) (m0_most : Int32) (m0_hindered : Int32) (m0_hinderedBy : Int32) (m0_air : Nat) (m0_cameBy : Nat) (m0_least : Nat) (m0_before : Nat) (m0_gas : Nat) (m0_into : Nat) (m0_rest : Nat) (m0_isTold : Nat) (m0_isPast : Nat) (m0_kept : Nat) (m0_smoke : Nat) (m0_early : Nat) (m0_men : Int32) (m0_manAt : Nat) (m0_changes : Int32) (m0_changeKind : Nat) (m0_changeOf : Nat) (m0_changeTo : Nat) (m0_row : Nat) (m0_openWas : Nat) (m0_fallenWas : Nat) (m0_speedWas : Nat) (m0_readings : Int32) (m0_readingOf : Nat) (m0_low : Nat) (m0_high : Nat) (m0_back : Nat) (ti : Nat) (hti : ti < 34) : Met l yX14_isWord (wM yX14_isWord cX14_isWord 2 (some .boolean)) ({ frames := 5, cells := 0, slots := 0, locals := 108 }) (va_Pc [.ref m0, .ref (atx ti).1] (fun U => U.heap.size = sz ∧ n0 ≤ sz ∧ GW n0 atx U ∧ va_P (dC, dI) classes [(m0, .inr (14, fX14 (.int m0_thrown) (.ref m0_power) (.int m0_trouble) (.int m0_where) (.int m0_fault) bv (.ref fb) (.ref sp) (.ref m0_tape) (.int m0_taped) (.int (nI n1)) (.int (nI a1)) (.int s1) (.int (nI p1)) (.int m1) (.int u1) (.long w1) (.ref m0_isOpen) (.ref m0_isFallen) (.ref m0_speed) (.ref m0_fire) (.int m0_most) (.int m0_hindered) (.int m0_hinderedBy) (.ref m0_air) (.ref m0_cameBy) (.ref m0_least) (.ref m0_before) (.ref m0_gas) (.ref m0_into) (.ref m0_rest) (.ref m0_isTold) (.ref m0_isPast) (.ref m0_kept) (.ref m0_smoke) (.ref m0_early) (.int m0_men) (.ref m0_manAt) (.int m0_changes) (.ref m0_changeKind) (.ref m0_changeOf) (.ref m0_changeTo) (.ref m0_row) (.ref m0_openWas) (.ref m0_fallenWas) (.ref m0_speedWas) (.int m0_readings) (.ref m0_readingOf) (.ref m0_low) (.ref m0_high) (.ref m0_back)))] U.heap ∧ va_K (dC, dI) classes [] U ∧ va_D (fun q => n0 ≤ q) [(m0, .inr (14, fX14 (.int m0_thrown) (.ref m0_power) (.int m0_trouble) (.int m0_where) (.int m0_fault) bv (.ref fb) (.ref sp) (.ref m0_tape) (.int m0_taped) (.int (nI n1)) (.int (nI a1)) (.int s1) (.int (nI p1)) (.int m1) (.int u1) (.long w1) (.ref m0_isOpen) (.ref m0_isFallen) (.ref m0_speed) (.ref m0_fire) (.int m0_most) (.int m0_hindered) (.int m0_hinderedBy) (.ref m0_air) (.ref m0_cameBy) (.ref m0_least) (.ref m0_before) (.ref m0_gas) (.ref m0_into) (.ref m0_rest) (.ref m0_isTold) (.ref m0_isPast) (.ref m0_kept) (.ref m0_smoke) (.ref m0_early) (.int m0_men) (.ref m0_manAt) (.int m0_changes) (.ref m0_changeKind) (.ref m0_changeOf) (.ref m0_changeTo) (.ref m0_row) (.ref m0_openWas) (.ref m0_fallenWas) (.ref m0_speedWas) (.int m0_readings) (.ref m0_readingOf) (.ref m0_low) (.ref m0_high) (.ref m0_back)))])) (va_Qi (fun (r : Int32) (_ : Unit) => (r = 1 ∧ s1 = 2 ∧ w1 = wordN (txb ti) (txb ti).length) ∨ (r = 0 ∧ ¬ (s1 = 2 ∧ w1 = wordN (txb ti) (txb ti).length))) (fun (_ : Unit) (t : State) => va_P (dC, dI) classes [(m0, .inr (14, fX14 (.int m0_thrown) (.ref m0_power) (.int m0_trouble) (.int m0_where) (.int m0_fault) bv (.ref fb) (.ref sp) (.ref m0_tape) (.int m0_taped) (.int (nI n1)) (.int (nI a1)) (.int s1) (.int (nI p1)) (.int m1) (.int u1) (.long w1) (.ref m0_isOpen) (.ref m0_isFallen) (.ref m0_speed) (.ref m0_fire) (.int m0_most) (.int m0_hindered) (.int m0_hinderedBy) (.ref m0_air) (.ref m0_cameBy) (.ref m0_least) (.ref m0_before) (.ref m0_gas) (.ref m0_into) (.ref m0_rest) (.ref m0_isTold) (.ref m0_isPast) (.ref m0_kept) (.ref m0_smoke) (.ref m0_early) (.int m0_men) (.ref m0_manAt) (.int m0_changes) (.ref m0_changeKind) (.ref m0_changeOf) (.ref m0_changeTo) (.ref m0_row) (.ref m0_openWas) (.ref m0_fallenWas) (.ref m0_speedWas) (.int m0_readings) (.ref m0_readingOf) (.ref m0_low) (.ref m0_high) (.ref m0_back)))] t.heap ∧ va_K (dC, dI) classes [] t ∧ va_D (va_A [(m0, .inr (14, fX14 (.int m0_thrown) (.ref m0_power) (.int m0_trouble) (.int m0_where) (.int m0_fault) bv (.ref fb) (.ref sp) (.ref m0_tape) (.int m0_taped) (.int (nI n1)) (.int (nI a1)) (.int s1) (.int (nI p1)) (.int m1) (.int u1) (.long w1) (.ref m0_isOpen) (.ref m0_isFallen) (.ref m0_speed) (.ref m0_fire) (.int m0_most) (.int m0_hindered) (.int m0_hinderedBy) (.ref m0_air) (.ref m0_cameBy) (.ref m0_least) (.ref m0_before) (.ref m0_gas) (.ref m0_into) (.ref m0_rest) (.ref m0_isTold) (.ref m0_isPast) (.ref m0_kept) (.ref m0_smoke) (.ref m0_early) (.int m0_men) (.ref m0_manAt) (.int m0_changes) (.ref m0_changeKind) (.ref m0_changeOf) (.ref m0_changeTo) (.ref m0_row) (.ref m0_openWas) (.ref m0_fallenWas) (.ref m0_speedWas) (.int m0_readings) (.ref m0_readingOf) (.ref m0_low) (.ref m0_high) (.ref m0_back)))] sz) [(m0, .inr (14, fX14 (.int m0_thrown) (.ref m0_power) (.int m0_trouble) (.int m0_where) (.int m0_fault) bv (.ref fb) (.ref sp) (.ref m0_tape) (.int m0_taped) (.int (nI n1)) (.int (nI a1)) (.int s1) (.int (nI p1)) (.int m1) (.int u1) (.long w1) (.ref m0_isOpen) (.ref m0_isFallen) (.ref m0_speed) (.ref m0_fire) (.int m0_most) (.int m0_hindered) (.int m0_hinderedBy) (.ref m0_air) (.ref m0_cameBy) (.ref m0_least) (.ref m0_before) (.ref m0_gas) (.ref m0_into) (.ref m0_rest) (.ref m0_isTold) (.ref m0_isPast) (.ref m0_kept) (.ref m0_smoke) (.ref m0_early) (.int m0_men) (.ref m0_manAt) (.int m0_changes) (.ref m0_changeKind) (.ref m0_changeOf) (.ref m0_changeTo) (.ref m0_row) (.ref m0_openWas) (.ref m0_fallenWas) (.ref m0_speedWas) (.int m0_readings) (.ref m0_readingOf) (.ref m0_low) (.ref m0_high) (.ref m0_back)))]) (va_A [(m0, .inr (14, fX14 (.int m0_thrown) (.ref m0_power) (.int m0_trouble) (.int m0_where) (.int m0_fault) bv (.ref fb) (.ref sp) (.ref m0_tape) (.int m0_taped) (.int (nI n1)) (.int (nI a1)) (.int s1) (.int (nI p1)) (.int m1) (.int u1) (.long w1) (.ref m0_isOpen) (.ref m0_isFallen) (.ref m0_speed) (.ref m0_fire) (.int m0_most) (.int m0_hindered) (.int m0_hinderedBy) (.ref m0_air) (.ref m0_cameBy) (.ref m0_least) (.ref m0_before) (.ref m0_gas) (.ref m0_into) (.ref m0_rest) (.ref m0_isTold) (.ref m0_isPast) (.ref m0_kept) (.ref m0_smoke) (.ref m0_early) (.int m0_men) (.ref m0_manAt) (.int m0_changes) (.ref m0_changeKind) (.ref m0_changeOf) (.ref m0_changeTo) (.ref m0_row) (.ref m0_openWas) (.ref m0_fallenWas) (.ref m0_speedWas) (.int m0_readings) (.ref m0_readingOf) (.ref m0_low) (.ref m0_high) (.ref m0_back)))] sz)) 0 0 (va_A [(m0, .inr (14, fX14 (.int m0_thrown) (.ref m0_power) (.int m0_trouble) (.int m0_where) (.int m0_fault) bv (.ref fb) (.ref sp) (.ref m0_tape) (.int m0_taped) (.int (nI n1)) (.int (nI a1)) (.int s1) (.int (nI p1)) (.int m1) (.int u1) (.long w1) (.ref m0_isOpen) (.ref m0_isFallen) (.ref m0_speed) (.ref m0_fire) (.int m0_most) (.int m0_hindered) (.int m0_hinderedBy) (.ref m0_air) (.ref m0_cameBy) (.ref m0_least) (.ref m0_before) (.ref m0_gas) (.ref m0_into) (.ref m0_rest) (.ref m0_isTold) (.ref m0_isPast) (.ref m0_kept) (.ref m0_smoke) (.ref m0_early) (.int m0_men) (.ref m0_manAt) (.int m0_changes) (.ref m0_changeKind) (.ref m0_changeOf) (.ref m0_changeTo) (.ref m0_row) (.ref m0_openWas) (.ref m0_fallenWas) (.ref m0_speedWas) (.int m0_readings) (.ref m0_readingOf) (.ref m0_low) (.ref m0_high) (.ref m0_back)))] sz) := by
  refine Met.ofW (cc := cX14_isWord) (maxL := 2) (ret := (some .boolean)) (by decide) rfl ?_
  intro p e s m args below meth c s₁ B hml hv
  obtain ⟨rfl, hsz, hn0, hG, hP, hK, hD0⟩ := hv
  have hx := B.exec
  have hb := B.bytes
  have hr := B.returns
  have hts := atoms_spec (ws := wM yX14_isWord cX14_isWord 2 (some .boolean)) B.pre
  have hown : s.vm.findClass RX14 = some m.cls := findClass_of_methodNamed B.named
  have hlocks := B.notSynchronized
  subst hsz
  have hD := hD0.self (sz := s.heap.size)
  have hA0 := vA_n0 hD0 hn0
  generalize hAe : va_A [(m0, .inr (14, fX14 (.int m0_thrown) (.ref m0_power) (.int m0_trouble) (.int m0_where) (.int m0_fault) bv (.ref fb) (.ref sp) (.ref m0_tape) (.int m0_taped) (.int (nI n1)) (.int (nI a1)) (.int s1) (.int (nI p1)) (.int m1) (.int u1) (.long w1) (.ref m0_isOpen) (.ref m0_isFallen) (.ref m0_speed) (.ref m0_fire) (.int m0_most) (.int m0_hindered) (.int m0_hinderedBy) (.ref m0_air) (.ref m0_cameBy) (.ref m0_least) (.ref m0_before) (.ref m0_gas) (.ref m0_into) (.ref m0_rest) (.ref m0_isTold) (.ref m0_isPast) (.ref m0_kept) (.ref m0_smoke) (.ref m0_early) (.int m0_men) (.ref m0_manAt) (.int m0_changes) (.ref m0_changeKind) (.ref m0_changeOf) (.ref m0_changeTo) (.ref m0_row) (.ref m0_openWas) (.ref m0_fallenWas) (.ref m0_speedWas) (.int m0_readings) (.ref m0_readingOf) (.ref m0_low) (.ref m0_high) (.ref m0_back)))] s.heap.size = A at hD hA0 ⊢
  have hA : ∀ q : Nat, s.heap.size ≤ q → A q := fun q h => by rw [← hAe]; exact Or.inr h
  have hS : va_S A s.heap s.heap [] := va_S.rf
  have hl := lv_entry ([.ref m0, .ref (atx ti).1]) (n := 2) (Nat.le_of_ble_eq_true rfl)
  rw [lg_entry_eq]
  generalize (lg_sl ([.ref m0, .ref (atx ti).1]) ++ List.replicate (2 - (lg_sl ([.ref m0, .ref (atx ti).1])).length) Slot.unset).toArray = ls at hl ⊢
  have hl : lv_has ls 2 [(0, .ref m0), (1, .ref (atx ti).1)] := hl
  refine lv_aload_n hx hb dX14_isWord_0 rfl (lv_at hl 0 rfl) ?_
  refine va_get (D := (dC, dI)) (ci := 14) (v := .int s1) (C := RX14) (T := TX14) (N := 51) hx hb hts (fun w h => wM_c (iX14 w h)) hown hK hP 0 rfl rfl 12 (by decide) (hts _ (wM_c wd_1465)) (fun _ h9 => h9) rfl dX14_isWord_1 ?_
  refine lv_iconst (v := 2) hx hb dX14_isWord_4 (by decide) ?_
  refine lv_icmp_ne (tgt := 24) hx hb dX14_isWord_5 (by decide) (fun c_1 => ?_) (fun c_1 => ?_)
  · skip
    have g_2 : s1.toInt ≠ (2 : Int) := i_ne c_1
    refine lv_iconst (v := 0) hx hb dX14_isWord_24 (by decide) ?_
    have hK9 := hK.sub (tys' := []) [] rfl
    exact W.zret (v := 0) hx hb hr rfl (fun t ht hW => ⟨⟨0, (), rfl, (Or.inr ⟨rfl, fun q9 => c_1 q9.1⟩), by rw [ht]; exact hP.sub [0] rfl, va_K.moved hW.alike hK9, hD.sub [0] (by decide) rfl⟩, hS.F ht⟩) hS.2.2 dX14_isWord_25
  · skip
    have g_3 : s1.toInt = (2 : Int) := i_eq c_1
    refine lv_aload_n hx hb dX14_isWord_8 rfl (lv_at hl 0 rfl) ?_
    refine va_get (D := (dC, dI)) (ci := 14) (v := .long w1) (C := RX14) (T := TX14) (N := 51) hx hb hts (fun w h => wM_c (iX14 w h)) hown hK hP 0 rfl rfl 16 (by decide) (hts _ (wM_c wd_1469)) (fun _ h9 => h9) rfl dX14_isWord_9 ?_
    refine lv_aload_n hx hb dX14_isWord_12 rfl (lv_at hl 1 rfl) ?_
    obtain ⟨hPc, hDc, hFc⟩ := s3_c (ws' := []) [] hP hD hS hA rfl (by decide)
    have hKc := hK.sub (tys' := []) [] rfl
    refine va_calll (va_runS (As := [.ref (atx ti).1]) (rest := [.long w1]) ⟨hx, hb, hml, hown, hts⟩ (m_wordOf l dC dI n0 atx s.heap.size ti (by first | with_reducible assumption | omega | exact vp_in_iff.mpr (by omega) | exact vp_in_nI (by omega) (by omega) | exact ⟨by omega, by omega⟩)) (va_cwS 1 hts (gS (fun w h => wM_c h) wd_1761 wd_1759 wd_1760 wd_127) rfl rfl rfl (by decide +kernel) ⟨Nat.le_of_ble_eq_true rfl, Nat.le_of_ble_eq_true rfl⟩) ⟨fun a U g mk q => by obtain ⟨q0, q1, q2, qG, qP, qK, qD⟩ := q; exact ⟨q0, q1, q2, GW.blind qG, qP, va_K.moved (u := U) (U := U.calling g mk a) (Vm.Alike.refl U.vm) qK, qD⟩, fun U hU hW => ⟨rfl, by rw [hU], Nat.le_trans hn0 hS.1, GW.go hW hU hG (fun q hq hA9 => hS.2.1 q hq (fun h => hA9 (hA0 q h))), by rw [hU]; exact hPc, va_K.moved hW.alike hKc, hDc.weaken (fun _ _ _ h => hA0 _ h)⟩⟩ rfl rfl hl.1 rfl (lv_room (Nat.le_of_ble_eq_true rfl)) dX14_isWord_13 ⟨Nat.le_of_ble_eq_true rfl, Nat.le_of_ble_eq_true rfl⟩) hS (fun q _ h => hFc q h) hFc (fun r_4 u t H1 locs ht hvm hw_5 hB hz1 hk1 hS => ?_)
    obtain ⟨hP1, hK1, hD1⟩ := hB
    rw [ht] at hP1
    obtain ⟨hP, hD⟩ := s3_j (L := [(m0, .inr (14, fX14 (.int m0_thrown) (.ref m0_power) (.int m0_trouble) (.int m0_where) (.int m0_fault) bv (.ref fb) (.ref sp) (.ref m0_tape) (.int m0_taped) (.int (nI n1)) (.int (nI a1)) (.int s1) (.int (nI p1)) (.int m1) (.int u1) (.long w1) (.ref m0_isOpen) (.ref m0_isFallen) (.ref m0_speed) (.ref m0_fire) (.int m0_most) (.int m0_hindered) (.int m0_hinderedBy) (.ref m0_air) (.ref m0_cameBy) (.ref m0_least) (.ref m0_before) (.ref m0_gas) (.ref m0_into) (.ref m0_rest) (.ref m0_isTold) (.ref m0_isPast) (.ref m0_kept) (.ref m0_smoke) (.ref m0_early) (.int m0_men) (.ref m0_manAt) (.int m0_changes) (.ref m0_changeKind) (.ref m0_changeOf) (.ref m0_changeTo) (.ref m0_row) (.ref m0_openWas) (.ref m0_fallenWas) (.ref m0_speedWas) (.int m0_readings) (.ref m0_readingOf) (.ref m0_low) (.ref m0_high) (.ref m0_back)))]) 1 hP hD [] [0] hk1 hFc hP1 hD1 rfl rfl rfl (by decide) (by decide)
    generalize H1 = H at hP hS ⊢
    refine W.lcmp hx hb dX14_isWord_16 ?_
    refine lv_topi (fun v_6 ev_6 => ?_)
    refine lv_if_ne (tgt := 24) hx hb dX14_isWord_17 (by decide) (fun c_7 => ?_) (fun c_7 => ?_)
    · skip
      have g_8 : ¬ w1 = r_4 := fun q9 => c_7 (by rw [ev_6]; exact (lg_cmp_eq w1 r_4).mpr q9)
      refine lv_iconst (v := 0) hx hb dX14_isWord_24 (by decide) ?_
      have hK9 := hK.sub (tys' := []) [] rfl
      exact W.zret (v := 0) hx hb hr rfl (fun t ht hW => ⟨⟨0, (), rfl, (Or.inr ⟨rfl, fun q9 => g_8 (q9.2.trans hw_5.symm)⟩), by rw [ht]; exact hP.sub [0] rfl, va_K.moved hW.alike hK9, hD.sub [0] (by decide) rfl⟩, hS.F ht⟩) hS.2.2 dX14_isWord_25
    · skip
      have g_9 : w1 = r_4 := (lg_cmp_eq w1 r_4).mp (by rw [← ev_6]; exact c_7)
      refine lv_iconst (v := 1) hx hb dX14_isWord_20 (by decide) ?_
      refine lv_goto (tgt := 25) hx hb dX14_isWord_21 (by decide) ?_
      have hK9 := hK.sub (tys' := []) [] rfl
      exact W.zret (v := 1) hx hb hr rfl (fun t ht hW => ⟨⟨1, (), rfl, (Or.inl ⟨rfl, c_1, g_9.trans hw_5⟩), by rw [ht]; exact hP.sub [0] rfl, va_K.moved hW.alike hK9, hD.sub [0] (by decide) rfl⟩, hS.F ht⟩) hS.2.2 dX14_isWord_25
set_option maxHeartbeats 4000000 in
set_option maxRecDepth 100000 in
theorem m_is (l : Launch) (dC : Nat → ClassId) (dI : Nat → Nat → Nat) (n0 : Nat) (atx : Nat → Nat × Nat) (sz : Nat) (m0 : Nat) (m0_thrown : Int32) (m0_power : Nat) (m0_trouble : Int32) (m0_where : Int32) (m0_fault : Int32) (bv : Value) (fb : Nat) (sp : Nat) (m0_tape : Nat) (m0_taped : Int32) (n1 : Nat) (a1 : Nat) (s1 : Int32) (p1 : Nat) (m1 : Int32) (u1 : Int32) (w1 : Int64) (m0_isOpen : Nat) (m0_isFallen : Nat) (m0_speed : Nat) (m0_fire : Nat) (m0_most : Int32) (m0_hindered : Int32) (m0_hinderedBy : Int32) (m0_air : Nat) (m0_cameBy : Nat) (m0_least : Nat) (m0_before : Nat) (m0_gas : Nat) (m0_into : Nat) (m0_rest : Nat) (m0_isTold : Nat) (m0_isPast : Nat) (m0_kept : Nat) (m0_smoke : Nat) (m0_early : Nat) (m0_men : Int32) (m0_manAt : Nat) (m0_changes : Int32) (m0_changeKind : Nat) (m0_changeOf : Nat) (m0_changeTo : Nat) (m0_row : Nat) (m0_openWas : Nat) (m0_fallenWas : Nat) (m0_speedWas : Nat) (m0_readings : Int32) (m0_readingOf : Nat) (m0_low : Nat) (m0_high : Nat) (m0_back : Nat) (cc9 : Int32) : Met l yX14_is (wM yX14_is cX14_is 2 (some .boolean)) ({ frames := 0, cells := 0, slots := 0, locals := 0 }) (va_Pc [.ref m0, .int cc9] (fun U => U.heap.size = sz ∧ n0 ≤ sz ∧ GW n0 atx U ∧ va_P (dC, dI) classes [(m0, .inr (14, fX14 (.int m0_thrown) (.ref m0_power) (.int m0_trouble) (.int m0_where) (.int m0_fault) bv (.ref fb) (.ref sp) (.ref m0_tape) (.int m0_taped) (.int (nI n1)) (.int (nI a1)) (.int s1) (.int (nI p1)) (.int m1) (.int u1) (.long w1) (.ref m0_isOpen) (.ref m0_isFallen) (.ref m0_speed) (.ref m0_fire) (.int m0_most) (.int m0_hindered) (.int m0_hinderedBy) (.ref m0_air) (.ref m0_cameBy) (.ref m0_least) (.ref m0_before) (.ref m0_gas) (.ref m0_into) (.ref m0_rest) (.ref m0_isTold) (.ref m0_isPast) (.ref m0_kept) (.ref m0_smoke) (.ref m0_early) (.int m0_men) (.ref m0_manAt) (.int m0_changes) (.ref m0_changeKind) (.ref m0_changeOf) (.ref m0_changeTo) (.ref m0_row) (.ref m0_openWas) (.ref m0_fallenWas) (.ref m0_speedWas) (.int m0_readings) (.ref m0_readingOf) (.ref m0_low) (.ref m0_high) (.ref m0_back)))] U.heap ∧ va_K (dC, dI) classes [] U ∧ va_D (fun q => n0 ≤ q) [(m0, .inr (14, fX14 (.int m0_thrown) (.ref m0_power) (.int m0_trouble) (.int m0_where) (.int m0_fault) bv (.ref fb) (.ref sp) (.ref m0_tape) (.int m0_taped) (.int (nI n1)) (.int (nI a1)) (.int s1) (.int (nI p1)) (.int m1) (.int u1) (.long w1) (.ref m0_isOpen) (.ref m0_isFallen) (.ref m0_speed) (.ref m0_fire) (.int m0_most) (.int m0_hindered) (.int m0_hinderedBy) (.ref m0_air) (.ref m0_cameBy) (.ref m0_least) (.ref m0_before) (.ref m0_gas) (.ref m0_into) (.ref m0_rest) (.ref m0_isTold) (.ref m0_isPast) (.ref m0_kept) (.ref m0_smoke) (.ref m0_early) (.int m0_men) (.ref m0_manAt) (.int m0_changes) (.ref m0_changeKind) (.ref m0_changeOf) (.ref m0_changeTo) (.ref m0_row) (.ref m0_openWas) (.ref m0_fallenWas) (.ref m0_speedWas) (.int m0_readings) (.ref m0_readingOf) (.ref m0_low) (.ref m0_high) (.ref m0_back)))])) (va_Qi (fun (r : Int32) (_ : Unit) => (r = 1 ∧ s1 = 4 ∧ m1 = cc9) ∨ (r = 0 ∧ ¬ (s1 = 4 ∧ m1 = cc9))) (fun (_ : Unit) (t : State) => va_P (dC, dI) classes [(m0, .inr (14, fX14 (.int m0_thrown) (.ref m0_power) (.int m0_trouble) (.int m0_where) (.int m0_fault) bv (.ref fb) (.ref sp) (.ref m0_tape) (.int m0_taped) (.int (nI n1)) (.int (nI a1)) (.int s1) (.int (nI p1)) (.int m1) (.int u1) (.long w1) (.ref m0_isOpen) (.ref m0_isFallen) (.ref m0_speed) (.ref m0_fire) (.int m0_most) (.int m0_hindered) (.int m0_hinderedBy) (.ref m0_air) (.ref m0_cameBy) (.ref m0_least) (.ref m0_before) (.ref m0_gas) (.ref m0_into) (.ref m0_rest) (.ref m0_isTold) (.ref m0_isPast) (.ref m0_kept) (.ref m0_smoke) (.ref m0_early) (.int m0_men) (.ref m0_manAt) (.int m0_changes) (.ref m0_changeKind) (.ref m0_changeOf) (.ref m0_changeTo) (.ref m0_row) (.ref m0_openWas) (.ref m0_fallenWas) (.ref m0_speedWas) (.int m0_readings) (.ref m0_readingOf) (.ref m0_low) (.ref m0_high) (.ref m0_back)))] t.heap ∧ va_K (dC, dI) classes [] t ∧ va_D (va_A [(m0, .inr (14, fX14 (.int m0_thrown) (.ref m0_power) (.int m0_trouble) (.int m0_where) (.int m0_fault) bv (.ref fb) (.ref sp) (.ref m0_tape) (.int m0_taped) (.int (nI n1)) (.int (nI a1)) (.int s1) (.int (nI p1)) (.int m1) (.int u1) (.long w1) (.ref m0_isOpen) (.ref m0_isFallen) (.ref m0_speed) (.ref m0_fire) (.int m0_most) (.int m0_hindered) (.int m0_hinderedBy) (.ref m0_air) (.ref m0_cameBy) (.ref m0_least) (.ref m0_before) (.ref m0_gas) (.ref m0_into) (.ref m0_rest) (.ref m0_isTold) (.ref m0_isPast) (.ref m0_kept) (.ref m0_smoke) (.ref m0_early) (.int m0_men) (.ref m0_manAt) (.int m0_changes) (.ref m0_changeKind) (.ref m0_changeOf) (.ref m0_changeTo) (.ref m0_row) (.ref m0_openWas) (.ref m0_fallenWas) (.ref m0_speedWas) (.int m0_readings) (.ref m0_readingOf) (.ref m0_low) (.ref m0_high) (.ref m0_back)))] sz) [(m0, .inr (14, fX14 (.int m0_thrown) (.ref m0_power) (.int m0_trouble) (.int m0_where) (.int m0_fault) bv (.ref fb) (.ref sp) (.ref m0_tape) (.int m0_taped) (.int (nI n1)) (.int (nI a1)) (.int s1) (.int (nI p1)) (.int m1) (.int u1) (.long w1) (.ref m0_isOpen) (.ref m0_isFallen) (.ref m0_speed) (.ref m0_fire) (.int m0_most) (.int m0_hindered) (.int m0_hinderedBy) (.ref m0_air) (.ref m0_cameBy) (.ref m0_least) (.ref m0_before) (.ref m0_gas) (.ref m0_into) (.ref m0_rest) (.ref m0_isTold) (.ref m0_isPast) (.ref m0_kept) (.ref m0_smoke) (.ref m0_early) (.int m0_men) (.ref m0_manAt) (.int m0_changes) (.ref m0_changeKind) (.ref m0_changeOf) (.ref m0_changeTo) (.ref m0_row) (.ref m0_openWas) (.ref m0_fallenWas) (.ref m0_speedWas) (.int m0_readings) (.ref m0_readingOf) (.ref m0_low) (.ref m0_high) (.ref m0_back)))]) (va_A [(m0, .inr (14, fX14 (.int m0_thrown) (.ref m0_power) (.int m0_trouble) (.int m0_where) (.int m0_fault) bv (.ref fb) (.ref sp) (.ref m0_tape) (.int m0_taped) (.int (nI n1)) (.int (nI a1)) (.int s1) (.int (nI p1)) (.int m1) (.int u1) (.long w1) (.ref m0_isOpen) (.ref m0_isFallen) (.ref m0_speed) (.ref m0_fire) (.int m0_most) (.int m0_hindered) (.int m0_hinderedBy) (.ref m0_air) (.ref m0_cameBy) (.ref m0_least) (.ref m0_before) (.ref m0_gas) (.ref m0_into) (.ref m0_rest) (.ref m0_isTold) (.ref m0_isPast) (.ref m0_kept) (.ref m0_smoke) (.ref m0_early) (.int m0_men) (.ref m0_manAt) (.int m0_changes) (.ref m0_changeKind) (.ref m0_changeOf) (.ref m0_changeTo) (.ref m0_row) (.ref m0_openWas) (.ref m0_fallenWas) (.ref m0_speedWas) (.int m0_readings) (.ref m0_readingOf) (.ref m0_low) (.ref m0_high) (.ref m0_back)))] sz)) 0 0 (va_A [(m0, .inr (14, fX14 (.int m0_thrown) (.ref m0_power) (.int m0_trouble) (.int m0_where) (.int m0_fault) bv (.ref fb) (.ref sp) (.ref m0_tape) (.int m0_taped) (.int (nI n1)) (.int (nI a1)) (.int s1) (.int (nI p1)) (.int m1) (.int u1) (.long w1) (.ref m0_isOpen) (.ref m0_isFallen) (.ref m0_speed) (.ref m0_fire) (.int m0_most) (.int m0_hindered) (.int m0_hinderedBy) (.ref m0_air) (.ref m0_cameBy) (.ref m0_least) (.ref m0_before) (.ref m0_gas) (.ref m0_into) (.ref m0_rest) (.ref m0_isTold) (.ref m0_isPast) (.ref m0_kept) (.ref m0_smoke) (.ref m0_early) (.int m0_men) (.ref m0_manAt) (.int m0_changes) (.ref m0_changeKind) (.ref m0_changeOf) (.ref m0_changeTo) (.ref m0_row) (.ref m0_openWas) (.ref m0_fallenWas) (.ref m0_speedWas) (.int m0_readings) (.ref m0_readingOf) (.ref m0_low) (.ref m0_high) (.ref m0_back)))] sz) := by
  refine Met.ofW (cc := cX14_is) (maxL := 2) (ret := (some .boolean)) (by decide) rfl ?_
  intro p e s m args below meth c s₁ B hml hv
  obtain ⟨rfl, hsz, hn0, hG, hP, hK, hD0⟩ := hv
  have hx := B.exec
  have hb := B.bytes
  have hr := B.returns
  have hts := atoms_spec (ws := wM yX14_is cX14_is 2 (some .boolean)) B.pre
  have hown : s.vm.findClass RX14 = some m.cls := findClass_of_methodNamed B.named
  have hlocks := B.notSynchronized
  subst hsz
  have hD := hD0.self (sz := s.heap.size)
  have hA0 := vA_n0 hD0 hn0
  generalize hAe : va_A [(m0, .inr (14, fX14 (.int m0_thrown) (.ref m0_power) (.int m0_trouble) (.int m0_where) (.int m0_fault) bv (.ref fb) (.ref sp) (.ref m0_tape) (.int m0_taped) (.int (nI n1)) (.int (nI a1)) (.int s1) (.int (nI p1)) (.int m1) (.int u1) (.long w1) (.ref m0_isOpen) (.ref m0_isFallen) (.ref m0_speed) (.ref m0_fire) (.int m0_most) (.int m0_hindered) (.int m0_hinderedBy) (.ref m0_air) (.ref m0_cameBy) (.ref m0_least) (.ref m0_before) (.ref m0_gas) (.ref m0_into) (.ref m0_rest) (.ref m0_isTold) (.ref m0_isPast) (.ref m0_kept) (.ref m0_smoke) (.ref m0_early) (.int m0_men) (.ref m0_manAt) (.int m0_changes) (.ref m0_changeKind) (.ref m0_changeOf) (.ref m0_changeTo) (.ref m0_row) (.ref m0_openWas) (.ref m0_fallenWas) (.ref m0_speedWas) (.int m0_readings) (.ref m0_readingOf) (.ref m0_low) (.ref m0_high) (.ref m0_back)))] s.heap.size = A at hD hA0 ⊢
  have hA : ∀ q : Nat, s.heap.size ≤ q → A q := fun q h => by rw [← hAe]; exact Or.inr h
  have hS : va_S A s.heap s.heap [] := va_S.rf
  have hl := lv_entry ([.ref m0, .int cc9]) (n := 2) (Nat.le_of_ble_eq_true rfl)
  rw [lg_entry_eq]
  generalize (lg_sl ([.ref m0, .int cc9]) ++ List.replicate (2 - (lg_sl ([.ref m0, .int cc9])).length) Slot.unset).toArray = ls at hl ⊢
  have hl : lv_has ls 2 [(0, .ref m0), (1, .int cc9)] := hl
  refine lv_aload_n hx hb dX14_is_0 rfl (lv_at hl 0 rfl) ?_
  refine va_get (D := (dC, dI)) (ci := 14) (v := .int s1) (C := RX14) (T := TX14) (N := 51) hx hb hts (fun w h => wM_c (iX14 w h)) hown hK hP 0 rfl rfl 12 (by decide) (hts _ (wM_c wd_1465)) (fun _ h9 => h9) rfl dX14_is_1 ?_
  refine lv_iconst (v := 4) hx hb dX14_is_4 (by decide) ?_
  refine lv_icmp_ne (tgt := 20) hx hb dX14_is_5 (by decide) (fun c_1 => ?_) (fun c_1 => ?_)
  · skip
    have g_2 : s1.toInt ≠ (4 : Int) := i_ne c_1
    refine lv_iconst (v := 0) hx hb dX14_is_20 (by decide) ?_
    have hK9 := hK.sub (tys' := []) [] rfl
    exact W.zret (v := 0) hx hb hr rfl (fun t ht hW => ⟨⟨0, (), rfl, (Or.inr ⟨rfl, fun q9 => c_1 q9.1⟩), by rw [ht]; exact hP.sub [0] rfl, va_K.moved hW.alike hK9, hD.sub [0] (by decide) rfl⟩, hS.F ht⟩) hS.2.2 dX14_is_21
  · skip
    have g_3 : s1.toInt = (4 : Int) := i_eq c_1
    refine lv_aload_n hx hb dX14_is_8 rfl (lv_at hl 0 rfl) ?_
    refine va_get (D := (dC, dI)) (ci := 14) (v := .int m1) (C := RX14) (T := TX14) (N := 51) hx hb hts (fun w h => wM_c (iX14 w h)) hown hK hP 0 rfl rfl 14 (by decide) (hts _ (wM_c wd_1467)) (fun _ h9 => h9) rfl dX14_is_9 ?_
    refine lv_iload_n hx hb dX14_is_12 rfl (lv_at hl 1 rfl) ?_
    refine lv_icmp_ne (tgt := 20) hx hb dX14_is_13 (by decide) (fun c_4 => ?_) (fun c_4 => ?_)
    · skip
      have g_5 : m1.toInt ≠ cc9.toInt := i_ne c_4
      refine lv_iconst (v := 0) hx hb dX14_is_20 (by decide) ?_
      have hK9 := hK.sub (tys' := []) [] rfl
      exact W.zret (v := 0) hx hb hr rfl (fun t ht hW => ⟨⟨0, (), rfl, (Or.inr ⟨rfl, fun q9 => c_4 q9.2⟩), by rw [ht]; exact hP.sub [0] rfl, va_K.moved hW.alike hK9, hD.sub [0] (by decide) rfl⟩, hS.F ht⟩) hS.2.2 dX14_is_21
    · skip
      have g_6 : m1.toInt = cc9.toInt := i_eq c_4
      refine lv_iconst (v := 1) hx hb dX14_is_16 (by decide) ?_
      refine lv_goto (tgt := 21) hx hb dX14_is_17 (by decide) ?_
      have hK9 := hK.sub (tys' := []) [] rfl
      exact W.zret (v := 1) hx hb hr rfl (fun t ht hW => ⟨⟨1, (), rfl, (Or.inl ⟨rfl, c_1, c_4⟩), by rw [ht]; exact hP.sub [0] rfl, va_K.moved hW.alike hK9, hD.sub [0] (by decide) rfl⟩, hS.F ht⟩) hS.2.2 dX14_is_21
set_option maxHeartbeats 4000000 in
set_option maxRecDepth 100000 in
theorem m_stop (l : Launch) (dC : Nat → ClassId) (dI : Nat → Nat → Nat) (n0 : Nat) (atx : Nat → Nat × Nat) (sz : Nat) (m0 : Nat) (m0_thrown : Int32) (m0_power : Nat) (m0_trouble : Int32) (m0_where : Int32) (m0_fault : Int32) (bv : Value) (fb : Nat) (sp : Nat) (m0_tape : Nat) (m0_taped : Int32) (n1 : Nat) (a1 : Nat) (s1 : Int32) (p1 : Nat) (m1 : Int32) (u1 : Int32) (w1 : Int64) (m0_isOpen : Nat) (m0_isFallen : Nat) (m0_speed : Nat) (m0_fire : Nat) (m0_most : Int32) (m0_hindered : Int32) (m0_hinderedBy : Int32) (m0_air : Nat) (m0_cameBy : Nat) (m0_least : Nat) (m0_before : Nat) (m0_gas : Nat) (m0_into : Nat) (m0_rest : Nat) (m0_isTold : Nat) (m0_isPast : Nat) (m0_kept : Nat) (m0_smoke : Nat) (m0_early : Nat) (m0_men : Int32) (m0_manAt : Nat) (m0_changes : Int32) (m0_changeKind : Nat) (m0_changeOf : Nat) (m0_changeTo : Nat) (m0_row : Nat) (m0_openWas : Nat) (m0_fallenWas : Nat) (m0_speedWas : Nat) (m0_readings : Int32) (m0_readingOf : Nat) (m0_low : Nat) (m0_high : Nat) (m0_back : Nat) (sp_cause : Value) (sp_stackTrace : Value) (sp_suppressedExceptions : Value) (sp_detailMessage : Value) (sp_backtrace : Value) (sp_depth : Int32) (sp_kind : Int32) (sp_place : Int32) (ky : Int32) : Met l yX14_stop (wM yX14_stop cX14_stop 2 (some (.object "MineAirModel$Stop"))) ({ frames := 0, cells := 0, slots := 0, locals := 0 }) (va_Pc [.ref m0, .int ky] (fun U => U.heap.size = sz ∧ n0 ≤ sz ∧ GW n0 atx U ∧ va_P (dC, dI) classes [(m0, .inr (14, fX14 (.int m0_thrown) (.ref m0_power) (.int m0_trouble) (.int m0_where) (.int m0_fault) bv (.ref fb) (.ref sp) (.ref m0_tape) (.int m0_taped) (.int (nI n1)) (.int (nI a1)) (.int s1) (.int (nI p1)) (.int m1) (.int u1) (.long w1) (.ref m0_isOpen) (.ref m0_isFallen) (.ref m0_speed) (.ref m0_fire) (.int m0_most) (.int m0_hindered) (.int m0_hinderedBy) (.ref m0_air) (.ref m0_cameBy) (.ref m0_least) (.ref m0_before) (.ref m0_gas) (.ref m0_into) (.ref m0_rest) (.ref m0_isTold) (.ref m0_isPast) (.ref m0_kept) (.ref m0_smoke) (.ref m0_early) (.int m0_men) (.ref m0_manAt) (.int m0_changes) (.ref m0_changeKind) (.ref m0_changeOf) (.ref m0_changeTo) (.ref m0_row) (.ref m0_openWas) (.ref m0_fallenWas) (.ref m0_speedWas) (.int m0_readings) (.ref m0_readingOf) (.ref m0_low) (.ref m0_high) (.ref m0_back))), (sp, .inr (13, [sp_cause, sp_stackTrace, sp_suppressedExceptions, sp_detailMessage, sp_backtrace, .int sp_depth, .int sp_kind, .int sp_place]))] U.heap ∧ va_K (dC, dI) classes [] U ∧ va_D (fun q => n0 ≤ q) [(m0, .inr (14, fX14 (.int m0_thrown) (.ref m0_power) (.int m0_trouble) (.int m0_where) (.int m0_fault) bv (.ref fb) (.ref sp) (.ref m0_tape) (.int m0_taped) (.int (nI n1)) (.int (nI a1)) (.int s1) (.int (nI p1)) (.int m1) (.int u1) (.long w1) (.ref m0_isOpen) (.ref m0_isFallen) (.ref m0_speed) (.ref m0_fire) (.int m0_most) (.int m0_hindered) (.int m0_hinderedBy) (.ref m0_air) (.ref m0_cameBy) (.ref m0_least) (.ref m0_before) (.ref m0_gas) (.ref m0_into) (.ref m0_rest) (.ref m0_isTold) (.ref m0_isPast) (.ref m0_kept) (.ref m0_smoke) (.ref m0_early) (.int m0_men) (.ref m0_manAt) (.int m0_changes) (.ref m0_changeKind) (.ref m0_changeOf) (.ref m0_changeTo) (.ref m0_row) (.ref m0_openWas) (.ref m0_fallenWas) (.ref m0_speedWas) (.int m0_readings) (.ref m0_readingOf) (.ref m0_low) (.ref m0_high) (.ref m0_back))), (sp, .inr (13, [sp_cause, sp_stackTrace, sp_suppressedExceptions, sp_detailMessage, sp_backtrace, .int sp_depth, .int sp_kind, .int sp_place]))])) (va_Qr (fun _ : Unit => True) (fun (_ : Unit) (a : Nat) (t : State) => a = sp ∧ va_P (dC, dI) classes [(m0, .inr (14, fX14 (.int m0_thrown) (.ref m0_power) (.int m0_trouble) (.int m0_where) (.int m0_fault) bv (.ref fb) (.ref sp) (.ref m0_tape) (.int m0_taped) (.int (nI n1)) (.int (nI a1)) (.int s1) (.int (nI p1)) (.int m1) (.int u1) (.long w1) (.ref m0_isOpen) (.ref m0_isFallen) (.ref m0_speed) (.ref m0_fire) (.int m0_most) (.int m0_hindered) (.int m0_hinderedBy) (.ref m0_air) (.ref m0_cameBy) (.ref m0_least) (.ref m0_before) (.ref m0_gas) (.ref m0_into) (.ref m0_rest) (.ref m0_isTold) (.ref m0_isPast) (.ref m0_kept) (.ref m0_smoke) (.ref m0_early) (.int m0_men) (.ref m0_manAt) (.int m0_changes) (.ref m0_changeKind) (.ref m0_changeOf) (.ref m0_changeTo) (.ref m0_row) (.ref m0_openWas) (.ref m0_fallenWas) (.ref m0_speedWas) (.int m0_readings) (.ref m0_readingOf) (.ref m0_low) (.ref m0_high) (.ref m0_back))), (sp, .inr (13, [sp_cause, sp_stackTrace, sp_suppressedExceptions, sp_detailMessage, sp_backtrace, .int sp_depth, .int ky, .int (nI p1)]))] t.heap ∧ va_K (dC, dI) classes [] t ∧ va_D (va_A [(m0, .inr (14, fX14 (.int m0_thrown) (.ref m0_power) (.int m0_trouble) (.int m0_where) (.int m0_fault) bv (.ref fb) (.ref sp) (.ref m0_tape) (.int m0_taped) (.int (nI n1)) (.int (nI a1)) (.int s1) (.int (nI p1)) (.int m1) (.int u1) (.long w1) (.ref m0_isOpen) (.ref m0_isFallen) (.ref m0_speed) (.ref m0_fire) (.int m0_most) (.int m0_hindered) (.int m0_hinderedBy) (.ref m0_air) (.ref m0_cameBy) (.ref m0_least) (.ref m0_before) (.ref m0_gas) (.ref m0_into) (.ref m0_rest) (.ref m0_isTold) (.ref m0_isPast) (.ref m0_kept) (.ref m0_smoke) (.ref m0_early) (.int m0_men) (.ref m0_manAt) (.int m0_changes) (.ref m0_changeKind) (.ref m0_changeOf) (.ref m0_changeTo) (.ref m0_row) (.ref m0_openWas) (.ref m0_fallenWas) (.ref m0_speedWas) (.int m0_readings) (.ref m0_readingOf) (.ref m0_low) (.ref m0_high) (.ref m0_back))), (sp, .inr (13, [sp_cause, sp_stackTrace, sp_suppressedExceptions, sp_detailMessage, sp_backtrace, .int sp_depth, .int sp_kind, .int sp_place]))] sz) [(m0, .inr (14, fX14 (.int m0_thrown) (.ref m0_power) (.int m0_trouble) (.int m0_where) (.int m0_fault) bv (.ref fb) (.ref sp) (.ref m0_tape) (.int m0_taped) (.int (nI n1)) (.int (nI a1)) (.int s1) (.int (nI p1)) (.int m1) (.int u1) (.long w1) (.ref m0_isOpen) (.ref m0_isFallen) (.ref m0_speed) (.ref m0_fire) (.int m0_most) (.int m0_hindered) (.int m0_hinderedBy) (.ref m0_air) (.ref m0_cameBy) (.ref m0_least) (.ref m0_before) (.ref m0_gas) (.ref m0_into) (.ref m0_rest) (.ref m0_isTold) (.ref m0_isPast) (.ref m0_kept) (.ref m0_smoke) (.ref m0_early) (.int m0_men) (.ref m0_manAt) (.int m0_changes) (.ref m0_changeKind) (.ref m0_changeOf) (.ref m0_changeTo) (.ref m0_row) (.ref m0_openWas) (.ref m0_fallenWas) (.ref m0_speedWas) (.int m0_readings) (.ref m0_readingOf) (.ref m0_low) (.ref m0_high) (.ref m0_back))), (sp, .inr (13, [sp_cause, sp_stackTrace, sp_suppressedExceptions, sp_detailMessage, sp_backtrace, .int sp_depth, .int ky, .int (nI p1)]))]) (va_A [(m0, .inr (14, fX14 (.int m0_thrown) (.ref m0_power) (.int m0_trouble) (.int m0_where) (.int m0_fault) bv (.ref fb) (.ref sp) (.ref m0_tape) (.int m0_taped) (.int (nI n1)) (.int (nI a1)) (.int s1) (.int (nI p1)) (.int m1) (.int u1) (.long w1) (.ref m0_isOpen) (.ref m0_isFallen) (.ref m0_speed) (.ref m0_fire) (.int m0_most) (.int m0_hindered) (.int m0_hinderedBy) (.ref m0_air) (.ref m0_cameBy) (.ref m0_least) (.ref m0_before) (.ref m0_gas) (.ref m0_into) (.ref m0_rest) (.ref m0_isTold) (.ref m0_isPast) (.ref m0_kept) (.ref m0_smoke) (.ref m0_early) (.int m0_men) (.ref m0_manAt) (.int m0_changes) (.ref m0_changeKind) (.ref m0_changeOf) (.ref m0_changeTo) (.ref m0_row) (.ref m0_openWas) (.ref m0_fallenWas) (.ref m0_speedWas) (.int m0_readings) (.ref m0_readingOf) (.ref m0_low) (.ref m0_high) (.ref m0_back))), (sp, .inr (13, [sp_cause, sp_stackTrace, sp_suppressedExceptions, sp_detailMessage, sp_backtrace, .int sp_depth, .int sp_kind, .int sp_place]))] sz)) 0 0 (va_A [(m0, .inr (14, fX14 (.int m0_thrown) (.ref m0_power) (.int m0_trouble) (.int m0_where) (.int m0_fault) bv (.ref fb) (.ref sp) (.ref m0_tape) (.int m0_taped) (.int (nI n1)) (.int (nI a1)) (.int s1) (.int (nI p1)) (.int m1) (.int u1) (.long w1) (.ref m0_isOpen) (.ref m0_isFallen) (.ref m0_speed) (.ref m0_fire) (.int m0_most) (.int m0_hindered) (.int m0_hinderedBy) (.ref m0_air) (.ref m0_cameBy) (.ref m0_least) (.ref m0_before) (.ref m0_gas) (.ref m0_into) (.ref m0_rest) (.ref m0_isTold) (.ref m0_isPast) (.ref m0_kept) (.ref m0_smoke) (.ref m0_early) (.int m0_men) (.ref m0_manAt) (.int m0_changes) (.ref m0_changeKind) (.ref m0_changeOf) (.ref m0_changeTo) (.ref m0_row) (.ref m0_openWas) (.ref m0_fallenWas) (.ref m0_speedWas) (.int m0_readings) (.ref m0_readingOf) (.ref m0_low) (.ref m0_high) (.ref m0_back))), (sp, .inr (13, [sp_cause, sp_stackTrace, sp_suppressedExceptions, sp_detailMessage, sp_backtrace, .int sp_depth, .int sp_kind, .int sp_place]))] sz) := by
  refine Met.ofW (cc := cX14_stop) (maxL := 2) (ret := (some (.object "MineAirModel$Stop"))) (by decide) rfl ?_
  intro p e s m args below meth c s₁ B hml hv
  obtain ⟨rfl, hsz, hn0, hG, hP, hK, hD0⟩ := hv
  have hx := B.exec
  have hb := B.bytes
  have hr := B.returns
  have hts := atoms_spec (ws := wM yX14_stop cX14_stop 2 (some (.object "MineAirModel$Stop"))) B.pre
  have hown : s.vm.findClass RX14 = some m.cls := findClass_of_methodNamed B.named
  have hlocks := B.notSynchronized
  subst hsz
  have hD := hD0.self (sz := s.heap.size)
  have hA0 := vA_n0 hD0 hn0
  generalize hAe : va_A [(m0, .inr (14, fX14 (.int m0_thrown) (.ref m0_power) (.int m0_trouble) (.int m0_where) (.int m0_fault) bv (.ref fb) (.ref sp) (.ref m0_tape) (.int m0_taped) (.int (nI n1)) (.int (nI a1)) (.int s1) (.int (nI p1)) (.int m1) (.int u1) (.long w1) (.ref m0_isOpen) (.ref m0_isFallen) (.ref m0_speed) (.ref m0_fire) (.int m0_most) (.int m0_hindered) (.int m0_hinderedBy) (.ref m0_air) (.ref m0_cameBy) (.ref m0_least) (.ref m0_before) (.ref m0_gas) (.ref m0_into) (.ref m0_rest) (.ref m0_isTold) (.ref m0_isPast) (.ref m0_kept) (.ref m0_smoke) (.ref m0_early) (.int m0_men) (.ref m0_manAt) (.int m0_changes) (.ref m0_changeKind) (.ref m0_changeOf) (.ref m0_changeTo) (.ref m0_row) (.ref m0_openWas) (.ref m0_fallenWas) (.ref m0_speedWas) (.int m0_readings) (.ref m0_readingOf) (.ref m0_low) (.ref m0_high) (.ref m0_back))), (sp, .inr (13, [sp_cause, sp_stackTrace, sp_suppressedExceptions, sp_detailMessage, sp_backtrace, .int sp_depth, .int sp_kind, .int sp_place]))] s.heap.size = A at hD hA0 ⊢
  have hA : ∀ q : Nat, s.heap.size ≤ q → A q := fun q h => by rw [← hAe]; exact Or.inr h
  have hS : va_S A s.heap s.heap [] := va_S.rf
  have hl := lv_entry ([.ref m0, .int ky]) (n := 2) (Nat.le_of_ble_eq_true rfl)
  rw [lg_entry_eq]
  generalize (lg_sl ([.ref m0, .int ky]) ++ List.replicate (2 - (lg_sl ([.ref m0, .int ky])).length) Slot.unset).toArray = ls at hl ⊢
  have hl : lv_has ls 2 [(0, .ref m0), (1, .int ky)] := hl
  refine lv_aload_n hx hb dX14_stop_0 rfl (lv_at hl 0 rfl) ?_
  refine va_get (D := (dC, dI)) (ci := 14) (v := .ref sp) (C := RX14) (T := TX14) (N := 51) hx hb hts (fun w h => wM_c (iX14 w h)) hown hK hP 0 rfl rfl 7 (by decide) (hts _ (wM_c wd_1460)) (fun _ h9 => h9) rfl dX14_stop_1 ?_
  refine lv_iload_n hx hb dX14_stop_4 rfl (lv_at hl 1 rfl) ?_
  refine va_putN (D := (dC, dI)) (ci := 13) (v := .int ky) (ty := .int) (C := RX13) (T := TX13) (N := 8) hx hb hts (fun w h => wM_c (iX13 w h)) tyX13 tyX13_ok nmX13 hown hK hP hD hS 1 rfl rfl 6 (by decide) (va_Nw.use rfl (hG.1 _ wd_1444)) (fun _ h9 => h9) rfl (by decide +kernel) rfl rfl (Nat.le_of_ble_eq_true rfl) dX14_stop_5 (fun H locs hP hD hS => ?_)
  obtain ⟨hP, hD⟩ : s3_w (dC, dI) classes A [(m0, .inr (14, fX14 (.int m0_thrown) (.ref m0_power) (.int m0_trouble) (.int m0_where) (.int m0_fault) bv (.ref fb) (.ref sp) (.ref m0_tape) (.int m0_taped) (.int (nI n1)) (.int (nI a1)) (.int s1) (.int (nI p1)) (.int m1) (.int u1) (.long w1) (.ref m0_isOpen) (.ref m0_isFallen) (.ref m0_speed) (.ref m0_fire) (.int m0_most) (.int m0_hindered) (.int m0_hinderedBy) (.ref m0_air) (.ref m0_cameBy) (.ref m0_least) (.ref m0_before) (.ref m0_gas) (.ref m0_into) (.ref m0_rest) (.ref m0_isTold) (.ref m0_isPast) (.ref m0_kept) (.ref m0_smoke) (.ref m0_early) (.int m0_men) (.ref m0_manAt) (.int m0_changes) (.ref m0_changeKind) (.ref m0_changeOf) (.ref m0_changeTo) (.ref m0_row) (.ref m0_openWas) (.ref m0_fallenWas) (.ref m0_speedWas) (.int m0_readings) (.ref m0_readingOf) (.ref m0_low) (.ref m0_high) (.ref m0_back))), (sp, .inr (13, [sp_cause, sp_stackTrace, sp_suppressedExceptions, sp_detailMessage, sp_backtrace, .int sp_depth, .int ky, .int sp_place]))] H := ⟨hP, hD⟩
  refine lv_aload_n hx hb dX14_stop_8 rfl (lv_at hl 0 rfl) ?_
  refine va_get (D := (dC, dI)) (ci := 14) (v := .ref sp) (C := RX14) (T := TX14) (N := 51) hx hb hts (fun w h => wM_c (iX14 w h)) hown hK hP 0 rfl rfl 7 (by decide) (hts _ (wM_c wd_1460)) (fun _ h9 => h9) rfl dX14_stop_9 ?_
  refine lv_aload_n hx hb dX14_stop_12 rfl (lv_at hl 0 rfl) ?_
  refine va_get (D := (dC, dI)) (ci := 14) (v := .int (nI p1)) (C := RX14) (T := TX14) (N := 51) hx hb hts (fun w h => wM_c (iX14 w h)) hown hK hP 0 rfl rfl 13 (by decide) (hts _ (wM_c wd_1466)) (fun _ h9 => h9) rfl dX14_stop_13 ?_
  refine va_putN (D := (dC, dI)) (ci := 13) (v := .int (nI p1)) (ty := .int) (C := RX13) (T := TX13) (N := 8) hx hb hts (fun w h => wM_c (iX13 w h)) tyX13 tyX13_ok nmX13 hown hK hP hD hS 1 rfl rfl 7 (by decide) (va_Nw.use rfl (hG.1 _ wd_1445)) (fun _ h9 => h9) rfl (by decide +kernel) rfl rfl (Nat.le_of_ble_eq_true rfl) dX14_stop_16 (fun H locs hP hD hS => ?_)
  obtain ⟨hP, hD⟩ : s3_w (dC, dI) classes A [(m0, .inr (14, fX14 (.int m0_thrown) (.ref m0_power) (.int m0_trouble) (.int m0_where) (.int m0_fault) bv (.ref fb) (.ref sp) (.ref m0_tape) (.int m0_taped) (.int (nI n1)) (.int (nI a1)) (.int s1) (.int (nI p1)) (.int m1) (.int u1) (.long w1) (.ref m0_isOpen) (.ref m0_isFallen) (.ref m0_speed) (.ref m0_fire) (.int m0_most) (.int m0_hindered) (.int m0_hinderedBy) (.ref m0_air) (.ref m0_cameBy) (.ref m0_least) (.ref m0_before) (.ref m0_gas) (.ref m0_into) (.ref m0_rest) (.ref m0_isTold) (.ref m0_isPast) (.ref m0_kept) (.ref m0_smoke) (.ref m0_early) (.int m0_men) (.ref m0_manAt) (.int m0_changes) (.ref m0_changeKind) (.ref m0_changeOf) (.ref m0_changeTo) (.ref m0_row) (.ref m0_openWas) (.ref m0_fallenWas) (.ref m0_speedWas) (.int m0_readings) (.ref m0_readingOf) (.ref m0_low) (.ref m0_high) (.ref m0_back))), (sp, .inr (13, [sp_cause, sp_stackTrace, sp_suppressedExceptions, sp_detailMessage, sp_backtrace, .int sp_depth, .int ky, .int (nI p1)]))] H := ⟨hP, hD⟩
  refine lv_aload_n hx hb dX14_stop_19 rfl (lv_at hl 0 rfl) ?_
  refine va_get (D := (dC, dI)) (ci := 14) (v := .ref sp) (C := RX14) (T := TX14) (N := 51) hx hb hts (fun w h => wM_c (iX14 w h)) hown hK hP 0 rfl rfl 7 (by decide) (hts _ (wM_c wd_1460)) (fun _ h9 => h9) rfl dX14_stop_20 ?_
  have hK9 := hK.sub (tys' := []) [] rfl
  exact W.aret (v := .ref sp) hx hb hr (Or.inl ⟨_, rfl⟩) (Or.inr ⟨_, rfl⟩) (fun t ht hW => ⟨⟨(), sp, rfl, trivial, rfl, by rw [ht]; exact hP.sub [0, 1] rfl, va_K.moved hW.alike hK9, hD.sub [0, 1] (by decide) rfl⟩, hS.F ht⟩) hS.2.2 dX14_stop_23
