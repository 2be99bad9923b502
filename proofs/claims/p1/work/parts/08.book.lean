theorem wd_1 : Cond.selects "MineAir$Reader" (⟨"MineAir$Reader", "next", "()V"⟩ : MethodName) (⟨"MineAir$Reader", "next", "()V"⟩ : MethodName) ∈ wG := wG_of 1 (by decide +kernel) (by decide +kernel)
theorem wd_4 : Cond.selects "MineAir$Reader" (⟨"MineAir$Reader", "takeWord", "(Ljava/lang/String;)Z"⟩ : MethodName) (⟨"MineAir$Reader", "takeWord", "(Ljava/lang/String;)Z"⟩ : MethodName) ∈ wG := wG_of 4 (by decide +kernel) (by decide +kernel)
theorem wd_5 : Cond.selects "MineAir$Reader" (⟨"MineAir$Reader", "isWord", "(Ljava/lang/String;)Z"⟩ : MethodName) (⟨"MineAir$Reader", "isWord", "(Ljava/lang/String;)Z"⟩ : MethodName) ∈ wG := wG_of 5 (by decide +kernel) (by decide +kernel)
theorem wd_9 : Cond.selects "MineAir$Reader" (⟨"MineAir$Reader", "miss", "(I)Z"⟩ : MethodName) (⟨"MineAir$Reader", "miss", "(I)Z"⟩ : MethodName) ∈ wG := wG_of 9 (by decide +kernel) (by decide +kernel)
theorem wd_115 : Cond.initialized "MineAir$Book" ∈ wG := wG_of 115 (by decide +kernel) (by decide +kernel)
theorem wd_126 : Cond.initialized "java/util/Arrays" ∈ wG := wG_of 126 (by decide +kernel) (by decide +kernel)
theorem wd_161 : Cond.fieldLink "MineAir$Book" 56 "MineAir$Gear" "doors" "I" ∈ wG := wG_of 161 (by decide +kernel) (by decide +kernel)
theorem wd_168 : Cond.fieldLink "MineAir$Book" 59 "MineAir$Gear" "pairs" "I" ∈ wG := wG_of 168 (by decide +kernel) (by decide +kernel)
theorem wd_178 : Cond.fieldLink "MineAir$Book" 62 "MineAir$Gear" "fans" "I" ∈ wG := wG_of 178 (by decide +kernel) (by decide +kernel)
theorem wd_192 : Cond.fieldLink "MineAir$Book" 65 "MineAir$Gear" "faces" "I" ∈ wG := wG_of 192 (by decide +kernel) (by decide +kernel)
theorem wd_238 : Cond.fieldLink "MineAir$Book" 50 "MineAir$Book" "ways" "I" ∈ wG := wG_of 238 (by decide +kernel) (by decide +kernel)
theorem wd_271 : Cond.fieldLink "MineAir$Book" 30 "MineAir$Book" "doorIn" "[I" ∈ wG := wG_of 271 (by decide +kernel) (by decide +kernel)
theorem wd_275 : Cond.fieldLink "MineAir$Book" 33 "MineAir$Book" "fanIn" "[I" ∈ wG := wG_of 275 (by decide +kernel) (by decide +kernel)
theorem wd_280 : Cond.fieldLink "MineAir$Book" 36 "MineAir$Book" "faceIn" "[I" ∈ wG := wG_of 280 (by decide +kernel) (by decide +kernel)
theorem wd_283 : Cond.fieldLink "MineAir$Book" 53 "MineAir$Book" "knots" "I" ∈ wG := wG_of 283 (by decide +kernel) (by decide +kernel)
theorem wd_288 : Cond.fieldLink "MineAir$Book" 39 "MineAir$Book" "day" "I" ∈ wG := wG_of 288 (by decide +kernel) (by decide +kernel)
theorem wd_293 : Cond.fieldLink "MineAir$Book" 46 "MineAir$Book" "gear" "LMineAir$Gear;" ∈ wG := wG_of 293 (by decide +kernel) (by decide +kernel)
theorem wd_336 : Cond.fieldLink "MineAir" 95 "MineAir$Reader" "fault" "I" ∈ wG := wG_of 336 (by decide +kernel) (by decide +kernel)
theorem wd_337 : Cond.fieldLink "MineAir$Reader" 45 "MineAir$Reader" "fault" "I" ∈ wG := wG_of 337 (by decide +kernel) (by decide +kernel)
theorem wd_338 : Cond.fieldLink "MineAir$Reader" 48 "MineAir$Reader" "faultPlace" "I" ∈ wG := wG_of 338 (by decide +kernel) (by decide +kernel)
theorem wd_339 : Cond.fieldLink "MineAir" 99 "MineAir$Reader" "faultPlace" "I" ∈ wG := wG_of 339 (by decide +kernel) (by decide +kernel)
theorem wd_340 : Cond.fieldLink "MineAir$Reader" 28 "MineAir$Reader" "draft" "LMineAir$Book;" ∈ wG := wG_of 340 (by decide +kernel) (by decide +kernel)
theorem wd_344 : Cond.fieldLink "MineAir$Reader" 42 "MineAir$Reader" "named" "I" ∈ wG := wG_of 344 (by decide +kernel) (by decide +kernel)
theorem wd_346 : Cond.fieldLink "MineAir$Reader" 36 "MineAir$Reader" "end" "I" ∈ wG := wG_of 346 (by decide +kernel) (by decide +kernel)
theorem wd_347 : Cond.fieldLink "MineAir$Reader" 39 "MineAir$Reader" "at" "I" ∈ wG := wG_of 347 (by decide +kernel) (by decide +kernel)
theorem wd_348 : Cond.fieldLink "MineAir$Reader" 92 "MineAir$Reader" "token" "I" ∈ wG := wG_of 348 (by decide +kernel) (by decide +kernel)
theorem wd_349 : Cond.fieldLink "MineAir$Reader" 242 "MineAir$Reader" "tokenStart" "I" ∈ wG := wG_of 349 (by decide +kernel) (by decide +kernel)
theorem wd_350 : Cond.fieldLink "MineAir$Reader" 215 "MineAir$Reader" "tokenValue" "J" ∈ wG := wG_of 350 (by decide +kernel) (by decide +kernel)
theorem wd_668 : Cond.static (⟨"java/util/Arrays", "fill", "([II)V"⟩ : MethodName) ∈ wG := wG_of 668 (by decide +kernel) (by decide +kernel)
theorem wd_669 : Cond.code (⟨"java/util/Arrays", "fill", "([II)V"⟩ : MethodName) prog_25_method_103_code 4 (Option.none : Option Jvm.ClassFile.FieldType) ∈ wG := wG_of 669 (by decide +kernel) (by decide +kernel)
theorem wd_681 : Cond.fieldLink "MineAir" 102 "MineAir" "place" "I" ∈ wG := wG_of 681 (by decide +kernel) (by decide +kernel)
theorem wd_723 : Cond.methodLink "MineAir" 91 (⟨"MineAir$Reader", "readBook", "(I)Z"⟩ : MethodName) ∈ wG := wG_of 723 (by decide +kernel) (by decide +kernel)
theorem wd_724 : Cond.instanceMethod (⟨"MineAir$Reader", "readBook", "(I)Z"⟩ : MethodName) ∈ wG := wG_of 724 (by decide +kernel) (by decide +kernel)
theorem wd_725 : Cond.selects "MineAir$Reader" (⟨"MineAir$Reader", "readBook", "(I)Z"⟩ : MethodName) (⟨"MineAir$Reader", "readBook", "(I)Z"⟩ : MethodName) ∈ wG := wG_of 725 (by decide +kernel) (by decide +kernel)
theorem wd_726 : Cond.code (⟨"MineAir$Reader", "readBook", "(I)Z"⟩ : MethodName) prog_9_method_3_code 3 (Option.some Jvm.ClassFile.FieldType.boolean) ∈ wG := wG_of 726 (by decide +kernel) (by decide +kernel)
theorem wd_727 : Cond.methodLink "MineAir$Reader" 51 (⟨"MineAir$Book", "clear", "()V"⟩ : MethodName) ∈ wG := wG_of 727 (by decide +kernel) (by decide +kernel)
theorem wd_728 : Cond.instanceMethod (⟨"MineAir$Book", "clear", "()V"⟩ : MethodName) ∈ wG := wG_of 728 (by decide +kernel) (by decide +kernel)
theorem wd_729 : Cond.selects "MineAir$Book" (⟨"MineAir$Book", "clear", "()V"⟩ : MethodName) (⟨"MineAir$Book", "clear", "()V"⟩ : MethodName) ∈ wG := wG_of 729 (by decide +kernel) (by decide +kernel)
theorem wd_730 : Cond.code (⟨"MineAir$Book", "clear", "()V"⟩ : MethodName) prog_2_method_2_code 1 (Option.none : Option Jvm.ClassFile.FieldType) ∈ wG := wG_of 730 (by decide +kernel) (by decide +kernel)
theorem wd_731 : Cond.methodLink "MineAir$Book" 68 (⟨"java/util/Arrays", "fill", "([II)V"⟩ : MethodName) ∈ wG := wG_of 731 (by decide +kernel) (by decide +kernel)
theorem wd_732 : Cond.methodLink "MineAir$Reader" 56 (⟨"MineAir$Reader", "next", "()V"⟩ : MethodName) ∈ wG := wG_of 732 (by decide +kernel) (by decide +kernel)
theorem wd_734 : Cond.instanceMethod (⟨"MineAir$Reader", "next", "()V"⟩ : MethodName) ∈ wG := wG_of 734 (by decide +kernel) (by decide +kernel)
theorem wd_735 : Cond.code (⟨"MineAir$Reader", "next", "()V"⟩ : MethodName) prog_9_method_22_code 2 (Option.none : Option Jvm.ClassFile.FieldType) ∈ wG := wG_of 735 (by decide +kernel) (by decide +kernel)
theorem wd_753 : Cond.methodLink "MineAir$Reader" 61 (⟨"MineAir$Reader", "takeWord", "(Ljava/lang/String;)Z"⟩ : MethodName) ∈ wG := wG_of 753 (by decide +kernel) (by decide +kernel)
theorem wd_755 : Cond.instanceMethod (⟨"MineAir$Reader", "takeWord", "(Ljava/lang/String;)Z"⟩ : MethodName) ∈ wG := wG_of 755 (by decide +kernel) (by decide +kernel)
theorem wd_756 : Cond.code (⟨"MineAir$Reader", "takeWord", "(Ljava/lang/String;)Z"⟩ : MethodName) prog_9_method_16_code 2 (Option.some Jvm.ClassFile.FieldType.boolean) ∈ wG := wG_of 756 (by decide +kernel) (by decide +kernel)
theorem wd_757 : Cond.methodLink "MineAir$Reader" 230 (⟨"MineAir$Reader", "isWord", "(Ljava/lang/String;)Z"⟩ : MethodName) ∈ wG := wG_of 757 (by decide +kernel) (by decide +kernel)
theorem wd_759 : Cond.instanceMethod (⟨"MineAir$Reader", "isWord", "(Ljava/lang/String;)Z"⟩ : MethodName) ∈ wG := wG_of 759 (by decide +kernel) (by decide +kernel)
theorem wd_760 : Cond.code (⟨"MineAir$Reader", "isWord", "(Ljava/lang/String;)Z"⟩ : MethodName) prog_9_method_17_code 2 (Option.some Jvm.ClassFile.FieldType.boolean) ∈ wG := wG_of 760 (by decide +kernel) (by decide +kernel)
theorem wd_828 : Cond.methodLink "MineAir$Reader" 88 (⟨"MineAir$Reader", "miss", "(I)Z"⟩ : MethodName) ∈ wG := wG_of 828 (by decide +kernel) (by decide +kernel)
theorem wd_830 : Cond.instanceMethod (⟨"MineAir$Reader", "miss", "(I)Z"⟩ : MethodName) ∈ wG := wG_of 830 (by decide +kernel) (by decide +kernel)
theorem wd_831 : Cond.code (⟨"MineAir$Reader", "miss", "(I)Z"⟩ : MethodName) prog_9_method_21_code 2 (Option.some Jvm.ClassFile.FieldType.boolean) ∈ wG := wG_of 831 (by decide +kernel) (by decide +kernel)
theorem dJ7_fill_53178_0 : decode cJ7_fill_53178 0 = .ok (.iconst 0, 1) := by decide +kernel
theorem dJ7_fill_53178_1 : decode cJ7_fill_53178 1 = .ok (.istore_n 2, 1) := by decide +kernel
theorem dJ7_fill_53178_2 : decode cJ7_fill_53178 2 = .ok (.aload_n 0, 1) := by decide +kernel
theorem dJ7_fill_53178_3 : decode cJ7_fill_53178 3 = .ok (.arraylength, 1) := by decide +kernel
theorem dJ7_fill_53178_4 : decode cJ7_fill_53178 4 = .ok (.istore_n 3, 1) := by decide +kernel
theorem dJ7_fill_53178_5 : decode cJ7_fill_53178 5 = .ok (.iload_n 2, 1) := by decide +kernel
theorem dJ7_fill_53178_6 : decode cJ7_fill_53178 6 = .ok (.iload_n 3, 1) := by decide +kernel
theorem dJ7_fill_53178_7 : decode cJ7_fill_53178 7 = .ok (.if_icmp .ge 13, 3) := by decide +kernel
theorem dJ7_fill_53178_10 : decode cJ7_fill_53178 10 = .ok (.aload_n 0, 1) := by decide +kernel
theorem dJ7_fill_53178_11 : decode cJ7_fill_53178 11 = .ok (.iload_n 2, 1) := by decide +kernel
theorem dJ7_fill_53178_12 : decode cJ7_fill_53178 12 = .ok (.iload_n 1, 1) := by decide +kernel
theorem dJ7_fill_53178_13 : decode cJ7_fill_53178 13 = .ok (.iastore, 1) := by decide +kernel
theorem dJ7_fill_53178_14 : decode cJ7_fill_53178 14 = .ok (.iinc 2 1, 3) := by decide +kernel
theorem dJ7_fill_53178_17 : decode cJ7_fill_53178 17 = .ok (.goto (-12), 3) := by decide +kernel
theorem dJ7_fill_53178_20 : decode cJ7_fill_53178 20 = .ok (.return_, 1) := by decide +kernel
theorem dX0_clear_0 : decode cX0_clear 0 = .ok (.aload_n 0, 1) := by decide +kernel
theorem dX0_clear_1 : decode cX0_clear 1 = .ok (.iconst 0, 1) := by decide +kernel
theorem dX0_clear_2 : decode cX0_clear 2 = .ok (.putfield 50, 3) := by decide +kernel
theorem dX0_clear_5 : decode cX0_clear 5 = .ok (.aload_n 0, 1) := by decide +kernel
theorem dX0_clear_6 : decode cX0_clear 6 = .ok (.iconst 0, 1) := by decide +kernel
theorem dX0_clear_7 : decode cX0_clear 7 = .ok (.putfield 53, 3) := by decide +kernel
theorem dX0_clear_10 : decode cX0_clear 10 = .ok (.aload_n 0, 1) := by decide +kernel
theorem dX0_clear_11 : decode cX0_clear 11 = .ok (.iconst (-1), 1) := by decide +kernel
theorem dX0_clear_12 : decode cX0_clear 12 = .ok (.putfield 39, 3) := by decide +kernel
theorem dX0_clear_15 : decode cX0_clear 15 = .ok (.aload_n 0, 1) := by decide +kernel
theorem dX0_clear_16 : decode cX0_clear 16 = .ok (.getfield 46, 3) := by decide +kernel
theorem dX0_clear_19 : decode cX0_clear 19 = .ok (.iconst 0, 1) := by decide +kernel
theorem dX0_clear_20 : decode cX0_clear 20 = .ok (.putfield 56, 3) := by decide +kernel
theorem dX0_clear_23 : decode cX0_clear 23 = .ok (.aload_n 0, 1) := by decide +kernel
theorem dX0_clear_24 : decode cX0_clear 24 = .ok (.getfield 46, 3) := by decide +kernel
theorem dX0_clear_27 : decode cX0_clear 27 = .ok (.iconst 0, 1) := by decide +kernel
theorem dX0_clear_28 : decode cX0_clear 28 = .ok (.putfield 59, 3) := by decide +kernel
theorem dX0_clear_31 : decode cX0_clear 31 = .ok (.aload_n 0, 1) := by decide +kernel
theorem dX0_clear_32 : decode cX0_clear 32 = .ok (.getfield 46, 3) := by decide +kernel
theorem dX0_clear_35 : decode cX0_clear 35 = .ok (.iconst 0, 1) := by decide +kernel
theorem dX0_clear_36 : decode cX0_clear 36 = .ok (.putfield 62, 3) := by decide +kernel
theorem dX0_clear_39 : decode cX0_clear 39 = .ok (.aload_n 0, 1) := by decide +kernel
theorem dX0_clear_40 : decode cX0_clear 40 = .ok (.getfield 46, 3) := by decide +kernel
theorem dX0_clear_43 : decode cX0_clear 43 = .ok (.iconst 0, 1) := by decide +kernel
theorem dX0_clear_44 : decode cX0_clear 44 = .ok (.putfield 65, 3) := by decide +kernel
theorem dX0_clear_47 : decode cX0_clear 47 = .ok (.aload_n 0, 1) := by decide +kernel
theorem dX0_clear_48 : decode cX0_clear 48 = .ok (.getfield 30, 3) := by decide +kernel
theorem dX0_clear_51 : decode cX0_clear 51 = .ok (.iconst (-1), 1) := by decide +kernel
theorem dX0_clear_52 : decode cX0_clear 52 = .ok (.invokestatic 68, 3) := by decide +kernel
theorem dX0_clear_55 : decode cX0_clear 55 = .ok (.aload_n 0, 1) := by decide +kernel
theorem dX0_clear_56 : decode cX0_clear 56 = .ok (.getfield 33, 3) := by decide +kernel
theorem dX0_clear_59 : decode cX0_clear 59 = .ok (.iconst (-1), 1) := by decide +kernel
theorem dX0_clear_60 : decode cX0_clear 60 = .ok (.invokestatic 68, 3) := by decide +kernel
theorem dX0_clear_63 : decode cX0_clear 63 = .ok (.aload_n 0, 1) := by decide +kernel
theorem dX0_clear_64 : decode cX0_clear 64 = .ok (.getfield 36, 3) := by decide +kernel
theorem dX0_clear_67 : decode cX0_clear 67 = .ok (.iconst (-1), 1) := by decide +kernel
theorem dX0_clear_68 : decode cX0_clear 68 = .ok (.invokestatic 68, 3) := by decide +kernel
theorem dX0_clear_71 : decode cX0_clear 71 = .ok (.return_, 1) := by decide +kernel
theorem dX11_book_0 : decode cX11_book 0 = .ok (.iload_n 1, 1) := by decide +kernel
theorem dX11_book_1 : decode cX11_book 1 = .ok (.ifCond .lt 14, 3) := by decide +kernel
theorem dX11_book_4 : decode cX11_book 4 = .ok (.iload_n 1, 1) := by decide +kernel
theorem dX11_book_5 : decode cX11_book 5 = .ok (.aload_n 0, 1) := by decide +kernel
theorem dX11_book_6 : decode cX11_book 6 = .ok (.getfield 24, 3) := by decide +kernel
theorem dX11_book_9 : decode cX11_book 9 = .ok (.getfield 79, 3) := by decide +kernel
theorem dX11_book_12 : decode cX11_book 12 = .ok (.if_icmp .le 9, 3) := by decide +kernel
theorem dX11_book_15 : decode cX11_book 15 = .ok (.aload_n 0, 1) := by decide +kernel
theorem dX11_book_16 : decode cX11_book 16 = .ok (.iconst 2, 1) := by decide +kernel
theorem dX11_book_17 : decode cX11_book 17 = .ok (.invokevirtual 87, 3) := by decide +kernel
theorem dX11_book_20 : decode cX11_book 20 = .ok (.ireturn, 1) := by decide +kernel
theorem dX11_book_21 : decode cX11_book 21 = .ok (.aload_n 0, 1) := by decide +kernel
theorem dX11_book_22 : decode cX11_book 22 = .ok (.getfield 24, 3) := by decide +kernel
theorem dX11_book_25 : decode cX11_book 25 = .ok (.iload_n 1, 1) := by decide +kernel
theorem dX11_book_26 : decode cX11_book 26 = .ok (.invokevirtual 91, 3) := by decide +kernel
theorem dX11_book_29 : decode cX11_book 29 = .ok (.istore_n 2, 1) := by decide +kernel
theorem dX11_book_30 : decode cX11_book 30 = .ok (.aload_n 0, 1) := by decide +kernel
theorem dX11_book_31 : decode cX11_book 31 = .ok (.aload_n 0, 1) := by decide +kernel
theorem dX11_book_32 : decode cX11_book 32 = .ok (.getfield 24, 3) := by decide +kernel
theorem dX11_book_35 : decode cX11_book 35 = .ok (.getfield 95, 3) := by decide +kernel
theorem dX11_book_38 : decode cX11_book 38 = .ok (.putfield 98, 3) := by decide +kernel
theorem dX11_book_41 : decode cX11_book 41 = .ok (.aload_n 0, 1) := by decide +kernel
theorem dX11_book_42 : decode cX11_book 42 = .ok (.aload_n 0, 1) := by decide +kernel
theorem dX11_book_43 : decode cX11_book 43 = .ok (.getfield 24, 3) := by decide +kernel
theorem dX11_book_46 : decode cX11_book 46 = .ok (.getfield 99, 3) := by decide +kernel
theorem dX11_book_49 : decode cX11_book 49 = .ok (.putfield 102, 3) := by decide +kernel
theorem dX11_book_52 : decode cX11_book 52 = .ok (.iload_n 2, 1) := by decide +kernel
theorem dX11_book_53 : decode cX11_book 53 = .ok (.ifCond .ne 9, 3) := by decide +kernel
theorem dX11_book_56 : decode cX11_book 56 = .ok (.aload_n 0, 1) := by decide +kernel
theorem dX11_book_57 : decode cX11_book 57 = .ok (.iconst 4, 1) := by decide +kernel
theorem dX11_book_58 : decode cX11_book 58 = .ok (.invokevirtual 87, 3) := by decide +kernel
theorem dX11_book_61 : decode cX11_book 61 = .ok (.ireturn, 1) := by decide +kernel
theorem dX7_isWord_0 : decode cX7_isWord 0 = .ok (.aload_n 0, 1) := by decide +kernel
theorem dX7_isWord_1 : decode cX7_isWord 1 = .ok (.getfield 92, 3) := by decide +kernel
theorem dX7_isWord_4 : decode cX7_isWord 4 = .ok (.iconst 1, 1) := by decide +kernel
theorem dX7_isWord_5 : decode cX7_isWord 5 = .ok (.if_icmp .ne 19, 3) := by decide +kernel
theorem dX7_isWord_24 : decode cX7_isWord 24 = .ok (.iconst 0, 1) := by decide +kernel
theorem dX7_isWord_25 : decode cX7_isWord 25 = .ok (.ireturn, 1) := by decide +kernel
theorem dX7_miss_0 : decode cX7_miss 0 = .ok (.aload_n 0, 1) := by decide +kernel
theorem dX7_miss_1 : decode cX7_miss 1 = .ok (.getfield 45, 3) := by decide +kernel
theorem dX7_miss_4 : decode cX7_miss 4 = .ok (.ifCond .ne 16, 3) := by decide +kernel
theorem dX7_miss_7 : decode cX7_miss 7 = .ok (.aload_n 0, 1) := by decide +kernel
theorem dX7_miss_8 : decode cX7_miss 8 = .ok (.iload_n 1, 1) := by decide +kernel
theorem dX7_miss_9 : decode cX7_miss 9 = .ok (.putfield 45, 3) := by decide +kernel
theorem dX7_miss_12 : decode cX7_miss 12 = .ok (.aload_n 0, 1) := by decide +kernel
theorem dX7_miss_13 : decode cX7_miss 13 = .ok (.aload_n 0, 1) := by decide +kernel
theorem dX7_miss_14 : decode cX7_miss 14 = .ok (.getfield 242, 3) := by decide +kernel
theorem dX7_miss_17 : decode cX7_miss 17 = .ok (.putfield 48, 3) := by decide +kernel
theorem dX7_miss_20 : decode cX7_miss 20 = .ok (.iconst 0, 1) := by decide +kernel
theorem dX7_miss_21 : decode cX7_miss 21 = .ok (.ireturn, 1) := by decide +kernel
theorem dX7_next_0 : decode cX7_next 0 = .ok (.aload_n 0, 1) := by decide +kernel
theorem dX7_next_1 : decode cX7_next 1 = .ok (.getfield 39, 3) := by decide +kernel
theorem dX7_next_4 : decode cX7_next 4 = .ok (.istore_n 1, 1) := by decide +kernel
theorem dX7_next_5 : decode cX7_next 5 = .ok (.iload_n 1, 1) := by decide +kernel
theorem dX7_next_6 : decode cX7_next 6 = .ok (.aload_n 0, 1) := by decide +kernel
theorem dX7_next_7 : decode cX7_next 7 = .ok (.getfield 36, 3) := by decide +kernel
theorem dX7_next_10 : decode cX7_next 10 = .ok (.if_icmp .ge 27, 3) := by decide +kernel
theorem dX7_next_37 : decode cX7_next 37 = .ok (.aload_n 0, 1) := by decide +kernel
theorem dX7_next_38 : decode cX7_next 38 = .ok (.aload_n 0, 1) := by decide +kernel
theorem dX7_next_39 : decode cX7_next 39 = .ok (.getfield 39, 3) := by decide +kernel
theorem dX7_next_42 : decode cX7_next 42 = .ok (.putfield 242, 3) := by decide +kernel
theorem dX7_next_45 : decode cX7_next 45 = .ok (.aload_n 0, 1) := by decide +kernel
theorem dX7_next_46 : decode cX7_next 46 = .ok (.lconst 0, 1) := by decide +kernel
theorem dX7_next_47 : decode cX7_next 47 = .ok (.putfield 215, 3) := by decide +kernel
theorem dX7_next_50 : decode cX7_next 50 = .ok (.aload_n 0, 1) := by decide +kernel
theorem dX7_next_51 : decode cX7_next 51 = .ok (.getfield 39, 3) := by decide +kernel
theorem dX7_next_54 : decode cX7_next 54 = .ok (.aload_n 0, 1) := by decide +kernel
theorem dX7_next_55 : decode cX7_next 55 = .ok (.getfield 36, 3) := by decide +kernel
theorem dX7_next_58 : decode cX7_next 58 = .ok (.if_icmp .lt 11, 3) := by decide +kernel
theorem dX7_next_61 : decode cX7_next 61 = .ok (.aload_n 0, 1) := by decide +kernel
theorem dX7_next_62 : decode cX7_next 62 = .ok (.iconst 0, 1) := by decide +kernel
theorem dX7_next_63 : decode cX7_next 63 = .ok (.putfield 92, 3) := by decide +kernel
theorem dX7_next_66 : decode cX7_next 66 = .ok (.goto 98, 3) := by decide +kernel
theorem dX7_next_164 : decode cX7_next 164 = .ok (.return_, 1) := by decide +kernel
theorem dX7_readBook_0 : decode cX7_readBook 0 = .ok (.aload_n 0, 1) := by decide +kernel
theorem dX7_readBook_1 : decode cX7_readBook 1 = .ok (.iload_n 1, 1) := by decide +kernel
theorem dX7_readBook_2 : decode cX7_readBook 2 = .ok (.aload_n 0, 1) := by decide +kernel
theorem dX7_readBook_3 : decode cX7_readBook 3 = .ok (.getfield 32, 3) := by decide +kernel
theorem dX7_readBook_6 : decode cX7_readBook 6 = .ok (.if_icmp .ge 7, 3) := by decide +kernel
theorem dX7_readBook_13 : decode cX7_readBook 13 = .ok (.aload_n 0, 1) := by decide +kernel
theorem dX7_readBook_14 : decode cX7_readBook 14 = .ok (.getfield 32, 3) := by decide +kernel
theorem dX7_readBook_17 : decode cX7_readBook 17 = .ok (.putfield 36, 3) := by decide +kernel
theorem dX7_readBook_20 : decode cX7_readBook 20 = .ok (.aload_n 0, 1) := by decide +kernel
theorem dX7_readBook_21 : decode cX7_readBook 21 = .ok (.iconst 0, 1) := by decide +kernel
theorem dX7_readBook_22 : decode cX7_readBook 22 = .ok (.putfield 32, 3) := by decide +kernel
theorem dX7_readBook_25 : decode cX7_readBook 25 = .ok (.aload_n 0, 1) := by decide +kernel
theorem dX7_readBook_26 : decode cX7_readBook 26 = .ok (.iconst 0, 1) := by decide +kernel
theorem dX7_readBook_27 : decode cX7_readBook 27 = .ok (.putfield 39, 3) := by decide +kernel
theorem dX7_readBook_30 : decode cX7_readBook 30 = .ok (.aload_n 0, 1) := by decide +kernel
theorem dX7_readBook_31 : decode cX7_readBook 31 = .ok (.iconst 0, 1) := by decide +kernel
theorem dX7_readBook_32 : decode cX7_readBook 32 = .ok (.putfield 42, 3) := by decide +kernel
theorem dX7_readBook_35 : decode cX7_readBook 35 = .ok (.aload_n 0, 1) := by decide +kernel
theorem dX7_readBook_36 : decode cX7_readBook 36 = .ok (.iconst 0, 1) := by decide +kernel
theorem dX7_readBook_37 : decode cX7_readBook 37 = .ok (.putfield 45, 3) := by decide +kernel
theorem dX7_readBook_40 : decode cX7_readBook 40 = .ok (.aload_n 0, 1) := by decide +kernel
theorem dX7_readBook_41 : decode cX7_readBook 41 = .ok (.iconst (-1), 1) := by decide +kernel
theorem dX7_readBook_42 : decode cX7_readBook 42 = .ok (.putfield 48, 3) := by decide +kernel
theorem dX7_readBook_45 : decode cX7_readBook 45 = .ok (.aload_n 0, 1) := by decide +kernel
theorem dX7_readBook_46 : decode cX7_readBook 46 = .ok (.getfield 28, 3) := by decide +kernel
theorem dX7_readBook_49 : decode cX7_readBook 49 = .ok (.invokevirtual 51, 3) := by decide +kernel
theorem dX7_readBook_52 : decode cX7_readBook 52 = .ok (.aload_n 0, 1) := by decide +kernel
theorem dX7_readBook_53 : decode cX7_readBook 53 = .ok (.invokevirtual 56, 3) := by decide +kernel
theorem dX7_readBook_56 : decode cX7_readBook 56 = .ok (.iconst 0, 1) := by decide +kernel
theorem dX7_readBook_57 : decode cX7_readBook 57 = .ok (.istore_n 2, 1) := by decide +kernel
theorem dX7_readBook_58 : decode cX7_readBook 58 = .ok (.iload_n 2, 1) := by decide +kernel
theorem dX7_readBook_59 : decode cX7_readBook 59 = .ok (.sipush 600, 3) := by decide +kernel
theorem dX7_readBook_62 : decode cX7_readBook 62 = .ok (.if_icmp .gt 131, 3) := by decide +kernel
theorem dX7_readBook_65 : decode cX7_readBook 65 = .ok (.aload_n 0, 1) := by decide +kernel
theorem dX7_readBook_66 : decode cX7_readBook 66 = .ok (.ldc 59, 2) := by decide +kernel
theorem dX7_readBook_68 : decode cX7_readBook 68 = .ok (.invokevirtual 61, 3) := by decide +kernel
theorem dX7_readBook_71 : decode cX7_readBook 71 = .ok (.ifCond .eq 10, 3) := by decide +kernel
theorem dX7_readBook_81 : decode cX7_readBook 81 = .ok (.aload_n 0, 1) := by decide +kernel
theorem dX7_readBook_82 : decode cX7_readBook 82 = .ok (.ldc 68, 2) := by decide +kernel
theorem dX7_readBook_84 : decode cX7_readBook 84 = .ok (.invokevirtual 61, 3) := by decide +kernel
theorem dX7_readBook_87 : decode cX7_readBook 87 = .ok (.ifCond .eq 10, 3) := by decide +kernel
theorem dX7_readBook_97 : decode cX7_readBook 97 = .ok (.aload_n 0, 1) := by decide +kernel
theorem dX7_readBook_98 : decode cX7_readBook 98 = .ok (.ldc 73, 2) := by decide +kernel
theorem dX7_readBook_100 : decode cX7_readBook 100 = .ok (.invokevirtual 61, 3) := by decide +kernel
theorem dX7_readBook_103 : decode cX7_readBook 103 = .ok (.ifCond .eq 10, 3) := by decide +kernel
theorem dX7_readBook_113 : decode cX7_readBook 113 = .ok (.aload_n 0, 1) := by decide +kernel
theorem dX7_readBook_114 : decode cX7_readBook 114 = .ok (.ldc 78, 2) := by decide +kernel
theorem dX7_readBook_116 : decode cX7_readBook 116 = .ok (.invokevirtual 61, 3) := by decide +kernel
theorem dX7_readBook_119 : decode cX7_readBook 119 = .ok (.ifCond .eq 10, 3) := by decide +kernel
theorem dX7_readBook_129 : decode cX7_readBook 129 = .ok (.aload_n 0, 1) := by decide +kernel
theorem dX7_readBook_130 : decode cX7_readBook 130 = .ok (.ldc 83, 2) := by decide +kernel
theorem dX7_readBook_132 : decode cX7_readBook 132 = .ok (.invokevirtual 61, 3) := by decide +kernel
theorem dX7_readBook_135 : decode cX7_readBook 135 = .ok (.ifCond .eq 10, 3) := by decide +kernel
theorem dX7_readBook_145 : decode cX7_readBook 145 = .ok (.aload_n 0, 1) := by decide +kernel
theorem dX7_readBook_146 : decode cX7_readBook 146 = .ok (.iconst 1, 1) := by decide +kernel
theorem dX7_readBook_147 : decode cX7_readBook 147 = .ok (.invokevirtual 88, 3) := by decide +kernel
theorem dX7_readBook_150 : decode cX7_readBook 150 = .ok (.pop, 1) := by decide +kernel
theorem dX7_readBook_151 : decode cX7_readBook 151 = .ok (.aload_n 0, 1) := by decide +kernel
theorem dX7_readBook_152 : decode cX7_readBook 152 = .ok (.getfield 45, 3) := by decide +kernel
theorem dX7_readBook_155 : decode cX7_readBook 155 = .ok (.ifCond .eq 5, 3) := by decide +kernel
theorem dX7_readBook_158 : decode cX7_readBook 158 = .ok (.iconst 0, 1) := by decide +kernel
theorem dX7_readBook_159 : decode cX7_readBook 159 = .ok (.ireturn, 1) := by decide +kernel
theorem dX7_takeWord_0 : decode cX7_takeWord 0 = .ok (.aload_n 0, 1) := by decide +kernel
theorem dX7_takeWord_1 : decode cX7_takeWord 1 = .ok (.aload_n 1, 1) := by decide +kernel
theorem dX7_takeWord_2 : decode cX7_takeWord 2 = .ok (.invokevirtual 230, 3) := by decide +kernel
theorem dX7_takeWord_5 : decode cX7_takeWord 5 = .ok (.ifCond .ne 5, 3) := by decide +kernel
theorem dX7_takeWord_8 : decode cX7_takeWord 8 = .ok (.iconst 0, 1) := by decide +kernel
theorem dX7_takeWord_9 : decode cX7_takeWord 9 = .ok (.ireturn, 1) := by decide +kernel
set_option maxHeartbeats 4000000 in
set_option maxRecDepth 100000 in
theorem c_fill14 (l : Launch) (dC : Nat → ClassId) (dI : Nat → Nat → Nat) (n0 sz : Nat) (a : Nat) (ka : ClassId) (f : Nat → Int32) (v : Int32) : Met l yJ7_fill_53178 (wM yJ7_fill_53178 cJ7_fill_53178 4 none) ({ frames := 0, cells := 0, slots := 0, locals := 0 }) (va_Pc [.ref a, .int v] (fun U => U.heap.size = sz ∧ n0 ≤ sz ∧ GW n0 U ∧ va_P (dC, dI) classes [(a, .inl (ka, 14, .inl f))] U.heap ∧ va_K (dC, dI) classes [(ka, .int)] U ∧ va_D (fun q => n0 ≤ q) [(a, .inl (ka, 14, .inl f))])) (va_Qv (fun _ : Unit => True) (fun (_ : Unit) (t : State) => ∃ (f2 : Nat → Int32), va_P (dC, dI) classes [(a, .inl (ka, 14, .inl f2))] t.heap ∧ va_K (dC, dI) classes [(ka, .int)] t ∧ va_D (va_A [(a, .inl (ka, 14, .inl f))] sz) [(a, .inl (ka, 14, .inl f2))]) (va_A [(a, .inl (ka, 14, .inl f))] sz)) 0 0 (va_A [(a, .inl (ka, 14, .inl f))] sz) := by
  refine Met.ofW (cc := cJ7_fill_53178) (maxL := 4) (ret := none) (by decide) rfl ?_
  intro p e s m args below meth c s₁ B hml hv
  obtain ⟨rfl, hsz, hn0, hG, hP, hK, hD0⟩ := hv
  have hx := B.exec
  have hb := B.bytes
  have hr := B.returns
  have hts := atoms_spec (ws := wM yJ7_fill_53178 cJ7_fill_53178 4 none) B.pre
  have hown : s.vm.findClass RJ7 = some m.cls := findClass_of_methodNamed B.named
  have hlocks := B.notSynchronized
  subst hsz
  have hD := hD0.self (sz := s.heap.size)
  have hA0 := vA_n0 hD0 hn0
  generalize hAe : va_A [(a, .inl (ka, 14, .inl f))] s.heap.size = A at hD hA0 ⊢
  have hA : ∀ q : Nat, s.heap.size ≤ q → A q := fun q h => by rw [← hAe]; exact Or.inr h
  have hS : va_S A s.heap s.heap [] := va_S.rf
  have hl := lv_entry ([.ref a, .int v]) (n := 4) (Nat.le_of_ble_eq_true rfl)
  rw [lg_entry_eq]
  generalize (lg_sl ([.ref a, .int v]) ++ List.replicate (4 - (lg_sl ([.ref a, .int v])).length) Slot.unset).toArray = ls at hl ⊢
  have hl : lv_has ls 4 [(0, .ref a), (1, .int v)] := hl
  refine lv_iconst (v := 0) hx hb dJ7_fill_53178_0 (by decide) ?_
  refine lv_istore_n (lv' := [(2, .int 0), (0, .ref a), (1, .int v)]) hx hb dJ7_fill_53178_1 rfl hl (by decide) rfl (fun ls hl => ?_)
  refine lv_aload_n hx hb dJ7_fill_53178_2 rfl (lv_at hl 1 rfl) ?_
  refine va_alen (v := 14) hx hb hK hP 0 0 rfl rfl rfl dJ7_fill_53178_3 ?_
  refine lv_istore_n (lv' := [(3, .int 14), (2, .int 0), (0, .ref a), (1, .int v)]) hx hb dJ7_fill_53178_4 rfl hl (by decide) rfl (fun ls hl => ?_)
  refine lv_iload_n hx hb dJ7_fill_53178_5 rfl (lv_at hl 1 rfl) ?_
  refine lv_iload_n hx hb dJ7_fill_53178_6 rfl (lv_at hl 0 rfl) ?_
  refine lv_icmp_ge (tgt := 20) hx hb dJ7_fill_53178_7 (by decide) (fun c_1 => ?_) (fun c_1 => ?_)
  · exact absurd c_1 (by decide)
  refine lv_aload_n hx hb dJ7_fill_53178_10 rfl (lv_at hl 2 rfl) ?_
  refine lv_iload_n hx hb dJ7_fill_53178_11 rfl (lv_at hl 1 rfl) ?_
  refine lv_iload_n hx hb dJ7_fill_53178_12 rfl (lv_at hl 3 rfl) ?_
  refine va_iast hx hb hK hP hD hS 0 0 rfl rfl (by unfold vp_in; decide) dJ7_fill_53178_13 (fun H locs hP hD hS => ?_)
  obtain ⟨f_2, hP, hD⟩ : ∃ f9, va_P (dC, dI) classes [(a, .inl (ka, 14, .inl f9))] H ∧ va_D A [(a, .inl (ka, 14, .inl f9))] := ⟨_, hP, hD⟩
  refine lv_iinc (v := 1) (lv' := [(2, .int 1), (3, .int 14), (0, .ref a), (1, .int v)]) hx hb dJ7_fill_53178_14 hl (k := 1) rfl (by decide) (by decide) rfl (fun ls hl => ?_)
  refine lv_goto (tgt := 5) hx hb dJ7_fill_53178_17 (by decide) ?_
  refine lv_iload_n hx hb dJ7_fill_53178_5 rfl (lv_at hl 0 rfl) ?_
  refine lv_iload_n hx hb dJ7_fill_53178_6 rfl (lv_at hl 1 rfl) ?_
  refine lv_icmp_ge (tgt := 20) hx hb dJ7_fill_53178_7 (by decide) (fun c_3 => ?_) (fun c_3 => ?_)
  · exact absurd c_3 (by decide)
  refine lv_aload_n hx hb dJ7_fill_53178_10 rfl (lv_at hl 2 rfl) ?_
  refine lv_iload_n hx hb dJ7_fill_53178_11 rfl (lv_at hl 0 rfl) ?_
  refine lv_iload_n hx hb dJ7_fill_53178_12 rfl (lv_at hl 3 rfl) ?_
  refine va_iast hx hb hK hP hD hS 0 0 rfl rfl (by unfold vp_in; decide) dJ7_fill_53178_13 (fun H locs hP hD hS => ?_)
  obtain ⟨f_4, hP, hD⟩ : ∃ f9, va_P (dC, dI) classes [(a, .inl (ka, 14, .inl f9))] H ∧ va_D A [(a, .inl (ka, 14, .inl f9))] := ⟨_, hP, hD⟩
  refine lv_iinc (v := 2) (lv' := [(2, .int 2), (3, .int 14), (0, .ref a), (1, .int v)]) hx hb dJ7_fill_53178_14 hl (k := 0) rfl (by decide) (by decide) rfl (fun ls hl => ?_)
  refine lv_goto (tgt := 5) hx hb dJ7_fill_53178_17 (by decide) ?_
  refine lv_iload_n hx hb dJ7_fill_53178_5 rfl (lv_at hl 0 rfl) ?_
  refine lv_iload_n hx hb dJ7_fill_53178_6 rfl (lv_at hl 1 rfl) ?_
  refine lv_icmp_ge (tgt := 20) hx hb dJ7_fill_53178_7 (by decide) (fun c_5 => ?_) (fun c_5 => ?_)
  · exact absurd c_5 (by decide)
  refine lv_aload_n hx hb dJ7_fill_53178_10 rfl (lv_at hl 2 rfl) ?_
  refine lv_iload_n hx hb dJ7_fill_53178_11 rfl (lv_at hl 0 rfl) ?_
  refine lv_iload_n hx hb dJ7_fill_53178_12 rfl (lv_at hl 3 rfl) ?_
  refine va_iast hx hb hK hP hD hS 0 0 rfl rfl (by unfold vp_in; decide) dJ7_fill_53178_13 (fun H locs hP hD hS => ?_)
  obtain ⟨f_6, hP, hD⟩ : ∃ f9, va_P (dC, dI) classes [(a, .inl (ka, 14, .inl f9))] H ∧ va_D A [(a, .inl (ka, 14, .inl f9))] := ⟨_, hP, hD⟩
  refine lv_iinc (v := 3) (lv' := [(2, .int 3), (3, .int 14), (0, .ref a), (1, .int v)]) hx hb dJ7_fill_53178_14 hl (k := 0) rfl (by decide) (by decide) rfl (fun ls hl => ?_)
  refine lv_goto (tgt := 5) hx hb dJ7_fill_53178_17 (by decide) ?_
  refine lv_iload_n hx hb dJ7_fill_53178_5 rfl (lv_at hl 0 rfl) ?_
  refine lv_iload_n hx hb dJ7_fill_53178_6 rfl (lv_at hl 1 rfl) ?_
  refine lv_icmp_ge (tgt := 20) hx hb dJ7_fill_53178_7 (by decide) (fun c_7 => ?_) (fun c_7 => ?_)
  · exact absurd c_7 (by decide)
  refine lv_aload_n hx hb dJ7_fill_53178_10 rfl (lv_at hl 2 rfl) ?_
  refine lv_iload_n hx hb dJ7_fill_53178_11 rfl (lv_at hl 0 rfl) ?_
  refine lv_iload_n hx hb dJ7_fill_53178_12 rfl (lv_at hl 3 rfl) ?_
  refine va_iast hx hb hK hP hD hS 0 0 rfl rfl (by unfold vp_in; decide) dJ7_fill_53178_13 (fun H locs hP hD hS => ?_)
  obtain ⟨f_8, hP, hD⟩ : ∃ f9, va_P (dC, dI) classes [(a, .inl (ka, 14, .inl f9))] H ∧ va_D A [(a, .inl (ka, 14, .inl f9))] := ⟨_, hP, hD⟩
  refine lv_iinc (v := 4) (lv' := [(2, .int 4), (3, .int 14), (0, .ref a), (1, .int v)]) hx hb dJ7_fill_53178_14 hl (k := 0) rfl (by decide) (by decide) rfl (fun ls hl => ?_)
  refine lv_goto (tgt := 5) hx hb dJ7_fill_53178_17 (by decide) ?_
  refine lv_iload_n hx hb dJ7_fill_53178_5 rfl (lv_at hl 0 rfl) ?_
  refine lv_iload_n hx hb dJ7_fill_53178_6 rfl (lv_at hl 1 rfl) ?_
  refine lv_icmp_ge (tgt := 20) hx hb dJ7_fill_53178_7 (by decide) (fun c_9 => ?_) (fun c_9 => ?_)
  · exact absurd c_9 (by decide)
  refine lv_aload_n hx hb dJ7_fill_53178_10 rfl (lv_at hl 2 rfl) ?_
  refine lv_iload_n hx hb dJ7_fill_53178_11 rfl (lv_at hl 0 rfl) ?_
  refine lv_iload_n hx hb dJ7_fill_53178_12 rfl (lv_at hl 3 rfl) ?_
  refine va_iast hx hb hK hP hD hS 0 0 rfl rfl (by unfold vp_in; decide) dJ7_fill_53178_13 (fun H locs hP hD hS => ?_)
  obtain ⟨f_10, hP, hD⟩ : ∃ f9, va_P (dC, dI) classes [(a, .inl (ka, 14, .inl f9))] H ∧ va_D A [(a, .inl (ka, 14, .inl f9))] := ⟨_, hP, hD⟩
  refine lv_iinc (v := 5) (lv' := [(2, .int 5), (3, .int 14), (0, .ref a), (1, .int v)]) hx hb dJ7_fill_53178_14 hl (k := 0) rfl (by decide) (by decide) rfl (fun ls hl => ?_)
  refine lv_goto (tgt := 5) hx hb dJ7_fill_53178_17 (by decide) ?_
  refine lv_iload_n hx hb dJ7_fill_53178_5 rfl (lv_at hl 0 rfl) ?_
  refine lv_iload_n hx hb dJ7_fill_53178_6 rfl (lv_at hl 1 rfl) ?_
  refine lv_icmp_ge (tgt := 20) hx hb dJ7_fill_53178_7 (by decide) (fun c_11 => ?_) (fun c_11 => ?_)
  · exact absurd c_11 (by decide)
  refine lv_aload_n hx hb dJ7_fill_53178_10 rfl (lv_at hl 2 rfl) ?_
  refine lv_iload_n hx hb dJ7_fill_53178_11 rfl (lv_at hl 0 rfl) ?_
  refine lv_iload_n hx hb dJ7_fill_53178_12 rfl (lv_at hl 3 rfl) ?_
  refine va_iast hx hb hK hP hD hS 0 0 rfl rfl (by unfold vp_in; decide) dJ7_fill_53178_13 (fun H locs hP hD hS => ?_)
  obtain ⟨f_12, hP, hD⟩ : ∃ f9, va_P (dC, dI) classes [(a, .inl (ka, 14, .inl f9))] H ∧ va_D A [(a, .inl (ka, 14, .inl f9))] := ⟨_, hP, hD⟩
  refine lv_iinc (v := 6) (lv' := [(2, .int 6), (3, .int 14), (0, .ref a), (1, .int v)]) hx hb dJ7_fill_53178_14 hl (k := 0) rfl (by decide) (by decide) rfl (fun ls hl => ?_)
  refine lv_goto (tgt := 5) hx hb dJ7_fill_53178_17 (by decide) ?_
  refine lv_iload_n hx hb dJ7_fill_53178_5 rfl (lv_at hl 0 rfl) ?_
  refine lv_iload_n hx hb dJ7_fill_53178_6 rfl (lv_at hl 1 rfl) ?_
  refine lv_icmp_ge (tgt := 20) hx hb dJ7_fill_53178_7 (by decide) (fun c_13 => ?_) (fun c_13 => ?_)
  · exact absurd c_13 (by decide)
  refine lv_aload_n hx hb dJ7_fill_53178_10 rfl (lv_at hl 2 rfl) ?_
  refine lv_iload_n hx hb dJ7_fill_53178_11 rfl (lv_at hl 0 rfl) ?_
  refine lv_iload_n hx hb dJ7_fill_53178_12 rfl (lv_at hl 3 rfl) ?_
  refine va_iast hx hb hK hP hD hS 0 0 rfl rfl (by unfold vp_in; decide) dJ7_fill_53178_13 (fun H locs hP hD hS => ?_)
  obtain ⟨f_14, hP, hD⟩ : ∃ f9, va_P (dC, dI) classes [(a, .inl (ka, 14, .inl f9))] H ∧ va_D A [(a, .inl (ka, 14, .inl f9))] := ⟨_, hP, hD⟩
  refine lv_iinc (v := 7) (lv' := [(2, .int 7), (3, .int 14), (0, .ref a), (1, .int v)]) hx hb dJ7_fill_53178_14 hl (k := 0) rfl (by decide) (by decide) rfl (fun ls hl => ?_)
  refine lv_goto (tgt := 5) hx hb dJ7_fill_53178_17 (by decide) ?_
  refine lv_iload_n hx hb dJ7_fill_53178_5 rfl (lv_at hl 0 rfl) ?_
  refine lv_iload_n hx hb dJ7_fill_53178_6 rfl (lv_at hl 1 rfl) ?_
  refine lv_icmp_ge (tgt := 20) hx hb dJ7_fill_53178_7 (by decide) (fun c_15 => ?_) (fun c_15 => ?_)
  · exact absurd c_15 (by decide)
  refine lv_aload_n hx hb dJ7_fill_53178_10 rfl (lv_at hl 2 rfl) ?_
  refine lv_iload_n hx hb dJ7_fill_53178_11 rfl (lv_at hl 0 rfl) ?_
  refine lv_iload_n hx hb dJ7_fill_53178_12 rfl (lv_at hl 3 rfl) ?_
  refine va_iast hx hb hK hP hD hS 0 0 rfl rfl (by unfold vp_in; decide) dJ7_fill_53178_13 (fun H locs hP hD hS => ?_)
  obtain ⟨f_16, hP, hD⟩ : ∃ f9, va_P (dC, dI) classes [(a, .inl (ka, 14, .inl f9))] H ∧ va_D A [(a, .inl (ka, 14, .inl f9))] := ⟨_, hP, hD⟩
  refine lv_iinc (v := 8) (lv' := [(2, .int 8), (3, .int 14), (0, .ref a), (1, .int v)]) hx hb dJ7_fill_53178_14 hl (k := 0) rfl (by decide) (by decide) rfl (fun ls hl => ?_)
  refine lv_goto (tgt := 5) hx hb dJ7_fill_53178_17 (by decide) ?_
  refine lv_iload_n hx hb dJ7_fill_53178_5 rfl (lv_at hl 0 rfl) ?_
  refine lv_iload_n hx hb dJ7_fill_53178_6 rfl (lv_at hl 1 rfl) ?_
  refine lv_icmp_ge (tgt := 20) hx hb dJ7_fill_53178_7 (by decide) (fun c_17 => ?_) (fun c_17 => ?_)
  · exact absurd c_17 (by decide)
  refine lv_aload_n hx hb dJ7_fill_53178_10 rfl (lv_at hl 2 rfl) ?_
  refine lv_iload_n hx hb dJ7_fill_53178_11 rfl (lv_at hl 0 rfl) ?_
  refine lv_iload_n hx hb dJ7_fill_53178_12 rfl (lv_at hl 3 rfl) ?_
  refine va_iast hx hb hK hP hD hS 0 0 rfl rfl (by unfold vp_in; decide) dJ7_fill_53178_13 (fun H locs hP hD hS => ?_)
  obtain ⟨f_18, hP, hD⟩ : ∃ f9, va_P (dC, dI) classes [(a, .inl (ka, 14, .inl f9))] H ∧ va_D A [(a, .inl (ka, 14, .inl f9))] := ⟨_, hP, hD⟩
  refine lv_iinc (v := 9) (lv' := [(2, .int 9), (3, .int 14), (0, .ref a), (1, .int v)]) hx hb dJ7_fill_53178_14 hl (k := 0) rfl (by decide) (by decide) rfl (fun ls hl => ?_)
  refine lv_goto (tgt := 5) hx hb dJ7_fill_53178_17 (by decide) ?_
  refine lv_iload_n hx hb dJ7_fill_53178_5 rfl (lv_at hl 0 rfl) ?_
  refine lv_iload_n hx hb dJ7_fill_53178_6 rfl (lv_at hl 1 rfl) ?_
  refine lv_icmp_ge (tgt := 20) hx hb dJ7_fill_53178_7 (by decide) (fun c_19 => ?_) (fun c_19 => ?_)
  · exact absurd c_19 (by decide)
  refine lv_aload_n hx hb dJ7_fill_53178_10 rfl (lv_at hl 2 rfl) ?_
  refine lv_iload_n hx hb dJ7_fill_53178_11 rfl (lv_at hl 0 rfl) ?_
  refine lv_iload_n hx hb dJ7_fill_53178_12 rfl (lv_at hl 3 rfl) ?_
  refine va_iast hx hb hK hP hD hS 0 0 rfl rfl (by unfold vp_in; decide) dJ7_fill_53178_13 (fun H locs hP hD hS => ?_)
  obtain ⟨f_20, hP, hD⟩ : ∃ f9, va_P (dC, dI) classes [(a, .inl (ka, 14, .inl f9))] H ∧ va_D A [(a, .inl (ka, 14, .inl f9))] := ⟨_, hP, hD⟩
  refine lv_iinc (v := 10) (lv' := [(2, .int 10), (3, .int 14), (0, .ref a), (1, .int v)]) hx hb dJ7_fill_53178_14 hl (k := 0) rfl (by decide) (by decide) rfl (fun ls hl => ?_)
  refine lv_goto (tgt := 5) hx hb dJ7_fill_53178_17 (by decide) ?_
  refine lv_iload_n hx hb dJ7_fill_53178_5 rfl (lv_at hl 0 rfl) ?_
  refine lv_iload_n hx hb dJ7_fill_53178_6 rfl (lv_at hl 1 rfl) ?_
  refine lv_icmp_ge (tgt := 20) hx hb dJ7_fill_53178_7 (by decide) (fun c_21 => ?_) (fun c_21 => ?_)
  · exact absurd c_21 (by decide)
  refine lv_aload_n hx hb dJ7_fill_53178_10 rfl (lv_at hl 2 rfl) ?_
  refine lv_iload_n hx hb dJ7_fill_53178_11 rfl (lv_at hl 0 rfl) ?_
  refine lv_iload_n hx hb dJ7_fill_53178_12 rfl (lv_at hl 3 rfl) ?_
  refine va_iast hx hb hK hP hD hS 0 0 rfl rfl (by unfold vp_in; decide) dJ7_fill_53178_13 (fun H locs hP hD hS => ?_)
  obtain ⟨f_22, hP, hD⟩ : ∃ f9, va_P (dC, dI) classes [(a, .inl (ka, 14, .inl f9))] H ∧ va_D A [(a, .inl (ka, 14, .inl f9))] := ⟨_, hP, hD⟩
  refine lv_iinc (v := 11) (lv' := [(2, .int 11), (3, .int 14), (0, .ref a), (1, .int v)]) hx hb dJ7_fill_53178_14 hl (k := 0) rfl (by decide) (by decide) rfl (fun ls hl => ?_)
  refine lv_goto (tgt := 5) hx hb dJ7_fill_53178_17 (by decide) ?_
  refine lv_iload_n hx hb dJ7_fill_53178_5 rfl (lv_at hl 0 rfl) ?_
  refine lv_iload_n hx hb dJ7_fill_53178_6 rfl (lv_at hl 1 rfl) ?_
  refine lv_icmp_ge (tgt := 20) hx hb dJ7_fill_53178_7 (by decide) (fun c_23 => ?_) (fun c_23 => ?_)
  · exact absurd c_23 (by decide)
  refine lv_aload_n hx hb dJ7_fill_53178_10 rfl (lv_at hl 2 rfl) ?_
  refine lv_iload_n hx hb dJ7_fill_53178_11 rfl (lv_at hl 0 rfl) ?_
  refine lv_iload_n hx hb dJ7_fill_53178_12 rfl (lv_at hl 3 rfl) ?_
  refine va_iast hx hb hK hP hD hS 0 0 rfl rfl (by unfold vp_in; decide) dJ7_fill_53178_13 (fun H locs hP hD hS => ?_)
  obtain ⟨f_24, hP, hD⟩ : ∃ f9, va_P (dC, dI) classes [(a, .inl (ka, 14, .inl f9))] H ∧ va_D A [(a, .inl (ka, 14, .inl f9))] := ⟨_, hP, hD⟩
  refine lv_iinc (v := 12) (lv' := [(2, .int 12), (3, .int 14), (0, .ref a), (1, .int v)]) hx hb dJ7_fill_53178_14 hl (k := 0) rfl (by decide) (by decide) rfl (fun ls hl => ?_)
  refine lv_goto (tgt := 5) hx hb dJ7_fill_53178_17 (by decide) ?_
  refine lv_iload_n hx hb dJ7_fill_53178_5 rfl (lv_at hl 0 rfl) ?_
  refine lv_iload_n hx hb dJ7_fill_53178_6 rfl (lv_at hl 1 rfl) ?_
  refine lv_icmp_ge (tgt := 20) hx hb dJ7_fill_53178_7 (by decide) (fun c_25 => ?_) (fun c_25 => ?_)
  · exact absurd c_25 (by decide)
  refine lv_aload_n hx hb dJ7_fill_53178_10 rfl (lv_at hl 2 rfl) ?_
  refine lv_iload_n hx hb dJ7_fill_53178_11 rfl (lv_at hl 0 rfl) ?_
  refine lv_iload_n hx hb dJ7_fill_53178_12 rfl (lv_at hl 3 rfl) ?_
  refine va_iast hx hb hK hP hD hS 0 0 rfl rfl (by unfold vp_in; decide) dJ7_fill_53178_13 (fun H locs hP hD hS => ?_)
  obtain ⟨f_26, hP, hD⟩ : ∃ f9, va_P (dC, dI) classes [(a, .inl (ka, 14, .inl f9))] H ∧ va_D A [(a, .inl (ka, 14, .inl f9))] := ⟨_, hP, hD⟩
  refine lv_iinc (v := 13) (lv' := [(2, .int 13), (3, .int 14), (0, .ref a), (1, .int v)]) hx hb dJ7_fill_53178_14 hl (k := 0) rfl (by decide) (by decide) rfl (fun ls hl => ?_)
  refine lv_goto (tgt := 5) hx hb dJ7_fill_53178_17 (by decide) ?_
  refine lv_iload_n hx hb dJ7_fill_53178_5 rfl (lv_at hl 0 rfl) ?_
  refine lv_iload_n hx hb dJ7_fill_53178_6 rfl (lv_at hl 1 rfl) ?_
  refine lv_icmp_ge (tgt := 20) hx hb dJ7_fill_53178_7 (by decide) (fun c_27 => ?_) (fun c_27 => ?_)
  · exact absurd c_27 (by decide)
  refine lv_aload_n hx hb dJ7_fill_53178_10 rfl (lv_at hl 2 rfl) ?_
  refine lv_iload_n hx hb dJ7_fill_53178_11 rfl (lv_at hl 0 rfl) ?_
  refine lv_iload_n hx hb dJ7_fill_53178_12 rfl (lv_at hl 3 rfl) ?_
  refine va_iast hx hb hK hP hD hS 0 0 rfl rfl (by unfold vp_in; decide) dJ7_fill_53178_13 (fun H locs hP hD hS => ?_)
  obtain ⟨f_28, hP, hD⟩ : ∃ f9, va_P (dC, dI) classes [(a, .inl (ka, 14, .inl f9))] H ∧ va_D A [(a, .inl (ka, 14, .inl f9))] := ⟨_, hP, hD⟩
  refine lv_iinc (v := 14) (lv' := [(2, .int 14), (3, .int 14), (0, .ref a), (1, .int v)]) hx hb dJ7_fill_53178_14 hl (k := 0) rfl (by decide) (by decide) rfl (fun ls hl => ?_)
  refine lv_goto (tgt := 5) hx hb dJ7_fill_53178_17 (by decide) ?_
  refine lv_iload_n hx hb dJ7_fill_53178_5 rfl (lv_at hl 0 rfl) ?_
  refine lv_iload_n hx hb dJ7_fill_53178_6 rfl (lv_at hl 1 rfl) ?_
  refine lv_icmp_ge (tgt := 20) hx hb dJ7_fill_53178_7 (by decide) (fun c_29 => ?_) (fun c_29 => ?_)
  · skip
    have hP9 := hP.sub (ws' := [(a, .inl (ka, 14, .inl f_28))]) [0] rfl
    have hD9 := hD.sub (ws' := [(a, .inl (ka, 14, .inl f_28))]) [0] (by decide) rfl
    have hK9 := hK.sub (tys' := [(ka, .int)]) [0] rfl
    exact W.vret hx hb hr (fun t ht hW => ⟨⟨(), rfl, trivial, f_28, by rw [ht]; exact hP9, va_K.moved hW.alike hK9, hD9⟩, hS.F ht⟩) hS.2.2 dJ7_fill_53178_20
  · exact absurd c_29 (by decide)
set_option maxHeartbeats 4000000 in
set_option maxRecDepth 100000 in
theorem c_clear (l : Launch) (dC : Nat → ClassId) (dI : Nat → Nat → Nat) (n0 sz : Nat) (dr : Nat) (dr_tail : Nat) (dr_head : Nat) (dr_hinder : Nat) (dr_size : Nat) (dr_walk : Nat) (dr_draught : Nat) (dr_doorIn : Nat) (dr_fanIn : Nat) (dr_faceIn : Nat) (dg : Nat) (dg_doorBy : Nat) (dg_pairFirst : Nat) (dg_pairSecond : Nat) (dg_fanPush : Nat) (dg_fanFall : Nat) (dg_fanCost : Nat) (dg_faceWay : Nat) (dg_faceGas : Nat) (dg_faceNeed : Nat) (kd1 : ClassId) (kd2 : ClassId) (kd3 : ClassId) (g1 : Nat → Int32) (g2 : Nat → Int32) (g3 : Nat → Int32) : Met l yX0_clear (wM yX0_clear cX0_clear 1 none) ({ frames := 1, cells := 0, slots := 0, locals := 23 }) (va_Pc [.ref dr] (fun U => U.heap.size = sz ∧ n0 ≤ sz ∧ GW n0 U ∧ va_P (dC, dI) classes [(dr, .inr (0, [.int 0, .ref dr_tail, .ref dr_head, .ref dr_hinder, .ref dr_size, .ref dr_walk, .ref dr_draught, .ref dr_doorIn, .ref dr_fanIn, .ref dr_faceIn, .int 0, .int (-1), .ref dg])), (dg, .inr (3, [.int 0, .ref dg_doorBy, .int 0, .ref dg_pairFirst, .ref dg_pairSecond, .int 0, .ref dg_fanPush, .ref dg_fanFall, .ref dg_fanCost, .int 0, .ref dg_faceWay, .ref dg_faceGas, .ref dg_faceNeed])), (dr_doorIn, .inl (kd1, 14, .inl g1)), (dr_fanIn, .inl (kd2, 14, .inl g2)), (dr_faceIn, .inl (kd3, 14, .inl g3))] U.heap ∧ va_K (dC, dI) classes [(kd1, .int), (kd2, .int), (kd3, .int)] U ∧ va_D (fun q => n0 ≤ q) [(dr, .inr (0, [.int 0, .ref dr_tail, .ref dr_head, .ref dr_hinder, .ref dr_size, .ref dr_walk, .ref dr_draught, .ref dr_doorIn, .ref dr_fanIn, .ref dr_faceIn, .int 0, .int (-1), .ref dg])), (dg, .inr (3, [.int 0, .ref dg_doorBy, .int 0, .ref dg_pairFirst, .ref dg_pairSecond, .int 0, .ref dg_fanPush, .ref dg_fanFall, .ref dg_fanCost, .int 0, .ref dg_faceWay, .ref dg_faceGas, .ref dg_faceNeed])), (dr_doorIn, .inl (kd1, 14, .inl g1)), (dr_fanIn, .inl (kd2, 14, .inl g2)), (dr_faceIn, .inl (kd3, 14, .inl g3))])) (va_Qv (fun _ : Unit => True) (fun (_ : Unit) (t : State) => ∃ (h1 : Nat → Int32), ∃ (h2 : Nat → Int32), ∃ (h3 : Nat → Int32), va_P (dC, dI) classes [(dr, .inr (0, [.int 0, .ref dr_tail, .ref dr_head, .ref dr_hinder, .ref dr_size, .ref dr_walk, .ref dr_draught, .ref dr_doorIn, .ref dr_fanIn, .ref dr_faceIn, .int 0, .int (-1), .ref dg])), (dg, .inr (3, [.int 0, .ref dg_doorBy, .int 0, .ref dg_pairFirst, .ref dg_pairSecond, .int 0, .ref dg_fanPush, .ref dg_fanFall, .ref dg_fanCost, .int 0, .ref dg_faceWay, .ref dg_faceGas, .ref dg_faceNeed])), (dr_doorIn, .inl (kd1, 14, .inl h1)), (dr_fanIn, .inl (kd2, 14, .inl h2)), (dr_faceIn, .inl (kd3, 14, .inl h3))] t.heap ∧ va_K (dC, dI) classes [(kd1, .int), (kd2, .int), (kd3, .int)] t ∧ va_D (va_A [(dr, .inr (0, [.int 0, .ref dr_tail, .ref dr_head, .ref dr_hinder, .ref dr_size, .ref dr_walk, .ref dr_draught, .ref dr_doorIn, .ref dr_fanIn, .ref dr_faceIn, .int 0, .int (-1), .ref dg])), (dg, .inr (3, [.int 0, .ref dg_doorBy, .int 0, .ref dg_pairFirst, .ref dg_pairSecond, .int 0, .ref dg_fanPush, .ref dg_fanFall, .ref dg_fanCost, .int 0, .ref dg_faceWay, .ref dg_faceGas, .ref dg_faceNeed])), (dr_doorIn, .inl (kd1, 14, .inl g1)), (dr_fanIn, .inl (kd2, 14, .inl g2)), (dr_faceIn, .inl (kd3, 14, .inl g3))] sz) [(dr, .inr (0, [.int 0, .ref dr_tail, .ref dr_head, .ref dr_hinder, .ref dr_size, .ref dr_walk, .ref dr_draught, .ref dr_doorIn, .ref dr_fanIn, .ref dr_faceIn, .int 0, .int (-1), .ref dg])), (dg, .inr (3, [.int 0, .ref dg_doorBy, .int 0, .ref dg_pairFirst, .ref dg_pairSecond, .int 0, .ref dg_fanPush, .ref dg_fanFall, .ref dg_fanCost, .int 0, .ref dg_faceWay, .ref dg_faceGas, .ref dg_faceNeed])), (dr_doorIn, .inl (kd1, 14, .inl h1)), (dr_fanIn, .inl (kd2, 14, .inl h2)), (dr_faceIn, .inl (kd3, 14, .inl h3))]) (va_A [(dr, .inr (0, [.int 0, .ref dr_tail, .ref dr_head, .ref dr_hinder, .ref dr_size, .ref dr_walk, .ref dr_draught, .ref dr_doorIn, .ref dr_fanIn, .ref dr_faceIn, .int 0, .int (-1), .ref dg])), (dg, .inr (3, [.int 0, .ref dg_doorBy, .int 0, .ref dg_pairFirst, .ref dg_pairSecond, .int 0, .ref dg_fanPush, .ref dg_fanFall, .ref dg_fanCost, .int 0, .ref dg_faceWay, .ref dg_faceGas, .ref dg_faceNeed])), (dr_doorIn, .inl (kd1, 14, .inl g1)), (dr_fanIn, .inl (kd2, 14, .inl g2)), (dr_faceIn, .inl (kd3, 14, .inl g3))] sz)) 0 0 (va_A [(dr, .inr (0, [.int 0, .ref dr_tail, .ref dr_head, .ref dr_hinder, .ref dr_size, .ref dr_walk, .ref dr_draught, .ref dr_doorIn, .ref dr_fanIn, .ref dr_faceIn, .int 0, .int (-1), .ref dg])), (dg, .inr (3, [.int 0, .ref dg_doorBy, .int 0, .ref dg_pairFirst, .ref dg_pairSecond, .int 0, .ref dg_fanPush, .ref dg_fanFall, .ref dg_fanCost, .int 0, .ref dg_faceWay, .ref dg_faceGas, .ref dg_faceNeed])), (dr_doorIn, .inl (kd1, 14, .inl g1)), (dr_fanIn, .inl (kd2, 14, .inl g2)), (dr_faceIn, .inl (kd3, 14, .inl g3))] sz) := by
  refine Met.ofW (cc := cX0_clear) (maxL := 1) (ret := none) (by decide) rfl ?_
  intro p e s m args below meth c s₁ B hml hv
  obtain ⟨rfl, hsz, hn0, hG, hP, hK, hD0⟩ := hv
  have hx := B.exec
  have hb := B.bytes
  have hr := B.returns
  have hts := atoms_spec (ws := wM yX0_clear cX0_clear 1 none) B.pre
  have hown : s.vm.findClass RX0 = some m.cls := findClass_of_methodNamed B.named
  have hlocks := B.notSynchronized
  subst hsz
  have hD := hD0.self (sz := s.heap.size)
  have hA0 := vA_n0 hD0 hn0
  generalize hAe : va_A [(dr, .inr (0, [.int 0, .ref dr_tail, .ref dr_head, .ref dr_hinder, .ref dr_size, .ref dr_walk, .ref dr_draught, .ref dr_doorIn, .ref dr_fanIn, .ref dr_faceIn, .int 0, .int (-1), .ref dg])), (dg, .inr (3, [.int 0, .ref dg_doorBy, .int 0, .ref dg_pairFirst, .ref dg_pairSecond, .int 0, .ref dg_fanPush, .ref dg_fanFall, .ref dg_fanCost, .int 0, .ref dg_faceWay, .ref dg_faceGas, .ref dg_faceNeed])), (dr_doorIn, .inl (kd1, 14, .inl g1)), (dr_fanIn, .inl (kd2, 14, .inl g2)), (dr_faceIn, .inl (kd3, 14, .inl g3))] s.heap.size = A at hD hA0 ⊢
  have hA : ∀ q : Nat, s.heap.size ≤ q → A q := fun q h => by rw [← hAe]; exact Or.inr h
  have hS : va_S A s.heap s.heap [] := va_S.rf
  have hl := lv_entry ([.ref dr]) (n := 1) (Nat.le_of_ble_eq_true rfl)
  rw [lg_entry_eq]
  generalize (lg_sl ([.ref dr]) ++ List.replicate (1 - (lg_sl ([.ref dr])).length) Slot.unset).toArray = ls at hl ⊢
  have hl : lv_has ls 1 [(0, .ref dr)] := hl
  refine lv_aload_n hx hb dX0_clear_0 rfl (lv_at hl 0 rfl) ?_
  refine lv_iconst (v := 0) hx hb dX0_clear_1 (by decide) ?_
  refine va_put (D := (dC, dI)) (ci := 0) (v := .int 0) (ty := .int) (C := RX0) (T := TX0) (N := 13) hx hb hts (fun w h => wM_c (iX0 w h)) tyX0 tyX0_ok nmX0 hown hK hP hD hS 0 rfl rfl 0 (by decide) (hts _ (wM_c wd_238)) (fun _ h9 => h9) rfl (by decide +kernel) rfl rfl (Nat.le_of_ble_eq_true rfl) dX0_clear_2 (fun H locs hP hD hS => ?_)
  have hP : va_P (dC, dI) classes [(dr, .inr (0, [.int 0, .ref dr_tail, .ref dr_head, .ref dr_hinder, .ref dr_size, .ref dr_walk, .ref dr_draught, .ref dr_doorIn, .ref dr_fanIn, .ref dr_faceIn, .int 0, .int (-1), .ref dg])), (dg, .inr (3, [.int 0, .ref dg_doorBy, .int 0, .ref dg_pairFirst, .ref dg_pairSecond, .int 0, .ref dg_fanPush, .ref dg_fanFall, .ref dg_fanCost, .int 0, .ref dg_faceWay, .ref dg_faceGas, .ref dg_faceNeed])), (dr_doorIn, .inl (kd1, 14, .inl g1)), (dr_fanIn, .inl (kd2, 14, .inl g2)), (dr_faceIn, .inl (kd3, 14, .inl g3))] H := hP
  have hD : va_D A [(dr, .inr (0, [.int 0, .ref dr_tail, .ref dr_head, .ref dr_hinder, .ref dr_size, .ref dr_walk, .ref dr_draught, .ref dr_doorIn, .ref dr_fanIn, .ref dr_faceIn, .int 0, .int (-1), .ref dg])), (dg, .inr (3, [.int 0, .ref dg_doorBy, .int 0, .ref dg_pairFirst, .ref dg_pairSecond, .int 0, .ref dg_fanPush, .ref dg_fanFall, .ref dg_fanCost, .int 0, .ref dg_faceWay, .ref dg_faceGas, .ref dg_faceNeed])), (dr_doorIn, .inl (kd1, 14, .inl g1)), (dr_fanIn, .inl (kd2, 14, .inl g2)), (dr_faceIn, .inl (kd3, 14, .inl g3))] := hD
  refine lv_aload_n hx hb dX0_clear_5 rfl (lv_at hl 0 rfl) ?_
  refine lv_iconst (v := 0) hx hb dX0_clear_6 (by decide) ?_
  refine va_put (D := (dC, dI)) (ci := 0) (v := .int 0) (ty := .int) (C := RX0) (T := TX0) (N := 13) hx hb hts (fun w h => wM_c (iX0 w h)) tyX0 tyX0_ok nmX0 hown hK hP hD hS 0 rfl rfl 10 (by decide) (hts _ (wM_c wd_283)) (fun _ h9 => h9) rfl (by decide +kernel) rfl rfl (Nat.le_of_ble_eq_true rfl) dX0_clear_7 (fun H locs hP hD hS => ?_)
  have hP : va_P (dC, dI) classes [(dr, .inr (0, [.int 0, .ref dr_tail, .ref dr_head, .ref dr_hinder, .ref dr_size, .ref dr_walk, .ref dr_draught, .ref dr_doorIn, .ref dr_fanIn, .ref dr_faceIn, .int 0, .int (-1), .ref dg])), (dg, .inr (3, [.int 0, .ref dg_doorBy, .int 0, .ref dg_pairFirst, .ref dg_pairSecond, .int 0, .ref dg_fanPush, .ref dg_fanFall, .ref dg_fanCost, .int 0, .ref dg_faceWay, .ref dg_faceGas, .ref dg_faceNeed])), (dr_doorIn, .inl (kd1, 14, .inl g1)), (dr_fanIn, .inl (kd2, 14, .inl g2)), (dr_faceIn, .inl (kd3, 14, .inl g3))] H := hP
  have hD : va_D A [(dr, .inr (0, [.int 0, .ref dr_tail, .ref dr_head, .ref dr_hinder, .ref dr_size, .ref dr_walk, .ref dr_draught, .ref dr_doorIn, .ref dr_fanIn, .ref dr_faceIn, .int 0, .int (-1), .ref dg])), (dg, .inr (3, [.int 0, .ref dg_doorBy, .int 0, .ref dg_pairFirst, .ref dg_pairSecond, .int 0, .ref dg_fanPush, .ref dg_fanFall, .ref dg_fanCost, .int 0, .ref dg_faceWay, .ref dg_faceGas, .ref dg_faceNeed])), (dr_doorIn, .inl (kd1, 14, .inl g1)), (dr_fanIn, .inl (kd2, 14, .inl g2)), (dr_faceIn, .inl (kd3, 14, .inl g3))] := hD
  refine lv_aload_n hx hb dX0_clear_10 rfl (lv_at hl 0 rfl) ?_
  refine lv_iconst (v := (-1)) hx hb dX0_clear_11 (by decide) ?_
  refine va_put (D := (dC, dI)) (ci := 0) (v := .int (-1)) (ty := .int) (C := RX0) (T := TX0) (N := 13) hx hb hts (fun w h => wM_c (iX0 w h)) tyX0 tyX0_ok nmX0 hown hK hP hD hS 0 rfl rfl 11 (by decide) (hts _ (wM_c wd_288)) (fun _ h9 => h9) rfl (by decide +kernel) rfl rfl (Nat.le_of_ble_eq_true rfl) dX0_clear_12 (fun H locs hP hD hS => ?_)
  have hP : va_P (dC, dI) classes [(dr, .inr (0, [.int 0, .ref dr_tail, .ref dr_head, .ref dr_hinder, .ref dr_size, .ref dr_walk, .ref dr_draught, .ref dr_doorIn, .ref dr_fanIn, .ref dr_faceIn, .int 0, .int (-1), .ref dg])), (dg, .inr (3, [.int 0, .ref dg_doorBy, .int 0, .ref dg_pairFirst, .ref dg_pairSecond, .int 0, .ref dg_fanPush, .ref dg_fanFall, .ref dg_fanCost, .int 0, .ref dg_faceWay, .ref dg_faceGas, .ref dg_faceNeed])), (dr_doorIn, .inl (kd1, 14, .inl g1)), (dr_fanIn, .inl (kd2, 14, .inl g2)), (dr_faceIn, .inl (kd3, 14, .inl g3))] H := hP
  have hD : va_D A [(dr, .inr (0, [.int 0, .ref dr_tail, .ref dr_head, .ref dr_hinder, .ref dr_size, .ref dr_walk, .ref dr_draught, .ref dr_doorIn, .ref dr_fanIn, .ref dr_faceIn, .int 0, .int (-1), .ref dg])), (dg, .inr (3, [.int 0, .ref dg_doorBy, .int 0, .ref dg_pairFirst, .ref dg_pairSecond, .int 0, .ref dg_fanPush, .ref dg_fanFall, .ref dg_fanCost, .int 0, .ref dg_faceWay, .ref dg_faceGas, .ref dg_faceNeed])), (dr_doorIn, .inl (kd1, 14, .inl g1)), (dr_fanIn, .inl (kd2, 14, .inl g2)), (dr_faceIn, .inl (kd3, 14, .inl g3))] := hD
  refine lv_aload_n hx hb dX0_clear_15 rfl (lv_at hl 0 rfl) ?_
  refine va_get (D := (dC, dI)) (ci := 0) (v := .ref dg) (C := RX0) (T := TX0) (N := 13) hx hb hts (fun w h => wM_c (iX0 w h)) hown hK hP 0 rfl rfl 12 (by decide) (hts _ (wM_c wd_293)) (fun _ h9 => h9) rfl dX0_clear_16 ?_
  refine lv_iconst (v := 0) hx hb dX0_clear_19 (by decide) ?_
  refine va_put (D := (dC, dI)) (ci := 3) (v := .int 0) (ty := .int) (C := RX3) (T := TX3) (N := 13) hx hb hts (fun w h => wM_c (iX3 w h)) tyX3 tyX3_ok nmX3 hown hK hP hD hS 1 rfl rfl 0 (by decide) (hts _ (wM_c wd_161)) (fun _ h9 => h9) rfl (by decide +kernel) rfl rfl (Nat.le_of_ble_eq_true rfl) dX0_clear_20 (fun H locs hP hD hS => ?_)
  have hP : va_P (dC, dI) classes [(dr, .inr (0, [.int 0, .ref dr_tail, .ref dr_head, .ref dr_hinder, .ref dr_size, .ref dr_walk, .ref dr_draught, .ref dr_doorIn, .ref dr_fanIn, .ref dr_faceIn, .int 0, .int (-1), .ref dg])), (dg, .inr (3, [.int 0, .ref dg_doorBy, .int 0, .ref dg_pairFirst, .ref dg_pairSecond, .int 0, .ref dg_fanPush, .ref dg_fanFall, .ref dg_fanCost, .int 0, .ref dg_faceWay, .ref dg_faceGas, .ref dg_faceNeed])), (dr_doorIn, .inl (kd1, 14, .inl g1)), (dr_fanIn, .inl (kd2, 14, .inl g2)), (dr_faceIn, .inl (kd3, 14, .inl g3))] H := hP
  have hD : va_D A [(dr, .inr (0, [.int 0, .ref dr_tail, .ref dr_head, .ref dr_hinder, .ref dr_size, .ref dr_walk, .ref dr_draught, .ref dr_doorIn, .ref dr_fanIn, .ref dr_faceIn, .int 0, .int (-1), .ref dg])), (dg, .inr (3, [.int 0, .ref dg_doorBy, .int 0, .ref dg_pairFirst, .ref dg_pairSecond, .int 0, .ref dg_fanPush, .ref dg_fanFall, .ref dg_fanCost, .int 0, .ref dg_faceWay, .ref dg_faceGas, .ref dg_faceNeed])), (dr_doorIn, .inl (kd1, 14, .inl g1)), (dr_fanIn, .inl (kd2, 14, .inl g2)), (dr_faceIn, .inl (kd3, 14, .inl g3))] := hD
  refine lv_aload_n hx hb dX0_clear_23 rfl (lv_at hl 0 rfl) ?_
  refine va_get (D := (dC, dI)) (ci := 0) (v := .ref dg) (C := RX0) (T := TX0) (N := 13) hx hb hts (fun w h => wM_c (iX0 w h)) hown hK hP 0 rfl rfl 12 (by decide) (hts _ (wM_c wd_293)) (fun _ h9 => h9) rfl dX0_clear_24 ?_
  refine lv_iconst (v := 0) hx hb dX0_clear_27 (by decide) ?_
  refine va_put (D := (dC, dI)) (ci := 3) (v := .int 0) (ty := .int) (C := RX3) (T := TX3) (N := 13) hx hb hts (fun w h => wM_c (iX3 w h)) tyX3 tyX3_ok nmX3 hown hK hP hD hS 1 rfl rfl 2 (by decide) (hts _ (wM_c wd_168)) (fun _ h9 => h9) rfl (by decide +kernel) rfl rfl (Nat.le_of_ble_eq_true rfl) dX0_clear_28 (fun H locs hP hD hS => ?_)
  have hP : va_P (dC, dI) classes [(dr, .inr (0, [.int 0, .ref dr_tail, .ref dr_head, .ref dr_hinder, .ref dr_size, .ref dr_walk, .ref dr_draught, .ref dr_doorIn, .ref dr_fanIn, .ref dr_faceIn, .int 0, .int (-1), .ref dg])), (dg, .inr (3, [.int 0, .ref dg_doorBy, .int 0, .ref dg_pairFirst, .ref dg_pairSecond, .int 0, .ref dg_fanPush, .ref dg_fanFall, .ref dg_fanCost, .int 0, .ref dg_faceWay, .ref dg_faceGas, .ref dg_faceNeed])), (dr_doorIn, .inl (kd1, 14, .inl g1)), (dr_fanIn, .inl (kd2, 14, .inl g2)), (dr_faceIn, .inl (kd3, 14, .inl g3))] H := hP
  have hD : va_D A [(dr, .inr (0, [.int 0, .ref dr_tail, .ref dr_head, .ref dr_hinder, .ref dr_size, .ref dr_walk, .ref dr_draught, .ref dr_doorIn, .ref dr_fanIn, .ref dr_faceIn, .int 0, .int (-1), .ref dg])), (dg, .inr (3, [.int 0, .ref dg_doorBy, .int 0, .ref dg_pairFirst, .ref dg_pairSecond, .int 0, .ref dg_fanPush, .ref dg_fanFall, .ref dg_fanCost, .int 0, .ref dg_faceWay, .ref dg_faceGas, .ref dg_faceNeed])), (dr_doorIn, .inl (kd1, 14, .inl g1)), (dr_fanIn, .inl (kd2, 14, .inl g2)), (dr_faceIn, .inl (kd3, 14, .inl g3))] := hD
  refine lv_aload_n hx hb dX0_clear_31 rfl (lv_at hl 0 rfl) ?_
  refine va_get (D := (dC, dI)) (ci := 0) (v := .ref dg) (C := RX0) (T := TX0) (N := 13) hx hb hts (fun w h => wM_c (iX0 w h)) hown hK hP 0 rfl rfl 12 (by decide) (hts _ (wM_c wd_293)) (fun _ h9 => h9) rfl dX0_clear_32 ?_
  refine lv_iconst (v := 0) hx hb dX0_clear_35 (by decide) ?_
  refine va_put (D := (dC, dI)) (ci := 3) (v := .int 0) (ty := .int) (C := RX3) (T := TX3) (N := 13) hx hb hts (fun w h => wM_c (iX3 w h)) tyX3 tyX3_ok nmX3 hown hK hP hD hS 1 rfl rfl 5 (by decide) (hts _ (wM_c wd_178)) (fun _ h9 => h9) rfl (by decide +kernel) rfl rfl (Nat.le_of_ble_eq_true rfl) dX0_clear_36 (fun H locs hP hD hS => ?_)
  have hP : va_P (dC, dI) classes [(dr, .inr (0, [.int 0, .ref dr_tail, .ref dr_head, .ref dr_hinder, .ref dr_size, .ref dr_walk, .ref dr_draught, .ref dr_doorIn, .ref dr_fanIn, .ref dr_faceIn, .int 0, .int (-1), .ref dg])), (dg, .inr (3, [.int 0, .ref dg_doorBy, .int 0, .ref dg_pairFirst, .ref dg_pairSecond, .int 0, .ref dg_fanPush, .ref dg_fanFall, .ref dg_fanCost, .int 0, .ref dg_faceWay, .ref dg_faceGas, .ref dg_faceNeed])), (dr_doorIn, .inl (kd1, 14, .inl g1)), (dr_fanIn, .inl (kd2, 14, .inl g2)), (dr_faceIn, .inl (kd3, 14, .inl g3))] H := hP
  have hD : va_D A [(dr, .inr (0, [.int 0, .ref dr_tail, .ref dr_head, .ref dr_hinder, .ref dr_size, .ref dr_walk, .ref dr_draught, .ref dr_doorIn, .ref dr_fanIn, .ref dr_faceIn, .int 0, .int (-1), .ref dg])), (dg, .inr (3, [.int 0, .ref dg_doorBy, .int 0, .ref dg_pairFirst, .ref dg_pairSecond, .int 0, .ref dg_fanPush, .ref dg_fanFall, .ref dg_fanCost, .int 0, .ref dg_faceWay, .ref dg_faceGas, .ref dg_faceNeed])), (dr_doorIn, .inl (kd1, 14, .inl g1)), (dr_fanIn, .inl (kd2, 14, .inl g2)), (dr_faceIn, .inl (kd3, 14, .inl g3))] := hD
  refine lv_aload_n hx hb dX0_clear_39 rfl (lv_at hl 0 rfl) ?_
  refine va_get (D := (dC, dI)) (ci := 0) (v := .ref dg) (C := RX0) (T := TX0) (N := 13) hx hb hts (fun w h => wM_c (iX0 w h)) hown hK hP 0 rfl rfl 12 (by decide) (hts _ (wM_c wd_293)) (fun _ h9 => h9) rfl dX0_clear_40 ?_
  refine lv_iconst (v := 0) hx hb dX0_clear_43 (by decide) ?_
  refine va_put (D := (dC, dI)) (ci := 3) (v := .int 0) (ty := .int) (C := RX3) (T := TX3) (N := 13) hx hb hts (fun w h => wM_c (iX3 w h)) tyX3 tyX3_ok nmX3 hown hK hP hD hS 1 rfl rfl 9 (by decide) (hts _ (wM_c wd_192)) (fun _ h9 => h9) rfl (by decide +kernel) rfl rfl (Nat.le_of_ble_eq_true rfl) dX0_clear_44 (fun H locs hP hD hS => ?_)
  have hP : va_P (dC, dI) classes [(dr, .inr (0, [.int 0, .ref dr_tail, .ref dr_head, .ref dr_hinder, .ref dr_size, .ref dr_walk, .ref dr_draught, .ref dr_doorIn, .ref dr_fanIn, .ref dr_faceIn, .int 0, .int (-1), .ref dg])), (dg, .inr (3, [.int 0, .ref dg_doorBy, .int 0, .ref dg_pairFirst, .ref dg_pairSecond, .int 0, .ref dg_fanPush, .ref dg_fanFall, .ref dg_fanCost, .int 0, .ref dg_faceWay, .ref dg_faceGas, .ref dg_faceNeed])), (dr_doorIn, .inl (kd1, 14, .inl g1)), (dr_fanIn, .inl (kd2, 14, .inl g2)), (dr_faceIn, .inl (kd3, 14, .inl g3))] H := hP
  have hD : va_D A [(dr, .inr (0, [.int 0, .ref dr_tail, .ref dr_head, .ref dr_hinder, .ref dr_size, .ref dr_walk, .ref dr_draught, .ref dr_doorIn, .ref dr_fanIn, .ref dr_faceIn, .int 0, .int (-1), .ref dg])), (dg, .inr (3, [.int 0, .ref dg_doorBy, .int 0, .ref dg_pairFirst, .ref dg_pairSecond, .int 0, .ref dg_fanPush, .ref dg_fanFall, .ref dg_fanCost, .int 0, .ref dg_faceWay, .ref dg_faceGas, .ref dg_faceNeed])), (dr_doorIn, .inl (kd1, 14, .inl g1)), (dr_fanIn, .inl (kd2, 14, .inl g2)), (dr_faceIn, .inl (kd3, 14, .inl g3))] := hD
  refine lv_aload_n hx hb dX0_clear_47 rfl (lv_at hl 0 rfl) ?_
  refine va_get (D := (dC, dI)) (ci := 0) (v := .ref dr_doorIn) (C := RX0) (T := TX0) (N := 13) hx hb hts (fun w h => wM_c (iX0 w h)) hown hK hP 0 rfl rfl 7 (by decide) (hts _ (wM_c wd_271)) (fun _ h9 => h9) rfl dX0_clear_48 ?_
  refine lv_iconst (v := (-1)) hx hb dX0_clear_51 (by decide) ?_
  have hPc := hP.sub (ws' := [(dr_doorIn, .inl (kd1, 14, .inl g1))]) [2] rfl
  have hDc := hD.sub (ws' := [(dr_doorIn, .inl (kd1, 14, .inl g1))]) [2] (by decide) rfl
  have hKc := hK.sub (tys' := [(kd1, .int)]) [0] rfl
  have hFc := va_free (wc := [(dr_doorIn, .inl (kd1, 14, .inl g1))]) hD hS hA [2] rfl
  refine va_callv (va_runS (As := [.ref dr_doorIn, .int (-1)]) (rest := []) ⟨hx, hb, hml, hown, hts⟩ (c_fill14 l dC dI n0 H.size dr_doorIn kd1 g1 (-1) ) (va_cwS 2 hts (gS (fun w h => wM_c h) wd_669 wd_731 wd_668 wd_126) rfl rfl rfl (by decide +kernel) ⟨Nat.le_of_ble_eq_true rfl, Nat.le_of_ble_eq_true rfl⟩) ⟨fun a U g mk q => by obtain ⟨q0, q1, q2, qG, qP, qK, qD⟩ := q; exact ⟨q0, q1, q2, GW.blind qG, qP, va_K.moved (u := U) (U := U.calling g mk a) (Vm.Alike.refl U.vm) qK, qD⟩, fun U hU hW => ⟨rfl, by rw [hU], Nat.le_trans hn0 hS.1, GW.go hW hU hG (fun q hq hA9 => hS.2.1 q hq (fun h => hA9 (hA0 q h))), by rw [hU]; exact hPc, va_K.moved hW.alike hKc, hDc.weaken (fun _ _ _ h => hA0 _ h)⟩⟩ rfl rfl hl.1 rfl (lv_room (Nat.le_of_ble_eq_true rfl)) dX0_clear_52 ⟨Nat.le_of_ble_eq_true rfl, Nat.le_of_ble_eq_true rfl⟩) hS (fun q _ h => hFc q h) hFc (fun u t H1 locs ht hvm hw_2 hB hz1 hk1 hS => ?_)
  obtain ⟨f2_3, hP1, hK1, hD1⟩ := hB
  rw [ht] at hP1
  obtain ⟨hP, hD⟩ := va_join (wr := [(dr, .inr (0, [.int 0, .ref dr_tail, .ref dr_head, .ref dr_hinder, .ref dr_size, .ref dr_walk, .ref dr_draught, .ref dr_doorIn, .ref dr_fanIn, .ref dr_faceIn, .int 0, .int (-1), .ref dg])), (dg, .inr (3, [.int 0, .ref dg_doorBy, .int 0, .ref dg_pairFirst, .ref dg_pairSecond, .int 0, .ref dg_fanPush, .ref dg_fanFall, .ref dg_fanCost, .int 0, .ref dg_faceWay, .ref dg_faceGas, .ref dg_faceNeed])), (dr_fanIn, .inl (kd2, 14, .inl g2)), (dr_faceIn, .inl (kd3, 14, .inl g3))]) (w1 := [(dr_doorIn, .inl (kd1, 14, .inl f2_3))]) hP hD [2] [0, 1, 3, 4] rfl rfl (by decide) (by decide) hk1 hFc hP1 hD1
  generalize H1 = H at hP hS ⊢
  have hP : va_P (dC, dI) classes [(dr, .inr (0, [.int 0, .ref dr_tail, .ref dr_head, .ref dr_hinder, .ref dr_size, .ref dr_walk, .ref dr_draught, .ref dr_doorIn, .ref dr_fanIn, .ref dr_faceIn, .int 0, .int (-1), .ref dg])), (dg, .inr (3, [.int 0, .ref dg_doorBy, .int 0, .ref dg_pairFirst, .ref dg_pairSecond, .int 0, .ref dg_fanPush, .ref dg_fanFall, .ref dg_fanCost, .int 0, .ref dg_faceWay, .ref dg_faceGas, .ref dg_faceNeed])), (dr_fanIn, .inl (kd2, 14, .inl g2)), (dr_faceIn, .inl (kd3, 14, .inl g3)), (dr_doorIn, .inl (kd1, 14, .inl f2_3))] H := hP
  have hD : va_D A [(dr, .inr (0, [.int 0, .ref dr_tail, .ref dr_head, .ref dr_hinder, .ref dr_size, .ref dr_walk, .ref dr_draught, .ref dr_doorIn, .ref dr_fanIn, .ref dr_faceIn, .int 0, .int (-1), .ref dg])), (dg, .inr (3, [.int 0, .ref dg_doorBy, .int 0, .ref dg_pairFirst, .ref dg_pairSecond, .int 0, .ref dg_fanPush, .ref dg_fanFall, .ref dg_fanCost, .int 0, .ref dg_faceWay, .ref dg_faceGas, .ref dg_faceNeed])), (dr_fanIn, .inl (kd2, 14, .inl g2)), (dr_faceIn, .inl (kd3, 14, .inl g3)), (dr_doorIn, .inl (kd1, 14, .inl f2_3))] := hD
  refine lv_aload_n hx hb dX0_clear_55 rfl (lv_at hl 0 rfl) ?_
  refine va_get (D := (dC, dI)) (ci := 0) (v := .ref dr_fanIn) (C := RX0) (T := TX0) (N := 13) hx hb hts (fun w h => wM_c (iX0 w h)) hown hK hP 0 rfl rfl 8 (by decide) (hts _ (wM_c wd_275)) (fun _ h9 => h9) rfl dX0_clear_56 ?_
  refine lv_iconst (v := (-1)) hx hb dX0_clear_59 (by decide) ?_
  have hPc := hP.sub (ws' := [(dr_fanIn, .inl (kd2, 14, .inl g2))]) [2] rfl
  have hDc := hD.sub (ws' := [(dr_fanIn, .inl (kd2, 14, .inl g2))]) [2] (by decide) rfl
  have hKc := hK.sub (tys' := [(kd2, .int)]) [1] rfl
  have hFc := va_free (wc := [(dr_fanIn, .inl (kd2, 14, .inl g2))]) hD hS hA [2] rfl
  refine va_callv (va_runS (As := [.ref dr_fanIn, .int (-1)]) (rest := []) ⟨hx, hb, hml, hown, hts⟩ (c_fill14 l dC dI n0 H.size dr_fanIn kd2 g2 (-1) ) (va_cwS 2 hts (gS (fun w h => wM_c h) wd_669 wd_731 wd_668 wd_126) rfl rfl rfl (by decide +kernel) ⟨Nat.le_of_ble_eq_true rfl, Nat.le_of_ble_eq_true rfl⟩) ⟨fun a U g mk q => by obtain ⟨q0, q1, q2, qG, qP, qK, qD⟩ := q; exact ⟨q0, q1, q2, GW.blind qG, qP, va_K.moved (u := U) (U := U.calling g mk a) (Vm.Alike.refl U.vm) qK, qD⟩, fun U hU hW => ⟨rfl, by rw [hU], Nat.le_trans hn0 hS.1, GW.go hW hU hG (fun q hq hA9 => hS.2.1 q hq (fun h => hA9 (hA0 q h))), by rw [hU]; exact hPc, va_K.moved hW.alike hKc, hDc.weaken (fun _ _ _ h => hA0 _ h)⟩⟩ rfl rfl hl.1 rfl (lv_room (Nat.le_of_ble_eq_true rfl)) dX0_clear_60 ⟨Nat.le_of_ble_eq_true rfl, Nat.le_of_ble_eq_true rfl⟩) hS (fun q _ h => hFc q h) hFc (fun u t H1 locs ht hvm hw_5 hB hz1 hk1 hS => ?_)
  obtain ⟨f2_6, hP1, hK1, hD1⟩ := hB
  rw [ht] at hP1
  obtain ⟨hP, hD⟩ := va_join (wr := [(dr, .inr (0, [.int 0, .ref dr_tail, .ref dr_head, .ref dr_hinder, .ref dr_size, .ref dr_walk, .ref dr_draught, .ref dr_doorIn, .ref dr_fanIn, .ref dr_faceIn, .int 0, .int (-1), .ref dg])), (dg, .inr (3, [.int 0, .ref dg_doorBy, .int 0, .ref dg_pairFirst, .ref dg_pairSecond, .int 0, .ref dg_fanPush, .ref dg_fanFall, .ref dg_fanCost, .int 0, .ref dg_faceWay, .ref dg_faceGas, .ref dg_faceNeed])), (dr_faceIn, .inl (kd3, 14, .inl g3)), (dr_doorIn, .inl (kd1, 14, .inl f2_3))]) (w1 := [(dr_fanIn, .inl (kd2, 14, .inl f2_6))]) hP hD [2] [0, 1, 3, 4] rfl rfl (by decide) (by decide) hk1 hFc hP1 hD1
  generalize H1 = H at hP hS ⊢
  have hP : va_P (dC, dI) classes [(dr, .inr (0, [.int 0, .ref dr_tail, .ref dr_head, .ref dr_hinder, .ref dr_size, .ref dr_walk, .ref dr_draught, .ref dr_doorIn, .ref dr_fanIn, .ref dr_faceIn, .int 0, .int (-1), .ref dg])), (dg, .inr (3, [.int 0, .ref dg_doorBy, .int 0, .ref dg_pairFirst, .ref dg_pairSecond, .int 0, .ref dg_fanPush, .ref dg_fanFall, .ref dg_fanCost, .int 0, .ref dg_faceWay, .ref dg_faceGas, .ref dg_faceNeed])), (dr_faceIn, .inl (kd3, 14, .inl g3)), (dr_doorIn, .inl (kd1, 14, .inl f2_3)), (dr_fanIn, .inl (kd2, 14, .inl f2_6))] H := hP
  have hD : va_D A [(dr, .inr (0, [.int 0, .ref dr_tail, .ref dr_head, .ref dr_hinder, .ref dr_size, .ref dr_walk, .ref dr_draught, .ref dr_doorIn, .ref dr_fanIn, .ref dr_faceIn, .int 0, .int (-1), .ref dg])), (dg, .inr (3, [.int 0, .ref dg_doorBy, .int 0, .ref dg_pairFirst, .ref dg_pairSecond, .int 0, .ref dg_fanPush, .ref dg_fanFall, .ref dg_fanCost, .int 0, .ref dg_faceWay, .ref dg_faceGas, .ref dg_faceNeed])), (dr_faceIn, .inl (kd3, 14, .inl g3)), (dr_doorIn, .inl (kd1, 14, .inl f2_3)), (dr_fanIn, .inl (kd2, 14, .inl f2_6))] := hD
  refine lv_aload_n hx hb dX0_clear_63 rfl (lv_at hl 0 rfl) ?_
  refine va_get (D := (dC, dI)) (ci := 0) (v := .ref dr_faceIn) (C := RX0) (T := TX0) (N := 13) hx hb hts (fun w h => wM_c (iX0 w h)) hown hK hP 0 rfl rfl 9 (by decide) (hts _ (wM_c wd_280)) (fun _ h9 => h9) rfl dX0_clear_64 ?_
  refine lv_iconst (v := (-1)) hx hb dX0_clear_67 (by decide) ?_
  have hPc := hP.sub (ws' := [(dr_faceIn, .inl (kd3, 14, .inl g3))]) [2] rfl
  have hDc := hD.sub (ws' := [(dr_faceIn, .inl (kd3, 14, .inl g3))]) [2] (by decide) rfl
  have hKc := hK.sub (tys' := [(kd3, .int)]) [2] rfl
  have hFc := va_free (wc := [(dr_faceIn, .inl (kd3, 14, .inl g3))]) hD hS hA [2] rfl
  refine va_callv (va_runS (As := [.ref dr_faceIn, .int (-1)]) (rest := []) ⟨hx, hb, hml, hown, hts⟩ (c_fill14 l dC dI n0 H.size dr_faceIn kd3 g3 (-1) ) (va_cwS 2 hts (gS (fun w h => wM_c h) wd_669 wd_731 wd_668 wd_126) rfl rfl rfl (by decide +kernel) ⟨Nat.le_of_ble_eq_true rfl, Nat.le_of_ble_eq_true rfl⟩) ⟨fun a U g mk q => by obtain ⟨q0, q1, q2, qG, qP, qK, qD⟩ := q; exact ⟨q0, q1, q2, GW.blind qG, qP, va_K.moved (u := U) (U := U.calling g mk a) (Vm.Alike.refl U.vm) qK, qD⟩, fun U hU hW => ⟨rfl, by rw [hU], Nat.le_trans hn0 hS.1, GW.go hW hU hG (fun q hq hA9 => hS.2.1 q hq (fun h => hA9 (hA0 q h))), by rw [hU]; exact hPc, va_K.moved hW.alike hKc, hDc.weaken (fun _ _ _ h => hA0 _ h)⟩⟩ rfl rfl hl.1 rfl (lv_room (Nat.le_of_ble_eq_true rfl)) dX0_clear_68 ⟨Nat.le_of_ble_eq_true rfl, Nat.le_of_ble_eq_true rfl⟩) hS (fun q _ h => hFc q h) hFc (fun u t H1 locs ht hvm hw_8 hB hz1 hk1 hS => ?_)
  obtain ⟨f2_9, hP1, hK1, hD1⟩ := hB
  rw [ht] at hP1
  obtain ⟨hP, hD⟩ := va_join (wr := [(dr, .inr (0, [.int 0, .ref dr_tail, .ref dr_head, .ref dr_hinder, .ref dr_size, .ref dr_walk, .ref dr_draught, .ref dr_doorIn, .ref dr_fanIn, .ref dr_faceIn, .int 0, .int (-1), .ref dg])), (dg, .inr (3, [.int 0, .ref dg_doorBy, .int 0, .ref dg_pairFirst, .ref dg_pairSecond, .int 0, .ref dg_fanPush, .ref dg_fanFall, .ref dg_fanCost, .int 0, .ref dg_faceWay, .ref dg_faceGas, .ref dg_faceNeed])), (dr_doorIn, .inl (kd1, 14, .inl f2_3)), (dr_fanIn, .inl (kd2, 14, .inl f2_6))]) (w1 := [(dr_faceIn, .inl (kd3, 14, .inl f2_9))]) hP hD [2] [0, 1, 3, 4] rfl rfl (by decide) (by decide) hk1 hFc hP1 hD1
  generalize H1 = H at hP hS ⊢
  have hP : va_P (dC, dI) classes [(dr, .inr (0, [.int 0, .ref dr_tail, .ref dr_head, .ref dr_hinder, .ref dr_size, .ref dr_walk, .ref dr_draught, .ref dr_doorIn, .ref dr_fanIn, .ref dr_faceIn, .int 0, .int (-1), .ref dg])), (dg, .inr (3, [.int 0, .ref dg_doorBy, .int 0, .ref dg_pairFirst, .ref dg_pairSecond, .int 0, .ref dg_fanPush, .ref dg_fanFall, .ref dg_fanCost, .int 0, .ref dg_faceWay, .ref dg_faceGas, .ref dg_faceNeed])), (dr_doorIn, .inl (kd1, 14, .inl f2_3)), (dr_fanIn, .inl (kd2, 14, .inl f2_6)), (dr_faceIn, .inl (kd3, 14, .inl f2_9))] H := hP
  have hD : va_D A [(dr, .inr (0, [.int 0, .ref dr_tail, .ref dr_head, .ref dr_hinder, .ref dr_size, .ref dr_walk, .ref dr_draught, .ref dr_doorIn, .ref dr_fanIn, .ref dr_faceIn, .int 0, .int (-1), .ref dg])), (dg, .inr (3, [.int 0, .ref dg_doorBy, .int 0, .ref dg_pairFirst, .ref dg_pairSecond, .int 0, .ref dg_fanPush, .ref dg_fanFall, .ref dg_fanCost, .int 0, .ref dg_faceWay, .ref dg_faceGas, .ref dg_faceNeed])), (dr_doorIn, .inl (kd1, 14, .inl f2_3)), (dr_fanIn, .inl (kd2, 14, .inl f2_6)), (dr_faceIn, .inl (kd3, 14, .inl f2_9))] := hD
  have hP9 := hP.sub (ws' := [(dr, .inr (0, [.int 0, .ref dr_tail, .ref dr_head, .ref dr_hinder, .ref dr_size, .ref dr_walk, .ref dr_draught, .ref dr_doorIn, .ref dr_fanIn, .ref dr_faceIn, .int 0, .int (-1), .ref dg])), (dg, .inr (3, [.int 0, .ref dg_doorBy, .int 0, .ref dg_pairFirst, .ref dg_pairSecond, .int 0, .ref dg_fanPush, .ref dg_fanFall, .ref dg_fanCost, .int 0, .ref dg_faceWay, .ref dg_faceGas, .ref dg_faceNeed])), (dr_doorIn, .inl (kd1, 14, .inl f2_3)), (dr_fanIn, .inl (kd2, 14, .inl f2_6)), (dr_faceIn, .inl (kd3, 14, .inl f2_9))]) [0, 1, 2, 3, 4] rfl
  have hD9 := hD.sub (ws' := [(dr, .inr (0, [.int 0, .ref dr_tail, .ref dr_head, .ref dr_hinder, .ref dr_size, .ref dr_walk, .ref dr_draught, .ref dr_doorIn, .ref dr_fanIn, .ref dr_faceIn, .int 0, .int (-1), .ref dg])), (dg, .inr (3, [.int 0, .ref dg_doorBy, .int 0, .ref dg_pairFirst, .ref dg_pairSecond, .int 0, .ref dg_fanPush, .ref dg_fanFall, .ref dg_fanCost, .int 0, .ref dg_faceWay, .ref dg_faceGas, .ref dg_faceNeed])), (dr_doorIn, .inl (kd1, 14, .inl f2_3)), (dr_fanIn, .inl (kd2, 14, .inl f2_6)), (dr_faceIn, .inl (kd3, 14, .inl f2_9))]) [0, 1, 2, 3, 4] (by decide) rfl
  have hK9 := hK.sub (tys' := [(kd1, .int), (kd2, .int), (kd3, .int)]) [0, 1, 2] rfl
  exact W.vret hx hb hr (fun t ht hW => ⟨⟨(), rfl, trivial, f2_3, f2_6, f2_9, by rw [ht]; exact hP9, va_K.moved hW.alike hK9, hD9⟩, hS.F ht⟩) hS.2.2 dX0_clear_71
set_option maxHeartbeats 4000000 in
set_option maxRecDepth 100000 in
theorem c_next0 (l : Launch) (dC : Nat → ClassId) (dI : Nat → Nat → Nat) (n0 sz : Nat) (rd : Nat) (rd_tape : Nat) (dr : Nat) (rd_names : Nat) (rd_nameKind : Nat) (rd_nameNumber : Nat) (rd_knotNames : Nat) : Met l yX7_next (wM yX7_next cX7_next 2 none) ({ frames := 0, cells := 0, slots := 0, locals := 0 }) (va_Pc [.ref rd] (fun U => U.heap.size = sz ∧ n0 ≤ sz ∧ GW n0 U ∧ va_P (dC, dI) classes [(rd, .inr (7, [.ref rd_tape, .int 0, .int 0, .int (-1), .ref dr, .ref rd_names, .ref rd_nameKind, .ref rd_nameNumber, .int 0, .ref rd_knotNames, .int 0, .int 0, .int 0, .int 0, .long 0]))] U.heap ∧ va_K (dC, dI) classes [] U ∧ va_D (fun q => n0 ≤ q) [(rd, .inr (7, [.ref rd_tape, .int 0, .int 0, .int (-1), .ref dr, .ref rd_names, .ref rd_nameKind, .ref rd_nameNumber, .int 0, .ref rd_knotNames, .int 0, .int 0, .int 0, .int 0, .long 0]))])) (va_Qv (fun _ : Unit => True) (fun (_ : Unit) (t : State) => va_P (dC, dI) classes [(rd, .inr (7, [.ref rd_tape, .int 0, .int 0, .int (-1), .ref dr, .ref rd_names, .ref rd_nameKind, .ref rd_nameNumber, .int 0, .ref rd_knotNames, .int 0, .int 0, .int 0, .int 0, .long 0]))] t.heap ∧ va_K (dC, dI) classes [] t ∧ va_D (va_A [(rd, .inr (7, [.ref rd_tape, .int 0, .int 0, .int (-1), .ref dr, .ref rd_names, .ref rd_nameKind, .ref rd_nameNumber, .int 0, .ref rd_knotNames, .int 0, .int 0, .int 0, .int 0, .long 0]))] sz) [(rd, .inr (7, [.ref rd_tape, .int 0, .int 0, .int (-1), .ref dr, .ref rd_names, .ref rd_nameKind, .ref rd_nameNumber, .int 0, .ref rd_knotNames, .int 0, .int 0, .int 0, .int 0, .long 0]))]) (va_A [(rd, .inr (7, [.ref rd_tape, .int 0, .int 0, .int (-1), .ref dr, .ref rd_names, .ref rd_nameKind, .ref rd_nameNumber, .int 0, .ref rd_knotNames, .int 0, .int 0, .int 0, .int 0, .long 0]))] sz)) 0 0 (va_A [(rd, .inr (7, [.ref rd_tape, .int 0, .int 0, .int (-1), .ref dr, .ref rd_names, .ref rd_nameKind, .ref rd_nameNumber, .int 0, .ref rd_knotNames, .int 0, .int 0, .int 0, .int 0, .long 0]))] sz) := by
  refine Met.ofW (cc := cX7_next) (maxL := 2) (ret := none) (by decide) rfl ?_
  intro p e s m args below meth c s₁ B hml hv
  obtain ⟨rfl, hsz, hn0, hG, hP, hK, hD0⟩ := hv
  have hx := B.exec
  have hb := B.bytes
  have hr := B.returns
  have hts := atoms_spec (ws := wM yX7_next cX7_next 2 none) B.pre
  have hown : s.vm.findClass RX7 = some m.cls := findClass_of_methodNamed B.named
  have hlocks := B.notSynchronized
  subst hsz
  have hD := hD0.self (sz := s.heap.size)
  have hA0 := vA_n0 hD0 hn0
  generalize hAe : va_A [(rd, .inr (7, [.ref rd_tape, .int 0, .int 0, .int (-1), .ref dr, .ref rd_names, .ref rd_nameKind, .ref rd_nameNumber, .int 0, .ref rd_knotNames, .int 0, .int 0, .int 0, .int 0, .long 0]))] s.heap.size = A at hD hA0 ⊢
  have hA : ∀ q : Nat, s.heap.size ≤ q → A q := fun q h => by rw [← hAe]; exact Or.inr h
  have hS : va_S A s.heap s.heap [] := va_S.rf
  have hl := lv_entry ([.ref rd]) (n := 2) (Nat.le_of_ble_eq_true rfl)
  rw [lg_entry_eq]
  generalize (lg_sl ([.ref rd]) ++ List.replicate (2 - (lg_sl ([.ref rd])).length) Slot.unset).toArray = ls at hl ⊢
  have hl : lv_has ls 2 [(0, .ref rd)] := hl
  refine lv_aload_n hx hb dX7_next_0 rfl (lv_at hl 0 rfl) ?_
  refine va_get (D := (dC, dI)) (ci := 7) (v := .int 0) (C := RX7) (T := TX7) (N := 15) hx hb hts (fun w h => wM_c (iX7 w h)) hown hK hP 0 rfl rfl 11 (by decide) (hts _ (wM_c wd_347)) (fun _ h9 => h9) rfl dX7_next_1 ?_
  refine lv_istore_n (lv' := [(1, .int 0), (0, .ref rd)]) hx hb dX7_next_4 rfl hl (by decide) rfl (fun ls hl => ?_)
  refine lv_iload_n hx hb dX7_next_5 rfl (lv_at hl 0 rfl) ?_
  refine lv_aload_n hx hb dX7_next_6 rfl (lv_at hl 1 rfl) ?_
  refine va_get (D := (dC, dI)) (ci := 7) (v := .int 0) (C := RX7) (T := TX7) (N := 15) hx hb hts (fun w h => wM_c (iX7 w h)) hown hK hP 0 rfl rfl 10 (by decide) (hts _ (wM_c wd_346)) (fun _ h9 => h9) rfl dX7_next_7 ?_
  refine lv_icmp_ge (tgt := 37) hx hb dX7_next_10 (by decide) (fun c_1 => ?_) (fun c_1 => ?_)
  · skip
    refine lv_aload_n hx hb dX7_next_37 rfl (lv_at hl 1 rfl) ?_
    refine lv_aload_n hx hb dX7_next_38 rfl (lv_at hl 1 rfl) ?_
    refine va_get (D := (dC, dI)) (ci := 7) (v := .int 0) (C := RX7) (T := TX7) (N := 15) hx hb hts (fun w h => wM_c (iX7 w h)) hown hK hP 0 rfl rfl 11 (by decide) (hts _ (wM_c wd_347)) (fun _ h9 => h9) rfl dX7_next_39 ?_
    refine va_put (D := (dC, dI)) (ci := 7) (v := .int 0) (ty := .int) (C := RX7) (T := TX7) (N := 15) hx hb hts (fun w h => wM_c (iX7 w h)) tyX7 tyX7_ok nmX7 hown hK hP hD hS 0 rfl rfl 13 (by decide) (hts _ (wM_c wd_349)) (fun _ h9 => h9) rfl (by decide +kernel) rfl rfl (Nat.le_of_ble_eq_true rfl) dX7_next_42 (fun H locs hP hD hS => ?_)
    have hP : va_P (dC, dI) classes [(rd, .inr (7, [.ref rd_tape, .int 0, .int 0, .int (-1), .ref dr, .ref rd_names, .ref rd_nameKind, .ref rd_nameNumber, .int 0, .ref rd_knotNames, .int 0, .int 0, .int 0, .int 0, .long 0]))] H := hP
    have hD : va_D A [(rd, .inr (7, [.ref rd_tape, .int 0, .int 0, .int (-1), .ref dr, .ref rd_names, .ref rd_nameKind, .ref rd_nameNumber, .int 0, .ref rd_knotNames, .int 0, .int 0, .int 0, .int 0, .long 0]))] := hD
    refine lv_aload_n hx hb dX7_next_45 rfl (lv_at hl 1 rfl) ?_
    refine lv_lconst (v := 0) hx hb dX7_next_46 (by decide) ?_
    refine va_put (D := (dC, dI)) (ci := 7) (v := .long 0) (ty := .long) (C := RX7) (T := TX7) (N := 15) hx hb hts (fun w h => wM_c (iX7 w h)) tyX7 tyX7_ok nmX7 hown hK hP hD hS 0 rfl rfl 14 (by decide) (hts _ (wM_c wd_350)) (fun _ h9 => h9) rfl (by decide +kernel) rfl rfl (Nat.le_of_ble_eq_true rfl) dX7_next_47 (fun H locs hP hD hS => ?_)
    have hP : va_P (dC, dI) classes [(rd, .inr (7, [.ref rd_tape, .int 0, .int 0, .int (-1), .ref dr, .ref rd_names, .ref rd_nameKind, .ref rd_nameNumber, .int 0, .ref rd_knotNames, .int 0, .int 0, .int 0, .int 0, .long 0]))] H := hP
    have hD : va_D A [(rd, .inr (7, [.ref rd_tape, .int 0, .int 0, .int (-1), .ref dr, .ref rd_names, .ref rd_nameKind, .ref rd_nameNumber, .int 0, .ref rd_knotNames, .int 0, .int 0, .int 0, .int 0, .long 0]))] := hD
    refine lv_aload_n hx hb dX7_next_50 rfl (lv_at hl 1 rfl) ?_
    refine va_get (D := (dC, dI)) (ci := 7) (v := .int 0) (C := RX7) (T := TX7) (N := 15) hx hb hts (fun w h => wM_c (iX7 w h)) hown hK hP 0 rfl rfl 11 (by decide) (hts _ (wM_c wd_347)) (fun _ h9 => h9) rfl dX7_next_51 ?_
    refine lv_aload_n hx hb dX7_next_54 rfl (lv_at hl 1 rfl) ?_
    refine va_get (D := (dC, dI)) (ci := 7) (v := .int 0) (C := RX7) (T := TX7) (N := 15) hx hb hts (fun w h => wM_c (iX7 w h)) hown hK hP 0 rfl rfl 10 (by decide) (hts _ (wM_c wd_346)) (fun _ h9 => h9) rfl dX7_next_55 ?_
    refine lv_icmp_lt (tgt := 69) hx hb dX7_next_58 (by decide) (fun c_2 => ?_) (fun c_2 => ?_)
    · exact absurd c_2 (by decide)
    refine lv_aload_n hx hb dX7_next_61 rfl (lv_at hl 1 rfl) ?_
    refine lv_iconst (v := 0) hx hb dX7_next_62 (by decide) ?_
    refine va_put (D := (dC, dI)) (ci := 7) (v := .int 0) (ty := .int) (C := RX7) (T := TX7) (N := 15) hx hb hts (fun w h => wM_c (iX7 w h)) tyX7 tyX7_ok nmX7 hown hK hP hD hS 0 rfl rfl 12 (by decide) (hts _ (wM_c wd_348)) (fun _ h9 => h9) rfl (by decide +kernel) rfl rfl (Nat.le_of_ble_eq_true rfl) dX7_next_63 (fun H locs hP hD hS => ?_)
    have hP : va_P (dC, dI) classes [(rd, .inr (7, [.ref rd_tape, .int 0, .int 0, .int (-1), .ref dr, .ref rd_names, .ref rd_nameKind, .ref rd_nameNumber, .int 0, .ref rd_knotNames, .int 0, .int 0, .int 0, .int 0, .long 0]))] H := hP
    have hD : va_D A [(rd, .inr (7, [.ref rd_tape, .int 0, .int 0, .int (-1), .ref dr, .ref rd_names, .ref rd_nameKind, .ref rd_nameNumber, .int 0, .ref rd_knotNames, .int 0, .int 0, .int 0, .int 0, .long 0]))] := hD
    refine lv_goto (tgt := 164) hx hb dX7_next_66 (by decide) ?_
    have hP9 := hP.sub (ws' := [(rd, .inr (7, [.ref rd_tape, .int 0, .int 0, .int (-1), .ref dr, .ref rd_names, .ref rd_nameKind, .ref rd_nameNumber, .int 0, .ref rd_knotNames, .int 0, .int 0, .int 0, .int 0, .long 0]))]) [0] rfl
    have hD9 := hD.sub (ws' := [(rd, .inr (7, [.ref rd_tape, .int 0, .int 0, .int (-1), .ref dr, .ref rd_names, .ref rd_nameKind, .ref rd_nameNumber, .int 0, .ref rd_knotNames, .int 0, .int 0, .int 0, .int 0, .long 0]))]) [0] (by decide) rfl
    have hK9 := hK.sub (tys' := []) [] rfl
    exact W.vret hx hb hr (fun t ht hW => ⟨⟨(), rfl, trivial, by rw [ht]; exact hP9, va_K.moved hW.alike hK9, hD9⟩, hS.F ht⟩) hS.2.2 dX7_next_164
  · exact absurd c_1 (by decide)
set_option maxHeartbeats 4000000 in
set_option maxRecDepth 100000 in
theorem c_isWord0 (l : Launch) (dC : Nat → ClassId) (dI : Nat → Nat → Nat) (n0 sz : Nat) (rd : Nat) (rd_tape : Nat) (dr : Nat) (rd_names : Nat) (rd_nameKind : Nat) (rd_nameNumber : Nat) (rd_knotNames : Nat) (tx : Nat) : Met l yX7_isWord (wM yX7_isWord cX7_isWord 2 (some .boolean)) ({ frames := 0, cells := 0, slots := 0, locals := 0 }) (va_Pc [.ref rd, .ref tx] (fun U => U.heap.size = sz ∧ n0 ≤ sz ∧ GW n0 U ∧ va_P (dC, dI) classes [(rd, .inr (7, [.ref rd_tape, .int 0, .int 0, .int (-1), .ref dr, .ref rd_names, .ref rd_nameKind, .ref rd_nameNumber, .int 0, .ref rd_knotNames, .int 0, .int 0, .int 0, .int 0, .long 0]))] U.heap ∧ va_K (dC, dI) classes [] U ∧ va_D (fun q => n0 ≤ q) [(rd, .inr (7, [.ref rd_tape, .int 0, .int 0, .int (-1), .ref dr, .ref rd_names, .ref rd_nameKind, .ref rd_nameNumber, .int 0, .ref rd_knotNames, .int 0, .int 0, .int 0, .int 0, .long 0]))])) (va_Qi (fun (r : Int32) (_ : Unit) => r = 0) (fun (_ : Unit) (t : State) => va_P (dC, dI) classes [(rd, .inr (7, [.ref rd_tape, .int 0, .int 0, .int (-1), .ref dr, .ref rd_names, .ref rd_nameKind, .ref rd_nameNumber, .int 0, .ref rd_knotNames, .int 0, .int 0, .int 0, .int 0, .long 0]))] t.heap ∧ va_K (dC, dI) classes [] t ∧ va_D (va_A [(rd, .inr (7, [.ref rd_tape, .int 0, .int 0, .int (-1), .ref dr, .ref rd_names, .ref rd_nameKind, .ref rd_nameNumber, .int 0, .ref rd_knotNames, .int 0, .int 0, .int 0, .int 0, .long 0]))] sz) [(rd, .inr (7, [.ref rd_tape, .int 0, .int 0, .int (-1), .ref dr, .ref rd_names, .ref rd_nameKind, .ref rd_nameNumber, .int 0, .ref rd_knotNames, .int 0, .int 0, .int 0, .int 0, .long 0]))]) (va_A [(rd, .inr (7, [.ref rd_tape, .int 0, .int 0, .int (-1), .ref dr, .ref rd_names, .ref rd_nameKind, .ref rd_nameNumber, .int 0, .ref rd_knotNames, .int 0, .int 0, .int 0, .int 0, .long 0]))] sz)) 0 0 (va_A [(rd, .inr (7, [.ref rd_tape, .int 0, .int 0, .int (-1), .ref dr, .ref rd_names, .ref rd_nameKind, .ref rd_nameNumber, .int 0, .ref rd_knotNames, .int 0, .int 0, .int 0, .int 0, .long 0]))] sz) := by
  refine Met.ofW (cc := cX7_isWord) (maxL := 2) (ret := (some .boolean)) (by decide) rfl ?_
  intro p e s m args below meth c s₁ B hml hv
  obtain ⟨rfl, hsz, hn0, hG, hP, hK, hD0⟩ := hv
  have hx := B.exec
  have hb := B.bytes
  have hr := B.returns
  have hts := atoms_spec (ws := wM yX7_isWord cX7_isWord 2 (some .boolean)) B.pre
  have hown : s.vm.findClass RX7 = some m.cls := findClass_of_methodNamed B.named
  have hlocks := B.notSynchronized
  subst hsz
  have hD := hD0.self (sz := s.heap.size)
  have hA0 := vA_n0 hD0 hn0
  generalize hAe : va_A [(rd, .inr (7, [.ref rd_tape, .int 0, .int 0, .int (-1), .ref dr, .ref rd_names, .ref rd_nameKind, .ref rd_nameNumber, .int 0, .ref rd_knotNames, .int 0, .int 0, .int 0, .int 0, .long 0]))] s.heap.size = A at hD hA0 ⊢
  have hA : ∀ q : Nat, s.heap.size ≤ q → A q := fun q h => by rw [← hAe]; exact Or.inr h
  have hS : va_S A s.heap s.heap [] := va_S.rf
  have hl := lv_entry ([.ref rd, .ref tx]) (n := 2) (Nat.le_of_ble_eq_true rfl)
  rw [lg_entry_eq]
  generalize (lg_sl ([.ref rd, .ref tx]) ++ List.replicate (2 - (lg_sl ([.ref rd, .ref tx])).length) Slot.unset).toArray = ls at hl ⊢
  have hl : lv_has ls 2 [(0, .ref rd), (1, .ref tx)] := hl
  refine lv_aload_n hx hb dX7_isWord_0 rfl (lv_at hl 0 rfl) ?_
  refine va_get (D := (dC, dI)) (ci := 7) (v := .int 0) (C := RX7) (T := TX7) (N := 15) hx hb hts (fun w h => wM_c (iX7 w h)) hown hK hP 0 rfl rfl 12 (by decide) (hts _ (wM_c wd_348)) (fun _ h9 => h9) rfl dX7_isWord_1 ?_
  refine lv_iconst (v := 1) hx hb dX7_isWord_4 (by decide) ?_
  refine lv_icmp_ne (tgt := 24) hx hb dX7_isWord_5 (by decide) (fun c_1 => ?_) (fun c_1 => ?_)
  · skip
    refine lv_iconst (v := 0) hx hb dX7_isWord_24 (by decide) ?_
    have hP9 := hP.sub (ws' := [(rd, .inr (7, [.ref rd_tape, .int 0, .int 0, .int (-1), .ref dr, .ref rd_names, .ref rd_nameKind, .ref rd_nameNumber, .int 0, .ref rd_knotNames, .int 0, .int 0, .int 0, .int 0, .long 0]))]) [0] rfl
    have hD9 := hD.sub (ws' := [(rd, .inr (7, [.ref rd_tape, .int 0, .int 0, .int (-1), .ref dr, .ref rd_names, .ref rd_nameKind, .ref rd_nameNumber, .int 0, .ref rd_knotNames, .int 0, .int 0, .int 0, .int 0, .long 0]))]) [0] (by decide) rfl
    have hK9 := hK.sub (tys' := []) [] rfl
    exact W.zret (v := 0) hx hb hr rfl (fun t ht hW => ⟨⟨0, (), rfl, rfl, by rw [ht]; exact hP9, va_K.moved hW.alike hK9, hD9⟩, hS.F ht⟩) hS.2.2 dX7_isWord_25
  · exact absurd c_1 (by decide)
set_option maxHeartbeats 4000000 in
set_option maxRecDepth 100000 in
theorem c_takeWord0 (l : Launch) (dC : Nat → ClassId) (dI : Nat → Nat → Nat) (n0 sz : Nat) (rd : Nat) (rd_tape : Nat) (dr : Nat) (rd_names : Nat) (rd_nameKind : Nat) (rd_nameNumber : Nat) (rd_knotNames : Nat) (tx : Nat) : Met l yX7_takeWord (wM yX7_takeWord cX7_takeWord 2 (some .boolean)) ({ frames := 1, cells := 0, slots := 0, locals := 21 }) (va_Pc [.ref rd, .ref tx] (fun U => U.heap.size = sz ∧ n0 ≤ sz ∧ GW n0 U ∧ va_P (dC, dI) classes [(rd, .inr (7, [.ref rd_tape, .int 0, .int 0, .int (-1), .ref dr, .ref rd_names, .ref rd_nameKind, .ref rd_nameNumber, .int 0, .ref rd_knotNames, .int 0, .int 0, .int 0, .int 0, .long 0]))] U.heap ∧ va_K (dC, dI) classes [] U ∧ va_D (fun q => n0 ≤ q) [(rd, .inr (7, [.ref rd_tape, .int 0, .int 0, .int (-1), .ref dr, .ref rd_names, .ref rd_nameKind, .ref rd_nameNumber, .int 0, .ref rd_knotNames, .int 0, .int 0, .int 0, .int 0, .long 0]))])) (va_Qi (fun (r : Int32) (_ : Unit) => r = 0) (fun (_ : Unit) (t : State) => va_P (dC, dI) classes [(rd, .inr (7, [.ref rd_tape, .int 0, .int 0, .int (-1), .ref dr, .ref rd_names, .ref rd_nameKind, .ref rd_nameNumber, .int 0, .ref rd_knotNames, .int 0, .int 0, .int 0, .int 0, .long 0]))] t.heap ∧ va_K (dC, dI) classes [] t ∧ va_D (va_A [(rd, .inr (7, [.ref rd_tape, .int 0, .int 0, .int (-1), .ref dr, .ref rd_names, .ref rd_nameKind, .ref rd_nameNumber, .int 0, .ref rd_knotNames, .int 0, .int 0, .int 0, .int 0, .long 0]))] sz) [(rd, .inr (7, [.ref rd_tape, .int 0, .int 0, .int (-1), .ref dr, .ref rd_names, .ref rd_nameKind, .ref rd_nameNumber, .int 0, .ref rd_knotNames, .int 0, .int 0, .int 0, .int 0, .long 0]))]) (va_A [(rd, .inr (7, [.ref rd_tape, .int 0, .int 0, .int (-1), .ref dr, .ref rd_names, .ref rd_nameKind, .ref rd_nameNumber, .int 0, .ref rd_knotNames, .int 0, .int 0, .int 0, .int 0, .long 0]))] sz)) 0 0 (va_A [(rd, .inr (7, [.ref rd_tape, .int 0, .int 0, .int (-1), .ref dr, .ref rd_names, .ref rd_nameKind, .ref rd_nameNumber, .int 0, .ref rd_knotNames, .int 0, .int 0, .int 0, .int 0, .long 0]))] sz) := by
  refine Met.ofW (cc := cX7_takeWord) (maxL := 2) (ret := (some .boolean)) (by decide) rfl ?_
  intro p e s m args below meth c s₁ B hml hv
  obtain ⟨rfl, hsz, hn0, hG, hP, hK, hD0⟩ := hv
  have hx := B.exec
  have hb := B.bytes
  have hr := B.returns
  have hts := atoms_spec (ws := wM yX7_takeWord cX7_takeWord 2 (some .boolean)) B.pre
  have hown : s.vm.findClass RX7 = some m.cls := findClass_of_methodNamed B.named
  have hlocks := B.notSynchronized
  subst hsz
  have hD := hD0.self (sz := s.heap.size)
  have hA0 := vA_n0 hD0 hn0
  generalize hAe : va_A [(rd, .inr (7, [.ref rd_tape, .int 0, .int 0, .int (-1), .ref dr, .ref rd_names, .ref rd_nameKind, .ref rd_nameNumber, .int 0, .ref rd_knotNames, .int 0, .int 0, .int 0, .int 0, .long 0]))] s.heap.size = A at hD hA0 ⊢
  have hA : ∀ q : Nat, s.heap.size ≤ q → A q := fun q h => by rw [← hAe]; exact Or.inr h
  have hS : va_S A s.heap s.heap [] := va_S.rf
  have hl := lv_entry ([.ref rd, .ref tx]) (n := 2) (Nat.le_of_ble_eq_true rfl)
  rw [lg_entry_eq]
  generalize (lg_sl ([.ref rd, .ref tx]) ++ List.replicate (2 - (lg_sl ([.ref rd, .ref tx])).length) Slot.unset).toArray = ls at hl ⊢
  have hl : lv_has ls 2 [(0, .ref rd), (1, .ref tx)] := hl
  refine lv_aload_n hx hb dX7_takeWord_0 rfl (lv_at hl 0 rfl) ?_
  refine lv_aload_n hx hb dX7_takeWord_1 rfl (lv_at hl 1 rfl) ?_
  have hPc := hP.sub (ws' := [(rd, .inr (7, [.ref rd_tape, .int 0, .int 0, .int (-1), .ref dr, .ref rd_names, .ref rd_nameKind, .ref rd_nameNumber, .int 0, .ref rd_knotNames, .int 0, .int 0, .int 0, .int 0, .long 0]))]) [0] rfl
  have hDc := hD.sub (ws' := [(rd, .inr (7, [.ref rd_tape, .int 0, .int 0, .int (-1), .ref dr, .ref rd_names, .ref rd_nameKind, .ref rd_nameNumber, .int 0, .ref rd_knotNames, .int 0, .int 0, .int 0, .int 0, .long 0]))]) [0] (by decide) rfl
  have hKc := hK.sub (tys' := []) [] rfl
  have hFc := va_free (wc := [(rd, .inr (7, [.ref rd_tape, .int 0, .int 0, .int (-1), .ref dr, .ref rd_names, .ref rd_nameKind, .ref rd_nameNumber, .int 0, .ref rd_knotNames, .int 0, .int 0, .int 0, .int 0, .long 0]))]) hD hS hA [0] rfl
  refine va_calli (va_runV (As := [.ref tx]) (rest := []) ⟨hx, hb, hml, hown, hts⟩ (c_isWord0 l dC dI n0 s.heap.size rd rd_tape dr rd_names rd_nameKind rd_nameNumber rd_knotNames tx ) (cwV 1 hts (gV (fun w h => wM_c h) wd_760 wd_757 wd_759 wd_5 wd_117) rfl rfl rfl (by decide +kernel) ⟨Nat.le_of_ble_eq_true rfl, Nat.le_of_ble_eq_true rfl⟩) ⟨fun a U g mk q => by obtain ⟨q0, q1, q2, qG, qP, qK, qD⟩ := q; exact ⟨q0, q1, q2, GW.blind qG, qP, va_K.moved (u := U) (U := U.calling g mk a) (Vm.Alike.refl U.vm) qK, qD⟩, va_recv hKc hPc (ci := 7) (q0 := 0) rfl rfl, fun U hU hW => ⟨rfl, by rw [hU], Nat.le_trans hn0 hS.1, GW.go hW hU hG (fun q hq hA9 => hS.2.1 q hq (fun h => hA9 (hA0 q h))), by rw [hU]; exact hPc, va_K.moved hW.alike hKc, hDc.weaken (fun _ _ _ h => hA0 _ h)⟩⟩ rfl rfl hl.1 rfl (lv_room (Nat.le_of_ble_eq_true rfl)) dX7_takeWord_2 ⟨Nat.le_of_ble_eq_true rfl, Nat.le_of_ble_eq_true rfl⟩) hS (fun q _ h => hFc q h) hFc (fun r_1 u t H1 locs ht hvm hw_2 hB hz1 hk1 hS => ?_)
  obtain ⟨hP1, hK1, hD1⟩ := hB
  rw [ht] at hP1
  obtain ⟨hP, hD⟩ := va_join (wr := []) (w1 := [(rd, .inr (7, [.ref rd_tape, .int 0, .int 0, .int (-1), .ref dr, .ref rd_names, .ref rd_nameKind, .ref rd_nameNumber, .int 0, .ref rd_knotNames, .int 0, .int 0, .int 0, .int 0, .long 0]))]) hP hD [0] [] rfl rfl (by decide) (by decide) hk1 hFc hP1 hD1
  generalize H1 = H at hP hS ⊢
  have hP : va_P (dC, dI) classes [(rd, .inr (7, [.ref rd_tape, .int 0, .int 0, .int (-1), .ref dr, .ref rd_names, .ref rd_nameKind, .ref rd_nameNumber, .int 0, .ref rd_knotNames, .int 0, .int 0, .int 0, .int 0, .long 0]))] H := hP
  have hD : va_D A [(rd, .inr (7, [.ref rd_tape, .int 0, .int 0, .int (-1), .ref dr, .ref rd_names, .ref rd_nameKind, .ref rd_nameNumber, .int 0, .ref rd_knotNames, .int 0, .int 0, .int 0, .int 0, .long 0]))] := hD
  obtain rfl : r_1 = 0 := hw_2
  refine lv_if_ne (tgt := 10) hx hb dX7_takeWord_5 (by decide) (fun c_3 => ?_) (fun c_3 => ?_)
  · exact absurd c_3 (by decide)
  refine lv_iconst (v := 0) hx hb dX7_takeWord_8 (by decide) ?_
  have hP9 := hP.sub (ws' := [(rd, .inr (7, [.ref rd_tape, .int 0, .int 0, .int (-1), .ref dr, .ref rd_names, .ref rd_nameKind, .ref rd_nameNumber, .int 0, .ref rd_knotNames, .int 0, .int 0, .int 0, .int 0, .long 0]))]) [0] rfl
  have hD9 := hD.sub (ws' := [(rd, .inr (7, [.ref rd_tape, .int 0, .int 0, .int (-1), .ref dr, .ref rd_names, .ref rd_nameKind, .ref rd_nameNumber, .int 0, .ref rd_knotNames, .int 0, .int 0, .int 0, .int 0, .long 0]))]) [0] (by decide) rfl
  have hK9 := hK.sub (tys' := []) [] rfl
  exact W.zret (v := 0) hx hb hr rfl (fun t ht hW => ⟨⟨0, (), rfl, rfl, by rw [ht]; exact hP9, va_K.moved hW.alike hK9, hD9⟩, hS.F ht⟩) hS.2.2 dX7_takeWord_9
set_option maxHeartbeats 4000000 in
set_option maxRecDepth 100000 in
theorem c_miss0 (l : Launch) (dC : Nat → ClassId) (dI : Nat → Nat → Nat) (n0 sz : Nat) (rd : Nat) (rd_tape : Nat) (dr : Nat) (rd_names : Nat) (rd_nameKind : Nat) (rd_nameNumber : Nat) (rd_knotNames : Nat) : Met l yX7_miss (wM yX7_miss cX7_miss 2 (some .boolean)) ({ frames := 0, cells := 0, slots := 0, locals := 0 }) (va_Pc [.ref rd, .int 1] (fun U => U.heap.size = sz ∧ n0 ≤ sz ∧ GW n0 U ∧ va_P (dC, dI) classes [(rd, .inr (7, [.ref rd_tape, .int 0, .int 0, .int (-1), .ref dr, .ref rd_names, .ref rd_nameKind, .ref rd_nameNumber, .int 0, .ref rd_knotNames, .int 0, .int 0, .int 0, .int 0, .long 0]))] U.heap ∧ va_K (dC, dI) classes [] U ∧ va_D (fun q => n0 ≤ q) [(rd, .inr (7, [.ref rd_tape, .int 0, .int 0, .int (-1), .ref dr, .ref rd_names, .ref rd_nameKind, .ref rd_nameNumber, .int 0, .ref rd_knotNames, .int 0, .int 0, .int 0, .int 0, .long 0]))])) (va_Qi (fun (r : Int32) (_ : Unit) => r = 0) (fun (_ : Unit) (t : State) => va_P (dC, dI) classes [(rd, .inr (7, [.ref rd_tape, .int 0, .int 1, .int 0, .ref dr, .ref rd_names, .ref rd_nameKind, .ref rd_nameNumber, .int 0, .ref rd_knotNames, .int 0, .int 0, .int 0, .int 0, .long 0]))] t.heap ∧ va_K (dC, dI) classes [] t ∧ va_D (va_A [(rd, .inr (7, [.ref rd_tape, .int 0, .int 0, .int (-1), .ref dr, .ref rd_names, .ref rd_nameKind, .ref rd_nameNumber, .int 0, .ref rd_knotNames, .int 0, .int 0, .int 0, .int 0, .long 0]))] sz) [(rd, .inr (7, [.ref rd_tape, .int 0, .int 1, .int 0, .ref dr, .ref rd_names, .ref rd_nameKind, .ref rd_nameNumber, .int 0, .ref rd_knotNames, .int 0, .int 0, .int 0, .int 0, .long 0]))]) (va_A [(rd, .inr (7, [.ref rd_tape, .int 0, .int 0, .int (-1), .ref dr, .ref rd_names, .ref rd_nameKind, .ref rd_nameNumber, .int 0, .ref rd_knotNames, .int 0, .int 0, .int 0, .int 0, .long 0]))] sz)) 0 0 (va_A [(rd, .inr (7, [.ref rd_tape, .int 0, .int 0, .int (-1), .ref dr, .ref rd_names, .ref rd_nameKind, .ref rd_nameNumber, .int 0, .ref rd_knotNames, .int 0, .int 0, .int 0, .int 0, .long 0]))] sz) := by
  refine Met.ofW (cc := cX7_miss) (maxL := 2) (ret := (some .boolean)) (by decide) rfl ?_
  intro p e s m args below meth c s₁ B hml hv
  obtain ⟨rfl, hsz, hn0, hG, hP, hK, hD0⟩ := hv
  have hx := B.exec
  have hb := B.bytes
  have hr := B.returns
  have hts := atoms_spec (ws := wM yX7_miss cX7_miss 2 (some .boolean)) B.pre
  have hown : s.vm.findClass RX7 = some m.cls := findClass_of_methodNamed B.named
  have hlocks := B.notSynchronized
  subst hsz
  have hD := hD0.self (sz := s.heap.size)
  have hA0 := vA_n0 hD0 hn0
  generalize hAe : va_A [(rd, .inr (7, [.ref rd_tape, .int 0, .int 0, .int (-1), .ref dr, .ref rd_names, .ref rd_nameKind, .ref rd_nameNumber, .int 0, .ref rd_knotNames, .int 0, .int 0, .int 0, .int 0, .long 0]))] s.heap.size = A at hD hA0 ⊢
  have hA : ∀ q : Nat, s.heap.size ≤ q → A q := fun q h => by rw [← hAe]; exact Or.inr h
  have hS : va_S A s.heap s.heap [] := va_S.rf
  have hl := lv_entry ([.ref rd, .int 1]) (n := 2) (Nat.le_of_ble_eq_true rfl)
  rw [lg_entry_eq]
  generalize (lg_sl ([.ref rd, .int 1]) ++ List.replicate (2 - (lg_sl ([.ref rd, .int 1])).length) Slot.unset).toArray = ls at hl ⊢
  have hl : lv_has ls 2 [(0, .ref rd), (1, .int 1)] := hl
  refine lv_aload_n hx hb dX7_miss_0 rfl (lv_at hl 0 rfl) ?_
  refine va_get (D := (dC, dI)) (ci := 7) (v := .int 0) (C := RX7) (T := TX7) (N := 15) hx hb hts (fun w h => wM_c (iX7 w h)) hown hK hP 0 rfl rfl 2 (by decide) (hts _ (wM_c wd_337)) (fun _ h9 => h9) rfl dX7_miss_1 ?_
  refine lv_if_ne (tgt := 20) hx hb dX7_miss_4 (by decide) (fun c_1 => ?_) (fun c_1 => ?_)
  · exact absurd c_1 (by decide)
  refine lv_aload_n hx hb dX7_miss_7 rfl (lv_at hl 0 rfl) ?_
  refine lv_iload_n hx hb dX7_miss_8 rfl (lv_at hl 1 rfl) ?_
  refine va_put (D := (dC, dI)) (ci := 7) (v := .int 1) (ty := .int) (C := RX7) (T := TX7) (N := 15) hx hb hts (fun w h => wM_c (iX7 w h)) tyX7 tyX7_ok nmX7 hown hK hP hD hS 0 rfl rfl 2 (by decide) (hts _ (wM_c wd_337)) (fun _ h9 => h9) rfl (by decide +kernel) rfl rfl (Nat.le_of_ble_eq_true rfl) dX7_miss_9 (fun H locs hP hD hS => ?_)
  have hP : va_P (dC, dI) classes [(rd, .inr (7, [.ref rd_tape, .int 0, .int 1, .int (-1), .ref dr, .ref rd_names, .ref rd_nameKind, .ref rd_nameNumber, .int 0, .ref rd_knotNames, .int 0, .int 0, .int 0, .int 0, .long 0]))] H := hP
  have hD : va_D A [(rd, .inr (7, [.ref rd_tape, .int 0, .int 1, .int (-1), .ref dr, .ref rd_names, .ref rd_nameKind, .ref rd_nameNumber, .int 0, .ref rd_knotNames, .int 0, .int 0, .int 0, .int 0, .long 0]))] := hD
  refine lv_aload_n hx hb dX7_miss_12 rfl (lv_at hl 0 rfl) ?_
  refine lv_aload_n hx hb dX7_miss_13 rfl (lv_at hl 0 rfl) ?_
  refine va_get (D := (dC, dI)) (ci := 7) (v := .int 0) (C := RX7) (T := TX7) (N := 15) hx hb hts (fun w h => wM_c (iX7 w h)) hown hK hP 0 rfl rfl 13 (by decide) (hts _ (wM_c wd_349)) (fun _ h9 => h9) rfl dX7_miss_14 ?_
  refine va_put (D := (dC, dI)) (ci := 7) (v := .int 0) (ty := .int) (C := RX7) (T := TX7) (N := 15) hx hb hts (fun w h => wM_c (iX7 w h)) tyX7 tyX7_ok nmX7 hown hK hP hD hS 0 rfl rfl 3 (by decide) (hts _ (wM_c wd_338)) (fun _ h9 => h9) rfl (by decide +kernel) rfl rfl (Nat.le_of_ble_eq_true rfl) dX7_miss_17 (fun H locs hP hD hS => ?_)
  have hP : va_P (dC, dI) classes [(rd, .inr (7, [.ref rd_tape, .int 0, .int 1, .int 0, .ref dr, .ref rd_names, .ref rd_nameKind, .ref rd_nameNumber, .int 0, .ref rd_knotNames, .int 0, .int 0, .int 0, .int 0, .long 0]))] H := hP
  have hD : va_D A [(rd, .inr (7, [.ref rd_tape, .int 0, .int 1, .int 0, .ref dr, .ref rd_names, .ref rd_nameKind, .ref rd_nameNumber, .int 0, .ref rd_knotNames, .int 0, .int 0, .int 0, .int 0, .long 0]))] := hD
  refine lv_iconst (v := 0) hx hb dX7_miss_20 (by decide) ?_
  have hP9 := hP.sub (ws' := [(rd, .inr (7, [.ref rd_tape, .int 0, .int 1, .int 0, .ref dr, .ref rd_names, .ref rd_nameKind, .ref rd_nameNumber, .int 0, .ref rd_knotNames, .int 0, .int 0, .int 0, .int 0, .long 0]))]) [0] rfl
  have hD9 := hD.sub (ws' := [(rd, .inr (7, [.ref rd_tape, .int 0, .int 1, .int 0, .ref dr, .ref rd_names, .ref rd_nameKind, .ref rd_nameNumber, .int 0, .ref rd_knotNames, .int 0, .int 0, .int 0, .int 0, .long 0]))]) [0] (by decide) rfl
  have hK9 := hK.sub (tys' := []) [] rfl
  exact W.zret (v := 0) hx hb hr rfl (fun t ht hW => ⟨⟨0, (), rfl, rfl, by rw [ht]; exact hP9, va_K.moved hW.alike hK9, hD9⟩, hS.F ht⟩) hS.2.2 dX7_miss_21
set_option maxHeartbeats 4000000 in
set_option maxRecDepth 100000 in
theorem c_readBook0 (l : Launch) (dC : Nat → ClassId) (dI : Nat → Nat → Nat) (n0 sz : Nat) (rd : Nat) (rd_tape : Nat) (dr : Nat) (rd_names : Nat) (rd_nameKind : Nat) (rd_nameNumber : Nat) (rd_knotNames : Nat) (dr_tail : Nat) (dr_head : Nat) (dr_hinder : Nat) (dr_size : Nat) (dr_walk : Nat) (dr_draught : Nat) (dr_doorIn : Nat) (dr_fanIn : Nat) (dr_faceIn : Nat) (dg : Nat) (dg_doorBy : Nat) (dg_pairFirst : Nat) (dg_pairSecond : Nat) (dg_fanPush : Nat) (dg_fanFall : Nat) (dg_fanCost : Nat) (dg_faceWay : Nat) (dg_faceGas : Nat) (dg_faceNeed : Nat) (kd1 : ClassId) (kd2 : ClassId) (kd3 : ClassId) (g1 : Nat → Int32) (g2 : Nat → Int32) (g3 : Nat → Int32) (n : Int32) (hn : ¬ n < 0) : Met l yX7_readBook (wM yX7_readBook cX7_readBook 3 (some .boolean)) ({ frames := 2, cells := 0, slots := 0, locals := 43 }) (va_Pc [.ref rd, .int n] (fun U => U.heap.size = sz ∧ n0 ≤ sz ∧ GW n0 U ∧ va_P (dC, dI) classes [(rd, .inr (7, [.ref rd_tape, .int 0, .int 0, .int 0, .ref dr, .ref rd_names, .ref rd_nameKind, .ref rd_nameNumber, .int 0, .ref rd_knotNames, .int 0, .int 0, .int 0, .int 0, .long 0])), (dr, .inr (0, [.int 0, .ref dr_tail, .ref dr_head, .ref dr_hinder, .ref dr_size, .ref dr_walk, .ref dr_draught, .ref dr_doorIn, .ref dr_fanIn, .ref dr_faceIn, .int 0, .int (-1), .ref dg])), (dg, .inr (3, [.int 0, .ref dg_doorBy, .int 0, .ref dg_pairFirst, .ref dg_pairSecond, .int 0, .ref dg_fanPush, .ref dg_fanFall, .ref dg_fanCost, .int 0, .ref dg_faceWay, .ref dg_faceGas, .ref dg_faceNeed])), (dr_doorIn, .inl (kd1, 14, .inl g1)), (dr_fanIn, .inl (kd2, 14, .inl g2)), (dr_faceIn, .inl (kd3, 14, .inl g3))] U.heap ∧ va_K (dC, dI) classes [(kd1, .int), (kd2, .int), (kd3, .int)] U ∧ va_D (fun q => n0 ≤ q) [(rd, .inr (7, [.ref rd_tape, .int 0, .int 0, .int 0, .ref dr, .ref rd_names, .ref rd_nameKind, .ref rd_nameNumber, .int 0, .ref rd_knotNames, .int 0, .int 0, .int 0, .int 0, .long 0])), (dr, .inr (0, [.int 0, .ref dr_tail, .ref dr_head, .ref dr_hinder, .ref dr_size, .ref dr_walk, .ref dr_draught, .ref dr_doorIn, .ref dr_fanIn, .ref dr_faceIn, .int 0, .int (-1), .ref dg])), (dg, .inr (3, [.int 0, .ref dg_doorBy, .int 0, .ref dg_pairFirst, .ref dg_pairSecond, .int 0, .ref dg_fanPush, .ref dg_fanFall, .ref dg_fanCost, .int 0, .ref dg_faceWay, .ref dg_faceGas, .ref dg_faceNeed])), (dr_doorIn, .inl (kd1, 14, .inl g1)), (dr_fanIn, .inl (kd2, 14, .inl g2)), (dr_faceIn, .inl (kd3, 14, .inl g3))])) (va_Qi (fun (r : Int32) (_ : Unit) => r = 0) (fun (_ : Unit) (t : State) => va_P (dC, dI) classes [(rd, .inr (7, [.ref rd_tape, .int 0, .int 1, .int 0, .ref dr, .ref rd_names, .ref rd_nameKind, .ref rd_nameNumber, .int 0, .ref rd_knotNames, .int 0, .int 0, .int 0, .int 0, .long 0]))] t.heap ∧ va_K (dC, dI) classes [] t ∧ va_D (va_A [(rd, .inr (7, [.ref rd_tape, .int 0, .int 0, .int 0, .ref dr, .ref rd_names, .ref rd_nameKind, .ref rd_nameNumber, .int 0, .ref rd_knotNames, .int 0, .int 0, .int 0, .int 0, .long 0])), (dr, .inr (0, [.int 0, .ref dr_tail, .ref dr_head, .ref dr_hinder, .ref dr_size, .ref dr_walk, .ref dr_draught, .ref dr_doorIn, .ref dr_fanIn, .ref dr_faceIn, .int 0, .int (-1), .ref dg])), (dg, .inr (3, [.int 0, .ref dg_doorBy, .int 0, .ref dg_pairFirst, .ref dg_pairSecond, .int 0, .ref dg_fanPush, .ref dg_fanFall, .ref dg_fanCost, .int 0, .ref dg_faceWay, .ref dg_faceGas, .ref dg_faceNeed])), (dr_doorIn, .inl (kd1, 14, .inl g1)), (dr_fanIn, .inl (kd2, 14, .inl g2)), (dr_faceIn, .inl (kd3, 14, .inl g3))] sz) [(rd, .inr (7, [.ref rd_tape, .int 0, .int 1, .int 0, .ref dr, .ref rd_names, .ref rd_nameKind, .ref rd_nameNumber, .int 0, .ref rd_knotNames, .int 0, .int 0, .int 0, .int 0, .long 0]))]) (va_A [(rd, .inr (7, [.ref rd_tape, .int 0, .int 0, .int 0, .ref dr, .ref rd_names, .ref rd_nameKind, .ref rd_nameNumber, .int 0, .ref rd_knotNames, .int 0, .int 0, .int 0, .int 0, .long 0])), (dr, .inr (0, [.int 0, .ref dr_tail, .ref dr_head, .ref dr_hinder, .ref dr_size, .ref dr_walk, .ref dr_draught, .ref dr_doorIn, .ref dr_fanIn, .ref dr_faceIn, .int 0, .int (-1), .ref dg])), (dg, .inr (3, [.int 0, .ref dg_doorBy, .int 0, .ref dg_pairFirst, .ref dg_pairSecond, .int 0, .ref dg_fanPush, .ref dg_fanFall, .ref dg_fanCost, .int 0, .ref dg_faceWay, .ref dg_faceGas, .ref dg_faceNeed])), (dr_doorIn, .inl (kd1, 14, .inl g1)), (dr_fanIn, .inl (kd2, 14, .inl g2)), (dr_faceIn, .inl (kd3, 14, .inl g3))] sz)) 0 0 (va_A [(rd, .inr (7, [.ref rd_tape, .int 0, .int 0, .int 0, .ref dr, .ref rd_names, .ref rd_nameKind, .ref rd_nameNumber, .int 0, .ref rd_knotNames, .int 0, .int 0, .int 0, .int 0, .long 0])), (dr, .inr (0, [.int 0, .ref dr_tail, .ref dr_head, .ref dr_hinder, .ref dr_size, .ref dr_walk, .ref dr_draught, .ref dr_doorIn, .ref dr_fanIn, .ref dr_faceIn, .int 0, .int (-1), .ref dg])), (dg, .inr (3, [.int 0, .ref dg_doorBy, .int 0, .ref dg_pairFirst, .ref dg_pairSecond, .int 0, .ref dg_fanPush, .ref dg_fanFall, .ref dg_fanCost, .int 0, .ref dg_faceWay, .ref dg_faceGas, .ref dg_faceNeed])), (dr_doorIn, .inl (kd1, 14, .inl g1)), (dr_fanIn, .inl (kd2, 14, .inl g2)), (dr_faceIn, .inl (kd3, 14, .inl g3))] sz) := by
  refine Met.ofW (cc := cX7_readBook) (maxL := 3) (ret := (some .boolean)) (by decide) rfl ?_
  intro p e s m args below meth c s₁ B hml hv
  obtain ⟨rfl, hsz, hn0, hG, hP, hK, hD0⟩ := hv
  have hx := B.exec
  have hb := B.bytes
  have hr := B.returns
  have hts := atoms_spec (ws := wM yX7_readBook cX7_readBook 3 (some .boolean)) B.pre
  have hown : s.vm.findClass RX7 = some m.cls := findClass_of_methodNamed B.named
  have hlocks := B.notSynchronized
  subst hsz
  have hD := hD0.self (sz := s.heap.size)
  have hA0 := vA_n0 hD0 hn0
  generalize hAe : va_A [(rd, .inr (7, [.ref rd_tape, .int 0, .int 0, .int 0, .ref dr, .ref rd_names, .ref rd_nameKind, .ref rd_nameNumber, .int 0, .ref rd_knotNames, .int 0, .int 0, .int 0, .int 0, .long 0])), (dr, .inr (0, [.int 0, .ref dr_tail, .ref dr_head, .ref dr_hinder, .ref dr_size, .ref dr_walk, .ref dr_draught, .ref dr_doorIn, .ref dr_fanIn, .ref dr_faceIn, .int 0, .int (-1), .ref dg])), (dg, .inr (3, [.int 0, .ref dg_doorBy, .int 0, .ref dg_pairFirst, .ref dg_pairSecond, .int 0, .ref dg_fanPush, .ref dg_fanFall, .ref dg_fanCost, .int 0, .ref dg_faceWay, .ref dg_faceGas, .ref dg_faceNeed])), (dr_doorIn, .inl (kd1, 14, .inl g1)), (dr_fanIn, .inl (kd2, 14, .inl g2)), (dr_faceIn, .inl (kd3, 14, .inl g3))] s.heap.size = A at hD hA0 ⊢
  have hA : ∀ q : Nat, s.heap.size ≤ q → A q := fun q h => by rw [← hAe]; exact Or.inr h
  have hS : va_S A s.heap s.heap [] := va_S.rf
  have hl := lv_entry ([.ref rd, .int n]) (n := 3) (Nat.le_of_ble_eq_true rfl)
  rw [lg_entry_eq]
  generalize (lg_sl ([.ref rd, .int n]) ++ List.replicate (3 - (lg_sl ([.ref rd, .int n])).length) Slot.unset).toArray = ls at hl ⊢
  have hl : lv_has ls 3 [(0, .ref rd), (1, .int n)] := hl
  refine lv_aload_n hx hb dX7_readBook_0 rfl (lv_at hl 0 rfl) ?_
  refine lv_iload_n hx hb dX7_readBook_1 rfl (lv_at hl 1 rfl) ?_
  refine lv_aload_n hx hb dX7_readBook_2 rfl (lv_at hl 0 rfl) ?_
  refine va_get (D := (dC, dI)) (ci := 7) (v := .int 0) (C := RX7) (T := TX7) (N := 15) hx hb hts (fun w h => wM_c (iX7 w h)) hown hK hP 0 rfl rfl 1 (by decide) (hts _ (wM_c wd_335)) (fun _ h9 => h9) rfl dX7_readBook_3 ?_
  refine lv_icmp_ge (tgt := 13) hx hb dX7_readBook_6 (by decide) (fun c_1 => ?_) (fun c_1 => ?_)
  · skip
    refine lv_aload_n hx hb dX7_readBook_13 rfl (lv_at hl 0 rfl) ?_
    refine va_get (D := (dC, dI)) (ci := 7) (v := .int 0) (C := RX7) (T := TX7) (N := 15) hx hb hts (fun w h => wM_c (iX7 w h)) hown hK hP 0 rfl rfl 1 (by decide) (hts _ (wM_c wd_335)) (fun _ h9 => h9) rfl dX7_readBook_14 ?_
    refine va_put (D := (dC, dI)) (ci := 7) (v := .int 0) (ty := .int) (C := RX7) (T := TX7) (N := 15) hx hb hts (fun w h => wM_c (iX7 w h)) tyX7 tyX7_ok nmX7 hown hK hP hD hS 0 rfl rfl 10 (by decide) (hts _ (wM_c wd_346)) (fun _ h9 => h9) rfl (by decide +kernel) rfl rfl (Nat.le_of_ble_eq_true rfl) dX7_readBook_17 (fun H locs hP hD hS => ?_)
    have hP : va_P (dC, dI) classes [(rd, .inr (7, [.ref rd_tape, .int 0, .int 0, .int 0, .ref dr, .ref rd_names, .ref rd_nameKind, .ref rd_nameNumber, .int 0, .ref rd_knotNames, .int 0, .int 0, .int 0, .int 0, .long 0])), (dr, .inr (0, [.int 0, .ref dr_tail, .ref dr_head, .ref dr_hinder, .ref dr_size, .ref dr_walk, .ref dr_draught, .ref dr_doorIn, .ref dr_fanIn, .ref dr_faceIn, .int 0, .int (-1), .ref dg])), (dg, .inr (3, [.int 0, .ref dg_doorBy, .int 0, .ref dg_pairFirst, .ref dg_pairSecond, .int 0, .ref dg_fanPush, .ref dg_fanFall, .ref dg_fanCost, .int 0, .ref dg_faceWay, .ref dg_faceGas, .ref dg_faceNeed])), (dr_doorIn, .inl (kd1, 14, .inl g1)), (dr_fanIn, .inl (kd2, 14, .inl g2)), (dr_faceIn, .inl (kd3, 14, .inl g3))] H := hP
    have hD : va_D A [(rd, .inr (7, [.ref rd_tape, .int 0, .int 0, .int 0, .ref dr, .ref rd_names, .ref rd_nameKind, .ref rd_nameNumber, .int 0, .ref rd_knotNames, .int 0, .int 0, .int 0, .int 0, .long 0])), (dr, .inr (0, [.int 0, .ref dr_tail, .ref dr_head, .ref dr_hinder, .ref dr_size, .ref dr_walk, .ref dr_draught, .ref dr_doorIn, .ref dr_fanIn, .ref dr_faceIn, .int 0, .int (-1), .ref dg])), (dg, .inr (3, [.int 0, .ref dg_doorBy, .int 0, .ref dg_pairFirst, .ref dg_pairSecond, .int 0, .ref dg_fanPush, .ref dg_fanFall, .ref dg_fanCost, .int 0, .ref dg_faceWay, .ref dg_faceGas, .ref dg_faceNeed])), (dr_doorIn, .inl (kd1, 14, .inl g1)), (dr_fanIn, .inl (kd2, 14, .inl g2)), (dr_faceIn, .inl (kd3, 14, .inl g3))] := hD
    refine lv_aload_n hx hb dX7_readBook_20 rfl (lv_at hl 0 rfl) ?_
    refine lv_iconst (v := 0) hx hb dX7_readBook_21 (by decide) ?_
    refine va_put (D := (dC, dI)) (ci := 7) (v := .int 0) (ty := .int) (C := RX7) (T := TX7) (N := 15) hx hb hts (fun w h => wM_c (iX7 w h)) tyX7 tyX7_ok nmX7 hown hK hP hD hS 0 rfl rfl 1 (by decide) (hts _ (wM_c wd_335)) (fun _ h9 => h9) rfl (by decide +kernel) rfl rfl (Nat.le_of_ble_eq_true rfl) dX7_readBook_22 (fun H locs hP hD hS => ?_)
    have hP : va_P (dC, dI) classes [(rd, .inr (7, [.ref rd_tape, .int 0, .int 0, .int 0, .ref dr, .ref rd_names, .ref rd_nameKind, .ref rd_nameNumber, .int 0, .ref rd_knotNames, .int 0, .int 0, .int 0, .int 0, .long 0])), (dr, .inr (0, [.int 0, .ref dr_tail, .ref dr_head, .ref dr_hinder, .ref dr_size, .ref dr_walk, .ref dr_draught, .ref dr_doorIn, .ref dr_fanIn, .ref dr_faceIn, .int 0, .int (-1), .ref dg])), (dg, .inr (3, [.int 0, .ref dg_doorBy, .int 0, .ref dg_pairFirst, .ref dg_pairSecond, .int 0, .ref dg_fanPush, .ref dg_fanFall, .ref dg_fanCost, .int 0, .ref dg_faceWay, .ref dg_faceGas, .ref dg_faceNeed])), (dr_doorIn, .inl (kd1, 14, .inl g1)), (dr_fanIn, .inl (kd2, 14, .inl g2)), (dr_faceIn, .inl (kd3, 14, .inl g3))] H := hP
    have hD : va_D A [(rd, .inr (7, [.ref rd_tape, .int 0, .int 0, .int 0, .ref dr, .ref rd_names, .ref rd_nameKind, .ref rd_nameNumber, .int 0, .ref rd_knotNames, .int 0, .int 0, .int 0, .int 0, .long 0])), (dr, .inr (0, [.int 0, .ref dr_tail, .ref dr_head, .ref dr_hinder, .ref dr_size, .ref dr_walk, .ref dr_draught, .ref dr_doorIn, .ref dr_fanIn, .ref dr_faceIn, .int 0, .int (-1), .ref dg])), (dg, .inr (3, [.int 0, .ref dg_doorBy, .int 0, .ref dg_pairFirst, .ref dg_pairSecond, .int 0, .ref dg_fanPush, .ref dg_fanFall, .ref dg_fanCost, .int 0, .ref dg_faceWay, .ref dg_faceGas, .ref dg_faceNeed])), (dr_doorIn, .inl (kd1, 14, .inl g1)), (dr_fanIn, .inl (kd2, 14, .inl g2)), (dr_faceIn, .inl (kd3, 14, .inl g3))] := hD
    refine lv_aload_n hx hb dX7_readBook_25 rfl (lv_at hl 0 rfl) ?_
    refine lv_iconst (v := 0) hx hb dX7_readBook_26 (by decide) ?_
    refine va_put (D := (dC, dI)) (ci := 7) (v := .int 0) (ty := .int) (C := RX7) (T := TX7) (N := 15) hx hb hts (fun w h => wM_c (iX7 w h)) tyX7 tyX7_ok nmX7 hown hK hP hD hS 0 rfl rfl 11 (by decide) (hts _ (wM_c wd_347)) (fun _ h9 => h9) rfl (by decide +kernel) rfl rfl (Nat.le_of_ble_eq_true rfl) dX7_readBook_27 (fun H locs hP hD hS => ?_)
    have hP : va_P (dC, dI) classes [(rd, .inr (7, [.ref rd_tape, .int 0, .int 0, .int 0, .ref dr, .ref rd_names, .ref rd_nameKind, .ref rd_nameNumber, .int 0, .ref rd_knotNames, .int 0, .int 0, .int 0, .int 0, .long 0])), (dr, .inr (0, [.int 0, .ref dr_tail, .ref dr_head, .ref dr_hinder, .ref dr_size, .ref dr_walk, .ref dr_draught, .ref dr_doorIn, .ref dr_fanIn, .ref dr_faceIn, .int 0, .int (-1), .ref dg])), (dg, .inr (3, [.int 0, .ref dg_doorBy, .int 0, .ref dg_pairFirst, .ref dg_pairSecond, .int 0, .ref dg_fanPush, .ref dg_fanFall, .ref dg_fanCost, .int 0, .ref dg_faceWay, .ref dg_faceGas, .ref dg_faceNeed])), (dr_doorIn, .inl (kd1, 14, .inl g1)), (dr_fanIn, .inl (kd2, 14, .inl g2)), (dr_faceIn, .inl (kd3, 14, .inl g3))] H := hP
    have hD : va_D A [(rd, .inr (7, [.ref rd_tape, .int 0, .int 0, .int 0, .ref dr, .ref rd_names, .ref rd_nameKind, .ref rd_nameNumber, .int 0, .ref rd_knotNames, .int 0, .int 0, .int 0, .int 0, .long 0])), (dr, .inr (0, [.int 0, .ref dr_tail, .ref dr_head, .ref dr_hinder, .ref dr_size, .ref dr_walk, .ref dr_draught, .ref dr_doorIn, .ref dr_fanIn, .ref dr_faceIn, .int 0, .int (-1), .ref dg])), (dg, .inr (3, [.int 0, .ref dg_doorBy, .int 0, .ref dg_pairFirst, .ref dg_pairSecond, .int 0, .ref dg_fanPush, .ref dg_fanFall, .ref dg_fanCost, .int 0, .ref dg_faceWay, .ref dg_faceGas, .ref dg_faceNeed])), (dr_doorIn, .inl (kd1, 14, .inl g1)), (dr_fanIn, .inl (kd2, 14, .inl g2)), (dr_faceIn, .inl (kd3, 14, .inl g3))] := hD
    refine lv_aload_n hx hb dX7_readBook_30 rfl (lv_at hl 0 rfl) ?_
    refine lv_iconst (v := 0) hx hb dX7_readBook_31 (by decide) ?_
    refine va_put (D := (dC, dI)) (ci := 7) (v := .int 0) (ty := .int) (C := RX7) (T := TX7) (N := 15) hx hb hts (fun w h => wM_c (iX7 w h)) tyX7 tyX7_ok nmX7 hown hK hP hD hS 0 rfl rfl 8 (by decide) (hts _ (wM_c wd_344)) (fun _ h9 => h9) rfl (by decide +kernel) rfl rfl (Nat.le_of_ble_eq_true rfl) dX7_readBook_32 (fun H locs hP hD hS => ?_)
    have hP : va_P (dC, dI) classes [(rd, .inr (7, [.ref rd_tape, .int 0, .int 0, .int 0, .ref dr, .ref rd_names, .ref rd_nameKind, .ref rd_nameNumber, .int 0, .ref rd_knotNames, .int 0, .int 0, .int 0, .int 0, .long 0])), (dr, .inr (0, [.int 0, .ref dr_tail, .ref dr_head, .ref dr_hinder, .ref dr_size, .ref dr_walk, .ref dr_draught, .ref dr_doorIn, .ref dr_fanIn, .ref dr_faceIn, .int 0, .int (-1), .ref dg])), (dg, .inr (3, [.int 0, .ref dg_doorBy, .int 0, .ref dg_pairFirst, .ref dg_pairSecond, .int 0, .ref dg_fanPush, .ref dg_fanFall, .ref dg_fanCost, .int 0, .ref dg_faceWay, .ref dg_faceGas, .ref dg_faceNeed])), (dr_doorIn, .inl (kd1, 14, .inl g1)), (dr_fanIn, .inl (kd2, 14, .inl g2)), (dr_faceIn, .inl (kd3, 14, .inl g3))] H := hP
    have hD : va_D A [(rd, .inr (7, [.ref rd_tape, .int 0, .int 0, .int 0, .ref dr, .ref rd_names, .ref rd_nameKind, .ref rd_nameNumber, .int 0, .ref rd_knotNames, .int 0, .int 0, .int 0, .int 0, .long 0])), (dr, .inr (0, [.int 0, .ref dr_tail, .ref dr_head, .ref dr_hinder, .ref dr_size, .ref dr_walk, .ref dr_draught, .ref dr_doorIn, .ref dr_fanIn, .ref dr_faceIn, .int 0, .int (-1), .ref dg])), (dg, .inr (3, [.int 0, .ref dg_doorBy, .int 0, .ref dg_pairFirst, .ref dg_pairSecond, .int 0, .ref dg_fanPush, .ref dg_fanFall, .ref dg_fanCost, .int 0, .ref dg_faceWay, .ref dg_faceGas, .ref dg_faceNeed])), (dr_doorIn, .inl (kd1, 14, .inl g1)), (dr_fanIn, .inl (kd2, 14, .inl g2)), (dr_faceIn, .inl (kd3, 14, .inl g3))] := hD
    refine lv_aload_n hx hb dX7_readBook_35 rfl (lv_at hl 0 rfl) ?_
    refine lv_iconst (v := 0) hx hb dX7_readBook_36 (by decide) ?_
    refine va_put (D := (dC, dI)) (ci := 7) (v := .int 0) (ty := .int) (C := RX7) (T := TX7) (N := 15) hx hb hts (fun w h => wM_c (iX7 w h)) tyX7 tyX7_ok nmX7 hown hK hP hD hS 0 rfl rfl 2 (by decide) (hts _ (wM_c wd_337)) (fun _ h9 => h9) rfl (by decide +kernel) rfl rfl (Nat.le_of_ble_eq_true rfl) dX7_readBook_37 (fun H locs hP hD hS => ?_)
    have hP : va_P (dC, dI) classes [(rd, .inr (7, [.ref rd_tape, .int 0, .int 0, .int 0, .ref dr, .ref rd_names, .ref rd_nameKind, .ref rd_nameNumber, .int 0, .ref rd_knotNames, .int 0, .int 0, .int 0, .int 0, .long 0])), (dr, .inr (0, [.int 0, .ref dr_tail, .ref dr_head, .ref dr_hinder, .ref dr_size, .ref dr_walk, .ref dr_draught, .ref dr_doorIn, .ref dr_fanIn, .ref dr_faceIn, .int 0, .int (-1), .ref dg])), (dg, .inr (3, [.int 0, .ref dg_doorBy, .int 0, .ref dg_pairFirst, .ref dg_pairSecond, .int 0, .ref dg_fanPush, .ref dg_fanFall, .ref dg_fanCost, .int 0, .ref dg_faceWay, .ref dg_faceGas, .ref dg_faceNeed])), (dr_doorIn, .inl (kd1, 14, .inl g1)), (dr_fanIn, .inl (kd2, 14, .inl g2)), (dr_faceIn, .inl (kd3, 14, .inl g3))] H := hP
    have hD : va_D A [(rd, .inr (7, [.ref rd_tape, .int 0, .int 0, .int 0, .ref dr, .ref rd_names, .ref rd_nameKind, .ref rd_nameNumber, .int 0, .ref rd_knotNames, .int 0, .int 0, .int 0, .int 0, .long 0])), (dr, .inr (0, [.int 0, .ref dr_tail, .ref dr_head, .ref dr_hinder, .ref dr_size, .ref dr_walk, .ref dr_draught, .ref dr_doorIn, .ref dr_fanIn, .ref dr_faceIn, .int 0, .int (-1), .ref dg])), (dg, .inr (3, [.int 0, .ref dg_doorBy, .int 0, .ref dg_pairFirst, .ref dg_pairSecond, .int 0, .ref dg_fanPush, .ref dg_fanFall, .ref dg_fanCost, .int 0, .ref dg_faceWay, .ref dg_faceGas, .ref dg_faceNeed])), (dr_doorIn, .inl (kd1, 14, .inl g1)), (dr_fanIn, .inl (kd2, 14, .inl g2)), (dr_faceIn, .inl (kd3, 14, .inl g3))] := hD
    refine lv_aload_n hx hb dX7_readBook_40 rfl (lv_at hl 0 rfl) ?_
    refine lv_iconst (v := (-1)) hx hb dX7_readBook_41 (by decide) ?_
    refine va_put (D := (dC, dI)) (ci := 7) (v := .int (-1)) (ty := .int) (C := RX7) (T := TX7) (N := 15) hx hb hts (fun w h => wM_c (iX7 w h)) tyX7 tyX7_ok nmX7 hown hK hP hD hS 0 rfl rfl 3 (by decide) (hts _ (wM_c wd_338)) (fun _ h9 => h9) rfl (by decide +kernel) rfl rfl (Nat.le_of_ble_eq_true rfl) dX7_readBook_42 (fun H locs hP hD hS => ?_)
    have hP : va_P (dC, dI) classes [(rd, .inr (7, [.ref rd_tape, .int 0, .int 0, .int (-1), .ref dr, .ref rd_names, .ref rd_nameKind, .ref rd_nameNumber, .int 0, .ref rd_knotNames, .int 0, .int 0, .int 0, .int 0, .long 0])), (dr, .inr (0, [.int 0, .ref dr_tail, .ref dr_head, .ref dr_hinder, .ref dr_size, .ref dr_walk, .ref dr_draught, .ref dr_doorIn, .ref dr_fanIn, .ref dr_faceIn, .int 0, .int (-1), .ref dg])), (dg, .inr (3, [.int 0, .ref dg_doorBy, .int 0, .ref dg_pairFirst, .ref dg_pairSecond, .int 0, .ref dg_fanPush, .ref dg_fanFall, .ref dg_fanCost, .int 0, .ref dg_faceWay, .ref dg_faceGas, .ref dg_faceNeed])), (dr_doorIn, .inl (kd1, 14, .inl g1)), (dr_fanIn, .inl (kd2, 14, .inl g2)), (dr_faceIn, .inl (kd3, 14, .inl g3))] H := hP
    have hD : va_D A [(rd, .inr (7, [.ref rd_tape, .int 0, .int 0, .int (-1), .ref dr, .ref rd_names, .ref rd_nameKind, .ref rd_nameNumber, .int 0, .ref rd_knotNames, .int 0, .int 0, .int 0, .int 0, .long 0])), (dr, .inr (0, [.int 0, .ref dr_tail, .ref dr_head, .ref dr_hinder, .ref dr_size, .ref dr_walk, .ref dr_draught, .ref dr_doorIn, .ref dr_fanIn, .ref dr_faceIn, .int 0, .int (-1), .ref dg])), (dg, .inr (3, [.int 0, .ref dg_doorBy, .int 0, .ref dg_pairFirst, .ref dg_pairSecond, .int 0, .ref dg_fanPush, .ref dg_fanFall, .ref dg_fanCost, .int 0, .ref dg_faceWay, .ref dg_faceGas, .ref dg_faceNeed])), (dr_doorIn, .inl (kd1, 14, .inl g1)), (dr_fanIn, .inl (kd2, 14, .inl g2)), (dr_faceIn, .inl (kd3, 14, .inl g3))] := hD
    refine lv_aload_n hx hb dX7_readBook_45 rfl (lv_at hl 0 rfl) ?_
    refine va_get (D := (dC, dI)) (ci := 7) (v := .ref dr) (C := RX7) (T := TX7) (N := 15) hx hb hts (fun w h => wM_c (iX7 w h)) hown hK hP 0 rfl rfl 4 (by decide) (hts _ (wM_c wd_340)) (fun _ h9 => h9) rfl dX7_readBook_46 ?_
    have hPc := hP.sub (ws' := [(dr, .inr (0, [.int 0, .ref dr_tail, .ref dr_head, .ref dr_hinder, .ref dr_size, .ref dr_walk, .ref dr_draught, .ref dr_doorIn, .ref dr_fanIn, .ref dr_faceIn, .int 0, .int (-1), .ref dg])), (dg, .inr (3, [.int 0, .ref dg_doorBy, .int 0, .ref dg_pairFirst, .ref dg_pairSecond, .int 0, .ref dg_fanPush, .ref dg_fanFall, .ref dg_fanCost, .int 0, .ref dg_faceWay, .ref dg_faceGas, .ref dg_faceNeed])), (dr_doorIn, .inl (kd1, 14, .inl g1)), (dr_fanIn, .inl (kd2, 14, .inl g2)), (dr_faceIn, .inl (kd3, 14, .inl g3))]) [1, 2, 3, 4, 5] rfl
    have hDc := hD.sub (ws' := [(dr, .inr (0, [.int 0, .ref dr_tail, .ref dr_head, .ref dr_hinder, .ref dr_size, .ref dr_walk, .ref dr_draught, .ref dr_doorIn, .ref dr_fanIn, .ref dr_faceIn, .int 0, .int (-1), .ref dg])), (dg, .inr (3, [.int 0, .ref dg_doorBy, .int 0, .ref dg_pairFirst, .ref dg_pairSecond, .int 0, .ref dg_fanPush, .ref dg_fanFall, .ref dg_fanCost, .int 0, .ref dg_faceWay, .ref dg_faceGas, .ref dg_faceNeed])), (dr_doorIn, .inl (kd1, 14, .inl g1)), (dr_fanIn, .inl (kd2, 14, .inl g2)), (dr_faceIn, .inl (kd3, 14, .inl g3))]) [1, 2, 3, 4, 5] (by decide) rfl
    have hKc := hK.sub (tys' := [(kd1, .int), (kd2, .int), (kd3, .int)]) [0, 1, 2] rfl
    have hFc := va_free (wc := [(dr, .inr (0, [.int 0, .ref dr_tail, .ref dr_head, .ref dr_hinder, .ref dr_size, .ref dr_walk, .ref dr_draught, .ref dr_doorIn, .ref dr_fanIn, .ref dr_faceIn, .int 0, .int (-1), .ref dg])), (dg, .inr (3, [.int 0, .ref dg_doorBy, .int 0, .ref dg_pairFirst, .ref dg_pairSecond, .int 0, .ref dg_fanPush, .ref dg_fanFall, .ref dg_fanCost, .int 0, .ref dg_faceWay, .ref dg_faceGas, .ref dg_faceNeed])), (dr_doorIn, .inl (kd1, 14, .inl g1)), (dr_fanIn, .inl (kd2, 14, .inl g2)), (dr_faceIn, .inl (kd3, 14, .inl g3))]) hD hS hA [1, 2, 3, 4, 5] rfl
    refine va_callv (va_runV (As := []) (rest := []) ⟨hx, hb, hml, hown, hts⟩ (c_clear l dC dI n0 H.size dr dr_tail dr_head dr_hinder dr_size dr_walk dr_draught dr_doorIn dr_fanIn dr_faceIn dg dg_doorBy dg_pairFirst dg_pairSecond dg_fanPush dg_fanFall dg_fanCost dg_faceWay dg_faceGas dg_faceNeed kd1 kd2 kd3 g1 g2 g3 ) (cwV 0 hts (gV (fun w h => wM_c h) wd_730 wd_727 wd_728 wd_729 wd_115) rfl rfl rfl (by decide +kernel) ⟨Nat.le_of_ble_eq_true rfl, Nat.le_of_ble_eq_true rfl⟩) ⟨fun a U g mk q => by obtain ⟨q0, q1, q2, qG, qP, qK, qD⟩ := q; exact ⟨q0, q1, q2, GW.blind qG, qP, va_K.moved (u := U) (U := U.calling g mk a) (Vm.Alike.refl U.vm) qK, qD⟩, va_recv hKc hPc (ci := 0) (q0 := 0) rfl rfl, fun U hU hW => ⟨rfl, by rw [hU], Nat.le_trans hn0 hS.1, GW.go hW hU hG (fun q hq hA9 => hS.2.1 q hq (fun h => hA9 (hA0 q h))), by rw [hU]; exact hPc, va_K.moved hW.alike hKc, hDc.weaken (fun _ _ _ h => hA0 _ h)⟩⟩ rfl rfl hl.1 rfl (lv_room (Nat.le_of_ble_eq_true rfl)) dX7_readBook_49 ⟨Nat.le_of_ble_eq_true rfl, Nat.le_of_ble_eq_true rfl⟩) hS (fun q _ h => hFc q h) hFc (fun u t H1 locs ht hvm hw_3 hB hz1 hk1 hS => ?_)
    obtain ⟨h1_4, h2_5, h3_6, hP1, hK1, hD1⟩ := hB
    rw [ht] at hP1
    obtain ⟨hP, hD⟩ := va_join (wr := [(rd, .inr (7, [.ref rd_tape, .int 0, .int 0, .int (-1), .ref dr, .ref rd_names, .ref rd_nameKind, .ref rd_nameNumber, .int 0, .ref rd_knotNames, .int 0, .int 0, .int 0, .int 0, .long 0]))]) (w1 := [(dr, .inr (0, [.int 0, .ref dr_tail, .ref dr_head, .ref dr_hinder, .ref dr_size, .ref dr_walk, .ref dr_draught, .ref dr_doorIn, .ref dr_fanIn, .ref dr_faceIn, .int 0, .int (-1), .ref dg])), (dg, .inr (3, [.int 0, .ref dg_doorBy, .int 0, .ref dg_pairFirst, .ref dg_pairSecond, .int 0, .ref dg_fanPush, .ref dg_fanFall, .ref dg_fanCost, .int 0, .ref dg_faceWay, .ref dg_faceGas, .ref dg_faceNeed])), (dr_doorIn, .inl (kd1, 14, .inl h1_4)), (dr_fanIn, .inl (kd2, 14, .inl h2_5)), (dr_faceIn, .inl (kd3, 14, .inl h3_6))]) hP hD [1, 2, 3, 4, 5] [0] rfl rfl (by decide) (by decide) hk1 hFc hP1 hD1
    generalize H1 = H at hP hS ⊢
    have hP : va_P (dC, dI) classes [(rd, .inr (7, [.ref rd_tape, .int 0, .int 0, .int (-1), .ref dr, .ref rd_names, .ref rd_nameKind, .ref rd_nameNumber, .int 0, .ref rd_knotNames, .int 0, .int 0, .int 0, .int 0, .long 0])), (dr, .inr (0, [.int 0, .ref dr_tail, .ref dr_head, .ref dr_hinder, .ref dr_size, .ref dr_walk, .ref dr_draught, .ref dr_doorIn, .ref dr_fanIn, .ref dr_faceIn, .int 0, .int (-1), .ref dg])), (dg, .inr (3, [.int 0, .ref dg_doorBy, .int 0, .ref dg_pairFirst, .ref dg_pairSecond, .int 0, .ref dg_fanPush, .ref dg_fanFall, .ref dg_fanCost, .int 0, .ref dg_faceWay, .ref dg_faceGas, .ref dg_faceNeed])), (dr_doorIn, .inl (kd1, 14, .inl h1_4)), (dr_fanIn, .inl (kd2, 14, .inl h2_5)), (dr_faceIn, .inl (kd3, 14, .inl h3_6))] H := hP
    have hD : va_D A [(rd, .inr (7, [.ref rd_tape, .int 0, .int 0, .int (-1), .ref dr, .ref rd_names, .ref rd_nameKind, .ref rd_nameNumber, .int 0, .ref rd_knotNames, .int 0, .int 0, .int 0, .int 0, .long 0])), (dr, .inr (0, [.int 0, .ref dr_tail, .ref dr_head, .ref dr_hinder, .ref dr_size, .ref dr_walk, .ref dr_draught, .ref dr_doorIn, .ref dr_fanIn, .ref dr_faceIn, .int 0, .int (-1), .ref dg])), (dg, .inr (3, [.int 0, .ref dg_doorBy, .int 0, .ref dg_pairFirst, .ref dg_pairSecond, .int 0, .ref dg_fanPush, .ref dg_fanFall, .ref dg_fanCost, .int 0, .ref dg_faceWay, .ref dg_faceGas, .ref dg_faceNeed])), (dr_doorIn, .inl (kd1, 14, .inl h1_4)), (dr_fanIn, .inl (kd2, 14, .inl h2_5)), (dr_faceIn, .inl (kd3, 14, .inl h3_6))] := hD
    refine lv_aload_n hx hb dX7_readBook_52 rfl (lv_at hl 0 rfl) ?_
    have hPc := hP.sub (ws' := [(rd, .inr (7, [.ref rd_tape, .int 0, .int 0, .int (-1), .ref dr, .ref rd_names, .ref rd_nameKind, .ref rd_nameNumber, .int 0, .ref rd_knotNames, .int 0, .int 0, .int 0, .int 0, .long 0]))]) [0] rfl
    have hDc := hD.sub (ws' := [(rd, .inr (7, [.ref rd_tape, .int 0, .int 0, .int (-1), .ref dr, .ref rd_names, .ref rd_nameKind, .ref rd_nameNumber, .int 0, .ref rd_knotNames, .int 0, .int 0, .int 0, .int 0, .long 0]))]) [0] (by decide) rfl
    have hKc := hK.sub (tys' := []) [] rfl
    have hFc := va_free (wc := [(rd, .inr (7, [.ref rd_tape, .int 0, .int 0, .int (-1), .ref dr, .ref rd_names, .ref rd_nameKind, .ref rd_nameNumber, .int 0, .ref rd_knotNames, .int 0, .int 0, .int 0, .int 0, .long 0]))]) hD hS hA [0] rfl
    refine va_callv (va_runV (As := []) (rest := []) ⟨hx, hb, hml, hown, hts⟩ (c_next0 l dC dI n0 H.size rd rd_tape dr rd_names rd_nameKind rd_nameNumber rd_knotNames ) (cwV 0 hts (gV (fun w h => wM_c h) wd_735 wd_732 wd_734 wd_1 wd_117) rfl rfl rfl (by decide +kernel) ⟨Nat.le_of_ble_eq_true rfl, Nat.le_of_ble_eq_true rfl⟩) ⟨fun a U g mk q => by obtain ⟨q0, q1, q2, qG, qP, qK, qD⟩ := q; exact ⟨q0, q1, q2, GW.blind qG, qP, va_K.moved (u := U) (U := U.calling g mk a) (Vm.Alike.refl U.vm) qK, qD⟩, va_recv hKc hPc (ci := 7) (q0 := 0) rfl rfl, fun U hU hW => ⟨rfl, by rw [hU], Nat.le_trans hn0 hS.1, GW.go hW hU hG (fun q hq hA9 => hS.2.1 q hq (fun h => hA9 (hA0 q h))), by rw [hU]; exact hPc, va_K.moved hW.alike hKc, hDc.weaken (fun _ _ _ h => hA0 _ h)⟩⟩ rfl rfl hl.1 rfl (lv_room (Nat.le_of_ble_eq_true rfl)) dX7_readBook_53 ⟨Nat.le_of_ble_eq_true rfl, Nat.le_of_ble_eq_true rfl⟩) hS (fun q _ h => hFc q h) hFc (fun u t H1 locs ht hvm hw_8 hB hz1 hk1 hS => ?_)
    obtain ⟨hP1, hK1, hD1⟩ := hB
    rw [ht] at hP1
    obtain ⟨hP, hD⟩ := va_join (wr := [(dr, .inr (0, [.int 0, .ref dr_tail, .ref dr_head, .ref dr_hinder, .ref dr_size, .ref dr_walk, .ref dr_draught, .ref dr_doorIn, .ref dr_fanIn, .ref dr_faceIn, .int 0, .int (-1), .ref dg])), (dg, .inr (3, [.int 0, .ref dg_doorBy, .int 0, .ref dg_pairFirst, .ref dg_pairSecond, .int 0, .ref dg_fanPush, .ref dg_fanFall, .ref dg_fanCost, .int 0, .ref dg_faceWay, .ref dg_faceGas, .ref dg_faceNeed])), (dr_doorIn, .inl (kd1, 14, .inl h1_4)), (dr_fanIn, .inl (kd2, 14, .inl h2_5)), (dr_faceIn, .inl (kd3, 14, .inl h3_6))]) (w1 := [(rd, .inr (7, [.ref rd_tape, .int 0, .int 0, .int (-1), .ref dr, .ref rd_names, .ref rd_nameKind, .ref rd_nameNumber, .int 0, .ref rd_knotNames, .int 0, .int 0, .int 0, .int 0, .long 0]))]) hP hD [0] [1, 2, 3, 4, 5] rfl rfl (by decide) (by decide) hk1 hFc hP1 hD1
    generalize H1 = H at hP hS ⊢
    have hP : va_P (dC, dI) classes [(dr, .inr (0, [.int 0, .ref dr_tail, .ref dr_head, .ref dr_hinder, .ref dr_size, .ref dr_walk, .ref dr_draught, .ref dr_doorIn, .ref dr_fanIn, .ref dr_faceIn, .int 0, .int (-1), .ref dg])), (dg, .inr (3, [.int 0, .ref dg_doorBy, .int 0, .ref dg_pairFirst, .ref dg_pairSecond, .int 0, .ref dg_fanPush, .ref dg_fanFall, .ref dg_fanCost, .int 0, .ref dg_faceWay, .ref dg_faceGas, .ref dg_faceNeed])), (dr_doorIn, .inl (kd1, 14, .inl h1_4)), (dr_fanIn, .inl (kd2, 14, .inl h2_5)), (dr_faceIn, .inl (kd3, 14, .inl h3_6)), (rd, .inr (7, [.ref rd_tape, .int 0, .int 0, .int (-1), .ref dr, .ref rd_names, .ref rd_nameKind, .ref rd_nameNumber, .int 0, .ref rd_knotNames, .int 0, .int 0, .int 0, .int 0, .long 0]))] H := hP
    have hD : va_D A [(dr, .inr (0, [.int 0, .ref dr_tail, .ref dr_head, .ref dr_hinder, .ref dr_size, .ref dr_walk, .ref dr_draught, .ref dr_doorIn, .ref dr_fanIn, .ref dr_faceIn, .int 0, .int (-1), .ref dg])), (dg, .inr (3, [.int 0, .ref dg_doorBy, .int 0, .ref dg_pairFirst, .ref dg_pairSecond, .int 0, .ref dg_fanPush, .ref dg_fanFall, .ref dg_fanCost, .int 0, .ref dg_faceWay, .ref dg_faceGas, .ref dg_faceNeed])), (dr_doorIn, .inl (kd1, 14, .inl h1_4)), (dr_fanIn, .inl (kd2, 14, .inl h2_5)), (dr_faceIn, .inl (kd3, 14, .inl h3_6)), (rd, .inr (7, [.ref rd_tape, .int 0, .int 0, .int (-1), .ref dr, .ref rd_names, .ref rd_nameKind, .ref rd_nameNumber, .int 0, .ref rd_knotNames, .int 0, .int 0, .int 0, .int 0, .long 0]))] := hD
    refine lv_iconst (v := 0) hx hb dX7_readBook_56 (by decide) ?_
    refine lv_istore_n (lv' := [(2, .int 0), (0, .ref rd), (1, .int n)]) hx hb dX7_readBook_57 rfl hl (by decide) rfl (fun ls hl => ?_)
    refine lv_iload_n hx hb dX7_readBook_58 rfl (lv_at hl 0 rfl) ?_
    refine lv_sipush (v := 600) hx hb dX7_readBook_59 (by decide) ?_
    refine lv_icmp_gt (tgt := 193) hx hb dX7_readBook_62 (by decide) (fun c_9 => ?_) (fun c_9 => ?_)
    · exact absurd c_9 (by decide)
    refine lv_aload_n hx hb dX7_readBook_65 rfl (lv_at hl 1 rfl) ?_
    obtain ⟨tx_10, ht_11⟩ := hG.t (own := "MineAir$Reader") (k := 59) (t := "way") (by decide +kernel)
    refine va_ldcS hx hb hown ht_11 dX7_readBook_66 ?_
    have hPc := hP.sub (ws' := [(rd, .inr (7, [.ref rd_tape, .int 0, .int 0, .int (-1), .ref dr, .ref rd_names, .ref rd_nameKind, .ref rd_nameNumber, .int 0, .ref rd_knotNames, .int 0, .int 0, .int 0, .int 0, .long 0]))]) [5] rfl
    have hDc := hD.sub (ws' := [(rd, .inr (7, [.ref rd_tape, .int 0, .int 0, .int (-1), .ref dr, .ref rd_names, .ref rd_nameKind, .ref rd_nameNumber, .int 0, .ref rd_knotNames, .int 0, .int 0, .int 0, .int 0, .long 0]))]) [5] (by decide) rfl
    have hKc := hK.sub (tys' := []) [] rfl
    have hFc := va_free (wc := [(rd, .inr (7, [.ref rd_tape, .int 0, .int 0, .int (-1), .ref dr, .ref rd_names, .ref rd_nameKind, .ref rd_nameNumber, .int 0, .ref rd_knotNames, .int 0, .int 0, .int 0, .int 0, .long 0]))]) hD hS hA [5] rfl
    refine va_calli (va_runV (As := [.ref tx_10]) (rest := []) ⟨hx, hb, hml, hown, hts⟩ (c_takeWord0 l dC dI n0 H.size rd rd_tape dr rd_names rd_nameKind rd_nameNumber rd_knotNames tx_10 ) (cwV 1 hts (gV (fun w h => wM_c h) wd_756 wd_753 wd_755 wd_4 wd_117) rfl rfl rfl (by decide +kernel) ⟨Nat.le_of_ble_eq_true rfl, Nat.le_of_ble_eq_true rfl⟩) ⟨fun a U g mk q => by obtain ⟨q0, q1, q2, qG, qP, qK, qD⟩ := q; exact ⟨q0, q1, q2, GW.blind qG, qP, va_K.moved (u := U) (U := U.calling g mk a) (Vm.Alike.refl U.vm) qK, qD⟩, va_recv hKc hPc (ci := 7) (q0 := 0) rfl rfl, fun U hU hW => ⟨rfl, by rw [hU], Nat.le_trans hn0 hS.1, GW.go hW hU hG (fun q hq hA9 => hS.2.1 q hq (fun h => hA9 (hA0 q h))), by rw [hU]; exact hPc, va_K.moved hW.alike hKc, hDc.weaken (fun _ _ _ h => hA0 _ h)⟩⟩ rfl rfl hl.1 rfl (lv_room (Nat.le_of_ble_eq_true rfl)) dX7_readBook_68 ⟨Nat.le_of_ble_eq_true rfl, Nat.le_of_ble_eq_true rfl⟩) hS (fun q _ h => hFc q h) hFc (fun r_12 u t H1 locs ht hvm hw_13 hB hz1 hk1 hS => ?_)
    obtain ⟨hP1, hK1, hD1⟩ := hB
    rw [ht] at hP1
    obtain ⟨hP, hD⟩ := va_join (wr := [(dr, .inr (0, [.int 0, .ref dr_tail, .ref dr_head, .ref dr_hinder, .ref dr_size, .ref dr_walk, .ref dr_draught, .ref dr_doorIn, .ref dr_fanIn, .ref dr_faceIn, .int 0, .int (-1), .ref dg])), (dg, .inr (3, [.int 0, .ref dg_doorBy, .int 0, .ref dg_pairFirst, .ref dg_pairSecond, .int 0, .ref dg_fanPush, .ref dg_fanFall, .ref dg_fanCost, .int 0, .ref dg_faceWay, .ref dg_faceGas, .ref dg_faceNeed])), (dr_doorIn, .inl (kd1, 14, .inl h1_4)), (dr_fanIn, .inl (kd2, 14, .inl h2_5)), (dr_faceIn, .inl (kd3, 14, .inl h3_6))]) (w1 := [(rd, .inr (7, [.ref rd_tape, .int 0, .int 0, .int (-1), .ref dr, .ref rd_names, .ref rd_nameKind, .ref rd_nameNumber, .int 0, .ref rd_knotNames, .int 0, .int 0, .int 0, .int 0, .long 0]))]) hP hD [5] [0, 1, 2, 3, 4] rfl rfl (by decide) (by decide) hk1 hFc hP1 hD1
    generalize H1 = H at hP hS ⊢
    have hP : va_P (dC, dI) classes [(dr, .inr (0, [.int 0, .ref dr_tail, .ref dr_head, .ref dr_hinder, .ref dr_size, .ref dr_walk, .ref dr_draught, .ref dr_doorIn, .ref dr_fanIn, .ref dr_faceIn, .int 0, .int (-1), .ref dg])), (dg, .inr (3, [.int 0, .ref dg_doorBy, .int 0, .ref dg_pairFirst, .ref dg_pairSecond, .int 0, .ref dg_fanPush, .ref dg_fanFall, .ref dg_fanCost, .int 0, .ref dg_faceWay, .ref dg_faceGas, .ref dg_faceNeed])), (dr_doorIn, .inl (kd1, 14, .inl h1_4)), (dr_fanIn, .inl (kd2, 14, .inl h2_5)), (dr_faceIn, .inl (kd3, 14, .inl h3_6)), (rd, .inr (7, [.ref rd_tape, .int 0, .int 0, .int (-1), .ref dr, .ref rd_names, .ref rd_nameKind, .ref rd_nameNumber, .int 0, .ref rd_knotNames, .int 0, .int 0, .int 0, .int 0, .long 0]))] H := hP
    have hD : va_D A [(dr, .inr (0, [.int 0, .ref dr_tail, .ref dr_head, .ref dr_hinder, .ref dr_size, .ref dr_walk, .ref dr_draught, .ref dr_doorIn, .ref dr_fanIn, .ref dr_faceIn, .int 0, .int (-1), .ref dg])), (dg, .inr (3, [.int 0, .ref dg_doorBy, .int 0, .ref dg_pairFirst, .ref dg_pairSecond, .int 0, .ref dg_fanPush, .ref dg_fanFall, .ref dg_fanCost, .int 0, .ref dg_faceWay, .ref dg_faceGas, .ref dg_faceNeed])), (dr_doorIn, .inl (kd1, 14, .inl h1_4)), (dr_fanIn, .inl (kd2, 14, .inl h2_5)), (dr_faceIn, .inl (kd3, 14, .inl h3_6)), (rd, .inr (7, [.ref rd_tape, .int 0, .int 0, .int (-1), .ref dr, .ref rd_names, .ref rd_nameKind, .ref rd_nameNumber, .int 0, .ref rd_knotNames, .int 0, .int 0, .int 0, .int 0, .long 0]))] := hD
    obtain rfl : r_12 = 0 := hw_13
    refine lv_if_eq (tgt := 81) hx hb dX7_readBook_71 (by decide) (fun c_14 => ?_) (fun c_14 => ?_)
    · skip
      refine lv_aload_n hx hb dX7_readBook_81 rfl (lv_at hl 1 rfl) ?_
      obtain ⟨tx_15, ht_16⟩ := hG.t (own := "MineAir$Reader") (k := 68) (t := "door") (by decide +kernel)
      refine va_ldcS hx hb hown ht_16 dX7_readBook_82 ?_
      have hPc := hP.sub (ws' := [(rd, .inr (7, [.ref rd_tape, .int 0, .int 0, .int (-1), .ref dr, .ref rd_names, .ref rd_nameKind, .ref rd_nameNumber, .int 0, .ref rd_knotNames, .int 0, .int 0, .int 0, .int 0, .long 0]))]) [5] rfl
      have hDc := hD.sub (ws' := [(rd, .inr (7, [.ref rd_tape, .int 0, .int 0, .int (-1), .ref dr, .ref rd_names, .ref rd_nameKind, .ref rd_nameNumber, .int 0, .ref rd_knotNames, .int 0, .int 0, .int 0, .int 0, .long 0]))]) [5] (by decide) rfl
      have hKc := hK.sub (tys' := []) [] rfl
      have hFc := va_free (wc := [(rd, .inr (7, [.ref rd_tape, .int 0, .int 0, .int (-1), .ref dr, .ref rd_names, .ref rd_nameKind, .ref rd_nameNumber, .int 0, .ref rd_knotNames, .int 0, .int 0, .int 0, .int 0, .long 0]))]) hD hS hA [5] rfl
      refine va_calli (va_runV (As := [.ref tx_15]) (rest := []) ⟨hx, hb, hml, hown, hts⟩ (c_takeWord0 l dC dI n0 H.size rd rd_tape dr rd_names rd_nameKind rd_nameNumber rd_knotNames tx_15 ) (cwV 1 hts (gV (fun w h => wM_c h) wd_756 wd_753 wd_755 wd_4 wd_117) rfl rfl rfl (by decide +kernel) ⟨Nat.le_of_ble_eq_true rfl, Nat.le_of_ble_eq_true rfl⟩) ⟨fun a U g mk q => by obtain ⟨q0, q1, q2, qG, qP, qK, qD⟩ := q; exact ⟨q0, q1, q2, GW.blind qG, qP, va_K.moved (u := U) (U := U.calling g mk a) (Vm.Alike.refl U.vm) qK, qD⟩, va_recv hKc hPc (ci := 7) (q0 := 0) rfl rfl, fun U hU hW => ⟨rfl, by rw [hU], Nat.le_trans hn0 hS.1, GW.go hW hU hG (fun q hq hA9 => hS.2.1 q hq (fun h => hA9 (hA0 q h))), by rw [hU]; exact hPc, va_K.moved hW.alike hKc, hDc.weaken (fun _ _ _ h => hA0 _ h)⟩⟩ rfl rfl hl.1 rfl (lv_room (Nat.le_of_ble_eq_true rfl)) dX7_readBook_84 ⟨Nat.le_of_ble_eq_true rfl, Nat.le_of_ble_eq_true rfl⟩) hS (fun q _ h => hFc q h) hFc (fun r_17 u t H1 locs ht hvm hw_18 hB hz1 hk1 hS => ?_)
      obtain ⟨hP1, hK1, hD1⟩ := hB
      rw [ht] at hP1
      obtain ⟨hP, hD⟩ := va_join (wr := [(dr, .inr (0, [.int 0, .ref dr_tail, .ref dr_head, .ref dr_hinder, .ref dr_size, .ref dr_walk, .ref dr_draught, .ref dr_doorIn, .ref dr_fanIn, .ref dr_faceIn, .int 0, .int (-1), .ref dg])), (dg, .inr (3, [.int 0, .ref dg_doorBy, .int 0, .ref dg_pairFirst, .ref dg_pairSecond, .int 0, .ref dg_fanPush, .ref dg_fanFall, .ref dg_fanCost, .int 0, .ref dg_faceWay, .ref dg_faceGas, .ref dg_faceNeed])), (dr_doorIn, .inl (kd1, 14, .inl h1_4)), (dr_fanIn, .inl (kd2, 14, .inl h2_5)), (dr_faceIn, .inl (kd3, 14, .inl h3_6))]) (w1 := [(rd, .inr (7, [.ref rd_tape, .int 0, .int 0, .int (-1), .ref dr, .ref rd_names, .ref rd_nameKind, .ref rd_nameNumber, .int 0, .ref rd_knotNames, .int 0, .int 0, .int 0, .int 0, .long 0]))]) hP hD [5] [0, 1, 2, 3, 4] rfl rfl (by decide) (by decide) hk1 hFc hP1 hD1
      generalize H1 = H at hP hS ⊢
      have hP : va_P (dC, dI) classes [(dr, .inr (0, [.int 0, .ref dr_tail, .ref dr_head, .ref dr_hinder, .ref dr_size, .ref dr_walk, .ref dr_draught, .ref dr_doorIn, .ref dr_fanIn, .ref dr_faceIn, .int 0, .int (-1), .ref dg])), (dg, .inr (3, [.int 0, .ref dg_doorBy, .int 0, .ref dg_pairFirst, .ref dg_pairSecond, .int 0, .ref dg_fanPush, .ref dg_fanFall, .ref dg_fanCost, .int 0, .ref dg_faceWay, .ref dg_faceGas, .ref dg_faceNeed])), (dr_doorIn, .inl (kd1, 14, .inl h1_4)), (dr_fanIn, .inl (kd2, 14, .inl h2_5)), (dr_faceIn, .inl (kd3, 14, .inl h3_6)), (rd, .inr (7, [.ref rd_tape, .int 0, .int 0, .int (-1), .ref dr, .ref rd_names, .ref rd_nameKind, .ref rd_nameNumber, .int 0, .ref rd_knotNames, .int 0, .int 0, .int 0, .int 0, .long 0]))] H := hP
      have hD : va_D A [(dr, .inr (0, [.int 0, .ref dr_tail, .ref dr_head, .ref dr_hinder, .ref dr_size, .ref dr_walk, .ref dr_draught, .ref dr_doorIn, .ref dr_fanIn, .ref dr_faceIn, .int 0, .int (-1), .ref dg])), (dg, .inr (3, [.int 0, .ref dg_doorBy, .int 0, .ref dg_pairFirst, .ref dg_pairSecond, .int 0, .ref dg_fanPush, .ref dg_fanFall, .ref dg_fanCost, .int 0, .ref dg_faceWay, .ref dg_faceGas, .ref dg_faceNeed])), (dr_doorIn, .inl (kd1, 14, .inl h1_4)), (dr_fanIn, .inl (kd2, 14, .inl h2_5)), (dr_faceIn, .inl (kd3, 14, .inl h3_6)), (rd, .inr (7, [.ref rd_tape, .int 0, .int 0, .int (-1), .ref dr, .ref rd_names, .ref rd_nameKind, .ref rd_nameNumber, .int 0, .ref rd_knotNames, .int 0, .int 0, .int 0, .int 0, .long 0]))] := hD
      obtain rfl : r_17 = 0 := hw_18
      refine lv_if_eq (tgt := 97) hx hb dX7_readBook_87 (by decide) (fun c_19 => ?_) (fun c_19 => ?_)
      · skip
        refine lv_aload_n hx hb dX7_readBook_97 rfl (lv_at hl 1 rfl) ?_
        obtain ⟨tx_20, ht_21⟩ := hG.t (own := "MineAir$Reader") (k := 73) (t := "pair") (by decide +kernel)
        refine va_ldcS hx hb hown ht_21 dX7_readBook_98 ?_
        have hPc := hP.sub (ws' := [(rd, .inr (7, [.ref rd_tape, .int 0, .int 0, .int (-1), .ref dr, .ref rd_names, .ref rd_nameKind, .ref rd_nameNumber, .int 0, .ref rd_knotNames, .int 0, .int 0, .int 0, .int 0, .long 0]))]) [5] rfl
        have hDc := hD.sub (ws' := [(rd, .inr (7, [.ref rd_tape, .int 0, .int 0, .int (-1), .ref dr, .ref rd_names, .ref rd_nameKind, .ref rd_nameNumber, .int 0, .ref rd_knotNames, .int 0, .int 0, .int 0, .int 0, .long 0]))]) [5] (by decide) rfl
        have hKc := hK.sub (tys' := []) [] rfl
        have hFc := va_free (wc := [(rd, .inr (7, [.ref rd_tape, .int 0, .int 0, .int (-1), .ref dr, .ref rd_names, .ref rd_nameKind, .ref rd_nameNumber, .int 0, .ref rd_knotNames, .int 0, .int 0, .int 0, .int 0, .long 0]))]) hD hS hA [5] rfl
        refine va_calli (va_runV (As := [.ref tx_20]) (rest := []) ⟨hx, hb, hml, hown, hts⟩ (c_takeWord0 l dC dI n0 H.size rd rd_tape dr rd_names rd_nameKind rd_nameNumber rd_knotNames tx_20 ) (cwV 1 hts (gV (fun w h => wM_c h) wd_756 wd_753 wd_755 wd_4 wd_117) rfl rfl rfl (by decide +kernel) ⟨Nat.le_of_ble_eq_true rfl, Nat.le_of_ble_eq_true rfl⟩) ⟨fun a U g mk q => by obtain ⟨q0, q1, q2, qG, qP, qK, qD⟩ := q; exact ⟨q0, q1, q2, GW.blind qG, qP, va_K.moved (u := U) (U := U.calling g mk a) (Vm.Alike.refl U.vm) qK, qD⟩, va_recv hKc hPc (ci := 7) (q0 := 0) rfl rfl, fun U hU hW => ⟨rfl, by rw [hU], Nat.le_trans hn0 hS.1, GW.go hW hU hG (fun q hq hA9 => hS.2.1 q hq (fun h => hA9 (hA0 q h))), by rw [hU]; exact hPc, va_K.moved hW.alike hKc, hDc.weaken (fun _ _ _ h => hA0 _ h)⟩⟩ rfl rfl hl.1 rfl (lv_room (Nat.le_of_ble_eq_true rfl)) dX7_readBook_100 ⟨Nat.le_of_ble_eq_true rfl, Nat.le_of_ble_eq_true rfl⟩) hS (fun q _ h => hFc q h) hFc (fun r_22 u t H1 locs ht hvm hw_23 hB hz1 hk1 hS => ?_)
        obtain ⟨hP1, hK1, hD1⟩ := hB
        rw [ht] at hP1
        obtain ⟨hP, hD⟩ := va_join (wr := [(dr, .inr (0, [.int 0, .ref dr_tail, .ref dr_head, .ref dr_hinder, .ref dr_size, .ref dr_walk, .ref dr_draught, .ref dr_doorIn, .ref dr_fanIn, .ref dr_faceIn, .int 0, .int (-1), .ref dg])), (dg, .inr (3, [.int 0, .ref dg_doorBy, .int 0, .ref dg_pairFirst, .ref dg_pairSecond, .int 0, .ref dg_fanPush, .ref dg_fanFall, .ref dg_fanCost, .int 0, .ref dg_faceWay, .ref dg_faceGas, .ref dg_faceNeed])), (dr_doorIn, .inl (kd1, 14, .inl h1_4)), (dr_fanIn, .inl (kd2, 14, .inl h2_5)), (dr_faceIn, .inl (kd3, 14, .inl h3_6))]) (w1 := [(rd, .inr (7, [.ref rd_tape, .int 0, .int 0, .int (-1), .ref dr, .ref rd_names, .ref rd_nameKind, .ref rd_nameNumber, .int 0, .ref rd_knotNames, .int 0, .int 0, .int 0, .int 0, .long 0]))]) hP hD [5] [0, 1, 2, 3, 4] rfl rfl (by decide) (by decide) hk1 hFc hP1 hD1
        generalize H1 = H at hP hS ⊢
        have hP : va_P (dC, dI) classes [(dr, .inr (0, [.int 0, .ref dr_tail, .ref dr_head, .ref dr_hinder, .ref dr_size, .ref dr_walk, .ref dr_draught, .ref dr_doorIn, .ref dr_fanIn, .ref dr_faceIn, .int 0, .int (-1), .ref dg])), (dg, .inr (3, [.int 0, .ref dg_doorBy, .int 0, .ref dg_pairFirst, .ref dg_pairSecond, .int 0, .ref dg_fanPush, .ref dg_fanFall, .ref dg_fanCost, .int 0, .ref dg_faceWay, .ref dg_faceGas, .ref dg_faceNeed])), (dr_doorIn, .inl (kd1, 14, .inl h1_4)), (dr_fanIn, .inl (kd2, 14, .inl h2_5)), (dr_faceIn, .inl (kd3, 14, .inl h3_6)), (rd, .inr (7, [.ref rd_tape, .int 0, .int 0, .int (-1), .ref dr, .ref rd_names, .ref rd_nameKind, .ref rd_nameNumber, .int 0, .ref rd_knotNames, .int 0, .int 0, .int 0, .int 0, .long 0]))] H := hP
        have hD : va_D A [(dr, .inr (0, [.int 0, .ref dr_tail, .ref dr_head, .ref dr_hinder, .ref dr_size, .ref dr_walk, .ref dr_draught, .ref dr_doorIn, .ref dr_fanIn, .ref dr_faceIn, .int 0, .int (-1), .ref dg])), (dg, .inr (3, [.int 0, .ref dg_doorBy, .int 0, .ref dg_pairFirst, .ref dg_pairSecond, .int 0, .ref dg_fanPush, .ref dg_fanFall, .ref dg_fanCost, .int 0, .ref dg_faceWay, .ref dg_faceGas, .ref dg_faceNeed])), (dr_doorIn, .inl (kd1, 14, .inl h1_4)), (dr_fanIn, .inl (kd2, 14, .inl h2_5)), (dr_faceIn, .inl (kd3, 14, .inl h3_6)), (rd, .inr (7, [.ref rd_tape, .int 0, .int 0, .int (-1), .ref dr, .ref rd_names, .ref rd_nameKind, .ref rd_nameNumber, .int 0, .ref rd_knotNames, .int 0, .int 0, .int 0, .int 0, .long 0]))] := hD
        obtain rfl : r_22 = 0 := hw_23
        refine lv_if_eq (tgt := 113) hx hb dX7_readBook_103 (by decide) (fun c_24 => ?_) (fun c_24 => ?_)
        · skip
          refine lv_aload_n hx hb dX7_readBook_113 rfl (lv_at hl 1 rfl) ?_
          obtain ⟨tx_25, ht_26⟩ := hG.t (own := "MineAir$Reader") (k := 78) (t := "fan") (by decide +kernel)
          refine va_ldcS hx hb hown ht_26 dX7_readBook_114 ?_
          have hPc := hP.sub (ws' := [(rd, .inr (7, [.ref rd_tape, .int 0, .int 0, .int (-1), .ref dr, .ref rd_names, .ref rd_nameKind, .ref rd_nameNumber, .int 0, .ref rd_knotNames, .int 0, .int 0, .int 0, .int 0, .long 0]))]) [5] rfl
          have hDc := hD.sub (ws' := [(rd, .inr (7, [.ref rd_tape, .int 0, .int 0, .int (-1), .ref dr, .ref rd_names, .ref rd_nameKind, .ref rd_nameNumber, .int 0, .ref rd_knotNames, .int 0, .int 0, .int 0, .int 0, .long 0]))]) [5] (by decide) rfl
          have hKc := hK.sub (tys' := []) [] rfl
          have hFc := va_free (wc := [(rd, .inr (7, [.ref rd_tape, .int 0, .int 0, .int (-1), .ref dr, .ref rd_names, .ref rd_nameKind, .ref rd_nameNumber, .int 0, .ref rd_knotNames, .int 0, .int 0, .int 0, .int 0, .long 0]))]) hD hS hA [5] rfl
          refine va_calli (va_runV (As := [.ref tx_25]) (rest := []) ⟨hx, hb, hml, hown, hts⟩ (c_takeWord0 l dC dI n0 H.size rd rd_tape dr rd_names rd_nameKind rd_nameNumber rd_knotNames tx_25 ) (cwV 1 hts (gV (fun w h => wM_c h) wd_756 wd_753 wd_755 wd_4 wd_117) rfl rfl rfl (by decide +kernel) ⟨Nat.le_of_ble_eq_true rfl, Nat.le_of_ble_eq_true rfl⟩) ⟨fun a U g mk q => by obtain ⟨q0, q1, q2, qG, qP, qK, qD⟩ := q; exact ⟨q0, q1, q2, GW.blind qG, qP, va_K.moved (u := U) (U := U.calling g mk a) (Vm.Alike.refl U.vm) qK, qD⟩, va_recv hKc hPc (ci := 7) (q0 := 0) rfl rfl, fun U hU hW => ⟨rfl, by rw [hU], Nat.le_trans hn0 hS.1, GW.go hW hU hG (fun q hq hA9 => hS.2.1 q hq (fun h => hA9 (hA0 q h))), by rw [hU]; exact hPc, va_K.moved hW.alike hKc, hDc.weaken (fun _ _ _ h => hA0 _ h)⟩⟩ rfl rfl hl.1 rfl (lv_room (Nat.le_of_ble_eq_true rfl)) dX7_readBook_116 ⟨Nat.le_of_ble_eq_true rfl, Nat.le_of_ble_eq_true rfl⟩) hS (fun q _ h => hFc q h) hFc (fun r_27 u t H1 locs ht hvm hw_28 hB hz1 hk1 hS => ?_)
          obtain ⟨hP1, hK1, hD1⟩ := hB
          rw [ht] at hP1
          obtain ⟨hP, hD⟩ := va_join (wr := [(dr, .inr (0, [.int 0, .ref dr_tail, .ref dr_head, .ref dr_hinder, .ref dr_size, .ref dr_walk, .ref dr_draught, .ref dr_doorIn, .ref dr_fanIn, .ref dr_faceIn, .int 0, .int (-1), .ref dg])), (dg, .inr (3, [.int 0, .ref dg_doorBy, .int 0, .ref dg_pairFirst, .ref dg_pairSecond, .int 0, .ref dg_fanPush, .ref dg_fanFall, .ref dg_fanCost, .int 0, .ref dg_faceWay, .ref dg_faceGas, .ref dg_faceNeed])), (dr_doorIn, .inl (kd1, 14, .inl h1_4)), (dr_fanIn, .inl (kd2, 14, .inl h2_5)), (dr_faceIn, .inl (kd3, 14, .inl h3_6))]) (w1 := [(rd, .inr (7, [.ref rd_tape, .int 0, .int 0, .int (-1), .ref dr, .ref rd_names, .ref rd_nameKind, .ref rd_nameNumber, .int 0, .ref rd_knotNames, .int 0, .int 0, .int 0, .int 0, .long 0]))]) hP hD [5] [0, 1, 2, 3, 4] rfl rfl (by decide) (by decide) hk1 hFc hP1 hD1
          generalize H1 = H at hP hS ⊢
          have hP : va_P (dC, dI) classes [(dr, .inr (0, [.int 0, .ref dr_tail, .ref dr_head, .ref dr_hinder, .ref dr_size, .ref dr_walk, .ref dr_draught, .ref dr_doorIn, .ref dr_fanIn, .ref dr_faceIn, .int 0, .int (-1), .ref dg])), (dg, .inr (3, [.int 0, .ref dg_doorBy, .int 0, .ref dg_pairFirst, .ref dg_pairSecond, .int 0, .ref dg_fanPush, .ref dg_fanFall, .ref dg_fanCost, .int 0, .ref dg_faceWay, .ref dg_faceGas, .ref dg_faceNeed])), (dr_doorIn, .inl (kd1, 14, .inl h1_4)), (dr_fanIn, .inl (kd2, 14, .inl h2_5)), (dr_faceIn, .inl (kd3, 14, .inl h3_6)), (rd, .inr (7, [.ref rd_tape, .int 0, .int 0, .int (-1), .ref dr, .ref rd_names, .ref rd_nameKind, .ref rd_nameNumber, .int 0, .ref rd_knotNames, .int 0, .int 0, .int 0, .int 0, .long 0]))] H := hP
          have hD : va_D A [(dr, .inr (0, [.int 0, .ref dr_tail, .ref dr_head, .ref dr_hinder, .ref dr_size, .ref dr_walk, .ref dr_draught, .ref dr_doorIn, .ref dr_fanIn, .ref dr_faceIn, .int 0, .int (-1), .ref dg])), (dg, .inr (3, [.int 0, .ref dg_doorBy, .int 0, .ref dg_pairFirst, .ref dg_pairSecond, .int 0, .ref dg_fanPush, .ref dg_fanFall, .ref dg_fanCost, .int 0, .ref dg_faceWay, .ref dg_faceGas, .ref dg_faceNeed])), (dr_doorIn, .inl (kd1, 14, .inl h1_4)), (dr_fanIn, .inl (kd2, 14, .inl h2_5)), (dr_faceIn, .inl (kd3, 14, .inl h3_6)), (rd, .inr (7, [.ref rd_tape, .int 0, .int 0, .int (-1), .ref dr, .ref rd_names, .ref rd_nameKind, .ref rd_nameNumber, .int 0, .ref rd_knotNames, .int 0, .int 0, .int 0, .int 0, .long 0]))] := hD
          obtain rfl : r_27 = 0 := hw_28
          refine lv_if_eq (tgt := 129) hx hb dX7_readBook_119 (by decide) (fun c_29 => ?_) (fun c_29 => ?_)
          · skip
            refine lv_aload_n hx hb dX7_readBook_129 rfl (lv_at hl 1 rfl) ?_
            obtain ⟨tx_30, ht_31⟩ := hG.t (own := "MineAir$Reader") (k := 83) (t := "face") (by decide +kernel)
            refine va_ldcS hx hb hown ht_31 dX7_readBook_130 ?_
            have hPc := hP.sub (ws' := [(rd, .inr (7, [.ref rd_tape, .int 0, .int 0, .int (-1), .ref dr, .ref rd_names, .ref rd_nameKind, .ref rd_nameNumber, .int 0, .ref rd_knotNames, .int 0, .int 0, .int 0, .int 0, .long 0]))]) [5] rfl
            have hDc := hD.sub (ws' := [(rd, .inr (7, [.ref rd_tape, .int 0, .int 0, .int (-1), .ref dr, .ref rd_names, .ref rd_nameKind, .ref rd_nameNumber, .int 0, .ref rd_knotNames, .int 0, .int 0, .int 0, .int 0, .long 0]))]) [5] (by decide) rfl
            have hKc := hK.sub (tys' := []) [] rfl
            have hFc := va_free (wc := [(rd, .inr (7, [.ref rd_tape, .int 0, .int 0, .int (-1), .ref dr, .ref rd_names, .ref rd_nameKind, .ref rd_nameNumber, .int 0, .ref rd_knotNames, .int 0, .int 0, .int 0, .int 0, .long 0]))]) hD hS hA [5] rfl
            refine va_calli (va_runV (As := [.ref tx_30]) (rest := []) ⟨hx, hb, hml, hown, hts⟩ (c_takeWord0 l dC dI n0 H.size rd rd_tape dr rd_names rd_nameKind rd_nameNumber rd_knotNames tx_30 ) (cwV 1 hts (gV (fun w h => wM_c h) wd_756 wd_753 wd_755 wd_4 wd_117) rfl rfl rfl (by decide +kernel) ⟨Nat.le_of_ble_eq_true rfl, Nat.le_of_ble_eq_true rfl⟩) ⟨fun a U g mk q => by obtain ⟨q0, q1, q2, qG, qP, qK, qD⟩ := q; exact ⟨q0, q1, q2, GW.blind qG, qP, va_K.moved (u := U) (U := U.calling g mk a) (Vm.Alike.refl U.vm) qK, qD⟩, va_recv hKc hPc (ci := 7) (q0 := 0) rfl rfl, fun U hU hW => ⟨rfl, by rw [hU], Nat.le_trans hn0 hS.1, GW.go hW hU hG (fun q hq hA9 => hS.2.1 q hq (fun h => hA9 (hA0 q h))), by rw [hU]; exact hPc, va_K.moved hW.alike hKc, hDc.weaken (fun _ _ _ h => hA0 _ h)⟩⟩ rfl rfl hl.1 rfl (lv_room (Nat.le_of_ble_eq_true rfl)) dX7_readBook_132 ⟨Nat.le_of_ble_eq_true rfl, Nat.le_of_ble_eq_true rfl⟩) hS (fun q _ h => hFc q h) hFc (fun r_32 u t H1 locs ht hvm hw_33 hB hz1 hk1 hS => ?_)
            obtain ⟨hP1, hK1, hD1⟩ := hB
            rw [ht] at hP1
            obtain ⟨hP, hD⟩ := va_join (wr := [(dr, .inr (0, [.int 0, .ref dr_tail, .ref dr_head, .ref dr_hinder, .ref dr_size, .ref dr_walk, .ref dr_draught, .ref dr_doorIn, .ref dr_fanIn, .ref dr_faceIn, .int 0, .int (-1), .ref dg])), (dg, .inr (3, [.int 0, .ref dg_doorBy, .int 0, .ref dg_pairFirst, .ref dg_pairSecond, .int 0, .ref dg_fanPush, .ref dg_fanFall, .ref dg_fanCost, .int 0, .ref dg_faceWay, .ref dg_faceGas, .ref dg_faceNeed])), (dr_doorIn, .inl (kd1, 14, .inl h1_4)), (dr_fanIn, .inl (kd2, 14, .inl h2_5)), (dr_faceIn, .inl (kd3, 14, .inl h3_6))]) (w1 := [(rd, .inr (7, [.ref rd_tape, .int 0, .int 0, .int (-1), .ref dr, .ref rd_names, .ref rd_nameKind, .ref rd_nameNumber, .int 0, .ref rd_knotNames, .int 0, .int 0, .int 0, .int 0, .long 0]))]) hP hD [5] [0, 1, 2, 3, 4] rfl rfl (by decide) (by decide) hk1 hFc hP1 hD1
            generalize H1 = H at hP hS ⊢
            have hP : va_P (dC, dI) classes [(dr, .inr (0, [.int 0, .ref dr_tail, .ref dr_head, .ref dr_hinder, .ref dr_size, .ref dr_walk, .ref dr_draught, .ref dr_doorIn, .ref dr_fanIn, .ref dr_faceIn, .int 0, .int (-1), .ref dg])), (dg, .inr (3, [.int 0, .ref dg_doorBy, .int 0, .ref dg_pairFirst, .ref dg_pairSecond, .int 0, .ref dg_fanPush, .ref dg_fanFall, .ref dg_fanCost, .int 0, .ref dg_faceWay, .ref dg_faceGas, .ref dg_faceNeed])), (dr_doorIn, .inl (kd1, 14, .inl h1_4)), (dr_fanIn, .inl (kd2, 14, .inl h2_5)), (dr_faceIn, .inl (kd3, 14, .inl h3_6)), (rd, .inr (7, [.ref rd_tape, .int 0, .int 0, .int (-1), .ref dr, .ref rd_names, .ref rd_nameKind, .ref rd_nameNumber, .int 0, .ref rd_knotNames, .int 0, .int 0, .int 0, .int 0, .long 0]))] H := hP
            have hD : va_D A [(dr, .inr (0, [.int 0, .ref dr_tail, .ref dr_head, .ref dr_hinder, .ref dr_size, .ref dr_walk, .ref dr_draught, .ref dr_doorIn, .ref dr_fanIn, .ref dr_faceIn, .int 0, .int (-1), .ref dg])), (dg, .inr (3, [.int 0, .ref dg_doorBy, .int 0, .ref dg_pairFirst, .ref dg_pairSecond, .int 0, .ref dg_fanPush, .ref dg_fanFall, .ref dg_fanCost, .int 0, .ref dg_faceWay, .ref dg_faceGas, .ref dg_faceNeed])), (dr_doorIn, .inl (kd1, 14, .inl h1_4)), (dr_fanIn, .inl (kd2, 14, .inl h2_5)), (dr_faceIn, .inl (kd3, 14, .inl h3_6)), (rd, .inr (7, [.ref rd_tape, .int 0, .int 0, .int (-1), .ref dr, .ref rd_names, .ref rd_nameKind, .ref rd_nameNumber, .int 0, .ref rd_knotNames, .int 0, .int 0, .int 0, .int 0, .long 0]))] := hD
            obtain rfl : r_32 = 0 := hw_33
            refine lv_if_eq (tgt := 145) hx hb dX7_readBook_135 (by decide) (fun c_34 => ?_) (fun c_34 => ?_)
            · skip
              refine lv_aload_n hx hb dX7_readBook_145 rfl (lv_at hl 1 rfl) ?_
              refine lv_iconst (v := 1) hx hb dX7_readBook_146 (by decide) ?_
              have hPc := hP.sub (ws' := [(rd, .inr (7, [.ref rd_tape, .int 0, .int 0, .int (-1), .ref dr, .ref rd_names, .ref rd_nameKind, .ref rd_nameNumber, .int 0, .ref rd_knotNames, .int 0, .int 0, .int 0, .int 0, .long 0]))]) [5] rfl
              have hDc := hD.sub (ws' := [(rd, .inr (7, [.ref rd_tape, .int 0, .int 0, .int (-1), .ref dr, .ref rd_names, .ref rd_nameKind, .ref rd_nameNumber, .int 0, .ref rd_knotNames, .int 0, .int 0, .int 0, .int 0, .long 0]))]) [5] (by decide) rfl
              have hKc := hK.sub (tys' := []) [] rfl
              have hFc := va_free (wc := [(rd, .inr (7, [.ref rd_tape, .int 0, .int 0, .int (-1), .ref dr, .ref rd_names, .ref rd_nameKind, .ref rd_nameNumber, .int 0, .ref rd_knotNames, .int 0, .int 0, .int 0, .int 0, .long 0]))]) hD hS hA [5] rfl
              refine va_calli (va_runV (As := [.int 1]) (rest := []) ⟨hx, hb, hml, hown, hts⟩ (c_miss0 l dC dI n0 H.size rd rd_tape dr rd_names rd_nameKind rd_nameNumber rd_knotNames ) (cwV 1 hts (gV (fun w h => wM_c h) wd_831 wd_828 wd_830 wd_9 wd_117) rfl rfl rfl (by decide +kernel) ⟨Nat.le_of_ble_eq_true rfl, Nat.le_of_ble_eq_true rfl⟩) ⟨fun a U g mk q => by obtain ⟨q0, q1, q2, qG, qP, qK, qD⟩ := q; exact ⟨q0, q1, q2, GW.blind qG, qP, va_K.moved (u := U) (U := U.calling g mk a) (Vm.Alike.refl U.vm) qK, qD⟩, va_recv hKc hPc (ci := 7) (q0 := 0) rfl rfl, fun U hU hW => ⟨rfl, by rw [hU], Nat.le_trans hn0 hS.1, GW.go hW hU hG (fun q hq hA9 => hS.2.1 q hq (fun h => hA9 (hA0 q h))), by rw [hU]; exact hPc, va_K.moved hW.alike hKc, hDc.weaken (fun _ _ _ h => hA0 _ h)⟩⟩ rfl rfl hl.1 rfl (lv_room (Nat.le_of_ble_eq_true rfl)) dX7_readBook_147 ⟨Nat.le_of_ble_eq_true rfl, Nat.le_of_ble_eq_true rfl⟩) hS (fun q _ h => hFc q h) hFc (fun r_35 u t H1 locs ht hvm hw_36 hB hz1 hk1 hS => ?_)
              obtain ⟨hP1, hK1, hD1⟩ := hB
              rw [ht] at hP1
              obtain ⟨hP, hD⟩ := va_join (wr := [(dr, .inr (0, [.int 0, .ref dr_tail, .ref dr_head, .ref dr_hinder, .ref dr_size, .ref dr_walk, .ref dr_draught, .ref dr_doorIn, .ref dr_fanIn, .ref dr_faceIn, .int 0, .int (-1), .ref dg])), (dg, .inr (3, [.int 0, .ref dg_doorBy, .int 0, .ref dg_pairFirst, .ref dg_pairSecond, .int 0, .ref dg_fanPush, .ref dg_fanFall, .ref dg_fanCost, .int 0, .ref dg_faceWay, .ref dg_faceGas, .ref dg_faceNeed])), (dr_doorIn, .inl (kd1, 14, .inl h1_4)), (dr_fanIn, .inl (kd2, 14, .inl h2_5)), (dr_faceIn, .inl (kd3, 14, .inl h3_6))]) (w1 := [(rd, .inr (7, [.ref rd_tape, .int 0, .int 1, .int 0, .ref dr, .ref rd_names, .ref rd_nameKind, .ref rd_nameNumber, .int 0, .ref rd_knotNames, .int 0, .int 0, .int 0, .int 0, .long 0]))]) hP hD [5] [0, 1, 2, 3, 4] rfl rfl (by decide) (by decide) hk1 hFc hP1 hD1
              generalize H1 = H at hP hS ⊢
              have hP : va_P (dC, dI) classes [(dr, .inr (0, [.int 0, .ref dr_tail, .ref dr_head, .ref dr_hinder, .ref dr_size, .ref dr_walk, .ref dr_draught, .ref dr_doorIn, .ref dr_fanIn, .ref dr_faceIn, .int 0, .int (-1), .ref dg])), (dg, .inr (3, [.int 0, .ref dg_doorBy, .int 0, .ref dg_pairFirst, .ref dg_pairSecond, .int 0, .ref dg_fanPush, .ref dg_fanFall, .ref dg_fanCost, .int 0, .ref dg_faceWay, .ref dg_faceGas, .ref dg_faceNeed])), (dr_doorIn, .inl (kd1, 14, .inl h1_4)), (dr_fanIn, .inl (kd2, 14, .inl h2_5)), (dr_faceIn, .inl (kd3, 14, .inl h3_6)), (rd, .inr (7, [.ref rd_tape, .int 0, .int 1, .int 0, .ref dr, .ref rd_names, .ref rd_nameKind, .ref rd_nameNumber, .int 0, .ref rd_knotNames, .int 0, .int 0, .int 0, .int 0, .long 0]))] H := hP
              have hD : va_D A [(dr, .inr (0, [.int 0, .ref dr_tail, .ref dr_head, .ref dr_hinder, .ref dr_size, .ref dr_walk, .ref dr_draught, .ref dr_doorIn, .ref dr_fanIn, .ref dr_faceIn, .int 0, .int (-1), .ref dg])), (dg, .inr (3, [.int 0, .ref dg_doorBy, .int 0, .ref dg_pairFirst, .ref dg_pairSecond, .int 0, .ref dg_fanPush, .ref dg_fanFall, .ref dg_fanCost, .int 0, .ref dg_faceWay, .ref dg_faceGas, .ref dg_faceNeed])), (dr_doorIn, .inl (kd1, 14, .inl h1_4)), (dr_fanIn, .inl (kd2, 14, .inl h2_5)), (dr_faceIn, .inl (kd3, 14, .inl h3_6)), (rd, .inr (7, [.ref rd_tape, .int 0, .int 1, .int 0, .ref dr, .ref rd_names, .ref rd_nameKind, .ref rd_nameNumber, .int 0, .ref rd_knotNames, .int 0, .int 0, .int 0, .int 0, .long 0]))] := hD
              obtain rfl : r_35 = 0 := hw_36
              refine lv_pop hx hb dX7_readBook_150 rfl ?_
              refine lv_aload_n hx hb dX7_readBook_151 rfl (lv_at hl 1 rfl) ?_
              refine va_get (D := (dC, dI)) (ci := 7) (v := .int 1) (C := RX7) (T := TX7) (N := 15) hx hb hts (fun w h => wM_c (iX7 w h)) hown hK hP 5 rfl rfl 2 (by decide) (hts _ (wM_c wd_337)) (fun _ h9 => h9) rfl dX7_readBook_152 ?_
              refine lv_if_eq (tgt := 160) hx hb dX7_readBook_155 (by decide) (fun c_37 => ?_) (fun c_37 => ?_)
              · exact absurd c_37 (by decide)
              refine lv_iconst (v := 0) hx hb dX7_readBook_158 (by decide) ?_
              have hP9 := hP.sub (ws' := [(rd, .inr (7, [.ref rd_tape, .int 0, .int 1, .int 0, .ref dr, .ref rd_names, .ref rd_nameKind, .ref rd_nameNumber, .int 0, .ref rd_knotNames, .int 0, .int 0, .int 0, .int 0, .long 0]))]) [5] rfl
              have hD9 := hD.sub (ws' := [(rd, .inr (7, [.ref rd_tape, .int 0, .int 1, .int 0, .ref dr, .ref rd_names, .ref rd_nameKind, .ref rd_nameNumber, .int 0, .ref rd_knotNames, .int 0, .int 0, .int 0, .int 0, .long 0]))]) [5] (by decide) rfl
              have hK9 := hK.sub (tys' := []) [] rfl
              exact W.zret (v := 0) hx hb hr rfl (fun t ht hW => ⟨⟨0, (), rfl, rfl, by rw [ht]; exact hP9, va_K.moved hW.alike hK9, hD9⟩, hS.F ht⟩) hS.2.2 dX7_readBook_159
            · exact absurd c_34 (by decide)
          · exact absurd c_29 (by decide)
        · exact absurd c_24 (by decide)
      · exact absurd c_19 (by decide)
    · exact absurd c_14 (by decide)
  · exact absurd (nl0 hn) c_1
set_option maxHeartbeats 4000000 in
set_option maxRecDepth 100000 in
theorem p_book (l : Launch) (dC : Nat → ClassId) (dI : Nat → Nat → Nat) (n0 sz : Nat) (x0 : Nat) (rd : Nat) (dr : Nat) (bk : Nat) (st : Nat) (nw : Nat) (tr : Nat) (pl : Nat) (fl : Nat) (rg : Nat) (rd_tape : Nat) (rd_names : Nat) (rd_nameKind : Nat) (rd_nameNumber : Nat) (rd_knotNames : Nat) (dr_tail : Nat) (dr_head : Nat) (dr_hinder : Nat) (dr_size : Nat) (dr_walk : Nat) (dr_draught : Nat) (dr_doorIn : Nat) (dr_fanIn : Nat) (dr_faceIn : Nat) (dg : Nat) (dg_doorBy : Nat) (dg_pairFirst : Nat) (dg_pairSecond : Nat) (dg_fanPush : Nat) (dg_fanFall : Nat) (dg_fanCost : Nat) (dg_faceWay : Nat) (dg_faceGas : Nat) (dg_faceNeed : Nat) (kd1 : ClassId) (kd2 : ClassId) (kd3 : ClassId) (g1 : Nat → Int32) (g2 : Nat → Int32) (g3 : Nat → Int32) (n : Int32) : Met l yX11_book (wM yX11_book cX11_book 3 (some .int)) ({ frames := 3, cells := 0, slots := 0, locals := 65 }) (va_Pc [.ref x0, .int n] (fun U => U.heap.size = sz ∧ n0 ≤ sz ∧ GW n0 U ∧ va_P (dC, dI) classes [(x0, .inr (11, [.ref rd, .ref dr, .ref bk, .ref st, .ref nw, .ref tr, .ref pl, .ref fl, .ref rg, .int 0, .int 0, .int 0])), (rd, .inr (7, [.ref rd_tape, .int 0, .int 0, .int 0, .ref dr, .ref rd_names, .ref rd_nameKind, .ref rd_nameNumber, .int 0, .ref rd_knotNames, .int 0, .int 0, .int 0, .int 0, .long 0])), (dr, .inr (0, [.int 0, .ref dr_tail, .ref dr_head, .ref dr_hinder, .ref dr_size, .ref dr_walk, .ref dr_draught, .ref dr_doorIn, .ref dr_fanIn, .ref dr_faceIn, .int 0, .int (-1), .ref dg])), (dg, .inr (3, [.int 0, .ref dg_doorBy, .int 0, .ref dg_pairFirst, .ref dg_pairSecond, .int 0, .ref dg_fanPush, .ref dg_fanFall, .ref dg_fanCost, .int 0, .ref dg_faceWay, .ref dg_faceGas, .ref dg_faceNeed])), (dr_doorIn, .inl (kd1, 14, .inl g1)), (dr_fanIn, .inl (kd2, 14, .inl g2)), (dr_faceIn, .inl (kd3, 14, .inl g3))] U.heap ∧ va_K (dC, dI) classes [(kd1, .int), (kd2, .int), (kd3, .int)] U ∧ va_D (fun q => n0 ≤ q) [(x0, .inr (11, [.ref rd, .ref dr, .ref bk, .ref st, .ref nw, .ref tr, .ref pl, .ref fl, .ref rg, .int 0, .int 0, .int 0])), (rd, .inr (7, [.ref rd_tape, .int 0, .int 0, .int 0, .ref dr, .ref rd_names, .ref rd_nameKind, .ref rd_nameNumber, .int 0, .ref rd_knotNames, .int 0, .int 0, .int 0, .int 0, .long 0])), (dr, .inr (0, [.int 0, .ref dr_tail, .ref dr_head, .ref dr_hinder, .ref dr_size, .ref dr_walk, .ref dr_draught, .ref dr_doorIn, .ref dr_fanIn, .ref dr_faceIn, .int 0, .int (-1), .ref dg])), (dg, .inr (3, [.int 0, .ref dg_doorBy, .int 0, .ref dg_pairFirst, .ref dg_pairSecond, .int 0, .ref dg_fanPush, .ref dg_fanFall, .ref dg_fanCost, .int 0, .ref dg_faceWay, .ref dg_faceGas, .ref dg_faceNeed])), (dr_doorIn, .inl (kd1, 14, .inl g1)), (dr_fanIn, .inl (kd2, 14, .inl g2)), (dr_faceIn, .inl (kd3, 14, .inl g3))])) (va_Qi (fun (r : Int32) (_ : Unit) => r = (-1)) (fun (_ : Unit) (_ : State) => True) (va_A [(x0, .inr (11, [.ref rd, .ref dr, .ref bk, .ref st, .ref nw, .ref tr, .ref pl, .ref fl, .ref rg, .int 0, .int 0, .int 0])), (rd, .inr (7, [.ref rd_tape, .int 0, .int 0, .int 0, .ref dr, .ref rd_names, .ref rd_nameKind, .ref rd_nameNumber, .int 0, .ref rd_knotNames, .int 0, .int 0, .int 0, .int 0, .long 0])), (dr, .inr (0, [.int 0, .ref dr_tail, .ref dr_head, .ref dr_hinder, .ref dr_size, .ref dr_walk, .ref dr_draught, .ref dr_doorIn, .ref dr_fanIn, .ref dr_faceIn, .int 0, .int (-1), .ref dg])), (dg, .inr (3, [.int 0, .ref dg_doorBy, .int 0, .ref dg_pairFirst, .ref dg_pairSecond, .int 0, .ref dg_fanPush, .ref dg_fanFall, .ref dg_fanCost, .int 0, .ref dg_faceWay, .ref dg_faceGas, .ref dg_faceNeed])), (dr_doorIn, .inl (kd1, 14, .inl g1)), (dr_fanIn, .inl (kd2, 14, .inl g2)), (dr_faceIn, .inl (kd3, 14, .inl g3))] sz)) 0 0 (va_A [(x0, .inr (11, [.ref rd, .ref dr, .ref bk, .ref st, .ref nw, .ref tr, .ref pl, .ref fl, .ref rg, .int 0, .int 0, .int 0])), (rd, .inr (7, [.ref rd_tape, .int 0, .int 0, .int 0, .ref dr, .ref rd_names, .ref rd_nameKind, .ref rd_nameNumber, .int 0, .ref rd_knotNames, .int 0, .int 0, .int 0, .int 0, .long 0])), (dr, .inr (0, [.int 0, .ref dr_tail, .ref dr_head, .ref dr_hinder, .ref dr_size, .ref dr_walk, .ref dr_draught, .ref dr_doorIn, .ref dr_fanIn, .ref dr_faceIn, .int 0, .int (-1), .ref dg])), (dg, .inr (3, [.int 0, .ref dg_doorBy, .int 0, .ref dg_pairFirst, .ref dg_pairSecond, .int 0, .ref dg_fanPush, .ref dg_fanFall, .ref dg_fanCost, .int 0, .ref dg_faceWay, .ref dg_faceGas, .ref dg_faceNeed])), (dr_doorIn, .inl (kd1, 14, .inl g1)), (dr_fanIn, .inl (kd2, 14, .inl g2)), (dr_faceIn, .inl (kd3, 14, .inl g3))] sz) := by
  refine Met.ofW (cc := cX11_book) (maxL := 3) (ret := (some .int)) (by decide) rfl ?_
  intro p e s m args below meth c s₁ B hml hv
  obtain ⟨rfl, hsz, hn0, hG, hP, hK, hD0⟩ := hv
  have hx := B.exec
  have hb := B.bytes
  have hr := B.returns
  have hts := atoms_spec (ws := wM yX11_book cX11_book 3 (some .int)) B.pre
  have hown : s.vm.findClass RX11 = some m.cls := findClass_of_methodNamed B.named
  have hlocks := B.notSynchronized
  subst hsz
  have hD := hD0.self (sz := s.heap.size)
  have hA0 := vA_n0 hD0 hn0
  generalize hAe : va_A [(x0, .inr (11, [.ref rd, .ref dr, .ref bk, .ref st, .ref nw, .ref tr, .ref pl, .ref fl, .ref rg, .int 0, .int 0, .int 0])), (rd, .inr (7, [.ref rd_tape, .int 0, .int 0, .int 0, .ref dr, .ref rd_names, .ref rd_nameKind, .ref rd_nameNumber, .int 0, .ref rd_knotNames, .int 0, .int 0, .int 0, .int 0, .long 0])), (dr, .inr (0, [.int 0, .ref dr_tail, .ref dr_head, .ref dr_hinder, .ref dr_size, .ref dr_walk, .ref dr_draught, .ref dr_doorIn, .ref dr_fanIn, .ref dr_faceIn, .int 0, .int (-1), .ref dg])), (dg, .inr (3, [.int 0, .ref dg_doorBy, .int 0, .ref dg_pairFirst, .ref dg_pairSecond, .int 0, .ref dg_fanPush, .ref dg_fanFall, .ref dg_fanCost, .int 0, .ref dg_faceWay, .ref dg_faceGas, .ref dg_faceNeed])), (dr_doorIn, .inl (kd1, 14, .inl g1)), (dr_fanIn, .inl (kd2, 14, .inl g2)), (dr_faceIn, .inl (kd3, 14, .inl g3))] s.heap.size = A at hD hA0 ⊢
  have hA : ∀ q : Nat, s.heap.size ≤ q → A q := fun q h => by rw [← hAe]; exact Or.inr h
  have hS : va_S A s.heap s.heap [] := va_S.rf
  have hl := lv_entry ([.ref x0, .int n]) (n := 3) (Nat.le_of_ble_eq_true rfl)
  rw [lg_entry_eq]
  generalize (lg_sl ([.ref x0, .int n]) ++ List.replicate (3 - (lg_sl ([.ref x0, .int n])).length) Slot.unset).toArray = ls at hl ⊢
  have hl : lv_has ls 3 [(0, .ref x0), (1, .int n)] := hl
  refine lv_iload_n hx hb dX11_book_0 rfl (lv_at hl 1 rfl) ?_
  refine lv_if_lt (tgt := 15) hx hb dX11_book_1 (by decide) (fun c_1 => ?_) (fun c_1 => ?_)
  · skip
    refine lv_aload_n hx hb dX11_book_15 rfl (lv_at hl 0 rfl) ?_
    refine lv_iconst (v := 2) hx hb dX11_book_16 (by decide) ?_
    have hPc := hP.sub (ws' := [(x0, .inr (11, [.ref rd, .ref dr, .ref bk, .ref st, .ref nw, .ref tr, .ref pl, .ref fl, .ref rg, .int 0, .int 0, .int 0]))]) [0] rfl
    have hDc := hD.sub (ws' := [(x0, .inr (11, [.ref rd, .ref dr, .ref bk, .ref st, .ref nw, .ref tr, .ref pl, .ref fl, .ref rg, .int 0, .int 0, .int 0]))]) [0] (by decide) rfl
    have hKc := hK.sub (tys' := []) [] rfl
    have hFc := va_free (wc := [(x0, .inr (11, [.ref rd, .ref dr, .ref bk, .ref st, .ref nw, .ref tr, .ref pl, .ref fl, .ref rg, .int 0, .int 0, .int 0]))]) hD hS hA [0] rfl
    refine va_calli (va_runV (As := [.int 2]) (rest := []) ⟨hx, hb, hml, hown, hts⟩ (c_refuse l dC dI n0 s.heap.size x0 rd dr bk st nw tr pl fl rg 0 0 0 2 ) (cwV 1 hts (gV (fun w h => wM_c h) wd_722 wd_719 wd_721 wd_0 wd_114) rfl rfl rfl (by decide +kernel) ⟨Nat.le_of_ble_eq_true rfl, Nat.le_of_ble_eq_true rfl⟩) ⟨fun a U g mk q => by obtain ⟨q0, q1, q2, qG, qP, qK, qD⟩ := q; exact ⟨q0, q1, q2, GW.blind qG, qP, va_K.moved (u := U) (U := U.calling g mk a) (Vm.Alike.refl U.vm) qK, qD⟩, va_recv hKc hPc (ci := 11) (q0 := 0) rfl rfl, fun U hU hW => ⟨rfl, by rw [hU], Nat.le_trans hn0 hS.1, GW.go hW hU hG (fun q hq hA9 => hS.2.1 q hq (fun h => hA9 (hA0 q h))), by rw [hU]; exact hPc, va_K.moved hW.alike hKc, hDc.weaken (fun _ _ _ h => hA0 _ h)⟩⟩ rfl rfl hl.1 rfl (lv_room (Nat.le_of_ble_eq_true rfl)) dX11_book_17 ⟨Nat.le_of_ble_eq_true rfl, Nat.le_of_ble_eq_true rfl⟩) hS (fun q _ h => hFc q h) hFc (fun r_2 u t H1 locs ht hvm hw_3 hB hz1 hk1 hS => ?_)
    obtain ⟨hP1, hK1, hD1⟩ := hB
    rw [ht] at hP1
    obtain ⟨hP, hD⟩ := va_join (wr := [(rd, .inr (7, [.ref rd_tape, .int 0, .int 0, .int 0, .ref dr, .ref rd_names, .ref rd_nameKind, .ref rd_nameNumber, .int 0, .ref rd_knotNames, .int 0, .int 0, .int 0, .int 0, .long 0])), (dr, .inr (0, [.int 0, .ref dr_tail, .ref dr_head, .ref dr_hinder, .ref dr_size, .ref dr_walk, .ref dr_draught, .ref dr_doorIn, .ref dr_fanIn, .ref dr_faceIn, .int 0, .int (-1), .ref dg])), (dg, .inr (3, [.int 0, .ref dg_doorBy, .int 0, .ref dg_pairFirst, .ref dg_pairSecond, .int 0, .ref dg_fanPush, .ref dg_fanFall, .ref dg_fanCost, .int 0, .ref dg_faceWay, .ref dg_faceGas, .ref dg_faceNeed])), (dr_doorIn, .inl (kd1, 14, .inl g1)), (dr_fanIn, .inl (kd2, 14, .inl g2)), (dr_faceIn, .inl (kd3, 14, .inl g3))]) (w1 := [(x0, .inr (11, [.ref rd, .ref dr, .ref bk, .ref st, .ref nw, .ref tr, .ref pl, .ref fl, .ref rg, .int 2, .int 0, .int 0]))]) hP hD [0] [1, 2, 3, 4, 5, 6] rfl rfl (by decide) (by decide) hk1 hFc hP1 hD1
    generalize H1 = H at hP hS ⊢
    have hP : va_P (dC, dI) classes [(rd, .inr (7, [.ref rd_tape, .int 0, .int 0, .int 0, .ref dr, .ref rd_names, .ref rd_nameKind, .ref rd_nameNumber, .int 0, .ref rd_knotNames, .int 0, .int 0, .int 0, .int 0, .long 0])), (dr, .inr (0, [.int 0, .ref dr_tail, .ref dr_head, .ref dr_hinder, .ref dr_size, .ref dr_walk, .ref dr_draught, .ref dr_doorIn, .ref dr_fanIn, .ref dr_faceIn, .int 0, .int (-1), .ref dg])), (dg, .inr (3, [.int 0, .ref dg_doorBy, .int 0, .ref dg_pairFirst, .ref dg_pairSecond, .int 0, .ref dg_fanPush, .ref dg_fanFall, .ref dg_fanCost, .int 0, .ref dg_faceWay, .ref dg_faceGas, .ref dg_faceNeed])), (dr_doorIn, .inl (kd1, 14, .inl g1)), (dr_fanIn, .inl (kd2, 14, .inl g2)), (dr_faceIn, .inl (kd3, 14, .inl g3)), (x0, .inr (11, [.ref rd, .ref dr, .ref bk, .ref st, .ref nw, .ref tr, .ref pl, .ref fl, .ref rg, .int 2, .int 0, .int 0]))] H := hP
    have hD : va_D A [(rd, .inr (7, [.ref rd_tape, .int 0, .int 0, .int 0, .ref dr, .ref rd_names, .ref rd_nameKind, .ref rd_nameNumber, .int 0, .ref rd_knotNames, .int 0, .int 0, .int 0, .int 0, .long 0])), (dr, .inr (0, [.int 0, .ref dr_tail, .ref dr_head, .ref dr_hinder, .ref dr_size, .ref dr_walk, .ref dr_draught, .ref dr_doorIn, .ref dr_fanIn, .ref dr_faceIn, .int 0, .int (-1), .ref dg])), (dg, .inr (3, [.int 0, .ref dg_doorBy, .int 0, .ref dg_pairFirst, .ref dg_pairSecond, .int 0, .ref dg_fanPush, .ref dg_fanFall, .ref dg_fanCost, .int 0, .ref dg_faceWay, .ref dg_faceGas, .ref dg_faceNeed])), (dr_doorIn, .inl (kd1, 14, .inl g1)), (dr_fanIn, .inl (kd2, 14, .inl g2)), (dr_faceIn, .inl (kd3, 14, .inl g3)), (x0, .inr (11, [.ref rd, .ref dr, .ref bk, .ref st, .ref nw, .ref tr, .ref pl, .ref fl, .ref rg, .int 2, .int 0, .int 0]))] := hD
    obtain rfl : r_2 = (-1) := hw_3
    exact W.iret (v := (-1)) hx hb hr (fun t ht hW => ⟨⟨(-1), (), rfl, rfl, trivial⟩, hS.F ht⟩) hS.2.2 dX11_book_20
  · skip
    refine lv_iload_n hx hb dX11_book_4 rfl (lv_at hl 1 rfl) ?_
    refine lv_aload_n hx hb dX11_book_5 rfl (lv_at hl 0 rfl) ?_
    refine va_get (D := (dC, dI)) (ci := 11) (v := .ref rd) (C := RX11) (T := TX11) (N := 12) hx hb hts (fun w h => wM_c (iX11 w h)) hown hK hP 0 rfl rfl 0 (by decide) (hts _ (wM_c wd_670)) (fun _ h9 => h9) rfl dX11_book_6 ?_
    refine va_get (D := (dC, dI)) (ci := 7) (v := .int 0) (C := RX7) (T := TX7) (N := 15) hx hb hts (fun w h => wM_c (iX7 w h)) hown hK hP 1 rfl rfl 1 (by decide) (hts _ (wM_c wd_334)) (fun _ h9 => h9) rfl dX11_book_9 ?_
    refine lv_icmp_le (tgt := 21) hx hb dX11_book_12 (by decide) (fun c_4 => ?_) (fun c_4 => ?_)
    · skip
      refine lv_aload_n hx hb dX11_book_21 rfl (lv_at hl 0 rfl) ?_
      refine va_get (D := (dC, dI)) (ci := 11) (v := .ref rd) (C := RX11) (T := TX11) (N := 12) hx hb hts (fun w h => wM_c (iX11 w h)) hown hK hP 0 rfl rfl 0 (by decide) (hts _ (wM_c wd_670)) (fun _ h9 => h9) rfl dX11_book_22 ?_
      refine lv_iload_n hx hb dX11_book_25 rfl (lv_at hl 1 rfl) ?_
      have hPc := hP.sub (ws' := [(rd, .inr (7, [.ref rd_tape, .int 0, .int 0, .int 0, .ref dr, .ref rd_names, .ref rd_nameKind, .ref rd_nameNumber, .int 0, .ref rd_knotNames, .int 0, .int 0, .int 0, .int 0, .long 0])), (dr, .inr (0, [.int 0, .ref dr_tail, .ref dr_head, .ref dr_hinder, .ref dr_size, .ref dr_walk, .ref dr_draught, .ref dr_doorIn, .ref dr_fanIn, .ref dr_faceIn, .int 0, .int (-1), .ref dg])), (dg, .inr (3, [.int 0, .ref dg_doorBy, .int 0, .ref dg_pairFirst, .ref dg_pairSecond, .int 0, .ref dg_fanPush, .ref dg_fanFall, .ref dg_fanCost, .int 0, .ref dg_faceWay, .ref dg_faceGas, .ref dg_faceNeed])), (dr_doorIn, .inl (kd1, 14, .inl g1)), (dr_fanIn, .inl (kd2, 14, .inl g2)), (dr_faceIn, .inl (kd3, 14, .inl g3))]) [1, 2, 3, 4, 5, 6] rfl
      have hDc := hD.sub (ws' := [(rd, .inr (7, [.ref rd_tape, .int 0, .int 0, .int 0, .ref dr, .ref rd_names, .ref rd_nameKind, .ref rd_nameNumber, .int 0, .ref rd_knotNames, .int 0, .int 0, .int 0, .int 0, .long 0])), (dr, .inr (0, [.int 0, .ref dr_tail, .ref dr_head, .ref dr_hinder, .ref dr_size, .ref dr_walk, .ref dr_draught, .ref dr_doorIn, .ref dr_fanIn, .ref dr_faceIn, .int 0, .int (-1), .ref dg])), (dg, .inr (3, [.int 0, .ref dg_doorBy, .int 0, .ref dg_pairFirst, .ref dg_pairSecond, .int 0, .ref dg_fanPush, .ref dg_fanFall, .ref dg_fanCost, .int 0, .ref dg_faceWay, .ref dg_faceGas, .ref dg_faceNeed])), (dr_doorIn, .inl (kd1, 14, .inl g1)), (dr_fanIn, .inl (kd2, 14, .inl g2)), (dr_faceIn, .inl (kd3, 14, .inl g3))]) [1, 2, 3, 4, 5, 6] (by decide) rfl
      have hKc := hK.sub (tys' := [(kd1, .int), (kd2, .int), (kd3, .int)]) [0, 1, 2] rfl
      have hFc := va_free (wc := [(rd, .inr (7, [.ref rd_tape, .int 0, .int 0, .int 0, .ref dr, .ref rd_names, .ref rd_nameKind, .ref rd_nameNumber, .int 0, .ref rd_knotNames, .int 0, .int 0, .int 0, .int 0, .long 0])), (dr, .inr (0, [.int 0, .ref dr_tail, .ref dr_head, .ref dr_hinder, .ref dr_size, .ref dr_walk, .ref dr_draught, .ref dr_doorIn, .ref dr_fanIn, .ref dr_faceIn, .int 0, .int (-1), .ref dg])), (dg, .inr (3, [.int 0, .ref dg_doorBy, .int 0, .ref dg_pairFirst, .ref dg_pairSecond, .int 0, .ref dg_fanPush, .ref dg_fanFall, .ref dg_fanCost, .int 0, .ref dg_faceWay, .ref dg_faceGas, .ref dg_faceNeed])), (dr_doorIn, .inl (kd1, 14, .inl g1)), (dr_fanIn, .inl (kd2, 14, .inl g2)), (dr_faceIn, .inl (kd3, 14, .inl g3))]) hD hS hA [1, 2, 3, 4, 5, 6] rfl
      refine va_calli (va_runV (As := [.int n]) (rest := []) ⟨hx, hb, hml, hown, hts⟩ (c_readBook0 l dC dI n0 s.heap.size rd rd_tape dr rd_names rd_nameKind rd_nameNumber rd_knotNames dr_tail dr_head dr_hinder dr_size dr_walk dr_draught dr_doorIn dr_fanIn dr_faceIn dg dg_doorBy dg_pairFirst dg_pairSecond dg_fanPush dg_fanFall dg_fanCost dg_faceWay dg_faceGas dg_faceNeed kd1 kd2 kd3 g1 g2 g3 n c_1) (cwV 1 hts (gV (fun w h => wM_c h) wd_726 wd_723 wd_724 wd_725 wd_117) rfl rfl rfl (by decide +kernel) ⟨Nat.le_of_ble_eq_true rfl, Nat.le_of_ble_eq_true rfl⟩) ⟨fun a U g mk q => by obtain ⟨q0, q1, q2, qG, qP, qK, qD⟩ := q; exact ⟨q0, q1, q2, GW.blind qG, qP, va_K.moved (u := U) (U := U.calling g mk a) (Vm.Alike.refl U.vm) qK, qD⟩, va_recv hKc hPc (ci := 7) (q0 := 0) rfl rfl, fun U hU hW => ⟨rfl, by rw [hU], Nat.le_trans hn0 hS.1, GW.go hW hU hG (fun q hq hA9 => hS.2.1 q hq (fun h => hA9 (hA0 q h))), by rw [hU]; exact hPc, va_K.moved hW.alike hKc, hDc.weaken (fun _ _ _ h => hA0 _ h)⟩⟩ rfl rfl hl.1 rfl (lv_room (Nat.le_of_ble_eq_true rfl)) dX11_book_26 ⟨Nat.le_of_ble_eq_true rfl, Nat.le_of_ble_eq_true rfl⟩) hS (fun q _ h => hFc q h) hFc (fun r_5 u t H1 locs ht hvm hw_6 hB hz1 hk1 hS => ?_)
      obtain ⟨hP1, hK1, hD1⟩ := hB
      rw [ht] at hP1
      obtain ⟨hP, hD⟩ := va_join (wr := [(x0, .inr (11, [.ref rd, .ref dr, .ref bk, .ref st, .ref nw, .ref tr, .ref pl, .ref fl, .ref rg, .int 0, .int 0, .int 0]))]) (w1 := [(rd, .inr (7, [.ref rd_tape, .int 0, .int 1, .int 0, .ref dr, .ref rd_names, .ref rd_nameKind, .ref rd_nameNumber, .int 0, .ref rd_knotNames, .int 0, .int 0, .int 0, .int 0, .long 0]))]) hP hD [1, 2, 3, 4, 5, 6] [0] rfl rfl (by decide) (by decide) hk1 hFc hP1 hD1
      generalize H1 = H at hP hS ⊢
      have hP : va_P (dC, dI) classes [(x0, .inr (11, [.ref rd, .ref dr, .ref bk, .ref st, .ref nw, .ref tr, .ref pl, .ref fl, .ref rg, .int 0, .int 0, .int 0])), (rd, .inr (7, [.ref rd_tape, .int 0, .int 1, .int 0, .ref dr, .ref rd_names, .ref rd_nameKind, .ref rd_nameNumber, .int 0, .ref rd_knotNames, .int 0, .int 0, .int 0, .int 0, .long 0]))] H := hP
      have hD : va_D A [(x0, .inr (11, [.ref rd, .ref dr, .ref bk, .ref st, .ref nw, .ref tr, .ref pl, .ref fl, .ref rg, .int 0, .int 0, .int 0])), (rd, .inr (7, [.ref rd_tape, .int 0, .int 1, .int 0, .ref dr, .ref rd_names, .ref rd_nameKind, .ref rd_nameNumber, .int 0, .ref rd_knotNames, .int 0, .int 0, .int 0, .int 0, .long 0]))] := hD
      obtain rfl : r_5 = 0 := hw_6
      refine lv_istore_n (lv' := [(2, .int 0), (0, .ref x0), (1, .int n)]) hx hb dX11_book_29 rfl hl (by decide) rfl (fun ls hl => ?_)
      refine lv_aload_n hx hb dX11_book_30 rfl (lv_at hl 1 rfl) ?_
      refine lv_aload_n hx hb dX11_book_31 rfl (lv_at hl 1 rfl) ?_
      refine va_get (D := (dC, dI)) (ci := 11) (v := .ref rd) (C := RX11) (T := TX11) (N := 12) hx hb hts (fun w h => wM_c (iX11 w h)) hown hK hP 0 rfl rfl 0 (by decide) (hts _ (wM_c wd_670)) (fun _ h9 => h9) rfl dX11_book_32 ?_
      refine va_get (D := (dC, dI)) (ci := 7) (v := .int 1) (C := RX7) (T := TX7) (N := 15) hx hb hts (fun w h => wM_c (iX7 w h)) hown hK hP 1 rfl rfl 2 (by decide) (hts _ (wM_c wd_336)) (fun _ h9 => h9) rfl dX11_book_35 ?_
      refine va_put (D := (dC, dI)) (ci := 11) (v := .int 1) (ty := .int) (C := RX11) (T := TX11) (N := 12) hx hb hts (fun w h => wM_c (iX11 w h)) tyX11 tyX11_ok nmX11 hown hK hP hD hS 0 rfl rfl 10 (by decide) (hts _ (wM_c wd_680)) (fun _ h9 => h9) rfl (by decide +kernel) rfl rfl (Nat.le_of_ble_eq_true rfl) dX11_book_38 (fun H locs hP hD hS => ?_)
      have hP : va_P (dC, dI) classes [(x0, .inr (11, [.ref rd, .ref dr, .ref bk, .ref st, .ref nw, .ref tr, .ref pl, .ref fl, .ref rg, .int 0, .int 1, .int 0])), (rd, .inr (7, [.ref rd_tape, .int 0, .int 1, .int 0, .ref dr, .ref rd_names, .ref rd_nameKind, .ref rd_nameNumber, .int 0, .ref rd_knotNames, .int 0, .int 0, .int 0, .int 0, .long 0]))] H := hP
      have hD : va_D A [(x0, .inr (11, [.ref rd, .ref dr, .ref bk, .ref st, .ref nw, .ref tr, .ref pl, .ref fl, .ref rg, .int 0, .int 1, .int 0])), (rd, .inr (7, [.ref rd_tape, .int 0, .int 1, .int 0, .ref dr, .ref rd_names, .ref rd_nameKind, .ref rd_nameNumber, .int 0, .ref rd_knotNames, .int 0, .int 0, .int 0, .int 0, .long 0]))] := hD
      refine lv_aload_n hx hb dX11_book_41 rfl (lv_at hl 1 rfl) ?_
      refine lv_aload_n hx hb dX11_book_42 rfl (lv_at hl 1 rfl) ?_
      refine va_get (D := (dC, dI)) (ci := 11) (v := .ref rd) (C := RX11) (T := TX11) (N := 12) hx hb hts (fun w h => wM_c (iX11 w h)) hown hK hP 0 rfl rfl 0 (by decide) (hts _ (wM_c wd_670)) (fun _ h9 => h9) rfl dX11_book_43 ?_
      refine va_get (D := (dC, dI)) (ci := 7) (v := .int 0) (C := RX7) (T := TX7) (N := 15) hx hb hts (fun w h => wM_c (iX7 w h)) hown hK hP 1 rfl rfl 3 (by decide) (hts _ (wM_c wd_339)) (fun _ h9 => h9) rfl dX11_book_46 ?_
      refine va_put (D := (dC, dI)) (ci := 11) (v := .int 0) (ty := .int) (C := RX11) (T := TX11) (N := 12) hx hb hts (fun w h => wM_c (iX11 w h)) tyX11 tyX11_ok nmX11 hown hK hP hD hS 0 rfl rfl 11 (by decide) (hts _ (wM_c wd_681)) (fun _ h9 => h9) rfl (by decide +kernel) rfl rfl (Nat.le_of_ble_eq_true rfl) dX11_book_49 (fun H locs hP hD hS => ?_)
      have hP : va_P (dC, dI) classes [(x0, .inr (11, [.ref rd, .ref dr, .ref bk, .ref st, .ref nw, .ref tr, .ref pl, .ref fl, .ref rg, .int 0, .int 1, .int 0])), (rd, .inr (7, [.ref rd_tape, .int 0, .int 1, .int 0, .ref dr, .ref rd_names, .ref rd_nameKind, .ref rd_nameNumber, .int 0, .ref rd_knotNames, .int 0, .int 0, .int 0, .int 0, .long 0]))] H := hP
      have hD : va_D A [(x0, .inr (11, [.ref rd, .ref dr, .ref bk, .ref st, .ref nw, .ref tr, .ref pl, .ref fl, .ref rg, .int 0, .int 1, .int 0])), (rd, .inr (7, [.ref rd_tape, .int 0, .int 1, .int 0, .ref dr, .ref rd_names, .ref rd_nameKind, .ref rd_nameNumber, .int 0, .ref rd_knotNames, .int 0, .int 0, .int 0, .int 0, .long 0]))] := hD
      refine lv_iload_n hx hb dX11_book_52 rfl (lv_at hl 0 rfl) ?_
      refine lv_if_ne (tgt := 62) hx hb dX11_book_53 (by decide) (fun c_7 => ?_) (fun c_7 => ?_)
      · exact absurd c_7 (by decide)
      refine lv_aload_n hx hb dX11_book_56 rfl (lv_at hl 1 rfl) ?_
      refine lv_iconst (v := 4) hx hb dX11_book_57 (by decide) ?_
      have hPc := hP.sub (ws' := [(x0, .inr (11, [.ref rd, .ref dr, .ref bk, .ref st, .ref nw, .ref tr, .ref pl, .ref fl, .ref rg, .int 0, .int 1, .int 0]))]) [0] rfl
      have hDc := hD.sub (ws' := [(x0, .inr (11, [.ref rd, .ref dr, .ref bk, .ref st, .ref nw, .ref tr, .ref pl, .ref fl, .ref rg, .int 0, .int 1, .int 0]))]) [0] (by decide) rfl
      have hKc := hK.sub (tys' := []) [] rfl
      have hFc := va_free (wc := [(x0, .inr (11, [.ref rd, .ref dr, .ref bk, .ref st, .ref nw, .ref tr, .ref pl, .ref fl, .ref rg, .int 0, .int 1, .int 0]))]) hD hS hA [0] rfl
      refine va_calli (va_runV (As := [.int 4]) (rest := []) ⟨hx, hb, hml, hown, hts⟩ (c_refuse l dC dI n0 H.size x0 rd dr bk st nw tr pl fl rg 0 1 0 4 ) (cwV 1 hts (gV (fun w h => wM_c h) wd_722 wd_719 wd_721 wd_0 wd_114) rfl rfl rfl (by decide +kernel) ⟨Nat.le_of_ble_eq_true rfl, Nat.le_of_ble_eq_true rfl⟩) ⟨fun a U g mk q => by obtain ⟨q0, q1, q2, qG, qP, qK, qD⟩ := q; exact ⟨q0, q1, q2, GW.blind qG, qP, va_K.moved (u := U) (U := U.calling g mk a) (Vm.Alike.refl U.vm) qK, qD⟩, va_recv hKc hPc (ci := 11) (q0 := 0) rfl rfl, fun U hU hW => ⟨rfl, by rw [hU], Nat.le_trans hn0 hS.1, GW.go hW hU hG (fun q hq hA9 => hS.2.1 q hq (fun h => hA9 (hA0 q h))), by rw [hU]; exact hPc, va_K.moved hW.alike hKc, hDc.weaken (fun _ _ _ h => hA0 _ h)⟩⟩ rfl rfl hl.1 rfl (lv_room (Nat.le_of_ble_eq_true rfl)) dX11_book_58 ⟨Nat.le_of_ble_eq_true rfl, Nat.le_of_ble_eq_true rfl⟩) hS (fun q _ h => hFc q h) hFc (fun r_8 u t H1 locs ht hvm hw_9 hB hz1 hk1 hS => ?_)
      obtain ⟨hP1, hK1, hD1⟩ := hB
      rw [ht] at hP1
      obtain ⟨hP, hD⟩ := va_join (wr := [(rd, .inr (7, [.ref rd_tape, .int 0, .int 1, .int 0, .ref dr, .ref rd_names, .ref rd_nameKind, .ref rd_nameNumber, .int 0, .ref rd_knotNames, .int 0, .int 0, .int 0, .int 0, .long 0]))]) (w1 := [(x0, .inr (11, [.ref rd, .ref dr, .ref bk, .ref st, .ref nw, .ref tr, .ref pl, .ref fl, .ref rg, .int 4, .int 1, .int 0]))]) hP hD [0] [1] rfl rfl (by decide) (by decide) hk1 hFc hP1 hD1
      generalize H1 = H at hP hS ⊢
      have hP : va_P (dC, dI) classes [(rd, .inr (7, [.ref rd_tape, .int 0, .int 1, .int 0, .ref dr, .ref rd_names, .ref rd_nameKind, .ref rd_nameNumber, .int 0, .ref rd_knotNames, .int 0, .int 0, .int 0, .int 0, .long 0])), (x0, .inr (11, [.ref rd, .ref dr, .ref bk, .ref st, .ref nw, .ref tr, .ref pl, .ref fl, .ref rg, .int 4, .int 1, .int 0]))] H := hP
      have hD : va_D A [(rd, .inr (7, [.ref rd_tape, .int 0, .int 1, .int 0, .ref dr, .ref rd_names, .ref rd_nameKind, .ref rd_nameNumber, .int 0, .ref rd_knotNames, .int 0, .int 0, .int 0, .int 0, .long 0])), (x0, .inr (11, [.ref rd, .ref dr, .ref bk, .ref st, .ref nw, .ref tr, .ref pl, .ref fl, .ref rg, .int 4, .int 1, .int 0]))] := hD
      obtain rfl : r_8 = (-1) := hw_9
      exact W.iret (v := (-1)) hx hb hr (fun t ht hW => ⟨⟨(-1), (), rfl, rfl, trivial⟩, hS.F ht⟩) hS.2.2 dX11_book_61
    · skip
      refine lv_aload_n hx hb dX11_book_15 rfl (lv_at hl 0 rfl) ?_
      refine lv_iconst (v := 2) hx hb dX11_book_16 (by decide) ?_
      have hPc := hP.sub (ws' := [(x0, .inr (11, [.ref rd, .ref dr, .ref bk, .ref st, .ref nw, .ref tr, .ref pl, .ref fl, .ref rg, .int 0, .int 0, .int 0]))]) [0] rfl
      have hDc := hD.sub (ws' := [(x0, .inr (11, [.ref rd, .ref dr, .ref bk, .ref st, .ref nw, .ref tr, .ref pl, .ref fl, .ref rg, .int 0, .int 0, .int 0]))]) [0] (by decide) rfl
      have hKc := hK.sub (tys' := []) [] rfl
      have hFc := va_free (wc := [(x0, .inr (11, [.ref rd, .ref dr, .ref bk, .ref st, .ref nw, .ref tr, .ref pl, .ref fl, .ref rg, .int 0, .int 0, .int 0]))]) hD hS hA [0] rfl
      refine va_calli (va_runV (As := [.int 2]) (rest := []) ⟨hx, hb, hml, hown, hts⟩ (c_refuse l dC dI n0 s.heap.size x0 rd dr bk st nw tr pl fl rg 0 0 0 2 ) (cwV 1 hts (gV (fun w h => wM_c h) wd_722 wd_719 wd_721 wd_0 wd_114) rfl rfl rfl (by decide +kernel) ⟨Nat.le_of_ble_eq_true rfl, Nat.le_of_ble_eq_true rfl⟩) ⟨fun a U g mk q => by obtain ⟨q0, q1, q2, qG, qP, qK, qD⟩ := q; exact ⟨q0, q1, q2, GW.blind qG, qP, va_K.moved (u := U) (U := U.calling g mk a) (Vm.Alike.refl U.vm) qK, qD⟩, va_recv hKc hPc (ci := 11) (q0 := 0) rfl rfl, fun U hU hW => ⟨rfl, by rw [hU], Nat.le_trans hn0 hS.1, GW.go hW hU hG (fun q hq hA9 => hS.2.1 q hq (fun h => hA9 (hA0 q h))), by rw [hU]; exact hPc, va_K.moved hW.alike hKc, hDc.weaken (fun _ _ _ h => hA0 _ h)⟩⟩ rfl rfl hl.1 rfl (lv_room (Nat.le_of_ble_eq_true rfl)) dX11_book_17 ⟨Nat.le_of_ble_eq_true rfl, Nat.le_of_ble_eq_true rfl⟩) hS (fun q _ h => hFc q h) hFc (fun r_10 u t H1 locs ht hvm hw_11 hB hz1 hk1 hS => ?_)
      obtain ⟨hP1, hK1, hD1⟩ := hB
      rw [ht] at hP1
      obtain ⟨hP, hD⟩ := va_join (wr := [(rd, .inr (7, [.ref rd_tape, .int 0, .int 0, .int 0, .ref dr, .ref rd_names, .ref rd_nameKind, .ref rd_nameNumber, .int 0, .ref rd_knotNames, .int 0, .int 0, .int 0, .int 0, .long 0])), (dr, .inr (0, [.int 0, .ref dr_tail, .ref dr_head, .ref dr_hinder, .ref dr_size, .ref dr_walk, .ref dr_draught, .ref dr_doorIn, .ref dr_fanIn, .ref dr_faceIn, .int 0, .int (-1), .ref dg])), (dg, .inr (3, [.int 0, .ref dg_doorBy, .int 0, .ref dg_pairFirst, .ref dg_pairSecond, .int 0, .ref dg_fanPush, .ref dg_fanFall, .ref dg_fanCost, .int 0, .ref dg_faceWay, .ref dg_faceGas, .ref dg_faceNeed])), (dr_doorIn, .inl (kd1, 14, .inl g1)), (dr_fanIn, .inl (kd2, 14, .inl g2)), (dr_faceIn, .inl (kd3, 14, .inl g3))]) (w1 := [(x0, .inr (11, [.ref rd, .ref dr, .ref bk, .ref st, .ref nw, .ref tr, .ref pl, .ref fl, .ref rg, .int 2, .int 0, .int 0]))]) hP hD [0] [1, 2, 3, 4, 5, 6] rfl rfl (by decide) (by decide) hk1 hFc hP1 hD1
      generalize H1 = H at hP hS ⊢
      have hP : va_P (dC, dI) classes [(rd, .inr (7, [.ref rd_tape, .int 0, .int 0, .int 0, .ref dr, .ref rd_names, .ref rd_nameKind, .ref rd_nameNumber, .int 0, .ref rd_knotNames, .int 0, .int 0, .int 0, .int 0, .long 0])), (dr, .inr (0, [.int 0, .ref dr_tail, .ref dr_head, .ref dr_hinder, .ref dr_size, .ref dr_walk, .ref dr_draught, .ref dr_doorIn, .ref dr_fanIn, .ref dr_faceIn, .int 0, .int (-1), .ref dg])), (dg, .inr (3, [.int 0, .ref dg_doorBy, .int 0, .ref dg_pairFirst, .ref dg_pairSecond, .int 0, .ref dg_fanPush, .ref dg_fanFall, .ref dg_fanCost, .int 0, .ref dg_faceWay, .ref dg_faceGas, .ref dg_faceNeed])), (dr_doorIn, .inl (kd1, 14, .inl g1)), (dr_fanIn, .inl (kd2, 14, .inl g2)), (dr_faceIn, .inl (kd3, 14, .inl g3)), (x0, .inr (11, [.ref rd, .ref dr, .ref bk, .ref st, .ref nw, .ref tr, .ref pl, .ref fl, .ref rg, .int 2, .int 0, .int 0]))] H := hP
      have hD : va_D A [(rd, .inr (7, [.ref rd_tape, .int 0, .int 0, .int 0, .ref dr, .ref rd_names, .ref rd_nameKind, .ref rd_nameNumber, .int 0, .ref rd_knotNames, .int 0, .int 0, .int 0, .int 0, .long 0])), (dr, .inr (0, [.int 0, .ref dr_tail, .ref dr_head, .ref dr_hinder, .ref dr_size, .ref dr_walk, .ref dr_draught, .ref dr_doorIn, .ref dr_fanIn, .ref dr_faceIn, .int 0, .int (-1), .ref dg])), (dg, .inr (3, [.int 0, .ref dg_doorBy, .int 0, .ref dg_pairFirst, .ref dg_pairSecond, .int 0, .ref dg_fanPush, .ref dg_fanFall, .ref dg_fanCost, .int 0, .ref dg_faceWay, .ref dg_faceGas, .ref dg_faceNeed])), (dr_doorIn, .inl (kd1, 14, .inl g1)), (dr_fanIn, .inl (kd2, 14, .inl g2)), (dr_faceIn, .inl (kd3, 14, .inl g3)), (x0, .inr (11, [.ref rd, .ref dr, .ref bk, .ref st, .ref nw, .ref tr, .ref pl, .ref fl, .ref rg, .int 2, .int 0, .int 0]))] := hD
      obtain rfl : r_10 = (-1) := hw_11
      exact W.iret (v := (-1)) hx hb hr (fun t ht hW => ⟨⟨(-1), (), rfl, rfl, trivial⟩, hS.F ht⟩) hS.2.2 dX11_book_20
