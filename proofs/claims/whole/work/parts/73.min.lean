theorem wd_70 : Cond.selects "MineAirModel" (⟨"MineAirModel", "needWord", "(Ljava/lang/String;)V"⟩ : MethodName) (⟨"MineAirModel", "needWord", "(Ljava/lang/String;)V"⟩ : MethodName) ∈ wG := wG_of 70 (by decide +kernel) (by decide +kernel)
theorem wd_75 : Cond.selects "MineAirModel" (⟨"MineAirModel", "readTold", "(I)I"⟩ : MethodName) (⟨"MineAirModel", "readTold", "(I)I"⟩ : MethodName) ∈ wG := wG_of 75 (by decide +kernel) (by decide +kernel)
theorem wd_1801 : Cond.methodLink "MineAirModel" 272 (⟨"MineAirModel", "needWord", "(Ljava/lang/String;)V"⟩ : MethodName) ∈ wG := wG_of 1801 (by decide +kernel) (by decide +kernel)
theorem wd_1803 : Cond.instanceMethod (⟨"MineAirModel", "needWord", "(Ljava/lang/String;)V"⟩ : MethodName) ∈ wG := wG_of 1803 (by decide +kernel) (by decide +kernel)
theorem wd_1804 : Cond.code (⟨"MineAirModel", "needWord", "(Ljava/lang/String;)V"⟩ : MethodName) prog_14_method_17_code 2 (Option.none : Option Jvm.ClassFile.FieldType) ∈ wG := wG_of 1804 (by decide +kernel) (by decide +kernel)
theorem wd_1828 : Cond.methodLink "MineAirModel" 303 (⟨"MineAirModel", "readTold", "(I)I"⟩ : MethodName) ∈ wG := wG_of 1828 (by decide +kernel) (by decide +kernel)
theorem wd_1830 : Cond.instanceMethod (⟨"MineAirModel", "readTold", "(I)I"⟩ : MethodName) ∈ wG := wG_of 1830 (by decide +kernel) (by decide +kernel)
theorem wd_1831 : Cond.code (⟨"MineAirModel", "readTold", "(I)I"⟩ : MethodName) prog_14_method_21_code 3 (Option.some Jvm.ClassFile.FieldType.int) ∈ wG := wG_of 1831 (by decide +kernel) (by decide +kernel)
theorem dX14_readIn_0 : decode cX14_readIn 0 = .ok (.aload_n 0, 1) := by decide +kernel
theorem dX14_readIn_1 : decode cX14_readIn 1 = .ok (.ldc_w 302, 3) := by decide +kernel
theorem dX14_readIn_4 : decode cX14_readIn 4 = .ok (.invokevirtual 272, 3) := by decide +kernel
theorem dX14_readIn_7 : decode cX14_readIn 7 = .ok (.aload_n 0, 1) := by decide +kernel
theorem dX14_readIn_8 : decode cX14_readIn 8 = .ok (.iconst 0, 1) := by decide +kernel
theorem dX14_readIn_9 : decode cX14_readIn 9 = .ok (.invokevirtual 303, 3) := by decide +kernel
theorem dX14_readIn_12 : decode cX14_readIn 12 = .ok (.istore_n 2, 1) := by decide +kernel
theorem dX14_readIn_13 : decode cX14_readIn 13 = .ok (.aload_n 1, 1) := by decide +kernel
theorem dX14_readIn_14 : decode cX14_readIn 14 = .ok (.iload_n 2, 1) := by decide +kernel
theorem dX14_readIn_15 : decode cX14_readIn 15 = .ok (.iaload, 1) := by decide +kernel
theorem dX14_readIn_16 : decode cX14_readIn 16 = .ok (.bipush (-2), 2) := by decide +kernel
theorem dX14_readIn_18 : decode cX14_readIn 18 = .ok (.if_icmp .eq 9, 3) := by decide +kernel
theorem dX14_readIn_21 : decode cX14_readIn 21 = .ok (.aload_n 0, 1) := by decide +kernel
theorem dX14_readIn_22 : decode cX14_readIn 22 = .ok (.iconst 3, 1) := by decide +kernel
theorem dX14_readIn_23 : decode cX14_readIn 23 = .ok (.invokevirtual 195, 3) := by decide +kernel
theorem dX14_readIn_26 : decode cX14_readIn 26 = .ok (.athrow, 1) := by decide +kernel
theorem dX14_readIn_27 : decode cX14_readIn 27 = .ok (.aload_n 0, 1) := by decide +kernel
theorem dX14_readIn_28 : decode cX14_readIn 28 = .ok (.invokevirtual 198, 3) := by decide +kernel
theorem dX14_readIn_31 : decode cX14_readIn 31 = .ok (.iload_n 2, 1) := by decide +kernel
theorem dX14_readIn_32 : decode cX14_readIn 32 = .ok (.ireturn, 1) := by decide +kernel
