theorem wd_61 : Cond.selects "MineAirModel" (⟨"MineAirModel", "next", "()V"⟩ : MethodName) (⟨"MineAirModel", "next", "()V"⟩ : MethodName) ∈ wG := wG_of 61 (by decide +kernel) (by decide +kernel)
theorem wd_68 : Cond.selects "MineAirModel" (⟨"MineAirModel", "stop", "(I)LMineAirModel$Stop;"⟩ : MethodName) (⟨"MineAirModel", "stop", "(I)LMineAirModel$Stop;"⟩ : MethodName) ∈ wG := wG_of 68 (by decide +kernel) (by decide +kernel)
theorem wd_1735 : Cond.methodLink "MineAirModel" 198 (⟨"MineAirModel", "next", "()V"⟩ : MethodName) ∈ wG := wG_of 1735 (by decide +kernel) (by decide +kernel)
theorem wd_1737 : Cond.instanceMethod (⟨"MineAirModel", "next", "()V"⟩ : MethodName) ∈ wG := wG_of 1737 (by decide +kernel) (by decide +kernel)
theorem wd_1738 : Cond.code (⟨"MineAirModel", "next", "()V"⟩ : MethodName) prog_14_method_13_code 3 (Option.none : Option Jvm.ClassFile.FieldType) ∈ wG := wG_of 1738 (by decide +kernel) (by decide +kernel)
theorem wd_1780 : Cond.methodLink "MineAirModel" 195 (⟨"MineAirModel", "stop", "(I)LMineAirModel$Stop;"⟩ : MethodName) ∈ wG := wG_of 1780 (by decide +kernel) (by decide +kernel)
theorem wd_1782 : Cond.instanceMethod (⟨"MineAirModel", "stop", "(I)LMineAirModel$Stop;"⟩ : MethodName) ∈ wG := wG_of 1782 (by decide +kernel) (by decide +kernel)
theorem wd_1783 : Cond.code (⟨"MineAirModel", "stop", "(I)LMineAirModel$Stop;"⟩ : MethodName) prog_14_method_8_code 2 (Option.some (Jvm.ClassFile.FieldType.object "MineAirModel$Stop")) ∈ wG := wG_of 1783 (by decide +kernel) (by decide +kernel)
theorem dX14_needWord_0 : decode cX14_needWord 0 = .ok (.aload_n 0, 1) := by decide +kernel
theorem dX14_needWord_1 : decode cX14_needWord 1 = .ok (.aload_n 1, 1) := by decide +kernel
theorem dX14_needWord_2 : decode cX14_needWord 2 = .ok (.invokevirtual 183, 3) := by decide +kernel
theorem dX14_needWord_5 : decode cX14_needWord 5 = .ok (.ifCond .ne 9, 3) := by decide +kernel
theorem dX14_needWord_8 : decode cX14_needWord 8 = .ok (.aload_n 0, 1) := by decide +kernel
theorem dX14_needWord_9 : decode cX14_needWord 9 = .ok (.iconst 1, 1) := by decide +kernel
theorem dX14_needWord_10 : decode cX14_needWord 10 = .ok (.invokevirtual 195, 3) := by decide +kernel
theorem dX14_needWord_13 : decode cX14_needWord 13 = .ok (.athrow, 1) := by decide +kernel
theorem dX14_needWord_14 : decode cX14_needWord 14 = .ok (.aload_n 0, 1) := by decide +kernel
theorem dX14_needWord_15 : decode cX14_needWord 15 = .ok (.invokevirtual 198, 3) := by decide +kernel
theorem dX14_needWord_18 : decode cX14_needWord 18 = .ok (.return_, 1) := by decide +kernel
theorem dX14_readWhole_0 : decode cX14_readWhole 0 = .ok (.aload_n 0, 1) := by decide +kernel
theorem dX14_readWhole_1 : decode cX14_readWhole 1 = .ok (.getfield 157, 3) := by decide +kernel
theorem dX14_readWhole_4 : decode cX14_readWhole 4 = .ok (.iconst 3, 1) := by decide +kernel
theorem dX14_readWhole_5 : decode cX14_readWhole 5 = .ok (.if_icmp .eq 9, 3) := by decide +kernel
theorem dX14_readWhole_8 : decode cX14_readWhole 8 = .ok (.aload_n 0, 1) := by decide +kernel
theorem dX14_readWhole_9 : decode cX14_readWhole 9 = .ok (.iconst 1, 1) := by decide +kernel
theorem dX14_readWhole_10 : decode cX14_readWhole 10 = .ok (.invokevirtual 195, 3) := by decide +kernel
theorem dX14_readWhole_13 : decode cX14_readWhole 13 = .ok (.athrow, 1) := by decide +kernel
theorem dX14_readWhole_14 : decode cX14_readWhole 14 = .ok (.aload_n 0, 1) := by decide +kernel
theorem dX14_readWhole_15 : decode cX14_readWhole 15 = .ok (.getfield 174, 3) := by decide +kernel
theorem dX14_readWhole_18 : decode cX14_readWhole 18 = .ok (.iload_n 1, 1) := by decide +kernel
theorem dX14_readWhole_19 : decode cX14_readWhole 19 = .ok (.iload_n 2, 1) := by decide +kernel
theorem dX14_readWhole_20 : decode cX14_readWhole 20 = .ok (.invokestatic 201, 3) := by decide +kernel
theorem dX14_readWhole_23 : decode cX14_readWhole 23 = .ok (.ifCond .ne 9, 3) := by decide +kernel
theorem dX14_readWhole_26 : decode cX14_readWhole 26 = .ok (.aload_n 0, 1) := by decide +kernel
theorem dX14_readWhole_27 : decode cX14_readWhole 27 = .ok (.iconst 4, 1) := by decide +kernel
theorem dX14_readWhole_28 : decode cX14_readWhole 28 = .ok (.invokevirtual 195, 3) := by decide +kernel
theorem dX14_readWhole_31 : decode cX14_readWhole 31 = .ok (.athrow, 1) := by decide +kernel
theorem dX14_readWhole_32 : decode cX14_readWhole 32 = .ok (.aload_n 0, 1) := by decide +kernel
theorem dX14_readWhole_33 : decode cX14_readWhole 33 = .ok (.getfield 174, 3) := by decide +kernel
theorem dX14_readWhole_36 : decode cX14_readWhole 36 = .ok (.istore_n 3, 1) := by decide +kernel
theorem dX14_readWhole_37 : decode cX14_readWhole 37 = .ok (.aload_n 0, 1) := by decide +kernel
theorem dX14_readWhole_38 : decode cX14_readWhole 38 = .ok (.invokevirtual 198, 3) := by decide +kernel
theorem dX14_readWhole_41 : decode cX14_readWhole 41 = .ok (.iload_n 3, 1) := by decide +kernel
theorem dX14_readWhole_42 : decode cX14_readWhole 42 = .ok (.ireturn, 1) := by decide +kernel
