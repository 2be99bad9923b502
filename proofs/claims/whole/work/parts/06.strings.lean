theorem wd_132 : Cond.initialized "java/lang/String" ∈ wG := wG_of 132 (by decide +kernel) (by decide +kernel)
theorem wd_133 : Cond.initialized "java/lang/StringLatin1" ∈ wG := wG_of 133 (by decide +kernel) (by decide +kernel)
theorem wd_134 : Cond.initialized "jdk/internal/util/Preconditions" ∈ wG := wG_of 134 (by decide +kernel) (by decide +kernel)
theorem wd_765 : Cond.instanceMethod (⟨"java/lang/String", "length", "()I"⟩ : MethodName) ∈ wG := wG_of 765 (by decide +kernel) (by decide +kernel)
theorem wd_766 : Cond.selects "java/lang/String" (⟨"java/lang/String", "length", "()I"⟩ : MethodName) (⟨"java/lang/String", "length", "()I"⟩ : MethodName) ∈ wG := wG_of 766 (by decide +kernel) (by decide +kernel)
theorem wd_767 : Cond.code (⟨"java/lang/String", "length", "()I"⟩ : MethodName) prog_20_method_54_code 1 (Option.some Jvm.ClassFile.FieldType.int) ∈ wG := wG_of 767 (by decide +kernel) (by decide +kernel)
theorem wd_768 : Cond.methodLink "java/lang/String" 335 (⟨"java/lang/String", "coder", "()B"⟩ : MethodName) ∈ wG := wG_of 768 (by decide +kernel) (by decide +kernel)
theorem wd_769 : Cond.instanceMethod (⟨"java/lang/String", "coder", "()B"⟩ : MethodName) ∈ wG := wG_of 769 (by decide +kernel) (by decide +kernel)
theorem wd_770 : Cond.selects "java/lang/String" (⟨"java/lang/String", "coder", "()B"⟩ : MethodName) (⟨"java/lang/String", "coder", "()B"⟩ : MethodName) ∈ wG := wG_of 770 (by decide +kernel) (by decide +kernel)
theorem wd_771 : Cond.code (⟨"java/lang/String", "coder", "()B"⟩ : MethodName) prog_20_method_152_code 1 (Option.some Jvm.ClassFile.FieldType.byte) ∈ wG := wG_of 771 (by decide +kernel) (by decide +kernel)
theorem wd_772 : Cond.fieldLink "java/lang/String" 38 "java/lang/String" "COMPACT_STRINGS" "Z" ∈ wG := wG_of 772 (by decide +kernel) (by decide +kernel)
theorem wd_775 : Cond.instanceMethod (⟨"java/lang/String", "charAt", "(I)C"⟩ : MethodName) ∈ wG := wG_of 775 (by decide +kernel) (by decide +kernel)
theorem wd_776 : Cond.selects "java/lang/String" (⟨"java/lang/String", "charAt", "(I)C"⟩ : MethodName) (⟨"java/lang/String", "charAt", "(I)C"⟩ : MethodName) ∈ wG := wG_of 776 (by decide +kernel) (by decide +kernel)
theorem wd_777 : Cond.code (⟨"java/lang/String", "charAt", "(I)C"⟩ : MethodName) prog_20_method_56_code 2 (Option.some Jvm.ClassFile.FieldType.char) ∈ wG := wG_of 777 (by decide +kernel) (by decide +kernel)
theorem wd_778 : Cond.methodLink "java/lang/String" 492 (⟨"java/lang/String", "isLatin1", "()Z"⟩ : MethodName) ∈ wG := wG_of 778 (by decide +kernel) (by decide +kernel)
theorem wd_779 : Cond.instanceMethod (⟨"java/lang/String", "isLatin1", "()Z"⟩ : MethodName) ∈ wG := wG_of 779 (by decide +kernel) (by decide +kernel)
theorem wd_780 : Cond.selects "java/lang/String" (⟨"java/lang/String", "isLatin1", "()Z"⟩ : MethodName) (⟨"java/lang/String", "isLatin1", "()Z"⟩ : MethodName) ∈ wG := wG_of 780 (by decide +kernel) (by decide +kernel)
theorem wd_781 : Cond.code (⟨"java/lang/String", "isLatin1", "()Z"⟩ : MethodName) prog_20_method_154_code 1 (Option.some Jvm.ClassFile.FieldType.boolean) ∈ wG := wG_of 781 (by decide +kernel) (by decide +kernel)
theorem wd_782 : Cond.methodLink "java/lang/String" 495 (⟨"java/lang/StringLatin1", "charAt", "([BI)C"⟩ : MethodName) ∈ wG := wG_of 782 (by decide +kernel) (by decide +kernel)
theorem wd_783 : Cond.static (⟨"java/lang/StringLatin1", "charAt", "([BI)C"⟩ : MethodName) ∈ wG := wG_of 783 (by decide +kernel) (by decide +kernel)
theorem wd_784 : Cond.code (⟨"java/lang/StringLatin1", "charAt", "([BI)C"⟩ : MethodName) prog_21_method_2_code 2 (Option.some Jvm.ClassFile.FieldType.char) ∈ wG := wG_of 784 (by decide +kernel) (by decide +kernel)
theorem wd_785 : Cond.methodLink "java/lang/StringLatin1" 9 (⟨"java/lang/String", "checkIndex", "(II)V"⟩ : MethodName) ∈ wG := wG_of 785 (by decide +kernel) (by decide +kernel)
theorem wd_786 : Cond.static (⟨"java/lang/String", "checkIndex", "(II)V"⟩ : MethodName) ∈ wG := wG_of 786 (by decide +kernel) (by decide +kernel)
theorem wd_787 : Cond.code (⟨"java/lang/String", "checkIndex", "(II)V"⟩ : MethodName) prog_20_method_155_code 2 (Option.none : Option Jvm.ClassFile.FieldType) ∈ wG := wG_of 787 (by decide +kernel) (by decide +kernel)
theorem wd_788 : Cond.fieldLink "java/lang/String" 1053 "jdk/internal/util/Preconditions" "SIOOBE_FORMATTER" "Ljava/util/function/BiFunction;" ∈ wG := wG_of 788 (by decide +kernel) (by decide +kernel)
theorem wd_790 : Cond.methodLink "java/lang/String" 1059 (⟨"jdk/internal/util/Preconditions", "checkIndex", "(IILjava/util/function/BiFunction;)I"⟩ : MethodName) ∈ wG := wG_of 790 (by decide +kernel) (by decide +kernel)
theorem wd_791 : Cond.static (⟨"jdk/internal/util/Preconditions", "checkIndex", "(IILjava/util/function/BiFunction;)I"⟩ : MethodName) ∈ wG := wG_of 791 (by decide +kernel) (by decide +kernel)
theorem wd_792 : Cond.code (⟨"jdk/internal/util/Preconditions", "checkIndex", "(IILjava/util/function/BiFunction;)I"⟩ : MethodName) prog_27_method_11_code 3 (Option.some Jvm.ClassFile.FieldType.int) ∈ wG := wG_of 792 (by decide +kernel) (by decide +kernel)
theorem wd_1746 : Cond.constantLong "MineAirModel" 144 32 ∈ wG := wG_of 1746 (by decide +kernel) (by decide +kernel)
theorem wd_1762 : Cond.methodLink "MineAirModel" 138 (⟨"java/lang/String", "length", "()I"⟩ : MethodName) ∈ wG := wG_of 1762 (by decide +kernel) (by decide +kernel)
theorem wd_1763 : Cond.methodLink "MineAirModel" 146 (⟨"java/lang/String", "charAt", "(I)C"⟩ : MethodName) ∈ wG := wG_of 1763 (by decide +kernel) (by decide +kernel)
theorem wd_2129 : Cond.fieldLink "java/lang/String" 9 "java/lang/String" "value" "[B" ∈ wG := wG_of 2129 (by decide +kernel) (by decide +kernel)
theorem wd_2130 : Cond.fieldLink "java/lang/String" 15 "java/lang/String" "coder" "B" ∈ wG := wG_of 2130 (by decide +kernel) (by decide +kernel)
theorem dJ0_charAt_5068e_0 : decode cJ0_charAt_5068e 0 = .ok (.aload_n 0, 1) := by decide +kernel
theorem dJ0_charAt_5068e_1 : decode cJ0_charAt_5068e 1 = .ok (.invokevirtual 492, 3) := by decide +kernel
theorem dJ0_charAt_5068e_4 : decode cJ0_charAt_5068e 4 = .ok (.ifCond .eq 12, 3) := by decide +kernel
theorem dJ0_charAt_5068e_7 : decode cJ0_charAt_5068e 7 = .ok (.aload_n 0, 1) := by decide +kernel
theorem dJ0_charAt_5068e_8 : decode cJ0_charAt_5068e 8 = .ok (.getfield 9, 3) := by decide +kernel
theorem dJ0_charAt_5068e_11 : decode cJ0_charAt_5068e 11 = .ok (.iload_n 1, 1) := by decide +kernel
theorem dJ0_charAt_5068e_12 : decode cJ0_charAt_5068e 12 = .ok (.invokestatic 495, 3) := by decide +kernel
theorem dJ0_charAt_5068e_15 : decode cJ0_charAt_5068e 15 = .ok (.ireturn, 1) := by decide +kernel
theorem dJ0_checkIndex_df160_0 : decode cJ0_checkIndex_df160 0 = .ok (.iload_n 0, 1) := by decide +kernel
theorem dJ0_checkIndex_df160_1 : decode cJ0_checkIndex_df160 1 = .ok (.iload_n 1, 1) := by decide +kernel
theorem dJ0_checkIndex_df160_2 : decode cJ0_checkIndex_df160 2 = .ok (.getstatic 1053, 3) := by decide +kernel
theorem dJ0_checkIndex_df160_5 : decode cJ0_checkIndex_df160 5 = .ok (.invokestatic 1059, 3) := by decide +kernel
theorem dJ0_checkIndex_df160_8 : decode cJ0_checkIndex_df160 8 = .ok (.pop, 1) := by decide +kernel
theorem dJ0_checkIndex_df160_9 : decode cJ0_checkIndex_df160 9 = .ok (.return_, 1) := by decide +kernel
theorem dJ0_coder_7d493_0 : decode cJ0_coder_7d493 0 = .ok (.getstatic 38, 3) := by decide +kernel
theorem dJ0_coder_7d493_3 : decode cJ0_coder_7d493 3 = .ok (.ifCond .eq 10, 3) := by decide +kernel
theorem dJ0_coder_7d493_6 : decode cJ0_coder_7d493 6 = .ok (.aload_n 0, 1) := by decide +kernel
theorem dJ0_coder_7d493_7 : decode cJ0_coder_7d493 7 = .ok (.getfield 15, 3) := by decide +kernel
theorem dJ0_coder_7d493_10 : decode cJ0_coder_7d493 10 = .ok (.goto 4, 3) := by decide +kernel
theorem dJ0_coder_7d493_14 : decode cJ0_coder_7d493 14 = .ok (.ireturn, 1) := by decide +kernel
theorem dJ0_isLatin1_aae02_0 : decode cJ0_isLatin1_aae02 0 = .ok (.getstatic 38, 3) := by decide +kernel
theorem dJ0_isLatin1_aae02_3 : decode cJ0_isLatin1_aae02 3 = .ok (.ifCond .eq 14, 3) := by decide +kernel
theorem dJ0_isLatin1_aae02_6 : decode cJ0_isLatin1_aae02 6 = .ok (.aload_n 0, 1) := by decide +kernel
theorem dJ0_isLatin1_aae02_7 : decode cJ0_isLatin1_aae02 7 = .ok (.getfield 15, 3) := by decide +kernel
theorem dJ0_isLatin1_aae02_10 : decode cJ0_isLatin1_aae02 10 = .ok (.ifCond .ne 7, 3) := by decide +kernel
theorem dJ0_isLatin1_aae02_13 : decode cJ0_isLatin1_aae02 13 = .ok (.iconst 1, 1) := by decide +kernel
theorem dJ0_isLatin1_aae02_14 : decode cJ0_isLatin1_aae02 14 = .ok (.goto 4, 3) := by decide +kernel
theorem dJ0_isLatin1_aae02_18 : decode cJ0_isLatin1_aae02 18 = .ok (.ireturn, 1) := by decide +kernel
theorem dJ0_length_8abf5_0 : decode cJ0_length_8abf5 0 = .ok (.aload_n 0, 1) := by decide +kernel
theorem dJ0_length_8abf5_1 : decode cJ0_length_8abf5 1 = .ok (.getfield 9, 3) := by decide +kernel
theorem dJ0_length_8abf5_4 : decode cJ0_length_8abf5 4 = .ok (.arraylength, 1) := by decide +kernel
theorem dJ0_length_8abf5_5 : decode cJ0_length_8abf5 5 = .ok (.aload_n 0, 1) := by decide +kernel
theorem dJ0_length_8abf5_6 : decode cJ0_length_8abf5 6 = .ok (.invokevirtual 335, 3) := by decide +kernel
theorem dJ0_length_8abf5_9 : decode cJ0_length_8abf5 9 = .ok (.ishr, 1) := by decide +kernel
theorem dJ0_length_8abf5_10 : decode cJ0_length_8abf5 10 = .ok (.ireturn, 1) := by decide +kernel
theorem dJ1_charAt_3b067_0 : decode cJ1_charAt_3b067 0 = .ok (.iload_n 1, 1) := by decide +kernel
theorem dJ1_charAt_3b067_1 : decode cJ1_charAt_3b067 1 = .ok (.aload_n 0, 1) := by decide +kernel
theorem dJ1_charAt_3b067_2 : decode cJ1_charAt_3b067 2 = .ok (.arraylength, 1) := by decide +kernel
theorem dJ1_charAt_3b067_3 : decode cJ1_charAt_3b067 3 = .ok (.invokestatic 9, 3) := by decide +kernel
theorem dJ1_charAt_3b067_6 : decode cJ1_charAt_3b067 6 = .ok (.aload_n 0, 1) := by decide +kernel
theorem dJ1_charAt_3b067_7 : decode cJ1_charAt_3b067 7 = .ok (.iload_n 1, 1) := by decide +kernel
theorem dJ1_charAt_3b067_8 : decode cJ1_charAt_3b067 8 = .ok (.baload, 1) := by decide +kernel
theorem dJ1_charAt_3b067_9 : decode cJ1_charAt_3b067 9 = .ok (.sipush 255, 3) := by decide +kernel
theorem dJ1_charAt_3b067_12 : decode cJ1_charAt_3b067 12 = .ok (.iand, 1) := by decide +kernel
theorem dJ1_charAt_3b067_13 : decode cJ1_charAt_3b067 13 = .ok (.i2c, 1) := by decide +kernel
theorem dJ1_charAt_3b067_14 : decode cJ1_charAt_3b067 14 = .ok (.ireturn, 1) := by decide +kernel
theorem dJ3_checkIndex_8e157_0 : decode cJ3_checkIndex_8e157 0 = .ok (.iload_n 0, 1) := by decide +kernel
theorem dJ3_checkIndex_8e157_1 : decode cJ3_checkIndex_8e157 1 = .ok (.ifCond .lt 8, 3) := by decide +kernel
theorem dJ3_checkIndex_8e157_4 : decode cJ3_checkIndex_8e157 4 = .ok (.iload_n 0, 1) := by decide +kernel
theorem dJ3_checkIndex_8e157_5 : decode cJ3_checkIndex_8e157 5 = .ok (.iload_n 1, 1) := by decide +kernel
theorem dJ3_checkIndex_8e157_6 : decode cJ3_checkIndex_8e157 6 = .ok (.if_icmp .lt 10, 3) := by decide +kernel
theorem dJ3_checkIndex_8e157_16 : decode cJ3_checkIndex_8e157 16 = .ok (.iload_n 0, 1) := by decide +kernel
theorem dJ3_checkIndex_8e157_17 : decode cJ3_checkIndex_8e157 17 = .ok (.ireturn, 1) := by decide +kernel
theorem dX14_wordOf_0 : decode cX14_wordOf 0 = .ok (.lconst 0, 1) := by decide +kernel
theorem dX14_wordOf_1 : decode cX14_wordOf 1 = .ok (.lstore_n 1, 1) := by decide +kernel
theorem dX14_wordOf_2 : decode cX14_wordOf 2 = .ok (.iconst 0, 1) := by decide +kernel
theorem dX14_wordOf_3 : decode cX14_wordOf 3 = .ok (.istore_n 3, 1) := by decide +kernel
theorem dX14_wordOf_4 : decode cX14_wordOf 4 = .ok (.iload_n 3, 1) := by decide +kernel
theorem dX14_wordOf_5 : decode cX14_wordOf 5 = .ok (.aload_n 0, 1) := by decide +kernel
theorem dX14_wordOf_6 : decode cX14_wordOf 6 = .ok (.invokevirtual 138, 3) := by decide +kernel
theorem dX14_wordOf_9 : decode cX14_wordOf 9 = .ok (.if_icmp .ge 27, 3) := by decide +kernel
theorem dX14_wordOf_12 : decode cX14_wordOf 12 = .ok (.ldc2_w 144, 3) := by decide +kernel
theorem dX14_wordOf_15 : decode cX14_wordOf 15 = .ok (.lload_n 1, 1) := by decide +kernel
theorem dX14_wordOf_16 : decode cX14_wordOf 16 = .ok (.lmul, 1) := by decide +kernel
theorem dX14_wordOf_17 : decode cX14_wordOf 17 = .ok (.aload_n 0, 1) := by decide +kernel
theorem dX14_wordOf_18 : decode cX14_wordOf 18 = .ok (.iload_n 3, 1) := by decide +kernel
theorem dX14_wordOf_19 : decode cX14_wordOf 19 = .ok (.invokevirtual 146, 3) := by decide +kernel
theorem dX14_wordOf_22 : decode cX14_wordOf 22 = .ok (.bipush 97, 2) := by decide +kernel
theorem dX14_wordOf_24 : decode cX14_wordOf 24 = .ok (.isub, 1) := by decide +kernel
theorem dX14_wordOf_25 : decode cX14_wordOf 25 = .ok (.iconst 1, 1) := by decide +kernel
theorem dX14_wordOf_26 : decode cX14_wordOf 26 = .ok (.iadd, 1) := by decide +kernel
theorem dX14_wordOf_27 : decode cX14_wordOf 27 = .ok (.i2l, 1) := by decide +kernel
theorem dX14_wordOf_28 : decode cX14_wordOf 28 = .ok (.ladd, 1) := by decide +kernel
theorem dX14_wordOf_29 : decode cX14_wordOf 29 = .ok (.lstore_n 1, 1) := by decide +kernel
theorem dX14_wordOf_30 : decode cX14_wordOf 30 = .ok (.iinc 3 1, 3) := by decide +kernel
theorem dX14_wordOf_33 : decode cX14_wordOf 33 = .ok (.goto (-29), 3) := by decide +kernel
theorem dX14_wordOf_36 : decode cX14_wordOf 36 = .ok (.lload_n 1, 1) := by decide +kernel
theorem dX14_wordOf_37 : decode cX14_wordOf 37 = .ok (.lreturn, 1) := by decide +kernel
theorem tx_len : ∀ i, i < 34 → (txb i).length ≤ 8 := by decide +kernel
theorem tx_ch : ∀ i, i < 34 → ∀ j, j < (txb i).length → (((((txb i).getD j 0) &&& 255).toUInt32 % 65536).toInt32 = (txb i).getD j 0 ∧ narrow .char (.int ((txb i).getD j 0)) = .int ((txb i).getD j 0)) := by decide +kernel
theorem shr0 (x : Int32) : x >>> ((0 : Int32) &&& 31) = x := by
  rw [show ((0 : Int32) &&& 31) = 0 by decide]
  exact Int32.shiftRight_zero
def wordN (f : List Int32) : Nat → Int64
  | 0 => 0
  | k + 1 => 32 * wordN f k + (f.getD k 0 - 97 + 1).toInt64
set_option maxHeartbeats 4000000 in
set_option maxRecDepth 100000 in
theorem j_coder (l : Launch) (dC : Nat → ClassId) (dI : Nat → Nat → Nat) (n0 : Nat) (atx : Nat → Nat × Nat) (sz : Nat) (ti : Nat) (hti : ti < 34) : Met l yJ0_coder_7d493 (wM yJ0_coder_7d493 cJ0_coder_7d493 1 (some .byte)) ({ frames := 0, cells := 0, slots := 0, locals := 0 }) (va_Pc [.ref (atx ti).1] (fun U => U.heap.size = sz ∧ n0 ≤ sz ∧ GW n0 atx U ∧ va_P (dC, dI) classes [] U.heap ∧ va_K (dC, dI) classes [] U ∧ va_D (fun q => n0 ≤ q) [])) (va_Qi (fun (r : Int32) (_ : Unit) => r = 0) (fun (_ : Unit) (t : State) => va_P (dC, dI) classes [] t.heap ∧ va_K (dC, dI) classes [] t ∧ va_D (va_A [] sz) []) (va_A [] sz)) 0 0 (va_A [] sz) := by
  refine Met.ofW (cc := cJ0_coder_7d493) (maxL := 1) (ret := (some .byte)) (by decide) rfl ?_
  intro p e s m args below meth c s₁ B hml hv
  obtain ⟨rfl, hsz, hn0, hG, hP, hK, hD0⟩ := hv
  have hx := B.exec
  have hb := B.bytes
  have hr := B.returns
  have hts := atoms_spec (ws := wM yJ0_coder_7d493 cJ0_coder_7d493 1 (some .byte)) B.pre
  have hown : s.vm.findClass RJ0 = some m.cls := findClass_of_methodNamed B.named
  have hlocks := B.notSynchronized
  subst hsz
  have hD := hD0.self (sz := s.heap.size)
  have hA0 := vA_n0 hD0 hn0
  generalize hAe : va_A [] s.heap.size = A at hD hA0 ⊢
  have hA : ∀ q : Nat, s.heap.size ≤ q → A q := fun q h => by rw [← hAe]; exact Or.inr h
  have hS : va_S A s.heap s.heap [] := va_S.rf
  have hl := lv_entry ([.ref (atx ti).1]) (n := 1) (Nat.le_of_ble_eq_true rfl)
  rw [lg_entry_eq]
  generalize (lg_sl ([.ref (atx ti).1]) ++ List.replicate (1 - (lg_sl ([.ref (atx ti).1])).length) Slot.unset).toArray = ls at hl ⊢
  have hl : lv_has ls 1 [(0, .ref (atx ti).1)] := hl
  refine va_gets hx hb (hG.2.2.2.2.1.narrow hA0) hS hown (hts _ (wM_c wd_772)) (fun _ h => h) dJ0_coder_7d493_0 ?_
  refine lv_if_eq (tgt := 13) hx hb dJ0_coder_7d493_3 (by decide) (fun c_1 => ?_) (fun c_1 => ?_)
  · exact absurd c_1 (by decide)
  refine lv_aload_n hx hb dJ0_coder_7d493_6 rfl (lv_at hl 0 rfl) ?_
  refine vk_getf hx hb ((hG.txi (by first | with_reducible assumption | omega | exact vp_in_iff.mpr (by omega) | exact vp_in_nI (by omega) (by omega) | exact ⟨by omega, by omega⟩)).2.1.narrow hA0) hS hown (hts _ (wM_c wd_2130)) (fun _ h => h) dJ0_coder_7d493_7 ?_
  refine lv_goto (tgt := 14) hx hb dJ0_coder_7d493_10 (by decide) ?_
  have hK9 := hK.sub (tys' := []) [] rfl
  exact W.zret (v := 0) hx hb hr rfl (fun t ht hW => ⟨⟨0, (), rfl, rfl, by rw [ht]; exact hP.sub [] rfl, va_K.moved hW.alike hK9, hD.sub [] (by decide) rfl⟩, hS.F ht⟩) hS.2.2 dJ0_coder_7d493_14
set_option maxHeartbeats 4000000 in
set_option maxRecDepth 100000 in
theorem j_isLatin1 (l : Launch) (dC : Nat → ClassId) (dI : Nat → Nat → Nat) (n0 : Nat) (atx : Nat → Nat × Nat) (sz : Nat) (ti : Nat) (hti : ti < 34) : Met l yJ0_isLatin1_aae02 (wM yJ0_isLatin1_aae02 cJ0_isLatin1_aae02 1 (some .boolean)) ({ frames := 0, cells := 0, slots := 0, locals := 0 }) (va_Pc [.ref (atx ti).1] (fun U => U.heap.size = sz ∧ n0 ≤ sz ∧ GW n0 atx U ∧ va_P (dC, dI) classes [] U.heap ∧ va_K (dC, dI) classes [] U ∧ va_D (fun q => n0 ≤ q) [])) (va_Qi (fun (r : Int32) (_ : Unit) => r = 1) (fun (_ : Unit) (t : State) => va_P (dC, dI) classes [] t.heap ∧ va_K (dC, dI) classes [] t ∧ va_D (va_A [] sz) []) (va_A [] sz)) 0 0 (va_A [] sz) := by
  refine Met.ofW (cc := cJ0_isLatin1_aae02) (maxL := 1) (ret := (some .boolean)) (by decide) rfl ?_
  intro p e s m args below meth c s₁ B hml hv
  obtain ⟨rfl, hsz, hn0, hG, hP, hK, hD0⟩ := hv
  have hx := B.exec
  have hb := B.bytes
  have hr := B.returns
  have hts := atoms_spec (ws := wM yJ0_isLatin1_aae02 cJ0_isLatin1_aae02 1 (some .boolean)) B.pre
  have hown : s.vm.findClass RJ0 = some m.cls := findClass_of_methodNamed B.named
  have hlocks := B.notSynchronized
  subst hsz
  have hD := hD0.self (sz := s.heap.size)
  have hA0 := vA_n0 hD0 hn0
  generalize hAe : va_A [] s.heap.size = A at hD hA0 ⊢
  have hA : ∀ q : Nat, s.heap.size ≤ q → A q := fun q h => by rw [← hAe]; exact Or.inr h
  have hS : va_S A s.heap s.heap [] := va_S.rf
  have hl := lv_entry ([.ref (atx ti).1]) (n := 1) (Nat.le_of_ble_eq_true rfl)
  rw [lg_entry_eq]
  generalize (lg_sl ([.ref (atx ti).1]) ++ List.replicate (1 - (lg_sl ([.ref (atx ti).1])).length) Slot.unset).toArray = ls at hl ⊢
  have hl : lv_has ls 1 [(0, .ref (atx ti).1)] := hl
  refine va_gets hx hb (hG.2.2.2.2.1.narrow hA0) hS hown (hts _ (wM_c wd_772)) (fun _ h => h) dJ0_isLatin1_aae02_0 ?_
  refine lv_if_eq (tgt := 17) hx hb dJ0_isLatin1_aae02_3 (by decide) (fun c_1 => ?_) (fun c_1 => ?_)
  · exact absurd c_1 (by decide)
  refine lv_aload_n hx hb dJ0_isLatin1_aae02_6 rfl (lv_at hl 0 rfl) ?_
  refine vk_getf hx hb ((hG.txi (by first | with_reducible assumption | omega | exact vp_in_iff.mpr (by omega) | exact vp_in_nI (by omega) (by omega) | exact ⟨by omega, by omega⟩)).2.1.narrow hA0) hS hown (hts _ (wM_c wd_2130)) (fun _ h => h) dJ0_isLatin1_aae02_7 ?_
  refine lv_if_ne (tgt := 17) hx hb dJ0_isLatin1_aae02_10 (by decide) (fun c_2 => ?_) (fun c_2 => ?_)
  · exact absurd c_2 (by decide)
  refine lv_iconst (v := 1) hx hb dJ0_isLatin1_aae02_13 (by decide) ?_
  refine lv_goto (tgt := 18) hx hb dJ0_isLatin1_aae02_14 (by decide) ?_
  have hK9 := hK.sub (tys' := []) [] rfl
  exact W.zret (v := 1) hx hb hr rfl (fun t ht hW => ⟨⟨1, (), rfl, rfl, by rw [ht]; exact hP.sub [] rfl, va_K.moved hW.alike hK9, hD.sub [] (by decide) rfl⟩, hS.F ht⟩) hS.2.2 dJ0_isLatin1_aae02_18
set_option maxHeartbeats 4000000 in
set_option maxRecDepth 100000 in
theorem j_length (l : Launch) (dC : Nat → ClassId) (dI : Nat → Nat → Nat) (n0 : Nat) (atx : Nat → Nat × Nat) (sz : Nat) (ti : Nat) (hti : ti < 34) : Met l yJ0_length_8abf5 (wM yJ0_length_8abf5 cJ0_length_8abf5 1 (some .int)) ({ frames := 1, cells := 0, slots := 0, locals := 20 }) (va_Pc [.ref (atx ti).1] (fun U => U.heap.size = sz ∧ n0 ≤ sz ∧ GW n0 atx U ∧ va_P (dC, dI) classes [] U.heap ∧ va_K (dC, dI) classes [] U ∧ va_D (fun q => n0 ≤ q) [])) (va_Qi (fun (r : Int32) (_ : Unit) => r = nI (txb ti).length) (fun (_ : Unit) (t : State) => va_P (dC, dI) classes [] t.heap ∧ va_K (dC, dI) classes [] t ∧ va_D (va_A [] sz) []) (va_A [] sz)) 0 0 (va_A [] sz) := by
  refine Met.ofW (cc := cJ0_length_8abf5) (maxL := 1) (ret := (some .int)) (by decide) rfl ?_
  intro p e s m args below meth c s₁ B hml hv
  obtain ⟨rfl, hsz, hn0, hG, hP, hK, hD0⟩ := hv
  have hx := B.exec
  have hb := B.bytes
  have hr := B.returns
  have hts := atoms_spec (ws := wM yJ0_length_8abf5 cJ0_length_8abf5 1 (some .int)) B.pre
  have hown : s.vm.findClass RJ0 = some m.cls := findClass_of_methodNamed B.named
  have hlocks := B.notSynchronized
  subst hsz
  have hD := hD0.self (sz := s.heap.size)
  have hA0 := vA_n0 hD0 hn0
  generalize hAe : va_A [] s.heap.size = A at hD hA0 ⊢
  have hA : ∀ q : Nat, s.heap.size ≤ q → A q := fun q h => by rw [← hAe]; exact Or.inr h
  have hS : va_S A s.heap s.heap [] := va_S.rf
  have hl := lv_entry ([.ref (atx ti).1]) (n := 1) (Nat.le_of_ble_eq_true rfl)
  rw [lg_entry_eq]
  generalize (lg_sl ([.ref (atx ti).1]) ++ List.replicate (1 - (lg_sl ([.ref (atx ti).1])).length) Slot.unset).toArray = ls at hl ⊢
  have hl : lv_has ls 1 [(0, .ref (atx ti).1)] := hl
  refine lv_aload_n hx hb dJ0_length_8abf5_0 rfl (lv_at hl 0 rfl) ?_
  refine vk_getf hx hb ((hG.txi (by first | with_reducible assumption | omega | exact vp_in_iff.mpr (by omega) | exact vp_in_nI (by omega) (by omega) | exact ⟨by omega, by omega⟩)).2.2.1.narrow hA0) hS hown (hts _ (wM_c wd_2129)) (fun _ h => h) dJ0_length_8abf5_1 ?_
  refine va_tlen (v := nI (txb ti).length) hx hb ((hG.txi (by first | with_reducible assumption | omega | exact vp_in_iff.mpr (by omega) | exact vp_in_nI (by omega) (by omega) | exact ⟨by omega, by omega⟩)).2.2.2.narrow hA0) hS rfl dJ0_length_8abf5_4 ?_
  refine lv_aload_n hx hb dJ0_length_8abf5_5 rfl (lv_at hl 0 rfl) ?_
  obtain ⟨hPc, hDc, hFc⟩ := s3_c (ws' := []) [] hP hD hS hA rfl (by decide)
  have hKc := hK.sub (tys' := []) [] rfl
  refine va_calli (va_runV (As := []) (rest := [.int (nI (txb ti).length)]) ⟨hx, hb, hml, hown, hts⟩ (j_coder l dC dI n0 atx s.heap.size ti (by first | with_reducible assumption | omega | exact vp_in_iff.mpr (by omega) | exact vp_in_nI (by omega) (by omega) | exact ⟨by omega, by omega⟩)) (cwV 0 hts (gV (fun w h => wM_c h) wd_771 wd_768 wd_769 wd_770 wd_132) rfl rfl rfl (by decide +kernel) ⟨Nat.le_of_ble_eq_true rfl, Nat.le_of_ble_eq_true rfl⟩) ⟨fun a U g mk q => by obtain ⟨q0, q1, q2, qG, qP, qK, qD⟩ := q; exact ⟨q0, q1, q2, GW.blind qG, qP, va_K.moved (u := U) (U := U.calling g mk a) (Vm.Alike.refl U.vm) qK, qD⟩, (by obtain ⟨cell, h1, h2, h3, -⟩ := ((hG.txi (by first | with_reducible assumption | omega | exact vp_in_iff.mpr (by omega) | exact vp_in_nI (by omega) (by omega) | exact ⟨by omega, by omega⟩)).1.narrow hA0).kept hS.2.1; exact ⟨cell, h1, h2, h3⟩), fun U hU hW => ⟨rfl, by rw [hU], Nat.le_trans hn0 hS.1, GW.go hW hU hG (fun q hq hA9 => hS.2.1 q hq (fun h => hA9 (hA0 q h))), by rw [hU]; exact hPc, va_K.moved hW.alike hKc, hDc.weaken (fun _ _ _ h => hA0 _ h)⟩⟩ rfl rfl hl.1 rfl (lv_room (Nat.le_of_ble_eq_true rfl)) dJ0_length_8abf5_6 ⟨Nat.le_of_ble_eq_true rfl, Nat.le_of_ble_eq_true rfl⟩) hS (fun q _ h => hFc q h) hFc (fun r_1 u t H1 locs ht hvm hw_2 hB hz1 hk1 hS => ?_)
  obtain ⟨hP1, hK1, hD1⟩ := hB
  rw [ht] at hP1
  obtain ⟨hP, hD⟩ := s3_j (L := []) 0 hP hD [] [] hk1 hFc hP1 hD1 rfl rfl rfl (by decide) (by decide)
  generalize H1 = H at hP hS ⊢
  obtain rfl : r_1 = 0 := hw_2
  refine lv_ishr hx hb dJ0_length_8abf5_9 ?_
  refine lv_topi (fun v_3 ev_3 => ?_)
  have hK9 := hK.sub (tys' := []) [] rfl
  exact W.iret (v := v_3) hx hb hr (fun t ht hW => ⟨⟨v_3, (), rfl, (ev_3.trans (shr0 _)), by rw [ht]; exact hP.sub [] rfl, va_K.moved hW.alike hK9, hD.sub [] (by decide) rfl⟩, hS.F ht⟩) hS.2.2 dJ0_length_8abf5_10
set_option maxHeartbeats 4000000 in
set_option maxRecDepth 100000 in
theorem j_chkN (l : Launch) (dC : Nat → ClassId) (dI : Nat → Nat → Nat) (n0 : Nat) (atx : Nat → Nat × Nat) (sz : Nat) (k : Nat) (n : Nat) (hk : k < n) (hn : n ≤ 8) : Met l yJ3_checkIndex_8e157 (wM yJ3_checkIndex_8e157 cJ3_checkIndex_8e157 3 (some .int)) ({ frames := 0, cells := 0, slots := 0, locals := 0 }) (va_Pc [.int (nI k), .int (nI n), .null] (fun U => U.heap.size = sz ∧ n0 ≤ sz ∧ GW n0 atx U ∧ va_P (dC, dI) classes [] U.heap ∧ va_K (dC, dI) classes [] U ∧ va_D (fun q => n0 ≤ q) [])) (va_Qi (fun (r : Int32) (_ : Unit) => True) (fun (_ : Unit) (t : State) => va_P (dC, dI) classes [] t.heap ∧ va_K (dC, dI) classes [] t ∧ va_D (va_A [] sz) []) (va_A [] sz)) 0 0 (va_A [] sz) := by
  refine Met.ofW (cc := cJ3_checkIndex_8e157) (maxL := 3) (ret := (some .int)) (by decide) rfl ?_
  intro p e s m args below meth c s₁ B hml hv
  obtain ⟨rfl, hsz, hn0, hG, hP, hK, hD0⟩ := hv
  have hx := B.exec
  have hb := B.bytes
  have hr := B.returns
  have hts := atoms_spec (ws := wM yJ3_checkIndex_8e157 cJ3_checkIndex_8e157 3 (some .int)) B.pre
  have hown : s.vm.findClass RJ3 = some m.cls := findClass_of_methodNamed B.named
  have hlocks := B.notSynchronized
  subst hsz
  have hD := hD0.self (sz := s.heap.size)
  have hA0 := vA_n0 hD0 hn0
  generalize hAe : va_A [] s.heap.size = A at hD hA0 ⊢
  have hA : ∀ q : Nat, s.heap.size ≤ q → A q := fun q h => by rw [← hAe]; exact Or.inr h
  have hS : va_S A s.heap s.heap [] := va_S.rf
  have hl := lv_entry ([.int (nI k), .int (nI n), .null]) (n := 3) (Nat.le_of_ble_eq_true rfl)
  rw [lg_entry_eq]
  generalize (lg_sl ([.int (nI k), .int (nI n), .null]) ++ List.replicate (3 - (lg_sl ([.int (nI k), .int (nI n), .null])).length) Slot.unset).toArray = ls at hl ⊢
  have hl : lv_has ls 3 [(0, .int (nI k)), (1, .int (nI n)), (2, .null)] := hl
  refine lv_iload_n hx hb dJ3_checkIndex_8e157_0 rfl (lv_at hl 0 rfl) ?_
  refine lv_if_lt (tgt := 9) hx hb dJ3_checkIndex_8e157_1 (by decide) (fun c_1 => ?_) (fun c_1 => ?_)
  · exact absurd c_1 (nI_pos (by omega))
  refine lv_iload_n hx hb dJ3_checkIndex_8e157_4 rfl (lv_at hl 0 rfl) ?_
  refine lv_iload_n hx hb dJ3_checkIndex_8e157_5 rfl (lv_at hl 1 rfl) ?_
  refine lv_icmp_lt (tgt := 16) hx hb dJ3_checkIndex_8e157_6 (by decide) (fun c_2 => ?_) (fun c_2 => ?_)
  · skip
    refine lv_iload_n hx hb dJ3_checkIndex_8e157_16 rfl (lv_at hl 0 rfl) ?_
    have hK9 := hK.sub (tys' := []) [] rfl
    exact W.iret (v := (nI k)) hx hb hr (fun t ht hW => ⟨⟨(nI k), (), rfl, trivial, by rw [ht]; exact hP.sub [] rfl, va_K.moved hW.alike hK9, hD.sub [] (by decide) rfl⟩, hS.F ht⟩) hS.2.2 dJ3_checkIndex_8e157_17
  · exact absurd (nI_lt (a := k) (b := n) (by omega) (by omega)) c_2
set_option maxHeartbeats 4000000 in
set_option maxRecDepth 100000 in
theorem j_chkR (l : Launch) (dC : Nat → ClassId) (dI : Nat → Nat → Nat) (n0 : Nat) (atx : Nat → Nat × Nat) (sz : Nat) (k : Nat) (n : Nat) (fz : Nat) (hk : k < n) (hn : n ≤ 8) : Met l yJ3_checkIndex_8e157 (wM yJ3_checkIndex_8e157 cJ3_checkIndex_8e157 3 (some .int)) ({ frames := 0, cells := 0, slots := 0, locals := 0 }) (va_Pc [.int (nI k), .int (nI n), .ref fz] (fun U => U.heap.size = sz ∧ n0 ≤ sz ∧ GW n0 atx U ∧ va_P (dC, dI) classes [] U.heap ∧ va_K (dC, dI) classes [] U ∧ va_D (fun q => n0 ≤ q) [])) (va_Qi (fun (r : Int32) (_ : Unit) => True) (fun (_ : Unit) (t : State) => va_P (dC, dI) classes [] t.heap ∧ va_K (dC, dI) classes [] t ∧ va_D (va_A [] sz) []) (va_A [] sz)) 0 0 (va_A [] sz) := by
  refine Met.ofW (cc := cJ3_checkIndex_8e157) (maxL := 3) (ret := (some .int)) (by decide) rfl ?_
  intro p e s m args below meth c s₁ B hml hv
  obtain ⟨rfl, hsz, hn0, hG, hP, hK, hD0⟩ := hv
  have hx := B.exec
  have hb := B.bytes
  have hr := B.returns
  have hts := atoms_spec (ws := wM yJ3_checkIndex_8e157 cJ3_checkIndex_8e157 3 (some .int)) B.pre
  have hown : s.vm.findClass RJ3 = some m.cls := findClass_of_methodNamed B.named
  have hlocks := B.notSynchronized
  subst hsz
  have hD := hD0.self (sz := s.heap.size)
  have hA0 := vA_n0 hD0 hn0
  generalize hAe : va_A [] s.heap.size = A at hD hA0 ⊢
  have hA : ∀ q : Nat, s.heap.size ≤ q → A q := fun q h => by rw [← hAe]; exact Or.inr h
  have hS : va_S A s.heap s.heap [] := va_S.rf
  have hl := lv_entry ([.int (nI k), .int (nI n), .ref fz]) (n := 3) (Nat.le_of_ble_eq_true rfl)
  rw [lg_entry_eq]
  generalize (lg_sl ([.int (nI k), .int (nI n), .ref fz]) ++ List.replicate (3 - (lg_sl ([.int (nI k), .int (nI n), .ref fz])).length) Slot.unset).toArray = ls at hl ⊢
  have hl : lv_has ls 3 [(0, .int (nI k)), (1, .int (nI n)), (2, .ref fz)] := hl
  refine lv_iload_n hx hb dJ3_checkIndex_8e157_0 rfl (lv_at hl 0 rfl) ?_
  refine lv_if_lt (tgt := 9) hx hb dJ3_checkIndex_8e157_1 (by decide) (fun c_1 => ?_) (fun c_1 => ?_)
  · exact absurd c_1 (nI_pos (by omega))
  refine lv_iload_n hx hb dJ3_checkIndex_8e157_4 rfl (lv_at hl 0 rfl) ?_
  refine lv_iload_n hx hb dJ3_checkIndex_8e157_5 rfl (lv_at hl 1 rfl) ?_
  refine lv_icmp_lt (tgt := 16) hx hb dJ3_checkIndex_8e157_6 (by decide) (fun c_2 => ?_) (fun c_2 => ?_)
  · skip
    refine lv_iload_n hx hb dJ3_checkIndex_8e157_16 rfl (lv_at hl 0 rfl) ?_
    have hK9 := hK.sub (tys' := []) [] rfl
    exact W.iret (v := (nI k)) hx hb hr (fun t ht hW => ⟨⟨(nI k), (), rfl, trivial, by rw [ht]; exact hP.sub [] rfl, va_K.moved hW.alike hK9, hD.sub [] (by decide) rfl⟩, hS.F ht⟩) hS.2.2 dJ3_checkIndex_8e157_17
  · exact absurd (nI_lt (a := k) (b := n) (by omega) (by omega)) c_2
set_option maxHeartbeats 4000000 in
set_option maxRecDepth 100000 in
theorem j_check (l : Launch) (dC : Nat → ClassId) (dI : Nat → Nat → Nat) (n0 : Nat) (atx : Nat → Nat × Nat) (sz : Nat) (k : Nat) (n : Nat) (hk : k < n) (hn : n ≤ 8) : Met l yJ0_checkIndex_df160 (wM yJ0_checkIndex_df160 cJ0_checkIndex_df160 2 none) ({ frames := 1, cells := 0, slots := 0, locals := 22 }) (va_Pc [.int (nI k), .int (nI n)] (fun U => U.heap.size = sz ∧ n0 ≤ sz ∧ GW n0 atx U ∧ va_P (dC, dI) classes [] U.heap ∧ va_K (dC, dI) classes [] U ∧ va_D (fun q => n0 ≤ q) [])) (va_Qv (fun _ : Unit => True) (fun (_ : Unit) (t : State) => va_P (dC, dI) classes [] t.heap ∧ va_K (dC, dI) classes [] t ∧ va_D (va_A [] sz) []) (va_A [] sz)) 0 0 (va_A [] sz) := by
  refine Met.ofW (cc := cJ0_checkIndex_df160) (maxL := 2) (ret := none) (by decide) rfl ?_
  intro p e s m args below meth c s₁ B hml hv
  obtain ⟨rfl, hsz, hn0, hG, hP, hK, hD0⟩ := hv
  have hx := B.exec
  have hb := B.bytes
  have hr := B.returns
  have hts := atoms_spec (ws := wM yJ0_checkIndex_df160 cJ0_checkIndex_df160 2 none) B.pre
  have hown : s.vm.findClass RJ0 = some m.cls := findClass_of_methodNamed B.named
  have hlocks := B.notSynchronized
  subst hsz
  have hD := hD0.self (sz := s.heap.size)
  have hA0 := vA_n0 hD0 hn0
  generalize hAe : va_A [] s.heap.size = A at hD hA0 ⊢
  have hA : ∀ q : Nat, s.heap.size ≤ q → A q := fun q h => by rw [← hAe]; exact Or.inr h
  have hS : va_S A s.heap s.heap [] := va_S.rf
  have hl := lv_entry ([.int (nI k), .int (nI n)]) (n := 2) (Nat.le_of_ble_eq_true rfl)
  rw [lg_entry_eq]
  generalize (lg_sl ([.int (nI k), .int (nI n)]) ++ List.replicate (2 - (lg_sl ([.int (nI k), .int (nI n)])).length) Slot.unset).toArray = ls at hl ⊢
  have hl : lv_has ls 2 [(0, .int (nI k)), (1, .int (nI n))] := hl
  refine lv_iload_n hx hb dJ0_checkIndex_df160_0 rfl (lv_at hl 0 rfl) ?_
  refine lv_iload_n hx hb dJ0_checkIndex_df160_1 rfl (lv_at hl 1 rfl) ?_
  rcases hG.2.2.2.2.2.1 with hZ | ⟨z_1, hZ⟩
  · refine va_gets hx hb (hZ.narrow hA0) hS hown (hts _ (wM_c wd_788)) (fun _ h => h) dJ0_checkIndex_df160_2 ?_
    obtain ⟨hPc, hDc, hFc⟩ := s3_c (ws' := []) [] hP hD hS hA rfl (by decide)
    have hKc := hK.sub (tys' := []) [] rfl
    refine va_calli (va_runS (As := [.int (nI k), .int (nI n), .null]) (rest := []) ⟨hx, hb, hml, hown, hts⟩ (j_chkN l dC dI n0 atx s.heap.size k n (by first | with_reducible assumption | omega | exact vp_in_iff.mpr (by omega) | exact vp_in_nI (by omega) (by omega) | exact ⟨by omega, by omega⟩) (by first | with_reducible assumption | omega | exact vp_in_iff.mpr (by omega) | exact vp_in_nI (by omega) (by omega) | exact ⟨by omega, by omega⟩)) (va_cwS 3 hts (gS (fun w h => wM_c h) wd_792 wd_790 wd_791 wd_134) rfl rfl rfl (by decide +kernel) ⟨Nat.le_of_ble_eq_true rfl, Nat.le_of_ble_eq_true rfl⟩) ⟨fun a U g mk q => by obtain ⟨q0, q1, q2, qG, qP, qK, qD⟩ := q; exact ⟨q0, q1, q2, GW.blind qG, qP, va_K.moved (u := U) (U := U.calling g mk a) (Vm.Alike.refl U.vm) qK, qD⟩, fun U hU hW => ⟨rfl, by rw [hU], Nat.le_trans hn0 hS.1, GW.go hW hU hG (fun q hq hA9 => hS.2.1 q hq (fun h => hA9 (hA0 q h))), by rw [hU]; exact hPc, va_K.moved hW.alike hKc, hDc.weaken (fun _ _ _ h => hA0 _ h)⟩⟩ rfl rfl hl.1 rfl (lv_room (Nat.le_of_ble_eq_true rfl)) dJ0_checkIndex_df160_5 ⟨Nat.le_of_ble_eq_true rfl, Nat.le_of_ble_eq_true rfl⟩) hS (fun q _ h => hFc q h) hFc (fun r_2 u t H1 locs ht hvm hw_3 hB hz1 hk1 hS => ?_)
    obtain ⟨hP1, hK1, hD1⟩ := hB
    rw [ht] at hP1
    obtain ⟨hP, hD⟩ := s3_j (L := []) 0 hP hD [] [] hk1 hFc hP1 hD1 rfl rfl rfl (by decide) (by decide)
    generalize H1 = H at hP hS ⊢
    refine lv_pop hx hb dJ0_checkIndex_df160_8 rfl ?_
    have hK9 := hK.sub (tys' := []) [] rfl
    exact W.vret hx hb hr (fun t ht hW => ⟨⟨(), rfl, trivial, by rw [ht]; exact hP.sub [] rfl, va_K.moved hW.alike hK9, hD.sub [] (by decide) rfl⟩, hS.F ht⟩) hS.2.2 dJ0_checkIndex_df160_9
  · refine va_gets hx hb (hZ.narrow hA0) hS hown (hts _ (wM_c wd_788)) (fun _ h => h) dJ0_checkIndex_df160_2 ?_
    obtain ⟨hPc, hDc, hFc⟩ := s3_c (ws' := []) [] hP hD hS hA rfl (by decide)
    have hKc := hK.sub (tys' := []) [] rfl
    refine va_calli (va_runS (As := [.int (nI k), .int (nI n), .ref z_1]) (rest := []) ⟨hx, hb, hml, hown, hts⟩ (j_chkR l dC dI n0 atx s.heap.size k n z_1 (by first | with_reducible assumption | omega | exact vp_in_iff.mpr (by omega) | exact vp_in_nI (by omega) (by omega) | exact ⟨by omega, by omega⟩) (by first | with_reducible assumption | omega | exact vp_in_iff.mpr (by omega) | exact vp_in_nI (by omega) (by omega) | exact ⟨by omega, by omega⟩)) (va_cwS 3 hts (gS (fun w h => wM_c h) wd_792 wd_790 wd_791 wd_134) rfl rfl rfl (by decide +kernel) ⟨Nat.le_of_ble_eq_true rfl, Nat.le_of_ble_eq_true rfl⟩) ⟨fun a U g mk q => by obtain ⟨q0, q1, q2, qG, qP, qK, qD⟩ := q; exact ⟨q0, q1, q2, GW.blind qG, qP, va_K.moved (u := U) (U := U.calling g mk a) (Vm.Alike.refl U.vm) qK, qD⟩, fun U hU hW => ⟨rfl, by rw [hU], Nat.le_trans hn0 hS.1, GW.go hW hU hG (fun q hq hA9 => hS.2.1 q hq (fun h => hA9 (hA0 q h))), by rw [hU]; exact hPc, va_K.moved hW.alike hKc, hDc.weaken (fun _ _ _ h => hA0 _ h)⟩⟩ rfl rfl hl.1 rfl (lv_room (Nat.le_of_ble_eq_true rfl)) dJ0_checkIndex_df160_5 ⟨Nat.le_of_ble_eq_true rfl, Nat.le_of_ble_eq_true rfl⟩) hS (fun q _ h => hFc q h) hFc (fun r_4 u t H1 locs ht hvm hw_5 hB hz1 hk1 hS => ?_)
    obtain ⟨hP1, hK1, hD1⟩ := hB
    rw [ht] at hP1
    obtain ⟨hP, hD⟩ := s3_j (L := []) 0 hP hD [] [] hk1 hFc hP1 hD1 rfl rfl rfl (by decide) (by decide)
    generalize H1 = H at hP hS ⊢
    refine lv_pop hx hb dJ0_checkIndex_df160_8 rfl ?_
    have hK9 := hK.sub (tys' := []) [] rfl
    exact W.vret hx hb hr (fun t ht hW => ⟨⟨(), rfl, trivial, by rw [ht]; exact hP.sub [] rfl, va_K.moved hW.alike hK9, hD.sub [] (by decide) rfl⟩, hS.F ht⟩) hS.2.2 dJ0_checkIndex_df160_9
set_option maxHeartbeats 4000000 in
set_option maxRecDepth 100000 in
theorem j_charAt1 (l : Launch) (dC : Nat → ClassId) (dI : Nat → Nat → Nat) (n0 : Nat) (atx : Nat → Nat × Nat) (sz : Nat) (ti : Nat) (k : Nat) (hti : ti < 34) (hk : k < (txb ti).length) : Met l yJ1_charAt_3b067 (wM yJ1_charAt_3b067 cJ1_charAt_3b067 2 (some .char)) ({ frames := 2, cells := 0, slots := 0, locals := 43 }) (va_Pc [.ref (atx ti).2, .int (nI k)] (fun U => U.heap.size = sz ∧ n0 ≤ sz ∧ GW n0 atx U ∧ va_P (dC, dI) classes [] U.heap ∧ va_K (dC, dI) classes [] U ∧ va_D (fun q => n0 ≤ q) [])) (va_Qi (fun (r : Int32) (_ : Unit) => r = (txb ti).getD k 0) (fun (_ : Unit) (t : State) => va_P (dC, dI) classes [] t.heap ∧ va_K (dC, dI) classes [] t ∧ va_D (va_A [] sz) []) (va_A [] sz)) 0 0 (va_A [] sz) := by
  refine Met.ofW (cc := cJ1_charAt_3b067) (maxL := 2) (ret := (some .char)) (by decide) rfl ?_
  intro p e s m args below meth c s₁ B hml hv
  obtain ⟨rfl, hsz, hn0, hG, hP, hK, hD0⟩ := hv
  have hx := B.exec
  have hb := B.bytes
  have hr := B.returns
  have hts := atoms_spec (ws := wM yJ1_charAt_3b067 cJ1_charAt_3b067 2 (some .char)) B.pre
  have hown : s.vm.findClass RJ1 = some m.cls := findClass_of_methodNamed B.named
  have hlocks := B.notSynchronized
  subst hsz
  have hD := hD0.self (sz := s.heap.size)
  have hA0 := vA_n0 hD0 hn0
  generalize hAe : va_A [] s.heap.size = A at hD hA0 ⊢
  have hA : ∀ q : Nat, s.heap.size ≤ q → A q := fun q h => by rw [← hAe]; exact Or.inr h
  have hS : va_S A s.heap s.heap [] := va_S.rf
  have hl := lv_entry ([.ref (atx ti).2, .int (nI k)]) (n := 2) (Nat.le_of_ble_eq_true rfl)
  rw [lg_entry_eq]
  generalize (lg_sl ([.ref (atx ti).2, .int (nI k)]) ++ List.replicate (2 - (lg_sl ([.ref (atx ti).2, .int (nI k)])).length) Slot.unset).toArray = ls at hl ⊢
  have hl : lv_has ls 2 [(0, .ref (atx ti).2), (1, .int (nI k))] := hl
  have hL := tx_len ti hti
  refine lv_iload_n hx hb dJ1_charAt_3b067_0 rfl (lv_at hl 1 rfl) ?_
  refine lv_aload_n hx hb dJ1_charAt_3b067_1 rfl (lv_at hl 0 rfl) ?_
  refine va_tlen (v := nI (txb ti).length) hx hb ((hG.txi (by first | with_reducible assumption | omega | exact vp_in_iff.mpr (by omega) | exact vp_in_nI (by omega) (by omega) | exact ⟨by omega, by omega⟩)).2.2.2.narrow hA0) hS rfl dJ1_charAt_3b067_2 ?_
  obtain ⟨hPc, hDc, hFc⟩ := s3_c (ws' := []) [] hP hD hS hA rfl (by decide)
  have hKc := hK.sub (tys' := []) [] rfl
  refine va_callv (va_runS (As := [.int (nI k), .int (nI (txb ti).length)]) (rest := []) ⟨hx, hb, hml, hown, hts⟩ (j_check l dC dI n0 atx s.heap.size k ((txb ti).length) (by first | with_reducible assumption | omega | exact vp_in_iff.mpr (by omega) | exact vp_in_nI (by omega) (by omega) | exact ⟨by omega, by omega⟩) (by first | with_reducible assumption | omega | exact vp_in_iff.mpr (by omega) | exact vp_in_nI (by omega) (by omega) | exact ⟨by omega, by omega⟩)) (va_cwS 2 hts (gS (fun w h => wM_c h) wd_787 wd_785 wd_786 wd_132) rfl rfl rfl (by decide +kernel) ⟨Nat.le_of_ble_eq_true rfl, Nat.le_of_ble_eq_true rfl⟩) ⟨fun a U g mk q => by obtain ⟨q0, q1, q2, qG, qP, qK, qD⟩ := q; exact ⟨q0, q1, q2, GW.blind qG, qP, va_K.moved (u := U) (U := U.calling g mk a) (Vm.Alike.refl U.vm) qK, qD⟩, fun U hU hW => ⟨rfl, by rw [hU], Nat.le_trans hn0 hS.1, GW.go hW hU hG (fun q hq hA9 => hS.2.1 q hq (fun h => hA9 (hA0 q h))), by rw [hU]; exact hPc, va_K.moved hW.alike hKc, hDc.weaken (fun _ _ _ h => hA0 _ h)⟩⟩ rfl rfl hl.1 rfl (lv_room (Nat.le_of_ble_eq_true rfl)) dJ1_charAt_3b067_3 ⟨Nat.le_of_ble_eq_true rfl, Nat.le_of_ble_eq_true rfl⟩) hS (fun q _ h => hFc q h) hFc (fun u t H1 locs ht hvm hw_2 hB hz1 hk1 hS => ?_)
  obtain ⟨hP1, hK1, hD1⟩ := hB
  rw [ht] at hP1
  obtain ⟨hP, hD⟩ := s3_j (L := []) 0 hP hD [] [] hk1 hFc hP1 hD1 rfl rfl rfl (by decide) (by decide)
  generalize H1 = H at hP hS ⊢
  refine lv_aload_n hx hb dJ1_charAt_3b067_6 rfl (lv_at hl 0 rfl) ?_
  refine lv_iload_n hx hb dJ1_charAt_3b067_7 rfl (lv_at hl 1 rfl) ?_
  refine va_tb hx hb ((hG.txi (by first | with_reducible assumption | omega | exact vp_in_iff.mpr (by omega) | exact vp_in_nI (by omega) (by omega) | exact ⟨by omega, by omega⟩)).2.2.2.narrow hA0) hS (vp_in_nI (by omega) (by omega)) rfl dJ1_charAt_3b067_8 ?_
  refine lv_topi (fun v_3 ev_3 => ?_)
  have nv_3 : v_3 = (txb ti).getD k 0 := by rw [ev_3, nI_clamp (by omega)]
  refine lv_sipush (v := 255) hx hb dJ1_charAt_3b067_9 (by decide) ?_
  refine lv_iand hx hb dJ1_charAt_3b067_12 ?_
  refine lv_topi (fun v_4 ev_4 => ?_)
  refine lv_i2c hx hb dJ1_charAt_3b067_13 rfl ?_
  refine lv_topi (fun v_5 ev_5 => ?_)
  have hK9 := hK.sub (tys' := []) [] rfl
  exact W.zret (v := v_5) hx hb hr (by rw [ev_5, ev_4, nv_3, (tx_ch ti hti k hk).1]; exact (tx_ch ti hti k hk).2) (fun t ht hW => ⟨⟨v_5, (), rfl, (by rw [ev_5, ev_4, nv_3]; exact (tx_ch ti hti k hk).1), by rw [ht]; exact hP.sub [] rfl, va_K.moved hW.alike hK9, hD.sub [] (by decide) rfl⟩, hS.F ht⟩) hS.2.2 dJ1_charAt_3b067_14
set_option maxHeartbeats 4000000 in
set_option maxRecDepth 100000 in
theorem j_charAt (l : Launch) (dC : Nat → ClassId) (dI : Nat → Nat → Nat) (n0 : Nat) (atx : Nat → Nat × Nat) (sz : Nat) (ti : Nat) (k : Nat) (hti : ti < 34) (hk : k < (txb ti).length) : Met l yJ0_charAt_5068e (wM yJ0_charAt_5068e cJ0_charAt_5068e 2 (some .char)) ({ frames := 3, cells := 0, slots := 0, locals := 64 }) (va_Pc [.ref (atx ti).1, .int (nI k)] (fun U => U.heap.size = sz ∧ n0 ≤ sz ∧ GW n0 atx U ∧ va_P (dC, dI) classes [] U.heap ∧ va_K (dC, dI) classes [] U ∧ va_D (fun q => n0 ≤ q) [])) (va_Qi (fun (r : Int32) (_ : Unit) => r = (txb ti).getD k 0) (fun (_ : Unit) (t : State) => va_P (dC, dI) classes [] t.heap ∧ va_K (dC, dI) classes [] t ∧ va_D (va_A [] sz) []) (va_A [] sz)) 0 0 (va_A [] sz) := by
  refine Met.ofW (cc := cJ0_charAt_5068e) (maxL := 2) (ret := (some .char)) (by decide) rfl ?_
  intro p e s m args below meth c s₁ B hml hv
  obtain ⟨rfl, hsz, hn0, hG, hP, hK, hD0⟩ := hv
  have hx := B.exec
  have hb := B.bytes
  have hr := B.returns
  have hts := atoms_spec (ws := wM yJ0_charAt_5068e cJ0_charAt_5068e 2 (some .char)) B.pre
  have hown : s.vm.findClass RJ0 = some m.cls := findClass_of_methodNamed B.named
  have hlocks := B.notSynchronized
  subst hsz
  have hD := hD0.self (sz := s.heap.size)
  have hA0 := vA_n0 hD0 hn0
  generalize hAe : va_A [] s.heap.size = A at hD hA0 ⊢
  have hA : ∀ q : Nat, s.heap.size ≤ q → A q := fun q h => by rw [← hAe]; exact Or.inr h
  have hS : va_S A s.heap s.heap [] := va_S.rf
  have hl := lv_entry ([.ref (atx ti).1, .int (nI k)]) (n := 2) (Nat.le_of_ble_eq_true rfl)
  rw [lg_entry_eq]
  generalize (lg_sl ([.ref (atx ti).1, .int (nI k)]) ++ List.replicate (2 - (lg_sl ([.ref (atx ti).1, .int (nI k)])).length) Slot.unset).toArray = ls at hl ⊢
  have hl : lv_has ls 2 [(0, .ref (atx ti).1), (1, .int (nI k))] := hl
  have hL := tx_len ti hti
  refine lv_aload_n hx hb dJ0_charAt_5068e_0 rfl (lv_at hl 0 rfl) ?_
  obtain ⟨hPc, hDc, hFc⟩ := s3_c (ws' := []) [] hP hD hS hA rfl (by decide)
  have hKc := hK.sub (tys' := []) [] rfl
  refine va_calli (va_runV (As := []) (rest := []) ⟨hx, hb, hml, hown, hts⟩ (j_isLatin1 l dC dI n0 atx s.heap.size ti (by first | with_reducible assumption | omega | exact vp_in_iff.mpr (by omega) | exact vp_in_nI (by omega) (by omega) | exact ⟨by omega, by omega⟩)) (cwV 0 hts (gV (fun w h => wM_c h) wd_781 wd_778 wd_779 wd_780 wd_132) rfl rfl rfl (by decide +kernel) ⟨Nat.le_of_ble_eq_true rfl, Nat.le_of_ble_eq_true rfl⟩) ⟨fun a U g mk q => by obtain ⟨q0, q1, q2, qG, qP, qK, qD⟩ := q; exact ⟨q0, q1, q2, GW.blind qG, qP, va_K.moved (u := U) (U := U.calling g mk a) (Vm.Alike.refl U.vm) qK, qD⟩, (by obtain ⟨cell, h1, h2, h3, -⟩ := ((hG.txi (by first | with_reducible assumption | omega | exact vp_in_iff.mpr (by omega) | exact vp_in_nI (by omega) (by omega) | exact ⟨by omega, by omega⟩)).1.narrow hA0).kept hS.2.1; exact ⟨cell, h1, h2, h3⟩), fun U hU hW => ⟨rfl, by rw [hU], Nat.le_trans hn0 hS.1, GW.go hW hU hG (fun q hq hA9 => hS.2.1 q hq (fun h => hA9 (hA0 q h))), by rw [hU]; exact hPc, va_K.moved hW.alike hKc, hDc.weaken (fun _ _ _ h => hA0 _ h)⟩⟩ rfl rfl hl.1 rfl (lv_room (Nat.le_of_ble_eq_true rfl)) dJ0_charAt_5068e_1 ⟨Nat.le_of_ble_eq_true rfl, Nat.le_of_ble_eq_true rfl⟩) hS (fun q _ h => hFc q h) hFc (fun r_1 u t H1 locs ht hvm hw_2 hB hz1 hk1 hS => ?_)
  obtain ⟨hP1, hK1, hD1⟩ := hB
  rw [ht] at hP1
  obtain ⟨hP, hD⟩ := s3_j (L := []) 0 hP hD [] [] hk1 hFc hP1 hD1 rfl rfl rfl (by decide) (by decide)
  generalize H1 = H at hP hS ⊢
  obtain rfl : r_1 = 1 := hw_2
  refine lv_if_eq (tgt := 16) hx hb dJ0_charAt_5068e_4 (by decide) (fun c_3 => ?_) (fun c_3 => ?_)
  · exact absurd c_3 (by decide)
  refine lv_aload_n hx hb dJ0_charAt_5068e_7 rfl (lv_at hl 0 rfl) ?_
  refine vk_getf hx hb ((hG.txi (by first | with_reducible assumption | omega | exact vp_in_iff.mpr (by omega) | exact vp_in_nI (by omega) (by omega) | exact ⟨by omega, by omega⟩)).2.2.1.narrow hA0) hS hown (hts _ (wM_c wd_2129)) (fun _ h => h) dJ0_charAt_5068e_8 ?_
  refine lv_iload_n hx hb dJ0_charAt_5068e_11 rfl (lv_at hl 1 rfl) ?_
  obtain ⟨hPc, hDc, hFc⟩ := s3_c (ws' := []) [] hP hD hS hA rfl (by decide)
  have hKc := hK.sub (tys' := []) [] rfl
  refine va_calli (va_runS (As := [.ref (atx ti).2, .int (nI k)]) (rest := []) ⟨hx, hb, hml, hown, hts⟩ (j_charAt1 l dC dI n0 atx H.size ti k (by first | with_reducible assumption | omega | exact vp_in_iff.mpr (by omega) | exact vp_in_nI (by omega) (by omega) | exact ⟨by omega, by omega⟩) (by first | with_reducible assumption | omega | exact vp_in_iff.mpr (by omega) | exact vp_in_nI (by omega) (by omega) | exact ⟨by omega, by omega⟩)) (va_cwS 2 hts (gS (fun w h => wM_c h) wd_784 wd_782 wd_783 wd_133) rfl rfl rfl (by decide +kernel) ⟨Nat.le_of_ble_eq_true rfl, Nat.le_of_ble_eq_true rfl⟩) ⟨fun a U g mk q => by obtain ⟨q0, q1, q2, qG, qP, qK, qD⟩ := q; exact ⟨q0, q1, q2, GW.blind qG, qP, va_K.moved (u := U) (U := U.calling g mk a) (Vm.Alike.refl U.vm) qK, qD⟩, fun U hU hW => ⟨rfl, by rw [hU], Nat.le_trans hn0 hS.1, GW.go hW hU hG (fun q hq hA9 => hS.2.1 q hq (fun h => hA9 (hA0 q h))), by rw [hU]; exact hPc, va_K.moved hW.alike hKc, hDc.weaken (fun _ _ _ h => hA0 _ h)⟩⟩ rfl rfl hl.1 rfl (lv_room (Nat.le_of_ble_eq_true rfl)) dJ0_charAt_5068e_12 ⟨Nat.le_of_ble_eq_true rfl, Nat.le_of_ble_eq_true rfl⟩) hS (fun q _ h => hFc q h) hFc (fun r_4 u t H1 locs ht hvm hw_5 hB hz1 hk1 hS => ?_)
  obtain ⟨hP1, hK1, hD1⟩ := hB
  rw [ht] at hP1
  obtain ⟨hP, hD⟩ := s3_j (L := []) 0 hP hD [] [] hk1 hFc hP1 hD1 rfl rfl rfl (by decide) (by decide)
  generalize H1 = H at hP hS ⊢
  have hK9 := hK.sub (tys' := []) [] rfl
  exact W.zret (v := r_4) hx hb hr (by rw [hw_5]; exact (tx_ch ti hti k hk).2) (fun t ht hW => ⟨⟨r_4, (), rfl, hw_5, by rw [ht]; exact hP.sub [] rfl, va_K.moved hW.alike hK9, hD.sub [] (by decide) rfl⟩, hS.F ht⟩) hS.2.2 dJ0_charAt_5068e_15
set_option maxHeartbeats 4000000 in
set_option maxRecDepth 100000 in
theorem m_wordOf (l : Launch) (dC : Nat → ClassId) (dI : Nat → Nat → Nat) (n0 : Nat) (atx : Nat → Nat × Nat) (sz : Nat) (ti : Nat) (hti : ti < 34) : Met l yX14_wordOf (wM yX14_wordOf cX14_wordOf 4 (some .long)) ({ frames := 4, cells := 0, slots := 0, locals := 85 }) (va_Pc [.ref (atx ti).1] (fun U => U.heap.size = sz ∧ n0 ≤ sz ∧ GW n0 atx U ∧ va_P (dC, dI) classes [] U.heap ∧ va_K (dC, dI) classes [] U ∧ va_D (fun q => n0 ≤ q) [])) (va_Ql (fun (r : Int64) (_ : Unit) => r = wordN (txb ti) (txb ti).length) (fun (_ : Unit) (t : State) => va_P (dC, dI) classes [] t.heap ∧ va_K (dC, dI) classes [] t ∧ va_D (va_A [] sz) []) (va_A [] sz)) 0 0 (va_A [] sz) := by
  refine Met.ofW (cc := cX14_wordOf) (maxL := 4) (ret := (some .long)) (by decide) rfl ?_
  intro p e s m args below meth c s₁ B hml hv
  obtain ⟨rfl, hsz, hn0, hG, hP, hK, hD0⟩ := hv
  have hx := B.exec
  have hb := B.bytes
  have hr := B.returns
  have hts := atoms_spec (ws := wM yX14_wordOf cX14_wordOf 4 (some .long)) B.pre
  have hown : s.vm.findClass RX14 = some m.cls := findClass_of_methodNamed B.named
  have hlocks := B.notSynchronized
  subst hsz
  have hD := hD0.self (sz := s.heap.size)
  have hA0 := vA_n0 hD0 hn0
  generalize hAe : va_A [] s.heap.size = A at hD hA0 ⊢
  have hA : ∀ q : Nat, s.heap.size ≤ q → A q := fun q h => by rw [← hAe]; exact Or.inr h
  have hS : va_S A s.heap s.heap [] := va_S.rf
  have hl := lv_entry ([.ref (atx ti).1]) (n := 4) (Nat.le_of_ble_eq_true rfl)
  rw [lg_entry_eq]
  generalize (lg_sl ([.ref (atx ti).1]) ++ List.replicate (4 - (lg_sl ([.ref (atx ti).1])).length) Slot.unset).toArray = ls at hl ⊢
  have hl : lv_has ls 4 [(0, .ref (atx ti).1)] := hl
  have hL := tx_len ti hti
  refine lv_lconst (v := 0) hx hb dX14_wordOf_0 (by decide) ?_
  refine lv_lstore_n (lv' := [(1, .long 0), (0, .ref (atx ti).1)]) hx hb dX14_wordOf_1 rfl hl (by decide) rfl (fun ls hl => ?_)
  refine lv_iconst (v := 0) hx hb dX14_wordOf_2 (by decide) ?_
  refine lv_istore_n (lv' := [(3, .int 0), (1, .long 0), (0, .ref (atx ti).1)]) hx hb dX14_wordOf_3 rfl hl (by decide) rfl (fun ls hl => ?_)
  refine W_lp2 (I := fun (v1 : Int64) (i : Nat) H locs ls => (i ≤ (txb ti).length) ∧ (v1 = wordN (txb ti) i) ∧ va_P (dC, dI) classes [] H ∧ va_D A [] ∧ va_S A s.heap H locs ∧ lv_has ls 4 [(0, .ref (atx ti).1), (1, .long v1), (3, .int (nI i))]) (μ := fun (v1 : Int64) (i : Nat) => (txb ti).length - i) ?_ 0 0 _ _ _ ⟨(by first | with_reducible assumption | omega | exact vp_in_iff.mpr (by omega) | exact vp_in_nI (by omega) (by omega) | exact ⟨by omega, by omega⟩), rfl, hP, hD, hS, lv_sub hl [2, 1, 0] rfl⟩
  intro v1 i H locs ls hI ih_1
  obtain ⟨hi, hv, hP, hD, hS, hl⟩ := hI
  refine lv_iload_n hx hb dX14_wordOf_4 rfl (lv_at hl 2 rfl) ?_
  refine lv_aload_n hx hb dX14_wordOf_5 rfl (lv_at hl 0 rfl) ?_
  obtain ⟨hPc, hDc, hFc⟩ := s3_c (ws' := []) [] hP hD hS hA rfl (by decide)
  have hKc := hK.sub (tys' := []) [] rfl
  refine va_calli (va_runV (As := []) (rest := [.int (nI i)]) ⟨hx, hb, hml, hown, hts⟩ (j_length l dC dI n0 atx H.size ti (by first | with_reducible assumption | omega | exact vp_in_iff.mpr (by omega) | exact vp_in_nI (by omega) (by omega) | exact ⟨by omega, by omega⟩)) (cwV 0 hts (gV (fun w h => wM_c h) wd_767 wd_1762 wd_765 wd_766 wd_132) rfl rfl rfl (by decide +kernel) ⟨Nat.le_of_ble_eq_true rfl, Nat.le_of_ble_eq_true rfl⟩) ⟨fun a U g mk q => by obtain ⟨q0, q1, q2, qG, qP, qK, qD⟩ := q; exact ⟨q0, q1, q2, GW.blind qG, qP, va_K.moved (u := U) (U := U.calling g mk a) (Vm.Alike.refl U.vm) qK, qD⟩, (by obtain ⟨cell, h1, h2, h3, -⟩ := ((hG.txi (by first | with_reducible assumption | omega | exact vp_in_iff.mpr (by omega) | exact vp_in_nI (by omega) (by omega) | exact ⟨by omega, by omega⟩)).1.narrow hA0).kept hS.2.1; exact ⟨cell, h1, h2, h3⟩), fun U hU hW => ⟨rfl, by rw [hU], Nat.le_trans hn0 hS.1, GW.go hW hU hG (fun q hq hA9 => hS.2.1 q hq (fun h => hA9 (hA0 q h))), by rw [hU]; exact hPc, va_K.moved hW.alike hKc, hDc.weaken (fun _ _ _ h => hA0 _ h)⟩⟩ rfl rfl hl.1 rfl (lv_room (Nat.le_of_ble_eq_true rfl)) dX14_wordOf_6 ⟨Nat.le_of_ble_eq_true rfl, Nat.le_of_ble_eq_true rfl⟩) hS (fun q _ h => hFc q h) hFc (fun r_2 u t H1 locs ht hvm hw_3 hB hz1 hk1 hS => ?_)
  obtain ⟨hP1, hK1, hD1⟩ := hB
  rw [ht] at hP1
  obtain ⟨hP, hD⟩ := s3_j (L := []) 0 hP hD [] [] hk1 hFc hP1 hD1 rfl rfl rfl (by decide) (by decide)
  generalize H1 = H at hP hS ⊢
  subst hw_3
  refine lv_icmp_ge (tgt := 36) hx hb dX14_wordOf_9 (by decide) (fun c_4 => ?_) (fun c_4 => ?_)
  · skip
    have g_5 := n_ge (a := i) (b := (txb ti).length) c_4 (by omega) (by omega)
    refine lv_lload_n hx hb dX14_wordOf_36 rfl (lv_at hl 1 rfl) ?_
    have hK9 := hK.sub (tys' := []) [] rfl
    exact W.lret (v := v1) hx hb hr (fun t ht hW => ⟨⟨v1, (), rfl, (by have h9 : i = (txb ti).length := (by omega); rw [hv, h9]), by rw [ht]; exact hP.sub [] rfl, va_K.moved hW.alike hK9, hD.sub [] (by decide) rfl⟩, hS.F ht⟩) hS.2.2 dX14_wordOf_37
  · skip
    have g_6 := n_nge (a := i) (b := (txb ti).length) c_4 (by omega) (by omega)
    refine lv_ldc2 hx hb hown (hts _ (wM_c wd_1746)) dX14_wordOf_12 ?_
    refine lv_lload_n hx hb dX14_wordOf_15 rfl (lv_at hl 1 rfl) ?_
    refine lv_lmul hx hb dX14_wordOf_16 ?_
    refine lv_topl (fun v_7 ev_7 => ?_)
    refine lv_aload_n hx hb dX14_wordOf_17 rfl (lv_at hl 0 rfl) ?_
    refine lv_iload_n hx hb dX14_wordOf_18 rfl (lv_at hl 2 rfl) ?_
    obtain ⟨hPc, hDc, hFc⟩ := s3_c (ws' := []) [] hP hD hS hA rfl (by decide)
    have hKc := hK.sub (tys' := []) [] rfl
    refine va_calli (va_runV (As := [.int (nI i)]) (rest := [.long v_7]) ⟨hx, hb, hml, hown, hts⟩ (j_charAt l dC dI n0 atx H.size ti i (by first | with_reducible assumption | omega | exact vp_in_iff.mpr (by omega) | exact vp_in_nI (by omega) (by omega) | exact ⟨by omega, by omega⟩) (by first | with_reducible assumption | omega | exact vp_in_iff.mpr (by omega) | exact vp_in_nI (by omega) (by omega) | exact ⟨by omega, by omega⟩)) (cwV 1 hts (gV (fun w h => wM_c h) wd_777 wd_1763 wd_775 wd_776 wd_132) rfl rfl rfl (by decide +kernel) ⟨Nat.le_of_ble_eq_true rfl, Nat.le_of_ble_eq_true rfl⟩) ⟨fun a U g mk q => by obtain ⟨q0, q1, q2, qG, qP, qK, qD⟩ := q; exact ⟨q0, q1, q2, GW.blind qG, qP, va_K.moved (u := U) (U := U.calling g mk a) (Vm.Alike.refl U.vm) qK, qD⟩, (by obtain ⟨cell, h1, h2, h3, -⟩ := ((hG.txi (by first | with_reducible assumption | omega | exact vp_in_iff.mpr (by omega) | exact vp_in_nI (by omega) (by omega) | exact ⟨by omega, by omega⟩)).1.narrow hA0).kept hS.2.1; exact ⟨cell, h1, h2, h3⟩), fun U hU hW => ⟨rfl, by rw [hU], Nat.le_trans hn0 hS.1, GW.go hW hU hG (fun q hq hA9 => hS.2.1 q hq (fun h => hA9 (hA0 q h))), by rw [hU]; exact hPc, va_K.moved hW.alike hKc, hDc.weaken (fun _ _ _ h => hA0 _ h)⟩⟩ rfl rfl hl.1 rfl (lv_room (Nat.le_of_ble_eq_true rfl)) dX14_wordOf_19 ⟨Nat.le_of_ble_eq_true rfl, Nat.le_of_ble_eq_true rfl⟩) hS (fun q _ h => hFc q h) hFc (fun r_8 u t H1 locs ht hvm hw_9 hB hz1 hk1 hS => ?_)
    obtain ⟨hP1, hK1, hD1⟩ := hB
    rw [ht] at hP1
    obtain ⟨hP, hD⟩ := s3_j (L := []) 0 hP hD [] [] hk1 hFc hP1 hD1 rfl rfl rfl (by decide) (by decide)
    generalize H1 = H at hP hS ⊢
    refine lv_bipush (v := 97) hx hb dX14_wordOf_22 (by decide) ?_
    refine lv_isub hx hb dX14_wordOf_24 ?_
    refine lv_topi (fun v_10 ev_10 => ?_)
    refine lv_iconst (v := 1) hx hb dX14_wordOf_25 (by decide) ?_
    refine lv_iadd hx hb dX14_wordOf_26 ?_
    refine lv_topi (fun v_11 ev_11 => ?_)
    refine lv_i2l (v := v_11.toInt64) hx hb dX14_wordOf_27 rfl ?_
    refine lv_topl (fun v_12 ev_12 => ?_)
    refine lv_ladd hx hb dX14_wordOf_28 ?_
    refine lv_topl (fun v_13 ev_13 => ?_)
    refine lv_lstore_n (lv' := [(1, .long v_13), (0, .ref (atx ti).1), (3, .int (nI i))]) hx hb dX14_wordOf_29 rfl hl (by decide) rfl (fun ls hl => ?_)
    refine lv_iinc (v := (nI (i + 1))) (lv' := [(3, .int (nI (i + 1))), (1, .long v_13), (0, .ref (atx ti).1)]) hx hb dX14_wordOf_30 hl (k := 2) rfl (nI_add _ 1) (by decide) rfl (fun ls hl => ?_)
    refine lv_goto (tgt := 4) hx hb dX14_wordOf_33 (by decide) ?_
    exact ih_1 v_13 (i + 1) _ _ _ ⟨(by first | with_reducible assumption | omega | exact vp_in_iff.mpr (by omega) | exact vp_in_nI (by omega) (by omega) | exact ⟨by omega, by omega⟩), (by rw [wordN, ← hv, ← hw_9]; simp only [ev_13, ev_12, ev_11, ev_10, ev_7]), hP.sub [] rfl, hD.sub [] (by decide) rfl, hS, lv_sub hl [2, 1, 0] rfl⟩ (by omega)
