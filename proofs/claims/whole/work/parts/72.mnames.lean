theorem wd_67 : Cond.selects "MineAirModel" (⟨"MineAirModel", "isName", "()Z"⟩ : MethodName) (⟨"MineAirModel", "isName", "()Z"⟩ : MethodName) ∈ wG := wG_of 67 (by decide +kernel) (by decide +kernel)
theorem wd_1459 : Cond.fieldLink "MineAirModel" 227 "MineAirModel" "fresh" "LMineAirModel$Book;" ∈ wG := wG_of 1459 (by decide +kernel) (by decide +kernel)
theorem wd_1638 : Cond.fieldLinkNest "MineAirModel" 247 "MineAirModel$Book" "knot" "[J" "MineAirModel" ∈ wN := wN_of 1638 (by decide +kernel) rfl
theorem wd_1640 : Cond.fieldLink "MineAirModel$Book" 18 "MineAirModel$Book" "kind" "[I" ∈ wG := wG_of 1640 (by decide +kernel) (by decide +kernel)
theorem wd_1641 : Cond.fieldLinkNest "MineAirModel" 237 "MineAirModel$Book" "kind" "[I" "MineAirModel" ∈ wN := wN_of 1641 (by decide +kernel) rfl
theorem wd_1642 : Cond.fieldLink "MineAirModel$Book" 22 "MineAirModel$Book" "number" "[I" ∈ wG := wG_of 1642 (by decide +kernel) (by decide +kernel)
theorem wd_1643 : Cond.fieldLinkNest "MineAirModel" 239 "MineAirModel$Book" "number" "[I" "MineAirModel" ∈ wN := wN_of 1643 (by decide +kernel) rfl
theorem wd_1772 : Cond.methodLink "MineAirModel" 223 (⟨"MineAirModel", "isName", "()Z"⟩ : MethodName) ∈ wG := wG_of 1772 (by decide +kernel) (by decide +kernel)
theorem wd_1774 : Cond.instanceMethod (⟨"MineAirModel", "isName", "()Z"⟩ : MethodName) ∈ wG := wG_of 1774 (by decide +kernel) (by decide +kernel)
theorem wd_1775 : Cond.code (⟨"MineAirModel", "isName", "()Z"⟩ : MethodName) prog_14_method_16_code 1 (Option.some Jvm.ClassFile.FieldType.boolean) ∈ wG := wG_of 1775 (by decide +kernel) (by decide +kernel)
theorem wd_1784 : Cond.methodLink "MineAirModel" 231 (⟨"MineAirModel$Book", "find", "(J)I"⟩ : MethodName) ∈ wG := wG_of 1784 (by decide +kernel) (by decide +kernel)
theorem wd_1785 : Cond.instanceMethod (⟨"MineAirModel$Book", "find", "(J)I"⟩ : MethodName) ∈ wG := wG_of 1785 (by decide +kernel) (by decide +kernel)
theorem wd_1786 : Cond.selects "MineAirModel$Book" (⟨"MineAirModel$Book", "find", "(J)I"⟩ : MethodName) (⟨"MineAirModel$Book", "find", "(J)I"⟩ : MethodName) ∈ wG := wG_of 1786 (by decide +kernel) (by decide +kernel)
theorem wd_1787 : Cond.code (⟨"MineAirModel$Book", "find", "(J)I"⟩ : MethodName) prog_15_method_2_code 4 (Option.some Jvm.ClassFile.FieldType.int) ∈ wG := wG_of 1787 (by decide +kernel) (by decide +kernel)
theorem dX12_names_0 : decode cX12_names 0 = .ok (.aload_n 0, 1) := by decide +kernel
theorem dX12_names_1 : decode cX12_names 1 = .ok (.getfield 15, 3) := by decide +kernel
theorem dX12_names_4 : decode cX12_names 4 = .ok (.aload_n 0, 1) := by decide +kernel
theorem dX12_names_5 : decode cX12_names 5 = .ok (.getfield 76, 3) := by decide +kernel
theorem dX12_names_8 : decode cX12_names 8 = .ok (.lload_n 1, 1) := by decide +kernel
theorem dX12_names_9 : decode cX12_names 9 = .ok (.lastore, 1) := by decide +kernel
theorem dX12_names_10 : decode cX12_names 10 = .ok (.aload_n 0, 1) := by decide +kernel
theorem dX12_names_11 : decode cX12_names 11 = .ok (.getfield 18, 3) := by decide +kernel
theorem dX12_names_14 : decode cX12_names 14 = .ok (.aload_n 0, 1) := by decide +kernel
theorem dX12_names_15 : decode cX12_names 15 = .ok (.getfield 76, 3) := by decide +kernel
theorem dX12_names_18 : decode cX12_names 18 = .ok (.iload_n 3, 1) := by decide +kernel
theorem dX12_names_19 : decode cX12_names 19 = .ok (.iastore, 1) := by decide +kernel
theorem dX12_names_20 : decode cX12_names 20 = .ok (.aload_n 0, 1) := by decide +kernel
theorem dX12_names_21 : decode cX12_names 21 = .ok (.getfield 22, 3) := by decide +kernel
theorem dX12_names_24 : decode cX12_names 24 = .ok (.aload_n 0, 1) := by decide +kernel
theorem dX12_names_25 : decode cX12_names 25 = .ok (.getfield 76, 3) := by decide +kernel
theorem dX12_names_28 : decode cX12_names 28 = .ok (.iload 4, 2) := by decide +kernel
theorem dX12_names_30 : decode cX12_names 30 = .ok (.iastore, 1) := by decide +kernel
theorem dX12_names_31 : decode cX12_names 31 = .ok (.aload_n 0, 1) := by decide +kernel
theorem dX12_names_32 : decode cX12_names 32 = .ok (.dup, 1) := by decide +kernel
theorem dX12_names_33 : decode cX12_names 33 = .ok (.getfield 76, 3) := by decide +kernel
theorem dX12_names_36 : decode cX12_names 36 = .ok (.iconst 1, 1) := by decide +kernel
theorem dX12_names_37 : decode cX12_names 37 = .ok (.iadd, 1) := by decide +kernel
theorem dX12_names_38 : decode cX12_names 38 = .ok (.putfield 76, 3) := by decide +kernel
theorem dX12_names_41 : decode cX12_names 41 = .ok (.return_, 1) := by decide +kernel
theorem dX14_readFresh_0 : decode cX14_readFresh 0 = .ok (.aload_n 0, 1) := by decide +kernel
theorem dX14_readFresh_1 : decode cX14_readFresh 1 = .ok (.invokevirtual 223, 3) := by decide +kernel
theorem dX14_readFresh_4 : decode cX14_readFresh 4 = .ok (.ifCond .ne 9, 3) := by decide +kernel
theorem dX14_readFresh_7 : decode cX14_readFresh 7 = .ok (.aload_n 0, 1) := by decide +kernel
theorem dX14_readFresh_8 : decode cX14_readFresh 8 = .ok (.iconst 1, 1) := by decide +kernel
theorem dX14_readFresh_9 : decode cX14_readFresh 9 = .ok (.invokevirtual 195, 3) := by decide +kernel
theorem dX14_readFresh_12 : decode cX14_readFresh 12 = .ok (.athrow, 1) := by decide +kernel
theorem dX14_readFresh_13 : decode cX14_readFresh 13 = .ok (.aload_n 0, 1) := by decide +kernel
theorem dX14_readFresh_14 : decode cX14_readFresh 14 = .ok (.getfield 227, 3) := by decide +kernel
theorem dX14_readFresh_17 : decode cX14_readFresh 17 = .ok (.aload_n 0, 1) := by decide +kernel
theorem dX14_readFresh_18 : decode cX14_readFresh 18 = .ok (.getfield 167, 3) := by decide +kernel
theorem dX14_readFresh_21 : decode cX14_readFresh 21 = .ok (.invokevirtual 231, 3) := by decide +kernel
theorem dX14_readFresh_24 : decode cX14_readFresh 24 = .ok (.iconst (-1), 1) := by decide +kernel
theorem dX14_readFresh_25 : decode cX14_readFresh 25 = .ok (.if_icmp .eq 9, 3) := by decide +kernel
theorem dX14_readFresh_28 : decode cX14_readFresh 28 = .ok (.aload_n 0, 1) := by decide +kernel
theorem dX14_readFresh_29 : decode cX14_readFresh 29 = .ok (.iconst 3, 1) := by decide +kernel
theorem dX14_readFresh_30 : decode cX14_readFresh 30 = .ok (.invokevirtual 195, 3) := by decide +kernel
theorem dX14_readFresh_33 : decode cX14_readFresh 33 = .ok (.athrow, 1) := by decide +kernel
theorem dX14_readFresh_34 : decode cX14_readFresh 34 = .ok (.iload_n 1, 1) := by decide +kernel
theorem dX14_readFresh_35 : decode cX14_readFresh 35 = .ok (.ifCond .eq 9, 3) := by decide +kernel
theorem dX14_readFresh_38 : decode cX14_readFresh 38 = .ok (.aload_n 0, 1) := by decide +kernel
theorem dX14_readFresh_39 : decode cX14_readFresh 39 = .ok (.iconst 5, 1) := by decide +kernel
theorem dX14_readFresh_40 : decode cX14_readFresh 40 = .ok (.invokevirtual 195, 3) := by decide +kernel
theorem dX14_readFresh_43 : decode cX14_readFresh 43 = .ok (.athrow, 1) := by decide +kernel
theorem dX14_readFresh_44 : decode cX14_readFresh 44 = .ok (.aload_n 0, 1) := by decide +kernel
theorem dX14_readFresh_45 : decode cX14_readFresh 45 = .ok (.getfield 167, 3) := by decide +kernel
theorem dX14_readFresh_48 : decode cX14_readFresh 48 = .ok (.lstore_n 2, 1) := by decide +kernel
theorem dX14_readFresh_49 : decode cX14_readFresh 49 = .ok (.aload_n 0, 1) := by decide +kernel
theorem dX14_readFresh_50 : decode cX14_readFresh 50 = .ok (.invokevirtual 198, 3) := by decide +kernel
theorem dX14_readFresh_53 : decode cX14_readFresh 53 = .ok (.lload_n 2, 1) := by decide +kernel
theorem dX14_readFresh_54 : decode cX14_readFresh 54 = .ok (.lreturn, 1) := by decide +kernel
theorem dX14_readKnot_0 : decode cX14_readKnot 0 = .ok (.aload_n 0, 1) := by decide +kernel
theorem dX14_readKnot_1 : decode cX14_readKnot 1 = .ok (.invokevirtual 223, 3) := by decide +kernel
theorem dX14_readKnot_4 : decode cX14_readKnot 4 = .ok (.ifCond .ne 9, 3) := by decide +kernel
theorem dX14_readKnot_7 : decode cX14_readKnot 7 = .ok (.aload_n 0, 1) := by decide +kernel
theorem dX14_readKnot_8 : decode cX14_readKnot 8 = .ok (.iconst 1, 1) := by decide +kernel
theorem dX14_readKnot_9 : decode cX14_readKnot 9 = .ok (.invokevirtual 195, 3) := by decide +kernel
theorem dX14_readKnot_12 : decode cX14_readKnot 12 = .ok (.athrow, 1) := by decide +kernel
theorem dX14_readKnot_13 : decode cX14_readKnot 13 = .ok (.aload_n 0, 1) := by decide +kernel
theorem dX14_readKnot_14 : decode cX14_readKnot 14 = .ok (.getfield 227, 3) := by decide +kernel
theorem dX14_readKnot_17 : decode cX14_readKnot 17 = .ok (.aload_n 0, 1) := by decide +kernel
theorem dX14_readKnot_18 : decode cX14_readKnot 18 = .ok (.getfield 167, 3) := by decide +kernel
theorem dX14_readKnot_21 : decode cX14_readKnot 21 = .ok (.invokevirtual 241, 3) := by decide +kernel
theorem dX14_readKnot_24 : decode cX14_readKnot 24 = .ok (.istore_n 2, 1) := by decide +kernel
theorem dX14_readKnot_25 : decode cX14_readKnot 25 = .ok (.iload_n 2, 1) := by decide +kernel
theorem dX14_readKnot_26 : decode cX14_readKnot 26 = .ok (.iconst (-1), 1) := by decide +kernel
theorem dX14_readKnot_27 : decode cX14_readKnot 27 = .ok (.if_icmp .eq 14, 3) := by decide +kernel
theorem dX14_readKnot_30 : decode cX14_readKnot 30 = .ok (.iload_n 2, 1) := by decide +kernel
theorem dX14_readKnot_31 : decode cX14_readKnot 31 = .ok (.iload_n 1, 1) := by decide +kernel
theorem dX14_readKnot_32 : decode cX14_readKnot 32 = .ok (.if_icmp .ne 9, 3) := by decide +kernel
theorem dX14_readKnot_35 : decode cX14_readKnot 35 = .ok (.aload_n 0, 1) := by decide +kernel
theorem dX14_readKnot_36 : decode cX14_readKnot 36 = .ok (.iconst 3, 1) := by decide +kernel
theorem dX14_readKnot_37 : decode cX14_readKnot 37 = .ok (.invokevirtual 195, 3) := by decide +kernel
theorem dX14_readKnot_40 : decode cX14_readKnot 40 = .ok (.athrow, 1) := by decide +kernel
theorem dX14_readKnot_41 : decode cX14_readKnot 41 = .ok (.iload_n 2, 1) := by decide +kernel
theorem dX14_readKnot_42 : decode cX14_readKnot 42 = .ok (.iconst (-1), 1) := by decide +kernel
theorem dX14_readKnot_43 : decode cX14_readKnot 43 = .ok (.if_icmp .ne 55, 3) := by decide +kernel
theorem dX14_readKnot_46 : decode cX14_readKnot 46 = .ok (.aload_n 0, 1) := by decide +kernel
theorem dX14_readKnot_47 : decode cX14_readKnot 47 = .ok (.getfield 227, 3) := by decide +kernel
theorem dX14_readKnot_50 : decode cX14_readKnot 50 = .ok (.getfield 244, 3) := by decide +kernel
theorem dX14_readKnot_53 : decode cX14_readKnot 53 = .ok (.bipush 10, 2) := by decide +kernel
theorem dX14_readKnot_55 : decode cX14_readKnot 55 = .ok (.if_icmp .ne 9, 3) := by decide +kernel
theorem dX14_readKnot_58 : decode cX14_readKnot 58 = .ok (.aload_n 0, 1) := by decide +kernel
theorem dX14_readKnot_59 : decode cX14_readKnot 59 = .ok (.iconst 5, 1) := by decide +kernel
theorem dX14_readKnot_60 : decode cX14_readKnot 60 = .ok (.invokevirtual 195, 3) := by decide +kernel
theorem dX14_readKnot_63 : decode cX14_readKnot 63 = .ok (.athrow, 1) := by decide +kernel
theorem dX14_readKnot_64 : decode cX14_readKnot 64 = .ok (.aload_n 0, 1) := by decide +kernel
theorem dX14_readKnot_65 : decode cX14_readKnot 65 = .ok (.getfield 227, 3) := by decide +kernel
theorem dX14_readKnot_68 : decode cX14_readKnot 68 = .ok (.getfield 244, 3) := by decide +kernel
theorem dX14_readKnot_71 : decode cX14_readKnot 71 = .ok (.istore_n 2, 1) := by decide +kernel
theorem dX14_readKnot_72 : decode cX14_readKnot 72 = .ok (.aload_n 0, 1) := by decide +kernel
theorem dX14_readKnot_73 : decode cX14_readKnot 73 = .ok (.getfield 227, 3) := by decide +kernel
theorem dX14_readKnot_76 : decode cX14_readKnot 76 = .ok (.getfield 247, 3) := by decide +kernel
theorem dX14_readKnot_79 : decode cX14_readKnot 79 = .ok (.iload_n 2, 1) := by decide +kernel
theorem dX14_readKnot_80 : decode cX14_readKnot 80 = .ok (.aload_n 0, 1) := by decide +kernel
theorem dX14_readKnot_81 : decode cX14_readKnot 81 = .ok (.getfield 167, 3) := by decide +kernel
theorem dX14_readKnot_84 : decode cX14_readKnot 84 = .ok (.lastore, 1) := by decide +kernel
theorem dX14_readKnot_85 : decode cX14_readKnot 85 = .ok (.aload_n 0, 1) := by decide +kernel
theorem dX14_readKnot_86 : decode cX14_readKnot 86 = .ok (.getfield 227, 3) := by decide +kernel
theorem dX14_readKnot_89 : decode cX14_readKnot 89 = .ok (.dup, 1) := by decide +kernel
theorem dX14_readKnot_90 : decode cX14_readKnot 90 = .ok (.getfield 244, 3) := by decide +kernel
theorem dX14_readKnot_93 : decode cX14_readKnot 93 = .ok (.iconst 1, 1) := by decide +kernel
theorem dX14_readKnot_94 : decode cX14_readKnot 94 = .ok (.iadd, 1) := by decide +kernel
theorem dX14_readKnot_95 : decode cX14_readKnot 95 = .ok (.putfield 244, 3) := by decide +kernel
theorem dX14_readKnot_98 : decode cX14_readKnot 98 = .ok (.aload_n 0, 1) := by decide +kernel
theorem dX14_readKnot_99 : decode cX14_readKnot 99 = .ok (.invokevirtual 198, 3) := by decide +kernel
theorem dX14_readKnot_102 : decode cX14_readKnot 102 = .ok (.iload_n 2, 1) := by decide +kernel
theorem dX14_readKnot_103 : decode cX14_readKnot 103 = .ok (.ireturn, 1) := by decide +kernel
theorem dX14_readTold_0 : decode cX14_readTold 0 = .ok (.aload_n 0, 1) := by decide +kernel
theorem dX14_readTold_1 : decode cX14_readTold 1 = .ok (.invokevirtual 223, 3) := by decide +kernel
theorem dX14_readTold_4 : decode cX14_readTold 4 = .ok (.ifCond .ne 9, 3) := by decide +kernel
theorem dX14_readTold_7 : decode cX14_readTold 7 = .ok (.aload_n 0, 1) := by decide +kernel
theorem dX14_readTold_8 : decode cX14_readTold 8 = .ok (.iconst 1, 1) := by decide +kernel
theorem dX14_readTold_9 : decode cX14_readTold 9 = .ok (.invokevirtual 195, 3) := by decide +kernel
theorem dX14_readTold_12 : decode cX14_readTold 12 = .ok (.athrow, 1) := by decide +kernel
theorem dX14_readTold_13 : decode cX14_readTold 13 = .ok (.aload_n 0, 1) := by decide +kernel
theorem dX14_readTold_14 : decode cX14_readTold 14 = .ok (.getfield 227, 3) := by decide +kernel
theorem dX14_readTold_17 : decode cX14_readTold 17 = .ok (.aload_n 0, 1) := by decide +kernel
theorem dX14_readTold_18 : decode cX14_readTold 18 = .ok (.getfield 167, 3) := by decide +kernel
theorem dX14_readTold_21 : decode cX14_readTold 21 = .ok (.invokevirtual 231, 3) := by decide +kernel
theorem dX14_readTold_24 : decode cX14_readTold 24 = .ok (.istore_n 2, 1) := by decide +kernel
theorem dX14_readTold_25 : decode cX14_readTold 25 = .ok (.iload_n 2, 1) := by decide +kernel
theorem dX14_readTold_26 : decode cX14_readTold 26 = .ok (.iconst (-1), 1) := by decide +kernel
theorem dX14_readTold_27 : decode cX14_readTold 27 = .ok (.if_icmp .eq 16, 3) := by decide +kernel
theorem dX14_readTold_30 : decode cX14_readTold 30 = .ok (.aload_n 0, 1) := by decide +kernel
theorem dX14_readTold_31 : decode cX14_readTold 31 = .ok (.getfield 227, 3) := by decide +kernel
theorem dX14_readTold_34 : decode cX14_readTold 34 = .ok (.getfield 237, 3) := by decide +kernel
theorem dX14_readTold_37 : decode cX14_readTold 37 = .ok (.iload_n 2, 1) := by decide +kernel
theorem dX14_readTold_38 : decode cX14_readTold 38 = .ok (.iaload, 1) := by decide +kernel
theorem dX14_readTold_39 : decode cX14_readTold 39 = .ok (.iload_n 1, 1) := by decide +kernel
theorem dX14_readTold_40 : decode cX14_readTold 40 = .ok (.if_icmp .eq 9, 3) := by decide +kernel
theorem dX14_readTold_43 : decode cX14_readTold 43 = .ok (.aload_n 0, 1) := by decide +kernel
theorem dX14_readTold_44 : decode cX14_readTold 44 = .ok (.iconst 2, 1) := by decide +kernel
theorem dX14_readTold_45 : decode cX14_readTold 45 = .ok (.invokevirtual 195, 3) := by decide +kernel
theorem dX14_readTold_48 : decode cX14_readTold 48 = .ok (.athrow, 1) := by decide +kernel
theorem dX14_readTold_49 : decode cX14_readTold 49 = .ok (.aload_n 0, 1) := by decide +kernel
theorem dX14_readTold_50 : decode cX14_readTold 50 = .ok (.getfield 227, 3) := by decide +kernel
theorem dX14_readTold_53 : decode cX14_readTold 53 = .ok (.getfield 239, 3) := by decide +kernel
theorem dX14_readTold_56 : decode cX14_readTold 56 = .ok (.iload_n 2, 1) := by decide +kernel
theorem dX14_readTold_57 : decode cX14_readTold 57 = .ok (.iaload, 1) := by decide +kernel
theorem dX14_readTold_58 : decode cX14_readTold 58 = .ok (.ireturn, 1) := by decide +kernel
def nmI (kd nb : Nat → Int32) : Prop := ∀ j, j < 28 → (kd j = 0 → 0 ≤ (nb j).toInt ∧ (nb j).toInt < 14) ∧ (kd j = 1 → 0 ≤ (nb j).toInt ∧ (nb j).toInt < 6)
theorem nmI_upd {kd nb k2 n2 : Nat → Int32} {n : Nat} {a b : Int32} (h : nmI kd nb) (hn : n < 2 ^ 31) (e1 : k2 = upd kd (nI n).toNatClampNeg a) (e2 : n2 = upd nb (nI n).toNatClampNeg b) (ha : (a = 0 → 0 ≤ b.toInt ∧ b.toInt < 14) ∧ (a = 1 → 0 ≤ b.toInt ∧ b.toInt < 6)) : nmI k2 n2 := by
  intro j hj
  rw [nI_clamp hn] at e1 e2
  rw [e1, e2]
  by_cases q : j = n
  · rw [q, pk_us, pk_us]; exact ha
  · rw [pk_un q, pk_un q]; exact h j hj
theorem kf_s {ff f2 : Nat → Int32} {aw ak ak2 : Nat} {r : Int32} (h : ∀ i, i < aw → 0 ≤ (ff i).toInt ∧ (ff i).toInt < ak) (hn : aw < 2 ^ 31) (e : f2 = upd ff (nI aw).toNatClampNeg r) (hr : 0 ≤ r.toInt ∧ r.toInt < ak2) (hk : ak ≤ ak2) : ∀ i, i < aw + 1 → 0 ≤ (f2 i).toInt ∧ (f2 i).toInt < ak2 := by
  intro j hj
  rw [nI_clamp hn] at e
  rw [e]
  by_cases q : j = aw
  · rw [q, pk_us]; exact hr
  · rw [pk_un q]; have := h j (by omega); omega
theorem told_rg {kd nb : Nat → Int32} {k : Nat} {v r kk : Int32} (h : nmI kd nb) (hk : k < 28) (e1 : v = kd k) (e2 : r = nb k) (hv : v = kk) : (kk = 0 → 0 ≤ r.toInt ∧ r.toInt < 14) ∧ (kk = 1 → 0 ≤ r.toInt ∧ r.toInt < 6) := by
  have h9 := h k hk
  rw [← e1, ← e2, hv] at h9
  exact h9
