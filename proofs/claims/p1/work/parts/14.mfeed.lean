theorem wd_84 : Cond.selects "MineAirModel" (⟨"MineAirModel", "granted", "()Z"⟩ : MethodName) (⟨"MineAirModel", "granted", "()Z"⟩ : MethodName) ∈ wG := wG_of 84 (by decide +kernel) (by decide +kernel)
theorem wd_1462 : Cond.fieldLink "MineAirModel" 350 "MineAirModel" "taped" "I" ∈ wG := wG_of 1462 (by decide +kernel) (by decide +kernel)
theorem wd_1809 : Cond.methodLink "MineAirModel" 201 (⟨"MineAirModel", "in", "(III)Z"⟩ : MethodName) ∈ wG := wG_of 1809 (by decide +kernel) (by decide +kernel)
theorem wd_1810 : Cond.static (⟨"MineAirModel", "in", "(III)Z"⟩ : MethodName) ∈ wG := wG_of 1810 (by decide +kernel) (by decide +kernel)
theorem wd_1811 : Cond.code (⟨"MineAirModel", "in", "(III)Z"⟩ : MethodName) prog_14_method_7_code 3 (Option.some Jvm.ClassFile.FieldType.boolean) ∈ wG := wG_of 1811 (by decide +kernel) (by decide +kernel)
theorem wd_1887 : Cond.methodLink "MineAirModel" 396 (⟨"MineAirModel", "granted", "()Z"⟩ : MethodName) ∈ wG := wG_of 1887 (by decide +kernel) (by decide +kernel)
theorem wd_1889 : Cond.instanceMethod (⟨"MineAirModel", "granted", "()Z"⟩ : MethodName) ∈ wG := wG_of 1889 (by decide +kernel) (by decide +kernel)
theorem wd_1890 : Cond.code (⟨"MineAirModel", "granted", "()Z"⟩ : MethodName) prog_14_method_6_code 1 (Option.some Jvm.ClassFile.FieldType.boolean) ∈ wG := wG_of 1890 (by decide +kernel) (by decide +kernel)
theorem dX14_count_0 : decode cX14_count 0 = .ok (.aload_n 0, 1) := by decide +kernel
theorem dX14_count_1 : decode cX14_count 1 = .ok (.iconst 0, 1) := by decide +kernel
theorem dX14_count_2 : decode cX14_count 2 = .ok (.putfield 122, 3) := by decide +kernel
theorem dX14_count_5 : decode cX14_count 5 = .ok (.iload_n 1, 1) := by decide +kernel
theorem dX14_count_6 : decode cX14_count 6 = .ok (.bipush 10, 2) := by decide +kernel
theorem dX14_count_8 : decode cX14_count 8 = .ok (.if_icmp .ne 8, 3) := by decide +kernel
theorem dX14_count_11 : decode cX14_count 11 = .ok (.aload_n 0, 1) := by decide +kernel
theorem dX14_count_12 : decode cX14_count 12 = .ok (.getfield 350, 3) := by decide +kernel
theorem dX14_count_15 : decode cX14_count 15 = .ok (.ireturn, 1) := by decide +kernel
theorem dX14_count_16 : decode cX14_count 16 = .ok (.iload_n 1, 1) := by decide +kernel
theorem dX14_count_17 : decode cX14_count 17 = .ok (.iconst 0, 1) := by decide +kernel
theorem dX14_count_18 : decode cX14_count 18 = .ok (.bipush 9, 2) := by decide +kernel
theorem dX14_count_20 : decode cX14_count 20 = .ok (.invokestatic 201, 3) := by decide +kernel
theorem dX14_count_23 : decode cX14_count 23 = .ok (.ifCond .ne 5, 3) := by decide +kernel
theorem dX14_count_26 : decode cX14_count 26 = .ok (.iconst (-1), 1) := by decide +kernel
theorem dX14_count_27 : decode cX14_count 27 = .ok (.ireturn, 1) := by decide +kernel
theorem dX14_count_28 : decode cX14_count 28 = .ok (.aload_n 0, 1) := by decide +kernel
theorem dX14_count_29 : decode cX14_count 29 = .ok (.getfield 363, 3) := by decide +kernel
theorem dX14_count_32 : decode cX14_count 32 = .ok (.ifnonnull 16, 3) := by decide +kernel
theorem dX14_count_35 : decode cX14_count 35 = .ok (.iload_n 1, 1) := by decide +kernel
theorem dX14_count_36 : decode cX14_count 36 = .ok (.bipush 9, 2) := by decide +kernel
theorem dX14_count_38 : decode cX14_count 38 = .ok (.if_icmp .ne 8, 3) := by decide +kernel
theorem dX14_count_41 : decode cX14_count 41 = .ok (.bipush (-2), 2) := by decide +kernel
theorem dX14_count_43 : decode cX14_count 43 = .ok (.goto 4, 3) := by decide +kernel
theorem dX14_count_46 : decode cX14_count 46 = .ok (.iconst 0, 1) := by decide +kernel
theorem dX14_count_47 : decode cX14_count 47 = .ok (.ireturn, 1) := by decide +kernel
theorem dX14_feed_0 : decode cX14_feed 0 = .ok (.aload_n 0, 1) := by decide +kernel
theorem dX14_feed_1 : decode cX14_feed 1 = .ok (.iconst 0, 1) := by decide +kernel
theorem dX14_feed_2 : decode cX14_feed 2 = .ok (.putfield 122, 3) := by decide +kernel
theorem dX14_feed_5 : decode cX14_feed 5 = .ok (.aload_n 0, 1) := by decide +kernel
theorem dX14_feed_6 : decode cX14_feed 6 = .ok (.getfield 350, 3) := by decide +kernel
theorem dX14_feed_9 : decode cX14_feed 9 = .ok (.bipush 20, 2) := by decide +kernel
theorem dX14_feed_11 : decode cX14_feed 11 = .ok (.iadd, 1) := by decide +kernel
theorem dX14_feed_12 : decode cX14_feed 12 = .ok (.sipush 600, 3) := by decide +kernel
theorem dX14_feed_15 : decode cX14_feed 15 = .ok (.if_icmp .le 5, 3) := by decide +kernel
theorem dX14_feed_20 : decode cX14_feed 20 = .ok (.iconst 0, 1) := by decide +kernel
theorem dX14_feed_21 : decode cX14_feed 21 = .ok (.istore 6, 2) := by decide +kernel
theorem dX14_feed_23 : decode cX14_feed 23 = .ok (.iload 6, 2) := by decide +kernel
theorem dX14_feed_25 : decode cX14_feed 25 = .ok (.bipush 20, 2) := by decide +kernel
theorem dX14_feed_27 : decode cX14_feed 27 = .ok (.if_icmp .ge 90, 3) := by decide +kernel
theorem dX14_feed_30 : decode cX14_feed 30 = .ok (.iload 6, 2) := by decide +kernel
theorem dX14_feed_32 : decode cX14_feed 32 = .ok (.iconst 4, 1) := by decide +kernel
theorem dX14_feed_33 : decode cX14_feed 33 = .ok (.if_icmp .ge 7, 3) := by decide +kernel
theorem dX14_feed_36 : decode cX14_feed 36 = .ok (.iload_n 1, 1) := by decide +kernel
theorem dX14_feed_37 : decode cX14_feed 37 = .ok (.goto 39, 3) := by decide +kernel
theorem dX14_feed_40 : decode cX14_feed 40 = .ok (.iload 6, 2) := by decide +kernel
theorem dX14_feed_42 : decode cX14_feed 42 = .ok (.bipush 8, 2) := by decide +kernel
theorem dX14_feed_44 : decode cX14_feed 44 = .ok (.if_icmp .ge 7, 3) := by decide +kernel
theorem dX14_feed_47 : decode cX14_feed 47 = .ok (.iload_n 2, 1) := by decide +kernel
theorem dX14_feed_48 : decode cX14_feed 48 = .ok (.goto 28, 3) := by decide +kernel
theorem dX14_feed_51 : decode cX14_feed 51 = .ok (.iload 6, 2) := by decide +kernel
theorem dX14_feed_53 : decode cX14_feed 53 = .ok (.bipush 12, 2) := by decide +kernel
theorem dX14_feed_55 : decode cX14_feed 55 = .ok (.if_icmp .ge 7, 3) := by decide +kernel
theorem dX14_feed_58 : decode cX14_feed 58 = .ok (.iload_n 3, 1) := by decide +kernel
theorem dX14_feed_59 : decode cX14_feed 59 = .ok (.goto 17, 3) := by decide +kernel
theorem dX14_feed_62 : decode cX14_feed 62 = .ok (.iload 6, 2) := by decide +kernel
theorem dX14_feed_64 : decode cX14_feed 64 = .ok (.bipush 16, 2) := by decide +kernel
theorem dX14_feed_66 : decode cX14_feed 66 = .ok (.if_icmp .ge 8, 3) := by decide +kernel
theorem dX14_feed_69 : decode cX14_feed 69 = .ok (.iload 4, 2) := by decide +kernel
theorem dX14_feed_71 : decode cX14_feed 71 = .ok (.goto 5, 3) := by decide +kernel
theorem dX14_feed_74 : decode cX14_feed 74 = .ok (.iload 5, 2) := by decide +kernel
theorem dX14_feed_76 : decode cX14_feed 76 = .ok (.istore 7, 2) := by decide +kernel
theorem dX14_feed_78 : decode cX14_feed 78 = .ok (.aload_n 0, 1) := by decide +kernel
theorem dX14_feed_79 : decode cX14_feed 79 = .ok (.getfield 24, 3) := by decide +kernel
theorem dX14_feed_82 : decode cX14_feed 82 = .ok (.aload_n 0, 1) := by decide +kernel
theorem dX14_feed_83 : decode cX14_feed 83 = .ok (.getfield 350, 3) := by decide +kernel
theorem dX14_feed_86 : decode cX14_feed 86 = .ok (.iload 7, 2) := by decide +kernel
theorem dX14_feed_88 : decode cX14_feed 88 = .ok (.bipush 24, 2) := by decide +kernel
theorem dX14_feed_90 : decode cX14_feed 90 = .ok (.bipush 8, 2) := by decide +kernel
theorem dX14_feed_92 : decode cX14_feed 92 = .ok (.iload 6, 2) := by decide +kernel
theorem dX14_feed_94 : decode cX14_feed 94 = .ok (.iconst 4, 1) := by decide +kernel
theorem dX14_feed_95 : decode cX14_feed 95 = .ok (.irem, 1) := by decide +kernel
theorem dX14_feed_96 : decode cX14_feed 96 = .ok (.imul, 1) := by decide +kernel
theorem dX14_feed_97 : decode cX14_feed 97 = .ok (.isub, 1) := by decide +kernel
theorem dX14_feed_98 : decode cX14_feed 98 = .ok (.ishr, 1) := by decide +kernel
theorem dX14_feed_99 : decode cX14_feed 99 = .ok (.i2b, 1) := by decide +kernel
theorem dX14_feed_100 : decode cX14_feed 100 = .ok (.bastore, 1) := by decide +kernel
theorem dX14_feed_101 : decode cX14_feed 101 = .ok (.aload_n 0, 1) := by decide +kernel
theorem dX14_feed_102 : decode cX14_feed 102 = .ok (.dup, 1) := by decide +kernel
theorem dX14_feed_103 : decode cX14_feed 103 = .ok (.getfield 350, 3) := by decide +kernel
theorem dX14_feed_106 : decode cX14_feed 106 = .ok (.iconst 1, 1) := by decide +kernel
theorem dX14_feed_107 : decode cX14_feed 107 = .ok (.iadd, 1) := by decide +kernel
theorem dX14_feed_108 : decode cX14_feed 108 = .ok (.putfield 350, 3) := by decide +kernel
theorem dX14_feed_111 : decode cX14_feed 111 = .ok (.iinc 6 1, 3) := by decide +kernel
theorem dX14_feed_114 : decode cX14_feed 114 = .ok (.goto (-91), 3) := by decide +kernel
theorem dX14_feed_117 : decode cX14_feed 117 = .ok (.aload_n 0, 1) := by decide +kernel
theorem dX14_feed_118 : decode cX14_feed 118 = .ok (.getfield 350, 3) := by decide +kernel
theorem dX14_feed_121 : decode cX14_feed 121 = .ok (.ireturn, 1) := by decide +kernel
theorem dX14_mark_0 : decode cX14_mark 0 = .ok (.aload_n 0, 1) := by decide +kernel
theorem dX14_mark_1 : decode cX14_mark 1 = .ok (.iconst 0, 1) := by decide +kernel
theorem dX14_mark_2 : decode cX14_mark 2 = .ok (.putfield 122, 3) := by decide +kernel
theorem dX14_mark_5 : decode cX14_mark 5 = .ok (.iload_n 1, 1) := by decide +kernel
theorem dX14_mark_6 : decode cX14_mark 6 = .ok (.iconst 1, 1) := by decide +kernel
theorem dX14_mark_7 : decode cX14_mark 7 = .ok (.sipush 999, 3) := by decide +kernel
theorem dX14_mark_10 : decode cX14_mark 10 = .ok (.invokestatic 201, 3) := by decide +kernel
theorem dX14_mark_13 : decode cX14_mark 13 = .ok (.ifCond .ne 9, 3) := by decide +kernel
theorem dX14_mark_16 : decode cX14_mark 16 = .ok (.aload_n 0, 1) := by decide +kernel
theorem dX14_mark_17 : decode cX14_mark 17 = .ok (.iconst 2, 1) := by decide +kernel
theorem dX14_mark_18 : decode cX14_mark 18 = .ok (.invokevirtual 393, 3) := by decide +kernel
theorem dX14_mark_21 : decode cX14_mark 21 = .ok (.ireturn, 1) := by decide +kernel
theorem dX14_mark_22 : decode cX14_mark 22 = .ok (.aload_n 0, 1) := by decide +kernel
theorem dX14_mark_23 : decode cX14_mark 23 = .ok (.iload_n 1, 1) := by decide +kernel
theorem dX14_mark_24 : decode cX14_mark 24 = .ok (.putfield 42, 3) := by decide +kernel
theorem dX14_mark_27 : decode cX14_mark 27 = .ok (.aload_n 0, 1) := by decide +kernel
theorem dX14_mark_28 : decode cX14_mark 28 = .ok (.invokevirtual 396, 3) := by decide +kernel
theorem dX14_mark_31 : decode cX14_mark 31 = .ok (.ireturn, 1) := by decide +kernel
theorem mrk_0 {w r : Int32} (h : r = if w ≥ 1 ∧ w ≤ 999 then (1 : Int32) else 0) (c : r = 0) : 0 = mrk w := by
  unfold mrk
  by_cases q : 1 ≤ w ∧ w ≤ 999
  · rw [h, if_pos q] at c; exact absurd c (by decide)
  · rw [if_neg q]
theorem mrk_1 {w r : Int32} (h : r = if w ≥ 1 ∧ w ≤ 999 then (1 : Int32) else 0) (c : ¬ r = 0) : 1 = mrk w := by
  unfold mrk
  by_cases q : 1 ≤ w ∧ w ≤ 999
  · rw [if_pos q]
  · rw [h, if_neg q] at c; exact absurd rfl c
theorem cnt_a {w r : Int32} (h : r = if w ≥ 0 ∧ w ≤ 9 then (1 : Int32) else 0) (c : r = 0) (n : ¬ w = 10) : (-1) = cnt0 w := by
  have q : ¬ (w ≥ 0 ∧ w ≤ 9) := fun q => by rw [h, if_pos q] at c; exact absurd c (by decide)
  refine cnt0_out ?_
  have h0 : (0 : Int32).toInt = 0 := by decide
  have h9 : (9 : Int32).toInt = 9 := by decide
  have hA : (10 : Int32).toInt = 10 := by decide
  have n2 : ¬ w.toInt = 10 := fun e => n (Int32.toInt_inj.mp (by rw [e, hA]))
  by_cases q1 : w ≥ 0
  · have q2 : ¬ w ≤ 9 := fun x => q ⟨q1, x⟩
    rw [Int32.le_iff_toInt_le, h9] at q2
    omega
  · rw [ge_iff_le, Int32.le_iff_toInt_le, h0] at q1
    omega
theorem cnt_b {w r : Int32} (h : r = if w ≥ 0 ∧ w ≤ 9 then (1 : Int32) else 0) (c : ¬ r = 0) (n : ¬ w = 9) : 0 = cnt0 w := by
  have q : w ≥ 0 ∧ w ≤ 9 := Decidable.byContradiction (fun q => by rw [h, if_neg q] at c; exact c rfl)
  obtain ⟨q1, q2⟩ := q
  have h0 : (0 : Int32).toInt = 0 := by decide
  have h9 : (9 : Int32).toInt = 9 := by decide
  rw [ge_iff_le, Int32.le_iff_toInt_le, h0] at q1
  rw [Int32.le_iff_toInt_le, h9] at q2
  unfold cnt0
  rw [if_neg n, if_neg (by omega)]
set_option maxHeartbeats 4000000 in
set_option maxRecDepth 100000 in
theorem m_granted2 (l : Launch) (dC : Nat → ClassId) (dI : Nat → Nat → Nat) (n0 sz : Nat) (m0 : Nat) (j1 : Int32) (m0_power : Nat) (j2 : Int32) (j3 : Int32) (sp : Nat) (m0_tape : Nat) (m0_isOpen : Nat) (m0_isFallen : Nat) (m0_speed : Nat) (m0_fire : Nat) (jm : Int32) (m0_air : Nat) (m0_cameBy : Nat) (m0_least : Nat) (m0_before : Nat) (m0_gas : Nat) (m0_into : Nat) (m0_rest : Nat) (m0_isTold : Nat) (m0_isPast : Nat) (m0_kept : Nat) (m0_smoke : Nat) (m0_early : Nat) (m0_manAt : Nat) (m0_changeKind : Nat) (m0_changeOf : Nat) (m0_changeTo : Nat) (m0_row : Nat) (m0_openWas : Nat) (m0_fallenWas : Nat) (m0_speedWas : Nat) (m0_readingOf : Nat) (m0_low : Nat) (m0_high : Nat) (m0_back : Nat) : Met l yX14_granted (wM yX14_granted cX14_granted 1 (some .boolean)) ({ frames := 0, cells := 0, slots := 0, locals := 0 }) (va_Pc [.ref m0] (fun U => U.heap.size = sz ∧ n0 ≤ sz ∧ GW n0 U ∧ va_P (dC, dI) classes [(m0, .inr (14, fX14 (.int j1) (.ref m0_power) (.int j2) (.int j3) (.int 0) .null .null (.ref sp) (.ref m0_tape) (.int 0) (.int 0) (.int 0) (.int 0) (.int 0) (.int 0) (.int 0) (.long 0) (.ref m0_isOpen) (.ref m0_isFallen) (.ref m0_speed) (.ref m0_fire) (.int jm) (.int (-1)) (.int 0) (.ref m0_air) (.ref m0_cameBy) (.ref m0_least) (.ref m0_before) (.ref m0_gas) (.ref m0_into) (.ref m0_rest) (.ref m0_isTold) (.ref m0_isPast) (.ref m0_kept) (.ref m0_smoke) (.ref m0_early) (.int 0) (.ref m0_manAt) (.int 0) (.ref m0_changeKind) (.ref m0_changeOf) (.ref m0_changeTo) (.ref m0_row) (.ref m0_openWas) (.ref m0_fallenWas) (.ref m0_speedWas) (.int 0) (.ref m0_readingOf) (.ref m0_low) (.ref m0_high) (.ref m0_back)))] U.heap ∧ va_K (dC, dI) classes [] U ∧ va_D (fun q => n0 ≤ q) [(m0, .inr (14, fX14 (.int j1) (.ref m0_power) (.int j2) (.int j3) (.int 0) .null .null (.ref sp) (.ref m0_tape) (.int 0) (.int 0) (.int 0) (.int 0) (.int 0) (.int 0) (.int 0) (.long 0) (.ref m0_isOpen) (.ref m0_isFallen) (.ref m0_speed) (.ref m0_fire) (.int jm) (.int (-1)) (.int 0) (.ref m0_air) (.ref m0_cameBy) (.ref m0_least) (.ref m0_before) (.ref m0_gas) (.ref m0_into) (.ref m0_rest) (.ref m0_isTold) (.ref m0_isPast) (.ref m0_kept) (.ref m0_smoke) (.ref m0_early) (.int 0) (.ref m0_manAt) (.int 0) (.ref m0_changeKind) (.ref m0_changeOf) (.ref m0_changeTo) (.ref m0_row) (.ref m0_openWas) (.ref m0_fallenWas) (.ref m0_speedWas) (.int 0) (.ref m0_readingOf) (.ref m0_low) (.ref m0_high) (.ref m0_back)))])) (va_Qi (fun (r : Int32) (_ : Unit) => r = 1) (fun (_ : Unit) (t : State) => va_P (dC, dI) classes [(m0, .inr (14, fX14 (.int j1) (.ref m0_power) (.int 0) (.int (-1)) (.int 0) .null .null (.ref sp) (.ref m0_tape) (.int 0) (.int 0) (.int 0) (.int 0) (.int 0) (.int 0) (.int 0) (.long 0) (.ref m0_isOpen) (.ref m0_isFallen) (.ref m0_speed) (.ref m0_fire) (.int jm) (.int (-1)) (.int 0) (.ref m0_air) (.ref m0_cameBy) (.ref m0_least) (.ref m0_before) (.ref m0_gas) (.ref m0_into) (.ref m0_rest) (.ref m0_isTold) (.ref m0_isPast) (.ref m0_kept) (.ref m0_smoke) (.ref m0_early) (.int 0) (.ref m0_manAt) (.int 0) (.ref m0_changeKind) (.ref m0_changeOf) (.ref m0_changeTo) (.ref m0_row) (.ref m0_openWas) (.ref m0_fallenWas) (.ref m0_speedWas) (.int 0) (.ref m0_readingOf) (.ref m0_low) (.ref m0_high) (.ref m0_back)))] t.heap ∧ va_K (dC, dI) classes [] t ∧ va_D (va_A [(m0, .inr (14, fX14 (.int j1) (.ref m0_power) (.int j2) (.int j3) (.int 0) .null .null (.ref sp) (.ref m0_tape) (.int 0) (.int 0) (.int 0) (.int 0) (.int 0) (.int 0) (.int 0) (.long 0) (.ref m0_isOpen) (.ref m0_isFallen) (.ref m0_speed) (.ref m0_fire) (.int jm) (.int (-1)) (.int 0) (.ref m0_air) (.ref m0_cameBy) (.ref m0_least) (.ref m0_before) (.ref m0_gas) (.ref m0_into) (.ref m0_rest) (.ref m0_isTold) (.ref m0_isPast) (.ref m0_kept) (.ref m0_smoke) (.ref m0_early) (.int 0) (.ref m0_manAt) (.int 0) (.ref m0_changeKind) (.ref m0_changeOf) (.ref m0_changeTo) (.ref m0_row) (.ref m0_openWas) (.ref m0_fallenWas) (.ref m0_speedWas) (.int 0) (.ref m0_readingOf) (.ref m0_low) (.ref m0_high) (.ref m0_back)))] sz) [(m0, .inr (14, fX14 (.int j1) (.ref m0_power) (.int 0) (.int (-1)) (.int 0) .null .null (.ref sp) (.ref m0_tape) (.int 0) (.int 0) (.int 0) (.int 0) (.int 0) (.int 0) (.int 0) (.long 0) (.ref m0_isOpen) (.ref m0_isFallen) (.ref m0_speed) (.ref m0_fire) (.int jm) (.int (-1)) (.int 0) (.ref m0_air) (.ref m0_cameBy) (.ref m0_least) (.ref m0_before) (.ref m0_gas) (.ref m0_into) (.ref m0_rest) (.ref m0_isTold) (.ref m0_isPast) (.ref m0_kept) (.ref m0_smoke) (.ref m0_early) (.int 0) (.ref m0_manAt) (.int 0) (.ref m0_changeKind) (.ref m0_changeOf) (.ref m0_changeTo) (.ref m0_row) (.ref m0_openWas) (.ref m0_fallenWas) (.ref m0_speedWas) (.int 0) (.ref m0_readingOf) (.ref m0_low) (.ref m0_high) (.ref m0_back)))]) (va_A [(m0, .inr (14, fX14 (.int j1) (.ref m0_power) (.int j2) (.int j3) (.int 0) .null .null (.ref sp) (.ref m0_tape) (.int 0) (.int 0) (.int 0) (.int 0) (.int 0) (.int 0) (.int 0) (.long 0) (.ref m0_isOpen) (.ref m0_isFallen) (.ref m0_speed) (.ref m0_fire) (.int jm) (.int (-1)) (.int 0) (.ref m0_air) (.ref m0_cameBy) (.ref m0_least) (.ref m0_before) (.ref m0_gas) (.ref m0_into) (.ref m0_rest) (.ref m0_isTold) (.ref m0_isPast) (.ref m0_kept) (.ref m0_smoke) (.ref m0_early) (.int 0) (.ref m0_manAt) (.int 0) (.ref m0_changeKind) (.ref m0_changeOf) (.ref m0_changeTo) (.ref m0_row) (.ref m0_openWas) (.ref m0_fallenWas) (.ref m0_speedWas) (.int 0) (.ref m0_readingOf) (.ref m0_low) (.ref m0_high) (.ref m0_back)))] sz)) 0 0 (va_A [(m0, .inr (14, fX14 (.int j1) (.ref m0_power) (.int j2) (.int j3) (.int 0) .null .null (.ref sp) (.ref m0_tape) (.int 0) (.int 0) (.int 0) (.int 0) (.int 0) (.int 0) (.int 0) (.long 0) (.ref m0_isOpen) (.ref m0_isFallen) (.ref m0_speed) (.ref m0_fire) (.int jm) (.int (-1)) (.int 0) (.ref m0_air) (.ref m0_cameBy) (.ref m0_least) (.ref m0_before) (.ref m0_gas) (.ref m0_into) (.ref m0_rest) (.ref m0_isTold) (.ref m0_isPast) (.ref m0_kept) (.ref m0_smoke) (.ref m0_early) (.int 0) (.ref m0_manAt) (.int 0) (.ref m0_changeKind) (.ref m0_changeOf) (.ref m0_changeTo) (.ref m0_row) (.ref m0_openWas) (.ref m0_fallenWas) (.ref m0_speedWas) (.int 0) (.ref m0_readingOf) (.ref m0_low) (.ref m0_high) (.ref m0_back)))] sz) := by
  refine Met.ofW (cc := cX14_granted) (maxL := 1) (ret := (some .boolean)) (by decide) rfl ?_
  intro p e s m args below meth c s₁ B hml hv
  obtain ⟨rfl, hsz, hn0, hG, hP, hK, hD0⟩ := hv
  have hx := B.exec
  have hb := B.bytes
  have hr := B.returns
  have hts := atoms_spec (ws := wM yX14_granted cX14_granted 1 (some .boolean)) B.pre
  have hown : s.vm.findClass RX14 = some m.cls := findClass_of_methodNamed B.named
  have hlocks := B.notSynchronized
  subst hsz
  have hD := hD0.self (sz := s.heap.size)
  have hA0 := vA_n0 hD0 hn0
  generalize hAe : va_A [(m0, .inr (14, fX14 (.int j1) (.ref m0_power) (.int j2) (.int j3) (.int 0) .null .null (.ref sp) (.ref m0_tape) (.int 0) (.int 0) (.int 0) (.int 0) (.int 0) (.int 0) (.int 0) (.long 0) (.ref m0_isOpen) (.ref m0_isFallen) (.ref m0_speed) (.ref m0_fire) (.int jm) (.int (-1)) (.int 0) (.ref m0_air) (.ref m0_cameBy) (.ref m0_least) (.ref m0_before) (.ref m0_gas) (.ref m0_into) (.ref m0_rest) (.ref m0_isTold) (.ref m0_isPast) (.ref m0_kept) (.ref m0_smoke) (.ref m0_early) (.int 0) (.ref m0_manAt) (.int 0) (.ref m0_changeKind) (.ref m0_changeOf) (.ref m0_changeTo) (.ref m0_row) (.ref m0_openWas) (.ref m0_fallenWas) (.ref m0_speedWas) (.int 0) (.ref m0_readingOf) (.ref m0_low) (.ref m0_high) (.ref m0_back)))] s.heap.size = A at hD hA0 ⊢
  have hA : ∀ q : Nat, s.heap.size ≤ q → A q := fun q h => by rw [← hAe]; exact Or.inr h
  have hS : va_S A s.heap s.heap [] := va_S.rf
  have hl := lv_entry ([.ref m0]) (n := 1) (Nat.le_of_ble_eq_true rfl)
  rw [lg_entry_eq]
  generalize (lg_sl ([.ref m0]) ++ List.replicate (1 - (lg_sl ([.ref m0])).length) Slot.unset).toArray = ls at hl ⊢
  have hl : lv_has ls 1 [(0, .ref m0)] := hl
  refine lv_aload_n hx hb dX14_granted_0 rfl (lv_at hl 0 rfl) ?_
  refine lv_iconst (v := 0) hx hb dX14_granted_1 (by decide) ?_
  refine va_put (D := (dC, dI)) (ci := 14) (v := .int 0) (ty := .int) (C := RX14) (T := TX14) (N := 51) hx hb hts (fun w h => wM_c (iX14 w h)) tyX14 tyX14_ok nmX14 hown hK hP hD hS 0 rfl rfl 2 (by decide) (hts _ (wM_c wd_1455)) (fun _ h9 => h9) rfl (by decide +kernel) rfl rfl (Nat.le_of_ble_eq_true rfl) dX14_granted_2 (fun H locs hP hD hS => ?_)
  have hP : va_P (dC, dI) classes [(m0, .inr (14, fX14 (.int j1) (.ref m0_power) (.int 0) (.int j3) (.int 0) .null .null (.ref sp) (.ref m0_tape) (.int 0) (.int 0) (.int 0) (.int 0) (.int 0) (.int 0) (.int 0) (.long 0) (.ref m0_isOpen) (.ref m0_isFallen) (.ref m0_speed) (.ref m0_fire) (.int jm) (.int (-1)) (.int 0) (.ref m0_air) (.ref m0_cameBy) (.ref m0_least) (.ref m0_before) (.ref m0_gas) (.ref m0_into) (.ref m0_rest) (.ref m0_isTold) (.ref m0_isPast) (.ref m0_kept) (.ref m0_smoke) (.ref m0_early) (.int 0) (.ref m0_manAt) (.int 0) (.ref m0_changeKind) (.ref m0_changeOf) (.ref m0_changeTo) (.ref m0_row) (.ref m0_openWas) (.ref m0_fallenWas) (.ref m0_speedWas) (.int 0) (.ref m0_readingOf) (.ref m0_low) (.ref m0_high) (.ref m0_back)))] H := hP
  have hD : va_D A [(m0, .inr (14, fX14 (.int j1) (.ref m0_power) (.int 0) (.int j3) (.int 0) .null .null (.ref sp) (.ref m0_tape) (.int 0) (.int 0) (.int 0) (.int 0) (.int 0) (.int 0) (.int 0) (.long 0) (.ref m0_isOpen) (.ref m0_isFallen) (.ref m0_speed) (.ref m0_fire) (.int jm) (.int (-1)) (.int 0) (.ref m0_air) (.ref m0_cameBy) (.ref m0_least) (.ref m0_before) (.ref m0_gas) (.ref m0_into) (.ref m0_rest) (.ref m0_isTold) (.ref m0_isPast) (.ref m0_kept) (.ref m0_smoke) (.ref m0_early) (.int 0) (.ref m0_manAt) (.int 0) (.ref m0_changeKind) (.ref m0_changeOf) (.ref m0_changeTo) (.ref m0_row) (.ref m0_openWas) (.ref m0_fallenWas) (.ref m0_speedWas) (.int 0) (.ref m0_readingOf) (.ref m0_low) (.ref m0_high) (.ref m0_back)))] := hD
  refine lv_aload_n hx hb dX14_granted_5 rfl (lv_at hl 0 rfl) ?_
  refine lv_iconst (v := (-1)) hx hb dX14_granted_6 (by decide) ?_
  refine va_put (D := (dC, dI)) (ci := 14) (v := .int (-1)) (ty := .int) (C := RX14) (T := TX14) (N := 51) hx hb hts (fun w h => wM_c (iX14 w h)) tyX14 tyX14_ok nmX14 hown hK hP hD hS 0 rfl rfl 3 (by decide) (hts _ (wM_c wd_1456)) (fun _ h9 => h9) rfl (by decide +kernel) rfl rfl (Nat.le_of_ble_eq_true rfl) dX14_granted_7 (fun H locs hP hD hS => ?_)
  have hP : va_P (dC, dI) classes [(m0, .inr (14, fX14 (.int j1) (.ref m0_power) (.int 0) (.int (-1)) (.int 0) .null .null (.ref sp) (.ref m0_tape) (.int 0) (.int 0) (.int 0) (.int 0) (.int 0) (.int 0) (.int 0) (.long 0) (.ref m0_isOpen) (.ref m0_isFallen) (.ref m0_speed) (.ref m0_fire) (.int jm) (.int (-1)) (.int 0) (.ref m0_air) (.ref m0_cameBy) (.ref m0_least) (.ref m0_before) (.ref m0_gas) (.ref m0_into) (.ref m0_rest) (.ref m0_isTold) (.ref m0_isPast) (.ref m0_kept) (.ref m0_smoke) (.ref m0_early) (.int 0) (.ref m0_manAt) (.int 0) (.ref m0_changeKind) (.ref m0_changeOf) (.ref m0_changeTo) (.ref m0_row) (.ref m0_openWas) (.ref m0_fallenWas) (.ref m0_speedWas) (.int 0) (.ref m0_readingOf) (.ref m0_low) (.ref m0_high) (.ref m0_back)))] H := hP
  have hD : va_D A [(m0, .inr (14, fX14 (.int j1) (.ref m0_power) (.int 0) (.int (-1)) (.int 0) .null .null (.ref sp) (.ref m0_tape) (.int 0) (.int 0) (.int 0) (.int 0) (.int 0) (.int 0) (.int 0) (.long 0) (.ref m0_isOpen) (.ref m0_isFallen) (.ref m0_speed) (.ref m0_fire) (.int jm) (.int (-1)) (.int 0) (.ref m0_air) (.ref m0_cameBy) (.ref m0_least) (.ref m0_before) (.ref m0_gas) (.ref m0_into) (.ref m0_rest) (.ref m0_isTold) (.ref m0_isPast) (.ref m0_kept) (.ref m0_smoke) (.ref m0_early) (.int 0) (.ref m0_manAt) (.int 0) (.ref m0_changeKind) (.ref m0_changeOf) (.ref m0_changeTo) (.ref m0_row) (.ref m0_openWas) (.ref m0_fallenWas) (.ref m0_speedWas) (.int 0) (.ref m0_readingOf) (.ref m0_low) (.ref m0_high) (.ref m0_back)))] := hD
  refine lv_iconst (v := 1) hx hb dX14_granted_10 (by decide) ?_
  have hP9 := hP.sub (ws' := [(m0, .inr (14, fX14 (.int j1) (.ref m0_power) (.int 0) (.int (-1)) (.int 0) .null .null (.ref sp) (.ref m0_tape) (.int 0) (.int 0) (.int 0) (.int 0) (.int 0) (.int 0) (.int 0) (.long 0) (.ref m0_isOpen) (.ref m0_isFallen) (.ref m0_speed) (.ref m0_fire) (.int jm) (.int (-1)) (.int 0) (.ref m0_air) (.ref m0_cameBy) (.ref m0_least) (.ref m0_before) (.ref m0_gas) (.ref m0_into) (.ref m0_rest) (.ref m0_isTold) (.ref m0_isPast) (.ref m0_kept) (.ref m0_smoke) (.ref m0_early) (.int 0) (.ref m0_manAt) (.int 0) (.ref m0_changeKind) (.ref m0_changeOf) (.ref m0_changeTo) (.ref m0_row) (.ref m0_openWas) (.ref m0_fallenWas) (.ref m0_speedWas) (.int 0) (.ref m0_readingOf) (.ref m0_low) (.ref m0_high) (.ref m0_back)))]) [0] rfl
  have hD9 := hD.sub (ws' := [(m0, .inr (14, fX14 (.int j1) (.ref m0_power) (.int 0) (.int (-1)) (.int 0) .null .null (.ref sp) (.ref m0_tape) (.int 0) (.int 0) (.int 0) (.int 0) (.int 0) (.int 0) (.int 0) (.long 0) (.ref m0_isOpen) (.ref m0_isFallen) (.ref m0_speed) (.ref m0_fire) (.int jm) (.int (-1)) (.int 0) (.ref m0_air) (.ref m0_cameBy) (.ref m0_least) (.ref m0_before) (.ref m0_gas) (.ref m0_into) (.ref m0_rest) (.ref m0_isTold) (.ref m0_isPast) (.ref m0_kept) (.ref m0_smoke) (.ref m0_early) (.int 0) (.ref m0_manAt) (.int 0) (.ref m0_changeKind) (.ref m0_changeOf) (.ref m0_changeTo) (.ref m0_row) (.ref m0_openWas) (.ref m0_fallenWas) (.ref m0_speedWas) (.int 0) (.ref m0_readingOf) (.ref m0_low) (.ref m0_high) (.ref m0_back)))]) [0] (by decide) rfl
  have hK9 := hK.sub (tys' := []) [] rfl
  exact W.zret (v := 1) hx hb hr rfl (fun t ht hW => ⟨⟨1, (), rfl, rfl, by rw [ht]; exact hP9, va_K.moved hW.alike hK9, hD9⟩, hS.F ht⟩) hS.2.2 dX14_granted_11
set_option maxHeartbeats 4000000 in
set_option maxRecDepth 100000 in
theorem q_mark (l : Launch) (dC : Nat → ClassId) (dI : Nat → Nat → Nat) (n0 sz : Nat) (m0 : Nat) (m0_power : Nat) (sp : Nat) (m0_tape : Nat) (m0_isOpen : Nat) (m0_isFallen : Nat) (m0_speed : Nat) (m0_fire : Nat) (m0_air : Nat) (m0_cameBy : Nat) (m0_least : Nat) (m0_before : Nat) (m0_gas : Nat) (m0_into : Nat) (m0_rest : Nat) (m0_isTold : Nat) (m0_isPast : Nat) (m0_kept : Nat) (m0_smoke : Nat) (m0_early : Nat) (m0_manAt : Nat) (m0_changeKind : Nat) (m0_changeOf : Nat) (m0_changeTo : Nat) (m0_row : Nat) (m0_openWas : Nat) (m0_fallenWas : Nat) (m0_speedWas : Nat) (m0_readingOf : Nat) (m0_low : Nat) (m0_high : Nat) (m0_back : Nat) (w : Int32) : Met l yX14_mark (wM yX14_mark cX14_mark 2 (some .boolean)) ({ frames := 1, cells := 0, slots := 0, locals := 22 }) (va_Pc [.ref m0, .int w] (fun U => U.heap.size = sz ∧ n0 ≤ sz ∧ GW n0 U ∧ va_P (dC, dI) classes [(m0, .inr (14, fX14 (.int 0) (.ref m0_power) (.int 0) (.int (-1)) (.int 0) .null .null (.ref sp) (.ref m0_tape) (.int 0) (.int 0) (.int 0) (.int 0) (.int 0) (.int 0) (.int 0) (.long 0) (.ref m0_isOpen) (.ref m0_isFallen) (.ref m0_speed) (.ref m0_fire) (.int 10) (.int (-1)) (.int 0) (.ref m0_air) (.ref m0_cameBy) (.ref m0_least) (.ref m0_before) (.ref m0_gas) (.ref m0_into) (.ref m0_rest) (.ref m0_isTold) (.ref m0_isPast) (.ref m0_kept) (.ref m0_smoke) (.ref m0_early) (.int 0) (.ref m0_manAt) (.int 0) (.ref m0_changeKind) (.ref m0_changeOf) (.ref m0_changeTo) (.ref m0_row) (.ref m0_openWas) (.ref m0_fallenWas) (.ref m0_speedWas) (.int 0) (.ref m0_readingOf) (.ref m0_low) (.ref m0_high) (.ref m0_back)))] U.heap ∧ va_K (dC, dI) classes [] U ∧ va_D (fun q => n0 ≤ q) [(m0, .inr (14, fX14 (.int 0) (.ref m0_power) (.int 0) (.int (-1)) (.int 0) .null .null (.ref sp) (.ref m0_tape) (.int 0) (.int 0) (.int 0) (.int 0) (.int 0) (.int 0) (.int 0) (.long 0) (.ref m0_isOpen) (.ref m0_isFallen) (.ref m0_speed) (.ref m0_fire) (.int 10) (.int (-1)) (.int 0) (.ref m0_air) (.ref m0_cameBy) (.ref m0_least) (.ref m0_before) (.ref m0_gas) (.ref m0_into) (.ref m0_rest) (.ref m0_isTold) (.ref m0_isPast) (.ref m0_kept) (.ref m0_smoke) (.ref m0_early) (.int 0) (.ref m0_manAt) (.int 0) (.ref m0_changeKind) (.ref m0_changeOf) (.ref m0_changeTo) (.ref m0_row) (.ref m0_openWas) (.ref m0_fallenWas) (.ref m0_speedWas) (.int 0) (.ref m0_readingOf) (.ref m0_low) (.ref m0_high) (.ref m0_back)))])) (va_Qi (fun (r : Int32) (_ : Unit) => r = mrk w) (fun (_ : Unit) (_ : State) => True) (va_A [(m0, .inr (14, fX14 (.int 0) (.ref m0_power) (.int 0) (.int (-1)) (.int 0) .null .null (.ref sp) (.ref m0_tape) (.int 0) (.int 0) (.int 0) (.int 0) (.int 0) (.int 0) (.int 0) (.long 0) (.ref m0_isOpen) (.ref m0_isFallen) (.ref m0_speed) (.ref m0_fire) (.int 10) (.int (-1)) (.int 0) (.ref m0_air) (.ref m0_cameBy) (.ref m0_least) (.ref m0_before) (.ref m0_gas) (.ref m0_into) (.ref m0_rest) (.ref m0_isTold) (.ref m0_isPast) (.ref m0_kept) (.ref m0_smoke) (.ref m0_early) (.int 0) (.ref m0_manAt) (.int 0) (.ref m0_changeKind) (.ref m0_changeOf) (.ref m0_changeTo) (.ref m0_row) (.ref m0_openWas) (.ref m0_fallenWas) (.ref m0_speedWas) (.int 0) (.ref m0_readingOf) (.ref m0_low) (.ref m0_high) (.ref m0_back)))] sz)) 0 0 (va_A [(m0, .inr (14, fX14 (.int 0) (.ref m0_power) (.int 0) (.int (-1)) (.int 0) .null .null (.ref sp) (.ref m0_tape) (.int 0) (.int 0) (.int 0) (.int 0) (.int 0) (.int 0) (.int 0) (.long 0) (.ref m0_isOpen) (.ref m0_isFallen) (.ref m0_speed) (.ref m0_fire) (.int 10) (.int (-1)) (.int 0) (.ref m0_air) (.ref m0_cameBy) (.ref m0_least) (.ref m0_before) (.ref m0_gas) (.ref m0_into) (.ref m0_rest) (.ref m0_isTold) (.ref m0_isPast) (.ref m0_kept) (.ref m0_smoke) (.ref m0_early) (.int 0) (.ref m0_manAt) (.int 0) (.ref m0_changeKind) (.ref m0_changeOf) (.ref m0_changeTo) (.ref m0_row) (.ref m0_openWas) (.ref m0_fallenWas) (.ref m0_speedWas) (.int 0) (.ref m0_readingOf) (.ref m0_low) (.ref m0_high) (.ref m0_back)))] sz) := by
  refine Met.ofW (cc := cX14_mark) (maxL := 2) (ret := (some .boolean)) (by decide) rfl ?_
  intro p e s m args below meth c s₁ B hml hv
  obtain ⟨rfl, hsz, hn0, hG, hP, hK, hD0⟩ := hv
  have hx := B.exec
  have hb := B.bytes
  have hr := B.returns
  have hts := atoms_spec (ws := wM yX14_mark cX14_mark 2 (some .boolean)) B.pre
  have hown : s.vm.findClass RX14 = some m.cls := findClass_of_methodNamed B.named
  have hlocks := B.notSynchronized
  subst hsz
  have hD := hD0.self (sz := s.heap.size)
  have hA0 := vA_n0 hD0 hn0
  generalize hAe : va_A [(m0, .inr (14, fX14 (.int 0) (.ref m0_power) (.int 0) (.int (-1)) (.int 0) .null .null (.ref sp) (.ref m0_tape) (.int 0) (.int 0) (.int 0) (.int 0) (.int 0) (.int 0) (.int 0) (.long 0) (.ref m0_isOpen) (.ref m0_isFallen) (.ref m0_speed) (.ref m0_fire) (.int 10) (.int (-1)) (.int 0) (.ref m0_air) (.ref m0_cameBy) (.ref m0_least) (.ref m0_before) (.ref m0_gas) (.ref m0_into) (.ref m0_rest) (.ref m0_isTold) (.ref m0_isPast) (.ref m0_kept) (.ref m0_smoke) (.ref m0_early) (.int 0) (.ref m0_manAt) (.int 0) (.ref m0_changeKind) (.ref m0_changeOf) (.ref m0_changeTo) (.ref m0_row) (.ref m0_openWas) (.ref m0_fallenWas) (.ref m0_speedWas) (.int 0) (.ref m0_readingOf) (.ref m0_low) (.ref m0_high) (.ref m0_back)))] s.heap.size = A at hD hA0 ⊢
  have hA : ∀ q : Nat, s.heap.size ≤ q → A q := fun q h => by rw [← hAe]; exact Or.inr h
  have hS : va_S A s.heap s.heap [] := va_S.rf
  have hl := lv_entry ([.ref m0, .int w]) (n := 2) (Nat.le_of_ble_eq_true rfl)
  rw [lg_entry_eq]
  generalize (lg_sl ([.ref m0, .int w]) ++ List.replicate (2 - (lg_sl ([.ref m0, .int w])).length) Slot.unset).toArray = ls at hl ⊢
  have hl : lv_has ls 2 [(0, .ref m0), (1, .int w)] := hl
  refine lv_aload_n hx hb dX14_mark_0 rfl (lv_at hl 0 rfl) ?_
  refine lv_iconst (v := 0) hx hb dX14_mark_1 (by decide) ?_
  refine va_put (D := (dC, dI)) (ci := 14) (v := .int 0) (ty := .int) (C := RX14) (T := TX14) (N := 51) hx hb hts (fun w h => wM_c (iX14 w h)) tyX14 tyX14_ok nmX14 hown hK hP hD hS 0 rfl rfl 0 (by decide) (hts _ (wM_c wd_1453)) (fun _ h9 => h9) rfl (by decide +kernel) rfl rfl (Nat.le_of_ble_eq_true rfl) dX14_mark_2 (fun H locs hP hD hS => ?_)
  have hP : va_P (dC, dI) classes [(m0, .inr (14, fX14 (.int 0) (.ref m0_power) (.int 0) (.int (-1)) (.int 0) .null .null (.ref sp) (.ref m0_tape) (.int 0) (.int 0) (.int 0) (.int 0) (.int 0) (.int 0) (.int 0) (.long 0) (.ref m0_isOpen) (.ref m0_isFallen) (.ref m0_speed) (.ref m0_fire) (.int 10) (.int (-1)) (.int 0) (.ref m0_air) (.ref m0_cameBy) (.ref m0_least) (.ref m0_before) (.ref m0_gas) (.ref m0_into) (.ref m0_rest) (.ref m0_isTold) (.ref m0_isPast) (.ref m0_kept) (.ref m0_smoke) (.ref m0_early) (.int 0) (.ref m0_manAt) (.int 0) (.ref m0_changeKind) (.ref m0_changeOf) (.ref m0_changeTo) (.ref m0_row) (.ref m0_openWas) (.ref m0_fallenWas) (.ref m0_speedWas) (.int 0) (.ref m0_readingOf) (.ref m0_low) (.ref m0_high) (.ref m0_back)))] H := hP
  have hD : va_D A [(m0, .inr (14, fX14 (.int 0) (.ref m0_power) (.int 0) (.int (-1)) (.int 0) .null .null (.ref sp) (.ref m0_tape) (.int 0) (.int 0) (.int 0) (.int 0) (.int 0) (.int 0) (.int 0) (.long 0) (.ref m0_isOpen) (.ref m0_isFallen) (.ref m0_speed) (.ref m0_fire) (.int 10) (.int (-1)) (.int 0) (.ref m0_air) (.ref m0_cameBy) (.ref m0_least) (.ref m0_before) (.ref m0_gas) (.ref m0_into) (.ref m0_rest) (.ref m0_isTold) (.ref m0_isPast) (.ref m0_kept) (.ref m0_smoke) (.ref m0_early) (.int 0) (.ref m0_manAt) (.int 0) (.ref m0_changeKind) (.ref m0_changeOf) (.ref m0_changeTo) (.ref m0_row) (.ref m0_openWas) (.ref m0_fallenWas) (.ref m0_speedWas) (.int 0) (.ref m0_readingOf) (.ref m0_low) (.ref m0_high) (.ref m0_back)))] := hD
  refine lv_iload_n hx hb dX14_mark_5 rfl (lv_at hl 1 rfl) ?_
  refine lv_iconst (v := 1) hx hb dX14_mark_6 (by decide) ?_
  refine lv_sipush (v := 999) hx hb dX14_mark_7 (by decide) ?_
  have hPc := hP.sub (ws' := []) [] rfl
  have hDc := hD.sub (ws' := []) [] (by decide) rfl
  have hKc := hK.sub (tys' := []) [] rfl
  have hFc := va_free (wc := []) hD hS hA [] rfl
  refine va_calli (va_runS (As := [.int w, .int 1, .int 999]) (rest := []) ⟨hx, hb, hml, hown, hts⟩ (m_in l dC dI n0 H.size w 1 999 ) (va_cwS 3 hts (gS (fun w h => wM_c h) wd_1811 wd_1809 wd_1810 wd_127) rfl rfl rfl (by decide +kernel) ⟨Nat.le_of_ble_eq_true rfl, Nat.le_of_ble_eq_true rfl⟩) ⟨fun a U g mk q => by obtain ⟨q0, q1, q2, qG, qP, qK, qD⟩ := q; exact ⟨q0, q1, q2, GW.blind qG, qP, va_K.moved (u := U) (U := U.calling g mk a) (Vm.Alike.refl U.vm) qK, qD⟩, fun U hU hW => ⟨rfl, by rw [hU], Nat.le_trans hn0 hS.1, GW.go hW hU hG (fun q hq hA9 => hS.2.1 q hq (fun h => hA9 (hA0 q h))), by rw [hU]; exact hPc, va_K.moved hW.alike hKc, hDc.weaken (fun _ _ _ h => hA0 _ h)⟩⟩ rfl rfl hl.1 rfl (lv_room (Nat.le_of_ble_eq_true rfl)) dX14_mark_10 ⟨Nat.le_of_ble_eq_true rfl, Nat.le_of_ble_eq_true rfl⟩) hS (fun q _ h => hFc q h) hFc (fun r_1 u t H1 locs ht hvm hw_2 hB hz1 hk1 hS => ?_)
  obtain ⟨hP1, hK1, hD1⟩ := hB
  rw [ht] at hP1
  obtain ⟨hP, hD⟩ := va_join (wr := [(m0, .inr (14, fX14 (.int 0) (.ref m0_power) (.int 0) (.int (-1)) (.int 0) .null .null (.ref sp) (.ref m0_tape) (.int 0) (.int 0) (.int 0) (.int 0) (.int 0) (.int 0) (.int 0) (.long 0) (.ref m0_isOpen) (.ref m0_isFallen) (.ref m0_speed) (.ref m0_fire) (.int 10) (.int (-1)) (.int 0) (.ref m0_air) (.ref m0_cameBy) (.ref m0_least) (.ref m0_before) (.ref m0_gas) (.ref m0_into) (.ref m0_rest) (.ref m0_isTold) (.ref m0_isPast) (.ref m0_kept) (.ref m0_smoke) (.ref m0_early) (.int 0) (.ref m0_manAt) (.int 0) (.ref m0_changeKind) (.ref m0_changeOf) (.ref m0_changeTo) (.ref m0_row) (.ref m0_openWas) (.ref m0_fallenWas) (.ref m0_speedWas) (.int 0) (.ref m0_readingOf) (.ref m0_low) (.ref m0_high) (.ref m0_back)))]) (w1 := []) hP hD [] [0] rfl rfl (by decide) (by decide) hk1 hFc hP1 hD1
  generalize H1 = H at hP hS ⊢
  have hP : va_P (dC, dI) classes [(m0, .inr (14, fX14 (.int 0) (.ref m0_power) (.int 0) (.int (-1)) (.int 0) .null .null (.ref sp) (.ref m0_tape) (.int 0) (.int 0) (.int 0) (.int 0) (.int 0) (.int 0) (.int 0) (.long 0) (.ref m0_isOpen) (.ref m0_isFallen) (.ref m0_speed) (.ref m0_fire) (.int 10) (.int (-1)) (.int 0) (.ref m0_air) (.ref m0_cameBy) (.ref m0_least) (.ref m0_before) (.ref m0_gas) (.ref m0_into) (.ref m0_rest) (.ref m0_isTold) (.ref m0_isPast) (.ref m0_kept) (.ref m0_smoke) (.ref m0_early) (.int 0) (.ref m0_manAt) (.int 0) (.ref m0_changeKind) (.ref m0_changeOf) (.ref m0_changeTo) (.ref m0_row) (.ref m0_openWas) (.ref m0_fallenWas) (.ref m0_speedWas) (.int 0) (.ref m0_readingOf) (.ref m0_low) (.ref m0_high) (.ref m0_back)))] H := hP
  have hD : va_D A [(m0, .inr (14, fX14 (.int 0) (.ref m0_power) (.int 0) (.int (-1)) (.int 0) .null .null (.ref sp) (.ref m0_tape) (.int 0) (.int 0) (.int 0) (.int 0) (.int 0) (.int 0) (.int 0) (.long 0) (.ref m0_isOpen) (.ref m0_isFallen) (.ref m0_speed) (.ref m0_fire) (.int 10) (.int (-1)) (.int 0) (.ref m0_air) (.ref m0_cameBy) (.ref m0_least) (.ref m0_before) (.ref m0_gas) (.ref m0_into) (.ref m0_rest) (.ref m0_isTold) (.ref m0_isPast) (.ref m0_kept) (.ref m0_smoke) (.ref m0_early) (.int 0) (.ref m0_manAt) (.int 0) (.ref m0_changeKind) (.ref m0_changeOf) (.ref m0_changeTo) (.ref m0_row) (.ref m0_openWas) (.ref m0_fallenWas) (.ref m0_speedWas) (.int 0) (.ref m0_readingOf) (.ref m0_low) (.ref m0_high) (.ref m0_back)))] := hD
  refine lv_if_ne (tgt := 22) hx hb dX14_mark_13 (by decide) (fun c_3 => ?_) (fun c_3 => ?_)
  · skip
    refine lv_aload_n hx hb dX14_mark_22 rfl (lv_at hl 0 rfl) ?_
    refine lv_iload_n hx hb dX14_mark_23 rfl (lv_at hl 1 rfl) ?_
    refine va_put (D := (dC, dI)) (ci := 14) (v := .int w) (ty := .int) (C := RX14) (T := TX14) (N := 51) hx hb hts (fun w h => wM_c (iX14 w h)) tyX14 tyX14_ok nmX14 hown hK hP hD hS 0 rfl rfl 21 (by decide) (hts _ (wM_c wd_1474)) (fun _ h9 => h9) rfl (by decide +kernel) rfl rfl (Nat.le_of_ble_eq_true rfl) dX14_mark_24 (fun H locs hP hD hS => ?_)
    have hP : va_P (dC, dI) classes [(m0, .inr (14, fX14 (.int 0) (.ref m0_power) (.int 0) (.int (-1)) (.int 0) .null .null (.ref sp) (.ref m0_tape) (.int 0) (.int 0) (.int 0) (.int 0) (.int 0) (.int 0) (.int 0) (.long 0) (.ref m0_isOpen) (.ref m0_isFallen) (.ref m0_speed) (.ref m0_fire) (.int w) (.int (-1)) (.int 0) (.ref m0_air) (.ref m0_cameBy) (.ref m0_least) (.ref m0_before) (.ref m0_gas) (.ref m0_into) (.ref m0_rest) (.ref m0_isTold) (.ref m0_isPast) (.ref m0_kept) (.ref m0_smoke) (.ref m0_early) (.int 0) (.ref m0_manAt) (.int 0) (.ref m0_changeKind) (.ref m0_changeOf) (.ref m0_changeTo) (.ref m0_row) (.ref m0_openWas) (.ref m0_fallenWas) (.ref m0_speedWas) (.int 0) (.ref m0_readingOf) (.ref m0_low) (.ref m0_high) (.ref m0_back)))] H := hP
    have hD : va_D A [(m0, .inr (14, fX14 (.int 0) (.ref m0_power) (.int 0) (.int (-1)) (.int 0) .null .null (.ref sp) (.ref m0_tape) (.int 0) (.int 0) (.int 0) (.int 0) (.int 0) (.int 0) (.int 0) (.long 0) (.ref m0_isOpen) (.ref m0_isFallen) (.ref m0_speed) (.ref m0_fire) (.int w) (.int (-1)) (.int 0) (.ref m0_air) (.ref m0_cameBy) (.ref m0_least) (.ref m0_before) (.ref m0_gas) (.ref m0_into) (.ref m0_rest) (.ref m0_isTold) (.ref m0_isPast) (.ref m0_kept) (.ref m0_smoke) (.ref m0_early) (.int 0) (.ref m0_manAt) (.int 0) (.ref m0_changeKind) (.ref m0_changeOf) (.ref m0_changeTo) (.ref m0_row) (.ref m0_openWas) (.ref m0_fallenWas) (.ref m0_speedWas) (.int 0) (.ref m0_readingOf) (.ref m0_low) (.ref m0_high) (.ref m0_back)))] := hD
    refine lv_aload_n hx hb dX14_mark_27 rfl (lv_at hl 0 rfl) ?_
    have hPc := hP.sub (ws' := [(m0, .inr (14, fX14 (.int 0) (.ref m0_power) (.int 0) (.int (-1)) (.int 0) .null .null (.ref sp) (.ref m0_tape) (.int 0) (.int 0) (.int 0) (.int 0) (.int 0) (.int 0) (.int 0) (.long 0) (.ref m0_isOpen) (.ref m0_isFallen) (.ref m0_speed) (.ref m0_fire) (.int w) (.int (-1)) (.int 0) (.ref m0_air) (.ref m0_cameBy) (.ref m0_least) (.ref m0_before) (.ref m0_gas) (.ref m0_into) (.ref m0_rest) (.ref m0_isTold) (.ref m0_isPast) (.ref m0_kept) (.ref m0_smoke) (.ref m0_early) (.int 0) (.ref m0_manAt) (.int 0) (.ref m0_changeKind) (.ref m0_changeOf) (.ref m0_changeTo) (.ref m0_row) (.ref m0_openWas) (.ref m0_fallenWas) (.ref m0_speedWas) (.int 0) (.ref m0_readingOf) (.ref m0_low) (.ref m0_high) (.ref m0_back)))]) [0] rfl
    have hDc := hD.sub (ws' := [(m0, .inr (14, fX14 (.int 0) (.ref m0_power) (.int 0) (.int (-1)) (.int 0) .null .null (.ref sp) (.ref m0_tape) (.int 0) (.int 0) (.int 0) (.int 0) (.int 0) (.int 0) (.int 0) (.long 0) (.ref m0_isOpen) (.ref m0_isFallen) (.ref m0_speed) (.ref m0_fire) (.int w) (.int (-1)) (.int 0) (.ref m0_air) (.ref m0_cameBy) (.ref m0_least) (.ref m0_before) (.ref m0_gas) (.ref m0_into) (.ref m0_rest) (.ref m0_isTold) (.ref m0_isPast) (.ref m0_kept) (.ref m0_smoke) (.ref m0_early) (.int 0) (.ref m0_manAt) (.int 0) (.ref m0_changeKind) (.ref m0_changeOf) (.ref m0_changeTo) (.ref m0_row) (.ref m0_openWas) (.ref m0_fallenWas) (.ref m0_speedWas) (.int 0) (.ref m0_readingOf) (.ref m0_low) (.ref m0_high) (.ref m0_back)))]) [0] (by decide) rfl
    have hKc := hK.sub (tys' := []) [] rfl
    have hFc := va_free (wc := [(m0, .inr (14, fX14 (.int 0) (.ref m0_power) (.int 0) (.int (-1)) (.int 0) .null .null (.ref sp) (.ref m0_tape) (.int 0) (.int 0) (.int 0) (.int 0) (.int 0) (.int 0) (.int 0) (.long 0) (.ref m0_isOpen) (.ref m0_isFallen) (.ref m0_speed) (.ref m0_fire) (.int w) (.int (-1)) (.int 0) (.ref m0_air) (.ref m0_cameBy) (.ref m0_least) (.ref m0_before) (.ref m0_gas) (.ref m0_into) (.ref m0_rest) (.ref m0_isTold) (.ref m0_isPast) (.ref m0_kept) (.ref m0_smoke) (.ref m0_early) (.int 0) (.ref m0_manAt) (.int 0) (.ref m0_changeKind) (.ref m0_changeOf) (.ref m0_changeTo) (.ref m0_row) (.ref m0_openWas) (.ref m0_fallenWas) (.ref m0_speedWas) (.int 0) (.ref m0_readingOf) (.ref m0_low) (.ref m0_high) (.ref m0_back)))]) hD hS hA [0] rfl
    refine va_calli (va_runV (As := []) (rest := []) ⟨hx, hb, hml, hown, hts⟩ (m_granted2 l dC dI n0 H.size m0 0 m0_power 0 (-1) sp m0_tape m0_isOpen m0_isFallen m0_speed m0_fire w m0_air m0_cameBy m0_least m0_before m0_gas m0_into m0_rest m0_isTold m0_isPast m0_kept m0_smoke m0_early m0_manAt m0_changeKind m0_changeOf m0_changeTo m0_row m0_openWas m0_fallenWas m0_speedWas m0_readingOf m0_low m0_high m0_back ) (cwV 0 hts (gV (fun w h => wM_c h) wd_1890 wd_1887 wd_1889 wd_84 wd_127) rfl rfl rfl (by decide +kernel) ⟨Nat.le_of_ble_eq_true rfl, Nat.le_of_ble_eq_true rfl⟩) ⟨fun a U g mk q => by obtain ⟨q0, q1, q2, qG, qP, qK, qD⟩ := q; exact ⟨q0, q1, q2, GW.blind qG, qP, va_K.moved (u := U) (U := U.calling g mk a) (Vm.Alike.refl U.vm) qK, qD⟩, va_recv hKc hPc (ci := 14) (q0 := 0) rfl rfl, fun U hU hW => ⟨rfl, by rw [hU], Nat.le_trans hn0 hS.1, GW.go hW hU hG (fun q hq hA9 => hS.2.1 q hq (fun h => hA9 (hA0 q h))), by rw [hU]; exact hPc, va_K.moved hW.alike hKc, hDc.weaken (fun _ _ _ h => hA0 _ h)⟩⟩ rfl rfl hl.1 rfl (lv_room (Nat.le_of_ble_eq_true rfl)) dX14_mark_28 ⟨Nat.le_of_ble_eq_true rfl, Nat.le_of_ble_eq_true rfl⟩) hS (fun q _ h => hFc q h) hFc (fun r_4 u t H1 locs ht hvm hw_5 hB hz1 hk1 hS => ?_)
    obtain ⟨hP1, hK1, hD1⟩ := hB
    rw [ht] at hP1
    obtain ⟨hP, hD⟩ := va_join (wr := []) (w1 := [(m0, .inr (14, fX14 (.int 0) (.ref m0_power) (.int 0) (.int (-1)) (.int 0) .null .null (.ref sp) (.ref m0_tape) (.int 0) (.int 0) (.int 0) (.int 0) (.int 0) (.int 0) (.int 0) (.long 0) (.ref m0_isOpen) (.ref m0_isFallen) (.ref m0_speed) (.ref m0_fire) (.int w) (.int (-1)) (.int 0) (.ref m0_air) (.ref m0_cameBy) (.ref m0_least) (.ref m0_before) (.ref m0_gas) (.ref m0_into) (.ref m0_rest) (.ref m0_isTold) (.ref m0_isPast) (.ref m0_kept) (.ref m0_smoke) (.ref m0_early) (.int 0) (.ref m0_manAt) (.int 0) (.ref m0_changeKind) (.ref m0_changeOf) (.ref m0_changeTo) (.ref m0_row) (.ref m0_openWas) (.ref m0_fallenWas) (.ref m0_speedWas) (.int 0) (.ref m0_readingOf) (.ref m0_low) (.ref m0_high) (.ref m0_back)))]) hP hD [0] [] rfl rfl (by decide) (by decide) hk1 hFc hP1 hD1
    generalize H1 = H at hP hS ⊢
    have hP : va_P (dC, dI) classes [(m0, .inr (14, fX14 (.int 0) (.ref m0_power) (.int 0) (.int (-1)) (.int 0) .null .null (.ref sp) (.ref m0_tape) (.int 0) (.int 0) (.int 0) (.int 0) (.int 0) (.int 0) (.int 0) (.long 0) (.ref m0_isOpen) (.ref m0_isFallen) (.ref m0_speed) (.ref m0_fire) (.int w) (.int (-1)) (.int 0) (.ref m0_air) (.ref m0_cameBy) (.ref m0_least) (.ref m0_before) (.ref m0_gas) (.ref m0_into) (.ref m0_rest) (.ref m0_isTold) (.ref m0_isPast) (.ref m0_kept) (.ref m0_smoke) (.ref m0_early) (.int 0) (.ref m0_manAt) (.int 0) (.ref m0_changeKind) (.ref m0_changeOf) (.ref m0_changeTo) (.ref m0_row) (.ref m0_openWas) (.ref m0_fallenWas) (.ref m0_speedWas) (.int 0) (.ref m0_readingOf) (.ref m0_low) (.ref m0_high) (.ref m0_back)))] H := hP
    have hD : va_D A [(m0, .inr (14, fX14 (.int 0) (.ref m0_power) (.int 0) (.int (-1)) (.int 0) .null .null (.ref sp) (.ref m0_tape) (.int 0) (.int 0) (.int 0) (.int 0) (.int 0) (.int 0) (.int 0) (.long 0) (.ref m0_isOpen) (.ref m0_isFallen) (.ref m0_speed) (.ref m0_fire) (.int w) (.int (-1)) (.int 0) (.ref m0_air) (.ref m0_cameBy) (.ref m0_least) (.ref m0_before) (.ref m0_gas) (.ref m0_into) (.ref m0_rest) (.ref m0_isTold) (.ref m0_isPast) (.ref m0_kept) (.ref m0_smoke) (.ref m0_early) (.int 0) (.ref m0_manAt) (.int 0) (.ref m0_changeKind) (.ref m0_changeOf) (.ref m0_changeTo) (.ref m0_row) (.ref m0_openWas) (.ref m0_fallenWas) (.ref m0_speedWas) (.int 0) (.ref m0_readingOf) (.ref m0_low) (.ref m0_high) (.ref m0_back)))] := hD
    obtain rfl : r_4 = 1 := hw_5
    exact W.zret (v := 1) hx hb hr rfl (fun t ht hW => ⟨⟨1, (), rfl, (mrk_1 hw_2 c_3), trivial⟩, hS.F ht⟩) hS.2.2 dX14_mark_31
  · skip
    refine lv_aload_n hx hb dX14_mark_16 rfl (lv_at hl 0 rfl) ?_
    refine lv_iconst (v := 2) hx hb dX14_mark_17 (by decide) ?_
    have hPc := hP.sub (ws' := [(m0, .inr (14, fX14 (.int 0) (.ref m0_power) (.int 0) (.int (-1)) (.int 0) .null .null (.ref sp) (.ref m0_tape) (.int 0) (.int 0) (.int 0) (.int 0) (.int 0) (.int 0) (.int 0) (.long 0) (.ref m0_isOpen) (.ref m0_isFallen) (.ref m0_speed) (.ref m0_fire) (.int 10) (.int (-1)) (.int 0) (.ref m0_air) (.ref m0_cameBy) (.ref m0_least) (.ref m0_before) (.ref m0_gas) (.ref m0_into) (.ref m0_rest) (.ref m0_isTold) (.ref m0_isPast) (.ref m0_kept) (.ref m0_smoke) (.ref m0_early) (.int 0) (.ref m0_manAt) (.int 0) (.ref m0_changeKind) (.ref m0_changeOf) (.ref m0_changeTo) (.ref m0_row) (.ref m0_openWas) (.ref m0_fallenWas) (.ref m0_speedWas) (.int 0) (.ref m0_readingOf) (.ref m0_low) (.ref m0_high) (.ref m0_back)))]) [0] rfl
    have hDc := hD.sub (ws' := [(m0, .inr (14, fX14 (.int 0) (.ref m0_power) (.int 0) (.int (-1)) (.int 0) .null .null (.ref sp) (.ref m0_tape) (.int 0) (.int 0) (.int 0) (.int 0) (.int 0) (.int 0) (.int 0) (.long 0) (.ref m0_isOpen) (.ref m0_isFallen) (.ref m0_speed) (.ref m0_fire) (.int 10) (.int (-1)) (.int 0) (.ref m0_air) (.ref m0_cameBy) (.ref m0_least) (.ref m0_before) (.ref m0_gas) (.ref m0_into) (.ref m0_rest) (.ref m0_isTold) (.ref m0_isPast) (.ref m0_kept) (.ref m0_smoke) (.ref m0_early) (.int 0) (.ref m0_manAt) (.int 0) (.ref m0_changeKind) (.ref m0_changeOf) (.ref m0_changeTo) (.ref m0_row) (.ref m0_openWas) (.ref m0_fallenWas) (.ref m0_speedWas) (.int 0) (.ref m0_readingOf) (.ref m0_low) (.ref m0_high) (.ref m0_back)))]) [0] (by decide) rfl
    have hKc := hK.sub (tys' := []) [] rfl
    have hFc := va_free (wc := [(m0, .inr (14, fX14 (.int 0) (.ref m0_power) (.int 0) (.int (-1)) (.int 0) .null .null (.ref sp) (.ref m0_tape) (.int 0) (.int 0) (.int 0) (.int 0) (.int 0) (.int 0) (.int 0) (.long 0) (.ref m0_isOpen) (.ref m0_isFallen) (.ref m0_speed) (.ref m0_fire) (.int 10) (.int (-1)) (.int 0) (.ref m0_air) (.ref m0_cameBy) (.ref m0_least) (.ref m0_before) (.ref m0_gas) (.ref m0_into) (.ref m0_rest) (.ref m0_isTold) (.ref m0_isPast) (.ref m0_kept) (.ref m0_smoke) (.ref m0_early) (.int 0) (.ref m0_manAt) (.int 0) (.ref m0_changeKind) (.ref m0_changeOf) (.ref m0_changeTo) (.ref m0_row) (.ref m0_openWas) (.ref m0_fallenWas) (.ref m0_speedWas) (.int 0) (.ref m0_readingOf) (.ref m0_low) (.ref m0_high) (.ref m0_back)))]) hD hS hA [0] rfl
    refine va_calli (va_runV (As := [.int 2]) (rest := []) ⟨hx, hb, hml, hown, hts⟩ (m_denied l dC dI n0 H.size m0 0 m0_power 0 (-1) sp m0_tape m0_isOpen m0_isFallen m0_speed m0_fire m0_air m0_cameBy m0_least m0_before m0_gas m0_into m0_rest m0_isTold m0_isPast m0_kept m0_smoke m0_early m0_manAt m0_changeKind m0_changeOf m0_changeTo m0_row m0_openWas m0_fallenWas m0_speedWas m0_readingOf m0_low m0_high m0_back 2 ) (cwV 1 hts (gV (fun w h => wM_c h) wd_1886 wd_1883 wd_1885 wd_83 wd_127) rfl rfl rfl (by decide +kernel) ⟨Nat.le_of_ble_eq_true rfl, Nat.le_of_ble_eq_true rfl⟩) ⟨fun a U g mk q => by obtain ⟨q0, q1, q2, qG, qP, qK, qD⟩ := q; exact ⟨q0, q1, q2, GW.blind qG, qP, va_K.moved (u := U) (U := U.calling g mk a) (Vm.Alike.refl U.vm) qK, qD⟩, va_recv hKc hPc (ci := 14) (q0 := 0) rfl rfl, fun U hU hW => ⟨rfl, by rw [hU], Nat.le_trans hn0 hS.1, GW.go hW hU hG (fun q hq hA9 => hS.2.1 q hq (fun h => hA9 (hA0 q h))), by rw [hU]; exact hPc, va_K.moved hW.alike hKc, hDc.weaken (fun _ _ _ h => hA0 _ h)⟩⟩ rfl rfl hl.1 rfl (lv_room (Nat.le_of_ble_eq_true rfl)) dX14_mark_18 ⟨Nat.le_of_ble_eq_true rfl, Nat.le_of_ble_eq_true rfl⟩) hS (fun q _ h => hFc q h) hFc (fun r_6 u t H1 locs ht hvm hw_7 hB hz1 hk1 hS => ?_)
    obtain ⟨hP1, hK1, hD1⟩ := hB
    rw [ht] at hP1
    obtain ⟨hP, hD⟩ := va_join (wr := []) (w1 := [(m0, .inr (14, fX14 (.int 0) (.ref m0_power) (.int 2) (.int (-1)) (.int 0) .null .null (.ref sp) (.ref m0_tape) (.int 0) (.int 0) (.int 0) (.int 0) (.int 0) (.int 0) (.int 0) (.long 0) (.ref m0_isOpen) (.ref m0_isFallen) (.ref m0_speed) (.ref m0_fire) (.int 10) (.int (-1)) (.int 0) (.ref m0_air) (.ref m0_cameBy) (.ref m0_least) (.ref m0_before) (.ref m0_gas) (.ref m0_into) (.ref m0_rest) (.ref m0_isTold) (.ref m0_isPast) (.ref m0_kept) (.ref m0_smoke) (.ref m0_early) (.int 0) (.ref m0_manAt) (.int 0) (.ref m0_changeKind) (.ref m0_changeOf) (.ref m0_changeTo) (.ref m0_row) (.ref m0_openWas) (.ref m0_fallenWas) (.ref m0_speedWas) (.int 0) (.ref m0_readingOf) (.ref m0_low) (.ref m0_high) (.ref m0_back)))]) hP hD [0] [] rfl rfl (by decide) (by decide) hk1 hFc hP1 hD1
    generalize H1 = H at hP hS ⊢
    have hP : va_P (dC, dI) classes [(m0, .inr (14, fX14 (.int 0) (.ref m0_power) (.int 2) (.int (-1)) (.int 0) .null .null (.ref sp) (.ref m0_tape) (.int 0) (.int 0) (.int 0) (.int 0) (.int 0) (.int 0) (.int 0) (.long 0) (.ref m0_isOpen) (.ref m0_isFallen) (.ref m0_speed) (.ref m0_fire) (.int 10) (.int (-1)) (.int 0) (.ref m0_air) (.ref m0_cameBy) (.ref m0_least) (.ref m0_before) (.ref m0_gas) (.ref m0_into) (.ref m0_rest) (.ref m0_isTold) (.ref m0_isPast) (.ref m0_kept) (.ref m0_smoke) (.ref m0_early) (.int 0) (.ref m0_manAt) (.int 0) (.ref m0_changeKind) (.ref m0_changeOf) (.ref m0_changeTo) (.ref m0_row) (.ref m0_openWas) (.ref m0_fallenWas) (.ref m0_speedWas) (.int 0) (.ref m0_readingOf) (.ref m0_low) (.ref m0_high) (.ref m0_back)))] H := hP
    have hD : va_D A [(m0, .inr (14, fX14 (.int 0) (.ref m0_power) (.int 2) (.int (-1)) (.int 0) .null .null (.ref sp) (.ref m0_tape) (.int 0) (.int 0) (.int 0) (.int 0) (.int 0) (.int 0) (.int 0) (.long 0) (.ref m0_isOpen) (.ref m0_isFallen) (.ref m0_speed) (.ref m0_fire) (.int 10) (.int (-1)) (.int 0) (.ref m0_air) (.ref m0_cameBy) (.ref m0_least) (.ref m0_before) (.ref m0_gas) (.ref m0_into) (.ref m0_rest) (.ref m0_isTold) (.ref m0_isPast) (.ref m0_kept) (.ref m0_smoke) (.ref m0_early) (.int 0) (.ref m0_manAt) (.int 0) (.ref m0_changeKind) (.ref m0_changeOf) (.ref m0_changeTo) (.ref m0_row) (.ref m0_openWas) (.ref m0_fallenWas) (.ref m0_speedWas) (.int 0) (.ref m0_readingOf) (.ref m0_low) (.ref m0_high) (.ref m0_back)))] := hD
    obtain rfl : r_6 = 0 := hw_7
    exact W.zret (v := 0) hx hb hr rfl (fun t ht hW => ⟨⟨0, (), rfl, (mrk_0 hw_2 c_3), trivial⟩, hS.F ht⟩) hS.2.2 dX14_mark_21
set_option maxHeartbeats 4000000 in
set_option maxRecDepth 100000 in
theorem q_count (l : Launch) (dC : Nat → ClassId) (dI : Nat → Nat → Nat) (n0 sz : Nat) (m0 : Nat) (m0_power : Nat) (sp : Nat) (m0_tape : Nat) (m0_isOpen : Nat) (m0_isFallen : Nat) (m0_speed : Nat) (m0_fire : Nat) (m0_air : Nat) (m0_cameBy : Nat) (m0_least : Nat) (m0_before : Nat) (m0_gas : Nat) (m0_into : Nat) (m0_rest : Nat) (m0_isTold : Nat) (m0_isPast : Nat) (m0_kept : Nat) (m0_smoke : Nat) (m0_early : Nat) (m0_manAt : Nat) (m0_changeKind : Nat) (m0_changeOf : Nat) (m0_changeTo : Nat) (m0_row : Nat) (m0_openWas : Nat) (m0_fallenWas : Nat) (m0_speedWas : Nat) (m0_readingOf : Nat) (m0_low : Nat) (m0_high : Nat) (m0_back : Nat) (w : Int32) : Met l yX14_count (wM yX14_count cX14_count 2 (some .int)) ({ frames := 1, cells := 0, slots := 0, locals := 22 }) (va_Pc [.ref m0, .int w] (fun U => U.heap.size = sz ∧ n0 ≤ sz ∧ GW n0 U ∧ va_P (dC, dI) classes [(m0, .inr (14, fX14 (.int 0) (.ref m0_power) (.int 0) (.int (-1)) (.int 0) .null .null (.ref sp) (.ref m0_tape) (.int 0) (.int 0) (.int 0) (.int 0) (.int 0) (.int 0) (.int 0) (.long 0) (.ref m0_isOpen) (.ref m0_isFallen) (.ref m0_speed) (.ref m0_fire) (.int 10) (.int (-1)) (.int 0) (.ref m0_air) (.ref m0_cameBy) (.ref m0_least) (.ref m0_before) (.ref m0_gas) (.ref m0_into) (.ref m0_rest) (.ref m0_isTold) (.ref m0_isPast) (.ref m0_kept) (.ref m0_smoke) (.ref m0_early) (.int 0) (.ref m0_manAt) (.int 0) (.ref m0_changeKind) (.ref m0_changeOf) (.ref m0_changeTo) (.ref m0_row) (.ref m0_openWas) (.ref m0_fallenWas) (.ref m0_speedWas) (.int 0) (.ref m0_readingOf) (.ref m0_low) (.ref m0_high) (.ref m0_back)))] U.heap ∧ va_K (dC, dI) classes [] U ∧ va_D (fun q => n0 ≤ q) [(m0, .inr (14, fX14 (.int 0) (.ref m0_power) (.int 0) (.int (-1)) (.int 0) .null .null (.ref sp) (.ref m0_tape) (.int 0) (.int 0) (.int 0) (.int 0) (.int 0) (.int 0) (.int 0) (.long 0) (.ref m0_isOpen) (.ref m0_isFallen) (.ref m0_speed) (.ref m0_fire) (.int 10) (.int (-1)) (.int 0) (.ref m0_air) (.ref m0_cameBy) (.ref m0_least) (.ref m0_before) (.ref m0_gas) (.ref m0_into) (.ref m0_rest) (.ref m0_isTold) (.ref m0_isPast) (.ref m0_kept) (.ref m0_smoke) (.ref m0_early) (.int 0) (.ref m0_manAt) (.int 0) (.ref m0_changeKind) (.ref m0_changeOf) (.ref m0_changeTo) (.ref m0_row) (.ref m0_openWas) (.ref m0_fallenWas) (.ref m0_speedWas) (.int 0) (.ref m0_readingOf) (.ref m0_low) (.ref m0_high) (.ref m0_back)))])) (va_Qi (fun (r : Int32) (_ : Unit) => r = cnt0 w) (fun (_ : Unit) (_ : State) => True) (va_A [(m0, .inr (14, fX14 (.int 0) (.ref m0_power) (.int 0) (.int (-1)) (.int 0) .null .null (.ref sp) (.ref m0_tape) (.int 0) (.int 0) (.int 0) (.int 0) (.int 0) (.int 0) (.int 0) (.long 0) (.ref m0_isOpen) (.ref m0_isFallen) (.ref m0_speed) (.ref m0_fire) (.int 10) (.int (-1)) (.int 0) (.ref m0_air) (.ref m0_cameBy) (.ref m0_least) (.ref m0_before) (.ref m0_gas) (.ref m0_into) (.ref m0_rest) (.ref m0_isTold) (.ref m0_isPast) (.ref m0_kept) (.ref m0_smoke) (.ref m0_early) (.int 0) (.ref m0_manAt) (.int 0) (.ref m0_changeKind) (.ref m0_changeOf) (.ref m0_changeTo) (.ref m0_row) (.ref m0_openWas) (.ref m0_fallenWas) (.ref m0_speedWas) (.int 0) (.ref m0_readingOf) (.ref m0_low) (.ref m0_high) (.ref m0_back)))] sz)) 0 0 (va_A [(m0, .inr (14, fX14 (.int 0) (.ref m0_power) (.int 0) (.int (-1)) (.int 0) .null .null (.ref sp) (.ref m0_tape) (.int 0) (.int 0) (.int 0) (.int 0) (.int 0) (.int 0) (.int 0) (.long 0) (.ref m0_isOpen) (.ref m0_isFallen) (.ref m0_speed) (.ref m0_fire) (.int 10) (.int (-1)) (.int 0) (.ref m0_air) (.ref m0_cameBy) (.ref m0_least) (.ref m0_before) (.ref m0_gas) (.ref m0_into) (.ref m0_rest) (.ref m0_isTold) (.ref m0_isPast) (.ref m0_kept) (.ref m0_smoke) (.ref m0_early) (.int 0) (.ref m0_manAt) (.int 0) (.ref m0_changeKind) (.ref m0_changeOf) (.ref m0_changeTo) (.ref m0_row) (.ref m0_openWas) (.ref m0_fallenWas) (.ref m0_speedWas) (.int 0) (.ref m0_readingOf) (.ref m0_low) (.ref m0_high) (.ref m0_back)))] sz) := by
  refine Met.ofW (cc := cX14_count) (maxL := 2) (ret := (some .int)) (by decide) rfl ?_
  intro p e s m args below meth c s₁ B hml hv
  obtain ⟨rfl, hsz, hn0, hG, hP, hK, hD0⟩ := hv
  have hx := B.exec
  have hb := B.bytes
  have hr := B.returns
  have hts := atoms_spec (ws := wM yX14_count cX14_count 2 (some .int)) B.pre
  have hown : s.vm.findClass RX14 = some m.cls := findClass_of_methodNamed B.named
  have hlocks := B.notSynchronized
  subst hsz
  have hD := hD0.self (sz := s.heap.size)
  have hA0 := vA_n0 hD0 hn0
  generalize hAe : va_A [(m0, .inr (14, fX14 (.int 0) (.ref m0_power) (.int 0) (.int (-1)) (.int 0) .null .null (.ref sp) (.ref m0_tape) (.int 0) (.int 0) (.int 0) (.int 0) (.int 0) (.int 0) (.int 0) (.long 0) (.ref m0_isOpen) (.ref m0_isFallen) (.ref m0_speed) (.ref m0_fire) (.int 10) (.int (-1)) (.int 0) (.ref m0_air) (.ref m0_cameBy) (.ref m0_least) (.ref m0_before) (.ref m0_gas) (.ref m0_into) (.ref m0_rest) (.ref m0_isTold) (.ref m0_isPast) (.ref m0_kept) (.ref m0_smoke) (.ref m0_early) (.int 0) (.ref m0_manAt) (.int 0) (.ref m0_changeKind) (.ref m0_changeOf) (.ref m0_changeTo) (.ref m0_row) (.ref m0_openWas) (.ref m0_fallenWas) (.ref m0_speedWas) (.int 0) (.ref m0_readingOf) (.ref m0_low) (.ref m0_high) (.ref m0_back)))] s.heap.size = A at hD hA0 ⊢
  have hA : ∀ q : Nat, s.heap.size ≤ q → A q := fun q h => by rw [← hAe]; exact Or.inr h
  have hS : va_S A s.heap s.heap [] := va_S.rf
  have hl := lv_entry ([.ref m0, .int w]) (n := 2) (Nat.le_of_ble_eq_true rfl)
  rw [lg_entry_eq]
  generalize (lg_sl ([.ref m0, .int w]) ++ List.replicate (2 - (lg_sl ([.ref m0, .int w])).length) Slot.unset).toArray = ls at hl ⊢
  have hl : lv_has ls 2 [(0, .ref m0), (1, .int w)] := hl
  refine lv_aload_n hx hb dX14_count_0 rfl (lv_at hl 0 rfl) ?_
  refine lv_iconst (v := 0) hx hb dX14_count_1 (by decide) ?_
  refine va_put (D := (dC, dI)) (ci := 14) (v := .int 0) (ty := .int) (C := RX14) (T := TX14) (N := 51) hx hb hts (fun w h => wM_c (iX14 w h)) tyX14 tyX14_ok nmX14 hown hK hP hD hS 0 rfl rfl 0 (by decide) (hts _ (wM_c wd_1453)) (fun _ h9 => h9) rfl (by decide +kernel) rfl rfl (Nat.le_of_ble_eq_true rfl) dX14_count_2 (fun H locs hP hD hS => ?_)
  have hP : va_P (dC, dI) classes [(m0, .inr (14, fX14 (.int 0) (.ref m0_power) (.int 0) (.int (-1)) (.int 0) .null .null (.ref sp) (.ref m0_tape) (.int 0) (.int 0) (.int 0) (.int 0) (.int 0) (.int 0) (.int 0) (.long 0) (.ref m0_isOpen) (.ref m0_isFallen) (.ref m0_speed) (.ref m0_fire) (.int 10) (.int (-1)) (.int 0) (.ref m0_air) (.ref m0_cameBy) (.ref m0_least) (.ref m0_before) (.ref m0_gas) (.ref m0_into) (.ref m0_rest) (.ref m0_isTold) (.ref m0_isPast) (.ref m0_kept) (.ref m0_smoke) (.ref m0_early) (.int 0) (.ref m0_manAt) (.int 0) (.ref m0_changeKind) (.ref m0_changeOf) (.ref m0_changeTo) (.ref m0_row) (.ref m0_openWas) (.ref m0_fallenWas) (.ref m0_speedWas) (.int 0) (.ref m0_readingOf) (.ref m0_low) (.ref m0_high) (.ref m0_back)))] H := hP
  have hD : va_D A [(m0, .inr (14, fX14 (.int 0) (.ref m0_power) (.int 0) (.int (-1)) (.int 0) .null .null (.ref sp) (.ref m0_tape) (.int 0) (.int 0) (.int 0) (.int 0) (.int 0) (.int 0) (.int 0) (.long 0) (.ref m0_isOpen) (.ref m0_isFallen) (.ref m0_speed) (.ref m0_fire) (.int 10) (.int (-1)) (.int 0) (.ref m0_air) (.ref m0_cameBy) (.ref m0_least) (.ref m0_before) (.ref m0_gas) (.ref m0_into) (.ref m0_rest) (.ref m0_isTold) (.ref m0_isPast) (.ref m0_kept) (.ref m0_smoke) (.ref m0_early) (.int 0) (.ref m0_manAt) (.int 0) (.ref m0_changeKind) (.ref m0_changeOf) (.ref m0_changeTo) (.ref m0_row) (.ref m0_openWas) (.ref m0_fallenWas) (.ref m0_speedWas) (.int 0) (.ref m0_readingOf) (.ref m0_low) (.ref m0_high) (.ref m0_back)))] := hD
  refine lv_iload_n hx hb dX14_count_5 rfl (lv_at hl 1 rfl) ?_
  refine lv_bipush (v := 10) hx hb dX14_count_6 (by decide) ?_
  refine lv_icmp_ne (tgt := 16) hx hb dX14_count_8 (by decide) (fun c_1 => ?_) (fun c_1 => ?_)
  · skip
    refine lv_iload_n hx hb dX14_count_16 rfl (lv_at hl 1 rfl) ?_
    refine lv_iconst (v := 0) hx hb dX14_count_17 (by decide) ?_
    refine lv_bipush (v := 9) hx hb dX14_count_18 (by decide) ?_
    have hPc := hP.sub (ws' := []) [] rfl
    have hDc := hD.sub (ws' := []) [] (by decide) rfl
    have hKc := hK.sub (tys' := []) [] rfl
    have hFc := va_free (wc := []) hD hS hA [] rfl
    refine va_calli (va_runS (As := [.int w, .int 0, .int 9]) (rest := []) ⟨hx, hb, hml, hown, hts⟩ (m_in l dC dI n0 H.size w 0 9 ) (va_cwS 3 hts (gS (fun w h => wM_c h) wd_1811 wd_1809 wd_1810 wd_127) rfl rfl rfl (by decide +kernel) ⟨Nat.le_of_ble_eq_true rfl, Nat.le_of_ble_eq_true rfl⟩) ⟨fun a U g mk q => by obtain ⟨q0, q1, q2, qG, qP, qK, qD⟩ := q; exact ⟨q0, q1, q2, GW.blind qG, qP, va_K.moved (u := U) (U := U.calling g mk a) (Vm.Alike.refl U.vm) qK, qD⟩, fun U hU hW => ⟨rfl, by rw [hU], Nat.le_trans hn0 hS.1, GW.go hW hU hG (fun q hq hA9 => hS.2.1 q hq (fun h => hA9 (hA0 q h))), by rw [hU]; exact hPc, va_K.moved hW.alike hKc, hDc.weaken (fun _ _ _ h => hA0 _ h)⟩⟩ rfl rfl hl.1 rfl (lv_room (Nat.le_of_ble_eq_true rfl)) dX14_count_20 ⟨Nat.le_of_ble_eq_true rfl, Nat.le_of_ble_eq_true rfl⟩) hS (fun q _ h => hFc q h) hFc (fun r_2 u t H1 locs ht hvm hw_3 hB hz1 hk1 hS => ?_)
    obtain ⟨hP1, hK1, hD1⟩ := hB
    rw [ht] at hP1
    obtain ⟨hP, hD⟩ := va_join (wr := [(m0, .inr (14, fX14 (.int 0) (.ref m0_power) (.int 0) (.int (-1)) (.int 0) .null .null (.ref sp) (.ref m0_tape) (.int 0) (.int 0) (.int 0) (.int 0) (.int 0) (.int 0) (.int 0) (.long 0) (.ref m0_isOpen) (.ref m0_isFallen) (.ref m0_speed) (.ref m0_fire) (.int 10) (.int (-1)) (.int 0) (.ref m0_air) (.ref m0_cameBy) (.ref m0_least) (.ref m0_before) (.ref m0_gas) (.ref m0_into) (.ref m0_rest) (.ref m0_isTold) (.ref m0_isPast) (.ref m0_kept) (.ref m0_smoke) (.ref m0_early) (.int 0) (.ref m0_manAt) (.int 0) (.ref m0_changeKind) (.ref m0_changeOf) (.ref m0_changeTo) (.ref m0_row) (.ref m0_openWas) (.ref m0_fallenWas) (.ref m0_speedWas) (.int 0) (.ref m0_readingOf) (.ref m0_low) (.ref m0_high) (.ref m0_back)))]) (w1 := []) hP hD [] [0] rfl rfl (by decide) (by decide) hk1 hFc hP1 hD1
    generalize H1 = H at hP hS ⊢
    have hP : va_P (dC, dI) classes [(m0, .inr (14, fX14 (.int 0) (.ref m0_power) (.int 0) (.int (-1)) (.int 0) .null .null (.ref sp) (.ref m0_tape) (.int 0) (.int 0) (.int 0) (.int 0) (.int 0) (.int 0) (.int 0) (.long 0) (.ref m0_isOpen) (.ref m0_isFallen) (.ref m0_speed) (.ref m0_fire) (.int 10) (.int (-1)) (.int 0) (.ref m0_air) (.ref m0_cameBy) (.ref m0_least) (.ref m0_before) (.ref m0_gas) (.ref m0_into) (.ref m0_rest) (.ref m0_isTold) (.ref m0_isPast) (.ref m0_kept) (.ref m0_smoke) (.ref m0_early) (.int 0) (.ref m0_manAt) (.int 0) (.ref m0_changeKind) (.ref m0_changeOf) (.ref m0_changeTo) (.ref m0_row) (.ref m0_openWas) (.ref m0_fallenWas) (.ref m0_speedWas) (.int 0) (.ref m0_readingOf) (.ref m0_low) (.ref m0_high) (.ref m0_back)))] H := hP
    have hD : va_D A [(m0, .inr (14, fX14 (.int 0) (.ref m0_power) (.int 0) (.int (-1)) (.int 0) .null .null (.ref sp) (.ref m0_tape) (.int 0) (.int 0) (.int 0) (.int 0) (.int 0) (.int 0) (.int 0) (.long 0) (.ref m0_isOpen) (.ref m0_isFallen) (.ref m0_speed) (.ref m0_fire) (.int 10) (.int (-1)) (.int 0) (.ref m0_air) (.ref m0_cameBy) (.ref m0_least) (.ref m0_before) (.ref m0_gas) (.ref m0_into) (.ref m0_rest) (.ref m0_isTold) (.ref m0_isPast) (.ref m0_kept) (.ref m0_smoke) (.ref m0_early) (.int 0) (.ref m0_manAt) (.int 0) (.ref m0_changeKind) (.ref m0_changeOf) (.ref m0_changeTo) (.ref m0_row) (.ref m0_openWas) (.ref m0_fallenWas) (.ref m0_speedWas) (.int 0) (.ref m0_readingOf) (.ref m0_low) (.ref m0_high) (.ref m0_back)))] := hD
    refine lv_if_ne (tgt := 28) hx hb dX14_count_23 (by decide) (fun c_4 => ?_) (fun c_4 => ?_)
    · skip
      refine lv_aload_n hx hb dX14_count_28 rfl (lv_at hl 0 rfl) ?_
      refine va_get (D := (dC, dI)) (ci := 14) (v := .null) (C := RX14) (T := TX14) (N := 51) hx hb hts (fun w h => wM_c (iX14 w h)) hown hK hP 0 rfl rfl 5 (by decide) (hts _ (wM_c wd_1458)) (fun _ h9 => h9) rfl dX14_count_29 ?_
      refine lv_ifnonnullN hx hb dX14_count_32 ?_
      refine lv_iload_n hx hb dX14_count_35 rfl (lv_at hl 1 rfl) ?_
      refine lv_bipush (v := 9) hx hb dX14_count_36 (by decide) ?_
      refine lv_icmp_ne (tgt := 46) hx hb dX14_count_38 (by decide) (fun c_5 => ?_) (fun c_5 => ?_)
      · skip
        refine lv_iconst (v := 0) hx hb dX14_count_46 (by decide) ?_
        exact W.iret (v := 0) hx hb hr (fun t ht hW => ⟨⟨0, (), rfl, (cnt_b hw_3 c_4 c_5), trivial⟩, hS.F ht⟩) hS.2.2 dX14_count_47
      · skip
        refine lv_bipush (v := (-2)) hx hb dX14_count_41 (by decide) ?_
        refine lv_goto (tgt := 47) hx hb dX14_count_43 (by decide) ?_
        exact W.iret (v := (-2)) hx hb hr (fun t ht hW => ⟨⟨(-2), (), rfl, (by rw [c_5]; decide), trivial⟩, hS.F ht⟩) hS.2.2 dX14_count_47
    · skip
      refine lv_iconst (v := (-1)) hx hb dX14_count_26 (by decide) ?_
      exact W.iret (v := (-1)) hx hb hr (fun t ht hW => ⟨⟨(-1), (), rfl, (cnt_a hw_3 c_4 c_1), trivial⟩, hS.F ht⟩) hS.2.2 dX14_count_27
  · skip
    refine lv_aload_n hx hb dX14_count_11 rfl (lv_at hl 0 rfl) ?_
    refine va_get (D := (dC, dI)) (ci := 14) (v := .int 0) (C := RX14) (T := TX14) (N := 51) hx hb hts (fun w h => wM_c (iX14 w h)) hown hK hP 0 rfl rfl 9 (by decide) (hts _ (wM_c wd_1462)) (fun _ h9 => h9) rfl dX14_count_12 ?_
    exact W.iret (v := 0) hx hb hr (fun t ht hW => ⟨⟨0, (), rfl, (by rw [c_1]; decide), trivial⟩, hS.F ht⟩) hS.2.2 dX14_count_15
set_option maxHeartbeats 4000000 in
set_option maxRecDepth 100000 in
theorem q_feed (l : Launch) (dC : Nat → ClassId) (dI : Nat → Nat → Nat) (n0 sz : Nat) (m0 : Nat) (m0_power : Nat) (sp : Nat) (m0_tape : Nat) (m0_isOpen : Nat) (m0_isFallen : Nat) (m0_speed : Nat) (m0_fire : Nat) (m0_air : Nat) (m0_cameBy : Nat) (m0_least : Nat) (m0_before : Nat) (m0_gas : Nat) (m0_into : Nat) (m0_rest : Nat) (m0_isTold : Nat) (m0_isPast : Nat) (m0_kept : Nat) (m0_smoke : Nat) (m0_early : Nat) (m0_manAt : Nat) (m0_changeKind : Nat) (m0_changeOf : Nat) (m0_changeTo : Nat) (m0_row : Nat) (m0_openWas : Nat) (m0_fallenWas : Nat) (m0_speedWas : Nat) (m0_readingOf : Nat) (m0_low : Nat) (m0_high : Nat) (m0_back : Nat) (km : ClassId) (av : Int32) (bv : Int32) (cv : Int32) (dv : Int32) (ev : Int32) : Met l yX14_feed (wM yX14_feed cX14_feed 8 (some .int)) ({ frames := 0, cells := 0, slots := 0, locals := 0 }) (va_Pc [.ref m0, .int av, .int bv, .int cv, .int dv, .int ev] (fun U => U.heap.size = sz ∧ n0 ≤ sz ∧ GW n0 U ∧ va_P (dC, dI) classes [(m0, .inr (14, fX14 (.int 0) (.ref m0_power) (.int 0) (.int (-1)) (.int 0) .null .null (.ref sp) (.ref m0_tape) (.int 0) (.int 0) (.int 0) (.int 0) (.int 0) (.int 0) (.int 0) (.long 0) (.ref m0_isOpen) (.ref m0_isFallen) (.ref m0_speed) (.ref m0_fire) (.int 10) (.int (-1)) (.int 0) (.ref m0_air) (.ref m0_cameBy) (.ref m0_least) (.ref m0_before) (.ref m0_gas) (.ref m0_into) (.ref m0_rest) (.ref m0_isTold) (.ref m0_isPast) (.ref m0_kept) (.ref m0_smoke) (.ref m0_early) (.int 0) (.ref m0_manAt) (.int 0) (.ref m0_changeKind) (.ref m0_changeOf) (.ref m0_changeTo) (.ref m0_row) (.ref m0_openWas) (.ref m0_fallenWas) (.ref m0_speedWas) (.int 0) (.ref m0_readingOf) (.ref m0_low) (.ref m0_high) (.ref m0_back))), (m0_tape, .inl (km, 600, .inl (fun _ => 0)))] U.heap ∧ va_K (dC, dI) classes [(km, .byte)] U ∧ va_D (fun q => n0 ≤ q) [(m0, .inr (14, fX14 (.int 0) (.ref m0_power) (.int 0) (.int (-1)) (.int 0) .null .null (.ref sp) (.ref m0_tape) (.int 0) (.int 0) (.int 0) (.int 0) (.int 0) (.int 0) (.int 0) (.long 0) (.ref m0_isOpen) (.ref m0_isFallen) (.ref m0_speed) (.ref m0_fire) (.int 10) (.int (-1)) (.int 0) (.ref m0_air) (.ref m0_cameBy) (.ref m0_least) (.ref m0_before) (.ref m0_gas) (.ref m0_into) (.ref m0_rest) (.ref m0_isTold) (.ref m0_isPast) (.ref m0_kept) (.ref m0_smoke) (.ref m0_early) (.int 0) (.ref m0_manAt) (.int 0) (.ref m0_changeKind) (.ref m0_changeOf) (.ref m0_changeTo) (.ref m0_row) (.ref m0_openWas) (.ref m0_fallenWas) (.ref m0_speedWas) (.int 0) (.ref m0_readingOf) (.ref m0_low) (.ref m0_high) (.ref m0_back))), (m0_tape, .inl (km, 600, .inl (fun _ => 0)))])) (va_Qi (fun (r : Int32) (_ : Unit) => r = 20) (fun (_ : Unit) (_ : State) => True) (va_A [(m0, .inr (14, fX14 (.int 0) (.ref m0_power) (.int 0) (.int (-1)) (.int 0) .null .null (.ref sp) (.ref m0_tape) (.int 0) (.int 0) (.int 0) (.int 0) (.int 0) (.int 0) (.int 0) (.long 0) (.ref m0_isOpen) (.ref m0_isFallen) (.ref m0_speed) (.ref m0_fire) (.int 10) (.int (-1)) (.int 0) (.ref m0_air) (.ref m0_cameBy) (.ref m0_least) (.ref m0_before) (.ref m0_gas) (.ref m0_into) (.ref m0_rest) (.ref m0_isTold) (.ref m0_isPast) (.ref m0_kept) (.ref m0_smoke) (.ref m0_early) (.int 0) (.ref m0_manAt) (.int 0) (.ref m0_changeKind) (.ref m0_changeOf) (.ref m0_changeTo) (.ref m0_row) (.ref m0_openWas) (.ref m0_fallenWas) (.ref m0_speedWas) (.int 0) (.ref m0_readingOf) (.ref m0_low) (.ref m0_high) (.ref m0_back))), (m0_tape, .inl (km, 600, .inl (fun _ => 0)))] sz)) 0 0 (va_A [(m0, .inr (14, fX14 (.int 0) (.ref m0_power) (.int 0) (.int (-1)) (.int 0) .null .null (.ref sp) (.ref m0_tape) (.int 0) (.int 0) (.int 0) (.int 0) (.int 0) (.int 0) (.int 0) (.long 0) (.ref m0_isOpen) (.ref m0_isFallen) (.ref m0_speed) (.ref m0_fire) (.int 10) (.int (-1)) (.int 0) (.ref m0_air) (.ref m0_cameBy) (.ref m0_least) (.ref m0_before) (.ref m0_gas) (.ref m0_into) (.ref m0_rest) (.ref m0_isTold) (.ref m0_isPast) (.ref m0_kept) (.ref m0_smoke) (.ref m0_early) (.int 0) (.ref m0_manAt) (.int 0) (.ref m0_changeKind) (.ref m0_changeOf) (.ref m0_changeTo) (.ref m0_row) (.ref m0_openWas) (.ref m0_fallenWas) (.ref m0_speedWas) (.int 0) (.ref m0_readingOf) (.ref m0_low) (.ref m0_high) (.ref m0_back))), (m0_tape, .inl (km, 600, .inl (fun _ => 0)))] sz) := by
  refine Met.ofW (cc := cX14_feed) (maxL := 8) (ret := (some .int)) (by decide) rfl ?_
  intro p e s m args below meth c s₁ B hml hv
  obtain ⟨rfl, hsz, hn0, hG, hP, hK, hD0⟩ := hv
  have hx := B.exec
  have hb := B.bytes
  have hr := B.returns
  have hts := atoms_spec (ws := wM yX14_feed cX14_feed 8 (some .int)) B.pre
  have hown : s.vm.findClass RX14 = some m.cls := findClass_of_methodNamed B.named
  have hlocks := B.notSynchronized
  subst hsz
  have hD := hD0.self (sz := s.heap.size)
  have hA0 := vA_n0 hD0 hn0
  generalize hAe : va_A [(m0, .inr (14, fX14 (.int 0) (.ref m0_power) (.int 0) (.int (-1)) (.int 0) .null .null (.ref sp) (.ref m0_tape) (.int 0) (.int 0) (.int 0) (.int 0) (.int 0) (.int 0) (.int 0) (.long 0) (.ref m0_isOpen) (.ref m0_isFallen) (.ref m0_speed) (.ref m0_fire) (.int 10) (.int (-1)) (.int 0) (.ref m0_air) (.ref m0_cameBy) (.ref m0_least) (.ref m0_before) (.ref m0_gas) (.ref m0_into) (.ref m0_rest) (.ref m0_isTold) (.ref m0_isPast) (.ref m0_kept) (.ref m0_smoke) (.ref m0_early) (.int 0) (.ref m0_manAt) (.int 0) (.ref m0_changeKind) (.ref m0_changeOf) (.ref m0_changeTo) (.ref m0_row) (.ref m0_openWas) (.ref m0_fallenWas) (.ref m0_speedWas) (.int 0) (.ref m0_readingOf) (.ref m0_low) (.ref m0_high) (.ref m0_back))), (m0_tape, .inl (km, 600, .inl (fun _ => 0)))] s.heap.size = A at hD hA0 ⊢
  have hA : ∀ q : Nat, s.heap.size ≤ q → A q := fun q h => by rw [← hAe]; exact Or.inr h
  have hS : va_S A s.heap s.heap [] := va_S.rf
  have hl := lv_entry ([.ref m0, .int av, .int bv, .int cv, .int dv, .int ev]) (n := 8) (Nat.le_of_ble_eq_true rfl)
  rw [lg_entry_eq]
  generalize (lg_sl ([.ref m0, .int av, .int bv, .int cv, .int dv, .int ev]) ++ List.replicate (8 - (lg_sl ([.ref m0, .int av, .int bv, .int cv, .int dv, .int ev])).length) Slot.unset).toArray = ls at hl ⊢
  have hl : lv_has ls 8 [(0, .ref m0), (1, .int av), (2, .int bv), (3, .int cv), (4, .int dv), (5, .int ev)] := hl
  refine lv_aload_n hx hb dX14_feed_0 rfl (lv_at hl 0 rfl) ?_
  refine lv_iconst (v := 0) hx hb dX14_feed_1 (by decide) ?_
  refine va_put (D := (dC, dI)) (ci := 14) (v := .int 0) (ty := .int) (C := RX14) (T := TX14) (N := 51) hx hb hts (fun w h => wM_c (iX14 w h)) tyX14 tyX14_ok nmX14 hown hK hP hD hS 0 rfl rfl 0 (by decide) (hts _ (wM_c wd_1453)) (fun _ h9 => h9) rfl (by decide +kernel) rfl rfl (Nat.le_of_ble_eq_true rfl) dX14_feed_2 (fun H locs hP hD hS => ?_)
  have hP : va_P (dC, dI) classes [(m0, .inr (14, fX14 (.int 0) (.ref m0_power) (.int 0) (.int (-1)) (.int 0) .null .null (.ref sp) (.ref m0_tape) (.int 0) (.int 0) (.int 0) (.int 0) (.int 0) (.int 0) (.int 0) (.long 0) (.ref m0_isOpen) (.ref m0_isFallen) (.ref m0_speed) (.ref m0_fire) (.int 10) (.int (-1)) (.int 0) (.ref m0_air) (.ref m0_cameBy) (.ref m0_least) (.ref m0_before) (.ref m0_gas) (.ref m0_into) (.ref m0_rest) (.ref m0_isTold) (.ref m0_isPast) (.ref m0_kept) (.ref m0_smoke) (.ref m0_early) (.int 0) (.ref m0_manAt) (.int 0) (.ref m0_changeKind) (.ref m0_changeOf) (.ref m0_changeTo) (.ref m0_row) (.ref m0_openWas) (.ref m0_fallenWas) (.ref m0_speedWas) (.int 0) (.ref m0_readingOf) (.ref m0_low) (.ref m0_high) (.ref m0_back))), (m0_tape, .inl (km, 600, .inl (fun _ => 0)))] H := hP
  have hD : va_D A [(m0, .inr (14, fX14 (.int 0) (.ref m0_power) (.int 0) (.int (-1)) (.int 0) .null .null (.ref sp) (.ref m0_tape) (.int 0) (.int 0) (.int 0) (.int 0) (.int 0) (.int 0) (.int 0) (.long 0) (.ref m0_isOpen) (.ref m0_isFallen) (.ref m0_speed) (.ref m0_fire) (.int 10) (.int (-1)) (.int 0) (.ref m0_air) (.ref m0_cameBy) (.ref m0_least) (.ref m0_before) (.ref m0_gas) (.ref m0_into) (.ref m0_rest) (.ref m0_isTold) (.ref m0_isPast) (.ref m0_kept) (.ref m0_smoke) (.ref m0_early) (.int 0) (.ref m0_manAt) (.int 0) (.ref m0_changeKind) (.ref m0_changeOf) (.ref m0_changeTo) (.ref m0_row) (.ref m0_openWas) (.ref m0_fallenWas) (.ref m0_speedWas) (.int 0) (.ref m0_readingOf) (.ref m0_low) (.ref m0_high) (.ref m0_back))), (m0_tape, .inl (km, 600, .inl (fun _ => 0)))] := hD
  refine lv_aload_n hx hb dX14_feed_5 rfl (lv_at hl 0 rfl) ?_
  refine va_get (D := (dC, dI)) (ci := 14) (v := .int 0) (C := RX14) (T := TX14) (N := 51) hx hb hts (fun w h => wM_c (iX14 w h)) hown hK hP 0 rfl rfl 9 (by decide) (hts _ (wM_c wd_1462)) (fun _ h9 => h9) rfl dX14_feed_6 ?_
  refine lv_bipush (v := 20) hx hb dX14_feed_9 (by decide) ?_
  refine lv_iadd hx hb dX14_feed_11 ?_
  refine lv_topi (fun v_1 ev_1 => ?_)
  obtain rfl : v_1 = 20 := ev_1.trans (by decide)
  refine lv_sipush (v := 600) hx hb dX14_feed_12 (by decide) ?_
  refine lv_icmp_le (tgt := 20) hx hb dX14_feed_15 (by decide) (fun c_2 => ?_) (fun c_2 => ?_)
  · skip
    refine lv_iconst (v := 0) hx hb dX14_feed_20 (by decide) ?_
    refine lv_istore (lv' := [(6, .int 0), (0, .ref m0), (1, .int av), (2, .int bv), (3, .int cv), (4, .int dv), (5, .int ev)]) hx hb dX14_feed_21 hl (by decide) rfl (fun ls hl => ?_)
    refine lv_iload hx hb dX14_feed_23 (lv_at hl 0 rfl) ?_
    refine lv_bipush (v := 20) hx hb dX14_feed_25 (by decide) ?_
    refine lv_icmp_ge (tgt := 117) hx hb dX14_feed_27 (by decide) (fun c_3 => ?_) (fun c_3 => ?_)
    · exact absurd c_3 (by decide)
    refine lv_iload hx hb dX14_feed_30 (lv_at hl 0 rfl) ?_
    refine lv_iconst (v := 4) hx hb dX14_feed_32 (by decide) ?_
    refine lv_icmp_ge (tgt := 40) hx hb dX14_feed_33 (by decide) (fun c_4 => ?_) (fun c_4 => ?_)
    · exact absurd c_4 (by decide)
    refine lv_iload_n hx hb dX14_feed_36 rfl (lv_at hl 2 rfl) ?_
    refine lv_goto (tgt := 76) hx hb dX14_feed_37 (by decide) ?_
    refine lv_istore (lv' := [(7, .int av), (6, .int 0), (0, .ref m0), (1, .int av), (2, .int bv), (3, .int cv), (4, .int dv), (5, .int ev)]) hx hb dX14_feed_76 hl (by decide) rfl (fun ls hl => ?_)
    refine lv_aload_n hx hb dX14_feed_78 rfl (lv_at hl 2 rfl) ?_
    refine va_get (D := (dC, dI)) (ci := 14) (v := .ref m0_tape) (C := RX14) (T := TX14) (N := 51) hx hb hts (fun w h => wM_c (iX14 w h)) hown hK hP 0 rfl rfl 8 (by decide) (hts _ (wM_c wd_1461)) (fun _ h9 => h9) rfl dX14_feed_79 ?_
    refine lv_aload_n hx hb dX14_feed_82 rfl (lv_at hl 2 rfl) ?_
    refine va_get (D := (dC, dI)) (ci := 14) (v := .int 0) (C := RX14) (T := TX14) (N := 51) hx hb hts (fun w h => wM_c (iX14 w h)) hown hK hP 0 rfl rfl 9 (by decide) (hts _ (wM_c wd_1462)) (fun _ h9 => h9) rfl dX14_feed_83 ?_
    refine lv_iload hx hb dX14_feed_86 (lv_at hl 0 rfl) ?_
    refine lv_bipush (v := 24) hx hb dX14_feed_88 (by decide) ?_
    refine lv_bipush (v := 8) hx hb dX14_feed_90 (by decide) ?_
    refine lv_iload hx hb dX14_feed_92 (lv_at hl 1 rfl) ?_
    refine lv_iconst (v := 4) hx hb dX14_feed_94 (by decide) ?_
    refine lv_irem hx hb dX14_feed_95 (by decide) ?_
    refine lv_topi (fun v_5 ev_5 => ?_)
    obtain rfl : v_5 = 0 := ev_5.trans (by decide)
    refine lv_imul hx hb dX14_feed_96 ?_
    refine lv_topi (fun v_6 ev_6 => ?_)
    obtain rfl : v_6 = 0 := ev_6.trans (by decide)
    refine lv_isub hx hb dX14_feed_97 ?_
    refine lv_topi (fun v_7 ev_7 => ?_)
    obtain rfl : v_7 = 24 := ev_7.trans (by decide)
    refine lv_ishr hx hb dX14_feed_98 ?_
    refine lv_topi (fun v_8 ev_8 => ?_)
    refine lv_i2b hx hb dX14_feed_99 rfl ?_
    refine lv_topi (fun v_9 ev_9 => ?_)
    refine va_bast hx hb hK hP hD hS 1 0 rfl rfl (by unfold vp_in; decide) dX14_feed_100 (fun H locs hP hD hS => ?_)
    obtain ⟨f_10, hP, hD⟩ : ∃ f9, va_P (dC, dI) classes [(m0, .inr (14, fX14 (.int 0) (.ref m0_power) (.int 0) (.int (-1)) (.int 0) .null .null (.ref sp) (.ref m0_tape) (.int 0) (.int 0) (.int 0) (.int 0) (.int 0) (.int 0) (.int 0) (.long 0) (.ref m0_isOpen) (.ref m0_isFallen) (.ref m0_speed) (.ref m0_fire) (.int 10) (.int (-1)) (.int 0) (.ref m0_air) (.ref m0_cameBy) (.ref m0_least) (.ref m0_before) (.ref m0_gas) (.ref m0_into) (.ref m0_rest) (.ref m0_isTold) (.ref m0_isPast) (.ref m0_kept) (.ref m0_smoke) (.ref m0_early) (.int 0) (.ref m0_manAt) (.int 0) (.ref m0_changeKind) (.ref m0_changeOf) (.ref m0_changeTo) (.ref m0_row) (.ref m0_openWas) (.ref m0_fallenWas) (.ref m0_speedWas) (.int 0) (.ref m0_readingOf) (.ref m0_low) (.ref m0_high) (.ref m0_back))), (m0_tape, .inl (km, 600, .inl f9))] H ∧ va_D A [(m0, .inr (14, fX14 (.int 0) (.ref m0_power) (.int 0) (.int (-1)) (.int 0) .null .null (.ref sp) (.ref m0_tape) (.int 0) (.int 0) (.int 0) (.int 0) (.int 0) (.int 0) (.int 0) (.long 0) (.ref m0_isOpen) (.ref m0_isFallen) (.ref m0_speed) (.ref m0_fire) (.int 10) (.int (-1)) (.int 0) (.ref m0_air) (.ref m0_cameBy) (.ref m0_least) (.ref m0_before) (.ref m0_gas) (.ref m0_into) (.ref m0_rest) (.ref m0_isTold) (.ref m0_isPast) (.ref m0_kept) (.ref m0_smoke) (.ref m0_early) (.int 0) (.ref m0_manAt) (.int 0) (.ref m0_changeKind) (.ref m0_changeOf) (.ref m0_changeTo) (.ref m0_row) (.ref m0_openWas) (.ref m0_fallenWas) (.ref m0_speedWas) (.int 0) (.ref m0_readingOf) (.ref m0_low) (.ref m0_high) (.ref m0_back))), (m0_tape, .inl (km, 600, .inl f9))] := ⟨_, hP, hD⟩
    refine lv_aload_n hx hb dX14_feed_101 rfl (lv_at hl 2 rfl) ?_
    refine lv_dup hx hb dX14_feed_102 rfl ?_
    refine va_get (D := (dC, dI)) (ci := 14) (v := .int 0) (C := RX14) (T := TX14) (N := 51) hx hb hts (fun w h => wM_c (iX14 w h)) hown hK hP 0 rfl rfl 9 (by decide) (hts _ (wM_c wd_1462)) (fun _ h9 => h9) rfl dX14_feed_103 ?_
    refine lv_iconst (v := 1) hx hb dX14_feed_106 (by decide) ?_
    refine lv_iadd hx hb dX14_feed_107 ?_
    refine lv_topi (fun v_11 ev_11 => ?_)
    obtain rfl : v_11 = 1 := ev_11.trans (by decide)
    refine va_put (D := (dC, dI)) (ci := 14) (v := .int 1) (ty := .int) (C := RX14) (T := TX14) (N := 51) hx hb hts (fun w h => wM_c (iX14 w h)) tyX14 tyX14_ok nmX14 hown hK hP hD hS 0 rfl rfl 9 (by decide) (hts _ (wM_c wd_1462)) (fun _ h9 => h9) rfl (by decide +kernel) rfl rfl (Nat.le_of_ble_eq_true rfl) dX14_feed_108 (fun H locs hP hD hS => ?_)
    have hP : va_P (dC, dI) classes [(m0, .inr (14, fX14 (.int 0) (.ref m0_power) (.int 0) (.int (-1)) (.int 0) .null .null (.ref sp) (.ref m0_tape) (.int 1) (.int 0) (.int 0) (.int 0) (.int 0) (.int 0) (.int 0) (.long 0) (.ref m0_isOpen) (.ref m0_isFallen) (.ref m0_speed) (.ref m0_fire) (.int 10) (.int (-1)) (.int 0) (.ref m0_air) (.ref m0_cameBy) (.ref m0_least) (.ref m0_before) (.ref m0_gas) (.ref m0_into) (.ref m0_rest) (.ref m0_isTold) (.ref m0_isPast) (.ref m0_kept) (.ref m0_smoke) (.ref m0_early) (.int 0) (.ref m0_manAt) (.int 0) (.ref m0_changeKind) (.ref m0_changeOf) (.ref m0_changeTo) (.ref m0_row) (.ref m0_openWas) (.ref m0_fallenWas) (.ref m0_speedWas) (.int 0) (.ref m0_readingOf) (.ref m0_low) (.ref m0_high) (.ref m0_back))), (m0_tape, .inl (km, 600, .inl f_10))] H := hP
    have hD : va_D A [(m0, .inr (14, fX14 (.int 0) (.ref m0_power) (.int 0) (.int (-1)) (.int 0) .null .null (.ref sp) (.ref m0_tape) (.int 1) (.int 0) (.int 0) (.int 0) (.int 0) (.int 0) (.int 0) (.long 0) (.ref m0_isOpen) (.ref m0_isFallen) (.ref m0_speed) (.ref m0_fire) (.int 10) (.int (-1)) (.int 0) (.ref m0_air) (.ref m0_cameBy) (.ref m0_least) (.ref m0_before) (.ref m0_gas) (.ref m0_into) (.ref m0_rest) (.ref m0_isTold) (.ref m0_isPast) (.ref m0_kept) (.ref m0_smoke) (.ref m0_early) (.int 0) (.ref m0_manAt) (.int 0) (.ref m0_changeKind) (.ref m0_changeOf) (.ref m0_changeTo) (.ref m0_row) (.ref m0_openWas) (.ref m0_fallenWas) (.ref m0_speedWas) (.int 0) (.ref m0_readingOf) (.ref m0_low) (.ref m0_high) (.ref m0_back))), (m0_tape, .inl (km, 600, .inl f_10))] := hD
    refine lv_iinc (v := 1) (lv' := [(6, .int 1), (7, .int av), (0, .ref m0), (1, .int av), (2, .int bv), (3, .int cv), (4, .int dv), (5, .int ev)]) hx hb dX14_feed_111 hl (k := 1) rfl (by decide) (by decide) rfl (fun ls hl => ?_)
    refine lv_goto (tgt := 23) hx hb dX14_feed_114 (by decide) ?_
    refine lv_iload hx hb dX14_feed_23 (lv_at hl 0 rfl) ?_
    refine lv_bipush (v := 20) hx hb dX14_feed_25 (by decide) ?_
    refine lv_icmp_ge (tgt := 117) hx hb dX14_feed_27 (by decide) (fun c_12 => ?_) (fun c_12 => ?_)
    · exact absurd c_12 (by decide)
    refine lv_iload hx hb dX14_feed_30 (lv_at hl 0 rfl) ?_
    refine lv_iconst (v := 4) hx hb dX14_feed_32 (by decide) ?_
    refine lv_icmp_ge (tgt := 40) hx hb dX14_feed_33 (by decide) (fun c_13 => ?_) (fun c_13 => ?_)
    · exact absurd c_13 (by decide)
    refine lv_iload_n hx hb dX14_feed_36 rfl (lv_at hl 3 rfl) ?_
    refine lv_goto (tgt := 76) hx hb dX14_feed_37 (by decide) ?_
    refine lv_istore (lv' := [(7, .int av), (6, .int 1), (0, .ref m0), (1, .int av), (2, .int bv), (3, .int cv), (4, .int dv), (5, .int ev)]) hx hb dX14_feed_76 hl (by decide) rfl (fun ls hl => ?_)
    refine lv_aload_n hx hb dX14_feed_78 rfl (lv_at hl 2 rfl) ?_
    refine va_get (D := (dC, dI)) (ci := 14) (v := .ref m0_tape) (C := RX14) (T := TX14) (N := 51) hx hb hts (fun w h => wM_c (iX14 w h)) hown hK hP 0 rfl rfl 8 (by decide) (hts _ (wM_c wd_1461)) (fun _ h9 => h9) rfl dX14_feed_79 ?_
    refine lv_aload_n hx hb dX14_feed_82 rfl (lv_at hl 2 rfl) ?_
    refine va_get (D := (dC, dI)) (ci := 14) (v := .int 1) (C := RX14) (T := TX14) (N := 51) hx hb hts (fun w h => wM_c (iX14 w h)) hown hK hP 0 rfl rfl 9 (by decide) (hts _ (wM_c wd_1462)) (fun _ h9 => h9) rfl dX14_feed_83 ?_
    refine lv_iload hx hb dX14_feed_86 (lv_at hl 0 rfl) ?_
    refine lv_bipush (v := 24) hx hb dX14_feed_88 (by decide) ?_
    refine lv_bipush (v := 8) hx hb dX14_feed_90 (by decide) ?_
    refine lv_iload hx hb dX14_feed_92 (lv_at hl 1 rfl) ?_
    refine lv_iconst (v := 4) hx hb dX14_feed_94 (by decide) ?_
    refine lv_irem hx hb dX14_feed_95 (by decide) ?_
    refine lv_topi (fun v_14 ev_14 => ?_)
    obtain rfl : v_14 = 1 := ev_14.trans (by decide)
    refine lv_imul hx hb dX14_feed_96 ?_
    refine lv_topi (fun v_15 ev_15 => ?_)
    obtain rfl : v_15 = 8 := ev_15.trans (by decide)
    refine lv_isub hx hb dX14_feed_97 ?_
    refine lv_topi (fun v_16 ev_16 => ?_)
    obtain rfl : v_16 = 16 := ev_16.trans (by decide)
    refine lv_ishr hx hb dX14_feed_98 ?_
    refine lv_topi (fun v_17 ev_17 => ?_)
    refine lv_i2b hx hb dX14_feed_99 rfl ?_
    refine lv_topi (fun v_18 ev_18 => ?_)
    refine va_bast hx hb hK hP hD hS 1 0 rfl rfl (by unfold vp_in; decide) dX14_feed_100 (fun H locs hP hD hS => ?_)
    obtain ⟨f_19, hP, hD⟩ : ∃ f9, va_P (dC, dI) classes [(m0, .inr (14, fX14 (.int 0) (.ref m0_power) (.int 0) (.int (-1)) (.int 0) .null .null (.ref sp) (.ref m0_tape) (.int 1) (.int 0) (.int 0) (.int 0) (.int 0) (.int 0) (.int 0) (.long 0) (.ref m0_isOpen) (.ref m0_isFallen) (.ref m0_speed) (.ref m0_fire) (.int 10) (.int (-1)) (.int 0) (.ref m0_air) (.ref m0_cameBy) (.ref m0_least) (.ref m0_before) (.ref m0_gas) (.ref m0_into) (.ref m0_rest) (.ref m0_isTold) (.ref m0_isPast) (.ref m0_kept) (.ref m0_smoke) (.ref m0_early) (.int 0) (.ref m0_manAt) (.int 0) (.ref m0_changeKind) (.ref m0_changeOf) (.ref m0_changeTo) (.ref m0_row) (.ref m0_openWas) (.ref m0_fallenWas) (.ref m0_speedWas) (.int 0) (.ref m0_readingOf) (.ref m0_low) (.ref m0_high) (.ref m0_back))), (m0_tape, .inl (km, 600, .inl f9))] H ∧ va_D A [(m0, .inr (14, fX14 (.int 0) (.ref m0_power) (.int 0) (.int (-1)) (.int 0) .null .null (.ref sp) (.ref m0_tape) (.int 1) (.int 0) (.int 0) (.int 0) (.int 0) (.int 0) (.int 0) (.long 0) (.ref m0_isOpen) (.ref m0_isFallen) (.ref m0_speed) (.ref m0_fire) (.int 10) (.int (-1)) (.int 0) (.ref m0_air) (.ref m0_cameBy) (.ref m0_least) (.ref m0_before) (.ref m0_gas) (.ref m0_into) (.ref m0_rest) (.ref m0_isTold) (.ref m0_isPast) (.ref m0_kept) (.ref m0_smoke) (.ref m0_early) (.int 0) (.ref m0_manAt) (.int 0) (.ref m0_changeKind) (.ref m0_changeOf) (.ref m0_changeTo) (.ref m0_row) (.ref m0_openWas) (.ref m0_fallenWas) (.ref m0_speedWas) (.int 0) (.ref m0_readingOf) (.ref m0_low) (.ref m0_high) (.ref m0_back))), (m0_tape, .inl (km, 600, .inl f9))] := ⟨_, hP, hD⟩
    refine lv_aload_n hx hb dX14_feed_101 rfl (lv_at hl 2 rfl) ?_
    refine lv_dup hx hb dX14_feed_102 rfl ?_
    refine va_get (D := (dC, dI)) (ci := 14) (v := .int 1) (C := RX14) (T := TX14) (N := 51) hx hb hts (fun w h => wM_c (iX14 w h)) hown hK hP 0 rfl rfl 9 (by decide) (hts _ (wM_c wd_1462)) (fun _ h9 => h9) rfl dX14_feed_103 ?_
    refine lv_iconst (v := 1) hx hb dX14_feed_106 (by decide) ?_
    refine lv_iadd hx hb dX14_feed_107 ?_
    refine lv_topi (fun v_20 ev_20 => ?_)
    obtain rfl : v_20 = 2 := ev_20.trans (by decide)
    refine va_put (D := (dC, dI)) (ci := 14) (v := .int 2) (ty := .int) (C := RX14) (T := TX14) (N := 51) hx hb hts (fun w h => wM_c (iX14 w h)) tyX14 tyX14_ok nmX14 hown hK hP hD hS 0 rfl rfl 9 (by decide) (hts _ (wM_c wd_1462)) (fun _ h9 => h9) rfl (by decide +kernel) rfl rfl (Nat.le_of_ble_eq_true rfl) dX14_feed_108 (fun H locs hP hD hS => ?_)
    have hP : va_P (dC, dI) classes [(m0, .inr (14, fX14 (.int 0) (.ref m0_power) (.int 0) (.int (-1)) (.int 0) .null .null (.ref sp) (.ref m0_tape) (.int 2) (.int 0) (.int 0) (.int 0) (.int 0) (.int 0) (.int 0) (.long 0) (.ref m0_isOpen) (.ref m0_isFallen) (.ref m0_speed) (.ref m0_fire) (.int 10) (.int (-1)) (.int 0) (.ref m0_air) (.ref m0_cameBy) (.ref m0_least) (.ref m0_before) (.ref m0_gas) (.ref m0_into) (.ref m0_rest) (.ref m0_isTold) (.ref m0_isPast) (.ref m0_kept) (.ref m0_smoke) (.ref m0_early) (.int 0) (.ref m0_manAt) (.int 0) (.ref m0_changeKind) (.ref m0_changeOf) (.ref m0_changeTo) (.ref m0_row) (.ref m0_openWas) (.ref m0_fallenWas) (.ref m0_speedWas) (.int 0) (.ref m0_readingOf) (.ref m0_low) (.ref m0_high) (.ref m0_back))), (m0_tape, .inl (km, 600, .inl f_19))] H := hP
    have hD : va_D A [(m0, .inr (14, fX14 (.int 0) (.ref m0_power) (.int 0) (.int (-1)) (.int 0) .null .null (.ref sp) (.ref m0_tape) (.int 2) (.int 0) (.int 0) (.int 0) (.int 0) (.int 0) (.int 0) (.long 0) (.ref m0_isOpen) (.ref m0_isFallen) (.ref m0_speed) (.ref m0_fire) (.int 10) (.int (-1)) (.int 0) (.ref m0_air) (.ref m0_cameBy) (.ref m0_least) (.ref m0_before) (.ref m0_gas) (.ref m0_into) (.ref m0_rest) (.ref m0_isTold) (.ref m0_isPast) (.ref m0_kept) (.ref m0_smoke) (.ref m0_early) (.int 0) (.ref m0_manAt) (.int 0) (.ref m0_changeKind) (.ref m0_changeOf) (.ref m0_changeTo) (.ref m0_row) (.ref m0_openWas) (.ref m0_fallenWas) (.ref m0_speedWas) (.int 0) (.ref m0_readingOf) (.ref m0_low) (.ref m0_high) (.ref m0_back))), (m0_tape, .inl (km, 600, .inl f_19))] := hD
    refine lv_iinc (v := 2) (lv' := [(6, .int 2), (7, .int av), (0, .ref m0), (1, .int av), (2, .int bv), (3, .int cv), (4, .int dv), (5, .int ev)]) hx hb dX14_feed_111 hl (k := 1) rfl (by decide) (by decide) rfl (fun ls hl => ?_)
    refine lv_goto (tgt := 23) hx hb dX14_feed_114 (by decide) ?_
    refine lv_iload hx hb dX14_feed_23 (lv_at hl 0 rfl) ?_
    refine lv_bipush (v := 20) hx hb dX14_feed_25 (by decide) ?_
    refine lv_icmp_ge (tgt := 117) hx hb dX14_feed_27 (by decide) (fun c_21 => ?_) (fun c_21 => ?_)
    · exact absurd c_21 (by decide)
    refine lv_iload hx hb dX14_feed_30 (lv_at hl 0 rfl) ?_
    refine lv_iconst (v := 4) hx hb dX14_feed_32 (by decide) ?_
    refine lv_icmp_ge (tgt := 40) hx hb dX14_feed_33 (by decide) (fun c_22 => ?_) (fun c_22 => ?_)
    · exact absurd c_22 (by decide)
    refine lv_iload_n hx hb dX14_feed_36 rfl (lv_at hl 3 rfl) ?_
    refine lv_goto (tgt := 76) hx hb dX14_feed_37 (by decide) ?_
    refine lv_istore (lv' := [(7, .int av), (6, .int 2), (0, .ref m0), (1, .int av), (2, .int bv), (3, .int cv), (4, .int dv), (5, .int ev)]) hx hb dX14_feed_76 hl (by decide) rfl (fun ls hl => ?_)
    refine lv_aload_n hx hb dX14_feed_78 rfl (lv_at hl 2 rfl) ?_
    refine va_get (D := (dC, dI)) (ci := 14) (v := .ref m0_tape) (C := RX14) (T := TX14) (N := 51) hx hb hts (fun w h => wM_c (iX14 w h)) hown hK hP 0 rfl rfl 8 (by decide) (hts _ (wM_c wd_1461)) (fun _ h9 => h9) rfl dX14_feed_79 ?_
    refine lv_aload_n hx hb dX14_feed_82 rfl (lv_at hl 2 rfl) ?_
    refine va_get (D := (dC, dI)) (ci := 14) (v := .int 2) (C := RX14) (T := TX14) (N := 51) hx hb hts (fun w h => wM_c (iX14 w h)) hown hK hP 0 rfl rfl 9 (by decide) (hts _ (wM_c wd_1462)) (fun _ h9 => h9) rfl dX14_feed_83 ?_
    refine lv_iload hx hb dX14_feed_86 (lv_at hl 0 rfl) ?_
    refine lv_bipush (v := 24) hx hb dX14_feed_88 (by decide) ?_
    refine lv_bipush (v := 8) hx hb dX14_feed_90 (by decide) ?_
    refine lv_iload hx hb dX14_feed_92 (lv_at hl 1 rfl) ?_
    refine lv_iconst (v := 4) hx hb dX14_feed_94 (by decide) ?_
    refine lv_irem hx hb dX14_feed_95 (by decide) ?_
    refine lv_topi (fun v_23 ev_23 => ?_)
    obtain rfl : v_23 = 2 := ev_23.trans (by decide)
    refine lv_imul hx hb dX14_feed_96 ?_
    refine lv_topi (fun v_24 ev_24 => ?_)
    obtain rfl : v_24 = 16 := ev_24.trans (by decide)
    refine lv_isub hx hb dX14_feed_97 ?_
    refine lv_topi (fun v_25 ev_25 => ?_)
    obtain rfl : v_25 = 8 := ev_25.trans (by decide)
    refine lv_ishr hx hb dX14_feed_98 ?_
    refine lv_topi (fun v_26 ev_26 => ?_)
    refine lv_i2b hx hb dX14_feed_99 rfl ?_
    refine lv_topi (fun v_27 ev_27 => ?_)
    refine va_bast hx hb hK hP hD hS 1 0 rfl rfl (by unfold vp_in; decide) dX14_feed_100 (fun H locs hP hD hS => ?_)
    obtain ⟨f_28, hP, hD⟩ : ∃ f9, va_P (dC, dI) classes [(m0, .inr (14, fX14 (.int 0) (.ref m0_power) (.int 0) (.int (-1)) (.int 0) .null .null (.ref sp) (.ref m0_tape) (.int 2) (.int 0) (.int 0) (.int 0) (.int 0) (.int 0) (.int 0) (.long 0) (.ref m0_isOpen) (.ref m0_isFallen) (.ref m0_speed) (.ref m0_fire) (.int 10) (.int (-1)) (.int 0) (.ref m0_air) (.ref m0_cameBy) (.ref m0_least) (.ref m0_before) (.ref m0_gas) (.ref m0_into) (.ref m0_rest) (.ref m0_isTold) (.ref m0_isPast) (.ref m0_kept) (.ref m0_smoke) (.ref m0_early) (.int 0) (.ref m0_manAt) (.int 0) (.ref m0_changeKind) (.ref m0_changeOf) (.ref m0_changeTo) (.ref m0_row) (.ref m0_openWas) (.ref m0_fallenWas) (.ref m0_speedWas) (.int 0) (.ref m0_readingOf) (.ref m0_low) (.ref m0_high) (.ref m0_back))), (m0_tape, .inl (km, 600, .inl f9))] H ∧ va_D A [(m0, .inr (14, fX14 (.int 0) (.ref m0_power) (.int 0) (.int (-1)) (.int 0) .null .null (.ref sp) (.ref m0_tape) (.int 2) (.int 0) (.int 0) (.int 0) (.int 0) (.int 0) (.int 0) (.long 0) (.ref m0_isOpen) (.ref m0_isFallen) (.ref m0_speed) (.ref m0_fire) (.int 10) (.int (-1)) (.int 0) (.ref m0_air) (.ref m0_cameBy) (.ref m0_least) (.ref m0_before) (.ref m0_gas) (.ref m0_into) (.ref m0_rest) (.ref m0_isTold) (.ref m0_isPast) (.ref m0_kept) (.ref m0_smoke) (.ref m0_early) (.int 0) (.ref m0_manAt) (.int 0) (.ref m0_changeKind) (.ref m0_changeOf) (.ref m0_changeTo) (.ref m0_row) (.ref m0_openWas) (.ref m0_fallenWas) (.ref m0_speedWas) (.int 0) (.ref m0_readingOf) (.ref m0_low) (.ref m0_high) (.ref m0_back))), (m0_tape, .inl (km, 600, .inl f9))] := ⟨_, hP, hD⟩
    refine lv_aload_n hx hb dX14_feed_101 rfl (lv_at hl 2 rfl) ?_
    refine lv_dup hx hb dX14_feed_102 rfl ?_
    refine va_get (D := (dC, dI)) (ci := 14) (v := .int 2) (C := RX14) (T := TX14) (N := 51) hx hb hts (fun w h => wM_c (iX14 w h)) hown hK hP 0 rfl rfl 9 (by decide) (hts _ (wM_c wd_1462)) (fun _ h9 => h9) rfl dX14_feed_103 ?_
    refine lv_iconst (v := 1) hx hb dX14_feed_106 (by decide) ?_
    refine lv_iadd hx hb dX14_feed_107 ?_
    refine lv_topi (fun v_29 ev_29 => ?_)
    obtain rfl : v_29 = 3 := ev_29.trans (by decide)
    refine va_put (D := (dC, dI)) (ci := 14) (v := .int 3) (ty := .int) (C := RX14) (T := TX14) (N := 51) hx hb hts (fun w h => wM_c (iX14 w h)) tyX14 tyX14_ok nmX14 hown hK hP hD hS 0 rfl rfl 9 (by decide) (hts _ (wM_c wd_1462)) (fun _ h9 => h9) rfl (by decide +kernel) rfl rfl (Nat.le_of_ble_eq_true rfl) dX14_feed_108 (fun H locs hP hD hS => ?_)
    have hP : va_P (dC, dI) classes [(m0, .inr (14, fX14 (.int 0) (.ref m0_power) (.int 0) (.int (-1)) (.int 0) .null .null (.ref sp) (.ref m0_tape) (.int 3) (.int 0) (.int 0) (.int 0) (.int 0) (.int 0) (.int 0) (.long 0) (.ref m0_isOpen) (.ref m0_isFallen) (.ref m0_speed) (.ref m0_fire) (.int 10) (.int (-1)) (.int 0) (.ref m0_air) (.ref m0_cameBy) (.ref m0_least) (.ref m0_before) (.ref m0_gas) (.ref m0_into) (.ref m0_rest) (.ref m0_isTold) (.ref m0_isPast) (.ref m0_kept) (.ref m0_smoke) (.ref m0_early) (.int 0) (.ref m0_manAt) (.int 0) (.ref m0_changeKind) (.ref m0_changeOf) (.ref m0_changeTo) (.ref m0_row) (.ref m0_openWas) (.ref m0_fallenWas) (.ref m0_speedWas) (.int 0) (.ref m0_readingOf) (.ref m0_low) (.ref m0_high) (.ref m0_back))), (m0_tape, .inl (km, 600, .inl f_28))] H := hP
    have hD : va_D A [(m0, .inr (14, fX14 (.int 0) (.ref m0_power) (.int 0) (.int (-1)) (.int 0) .null .null (.ref sp) (.ref m0_tape) (.int 3) (.int 0) (.int 0) (.int 0) (.int 0) (.int 0) (.int 0) (.long 0) (.ref m0_isOpen) (.ref m0_isFallen) (.ref m0_speed) (.ref m0_fire) (.int 10) (.int (-1)) (.int 0) (.ref m0_air) (.ref m0_cameBy) (.ref m0_least) (.ref m0_before) (.ref m0_gas) (.ref m0_into) (.ref m0_rest) (.ref m0_isTold) (.ref m0_isPast) (.ref m0_kept) (.ref m0_smoke) (.ref m0_early) (.int 0) (.ref m0_manAt) (.int 0) (.ref m0_changeKind) (.ref m0_changeOf) (.ref m0_changeTo) (.ref m0_row) (.ref m0_openWas) (.ref m0_fallenWas) (.ref m0_speedWas) (.int 0) (.ref m0_readingOf) (.ref m0_low) (.ref m0_high) (.ref m0_back))), (m0_tape, .inl (km, 600, .inl f_28))] := hD
    refine lv_iinc (v := 3) (lv' := [(6, .int 3), (7, .int av), (0, .ref m0), (1, .int av), (2, .int bv), (3, .int cv), (4, .int dv), (5, .int ev)]) hx hb dX14_feed_111 hl (k := 1) rfl (by decide) (by decide) rfl (fun ls hl => ?_)
    refine lv_goto (tgt := 23) hx hb dX14_feed_114 (by decide) ?_
    refine lv_iload hx hb dX14_feed_23 (lv_at hl 0 rfl) ?_
    refine lv_bipush (v := 20) hx hb dX14_feed_25 (by decide) ?_
    refine lv_icmp_ge (tgt := 117) hx hb dX14_feed_27 (by decide) (fun c_30 => ?_) (fun c_30 => ?_)
    · exact absurd c_30 (by decide)
    refine lv_iload hx hb dX14_feed_30 (lv_at hl 0 rfl) ?_
    refine lv_iconst (v := 4) hx hb dX14_feed_32 (by decide) ?_
    refine lv_icmp_ge (tgt := 40) hx hb dX14_feed_33 (by decide) (fun c_31 => ?_) (fun c_31 => ?_)
    · exact absurd c_31 (by decide)
    refine lv_iload_n hx hb dX14_feed_36 rfl (lv_at hl 3 rfl) ?_
    refine lv_goto (tgt := 76) hx hb dX14_feed_37 (by decide) ?_
    refine lv_istore (lv' := [(7, .int av), (6, .int 3), (0, .ref m0), (1, .int av), (2, .int bv), (3, .int cv), (4, .int dv), (5, .int ev)]) hx hb dX14_feed_76 hl (by decide) rfl (fun ls hl => ?_)
    refine lv_aload_n hx hb dX14_feed_78 rfl (lv_at hl 2 rfl) ?_
    refine va_get (D := (dC, dI)) (ci := 14) (v := .ref m0_tape) (C := RX14) (T := TX14) (N := 51) hx hb hts (fun w h => wM_c (iX14 w h)) hown hK hP 0 rfl rfl 8 (by decide) (hts _ (wM_c wd_1461)) (fun _ h9 => h9) rfl dX14_feed_79 ?_
    refine lv_aload_n hx hb dX14_feed_82 rfl (lv_at hl 2 rfl) ?_
    refine va_get (D := (dC, dI)) (ci := 14) (v := .int 3) (C := RX14) (T := TX14) (N := 51) hx hb hts (fun w h => wM_c (iX14 w h)) hown hK hP 0 rfl rfl 9 (by decide) (hts _ (wM_c wd_1462)) (fun _ h9 => h9) rfl dX14_feed_83 ?_
    refine lv_iload hx hb dX14_feed_86 (lv_at hl 0 rfl) ?_
    refine lv_bipush (v := 24) hx hb dX14_feed_88 (by decide) ?_
    refine lv_bipush (v := 8) hx hb dX14_feed_90 (by decide) ?_
    refine lv_iload hx hb dX14_feed_92 (lv_at hl 1 rfl) ?_
    refine lv_iconst (v := 4) hx hb dX14_feed_94 (by decide) ?_
    refine lv_irem hx hb dX14_feed_95 (by decide) ?_
    refine lv_topi (fun v_32 ev_32 => ?_)
    obtain rfl : v_32 = 3 := ev_32.trans (by decide)
    refine lv_imul hx hb dX14_feed_96 ?_
    refine lv_topi (fun v_33 ev_33 => ?_)
    obtain rfl : v_33 = 24 := ev_33.trans (by decide)
    refine lv_isub hx hb dX14_feed_97 ?_
    refine lv_topi (fun v_34 ev_34 => ?_)
    obtain rfl : v_34 = 0 := ev_34.trans (by decide)
    refine lv_ishr hx hb dX14_feed_98 ?_
    refine lv_topi (fun v_35 ev_35 => ?_)
    refine lv_i2b hx hb dX14_feed_99 rfl ?_
    refine lv_topi (fun v_36 ev_36 => ?_)
    refine va_bast hx hb hK hP hD hS 1 0 rfl rfl (by unfold vp_in; decide) dX14_feed_100 (fun H locs hP hD hS => ?_)
    obtain ⟨f_37, hP, hD⟩ : ∃ f9, va_P (dC, dI) classes [(m0, .inr (14, fX14 (.int 0) (.ref m0_power) (.int 0) (.int (-1)) (.int 0) .null .null (.ref sp) (.ref m0_tape) (.int 3) (.int 0) (.int 0) (.int 0) (.int 0) (.int 0) (.int 0) (.long 0) (.ref m0_isOpen) (.ref m0_isFallen) (.ref m0_speed) (.ref m0_fire) (.int 10) (.int (-1)) (.int 0) (.ref m0_air) (.ref m0_cameBy) (.ref m0_least) (.ref m0_before) (.ref m0_gas) (.ref m0_into) (.ref m0_rest) (.ref m0_isTold) (.ref m0_isPast) (.ref m0_kept) (.ref m0_smoke) (.ref m0_early) (.int 0) (.ref m0_manAt) (.int 0) (.ref m0_changeKind) (.ref m0_changeOf) (.ref m0_changeTo) (.ref m0_row) (.ref m0_openWas) (.ref m0_fallenWas) (.ref m0_speedWas) (.int 0) (.ref m0_readingOf) (.ref m0_low) (.ref m0_high) (.ref m0_back))), (m0_tape, .inl (km, 600, .inl f9))] H ∧ va_D A [(m0, .inr (14, fX14 (.int 0) (.ref m0_power) (.int 0) (.int (-1)) (.int 0) .null .null (.ref sp) (.ref m0_tape) (.int 3) (.int 0) (.int 0) (.int 0) (.int 0) (.int 0) (.int 0) (.long 0) (.ref m0_isOpen) (.ref m0_isFallen) (.ref m0_speed) (.ref m0_fire) (.int 10) (.int (-1)) (.int 0) (.ref m0_air) (.ref m0_cameBy) (.ref m0_least) (.ref m0_before) (.ref m0_gas) (.ref m0_into) (.ref m0_rest) (.ref m0_isTold) (.ref m0_isPast) (.ref m0_kept) (.ref m0_smoke) (.ref m0_early) (.int 0) (.ref m0_manAt) (.int 0) (.ref m0_changeKind) (.ref m0_changeOf) (.ref m0_changeTo) (.ref m0_row) (.ref m0_openWas) (.ref m0_fallenWas) (.ref m0_speedWas) (.int 0) (.ref m0_readingOf) (.ref m0_low) (.ref m0_high) (.ref m0_back))), (m0_tape, .inl (km, 600, .inl f9))] := ⟨_, hP, hD⟩
    refine lv_aload_n hx hb dX14_feed_101 rfl (lv_at hl 2 rfl) ?_
    refine lv_dup hx hb dX14_feed_102 rfl ?_
    refine va_get (D := (dC, dI)) (ci := 14) (v := .int 3) (C := RX14) (T := TX14) (N := 51) hx hb hts (fun w h => wM_c (iX14 w h)) hown hK hP 0 rfl rfl 9 (by decide) (hts _ (wM_c wd_1462)) (fun _ h9 => h9) rfl dX14_feed_103 ?_
    refine lv_iconst (v := 1) hx hb dX14_feed_106 (by decide) ?_
    refine lv_iadd hx hb dX14_feed_107 ?_
    refine lv_topi (fun v_38 ev_38 => ?_)
    obtain rfl : v_38 = 4 := ev_38.trans (by decide)
    refine va_put (D := (dC, dI)) (ci := 14) (v := .int 4) (ty := .int) (C := RX14) (T := TX14) (N := 51) hx hb hts (fun w h => wM_c (iX14 w h)) tyX14 tyX14_ok nmX14 hown hK hP hD hS 0 rfl rfl 9 (by decide) (hts _ (wM_c wd_1462)) (fun _ h9 => h9) rfl (by decide +kernel) rfl rfl (Nat.le_of_ble_eq_true rfl) dX14_feed_108 (fun H locs hP hD hS => ?_)
    have hP : va_P (dC, dI) classes [(m0, .inr (14, fX14 (.int 0) (.ref m0_power) (.int 0) (.int (-1)) (.int 0) .null .null (.ref sp) (.ref m0_tape) (.int 4) (.int 0) (.int 0) (.int 0) (.int 0) (.int 0) (.int 0) (.long 0) (.ref m0_isOpen) (.ref m0_isFallen) (.ref m0_speed) (.ref m0_fire) (.int 10) (.int (-1)) (.int 0) (.ref m0_air) (.ref m0_cameBy) (.ref m0_least) (.ref m0_before) (.ref m0_gas) (.ref m0_into) (.ref m0_rest) (.ref m0_isTold) (.ref m0_isPast) (.ref m0_kept) (.ref m0_smoke) (.ref m0_early) (.int 0) (.ref m0_manAt) (.int 0) (.ref m0_changeKind) (.ref m0_changeOf) (.ref m0_changeTo) (.ref m0_row) (.ref m0_openWas) (.ref m0_fallenWas) (.ref m0_speedWas) (.int 0) (.ref m0_readingOf) (.ref m0_low) (.ref m0_high) (.ref m0_back))), (m0_tape, .inl (km, 600, .inl f_37))] H := hP
    have hD : va_D A [(m0, .inr (14, fX14 (.int 0) (.ref m0_power) (.int 0) (.int (-1)) (.int 0) .null .null (.ref sp) (.ref m0_tape) (.int 4) (.int 0) (.int 0) (.int 0) (.int 0) (.int 0) (.int 0) (.long 0) (.ref m0_isOpen) (.ref m0_isFallen) (.ref m0_speed) (.ref m0_fire) (.int 10) (.int (-1)) (.int 0) (.ref m0_air) (.ref m0_cameBy) (.ref m0_least) (.ref m0_before) (.ref m0_gas) (.ref m0_into) (.ref m0_rest) (.ref m0_isTold) (.ref m0_isPast) (.ref m0_kept) (.ref m0_smoke) (.ref m0_early) (.int 0) (.ref m0_manAt) (.int 0) (.ref m0_changeKind) (.ref m0_changeOf) (.ref m0_changeTo) (.ref m0_row) (.ref m0_openWas) (.ref m0_fallenWas) (.ref m0_speedWas) (.int 0) (.ref m0_readingOf) (.ref m0_low) (.ref m0_high) (.ref m0_back))), (m0_tape, .inl (km, 600, .inl f_37))] := hD
    refine lv_iinc (v := 4) (lv' := [(6, .int 4), (7, .int av), (0, .ref m0), (1, .int av), (2, .int bv), (3, .int cv), (4, .int dv), (5, .int ev)]) hx hb dX14_feed_111 hl (k := 1) rfl (by decide) (by decide) rfl (fun ls hl => ?_)
    refine lv_goto (tgt := 23) hx hb dX14_feed_114 (by decide) ?_
    refine lv_iload hx hb dX14_feed_23 (lv_at hl 0 rfl) ?_
    refine lv_bipush (v := 20) hx hb dX14_feed_25 (by decide) ?_
    refine lv_icmp_ge (tgt := 117) hx hb dX14_feed_27 (by decide) (fun c_39 => ?_) (fun c_39 => ?_)
    · exact absurd c_39 (by decide)
    refine lv_iload hx hb dX14_feed_30 (lv_at hl 0 rfl) ?_
    refine lv_iconst (v := 4) hx hb dX14_feed_32 (by decide) ?_
    refine lv_icmp_ge (tgt := 40) hx hb dX14_feed_33 (by decide) (fun c_40 => ?_) (fun c_40 => ?_)
    · skip
      refine lv_iload hx hb dX14_feed_40 (lv_at hl 0 rfl) ?_
      refine lv_bipush (v := 8) hx hb dX14_feed_42 (by decide) ?_
      refine lv_icmp_ge (tgt := 51) hx hb dX14_feed_44 (by decide) (fun c_41 => ?_) (fun c_41 => ?_)
      · exact absurd c_41 (by decide)
      refine lv_iload_n hx hb dX14_feed_47 rfl (lv_at hl 4 rfl) ?_
      refine lv_goto (tgt := 76) hx hb dX14_feed_48 (by decide) ?_
      refine lv_istore (lv' := [(7, .int bv), (6, .int 4), (0, .ref m0), (1, .int av), (2, .int bv), (3, .int cv), (4, .int dv), (5, .int ev)]) hx hb dX14_feed_76 hl (by decide) rfl (fun ls hl => ?_)
      refine lv_aload_n hx hb dX14_feed_78 rfl (lv_at hl 2 rfl) ?_
      refine va_get (D := (dC, dI)) (ci := 14) (v := .ref m0_tape) (C := RX14) (T := TX14) (N := 51) hx hb hts (fun w h => wM_c (iX14 w h)) hown hK hP 0 rfl rfl 8 (by decide) (hts _ (wM_c wd_1461)) (fun _ h9 => h9) rfl dX14_feed_79 ?_
      refine lv_aload_n hx hb dX14_feed_82 rfl (lv_at hl 2 rfl) ?_
      refine va_get (D := (dC, dI)) (ci := 14) (v := .int 4) (C := RX14) (T := TX14) (N := 51) hx hb hts (fun w h => wM_c (iX14 w h)) hown hK hP 0 rfl rfl 9 (by decide) (hts _ (wM_c wd_1462)) (fun _ h9 => h9) rfl dX14_feed_83 ?_
      refine lv_iload hx hb dX14_feed_86 (lv_at hl 0 rfl) ?_
      refine lv_bipush (v := 24) hx hb dX14_feed_88 (by decide) ?_
      refine lv_bipush (v := 8) hx hb dX14_feed_90 (by decide) ?_
      refine lv_iload hx hb dX14_feed_92 (lv_at hl 1 rfl) ?_
      refine lv_iconst (v := 4) hx hb dX14_feed_94 (by decide) ?_
      refine lv_irem hx hb dX14_feed_95 (by decide) ?_
      refine lv_topi (fun v_42 ev_42 => ?_)
      obtain rfl : v_42 = 0 := ev_42.trans (by decide)
      refine lv_imul hx hb dX14_feed_96 ?_
      refine lv_topi (fun v_43 ev_43 => ?_)
      obtain rfl : v_43 = 0 := ev_43.trans (by decide)
      refine lv_isub hx hb dX14_feed_97 ?_
      refine lv_topi (fun v_44 ev_44 => ?_)
      obtain rfl : v_44 = 24 := ev_44.trans (by decide)
      refine lv_ishr hx hb dX14_feed_98 ?_
      refine lv_topi (fun v_45 ev_45 => ?_)
      refine lv_i2b hx hb dX14_feed_99 rfl ?_
      refine lv_topi (fun v_46 ev_46 => ?_)
      refine va_bast hx hb hK hP hD hS 1 0 rfl rfl (by unfold vp_in; decide) dX14_feed_100 (fun H locs hP hD hS => ?_)
      obtain ⟨f_47, hP, hD⟩ : ∃ f9, va_P (dC, dI) classes [(m0, .inr (14, fX14 (.int 0) (.ref m0_power) (.int 0) (.int (-1)) (.int 0) .null .null (.ref sp) (.ref m0_tape) (.int 4) (.int 0) (.int 0) (.int 0) (.int 0) (.int 0) (.int 0) (.long 0) (.ref m0_isOpen) (.ref m0_isFallen) (.ref m0_speed) (.ref m0_fire) (.int 10) (.int (-1)) (.int 0) (.ref m0_air) (.ref m0_cameBy) (.ref m0_least) (.ref m0_before) (.ref m0_gas) (.ref m0_into) (.ref m0_rest) (.ref m0_isTold) (.ref m0_isPast) (.ref m0_kept) (.ref m0_smoke) (.ref m0_early) (.int 0) (.ref m0_manAt) (.int 0) (.ref m0_changeKind) (.ref m0_changeOf) (.ref m0_changeTo) (.ref m0_row) (.ref m0_openWas) (.ref m0_fallenWas) (.ref m0_speedWas) (.int 0) (.ref m0_readingOf) (.ref m0_low) (.ref m0_high) (.ref m0_back))), (m0_tape, .inl (km, 600, .inl f9))] H ∧ va_D A [(m0, .inr (14, fX14 (.int 0) (.ref m0_power) (.int 0) (.int (-1)) (.int 0) .null .null (.ref sp) (.ref m0_tape) (.int 4) (.int 0) (.int 0) (.int 0) (.int 0) (.int 0) (.int 0) (.long 0) (.ref m0_isOpen) (.ref m0_isFallen) (.ref m0_speed) (.ref m0_fire) (.int 10) (.int (-1)) (.int 0) (.ref m0_air) (.ref m0_cameBy) (.ref m0_least) (.ref m0_before) (.ref m0_gas) (.ref m0_into) (.ref m0_rest) (.ref m0_isTold) (.ref m0_isPast) (.ref m0_kept) (.ref m0_smoke) (.ref m0_early) (.int 0) (.ref m0_manAt) (.int 0) (.ref m0_changeKind) (.ref m0_changeOf) (.ref m0_changeTo) (.ref m0_row) (.ref m0_openWas) (.ref m0_fallenWas) (.ref m0_speedWas) (.int 0) (.ref m0_readingOf) (.ref m0_low) (.ref m0_high) (.ref m0_back))), (m0_tape, .inl (km, 600, .inl f9))] := ⟨_, hP, hD⟩
      refine lv_aload_n hx hb dX14_feed_101 rfl (lv_at hl 2 rfl) ?_
      refine lv_dup hx hb dX14_feed_102 rfl ?_
      refine va_get (D := (dC, dI)) (ci := 14) (v := .int 4) (C := RX14) (T := TX14) (N := 51) hx hb hts (fun w h => wM_c (iX14 w h)) hown hK hP 0 rfl rfl 9 (by decide) (hts _ (wM_c wd_1462)) (fun _ h9 => h9) rfl dX14_feed_103 ?_
      refine lv_iconst (v := 1) hx hb dX14_feed_106 (by decide) ?_
      refine lv_iadd hx hb dX14_feed_107 ?_
      refine lv_topi (fun v_48 ev_48 => ?_)
      obtain rfl : v_48 = 5 := ev_48.trans (by decide)
      refine va_put (D := (dC, dI)) (ci := 14) (v := .int 5) (ty := .int) (C := RX14) (T := TX14) (N := 51) hx hb hts (fun w h => wM_c (iX14 w h)) tyX14 tyX14_ok nmX14 hown hK hP hD hS 0 rfl rfl 9 (by decide) (hts _ (wM_c wd_1462)) (fun _ h9 => h9) rfl (by decide +kernel) rfl rfl (Nat.le_of_ble_eq_true rfl) dX14_feed_108 (fun H locs hP hD hS => ?_)
      have hP : va_P (dC, dI) classes [(m0, .inr (14, fX14 (.int 0) (.ref m0_power) (.int 0) (.int (-1)) (.int 0) .null .null (.ref sp) (.ref m0_tape) (.int 5) (.int 0) (.int 0) (.int 0) (.int 0) (.int 0) (.int 0) (.long 0) (.ref m0_isOpen) (.ref m0_isFallen) (.ref m0_speed) (.ref m0_fire) (.int 10) (.int (-1)) (.int 0) (.ref m0_air) (.ref m0_cameBy) (.ref m0_least) (.ref m0_before) (.ref m0_gas) (.ref m0_into) (.ref m0_rest) (.ref m0_isTold) (.ref m0_isPast) (.ref m0_kept) (.ref m0_smoke) (.ref m0_early) (.int 0) (.ref m0_manAt) (.int 0) (.ref m0_changeKind) (.ref m0_changeOf) (.ref m0_changeTo) (.ref m0_row) (.ref m0_openWas) (.ref m0_fallenWas) (.ref m0_speedWas) (.int 0) (.ref m0_readingOf) (.ref m0_low) (.ref m0_high) (.ref m0_back))), (m0_tape, .inl (km, 600, .inl f_47))] H := hP
      have hD : va_D A [(m0, .inr (14, fX14 (.int 0) (.ref m0_power) (.int 0) (.int (-1)) (.int 0) .null .null (.ref sp) (.ref m0_tape) (.int 5) (.int 0) (.int 0) (.int 0) (.int 0) (.int 0) (.int 0) (.long 0) (.ref m0_isOpen) (.ref m0_isFallen) (.ref m0_speed) (.ref m0_fire) (.int 10) (.int (-1)) (.int 0) (.ref m0_air) (.ref m0_cameBy) (.ref m0_least) (.ref m0_before) (.ref m0_gas) (.ref m0_into) (.ref m0_rest) (.ref m0_isTold) (.ref m0_isPast) (.ref m0_kept) (.ref m0_smoke) (.ref m0_early) (.int 0) (.ref m0_manAt) (.int 0) (.ref m0_changeKind) (.ref m0_changeOf) (.ref m0_changeTo) (.ref m0_row) (.ref m0_openWas) (.ref m0_fallenWas) (.ref m0_speedWas) (.int 0) (.ref m0_readingOf) (.ref m0_low) (.ref m0_high) (.ref m0_back))), (m0_tape, .inl (km, 600, .inl f_47))] := hD
      refine lv_iinc (v := 5) (lv' := [(6, .int 5), (7, .int bv), (0, .ref m0), (1, .int av), (2, .int bv), (3, .int cv), (4, .int dv), (5, .int ev)]) hx hb dX14_feed_111 hl (k := 1) rfl (by decide) (by decide) rfl (fun ls hl => ?_)
      refine lv_goto (tgt := 23) hx hb dX14_feed_114 (by decide) ?_
      refine lv_iload hx hb dX14_feed_23 (lv_at hl 0 rfl) ?_
      refine lv_bipush (v := 20) hx hb dX14_feed_25 (by decide) ?_
      refine lv_icmp_ge (tgt := 117) hx hb dX14_feed_27 (by decide) (fun c_49 => ?_) (fun c_49 => ?_)
      · exact absurd c_49 (by decide)
      refine lv_iload hx hb dX14_feed_30 (lv_at hl 0 rfl) ?_
      refine lv_iconst (v := 4) hx hb dX14_feed_32 (by decide) ?_
      refine lv_icmp_ge (tgt := 40) hx hb dX14_feed_33 (by decide) (fun c_50 => ?_) (fun c_50 => ?_)
      · skip
        refine lv_iload hx hb dX14_feed_40 (lv_at hl 0 rfl) ?_
        refine lv_bipush (v := 8) hx hb dX14_feed_42 (by decide) ?_
        refine lv_icmp_ge (tgt := 51) hx hb dX14_feed_44 (by decide) (fun c_51 => ?_) (fun c_51 => ?_)
        · exact absurd c_51 (by decide)
        refine lv_iload_n hx hb dX14_feed_47 rfl (lv_at hl 4 rfl) ?_
        refine lv_goto (tgt := 76) hx hb dX14_feed_48 (by decide) ?_
        refine lv_istore (lv' := [(7, .int bv), (6, .int 5), (0, .ref m0), (1, .int av), (2, .int bv), (3, .int cv), (4, .int dv), (5, .int ev)]) hx hb dX14_feed_76 hl (by decide) rfl (fun ls hl => ?_)
        refine lv_aload_n hx hb dX14_feed_78 rfl (lv_at hl 2 rfl) ?_
        refine va_get (D := (dC, dI)) (ci := 14) (v := .ref m0_tape) (C := RX14) (T := TX14) (N := 51) hx hb hts (fun w h => wM_c (iX14 w h)) hown hK hP 0 rfl rfl 8 (by decide) (hts _ (wM_c wd_1461)) (fun _ h9 => h9) rfl dX14_feed_79 ?_
        refine lv_aload_n hx hb dX14_feed_82 rfl (lv_at hl 2 rfl) ?_
        refine va_get (D := (dC, dI)) (ci := 14) (v := .int 5) (C := RX14) (T := TX14) (N := 51) hx hb hts (fun w h => wM_c (iX14 w h)) hown hK hP 0 rfl rfl 9 (by decide) (hts _ (wM_c wd_1462)) (fun _ h9 => h9) rfl dX14_feed_83 ?_
        refine lv_iload hx hb dX14_feed_86 (lv_at hl 0 rfl) ?_
        refine lv_bipush (v := 24) hx hb dX14_feed_88 (by decide) ?_
        refine lv_bipush (v := 8) hx hb dX14_feed_90 (by decide) ?_
        refine lv_iload hx hb dX14_feed_92 (lv_at hl 1 rfl) ?_
        refine lv_iconst (v := 4) hx hb dX14_feed_94 (by decide) ?_
        refine lv_irem hx hb dX14_feed_95 (by decide) ?_
        refine lv_topi (fun v_52 ev_52 => ?_)
        obtain rfl : v_52 = 1 := ev_52.trans (by decide)
        refine lv_imul hx hb dX14_feed_96 ?_
        refine lv_topi (fun v_53 ev_53 => ?_)
        obtain rfl : v_53 = 8 := ev_53.trans (by decide)
        refine lv_isub hx hb dX14_feed_97 ?_
        refine lv_topi (fun v_54 ev_54 => ?_)
        obtain rfl : v_54 = 16 := ev_54.trans (by decide)
        refine lv_ishr hx hb dX14_feed_98 ?_
        refine lv_topi (fun v_55 ev_55 => ?_)
        refine lv_i2b hx hb dX14_feed_99 rfl ?_
        refine lv_topi (fun v_56 ev_56 => ?_)
        refine va_bast hx hb hK hP hD hS 1 0 rfl rfl (by unfold vp_in; decide) dX14_feed_100 (fun H locs hP hD hS => ?_)
        obtain ⟨f_57, hP, hD⟩ : ∃ f9, va_P (dC, dI) classes [(m0, .inr (14, fX14 (.int 0) (.ref m0_power) (.int 0) (.int (-1)) (.int 0) .null .null (.ref sp) (.ref m0_tape) (.int 5) (.int 0) (.int 0) (.int 0) (.int 0) (.int 0) (.int 0) (.long 0) (.ref m0_isOpen) (.ref m0_isFallen) (.ref m0_speed) (.ref m0_fire) (.int 10) (.int (-1)) (.int 0) (.ref m0_air) (.ref m0_cameBy) (.ref m0_least) (.ref m0_before) (.ref m0_gas) (.ref m0_into) (.ref m0_rest) (.ref m0_isTold) (.ref m0_isPast) (.ref m0_kept) (.ref m0_smoke) (.ref m0_early) (.int 0) (.ref m0_manAt) (.int 0) (.ref m0_changeKind) (.ref m0_changeOf) (.ref m0_changeTo) (.ref m0_row) (.ref m0_openWas) (.ref m0_fallenWas) (.ref m0_speedWas) (.int 0) (.ref m0_readingOf) (.ref m0_low) (.ref m0_high) (.ref m0_back))), (m0_tape, .inl (km, 600, .inl f9))] H ∧ va_D A [(m0, .inr (14, fX14 (.int 0) (.ref m0_power) (.int 0) (.int (-1)) (.int 0) .null .null (.ref sp) (.ref m0_tape) (.int 5) (.int 0) (.int 0) (.int 0) (.int 0) (.int 0) (.int 0) (.long 0) (.ref m0_isOpen) (.ref m0_isFallen) (.ref m0_speed) (.ref m0_fire) (.int 10) (.int (-1)) (.int 0) (.ref m0_air) (.ref m0_cameBy) (.ref m0_least) (.ref m0_before) (.ref m0_gas) (.ref m0_into) (.ref m0_rest) (.ref m0_isTold) (.ref m0_isPast) (.ref m0_kept) (.ref m0_smoke) (.ref m0_early) (.int 0) (.ref m0_manAt) (.int 0) (.ref m0_changeKind) (.ref m0_changeOf) (.ref m0_changeTo) (.ref m0_row) (.ref m0_openWas) (.ref m0_fallenWas) (.ref m0_speedWas) (.int 0) (.ref m0_readingOf) (.ref m0_low) (.ref m0_high) (.ref m0_back))), (m0_tape, .inl (km, 600, .inl f9))] := ⟨_, hP, hD⟩
        refine lv_aload_n hx hb dX14_feed_101 rfl (lv_at hl 2 rfl) ?_
        refine lv_dup hx hb dX14_feed_102 rfl ?_
        refine va_get (D := (dC, dI)) (ci := 14) (v := .int 5) (C := RX14) (T := TX14) (N := 51) hx hb hts (fun w h => wM_c (iX14 w h)) hown hK hP 0 rfl rfl 9 (by decide) (hts _ (wM_c wd_1462)) (fun _ h9 => h9) rfl dX14_feed_103 ?_
        refine lv_iconst (v := 1) hx hb dX14_feed_106 (by decide) ?_
        refine lv_iadd hx hb dX14_feed_107 ?_
        refine lv_topi (fun v_58 ev_58 => ?_)
        obtain rfl : v_58 = 6 := ev_58.trans (by decide)
        refine va_put (D := (dC, dI)) (ci := 14) (v := .int 6) (ty := .int) (C := RX14) (T := TX14) (N := 51) hx hb hts (fun w h => wM_c (iX14 w h)) tyX14 tyX14_ok nmX14 hown hK hP hD hS 0 rfl rfl 9 (by decide) (hts _ (wM_c wd_1462)) (fun _ h9 => h9) rfl (by decide +kernel) rfl rfl (Nat.le_of_ble_eq_true rfl) dX14_feed_108 (fun H locs hP hD hS => ?_)
        have hP : va_P (dC, dI) classes [(m0, .inr (14, fX14 (.int 0) (.ref m0_power) (.int 0) (.int (-1)) (.int 0) .null .null (.ref sp) (.ref m0_tape) (.int 6) (.int 0) (.int 0) (.int 0) (.int 0) (.int 0) (.int 0) (.long 0) (.ref m0_isOpen) (.ref m0_isFallen) (.ref m0_speed) (.ref m0_fire) (.int 10) (.int (-1)) (.int 0) (.ref m0_air) (.ref m0_cameBy) (.ref m0_least) (.ref m0_before) (.ref m0_gas) (.ref m0_into) (.ref m0_rest) (.ref m0_isTold) (.ref m0_isPast) (.ref m0_kept) (.ref m0_smoke) (.ref m0_early) (.int 0) (.ref m0_manAt) (.int 0) (.ref m0_changeKind) (.ref m0_changeOf) (.ref m0_changeTo) (.ref m0_row) (.ref m0_openWas) (.ref m0_fallenWas) (.ref m0_speedWas) (.int 0) (.ref m0_readingOf) (.ref m0_low) (.ref m0_high) (.ref m0_back))), (m0_tape, .inl (km, 600, .inl f_57))] H := hP
        have hD : va_D A [(m0, .inr (14, fX14 (.int 0) (.ref m0_power) (.int 0) (.int (-1)) (.int 0) .null .null (.ref sp) (.ref m0_tape) (.int 6) (.int 0) (.int 0) (.int 0) (.int 0) (.int 0) (.int 0) (.long 0) (.ref m0_isOpen) (.ref m0_isFallen) (.ref m0_speed) (.ref m0_fire) (.int 10) (.int (-1)) (.int 0) (.ref m0_air) (.ref m0_cameBy) (.ref m0_least) (.ref m0_before) (.ref m0_gas) (.ref m0_into) (.ref m0_rest) (.ref m0_isTold) (.ref m0_isPast) (.ref m0_kept) (.ref m0_smoke) (.ref m0_early) (.int 0) (.ref m0_manAt) (.int 0) (.ref m0_changeKind) (.ref m0_changeOf) (.ref m0_changeTo) (.ref m0_row) (.ref m0_openWas) (.ref m0_fallenWas) (.ref m0_speedWas) (.int 0) (.ref m0_readingOf) (.ref m0_low) (.ref m0_high) (.ref m0_back))), (m0_tape, .inl (km, 600, .inl f_57))] := hD
        refine lv_iinc (v := 6) (lv' := [(6, .int 6), (7, .int bv), (0, .ref m0), (1, .int av), (2, .int bv), (3, .int cv), (4, .int dv), (5, .int ev)]) hx hb dX14_feed_111 hl (k := 1) rfl (by decide) (by decide) rfl (fun ls hl => ?_)
        refine lv_goto (tgt := 23) hx hb dX14_feed_114 (by decide) ?_
        refine lv_iload hx hb dX14_feed_23 (lv_at hl 0 rfl) ?_
        refine lv_bipush (v := 20) hx hb dX14_feed_25 (by decide) ?_
        refine lv_icmp_ge (tgt := 117) hx hb dX14_feed_27 (by decide) (fun c_59 => ?_) (fun c_59 => ?_)
        · exact absurd c_59 (by decide)
        refine lv_iload hx hb dX14_feed_30 (lv_at hl 0 rfl) ?_
        refine lv_iconst (v := 4) hx hb dX14_feed_32 (by decide) ?_
        refine lv_icmp_ge (tgt := 40) hx hb dX14_feed_33 (by decide) (fun c_60 => ?_) (fun c_60 => ?_)
        · skip
          refine lv_iload hx hb dX14_feed_40 (lv_at hl 0 rfl) ?_
          refine lv_bipush (v := 8) hx hb dX14_feed_42 (by decide) ?_
          refine lv_icmp_ge (tgt := 51) hx hb dX14_feed_44 (by decide) (fun c_61 => ?_) (fun c_61 => ?_)
          · exact absurd c_61 (by decide)
          refine lv_iload_n hx hb dX14_feed_47 rfl (lv_at hl 4 rfl) ?_
          refine lv_goto (tgt := 76) hx hb dX14_feed_48 (by decide) ?_
          refine lv_istore (lv' := [(7, .int bv), (6, .int 6), (0, .ref m0), (1, .int av), (2, .int bv), (3, .int cv), (4, .int dv), (5, .int ev)]) hx hb dX14_feed_76 hl (by decide) rfl (fun ls hl => ?_)
          refine lv_aload_n hx hb dX14_feed_78 rfl (lv_at hl 2 rfl) ?_
          refine va_get (D := (dC, dI)) (ci := 14) (v := .ref m0_tape) (C := RX14) (T := TX14) (N := 51) hx hb hts (fun w h => wM_c (iX14 w h)) hown hK hP 0 rfl rfl 8 (by decide) (hts _ (wM_c wd_1461)) (fun _ h9 => h9) rfl dX14_feed_79 ?_
          refine lv_aload_n hx hb dX14_feed_82 rfl (lv_at hl 2 rfl) ?_
          refine va_get (D := (dC, dI)) (ci := 14) (v := .int 6) (C := RX14) (T := TX14) (N := 51) hx hb hts (fun w h => wM_c (iX14 w h)) hown hK hP 0 rfl rfl 9 (by decide) (hts _ (wM_c wd_1462)) (fun _ h9 => h9) rfl dX14_feed_83 ?_
          refine lv_iload hx hb dX14_feed_86 (lv_at hl 0 rfl) ?_
          refine lv_bipush (v := 24) hx hb dX14_feed_88 (by decide) ?_
          refine lv_bipush (v := 8) hx hb dX14_feed_90 (by decide) ?_
          refine lv_iload hx hb dX14_feed_92 (lv_at hl 1 rfl) ?_
          refine lv_iconst (v := 4) hx hb dX14_feed_94 (by decide) ?_
          refine lv_irem hx hb dX14_feed_95 (by decide) ?_
          refine lv_topi (fun v_62 ev_62 => ?_)
          obtain rfl : v_62 = 2 := ev_62.trans (by decide)
          refine lv_imul hx hb dX14_feed_96 ?_
          refine lv_topi (fun v_63 ev_63 => ?_)
          obtain rfl : v_63 = 16 := ev_63.trans (by decide)
          refine lv_isub hx hb dX14_feed_97 ?_
          refine lv_topi (fun v_64 ev_64 => ?_)
          obtain rfl : v_64 = 8 := ev_64.trans (by decide)
          refine lv_ishr hx hb dX14_feed_98 ?_
          refine lv_topi (fun v_65 ev_65 => ?_)
          refine lv_i2b hx hb dX14_feed_99 rfl ?_
          refine lv_topi (fun v_66 ev_66 => ?_)
          refine va_bast hx hb hK hP hD hS 1 0 rfl rfl (by unfold vp_in; decide) dX14_feed_100 (fun H locs hP hD hS => ?_)
          obtain ⟨f_67, hP, hD⟩ : ∃ f9, va_P (dC, dI) classes [(m0, .inr (14, fX14 (.int 0) (.ref m0_power) (.int 0) (.int (-1)) (.int 0) .null .null (.ref sp) (.ref m0_tape) (.int 6) (.int 0) (.int 0) (.int 0) (.int 0) (.int 0) (.int 0) (.long 0) (.ref m0_isOpen) (.ref m0_isFallen) (.ref m0_speed) (.ref m0_fire) (.int 10) (.int (-1)) (.int 0) (.ref m0_air) (.ref m0_cameBy) (.ref m0_least) (.ref m0_before) (.ref m0_gas) (.ref m0_into) (.ref m0_rest) (.ref m0_isTold) (.ref m0_isPast) (.ref m0_kept) (.ref m0_smoke) (.ref m0_early) (.int 0) (.ref m0_manAt) (.int 0) (.ref m0_changeKind) (.ref m0_changeOf) (.ref m0_changeTo) (.ref m0_row) (.ref m0_openWas) (.ref m0_fallenWas) (.ref m0_speedWas) (.int 0) (.ref m0_readingOf) (.ref m0_low) (.ref m0_high) (.ref m0_back))), (m0_tape, .inl (km, 600, .inl f9))] H ∧ va_D A [(m0, .inr (14, fX14 (.int 0) (.ref m0_power) (.int 0) (.int (-1)) (.int 0) .null .null (.ref sp) (.ref m0_tape) (.int 6) (.int 0) (.int 0) (.int 0) (.int 0) (.int 0) (.int 0) (.long 0) (.ref m0_isOpen) (.ref m0_isFallen) (.ref m0_speed) (.ref m0_fire) (.int 10) (.int (-1)) (.int 0) (.ref m0_air) (.ref m0_cameBy) (.ref m0_least) (.ref m0_before) (.ref m0_gas) (.ref m0_into) (.ref m0_rest) (.ref m0_isTold) (.ref m0_isPast) (.ref m0_kept) (.ref m0_smoke) (.ref m0_early) (.int 0) (.ref m0_manAt) (.int 0) (.ref m0_changeKind) (.ref m0_changeOf) (.ref m0_changeTo) (.ref m0_row) (.ref m0_openWas) (.ref m0_fallenWas) (.ref m0_speedWas) (.int 0) (.ref m0_readingOf) (.ref m0_low) (.ref m0_high) (.ref m0_back))), (m0_tape, .inl (km, 600, .inl f9))] := ⟨_, hP, hD⟩
          refine lv_aload_n hx hb dX14_feed_101 rfl (lv_at hl 2 rfl) ?_
          refine lv_dup hx hb dX14_feed_102 rfl ?_
          refine va_get (D := (dC, dI)) (ci := 14) (v := .int 6) (C := RX14) (T := TX14) (N := 51) hx hb hts (fun w h => wM_c (iX14 w h)) hown hK hP 0 rfl rfl 9 (by decide) (hts _ (wM_c wd_1462)) (fun _ h9 => h9) rfl dX14_feed_103 ?_
          refine lv_iconst (v := 1) hx hb dX14_feed_106 (by decide) ?_
          refine lv_iadd hx hb dX14_feed_107 ?_
          refine lv_topi (fun v_68 ev_68 => ?_)
          obtain rfl : v_68 = 7 := ev_68.trans (by decide)
          refine va_put (D := (dC, dI)) (ci := 14) (v := .int 7) (ty := .int) (C := RX14) (T := TX14) (N := 51) hx hb hts (fun w h => wM_c (iX14 w h)) tyX14 tyX14_ok nmX14 hown hK hP hD hS 0 rfl rfl 9 (by decide) (hts _ (wM_c wd_1462)) (fun _ h9 => h9) rfl (by decide +kernel) rfl rfl (Nat.le_of_ble_eq_true rfl) dX14_feed_108 (fun H locs hP hD hS => ?_)
          have hP : va_P (dC, dI) classes [(m0, .inr (14, fX14 (.int 0) (.ref m0_power) (.int 0) (.int (-1)) (.int 0) .null .null (.ref sp) (.ref m0_tape) (.int 7) (.int 0) (.int 0) (.int 0) (.int 0) (.int 0) (.int 0) (.long 0) (.ref m0_isOpen) (.ref m0_isFallen) (.ref m0_speed) (.ref m0_fire) (.int 10) (.int (-1)) (.int 0) (.ref m0_air) (.ref m0_cameBy) (.ref m0_least) (.ref m0_before) (.ref m0_gas) (.ref m0_into) (.ref m0_rest) (.ref m0_isTold) (.ref m0_isPast) (.ref m0_kept) (.ref m0_smoke) (.ref m0_early) (.int 0) (.ref m0_manAt) (.int 0) (.ref m0_changeKind) (.ref m0_changeOf) (.ref m0_changeTo) (.ref m0_row) (.ref m0_openWas) (.ref m0_fallenWas) (.ref m0_speedWas) (.int 0) (.ref m0_readingOf) (.ref m0_low) (.ref m0_high) (.ref m0_back))), (m0_tape, .inl (km, 600, .inl f_67))] H := hP
          have hD : va_D A [(m0, .inr (14, fX14 (.int 0) (.ref m0_power) (.int 0) (.int (-1)) (.int 0) .null .null (.ref sp) (.ref m0_tape) (.int 7) (.int 0) (.int 0) (.int 0) (.int 0) (.int 0) (.int 0) (.long 0) (.ref m0_isOpen) (.ref m0_isFallen) (.ref m0_speed) (.ref m0_fire) (.int 10) (.int (-1)) (.int 0) (.ref m0_air) (.ref m0_cameBy) (.ref m0_least) (.ref m0_before) (.ref m0_gas) (.ref m0_into) (.ref m0_rest) (.ref m0_isTold) (.ref m0_isPast) (.ref m0_kept) (.ref m0_smoke) (.ref m0_early) (.int 0) (.ref m0_manAt) (.int 0) (.ref m0_changeKind) (.ref m0_changeOf) (.ref m0_changeTo) (.ref m0_row) (.ref m0_openWas) (.ref m0_fallenWas) (.ref m0_speedWas) (.int 0) (.ref m0_readingOf) (.ref m0_low) (.ref m0_high) (.ref m0_back))), (m0_tape, .inl (km, 600, .inl f_67))] := hD
          refine lv_iinc (v := 7) (lv' := [(6, .int 7), (7, .int bv), (0, .ref m0), (1, .int av), (2, .int bv), (3, .int cv), (4, .int dv), (5, .int ev)]) hx hb dX14_feed_111 hl (k := 1) rfl (by decide) (by decide) rfl (fun ls hl => ?_)
          refine lv_goto (tgt := 23) hx hb dX14_feed_114 (by decide) ?_
          refine lv_iload hx hb dX14_feed_23 (lv_at hl 0 rfl) ?_
          refine lv_bipush (v := 20) hx hb dX14_feed_25 (by decide) ?_
          refine lv_icmp_ge (tgt := 117) hx hb dX14_feed_27 (by decide) (fun c_69 => ?_) (fun c_69 => ?_)
          · exact absurd c_69 (by decide)
          refine lv_iload hx hb dX14_feed_30 (lv_at hl 0 rfl) ?_
          refine lv_iconst (v := 4) hx hb dX14_feed_32 (by decide) ?_
          refine lv_icmp_ge (tgt := 40) hx hb dX14_feed_33 (by decide) (fun c_70 => ?_) (fun c_70 => ?_)
          · skip
            refine lv_iload hx hb dX14_feed_40 (lv_at hl 0 rfl) ?_
            refine lv_bipush (v := 8) hx hb dX14_feed_42 (by decide) ?_
            refine lv_icmp_ge (tgt := 51) hx hb dX14_feed_44 (by decide) (fun c_71 => ?_) (fun c_71 => ?_)
            · exact absurd c_71 (by decide)
            refine lv_iload_n hx hb dX14_feed_47 rfl (lv_at hl 4 rfl) ?_
            refine lv_goto (tgt := 76) hx hb dX14_feed_48 (by decide) ?_
            refine lv_istore (lv' := [(7, .int bv), (6, .int 7), (0, .ref m0), (1, .int av), (2, .int bv), (3, .int cv), (4, .int dv), (5, .int ev)]) hx hb dX14_feed_76 hl (by decide) rfl (fun ls hl => ?_)
            refine lv_aload_n hx hb dX14_feed_78 rfl (lv_at hl 2 rfl) ?_
            refine va_get (D := (dC, dI)) (ci := 14) (v := .ref m0_tape) (C := RX14) (T := TX14) (N := 51) hx hb hts (fun w h => wM_c (iX14 w h)) hown hK hP 0 rfl rfl 8 (by decide) (hts _ (wM_c wd_1461)) (fun _ h9 => h9) rfl dX14_feed_79 ?_
            refine lv_aload_n hx hb dX14_feed_82 rfl (lv_at hl 2 rfl) ?_
            refine va_get (D := (dC, dI)) (ci := 14) (v := .int 7) (C := RX14) (T := TX14) (N := 51) hx hb hts (fun w h => wM_c (iX14 w h)) hown hK hP 0 rfl rfl 9 (by decide) (hts _ (wM_c wd_1462)) (fun _ h9 => h9) rfl dX14_feed_83 ?_
            refine lv_iload hx hb dX14_feed_86 (lv_at hl 0 rfl) ?_
            refine lv_bipush (v := 24) hx hb dX14_feed_88 (by decide) ?_
            refine lv_bipush (v := 8) hx hb dX14_feed_90 (by decide) ?_
            refine lv_iload hx hb dX14_feed_92 (lv_at hl 1 rfl) ?_
            refine lv_iconst (v := 4) hx hb dX14_feed_94 (by decide) ?_
            refine lv_irem hx hb dX14_feed_95 (by decide) ?_
            refine lv_topi (fun v_72 ev_72 => ?_)
            obtain rfl : v_72 = 3 := ev_72.trans (by decide)
            refine lv_imul hx hb dX14_feed_96 ?_
            refine lv_topi (fun v_73 ev_73 => ?_)
            obtain rfl : v_73 = 24 := ev_73.trans (by decide)
            refine lv_isub hx hb dX14_feed_97 ?_
            refine lv_topi (fun v_74 ev_74 => ?_)
            obtain rfl : v_74 = 0 := ev_74.trans (by decide)
            refine lv_ishr hx hb dX14_feed_98 ?_
            refine lv_topi (fun v_75 ev_75 => ?_)
            refine lv_i2b hx hb dX14_feed_99 rfl ?_
            refine lv_topi (fun v_76 ev_76 => ?_)
            refine va_bast hx hb hK hP hD hS 1 0 rfl rfl (by unfold vp_in; decide) dX14_feed_100 (fun H locs hP hD hS => ?_)
            obtain ⟨f_77, hP, hD⟩ : ∃ f9, va_P (dC, dI) classes [(m0, .inr (14, fX14 (.int 0) (.ref m0_power) (.int 0) (.int (-1)) (.int 0) .null .null (.ref sp) (.ref m0_tape) (.int 7) (.int 0) (.int 0) (.int 0) (.int 0) (.int 0) (.int 0) (.long 0) (.ref m0_isOpen) (.ref m0_isFallen) (.ref m0_speed) (.ref m0_fire) (.int 10) (.int (-1)) (.int 0) (.ref m0_air) (.ref m0_cameBy) (.ref m0_least) (.ref m0_before) (.ref m0_gas) (.ref m0_into) (.ref m0_rest) (.ref m0_isTold) (.ref m0_isPast) (.ref m0_kept) (.ref m0_smoke) (.ref m0_early) (.int 0) (.ref m0_manAt) (.int 0) (.ref m0_changeKind) (.ref m0_changeOf) (.ref m0_changeTo) (.ref m0_row) (.ref m0_openWas) (.ref m0_fallenWas) (.ref m0_speedWas) (.int 0) (.ref m0_readingOf) (.ref m0_low) (.ref m0_high) (.ref m0_back))), (m0_tape, .inl (km, 600, .inl f9))] H ∧ va_D A [(m0, .inr (14, fX14 (.int 0) (.ref m0_power) (.int 0) (.int (-1)) (.int 0) .null .null (.ref sp) (.ref m0_tape) (.int 7) (.int 0) (.int 0) (.int 0) (.int 0) (.int 0) (.int 0) (.long 0) (.ref m0_isOpen) (.ref m0_isFallen) (.ref m0_speed) (.ref m0_fire) (.int 10) (.int (-1)) (.int 0) (.ref m0_air) (.ref m0_cameBy) (.ref m0_least) (.ref m0_before) (.ref m0_gas) (.ref m0_into) (.ref m0_rest) (.ref m0_isTold) (.ref m0_isPast) (.ref m0_kept) (.ref m0_smoke) (.ref m0_early) (.int 0) (.ref m0_manAt) (.int 0) (.ref m0_changeKind) (.ref m0_changeOf) (.ref m0_changeTo) (.ref m0_row) (.ref m0_openWas) (.ref m0_fallenWas) (.ref m0_speedWas) (.int 0) (.ref m0_readingOf) (.ref m0_low) (.ref m0_high) (.ref m0_back))), (m0_tape, .inl (km, 600, .inl f9))] := ⟨_, hP, hD⟩
            refine lv_aload_n hx hb dX14_feed_101 rfl (lv_at hl 2 rfl) ?_
            refine lv_dup hx hb dX14_feed_102 rfl ?_
            refine va_get (D := (dC, dI)) (ci := 14) (v := .int 7) (C := RX14) (T := TX14) (N := 51) hx hb hts (fun w h => wM_c (iX14 w h)) hown hK hP 0 rfl rfl 9 (by decide) (hts _ (wM_c wd_1462)) (fun _ h9 => h9) rfl dX14_feed_103 ?_
            refine lv_iconst (v := 1) hx hb dX14_feed_106 (by decide) ?_
            refine lv_iadd hx hb dX14_feed_107 ?_
            refine lv_topi (fun v_78 ev_78 => ?_)
            obtain rfl : v_78 = 8 := ev_78.trans (by decide)
            refine va_put (D := (dC, dI)) (ci := 14) (v := .int 8) (ty := .int) (C := RX14) (T := TX14) (N := 51) hx hb hts (fun w h => wM_c (iX14 w h)) tyX14 tyX14_ok nmX14 hown hK hP hD hS 0 rfl rfl 9 (by decide) (hts _ (wM_c wd_1462)) (fun _ h9 => h9) rfl (by decide +kernel) rfl rfl (Nat.le_of_ble_eq_true rfl) dX14_feed_108 (fun H locs hP hD hS => ?_)
            have hP : va_P (dC, dI) classes [(m0, .inr (14, fX14 (.int 0) (.ref m0_power) (.int 0) (.int (-1)) (.int 0) .null .null (.ref sp) (.ref m0_tape) (.int 8) (.int 0) (.int 0) (.int 0) (.int 0) (.int 0) (.int 0) (.long 0) (.ref m0_isOpen) (.ref m0_isFallen) (.ref m0_speed) (.ref m0_fire) (.int 10) (.int (-1)) (.int 0) (.ref m0_air) (.ref m0_cameBy) (.ref m0_least) (.ref m0_before) (.ref m0_gas) (.ref m0_into) (.ref m0_rest) (.ref m0_isTold) (.ref m0_isPast) (.ref m0_kept) (.ref m0_smoke) (.ref m0_early) (.int 0) (.ref m0_manAt) (.int 0) (.ref m0_changeKind) (.ref m0_changeOf) (.ref m0_changeTo) (.ref m0_row) (.ref m0_openWas) (.ref m0_fallenWas) (.ref m0_speedWas) (.int 0) (.ref m0_readingOf) (.ref m0_low) (.ref m0_high) (.ref m0_back))), (m0_tape, .inl (km, 600, .inl f_77))] H := hP
            have hD : va_D A [(m0, .inr (14, fX14 (.int 0) (.ref m0_power) (.int 0) (.int (-1)) (.int 0) .null .null (.ref sp) (.ref m0_tape) (.int 8) (.int 0) (.int 0) (.int 0) (.int 0) (.int 0) (.int 0) (.long 0) (.ref m0_isOpen) (.ref m0_isFallen) (.ref m0_speed) (.ref m0_fire) (.int 10) (.int (-1)) (.int 0) (.ref m0_air) (.ref m0_cameBy) (.ref m0_least) (.ref m0_before) (.ref m0_gas) (.ref m0_into) (.ref m0_rest) (.ref m0_isTold) (.ref m0_isPast) (.ref m0_kept) (.ref m0_smoke) (.ref m0_early) (.int 0) (.ref m0_manAt) (.int 0) (.ref m0_changeKind) (.ref m0_changeOf) (.ref m0_changeTo) (.ref m0_row) (.ref m0_openWas) (.ref m0_fallenWas) (.ref m0_speedWas) (.int 0) (.ref m0_readingOf) (.ref m0_low) (.ref m0_high) (.ref m0_back))), (m0_tape, .inl (km, 600, .inl f_77))] := hD
            refine lv_iinc (v := 8) (lv' := [(6, .int 8), (7, .int bv), (0, .ref m0), (1, .int av), (2, .int bv), (3, .int cv), (4, .int dv), (5, .int ev)]) hx hb dX14_feed_111 hl (k := 1) rfl (by decide) (by decide) rfl (fun ls hl => ?_)
            refine lv_goto (tgt := 23) hx hb dX14_feed_114 (by decide) ?_
            refine lv_iload hx hb dX14_feed_23 (lv_at hl 0 rfl) ?_
            refine lv_bipush (v := 20) hx hb dX14_feed_25 (by decide) ?_
            refine lv_icmp_ge (tgt := 117) hx hb dX14_feed_27 (by decide) (fun c_79 => ?_) (fun c_79 => ?_)
            · exact absurd c_79 (by decide)
            refine lv_iload hx hb dX14_feed_30 (lv_at hl 0 rfl) ?_
            refine lv_iconst (v := 4) hx hb dX14_feed_32 (by decide) ?_
            refine lv_icmp_ge (tgt := 40) hx hb dX14_feed_33 (by decide) (fun c_80 => ?_) (fun c_80 => ?_)
            · skip
              refine lv_iload hx hb dX14_feed_40 (lv_at hl 0 rfl) ?_
              refine lv_bipush (v := 8) hx hb dX14_feed_42 (by decide) ?_
              refine lv_icmp_ge (tgt := 51) hx hb dX14_feed_44 (by decide) (fun c_81 => ?_) (fun c_81 => ?_)
              · skip
                refine lv_iload hx hb dX14_feed_51 (lv_at hl 0 rfl) ?_
                refine lv_bipush (v := 12) hx hb dX14_feed_53 (by decide) ?_
                refine lv_icmp_ge (tgt := 62) hx hb dX14_feed_55 (by decide) (fun c_82 => ?_) (fun c_82 => ?_)
                · exact absurd c_82 (by decide)
                refine lv_iload_n hx hb dX14_feed_58 rfl (lv_at hl 5 rfl) ?_
                refine lv_goto (tgt := 76) hx hb dX14_feed_59 (by decide) ?_
                refine lv_istore (lv' := [(7, .int cv), (6, .int 8), (0, .ref m0), (1, .int av), (2, .int bv), (3, .int cv), (4, .int dv), (5, .int ev)]) hx hb dX14_feed_76 hl (by decide) rfl (fun ls hl => ?_)
                refine lv_aload_n hx hb dX14_feed_78 rfl (lv_at hl 2 rfl) ?_
                refine va_get (D := (dC, dI)) (ci := 14) (v := .ref m0_tape) (C := RX14) (T := TX14) (N := 51) hx hb hts (fun w h => wM_c (iX14 w h)) hown hK hP 0 rfl rfl 8 (by decide) (hts _ (wM_c wd_1461)) (fun _ h9 => h9) rfl dX14_feed_79 ?_
                refine lv_aload_n hx hb dX14_feed_82 rfl (lv_at hl 2 rfl) ?_
                refine va_get (D := (dC, dI)) (ci := 14) (v := .int 8) (C := RX14) (T := TX14) (N := 51) hx hb hts (fun w h => wM_c (iX14 w h)) hown hK hP 0 rfl rfl 9 (by decide) (hts _ (wM_c wd_1462)) (fun _ h9 => h9) rfl dX14_feed_83 ?_
                refine lv_iload hx hb dX14_feed_86 (lv_at hl 0 rfl) ?_
                refine lv_bipush (v := 24) hx hb dX14_feed_88 (by decide) ?_
                refine lv_bipush (v := 8) hx hb dX14_feed_90 (by decide) ?_
                refine lv_iload hx hb dX14_feed_92 (lv_at hl 1 rfl) ?_
                refine lv_iconst (v := 4) hx hb dX14_feed_94 (by decide) ?_
                refine lv_irem hx hb dX14_feed_95 (by decide) ?_
                refine lv_topi (fun v_83 ev_83 => ?_)
                obtain rfl : v_83 = 0 := ev_83.trans (by decide)
                refine lv_imul hx hb dX14_feed_96 ?_
                refine lv_topi (fun v_84 ev_84 => ?_)
                obtain rfl : v_84 = 0 := ev_84.trans (by decide)
                refine lv_isub hx hb dX14_feed_97 ?_
                refine lv_topi (fun v_85 ev_85 => ?_)
                obtain rfl : v_85 = 24 := ev_85.trans (by decide)
                refine lv_ishr hx hb dX14_feed_98 ?_
                refine lv_topi (fun v_86 ev_86 => ?_)
                refine lv_i2b hx hb dX14_feed_99 rfl ?_
                refine lv_topi (fun v_87 ev_87 => ?_)
                refine va_bast hx hb hK hP hD hS 1 0 rfl rfl (by unfold vp_in; decide) dX14_feed_100 (fun H locs hP hD hS => ?_)
                obtain ⟨f_88, hP, hD⟩ : ∃ f9, va_P (dC, dI) classes [(m0, .inr (14, fX14 (.int 0) (.ref m0_power) (.int 0) (.int (-1)) (.int 0) .null .null (.ref sp) (.ref m0_tape) (.int 8) (.int 0) (.int 0) (.int 0) (.int 0) (.int 0) (.int 0) (.long 0) (.ref m0_isOpen) (.ref m0_isFallen) (.ref m0_speed) (.ref m0_fire) (.int 10) (.int (-1)) (.int 0) (.ref m0_air) (.ref m0_cameBy) (.ref m0_least) (.ref m0_before) (.ref m0_gas) (.ref m0_into) (.ref m0_rest) (.ref m0_isTold) (.ref m0_isPast) (.ref m0_kept) (.ref m0_smoke) (.ref m0_early) (.int 0) (.ref m0_manAt) (.int 0) (.ref m0_changeKind) (.ref m0_changeOf) (.ref m0_changeTo) (.ref m0_row) (.ref m0_openWas) (.ref m0_fallenWas) (.ref m0_speedWas) (.int 0) (.ref m0_readingOf) (.ref m0_low) (.ref m0_high) (.ref m0_back))), (m0_tape, .inl (km, 600, .inl f9))] H ∧ va_D A [(m0, .inr (14, fX14 (.int 0) (.ref m0_power) (.int 0) (.int (-1)) (.int 0) .null .null (.ref sp) (.ref m0_tape) (.int 8) (.int 0) (.int 0) (.int 0) (.int 0) (.int 0) (.int 0) (.long 0) (.ref m0_isOpen) (.ref m0_isFallen) (.ref m0_speed) (.ref m0_fire) (.int 10) (.int (-1)) (.int 0) (.ref m0_air) (.ref m0_cameBy) (.ref m0_least) (.ref m0_before) (.ref m0_gas) (.ref m0_into) (.ref m0_rest) (.ref m0_isTold) (.ref m0_isPast) (.ref m0_kept) (.ref m0_smoke) (.ref m0_early) (.int 0) (.ref m0_manAt) (.int 0) (.ref m0_changeKind) (.ref m0_changeOf) (.ref m0_changeTo) (.ref m0_row) (.ref m0_openWas) (.ref m0_fallenWas) (.ref m0_speedWas) (.int 0) (.ref m0_readingOf) (.ref m0_low) (.ref m0_high) (.ref m0_back))), (m0_tape, .inl (km, 600, .inl f9))] := ⟨_, hP, hD⟩
                refine lv_aload_n hx hb dX14_feed_101 rfl (lv_at hl 2 rfl) ?_
                refine lv_dup hx hb dX14_feed_102 rfl ?_
                refine va_get (D := (dC, dI)) (ci := 14) (v := .int 8) (C := RX14) (T := TX14) (N := 51) hx hb hts (fun w h => wM_c (iX14 w h)) hown hK hP 0 rfl rfl 9 (by decide) (hts _ (wM_c wd_1462)) (fun _ h9 => h9) rfl dX14_feed_103 ?_
                refine lv_iconst (v := 1) hx hb dX14_feed_106 (by decide) ?_
                refine lv_iadd hx hb dX14_feed_107 ?_
                refine lv_topi (fun v_89 ev_89 => ?_)
                obtain rfl : v_89 = 9 := ev_89.trans (by decide)
                refine va_put (D := (dC, dI)) (ci := 14) (v := .int 9) (ty := .int) (C := RX14) (T := TX14) (N := 51) hx hb hts (fun w h => wM_c (iX14 w h)) tyX14 tyX14_ok nmX14 hown hK hP hD hS 0 rfl rfl 9 (by decide) (hts _ (wM_c wd_1462)) (fun _ h9 => h9) rfl (by decide +kernel) rfl rfl (Nat.le_of_ble_eq_true rfl) dX14_feed_108 (fun H locs hP hD hS => ?_)
                have hP : va_P (dC, dI) classes [(m0, .inr (14, fX14 (.int 0) (.ref m0_power) (.int 0) (.int (-1)) (.int 0) .null .null (.ref sp) (.ref m0_tape) (.int 9) (.int 0) (.int 0) (.int 0) (.int 0) (.int 0) (.int 0) (.long 0) (.ref m0_isOpen) (.ref m0_isFallen) (.ref m0_speed) (.ref m0_fire) (.int 10) (.int (-1)) (.int 0) (.ref m0_air) (.ref m0_cameBy) (.ref m0_least) (.ref m0_before) (.ref m0_gas) (.ref m0_into) (.ref m0_rest) (.ref m0_isTold) (.ref m0_isPast) (.ref m0_kept) (.ref m0_smoke) (.ref m0_early) (.int 0) (.ref m0_manAt) (.int 0) (.ref m0_changeKind) (.ref m0_changeOf) (.ref m0_changeTo) (.ref m0_row) (.ref m0_openWas) (.ref m0_fallenWas) (.ref m0_speedWas) (.int 0) (.ref m0_readingOf) (.ref m0_low) (.ref m0_high) (.ref m0_back))), (m0_tape, .inl (km, 600, .inl f_88))] H := hP
                have hD : va_D A [(m0, .inr (14, fX14 (.int 0) (.ref m0_power) (.int 0) (.int (-1)) (.int 0) .null .null (.ref sp) (.ref m0_tape) (.int 9) (.int 0) (.int 0) (.int 0) (.int 0) (.int 0) (.int 0) (.long 0) (.ref m0_isOpen) (.ref m0_isFallen) (.ref m0_speed) (.ref m0_fire) (.int 10) (.int (-1)) (.int 0) (.ref m0_air) (.ref m0_cameBy) (.ref m0_least) (.ref m0_before) (.ref m0_gas) (.ref m0_into) (.ref m0_rest) (.ref m0_isTold) (.ref m0_isPast) (.ref m0_kept) (.ref m0_smoke) (.ref m0_early) (.int 0) (.ref m0_manAt) (.int 0) (.ref m0_changeKind) (.ref m0_changeOf) (.ref m0_changeTo) (.ref m0_row) (.ref m0_openWas) (.ref m0_fallenWas) (.ref m0_speedWas) (.int 0) (.ref m0_readingOf) (.ref m0_low) (.ref m0_high) (.ref m0_back))), (m0_tape, .inl (km, 600, .inl f_88))] := hD
                refine lv_iinc (v := 9) (lv' := [(6, .int 9), (7, .int cv), (0, .ref m0), (1, .int av), (2, .int bv), (3, .int cv), (4, .int dv), (5, .int ev)]) hx hb dX14_feed_111 hl (k := 1) rfl (by decide) (by decide) rfl (fun ls hl => ?_)
                refine lv_goto (tgt := 23) hx hb dX14_feed_114 (by decide) ?_
                refine lv_iload hx hb dX14_feed_23 (lv_at hl 0 rfl) ?_
                refine lv_bipush (v := 20) hx hb dX14_feed_25 (by decide) ?_
                refine lv_icmp_ge (tgt := 117) hx hb dX14_feed_27 (by decide) (fun c_90 => ?_) (fun c_90 => ?_)
                · exact absurd c_90 (by decide)
                refine lv_iload hx hb dX14_feed_30 (lv_at hl 0 rfl) ?_
                refine lv_iconst (v := 4) hx hb dX14_feed_32 (by decide) ?_
                refine lv_icmp_ge (tgt := 40) hx hb dX14_feed_33 (by decide) (fun c_91 => ?_) (fun c_91 => ?_)
                · skip
                  refine lv_iload hx hb dX14_feed_40 (lv_at hl 0 rfl) ?_
                  refine lv_bipush (v := 8) hx hb dX14_feed_42 (by decide) ?_
                  refine lv_icmp_ge (tgt := 51) hx hb dX14_feed_44 (by decide) (fun c_92 => ?_) (fun c_92 => ?_)
                  · skip
                    refine lv_iload hx hb dX14_feed_51 (lv_at hl 0 rfl) ?_
                    refine lv_bipush (v := 12) hx hb dX14_feed_53 (by decide) ?_
                    refine lv_icmp_ge (tgt := 62) hx hb dX14_feed_55 (by decide) (fun c_93 => ?_) (fun c_93 => ?_)
                    · exact absurd c_93 (by decide)
                    refine lv_iload_n hx hb dX14_feed_58 rfl (lv_at hl 5 rfl) ?_
                    refine lv_goto (tgt := 76) hx hb dX14_feed_59 (by decide) ?_
                    refine lv_istore (lv' := [(7, .int cv), (6, .int 9), (0, .ref m0), (1, .int av), (2, .int bv), (3, .int cv), (4, .int dv), (5, .int ev)]) hx hb dX14_feed_76 hl (by decide) rfl (fun ls hl => ?_)
                    refine lv_aload_n hx hb dX14_feed_78 rfl (lv_at hl 2 rfl) ?_
                    refine va_get (D := (dC, dI)) (ci := 14) (v := .ref m0_tape) (C := RX14) (T := TX14) (N := 51) hx hb hts (fun w h => wM_c (iX14 w h)) hown hK hP 0 rfl rfl 8 (by decide) (hts _ (wM_c wd_1461)) (fun _ h9 => h9) rfl dX14_feed_79 ?_
                    refine lv_aload_n hx hb dX14_feed_82 rfl (lv_at hl 2 rfl) ?_
                    refine va_get (D := (dC, dI)) (ci := 14) (v := .int 9) (C := RX14) (T := TX14) (N := 51) hx hb hts (fun w h => wM_c (iX14 w h)) hown hK hP 0 rfl rfl 9 (by decide) (hts _ (wM_c wd_1462)) (fun _ h9 => h9) rfl dX14_feed_83 ?_
                    refine lv_iload hx hb dX14_feed_86 (lv_at hl 0 rfl) ?_
                    refine lv_bipush (v := 24) hx hb dX14_feed_88 (by decide) ?_
                    refine lv_bipush (v := 8) hx hb dX14_feed_90 (by decide) ?_
                    refine lv_iload hx hb dX14_feed_92 (lv_at hl 1 rfl) ?_
                    refine lv_iconst (v := 4) hx hb dX14_feed_94 (by decide) ?_
                    refine lv_irem hx hb dX14_feed_95 (by decide) ?_
                    refine lv_topi (fun v_94 ev_94 => ?_)
                    obtain rfl : v_94 = 1 := ev_94.trans (by decide)
                    refine lv_imul hx hb dX14_feed_96 ?_
                    refine lv_topi (fun v_95 ev_95 => ?_)
                    obtain rfl : v_95 = 8 := ev_95.trans (by decide)
                    refine lv_isub hx hb dX14_feed_97 ?_
                    refine lv_topi (fun v_96 ev_96 => ?_)
                    obtain rfl : v_96 = 16 := ev_96.trans (by decide)
                    refine lv_ishr hx hb dX14_feed_98 ?_
                    refine lv_topi (fun v_97 ev_97 => ?_)
                    refine lv_i2b hx hb dX14_feed_99 rfl ?_
                    refine lv_topi (fun v_98 ev_98 => ?_)
                    refine va_bast hx hb hK hP hD hS 1 0 rfl rfl (by unfold vp_in; decide) dX14_feed_100 (fun H locs hP hD hS => ?_)
                    obtain ⟨f_99, hP, hD⟩ : ∃ f9, va_P (dC, dI) classes [(m0, .inr (14, fX14 (.int 0) (.ref m0_power) (.int 0) (.int (-1)) (.int 0) .null .null (.ref sp) (.ref m0_tape) (.int 9) (.int 0) (.int 0) (.int 0) (.int 0) (.int 0) (.int 0) (.long 0) (.ref m0_isOpen) (.ref m0_isFallen) (.ref m0_speed) (.ref m0_fire) (.int 10) (.int (-1)) (.int 0) (.ref m0_air) (.ref m0_cameBy) (.ref m0_least) (.ref m0_before) (.ref m0_gas) (.ref m0_into) (.ref m0_rest) (.ref m0_isTold) (.ref m0_isPast) (.ref m0_kept) (.ref m0_smoke) (.ref m0_early) (.int 0) (.ref m0_manAt) (.int 0) (.ref m0_changeKind) (.ref m0_changeOf) (.ref m0_changeTo) (.ref m0_row) (.ref m0_openWas) (.ref m0_fallenWas) (.ref m0_speedWas) (.int 0) (.ref m0_readingOf) (.ref m0_low) (.ref m0_high) (.ref m0_back))), (m0_tape, .inl (km, 600, .inl f9))] H ∧ va_D A [(m0, .inr (14, fX14 (.int 0) (.ref m0_power) (.int 0) (.int (-1)) (.int 0) .null .null (.ref sp) (.ref m0_tape) (.int 9) (.int 0) (.int 0) (.int 0) (.int 0) (.int 0) (.int 0) (.long 0) (.ref m0_isOpen) (.ref m0_isFallen) (.ref m0_speed) (.ref m0_fire) (.int 10) (.int (-1)) (.int 0) (.ref m0_air) (.ref m0_cameBy) (.ref m0_least) (.ref m0_before) (.ref m0_gas) (.ref m0_into) (.ref m0_rest) (.ref m0_isTold) (.ref m0_isPast) (.ref m0_kept) (.ref m0_smoke) (.ref m0_early) (.int 0) (.ref m0_manAt) (.int 0) (.ref m0_changeKind) (.ref m0_changeOf) (.ref m0_changeTo) (.ref m0_row) (.ref m0_openWas) (.ref m0_fallenWas) (.ref m0_speedWas) (.int 0) (.ref m0_readingOf) (.ref m0_low) (.ref m0_high) (.ref m0_back))), (m0_tape, .inl (km, 600, .inl f9))] := ⟨_, hP, hD⟩
                    refine lv_aload_n hx hb dX14_feed_101 rfl (lv_at hl 2 rfl) ?_
                    refine lv_dup hx hb dX14_feed_102 rfl ?_
                    refine va_get (D := (dC, dI)) (ci := 14) (v := .int 9) (C := RX14) (T := TX14) (N := 51) hx hb hts (fun w h => wM_c (iX14 w h)) hown hK hP 0 rfl rfl 9 (by decide) (hts _ (wM_c wd_1462)) (fun _ h9 => h9) rfl dX14_feed_103 ?_
                    refine lv_iconst (v := 1) hx hb dX14_feed_106 (by decide) ?_
                    refine lv_iadd hx hb dX14_feed_107 ?_
                    refine lv_topi (fun v_100 ev_100 => ?_)
                    obtain rfl : v_100 = 10 := ev_100.trans (by decide)
                    refine va_put (D := (dC, dI)) (ci := 14) (v := .int 10) (ty := .int) (C := RX14) (T := TX14) (N := 51) hx hb hts (fun w h => wM_c (iX14 w h)) tyX14 tyX14_ok nmX14 hown hK hP hD hS 0 rfl rfl 9 (by decide) (hts _ (wM_c wd_1462)) (fun _ h9 => h9) rfl (by decide +kernel) rfl rfl (Nat.le_of_ble_eq_true rfl) dX14_feed_108 (fun H locs hP hD hS => ?_)
                    have hP : va_P (dC, dI) classes [(m0, .inr (14, fX14 (.int 0) (.ref m0_power) (.int 0) (.int (-1)) (.int 0) .null .null (.ref sp) (.ref m0_tape) (.int 10) (.int 0) (.int 0) (.int 0) (.int 0) (.int 0) (.int 0) (.long 0) (.ref m0_isOpen) (.ref m0_isFallen) (.ref m0_speed) (.ref m0_fire) (.int 10) (.int (-1)) (.int 0) (.ref m0_air) (.ref m0_cameBy) (.ref m0_least) (.ref m0_before) (.ref m0_gas) (.ref m0_into) (.ref m0_rest) (.ref m0_isTold) (.ref m0_isPast) (.ref m0_kept) (.ref m0_smoke) (.ref m0_early) (.int 0) (.ref m0_manAt) (.int 0) (.ref m0_changeKind) (.ref m0_changeOf) (.ref m0_changeTo) (.ref m0_row) (.ref m0_openWas) (.ref m0_fallenWas) (.ref m0_speedWas) (.int 0) (.ref m0_readingOf) (.ref m0_low) (.ref m0_high) (.ref m0_back))), (m0_tape, .inl (km, 600, .inl f_99))] H := hP
                    have hD : va_D A [(m0, .inr (14, fX14 (.int 0) (.ref m0_power) (.int 0) (.int (-1)) (.int 0) .null .null (.ref sp) (.ref m0_tape) (.int 10) (.int 0) (.int 0) (.int 0) (.int 0) (.int 0) (.int 0) (.long 0) (.ref m0_isOpen) (.ref m0_isFallen) (.ref m0_speed) (.ref m0_fire) (.int 10) (.int (-1)) (.int 0) (.ref m0_air) (.ref m0_cameBy) (.ref m0_least) (.ref m0_before) (.ref m0_gas) (.ref m0_into) (.ref m0_rest) (.ref m0_isTold) (.ref m0_isPast) (.ref m0_kept) (.ref m0_smoke) (.ref m0_early) (.int 0) (.ref m0_manAt) (.int 0) (.ref m0_changeKind) (.ref m0_changeOf) (.ref m0_changeTo) (.ref m0_row) (.ref m0_openWas) (.ref m0_fallenWas) (.ref m0_speedWas) (.int 0) (.ref m0_readingOf) (.ref m0_low) (.ref m0_high) (.ref m0_back))), (m0_tape, .inl (km, 600, .inl f_99))] := hD
                    refine lv_iinc (v := 10) (lv' := [(6, .int 10), (7, .int cv), (0, .ref m0), (1, .int av), (2, .int bv), (3, .int cv), (4, .int dv), (5, .int ev)]) hx hb dX14_feed_111 hl (k := 1) rfl (by decide) (by decide) rfl (fun ls hl => ?_)
                    refine lv_goto (tgt := 23) hx hb dX14_feed_114 (by decide) ?_
                    refine lv_iload hx hb dX14_feed_23 (lv_at hl 0 rfl) ?_
                    refine lv_bipush (v := 20) hx hb dX14_feed_25 (by decide) ?_
                    refine lv_icmp_ge (tgt := 117) hx hb dX14_feed_27 (by decide) (fun c_101 => ?_) (fun c_101 => ?_)
                    · exact absurd c_101 (by decide)
                    refine lv_iload hx hb dX14_feed_30 (lv_at hl 0 rfl) ?_
                    refine lv_iconst (v := 4) hx hb dX14_feed_32 (by decide) ?_
                    refine lv_icmp_ge (tgt := 40) hx hb dX14_feed_33 (by decide) (fun c_102 => ?_) (fun c_102 => ?_)
                    · skip
                      refine lv_iload hx hb dX14_feed_40 (lv_at hl 0 rfl) ?_
                      refine lv_bipush (v := 8) hx hb dX14_feed_42 (by decide) ?_
                      refine lv_icmp_ge (tgt := 51) hx hb dX14_feed_44 (by decide) (fun c_103 => ?_) (fun c_103 => ?_)
                      · skip
                        refine lv_iload hx hb dX14_feed_51 (lv_at hl 0 rfl) ?_
                        refine lv_bipush (v := 12) hx hb dX14_feed_53 (by decide) ?_
                        refine lv_icmp_ge (tgt := 62) hx hb dX14_feed_55 (by decide) (fun c_104 => ?_) (fun c_104 => ?_)
                        · exact absurd c_104 (by decide)
                        refine lv_iload_n hx hb dX14_feed_58 rfl (lv_at hl 5 rfl) ?_
                        refine lv_goto (tgt := 76) hx hb dX14_feed_59 (by decide) ?_
                        refine lv_istore (lv' := [(7, .int cv), (6, .int 10), (0, .ref m0), (1, .int av), (2, .int bv), (3, .int cv), (4, .int dv), (5, .int ev)]) hx hb dX14_feed_76 hl (by decide) rfl (fun ls hl => ?_)
                        refine lv_aload_n hx hb dX14_feed_78 rfl (lv_at hl 2 rfl) ?_
                        refine va_get (D := (dC, dI)) (ci := 14) (v := .ref m0_tape) (C := RX14) (T := TX14) (N := 51) hx hb hts (fun w h => wM_c (iX14 w h)) hown hK hP 0 rfl rfl 8 (by decide) (hts _ (wM_c wd_1461)) (fun _ h9 => h9) rfl dX14_feed_79 ?_
                        refine lv_aload_n hx hb dX14_feed_82 rfl (lv_at hl 2 rfl) ?_
                        refine va_get (D := (dC, dI)) (ci := 14) (v := .int 10) (C := RX14) (T := TX14) (N := 51) hx hb hts (fun w h => wM_c (iX14 w h)) hown hK hP 0 rfl rfl 9 (by decide) (hts _ (wM_c wd_1462)) (fun _ h9 => h9) rfl dX14_feed_83 ?_
                        refine lv_iload hx hb dX14_feed_86 (lv_at hl 0 rfl) ?_
                        refine lv_bipush (v := 24) hx hb dX14_feed_88 (by decide) ?_
                        refine lv_bipush (v := 8) hx hb dX14_feed_90 (by decide) ?_
                        refine lv_iload hx hb dX14_feed_92 (lv_at hl 1 rfl) ?_
                        refine lv_iconst (v := 4) hx hb dX14_feed_94 (by decide) ?_
                        refine lv_irem hx hb dX14_feed_95 (by decide) ?_
                        refine lv_topi (fun v_105 ev_105 => ?_)
                        obtain rfl : v_105 = 2 := ev_105.trans (by decide)
                        refine lv_imul hx hb dX14_feed_96 ?_
                        refine lv_topi (fun v_106 ev_106 => ?_)
                        obtain rfl : v_106 = 16 := ev_106.trans (by decide)
                        refine lv_isub hx hb dX14_feed_97 ?_
                        refine lv_topi (fun v_107 ev_107 => ?_)
                        obtain rfl : v_107 = 8 := ev_107.trans (by decide)
                        refine lv_ishr hx hb dX14_feed_98 ?_
                        refine lv_topi (fun v_108 ev_108 => ?_)
                        refine lv_i2b hx hb dX14_feed_99 rfl ?_
                        refine lv_topi (fun v_109 ev_109 => ?_)
                        refine va_bast hx hb hK hP hD hS 1 0 rfl rfl (by unfold vp_in; decide) dX14_feed_100 (fun H locs hP hD hS => ?_)
                        obtain ⟨f_110, hP, hD⟩ : ∃ f9, va_P (dC, dI) classes [(m0, .inr (14, fX14 (.int 0) (.ref m0_power) (.int 0) (.int (-1)) (.int 0) .null .null (.ref sp) (.ref m0_tape) (.int 10) (.int 0) (.int 0) (.int 0) (.int 0) (.int 0) (.int 0) (.long 0) (.ref m0_isOpen) (.ref m0_isFallen) (.ref m0_speed) (.ref m0_fire) (.int 10) (.int (-1)) (.int 0) (.ref m0_air) (.ref m0_cameBy) (.ref m0_least) (.ref m0_before) (.ref m0_gas) (.ref m0_into) (.ref m0_rest) (.ref m0_isTold) (.ref m0_isPast) (.ref m0_kept) (.ref m0_smoke) (.ref m0_early) (.int 0) (.ref m0_manAt) (.int 0) (.ref m0_changeKind) (.ref m0_changeOf) (.ref m0_changeTo) (.ref m0_row) (.ref m0_openWas) (.ref m0_fallenWas) (.ref m0_speedWas) (.int 0) (.ref m0_readingOf) (.ref m0_low) (.ref m0_high) (.ref m0_back))), (m0_tape, .inl (km, 600, .inl f9))] H ∧ va_D A [(m0, .inr (14, fX14 (.int 0) (.ref m0_power) (.int 0) (.int (-1)) (.int 0) .null .null (.ref sp) (.ref m0_tape) (.int 10) (.int 0) (.int 0) (.int 0) (.int 0) (.int 0) (.int 0) (.long 0) (.ref m0_isOpen) (.ref m0_isFallen) (.ref m0_speed) (.ref m0_fire) (.int 10) (.int (-1)) (.int 0) (.ref m0_air) (.ref m0_cameBy) (.ref m0_least) (.ref m0_before) (.ref m0_gas) (.ref m0_into) (.ref m0_rest) (.ref m0_isTold) (.ref m0_isPast) (.ref m0_kept) (.ref m0_smoke) (.ref m0_early) (.int 0) (.ref m0_manAt) (.int 0) (.ref m0_changeKind) (.ref m0_changeOf) (.ref m0_changeTo) (.ref m0_row) (.ref m0_openWas) (.ref m0_fallenWas) (.ref m0_speedWas) (.int 0) (.ref m0_readingOf) (.ref m0_low) (.ref m0_high) (.ref m0_back))), (m0_tape, .inl (km, 600, .inl f9))] := ⟨_, hP, hD⟩
                        refine lv_aload_n hx hb dX14_feed_101 rfl (lv_at hl 2 rfl) ?_
                        refine lv_dup hx hb dX14_feed_102 rfl ?_
                        refine va_get (D := (dC, dI)) (ci := 14) (v := .int 10) (C := RX14) (T := TX14) (N := 51) hx hb hts (fun w h => wM_c (iX14 w h)) hown hK hP 0 rfl rfl 9 (by decide) (hts _ (wM_c wd_1462)) (fun _ h9 => h9) rfl dX14_feed_103 ?_
                        refine lv_iconst (v := 1) hx hb dX14_feed_106 (by decide) ?_
                        refine lv_iadd hx hb dX14_feed_107 ?_
                        refine lv_topi (fun v_111 ev_111 => ?_)
                        obtain rfl : v_111 = 11 := ev_111.trans (by decide)
                        refine va_put (D := (dC, dI)) (ci := 14) (v := .int 11) (ty := .int) (C := RX14) (T := TX14) (N := 51) hx hb hts (fun w h => wM_c (iX14 w h)) tyX14 tyX14_ok nmX14 hown hK hP hD hS 0 rfl rfl 9 (by decide) (hts _ (wM_c wd_1462)) (fun _ h9 => h9) rfl (by decide +kernel) rfl rfl (Nat.le_of_ble_eq_true rfl) dX14_feed_108 (fun H locs hP hD hS => ?_)
                        have hP : va_P (dC, dI) classes [(m0, .inr (14, fX14 (.int 0) (.ref m0_power) (.int 0) (.int (-1)) (.int 0) .null .null (.ref sp) (.ref m0_tape) (.int 11) (.int 0) (.int 0) (.int 0) (.int 0) (.int 0) (.int 0) (.long 0) (.ref m0_isOpen) (.ref m0_isFallen) (.ref m0_speed) (.ref m0_fire) (.int 10) (.int (-1)) (.int 0) (.ref m0_air) (.ref m0_cameBy) (.ref m0_least) (.ref m0_before) (.ref m0_gas) (.ref m0_into) (.ref m0_rest) (.ref m0_isTold) (.ref m0_isPast) (.ref m0_kept) (.ref m0_smoke) (.ref m0_early) (.int 0) (.ref m0_manAt) (.int 0) (.ref m0_changeKind) (.ref m0_changeOf) (.ref m0_changeTo) (.ref m0_row) (.ref m0_openWas) (.ref m0_fallenWas) (.ref m0_speedWas) (.int 0) (.ref m0_readingOf) (.ref m0_low) (.ref m0_high) (.ref m0_back))), (m0_tape, .inl (km, 600, .inl f_110))] H := hP
                        have hD : va_D A [(m0, .inr (14, fX14 (.int 0) (.ref m0_power) (.int 0) (.int (-1)) (.int 0) .null .null (.ref sp) (.ref m0_tape) (.int 11) (.int 0) (.int 0) (.int 0) (.int 0) (.int 0) (.int 0) (.long 0) (.ref m0_isOpen) (.ref m0_isFallen) (.ref m0_speed) (.ref m0_fire) (.int 10) (.int (-1)) (.int 0) (.ref m0_air) (.ref m0_cameBy) (.ref m0_least) (.ref m0_before) (.ref m0_gas) (.ref m0_into) (.ref m0_rest) (.ref m0_isTold) (.ref m0_isPast) (.ref m0_kept) (.ref m0_smoke) (.ref m0_early) (.int 0) (.ref m0_manAt) (.int 0) (.ref m0_changeKind) (.ref m0_changeOf) (.ref m0_changeTo) (.ref m0_row) (.ref m0_openWas) (.ref m0_fallenWas) (.ref m0_speedWas) (.int 0) (.ref m0_readingOf) (.ref m0_low) (.ref m0_high) (.ref m0_back))), (m0_tape, .inl (km, 600, .inl f_110))] := hD
                        refine lv_iinc (v := 11) (lv' := [(6, .int 11), (7, .int cv), (0, .ref m0), (1, .int av), (2, .int bv), (3, .int cv), (4, .int dv), (5, .int ev)]) hx hb dX14_feed_111 hl (k := 1) rfl (by decide) (by decide) rfl (fun ls hl => ?_)
                        refine lv_goto (tgt := 23) hx hb dX14_feed_114 (by decide) ?_
                        refine lv_iload hx hb dX14_feed_23 (lv_at hl 0 rfl) ?_
                        refine lv_bipush (v := 20) hx hb dX14_feed_25 (by decide) ?_
                        refine lv_icmp_ge (tgt := 117) hx hb dX14_feed_27 (by decide) (fun c_112 => ?_) (fun c_112 => ?_)
                        · exact absurd c_112 (by decide)
                        refine lv_iload hx hb dX14_feed_30 (lv_at hl 0 rfl) ?_
                        refine lv_iconst (v := 4) hx hb dX14_feed_32 (by decide) ?_
                        refine lv_icmp_ge (tgt := 40) hx hb dX14_feed_33 (by decide) (fun c_113 => ?_) (fun c_113 => ?_)
                        · skip
                          refine lv_iload hx hb dX14_feed_40 (lv_at hl 0 rfl) ?_
                          refine lv_bipush (v := 8) hx hb dX14_feed_42 (by decide) ?_
                          refine lv_icmp_ge (tgt := 51) hx hb dX14_feed_44 (by decide) (fun c_114 => ?_) (fun c_114 => ?_)
                          · skip
                            refine lv_iload hx hb dX14_feed_51 (lv_at hl 0 rfl) ?_
                            refine lv_bipush (v := 12) hx hb dX14_feed_53 (by decide) ?_
                            refine lv_icmp_ge (tgt := 62) hx hb dX14_feed_55 (by decide) (fun c_115 => ?_) (fun c_115 => ?_)
                            · exact absurd c_115 (by decide)
                            refine lv_iload_n hx hb dX14_feed_58 rfl (lv_at hl 5 rfl) ?_
                            refine lv_goto (tgt := 76) hx hb dX14_feed_59 (by decide) ?_
                            refine lv_istore (lv' := [(7, .int cv), (6, .int 11), (0, .ref m0), (1, .int av), (2, .int bv), (3, .int cv), (4, .int dv), (5, .int ev)]) hx hb dX14_feed_76 hl (by decide) rfl (fun ls hl => ?_)
                            refine lv_aload_n hx hb dX14_feed_78 rfl (lv_at hl 2 rfl) ?_
                            refine va_get (D := (dC, dI)) (ci := 14) (v := .ref m0_tape) (C := RX14) (T := TX14) (N := 51) hx hb hts (fun w h => wM_c (iX14 w h)) hown hK hP 0 rfl rfl 8 (by decide) (hts _ (wM_c wd_1461)) (fun _ h9 => h9) rfl dX14_feed_79 ?_
                            refine lv_aload_n hx hb dX14_feed_82 rfl (lv_at hl 2 rfl) ?_
                            refine va_get (D := (dC, dI)) (ci := 14) (v := .int 11) (C := RX14) (T := TX14) (N := 51) hx hb hts (fun w h => wM_c (iX14 w h)) hown hK hP 0 rfl rfl 9 (by decide) (hts _ (wM_c wd_1462)) (fun _ h9 => h9) rfl dX14_feed_83 ?_
                            refine lv_iload hx hb dX14_feed_86 (lv_at hl 0 rfl) ?_
                            refine lv_bipush (v := 24) hx hb dX14_feed_88 (by decide) ?_
                            refine lv_bipush (v := 8) hx hb dX14_feed_90 (by decide) ?_
                            refine lv_iload hx hb dX14_feed_92 (lv_at hl 1 rfl) ?_
                            refine lv_iconst (v := 4) hx hb dX14_feed_94 (by decide) ?_
                            refine lv_irem hx hb dX14_feed_95 (by decide) ?_
                            refine lv_topi (fun v_116 ev_116 => ?_)
                            obtain rfl : v_116 = 3 := ev_116.trans (by decide)
                            refine lv_imul hx hb dX14_feed_96 ?_
                            refine lv_topi (fun v_117 ev_117 => ?_)
                            obtain rfl : v_117 = 24 := ev_117.trans (by decide)
                            refine lv_isub hx hb dX14_feed_97 ?_
                            refine lv_topi (fun v_118 ev_118 => ?_)
                            obtain rfl : v_118 = 0 := ev_118.trans (by decide)
                            refine lv_ishr hx hb dX14_feed_98 ?_
                            refine lv_topi (fun v_119 ev_119 => ?_)
                            refine lv_i2b hx hb dX14_feed_99 rfl ?_
                            refine lv_topi (fun v_120 ev_120 => ?_)
                            refine va_bast hx hb hK hP hD hS 1 0 rfl rfl (by unfold vp_in; decide) dX14_feed_100 (fun H locs hP hD hS => ?_)
                            obtain ⟨f_121, hP, hD⟩ : ∃ f9, va_P (dC, dI) classes [(m0, .inr (14, fX14 (.int 0) (.ref m0_power) (.int 0) (.int (-1)) (.int 0) .null .null (.ref sp) (.ref m0_tape) (.int 11) (.int 0) (.int 0) (.int 0) (.int 0) (.int 0) (.int 0) (.long 0) (.ref m0_isOpen) (.ref m0_isFallen) (.ref m0_speed) (.ref m0_fire) (.int 10) (.int (-1)) (.int 0) (.ref m0_air) (.ref m0_cameBy) (.ref m0_least) (.ref m0_before) (.ref m0_gas) (.ref m0_into) (.ref m0_rest) (.ref m0_isTold) (.ref m0_isPast) (.ref m0_kept) (.ref m0_smoke) (.ref m0_early) (.int 0) (.ref m0_manAt) (.int 0) (.ref m0_changeKind) (.ref m0_changeOf) (.ref m0_changeTo) (.ref m0_row) (.ref m0_openWas) (.ref m0_fallenWas) (.ref m0_speedWas) (.int 0) (.ref m0_readingOf) (.ref m0_low) (.ref m0_high) (.ref m0_back))), (m0_tape, .inl (km, 600, .inl f9))] H ∧ va_D A [(m0, .inr (14, fX14 (.int 0) (.ref m0_power) (.int 0) (.int (-1)) (.int 0) .null .null (.ref sp) (.ref m0_tape) (.int 11) (.int 0) (.int 0) (.int 0) (.int 0) (.int 0) (.int 0) (.long 0) (.ref m0_isOpen) (.ref m0_isFallen) (.ref m0_speed) (.ref m0_fire) (.int 10) (.int (-1)) (.int 0) (.ref m0_air) (.ref m0_cameBy) (.ref m0_least) (.ref m0_before) (.ref m0_gas) (.ref m0_into) (.ref m0_rest) (.ref m0_isTold) (.ref m0_isPast) (.ref m0_kept) (.ref m0_smoke) (.ref m0_early) (.int 0) (.ref m0_manAt) (.int 0) (.ref m0_changeKind) (.ref m0_changeOf) (.ref m0_changeTo) (.ref m0_row) (.ref m0_openWas) (.ref m0_fallenWas) (.ref m0_speedWas) (.int 0) (.ref m0_readingOf) (.ref m0_low) (.ref m0_high) (.ref m0_back))), (m0_tape, .inl (km, 600, .inl f9))] := ⟨_, hP, hD⟩
                            refine lv_aload_n hx hb dX14_feed_101 rfl (lv_at hl 2 rfl) ?_
                            refine lv_dup hx hb dX14_feed_102 rfl ?_
                            refine va_get (D := (dC, dI)) (ci := 14) (v := .int 11) (C := RX14) (T := TX14) (N := 51) hx hb hts (fun w h => wM_c (iX14 w h)) hown hK hP 0 rfl rfl 9 (by decide) (hts _ (wM_c wd_1462)) (fun _ h9 => h9) rfl dX14_feed_103 ?_
                            refine lv_iconst (v := 1) hx hb dX14_feed_106 (by decide) ?_
                            refine lv_iadd hx hb dX14_feed_107 ?_
                            refine lv_topi (fun v_122 ev_122 => ?_)
                            obtain rfl : v_122 = 12 := ev_122.trans (by decide)
                            refine va_put (D := (dC, dI)) (ci := 14) (v := .int 12) (ty := .int) (C := RX14) (T := TX14) (N := 51) hx hb hts (fun w h => wM_c (iX14 w h)) tyX14 tyX14_ok nmX14 hown hK hP hD hS 0 rfl rfl 9 (by decide) (hts _ (wM_c wd_1462)) (fun _ h9 => h9) rfl (by decide +kernel) rfl rfl (Nat.le_of_ble_eq_true rfl) dX14_feed_108 (fun H locs hP hD hS => ?_)
                            have hP : va_P (dC, dI) classes [(m0, .inr (14, fX14 (.int 0) (.ref m0_power) (.int 0) (.int (-1)) (.int 0) .null .null (.ref sp) (.ref m0_tape) (.int 12) (.int 0) (.int 0) (.int 0) (.int 0) (.int 0) (.int 0) (.long 0) (.ref m0_isOpen) (.ref m0_isFallen) (.ref m0_speed) (.ref m0_fire) (.int 10) (.int (-1)) (.int 0) (.ref m0_air) (.ref m0_cameBy) (.ref m0_least) (.ref m0_before) (.ref m0_gas) (.ref m0_into) (.ref m0_rest) (.ref m0_isTold) (.ref m0_isPast) (.ref m0_kept) (.ref m0_smoke) (.ref m0_early) (.int 0) (.ref m0_manAt) (.int 0) (.ref m0_changeKind) (.ref m0_changeOf) (.ref m0_changeTo) (.ref m0_row) (.ref m0_openWas) (.ref m0_fallenWas) (.ref m0_speedWas) (.int 0) (.ref m0_readingOf) (.ref m0_low) (.ref m0_high) (.ref m0_back))), (m0_tape, .inl (km, 600, .inl f_121))] H := hP
                            have hD : va_D A [(m0, .inr (14, fX14 (.int 0) (.ref m0_power) (.int 0) (.int (-1)) (.int 0) .null .null (.ref sp) (.ref m0_tape) (.int 12) (.int 0) (.int 0) (.int 0) (.int 0) (.int 0) (.int 0) (.long 0) (.ref m0_isOpen) (.ref m0_isFallen) (.ref m0_speed) (.ref m0_fire) (.int 10) (.int (-1)) (.int 0) (.ref m0_air) (.ref m0_cameBy) (.ref m0_least) (.ref m0_before) (.ref m0_gas) (.ref m0_into) (.ref m0_rest) (.ref m0_isTold) (.ref m0_isPast) (.ref m0_kept) (.ref m0_smoke) (.ref m0_early) (.int 0) (.ref m0_manAt) (.int 0) (.ref m0_changeKind) (.ref m0_changeOf) (.ref m0_changeTo) (.ref m0_row) (.ref m0_openWas) (.ref m0_fallenWas) (.ref m0_speedWas) (.int 0) (.ref m0_readingOf) (.ref m0_low) (.ref m0_high) (.ref m0_back))), (m0_tape, .inl (km, 600, .inl f_121))] := hD
                            refine lv_iinc (v := 12) (lv' := [(6, .int 12), (7, .int cv), (0, .ref m0), (1, .int av), (2, .int bv), (3, .int cv), (4, .int dv), (5, .int ev)]) hx hb dX14_feed_111 hl (k := 1) rfl (by decide) (by decide) rfl (fun ls hl => ?_)
                            refine lv_goto (tgt := 23) hx hb dX14_feed_114 (by decide) ?_
                            refine lv_iload hx hb dX14_feed_23 (lv_at hl 0 rfl) ?_
                            refine lv_bipush (v := 20) hx hb dX14_feed_25 (by decide) ?_
                            refine lv_icmp_ge (tgt := 117) hx hb dX14_feed_27 (by decide) (fun c_123 => ?_) (fun c_123 => ?_)
                            · exact absurd c_123 (by decide)
                            refine lv_iload hx hb dX14_feed_30 (lv_at hl 0 rfl) ?_
                            refine lv_iconst (v := 4) hx hb dX14_feed_32 (by decide) ?_
                            refine lv_icmp_ge (tgt := 40) hx hb dX14_feed_33 (by decide) (fun c_124 => ?_) (fun c_124 => ?_)
                            · skip
                              refine lv_iload hx hb dX14_feed_40 (lv_at hl 0 rfl) ?_
                              refine lv_bipush (v := 8) hx hb dX14_feed_42 (by decide) ?_
                              refine lv_icmp_ge (tgt := 51) hx hb dX14_feed_44 (by decide) (fun c_125 => ?_) (fun c_125 => ?_)
                              · skip
                                refine lv_iload hx hb dX14_feed_51 (lv_at hl 0 rfl) ?_
                                refine lv_bipush (v := 12) hx hb dX14_feed_53 (by decide) ?_
                                refine lv_icmp_ge (tgt := 62) hx hb dX14_feed_55 (by decide) (fun c_126 => ?_) (fun c_126 => ?_)
                                · skip
                                  refine lv_iload hx hb dX14_feed_62 (lv_at hl 0 rfl) ?_
                                  refine lv_bipush (v := 16) hx hb dX14_feed_64 (by decide) ?_
                                  refine lv_icmp_ge (tgt := 74) hx hb dX14_feed_66 (by decide) (fun c_127 => ?_) (fun c_127 => ?_)
                                  · exact absurd c_127 (by decide)
                                  refine lv_iload hx hb dX14_feed_69 (lv_at hl 6 rfl) ?_
                                  refine lv_goto (tgt := 76) hx hb dX14_feed_71 (by decide) ?_
                                  refine lv_istore (lv' := [(7, .int dv), (6, .int 12), (0, .ref m0), (1, .int av), (2, .int bv), (3, .int cv), (4, .int dv), (5, .int ev)]) hx hb dX14_feed_76 hl (by decide) rfl (fun ls hl => ?_)
                                  refine lv_aload_n hx hb dX14_feed_78 rfl (lv_at hl 2 rfl) ?_
                                  refine va_get (D := (dC, dI)) (ci := 14) (v := .ref m0_tape) (C := RX14) (T := TX14) (N := 51) hx hb hts (fun w h => wM_c (iX14 w h)) hown hK hP 0 rfl rfl 8 (by decide) (hts _ (wM_c wd_1461)) (fun _ h9 => h9) rfl dX14_feed_79 ?_
                                  refine lv_aload_n hx hb dX14_feed_82 rfl (lv_at hl 2 rfl) ?_
                                  refine va_get (D := (dC, dI)) (ci := 14) (v := .int 12) (C := RX14) (T := TX14) (N := 51) hx hb hts (fun w h => wM_c (iX14 w h)) hown hK hP 0 rfl rfl 9 (by decide) (hts _ (wM_c wd_1462)) (fun _ h9 => h9) rfl dX14_feed_83 ?_
                                  refine lv_iload hx hb dX14_feed_86 (lv_at hl 0 rfl) ?_
                                  refine lv_bipush (v := 24) hx hb dX14_feed_88 (by decide) ?_
                                  refine lv_bipush (v := 8) hx hb dX14_feed_90 (by decide) ?_
                                  refine lv_iload hx hb dX14_feed_92 (lv_at hl 1 rfl) ?_
                                  refine lv_iconst (v := 4) hx hb dX14_feed_94 (by decide) ?_
                                  refine lv_irem hx hb dX14_feed_95 (by decide) ?_
                                  refine lv_topi (fun v_128 ev_128 => ?_)
                                  obtain rfl : v_128 = 0 := ev_128.trans (by decide)
                                  refine lv_imul hx hb dX14_feed_96 ?_
                                  refine lv_topi (fun v_129 ev_129 => ?_)
                                  obtain rfl : v_129 = 0 := ev_129.trans (by decide)
                                  refine lv_isub hx hb dX14_feed_97 ?_
                                  refine lv_topi (fun v_130 ev_130 => ?_)
                                  obtain rfl : v_130 = 24 := ev_130.trans (by decide)
                                  refine lv_ishr hx hb dX14_feed_98 ?_
                                  refine lv_topi (fun v_131 ev_131 => ?_)
                                  refine lv_i2b hx hb dX14_feed_99 rfl ?_
                                  refine lv_topi (fun v_132 ev_132 => ?_)
                                  refine va_bast hx hb hK hP hD hS 1 0 rfl rfl (by unfold vp_in; decide) dX14_feed_100 (fun H locs hP hD hS => ?_)
                                  obtain ⟨f_133, hP, hD⟩ : ∃ f9, va_P (dC, dI) classes [(m0, .inr (14, fX14 (.int 0) (.ref m0_power) (.int 0) (.int (-1)) (.int 0) .null .null (.ref sp) (.ref m0_tape) (.int 12) (.int 0) (.int 0) (.int 0) (.int 0) (.int 0) (.int 0) (.long 0) (.ref m0_isOpen) (.ref m0_isFallen) (.ref m0_speed) (.ref m0_fire) (.int 10) (.int (-1)) (.int 0) (.ref m0_air) (.ref m0_cameBy) (.ref m0_least) (.ref m0_before) (.ref m0_gas) (.ref m0_into) (.ref m0_rest) (.ref m0_isTold) (.ref m0_isPast) (.ref m0_kept) (.ref m0_smoke) (.ref m0_early) (.int 0) (.ref m0_manAt) (.int 0) (.ref m0_changeKind) (.ref m0_changeOf) (.ref m0_changeTo) (.ref m0_row) (.ref m0_openWas) (.ref m0_fallenWas) (.ref m0_speedWas) (.int 0) (.ref m0_readingOf) (.ref m0_low) (.ref m0_high) (.ref m0_back))), (m0_tape, .inl (km, 600, .inl f9))] H ∧ va_D A [(m0, .inr (14, fX14 (.int 0) (.ref m0_power) (.int 0) (.int (-1)) (.int 0) .null .null (.ref sp) (.ref m0_tape) (.int 12) (.int 0) (.int 0) (.int 0) (.int 0) (.int 0) (.int 0) (.long 0) (.ref m0_isOpen) (.ref m0_isFallen) (.ref m0_speed) (.ref m0_fire) (.int 10) (.int (-1)) (.int 0) (.ref m0_air) (.ref m0_cameBy) (.ref m0_least) (.ref m0_before) (.ref m0_gas) (.ref m0_into) (.ref m0_rest) (.ref m0_isTold) (.ref m0_isPast) (.ref m0_kept) (.ref m0_smoke) (.ref m0_early) (.int 0) (.ref m0_manAt) (.int 0) (.ref m0_changeKind) (.ref m0_changeOf) (.ref m0_changeTo) (.ref m0_row) (.ref m0_openWas) (.ref m0_fallenWas) (.ref m0_speedWas) (.int 0) (.ref m0_readingOf) (.ref m0_low) (.ref m0_high) (.ref m0_back))), (m0_tape, .inl (km, 600, .inl f9))] := ⟨_, hP, hD⟩
                                  refine lv_aload_n hx hb dX14_feed_101 rfl (lv_at hl 2 rfl) ?_
                                  refine lv_dup hx hb dX14_feed_102 rfl ?_
                                  refine va_get (D := (dC, dI)) (ci := 14) (v := .int 12) (C := RX14) (T := TX14) (N := 51) hx hb hts (fun w h => wM_c (iX14 w h)) hown hK hP 0 rfl rfl 9 (by decide) (hts _ (wM_c wd_1462)) (fun _ h9 => h9) rfl dX14_feed_103 ?_
                                  refine lv_iconst (v := 1) hx hb dX14_feed_106 (by decide) ?_
                                  refine lv_iadd hx hb dX14_feed_107 ?_
                                  refine lv_topi (fun v_134 ev_134 => ?_)
                                  obtain rfl : v_134 = 13 := ev_134.trans (by decide)
                                  refine va_put (D := (dC, dI)) (ci := 14) (v := .int 13) (ty := .int) (C := RX14) (T := TX14) (N := 51) hx hb hts (fun w h => wM_c (iX14 w h)) tyX14 tyX14_ok nmX14 hown hK hP hD hS 0 rfl rfl 9 (by decide) (hts _ (wM_c wd_1462)) (fun _ h9 => h9) rfl (by decide +kernel) rfl rfl (Nat.le_of_ble_eq_true rfl) dX14_feed_108 (fun H locs hP hD hS => ?_)
                                  have hP : va_P (dC, dI) classes [(m0, .inr (14, fX14 (.int 0) (.ref m0_power) (.int 0) (.int (-1)) (.int 0) .null .null (.ref sp) (.ref m0_tape) (.int 13) (.int 0) (.int 0) (.int 0) (.int 0) (.int 0) (.int 0) (.long 0) (.ref m0_isOpen) (.ref m0_isFallen) (.ref m0_speed) (.ref m0_fire) (.int 10) (.int (-1)) (.int 0) (.ref m0_air) (.ref m0_cameBy) (.ref m0_least) (.ref m0_before) (.ref m0_gas) (.ref m0_into) (.ref m0_rest) (.ref m0_isTold) (.ref m0_isPast) (.ref m0_kept) (.ref m0_smoke) (.ref m0_early) (.int 0) (.ref m0_manAt) (.int 0) (.ref m0_changeKind) (.ref m0_changeOf) (.ref m0_changeTo) (.ref m0_row) (.ref m0_openWas) (.ref m0_fallenWas) (.ref m0_speedWas) (.int 0) (.ref m0_readingOf) (.ref m0_low) (.ref m0_high) (.ref m0_back))), (m0_tape, .inl (km, 600, .inl f_133))] H := hP
                                  have hD : va_D A [(m0, .inr (14, fX14 (.int 0) (.ref m0_power) (.int 0) (.int (-1)) (.int 0) .null .null (.ref sp) (.ref m0_tape) (.int 13) (.int 0) (.int 0) (.int 0) (.int 0) (.int 0) (.int 0) (.long 0) (.ref m0_isOpen) (.ref m0_isFallen) (.ref m0_speed) (.ref m0_fire) (.int 10) (.int (-1)) (.int 0) (.ref m0_air) (.ref m0_cameBy) (.ref m0_least) (.ref m0_before) (.ref m0_gas) (.ref m0_into) (.ref m0_rest) (.ref m0_isTold) (.ref m0_isPast) (.ref m0_kept) (.ref m0_smoke) (.ref m0_early) (.int 0) (.ref m0_manAt) (.int 0) (.ref m0_changeKind) (.ref m0_changeOf) (.ref m0_changeTo) (.ref m0_row) (.ref m0_openWas) (.ref m0_fallenWas) (.ref m0_speedWas) (.int 0) (.ref m0_readingOf) (.ref m0_low) (.ref m0_high) (.ref m0_back))), (m0_tape, .inl (km, 600, .inl f_133))] := hD
                                  refine lv_iinc (v := 13) (lv' := [(6, .int 13), (7, .int dv), (0, .ref m0), (1, .int av), (2, .int bv), (3, .int cv), (4, .int dv), (5, .int ev)]) hx hb dX14_feed_111 hl (k := 1) rfl (by decide) (by decide) rfl (fun ls hl => ?_)
                                  refine lv_goto (tgt := 23) hx hb dX14_feed_114 (by decide) ?_
                                  refine lv_iload hx hb dX14_feed_23 (lv_at hl 0 rfl) ?_
                                  refine lv_bipush (v := 20) hx hb dX14_feed_25 (by decide) ?_
                                  refine lv_icmp_ge (tgt := 117) hx hb dX14_feed_27 (by decide) (fun c_135 => ?_) (fun c_135 => ?_)
                                  · exact absurd c_135 (by decide)
                                  refine lv_iload hx hb dX14_feed_30 (lv_at hl 0 rfl) ?_
                                  refine lv_iconst (v := 4) hx hb dX14_feed_32 (by decide) ?_
                                  refine lv_icmp_ge (tgt := 40) hx hb dX14_feed_33 (by decide) (fun c_136 => ?_) (fun c_136 => ?_)
                                  · skip
                                    refine lv_iload hx hb dX14_feed_40 (lv_at hl 0 rfl) ?_
                                    refine lv_bipush (v := 8) hx hb dX14_feed_42 (by decide) ?_
                                    refine lv_icmp_ge (tgt := 51) hx hb dX14_feed_44 (by decide) (fun c_137 => ?_) (fun c_137 => ?_)
                                    · skip
                                      refine lv_iload hx hb dX14_feed_51 (lv_at hl 0 rfl) ?_
                                      refine lv_bipush (v := 12) hx hb dX14_feed_53 (by decide) ?_
                                      refine lv_icmp_ge (tgt := 62) hx hb dX14_feed_55 (by decide) (fun c_138 => ?_) (fun c_138 => ?_)
                                      · skip
                                        refine lv_iload hx hb dX14_feed_62 (lv_at hl 0 rfl) ?_
                                        refine lv_bipush (v := 16) hx hb dX14_feed_64 (by decide) ?_
                                        refine lv_icmp_ge (tgt := 74) hx hb dX14_feed_66 (by decide) (fun c_139 => ?_) (fun c_139 => ?_)
                                        · exact absurd c_139 (by decide)
                                        refine lv_iload hx hb dX14_feed_69 (lv_at hl 6 rfl) ?_
                                        refine lv_goto (tgt := 76) hx hb dX14_feed_71 (by decide) ?_
                                        refine lv_istore (lv' := [(7, .int dv), (6, .int 13), (0, .ref m0), (1, .int av), (2, .int bv), (3, .int cv), (4, .int dv), (5, .int ev)]) hx hb dX14_feed_76 hl (by decide) rfl (fun ls hl => ?_)
                                        refine lv_aload_n hx hb dX14_feed_78 rfl (lv_at hl 2 rfl) ?_
                                        refine va_get (D := (dC, dI)) (ci := 14) (v := .ref m0_tape) (C := RX14) (T := TX14) (N := 51) hx hb hts (fun w h => wM_c (iX14 w h)) hown hK hP 0 rfl rfl 8 (by decide) (hts _ (wM_c wd_1461)) (fun _ h9 => h9) rfl dX14_feed_79 ?_
                                        refine lv_aload_n hx hb dX14_feed_82 rfl (lv_at hl 2 rfl) ?_
                                        refine va_get (D := (dC, dI)) (ci := 14) (v := .int 13) (C := RX14) (T := TX14) (N := 51) hx hb hts (fun w h => wM_c (iX14 w h)) hown hK hP 0 rfl rfl 9 (by decide) (hts _ (wM_c wd_1462)) (fun _ h9 => h9) rfl dX14_feed_83 ?_
                                        refine lv_iload hx hb dX14_feed_86 (lv_at hl 0 rfl) ?_
                                        refine lv_bipush (v := 24) hx hb dX14_feed_88 (by decide) ?_
                                        refine lv_bipush (v := 8) hx hb dX14_feed_90 (by decide) ?_
                                        refine lv_iload hx hb dX14_feed_92 (lv_at hl 1 rfl) ?_
                                        refine lv_iconst (v := 4) hx hb dX14_feed_94 (by decide) ?_
                                        refine lv_irem hx hb dX14_feed_95 (by decide) ?_
                                        refine lv_topi (fun v_140 ev_140 => ?_)
                                        obtain rfl : v_140 = 1 := ev_140.trans (by decide)
                                        refine lv_imul hx hb dX14_feed_96 ?_
                                        refine lv_topi (fun v_141 ev_141 => ?_)
                                        obtain rfl : v_141 = 8 := ev_141.trans (by decide)
                                        refine lv_isub hx hb dX14_feed_97 ?_
                                        refine lv_topi (fun v_142 ev_142 => ?_)
                                        obtain rfl : v_142 = 16 := ev_142.trans (by decide)
                                        refine lv_ishr hx hb dX14_feed_98 ?_
                                        refine lv_topi (fun v_143 ev_143 => ?_)
                                        refine lv_i2b hx hb dX14_feed_99 rfl ?_
                                        refine lv_topi (fun v_144 ev_144 => ?_)
                                        refine va_bast hx hb hK hP hD hS 1 0 rfl rfl (by unfold vp_in; decide) dX14_feed_100 (fun H locs hP hD hS => ?_)
                                        obtain ⟨f_145, hP, hD⟩ : ∃ f9, va_P (dC, dI) classes [(m0, .inr (14, fX14 (.int 0) (.ref m0_power) (.int 0) (.int (-1)) (.int 0) .null .null (.ref sp) (.ref m0_tape) (.int 13) (.int 0) (.int 0) (.int 0) (.int 0) (.int 0) (.int 0) (.long 0) (.ref m0_isOpen) (.ref m0_isFallen) (.ref m0_speed) (.ref m0_fire) (.int 10) (.int (-1)) (.int 0) (.ref m0_air) (.ref m0_cameBy) (.ref m0_least) (.ref m0_before) (.ref m0_gas) (.ref m0_into) (.ref m0_rest) (.ref m0_isTold) (.ref m0_isPast) (.ref m0_kept) (.ref m0_smoke) (.ref m0_early) (.int 0) (.ref m0_manAt) (.int 0) (.ref m0_changeKind) (.ref m0_changeOf) (.ref m0_changeTo) (.ref m0_row) (.ref m0_openWas) (.ref m0_fallenWas) (.ref m0_speedWas) (.int 0) (.ref m0_readingOf) (.ref m0_low) (.ref m0_high) (.ref m0_back))), (m0_tape, .inl (km, 600, .inl f9))] H ∧ va_D A [(m0, .inr (14, fX14 (.int 0) (.ref m0_power) (.int 0) (.int (-1)) (.int 0) .null .null (.ref sp) (.ref m0_tape) (.int 13) (.int 0) (.int 0) (.int 0) (.int 0) (.int 0) (.int 0) (.long 0) (.ref m0_isOpen) (.ref m0_isFallen) (.ref m0_speed) (.ref m0_fire) (.int 10) (.int (-1)) (.int 0) (.ref m0_air) (.ref m0_cameBy) (.ref m0_least) (.ref m0_before) (.ref m0_gas) (.ref m0_into) (.ref m0_rest) (.ref m0_isTold) (.ref m0_isPast) (.ref m0_kept) (.ref m0_smoke) (.ref m0_early) (.int 0) (.ref m0_manAt) (.int 0) (.ref m0_changeKind) (.ref m0_changeOf) (.ref m0_changeTo) (.ref m0_row) (.ref m0_openWas) (.ref m0_fallenWas) (.ref m0_speedWas) (.int 0) (.ref m0_readingOf) (.ref m0_low) (.ref m0_high) (.ref m0_back))), (m0_tape, .inl (km, 600, .inl f9))] := ⟨_, hP, hD⟩
                                        refine lv_aload_n hx hb dX14_feed_101 rfl (lv_at hl 2 rfl) ?_
                                        refine lv_dup hx hb dX14_feed_102 rfl ?_
                                        refine va_get (D := (dC, dI)) (ci := 14) (v := .int 13) (C := RX14) (T := TX14) (N := 51) hx hb hts (fun w h => wM_c (iX14 w h)) hown hK hP 0 rfl rfl 9 (by decide) (hts _ (wM_c wd_1462)) (fun _ h9 => h9) rfl dX14_feed_103 ?_
                                        refine lv_iconst (v := 1) hx hb dX14_feed_106 (by decide) ?_
                                        refine lv_iadd hx hb dX14_feed_107 ?_
                                        refine lv_topi (fun v_146 ev_146 => ?_)
                                        obtain rfl : v_146 = 14 := ev_146.trans (by decide)
                                        refine va_put (D := (dC, dI)) (ci := 14) (v := .int 14) (ty := .int) (C := RX14) (T := TX14) (N := 51) hx hb hts (fun w h => wM_c (iX14 w h)) tyX14 tyX14_ok nmX14 hown hK hP hD hS 0 rfl rfl 9 (by decide) (hts _ (wM_c wd_1462)) (fun _ h9 => h9) rfl (by decide +kernel) rfl rfl (Nat.le_of_ble_eq_true rfl) dX14_feed_108 (fun H locs hP hD hS => ?_)
                                        have hP : va_P (dC, dI) classes [(m0, .inr (14, fX14 (.int 0) (.ref m0_power) (.int 0) (.int (-1)) (.int 0) .null .null (.ref sp) (.ref m0_tape) (.int 14) (.int 0) (.int 0) (.int 0) (.int 0) (.int 0) (.int 0) (.long 0) (.ref m0_isOpen) (.ref m0_isFallen) (.ref m0_speed) (.ref m0_fire) (.int 10) (.int (-1)) (.int 0) (.ref m0_air) (.ref m0_cameBy) (.ref m0_least) (.ref m0_before) (.ref m0_gas) (.ref m0_into) (.ref m0_rest) (.ref m0_isTold) (.ref m0_isPast) (.ref m0_kept) (.ref m0_smoke) (.ref m0_early) (.int 0) (.ref m0_manAt) (.int 0) (.ref m0_changeKind) (.ref m0_changeOf) (.ref m0_changeTo) (.ref m0_row) (.ref m0_openWas) (.ref m0_fallenWas) (.ref m0_speedWas) (.int 0) (.ref m0_readingOf) (.ref m0_low) (.ref m0_high) (.ref m0_back))), (m0_tape, .inl (km, 600, .inl f_145))] H := hP
                                        have hD : va_D A [(m0, .inr (14, fX14 (.int 0) (.ref m0_power) (.int 0) (.int (-1)) (.int 0) .null .null (.ref sp) (.ref m0_tape) (.int 14) (.int 0) (.int 0) (.int 0) (.int 0) (.int 0) (.int 0) (.long 0) (.ref m0_isOpen) (.ref m0_isFallen) (.ref m0_speed) (.ref m0_fire) (.int 10) (.int (-1)) (.int 0) (.ref m0_air) (.ref m0_cameBy) (.ref m0_least) (.ref m0_before) (.ref m0_gas) (.ref m0_into) (.ref m0_rest) (.ref m0_isTold) (.ref m0_isPast) (.ref m0_kept) (.ref m0_smoke) (.ref m0_early) (.int 0) (.ref m0_manAt) (.int 0) (.ref m0_changeKind) (.ref m0_changeOf) (.ref m0_changeTo) (.ref m0_row) (.ref m0_openWas) (.ref m0_fallenWas) (.ref m0_speedWas) (.int 0) (.ref m0_readingOf) (.ref m0_low) (.ref m0_high) (.ref m0_back))), (m0_tape, .inl (km, 600, .inl f_145))] := hD
                                        refine lv_iinc (v := 14) (lv' := [(6, .int 14), (7, .int dv), (0, .ref m0), (1, .int av), (2, .int bv), (3, .int cv), (4, .int dv), (5, .int ev)]) hx hb dX14_feed_111 hl (k := 1) rfl (by decide) (by decide) rfl (fun ls hl => ?_)
                                        refine lv_goto (tgt := 23) hx hb dX14_feed_114 (by decide) ?_
                                        refine lv_iload hx hb dX14_feed_23 (lv_at hl 0 rfl) ?_
                                        refine lv_bipush (v := 20) hx hb dX14_feed_25 (by decide) ?_
                                        refine lv_icmp_ge (tgt := 117) hx hb dX14_feed_27 (by decide) (fun c_147 => ?_) (fun c_147 => ?_)
                                        · exact absurd c_147 (by decide)
                                        refine lv_iload hx hb dX14_feed_30 (lv_at hl 0 rfl) ?_
                                        refine lv_iconst (v := 4) hx hb dX14_feed_32 (by decide) ?_
                                        refine lv_icmp_ge (tgt := 40) hx hb dX14_feed_33 (by decide) (fun c_148 => ?_) (fun c_148 => ?_)
                                        · skip
                                          refine lv_iload hx hb dX14_feed_40 (lv_at hl 0 rfl) ?_
                                          refine lv_bipush (v := 8) hx hb dX14_feed_42 (by decide) ?_
                                          refine lv_icmp_ge (tgt := 51) hx hb dX14_feed_44 (by decide) (fun c_149 => ?_) (fun c_149 => ?_)
                                          · skip
                                            refine lv_iload hx hb dX14_feed_51 (lv_at hl 0 rfl) ?_
                                            refine lv_bipush (v := 12) hx hb dX14_feed_53 (by decide) ?_
                                            refine lv_icmp_ge (tgt := 62) hx hb dX14_feed_55 (by decide) (fun c_150 => ?_) (fun c_150 => ?_)
                                            · skip
                                              refine lv_iload hx hb dX14_feed_62 (lv_at hl 0 rfl) ?_
                                              refine lv_bipush (v := 16) hx hb dX14_feed_64 (by decide) ?_
                                              refine lv_icmp_ge (tgt := 74) hx hb dX14_feed_66 (by decide) (fun c_151 => ?_) (fun c_151 => ?_)
                                              · exact absurd c_151 (by decide)
                                              refine lv_iload hx hb dX14_feed_69 (lv_at hl 6 rfl) ?_
                                              refine lv_goto (tgt := 76) hx hb dX14_feed_71 (by decide) ?_
                                              refine lv_istore (lv' := [(7, .int dv), (6, .int 14), (0, .ref m0), (1, .int av), (2, .int bv), (3, .int cv), (4, .int dv), (5, .int ev)]) hx hb dX14_feed_76 hl (by decide) rfl (fun ls hl => ?_)
                                              refine lv_aload_n hx hb dX14_feed_78 rfl (lv_at hl 2 rfl) ?_
                                              refine va_get (D := (dC, dI)) (ci := 14) (v := .ref m0_tape) (C := RX14) (T := TX14) (N := 51) hx hb hts (fun w h => wM_c (iX14 w h)) hown hK hP 0 rfl rfl 8 (by decide) (hts _ (wM_c wd_1461)) (fun _ h9 => h9) rfl dX14_feed_79 ?_
                                              refine lv_aload_n hx hb dX14_feed_82 rfl (lv_at hl 2 rfl) ?_
                                              refine va_get (D := (dC, dI)) (ci := 14) (v := .int 14) (C := RX14) (T := TX14) (N := 51) hx hb hts (fun w h => wM_c (iX14 w h)) hown hK hP 0 rfl rfl 9 (by decide) (hts _ (wM_c wd_1462)) (fun _ h9 => h9) rfl dX14_feed_83 ?_
                                              refine lv_iload hx hb dX14_feed_86 (lv_at hl 0 rfl) ?_
                                              refine lv_bipush (v := 24) hx hb dX14_feed_88 (by decide) ?_
                                              refine lv_bipush (v := 8) hx hb dX14_feed_90 (by decide) ?_
                                              refine lv_iload hx hb dX14_feed_92 (lv_at hl 1 rfl) ?_
                                              refine lv_iconst (v := 4) hx hb dX14_feed_94 (by decide) ?_
                                              refine lv_irem hx hb dX14_feed_95 (by decide) ?_
                                              refine lv_topi (fun v_152 ev_152 => ?_)
                                              obtain rfl : v_152 = 2 := ev_152.trans (by decide)
                                              refine lv_imul hx hb dX14_feed_96 ?_
                                              refine lv_topi (fun v_153 ev_153 => ?_)
                                              obtain rfl : v_153 = 16 := ev_153.trans (by decide)
                                              refine lv_isub hx hb dX14_feed_97 ?_
                                              refine lv_topi (fun v_154 ev_154 => ?_)
                                              obtain rfl : v_154 = 8 := ev_154.trans (by decide)
                                              refine lv_ishr hx hb dX14_feed_98 ?_
                                              refine lv_topi (fun v_155 ev_155 => ?_)
                                              refine lv_i2b hx hb dX14_feed_99 rfl ?_
                                              refine lv_topi (fun v_156 ev_156 => ?_)
                                              refine va_bast hx hb hK hP hD hS 1 0 rfl rfl (by unfold vp_in; decide) dX14_feed_100 (fun H locs hP hD hS => ?_)
                                              obtain ⟨f_157, hP, hD⟩ : ∃ f9, va_P (dC, dI) classes [(m0, .inr (14, fX14 (.int 0) (.ref m0_power) (.int 0) (.int (-1)) (.int 0) .null .null (.ref sp) (.ref m0_tape) (.int 14) (.int 0) (.int 0) (.int 0) (.int 0) (.int 0) (.int 0) (.long 0) (.ref m0_isOpen) (.ref m0_isFallen) (.ref m0_speed) (.ref m0_fire) (.int 10) (.int (-1)) (.int 0) (.ref m0_air) (.ref m0_cameBy) (.ref m0_least) (.ref m0_before) (.ref m0_gas) (.ref m0_into) (.ref m0_rest) (.ref m0_isTold) (.ref m0_isPast) (.ref m0_kept) (.ref m0_smoke) (.ref m0_early) (.int 0) (.ref m0_manAt) (.int 0) (.ref m0_changeKind) (.ref m0_changeOf) (.ref m0_changeTo) (.ref m0_row) (.ref m0_openWas) (.ref m0_fallenWas) (.ref m0_speedWas) (.int 0) (.ref m0_readingOf) (.ref m0_low) (.ref m0_high) (.ref m0_back))), (m0_tape, .inl (km, 600, .inl f9))] H ∧ va_D A [(m0, .inr (14, fX14 (.int 0) (.ref m0_power) (.int 0) (.int (-1)) (.int 0) .null .null (.ref sp) (.ref m0_tape) (.int 14) (.int 0) (.int 0) (.int 0) (.int 0) (.int 0) (.int 0) (.long 0) (.ref m0_isOpen) (.ref m0_isFallen) (.ref m0_speed) (.ref m0_fire) (.int 10) (.int (-1)) (.int 0) (.ref m0_air) (.ref m0_cameBy) (.ref m0_least) (.ref m0_before) (.ref m0_gas) (.ref m0_into) (.ref m0_rest) (.ref m0_isTold) (.ref m0_isPast) (.ref m0_kept) (.ref m0_smoke) (.ref m0_early) (.int 0) (.ref m0_manAt) (.int 0) (.ref m0_changeKind) (.ref m0_changeOf) (.ref m0_changeTo) (.ref m0_row) (.ref m0_openWas) (.ref m0_fallenWas) (.ref m0_speedWas) (.int 0) (.ref m0_readingOf) (.ref m0_low) (.ref m0_high) (.ref m0_back))), (m0_tape, .inl (km, 600, .inl f9))] := ⟨_, hP, hD⟩
                                              refine lv_aload_n hx hb dX14_feed_101 rfl (lv_at hl 2 rfl) ?_
                                              refine lv_dup hx hb dX14_feed_102 rfl ?_
                                              refine va_get (D := (dC, dI)) (ci := 14) (v := .int 14) (C := RX14) (T := TX14) (N := 51) hx hb hts (fun w h => wM_c (iX14 w h)) hown hK hP 0 rfl rfl 9 (by decide) (hts _ (wM_c wd_1462)) (fun _ h9 => h9) rfl dX14_feed_103 ?_
                                              refine lv_iconst (v := 1) hx hb dX14_feed_106 (by decide) ?_
                                              refine lv_iadd hx hb dX14_feed_107 ?_
                                              refine lv_topi (fun v_158 ev_158 => ?_)
                                              obtain rfl : v_158 = 15 := ev_158.trans (by decide)
                                              refine va_put (D := (dC, dI)) (ci := 14) (v := .int 15) (ty := .int) (C := RX14) (T := TX14) (N := 51) hx hb hts (fun w h => wM_c (iX14 w h)) tyX14 tyX14_ok nmX14 hown hK hP hD hS 0 rfl rfl 9 (by decide) (hts _ (wM_c wd_1462)) (fun _ h9 => h9) rfl (by decide +kernel) rfl rfl (Nat.le_of_ble_eq_true rfl) dX14_feed_108 (fun H locs hP hD hS => ?_)
                                              have hP : va_P (dC, dI) classes [(m0, .inr (14, fX14 (.int 0) (.ref m0_power) (.int 0) (.int (-1)) (.int 0) .null .null (.ref sp) (.ref m0_tape) (.int 15) (.int 0) (.int 0) (.int 0) (.int 0) (.int 0) (.int 0) (.long 0) (.ref m0_isOpen) (.ref m0_isFallen) (.ref m0_speed) (.ref m0_fire) (.int 10) (.int (-1)) (.int 0) (.ref m0_air) (.ref m0_cameBy) (.ref m0_least) (.ref m0_before) (.ref m0_gas) (.ref m0_into) (.ref m0_rest) (.ref m0_isTold) (.ref m0_isPast) (.ref m0_kept) (.ref m0_smoke) (.ref m0_early) (.int 0) (.ref m0_manAt) (.int 0) (.ref m0_changeKind) (.ref m0_changeOf) (.ref m0_changeTo) (.ref m0_row) (.ref m0_openWas) (.ref m0_fallenWas) (.ref m0_speedWas) (.int 0) (.ref m0_readingOf) (.ref m0_low) (.ref m0_high) (.ref m0_back))), (m0_tape, .inl (km, 600, .inl f_157))] H := hP
                                              have hD : va_D A [(m0, .inr (14, fX14 (.int 0) (.ref m0_power) (.int 0) (.int (-1)) (.int 0) .null .null (.ref sp) (.ref m0_tape) (.int 15) (.int 0) (.int 0) (.int 0) (.int 0) (.int 0) (.int 0) (.long 0) (.ref m0_isOpen) (.ref m0_isFallen) (.ref m0_speed) (.ref m0_fire) (.int 10) (.int (-1)) (.int 0) (.ref m0_air) (.ref m0_cameBy) (.ref m0_least) (.ref m0_before) (.ref m0_gas) (.ref m0_into) (.ref m0_rest) (.ref m0_isTold) (.ref m0_isPast) (.ref m0_kept) (.ref m0_smoke) (.ref m0_early) (.int 0) (.ref m0_manAt) (.int 0) (.ref m0_changeKind) (.ref m0_changeOf) (.ref m0_changeTo) (.ref m0_row) (.ref m0_openWas) (.ref m0_fallenWas) (.ref m0_speedWas) (.int 0) (.ref m0_readingOf) (.ref m0_low) (.ref m0_high) (.ref m0_back))), (m0_tape, .inl (km, 600, .inl f_157))] := hD
                                              refine lv_iinc (v := 15) (lv' := [(6, .int 15), (7, .int dv), (0, .ref m0), (1, .int av), (2, .int bv), (3, .int cv), (4, .int dv), (5, .int ev)]) hx hb dX14_feed_111 hl (k := 1) rfl (by decide) (by decide) rfl (fun ls hl => ?_)
                                              refine lv_goto (tgt := 23) hx hb dX14_feed_114 (by decide) ?_
                                              refine lv_iload hx hb dX14_feed_23 (lv_at hl 0 rfl) ?_
                                              refine lv_bipush (v := 20) hx hb dX14_feed_25 (by decide) ?_
                                              refine lv_icmp_ge (tgt := 117) hx hb dX14_feed_27 (by decide) (fun c_159 => ?_) (fun c_159 => ?_)
                                              · exact absurd c_159 (by decide)
                                              refine lv_iload hx hb dX14_feed_30 (lv_at hl 0 rfl) ?_
                                              refine lv_iconst (v := 4) hx hb dX14_feed_32 (by decide) ?_
                                              refine lv_icmp_ge (tgt := 40) hx hb dX14_feed_33 (by decide) (fun c_160 => ?_) (fun c_160 => ?_)
                                              · skip
                                                refine lv_iload hx hb dX14_feed_40 (lv_at hl 0 rfl) ?_
                                                refine lv_bipush (v := 8) hx hb dX14_feed_42 (by decide) ?_
                                                refine lv_icmp_ge (tgt := 51) hx hb dX14_feed_44 (by decide) (fun c_161 => ?_) (fun c_161 => ?_)
                                                · skip
                                                  refine lv_iload hx hb dX14_feed_51 (lv_at hl 0 rfl) ?_
                                                  refine lv_bipush (v := 12) hx hb dX14_feed_53 (by decide) ?_
                                                  refine lv_icmp_ge (tgt := 62) hx hb dX14_feed_55 (by decide) (fun c_162 => ?_) (fun c_162 => ?_)
                                                  · skip
                                                    refine lv_iload hx hb dX14_feed_62 (lv_at hl 0 rfl) ?_
                                                    refine lv_bipush (v := 16) hx hb dX14_feed_64 (by decide) ?_
                                                    refine lv_icmp_ge (tgt := 74) hx hb dX14_feed_66 (by decide) (fun c_163 => ?_) (fun c_163 => ?_)
                                                    · exact absurd c_163 (by decide)
                                                    refine lv_iload hx hb dX14_feed_69 (lv_at hl 6 rfl) ?_
                                                    refine lv_goto (tgt := 76) hx hb dX14_feed_71 (by decide) ?_
                                                    refine lv_istore (lv' := [(7, .int dv), (6, .int 15), (0, .ref m0), (1, .int av), (2, .int bv), (3, .int cv), (4, .int dv), (5, .int ev)]) hx hb dX14_feed_76 hl (by decide) rfl (fun ls hl => ?_)
                                                    refine lv_aload_n hx hb dX14_feed_78 rfl (lv_at hl 2 rfl) ?_
                                                    refine va_get (D := (dC, dI)) (ci := 14) (v := .ref m0_tape) (C := RX14) (T := TX14) (N := 51) hx hb hts (fun w h => wM_c (iX14 w h)) hown hK hP 0 rfl rfl 8 (by decide) (hts _ (wM_c wd_1461)) (fun _ h9 => h9) rfl dX14_feed_79 ?_
                                                    refine lv_aload_n hx hb dX14_feed_82 rfl (lv_at hl 2 rfl) ?_
                                                    refine va_get (D := (dC, dI)) (ci := 14) (v := .int 15) (C := RX14) (T := TX14) (N := 51) hx hb hts (fun w h => wM_c (iX14 w h)) hown hK hP 0 rfl rfl 9 (by decide) (hts _ (wM_c wd_1462)) (fun _ h9 => h9) rfl dX14_feed_83 ?_
                                                    refine lv_iload hx hb dX14_feed_86 (lv_at hl 0 rfl) ?_
                                                    refine lv_bipush (v := 24) hx hb dX14_feed_88 (by decide) ?_
                                                    refine lv_bipush (v := 8) hx hb dX14_feed_90 (by decide) ?_
                                                    refine lv_iload hx hb dX14_feed_92 (lv_at hl 1 rfl) ?_
                                                    refine lv_iconst (v := 4) hx hb dX14_feed_94 (by decide) ?_
                                                    refine lv_irem hx hb dX14_feed_95 (by decide) ?_
                                                    refine lv_topi (fun v_164 ev_164 => ?_)
                                                    obtain rfl : v_164 = 3 := ev_164.trans (by decide)
                                                    refine lv_imul hx hb dX14_feed_96 ?_
                                                    refine lv_topi (fun v_165 ev_165 => ?_)
                                                    obtain rfl : v_165 = 24 := ev_165.trans (by decide)
                                                    refine lv_isub hx hb dX14_feed_97 ?_
                                                    refine lv_topi (fun v_166 ev_166 => ?_)
                                                    obtain rfl : v_166 = 0 := ev_166.trans (by decide)
                                                    refine lv_ishr hx hb dX14_feed_98 ?_
                                                    refine lv_topi (fun v_167 ev_167 => ?_)
                                                    refine lv_i2b hx hb dX14_feed_99 rfl ?_
                                                    refine lv_topi (fun v_168 ev_168 => ?_)
                                                    refine va_bast hx hb hK hP hD hS 1 0 rfl rfl (by unfold vp_in; decide) dX14_feed_100 (fun H locs hP hD hS => ?_)
                                                    obtain ⟨f_169, hP, hD⟩ : ∃ f9, va_P (dC, dI) classes [(m0, .inr (14, fX14 (.int 0) (.ref m0_power) (.int 0) (.int (-1)) (.int 0) .null .null (.ref sp) (.ref m0_tape) (.int 15) (.int 0) (.int 0) (.int 0) (.int 0) (.int 0) (.int 0) (.long 0) (.ref m0_isOpen) (.ref m0_isFallen) (.ref m0_speed) (.ref m0_fire) (.int 10) (.int (-1)) (.int 0) (.ref m0_air) (.ref m0_cameBy) (.ref m0_least) (.ref m0_before) (.ref m0_gas) (.ref m0_into) (.ref m0_rest) (.ref m0_isTold) (.ref m0_isPast) (.ref m0_kept) (.ref m0_smoke) (.ref m0_early) (.int 0) (.ref m0_manAt) (.int 0) (.ref m0_changeKind) (.ref m0_changeOf) (.ref m0_changeTo) (.ref m0_row) (.ref m0_openWas) (.ref m0_fallenWas) (.ref m0_speedWas) (.int 0) (.ref m0_readingOf) (.ref m0_low) (.ref m0_high) (.ref m0_back))), (m0_tape, .inl (km, 600, .inl f9))] H ∧ va_D A [(m0, .inr (14, fX14 (.int 0) (.ref m0_power) (.int 0) (.int (-1)) (.int 0) .null .null (.ref sp) (.ref m0_tape) (.int 15) (.int 0) (.int 0) (.int 0) (.int 0) (.int 0) (.int 0) (.long 0) (.ref m0_isOpen) (.ref m0_isFallen) (.ref m0_speed) (.ref m0_fire) (.int 10) (.int (-1)) (.int 0) (.ref m0_air) (.ref m0_cameBy) (.ref m0_least) (.ref m0_before) (.ref m0_gas) (.ref m0_into) (.ref m0_rest) (.ref m0_isTold) (.ref m0_isPast) (.ref m0_kept) (.ref m0_smoke) (.ref m0_early) (.int 0) (.ref m0_manAt) (.int 0) (.ref m0_changeKind) (.ref m0_changeOf) (.ref m0_changeTo) (.ref m0_row) (.ref m0_openWas) (.ref m0_fallenWas) (.ref m0_speedWas) (.int 0) (.ref m0_readingOf) (.ref m0_low) (.ref m0_high) (.ref m0_back))), (m0_tape, .inl (km, 600, .inl f9))] := ⟨_, hP, hD⟩
                                                    refine lv_aload_n hx hb dX14_feed_101 rfl (lv_at hl 2 rfl) ?_
                                                    refine lv_dup hx hb dX14_feed_102 rfl ?_
                                                    refine va_get (D := (dC, dI)) (ci := 14) (v := .int 15) (C := RX14) (T := TX14) (N := 51) hx hb hts (fun w h => wM_c (iX14 w h)) hown hK hP 0 rfl rfl 9 (by decide) (hts _ (wM_c wd_1462)) (fun _ h9 => h9) rfl dX14_feed_103 ?_
                                                    refine lv_iconst (v := 1) hx hb dX14_feed_106 (by decide) ?_
                                                    refine lv_iadd hx hb dX14_feed_107 ?_
                                                    refine lv_topi (fun v_170 ev_170 => ?_)
                                                    obtain rfl : v_170 = 16 := ev_170.trans (by decide)
                                                    refine va_put (D := (dC, dI)) (ci := 14) (v := .int 16) (ty := .int) (C := RX14) (T := TX14) (N := 51) hx hb hts (fun w h => wM_c (iX14 w h)) tyX14 tyX14_ok nmX14 hown hK hP hD hS 0 rfl rfl 9 (by decide) (hts _ (wM_c wd_1462)) (fun _ h9 => h9) rfl (by decide +kernel) rfl rfl (Nat.le_of_ble_eq_true rfl) dX14_feed_108 (fun H locs hP hD hS => ?_)
                                                    have hP : va_P (dC, dI) classes [(m0, .inr (14, fX14 (.int 0) (.ref m0_power) (.int 0) (.int (-1)) (.int 0) .null .null (.ref sp) (.ref m0_tape) (.int 16) (.int 0) (.int 0) (.int 0) (.int 0) (.int 0) (.int 0) (.long 0) (.ref m0_isOpen) (.ref m0_isFallen) (.ref m0_speed) (.ref m0_fire) (.int 10) (.int (-1)) (.int 0) (.ref m0_air) (.ref m0_cameBy) (.ref m0_least) (.ref m0_before) (.ref m0_gas) (.ref m0_into) (.ref m0_rest) (.ref m0_isTold) (.ref m0_isPast) (.ref m0_kept) (.ref m0_smoke) (.ref m0_early) (.int 0) (.ref m0_manAt) (.int 0) (.ref m0_changeKind) (.ref m0_changeOf) (.ref m0_changeTo) (.ref m0_row) (.ref m0_openWas) (.ref m0_fallenWas) (.ref m0_speedWas) (.int 0) (.ref m0_readingOf) (.ref m0_low) (.ref m0_high) (.ref m0_back))), (m0_tape, .inl (km, 600, .inl f_169))] H := hP
                                                    have hD : va_D A [(m0, .inr (14, fX14 (.int 0) (.ref m0_power) (.int 0) (.int (-1)) (.int 0) .null .null (.ref sp) (.ref m0_tape) (.int 16) (.int 0) (.int 0) (.int 0) (.int 0) (.int 0) (.int 0) (.long 0) (.ref m0_isOpen) (.ref m0_isFallen) (.ref m0_speed) (.ref m0_fire) (.int 10) (.int (-1)) (.int 0) (.ref m0_air) (.ref m0_cameBy) (.ref m0_least) (.ref m0_before) (.ref m0_gas) (.ref m0_into) (.ref m0_rest) (.ref m0_isTold) (.ref m0_isPast) (.ref m0_kept) (.ref m0_smoke) (.ref m0_early) (.int 0) (.ref m0_manAt) (.int 0) (.ref m0_changeKind) (.ref m0_changeOf) (.ref m0_changeTo) (.ref m0_row) (.ref m0_openWas) (.ref m0_fallenWas) (.ref m0_speedWas) (.int 0) (.ref m0_readingOf) (.ref m0_low) (.ref m0_high) (.ref m0_back))), (m0_tape, .inl (km, 600, .inl f_169))] := hD
                                                    refine lv_iinc (v := 16) (lv' := [(6, .int 16), (7, .int dv), (0, .ref m0), (1, .int av), (2, .int bv), (3, .int cv), (4, .int dv), (5, .int ev)]) hx hb dX14_feed_111 hl (k := 1) rfl (by decide) (by decide) rfl (fun ls hl => ?_)
                                                    refine lv_goto (tgt := 23) hx hb dX14_feed_114 (by decide) ?_
                                                    refine lv_iload hx hb dX14_feed_23 (lv_at hl 0 rfl) ?_
                                                    refine lv_bipush (v := 20) hx hb dX14_feed_25 (by decide) ?_
                                                    refine lv_icmp_ge (tgt := 117) hx hb dX14_feed_27 (by decide) (fun c_171 => ?_) (fun c_171 => ?_)
                                                    · exact absurd c_171 (by decide)
                                                    refine lv_iload hx hb dX14_feed_30 (lv_at hl 0 rfl) ?_
                                                    refine lv_iconst (v := 4) hx hb dX14_feed_32 (by decide) ?_
                                                    refine lv_icmp_ge (tgt := 40) hx hb dX14_feed_33 (by decide) (fun c_172 => ?_) (fun c_172 => ?_)
                                                    · skip
                                                      refine lv_iload hx hb dX14_feed_40 (lv_at hl 0 rfl) ?_
                                                      refine lv_bipush (v := 8) hx hb dX14_feed_42 (by decide) ?_
                                                      refine lv_icmp_ge (tgt := 51) hx hb dX14_feed_44 (by decide) (fun c_173 => ?_) (fun c_173 => ?_)
                                                      · skip
                                                        refine lv_iload hx hb dX14_feed_51 (lv_at hl 0 rfl) ?_
                                                        refine lv_bipush (v := 12) hx hb dX14_feed_53 (by decide) ?_
                                                        refine lv_icmp_ge (tgt := 62) hx hb dX14_feed_55 (by decide) (fun c_174 => ?_) (fun c_174 => ?_)
                                                        · skip
                                                          refine lv_iload hx hb dX14_feed_62 (lv_at hl 0 rfl) ?_
                                                          refine lv_bipush (v := 16) hx hb dX14_feed_64 (by decide) ?_
                                                          refine lv_icmp_ge (tgt := 74) hx hb dX14_feed_66 (by decide) (fun c_175 => ?_) (fun c_175 => ?_)
                                                          · skip
                                                            refine lv_iload hx hb dX14_feed_74 (lv_at hl 7 rfl) ?_
                                                            refine lv_istore (lv' := [(7, .int ev), (6, .int 16), (0, .ref m0), (1, .int av), (2, .int bv), (3, .int cv), (4, .int dv), (5, .int ev)]) hx hb dX14_feed_76 hl (by decide) rfl (fun ls hl => ?_)
                                                            refine lv_aload_n hx hb dX14_feed_78 rfl (lv_at hl 2 rfl) ?_
                                                            refine va_get (D := (dC, dI)) (ci := 14) (v := .ref m0_tape) (C := RX14) (T := TX14) (N := 51) hx hb hts (fun w h => wM_c (iX14 w h)) hown hK hP 0 rfl rfl 8 (by decide) (hts _ (wM_c wd_1461)) (fun _ h9 => h9) rfl dX14_feed_79 ?_
                                                            refine lv_aload_n hx hb dX14_feed_82 rfl (lv_at hl 2 rfl) ?_
                                                            refine va_get (D := (dC, dI)) (ci := 14) (v := .int 16) (C := RX14) (T := TX14) (N := 51) hx hb hts (fun w h => wM_c (iX14 w h)) hown hK hP 0 rfl rfl 9 (by decide) (hts _ (wM_c wd_1462)) (fun _ h9 => h9) rfl dX14_feed_83 ?_
                                                            refine lv_iload hx hb dX14_feed_86 (lv_at hl 0 rfl) ?_
                                                            refine lv_bipush (v := 24) hx hb dX14_feed_88 (by decide) ?_
                                                            refine lv_bipush (v := 8) hx hb dX14_feed_90 (by decide) ?_
                                                            refine lv_iload hx hb dX14_feed_92 (lv_at hl 1 rfl) ?_
                                                            refine lv_iconst (v := 4) hx hb dX14_feed_94 (by decide) ?_
                                                            refine lv_irem hx hb dX14_feed_95 (by decide) ?_
                                                            refine lv_topi (fun v_176 ev_176 => ?_)
                                                            obtain rfl : v_176 = 0 := ev_176.trans (by decide)
                                                            refine lv_imul hx hb dX14_feed_96 ?_
                                                            refine lv_topi (fun v_177 ev_177 => ?_)
                                                            obtain rfl : v_177 = 0 := ev_177.trans (by decide)
                                                            refine lv_isub hx hb dX14_feed_97 ?_
                                                            refine lv_topi (fun v_178 ev_178 => ?_)
                                                            obtain rfl : v_178 = 24 := ev_178.trans (by decide)
                                                            refine lv_ishr hx hb dX14_feed_98 ?_
                                                            refine lv_topi (fun v_179 ev_179 => ?_)
                                                            refine lv_i2b hx hb dX14_feed_99 rfl ?_
                                                            refine lv_topi (fun v_180 ev_180 => ?_)
                                                            refine va_bast hx hb hK hP hD hS 1 0 rfl rfl (by unfold vp_in; decide) dX14_feed_100 (fun H locs hP hD hS => ?_)
                                                            obtain ⟨f_181, hP, hD⟩ : ∃ f9, va_P (dC, dI) classes [(m0, .inr (14, fX14 (.int 0) (.ref m0_power) (.int 0) (.int (-1)) (.int 0) .null .null (.ref sp) (.ref m0_tape) (.int 16) (.int 0) (.int 0) (.int 0) (.int 0) (.int 0) (.int 0) (.long 0) (.ref m0_isOpen) (.ref m0_isFallen) (.ref m0_speed) (.ref m0_fire) (.int 10) (.int (-1)) (.int 0) (.ref m0_air) (.ref m0_cameBy) (.ref m0_least) (.ref m0_before) (.ref m0_gas) (.ref m0_into) (.ref m0_rest) (.ref m0_isTold) (.ref m0_isPast) (.ref m0_kept) (.ref m0_smoke) (.ref m0_early) (.int 0) (.ref m0_manAt) (.int 0) (.ref m0_changeKind) (.ref m0_changeOf) (.ref m0_changeTo) (.ref m0_row) (.ref m0_openWas) (.ref m0_fallenWas) (.ref m0_speedWas) (.int 0) (.ref m0_readingOf) (.ref m0_low) (.ref m0_high) (.ref m0_back))), (m0_tape, .inl (km, 600, .inl f9))] H ∧ va_D A [(m0, .inr (14, fX14 (.int 0) (.ref m0_power) (.int 0) (.int (-1)) (.int 0) .null .null (.ref sp) (.ref m0_tape) (.int 16) (.int 0) (.int 0) (.int 0) (.int 0) (.int 0) (.int 0) (.long 0) (.ref m0_isOpen) (.ref m0_isFallen) (.ref m0_speed) (.ref m0_fire) (.int 10) (.int (-1)) (.int 0) (.ref m0_air) (.ref m0_cameBy) (.ref m0_least) (.ref m0_before) (.ref m0_gas) (.ref m0_into) (.ref m0_rest) (.ref m0_isTold) (.ref m0_isPast) (.ref m0_kept) (.ref m0_smoke) (.ref m0_early) (.int 0) (.ref m0_manAt) (.int 0) (.ref m0_changeKind) (.ref m0_changeOf) (.ref m0_changeTo) (.ref m0_row) (.ref m0_openWas) (.ref m0_fallenWas) (.ref m0_speedWas) (.int 0) (.ref m0_readingOf) (.ref m0_low) (.ref m0_high) (.ref m0_back))), (m0_tape, .inl (km, 600, .inl f9))] := ⟨_, hP, hD⟩
                                                            refine lv_aload_n hx hb dX14_feed_101 rfl (lv_at hl 2 rfl) ?_
                                                            refine lv_dup hx hb dX14_feed_102 rfl ?_
                                                            refine va_get (D := (dC, dI)) (ci := 14) (v := .int 16) (C := RX14) (T := TX14) (N := 51) hx hb hts (fun w h => wM_c (iX14 w h)) hown hK hP 0 rfl rfl 9 (by decide) (hts _ (wM_c wd_1462)) (fun _ h9 => h9) rfl dX14_feed_103 ?_
                                                            refine lv_iconst (v := 1) hx hb dX14_feed_106 (by decide) ?_
                                                            refine lv_iadd hx hb dX14_feed_107 ?_
                                                            refine lv_topi (fun v_182 ev_182 => ?_)
                                                            obtain rfl : v_182 = 17 := ev_182.trans (by decide)
                                                            refine va_put (D := (dC, dI)) (ci := 14) (v := .int 17) (ty := .int) (C := RX14) (T := TX14) (N := 51) hx hb hts (fun w h => wM_c (iX14 w h)) tyX14 tyX14_ok nmX14 hown hK hP hD hS 0 rfl rfl 9 (by decide) (hts _ (wM_c wd_1462)) (fun _ h9 => h9) rfl (by decide +kernel) rfl rfl (Nat.le_of_ble_eq_true rfl) dX14_feed_108 (fun H locs hP hD hS => ?_)
                                                            have hP : va_P (dC, dI) classes [(m0, .inr (14, fX14 (.int 0) (.ref m0_power) (.int 0) (.int (-1)) (.int 0) .null .null (.ref sp) (.ref m0_tape) (.int 17) (.int 0) (.int 0) (.int 0) (.int 0) (.int 0) (.int 0) (.long 0) (.ref m0_isOpen) (.ref m0_isFallen) (.ref m0_speed) (.ref m0_fire) (.int 10) (.int (-1)) (.int 0) (.ref m0_air) (.ref m0_cameBy) (.ref m0_least) (.ref m0_before) (.ref m0_gas) (.ref m0_into) (.ref m0_rest) (.ref m0_isTold) (.ref m0_isPast) (.ref m0_kept) (.ref m0_smoke) (.ref m0_early) (.int 0) (.ref m0_manAt) (.int 0) (.ref m0_changeKind) (.ref m0_changeOf) (.ref m0_changeTo) (.ref m0_row) (.ref m0_openWas) (.ref m0_fallenWas) (.ref m0_speedWas) (.int 0) (.ref m0_readingOf) (.ref m0_low) (.ref m0_high) (.ref m0_back))), (m0_tape, .inl (km, 600, .inl f_181))] H := hP
                                                            have hD : va_D A [(m0, .inr (14, fX14 (.int 0) (.ref m0_power) (.int 0) (.int (-1)) (.int 0) .null .null (.ref sp) (.ref m0_tape) (.int 17) (.int 0) (.int 0) (.int 0) (.int 0) (.int 0) (.int 0) (.long 0) (.ref m0_isOpen) (.ref m0_isFallen) (.ref m0_speed) (.ref m0_fire) (.int 10) (.int (-1)) (.int 0) (.ref m0_air) (.ref m0_cameBy) (.ref m0_least) (.ref m0_before) (.ref m0_gas) (.ref m0_into) (.ref m0_rest) (.ref m0_isTold) (.ref m0_isPast) (.ref m0_kept) (.ref m0_smoke) (.ref m0_early) (.int 0) (.ref m0_manAt) (.int 0) (.ref m0_changeKind) (.ref m0_changeOf) (.ref m0_changeTo) (.ref m0_row) (.ref m0_openWas) (.ref m0_fallenWas) (.ref m0_speedWas) (.int 0) (.ref m0_readingOf) (.ref m0_low) (.ref m0_high) (.ref m0_back))), (m0_tape, .inl (km, 600, .inl f_181))] := hD
                                                            refine lv_iinc (v := 17) (lv' := [(6, .int 17), (7, .int ev), (0, .ref m0), (1, .int av), (2, .int bv), (3, .int cv), (4, .int dv), (5, .int ev)]) hx hb dX14_feed_111 hl (k := 1) rfl (by decide) (by decide) rfl (fun ls hl => ?_)
                                                            refine lv_goto (tgt := 23) hx hb dX14_feed_114 (by decide) ?_
                                                            refine lv_iload hx hb dX14_feed_23 (lv_at hl 0 rfl) ?_
                                                            refine lv_bipush (v := 20) hx hb dX14_feed_25 (by decide) ?_
                                                            refine lv_icmp_ge (tgt := 117) hx hb dX14_feed_27 (by decide) (fun c_183 => ?_) (fun c_183 => ?_)
                                                            · exact absurd c_183 (by decide)
                                                            refine lv_iload hx hb dX14_feed_30 (lv_at hl 0 rfl) ?_
                                                            refine lv_iconst (v := 4) hx hb dX14_feed_32 (by decide) ?_
                                                            refine lv_icmp_ge (tgt := 40) hx hb dX14_feed_33 (by decide) (fun c_184 => ?_) (fun c_184 => ?_)
                                                            · skip
                                                              refine lv_iload hx hb dX14_feed_40 (lv_at hl 0 rfl) ?_
                                                              refine lv_bipush (v := 8) hx hb dX14_feed_42 (by decide) ?_
                                                              refine lv_icmp_ge (tgt := 51) hx hb dX14_feed_44 (by decide) (fun c_185 => ?_) (fun c_185 => ?_)
                                                              · skip
                                                                refine lv_iload hx hb dX14_feed_51 (lv_at hl 0 rfl) ?_
                                                                refine lv_bipush (v := 12) hx hb dX14_feed_53 (by decide) ?_
                                                                refine lv_icmp_ge (tgt := 62) hx hb dX14_feed_55 (by decide) (fun c_186 => ?_) (fun c_186 => ?_)
                                                                · skip
                                                                  refine lv_iload hx hb dX14_feed_62 (lv_at hl 0 rfl) ?_
                                                                  refine lv_bipush (v := 16) hx hb dX14_feed_64 (by decide) ?_
                                                                  refine lv_icmp_ge (tgt := 74) hx hb dX14_feed_66 (by decide) (fun c_187 => ?_) (fun c_187 => ?_)
                                                                  · skip
                                                                    refine lv_iload hx hb dX14_feed_74 (lv_at hl 7 rfl) ?_
                                                                    refine lv_istore (lv' := [(7, .int ev), (6, .int 17), (0, .ref m0), (1, .int av), (2, .int bv), (3, .int cv), (4, .int dv), (5, .int ev)]) hx hb dX14_feed_76 hl (by decide) rfl (fun ls hl => ?_)
                                                                    refine lv_aload_n hx hb dX14_feed_78 rfl (lv_at hl 2 rfl) ?_
                                                                    refine va_get (D := (dC, dI)) (ci := 14) (v := .ref m0_tape) (C := RX14) (T := TX14) (N := 51) hx hb hts (fun w h => wM_c (iX14 w h)) hown hK hP 0 rfl rfl 8 (by decide) (hts _ (wM_c wd_1461)) (fun _ h9 => h9) rfl dX14_feed_79 ?_
                                                                    refine lv_aload_n hx hb dX14_feed_82 rfl (lv_at hl 2 rfl) ?_
                                                                    refine va_get (D := (dC, dI)) (ci := 14) (v := .int 17) (C := RX14) (T := TX14) (N := 51) hx hb hts (fun w h => wM_c (iX14 w h)) hown hK hP 0 rfl rfl 9 (by decide) (hts _ (wM_c wd_1462)) (fun _ h9 => h9) rfl dX14_feed_83 ?_
                                                                    refine lv_iload hx hb dX14_feed_86 (lv_at hl 0 rfl) ?_
                                                                    refine lv_bipush (v := 24) hx hb dX14_feed_88 (by decide) ?_
                                                                    refine lv_bipush (v := 8) hx hb dX14_feed_90 (by decide) ?_
                                                                    refine lv_iload hx hb dX14_feed_92 (lv_at hl 1 rfl) ?_
                                                                    refine lv_iconst (v := 4) hx hb dX14_feed_94 (by decide) ?_
                                                                    refine lv_irem hx hb dX14_feed_95 (by decide) ?_
                                                                    refine lv_topi (fun v_188 ev_188 => ?_)
                                                                    obtain rfl : v_188 = 1 := ev_188.trans (by decide)
                                                                    refine lv_imul hx hb dX14_feed_96 ?_
                                                                    refine lv_topi (fun v_189 ev_189 => ?_)
                                                                    obtain rfl : v_189 = 8 := ev_189.trans (by decide)
                                                                    refine lv_isub hx hb dX14_feed_97 ?_
                                                                    refine lv_topi (fun v_190 ev_190 => ?_)
                                                                    obtain rfl : v_190 = 16 := ev_190.trans (by decide)
                                                                    refine lv_ishr hx hb dX14_feed_98 ?_
                                                                    refine lv_topi (fun v_191 ev_191 => ?_)
                                                                    refine lv_i2b hx hb dX14_feed_99 rfl ?_
                                                                    refine lv_topi (fun v_192 ev_192 => ?_)
                                                                    refine va_bast hx hb hK hP hD hS 1 0 rfl rfl (by unfold vp_in; decide) dX14_feed_100 (fun H locs hP hD hS => ?_)
                                                                    obtain ⟨f_193, hP, hD⟩ : ∃ f9, va_P (dC, dI) classes [(m0, .inr (14, fX14 (.int 0) (.ref m0_power) (.int 0) (.int (-1)) (.int 0) .null .null (.ref sp) (.ref m0_tape) (.int 17) (.int 0) (.int 0) (.int 0) (.int 0) (.int 0) (.int 0) (.long 0) (.ref m0_isOpen) (.ref m0_isFallen) (.ref m0_speed) (.ref m0_fire) (.int 10) (.int (-1)) (.int 0) (.ref m0_air) (.ref m0_cameBy) (.ref m0_least) (.ref m0_before) (.ref m0_gas) (.ref m0_into) (.ref m0_rest) (.ref m0_isTold) (.ref m0_isPast) (.ref m0_kept) (.ref m0_smoke) (.ref m0_early) (.int 0) (.ref m0_manAt) (.int 0) (.ref m0_changeKind) (.ref m0_changeOf) (.ref m0_changeTo) (.ref m0_row) (.ref m0_openWas) (.ref m0_fallenWas) (.ref m0_speedWas) (.int 0) (.ref m0_readingOf) (.ref m0_low) (.ref m0_high) (.ref m0_back))), (m0_tape, .inl (km, 600, .inl f9))] H ∧ va_D A [(m0, .inr (14, fX14 (.int 0) (.ref m0_power) (.int 0) (.int (-1)) (.int 0) .null .null (.ref sp) (.ref m0_tape) (.int 17) (.int 0) (.int 0) (.int 0) (.int 0) (.int 0) (.int 0) (.long 0) (.ref m0_isOpen) (.ref m0_isFallen) (.ref m0_speed) (.ref m0_fire) (.int 10) (.int (-1)) (.int 0) (.ref m0_air) (.ref m0_cameBy) (.ref m0_least) (.ref m0_before) (.ref m0_gas) (.ref m0_into) (.ref m0_rest) (.ref m0_isTold) (.ref m0_isPast) (.ref m0_kept) (.ref m0_smoke) (.ref m0_early) (.int 0) (.ref m0_manAt) (.int 0) (.ref m0_changeKind) (.ref m0_changeOf) (.ref m0_changeTo) (.ref m0_row) (.ref m0_openWas) (.ref m0_fallenWas) (.ref m0_speedWas) (.int 0) (.ref m0_readingOf) (.ref m0_low) (.ref m0_high) (.ref m0_back))), (m0_tape, .inl (km, 600, .inl f9))] := ⟨_, hP, hD⟩
                                                                    refine lv_aload_n hx hb dX14_feed_101 rfl (lv_at hl 2 rfl) ?_
                                                                    refine lv_dup hx hb dX14_feed_102 rfl ?_
                                                                    refine va_get (D := (dC, dI)) (ci := 14) (v := .int 17) (C := RX14) (T := TX14) (N := 51) hx hb hts (fun w h => wM_c (iX14 w h)) hown hK hP 0 rfl rfl 9 (by decide) (hts _ (wM_c wd_1462)) (fun _ h9 => h9) rfl dX14_feed_103 ?_
                                                                    refine lv_iconst (v := 1) hx hb dX14_feed_106 (by decide) ?_
                                                                    refine lv_iadd hx hb dX14_feed_107 ?_
                                                                    refine lv_topi (fun v_194 ev_194 => ?_)
                                                                    obtain rfl : v_194 = 18 := ev_194.trans (by decide)
                                                                    refine va_put (D := (dC, dI)) (ci := 14) (v := .int 18) (ty := .int) (C := RX14) (T := TX14) (N := 51) hx hb hts (fun w h => wM_c (iX14 w h)) tyX14 tyX14_ok nmX14 hown hK hP hD hS 0 rfl rfl 9 (by decide) (hts _ (wM_c wd_1462)) (fun _ h9 => h9) rfl (by decide +kernel) rfl rfl (Nat.le_of_ble_eq_true rfl) dX14_feed_108 (fun H locs hP hD hS => ?_)
                                                                    have hP : va_P (dC, dI) classes [(m0, .inr (14, fX14 (.int 0) (.ref m0_power) (.int 0) (.int (-1)) (.int 0) .null .null (.ref sp) (.ref m0_tape) (.int 18) (.int 0) (.int 0) (.int 0) (.int 0) (.int 0) (.int 0) (.long 0) (.ref m0_isOpen) (.ref m0_isFallen) (.ref m0_speed) (.ref m0_fire) (.int 10) (.int (-1)) (.int 0) (.ref m0_air) (.ref m0_cameBy) (.ref m0_least) (.ref m0_before) (.ref m0_gas) (.ref m0_into) (.ref m0_rest) (.ref m0_isTold) (.ref m0_isPast) (.ref m0_kept) (.ref m0_smoke) (.ref m0_early) (.int 0) (.ref m0_manAt) (.int 0) (.ref m0_changeKind) (.ref m0_changeOf) (.ref m0_changeTo) (.ref m0_row) (.ref m0_openWas) (.ref m0_fallenWas) (.ref m0_speedWas) (.int 0) (.ref m0_readingOf) (.ref m0_low) (.ref m0_high) (.ref m0_back))), (m0_tape, .inl (km, 600, .inl f_193))] H := hP
                                                                    have hD : va_D A [(m0, .inr (14, fX14 (.int 0) (.ref m0_power) (.int 0) (.int (-1)) (.int 0) .null .null (.ref sp) (.ref m0_tape) (.int 18) (.int 0) (.int 0) (.int 0) (.int 0) (.int 0) (.int 0) (.long 0) (.ref m0_isOpen) (.ref m0_isFallen) (.ref m0_speed) (.ref m0_fire) (.int 10) (.int (-1)) (.int 0) (.ref m0_air) (.ref m0_cameBy) (.ref m0_least) (.ref m0_before) (.ref m0_gas) (.ref m0_into) (.ref m0_rest) (.ref m0_isTold) (.ref m0_isPast) (.ref m0_kept) (.ref m0_smoke) (.ref m0_early) (.int 0) (.ref m0_manAt) (.int 0) (.ref m0_changeKind) (.ref m0_changeOf) (.ref m0_changeTo) (.ref m0_row) (.ref m0_openWas) (.ref m0_fallenWas) (.ref m0_speedWas) (.int 0) (.ref m0_readingOf) (.ref m0_low) (.ref m0_high) (.ref m0_back))), (m0_tape, .inl (km, 600, .inl f_193))] := hD
                                                                    refine lv_iinc (v := 18) (lv' := [(6, .int 18), (7, .int ev), (0, .ref m0), (1, .int av), (2, .int bv), (3, .int cv), (4, .int dv), (5, .int ev)]) hx hb dX14_feed_111 hl (k := 1) rfl (by decide) (by decide) rfl (fun ls hl => ?_)
                                                                    refine lv_goto (tgt := 23) hx hb dX14_feed_114 (by decide) ?_
                                                                    refine lv_iload hx hb dX14_feed_23 (lv_at hl 0 rfl) ?_
                                                                    refine lv_bipush (v := 20) hx hb dX14_feed_25 (by decide) ?_
                                                                    refine lv_icmp_ge (tgt := 117) hx hb dX14_feed_27 (by decide) (fun c_195 => ?_) (fun c_195 => ?_)
                                                                    · exact absurd c_195 (by decide)
                                                                    refine lv_iload hx hb dX14_feed_30 (lv_at hl 0 rfl) ?_
                                                                    refine lv_iconst (v := 4) hx hb dX14_feed_32 (by decide) ?_
                                                                    refine lv_icmp_ge (tgt := 40) hx hb dX14_feed_33 (by decide) (fun c_196 => ?_) (fun c_196 => ?_)
                                                                    · skip
                                                                      refine lv_iload hx hb dX14_feed_40 (lv_at hl 0 rfl) ?_
                                                                      refine lv_bipush (v := 8) hx hb dX14_feed_42 (by decide) ?_
                                                                      refine lv_icmp_ge (tgt := 51) hx hb dX14_feed_44 (by decide) (fun c_197 => ?_) (fun c_197 => ?_)
                                                                      · skip
                                                                        refine lv_iload hx hb dX14_feed_51 (lv_at hl 0 rfl) ?_
                                                                        refine lv_bipush (v := 12) hx hb dX14_feed_53 (by decide) ?_
                                                                        refine lv_icmp_ge (tgt := 62) hx hb dX14_feed_55 (by decide) (fun c_198 => ?_) (fun c_198 => ?_)
                                                                        · skip
                                                                          refine lv_iload hx hb dX14_feed_62 (lv_at hl 0 rfl) ?_
                                                                          refine lv_bipush (v := 16) hx hb dX14_feed_64 (by decide) ?_
                                                                          refine lv_icmp_ge (tgt := 74) hx hb dX14_feed_66 (by decide) (fun c_199 => ?_) (fun c_199 => ?_)
                                                                          · skip
                                                                            refine lv_iload hx hb dX14_feed_74 (lv_at hl 7 rfl) ?_
                                                                            refine lv_istore (lv' := [(7, .int ev), (6, .int 18), (0, .ref m0), (1, .int av), (2, .int bv), (3, .int cv), (4, .int dv), (5, .int ev)]) hx hb dX14_feed_76 hl (by decide) rfl (fun ls hl => ?_)
                                                                            refine lv_aload_n hx hb dX14_feed_78 rfl (lv_at hl 2 rfl) ?_
                                                                            refine va_get (D := (dC, dI)) (ci := 14) (v := .ref m0_tape) (C := RX14) (T := TX14) (N := 51) hx hb hts (fun w h => wM_c (iX14 w h)) hown hK hP 0 rfl rfl 8 (by decide) (hts _ (wM_c wd_1461)) (fun _ h9 => h9) rfl dX14_feed_79 ?_
                                                                            refine lv_aload_n hx hb dX14_feed_82 rfl (lv_at hl 2 rfl) ?_
                                                                            refine va_get (D := (dC, dI)) (ci := 14) (v := .int 18) (C := RX14) (T := TX14) (N := 51) hx hb hts (fun w h => wM_c (iX14 w h)) hown hK hP 0 rfl rfl 9 (by decide) (hts _ (wM_c wd_1462)) (fun _ h9 => h9) rfl dX14_feed_83 ?_
                                                                            refine lv_iload hx hb dX14_feed_86 (lv_at hl 0 rfl) ?_
                                                                            refine lv_bipush (v := 24) hx hb dX14_feed_88 (by decide) ?_
                                                                            refine lv_bipush (v := 8) hx hb dX14_feed_90 (by decide) ?_
                                                                            refine lv_iload hx hb dX14_feed_92 (lv_at hl 1 rfl) ?_
                                                                            refine lv_iconst (v := 4) hx hb dX14_feed_94 (by decide) ?_
                                                                            refine lv_irem hx hb dX14_feed_95 (by decide) ?_
                                                                            refine lv_topi (fun v_200 ev_200 => ?_)
                                                                            obtain rfl : v_200 = 2 := ev_200.trans (by decide)
                                                                            refine lv_imul hx hb dX14_feed_96 ?_
                                                                            refine lv_topi (fun v_201 ev_201 => ?_)
                                                                            obtain rfl : v_201 = 16 := ev_201.trans (by decide)
                                                                            refine lv_isub hx hb dX14_feed_97 ?_
                                                                            refine lv_topi (fun v_202 ev_202 => ?_)
                                                                            obtain rfl : v_202 = 8 := ev_202.trans (by decide)
                                                                            refine lv_ishr hx hb dX14_feed_98 ?_
                                                                            refine lv_topi (fun v_203 ev_203 => ?_)
                                                                            refine lv_i2b hx hb dX14_feed_99 rfl ?_
                                                                            refine lv_topi (fun v_204 ev_204 => ?_)
                                                                            refine va_bast hx hb hK hP hD hS 1 0 rfl rfl (by unfold vp_in; decide) dX14_feed_100 (fun H locs hP hD hS => ?_)
                                                                            obtain ⟨f_205, hP, hD⟩ : ∃ f9, va_P (dC, dI) classes [(m0, .inr (14, fX14 (.int 0) (.ref m0_power) (.int 0) (.int (-1)) (.int 0) .null .null (.ref sp) (.ref m0_tape) (.int 18) (.int 0) (.int 0) (.int 0) (.int 0) (.int 0) (.int 0) (.long 0) (.ref m0_isOpen) (.ref m0_isFallen) (.ref m0_speed) (.ref m0_fire) (.int 10) (.int (-1)) (.int 0) (.ref m0_air) (.ref m0_cameBy) (.ref m0_least) (.ref m0_before) (.ref m0_gas) (.ref m0_into) (.ref m0_rest) (.ref m0_isTold) (.ref m0_isPast) (.ref m0_kept) (.ref m0_smoke) (.ref m0_early) (.int 0) (.ref m0_manAt) (.int 0) (.ref m0_changeKind) (.ref m0_changeOf) (.ref m0_changeTo) (.ref m0_row) (.ref m0_openWas) (.ref m0_fallenWas) (.ref m0_speedWas) (.int 0) (.ref m0_readingOf) (.ref m0_low) (.ref m0_high) (.ref m0_back))), (m0_tape, .inl (km, 600, .inl f9))] H ∧ va_D A [(m0, .inr (14, fX14 (.int 0) (.ref m0_power) (.int 0) (.int (-1)) (.int 0) .null .null (.ref sp) (.ref m0_tape) (.int 18) (.int 0) (.int 0) (.int 0) (.int 0) (.int 0) (.int 0) (.long 0) (.ref m0_isOpen) (.ref m0_isFallen) (.ref m0_speed) (.ref m0_fire) (.int 10) (.int (-1)) (.int 0) (.ref m0_air) (.ref m0_cameBy) (.ref m0_least) (.ref m0_before) (.ref m0_gas) (.ref m0_into) (.ref m0_rest) (.ref m0_isTold) (.ref m0_isPast) (.ref m0_kept) (.ref m0_smoke) (.ref m0_early) (.int 0) (.ref m0_manAt) (.int 0) (.ref m0_changeKind) (.ref m0_changeOf) (.ref m0_changeTo) (.ref m0_row) (.ref m0_openWas) (.ref m0_fallenWas) (.ref m0_speedWas) (.int 0) (.ref m0_readingOf) (.ref m0_low) (.ref m0_high) (.ref m0_back))), (m0_tape, .inl (km, 600, .inl f9))] := ⟨_, hP, hD⟩
                                                                            refine lv_aload_n hx hb dX14_feed_101 rfl (lv_at hl 2 rfl) ?_
                                                                            refine lv_dup hx hb dX14_feed_102 rfl ?_
                                                                            refine va_get (D := (dC, dI)) (ci := 14) (v := .int 18) (C := RX14) (T := TX14) (N := 51) hx hb hts (fun w h => wM_c (iX14 w h)) hown hK hP 0 rfl rfl 9 (by decide) (hts _ (wM_c wd_1462)) (fun _ h9 => h9) rfl dX14_feed_103 ?_
                                                                            refine lv_iconst (v := 1) hx hb dX14_feed_106 (by decide) ?_
                                                                            refine lv_iadd hx hb dX14_feed_107 ?_
                                                                            refine lv_topi (fun v_206 ev_206 => ?_)
                                                                            obtain rfl : v_206 = 19 := ev_206.trans (by decide)
                                                                            refine va_put (D := (dC, dI)) (ci := 14) (v := .int 19) (ty := .int) (C := RX14) (T := TX14) (N := 51) hx hb hts (fun w h => wM_c (iX14 w h)) tyX14 tyX14_ok nmX14 hown hK hP hD hS 0 rfl rfl 9 (by decide) (hts _ (wM_c wd_1462)) (fun _ h9 => h9) rfl (by decide +kernel) rfl rfl (Nat.le_of_ble_eq_true rfl) dX14_feed_108 (fun H locs hP hD hS => ?_)
                                                                            have hP : va_P (dC, dI) classes [(m0, .inr (14, fX14 (.int 0) (.ref m0_power) (.int 0) (.int (-1)) (.int 0) .null .null (.ref sp) (.ref m0_tape) (.int 19) (.int 0) (.int 0) (.int 0) (.int 0) (.int 0) (.int 0) (.long 0) (.ref m0_isOpen) (.ref m0_isFallen) (.ref m0_speed) (.ref m0_fire) (.int 10) (.int (-1)) (.int 0) (.ref m0_air) (.ref m0_cameBy) (.ref m0_least) (.ref m0_before) (.ref m0_gas) (.ref m0_into) (.ref m0_rest) (.ref m0_isTold) (.ref m0_isPast) (.ref m0_kept) (.ref m0_smoke) (.ref m0_early) (.int 0) (.ref m0_manAt) (.int 0) (.ref m0_changeKind) (.ref m0_changeOf) (.ref m0_changeTo) (.ref m0_row) (.ref m0_openWas) (.ref m0_fallenWas) (.ref m0_speedWas) (.int 0) (.ref m0_readingOf) (.ref m0_low) (.ref m0_high) (.ref m0_back))), (m0_tape, .inl (km, 600, .inl f_205))] H := hP
                                                                            have hD : va_D A [(m0, .inr (14, fX14 (.int 0) (.ref m0_power) (.int 0) (.int (-1)) (.int 0) .null .null (.ref sp) (.ref m0_tape) (.int 19) (.int 0) (.int 0) (.int 0) (.int 0) (.int 0) (.int 0) (.long 0) (.ref m0_isOpen) (.ref m0_isFallen) (.ref m0_speed) (.ref m0_fire) (.int 10) (.int (-1)) (.int 0) (.ref m0_air) (.ref m0_cameBy) (.ref m0_least) (.ref m0_before) (.ref m0_gas) (.ref m0_into) (.ref m0_rest) (.ref m0_isTold) (.ref m0_isPast) (.ref m0_kept) (.ref m0_smoke) (.ref m0_early) (.int 0) (.ref m0_manAt) (.int 0) (.ref m0_changeKind) (.ref m0_changeOf) (.ref m0_changeTo) (.ref m0_row) (.ref m0_openWas) (.ref m0_fallenWas) (.ref m0_speedWas) (.int 0) (.ref m0_readingOf) (.ref m0_low) (.ref m0_high) (.ref m0_back))), (m0_tape, .inl (km, 600, .inl f_205))] := hD
                                                                            refine lv_iinc (v := 19) (lv' := [(6, .int 19), (7, .int ev), (0, .ref m0), (1, .int av), (2, .int bv), (3, .int cv), (4, .int dv), (5, .int ev)]) hx hb dX14_feed_111 hl (k := 1) rfl (by decide) (by decide) rfl (fun ls hl => ?_)
                                                                            refine lv_goto (tgt := 23) hx hb dX14_feed_114 (by decide) ?_
                                                                            refine lv_iload hx hb dX14_feed_23 (lv_at hl 0 rfl) ?_
                                                                            refine lv_bipush (v := 20) hx hb dX14_feed_25 (by decide) ?_
                                                                            refine lv_icmp_ge (tgt := 117) hx hb dX14_feed_27 (by decide) (fun c_207 => ?_) (fun c_207 => ?_)
                                                                            · exact absurd c_207 (by decide)
                                                                            refine lv_iload hx hb dX14_feed_30 (lv_at hl 0 rfl) ?_
                                                                            refine lv_iconst (v := 4) hx hb dX14_feed_32 (by decide) ?_
                                                                            refine lv_icmp_ge (tgt := 40) hx hb dX14_feed_33 (by decide) (fun c_208 => ?_) (fun c_208 => ?_)
                                                                            · skip
                                                                              refine lv_iload hx hb dX14_feed_40 (lv_at hl 0 rfl) ?_
                                                                              refine lv_bipush (v := 8) hx hb dX14_feed_42 (by decide) ?_
                                                                              refine lv_icmp_ge (tgt := 51) hx hb dX14_feed_44 (by decide) (fun c_209 => ?_) (fun c_209 => ?_)
                                                                              · skip
                                                                                refine lv_iload hx hb dX14_feed_51 (lv_at hl 0 rfl) ?_
                                                                                refine lv_bipush (v := 12) hx hb dX14_feed_53 (by decide) ?_
                                                                                refine lv_icmp_ge (tgt := 62) hx hb dX14_feed_55 (by decide) (fun c_210 => ?_) (fun c_210 => ?_)
                                                                                · skip
                                                                                  refine lv_iload hx hb dX14_feed_62 (lv_at hl 0 rfl) ?_
                                                                                  refine lv_bipush (v := 16) hx hb dX14_feed_64 (by decide) ?_
                                                                                  refine lv_icmp_ge (tgt := 74) hx hb dX14_feed_66 (by decide) (fun c_211 => ?_) (fun c_211 => ?_)
                                                                                  · skip
                                                                                    refine lv_iload hx hb dX14_feed_74 (lv_at hl 7 rfl) ?_
                                                                                    refine lv_istore (lv' := [(7, .int ev), (6, .int 19), (0, .ref m0), (1, .int av), (2, .int bv), (3, .int cv), (4, .int dv), (5, .int ev)]) hx hb dX14_feed_76 hl (by decide) rfl (fun ls hl => ?_)
                                                                                    refine lv_aload_n hx hb dX14_feed_78 rfl (lv_at hl 2 rfl) ?_
                                                                                    refine va_get (D := (dC, dI)) (ci := 14) (v := .ref m0_tape) (C := RX14) (T := TX14) (N := 51) hx hb hts (fun w h => wM_c (iX14 w h)) hown hK hP 0 rfl rfl 8 (by decide) (hts _ (wM_c wd_1461)) (fun _ h9 => h9) rfl dX14_feed_79 ?_
                                                                                    refine lv_aload_n hx hb dX14_feed_82 rfl (lv_at hl 2 rfl) ?_
                                                                                    refine va_get (D := (dC, dI)) (ci := 14) (v := .int 19) (C := RX14) (T := TX14) (N := 51) hx hb hts (fun w h => wM_c (iX14 w h)) hown hK hP 0 rfl rfl 9 (by decide) (hts _ (wM_c wd_1462)) (fun _ h9 => h9) rfl dX14_feed_83 ?_
                                                                                    refine lv_iload hx hb dX14_feed_86 (lv_at hl 0 rfl) ?_
                                                                                    refine lv_bipush (v := 24) hx hb dX14_feed_88 (by decide) ?_
                                                                                    refine lv_bipush (v := 8) hx hb dX14_feed_90 (by decide) ?_
                                                                                    refine lv_iload hx hb dX14_feed_92 (lv_at hl 1 rfl) ?_
                                                                                    refine lv_iconst (v := 4) hx hb dX14_feed_94 (by decide) ?_
                                                                                    refine lv_irem hx hb dX14_feed_95 (by decide) ?_
                                                                                    refine lv_topi (fun v_212 ev_212 => ?_)
                                                                                    obtain rfl : v_212 = 3 := ev_212.trans (by decide)
                                                                                    refine lv_imul hx hb dX14_feed_96 ?_
                                                                                    refine lv_topi (fun v_213 ev_213 => ?_)
                                                                                    obtain rfl : v_213 = 24 := ev_213.trans (by decide)
                                                                                    refine lv_isub hx hb dX14_feed_97 ?_
                                                                                    refine lv_topi (fun v_214 ev_214 => ?_)
                                                                                    obtain rfl : v_214 = 0 := ev_214.trans (by decide)
                                                                                    refine lv_ishr hx hb dX14_feed_98 ?_
                                                                                    refine lv_topi (fun v_215 ev_215 => ?_)
                                                                                    refine lv_i2b hx hb dX14_feed_99 rfl ?_
                                                                                    refine lv_topi (fun v_216 ev_216 => ?_)
                                                                                    refine va_bast hx hb hK hP hD hS 1 0 rfl rfl (by unfold vp_in; decide) dX14_feed_100 (fun H locs hP hD hS => ?_)
                                                                                    obtain ⟨f_217, hP, hD⟩ : ∃ f9, va_P (dC, dI) classes [(m0, .inr (14, fX14 (.int 0) (.ref m0_power) (.int 0) (.int (-1)) (.int 0) .null .null (.ref sp) (.ref m0_tape) (.int 19) (.int 0) (.int 0) (.int 0) (.int 0) (.int 0) (.int 0) (.long 0) (.ref m0_isOpen) (.ref m0_isFallen) (.ref m0_speed) (.ref m0_fire) (.int 10) (.int (-1)) (.int 0) (.ref m0_air) (.ref m0_cameBy) (.ref m0_least) (.ref m0_before) (.ref m0_gas) (.ref m0_into) (.ref m0_rest) (.ref m0_isTold) (.ref m0_isPast) (.ref m0_kept) (.ref m0_smoke) (.ref m0_early) (.int 0) (.ref m0_manAt) (.int 0) (.ref m0_changeKind) (.ref m0_changeOf) (.ref m0_changeTo) (.ref m0_row) (.ref m0_openWas) (.ref m0_fallenWas) (.ref m0_speedWas) (.int 0) (.ref m0_readingOf) (.ref m0_low) (.ref m0_high) (.ref m0_back))), (m0_tape, .inl (km, 600, .inl f9))] H ∧ va_D A [(m0, .inr (14, fX14 (.int 0) (.ref m0_power) (.int 0) (.int (-1)) (.int 0) .null .null (.ref sp) (.ref m0_tape) (.int 19) (.int 0) (.int 0) (.int 0) (.int 0) (.int 0) (.int 0) (.long 0) (.ref m0_isOpen) (.ref m0_isFallen) (.ref m0_speed) (.ref m0_fire) (.int 10) (.int (-1)) (.int 0) (.ref m0_air) (.ref m0_cameBy) (.ref m0_least) (.ref m0_before) (.ref m0_gas) (.ref m0_into) (.ref m0_rest) (.ref m0_isTold) (.ref m0_isPast) (.ref m0_kept) (.ref m0_smoke) (.ref m0_early) (.int 0) (.ref m0_manAt) (.int 0) (.ref m0_changeKind) (.ref m0_changeOf) (.ref m0_changeTo) (.ref m0_row) (.ref m0_openWas) (.ref m0_fallenWas) (.ref m0_speedWas) (.int 0) (.ref m0_readingOf) (.ref m0_low) (.ref m0_high) (.ref m0_back))), (m0_tape, .inl (km, 600, .inl f9))] := ⟨_, hP, hD⟩
                                                                                    refine lv_aload_n hx hb dX14_feed_101 rfl (lv_at hl 2 rfl) ?_
                                                                                    refine lv_dup hx hb dX14_feed_102 rfl ?_
                                                                                    refine va_get (D := (dC, dI)) (ci := 14) (v := .int 19) (C := RX14) (T := TX14) (N := 51) hx hb hts (fun w h => wM_c (iX14 w h)) hown hK hP 0 rfl rfl 9 (by decide) (hts _ (wM_c wd_1462)) (fun _ h9 => h9) rfl dX14_feed_103 ?_
                                                                                    refine lv_iconst (v := 1) hx hb dX14_feed_106 (by decide) ?_
                                                                                    refine lv_iadd hx hb dX14_feed_107 ?_
                                                                                    refine lv_topi (fun v_218 ev_218 => ?_)
                                                                                    obtain rfl : v_218 = 20 := ev_218.trans (by decide)
                                                                                    refine va_put (D := (dC, dI)) (ci := 14) (v := .int 20) (ty := .int) (C := RX14) (T := TX14) (N := 51) hx hb hts (fun w h => wM_c (iX14 w h)) tyX14 tyX14_ok nmX14 hown hK hP hD hS 0 rfl rfl 9 (by decide) (hts _ (wM_c wd_1462)) (fun _ h9 => h9) rfl (by decide +kernel) rfl rfl (Nat.le_of_ble_eq_true rfl) dX14_feed_108 (fun H locs hP hD hS => ?_)
                                                                                    have hP : va_P (dC, dI) classes [(m0, .inr (14, fX14 (.int 0) (.ref m0_power) (.int 0) (.int (-1)) (.int 0) .null .null (.ref sp) (.ref m0_tape) (.int 20) (.int 0) (.int 0) (.int 0) (.int 0) (.int 0) (.int 0) (.long 0) (.ref m0_isOpen) (.ref m0_isFallen) (.ref m0_speed) (.ref m0_fire) (.int 10) (.int (-1)) (.int 0) (.ref m0_air) (.ref m0_cameBy) (.ref m0_least) (.ref m0_before) (.ref m0_gas) (.ref m0_into) (.ref m0_rest) (.ref m0_isTold) (.ref m0_isPast) (.ref m0_kept) (.ref m0_smoke) (.ref m0_early) (.int 0) (.ref m0_manAt) (.int 0) (.ref m0_changeKind) (.ref m0_changeOf) (.ref m0_changeTo) (.ref m0_row) (.ref m0_openWas) (.ref m0_fallenWas) (.ref m0_speedWas) (.int 0) (.ref m0_readingOf) (.ref m0_low) (.ref m0_high) (.ref m0_back))), (m0_tape, .inl (km, 600, .inl f_217))] H := hP
                                                                                    have hD : va_D A [(m0, .inr (14, fX14 (.int 0) (.ref m0_power) (.int 0) (.int (-1)) (.int 0) .null .null (.ref sp) (.ref m0_tape) (.int 20) (.int 0) (.int 0) (.int 0) (.int 0) (.int 0) (.int 0) (.long 0) (.ref m0_isOpen) (.ref m0_isFallen) (.ref m0_speed) (.ref m0_fire) (.int 10) (.int (-1)) (.int 0) (.ref m0_air) (.ref m0_cameBy) (.ref m0_least) (.ref m0_before) (.ref m0_gas) (.ref m0_into) (.ref m0_rest) (.ref m0_isTold) (.ref m0_isPast) (.ref m0_kept) (.ref m0_smoke) (.ref m0_early) (.int 0) (.ref m0_manAt) (.int 0) (.ref m0_changeKind) (.ref m0_changeOf) (.ref m0_changeTo) (.ref m0_row) (.ref m0_openWas) (.ref m0_fallenWas) (.ref m0_speedWas) (.int 0) (.ref m0_readingOf) (.ref m0_low) (.ref m0_high) (.ref m0_back))), (m0_tape, .inl (km, 600, .inl f_217))] := hD
                                                                                    refine lv_iinc (v := 20) (lv' := [(6, .int 20), (7, .int ev), (0, .ref m0), (1, .int av), (2, .int bv), (3, .int cv), (4, .int dv), (5, .int ev)]) hx hb dX14_feed_111 hl (k := 1) rfl (by decide) (by decide) rfl (fun ls hl => ?_)
                                                                                    refine lv_goto (tgt := 23) hx hb dX14_feed_114 (by decide) ?_
                                                                                    refine lv_iload hx hb dX14_feed_23 (lv_at hl 0 rfl) ?_
                                                                                    refine lv_bipush (v := 20) hx hb dX14_feed_25 (by decide) ?_
                                                                                    refine lv_icmp_ge (tgt := 117) hx hb dX14_feed_27 (by decide) (fun c_219 => ?_) (fun c_219 => ?_)
                                                                                    · skip
                                                                                      refine lv_aload_n hx hb dX14_feed_117 rfl (lv_at hl 2 rfl) ?_
                                                                                      refine va_get (D := (dC, dI)) (ci := 14) (v := .int 20) (C := RX14) (T := TX14) (N := 51) hx hb hts (fun w h => wM_c (iX14 w h)) hown hK hP 0 rfl rfl 9 (by decide) (hts _ (wM_c wd_1462)) (fun _ h9 => h9) rfl dX14_feed_118 ?_
                                                                                      exact W.iret (v := 20) hx hb hr (fun t ht hW => ⟨⟨20, (), rfl, rfl, trivial⟩, hS.F ht⟩) hS.2.2 dX14_feed_121
                                                                                    · exact absurd c_219 (by decide)
                                                                                  · exact absurd c_211 (by decide)
                                                                                · exact absurd c_210 (by decide)
                                                                              · exact absurd c_209 (by decide)
                                                                            · exact absurd c_208 (by decide)
                                                                          · exact absurd c_199 (by decide)
                                                                        · exact absurd c_198 (by decide)
                                                                      · exact absurd c_197 (by decide)
                                                                    · exact absurd c_196 (by decide)
                                                                  · exact absurd c_187 (by decide)
                                                                · exact absurd c_186 (by decide)
                                                              · exact absurd c_185 (by decide)
                                                            · exact absurd c_184 (by decide)
                                                          · exact absurd c_175 (by decide)
                                                        · exact absurd c_174 (by decide)
                                                      · exact absurd c_173 (by decide)
                                                    · exact absurd c_172 (by decide)
                                                  · exact absurd c_162 (by decide)
                                                · exact absurd c_161 (by decide)
                                              · exact absurd c_160 (by decide)
                                            · exact absurd c_150 (by decide)
                                          · exact absurd c_149 (by decide)
                                        · exact absurd c_148 (by decide)
                                      · exact absurd c_138 (by decide)
                                    · exact absurd c_137 (by decide)
                                  · exact absurd c_136 (by decide)
                                · exact absurd c_126 (by decide)
                              · exact absurd c_125 (by decide)
                            · exact absurd c_124 (by decide)
                          · exact absurd c_114 (by decide)
                        · exact absurd c_113 (by decide)
                      · exact absurd c_103 (by decide)
                    · exact absurd c_102 (by decide)
                  · exact absurd c_92 (by decide)
                · exact absurd c_91 (by decide)
              · exact absurd c_81 (by decide)
            · exact absurd c_80 (by decide)
          · exact absurd c_70 (by decide)
        · exact absurd c_60 (by decide)
      · exact absurd c_50 (by decide)
    · exact absurd c_40 (by decide)
  · exact absurd c_2 (by decide)
