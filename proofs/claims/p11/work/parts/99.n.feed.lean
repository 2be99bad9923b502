theorem wd_711 : Cond.methodLink "MineAir" 83 (⟨"MineAir$Reader", "append", "(I)V"⟩ : MethodName) ∈ wG := wG_of 711 (by decide +kernel) (by decide +kernel)
theorem wd_712 : Cond.instanceMethod (⟨"MineAir$Reader", "append", "(I)V"⟩ : MethodName) ∈ wG := wG_of 712 (by decide +kernel) (by decide +kernel)
theorem wd_713 : Cond.selects "MineAir$Reader" (⟨"MineAir$Reader", "append", "(I)V"⟩ : MethodName) (⟨"MineAir$Reader", "append", "(I)V"⟩ : MethodName) ∈ wG := wG_of 713 (by decide +kernel) (by decide +kernel)
theorem wd_714 : Cond.code (⟨"MineAir$Reader", "append", "(I)V"⟩ : MethodName) prog_9_method_2_code 3 (Option.none : Option Jvm.ClassFile.FieldType) ∈ wG := wG_of 714 (by decide +kernel) (by decide +kernel)
theorem dX11_feed_0 : decode cX11_feed 0 = .ok (.aload_n 0, 1) := by decide +kernel
theorem dX11_feed_1 : decode cX11_feed 1 = .ok (.getfield 24, 3) := by decide +kernel
theorem dX11_feed_4 : decode cX11_feed 4 = .ok (.getfield 79, 3) := by decide +kernel
theorem dX11_feed_7 : decode cX11_feed 7 = .ok (.bipush 20, 2) := by decide +kernel
theorem dX11_feed_9 : decode cX11_feed 9 = .ok (.iadd, 1) := by decide +kernel
theorem dX11_feed_10 : decode cX11_feed 10 = .ok (.sipush 600, 3) := by decide +kernel
theorem dX11_feed_13 : decode cX11_feed 13 = .ok (.if_icmp .le 5, 3) := by decide +kernel
theorem dX11_feed_16 : decode cX11_feed 16 = .ok (.iconst (-1), 1) := by decide +kernel
theorem dX11_feed_17 : decode cX11_feed 17 = .ok (.ireturn, 1) := by decide +kernel
theorem dX11_feed_18 : decode cX11_feed 18 = .ok (.aload_n 0, 1) := by decide +kernel
theorem dX11_feed_19 : decode cX11_feed 19 = .ok (.getfield 24, 3) := by decide +kernel
theorem dX11_feed_22 : decode cX11_feed 22 = .ok (.iload_n 1, 1) := by decide +kernel
theorem dX11_feed_23 : decode cX11_feed 23 = .ok (.invokevirtual 83, 3) := by decide +kernel
theorem dX11_feed_26 : decode cX11_feed 26 = .ok (.aload_n 0, 1) := by decide +kernel
theorem dX11_feed_27 : decode cX11_feed 27 = .ok (.getfield 24, 3) := by decide +kernel
theorem dX11_feed_30 : decode cX11_feed 30 = .ok (.iload_n 2, 1) := by decide +kernel
theorem dX11_feed_31 : decode cX11_feed 31 = .ok (.invokevirtual 83, 3) := by decide +kernel
theorem dX11_feed_34 : decode cX11_feed 34 = .ok (.aload_n 0, 1) := by decide +kernel
theorem dX11_feed_35 : decode cX11_feed 35 = .ok (.getfield 24, 3) := by decide +kernel
theorem dX11_feed_38 : decode cX11_feed 38 = .ok (.iload_n 3, 1) := by decide +kernel
theorem dX11_feed_39 : decode cX11_feed 39 = .ok (.invokevirtual 83, 3) := by decide +kernel
theorem dX11_feed_42 : decode cX11_feed 42 = .ok (.aload_n 0, 1) := by decide +kernel
theorem dX11_feed_43 : decode cX11_feed 43 = .ok (.getfield 24, 3) := by decide +kernel
theorem dX11_feed_46 : decode cX11_feed 46 = .ok (.iload 4, 2) := by decide +kernel
theorem dX11_feed_48 : decode cX11_feed 48 = .ok (.invokevirtual 83, 3) := by decide +kernel
theorem dX11_feed_51 : decode cX11_feed 51 = .ok (.aload_n 0, 1) := by decide +kernel
theorem dX11_feed_52 : decode cX11_feed 52 = .ok (.getfield 24, 3) := by decide +kernel
theorem dX11_feed_55 : decode cX11_feed 55 = .ok (.iload 5, 2) := by decide +kernel
theorem dX11_feed_57 : decode cX11_feed 57 = .ok (.invokevirtual 83, 3) := by decide +kernel
theorem dX11_feed_60 : decode cX11_feed 60 = .ok (.aload_n 0, 1) := by decide +kernel
theorem dX11_feed_61 : decode cX11_feed 61 = .ok (.getfield 24, 3) := by decide +kernel
theorem dX11_feed_64 : decode cX11_feed 64 = .ok (.getfield 79, 3) := by decide +kernel
theorem dX11_feed_67 : decode cX11_feed 67 = .ok (.ireturn, 1) := by decide +kernel
theorem dX14_feed_0 : decode cX14_feed 0 = .ok (.aload_n 0, 1) := by decide +kernel
theorem dX14_feed_1 : decode cX14_feed 1 = .ok (.iconst 0, 1) := by decide +kernel
theorem dX14_feed_2 : decode cX14_feed 2 = .ok (.putfield 122, 3) := by decide +kernel
theorem dX14_feed_5 : decode cX14_feed 5 = .ok (.aload_n 0, 1) := by decide +kernel
theorem dX14_feed_6 : decode cX14_feed 6 = .ok (.getfield 350, 3) := by decide +kernel
theorem dX14_feed_9 : decode cX14_feed 9 = .ok (.bipush 20, 2) := by decide +kernel
theorem dX14_feed_11 : decode cX14_feed 11 = .ok (.iadd, 1) := by decide +kernel
theorem dX14_feed_12 : decode cX14_feed 12 = .ok (.sipush 600, 3) := by decide +kernel
theorem dX14_feed_15 : decode cX14_feed 15 = .ok (.if_icmp .le 5, 3) := by decide +kernel
theorem dX14_feed_18 : decode cX14_feed 18 = .ok (.iconst (-1), 1) := by decide +kernel
theorem dX14_feed_19 : decode cX14_feed 19 = .ok (.ireturn, 1) := by decide +kernel
theorem dX14_feed_20 : decode cX14_feed 20 = .ok (.iconst 0, 1) := by decide +kernel
theorem dX14_feed_21 : decode cX14_feed 21 = .ok (.istore 6, 2) := by decide +kernel
theorem dX14_feed_23 : decode cX14_feed 23 = .ok (.iload 6, 2) := by decide +kernel
theorem dX14_feed_25 : decode cX14_feed 25 = .ok (.bipush 20, 2) := by decide +kernel
theorem dX14_feed_27 : decode cX14_feed 27 = .ok (.if_icmp .ge 90, 3) := by decide +kernel
theorem dX14_feed_30 : decode cX14_feed 30 = .ok (.iload 6, 2) := by decide +kernel
theorem dX14_feed_32 : decode cX14_feed 32 = .ok (.iconst 4, 1) := by decide +kernel
theorem dX14_feed_33 : decode cX14_feed 33 = .ok (.if_icmp .ge 7, 3) := by decide +kernel
theorem dX14_feed_36 : decode cX14_feed 36 = .ok (.iload_n 1, 1) := by decide +kernel
theorem dX14_feed_37 : decode cX14_feed 37 = .ok (.goto 39, 3) := by decide +kernel
theorem dX14_feed_40 : decode cX14_feed 40 = .ok (.iload 6, 2) := by decide +kernel
theorem dX14_feed_42 : decode cX14_feed 42 = .ok (.bipush 8, 2) := by decide +kernel
theorem dX14_feed_44 : decode cX14_feed 44 = .ok (.if_icmp .ge 7, 3) := by decide +kernel
theorem dX14_feed_47 : decode cX14_feed 47 = .ok (.iload_n 2, 1) := by decide +kernel
theorem dX14_feed_48 : decode cX14_feed 48 = .ok (.goto 28, 3) := by decide +kernel
theorem dX14_feed_51 : decode cX14_feed 51 = .ok (.iload 6, 2) := by decide +kernel
theorem dX14_feed_53 : decode cX14_feed 53 = .ok (.bipush 12, 2) := by decide +kernel
theorem dX14_feed_55 : decode cX14_feed 55 = .ok (.if_icmp .ge 7, 3) := by decide +kernel
theorem dX14_feed_58 : decode cX14_feed 58 = .ok (.iload_n 3, 1) := by decide +kernel
theorem dX14_feed_59 : decode cX14_feed 59 = .ok (.goto 17, 3) := by decide +kernel
theorem dX14_feed_62 : decode cX14_feed 62 = .ok (.iload 6, 2) := by decide +kernel
theorem dX14_feed_64 : decode cX14_feed 64 = .ok (.bipush 16, 2) := by decide +kernel
theorem dX14_feed_66 : decode cX14_feed 66 = .ok (.if_icmp .ge 8, 3) := by decide +kernel
theorem dX14_feed_69 : decode cX14_feed 69 = .ok (.iload 4, 2) := by decide +kernel
theorem dX14_feed_71 : decode cX14_feed 71 = .ok (.goto 5, 3) := by decide +kernel
theorem dX14_feed_74 : decode cX14_feed 74 = .ok (.iload 5, 2) := by decide +kernel
theorem dX14_feed_76 : decode cX14_feed 76 = .ok (.istore 7, 2) := by decide +kernel
theorem dX14_feed_78 : decode cX14_feed 78 = .ok (.aload_n 0, 1) := by decide +kernel
theorem dX14_feed_79 : decode cX14_feed 79 = .ok (.getfield 24, 3) := by decide +kernel
theorem dX14_feed_82 : decode cX14_feed 82 = .ok (.aload_n 0, 1) := by decide +kernel
theorem dX14_feed_83 : decode cX14_feed 83 = .ok (.getfield 350, 3) := by decide +kernel
theorem dX14_feed_86 : decode cX14_feed 86 = .ok (.iload 7, 2) := by decide +kernel
theorem dX14_feed_88 : decode cX14_feed 88 = .ok (.bipush 24, 2) := by decide +kernel
theorem dX14_feed_90 : decode cX14_feed 90 = .ok (.bipush 8, 2) := by decide +kernel
theorem dX14_feed_92 : decode cX14_feed 92 = .ok (.iload 6, 2) := by decide +kernel
theorem dX14_feed_94 : decode cX14_feed 94 = .ok (.iconst 4, 1) := by decide +kernel
theorem dX14_feed_95 : decode cX14_feed 95 = .ok (.irem, 1) := by decide +kernel
theorem dX14_feed_96 : decode cX14_feed 96 = .ok (.imul, 1) := by decide +kernel
theorem dX14_feed_97 : decode cX14_feed 97 = .ok (.isub, 1) := by decide +kernel
theorem dX14_feed_98 : decode cX14_feed 98 = .ok (.ishr, 1) := by decide +kernel
theorem dX14_feed_99 : decode cX14_feed 99 = .ok (.i2b, 1) := by decide +kernel
theorem dX14_feed_100 : decode cX14_feed 100 = .ok (.bastore, 1) := by decide +kernel
theorem dX14_feed_101 : decode cX14_feed 101 = .ok (.aload_n 0, 1) := by decide +kernel
theorem dX14_feed_102 : decode cX14_feed 102 = .ok (.dup, 1) := by decide +kernel
theorem dX14_feed_103 : decode cX14_feed 103 = .ok (.getfield 350, 3) := by decide +kernel
theorem dX14_feed_106 : decode cX14_feed 106 = .ok (.iconst 1, 1) := by decide +kernel
theorem dX14_feed_107 : decode cX14_feed 107 = .ok (.iadd, 1) := by decide +kernel
theorem dX14_feed_108 : decode cX14_feed 108 = .ok (.putfield 350, 3) := by decide +kernel
theorem dX14_feed_111 : decode cX14_feed 111 = .ok (.iinc 6 1, 3) := by decide +kernel
theorem dX14_feed_114 : decode cX14_feed 114 = .ok (.goto (-91), 3) := by decide +kernel
theorem dX14_feed_117 : decode cX14_feed 117 = .ok (.aload_n 0, 1) := by decide +kernel
theorem dX14_feed_118 : decode cX14_feed 118 = .ok (.getfield 350, 3) := by decide +kernel
theorem dX14_feed_121 : decode cX14_feed 121 = .ok (.ireturn, 1) := by decide +kernel
theorem dX7_append_0 : decode cX7_append 0 = .ok (.bipush 24, 2) := by decide +kernel
theorem dX7_append_2 : decode cX7_append 2 = .ok (.istore_n 2, 1) := by decide +kernel
theorem dX7_append_3 : decode cX7_append 3 = .ok (.iload_n 2, 1) := by decide +kernel
theorem dX7_append_4 : decode cX7_append 4 = .ok (.ifCond .lt 45, 3) := by decide +kernel
theorem dX7_append_7 : decode cX7_append 7 = .ok (.aload_n 0, 1) := by decide +kernel
theorem dX7_append_8 : decode cX7_append 8 = .ok (.getfield 32, 3) := by decide +kernel
theorem dX7_append_11 : decode cX7_append 11 = .ok (.sipush 600, 3) := by decide +kernel
theorem dX7_append_14 : decode cX7_append 14 = .ok (.if_icmp .ge 29, 3) := by decide +kernel
theorem dX7_append_17 : decode cX7_append 17 = .ok (.aload_n 0, 1) := by decide +kernel
theorem dX7_append_18 : decode cX7_append 18 = .ok (.getfield 9, 3) := by decide +kernel
theorem dX7_append_21 : decode cX7_append 21 = .ok (.aload_n 0, 1) := by decide +kernel
theorem dX7_append_22 : decode cX7_append 22 = .ok (.getfield 32, 3) := by decide +kernel
theorem dX7_append_25 : decode cX7_append 25 = .ok (.iload_n 1, 1) := by decide +kernel
theorem dX7_append_26 : decode cX7_append 26 = .ok (.iload_n 2, 1) := by decide +kernel
theorem dX7_append_27 : decode cX7_append 27 = .ok (.ishr, 1) := by decide +kernel
theorem dX7_append_28 : decode cX7_append 28 = .ok (.sipush 255, 3) := by decide +kernel
theorem dX7_append_31 : decode cX7_append 31 = .ok (.iand, 1) := by decide +kernel
theorem dX7_append_32 : decode cX7_append 32 = .ok (.iastore, 1) := by decide +kernel
theorem dX7_append_33 : decode cX7_append 33 = .ok (.aload_n 0, 1) := by decide +kernel
theorem dX7_append_34 : decode cX7_append 34 = .ok (.dup, 1) := by decide +kernel
theorem dX7_append_35 : decode cX7_append 35 = .ok (.getfield 32, 3) := by decide +kernel
theorem dX7_append_38 : decode cX7_append 38 = .ok (.iconst 1, 1) := by decide +kernel
theorem dX7_append_39 : decode cX7_append 39 = .ok (.iadd, 1) := by decide +kernel
theorem dX7_append_40 : decode cX7_append 40 = .ok (.putfield 32, 3) := by decide +kernel
theorem dX7_append_43 : decode cX7_append 43 = .ok (.iinc 2 (-8), 3) := by decide +kernel
theorem dX7_append_46 : decode cX7_append 46 = .ok (.goto (-43), 3) := by decide +kernel
theorem dX7_append_49 : decode cX7_append 49 = .ok (.return_, 1) := by decide +kernel
set_option maxHeartbeats 4000000 in
set_option maxRecDepth 100000 in
theorem q_feed (l : Launch) (dC : Nat → ClassId) (dI : Nat → Nat → Nat) (n0 : Nat) (atx : Nat → Nat × Nat) (sz : Nat) (m0 : Nat) (m0_thrown : Int32) (m0_power : Nat) (m0_trouble : Int32) (m0_where : Int32) (m0_fault : Int32) (bv : Value) (fv : Value) (sp : Nat) (m0_tape : Nat) (tp : Nat) (m0_size : Int32) (m0_at : Int32) (m0_sort : Int32) (m0_place : Int32) (m0_mark : Int32) (m0_number : Int32) (m0_word : Int64) (m0_isOpen : Nat) (m0_isFallen : Nat) (m0_speed : Nat) (m0_fire : Nat) (m0_most : Int32) (m0_hindered : Int32) (m0_hinderedBy : Int32) (m0_air : Nat) (m0_cameBy : Nat) (m0_least : Nat) (m0_before : Nat) (m0_gas : Nat) (m0_into : Nat) (m0_rest : Nat) (m0_isTold : Nat) (m0_isPast : Nat) (m0_kept : Nat) (m0_smoke : Nat) (m0_early : Nat) (m0_men : Int32) (m0_manAt : Nat) (m0_changes : Int32) (m0_changeKind : Nat) (m0_changeOf : Nat) (m0_changeTo : Nat) (m0_row : Nat) (m0_openWas : Nat) (m0_fallenWas : Nat) (m0_speedWas : Nat) (m0_readings : Int32) (m0_readingOf : Nat) (m0_low : Nat) (m0_high : Nat) (m0_back : Nat) (k_m0_tape : ClassId) (f_m0_tape : Nat → Int32) (ea : Int32) (eb : Int32) (ec : Int32) (ed : Int32) (ee : Int32) (htp : tp ≤ 600) : Met l yX14_feed (wM yX14_feed cX14_feed 8 (some .int)) ({ frames := 0, cells := 0, slots := 0, locals := 0 }) (va_Pc [.ref m0, .int ea, .int eb, .int ec, .int ed, .int ee] (fun U => U.heap.size = sz ∧ n0 ≤ sz ∧ GW n0 atx U ∧ va_P (dC, dI) classes [(m0, .inr (14, fX14 (.int m0_thrown) (.ref m0_power) (.int m0_trouble) (.int m0_where) (.int m0_fault) bv fv (.ref sp) (.ref m0_tape) (.int (nI tp)) (.int m0_size) (.int m0_at) (.int m0_sort) (.int m0_place) (.int m0_mark) (.int m0_number) (.long m0_word) (.ref m0_isOpen) (.ref m0_isFallen) (.ref m0_speed) (.ref m0_fire) (.int m0_most) (.int m0_hindered) (.int m0_hinderedBy) (.ref m0_air) (.ref m0_cameBy) (.ref m0_least) (.ref m0_before) (.ref m0_gas) (.ref m0_into) (.ref m0_rest) (.ref m0_isTold) (.ref m0_isPast) (.ref m0_kept) (.ref m0_smoke) (.ref m0_early) (.int m0_men) (.ref m0_manAt) (.int m0_changes) (.ref m0_changeKind) (.ref m0_changeOf) (.ref m0_changeTo) (.ref m0_row) (.ref m0_openWas) (.ref m0_fallenWas) (.ref m0_speedWas) (.int m0_readings) (.ref m0_readingOf) (.ref m0_low) (.ref m0_high) (.ref m0_back))), (m0_tape, .inl (k_m0_tape, 600, .inl f_m0_tape))] U.heap ∧ va_K (dC, dI) classes [(k_m0_tape, .byte)] U ∧ va_D (fun q => n0 ≤ q) [(m0, .inr (14, fX14 (.int m0_thrown) (.ref m0_power) (.int m0_trouble) (.int m0_where) (.int m0_fault) bv fv (.ref sp) (.ref m0_tape) (.int (nI tp)) (.int m0_size) (.int m0_at) (.int m0_sort) (.int m0_place) (.int m0_mark) (.int m0_number) (.long m0_word) (.ref m0_isOpen) (.ref m0_isFallen) (.ref m0_speed) (.ref m0_fire) (.int m0_most) (.int m0_hindered) (.int m0_hinderedBy) (.ref m0_air) (.ref m0_cameBy) (.ref m0_least) (.ref m0_before) (.ref m0_gas) (.ref m0_into) (.ref m0_rest) (.ref m0_isTold) (.ref m0_isPast) (.ref m0_kept) (.ref m0_smoke) (.ref m0_early) (.int m0_men) (.ref m0_manAt) (.int m0_changes) (.ref m0_changeKind) (.ref m0_changeOf) (.ref m0_changeTo) (.ref m0_row) (.ref m0_openWas) (.ref m0_fallenWas) (.ref m0_speedWas) (.int m0_readings) (.ref m0_readingOf) (.ref m0_low) (.ref m0_high) (.ref m0_back))), (m0_tape, .inl (k_m0_tape, 600, .inl f_m0_tape))])) (va_Qi (fun (r : Int32) (_ : Unit) => r = if tp + 20 ≤ 600 then nI (tp + 20) else (-1)) (fun (_ : Unit) (t : State) => ∃ (tp9 : Nat), ∃ (ta9 : Nat → Int32), (tp9 = if tp + 20 ≤ 600 then tp + 20 else tp) ∧ va_P (dC, dI) classes [(m0, .inr (14, fX14 (.int 0) (.ref m0_power) (.int m0_trouble) (.int m0_where) (.int m0_fault) bv fv (.ref sp) (.ref m0_tape) (.int (nI tp9)) (.int m0_size) (.int m0_at) (.int m0_sort) (.int m0_place) (.int m0_mark) (.int m0_number) (.long m0_word) (.ref m0_isOpen) (.ref m0_isFallen) (.ref m0_speed) (.ref m0_fire) (.int m0_most) (.int m0_hindered) (.int m0_hinderedBy) (.ref m0_air) (.ref m0_cameBy) (.ref m0_least) (.ref m0_before) (.ref m0_gas) (.ref m0_into) (.ref m0_rest) (.ref m0_isTold) (.ref m0_isPast) (.ref m0_kept) (.ref m0_smoke) (.ref m0_early) (.int m0_men) (.ref m0_manAt) (.int m0_changes) (.ref m0_changeKind) (.ref m0_changeOf) (.ref m0_changeTo) (.ref m0_row) (.ref m0_openWas) (.ref m0_fallenWas) (.ref m0_speedWas) (.int m0_readings) (.ref m0_readingOf) (.ref m0_low) (.ref m0_high) (.ref m0_back))), (m0_tape, .inl (k_m0_tape, 600, .inl ta9))] t.heap ∧ va_K (dC, dI) classes [(k_m0_tape, .byte)] t ∧ va_D (va_A [(m0, .inr (14, fX14 (.int m0_thrown) (.ref m0_power) (.int m0_trouble) (.int m0_where) (.int m0_fault) bv fv (.ref sp) (.ref m0_tape) (.int (nI tp)) (.int m0_size) (.int m0_at) (.int m0_sort) (.int m0_place) (.int m0_mark) (.int m0_number) (.long m0_word) (.ref m0_isOpen) (.ref m0_isFallen) (.ref m0_speed) (.ref m0_fire) (.int m0_most) (.int m0_hindered) (.int m0_hinderedBy) (.ref m0_air) (.ref m0_cameBy) (.ref m0_least) (.ref m0_before) (.ref m0_gas) (.ref m0_into) (.ref m0_rest) (.ref m0_isTold) (.ref m0_isPast) (.ref m0_kept) (.ref m0_smoke) (.ref m0_early) (.int m0_men) (.ref m0_manAt) (.int m0_changes) (.ref m0_changeKind) (.ref m0_changeOf) (.ref m0_changeTo) (.ref m0_row) (.ref m0_openWas) (.ref m0_fallenWas) (.ref m0_speedWas) (.int m0_readings) (.ref m0_readingOf) (.ref m0_low) (.ref m0_high) (.ref m0_back))), (m0_tape, .inl (k_m0_tape, 600, .inl f_m0_tape))] sz) [(m0, .inr (14, fX14 (.int 0) (.ref m0_power) (.int m0_trouble) (.int m0_where) (.int m0_fault) bv fv (.ref sp) (.ref m0_tape) (.int (nI tp9)) (.int m0_size) (.int m0_at) (.int m0_sort) (.int m0_place) (.int m0_mark) (.int m0_number) (.long m0_word) (.ref m0_isOpen) (.ref m0_isFallen) (.ref m0_speed) (.ref m0_fire) (.int m0_most) (.int m0_hindered) (.int m0_hinderedBy) (.ref m0_air) (.ref m0_cameBy) (.ref m0_least) (.ref m0_before) (.ref m0_gas) (.ref m0_into) (.ref m0_rest) (.ref m0_isTold) (.ref m0_isPast) (.ref m0_kept) (.ref m0_smoke) (.ref m0_early) (.int m0_men) (.ref m0_manAt) (.int m0_changes) (.ref m0_changeKind) (.ref m0_changeOf) (.ref m0_changeTo) (.ref m0_row) (.ref m0_openWas) (.ref m0_fallenWas) (.ref m0_speedWas) (.int m0_readings) (.ref m0_readingOf) (.ref m0_low) (.ref m0_high) (.ref m0_back))), (m0_tape, .inl (k_m0_tape, 600, .inl ta9))]) (va_A [(m0, .inr (14, fX14 (.int m0_thrown) (.ref m0_power) (.int m0_trouble) (.int m0_where) (.int m0_fault) bv fv (.ref sp) (.ref m0_tape) (.int (nI tp)) (.int m0_size) (.int m0_at) (.int m0_sort) (.int m0_place) (.int m0_mark) (.int m0_number) (.long m0_word) (.ref m0_isOpen) (.ref m0_isFallen) (.ref m0_speed) (.ref m0_fire) (.int m0_most) (.int m0_hindered) (.int m0_hinderedBy) (.ref m0_air) (.ref m0_cameBy) (.ref m0_least) (.ref m0_before) (.ref m0_gas) (.ref m0_into) (.ref m0_rest) (.ref m0_isTold) (.ref m0_isPast) (.ref m0_kept) (.ref m0_smoke) (.ref m0_early) (.int m0_men) (.ref m0_manAt) (.int m0_changes) (.ref m0_changeKind) (.ref m0_changeOf) (.ref m0_changeTo) (.ref m0_row) (.ref m0_openWas) (.ref m0_fallenWas) (.ref m0_speedWas) (.int m0_readings) (.ref m0_readingOf) (.ref m0_low) (.ref m0_high) (.ref m0_back))), (m0_tape, .inl (k_m0_tape, 600, .inl f_m0_tape))] sz)) 0 0 (va_A [(m0, .inr (14, fX14 (.int m0_thrown) (.ref m0_power) (.int m0_trouble) (.int m0_where) (.int m0_fault) bv fv (.ref sp) (.ref m0_tape) (.int (nI tp)) (.int m0_size) (.int m0_at) (.int m0_sort) (.int m0_place) (.int m0_mark) (.int m0_number) (.long m0_word) (.ref m0_isOpen) (.ref m0_isFallen) (.ref m0_speed) (.ref m0_fire) (.int m0_most) (.int m0_hindered) (.int m0_hinderedBy) (.ref m0_air) (.ref m0_cameBy) (.ref m0_least) (.ref m0_before) (.ref m0_gas) (.ref m0_into) (.ref m0_rest) (.ref m0_isTold) (.ref m0_isPast) (.ref m0_kept) (.ref m0_smoke) (.ref m0_early) (.int m0_men) (.ref m0_manAt) (.int m0_changes) (.ref m0_changeKind) (.ref m0_changeOf) (.ref m0_changeTo) (.ref m0_row) (.ref m0_openWas) (.ref m0_fallenWas) (.ref m0_speedWas) (.int m0_readings) (.ref m0_readingOf) (.ref m0_low) (.ref m0_high) (.ref m0_back))), (m0_tape, .inl (k_m0_tape, 600, .inl f_m0_tape))] sz) := by
  refine Met.ofW (cc := cX14_feed) (maxL := 8) (ret := (some .int)) (by decide) rfl ?_
  intro p e s m args below meth c s₁ B hml hv
  obtain ⟨rfl, hsz, hn0, hG, hP, hK, hD0⟩ := hv
  have hx := B.exec
  have hb := B.bytes
  have hr := B.returns
  have hts := atoms_spec (ws := wM yX14_feed cX14_feed 8 (some .int)) B.pre
  have hown : s.vm.findClass RX14 = some m.cls := findClass_of_methodNamed B.named
  have hlocks := B.notSynchronized
  subst hsz
  have hD := hD0.self (sz := s.heap.size)
  have hA0 := vA_n0 hD0 hn0
  generalize hAe : va_A [(m0, .inr (14, fX14 (.int m0_thrown) (.ref m0_power) (.int m0_trouble) (.int m0_where) (.int m0_fault) bv fv (.ref sp) (.ref m0_tape) (.int (nI tp)) (.int m0_size) (.int m0_at) (.int m0_sort) (.int m0_place) (.int m0_mark) (.int m0_number) (.long m0_word) (.ref m0_isOpen) (.ref m0_isFallen) (.ref m0_speed) (.ref m0_fire) (.int m0_most) (.int m0_hindered) (.int m0_hinderedBy) (.ref m0_air) (.ref m0_cameBy) (.ref m0_least) (.ref m0_before) (.ref m0_gas) (.ref m0_into) (.ref m0_rest) (.ref m0_isTold) (.ref m0_isPast) (.ref m0_kept) (.ref m0_smoke) (.ref m0_early) (.int m0_men) (.ref m0_manAt) (.int m0_changes) (.ref m0_changeKind) (.ref m0_changeOf) (.ref m0_changeTo) (.ref m0_row) (.ref m0_openWas) (.ref m0_fallenWas) (.ref m0_speedWas) (.int m0_readings) (.ref m0_readingOf) (.ref m0_low) (.ref m0_high) (.ref m0_back))), (m0_tape, .inl (k_m0_tape, 600, .inl f_m0_tape))] s.heap.size = A at hD hA0 ⊢
  have hA : ∀ q : Nat, s.heap.size ≤ q → A q := fun q h => by rw [← hAe]; exact Or.inr h
  have hS : va_S A s.heap s.heap [] := va_S.rf
  have hl := lv_entry ([.ref m0, .int ea, .int eb, .int ec, .int ed, .int ee]) (n := 8) (Nat.le_of_ble_eq_true rfl)
  rw [lg_entry_eq]
  generalize (lg_sl ([.ref m0, .int ea, .int eb, .int ec, .int ed, .int ee]) ++ List.replicate (8 - (lg_sl ([.ref m0, .int ea, .int eb, .int ec, .int ed, .int ee])).length) Slot.unset).toArray = ls at hl ⊢
  have hl : lv_has ls 8 [(0, .ref m0), (1, .int ea), (2, .int eb), (3, .int ec), (4, .int ed), (5, .int ee)] := hl
  refine lv_aload_n hx hb dX14_feed_0 rfl (lv_at hl 0 rfl) ?_
  refine lv_iconst (v := 0) hx hb dX14_feed_1 (by decide) ?_
  refine va_put (D := (dC, dI)) (ci := 14) (v := .int 0) (ty := .int) (C := RX14) (T := TX14) (N := 51) hx hb hts (fun w h => wM_c (iX14 w h)) tyX14 tyX14_ok nmX14 hown hK hP hD hS 0 rfl rfl 0 (by decide) (hts _ (wM_c wd_1453)) (fun _ h9 => h9) rfl (by decide +kernel) rfl rfl (Nat.le_of_ble_eq_true rfl) dX14_feed_2 (fun H locs hP hD hS => ?_)
  have hP : va_P (dC, dI) classes [(m0, .inr (14, fX14 (.int 0) (.ref m0_power) (.int m0_trouble) (.int m0_where) (.int m0_fault) bv fv (.ref sp) (.ref m0_tape) (.int (nI tp)) (.int m0_size) (.int m0_at) (.int m0_sort) (.int m0_place) (.int m0_mark) (.int m0_number) (.long m0_word) (.ref m0_isOpen) (.ref m0_isFallen) (.ref m0_speed) (.ref m0_fire) (.int m0_most) (.int m0_hindered) (.int m0_hinderedBy) (.ref m0_air) (.ref m0_cameBy) (.ref m0_least) (.ref m0_before) (.ref m0_gas) (.ref m0_into) (.ref m0_rest) (.ref m0_isTold) (.ref m0_isPast) (.ref m0_kept) (.ref m0_smoke) (.ref m0_early) (.int m0_men) (.ref m0_manAt) (.int m0_changes) (.ref m0_changeKind) (.ref m0_changeOf) (.ref m0_changeTo) (.ref m0_row) (.ref m0_openWas) (.ref m0_fallenWas) (.ref m0_speedWas) (.int m0_readings) (.ref m0_readingOf) (.ref m0_low) (.ref m0_high) (.ref m0_back))), (m0_tape, .inl (k_m0_tape, 600, .inl f_m0_tape))] H := hP
  have hD : va_D A [(m0, .inr (14, fX14 (.int 0) (.ref m0_power) (.int m0_trouble) (.int m0_where) (.int m0_fault) bv fv (.ref sp) (.ref m0_tape) (.int (nI tp)) (.int m0_size) (.int m0_at) (.int m0_sort) (.int m0_place) (.int m0_mark) (.int m0_number) (.long m0_word) (.ref m0_isOpen) (.ref m0_isFallen) (.ref m0_speed) (.ref m0_fire) (.int m0_most) (.int m0_hindered) (.int m0_hinderedBy) (.ref m0_air) (.ref m0_cameBy) (.ref m0_least) (.ref m0_before) (.ref m0_gas) (.ref m0_into) (.ref m0_rest) (.ref m0_isTold) (.ref m0_isPast) (.ref m0_kept) (.ref m0_smoke) (.ref m0_early) (.int m0_men) (.ref m0_manAt) (.int m0_changes) (.ref m0_changeKind) (.ref m0_changeOf) (.ref m0_changeTo) (.ref m0_row) (.ref m0_openWas) (.ref m0_fallenWas) (.ref m0_speedWas) (.int m0_readings) (.ref m0_readingOf) (.ref m0_low) (.ref m0_high) (.ref m0_back))), (m0_tape, .inl (k_m0_tape, 600, .inl f_m0_tape))] := hD
  refine lv_aload_n hx hb dX14_feed_5 rfl (lv_at hl 0 rfl) ?_
  refine va_get (D := (dC, dI)) (ci := 14) (v := .int (nI tp)) (C := RX14) (T := TX14) (N := 51) hx hb hts (fun w h => wM_c (iX14 w h)) hown hK hP 0 rfl rfl 9 (by decide) (hts _ (wM_c wd_1462)) (fun _ h9 => h9) rfl dX14_feed_6 ?_
  refine lv_bipush (v := 20) hx hb dX14_feed_9 (by decide) ?_
  refine lv_iadd hx hb dX14_feed_11 ?_
  refine lv_topi (fun v_1 ev_1 => ?_)
  obtain rfl : v_1 = nI (tp + 20) := ev_1.trans (nI_add tp 20)
  refine lv_sipush (v := 600) hx hb dX14_feed_12 (by decide) ?_
  refine lv_icmp_le (tgt := 20) hx hb dX14_feed_15 (by decide) (fun c_2 => ?_) (fun c_2 => ?_)
  · skip
    have g_3 := n_ge (a := 600) (b := (tp + 20)) c_2 (by omega) (by omega)
    refine lv_iconst (v := 0) hx hb dX14_feed_20 (by decide) ?_
    refine lv_istore (lv' := [(6, .int 0), (0, .ref m0), (1, .int ea), (2, .int eb), (3, .int ec), (4, .int ed), (5, .int ee)]) hx hb dX14_feed_21 hl (by decide) rfl (fun ls hl => ?_)
    refine W_lp3 (I := fun (k : Nat) (t2 : Nat) (ta2 : Nat → Int32) H locs ls => (k ≤ 20 ∧ t2 = tp + k) ∧ va_P (dC, dI) classes [(m0, .inr (14, fX14 (.int 0) (.ref m0_power) (.int m0_trouble) (.int m0_where) (.int m0_fault) bv fv (.ref sp) (.ref m0_tape) (.int (nI t2)) (.int m0_size) (.int m0_at) (.int m0_sort) (.int m0_place) (.int m0_mark) (.int m0_number) (.long m0_word) (.ref m0_isOpen) (.ref m0_isFallen) (.ref m0_speed) (.ref m0_fire) (.int m0_most) (.int m0_hindered) (.int m0_hinderedBy) (.ref m0_air) (.ref m0_cameBy) (.ref m0_least) (.ref m0_before) (.ref m0_gas) (.ref m0_into) (.ref m0_rest) (.ref m0_isTold) (.ref m0_isPast) (.ref m0_kept) (.ref m0_smoke) (.ref m0_early) (.int m0_men) (.ref m0_manAt) (.int m0_changes) (.ref m0_changeKind) (.ref m0_changeOf) (.ref m0_changeTo) (.ref m0_row) (.ref m0_openWas) (.ref m0_fallenWas) (.ref m0_speedWas) (.int m0_readings) (.ref m0_readingOf) (.ref m0_low) (.ref m0_high) (.ref m0_back))), (m0_tape, .inl (k_m0_tape, 600, .inl ta2))] H ∧ va_D A [(m0, .inr (14, fX14 (.int 0) (.ref m0_power) (.int m0_trouble) (.int m0_where) (.int m0_fault) bv fv (.ref sp) (.ref m0_tape) (.int (nI t2)) (.int m0_size) (.int m0_at) (.int m0_sort) (.int m0_place) (.int m0_mark) (.int m0_number) (.long m0_word) (.ref m0_isOpen) (.ref m0_isFallen) (.ref m0_speed) (.ref m0_fire) (.int m0_most) (.int m0_hindered) (.int m0_hinderedBy) (.ref m0_air) (.ref m0_cameBy) (.ref m0_least) (.ref m0_before) (.ref m0_gas) (.ref m0_into) (.ref m0_rest) (.ref m0_isTold) (.ref m0_isPast) (.ref m0_kept) (.ref m0_smoke) (.ref m0_early) (.int m0_men) (.ref m0_manAt) (.int m0_changes) (.ref m0_changeKind) (.ref m0_changeOf) (.ref m0_changeTo) (.ref m0_row) (.ref m0_openWas) (.ref m0_fallenWas) (.ref m0_speedWas) (.int m0_readings) (.ref m0_readingOf) (.ref m0_low) (.ref m0_high) (.ref m0_back))), (m0_tape, .inl (k_m0_tape, 600, .inl ta2))] ∧ va_S A s.heap H locs ∧ lv_has ls 8 [(0, .ref m0), (1, .int ea), (2, .int eb), (3, .int ec), (4, .int ed), (5, .int ee), (6, .int (nI k))]) (μ := fun (k : Nat) (t2 : Nat) (ta2 : Nat → Int32) => 20 - k) ?_ 0 tp f_m0_tape _ _ _ ⟨(by first | with_reducible assumption | omega | exact vp_in_iff.mpr (by omega) | exact vp_in_nI (by omega) (by omega) | exact ⟨by omega, by omega⟩), hP, hD, hS, lv_sub hl [1, 2, 3, 4, 5, 6, 0] rfl⟩
    intro k t2 ta2 H locs ls hI ih_4
    obtain ⟨hk, hP, hD, hS, hl⟩ := hI
    refine lv_iload hx hb dX14_feed_23 (lv_at hl 6 rfl) ?_
    refine lv_bipush (v := 20) hx hb dX14_feed_25 (by decide) ?_
    refine lv_icmp_ge (tgt := 117) hx hb dX14_feed_27 (by decide) (fun c_5 => ?_) (fun c_5 => ?_)
    · skip
      have g_6 := n_ge (a := k) (b := 20) c_5 (by omega) (by omega)
      refine lv_aload_n hx hb dX14_feed_117 rfl (lv_at hl 0 rfl) ?_
      refine va_get (D := (dC, dI)) (ci := 14) (v := .int (nI t2)) (C := RX14) (T := TX14) (N := 51) hx hb hts (fun w h => wM_c (iX14 w h)) hown hK hP 0 rfl rfl 9 (by decide) (hts _ (wM_c wd_1462)) (fun _ h9 => h9) rfl dX14_feed_118 ?_
      have hP9 := hP.sub (ws' := [(m0, .inr (14, fX14 (.int 0) (.ref m0_power) (.int m0_trouble) (.int m0_where) (.int m0_fault) bv fv (.ref sp) (.ref m0_tape) (.int (nI t2)) (.int m0_size) (.int m0_at) (.int m0_sort) (.int m0_place) (.int m0_mark) (.int m0_number) (.long m0_word) (.ref m0_isOpen) (.ref m0_isFallen) (.ref m0_speed) (.ref m0_fire) (.int m0_most) (.int m0_hindered) (.int m0_hinderedBy) (.ref m0_air) (.ref m0_cameBy) (.ref m0_least) (.ref m0_before) (.ref m0_gas) (.ref m0_into) (.ref m0_rest) (.ref m0_isTold) (.ref m0_isPast) (.ref m0_kept) (.ref m0_smoke) (.ref m0_early) (.int m0_men) (.ref m0_manAt) (.int m0_changes) (.ref m0_changeKind) (.ref m0_changeOf) (.ref m0_changeTo) (.ref m0_row) (.ref m0_openWas) (.ref m0_fallenWas) (.ref m0_speedWas) (.int m0_readings) (.ref m0_readingOf) (.ref m0_low) (.ref m0_high) (.ref m0_back))), (m0_tape, .inl (k_m0_tape, 600, .inl ta2))]) [0, 1] rfl
      have hD9 := hD.sub (ws' := [(m0, .inr (14, fX14 (.int 0) (.ref m0_power) (.int m0_trouble) (.int m0_where) (.int m0_fault) bv fv (.ref sp) (.ref m0_tape) (.int (nI t2)) (.int m0_size) (.int m0_at) (.int m0_sort) (.int m0_place) (.int m0_mark) (.int m0_number) (.long m0_word) (.ref m0_isOpen) (.ref m0_isFallen) (.ref m0_speed) (.ref m0_fire) (.int m0_most) (.int m0_hindered) (.int m0_hinderedBy) (.ref m0_air) (.ref m0_cameBy) (.ref m0_least) (.ref m0_before) (.ref m0_gas) (.ref m0_into) (.ref m0_rest) (.ref m0_isTold) (.ref m0_isPast) (.ref m0_kept) (.ref m0_smoke) (.ref m0_early) (.int m0_men) (.ref m0_manAt) (.int m0_changes) (.ref m0_changeKind) (.ref m0_changeOf) (.ref m0_changeTo) (.ref m0_row) (.ref m0_openWas) (.ref m0_fallenWas) (.ref m0_speedWas) (.int m0_readings) (.ref m0_readingOf) (.ref m0_low) (.ref m0_high) (.ref m0_back))), (m0_tape, .inl (k_m0_tape, 600, .inl ta2))]) [0, 1] (by decide) rfl
      have hK9 := hK.sub (tys' := [(k_m0_tape, .byte)]) [0] rfl
      exact W.iret (v := (nI t2)) hx hb hr (fun t ht hW => ⟨⟨(nI t2), (), rfl, (by rw [if_pos (by omega), show t2 = tp + 20 by omega]), t2, ta2, (by rw [if_pos (by omega)]; omega), by rw [ht]; exact hP9, va_K.moved hW.alike hK9, hD9⟩, hS.F ht⟩) hS.2.2 dX14_feed_121
    · skip
      have g_7 := n_nge (a := k) (b := 20) c_5 (by omega) (by omega)
      refine lv_iload hx hb dX14_feed_30 (lv_at hl 6 rfl) ?_
      refine lv_iconst (v := 4) hx hb dX14_feed_32 (by decide) ?_
      refine lv_icmp_ge (tgt := 40) hx hb dX14_feed_33 (by decide) (fun c_8 => ?_) (fun c_8 => ?_)
      · skip
        have g_9 := n_ge (a := k) (b := 4) c_8 (by omega) (by omega)
        refine lv_iload hx hb dX14_feed_40 (lv_at hl 6 rfl) ?_
        refine lv_bipush (v := 8) hx hb dX14_feed_42 (by decide) ?_
        refine lv_icmp_ge (tgt := 51) hx hb dX14_feed_44 (by decide) (fun c_10 => ?_) (fun c_10 => ?_)
        · skip
          have g_11 := n_ge (a := k) (b := 8) c_10 (by omega) (by omega)
          refine lv_iload hx hb dX14_feed_51 (lv_at hl 6 rfl) ?_
          refine lv_bipush (v := 12) hx hb dX14_feed_53 (by decide) ?_
          refine lv_icmp_ge (tgt := 62) hx hb dX14_feed_55 (by decide) (fun c_12 => ?_) (fun c_12 => ?_)
          · skip
            have g_13 := n_ge (a := k) (b := 12) c_12 (by omega) (by omega)
            refine lv_iload hx hb dX14_feed_62 (lv_at hl 6 rfl) ?_
            refine lv_bipush (v := 16) hx hb dX14_feed_64 (by decide) ?_
            refine lv_icmp_ge (tgt := 74) hx hb dX14_feed_66 (by decide) (fun c_14 => ?_) (fun c_14 => ?_)
            · skip
              have g_15 := n_ge (a := k) (b := 16) c_14 (by omega) (by omega)
              refine lv_iload hx hb dX14_feed_74 (lv_at hl 5 rfl) ?_
              refine lv_istore (lv' := [(7, .int ee), (0, .ref m0), (1, .int ea), (2, .int eb), (3, .int ec), (4, .int ed), (5, .int ee), (6, .int (nI k))]) hx hb dX14_feed_76 hl (by decide) rfl (fun ls hl => ?_)
              refine lv_aload_n hx hb dX14_feed_78 rfl (lv_at hl 1 rfl) ?_
              refine va_get (D := (dC, dI)) (ci := 14) (v := .ref m0_tape) (C := RX14) (T := TX14) (N := 51) hx hb hts (fun w h => wM_c (iX14 w h)) hown hK hP 0 rfl rfl 8 (by decide) (hts _ (wM_c wd_1461)) (fun _ h9 => h9) rfl dX14_feed_79 ?_
              refine lv_aload_n hx hb dX14_feed_82 rfl (lv_at hl 1 rfl) ?_
              refine va_get (D := (dC, dI)) (ci := 14) (v := .int (nI t2)) (C := RX14) (T := TX14) (N := 51) hx hb hts (fun w h => wM_c (iX14 w h)) hown hK hP 0 rfl rfl 9 (by decide) (hts _ (wM_c wd_1462)) (fun _ h9 => h9) rfl dX14_feed_83 ?_
              refine lv_iload hx hb dX14_feed_86 (lv_at hl 0 rfl) ?_
              refine lv_bipush (v := 24) hx hb dX14_feed_88 (by decide) ?_
              refine lv_bipush (v := 8) hx hb dX14_feed_90 (by decide) ?_
              refine lv_iload hx hb dX14_feed_92 (lv_at hl 7 rfl) ?_
              refine lv_iconst (v := 4) hx hb dX14_feed_94 (by decide) ?_
              refine lv_irem hx hb dX14_feed_95 (by decide) ?_
              refine lv_topi (fun v_16 ev_16 => ?_)
              refine lv_imul hx hb dX14_feed_96 ?_
              refine lv_topi (fun v_17 ev_17 => ?_)
              refine lv_isub hx hb dX14_feed_97 ?_
              refine lv_topi (fun v_18 ev_18 => ?_)
              refine lv_ishr hx hb dX14_feed_98 ?_
              refine lv_topi (fun v_19 ev_19 => ?_)
              refine lv_i2b hx hb dX14_feed_99 rfl ?_
              refine lv_topi (fun v_20 ev_20 => ?_)
              refine va_bast hx hb hK hP hD hS 1 0 rfl rfl (vp_in_nI (n := t2) (by omega) (by omega)) dX14_feed_100 (fun H locs hP hD hS => ?_)
              obtain ⟨f_21, hP, hD⟩ : ∃ f9, va_P (dC, dI) classes [(m0, .inr (14, fX14 (.int 0) (.ref m0_power) (.int m0_trouble) (.int m0_where) (.int m0_fault) bv fv (.ref sp) (.ref m0_tape) (.int (nI t2)) (.int m0_size) (.int m0_at) (.int m0_sort) (.int m0_place) (.int m0_mark) (.int m0_number) (.long m0_word) (.ref m0_isOpen) (.ref m0_isFallen) (.ref m0_speed) (.ref m0_fire) (.int m0_most) (.int m0_hindered) (.int m0_hinderedBy) (.ref m0_air) (.ref m0_cameBy) (.ref m0_least) (.ref m0_before) (.ref m0_gas) (.ref m0_into) (.ref m0_rest) (.ref m0_isTold) (.ref m0_isPast) (.ref m0_kept) (.ref m0_smoke) (.ref m0_early) (.int m0_men) (.ref m0_manAt) (.int m0_changes) (.ref m0_changeKind) (.ref m0_changeOf) (.ref m0_changeTo) (.ref m0_row) (.ref m0_openWas) (.ref m0_fallenWas) (.ref m0_speedWas) (.int m0_readings) (.ref m0_readingOf) (.ref m0_low) (.ref m0_high) (.ref m0_back))), (m0_tape, .inl (k_m0_tape, 600, .inl f9))] H ∧ va_D A [(m0, .inr (14, fX14 (.int 0) (.ref m0_power) (.int m0_trouble) (.int m0_where) (.int m0_fault) bv fv (.ref sp) (.ref m0_tape) (.int (nI t2)) (.int m0_size) (.int m0_at) (.int m0_sort) (.int m0_place) (.int m0_mark) (.int m0_number) (.long m0_word) (.ref m0_isOpen) (.ref m0_isFallen) (.ref m0_speed) (.ref m0_fire) (.int m0_most) (.int m0_hindered) (.int m0_hinderedBy) (.ref m0_air) (.ref m0_cameBy) (.ref m0_least) (.ref m0_before) (.ref m0_gas) (.ref m0_into) (.ref m0_rest) (.ref m0_isTold) (.ref m0_isPast) (.ref m0_kept) (.ref m0_smoke) (.ref m0_early) (.int m0_men) (.ref m0_manAt) (.int m0_changes) (.ref m0_changeKind) (.ref m0_changeOf) (.ref m0_changeTo) (.ref m0_row) (.ref m0_openWas) (.ref m0_fallenWas) (.ref m0_speedWas) (.int m0_readings) (.ref m0_readingOf) (.ref m0_low) (.ref m0_high) (.ref m0_back))), (m0_tape, .inl (k_m0_tape, 600, .inl f9))] := ⟨_, hP, hD⟩
              refine lv_aload_n hx hb dX14_feed_101 rfl (lv_at hl 1 rfl) ?_
              refine lv_dup hx hb dX14_feed_102 rfl ?_
              refine va_get (D := (dC, dI)) (ci := 14) (v := .int (nI t2)) (C := RX14) (T := TX14) (N := 51) hx hb hts (fun w h => wM_c (iX14 w h)) hown hK hP 0 rfl rfl 9 (by decide) (hts _ (wM_c wd_1462)) (fun _ h9 => h9) rfl dX14_feed_103 ?_
              refine lv_iconst (v := 1) hx hb dX14_feed_106 (by decide) ?_
              refine lv_iadd hx hb dX14_feed_107 ?_
              refine lv_topi (fun v_22 ev_22 => ?_)
              obtain rfl : v_22 = nI (t2 + 1) := ev_22.trans (nI_add t2 1)
              refine va_put (D := (dC, dI)) (ci := 14) (v := .int (nI (t2 + 1))) (ty := .int) (C := RX14) (T := TX14) (N := 51) hx hb hts (fun w h => wM_c (iX14 w h)) tyX14 tyX14_ok nmX14 hown hK hP hD hS 0 rfl rfl 9 (by decide) (hts _ (wM_c wd_1462)) (fun _ h9 => h9) rfl (by decide +kernel) rfl rfl (Nat.le_of_ble_eq_true rfl) dX14_feed_108 (fun H locs hP hD hS => ?_)
              have hP : va_P (dC, dI) classes [(m0, .inr (14, fX14 (.int 0) (.ref m0_power) (.int m0_trouble) (.int m0_where) (.int m0_fault) bv fv (.ref sp) (.ref m0_tape) (.int (nI (t2 + 1))) (.int m0_size) (.int m0_at) (.int m0_sort) (.int m0_place) (.int m0_mark) (.int m0_number) (.long m0_word) (.ref m0_isOpen) (.ref m0_isFallen) (.ref m0_speed) (.ref m0_fire) (.int m0_most) (.int m0_hindered) (.int m0_hinderedBy) (.ref m0_air) (.ref m0_cameBy) (.ref m0_least) (.ref m0_before) (.ref m0_gas) (.ref m0_into) (.ref m0_rest) (.ref m0_isTold) (.ref m0_isPast) (.ref m0_kept) (.ref m0_smoke) (.ref m0_early) (.int m0_men) (.ref m0_manAt) (.int m0_changes) (.ref m0_changeKind) (.ref m0_changeOf) (.ref m0_changeTo) (.ref m0_row) (.ref m0_openWas) (.ref m0_fallenWas) (.ref m0_speedWas) (.int m0_readings) (.ref m0_readingOf) (.ref m0_low) (.ref m0_high) (.ref m0_back))), (m0_tape, .inl (k_m0_tape, 600, .inl f_21))] H := hP
              have hD : va_D A [(m0, .inr (14, fX14 (.int 0) (.ref m0_power) (.int m0_trouble) (.int m0_where) (.int m0_fault) bv fv (.ref sp) (.ref m0_tape) (.int (nI (t2 + 1))) (.int m0_size) (.int m0_at) (.int m0_sort) (.int m0_place) (.int m0_mark) (.int m0_number) (.long m0_word) (.ref m0_isOpen) (.ref m0_isFallen) (.ref m0_speed) (.ref m0_fire) (.int m0_most) (.int m0_hindered) (.int m0_hinderedBy) (.ref m0_air) (.ref m0_cameBy) (.ref m0_least) (.ref m0_before) (.ref m0_gas) (.ref m0_into) (.ref m0_rest) (.ref m0_isTold) (.ref m0_isPast) (.ref m0_kept) (.ref m0_smoke) (.ref m0_early) (.int m0_men) (.ref m0_manAt) (.int m0_changes) (.ref m0_changeKind) (.ref m0_changeOf) (.ref m0_changeTo) (.ref m0_row) (.ref m0_openWas) (.ref m0_fallenWas) (.ref m0_speedWas) (.int m0_readings) (.ref m0_readingOf) (.ref m0_low) (.ref m0_high) (.ref m0_back))), (m0_tape, .inl (k_m0_tape, 600, .inl f_21))] := hD
              refine lv_iinc (v := (nI (k + 1))) (lv' := [(6, .int (nI (k + 1))), (7, .int ee), (0, .ref m0), (1, .int ea), (2, .int eb), (3, .int ec), (4, .int ed), (5, .int ee)]) hx hb dX14_feed_111 hl (k := 7) rfl (nI_add _ 1) (by decide) rfl (fun ls hl => ?_)
              refine lv_goto (tgt := 23) hx hb dX14_feed_114 (by decide) ?_
              exact ih_4 (k + 1) (t2 + 1) f_21 _ _ _ ⟨(by first | with_reducible assumption | omega | exact vp_in_iff.mpr (by omega) | exact vp_in_nI (by omega) (by omega) | exact ⟨by omega, by omega⟩), hP.sub [0, 1] rfl, hD.sub [0, 1] (by decide) rfl, hS, lv_sub hl [2, 3, 4, 5, 6, 7, 0] rfl⟩ (by omega)
            · skip
              have g_23 := n_nge (a := k) (b := 16) c_14 (by omega) (by omega)
              refine lv_iload hx hb dX14_feed_69 (lv_at hl 4 rfl) ?_
              refine lv_goto (tgt := 76) hx hb dX14_feed_71 (by decide) ?_
              refine lv_istore (lv' := [(7, .int ed), (0, .ref m0), (1, .int ea), (2, .int eb), (3, .int ec), (4, .int ed), (5, .int ee), (6, .int (nI k))]) hx hb dX14_feed_76 hl (by decide) rfl (fun ls hl => ?_)
              refine lv_aload_n hx hb dX14_feed_78 rfl (lv_at hl 1 rfl) ?_
              refine va_get (D := (dC, dI)) (ci := 14) (v := .ref m0_tape) (C := RX14) (T := TX14) (N := 51) hx hb hts (fun w h => wM_c (iX14 w h)) hown hK hP 0 rfl rfl 8 (by decide) (hts _ (wM_c wd_1461)) (fun _ h9 => h9) rfl dX14_feed_79 ?_
              refine lv_aload_n hx hb dX14_feed_82 rfl (lv_at hl 1 rfl) ?_
              refine va_get (D := (dC, dI)) (ci := 14) (v := .int (nI t2)) (C := RX14) (T := TX14) (N := 51) hx hb hts (fun w h => wM_c (iX14 w h)) hown hK hP 0 rfl rfl 9 (by decide) (hts _ (wM_c wd_1462)) (fun _ h9 => h9) rfl dX14_feed_83 ?_
              refine lv_iload hx hb dX14_feed_86 (lv_at hl 0 rfl) ?_
              refine lv_bipush (v := 24) hx hb dX14_feed_88 (by decide) ?_
              refine lv_bipush (v := 8) hx hb dX14_feed_90 (by decide) ?_
              refine lv_iload hx hb dX14_feed_92 (lv_at hl 7 rfl) ?_
              refine lv_iconst (v := 4) hx hb dX14_feed_94 (by decide) ?_
              refine lv_irem hx hb dX14_feed_95 (by decide) ?_
              refine lv_topi (fun v_24 ev_24 => ?_)
              refine lv_imul hx hb dX14_feed_96 ?_
              refine lv_topi (fun v_25 ev_25 => ?_)
              refine lv_isub hx hb dX14_feed_97 ?_
              refine lv_topi (fun v_26 ev_26 => ?_)
              refine lv_ishr hx hb dX14_feed_98 ?_
              refine lv_topi (fun v_27 ev_27 => ?_)
              refine lv_i2b hx hb dX14_feed_99 rfl ?_
              refine lv_topi (fun v_28 ev_28 => ?_)
              refine va_bast hx hb hK hP hD hS 1 0 rfl rfl (vp_in_nI (n := t2) (by omega) (by omega)) dX14_feed_100 (fun H locs hP hD hS => ?_)
              obtain ⟨f_29, hP, hD⟩ : ∃ f9, va_P (dC, dI) classes [(m0, .inr (14, fX14 (.int 0) (.ref m0_power) (.int m0_trouble) (.int m0_where) (.int m0_fault) bv fv (.ref sp) (.ref m0_tape) (.int (nI t2)) (.int m0_size) (.int m0_at) (.int m0_sort) (.int m0_place) (.int m0_mark) (.int m0_number) (.long m0_word) (.ref m0_isOpen) (.ref m0_isFallen) (.ref m0_speed) (.ref m0_fire) (.int m0_most) (.int m0_hindered) (.int m0_hinderedBy) (.ref m0_air) (.ref m0_cameBy) (.ref m0_least) (.ref m0_before) (.ref m0_gas) (.ref m0_into) (.ref m0_rest) (.ref m0_isTold) (.ref m0_isPast) (.ref m0_kept) (.ref m0_smoke) (.ref m0_early) (.int m0_men) (.ref m0_manAt) (.int m0_changes) (.ref m0_changeKind) (.ref m0_changeOf) (.ref m0_changeTo) (.ref m0_row) (.ref m0_openWas) (.ref m0_fallenWas) (.ref m0_speedWas) (.int m0_readings) (.ref m0_readingOf) (.ref m0_low) (.ref m0_high) (.ref m0_back))), (m0_tape, .inl (k_m0_tape, 600, .inl f9))] H ∧ va_D A [(m0, .inr (14, fX14 (.int 0) (.ref m0_power) (.int m0_trouble) (.int m0_where) (.int m0_fault) bv fv (.ref sp) (.ref m0_tape) (.int (nI t2)) (.int m0_size) (.int m0_at) (.int m0_sort) (.int m0_place) (.int m0_mark) (.int m0_number) (.long m0_word) (.ref m0_isOpen) (.ref m0_isFallen) (.ref m0_speed) (.ref m0_fire) (.int m0_most) (.int m0_hindered) (.int m0_hinderedBy) (.ref m0_air) (.ref m0_cameBy) (.ref m0_least) (.ref m0_before) (.ref m0_gas) (.ref m0_into) (.ref m0_rest) (.ref m0_isTold) (.ref m0_isPast) (.ref m0_kept) (.ref m0_smoke) (.ref m0_early) (.int m0_men) (.ref m0_manAt) (.int m0_changes) (.ref m0_changeKind) (.ref m0_changeOf) (.ref m0_changeTo) (.ref m0_row) (.ref m0_openWas) (.ref m0_fallenWas) (.ref m0_speedWas) (.int m0_readings) (.ref m0_readingOf) (.ref m0_low) (.ref m0_high) (.ref m0_back))), (m0_tape, .inl (k_m0_tape, 600, .inl f9))] := ⟨_, hP, hD⟩
              refine lv_aload_n hx hb dX14_feed_101 rfl (lv_at hl 1 rfl) ?_
              refine lv_dup hx hb dX14_feed_102 rfl ?_
              refine va_get (D := (dC, dI)) (ci := 14) (v := .int (nI t2)) (C := RX14) (T := TX14) (N := 51) hx hb hts (fun w h => wM_c (iX14 w h)) hown hK hP 0 rfl rfl 9 (by decide) (hts _ (wM_c wd_1462)) (fun _ h9 => h9) rfl dX14_feed_103 ?_
              refine lv_iconst (v := 1) hx hb dX14_feed_106 (by decide) ?_
              refine lv_iadd hx hb dX14_feed_107 ?_
              refine lv_topi (fun v_30 ev_30 => ?_)
              obtain rfl : v_30 = nI (t2 + 1) := ev_30.trans (nI_add t2 1)
              refine va_put (D := (dC, dI)) (ci := 14) (v := .int (nI (t2 + 1))) (ty := .int) (C := RX14) (T := TX14) (N := 51) hx hb hts (fun w h => wM_c (iX14 w h)) tyX14 tyX14_ok nmX14 hown hK hP hD hS 0 rfl rfl 9 (by decide) (hts _ (wM_c wd_1462)) (fun _ h9 => h9) rfl (by decide +kernel) rfl rfl (Nat.le_of_ble_eq_true rfl) dX14_feed_108 (fun H locs hP hD hS => ?_)
              have hP : va_P (dC, dI) classes [(m0, .inr (14, fX14 (.int 0) (.ref m0_power) (.int m0_trouble) (.int m0_where) (.int m0_fault) bv fv (.ref sp) (.ref m0_tape) (.int (nI (t2 + 1))) (.int m0_size) (.int m0_at) (.int m0_sort) (.int m0_place) (.int m0_mark) (.int m0_number) (.long m0_word) (.ref m0_isOpen) (.ref m0_isFallen) (.ref m0_speed) (.ref m0_fire) (.int m0_most) (.int m0_hindered) (.int m0_hinderedBy) (.ref m0_air) (.ref m0_cameBy) (.ref m0_least) (.ref m0_before) (.ref m0_gas) (.ref m0_into) (.ref m0_rest) (.ref m0_isTold) (.ref m0_isPast) (.ref m0_kept) (.ref m0_smoke) (.ref m0_early) (.int m0_men) (.ref m0_manAt) (.int m0_changes) (.ref m0_changeKind) (.ref m0_changeOf) (.ref m0_changeTo) (.ref m0_row) (.ref m0_openWas) (.ref m0_fallenWas) (.ref m0_speedWas) (.int m0_readings) (.ref m0_readingOf) (.ref m0_low) (.ref m0_high) (.ref m0_back))), (m0_tape, .inl (k_m0_tape, 600, .inl f_29))] H := hP
              have hD : va_D A [(m0, .inr (14, fX14 (.int 0) (.ref m0_power) (.int m0_trouble) (.int m0_where) (.int m0_fault) bv fv (.ref sp) (.ref m0_tape) (.int (nI (t2 + 1))) (.int m0_size) (.int m0_at) (.int m0_sort) (.int m0_place) (.int m0_mark) (.int m0_number) (.long m0_word) (.ref m0_isOpen) (.ref m0_isFallen) (.ref m0_speed) (.ref m0_fire) (.int m0_most) (.int m0_hindered) (.int m0_hinderedBy) (.ref m0_air) (.ref m0_cameBy) (.ref m0_least) (.ref m0_before) (.ref m0_gas) (.ref m0_into) (.ref m0_rest) (.ref m0_isTold) (.ref m0_isPast) (.ref m0_kept) (.ref m0_smoke) (.ref m0_early) (.int m0_men) (.ref m0_manAt) (.int m0_changes) (.ref m0_changeKind) (.ref m0_changeOf) (.ref m0_changeTo) (.ref m0_row) (.ref m0_openWas) (.ref m0_fallenWas) (.ref m0_speedWas) (.int m0_readings) (.ref m0_readingOf) (.ref m0_low) (.ref m0_high) (.ref m0_back))), (m0_tape, .inl (k_m0_tape, 600, .inl f_29))] := hD
              refine lv_iinc (v := (nI (k + 1))) (lv' := [(6, .int (nI (k + 1))), (7, .int ed), (0, .ref m0), (1, .int ea), (2, .int eb), (3, .int ec), (4, .int ed), (5, .int ee)]) hx hb dX14_feed_111 hl (k := 7) rfl (nI_add _ 1) (by decide) rfl (fun ls hl => ?_)
              refine lv_goto (tgt := 23) hx hb dX14_feed_114 (by decide) ?_
              exact ih_4 (k + 1) (t2 + 1) f_29 _ _ _ ⟨(by first | with_reducible assumption | omega | exact vp_in_iff.mpr (by omega) | exact vp_in_nI (by omega) (by omega) | exact ⟨by omega, by omega⟩), hP.sub [0, 1] rfl, hD.sub [0, 1] (by decide) rfl, hS, lv_sub hl [2, 3, 4, 5, 6, 7, 0] rfl⟩ (by omega)
          · skip
            have g_31 := n_nge (a := k) (b := 12) c_12 (by omega) (by omega)
            refine lv_iload_n hx hb dX14_feed_58 rfl (lv_at hl 3 rfl) ?_
            refine lv_goto (tgt := 76) hx hb dX14_feed_59 (by decide) ?_
            refine lv_istore (lv' := [(7, .int ec), (0, .ref m0), (1, .int ea), (2, .int eb), (3, .int ec), (4, .int ed), (5, .int ee), (6, .int (nI k))]) hx hb dX14_feed_76 hl (by decide) rfl (fun ls hl => ?_)
            refine lv_aload_n hx hb dX14_feed_78 rfl (lv_at hl 1 rfl) ?_
            refine va_get (D := (dC, dI)) (ci := 14) (v := .ref m0_tape) (C := RX14) (T := TX14) (N := 51) hx hb hts (fun w h => wM_c (iX14 w h)) hown hK hP 0 rfl rfl 8 (by decide) (hts _ (wM_c wd_1461)) (fun _ h9 => h9) rfl dX14_feed_79 ?_
            refine lv_aload_n hx hb dX14_feed_82 rfl (lv_at hl 1 rfl) ?_
            refine va_get (D := (dC, dI)) (ci := 14) (v := .int (nI t2)) (C := RX14) (T := TX14) (N := 51) hx hb hts (fun w h => wM_c (iX14 w h)) hown hK hP 0 rfl rfl 9 (by decide) (hts _ (wM_c wd_1462)) (fun _ h9 => h9) rfl dX14_feed_83 ?_
            refine lv_iload hx hb dX14_feed_86 (lv_at hl 0 rfl) ?_
            refine lv_bipush (v := 24) hx hb dX14_feed_88 (by decide) ?_
            refine lv_bipush (v := 8) hx hb dX14_feed_90 (by decide) ?_
            refine lv_iload hx hb dX14_feed_92 (lv_at hl 7 rfl) ?_
            refine lv_iconst (v := 4) hx hb dX14_feed_94 (by decide) ?_
            refine lv_irem hx hb dX14_feed_95 (by decide) ?_
            refine lv_topi (fun v_32 ev_32 => ?_)
            refine lv_imul hx hb dX14_feed_96 ?_
            refine lv_topi (fun v_33 ev_33 => ?_)
            refine lv_isub hx hb dX14_feed_97 ?_
            refine lv_topi (fun v_34 ev_34 => ?_)
            refine lv_ishr hx hb dX14_feed_98 ?_
            refine lv_topi (fun v_35 ev_35 => ?_)
            refine lv_i2b hx hb dX14_feed_99 rfl ?_
            refine lv_topi (fun v_36 ev_36 => ?_)
            refine va_bast hx hb hK hP hD hS 1 0 rfl rfl (vp_in_nI (n := t2) (by omega) (by omega)) dX14_feed_100 (fun H locs hP hD hS => ?_)
            obtain ⟨f_37, hP, hD⟩ : ∃ f9, va_P (dC, dI) classes [(m0, .inr (14, fX14 (.int 0) (.ref m0_power) (.int m0_trouble) (.int m0_where) (.int m0_fault) bv fv (.ref sp) (.ref m0_tape) (.int (nI t2)) (.int m0_size) (.int m0_at) (.int m0_sort) (.int m0_place) (.int m0_mark) (.int m0_number) (.long m0_word) (.ref m0_isOpen) (.ref m0_isFallen) (.ref m0_speed) (.ref m0_fire) (.int m0_most) (.int m0_hindered) (.int m0_hinderedBy) (.ref m0_air) (.ref m0_cameBy) (.ref m0_least) (.ref m0_before) (.ref m0_gas) (.ref m0_into) (.ref m0_rest) (.ref m0_isTold) (.ref m0_isPast) (.ref m0_kept) (.ref m0_smoke) (.ref m0_early) (.int m0_men) (.ref m0_manAt) (.int m0_changes) (.ref m0_changeKind) (.ref m0_changeOf) (.ref m0_changeTo) (.ref m0_row) (.ref m0_openWas) (.ref m0_fallenWas) (.ref m0_speedWas) (.int m0_readings) (.ref m0_readingOf) (.ref m0_low) (.ref m0_high) (.ref m0_back))), (m0_tape, .inl (k_m0_tape, 600, .inl f9))] H ∧ va_D A [(m0, .inr (14, fX14 (.int 0) (.ref m0_power) (.int m0_trouble) (.int m0_where) (.int m0_fault) bv fv (.ref sp) (.ref m0_tape) (.int (nI t2)) (.int m0_size) (.int m0_at) (.int m0_sort) (.int m0_place) (.int m0_mark) (.int m0_number) (.long m0_word) (.ref m0_isOpen) (.ref m0_isFallen) (.ref m0_speed) (.ref m0_fire) (.int m0_most) (.int m0_hindered) (.int m0_hinderedBy) (.ref m0_air) (.ref m0_cameBy) (.ref m0_least) (.ref m0_before) (.ref m0_gas) (.ref m0_into) (.ref m0_rest) (.ref m0_isTold) (.ref m0_isPast) (.ref m0_kept) (.ref m0_smoke) (.ref m0_early) (.int m0_men) (.ref m0_manAt) (.int m0_changes) (.ref m0_changeKind) (.ref m0_changeOf) (.ref m0_changeTo) (.ref m0_row) (.ref m0_openWas) (.ref m0_fallenWas) (.ref m0_speedWas) (.int m0_readings) (.ref m0_readingOf) (.ref m0_low) (.ref m0_high) (.ref m0_back))), (m0_tape, .inl (k_m0_tape, 600, .inl f9))] := ⟨_, hP, hD⟩
            refine lv_aload_n hx hb dX14_feed_101 rfl (lv_at hl 1 rfl) ?_
            refine lv_dup hx hb dX14_feed_102 rfl ?_
            refine va_get (D := (dC, dI)) (ci := 14) (v := .int (nI t2)) (C := RX14) (T := TX14) (N := 51) hx hb hts (fun w h => wM_c (iX14 w h)) hown hK hP 0 rfl rfl 9 (by decide) (hts _ (wM_c wd_1462)) (fun _ h9 => h9) rfl dX14_feed_103 ?_
            refine lv_iconst (v := 1) hx hb dX14_feed_106 (by decide) ?_
            refine lv_iadd hx hb dX14_feed_107 ?_
            refine lv_topi (fun v_38 ev_38 => ?_)
            obtain rfl : v_38 = nI (t2 + 1) := ev_38.trans (nI_add t2 1)
            refine va_put (D := (dC, dI)) (ci := 14) (v := .int (nI (t2 + 1))) (ty := .int) (C := RX14) (T := TX14) (N := 51) hx hb hts (fun w h => wM_c (iX14 w h)) tyX14 tyX14_ok nmX14 hown hK hP hD hS 0 rfl rfl 9 (by decide) (hts _ (wM_c wd_1462)) (fun _ h9 => h9) rfl (by decide +kernel) rfl rfl (Nat.le_of_ble_eq_true rfl) dX14_feed_108 (fun H locs hP hD hS => ?_)
            have hP : va_P (dC, dI) classes [(m0, .inr (14, fX14 (.int 0) (.ref m0_power) (.int m0_trouble) (.int m0_where) (.int m0_fault) bv fv (.ref sp) (.ref m0_tape) (.int (nI (t2 + 1))) (.int m0_size) (.int m0_at) (.int m0_sort) (.int m0_place) (.int m0_mark) (.int m0_number) (.long m0_word) (.ref m0_isOpen) (.ref m0_isFallen) (.ref m0_speed) (.ref m0_fire) (.int m0_most) (.int m0_hindered) (.int m0_hinderedBy) (.ref m0_air) (.ref m0_cameBy) (.ref m0_least) (.ref m0_before) (.ref m0_gas) (.ref m0_into) (.ref m0_rest) (.ref m0_isTold) (.ref m0_isPast) (.ref m0_kept) (.ref m0_smoke) (.ref m0_early) (.int m0_men) (.ref m0_manAt) (.int m0_changes) (.ref m0_changeKind) (.ref m0_changeOf) (.ref m0_changeTo) (.ref m0_row) (.ref m0_openWas) (.ref m0_fallenWas) (.ref m0_speedWas) (.int m0_readings) (.ref m0_readingOf) (.ref m0_low) (.ref m0_high) (.ref m0_back))), (m0_tape, .inl (k_m0_tape, 600, .inl f_37))] H := hP
            have hD : va_D A [(m0, .inr (14, fX14 (.int 0) (.ref m0_power) (.int m0_trouble) (.int m0_where) (.int m0_fault) bv fv (.ref sp) (.ref m0_tape) (.int (nI (t2 + 1))) (.int m0_size) (.int m0_at) (.int m0_sort) (.int m0_place) (.int m0_mark) (.int m0_number) (.long m0_word) (.ref m0_isOpen) (.ref m0_isFallen) (.ref m0_speed) (.ref m0_fire) (.int m0_most) (.int m0_hindered) (.int m0_hinderedBy) (.ref m0_air) (.ref m0_cameBy) (.ref m0_least) (.ref m0_before) (.ref m0_gas) (.ref m0_into) (.ref m0_rest) (.ref m0_isTold) (.ref m0_isPast) (.ref m0_kept) (.ref m0_smoke) (.ref m0_early) (.int m0_men) (.ref m0_manAt) (.int m0_changes) (.ref m0_changeKind) (.ref m0_changeOf) (.ref m0_changeTo) (.ref m0_row) (.ref m0_openWas) (.ref m0_fallenWas) (.ref m0_speedWas) (.int m0_readings) (.ref m0_readingOf) (.ref m0_low) (.ref m0_high) (.ref m0_back))), (m0_tape, .inl (k_m0_tape, 600, .inl f_37))] := hD
            refine lv_iinc (v := (nI (k + 1))) (lv' := [(6, .int (nI (k + 1))), (7, .int ec), (0, .ref m0), (1, .int ea), (2, .int eb), (3, .int ec), (4, .int ed), (5, .int ee)]) hx hb dX14_feed_111 hl (k := 7) rfl (nI_add _ 1) (by decide) rfl (fun ls hl => ?_)
            refine lv_goto (tgt := 23) hx hb dX14_feed_114 (by decide) ?_
            exact ih_4 (k + 1) (t2 + 1) f_37 _ _ _ ⟨(by first | with_reducible assumption | omega | exact vp_in_iff.mpr (by omega) | exact vp_in_nI (by omega) (by omega) | exact ⟨by omega, by omega⟩), hP.sub [0, 1] rfl, hD.sub [0, 1] (by decide) rfl, hS, lv_sub hl [2, 3, 4, 5, 6, 7, 0] rfl⟩ (by omega)
        · skip
          have g_39 := n_nge (a := k) (b := 8) c_10 (by omega) (by omega)
          refine lv_iload_n hx hb dX14_feed_47 rfl (lv_at hl 2 rfl) ?_
          refine lv_goto (tgt := 76) hx hb dX14_feed_48 (by decide) ?_
          refine lv_istore (lv' := [(7, .int eb), (0, .ref m0), (1, .int ea), (2, .int eb), (3, .int ec), (4, .int ed), (5, .int ee), (6, .int (nI k))]) hx hb dX14_feed_76 hl (by decide) rfl (fun ls hl => ?_)
          refine lv_aload_n hx hb dX14_feed_78 rfl (lv_at hl 1 rfl) ?_
          refine va_get (D := (dC, dI)) (ci := 14) (v := .ref m0_tape) (C := RX14) (T := TX14) (N := 51) hx hb hts (fun w h => wM_c (iX14 w h)) hown hK hP 0 rfl rfl 8 (by decide) (hts _ (wM_c wd_1461)) (fun _ h9 => h9) rfl dX14_feed_79 ?_
          refine lv_aload_n hx hb dX14_feed_82 rfl (lv_at hl 1 rfl) ?_
          refine va_get (D := (dC, dI)) (ci := 14) (v := .int (nI t2)) (C := RX14) (T := TX14) (N := 51) hx hb hts (fun w h => wM_c (iX14 w h)) hown hK hP 0 rfl rfl 9 (by decide) (hts _ (wM_c wd_1462)) (fun _ h9 => h9) rfl dX14_feed_83 ?_
          refine lv_iload hx hb dX14_feed_86 (lv_at hl 0 rfl) ?_
          refine lv_bipush (v := 24) hx hb dX14_feed_88 (by decide) ?_
          refine lv_bipush (v := 8) hx hb dX14_feed_90 (by decide) ?_
          refine lv_iload hx hb dX14_feed_92 (lv_at hl 7 rfl) ?_
          refine lv_iconst (v := 4) hx hb dX14_feed_94 (by decide) ?_
          refine lv_irem hx hb dX14_feed_95 (by decide) ?_
          refine lv_topi (fun v_40 ev_40 => ?_)
          refine lv_imul hx hb dX14_feed_96 ?_
          refine lv_topi (fun v_41 ev_41 => ?_)
          refine lv_isub hx hb dX14_feed_97 ?_
          refine lv_topi (fun v_42 ev_42 => ?_)
          refine lv_ishr hx hb dX14_feed_98 ?_
          refine lv_topi (fun v_43 ev_43 => ?_)
          refine lv_i2b hx hb dX14_feed_99 rfl ?_
          refine lv_topi (fun v_44 ev_44 => ?_)
          refine va_bast hx hb hK hP hD hS 1 0 rfl rfl (vp_in_nI (n := t2) (by omega) (by omega)) dX14_feed_100 (fun H locs hP hD hS => ?_)
          obtain ⟨f_45, hP, hD⟩ : ∃ f9, va_P (dC, dI) classes [(m0, .inr (14, fX14 (.int 0) (.ref m0_power) (.int m0_trouble) (.int m0_where) (.int m0_fault) bv fv (.ref sp) (.ref m0_tape) (.int (nI t2)) (.int m0_size) (.int m0_at) (.int m0_sort) (.int m0_place) (.int m0_mark) (.int m0_number) (.long m0_word) (.ref m0_isOpen) (.ref m0_isFallen) (.ref m0_speed) (.ref m0_fire) (.int m0_most) (.int m0_hindered) (.int m0_hinderedBy) (.ref m0_air) (.ref m0_cameBy) (.ref m0_least) (.ref m0_before) (.ref m0_gas) (.ref m0_into) (.ref m0_rest) (.ref m0_isTold) (.ref m0_isPast) (.ref m0_kept) (.ref m0_smoke) (.ref m0_early) (.int m0_men) (.ref m0_manAt) (.int m0_changes) (.ref m0_changeKind) (.ref m0_changeOf) (.ref m0_changeTo) (.ref m0_row) (.ref m0_openWas) (.ref m0_fallenWas) (.ref m0_speedWas) (.int m0_readings) (.ref m0_readingOf) (.ref m0_low) (.ref m0_high) (.ref m0_back))), (m0_tape, .inl (k_m0_tape, 600, .inl f9))] H ∧ va_D A [(m0, .inr (14, fX14 (.int 0) (.ref m0_power) (.int m0_trouble) (.int m0_where) (.int m0_fault) bv fv (.ref sp) (.ref m0_tape) (.int (nI t2)) (.int m0_size) (.int m0_at) (.int m0_sort) (.int m0_place) (.int m0_mark) (.int m0_number) (.long m0_word) (.ref m0_isOpen) (.ref m0_isFallen) (.ref m0_speed) (.ref m0_fire) (.int m0_most) (.int m0_hindered) (.int m0_hinderedBy) (.ref m0_air) (.ref m0_cameBy) (.ref m0_least) (.ref m0_before) (.ref m0_gas) (.ref m0_into) (.ref m0_rest) (.ref m0_isTold) (.ref m0_isPast) (.ref m0_kept) (.ref m0_smoke) (.ref m0_early) (.int m0_men) (.ref m0_manAt) (.int m0_changes) (.ref m0_changeKind) (.ref m0_changeOf) (.ref m0_changeTo) (.ref m0_row) (.ref m0_openWas) (.ref m0_fallenWas) (.ref m0_speedWas) (.int m0_readings) (.ref m0_readingOf) (.ref m0_low) (.ref m0_high) (.ref m0_back))), (m0_tape, .inl (k_m0_tape, 600, .inl f9))] := ⟨_, hP, hD⟩
          refine lv_aload_n hx hb dX14_feed_101 rfl (lv_at hl 1 rfl) ?_
          refine lv_dup hx hb dX14_feed_102 rfl ?_
          refine va_get (D := (dC, dI)) (ci := 14) (v := .int (nI t2)) (C := RX14) (T := TX14) (N := 51) hx hb hts (fun w h => wM_c (iX14 w h)) hown hK hP 0 rfl rfl 9 (by decide) (hts _ (wM_c wd_1462)) (fun _ h9 => h9) rfl dX14_feed_103 ?_
          refine lv_iconst (v := 1) hx hb dX14_feed_106 (by decide) ?_
          refine lv_iadd hx hb dX14_feed_107 ?_
          refine lv_topi (fun v_46 ev_46 => ?_)
          obtain rfl : v_46 = nI (t2 + 1) := ev_46.trans (nI_add t2 1)
          refine va_put (D := (dC, dI)) (ci := 14) (v := .int (nI (t2 + 1))) (ty := .int) (C := RX14) (T := TX14) (N := 51) hx hb hts (fun w h => wM_c (iX14 w h)) tyX14 tyX14_ok nmX14 hown hK hP hD hS 0 rfl rfl 9 (by decide) (hts _ (wM_c wd_1462)) (fun _ h9 => h9) rfl (by decide +kernel) rfl rfl (Nat.le_of_ble_eq_true rfl) dX14_feed_108 (fun H locs hP hD hS => ?_)
          have hP : va_P (dC, dI) classes [(m0, .inr (14, fX14 (.int 0) (.ref m0_power) (.int m0_trouble) (.int m0_where) (.int m0_fault) bv fv (.ref sp) (.ref m0_tape) (.int (nI (t2 + 1))) (.int m0_size) (.int m0_at) (.int m0_sort) (.int m0_place) (.int m0_mark) (.int m0_number) (.long m0_word) (.ref m0_isOpen) (.ref m0_isFallen) (.ref m0_speed) (.ref m0_fire) (.int m0_most) (.int m0_hindered) (.int m0_hinderedBy) (.ref m0_air) (.ref m0_cameBy) (.ref m0_least) (.ref m0_before) (.ref m0_gas) (.ref m0_into) (.ref m0_rest) (.ref m0_isTold) (.ref m0_isPast) (.ref m0_kept) (.ref m0_smoke) (.ref m0_early) (.int m0_men) (.ref m0_manAt) (.int m0_changes) (.ref m0_changeKind) (.ref m0_changeOf) (.ref m0_changeTo) (.ref m0_row) (.ref m0_openWas) (.ref m0_fallenWas) (.ref m0_speedWas) (.int m0_readings) (.ref m0_readingOf) (.ref m0_low) (.ref m0_high) (.ref m0_back))), (m0_tape, .inl (k_m0_tape, 600, .inl f_45))] H := hP
          have hD : va_D A [(m0, .inr (14, fX14 (.int 0) (.ref m0_power) (.int m0_trouble) (.int m0_where) (.int m0_fault) bv fv (.ref sp) (.ref m0_tape) (.int (nI (t2 + 1))) (.int m0_size) (.int m0_at) (.int m0_sort) (.int m0_place) (.int m0_mark) (.int m0_number) (.long m0_word) (.ref m0_isOpen) (.ref m0_isFallen) (.ref m0_speed) (.ref m0_fire) (.int m0_most) (.int m0_hindered) (.int m0_hinderedBy) (.ref m0_air) (.ref m0_cameBy) (.ref m0_least) (.ref m0_before) (.ref m0_gas) (.ref m0_into) (.ref m0_rest) (.ref m0_isTold) (.ref m0_isPast) (.ref m0_kept) (.ref m0_smoke) (.ref m0_early) (.int m0_men) (.ref m0_manAt) (.int m0_changes) (.ref m0_changeKind) (.ref m0_changeOf) (.ref m0_changeTo) (.ref m0_row) (.ref m0_openWas) (.ref m0_fallenWas) (.ref m0_speedWas) (.int m0_readings) (.ref m0_readingOf) (.ref m0_low) (.ref m0_high) (.ref m0_back))), (m0_tape, .inl (k_m0_tape, 600, .inl f_45))] := hD
          refine lv_iinc (v := (nI (k + 1))) (lv' := [(6, .int (nI (k + 1))), (7, .int eb), (0, .ref m0), (1, .int ea), (2, .int eb), (3, .int ec), (4, .int ed), (5, .int ee)]) hx hb dX14_feed_111 hl (k := 7) rfl (nI_add _ 1) (by decide) rfl (fun ls hl => ?_)
          refine lv_goto (tgt := 23) hx hb dX14_feed_114 (by decide) ?_
          exact ih_4 (k + 1) (t2 + 1) f_45 _ _ _ ⟨(by first | with_reducible assumption | omega | exact vp_in_iff.mpr (by omega) | exact vp_in_nI (by omega) (by omega) | exact ⟨by omega, by omega⟩), hP.sub [0, 1] rfl, hD.sub [0, 1] (by decide) rfl, hS, lv_sub hl [2, 3, 4, 5, 6, 7, 0] rfl⟩ (by omega)
      · skip
        have g_47 := n_nge (a := k) (b := 4) c_8 (by omega) (by omega)
        refine lv_iload_n hx hb dX14_feed_36 rfl (lv_at hl 1 rfl) ?_
        refine lv_goto (tgt := 76) hx hb dX14_feed_37 (by decide) ?_
        refine lv_istore (lv' := [(7, .int ea), (0, .ref m0), (1, .int ea), (2, .int eb), (3, .int ec), (4, .int ed), (5, .int ee), (6, .int (nI k))]) hx hb dX14_feed_76 hl (by decide) rfl (fun ls hl => ?_)
        refine lv_aload_n hx hb dX14_feed_78 rfl (lv_at hl 1 rfl) ?_
        refine va_get (D := (dC, dI)) (ci := 14) (v := .ref m0_tape) (C := RX14) (T := TX14) (N := 51) hx hb hts (fun w h => wM_c (iX14 w h)) hown hK hP 0 rfl rfl 8 (by decide) (hts _ (wM_c wd_1461)) (fun _ h9 => h9) rfl dX14_feed_79 ?_
        refine lv_aload_n hx hb dX14_feed_82 rfl (lv_at hl 1 rfl) ?_
        refine va_get (D := (dC, dI)) (ci := 14) (v := .int (nI t2)) (C := RX14) (T := TX14) (N := 51) hx hb hts (fun w h => wM_c (iX14 w h)) hown hK hP 0 rfl rfl 9 (by decide) (hts _ (wM_c wd_1462)) (fun _ h9 => h9) rfl dX14_feed_83 ?_
        refine lv_iload hx hb dX14_feed_86 (lv_at hl 0 rfl) ?_
        refine lv_bipush (v := 24) hx hb dX14_feed_88 (by decide) ?_
        refine lv_bipush (v := 8) hx hb dX14_feed_90 (by decide) ?_
        refine lv_iload hx hb dX14_feed_92 (lv_at hl 7 rfl) ?_
        refine lv_iconst (v := 4) hx hb dX14_feed_94 (by decide) ?_
        refine lv_irem hx hb dX14_feed_95 (by decide) ?_
        refine lv_topi (fun v_48 ev_48 => ?_)
        refine lv_imul hx hb dX14_feed_96 ?_
        refine lv_topi (fun v_49 ev_49 => ?_)
        refine lv_isub hx hb dX14_feed_97 ?_
        refine lv_topi (fun v_50 ev_50 => ?_)
        refine lv_ishr hx hb dX14_feed_98 ?_
        refine lv_topi (fun v_51 ev_51 => ?_)
        refine lv_i2b hx hb dX14_feed_99 rfl ?_
        refine lv_topi (fun v_52 ev_52 => ?_)
        refine va_bast hx hb hK hP hD hS 1 0 rfl rfl (vp_in_nI (n := t2) (by omega) (by omega)) dX14_feed_100 (fun H locs hP hD hS => ?_)
        obtain ⟨f_53, hP, hD⟩ : ∃ f9, va_P (dC, dI) classes [(m0, .inr (14, fX14 (.int 0) (.ref m0_power) (.int m0_trouble) (.int m0_where) (.int m0_fault) bv fv (.ref sp) (.ref m0_tape) (.int (nI t2)) (.int m0_size) (.int m0_at) (.int m0_sort) (.int m0_place) (.int m0_mark) (.int m0_number) (.long m0_word) (.ref m0_isOpen) (.ref m0_isFallen) (.ref m0_speed) (.ref m0_fire) (.int m0_most) (.int m0_hindered) (.int m0_hinderedBy) (.ref m0_air) (.ref m0_cameBy) (.ref m0_least) (.ref m0_before) (.ref m0_gas) (.ref m0_into) (.ref m0_rest) (.ref m0_isTold) (.ref m0_isPast) (.ref m0_kept) (.ref m0_smoke) (.ref m0_early) (.int m0_men) (.ref m0_manAt) (.int m0_changes) (.ref m0_changeKind) (.ref m0_changeOf) (.ref m0_changeTo) (.ref m0_row) (.ref m0_openWas) (.ref m0_fallenWas) (.ref m0_speedWas) (.int m0_readings) (.ref m0_readingOf) (.ref m0_low) (.ref m0_high) (.ref m0_back))), (m0_tape, .inl (k_m0_tape, 600, .inl f9))] H ∧ va_D A [(m0, .inr (14, fX14 (.int 0) (.ref m0_power) (.int m0_trouble) (.int m0_where) (.int m0_fault) bv fv (.ref sp) (.ref m0_tape) (.int (nI t2)) (.int m0_size) (.int m0_at) (.int m0_sort) (.int m0_place) (.int m0_mark) (.int m0_number) (.long m0_word) (.ref m0_isOpen) (.ref m0_isFallen) (.ref m0_speed) (.ref m0_fire) (.int m0_most) (.int m0_hindered) (.int m0_hinderedBy) (.ref m0_air) (.ref m0_cameBy) (.ref m0_least) (.ref m0_before) (.ref m0_gas) (.ref m0_into) (.ref m0_rest) (.ref m0_isTold) (.ref m0_isPast) (.ref m0_kept) (.ref m0_smoke) (.ref m0_early) (.int m0_men) (.ref m0_manAt) (.int m0_changes) (.ref m0_changeKind) (.ref m0_changeOf) (.ref m0_changeTo) (.ref m0_row) (.ref m0_openWas) (.ref m0_fallenWas) (.ref m0_speedWas) (.int m0_readings) (.ref m0_readingOf) (.ref m0_low) (.ref m0_high) (.ref m0_back))), (m0_tape, .inl (k_m0_tape, 600, .inl f9))] := ⟨_, hP, hD⟩
        refine lv_aload_n hx hb dX14_feed_101 rfl (lv_at hl 1 rfl) ?_
        refine lv_dup hx hb dX14_feed_102 rfl ?_
        refine va_get (D := (dC, dI)) (ci := 14) (v := .int (nI t2)) (C := RX14) (T := TX14) (N := 51) hx hb hts (fun w h => wM_c (iX14 w h)) hown hK hP 0 rfl rfl 9 (by decide) (hts _ (wM_c wd_1462)) (fun _ h9 => h9) rfl dX14_feed_103 ?_
        refine lv_iconst (v := 1) hx hb dX14_feed_106 (by decide) ?_
        refine lv_iadd hx hb dX14_feed_107 ?_
        refine lv_topi (fun v_54 ev_54 => ?_)
        obtain rfl : v_54 = nI (t2 + 1) := ev_54.trans (nI_add t2 1)
        refine va_put (D := (dC, dI)) (ci := 14) (v := .int (nI (t2 + 1))) (ty := .int) (C := RX14) (T := TX14) (N := 51) hx hb hts (fun w h => wM_c (iX14 w h)) tyX14 tyX14_ok nmX14 hown hK hP hD hS 0 rfl rfl 9 (by decide) (hts _ (wM_c wd_1462)) (fun _ h9 => h9) rfl (by decide +kernel) rfl rfl (Nat.le_of_ble_eq_true rfl) dX14_feed_108 (fun H locs hP hD hS => ?_)
        have hP : va_P (dC, dI) classes [(m0, .inr (14, fX14 (.int 0) (.ref m0_power) (.int m0_trouble) (.int m0_where) (.int m0_fault) bv fv (.ref sp) (.ref m0_tape) (.int (nI (t2 + 1))) (.int m0_size) (.int m0_at) (.int m0_sort) (.int m0_place) (.int m0_mark) (.int m0_number) (.long m0_word) (.ref m0_isOpen) (.ref m0_isFallen) (.ref m0_speed) (.ref m0_fire) (.int m0_most) (.int m0_hindered) (.int m0_hinderedBy) (.ref m0_air) (.ref m0_cameBy) (.ref m0_least) (.ref m0_before) (.ref m0_gas) (.ref m0_into) (.ref m0_rest) (.ref m0_isTold) (.ref m0_isPast) (.ref m0_kept) (.ref m0_smoke) (.ref m0_early) (.int m0_men) (.ref m0_manAt) (.int m0_changes) (.ref m0_changeKind) (.ref m0_changeOf) (.ref m0_changeTo) (.ref m0_row) (.ref m0_openWas) (.ref m0_fallenWas) (.ref m0_speedWas) (.int m0_readings) (.ref m0_readingOf) (.ref m0_low) (.ref m0_high) (.ref m0_back))), (m0_tape, .inl (k_m0_tape, 600, .inl f_53))] H := hP
        have hD : va_D A [(m0, .inr (14, fX14 (.int 0) (.ref m0_power) (.int m0_trouble) (.int m0_where) (.int m0_fault) bv fv (.ref sp) (.ref m0_tape) (.int (nI (t2 + 1))) (.int m0_size) (.int m0_at) (.int m0_sort) (.int m0_place) (.int m0_mark) (.int m0_number) (.long m0_word) (.ref m0_isOpen) (.ref m0_isFallen) (.ref m0_speed) (.ref m0_fire) (.int m0_most) (.int m0_hindered) (.int m0_hinderedBy) (.ref m0_air) (.ref m0_cameBy) (.ref m0_least) (.ref m0_before) (.ref m0_gas) (.ref m0_into) (.ref m0_rest) (.ref m0_isTold) (.ref m0_isPast) (.ref m0_kept) (.ref m0_smoke) (.ref m0_early) (.int m0_men) (.ref m0_manAt) (.int m0_changes) (.ref m0_changeKind) (.ref m0_changeOf) (.ref m0_changeTo) (.ref m0_row) (.ref m0_openWas) (.ref m0_fallenWas) (.ref m0_speedWas) (.int m0_readings) (.ref m0_readingOf) (.ref m0_low) (.ref m0_high) (.ref m0_back))), (m0_tape, .inl (k_m0_tape, 600, .inl f_53))] := hD
        refine lv_iinc (v := (nI (k + 1))) (lv' := [(6, .int (nI (k + 1))), (7, .int ea), (0, .ref m0), (1, .int ea), (2, .int eb), (3, .int ec), (4, .int ed), (5, .int ee)]) hx hb dX14_feed_111 hl (k := 7) rfl (nI_add _ 1) (by decide) rfl (fun ls hl => ?_)
        refine lv_goto (tgt := 23) hx hb dX14_feed_114 (by decide) ?_
        exact ih_4 (k + 1) (t2 + 1) f_53 _ _ _ ⟨(by first | with_reducible assumption | omega | exact vp_in_iff.mpr (by omega) | exact vp_in_nI (by omega) (by omega) | exact ⟨by omega, by omega⟩), hP.sub [0, 1] rfl, hD.sub [0, 1] (by decide) rfl, hS, lv_sub hl [2, 3, 4, 5, 6, 7, 0] rfl⟩ (by omega)
  · skip
    have g_55 := n_nge (a := 600) (b := (tp + 20)) c_2 (by omega) (by omega)
    refine lv_iconst (v := (-1)) hx hb dX14_feed_18 (by decide) ?_
    have hP9 := hP.sub (ws' := [(m0, .inr (14, fX14 (.int 0) (.ref m0_power) (.int m0_trouble) (.int m0_where) (.int m0_fault) bv fv (.ref sp) (.ref m0_tape) (.int (nI tp)) (.int m0_size) (.int m0_at) (.int m0_sort) (.int m0_place) (.int m0_mark) (.int m0_number) (.long m0_word) (.ref m0_isOpen) (.ref m0_isFallen) (.ref m0_speed) (.ref m0_fire) (.int m0_most) (.int m0_hindered) (.int m0_hinderedBy) (.ref m0_air) (.ref m0_cameBy) (.ref m0_least) (.ref m0_before) (.ref m0_gas) (.ref m0_into) (.ref m0_rest) (.ref m0_isTold) (.ref m0_isPast) (.ref m0_kept) (.ref m0_smoke) (.ref m0_early) (.int m0_men) (.ref m0_manAt) (.int m0_changes) (.ref m0_changeKind) (.ref m0_changeOf) (.ref m0_changeTo) (.ref m0_row) (.ref m0_openWas) (.ref m0_fallenWas) (.ref m0_speedWas) (.int m0_readings) (.ref m0_readingOf) (.ref m0_low) (.ref m0_high) (.ref m0_back))), (m0_tape, .inl (k_m0_tape, 600, .inl f_m0_tape))]) [0, 1] rfl
    have hD9 := hD.sub (ws' := [(m0, .inr (14, fX14 (.int 0) (.ref m0_power) (.int m0_trouble) (.int m0_where) (.int m0_fault) bv fv (.ref sp) (.ref m0_tape) (.int (nI tp)) (.int m0_size) (.int m0_at) (.int m0_sort) (.int m0_place) (.int m0_mark) (.int m0_number) (.long m0_word) (.ref m0_isOpen) (.ref m0_isFallen) (.ref m0_speed) (.ref m0_fire) (.int m0_most) (.int m0_hindered) (.int m0_hinderedBy) (.ref m0_air) (.ref m0_cameBy) (.ref m0_least) (.ref m0_before) (.ref m0_gas) (.ref m0_into) (.ref m0_rest) (.ref m0_isTold) (.ref m0_isPast) (.ref m0_kept) (.ref m0_smoke) (.ref m0_early) (.int m0_men) (.ref m0_manAt) (.int m0_changes) (.ref m0_changeKind) (.ref m0_changeOf) (.ref m0_changeTo) (.ref m0_row) (.ref m0_openWas) (.ref m0_fallenWas) (.ref m0_speedWas) (.int m0_readings) (.ref m0_readingOf) (.ref m0_low) (.ref m0_high) (.ref m0_back))), (m0_tape, .inl (k_m0_tape, 600, .inl f_m0_tape))]) [0, 1] (by decide) rfl
    have hK9 := hK.sub (tys' := [(k_m0_tape, .byte)]) [0] rfl
    exact W.iret (v := (-1)) hx hb hr (fun t ht hW => ⟨⟨(-1), (), rfl, (by rw [if_neg (by omega)]), tp, f_m0_tape, (by rw [if_neg (by omega)]), by rw [ht]; exact hP9, va_K.moved hW.alike hK9, hD9⟩, hS.F ht⟩) hS.2.2 dX14_feed_19
set_option maxHeartbeats 4000000 in
set_option maxRecDepth 100000 in
theorem c7_append (l : Launch) (dC : Nat → ClassId) (dI : Nat → Nat → Nat) (n0 : Nat) (atx : Nat → Nat × Nat) (sz : Nat) (rd : Nat) (rd_tape : Nat) (fd : Nat) (fa1 : Int32) (fp1 : Int32) (dr : Nat) (rd_names : Nat) (rd_nameKind : Nat) (rd_nameNumber : Nat) (nm1 : Int32) (rd_knotNames : Nat) (en1 : Int32) (at0 : Int32) (tk1 : Int32) (ts1 : Int32) (tv1 : Int64) (k_rd_tape : ClassId) (f_rd_tape : Nat → Int32) (fr4 : Int32) (hfd : fd ≤ 596) : Met l yX7_append (wM yX7_append cX7_append 3 none) ({ frames := 0, cells := 0, slots := 0, locals := 0 }) (va_Pc [.ref rd, .int fr4] (fun U => U.heap.size = sz ∧ n0 ≤ sz ∧ GW n0 atx U ∧ va_P (dC, dI) classes [(rd, .inr (7, [.ref rd_tape, .int (nI fd), .int fa1, .int fp1, .ref dr, .ref rd_names, .ref rd_nameKind, .ref rd_nameNumber, .int nm1, .ref rd_knotNames, .int en1, .int at0, .int tk1, .int ts1, .long tv1])), (rd_tape, .inl (k_rd_tape, 600, .inl f_rd_tape))] U.heap ∧ va_K (dC, dI) classes [(k_rd_tape, .int)] U ∧ va_D (fun q => n0 ≤ q) [(rd, .inr (7, [.ref rd_tape, .int (nI fd), .int fa1, .int fp1, .ref dr, .ref rd_names, .ref rd_nameKind, .ref rd_nameNumber, .int nm1, .ref rd_knotNames, .int en1, .int at0, .int tk1, .int ts1, .long tv1])), (rd_tape, .inl (k_rd_tape, 600, .inl f_rd_tape))])) (va_Qv (fun _ : Unit => True) (fun (_ : Unit) (t : State) => ∃ (fd9 : Nat), ∃ (ta9 : Nat → Int32), (fd9 = fd + 4) ∧ va_P (dC, dI) classes [(rd, .inr (7, [.ref rd_tape, .int (nI fd9), .int fa1, .int fp1, .ref dr, .ref rd_names, .ref rd_nameKind, .ref rd_nameNumber, .int nm1, .ref rd_knotNames, .int en1, .int at0, .int tk1, .int ts1, .long tv1])), (rd_tape, .inl (k_rd_tape, 600, .inl ta9))] t.heap ∧ va_K (dC, dI) classes [(k_rd_tape, .int)] t ∧ va_D (va_A [(rd, .inr (7, [.ref rd_tape, .int (nI fd), .int fa1, .int fp1, .ref dr, .ref rd_names, .ref rd_nameKind, .ref rd_nameNumber, .int nm1, .ref rd_knotNames, .int en1, .int at0, .int tk1, .int ts1, .long tv1])), (rd_tape, .inl (k_rd_tape, 600, .inl f_rd_tape))] sz) [(rd, .inr (7, [.ref rd_tape, .int (nI fd9), .int fa1, .int fp1, .ref dr, .ref rd_names, .ref rd_nameKind, .ref rd_nameNumber, .int nm1, .ref rd_knotNames, .int en1, .int at0, .int tk1, .int ts1, .long tv1])), (rd_tape, .inl (k_rd_tape, 600, .inl ta9))]) (va_A [(rd, .inr (7, [.ref rd_tape, .int (nI fd), .int fa1, .int fp1, .ref dr, .ref rd_names, .ref rd_nameKind, .ref rd_nameNumber, .int nm1, .ref rd_knotNames, .int en1, .int at0, .int tk1, .int ts1, .long tv1])), (rd_tape, .inl (k_rd_tape, 600, .inl f_rd_tape))] sz)) 0 0 (va_A [(rd, .inr (7, [.ref rd_tape, .int (nI fd), .int fa1, .int fp1, .ref dr, .ref rd_names, .ref rd_nameKind, .ref rd_nameNumber, .int nm1, .ref rd_knotNames, .int en1, .int at0, .int tk1, .int ts1, .long tv1])), (rd_tape, .inl (k_rd_tape, 600, .inl f_rd_tape))] sz) := by
  refine Met.ofW (cc := cX7_append) (maxL := 3) (ret := none) (by decide) rfl ?_
  intro p e s m args below meth c s₁ B hml hv
  obtain ⟨rfl, hsz, hn0, hG, hP, hK, hD0⟩ := hv
  have hx := B.exec
  have hb := B.bytes
  have hr := B.returns
  have hts := atoms_spec (ws := wM yX7_append cX7_append 3 none) B.pre
  have hown : s.vm.findClass RX7 = some m.cls := findClass_of_methodNamed B.named
  have hlocks := B.notSynchronized
  subst hsz
  have hD := hD0.self (sz := s.heap.size)
  have hA0 := vA_n0 hD0 hn0
  generalize hAe : va_A [(rd, .inr (7, [.ref rd_tape, .int (nI fd), .int fa1, .int fp1, .ref dr, .ref rd_names, .ref rd_nameKind, .ref rd_nameNumber, .int nm1, .ref rd_knotNames, .int en1, .int at0, .int tk1, .int ts1, .long tv1])), (rd_tape, .inl (k_rd_tape, 600, .inl f_rd_tape))] s.heap.size = A at hD hA0 ⊢
  have hA : ∀ q : Nat, s.heap.size ≤ q → A q := fun q h => by rw [← hAe]; exact Or.inr h
  have hS : va_S A s.heap s.heap [] := va_S.rf
  have hl := lv_entry ([.ref rd, .int fr4]) (n := 3) (Nat.le_of_ble_eq_true rfl)
  rw [lg_entry_eq]
  generalize (lg_sl ([.ref rd, .int fr4]) ++ List.replicate (3 - (lg_sl ([.ref rd, .int fr4])).length) Slot.unset).toArray = ls at hl ⊢
  have hl : lv_has ls 3 [(0, .ref rd), (1, .int fr4)] := hl
  refine lv_bipush (v := 24) hx hb dX7_append_0 (by decide) ?_
  refine lv_istore_n (lv' := [(2, .int 24), (0, .ref rd), (1, .int fr4)]) hx hb dX7_append_2 rfl hl (by decide) rfl (fun ls hl => ?_)
  refine lv_iload_n hx hb dX7_append_3 rfl (lv_at hl 0 rfl) ?_
  refine lv_if_lt (tgt := 49) hx hb dX7_append_4 (by decide) (fun c_1 => ?_) (fun c_1 => ?_)
  · exact absurd c_1 (by decide)
  refine lv_aload_n hx hb dX7_append_7 rfl (lv_at hl 1 rfl) ?_
  refine va_get (D := (dC, dI)) (ci := 7) (v := .int (nI fd)) (C := RX7) (T := TX7) (N := 15) hx hb hts (fun w h => wM_c (iX7 w h)) hown hK hP 0 rfl rfl 1 (by decide) (hts _ (wM_c wd_335)) (fun _ h9 => h9) rfl dX7_append_8 ?_
  refine lv_sipush (v := 600) hx hb dX7_append_11 (by decide) ?_
  refine lv_icmp_ge (tgt := 43) hx hb dX7_append_14 (by decide) (fun c_2 => ?_) (fun c_2 => ?_)
  · exact absurd (n_ge (a := fd) (b := 600) c_2 (by omega) (by omega)) (by omega)
  refine lv_aload_n hx hb dX7_append_17 rfl (lv_at hl 1 rfl) ?_
  refine va_get (D := (dC, dI)) (ci := 7) (v := .ref rd_tape) (C := RX7) (T := TX7) (N := 15) hx hb hts (fun w h => wM_c (iX7 w h)) hown hK hP 0 rfl rfl 0 (by decide) (hts _ (wM_c wd_333)) (fun _ h9 => h9) rfl dX7_append_18 ?_
  refine lv_aload_n hx hb dX7_append_21 rfl (lv_at hl 1 rfl) ?_
  refine va_get (D := (dC, dI)) (ci := 7) (v := .int (nI fd)) (C := RX7) (T := TX7) (N := 15) hx hb hts (fun w h => wM_c (iX7 w h)) hown hK hP 0 rfl rfl 1 (by decide) (hts _ (wM_c wd_335)) (fun _ h9 => h9) rfl dX7_append_22 ?_
  refine lv_iload_n hx hb dX7_append_25 rfl (lv_at hl 2 rfl) ?_
  refine lv_iload_n hx hb dX7_append_26 rfl (lv_at hl 0 rfl) ?_
  refine lv_ishr hx hb dX7_append_27 ?_
  refine lv_topi (fun v_3 ev_3 => ?_)
  refine lv_sipush (v := 255) hx hb dX7_append_28 (by decide) ?_
  refine lv_iand hx hb dX7_append_31 ?_
  refine lv_topi (fun v_4 ev_4 => ?_)
  refine va_iast hx hb hK hP hD hS 1 0 rfl rfl (vp_in_nI (n := fd) (by omega) (by omega)) dX7_append_32 (fun H locs hP hD hS => ?_)
  obtain ⟨f_5, ef_5⟩ : ∃ f9, f9 = (upd f_rd_tape (nI fd).toNatClampNeg v_4) := ⟨_, rfl⟩
  have hP : va_P (dC, dI) classes [(rd, .inr (7, [.ref rd_tape, .int (nI fd), .int fa1, .int fp1, .ref dr, .ref rd_names, .ref rd_nameKind, .ref rd_nameNumber, .int nm1, .ref rd_knotNames, .int en1, .int at0, .int tk1, .int ts1, .long tv1])), (rd_tape, .inl (k_rd_tape, 600, .inl f_5))] H := by rw [ef_5]; exact hP
  have hD : va_D A [(rd, .inr (7, [.ref rd_tape, .int (nI fd), .int fa1, .int fp1, .ref dr, .ref rd_names, .ref rd_nameKind, .ref rd_nameNumber, .int nm1, .ref rd_knotNames, .int en1, .int at0, .int tk1, .int ts1, .long tv1])), (rd_tape, .inl (k_rd_tape, 600, .inl f_5))] := by rw [ef_5]; exact hD
  refine lv_aload_n hx hb dX7_append_33 rfl (lv_at hl 1 rfl) ?_
  refine lv_dup hx hb dX7_append_34 rfl ?_
  refine va_get (D := (dC, dI)) (ci := 7) (v := .int (nI fd)) (C := RX7) (T := TX7) (N := 15) hx hb hts (fun w h => wM_c (iX7 w h)) hown hK hP 0 rfl rfl 1 (by decide) (hts _ (wM_c wd_335)) (fun _ h9 => h9) rfl dX7_append_35 ?_
  refine lv_iconst (v := 1) hx hb dX7_append_38 (by decide) ?_
  refine lv_iadd hx hb dX7_append_39 ?_
  refine lv_topi (fun v_6 ev_6 => ?_)
  obtain rfl : v_6 = nI (fd + 1) := ev_6.trans (nI_add fd 1)
  refine va_put (D := (dC, dI)) (ci := 7) (v := .int (nI (fd + 1))) (ty := .int) (C := RX7) (T := TX7) (N := 15) hx hb hts (fun w h => wM_c (iX7 w h)) tyX7 tyX7_ok nmX7 hown hK hP hD hS 0 rfl rfl 1 (by decide) (hts _ (wM_c wd_335)) (fun _ h9 => h9) rfl (by decide +kernel) rfl rfl (Nat.le_of_ble_eq_true rfl) dX7_append_40 (fun H locs hP hD hS => ?_)
  have hP : va_P (dC, dI) classes [(rd, .inr (7, [.ref rd_tape, .int (nI (fd + 1)), .int fa1, .int fp1, .ref dr, .ref rd_names, .ref rd_nameKind, .ref rd_nameNumber, .int nm1, .ref rd_knotNames, .int en1, .int at0, .int tk1, .int ts1, .long tv1])), (rd_tape, .inl (k_rd_tape, 600, .inl f_5))] H := hP
  have hD : va_D A [(rd, .inr (7, [.ref rd_tape, .int (nI (fd + 1)), .int fa1, .int fp1, .ref dr, .ref rd_names, .ref rd_nameKind, .ref rd_nameNumber, .int nm1, .ref rd_knotNames, .int en1, .int at0, .int tk1, .int ts1, .long tv1])), (rd_tape, .inl (k_rd_tape, 600, .inl f_5))] := hD
  refine lv_iinc (v := 16) (lv' := [(2, .int 16), (0, .ref rd), (1, .int fr4)]) hx hb dX7_append_43 hl (k := 0) rfl (by decide) (by decide) rfl (fun ls hl => ?_)
  refine lv_goto (tgt := 3) hx hb dX7_append_46 (by decide) ?_
  refine lv_iload_n hx hb dX7_append_3 rfl (lv_at hl 0 rfl) ?_
  refine lv_if_lt (tgt := 49) hx hb dX7_append_4 (by decide) (fun c_7 => ?_) (fun c_7 => ?_)
  · exact absurd c_7 (by decide)
  refine lv_aload_n hx hb dX7_append_7 rfl (lv_at hl 1 rfl) ?_
  refine va_get (D := (dC, dI)) (ci := 7) (v := .int (nI (fd + 1))) (C := RX7) (T := TX7) (N := 15) hx hb hts (fun w h => wM_c (iX7 w h)) hown hK hP 0 rfl rfl 1 (by decide) (hts _ (wM_c wd_335)) (fun _ h9 => h9) rfl dX7_append_8 ?_
  refine lv_sipush (v := 600) hx hb dX7_append_11 (by decide) ?_
  refine lv_icmp_ge (tgt := 43) hx hb dX7_append_14 (by decide) (fun c_8 => ?_) (fun c_8 => ?_)
  · exact absurd (n_ge (a := (fd + 1)) (b := 600) c_8 (by omega) (by omega)) (by omega)
  refine lv_aload_n hx hb dX7_append_17 rfl (lv_at hl 1 rfl) ?_
  refine va_get (D := (dC, dI)) (ci := 7) (v := .ref rd_tape) (C := RX7) (T := TX7) (N := 15) hx hb hts (fun w h => wM_c (iX7 w h)) hown hK hP 0 rfl rfl 0 (by decide) (hts _ (wM_c wd_333)) (fun _ h9 => h9) rfl dX7_append_18 ?_
  refine lv_aload_n hx hb dX7_append_21 rfl (lv_at hl 1 rfl) ?_
  refine va_get (D := (dC, dI)) (ci := 7) (v := .int (nI (fd + 1))) (C := RX7) (T := TX7) (N := 15) hx hb hts (fun w h => wM_c (iX7 w h)) hown hK hP 0 rfl rfl 1 (by decide) (hts _ (wM_c wd_335)) (fun _ h9 => h9) rfl dX7_append_22 ?_
  refine lv_iload_n hx hb dX7_append_25 rfl (lv_at hl 2 rfl) ?_
  refine lv_iload_n hx hb dX7_append_26 rfl (lv_at hl 0 rfl) ?_
  refine lv_ishr hx hb dX7_append_27 ?_
  refine lv_topi (fun v_9 ev_9 => ?_)
  refine lv_sipush (v := 255) hx hb dX7_append_28 (by decide) ?_
  refine lv_iand hx hb dX7_append_31 ?_
  refine lv_topi (fun v_10 ev_10 => ?_)
  refine va_iast hx hb hK hP hD hS 1 0 rfl rfl (vp_in_nI (n := (fd + 1)) (by omega) (by omega)) dX7_append_32 (fun H locs hP hD hS => ?_)
  obtain ⟨f_11, ef_11⟩ : ∃ f9, f9 = (upd f_5 (nI (fd + 1)).toNatClampNeg v_10) := ⟨_, rfl⟩
  have hP : va_P (dC, dI) classes [(rd, .inr (7, [.ref rd_tape, .int (nI (fd + 1)), .int fa1, .int fp1, .ref dr, .ref rd_names, .ref rd_nameKind, .ref rd_nameNumber, .int nm1, .ref rd_knotNames, .int en1, .int at0, .int tk1, .int ts1, .long tv1])), (rd_tape, .inl (k_rd_tape, 600, .inl f_11))] H := by rw [ef_11]; exact hP
  have hD : va_D A [(rd, .inr (7, [.ref rd_tape, .int (nI (fd + 1)), .int fa1, .int fp1, .ref dr, .ref rd_names, .ref rd_nameKind, .ref rd_nameNumber, .int nm1, .ref rd_knotNames, .int en1, .int at0, .int tk1, .int ts1, .long tv1])), (rd_tape, .inl (k_rd_tape, 600, .inl f_11))] := by rw [ef_11]; exact hD
  refine lv_aload_n hx hb dX7_append_33 rfl (lv_at hl 1 rfl) ?_
  refine lv_dup hx hb dX7_append_34 rfl ?_
  refine va_get (D := (dC, dI)) (ci := 7) (v := .int (nI (fd + 1))) (C := RX7) (T := TX7) (N := 15) hx hb hts (fun w h => wM_c (iX7 w h)) hown hK hP 0 rfl rfl 1 (by decide) (hts _ (wM_c wd_335)) (fun _ h9 => h9) rfl dX7_append_35 ?_
  refine lv_iconst (v := 1) hx hb dX7_append_38 (by decide) ?_
  refine lv_iadd hx hb dX7_append_39 ?_
  refine lv_topi (fun v_12 ev_12 => ?_)
  obtain rfl : v_12 = nI ((fd + 1) + 1) := ev_12.trans (nI_add (fd + 1) 1)
  refine va_put (D := (dC, dI)) (ci := 7) (v := .int (nI ((fd + 1) + 1))) (ty := .int) (C := RX7) (T := TX7) (N := 15) hx hb hts (fun w h => wM_c (iX7 w h)) tyX7 tyX7_ok nmX7 hown hK hP hD hS 0 rfl rfl 1 (by decide) (hts _ (wM_c wd_335)) (fun _ h9 => h9) rfl (by decide +kernel) rfl rfl (Nat.le_of_ble_eq_true rfl) dX7_append_40 (fun H locs hP hD hS => ?_)
  have hP : va_P (dC, dI) classes [(rd, .inr (7, [.ref rd_tape, .int (nI ((fd + 1) + 1)), .int fa1, .int fp1, .ref dr, .ref rd_names, .ref rd_nameKind, .ref rd_nameNumber, .int nm1, .ref rd_knotNames, .int en1, .int at0, .int tk1, .int ts1, .long tv1])), (rd_tape, .inl (k_rd_tape, 600, .inl f_11))] H := hP
  have hD : va_D A [(rd, .inr (7, [.ref rd_tape, .int (nI ((fd + 1) + 1)), .int fa1, .int fp1, .ref dr, .ref rd_names, .ref rd_nameKind, .ref rd_nameNumber, .int nm1, .ref rd_knotNames, .int en1, .int at0, .int tk1, .int ts1, .long tv1])), (rd_tape, .inl (k_rd_tape, 600, .inl f_11))] := hD
  refine lv_iinc (v := 8) (lv' := [(2, .int 8), (0, .ref rd), (1, .int fr4)]) hx hb dX7_append_43 hl (k := 0) rfl (by decide) (by decide) rfl (fun ls hl => ?_)
  refine lv_goto (tgt := 3) hx hb dX7_append_46 (by decide) ?_
  refine lv_iload_n hx hb dX7_append_3 rfl (lv_at hl 0 rfl) ?_
  refine lv_if_lt (tgt := 49) hx hb dX7_append_4 (by decide) (fun c_13 => ?_) (fun c_13 => ?_)
  · exact absurd c_13 (by decide)
  refine lv_aload_n hx hb dX7_append_7 rfl (lv_at hl 1 rfl) ?_
  refine va_get (D := (dC, dI)) (ci := 7) (v := .int (nI ((fd + 1) + 1))) (C := RX7) (T := TX7) (N := 15) hx hb hts (fun w h => wM_c (iX7 w h)) hown hK hP 0 rfl rfl 1 (by decide) (hts _ (wM_c wd_335)) (fun _ h9 => h9) rfl dX7_append_8 ?_
  refine lv_sipush (v := 600) hx hb dX7_append_11 (by decide) ?_
  refine lv_icmp_ge (tgt := 43) hx hb dX7_append_14 (by decide) (fun c_14 => ?_) (fun c_14 => ?_)
  · exact absurd (n_ge (a := ((fd + 1) + 1)) (b := 600) c_14 (by omega) (by omega)) (by omega)
  refine lv_aload_n hx hb dX7_append_17 rfl (lv_at hl 1 rfl) ?_
  refine va_get (D := (dC, dI)) (ci := 7) (v := .ref rd_tape) (C := RX7) (T := TX7) (N := 15) hx hb hts (fun w h => wM_c (iX7 w h)) hown hK hP 0 rfl rfl 0 (by decide) (hts _ (wM_c wd_333)) (fun _ h9 => h9) rfl dX7_append_18 ?_
  refine lv_aload_n hx hb dX7_append_21 rfl (lv_at hl 1 rfl) ?_
  refine va_get (D := (dC, dI)) (ci := 7) (v := .int (nI ((fd + 1) + 1))) (C := RX7) (T := TX7) (N := 15) hx hb hts (fun w h => wM_c (iX7 w h)) hown hK hP 0 rfl rfl 1 (by decide) (hts _ (wM_c wd_335)) (fun _ h9 => h9) rfl dX7_append_22 ?_
  refine lv_iload_n hx hb dX7_append_25 rfl (lv_at hl 2 rfl) ?_
  refine lv_iload_n hx hb dX7_append_26 rfl (lv_at hl 0 rfl) ?_
  refine lv_ishr hx hb dX7_append_27 ?_
  refine lv_topi (fun v_15 ev_15 => ?_)
  refine lv_sipush (v := 255) hx hb dX7_append_28 (by decide) ?_
  refine lv_iand hx hb dX7_append_31 ?_
  refine lv_topi (fun v_16 ev_16 => ?_)
  refine va_iast hx hb hK hP hD hS 1 0 rfl rfl (vp_in_nI (n := ((fd + 1) + 1)) (by omega) (by omega)) dX7_append_32 (fun H locs hP hD hS => ?_)
  obtain ⟨f_17, ef_17⟩ : ∃ f9, f9 = (upd f_11 (nI ((fd + 1) + 1)).toNatClampNeg v_16) := ⟨_, rfl⟩
  have hP : va_P (dC, dI) classes [(rd, .inr (7, [.ref rd_tape, .int (nI ((fd + 1) + 1)), .int fa1, .int fp1, .ref dr, .ref rd_names, .ref rd_nameKind, .ref rd_nameNumber, .int nm1, .ref rd_knotNames, .int en1, .int at0, .int tk1, .int ts1, .long tv1])), (rd_tape, .inl (k_rd_tape, 600, .inl f_17))] H := by rw [ef_17]; exact hP
  have hD : va_D A [(rd, .inr (7, [.ref rd_tape, .int (nI ((fd + 1) + 1)), .int fa1, .int fp1, .ref dr, .ref rd_names, .ref rd_nameKind, .ref rd_nameNumber, .int nm1, .ref rd_knotNames, .int en1, .int at0, .int tk1, .int ts1, .long tv1])), (rd_tape, .inl (k_rd_tape, 600, .inl f_17))] := by rw [ef_17]; exact hD
  refine lv_aload_n hx hb dX7_append_33 rfl (lv_at hl 1 rfl) ?_
  refine lv_dup hx hb dX7_append_34 rfl ?_
  refine va_get (D := (dC, dI)) (ci := 7) (v := .int (nI ((fd + 1) + 1))) (C := RX7) (T := TX7) (N := 15) hx hb hts (fun w h => wM_c (iX7 w h)) hown hK hP 0 rfl rfl 1 (by decide) (hts _ (wM_c wd_335)) (fun _ h9 => h9) rfl dX7_append_35 ?_
  refine lv_iconst (v := 1) hx hb dX7_append_38 (by decide) ?_
  refine lv_iadd hx hb dX7_append_39 ?_
  refine lv_topi (fun v_18 ev_18 => ?_)
  obtain rfl : v_18 = nI (((fd + 1) + 1) + 1) := ev_18.trans (nI_add ((fd + 1) + 1) 1)
  refine va_put (D := (dC, dI)) (ci := 7) (v := .int (nI (((fd + 1) + 1) + 1))) (ty := .int) (C := RX7) (T := TX7) (N := 15) hx hb hts (fun w h => wM_c (iX7 w h)) tyX7 tyX7_ok nmX7 hown hK hP hD hS 0 rfl rfl 1 (by decide) (hts _ (wM_c wd_335)) (fun _ h9 => h9) rfl (by decide +kernel) rfl rfl (Nat.le_of_ble_eq_true rfl) dX7_append_40 (fun H locs hP hD hS => ?_)
  have hP : va_P (dC, dI) classes [(rd, .inr (7, [.ref rd_tape, .int (nI (((fd + 1) + 1) + 1)), .int fa1, .int fp1, .ref dr, .ref rd_names, .ref rd_nameKind, .ref rd_nameNumber, .int nm1, .ref rd_knotNames, .int en1, .int at0, .int tk1, .int ts1, .long tv1])), (rd_tape, .inl (k_rd_tape, 600, .inl f_17))] H := hP
  have hD : va_D A [(rd, .inr (7, [.ref rd_tape, .int (nI (((fd + 1) + 1) + 1)), .int fa1, .int fp1, .ref dr, .ref rd_names, .ref rd_nameKind, .ref rd_nameNumber, .int nm1, .ref rd_knotNames, .int en1, .int at0, .int tk1, .int ts1, .long tv1])), (rd_tape, .inl (k_rd_tape, 600, .inl f_17))] := hD
  refine lv_iinc (v := 0) (lv' := [(2, .int 0), (0, .ref rd), (1, .int fr4)]) hx hb dX7_append_43 hl (k := 0) rfl (by decide) (by decide) rfl (fun ls hl => ?_)
  refine lv_goto (tgt := 3) hx hb dX7_append_46 (by decide) ?_
  refine lv_iload_n hx hb dX7_append_3 rfl (lv_at hl 0 rfl) ?_
  refine lv_if_lt (tgt := 49) hx hb dX7_append_4 (by decide) (fun c_19 => ?_) (fun c_19 => ?_)
  · exact absurd c_19 (by decide)
  refine lv_aload_n hx hb dX7_append_7 rfl (lv_at hl 1 rfl) ?_
  refine va_get (D := (dC, dI)) (ci := 7) (v := .int (nI (((fd + 1) + 1) + 1))) (C := RX7) (T := TX7) (N := 15) hx hb hts (fun w h => wM_c (iX7 w h)) hown hK hP 0 rfl rfl 1 (by decide) (hts _ (wM_c wd_335)) (fun _ h9 => h9) rfl dX7_append_8 ?_
  refine lv_sipush (v := 600) hx hb dX7_append_11 (by decide) ?_
  refine lv_icmp_ge (tgt := 43) hx hb dX7_append_14 (by decide) (fun c_20 => ?_) (fun c_20 => ?_)
  · exact absurd (n_ge (a := (((fd + 1) + 1) + 1)) (b := 600) c_20 (by omega) (by omega)) (by omega)
  refine lv_aload_n hx hb dX7_append_17 rfl (lv_at hl 1 rfl) ?_
  refine va_get (D := (dC, dI)) (ci := 7) (v := .ref rd_tape) (C := RX7) (T := TX7) (N := 15) hx hb hts (fun w h => wM_c (iX7 w h)) hown hK hP 0 rfl rfl 0 (by decide) (hts _ (wM_c wd_333)) (fun _ h9 => h9) rfl dX7_append_18 ?_
  refine lv_aload_n hx hb dX7_append_21 rfl (lv_at hl 1 rfl) ?_
  refine va_get (D := (dC, dI)) (ci := 7) (v := .int (nI (((fd + 1) + 1) + 1))) (C := RX7) (T := TX7) (N := 15) hx hb hts (fun w h => wM_c (iX7 w h)) hown hK hP 0 rfl rfl 1 (by decide) (hts _ (wM_c wd_335)) (fun _ h9 => h9) rfl dX7_append_22 ?_
  refine lv_iload_n hx hb dX7_append_25 rfl (lv_at hl 2 rfl) ?_
  refine lv_iload_n hx hb dX7_append_26 rfl (lv_at hl 0 rfl) ?_
  refine lv_ishr hx hb dX7_append_27 ?_
  refine lv_topi (fun v_21 ev_21 => ?_)
  refine lv_sipush (v := 255) hx hb dX7_append_28 (by decide) ?_
  refine lv_iand hx hb dX7_append_31 ?_
  refine lv_topi (fun v_22 ev_22 => ?_)
  refine va_iast hx hb hK hP hD hS 1 0 rfl rfl (vp_in_nI (n := (((fd + 1) + 1) + 1)) (by omega) (by omega)) dX7_append_32 (fun H locs hP hD hS => ?_)
  obtain ⟨f_23, ef_23⟩ : ∃ f9, f9 = (upd f_17 (nI (((fd + 1) + 1) + 1)).toNatClampNeg v_22) := ⟨_, rfl⟩
  have hP : va_P (dC, dI) classes [(rd, .inr (7, [.ref rd_tape, .int (nI (((fd + 1) + 1) + 1)), .int fa1, .int fp1, .ref dr, .ref rd_names, .ref rd_nameKind, .ref rd_nameNumber, .int nm1, .ref rd_knotNames, .int en1, .int at0, .int tk1, .int ts1, .long tv1])), (rd_tape, .inl (k_rd_tape, 600, .inl f_23))] H := by rw [ef_23]; exact hP
  have hD : va_D A [(rd, .inr (7, [.ref rd_tape, .int (nI (((fd + 1) + 1) + 1)), .int fa1, .int fp1, .ref dr, .ref rd_names, .ref rd_nameKind, .ref rd_nameNumber, .int nm1, .ref rd_knotNames, .int en1, .int at0, .int tk1, .int ts1, .long tv1])), (rd_tape, .inl (k_rd_tape, 600, .inl f_23))] := by rw [ef_23]; exact hD
  refine lv_aload_n hx hb dX7_append_33 rfl (lv_at hl 1 rfl) ?_
  refine lv_dup hx hb dX7_append_34 rfl ?_
  refine va_get (D := (dC, dI)) (ci := 7) (v := .int (nI (((fd + 1) + 1) + 1))) (C := RX7) (T := TX7) (N := 15) hx hb hts (fun w h => wM_c (iX7 w h)) hown hK hP 0 rfl rfl 1 (by decide) (hts _ (wM_c wd_335)) (fun _ h9 => h9) rfl dX7_append_35 ?_
  refine lv_iconst (v := 1) hx hb dX7_append_38 (by decide) ?_
  refine lv_iadd hx hb dX7_append_39 ?_
  refine lv_topi (fun v_24 ev_24 => ?_)
  obtain rfl : v_24 = nI ((((fd + 1) + 1) + 1) + 1) := ev_24.trans (nI_add (((fd + 1) + 1) + 1) 1)
  refine va_put (D := (dC, dI)) (ci := 7) (v := .int (nI ((((fd + 1) + 1) + 1) + 1))) (ty := .int) (C := RX7) (T := TX7) (N := 15) hx hb hts (fun w h => wM_c (iX7 w h)) tyX7 tyX7_ok nmX7 hown hK hP hD hS 0 rfl rfl 1 (by decide) (hts _ (wM_c wd_335)) (fun _ h9 => h9) rfl (by decide +kernel) rfl rfl (Nat.le_of_ble_eq_true rfl) dX7_append_40 (fun H locs hP hD hS => ?_)
  have hP : va_P (dC, dI) classes [(rd, .inr (7, [.ref rd_tape, .int (nI ((((fd + 1) + 1) + 1) + 1)), .int fa1, .int fp1, .ref dr, .ref rd_names, .ref rd_nameKind, .ref rd_nameNumber, .int nm1, .ref rd_knotNames, .int en1, .int at0, .int tk1, .int ts1, .long tv1])), (rd_tape, .inl (k_rd_tape, 600, .inl f_23))] H := hP
  have hD : va_D A [(rd, .inr (7, [.ref rd_tape, .int (nI ((((fd + 1) + 1) + 1) + 1)), .int fa1, .int fp1, .ref dr, .ref rd_names, .ref rd_nameKind, .ref rd_nameNumber, .int nm1, .ref rd_knotNames, .int en1, .int at0, .int tk1, .int ts1, .long tv1])), (rd_tape, .inl (k_rd_tape, 600, .inl f_23))] := hD
  refine lv_iinc (v := (-8)) (lv' := [(2, .int (-8)), (0, .ref rd), (1, .int fr4)]) hx hb dX7_append_43 hl (k := 0) rfl (by decide) (by decide) rfl (fun ls hl => ?_)
  refine lv_goto (tgt := 3) hx hb dX7_append_46 (by decide) ?_
  refine lv_iload_n hx hb dX7_append_3 rfl (lv_at hl 0 rfl) ?_
  refine lv_if_lt (tgt := 49) hx hb dX7_append_4 (by decide) (fun c_25 => ?_) (fun c_25 => ?_)
  · skip
    have hP9 := hP.sub (ws' := [(rd, .inr (7, [.ref rd_tape, .int (nI ((((fd + 1) + 1) + 1) + 1)), .int fa1, .int fp1, .ref dr, .ref rd_names, .ref rd_nameKind, .ref rd_nameNumber, .int nm1, .ref rd_knotNames, .int en1, .int at0, .int tk1, .int ts1, .long tv1])), (rd_tape, .inl (k_rd_tape, 600, .inl f_23))]) [0, 1] rfl
    have hD9 := hD.sub (ws' := [(rd, .inr (7, [.ref rd_tape, .int (nI ((((fd + 1) + 1) + 1) + 1)), .int fa1, .int fp1, .ref dr, .ref rd_names, .ref rd_nameKind, .ref rd_nameNumber, .int nm1, .ref rd_knotNames, .int en1, .int at0, .int tk1, .int ts1, .long tv1])), (rd_tape, .inl (k_rd_tape, 600, .inl f_23))]) [0, 1] (by decide) rfl
    have hK9 := hK.sub (tys' := [(k_rd_tape, .int)]) [0] rfl
    exact W.vret hx hb hr (fun t ht hW => ⟨⟨(), rfl, trivial, ((((fd + 1) + 1) + 1) + 1), f_23, (by first | with_reducible assumption | omega | exact vp_in_iff.mpr (by omega) | exact vp_in_nI (by omega) (by omega) | exact ⟨by omega, by omega⟩), by rw [ht]; exact hP9, va_K.moved hW.alike hK9, hD9⟩, hS.F ht⟩) hS.2.2 dX7_append_49
  · exact absurd c_25 (by decide)
set_option maxHeartbeats 4000000 in
set_option maxRecDepth 100000 in
theorem p_feed (l : Launch) (dC : Nat → ClassId) (dI : Nat → Nat → Nat) (n0 : Nat) (atx : Nat → Nat × Nat) (sz : Nat) (x0 : Nat) (rd : Nat) (dr : Nat) (bk : Nat) (st : Nat) (j2 : Nat) (tr : Nat) (pl : Nat) (fl : Nat) (rq : Nat) (xt : Int32) (xf1 : Int32) (xp1 : Int32) (rd_tape : Nat) (fd : Nat) (fa1 : Int32) (fp1 : Int32) (rd_names : Nat) (rd_nameKind : Nat) (rd_nameNumber : Nat) (nm1 : Int32) (rd_knotNames : Nat) (en1 : Int32) (at0 : Int32) (tk1 : Int32) (ts1 : Int32) (tv1 : Int64) (k_rd_tape : ClassId) (f_rd_tape : Nat → Int32) (ea : Int32) (eb : Int32) (ec : Int32) (ed : Int32) (ee : Int32) (hfd : fd ≤ 600) : Met l yX11_feed (wM yX11_feed cX11_feed 6 (some .int)) ({ frames := 1, cells := 0, slots := 0, locals := 22 }) (va_Pc [.ref x0, .int ea, .int eb, .int ec, .int ed, .int ee] (fun U => U.heap.size = sz ∧ n0 ≤ sz ∧ GW n0 atx U ∧ va_P (dC, dI) classes [(x0, .inr (11, [.ref rd, .ref dr, .ref bk, .ref st, .ref j2, .ref tr, .ref pl, .ref fl, .ref rq, .int xt, .int xf1, .int xp1])), (rd, .inr (7, [.ref rd_tape, .int (nI fd), .int fa1, .int fp1, .ref dr, .ref rd_names, .ref rd_nameKind, .ref rd_nameNumber, .int nm1, .ref rd_knotNames, .int en1, .int at0, .int tk1, .int ts1, .long tv1])), (rd_tape, .inl (k_rd_tape, 600, .inl f_rd_tape))] U.heap ∧ va_K (dC, dI) classes [(k_rd_tape, .int)] U ∧ va_D (fun q => n0 ≤ q) [(x0, .inr (11, [.ref rd, .ref dr, .ref bk, .ref st, .ref j2, .ref tr, .ref pl, .ref fl, .ref rq, .int xt, .int xf1, .int xp1])), (rd, .inr (7, [.ref rd_tape, .int (nI fd), .int fa1, .int fp1, .ref dr, .ref rd_names, .ref rd_nameKind, .ref rd_nameNumber, .int nm1, .ref rd_knotNames, .int en1, .int at0, .int tk1, .int ts1, .long tv1])), (rd_tape, .inl (k_rd_tape, 600, .inl f_rd_tape))])) (va_Qi (fun (r : Int32) (_ : Unit) => r = if fd + 20 ≤ 600 then nI (fd + 20) else (-1)) (fun (_ : Unit) (t : State) => ∃ (fd9 : Nat), ∃ (ta9 : Nat → Int32), (fd9 = if fd + 20 ≤ 600 then fd + 20 else fd) ∧ va_P (dC, dI) classes [(x0, .inr (11, [.ref rd, .ref dr, .ref bk, .ref st, .ref j2, .ref tr, .ref pl, .ref fl, .ref rq, .int xt, .int xf1, .int xp1])), (rd, .inr (7, [.ref rd_tape, .int (nI fd9), .int fa1, .int fp1, .ref dr, .ref rd_names, .ref rd_nameKind, .ref rd_nameNumber, .int nm1, .ref rd_knotNames, .int en1, .int at0, .int tk1, .int ts1, .long tv1])), (rd_tape, .inl (k_rd_tape, 600, .inl ta9))] t.heap ∧ va_K (dC, dI) classes [(k_rd_tape, .int)] t ∧ va_D (va_A [(x0, .inr (11, [.ref rd, .ref dr, .ref bk, .ref st, .ref j2, .ref tr, .ref pl, .ref fl, .ref rq, .int xt, .int xf1, .int xp1])), (rd, .inr (7, [.ref rd_tape, .int (nI fd), .int fa1, .int fp1, .ref dr, .ref rd_names, .ref rd_nameKind, .ref rd_nameNumber, .int nm1, .ref rd_knotNames, .int en1, .int at0, .int tk1, .int ts1, .long tv1])), (rd_tape, .inl (k_rd_tape, 600, .inl f_rd_tape))] sz) [(x0, .inr (11, [.ref rd, .ref dr, .ref bk, .ref st, .ref j2, .ref tr, .ref pl, .ref fl, .ref rq, .int xt, .int xf1, .int xp1])), (rd, .inr (7, [.ref rd_tape, .int (nI fd9), .int fa1, .int fp1, .ref dr, .ref rd_names, .ref rd_nameKind, .ref rd_nameNumber, .int nm1, .ref rd_knotNames, .int en1, .int at0, .int tk1, .int ts1, .long tv1])), (rd_tape, .inl (k_rd_tape, 600, .inl ta9))]) (va_A [(x0, .inr (11, [.ref rd, .ref dr, .ref bk, .ref st, .ref j2, .ref tr, .ref pl, .ref fl, .ref rq, .int xt, .int xf1, .int xp1])), (rd, .inr (7, [.ref rd_tape, .int (nI fd), .int fa1, .int fp1, .ref dr, .ref rd_names, .ref rd_nameKind, .ref rd_nameNumber, .int nm1, .ref rd_knotNames, .int en1, .int at0, .int tk1, .int ts1, .long tv1])), (rd_tape, .inl (k_rd_tape, 600, .inl f_rd_tape))] sz)) 0 0 (va_A [(x0, .inr (11, [.ref rd, .ref dr, .ref bk, .ref st, .ref j2, .ref tr, .ref pl, .ref fl, .ref rq, .int xt, .int xf1, .int xp1])), (rd, .inr (7, [.ref rd_tape, .int (nI fd), .int fa1, .int fp1, .ref dr, .ref rd_names, .ref rd_nameKind, .ref rd_nameNumber, .int nm1, .ref rd_knotNames, .int en1, .int at0, .int tk1, .int ts1, .long tv1])), (rd_tape, .inl (k_rd_tape, 600, .inl f_rd_tape))] sz) := by
  refine Met.ofW (cc := cX11_feed) (maxL := 6) (ret := (some .int)) (by decide) rfl ?_
  intro p e s m args below meth c s₁ B hml hv
  obtain ⟨rfl, hsz, hn0, hG, hP, hK, hD0⟩ := hv
  have hx := B.exec
  have hb := B.bytes
  have hr := B.returns
  have hts := atoms_spec (ws := wM yX11_feed cX11_feed 6 (some .int)) B.pre
  have hown : s.vm.findClass RX11 = some m.cls := findClass_of_methodNamed B.named
  have hlocks := B.notSynchronized
  subst hsz
  have hD := hD0.self (sz := s.heap.size)
  have hA0 := vA_n0 hD0 hn0
  generalize hAe : va_A [(x0, .inr (11, [.ref rd, .ref dr, .ref bk, .ref st, .ref j2, .ref tr, .ref pl, .ref fl, .ref rq, .int xt, .int xf1, .int xp1])), (rd, .inr (7, [.ref rd_tape, .int (nI fd), .int fa1, .int fp1, .ref dr, .ref rd_names, .ref rd_nameKind, .ref rd_nameNumber, .int nm1, .ref rd_knotNames, .int en1, .int at0, .int tk1, .int ts1, .long tv1])), (rd_tape, .inl (k_rd_tape, 600, .inl f_rd_tape))] s.heap.size = A at hD hA0 ⊢
  have hA : ∀ q : Nat, s.heap.size ≤ q → A q := fun q h => by rw [← hAe]; exact Or.inr h
  have hS : va_S A s.heap s.heap [] := va_S.rf
  have hl := lv_entry ([.ref x0, .int ea, .int eb, .int ec, .int ed, .int ee]) (n := 6) (Nat.le_of_ble_eq_true rfl)
  rw [lg_entry_eq]
  generalize (lg_sl ([.ref x0, .int ea, .int eb, .int ec, .int ed, .int ee]) ++ List.replicate (6 - (lg_sl ([.ref x0, .int ea, .int eb, .int ec, .int ed, .int ee])).length) Slot.unset).toArray = ls at hl ⊢
  have hl : lv_has ls 6 [(0, .ref x0), (1, .int ea), (2, .int eb), (3, .int ec), (4, .int ed), (5, .int ee)] := hl
  refine lv_aload_n hx hb dX11_feed_0 rfl (lv_at hl 0 rfl) ?_
  refine va_get (D := (dC, dI)) (ci := 11) (v := .ref rd) (C := RX11) (T := TX11) (N := 12) hx hb hts (fun w h => wM_c (iX11 w h)) hown hK hP 0 rfl rfl 0 (by decide) (hts _ (wM_c wd_670)) (fun _ h9 => h9) rfl dX11_feed_1 ?_
  refine va_get (D := (dC, dI)) (ci := 7) (v := .int (nI fd)) (C := RX7) (T := TX7) (N := 15) hx hb hts (fun w h => wM_c (iX7 w h)) hown hK hP 1 rfl rfl 1 (by decide) (hts _ (wM_c wd_334)) (fun _ h9 => h9) rfl dX11_feed_4 ?_
  refine lv_bipush (v := 20) hx hb dX11_feed_7 (by decide) ?_
  refine lv_iadd hx hb dX11_feed_9 ?_
  refine lv_topi (fun v_1 ev_1 => ?_)
  obtain rfl : v_1 = nI (fd + 20) := ev_1.trans (nI_add fd 20)
  refine lv_sipush (v := 600) hx hb dX11_feed_10 (by decide) ?_
  refine lv_icmp_le (tgt := 18) hx hb dX11_feed_13 (by decide) (fun c_2 => ?_) (fun c_2 => ?_)
  · skip
    have g_3 := n_ge (a := 600) (b := (fd + 20)) c_2 (by omega) (by omega)
    refine lv_aload_n hx hb dX11_feed_18 rfl (lv_at hl 0 rfl) ?_
    refine va_get (D := (dC, dI)) (ci := 11) (v := .ref rd) (C := RX11) (T := TX11) (N := 12) hx hb hts (fun w h => wM_c (iX11 w h)) hown hK hP 0 rfl rfl 0 (by decide) (hts _ (wM_c wd_670)) (fun _ h9 => h9) rfl dX11_feed_19 ?_
    refine lv_iload_n hx hb dX11_feed_22 rfl (lv_at hl 1 rfl) ?_
    have hPc := hP.sub (ws' := [(rd, .inr (7, [.ref rd_tape, .int (nI fd), .int fa1, .int fp1, .ref dr, .ref rd_names, .ref rd_nameKind, .ref rd_nameNumber, .int nm1, .ref rd_knotNames, .int en1, .int at0, .int tk1, .int ts1, .long tv1])), (rd_tape, .inl (k_rd_tape, 600, .inl f_rd_tape))]) [1, 2] rfl
    have hDc := hD.sub (ws' := [(rd, .inr (7, [.ref rd_tape, .int (nI fd), .int fa1, .int fp1, .ref dr, .ref rd_names, .ref rd_nameKind, .ref rd_nameNumber, .int nm1, .ref rd_knotNames, .int en1, .int at0, .int tk1, .int ts1, .long tv1])), (rd_tape, .inl (k_rd_tape, 600, .inl f_rd_tape))]) [1, 2] (by decide) rfl
    have hKc := hK.sub (tys' := [(k_rd_tape, .int)]) [0] rfl
    have hFc := va_free (wc := [(rd, .inr (7, [.ref rd_tape, .int (nI fd), .int fa1, .int fp1, .ref dr, .ref rd_names, .ref rd_nameKind, .ref rd_nameNumber, .int nm1, .ref rd_knotNames, .int en1, .int at0, .int tk1, .int ts1, .long tv1])), (rd_tape, .inl (k_rd_tape, 600, .inl f_rd_tape))]) hD hS hA [1, 2] rfl
    refine va_callv (va_runV (As := [.int ea]) (rest := []) ⟨hx, hb, hml, hown, hts⟩ (c7_append l dC dI n0 atx s.heap.size rd rd_tape fd fa1 fp1 dr rd_names rd_nameKind rd_nameNumber nm1 rd_knotNames en1 at0 tk1 ts1 tv1 k_rd_tape f_rd_tape ea (by first | with_reducible assumption | omega | exact vp_in_iff.mpr (by omega) | exact vp_in_nI (by omega) (by omega) | exact ⟨by omega, by omega⟩)) (cwV 1 hts (gV (fun w h => wM_c h) wd_714 wd_711 wd_712 wd_713 wd_117) rfl rfl rfl (by decide +kernel) ⟨Nat.le_of_ble_eq_true rfl, Nat.le_of_ble_eq_true rfl⟩) ⟨fun a U g mk q => by obtain ⟨q0, q1, q2, qG, qP, qK, qD⟩ := q; exact ⟨q0, q1, q2, GW.blind qG, qP, va_K.moved (u := U) (U := U.calling g mk a) (Vm.Alike.refl U.vm) qK, qD⟩, va_recv hKc hPc (ci := 7) (q0 := 0) rfl rfl, fun U hU hW => ⟨rfl, by rw [hU], Nat.le_trans hn0 hS.1, GW.go hW hU hG (fun q hq hA9 => hS.2.1 q hq (fun h => hA9 (hA0 q h))), by rw [hU]; exact hPc, va_K.moved hW.alike hKc, hDc.weaken (fun _ _ _ h => hA0 _ h)⟩⟩ rfl rfl hl.1 rfl (lv_room (Nat.le_of_ble_eq_true rfl)) dX11_feed_23 ⟨Nat.le_of_ble_eq_true rfl, Nat.le_of_ble_eq_true rfl⟩) hS (fun q _ h => hFc q h) hFc (fun u t H1 locs ht hvm hw_5 hB hz1 hk1 hS => ?_)
    obtain ⟨fd9_6, ta9_7, hf_8, hP1, hK1, hD1⟩ := hB
    rw [ht] at hP1
    obtain ⟨hP, hD⟩ := va_join (wr := [(x0, .inr (11, [.ref rd, .ref dr, .ref bk, .ref st, .ref j2, .ref tr, .ref pl, .ref fl, .ref rq, .int xt, .int xf1, .int xp1]))]) (w1 := [(rd, .inr (7, [.ref rd_tape, .int (nI fd9_6), .int fa1, .int fp1, .ref dr, .ref rd_names, .ref rd_nameKind, .ref rd_nameNumber, .int nm1, .ref rd_knotNames, .int en1, .int at0, .int tk1, .int ts1, .long tv1])), (rd_tape, .inl (k_rd_tape, 600, .inl ta9_7))]) hP hD [1, 2] [0] rfl rfl (by decide) (by decide) hk1 hFc hP1 hD1
    generalize H1 = H at hP hS ⊢
    have hP : va_P (dC, dI) classes [(x0, .inr (11, [.ref rd, .ref dr, .ref bk, .ref st, .ref j2, .ref tr, .ref pl, .ref fl, .ref rq, .int xt, .int xf1, .int xp1])), (rd, .inr (7, [.ref rd_tape, .int (nI fd9_6), .int fa1, .int fp1, .ref dr, .ref rd_names, .ref rd_nameKind, .ref rd_nameNumber, .int nm1, .ref rd_knotNames, .int en1, .int at0, .int tk1, .int ts1, .long tv1])), (rd_tape, .inl (k_rd_tape, 600, .inl ta9_7))] H := hP
    have hD : va_D A [(x0, .inr (11, [.ref rd, .ref dr, .ref bk, .ref st, .ref j2, .ref tr, .ref pl, .ref fl, .ref rq, .int xt, .int xf1, .int xp1])), (rd, .inr (7, [.ref rd_tape, .int (nI fd9_6), .int fa1, .int fp1, .ref dr, .ref rd_names, .ref rd_nameKind, .ref rd_nameNumber, .int nm1, .ref rd_knotNames, .int en1, .int at0, .int tk1, .int ts1, .long tv1])), (rd_tape, .inl (k_rd_tape, 600, .inl ta9_7))] := hD
    refine lv_aload_n hx hb dX11_feed_26 rfl (lv_at hl 0 rfl) ?_
    refine va_get (D := (dC, dI)) (ci := 11) (v := .ref rd) (C := RX11) (T := TX11) (N := 12) hx hb hts (fun w h => wM_c (iX11 w h)) hown hK hP 0 rfl rfl 0 (by decide) (hts _ (wM_c wd_670)) (fun _ h9 => h9) rfl dX11_feed_27 ?_
    refine lv_iload_n hx hb dX11_feed_30 rfl (lv_at hl 2 rfl) ?_
    have hPc := hP.sub (ws' := [(rd, .inr (7, [.ref rd_tape, .int (nI fd9_6), .int fa1, .int fp1, .ref dr, .ref rd_names, .ref rd_nameKind, .ref rd_nameNumber, .int nm1, .ref rd_knotNames, .int en1, .int at0, .int tk1, .int ts1, .long tv1])), (rd_tape, .inl (k_rd_tape, 600, .inl ta9_7))]) [1, 2] rfl
    have hDc := hD.sub (ws' := [(rd, .inr (7, [.ref rd_tape, .int (nI fd9_6), .int fa1, .int fp1, .ref dr, .ref rd_names, .ref rd_nameKind, .ref rd_nameNumber, .int nm1, .ref rd_knotNames, .int en1, .int at0, .int tk1, .int ts1, .long tv1])), (rd_tape, .inl (k_rd_tape, 600, .inl ta9_7))]) [1, 2] (by decide) rfl
    have hKc := hK.sub (tys' := [(k_rd_tape, .int)]) [0] rfl
    have hFc := va_free (wc := [(rd, .inr (7, [.ref rd_tape, .int (nI fd9_6), .int fa1, .int fp1, .ref dr, .ref rd_names, .ref rd_nameKind, .ref rd_nameNumber, .int nm1, .ref rd_knotNames, .int en1, .int at0, .int tk1, .int ts1, .long tv1])), (rd_tape, .inl (k_rd_tape, 600, .inl ta9_7))]) hD hS hA [1, 2] rfl
    refine va_callv (va_runV (As := [.int eb]) (rest := []) ⟨hx, hb, hml, hown, hts⟩ (c7_append l dC dI n0 atx H.size rd rd_tape fd9_6 fa1 fp1 dr rd_names rd_nameKind rd_nameNumber nm1 rd_knotNames en1 at0 tk1 ts1 tv1 k_rd_tape ta9_7 eb (by first | with_reducible assumption | omega | exact vp_in_iff.mpr (by omega) | exact vp_in_nI (by omega) (by omega) | exact ⟨by omega, by omega⟩)) (cwV 1 hts (gV (fun w h => wM_c h) wd_714 wd_711 wd_712 wd_713 wd_117) rfl rfl rfl (by decide +kernel) ⟨Nat.le_of_ble_eq_true rfl, Nat.le_of_ble_eq_true rfl⟩) ⟨fun a U g mk q => by obtain ⟨q0, q1, q2, qG, qP, qK, qD⟩ := q; exact ⟨q0, q1, q2, GW.blind qG, qP, va_K.moved (u := U) (U := U.calling g mk a) (Vm.Alike.refl U.vm) qK, qD⟩, va_recv hKc hPc (ci := 7) (q0 := 0) rfl rfl, fun U hU hW => ⟨rfl, by rw [hU], Nat.le_trans hn0 hS.1, GW.go hW hU hG (fun q hq hA9 => hS.2.1 q hq (fun h => hA9 (hA0 q h))), by rw [hU]; exact hPc, va_K.moved hW.alike hKc, hDc.weaken (fun _ _ _ h => hA0 _ h)⟩⟩ rfl rfl hl.1 rfl (lv_room (Nat.le_of_ble_eq_true rfl)) dX11_feed_31 ⟨Nat.le_of_ble_eq_true rfl, Nat.le_of_ble_eq_true rfl⟩) hS (fun q _ h => hFc q h) hFc (fun u t H1 locs ht hvm hw_10 hB hz1 hk1 hS => ?_)
    obtain ⟨fd9_11, ta9_12, hf_13, hP1, hK1, hD1⟩ := hB
    rw [ht] at hP1
    obtain ⟨hP, hD⟩ := va_join (wr := [(x0, .inr (11, [.ref rd, .ref dr, .ref bk, .ref st, .ref j2, .ref tr, .ref pl, .ref fl, .ref rq, .int xt, .int xf1, .int xp1]))]) (w1 := [(rd, .inr (7, [.ref rd_tape, .int (nI fd9_11), .int fa1, .int fp1, .ref dr, .ref rd_names, .ref rd_nameKind, .ref rd_nameNumber, .int nm1, .ref rd_knotNames, .int en1, .int at0, .int tk1, .int ts1, .long tv1])), (rd_tape, .inl (k_rd_tape, 600, .inl ta9_12))]) hP hD [1, 2] [0] rfl rfl (by decide) (by decide) hk1 hFc hP1 hD1
    generalize H1 = H at hP hS ⊢
    have hP : va_P (dC, dI) classes [(x0, .inr (11, [.ref rd, .ref dr, .ref bk, .ref st, .ref j2, .ref tr, .ref pl, .ref fl, .ref rq, .int xt, .int xf1, .int xp1])), (rd, .inr (7, [.ref rd_tape, .int (nI fd9_11), .int fa1, .int fp1, .ref dr, .ref rd_names, .ref rd_nameKind, .ref rd_nameNumber, .int nm1, .ref rd_knotNames, .int en1, .int at0, .int tk1, .int ts1, .long tv1])), (rd_tape, .inl (k_rd_tape, 600, .inl ta9_12))] H := hP
    have hD : va_D A [(x0, .inr (11, [.ref rd, .ref dr, .ref bk, .ref st, .ref j2, .ref tr, .ref pl, .ref fl, .ref rq, .int xt, .int xf1, .int xp1])), (rd, .inr (7, [.ref rd_tape, .int (nI fd9_11), .int fa1, .int fp1, .ref dr, .ref rd_names, .ref rd_nameKind, .ref rd_nameNumber, .int nm1, .ref rd_knotNames, .int en1, .int at0, .int tk1, .int ts1, .long tv1])), (rd_tape, .inl (k_rd_tape, 600, .inl ta9_12))] := hD
    refine lv_aload_n hx hb dX11_feed_34 rfl (lv_at hl 0 rfl) ?_
    refine va_get (D := (dC, dI)) (ci := 11) (v := .ref rd) (C := RX11) (T := TX11) (N := 12) hx hb hts (fun w h => wM_c (iX11 w h)) hown hK hP 0 rfl rfl 0 (by decide) (hts _ (wM_c wd_670)) (fun _ h9 => h9) rfl dX11_feed_35 ?_
    refine lv_iload_n hx hb dX11_feed_38 rfl (lv_at hl 3 rfl) ?_
    have hPc := hP.sub (ws' := [(rd, .inr (7, [.ref rd_tape, .int (nI fd9_11), .int fa1, .int fp1, .ref dr, .ref rd_names, .ref rd_nameKind, .ref rd_nameNumber, .int nm1, .ref rd_knotNames, .int en1, .int at0, .int tk1, .int ts1, .long tv1])), (rd_tape, .inl (k_rd_tape, 600, .inl ta9_12))]) [1, 2] rfl
    have hDc := hD.sub (ws' := [(rd, .inr (7, [.ref rd_tape, .int (nI fd9_11), .int fa1, .int fp1, .ref dr, .ref rd_names, .ref rd_nameKind, .ref rd_nameNumber, .int nm1, .ref rd_knotNames, .int en1, .int at0, .int tk1, .int ts1, .long tv1])), (rd_tape, .inl (k_rd_tape, 600, .inl ta9_12))]) [1, 2] (by decide) rfl
    have hKc := hK.sub (tys' := [(k_rd_tape, .int)]) [0] rfl
    have hFc := va_free (wc := [(rd, .inr (7, [.ref rd_tape, .int (nI fd9_11), .int fa1, .int fp1, .ref dr, .ref rd_names, .ref rd_nameKind, .ref rd_nameNumber, .int nm1, .ref rd_knotNames, .int en1, .int at0, .int tk1, .int ts1, .long tv1])), (rd_tape, .inl (k_rd_tape, 600, .inl ta9_12))]) hD hS hA [1, 2] rfl
    refine va_callv (va_runV (As := [.int ec]) (rest := []) ⟨hx, hb, hml, hown, hts⟩ (c7_append l dC dI n0 atx H.size rd rd_tape fd9_11 fa1 fp1 dr rd_names rd_nameKind rd_nameNumber nm1 rd_knotNames en1 at0 tk1 ts1 tv1 k_rd_tape ta9_12 ec (by first | with_reducible assumption | omega | exact vp_in_iff.mpr (by omega) | exact vp_in_nI (by omega) (by omega) | exact ⟨by omega, by omega⟩)) (cwV 1 hts (gV (fun w h => wM_c h) wd_714 wd_711 wd_712 wd_713 wd_117) rfl rfl rfl (by decide +kernel) ⟨Nat.le_of_ble_eq_true rfl, Nat.le_of_ble_eq_true rfl⟩) ⟨fun a U g mk q => by obtain ⟨q0, q1, q2, qG, qP, qK, qD⟩ := q; exact ⟨q0, q1, q2, GW.blind qG, qP, va_K.moved (u := U) (U := U.calling g mk a) (Vm.Alike.refl U.vm) qK, qD⟩, va_recv hKc hPc (ci := 7) (q0 := 0) rfl rfl, fun U hU hW => ⟨rfl, by rw [hU], Nat.le_trans hn0 hS.1, GW.go hW hU hG (fun q hq hA9 => hS.2.1 q hq (fun h => hA9 (hA0 q h))), by rw [hU]; exact hPc, va_K.moved hW.alike hKc, hDc.weaken (fun _ _ _ h => hA0 _ h)⟩⟩ rfl rfl hl.1 rfl (lv_room (Nat.le_of_ble_eq_true rfl)) dX11_feed_39 ⟨Nat.le_of_ble_eq_true rfl, Nat.le_of_ble_eq_true rfl⟩) hS (fun q _ h => hFc q h) hFc (fun u t H1 locs ht hvm hw_15 hB hz1 hk1 hS => ?_)
    obtain ⟨fd9_16, ta9_17, hf_18, hP1, hK1, hD1⟩ := hB
    rw [ht] at hP1
    obtain ⟨hP, hD⟩ := va_join (wr := [(x0, .inr (11, [.ref rd, .ref dr, .ref bk, .ref st, .ref j2, .ref tr, .ref pl, .ref fl, .ref rq, .int xt, .int xf1, .int xp1]))]) (w1 := [(rd, .inr (7, [.ref rd_tape, .int (nI fd9_16), .int fa1, .int fp1, .ref dr, .ref rd_names, .ref rd_nameKind, .ref rd_nameNumber, .int nm1, .ref rd_knotNames, .int en1, .int at0, .int tk1, .int ts1, .long tv1])), (rd_tape, .inl (k_rd_tape, 600, .inl ta9_17))]) hP hD [1, 2] [0] rfl rfl (by decide) (by decide) hk1 hFc hP1 hD1
    generalize H1 = H at hP hS ⊢
    have hP : va_P (dC, dI) classes [(x0, .inr (11, [.ref rd, .ref dr, .ref bk, .ref st, .ref j2, .ref tr, .ref pl, .ref fl, .ref rq, .int xt, .int xf1, .int xp1])), (rd, .inr (7, [.ref rd_tape, .int (nI fd9_16), .int fa1, .int fp1, .ref dr, .ref rd_names, .ref rd_nameKind, .ref rd_nameNumber, .int nm1, .ref rd_knotNames, .int en1, .int at0, .int tk1, .int ts1, .long tv1])), (rd_tape, .inl (k_rd_tape, 600, .inl ta9_17))] H := hP
    have hD : va_D A [(x0, .inr (11, [.ref rd, .ref dr, .ref bk, .ref st, .ref j2, .ref tr, .ref pl, .ref fl, .ref rq, .int xt, .int xf1, .int xp1])), (rd, .inr (7, [.ref rd_tape, .int (nI fd9_16), .int fa1, .int fp1, .ref dr, .ref rd_names, .ref rd_nameKind, .ref rd_nameNumber, .int nm1, .ref rd_knotNames, .int en1, .int at0, .int tk1, .int ts1, .long tv1])), (rd_tape, .inl (k_rd_tape, 600, .inl ta9_17))] := hD
    refine lv_aload_n hx hb dX11_feed_42 rfl (lv_at hl 0 rfl) ?_
    refine va_get (D := (dC, dI)) (ci := 11) (v := .ref rd) (C := RX11) (T := TX11) (N := 12) hx hb hts (fun w h => wM_c (iX11 w h)) hown hK hP 0 rfl rfl 0 (by decide) (hts _ (wM_c wd_670)) (fun _ h9 => h9) rfl dX11_feed_43 ?_
    refine lv_iload hx hb dX11_feed_46 (lv_at hl 4 rfl) ?_
    have hPc := hP.sub (ws' := [(rd, .inr (7, [.ref rd_tape, .int (nI fd9_16), .int fa1, .int fp1, .ref dr, .ref rd_names, .ref rd_nameKind, .ref rd_nameNumber, .int nm1, .ref rd_knotNames, .int en1, .int at0, .int tk1, .int ts1, .long tv1])), (rd_tape, .inl (k_rd_tape, 600, .inl ta9_17))]) [1, 2] rfl
    have hDc := hD.sub (ws' := [(rd, .inr (7, [.ref rd_tape, .int (nI fd9_16), .int fa1, .int fp1, .ref dr, .ref rd_names, .ref rd_nameKind, .ref rd_nameNumber, .int nm1, .ref rd_knotNames, .int en1, .int at0, .int tk1, .int ts1, .long tv1])), (rd_tape, .inl (k_rd_tape, 600, .inl ta9_17))]) [1, 2] (by decide) rfl
    have hKc := hK.sub (tys' := [(k_rd_tape, .int)]) [0] rfl
    have hFc := va_free (wc := [(rd, .inr (7, [.ref rd_tape, .int (nI fd9_16), .int fa1, .int fp1, .ref dr, .ref rd_names, .ref rd_nameKind, .ref rd_nameNumber, .int nm1, .ref rd_knotNames, .int en1, .int at0, .int tk1, .int ts1, .long tv1])), (rd_tape, .inl (k_rd_tape, 600, .inl ta9_17))]) hD hS hA [1, 2] rfl
    refine va_callv (va_runV (As := [.int ed]) (rest := []) ⟨hx, hb, hml, hown, hts⟩ (c7_append l dC dI n0 atx H.size rd rd_tape fd9_16 fa1 fp1 dr rd_names rd_nameKind rd_nameNumber nm1 rd_knotNames en1 at0 tk1 ts1 tv1 k_rd_tape ta9_17 ed (by first | with_reducible assumption | omega | exact vp_in_iff.mpr (by omega) | exact vp_in_nI (by omega) (by omega) | exact ⟨by omega, by omega⟩)) (cwV 1 hts (gV (fun w h => wM_c h) wd_714 wd_711 wd_712 wd_713 wd_117) rfl rfl rfl (by decide +kernel) ⟨Nat.le_of_ble_eq_true rfl, Nat.le_of_ble_eq_true rfl⟩) ⟨fun a U g mk q => by obtain ⟨q0, q1, q2, qG, qP, qK, qD⟩ := q; exact ⟨q0, q1, q2, GW.blind qG, qP, va_K.moved (u := U) (U := U.calling g mk a) (Vm.Alike.refl U.vm) qK, qD⟩, va_recv hKc hPc (ci := 7) (q0 := 0) rfl rfl, fun U hU hW => ⟨rfl, by rw [hU], Nat.le_trans hn0 hS.1, GW.go hW hU hG (fun q hq hA9 => hS.2.1 q hq (fun h => hA9 (hA0 q h))), by rw [hU]; exact hPc, va_K.moved hW.alike hKc, hDc.weaken (fun _ _ _ h => hA0 _ h)⟩⟩ rfl rfl hl.1 rfl (lv_room (Nat.le_of_ble_eq_true rfl)) dX11_feed_48 ⟨Nat.le_of_ble_eq_true rfl, Nat.le_of_ble_eq_true rfl⟩) hS (fun q _ h => hFc q h) hFc (fun u t H1 locs ht hvm hw_20 hB hz1 hk1 hS => ?_)
    obtain ⟨fd9_21, ta9_22, hf_23, hP1, hK1, hD1⟩ := hB
    rw [ht] at hP1
    obtain ⟨hP, hD⟩ := va_join (wr := [(x0, .inr (11, [.ref rd, .ref dr, .ref bk, .ref st, .ref j2, .ref tr, .ref pl, .ref fl, .ref rq, .int xt, .int xf1, .int xp1]))]) (w1 := [(rd, .inr (7, [.ref rd_tape, .int (nI fd9_21), .int fa1, .int fp1, .ref dr, .ref rd_names, .ref rd_nameKind, .ref rd_nameNumber, .int nm1, .ref rd_knotNames, .int en1, .int at0, .int tk1, .int ts1, .long tv1])), (rd_tape, .inl (k_rd_tape, 600, .inl ta9_22))]) hP hD [1, 2] [0] rfl rfl (by decide) (by decide) hk1 hFc hP1 hD1
    generalize H1 = H at hP hS ⊢
    have hP : va_P (dC, dI) classes [(x0, .inr (11, [.ref rd, .ref dr, .ref bk, .ref st, .ref j2, .ref tr, .ref pl, .ref fl, .ref rq, .int xt, .int xf1, .int xp1])), (rd, .inr (7, [.ref rd_tape, .int (nI fd9_21), .int fa1, .int fp1, .ref dr, .ref rd_names, .ref rd_nameKind, .ref rd_nameNumber, .int nm1, .ref rd_knotNames, .int en1, .int at0, .int tk1, .int ts1, .long tv1])), (rd_tape, .inl (k_rd_tape, 600, .inl ta9_22))] H := hP
    have hD : va_D A [(x0, .inr (11, [.ref rd, .ref dr, .ref bk, .ref st, .ref j2, .ref tr, .ref pl, .ref fl, .ref rq, .int xt, .int xf1, .int xp1])), (rd, .inr (7, [.ref rd_tape, .int (nI fd9_21), .int fa1, .int fp1, .ref dr, .ref rd_names, .ref rd_nameKind, .ref rd_nameNumber, .int nm1, .ref rd_knotNames, .int en1, .int at0, .int tk1, .int ts1, .long tv1])), (rd_tape, .inl (k_rd_tape, 600, .inl ta9_22))] := hD
    refine lv_aload_n hx hb dX11_feed_51 rfl (lv_at hl 0 rfl) ?_
    refine va_get (D := (dC, dI)) (ci := 11) (v := .ref rd) (C := RX11) (T := TX11) (N := 12) hx hb hts (fun w h => wM_c (iX11 w h)) hown hK hP 0 rfl rfl 0 (by decide) (hts _ (wM_c wd_670)) (fun _ h9 => h9) rfl dX11_feed_52 ?_
    refine lv_iload hx hb dX11_feed_55 (lv_at hl 5 rfl) ?_
    have hPc := hP.sub (ws' := [(rd, .inr (7, [.ref rd_tape, .int (nI fd9_21), .int fa1, .int fp1, .ref dr, .ref rd_names, .ref rd_nameKind, .ref rd_nameNumber, .int nm1, .ref rd_knotNames, .int en1, .int at0, .int tk1, .int ts1, .long tv1])), (rd_tape, .inl (k_rd_tape, 600, .inl ta9_22))]) [1, 2] rfl
    have hDc := hD.sub (ws' := [(rd, .inr (7, [.ref rd_tape, .int (nI fd9_21), .int fa1, .int fp1, .ref dr, .ref rd_names, .ref rd_nameKind, .ref rd_nameNumber, .int nm1, .ref rd_knotNames, .int en1, .int at0, .int tk1, .int ts1, .long tv1])), (rd_tape, .inl (k_rd_tape, 600, .inl ta9_22))]) [1, 2] (by decide) rfl
    have hKc := hK.sub (tys' := [(k_rd_tape, .int)]) [0] rfl
    have hFc := va_free (wc := [(rd, .inr (7, [.ref rd_tape, .int (nI fd9_21), .int fa1, .int fp1, .ref dr, .ref rd_names, .ref rd_nameKind, .ref rd_nameNumber, .int nm1, .ref rd_knotNames, .int en1, .int at0, .int tk1, .int ts1, .long tv1])), (rd_tape, .inl (k_rd_tape, 600, .inl ta9_22))]) hD hS hA [1, 2] rfl
    refine va_callv (va_runV (As := [.int ee]) (rest := []) ⟨hx, hb, hml, hown, hts⟩ (c7_append l dC dI n0 atx H.size rd rd_tape fd9_21 fa1 fp1 dr rd_names rd_nameKind rd_nameNumber nm1 rd_knotNames en1 at0 tk1 ts1 tv1 k_rd_tape ta9_22 ee (by first | with_reducible assumption | omega | exact vp_in_iff.mpr (by omega) | exact vp_in_nI (by omega) (by omega) | exact ⟨by omega, by omega⟩)) (cwV 1 hts (gV (fun w h => wM_c h) wd_714 wd_711 wd_712 wd_713 wd_117) rfl rfl rfl (by decide +kernel) ⟨Nat.le_of_ble_eq_true rfl, Nat.le_of_ble_eq_true rfl⟩) ⟨fun a U g mk q => by obtain ⟨q0, q1, q2, qG, qP, qK, qD⟩ := q; exact ⟨q0, q1, q2, GW.blind qG, qP, va_K.moved (u := U) (U := U.calling g mk a) (Vm.Alike.refl U.vm) qK, qD⟩, va_recv hKc hPc (ci := 7) (q0 := 0) rfl rfl, fun U hU hW => ⟨rfl, by rw [hU], Nat.le_trans hn0 hS.1, GW.go hW hU hG (fun q hq hA9 => hS.2.1 q hq (fun h => hA9 (hA0 q h))), by rw [hU]; exact hPc, va_K.moved hW.alike hKc, hDc.weaken (fun _ _ _ h => hA0 _ h)⟩⟩ rfl rfl hl.1 rfl (lv_room (Nat.le_of_ble_eq_true rfl)) dX11_feed_57 ⟨Nat.le_of_ble_eq_true rfl, Nat.le_of_ble_eq_true rfl⟩) hS (fun q _ h => hFc q h) hFc (fun u t H1 locs ht hvm hw_25 hB hz1 hk1 hS => ?_)
    obtain ⟨fd9_26, ta9_27, hf_28, hP1, hK1, hD1⟩ := hB
    rw [ht] at hP1
    obtain ⟨hP, hD⟩ := va_join (wr := [(x0, .inr (11, [.ref rd, .ref dr, .ref bk, .ref st, .ref j2, .ref tr, .ref pl, .ref fl, .ref rq, .int xt, .int xf1, .int xp1]))]) (w1 := [(rd, .inr (7, [.ref rd_tape, .int (nI fd9_26), .int fa1, .int fp1, .ref dr, .ref rd_names, .ref rd_nameKind, .ref rd_nameNumber, .int nm1, .ref rd_knotNames, .int en1, .int at0, .int tk1, .int ts1, .long tv1])), (rd_tape, .inl (k_rd_tape, 600, .inl ta9_27))]) hP hD [1, 2] [0] rfl rfl (by decide) (by decide) hk1 hFc hP1 hD1
    generalize H1 = H at hP hS ⊢
    have hP : va_P (dC, dI) classes [(x0, .inr (11, [.ref rd, .ref dr, .ref bk, .ref st, .ref j2, .ref tr, .ref pl, .ref fl, .ref rq, .int xt, .int xf1, .int xp1])), (rd, .inr (7, [.ref rd_tape, .int (nI fd9_26), .int fa1, .int fp1, .ref dr, .ref rd_names, .ref rd_nameKind, .ref rd_nameNumber, .int nm1, .ref rd_knotNames, .int en1, .int at0, .int tk1, .int ts1, .long tv1])), (rd_tape, .inl (k_rd_tape, 600, .inl ta9_27))] H := hP
    have hD : va_D A [(x0, .inr (11, [.ref rd, .ref dr, .ref bk, .ref st, .ref j2, .ref tr, .ref pl, .ref fl, .ref rq, .int xt, .int xf1, .int xp1])), (rd, .inr (7, [.ref rd_tape, .int (nI fd9_26), .int fa1, .int fp1, .ref dr, .ref rd_names, .ref rd_nameKind, .ref rd_nameNumber, .int nm1, .ref rd_knotNames, .int en1, .int at0, .int tk1, .int ts1, .long tv1])), (rd_tape, .inl (k_rd_tape, 600, .inl ta9_27))] := hD
    refine lv_aload_n hx hb dX11_feed_60 rfl (lv_at hl 0 rfl) ?_
    refine va_get (D := (dC, dI)) (ci := 11) (v := .ref rd) (C := RX11) (T := TX11) (N := 12) hx hb hts (fun w h => wM_c (iX11 w h)) hown hK hP 0 rfl rfl 0 (by decide) (hts _ (wM_c wd_670)) (fun _ h9 => h9) rfl dX11_feed_61 ?_
    refine va_get (D := (dC, dI)) (ci := 7) (v := .int (nI fd9_26)) (C := RX7) (T := TX7) (N := 15) hx hb hts (fun w h => wM_c (iX7 w h)) hown hK hP 1 rfl rfl 1 (by decide) (hts _ (wM_c wd_334)) (fun _ h9 => h9) rfl dX11_feed_64 ?_
    have hP9 := hP.sub (ws' := [(x0, .inr (11, [.ref rd, .ref dr, .ref bk, .ref st, .ref j2, .ref tr, .ref pl, .ref fl, .ref rq, .int xt, .int xf1, .int xp1])), (rd, .inr (7, [.ref rd_tape, .int (nI fd9_26), .int fa1, .int fp1, .ref dr, .ref rd_names, .ref rd_nameKind, .ref rd_nameNumber, .int nm1, .ref rd_knotNames, .int en1, .int at0, .int tk1, .int ts1, .long tv1])), (rd_tape, .inl (k_rd_tape, 600, .inl ta9_27))]) [0, 1, 2] rfl
    have hD9 := hD.sub (ws' := [(x0, .inr (11, [.ref rd, .ref dr, .ref bk, .ref st, .ref j2, .ref tr, .ref pl, .ref fl, .ref rq, .int xt, .int xf1, .int xp1])), (rd, .inr (7, [.ref rd_tape, .int (nI fd9_26), .int fa1, .int fp1, .ref dr, .ref rd_names, .ref rd_nameKind, .ref rd_nameNumber, .int nm1, .ref rd_knotNames, .int en1, .int at0, .int tk1, .int ts1, .long tv1])), (rd_tape, .inl (k_rd_tape, 600, .inl ta9_27))]) [0, 1, 2] (by decide) rfl
    have hK9 := hK.sub (tys' := [(k_rd_tape, .int)]) [0] rfl
    exact W.iret (v := (nI fd9_26)) hx hb hr (fun t ht hW => ⟨⟨(nI fd9_26), (), rfl, (by rw [if_pos (by omega), show fd9_26 = fd + 20 by omega]), fd9_26, ta9_27, (by rw [if_pos (by omega)]; omega), by rw [ht]; exact hP9, va_K.moved hW.alike hK9, hD9⟩, hS.F ht⟩) hS.2.2 dX11_feed_67
  · skip
    have g_29 := n_nge (a := 600) (b := (fd + 20)) c_2 (by omega) (by omega)
    refine lv_iconst (v := (-1)) hx hb dX11_feed_16 (by decide) ?_
    have hP9 := hP.sub (ws' := [(x0, .inr (11, [.ref rd, .ref dr, .ref bk, .ref st, .ref j2, .ref tr, .ref pl, .ref fl, .ref rq, .int xt, .int xf1, .int xp1])), (rd, .inr (7, [.ref rd_tape, .int (nI fd), .int fa1, .int fp1, .ref dr, .ref rd_names, .ref rd_nameKind, .ref rd_nameNumber, .int nm1, .ref rd_knotNames, .int en1, .int at0, .int tk1, .int ts1, .long tv1])), (rd_tape, .inl (k_rd_tape, 600, .inl f_rd_tape))]) [0, 1, 2] rfl
    have hD9 := hD.sub (ws' := [(x0, .inr (11, [.ref rd, .ref dr, .ref bk, .ref st, .ref j2, .ref tr, .ref pl, .ref fl, .ref rq, .int xt, .int xf1, .int xp1])), (rd, .inr (7, [.ref rd_tape, .int (nI fd), .int fa1, .int fp1, .ref dr, .ref rd_names, .ref rd_nameKind, .ref rd_nameNumber, .int nm1, .ref rd_knotNames, .int en1, .int at0, .int tk1, .int ts1, .long tv1])), (rd_tape, .inl (k_rd_tape, 600, .inl f_rd_tape))]) [0, 1, 2] (by decide) rfl
    have hK9 := hK.sub (tys' := [(k_rd_tape, .int)]) [0] rfl
    exact W.iret (v := (-1)) hx hb hr (fun t ht hW => ⟨⟨(-1), (), rfl, (by rw [if_neg (by omega)]), fd, f_rd_tape, (by rw [if_neg (by omega)]), by rw [ht]; exact hP9, va_K.moved hW.alike hK9, hD9⟩, hS.F ht⟩) hS.2.2 dX11_feed_17
