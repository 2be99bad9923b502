theorem wd_1492 : Cond.fieldLink "MineAirModel" 87 "MineAirModel" "changeKind" "[I" ∈ wG := wG_of 1492 (by decide +kernel) (by decide +kernel)
theorem wd_1493 : Cond.fieldLink "MineAirModel" 90 "MineAirModel" "changeOf" "[I" ∈ wG := wG_of 1493 (by decide +kernel) (by decide +kernel)
theorem wd_1494 : Cond.fieldLink "MineAirModel" 93 "MineAirModel" "changeTo" "[I" ∈ wG := wG_of 1494 (by decide +kernel) (by decide +kernel)
theorem dX14_makes_0 : decode cX14_makes 0 = .ok (.aload_n 0, 1) := by decide +kernel
theorem dX14_makes_1 : decode cX14_makes 1 = .ok (.getfield 87, 3) := by decide +kernel
theorem dX14_makes_4 : decode cX14_makes 4 = .ok (.iload_n 1, 1) := by decide +kernel
theorem dX14_makes_5 : decode cX14_makes 5 = .ok (.iaload, 1) := by decide +kernel
theorem dX14_makes_6 : decode cX14_makes 6 = .ok (.ifCond .ne 32, 3) := by decide +kernel
theorem dX14_makes_9 : decode cX14_makes 9 = .ok (.aload_n 0, 1) := by decide +kernel
theorem dX14_makes_10 : decode cX14_makes 10 = .ok (.getfield 28, 3) := by decide +kernel
theorem dX14_makes_13 : decode cX14_makes 13 = .ok (.aload_n 0, 1) := by decide +kernel
theorem dX14_makes_14 : decode cX14_makes 14 = .ok (.getfield 90, 3) := by decide +kernel
theorem dX14_makes_17 : decode cX14_makes 17 = .ok (.iload_n 1, 1) := by decide +kernel
theorem dX14_makes_18 : decode cX14_makes 18 = .ok (.iaload, 1) := by decide +kernel
theorem dX14_makes_19 : decode cX14_makes 19 = .ok (.aload_n 0, 1) := by decide +kernel
theorem dX14_makes_20 : decode cX14_makes 20 = .ok (.getfield 93, 3) := by decide +kernel
theorem dX14_makes_23 : decode cX14_makes 23 = .ok (.iload_n 1, 1) := by decide +kernel
theorem dX14_makes_24 : decode cX14_makes 24 = .ok (.iaload, 1) := by decide +kernel
theorem dX14_makes_25 : decode cX14_makes 25 = .ok (.iconst 1, 1) := by decide +kernel
theorem dX14_makes_26 : decode cX14_makes 26 = .ok (.if_icmp .ne 7, 3) := by decide +kernel
theorem dX14_makes_29 : decode cX14_makes 29 = .ok (.iconst 1, 1) := by decide +kernel
theorem dX14_makes_30 : decode cX14_makes 30 = .ok (.goto 4, 3) := by decide +kernel
theorem dX14_makes_33 : decode cX14_makes 33 = .ok (.iconst 0, 1) := by decide +kernel
theorem dX14_makes_34 : decode cX14_makes 34 = .ok (.bastore, 1) := by decide +kernel
theorem dX14_makes_35 : decode cX14_makes 35 = .ok (.goto 59, 3) := by decide +kernel
theorem dX14_makes_38 : decode cX14_makes 38 = .ok (.aload_n 0, 1) := by decide +kernel
theorem dX14_makes_39 : decode cX14_makes 39 = .ok (.getfield 87, 3) := by decide +kernel
theorem dX14_makes_42 : decode cX14_makes 42 = .ok (.iload_n 1, 1) := by decide +kernel
theorem dX14_makes_43 : decode cX14_makes 43 = .ok (.iaload, 1) := by decide +kernel
theorem dX14_makes_44 : decode cX14_makes 44 = .ok (.iconst 1, 1) := by decide +kernel
theorem dX14_makes_45 : decode cX14_makes 45 = .ok (.if_icmp .ne 23, 3) := by decide +kernel
theorem dX14_makes_48 : decode cX14_makes 48 = .ok (.aload_n 0, 1) := by decide +kernel
theorem dX14_makes_49 : decode cX14_makes 49 = .ok (.getfield 35, 3) := by decide +kernel
theorem dX14_makes_52 : decode cX14_makes 52 = .ok (.aload_n 0, 1) := by decide +kernel
theorem dX14_makes_53 : decode cX14_makes 53 = .ok (.getfield 90, 3) := by decide +kernel
theorem dX14_makes_56 : decode cX14_makes 56 = .ok (.iload_n 1, 1) := by decide +kernel
theorem dX14_makes_57 : decode cX14_makes 57 = .ok (.iaload, 1) := by decide +kernel
theorem dX14_makes_58 : decode cX14_makes 58 = .ok (.aload_n 0, 1) := by decide +kernel
theorem dX14_makes_59 : decode cX14_makes 59 = .ok (.getfield 93, 3) := by decide +kernel
theorem dX14_makes_62 : decode cX14_makes 62 = .ok (.iload_n 1, 1) := by decide +kernel
theorem dX14_makes_63 : decode cX14_makes 63 = .ok (.iaload, 1) := by decide +kernel
theorem dX14_makes_64 : decode cX14_makes 64 = .ok (.iastore, 1) := by decide +kernel
theorem dX14_makes_65 : decode cX14_makes 65 = .ok (.goto 29, 3) := by decide +kernel
theorem dX14_makes_68 : decode cX14_makes 68 = .ok (.aload_n 0, 1) := by decide +kernel
theorem dX14_makes_69 : decode cX14_makes 69 = .ok (.getfield 32, 3) := by decide +kernel
theorem dX14_makes_72 : decode cX14_makes 72 = .ok (.aload_n 0, 1) := by decide +kernel
theorem dX14_makes_73 : decode cX14_makes 73 = .ok (.getfield 90, 3) := by decide +kernel
theorem dX14_makes_76 : decode cX14_makes 76 = .ok (.iload_n 1, 1) := by decide +kernel
theorem dX14_makes_77 : decode cX14_makes 77 = .ok (.iaload, 1) := by decide +kernel
theorem dX14_makes_78 : decode cX14_makes 78 = .ok (.aload_n 0, 1) := by decide +kernel
theorem dX14_makes_79 : decode cX14_makes 79 = .ok (.getfield 93, 3) := by decide +kernel
theorem dX14_makes_82 : decode cX14_makes 82 = .ok (.iload_n 1, 1) := by decide +kernel
theorem dX14_makes_83 : decode cX14_makes 83 = .ok (.iaload, 1) := by decide +kernel
theorem dX14_makes_84 : decode cX14_makes 84 = .ok (.iconst 1, 1) := by decide +kernel
theorem dX14_makes_85 : decode cX14_makes 85 = .ok (.if_icmp .ne 7, 3) := by decide +kernel
theorem dX14_makes_88 : decode cX14_makes 88 = .ok (.iconst 1, 1) := by decide +kernel
theorem dX14_makes_89 : decode cX14_makes 89 = .ok (.goto 4, 3) := by decide +kernel
theorem dX14_makes_92 : decode cX14_makes 92 = .ok (.iconst 0, 1) := by decide +kernel
theorem dX14_makes_93 : decode cX14_makes 93 = .ok (.bastore, 1) := by decide +kernel
theorem dX14_makes_94 : decode cX14_makes 94 = .ok (.return_, 1) := by decide +kernel
set_option maxHeartbeats 4000000 in
set_option maxRecDepth 100000 in
theorem m_makes (l : Launch) (dC : Nat → ClassId) (dI : Nat → Nat → Nat) (n0 : Nat) (atx : Nat → Nat × Nat) (sz : Nat) (m0 : Nat) (m0_thrown : Int32) (m0_power : Nat) (m0_trouble : Int32) (m0_where : Int32) (m0_fault : Int32) (bk : Nat) (fv : Value) (sp : Nat) (m0_tape : Nat) (tp : Nat) (m0_size : Int32) (m0_at : Int32) (m0_sort : Int32) (m0_place : Int32) (m0_mark : Int32) (m0_number : Int32) (m0_word : Int64) (m0_isOpen : Nat) (m0_isFallen : Nat) (m0_speed : Nat) (m0_fire : Nat) (m0_most : Int32) (m0_hindered : Int32) (m0_hinderedBy : Int32) (m0_air : Nat) (m0_cameBy : Nat) (m0_least : Nat) (m0_before : Nat) (m0_gas : Nat) (m0_into : Nat) (m0_rest : Nat) (m0_isTold : Nat) (m0_isPast : Nat) (m0_kept : Nat) (m0_smoke : Nat) (m0_early : Nat) (mn : Nat) (m0_manAt : Nat) (nc : Nat) (m0_changeKind : Nat) (m0_changeOf : Nat) (m0_changeTo : Nat) (m0_row : Nat) (m0_openWas : Nat) (m0_fallenWas : Nat) (m0_speedWas : Nat) (nr : Nat) (m0_readingOf : Nat) (m0_low : Nat) (m0_high : Nat) (m0_back : Nat) (k_m0_isOpen : ClassId) (f_m0_isOpen : Nat → Int32) (k_m0_speed : ClassId) (f_m0_speed : Nat → Int32) (k_m0_isFallen : ClassId) (f_m0_isFallen : Nat → Int32) (k_m0_changeKind : ClassId) (f_m0_changeKind : Nat → Int32) (k_m0_changeOf : ClassId) (f_m0_changeOf : Nat → Int32) (k_m0_changeTo : ClassId) (f_m0_changeTo : Nat → Int32) (cj : Nat) (h_ch : ∀ j, j < 5 → (f_m0_changeKind j = 0 → (f_m0_changeOf j).toInt < 6) ∧ (f_m0_changeKind j = 1 → (f_m0_changeOf j).toInt < 4 ∧ -3 ≤ (f_m0_changeTo j).toInt ∧ (f_m0_changeTo j).toInt < 4) ∧ 0 ≤ (f_m0_changeOf j).toInt ∧ (f_m0_changeOf j).toInt < 14) (r_isOpen : rg f_m0_isOpen 6 0 2) (r_isFallen : rg f_m0_isFallen 14 0 2) (r_speed : rg f_m0_speed 4 (-3) 4) (hc : cj < 5) : Met l yX14_makes (wM yX14_makes cX14_makes 2 none) ({ frames := 0, cells := 0, slots := 0, locals := 0 }) (va_Pc [.ref m0, .int (nI cj)] (fun U => U.heap.size = sz ∧ n0 ≤ sz ∧ GW n0 atx U ∧ va_P (dC, dI) classes [(m0, .inr (14, fX14 (.int m0_thrown) (.ref m0_power) (.int m0_trouble) (.int m0_where) (.int m0_fault) (.ref bk) fv (.ref sp) (.ref m0_tape) (.int (nI tp)) (.int m0_size) (.int m0_at) (.int m0_sort) (.int m0_place) (.int m0_mark) (.int m0_number) (.long m0_word) (.ref m0_isOpen) (.ref m0_isFallen) (.ref m0_speed) (.ref m0_fire) (.int m0_most) (.int m0_hindered) (.int m0_hinderedBy) (.ref m0_air) (.ref m0_cameBy) (.ref m0_least) (.ref m0_before) (.ref m0_gas) (.ref m0_into) (.ref m0_rest) (.ref m0_isTold) (.ref m0_isPast) (.ref m0_kept) (.ref m0_smoke) (.ref m0_early) (.int (nI mn)) (.ref m0_manAt) (.int (nI nc)) (.ref m0_changeKind) (.ref m0_changeOf) (.ref m0_changeTo) (.ref m0_row) (.ref m0_openWas) (.ref m0_fallenWas) (.ref m0_speedWas) (.int (nI nr)) (.ref m0_readingOf) (.ref m0_low) (.ref m0_high) (.ref m0_back))), (m0_isOpen, .inl (k_m0_isOpen, 6, .inl f_m0_isOpen)), (m0_speed, .inl (k_m0_speed, 4, .inl f_m0_speed)), (m0_isFallen, .inl (k_m0_isFallen, 14, .inl f_m0_isFallen)), (m0_changeKind, .inl (k_m0_changeKind, 5, .inl f_m0_changeKind)), (m0_changeOf, .inl (k_m0_changeOf, 5, .inl f_m0_changeOf)), (m0_changeTo, .inl (k_m0_changeTo, 5, .inl f_m0_changeTo))] U.heap ∧ va_K (dC, dI) classes [(k_m0_isOpen, .boolean), (k_m0_speed, .int), (k_m0_isFallen, .boolean), (k_m0_changeKind, .int), (k_m0_changeOf, .int), (k_m0_changeTo, .int)] U ∧ va_D (fun q => n0 ≤ q) [(m0, .inr (14, fX14 (.int m0_thrown) (.ref m0_power) (.int m0_trouble) (.int m0_where) (.int m0_fault) (.ref bk) fv (.ref sp) (.ref m0_tape) (.int (nI tp)) (.int m0_size) (.int m0_at) (.int m0_sort) (.int m0_place) (.int m0_mark) (.int m0_number) (.long m0_word) (.ref m0_isOpen) (.ref m0_isFallen) (.ref m0_speed) (.ref m0_fire) (.int m0_most) (.int m0_hindered) (.int m0_hinderedBy) (.ref m0_air) (.ref m0_cameBy) (.ref m0_least) (.ref m0_before) (.ref m0_gas) (.ref m0_into) (.ref m0_rest) (.ref m0_isTold) (.ref m0_isPast) (.ref m0_kept) (.ref m0_smoke) (.ref m0_early) (.int (nI mn)) (.ref m0_manAt) (.int (nI nc)) (.ref m0_changeKind) (.ref m0_changeOf) (.ref m0_changeTo) (.ref m0_row) (.ref m0_openWas) (.ref m0_fallenWas) (.ref m0_speedWas) (.int (nI nr)) (.ref m0_readingOf) (.ref m0_low) (.ref m0_high) (.ref m0_back))), (m0_isOpen, .inl (k_m0_isOpen, 6, .inl f_m0_isOpen)), (m0_speed, .inl (k_m0_speed, 4, .inl f_m0_speed)), (m0_isFallen, .inl (k_m0_isFallen, 14, .inl f_m0_isFallen)), (m0_changeKind, .inl (k_m0_changeKind, 5, .inl f_m0_changeKind)), (m0_changeOf, .inl (k_m0_changeOf, 5, .inl f_m0_changeOf)), (m0_changeTo, .inl (k_m0_changeTo, 5, .inl f_m0_changeTo))])) (va_Qv (fun _ : Unit => True) (fun (_ : Unit) (t : State) => ∃ (x1 : Nat → Int32), ∃ (x2 : Nat → Int32), ∃ (x3 : Nat → Int32), (rg x1 6 0 2) ∧ (rg x2 4 (-3) 4) ∧ (rg x3 14 0 2) ∧ va_P (dC, dI) classes [(m0, .inr (14, fX14 (.int m0_thrown) (.ref m0_power) (.int m0_trouble) (.int m0_where) (.int m0_fault) (.ref bk) fv (.ref sp) (.ref m0_tape) (.int (nI tp)) (.int m0_size) (.int m0_at) (.int m0_sort) (.int m0_place) (.int m0_mark) (.int m0_number) (.long m0_word) (.ref m0_isOpen) (.ref m0_isFallen) (.ref m0_speed) (.ref m0_fire) (.int m0_most) (.int m0_hindered) (.int m0_hinderedBy) (.ref m0_air) (.ref m0_cameBy) (.ref m0_least) (.ref m0_before) (.ref m0_gas) (.ref m0_into) (.ref m0_rest) (.ref m0_isTold) (.ref m0_isPast) (.ref m0_kept) (.ref m0_smoke) (.ref m0_early) (.int (nI mn)) (.ref m0_manAt) (.int (nI nc)) (.ref m0_changeKind) (.ref m0_changeOf) (.ref m0_changeTo) (.ref m0_row) (.ref m0_openWas) (.ref m0_fallenWas) (.ref m0_speedWas) (.int (nI nr)) (.ref m0_readingOf) (.ref m0_low) (.ref m0_high) (.ref m0_back))), (m0_isOpen, .inl (k_m0_isOpen, 6, .inl x1)), (m0_speed, .inl (k_m0_speed, 4, .inl x2)), (m0_isFallen, .inl (k_m0_isFallen, 14, .inl x3)), (m0_changeKind, .inl (k_m0_changeKind, 5, .inl f_m0_changeKind)), (m0_changeOf, .inl (k_m0_changeOf, 5, .inl f_m0_changeOf)), (m0_changeTo, .inl (k_m0_changeTo, 5, .inl f_m0_changeTo))] t.heap ∧ va_K (dC, dI) classes [(k_m0_isOpen, .boolean), (k_m0_speed, .int), (k_m0_isFallen, .boolean), (k_m0_changeKind, .int), (k_m0_changeOf, .int), (k_m0_changeTo, .int)] t ∧ va_D (va_A [(m0, .inr (14, fX14 (.int m0_thrown) (.ref m0_power) (.int m0_trouble) (.int m0_where) (.int m0_fault) (.ref bk) fv (.ref sp) (.ref m0_tape) (.int (nI tp)) (.int m0_size) (.int m0_at) (.int m0_sort) (.int m0_place) (.int m0_mark) (.int m0_number) (.long m0_word) (.ref m0_isOpen) (.ref m0_isFallen) (.ref m0_speed) (.ref m0_fire) (.int m0_most) (.int m0_hindered) (.int m0_hinderedBy) (.ref m0_air) (.ref m0_cameBy) (.ref m0_least) (.ref m0_before) (.ref m0_gas) (.ref m0_into) (.ref m0_rest) (.ref m0_isTold) (.ref m0_isPast) (.ref m0_kept) (.ref m0_smoke) (.ref m0_early) (.int (nI mn)) (.ref m0_manAt) (.int (nI nc)) (.ref m0_changeKind) (.ref m0_changeOf) (.ref m0_changeTo) (.ref m0_row) (.ref m0_openWas) (.ref m0_fallenWas) (.ref m0_speedWas) (.int (nI nr)) (.ref m0_readingOf) (.ref m0_low) (.ref m0_high) (.ref m0_back))), (m0_isOpen, .inl (k_m0_isOpen, 6, .inl f_m0_isOpen)), (m0_speed, .inl (k_m0_speed, 4, .inl f_m0_speed)), (m0_isFallen, .inl (k_m0_isFallen, 14, .inl f_m0_isFallen)), (m0_changeKind, .inl (k_m0_changeKind, 5, .inl f_m0_changeKind)), (m0_changeOf, .inl (k_m0_changeOf, 5, .inl f_m0_changeOf)), (m0_changeTo, .inl (k_m0_changeTo, 5, .inl f_m0_changeTo))] sz) [(m0, .inr (14, fX14 (.int m0_thrown) (.ref m0_power) (.int m0_trouble) (.int m0_where) (.int m0_fault) (.ref bk) fv (.ref sp) (.ref m0_tape) (.int (nI tp)) (.int m0_size) (.int m0_at) (.int m0_sort) (.int m0_place) (.int m0_mark) (.int m0_number) (.long m0_word) (.ref m0_isOpen) (.ref m0_isFallen) (.ref m0_speed) (.ref m0_fire) (.int m0_most) (.int m0_hindered) (.int m0_hinderedBy) (.ref m0_air) (.ref m0_cameBy) (.ref m0_least) (.ref m0_before) (.ref m0_gas) (.ref m0_into) (.ref m0_rest) (.ref m0_isTold) (.ref m0_isPast) (.ref m0_kept) (.ref m0_smoke) (.ref m0_early) (.int (nI mn)) (.ref m0_manAt) (.int (nI nc)) (.ref m0_changeKind) (.ref m0_changeOf) (.ref m0_changeTo) (.ref m0_row) (.ref m0_openWas) (.ref m0_fallenWas) (.ref m0_speedWas) (.int (nI nr)) (.ref m0_readingOf) (.ref m0_low) (.ref m0_high) (.ref m0_back))), (m0_isOpen, .inl (k_m0_isOpen, 6, .inl x1)), (m0_speed, .inl (k_m0_speed, 4, .inl x2)), (m0_isFallen, .inl (k_m0_isFallen, 14, .inl x3)), (m0_changeKind, .inl (k_m0_changeKind, 5, .inl f_m0_changeKind)), (m0_changeOf, .inl (k_m0_changeOf, 5, .inl f_m0_changeOf)), (m0_changeTo, .inl (k_m0_changeTo, 5, .inl f_m0_changeTo))]) (va_A [(m0, .inr (14, fX14 (.int m0_thrown) (.ref m0_power) (.int m0_trouble) (.int m0_where) (.int m0_fault) (.ref bk) fv (.ref sp) (.ref m0_tape) (.int (nI tp)) (.int m0_size) (.int m0_at) (.int m0_sort) (.int m0_place) (.int m0_mark) (.int m0_number) (.long m0_word) (.ref m0_isOpen) (.ref m0_isFallen) (.ref m0_speed) (.ref m0_fire) (.int m0_most) (.int m0_hindered) (.int m0_hinderedBy) (.ref m0_air) (.ref m0_cameBy) (.ref m0_least) (.ref m0_before) (.ref m0_gas) (.ref m0_into) (.ref m0_rest) (.ref m0_isTold) (.ref m0_isPast) (.ref m0_kept) (.ref m0_smoke) (.ref m0_early) (.int (nI mn)) (.ref m0_manAt) (.int (nI nc)) (.ref m0_changeKind) (.ref m0_changeOf) (.ref m0_changeTo) (.ref m0_row) (.ref m0_openWas) (.ref m0_fallenWas) (.ref m0_speedWas) (.int (nI nr)) (.ref m0_readingOf) (.ref m0_low) (.ref m0_high) (.ref m0_back))), (m0_isOpen, .inl (k_m0_isOpen, 6, .inl f_m0_isOpen)), (m0_speed, .inl (k_m0_speed, 4, .inl f_m0_speed)), (m0_isFallen, .inl (k_m0_isFallen, 14, .inl f_m0_isFallen)), (m0_changeKind, .inl (k_m0_changeKind, 5, .inl f_m0_changeKind)), (m0_changeOf, .inl (k_m0_changeOf, 5, .inl f_m0_changeOf)), (m0_changeTo, .inl (k_m0_changeTo, 5, .inl f_m0_changeTo))] sz)) 0 0 (va_A [(m0, .inr (14, fX14 (.int m0_thrown) (.ref m0_power) (.int m0_trouble) (.int m0_where) (.int m0_fault) (.ref bk) fv (.ref sp) (.ref m0_tape) (.int (nI tp)) (.int m0_size) (.int m0_at) (.int m0_sort) (.int m0_place) (.int m0_mark) (.int m0_number) (.long m0_word) (.ref m0_isOpen) (.ref m0_isFallen) (.ref m0_speed) (.ref m0_fire) (.int m0_most) (.int m0_hindered) (.int m0_hinderedBy) (.ref m0_air) (.ref m0_cameBy) (.ref m0_least) (.ref m0_before) (.ref m0_gas) (.ref m0_into) (.ref m0_rest) (.ref m0_isTold) (.ref m0_isPast) (.ref m0_kept) (.ref m0_smoke) (.ref m0_early) (.int (nI mn)) (.ref m0_manAt) (.int (nI nc)) (.ref m0_changeKind) (.ref m0_changeOf) (.ref m0_changeTo) (.ref m0_row) (.ref m0_openWas) (.ref m0_fallenWas) (.ref m0_speedWas) (.int (nI nr)) (.ref m0_readingOf) (.ref m0_low) (.ref m0_high) (.ref m0_back))), (m0_isOpen, .inl (k_m0_isOpen, 6, .inl f_m0_isOpen)), (m0_speed, .inl (k_m0_speed, 4, .inl f_m0_speed)), (m0_isFallen, .inl (k_m0_isFallen, 14, .inl f_m0_isFallen)), (m0_changeKind, .inl (k_m0_changeKind, 5, .inl f_m0_changeKind)), (m0_changeOf, .inl (k_m0_changeOf, 5, .inl f_m0_changeOf)), (m0_changeTo, .inl (k_m0_changeTo, 5, .inl f_m0_changeTo))] sz) := by
  refine Met.ofW (cc := cX14_makes) (maxL := 2) (ret := none) (by decide) rfl ?_
  intro p e s m args below meth c s₁ B hml hv
  obtain ⟨rfl, hsz, hn0, hG, hP, hK, hD0⟩ := hv
  have hx := B.exec
  have hb := B.bytes
  have hr := B.returns
  have hts := atoms_spec (ws := wM yX14_makes cX14_makes 2 none) B.pre
  have hown : s.vm.findClass RX14 = some m.cls := findClass_of_methodNamed B.named
  have hlocks := B.notSynchronized
  subst hsz
  have hD := hD0.self (sz := s.heap.size)
  have hA0 := vA_n0 hD0 hn0
  generalize hAe : va_A [(m0, .inr (14, fX14 (.int m0_thrown) (.ref m0_power) (.int m0_trouble) (.int m0_where) (.int m0_fault) (.ref bk) fv (.ref sp) (.ref m0_tape) (.int (nI tp)) (.int m0_size) (.int m0_at) (.int m0_sort) (.int m0_place) (.int m0_mark) (.int m0_number) (.long m0_word) (.ref m0_isOpen) (.ref m0_isFallen) (.ref m0_speed) (.ref m0_fire) (.int m0_most) (.int m0_hindered) (.int m0_hinderedBy) (.ref m0_air) (.ref m0_cameBy) (.ref m0_least) (.ref m0_before) (.ref m0_gas) (.ref m0_into) (.ref m0_rest) (.ref m0_isTold) (.ref m0_isPast) (.ref m0_kept) (.ref m0_smoke) (.ref m0_early) (.int (nI mn)) (.ref m0_manAt) (.int (nI nc)) (.ref m0_changeKind) (.ref m0_changeOf) (.ref m0_changeTo) (.ref m0_row) (.ref m0_openWas) (.ref m0_fallenWas) (.ref m0_speedWas) (.int (nI nr)) (.ref m0_readingOf) (.ref m0_low) (.ref m0_high) (.ref m0_back))), (m0_isOpen, .inl (k_m0_isOpen, 6, .inl f_m0_isOpen)), (m0_speed, .inl (k_m0_speed, 4, .inl f_m0_speed)), (m0_isFallen, .inl (k_m0_isFallen, 14, .inl f_m0_isFallen)), (m0_changeKind, .inl (k_m0_changeKind, 5, .inl f_m0_changeKind)), (m0_changeOf, .inl (k_m0_changeOf, 5, .inl f_m0_changeOf)), (m0_changeTo, .inl (k_m0_changeTo, 5, .inl f_m0_changeTo))] s.heap.size = A at hD hA0 ⊢
  have hA : ∀ q : Nat, s.heap.size ≤ q → A q := fun q h => by rw [← hAe]; exact Or.inr h
  have hS : va_S A s.heap s.heap [] := va_S.rf
  have hl := lv_entry ([.ref m0, .int (nI cj)]) (n := 2) (Nat.le_of_ble_eq_true rfl)
  rw [lg_entry_eq]
  generalize (lg_sl ([.ref m0, .int (nI cj)]) ++ List.replicate (2 - (lg_sl ([.ref m0, .int (nI cj)])).length) Slot.unset).toArray = ls at hl ⊢
  have hl : lv_has ls 2 [(0, .ref m0), (1, .int (nI cj))] := hl
  refine lv_aload_n hx hb dX14_makes_0 rfl (lv_at hl 0 rfl) ?_
  refine va_get (D := (dC, dI)) (ci := 14) (v := .ref m0_changeKind) (C := RX14) (T := TX14) (N := 51) hx hb hts (fun w h => wM_c (iX14 w h)) hown hK hP 0 rfl rfl 39 (by decide) (hts _ (wM_c wd_1492)) (fun _ h9 => h9) rfl dX14_makes_1 ?_
  refine lv_iload_n hx hb dX14_makes_4 rfl (lv_at hl 1 rfl) ?_
  refine va_iald hx hb hK hP 4 3 rfl rfl (vp_in_nI (n := cj) (by omega) (by omega)) dX14_makes_5 ?_
  refine lv_topi (fun v_1 ev_1 => ?_)
  have nv_1 : v_1 = f_m0_changeKind cj := by rw [ev_1]; exact congrArg _ (nI_clamp (by omega))
  refine lv_if_ne (tgt := 38) hx hb dX14_makes_6 (by decide) (fun c_2 => ?_) (fun c_2 => ?_)
  · skip
    have g_3 : v_1.toInt ≠ (0 : Int) := i_ne c_2
    refine lv_aload_n hx hb dX14_makes_38 rfl (lv_at hl 0 rfl) ?_
    refine va_get (D := (dC, dI)) (ci := 14) (v := .ref m0_changeKind) (C := RX14) (T := TX14) (N := 51) hx hb hts (fun w h => wM_c (iX14 w h)) hown hK hP 0 rfl rfl 39 (by decide) (hts _ (wM_c wd_1492)) (fun _ h9 => h9) rfl dX14_makes_39 ?_
    refine lv_iload_n hx hb dX14_makes_42 rfl (lv_at hl 1 rfl) ?_
    refine va_iald hx hb hK hP 4 3 rfl rfl (vp_in_nI (n := cj) (by omega) (by omega)) dX14_makes_43 ?_
    refine lv_topi (fun v_4 ev_4 => ?_)
    have nv_4 : v_4 = f_m0_changeKind cj := by rw [ev_4]; exact congrArg _ (nI_clamp (by omega))
    refine lv_iconst (v := 1) hx hb dX14_makes_44 (by decide) ?_
    refine lv_icmp_ne (tgt := 68) hx hb dX14_makes_45 (by decide) (fun c_5 => ?_) (fun c_5 => ?_)
    · skip
      have g_6 : v_4.toInt ≠ (1 : Int) := i_ne c_5
      refine lv_aload_n hx hb dX14_makes_68 rfl (lv_at hl 0 rfl) ?_
      refine va_get (D := (dC, dI)) (ci := 14) (v := .ref m0_isFallen) (C := RX14) (T := TX14) (N := 51) hx hb hts (fun w h => wM_c (iX14 w h)) hown hK hP 0 rfl rfl 18 (by decide) (hts _ (wM_c wd_1471)) (fun _ h9 => h9) rfl dX14_makes_69 ?_
      refine lv_aload_n hx hb dX14_makes_72 rfl (lv_at hl 0 rfl) ?_
      refine va_get (D := (dC, dI)) (ci := 14) (v := .ref m0_changeOf) (C := RX14) (T := TX14) (N := 51) hx hb hts (fun w h => wM_c (iX14 w h)) hown hK hP 0 rfl rfl 40 (by decide) (hts _ (wM_c wd_1493)) (fun _ h9 => h9) rfl dX14_makes_73 ?_
      refine lv_iload_n hx hb dX14_makes_76 rfl (lv_at hl 1 rfl) ?_
      refine va_iald hx hb hK hP 5 4 rfl rfl (vp_in_nI (n := cj) (by omega) (by omega)) dX14_makes_77 ?_
      refine lv_topi (fun v_7 ev_7 => ?_)
      have nv_7 : v_7 = f_m0_changeOf cj := by rw [ev_7]; exact congrArg _ (nI_clamp (by omega))
      refine lv_aload_n hx hb dX14_makes_78 rfl (lv_at hl 0 rfl) ?_
      refine va_get (D := (dC, dI)) (ci := 14) (v := .ref m0_changeTo) (C := RX14) (T := TX14) (N := 51) hx hb hts (fun w h => wM_c (iX14 w h)) hown hK hP 0 rfl rfl 41 (by decide) (hts _ (wM_c wd_1494)) (fun _ h9 => h9) rfl dX14_makes_79 ?_
      refine lv_iload_n hx hb dX14_makes_82 rfl (lv_at hl 1 rfl) ?_
      refine va_iald hx hb hK hP 6 5 rfl rfl (vp_in_nI (n := cj) (by omega) (by omega)) dX14_makes_83 ?_
      refine lv_topi (fun v_8 ev_8 => ?_)
      have nv_8 : v_8 = f_m0_changeTo cj := by rw [ev_8]; exact congrArg _ (nI_clamp (by omega))
      refine lv_iconst (v := 1) hx hb dX14_makes_84 (by decide) ?_
      refine lv_icmp_ne (tgt := 92) hx hb dX14_makes_85 (by decide) (fun c_9 => ?_) (fun c_9 => ?_)
      · skip
        have g_10 : v_8.toInt ≠ (1 : Int) := i_ne c_9
        refine lv_iconst (v := 0) hx hb dX14_makes_92 (by decide) ?_
        refine va_zast hx hb hK hP hD hS 3 2 rfl rfl (vp_in_iff.mpr (by have h7 := (h_ch cj hc).2.2; rw [← nv_7] at h7; omega)) dX14_makes_93 (fun H locs hP hD hS => ?_)
        obtain ⟨f_11, ef_11⟩ : ∃ f9, f9 = (upd f_m0_isFallen v_7.toNatClampNeg (vp_nar .boolean 0)) := ⟨_, rfl⟩
        obtain ⟨hP, hD⟩ : s3_w (dC, dI) classes A [(m0, .inr (14, fX14 (.int m0_thrown) (.ref m0_power) (.int m0_trouble) (.int m0_where) (.int m0_fault) (.ref bk) fv (.ref sp) (.ref m0_tape) (.int (nI tp)) (.int m0_size) (.int m0_at) (.int m0_sort) (.int m0_place) (.int m0_mark) (.int m0_number) (.long m0_word) (.ref m0_isOpen) (.ref m0_isFallen) (.ref m0_speed) (.ref m0_fire) (.int m0_most) (.int m0_hindered) (.int m0_hinderedBy) (.ref m0_air) (.ref m0_cameBy) (.ref m0_least) (.ref m0_before) (.ref m0_gas) (.ref m0_into) (.ref m0_rest) (.ref m0_isTold) (.ref m0_isPast) (.ref m0_kept) (.ref m0_smoke) (.ref m0_early) (.int (nI mn)) (.ref m0_manAt) (.int (nI nc)) (.ref m0_changeKind) (.ref m0_changeOf) (.ref m0_changeTo) (.ref m0_row) (.ref m0_openWas) (.ref m0_fallenWas) (.ref m0_speedWas) (.int (nI nr)) (.ref m0_readingOf) (.ref m0_low) (.ref m0_high) (.ref m0_back))), (m0_isOpen, .inl (k_m0_isOpen, 6, .inl f_m0_isOpen)), (m0_speed, .inl (k_m0_speed, 4, .inl f_m0_speed)), (m0_isFallen, .inl (k_m0_isFallen, 14, .inl f_11)), (m0_changeKind, .inl (k_m0_changeKind, 5, .inl f_m0_changeKind)), (m0_changeOf, .inl (k_m0_changeOf, 5, .inl f_m0_changeOf)), (m0_changeTo, .inl (k_m0_changeTo, 5, .inl f_m0_changeTo))] H := ⟨(by rw [ef_11]; exact hP), (by rw [ef_11]; exact hD)⟩
        have hr_12 : rg f_11 14 0 2 := by rw [ef_11]; exact rg_upd r_isFallen (by decide)
        have hK9 := hK.sub (tys' := [(k_m0_isOpen, .boolean), (k_m0_speed, .int), (k_m0_isFallen, .boolean), (k_m0_changeKind, .int), (k_m0_changeOf, .int), (k_m0_changeTo, .int)]) [0, 1, 2, 3, 4, 5] rfl
        exact W.vret hx hb hr (fun t ht hW => ⟨⟨(), rfl, trivial, f_m0_isOpen, f_m0_speed, f_11, (by first | with_reducible assumption | omega | exact vp_in_iff.mpr (by omega) | exact vp_in_nI (by omega) (by omega) | exact ⟨by omega, by omega⟩), (by first | with_reducible assumption | omega | exact vp_in_iff.mpr (by omega) | exact vp_in_nI (by omega) (by omega) | exact ⟨by omega, by omega⟩), (by first | with_reducible assumption | omega | exact vp_in_iff.mpr (by omega) | exact vp_in_nI (by omega) (by omega) | exact ⟨by omega, by omega⟩), by rw [ht]; exact hP.sub [0, 1, 2, 3, 4, 5, 6] rfl, va_K.moved hW.alike hK9, hD.sub [0, 1, 2, 3, 4, 5, 6] (by decide) rfl⟩, hS.F ht⟩) hS.2.2 dX14_makes_94
      · skip
        have g_13 : v_8.toInt = (1 : Int) := i_eq c_9
        refine lv_iconst (v := 1) hx hb dX14_makes_88 (by decide) ?_
        refine lv_goto (tgt := 93) hx hb dX14_makes_89 (by decide) ?_
        refine va_zast hx hb hK hP hD hS 3 2 rfl rfl (vp_in_iff.mpr (by have h7 := (h_ch cj hc).2.2; rw [← nv_7] at h7; omega)) dX14_makes_93 (fun H locs hP hD hS => ?_)
        obtain ⟨f_14, ef_14⟩ : ∃ f9, f9 = (upd f_m0_isFallen v_7.toNatClampNeg (vp_nar .boolean 1)) := ⟨_, rfl⟩
        obtain ⟨hP, hD⟩ : s3_w (dC, dI) classes A [(m0, .inr (14, fX14 (.int m0_thrown) (.ref m0_power) (.int m0_trouble) (.int m0_where) (.int m0_fault) (.ref bk) fv (.ref sp) (.ref m0_tape) (.int (nI tp)) (.int m0_size) (.int m0_at) (.int m0_sort) (.int m0_place) (.int m0_mark) (.int m0_number) (.long m0_word) (.ref m0_isOpen) (.ref m0_isFallen) (.ref m0_speed) (.ref m0_fire) (.int m0_most) (.int m0_hindered) (.int m0_hinderedBy) (.ref m0_air) (.ref m0_cameBy) (.ref m0_least) (.ref m0_before) (.ref m0_gas) (.ref m0_into) (.ref m0_rest) (.ref m0_isTold) (.ref m0_isPast) (.ref m0_kept) (.ref m0_smoke) (.ref m0_early) (.int (nI mn)) (.ref m0_manAt) (.int (nI nc)) (.ref m0_changeKind) (.ref m0_changeOf) (.ref m0_changeTo) (.ref m0_row) (.ref m0_openWas) (.ref m0_fallenWas) (.ref m0_speedWas) (.int (nI nr)) (.ref m0_readingOf) (.ref m0_low) (.ref m0_high) (.ref m0_back))), (m0_isOpen, .inl (k_m0_isOpen, 6, .inl f_m0_isOpen)), (m0_speed, .inl (k_m0_speed, 4, .inl f_m0_speed)), (m0_isFallen, .inl (k_m0_isFallen, 14, .inl f_14)), (m0_changeKind, .inl (k_m0_changeKind, 5, .inl f_m0_changeKind)), (m0_changeOf, .inl (k_m0_changeOf, 5, .inl f_m0_changeOf)), (m0_changeTo, .inl (k_m0_changeTo, 5, .inl f_m0_changeTo))] H := ⟨(by rw [ef_14]; exact hP), (by rw [ef_14]; exact hD)⟩
        have hr_15 : rg f_14 14 0 2 := by rw [ef_14]; exact rg_upd r_isFallen (by decide)
        have hK9 := hK.sub (tys' := [(k_m0_isOpen, .boolean), (k_m0_speed, .int), (k_m0_isFallen, .boolean), (k_m0_changeKind, .int), (k_m0_changeOf, .int), (k_m0_changeTo, .int)]) [0, 1, 2, 3, 4, 5] rfl
        exact W.vret hx hb hr (fun t ht hW => ⟨⟨(), rfl, trivial, f_m0_isOpen, f_m0_speed, f_14, (by first | with_reducible assumption | omega | exact vp_in_iff.mpr (by omega) | exact vp_in_nI (by omega) (by omega) | exact ⟨by omega, by omega⟩), (by first | with_reducible assumption | omega | exact vp_in_iff.mpr (by omega) | exact vp_in_nI (by omega) (by omega) | exact ⟨by omega, by omega⟩), (by first | with_reducible assumption | omega | exact vp_in_iff.mpr (by omega) | exact vp_in_nI (by omega) (by omega) | exact ⟨by omega, by omega⟩), by rw [ht]; exact hP.sub [0, 1, 2, 3, 4, 5, 6] rfl, va_K.moved hW.alike hK9, hD.sub [0, 1, 2, 3, 4, 5, 6] (by decide) rfl⟩, hS.F ht⟩) hS.2.2 dX14_makes_94
    · skip
      have g_16 : v_4.toInt = (1 : Int) := i_eq c_5
      refine lv_aload_n hx hb dX14_makes_48 rfl (lv_at hl 0 rfl) ?_
      refine va_get (D := (dC, dI)) (ci := 14) (v := .ref m0_speed) (C := RX14) (T := TX14) (N := 51) hx hb hts (fun w h => wM_c (iX14 w h)) hown hK hP 0 rfl rfl 19 (by decide) (hts _ (wM_c wd_1472)) (fun _ h9 => h9) rfl dX14_makes_49 ?_
      refine lv_aload_n hx hb dX14_makes_52 rfl (lv_at hl 0 rfl) ?_
      refine va_get (D := (dC, dI)) (ci := 14) (v := .ref m0_changeOf) (C := RX14) (T := TX14) (N := 51) hx hb hts (fun w h => wM_c (iX14 w h)) hown hK hP 0 rfl rfl 40 (by decide) (hts _ (wM_c wd_1493)) (fun _ h9 => h9) rfl dX14_makes_53 ?_
      refine lv_iload_n hx hb dX14_makes_56 rfl (lv_at hl 1 rfl) ?_
      refine va_iald hx hb hK hP 5 4 rfl rfl (vp_in_nI (n := cj) (by omega) (by omega)) dX14_makes_57 ?_
      refine lv_topi (fun v_17 ev_17 => ?_)
      have nv_17 : v_17 = f_m0_changeOf cj := by rw [ev_17]; exact congrArg _ (nI_clamp (by omega))
      refine lv_aload_n hx hb dX14_makes_58 rfl (lv_at hl 0 rfl) ?_
      refine va_get (D := (dC, dI)) (ci := 14) (v := .ref m0_changeTo) (C := RX14) (T := TX14) (N := 51) hx hb hts (fun w h => wM_c (iX14 w h)) hown hK hP 0 rfl rfl 41 (by decide) (hts _ (wM_c wd_1494)) (fun _ h9 => h9) rfl dX14_makes_59 ?_
      refine lv_iload_n hx hb dX14_makes_62 rfl (lv_at hl 1 rfl) ?_
      refine va_iald hx hb hK hP 6 5 rfl rfl (vp_in_nI (n := cj) (by omega) (by omega)) dX14_makes_63 ?_
      refine lv_topi (fun v_18 ev_18 => ?_)
      have nv_18 : v_18 = f_m0_changeTo cj := by rw [ev_18]; exact congrArg _ (nI_clamp (by omega))
      refine va_iast hx hb hK hP hD hS 2 1 rfl rfl (vp_in_iff.mpr (by have h7 := (h_ch cj hc).2.2; have h8 := (h_ch cj hc).2.1 (nv_4.symm.trans c_5); rw [← nv_17] at h7 h8; omega)) dX14_makes_64 (fun H locs hP hD hS => ?_)
      obtain ⟨f_19, ef_19⟩ : ∃ f9, f9 = (upd f_m0_speed v_17.toNatClampNeg v_18) := ⟨_, rfl⟩
      obtain ⟨hP, hD⟩ : s3_w (dC, dI) classes A [(m0, .inr (14, fX14 (.int m0_thrown) (.ref m0_power) (.int m0_trouble) (.int m0_where) (.int m0_fault) (.ref bk) fv (.ref sp) (.ref m0_tape) (.int (nI tp)) (.int m0_size) (.int m0_at) (.int m0_sort) (.int m0_place) (.int m0_mark) (.int m0_number) (.long m0_word) (.ref m0_isOpen) (.ref m0_isFallen) (.ref m0_speed) (.ref m0_fire) (.int m0_most) (.int m0_hindered) (.int m0_hinderedBy) (.ref m0_air) (.ref m0_cameBy) (.ref m0_least) (.ref m0_before) (.ref m0_gas) (.ref m0_into) (.ref m0_rest) (.ref m0_isTold) (.ref m0_isPast) (.ref m0_kept) (.ref m0_smoke) (.ref m0_early) (.int (nI mn)) (.ref m0_manAt) (.int (nI nc)) (.ref m0_changeKind) (.ref m0_changeOf) (.ref m0_changeTo) (.ref m0_row) (.ref m0_openWas) (.ref m0_fallenWas) (.ref m0_speedWas) (.int (nI nr)) (.ref m0_readingOf) (.ref m0_low) (.ref m0_high) (.ref m0_back))), (m0_isOpen, .inl (k_m0_isOpen, 6, .inl f_m0_isOpen)), (m0_speed, .inl (k_m0_speed, 4, .inl f_19)), (m0_isFallen, .inl (k_m0_isFallen, 14, .inl f_m0_isFallen)), (m0_changeKind, .inl (k_m0_changeKind, 5, .inl f_m0_changeKind)), (m0_changeOf, .inl (k_m0_changeOf, 5, .inl f_m0_changeOf)), (m0_changeTo, .inl (k_m0_changeTo, 5, .inl f_m0_changeTo))] H := ⟨(by rw [ef_19]; exact hP), (by rw [ef_19]; exact hD)⟩
      have hr_20 : rg f_19 4 (-3) 4 := by rw [ef_19]; exact rg_upd r_speed (by have h8 := (h_ch cj hc).2.1 (nv_4.symm.trans c_5); rw [← nv_18] at h8; omega)
      refine lv_goto (tgt := 94) hx hb dX14_makes_65 (by decide) ?_
      have hK9 := hK.sub (tys' := [(k_m0_isOpen, .boolean), (k_m0_speed, .int), (k_m0_isFallen, .boolean), (k_m0_changeKind, .int), (k_m0_changeOf, .int), (k_m0_changeTo, .int)]) [0, 1, 2, 3, 4, 5] rfl
      exact W.vret hx hb hr (fun t ht hW => ⟨⟨(), rfl, trivial, f_m0_isOpen, f_19, f_m0_isFallen, (by first | with_reducible assumption | omega | exact vp_in_iff.mpr (by omega) | exact vp_in_nI (by omega) (by omega) | exact ⟨by omega, by omega⟩), (by first | with_reducible assumption | omega | exact vp_in_iff.mpr (by omega) | exact vp_in_nI (by omega) (by omega) | exact ⟨by omega, by omega⟩), (by first | with_reducible assumption | omega | exact vp_in_iff.mpr (by omega) | exact vp_in_nI (by omega) (by omega) | exact ⟨by omega, by omega⟩), by rw [ht]; exact hP.sub [0, 1, 2, 3, 4, 5, 6] rfl, va_K.moved hW.alike hK9, hD.sub [0, 1, 2, 3, 4, 5, 6] (by decide) rfl⟩, hS.F ht⟩) hS.2.2 dX14_makes_94
  · skip
    have g_21 : v_1.toInt = (0 : Int) := i_eq c_2
    refine lv_aload_n hx hb dX14_makes_9 rfl (lv_at hl 0 rfl) ?_
    refine va_get (D := (dC, dI)) (ci := 14) (v := .ref m0_isOpen) (C := RX14) (T := TX14) (N := 51) hx hb hts (fun w h => wM_c (iX14 w h)) hown hK hP 0 rfl rfl 17 (by decide) (hts _ (wM_c wd_1470)) (fun _ h9 => h9) rfl dX14_makes_10 ?_
    refine lv_aload_n hx hb dX14_makes_13 rfl (lv_at hl 0 rfl) ?_
    refine va_get (D := (dC, dI)) (ci := 14) (v := .ref m0_changeOf) (C := RX14) (T := TX14) (N := 51) hx hb hts (fun w h => wM_c (iX14 w h)) hown hK hP 0 rfl rfl 40 (by decide) (hts _ (wM_c wd_1493)) (fun _ h9 => h9) rfl dX14_makes_14 ?_
    refine lv_iload_n hx hb dX14_makes_17 rfl (lv_at hl 1 rfl) ?_
    refine va_iald hx hb hK hP 5 4 rfl rfl (vp_in_nI (n := cj) (by omega) (by omega)) dX14_makes_18 ?_
    refine lv_topi (fun v_22 ev_22 => ?_)
    have nv_22 : v_22 = f_m0_changeOf cj := by rw [ev_22]; exact congrArg _ (nI_clamp (by omega))
    refine lv_aload_n hx hb dX14_makes_19 rfl (lv_at hl 0 rfl) ?_
    refine va_get (D := (dC, dI)) (ci := 14) (v := .ref m0_changeTo) (C := RX14) (T := TX14) (N := 51) hx hb hts (fun w h => wM_c (iX14 w h)) hown hK hP 0 rfl rfl 41 (by decide) (hts _ (wM_c wd_1494)) (fun _ h9 => h9) rfl dX14_makes_20 ?_
    refine lv_iload_n hx hb dX14_makes_23 rfl (lv_at hl 1 rfl) ?_
    refine va_iald hx hb hK hP 6 5 rfl rfl (vp_in_nI (n := cj) (by omega) (by omega)) dX14_makes_24 ?_
    refine lv_topi (fun v_23 ev_23 => ?_)
    have nv_23 : v_23 = f_m0_changeTo cj := by rw [ev_23]; exact congrArg _ (nI_clamp (by omega))
    refine lv_iconst (v := 1) hx hb dX14_makes_25 (by decide) ?_
    refine lv_icmp_ne (tgt := 33) hx hb dX14_makes_26 (by decide) (fun c_24 => ?_) (fun c_24 => ?_)
    · skip
      have g_25 : v_23.toInt ≠ (1 : Int) := i_ne c_24
      refine lv_iconst (v := 0) hx hb dX14_makes_33 (by decide) ?_
      refine va_zast hx hb hK hP hD hS 1 0 rfl rfl (vp_in_iff.mpr (by have h7 := (h_ch cj hc).2.2; have h8 := (h_ch cj hc).1 (nv_1.symm.trans c_2); rw [← nv_22] at h7 h8; omega)) dX14_makes_34 (fun H locs hP hD hS => ?_)
      obtain ⟨f_26, ef_26⟩ : ∃ f9, f9 = (upd f_m0_isOpen v_22.toNatClampNeg (vp_nar .boolean 0)) := ⟨_, rfl⟩
      obtain ⟨hP, hD⟩ : s3_w (dC, dI) classes A [(m0, .inr (14, fX14 (.int m0_thrown) (.ref m0_power) (.int m0_trouble) (.int m0_where) (.int m0_fault) (.ref bk) fv (.ref sp) (.ref m0_tape) (.int (nI tp)) (.int m0_size) (.int m0_at) (.int m0_sort) (.int m0_place) (.int m0_mark) (.int m0_number) (.long m0_word) (.ref m0_isOpen) (.ref m0_isFallen) (.ref m0_speed) (.ref m0_fire) (.int m0_most) (.int m0_hindered) (.int m0_hinderedBy) (.ref m0_air) (.ref m0_cameBy) (.ref m0_least) (.ref m0_before) (.ref m0_gas) (.ref m0_into) (.ref m0_rest) (.ref m0_isTold) (.ref m0_isPast) (.ref m0_kept) (.ref m0_smoke) (.ref m0_early) (.int (nI mn)) (.ref m0_manAt) (.int (nI nc)) (.ref m0_changeKind) (.ref m0_changeOf) (.ref m0_changeTo) (.ref m0_row) (.ref m0_openWas) (.ref m0_fallenWas) (.ref m0_speedWas) (.int (nI nr)) (.ref m0_readingOf) (.ref m0_low) (.ref m0_high) (.ref m0_back))), (m0_isOpen, .inl (k_m0_isOpen, 6, .inl f_26)), (m0_speed, .inl (k_m0_speed, 4, .inl f_m0_speed)), (m0_isFallen, .inl (k_m0_isFallen, 14, .inl f_m0_isFallen)), (m0_changeKind, .inl (k_m0_changeKind, 5, .inl f_m0_changeKind)), (m0_changeOf, .inl (k_m0_changeOf, 5, .inl f_m0_changeOf)), (m0_changeTo, .inl (k_m0_changeTo, 5, .inl f_m0_changeTo))] H := ⟨(by rw [ef_26]; exact hP), (by rw [ef_26]; exact hD)⟩
      have hr_27 : rg f_26 6 0 2 := by rw [ef_26]; exact rg_upd r_isOpen (by decide)
      refine lv_goto (tgt := 94) hx hb dX14_makes_35 (by decide) ?_
      have hK9 := hK.sub (tys' := [(k_m0_isOpen, .boolean), (k_m0_speed, .int), (k_m0_isFallen, .boolean), (k_m0_changeKind, .int), (k_m0_changeOf, .int), (k_m0_changeTo, .int)]) [0, 1, 2, 3, 4, 5] rfl
      exact W.vret hx hb hr (fun t ht hW => ⟨⟨(), rfl, trivial, f_26, f_m0_speed, f_m0_isFallen, (by first | with_reducible assumption | omega | exact vp_in_iff.mpr (by omega) | exact vp_in_nI (by omega) (by omega) | exact ⟨by omega, by omega⟩), (by first | with_reducible assumption | omega | exact vp_in_iff.mpr (by omega) | exact vp_in_nI (by omega) (by omega) | exact ⟨by omega, by omega⟩), (by first | with_reducible assumption | omega | exact vp_in_iff.mpr (by omega) | exact vp_in_nI (by omega) (by omega) | exact ⟨by omega, by omega⟩), by rw [ht]; exact hP.sub [0, 1, 2, 3, 4, 5, 6] rfl, va_K.moved hW.alike hK9, hD.sub [0, 1, 2, 3, 4, 5, 6] (by decide) rfl⟩, hS.F ht⟩) hS.2.2 dX14_makes_94
    · skip
      have g_28 : v_23.toInt = (1 : Int) := i_eq c_24
      refine lv_iconst (v := 1) hx hb dX14_makes_29 (by decide) ?_
      refine lv_goto (tgt := 34) hx hb dX14_makes_30 (by decide) ?_
      refine va_zast hx hb hK hP hD hS 1 0 rfl rfl (vp_in_iff.mpr (by have h7 := (h_ch cj hc).2.2; have h8 := (h_ch cj hc).1 (nv_1.symm.trans c_2); rw [← nv_22] at h7 h8; omega)) dX14_makes_34 (fun H locs hP hD hS => ?_)
      obtain ⟨f_29, ef_29⟩ : ∃ f9, f9 = (upd f_m0_isOpen v_22.toNatClampNeg (vp_nar .boolean 1)) := ⟨_, rfl⟩
      obtain ⟨hP, hD⟩ : s3_w (dC, dI) classes A [(m0, .inr (14, fX14 (.int m0_thrown) (.ref m0_power) (.int m0_trouble) (.int m0_where) (.int m0_fault) (.ref bk) fv (.ref sp) (.ref m0_tape) (.int (nI tp)) (.int m0_size) (.int m0_at) (.int m0_sort) (.int m0_place) (.int m0_mark) (.int m0_number) (.long m0_word) (.ref m0_isOpen) (.ref m0_isFallen) (.ref m0_speed) (.ref m0_fire) (.int m0_most) (.int m0_hindered) (.int m0_hinderedBy) (.ref m0_air) (.ref m0_cameBy) (.ref m0_least) (.ref m0_before) (.ref m0_gas) (.ref m0_into) (.ref m0_rest) (.ref m0_isTold) (.ref m0_isPast) (.ref m0_kept) (.ref m0_smoke) (.ref m0_early) (.int (nI mn)) (.ref m0_manAt) (.int (nI nc)) (.ref m0_changeKind) (.ref m0_changeOf) (.ref m0_changeTo) (.ref m0_row) (.ref m0_openWas) (.ref m0_fallenWas) (.ref m0_speedWas) (.int (nI nr)) (.ref m0_readingOf) (.ref m0_low) (.ref m0_high) (.ref m0_back))), (m0_isOpen, .inl (k_m0_isOpen, 6, .inl f_29)), (m0_speed, .inl (k_m0_speed, 4, .inl f_m0_speed)), (m0_isFallen, .inl (k_m0_isFallen, 14, .inl f_m0_isFallen)), (m0_changeKind, .inl (k_m0_changeKind, 5, .inl f_m0_changeKind)), (m0_changeOf, .inl (k_m0_changeOf, 5, .inl f_m0_changeOf)), (m0_changeTo, .inl (k_m0_changeTo, 5, .inl f_m0_changeTo))] H := ⟨(by rw [ef_29]; exact hP), (by rw [ef_29]; exact hD)⟩
      have hr_30 : rg f_29 6 0 2 := by rw [ef_29]; exact rg_upd r_isOpen (by decide)
      refine lv_goto (tgt := 94) hx hb dX14_makes_35 (by decide) ?_
      have hK9 := hK.sub (tys' := [(k_m0_isOpen, .boolean), (k_m0_speed, .int), (k_m0_isFallen, .boolean), (k_m0_changeKind, .int), (k_m0_changeOf, .int), (k_m0_changeTo, .int)]) [0, 1, 2, 3, 4, 5] rfl
      exact W.vret hx hb hr (fun t ht hW => ⟨⟨(), rfl, trivial, f_29, f_m0_speed, f_m0_isFallen, (by first | with_reducible assumption | omega | exact vp_in_iff.mpr (by omega) | exact vp_in_nI (by omega) (by omega) | exact ⟨by omega, by omega⟩), (by first | with_reducible assumption | omega | exact vp_in_iff.mpr (by omega) | exact vp_in_nI (by omega) (by omega) | exact ⟨by omega, by omega⟩), (by first | with_reducible assumption | omega | exact vp_in_iff.mpr (by omega) | exact vp_in_nI (by omega) (by omega) | exact ⟨by omega, by omega⟩), by rw [ht]; exact hP.sub [0, 1, 2, 3, 4, 5, 6] rfl, va_K.moved hW.alike hK9, hD.sub [0, 1, 2, 3, 4, 5, 6] (by decide) rfl⟩, hS.F ht⟩) hS.2.2 dX14_makes_94
