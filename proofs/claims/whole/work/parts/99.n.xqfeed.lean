set_option maxHeartbeats 4000000 in
set_option maxRecDepth 100000 in
theorem q_feed (l : Launch) (dC : Nat → ClassId) (dI : Nat → Nat → Nat) (n0 : Nat) (atx : Nat → Nat × Nat) (sz : Nat) (m0 : Nat) (m0_thrown : Int32) (m0_power : Nat) (m0_trouble : Int32) (m0_where : Int32) (m0_fault : Int32) (bv : Value) (fv : Value) (sp : Nat) (m0_tape : Nat) (tp : Nat) (m0_size : Int32) (m0_at : Int32) (m0_sort : Int32) (m0_place : Int32) (m0_mark : Int32) (m0_number : Int32) (m0_word : Int64) (m0_isOpen : Nat) (m0_isFallen : Nat) (m0_speed : Nat) (m0_fire : Nat) (m0_most : Int32) (m0_hindered : Int32) (m0_hinderedBy : Int32) (m0_air : Nat) (m0_cameBy : Nat) (m0_least : Nat) (m0_before : Nat) (m0_gas : Nat) (m0_into : Nat) (m0_rest : Nat) (m0_isTold : Nat) (m0_isPast : Nat) (m0_kept : Nat) (m0_smoke : Nat) (m0_early : Nat) (m0_men : Int32) (m0_manAt : Nat) (m0_changes : Int32) (m0_changeKind : Nat) (m0_changeOf : Nat) (m0_changeTo : Nat) (m0_row : Nat) (m0_openWas : Nat) (m0_fallenWas : Nat) (m0_speedWas : Nat) (m0_readings : Int32) (m0_readingOf : Nat) (m0_low : Nat) (m0_high : Nat) (m0_back : Nat) (k_m0_tape : ClassId) (f_m0_tape : Nat → Int32) (ea : Int32) (eb : Int32) (ec : Int32) (ed : Int32) (ee : Int32) (htp : tp ≤ 600) : Met l yX14_feed (wM yX14_feed cX14_feed 8 (some .int)) ({ frames := 0, cells := 0, slots := 0, locals := 0 }) (va_Pc [.ref m0, .int ea, .int eb, .int ec, .int ed, .int ee] (fun U => U.heap.size = sz ∧ n0 ≤ sz ∧ GW n0 atx U ∧ va_P (dC, dI) classes [(m0, .inr (14, fX14 (.int m0_thrown) (.ref m0_power) (.int m0_trouble) (.int m0_where) (.int m0_fault) bv fv (.ref sp) (.ref m0_tape) (.int (nI tp)) (.int m0_size) (.int m0_at) (.int m0_sort) (.int m0_place) (.int m0_mark) (.int m0_number) (.long m0_word) (.ref m0_isOpen) (.ref m0_isFallen) (.ref m0_speed) (.ref m0_fire) (.int m0_most) (.int m0_hindered) (.int m0_hinderedBy) (.ref m0_air) (.ref m0_cameBy) (.ref m0_least) (.ref m0_before) (.ref m0_gas) (.ref m0_into) (.ref m0_rest) (.ref m0_isTold) (.ref m0_isPast) (.ref m0_kept) (.ref m0_smoke) (.ref m0_early) (.int m0_men) (.ref m0_manAt) (.int m0_changes) (.ref m0_changeKind) (.ref m0_changeOf) (.ref m0_changeTo) (.ref m0_row) (.ref m0_openWas) (.ref m0_fallenWas) (.ref m0_speedWas) (.int m0_readings) (.ref m0_readingOf) (.ref m0_low) (.ref m0_high) (.ref m0_back))), (m0_tape, .inl (k_m0_tape, 600, .inl f_m0_tape))] U.heap ∧ va_K (dC, dI) classes [(k_m0_tape, .byte)] U ∧ va_D (fun q => n0 ≤ q) [(m0, .inr (14, fX14 (.int m0_thrown) (.ref m0_power) (.int m0_trouble) (.int m0_where) (.int m0_fault) bv fv (.ref sp) (.ref m0_tape) (.int (nI tp)) (.int m0_size) (.int m0_at) (.int m0_sort) (.int m0_place) (.int m0_mark) (.int m0_number) (.long m0_word) (.ref m0_isOpen) (.ref m0_isFallen) (.ref m0_speed) (.ref m0_fire) (.int m0_most) (.int m0_hindered) (.int m0_hinderedBy) (.ref m0_air) (.ref m0_cameBy) (.ref m0_least) (.ref m0_before) (.ref m0_gas) (.ref m0_into) (.ref m0_rest) (.ref m0_isTold) (.ref m0_isPast) (.ref m0_kept) (.ref m0_smoke) (.ref m0_early) (.int m0_men) (.ref m0_manAt) (.int m0_changes) (.ref m0_changeKind) (.ref m0_changeOf) (.ref m0_changeTo) (.ref m0_row) (.ref m0_openWas) (.ref m0_fallenWas) (.ref m0_speedWas) (.int m0_readings) (.ref m0_readingOf) (.ref m0_low) (.ref m0_high) (.ref m0_back))), (m0_tape, .inl (k_m0_tape, 600, .inl f_m0_tape))])) (va_Qi (fun (r : Int32) (_ : Unit) => r = if tp + 20 ≤ 600 then nI (tp + 20) else (-1)) (fun (_ : Unit) (t : State) => ∃ (tp9 : Nat), ∃ (ta9 : Nat → Int32), (tp9 = if tp + 20 ≤ 600 then tp + 20 else tp) ∧ (tp + 20 ≤ 600 → ∀ j, j < tp + 20 → ta9 j &&& 255 = if j < tp then f_m0_tape j &&& 255 else fdB ea eb ec ed ee (j - tp)) ∧ (¬ tp + 20 ≤ 600 → ta9 = f_m0_tape) ∧ va_P (dC, dI) classes [(m0, .inr (14, fX14 (.int 0) (.ref m0_power) (.int m0_trouble) (.int m0_where) (.int m0_fault) bv fv (.ref sp) (.ref m0_tape) (.int (nI tp9)) (.int m0_size) (.int m0_at) (.int m0_sort) (.int m0_place) (.int m0_mark) (.int m0_number) (.long m0_word) (.ref m0_isOpen) (.ref m0_isFallen) (.ref m0_speed) (.ref m0_fire) (.int m0_most) (.int m0_hindered) (.int m0_hinderedBy) (.ref m0_air) (.ref m0_cameBy) (.ref m0_least) (.ref m0_before) (.ref m0_gas) (.ref m0_into) (.ref m0_rest) (.ref m0_isTold) (.ref m0_isPast) (.ref m0_kept) (.ref m0_smoke) (.ref m0_early) (.int m0_men) (.ref m0_manAt) (.int m0_changes) (.ref m0_changeKind) (.ref m0_changeOf) (.ref m0_changeTo) (.ref m0_row) (.ref m0_openWas) (.ref m0_fallenWas) (.ref m0_speedWas) (.int m0_readings) (.ref m0_readingOf) (.ref m0_low) (.ref m0_high) (.ref m0_back))), (m0_tape, .inl (k_m0_tape, 600, .inl ta9))] t.heap ∧ va_K (dC, dI) classes [(k_m0_tape, .byte)] t ∧ va_D (va_A [(m0, .inr (14, fX14 (.int m0_thrown) (.ref m0_power) (.int m0_trouble) (.int m0_where) (.int m0_fault) bv fv (.ref sp) (.ref m0_tape) (.int (nI tp)) (.int m0_size) (.int m0_at) (.int m0_sort) (.int m0_place) (.int m0_mark) (.int m0_number) (.long m0_word) (.ref m0_isOpen) (.ref m0_isFallen) (.ref m0_speed) (.ref m0_fire) (.int m0_most) (.int m0_hindered) (.int m0_hinderedBy) (.ref m0_air) (.ref m0_cameBy) (.ref m0_least) (.ref m0_before) (.ref m0_gas) (.ref m0_into) (.ref m0_rest) (.ref m0_isTold) (.ref m0_isPast) (.ref m0_kept) (.ref m0_smoke) (.ref m0_early) (.int m0_men) (.ref m0_manAt) (.int m0_changes) (.ref m0_changeKind) (.ref m0_changeOf) (.ref m0_changeTo) (.ref m0_row) (.ref m0_openWas) (.ref m0_fallenWas) (.ref m0_speedWas) (.int m0_readings) (.ref m0_readingOf) (.ref m0_low) (.ref m0_high) (.ref m0_back))), (m0_tape, .inl (k_m0_tape, 600, .inl f_m0_tape))] sz) [(m0, .inr (14, fX14 (.int 0) (.ref m0_power) (.int m0_trouble) (.int m0_where) (.int m0_fault) bv fv (.ref sp) (.ref m0_tape) (.int (nI tp9)) (.int m0_size) (.int m0_at) (.int m0_sort) (.int m0_place) (.int m0_mark) (.int m0_number) (.long m0_word) (.ref m0_isOpen) (.ref m0_isFallen) (.ref m0_speed) (.ref m0_fire) (.int m0_most) (.int m0_hindered) (.int m0_hinderedBy) (.ref m0_air) (.ref m0_cameBy) (.ref m0_least) (.ref m0_before) (.ref m0_gas) (.ref m0_into) (.ref m0_rest) (.ref m0_isTold) (.ref m0_isPast) (.ref m0_kept) (.ref m0_smoke) (.ref m0_early) (.int m0_men) (.ref m0_manAt) (.int m0_changes) (.ref m0_changeKind) (.ref m0_changeOf) (.ref m0_changeTo) (.ref m0_row) (.ref m0_openWas) (.ref m0_fallenWas) (.ref m0_speedWas) (.int m0_readings) (.ref m0_readingOf) (.ref m0_low) (.ref m0_high) (.ref m0_back))), (m0_tape, .inl (k_m0_tape, 600, .inl ta9))]) (va_A [(m0, .inr (14, fX14 (.int m0_thrown) (.ref m0_power) (.int m0_trouble) (.int m0_where) (.int m0_fault) bv fv (.ref sp) (.ref m0_tape) (.int (nI tp)) (.int m0_size) (.int m0_at) (.int m0_sort) (.int m0_place) (.int m0_mark) (.int m0_number) (.long m0_word) (.ref m0_isOpen) (.ref m0_isFallen) (.ref m0_speed) (.ref m0_fire) (.int m0_most) (.int m0_hindered) (.int m0_hinderedBy) (.ref m0_air) (.ref m0_cameBy) (.ref m0_least) (.ref m0_before) (.ref m0_gas) (.ref m0_into) (.ref m0_rest) (.ref m0_isTold) (.ref m0_isPast) (.ref m0_kept) (.ref m0_smoke) (.ref m0_early) (.int m0_men) (.ref m0_manAt) (.int m0_changes) (.ref m0_changeKind) (.ref m0_changeOf) (.ref m0_changeTo) (.ref m0_row) (.ref m0_openWas) (.ref m0_fallenWas) (.ref m0_speedWas) (.int m0_readings) (.ref m0_readingOf) (.ref m0_low) (.ref m0_high) (.ref m0_back))), (m0_tape, .inl (k_m0_tape, 600, .inl f_m0_tape))] sz)) 0 0 (va_A [(m0, .inr (14, fX14 (.int m0_thrown) (.ref m0_power) (.int m0_trouble) (.int m0_where) (.int m0_fault) bv fv (.ref sp) (.ref m0_tape) (.int (nI tp)) (.int m0_size) (.int m0_at) (.int m0_sort) (.int m0_place) (.int m0_mark) (.int m0_number) (.long m0_word) (.ref m0_isOpen) (.ref m0_isFallen) (.ref m0_speed) (.ref m0_fire) (.int m0_most) (.int m0_hindered) (.int m0_hinderedBy) (.ref m0_air) (.ref m0_cameBy) (.ref m0_least) (.ref m0_before) (.ref m0_gas) (.ref m0_into) (.ref m0_rest) (.ref m0_isTold) (.ref m0_isPast) (.ref m0_kept) (.ref m0_smoke) (.ref m0_early) (.int m0_men) (.ref m0_manAt) (.int m0_changes) (.ref m0_changeKind) (.ref m0_changeOf) (.ref m0_changeTo) (.ref m0_row) (.ref m0_openWas) (.ref m0_fallenWas) (.ref m0_speedWas) (.int m0_readings) (.ref m0_readingOf) (.ref m0_low) (.ref m0_high) (.ref m0_back))), (m0_tape, .inl (k_m0_tape, 600, .inl f_m0_tape))] sz) := by
  refine Met.ofW (cc := cX14_feed) (maxL := 8) (ret := (some .int)) (by decide) rfl ?_
  intro p e s m args below meth c s₁ B hml hv
  obtain ⟨rfl, hsz, hn0, hG, hP, hK, hD0⟩ := hv
  have hx := B.exec
  have hb := B.bytes
  have hr := B.returns
  have hts := atoms_spec (ws := wM yX14_feed cX14_feed 8 (some .int)) B.pre
  have hown : s.vm.findClass RX14 = some m.cls := findClass_of_methodNamed B.named
  have hlocks := B.notSynchronized
  subst hsz
  have hD := hD0.self (sz := s.heap.size)
  have hA0 := vA_n0 hD0 hn0
  generalize hAe : va_A [(m0, .inr (14, fX14 (.int m0_thrown) (.ref m0_power) (.int m0_trouble) (.int m0_where) (.int m0_fault) bv fv (.ref sp) (.ref m0_tape) (.int (nI tp)) (.int m0_size) (.int m0_at) (.int m0_sort) (.int m0_place) (.int m0_mark) (.int m0_number) (.long m0_word) (.ref m0_isOpen) (.ref m0_isFallen) (.ref m0_speed) (.ref m0_fire) (.int m0_most) (.int m0_hindered) (.int m0_hinderedBy) (.ref m0_air) (.ref m0_cameBy) (.ref m0_least) (.ref m0_before) (.ref m0_gas) (.ref m0_into) (.ref m0_rest) (.ref m0_isTold) (.ref m0_isPast) (.ref m0_kept) (.ref m0_smoke) (.ref m0_early) (.int m0_men) (.ref m0_manAt) (.int m0_changes) (.ref m0_changeKind) (.ref m0_changeOf) (.ref m0_changeTo) (.ref m0_row) (.ref m0_openWas) (.ref m0_fallenWas) (.ref m0_speedWas) (.int m0_readings) (.ref m0_readingOf) (.ref m0_low) (.ref m0_high) (.ref m0_back))), (m0_tape, .inl (k_m0_tape, 600, .inl f_m0_tape))] s.heap.size = A at hD hA0 ⊢
  have hA : ∀ q : Nat, s.heap.size ≤ q → A q := fun q h => by rw [← hAe]; exact Or.inr h
  have hS : va_S A s.heap s.heap [] := va_S.rf
  have hl := lv_entry ([.ref m0, .int ea, .int eb, .int ec, .int ed, .int ee]) (n := 8) (Nat.le_of_ble_eq_true rfl)
  rw [lg_entry_eq]
  generalize (lg_sl ([.ref m0, .int ea, .int eb, .int ec, .int ed, .int ee]) ++ List.replicate (8 - (lg_sl ([.ref m0, .int ea, .int eb, .int ec, .int ed, .int ee])).length) Slot.unset).toArray = ls at hl ⊢
  have hl : lv_has ls 8 [(0, .ref m0), (1, .int ea), (2, .int eb), (3, .int ec), (4, .int ed), (5, .int ee)] := hl
  refine lv_aload_n hx hb dX14_feed_0 rfl (lv_at hl 0 rfl) ?_
  refine lv_iconst (v := 0) hx hb dX14_feed_1 (by decide) ?_
  refine va_put (D := (dC, dI)) (ci := 14) (v := .int 0) (ty := .int) (C := RX14) (T := TX14) (N := 51) hx hb hts (fun w h => wM_c (iX14 w h)) tyX14 tyX14_ok nmX14 hown hK hP hD hS 0 rfl rfl 0 (by decide) (hts _ (wM_c wd_1453)) (fun _ h9 => h9) rfl (by decide +kernel) rfl rfl (Nat.le_of_ble_eq_true rfl) dX14_feed_2 (fun H locs hP hD hS => ?_)
  obtain ⟨hP, hD⟩ : s3_w (dC, dI) classes A [(m0, .inr (14, fX14 (.int 0) (.ref m0_power) (.int m0_trouble) (.int m0_where) (.int m0_fault) bv fv (.ref sp) (.ref m0_tape) (.int (nI tp)) (.int m0_size) (.int m0_at) (.int m0_sort) (.int m0_place) (.int m0_mark) (.int m0_number) (.long m0_word) (.ref m0_isOpen) (.ref m0_isFallen) (.ref m0_speed) (.ref m0_fire) (.int m0_most) (.int m0_hindered) (.int m0_hinderedBy) (.ref m0_air) (.ref m0_cameBy) (.ref m0_least) (.ref m0_before) (.ref m0_gas) (.ref m0_into) (.ref m0_rest) (.ref m0_isTold) (.ref m0_isPast) (.ref m0_kept) (.ref m0_smoke) (.ref m0_early) (.int m0_men) (.ref m0_manAt) (.int m0_changes) (.ref m0_changeKind) (.ref m0_changeOf) (.ref m0_changeTo) (.ref m0_row) (.ref m0_openWas) (.ref m0_fallenWas) (.ref m0_speedWas) (.int m0_readings) (.ref m0_readingOf) (.ref m0_low) (.ref m0_high) (.ref m0_back))), (m0_tape, .inl (k_m0_tape, 600, .inl f_m0_tape))] H := ⟨hP, hD⟩
  refine lv_aload_n hx hb dX14_feed_5 rfl (lv_at hl 0 rfl) ?_
  refine va_get (D := (dC, dI)) (ci := 14) (v := .int (nI tp)) (C := RX14) (T := TX14) (N := 51) hx hb hts (fun w h => wM_c (iX14 w h)) hown hK hP 0 rfl rfl 9 (by decide) (hts _ (wM_c wd_1462)) (fun _ h9 => h9) rfl dX14_feed_6 ?_
  refine lv_bipush (v := 20) hx hb dX14_feed_9 (by decide) ?_
  refine lv_iadd hx hb dX14_feed_11 ?_
  refine lv_topi (fun v_1 ev_1 => ?_)
  obtain rfl : v_1 = nI (tp + 20) := ev_1.trans (nI_add tp 20)
  refine lv_sipush (v := 600) hx hb dX14_feed_12 (by decide) ?_
  refine lv_icmp_le (tgt := 20) hx hb dX14_feed_15 (by decide) (fun c_2 => ?_) (fun c_2 => ?_)
  · skip
    have g_3 := n_ge (a := 600) (b := (tp + 20)) c_2 (by omega) (by omega)
    refine lv_iconst (v := 0) hx hb dX14_feed_20 (by decide) ?_
    refine lv_istore (lv' := [(6, .int 0), (0, .ref m0), (1, .int ea), (2, .int eb), (3, .int ec), (4, .int ed), (5, .int ee)]) hx hb dX14_feed_21 hl (by decide) rfl (fun ls hl => ?_)
    refine W_lp3 (I := fun (k : Nat) (t2 : Nat) (ta2 : Nat → Int32) H locs ls => (k ≤ 20 ∧ t2 = tp + k) ∧ (∀ j, j < tp + k → ta2 j &&& 255 = if j < tp then f_m0_tape j &&& 255 else fdB ea eb ec ed ee (j - tp)) ∧ va_P (dC, dI) classes [(m0, .inr (14, fX14 (.int 0) (.ref m0_power) (.int m0_trouble) (.int m0_where) (.int m0_fault) bv fv (.ref sp) (.ref m0_tape) (.int (nI t2)) (.int m0_size) (.int m0_at) (.int m0_sort) (.int m0_place) (.int m0_mark) (.int m0_number) (.long m0_word) (.ref m0_isOpen) (.ref m0_isFallen) (.ref m0_speed) (.ref m0_fire) (.int m0_most) (.int m0_hindered) (.int m0_hinderedBy) (.ref m0_air) (.ref m0_cameBy) (.ref m0_least) (.ref m0_before) (.ref m0_gas) (.ref m0_into) (.ref m0_rest) (.ref m0_isTold) (.ref m0_isPast) (.ref m0_kept) (.ref m0_smoke) (.ref m0_early) (.int m0_men) (.ref m0_manAt) (.int m0_changes) (.ref m0_changeKind) (.ref m0_changeOf) (.ref m0_changeTo) (.ref m0_row) (.ref m0_openWas) (.ref m0_fallenWas) (.ref m0_speedWas) (.int m0_readings) (.ref m0_readingOf) (.ref m0_low) (.ref m0_high) (.ref m0_back))), (m0_tape, .inl (k_m0_tape, 600, .inl ta2))] H ∧ va_D A [(m0, .inr (14, fX14 (.int 0) (.ref m0_power) (.int m0_trouble) (.int m0_where) (.int m0_fault) bv fv (.ref sp) (.ref m0_tape) (.int (nI t2)) (.int m0_size) (.int m0_at) (.int m0_sort) (.int m0_place) (.int m0_mark) (.int m0_number) (.long m0_word) (.ref m0_isOpen) (.ref m0_isFallen) (.ref m0_speed) (.ref m0_fire) (.int m0_most) (.int m0_hindered) (.int m0_hinderedBy) (.ref m0_air) (.ref m0_cameBy) (.ref m0_least) (.ref m0_before) (.ref m0_gas) (.ref m0_into) (.ref m0_rest) (.ref m0_isTold) (.ref m0_isPast) (.ref m0_kept) (.ref m0_smoke) (.ref m0_early) (.int m0_men) (.ref m0_manAt) (.int m0_changes) (.ref m0_changeKind) (.ref m0_changeOf) (.ref m0_changeTo) (.ref m0_row) (.ref m0_openWas) (.ref m0_fallenWas) (.ref m0_speedWas) (.int m0_readings) (.ref m0_readingOf) (.ref m0_low) (.ref m0_high) (.ref m0_back))), (m0_tape, .inl (k_m0_tape, 600, .inl ta2))] ∧ va_S A s.heap H locs ∧ lv_has ls 8 [(0, .ref m0), (1, .int ea), (2, .int eb), (3, .int ec), (4, .int ed), (5, .int ee), (6, .int (nI k))]) (μ := fun (k : Nat) (t2 : Nat) (ta2 : Nat → Int32) => 20 - k) ?_ 0 tp f_m0_tape _ _ _ ⟨(by first | with_reducible assumption | omega | exact vp_in_iff.mpr (by omega) | exact vp_in_nI (by omega) (by omega) | exact ⟨by omega, by omega⟩), (fun j hj => by rw [if_pos (by omega)]), hP, hD, hS, lv_sub hl [1, 2, 3, 4, 5, 6, 0] rfl⟩
    intro k t2 ta2 H locs ls hI ih_4
    obtain ⟨hk, hta, hP, hD, hS, hl⟩ := hI
    refine lv_iload hx hb dX14_feed_23 (lv_at hl 6 rfl) ?_
    refine lv_bipush (v := 20) hx hb dX14_feed_25 (by decide) ?_
    refine lv_icmp_ge (tgt := 117) hx hb dX14_feed_27 (by decide) (fun c_5 => ?_) (fun c_5 => ?_)
    · skip
      have g_6 := n_ge (a := k) (b := 20) c_5 (by omega) (by omega)
      refine lv_aload_n hx hb dX14_feed_117 rfl (lv_at hl 0 rfl) ?_
      refine va_get (D := (dC, dI)) (ci := 14) (v := .int (nI t2)) (C := RX14) (T := TX14) (N := 51) hx hb hts (fun w h => wM_c (iX14 w h)) hown hK hP 0 rfl rfl 9 (by decide) (hts _ (wM_c wd_1462)) (fun _ h9 => h9) rfl dX14_feed_118 ?_
      have hK9 := hK.sub (tys' := [(k_m0_tape, .byte)]) [0] rfl
      exact W.iret (v := (nI t2)) hx hb hr (fun t ht hW => ⟨⟨(nI t2), (), rfl, (by rw [if_pos (by omega), show t2 = tp + 20 by omega]), t2, ta2, (by rw [if_pos (by omega)]; omega), (fun _ j hj => hta j (by omega)), (fun h9 => absurd (by omega) h9), by rw [ht]; exact hP.sub [0, 1] rfl, va_K.moved hW.alike hK9, hD.sub [0, 1] (by decide) rfl⟩, hS.F ht⟩) hS.2.2 dX14_feed_121
    · skip
      have g_7 := n_nge (a := k) (b := 20) c_5 (by omega) (by omega)
      refine lv_iload hx hb dX14_feed_30 (lv_at hl 6 rfl) ?_
      refine lv_iconst (v := 4) hx hb dX14_feed_32 (by decide) ?_
      refine lv_icmp_ge (tgt := 40) hx hb dX14_feed_33 (by decide) (fun c_8 => ?_) (fun c_8 => ?_)
      · skip
        have g_9 := n_ge (a := k) (b := 4) c_8 (by omega) (by omega)
        refine lv_iload hx hb dX14_feed_40 (lv_at hl 6 rfl) ?_
        refine lv_bipush (v := 8) hx hb dX14_feed_42 (by decide) ?_
        refine lv_icmp_ge (tgt := 51) hx hb dX14_feed_44 (by decide) (fun c_10 => ?_) (fun c_10 => ?_)
        · skip
          have g_11 := n_ge (a := k) (b := 8) c_10 (by omega) (by omega)
          refine lv_iload hx hb dX14_feed_51 (lv_at hl 6 rfl) ?_
          refine lv_bipush (v := 12) hx hb dX14_feed_53 (by decide) ?_
          refine lv_icmp_ge (tgt := 62) hx hb dX14_feed_55 (by decide) (fun c_12 => ?_) (fun c_12 => ?_)
          · skip
            have g_13 := n_ge (a := k) (b := 12) c_12 (by omega) (by omega)
            refine lv_iload hx hb dX14_feed_62 (lv_at hl 6 rfl) ?_
            refine lv_bipush (v := 16) hx hb dX14_feed_64 (by decide) ?_
            refine lv_icmp_ge (tgt := 74) hx hb dX14_feed_66 (by decide) (fun c_14 => ?_) (fun c_14 => ?_)
            · skip
              have g_15 := n_ge (a := k) (b := 16) c_14 (by omega) (by omega)
              refine lv_iload hx hb dX14_feed_74 (lv_at hl 5 rfl) ?_
              refine lv_istore (lv' := [(7, .int ee), (0, .ref m0), (1, .int ea), (2, .int eb), (3, .int ec), (4, .int ed), (5, .int ee), (6, .int (nI k))]) hx hb dX14_feed_76 hl (by decide) rfl (fun ls hl => ?_)
              refine lv_aload_n hx hb dX14_feed_78 rfl (lv_at hl 1 rfl) ?_
              refine va_get (D := (dC, dI)) (ci := 14) (v := .ref m0_tape) (C := RX14) (T := TX14) (N := 51) hx hb hts (fun w h => wM_c (iX14 w h)) hown hK hP 0 rfl rfl 8 (by decide) (hts _ (wM_c wd_1461)) (fun _ h9 => h9) rfl dX14_feed_79 ?_
              refine lv_aload_n hx hb dX14_feed_82 rfl (lv_at hl 1 rfl) ?_
              refine va_get (D := (dC, dI)) (ci := 14) (v := .int (nI t2)) (C := RX14) (T := TX14) (N := 51) hx hb hts (fun w h => wM_c (iX14 w h)) hown hK hP 0 rfl rfl 9 (by decide) (hts _ (wM_c wd_1462)) (fun _ h9 => h9) rfl dX14_feed_83 ?_
              refine lv_iload hx hb dX14_feed_86 (lv_at hl 0 rfl) ?_
              refine lv_bipush (v := 24) hx hb dX14_feed_88 (by decide) ?_
              refine lv_bipush (v := 8) hx hb dX14_feed_90 (by decide) ?_
              refine lv_iload hx hb dX14_feed_92 (lv_at hl 7 rfl) ?_
              refine lv_iconst (v := 4) hx hb dX14_feed_94 (by decide) ?_
              refine lv_irem hx hb dX14_feed_95 (by decide) ?_
              refine lv_topi (fun v_16 ev_16 => ?_)
              refine lv_imul hx hb dX14_feed_96 ?_
              refine lv_topi (fun v_17 ev_17 => ?_)
              refine lv_isub hx hb dX14_feed_97 ?_
              refine lv_topi (fun v_18 ev_18 => ?_)
              refine lv_ishr hx hb dX14_feed_98 ?_
              refine lv_topi (fun v_19 ev_19 => ?_)
              refine lv_i2b hx hb dX14_feed_99 rfl ?_
              refine lv_topi (fun v_20 ev_20 => ?_)
              refine va_bast hx hb hK hP hD hS 1 0 rfl rfl (vp_in_nI (n := t2) (by omega) (by omega)) dX14_feed_100 (fun H locs hP hD hS => ?_)
              obtain ⟨f_21, ef_21⟩ : ∃ f9, f9 = (upd ta2 (nI t2).toNatClampNeg (vp_nar .byte v_20)) := ⟨_, rfl⟩
              obtain ⟨hP, hD⟩ : s3_w (dC, dI) classes A [(m0, .inr (14, fX14 (.int 0) (.ref m0_power) (.int m0_trouble) (.int m0_where) (.int m0_fault) bv fv (.ref sp) (.ref m0_tape) (.int (nI t2)) (.int m0_size) (.int m0_at) (.int m0_sort) (.int m0_place) (.int m0_mark) (.int m0_number) (.long m0_word) (.ref m0_isOpen) (.ref m0_isFallen) (.ref m0_speed) (.ref m0_fire) (.int m0_most) (.int m0_hindered) (.int m0_hinderedBy) (.ref m0_air) (.ref m0_cameBy) (.ref m0_least) (.ref m0_before) (.ref m0_gas) (.ref m0_into) (.ref m0_rest) (.ref m0_isTold) (.ref m0_isPast) (.ref m0_kept) (.ref m0_smoke) (.ref m0_early) (.int m0_men) (.ref m0_manAt) (.int m0_changes) (.ref m0_changeKind) (.ref m0_changeOf) (.ref m0_changeTo) (.ref m0_row) (.ref m0_openWas) (.ref m0_fallenWas) (.ref m0_speedWas) (.int m0_readings) (.ref m0_readingOf) (.ref m0_low) (.ref m0_high) (.ref m0_back))), (m0_tape, .inl (k_m0_tape, 600, .inl f_21))] H := ⟨(by rw [ef_21]; exact hP), (by rw [ef_21]; exact hD)⟩
              refine lv_aload_n hx hb dX14_feed_101 rfl (lv_at hl 1 rfl) ?_
              refine lv_dup hx hb dX14_feed_102 rfl ?_
              refine va_get (D := (dC, dI)) (ci := 14) (v := .int (nI t2)) (C := RX14) (T := TX14) (N := 51) hx hb hts (fun w h => wM_c (iX14 w h)) hown hK hP 0 rfl rfl 9 (by decide) (hts _ (wM_c wd_1462)) (fun _ h9 => h9) rfl dX14_feed_103 ?_
              refine lv_iconst (v := 1) hx hb dX14_feed_106 (by decide) ?_
              refine lv_iadd hx hb dX14_feed_107 ?_
              refine lv_topi (fun v_22 ev_22 => ?_)
              obtain rfl : v_22 = nI (t2 + 1) := ev_22.trans (nI_add t2 1)
              refine va_put (D := (dC, dI)) (ci := 14) (v := .int (nI (t2 + 1))) (ty := .int) (C := RX14) (T := TX14) (N := 51) hx hb hts (fun w h => wM_c (iX14 w h)) tyX14 tyX14_ok nmX14 hown hK hP hD hS 0 rfl rfl 9 (by decide) (hts _ (wM_c wd_1462)) (fun _ h9 => h9) rfl (by decide +kernel) rfl rfl (Nat.le_of_ble_eq_true rfl) dX14_feed_108 (fun H locs hP hD hS => ?_)
              obtain ⟨hP, hD⟩ : s3_w (dC, dI) classes A [(m0, .inr (14, fX14 (.int 0) (.ref m0_power) (.int m0_trouble) (.int m0_where) (.int m0_fault) bv fv (.ref sp) (.ref m0_tape) (.int (nI (t2 + 1))) (.int m0_size) (.int m0_at) (.int m0_sort) (.int m0_place) (.int m0_mark) (.int m0_number) (.long m0_word) (.ref m0_isOpen) (.ref m0_isFallen) (.ref m0_speed) (.ref m0_fire) (.int m0_most) (.int m0_hindered) (.int m0_hinderedBy) (.ref m0_air) (.ref m0_cameBy) (.ref m0_least) (.ref m0_before) (.ref m0_gas) (.ref m0_into) (.ref m0_rest) (.ref m0_isTold) (.ref m0_isPast) (.ref m0_kept) (.ref m0_smoke) (.ref m0_early) (.int m0_men) (.ref m0_manAt) (.int m0_changes) (.ref m0_changeKind) (.ref m0_changeOf) (.ref m0_changeTo) (.ref m0_row) (.ref m0_openWas) (.ref m0_fallenWas) (.ref m0_speedWas) (.int m0_readings) (.ref m0_readingOf) (.ref m0_low) (.ref m0_high) (.ref m0_back))), (m0_tape, .inl (k_m0_tape, 600, .inl f_21))] H := ⟨hP, hD⟩
              refine lv_iinc (v := (nI (k + 1))) (lv' := [(6, .int (nI (k + 1))), (7, .int ee), (0, .ref m0), (1, .int ea), (2, .int eb), (3, .int ec), (4, .int ed), (5, .int ee)]) hx hb dX14_feed_111 hl (k := 7) rfl (nI_add _ 1) (by decide) rfl (fun ls hl => ?_)
              refine lv_goto (tgt := 23) hx hb dX14_feed_114 (by decide) ?_
              exact ih_4 (k + 1) (t2 + 1) f_21 _ _ _ ⟨(by first | with_reducible assumption | omega | exact vp_in_iff.mpr (by omega) | exact vp_in_nI (by omega) (by omega) | exact ⟨by omega, by omega⟩), (rf_s hta (by omega) ef_21 (by rw [fdB_4 (by omega) (by omega)]; exact rb_v (by omega) ev_16 ev_17 ev_18 ev_19 ev_20) (by omega)), hP.sub [0, 1] rfl, hD.sub [0, 1] (by decide) rfl, hS, lv_sub hl [2, 3, 4, 5, 6, 7, 0] rfl⟩ (by omega)
            · skip
              have g_23 := n_nge (a := k) (b := 16) c_14 (by omega) (by omega)
              refine lv_iload hx hb dX14_feed_69 (lv_at hl 4 rfl) ?_
              refine lv_goto (tgt := 76) hx hb dX14_feed_71 (by decide) ?_
              refine lv_istore (lv' := [(7, .int ed), (0, .ref m0), (1, .int ea), (2, .int eb), (3, .int ec), (4, .int ed), (5, .int ee), (6, .int (nI k))]) hx hb dX14_feed_76 hl (by decide) rfl (fun ls hl => ?_)
              refine lv_aload_n hx hb dX14_feed_78 rfl (lv_at hl 1 rfl) ?_
              refine va_get (D := (dC, dI)) (ci := 14) (v := .ref m0_tape) (C := RX14) (T := TX14) (N := 51) hx hb hts (fun w h => wM_c (iX14 w h)) hown hK hP 0 rfl rfl 8 (by decide) (hts _ (wM_c wd_1461)) (fun _ h9 => h9) rfl dX14_feed_79 ?_
              refine lv_aload_n hx hb dX14_feed_82 rfl (lv_at hl 1 rfl) ?_
              refine va_get (D := (dC, dI)) (ci := 14) (v := .int (nI t2)) (C := RX14) (T := TX14) (N := 51) hx hb hts (fun w h => wM_c (iX14 w h)) hown hK hP 0 rfl rfl 9 (by decide) (hts _ (wM_c wd_1462)) (fun _ h9 => h9) rfl dX14_feed_83 ?_
              refine lv_iload hx hb dX14_feed_86 (lv_at hl 0 rfl) ?_
              refine lv_bipush (v := 24) hx hb dX14_feed_88 (by decide) ?_
              refine lv_bipush (v := 8) hx hb dX14_feed_90 (by decide) ?_
              refine lv_iload hx hb dX14_feed_92 (lv_at hl 7 rfl) ?_
              refine lv_iconst (v := 4) hx hb dX14_feed_94 (by decide) ?_
              refine lv_irem hx hb dX14_feed_95 (by decide) ?_
              refine lv_topi (fun v_24 ev_24 => ?_)
              refine lv_imul hx hb dX14_feed_96 ?_
              refine lv_topi (fun v_25 ev_25 => ?_)
              refine lv_isub hx hb dX14_feed_97 ?_
              refine lv_topi (fun v_26 ev_26 => ?_)
              refine lv_ishr hx hb dX14_feed_98 ?_
              refine lv_topi (fun v_27 ev_27 => ?_)
              refine lv_i2b hx hb dX14_feed_99 rfl ?_
              refine lv_topi (fun v_28 ev_28 => ?_)
              refine va_bast hx hb hK hP hD hS 1 0 rfl rfl (vp_in_nI (n := t2) (by omega) (by omega)) dX14_feed_100 (fun H locs hP hD hS => ?_)
              obtain ⟨f_29, ef_29⟩ : ∃ f9, f9 = (upd ta2 (nI t2).toNatClampNeg (vp_nar .byte v_28)) := ⟨_, rfl⟩
              obtain ⟨hP, hD⟩ : s3_w (dC, dI) classes A [(m0, .inr (14, fX14 (.int 0) (.ref m0_power) (.int m0_trouble) (.int m0_where) (.int m0_fault) bv fv (.ref sp) (.ref m0_tape) (.int (nI t2)) (.int m0_size) (.int m0_at) (.int m0_sort) (.int m0_place) (.int m0_mark) (.int m0_number) (.long m0_word) (.ref m0_isOpen) (.ref m0_isFallen) (.ref m0_speed) (.ref m0_fire) (.int m0_most) (.int m0_hindered) (.int m0_hinderedBy) (.ref m0_air) (.ref m0_cameBy) (.ref m0_least) (.ref m0_before) (.ref m0_gas) (.ref m0_into) (.ref m0_rest) (.ref m0_isTold) (.ref m0_isPast) (.ref m0_kept) (.ref m0_smoke) (.ref m0_early) (.int m0_men) (.ref m0_manAt) (.int m0_changes) (.ref m0_changeKind) (.ref m0_changeOf) (.ref m0_changeTo) (.ref m0_row) (.ref m0_openWas) (.ref m0_fallenWas) (.ref m0_speedWas) (.int m0_readings) (.ref m0_readingOf) (.ref m0_low) (.ref m0_high) (.ref m0_back))), (m0_tape, .inl (k_m0_tape, 600, .inl f_29))] H := ⟨(by rw [ef_29]; exact hP), (by rw [ef_29]; exact hD)⟩
              refine lv_aload_n hx hb dX14_feed_101 rfl (lv_at hl 1 rfl) ?_
              refine lv_dup hx hb dX14_feed_102 rfl ?_
              refine va_get (D := (dC, dI)) (ci := 14) (v := .int (nI t2)) (C := RX14) (T := TX14) (N := 51) hx hb hts (fun w h => wM_c (iX14 w h)) hown hK hP 0 rfl rfl 9 (by decide) (hts _ (wM_c wd_1462)) (fun _ h9 => h9) rfl dX14_feed_103 ?_
              refine lv_iconst (v := 1) hx hb dX14_feed_106 (by decide) ?_
              refine lv_iadd hx hb dX14_feed_107 ?_
              refine lv_topi (fun v_30 ev_30 => ?_)
              obtain rfl : v_30 = nI (t2 + 1) := ev_30.trans (nI_add t2 1)
              refine va_put (D := (dC, dI)) (ci := 14) (v := .int (nI (t2 + 1))) (ty := .int) (C := RX14) (T := TX14) (N := 51) hx hb hts (fun w h => wM_c (iX14 w h)) tyX14 tyX14_ok nmX14 hown hK hP hD hS 0 rfl rfl 9 (by decide) (hts _ (wM_c wd_1462)) (fun _ h9 => h9) rfl (by decide +kernel) rfl rfl (Nat.le_of_ble_eq_true rfl) dX14_feed_108 (fun H locs hP hD hS => ?_)
              obtain ⟨hP, hD⟩ : s3_w (dC, dI) classes A [(m0, .inr (14, fX14 (.int 0) (.ref m0_power) (.int m0_trouble) (.int m0_where) (.int m0_fault) bv fv (.ref sp) (.ref m0_tape) (.int (nI (t2 + 1))) (.int m0_size) (.int m0_at) (.int m0_sort) (.int m0_place) (.int m0_mark) (.int m0_number) (.long m0_word) (.ref m0_isOpen) (.ref m0_isFallen) (.ref m0_speed) (.ref m0_fire) (.int m0_most) (.int m0_hindered) (.int m0_hinderedBy) (.ref m0_air) (.ref m0_cameBy) (.ref m0_least) (.ref m0_before) (.ref m0_gas) (.ref m0_into) (.ref m0_rest) (.ref m0_isTold) (.ref m0_isPast) (.ref m0_kept) (.ref m0_smoke) (.ref m0_early) (.int m0_men) (.ref m0_manAt) (.int m0_changes) (.ref m0_changeKind) (.ref m0_changeOf) (.ref m0_changeTo) (.ref m0_row) (.ref m0_openWas) (.ref m0_fallenWas) (.ref m0_speedWas) (.int m0_readings) (.ref m0_readingOf) (.ref m0_low) (.ref m0_high) (.ref m0_back))), (m0_tape, .inl (k_m0_tape, 600, .inl f_29))] H := ⟨hP, hD⟩
              refine lv_iinc (v := (nI (k + 1))) (lv' := [(6, .int (nI (k + 1))), (7, .int ed), (0, .ref m0), (1, .int ea), (2, .int eb), (3, .int ec), (4, .int ed), (5, .int ee)]) hx hb dX14_feed_111 hl (k := 7) rfl (nI_add _ 1) (by decide) rfl (fun ls hl => ?_)
              refine lv_goto (tgt := 23) hx hb dX14_feed_114 (by decide) ?_
              exact ih_4 (k + 1) (t2 + 1) f_29 _ _ _ ⟨(by first | with_reducible assumption | omega | exact vp_in_iff.mpr (by omega) | exact vp_in_nI (by omega) (by omega) | exact ⟨by omega, by omega⟩), (rf_s hta (by omega) ef_29 (by rw [fdB_3 (by omega) (by omega)]; exact rb_v (by omega) ev_24 ev_25 ev_26 ev_27 ev_28) (by omega)), hP.sub [0, 1] rfl, hD.sub [0, 1] (by decide) rfl, hS, lv_sub hl [2, 3, 4, 5, 6, 7, 0] rfl⟩ (by omega)
          · skip
            have g_31 := n_nge (a := k) (b := 12) c_12 (by omega) (by omega)
            refine lv_iload_n hx hb dX14_feed_58 rfl (lv_at hl 3 rfl) ?_
            refine lv_goto (tgt := 76) hx hb dX14_feed_59 (by decide) ?_
            refine lv_istore (lv' := [(7, .int ec), (0, .ref m0), (1, .int ea), (2, .int eb), (3, .int ec), (4, .int ed), (5, .int ee), (6, .int (nI k))]) hx hb dX14_feed_76 hl (by decide) rfl (fun ls hl => ?_)
            refine lv_aload_n hx hb dX14_feed_78 rfl (lv_at hl 1 rfl) ?_
            refine va_get (D := (dC, dI)) (ci := 14) (v := .ref m0_tape) (C := RX14) (T := TX14) (N := 51) hx hb hts (fun w h => wM_c (iX14 w h)) hown hK hP 0 rfl rfl 8 (by decide) (hts _ (wM_c wd_1461)) (fun _ h9 => h9) rfl dX14_feed_79 ?_
            refine lv_aload_n hx hb dX14_feed_82 rfl (lv_at hl 1 rfl) ?_
            refine va_get (D := (dC, dI)) (ci := 14) (v := .int (nI t2)) (C := RX14) (T := TX14) (N := 51) hx hb hts (fun w h => wM_c (iX14 w h)) hown hK hP 0 rfl rfl 9 (by decide) (hts _ (wM_c wd_1462)) (fun _ h9 => h9) rfl dX14_feed_83 ?_
            refine lv_iload hx hb dX14_feed_86 (lv_at hl 0 rfl) ?_
            refine lv_bipush (v := 24) hx hb dX14_feed_88 (by decide) ?_
            refine lv_bipush (v := 8) hx hb dX14_feed_90 (by decide) ?_
            refine lv_iload hx hb dX14_feed_92 (lv_at hl 7 rfl) ?_
            refine lv_iconst (v := 4) hx hb dX14_feed_94 (by decide) ?_
            refine lv_irem hx hb dX14_feed_95 (by decide) ?_
            refine lv_topi (fun v_32 ev_32 => ?_)
            refine lv_imul hx hb dX14_feed_96 ?_
            refine lv_topi (fun v_33 ev_33 => ?_)
            refine lv_isub hx hb dX14_feed_97 ?_
            refine lv_topi (fun v_34 ev_34 => ?_)
            refine lv_ishr hx hb dX14_feed_98 ?_
            refine lv_topi (fun v_35 ev_35 => ?_)
            refine lv_i2b hx hb dX14_feed_99 rfl ?_
            refine lv_topi (fun v_36 ev_36 => ?_)
            refine va_bast hx hb hK hP hD hS 1 0 rfl rfl (vp_in_nI (n := t2) (by omega) (by omega)) dX14_feed_100 (fun H locs hP hD hS => ?_)
            obtain ⟨f_37, ef_37⟩ : ∃ f9, f9 = (upd ta2 (nI t2).toNatClampNeg (vp_nar .byte v_36)) := ⟨_, rfl⟩
            obtain ⟨hP, hD⟩ : s3_w (dC, dI) classes A [(m0, .inr (14, fX14 (.int 0) (.ref m0_power) (.int m0_trouble) (.int m0_where) (.int m0_fault) bv fv (.ref sp) (.ref m0_tape) (.int (nI t2)) (.int m0_size) (.int m0_at) (.int m0_sort) (.int m0_place) (.int m0_mark) (.int m0_number) (.long m0_word) (.ref m0_isOpen) (.ref m0_isFallen) (.ref m0_speed) (.ref m0_fire) (.int m0_most) (.int m0_hindered) (.int m0_hinderedBy) (.ref m0_air) (.ref m0_cameBy) (.ref m0_least) (.ref m0_before) (.ref m0_gas) (.ref m0_into) (.ref m0_rest) (.ref m0_isTold) (.ref m0_isPast) (.ref m0_kept) (.ref m0_smoke) (.ref m0_early) (.int m0_men) (.ref m0_manAt) (.int m0_changes) (.ref m0_changeKind) (.ref m0_changeOf) (.ref m0_changeTo) (.ref m0_row) (.ref m0_openWas) (.ref m0_fallenWas) (.ref m0_speedWas) (.int m0_readings) (.ref m0_readingOf) (.ref m0_low) (.ref m0_high) (.ref m0_back))), (m0_tape, .inl (k_m0_tape, 600, .inl f_37))] H := ⟨(by rw [ef_37]; exact hP), (by rw [ef_37]; exact hD)⟩
            refine lv_aload_n hx hb dX14_feed_101 rfl (lv_at hl 1 rfl) ?_
            refine lv_dup hx hb dX14_feed_102 rfl ?_
            refine va_get (D := (dC, dI)) (ci := 14) (v := .int (nI t2)) (C := RX14) (T := TX14) (N := 51) hx hb hts (fun w h => wM_c (iX14 w h)) hown hK hP 0 rfl rfl 9 (by decide) (hts _ (wM_c wd_1462)) (fun _ h9 => h9) rfl dX14_feed_103 ?_
            refine lv_iconst (v := 1) hx hb dX14_feed_106 (by decide) ?_
            refine lv_iadd hx hb dX14_feed_107 ?_
            refine lv_topi (fun v_38 ev_38 => ?_)
            obtain rfl : v_38 = nI (t2 + 1) := ev_38.trans (nI_add t2 1)
            refine va_put (D := (dC, dI)) (ci := 14) (v := .int (nI (t2 + 1))) (ty := .int) (C := RX14) (T := TX14) (N := 51) hx hb hts (fun w h => wM_c (iX14 w h)) tyX14 tyX14_ok nmX14 hown hK hP hD hS 0 rfl rfl 9 (by decide) (hts _ (wM_c wd_1462)) (fun _ h9 => h9) rfl (by decide +kernel) rfl rfl (Nat.le_of_ble_eq_true rfl) dX14_feed_108 (fun H locs hP hD hS => ?_)
            obtain ⟨hP, hD⟩ : s3_w (dC, dI) classes A [(m0, .inr (14, fX14 (.int 0) (.ref m0_power) (.int m0_trouble) (.int m0_where) (.int m0_fault) bv fv (.ref sp) (.ref m0_tape) (.int (nI (t2 + 1))) (.int m0_size) (.int m0_at) (.int m0_sort) (.int m0_place) (.int m0_mark) (.int m0_number) (.long m0_word) (.ref m0_isOpen) (.ref m0_isFallen) (.ref m0_speed) (.ref m0_fire) (.int m0_most) (.int m0_hindered) (.int m0_hinderedBy) (.ref m0_air) (.ref m0_cameBy) (.ref m0_least) (.ref m0_before) (.ref m0_gas) (.ref m0_into) (.ref m0_rest) (.ref m0_isTold) (.ref m0_isPast) (.ref m0_kept) (.ref m0_smoke) (.ref m0_early) (.int m0_men) (.ref m0_manAt) (.int m0_changes) (.ref m0_changeKind) (.ref m0_changeOf) (.ref m0_changeTo) (.ref m0_row) (.ref m0_openWas) (.ref m0_fallenWas) (.ref m0_speedWas) (.int m0_readings) (.ref m0_readingOf) (.ref m0_low) (.ref m0_high) (.ref m0_back))), (m0_tape, .inl (k_m0_tape, 600, .inl f_37))] H := ⟨hP, hD⟩
            refine lv_iinc (v := (nI (k + 1))) (lv' := [(6, .int (nI (k + 1))), (7, .int ec), (0, .ref m0), (1, .int ea), (2, .int eb), (3, .int ec), (4, .int ed), (5, .int ee)]) hx hb dX14_feed_111 hl (k := 7) rfl (nI_add _ 1) (by decide) rfl (fun ls hl => ?_)
            refine lv_goto (tgt := 23) hx hb dX14_feed_114 (by decide) ?_
            exact ih_4 (k + 1) (t2 + 1) f_37 _ _ _ ⟨(by first | with_reducible assumption | omega | exact vp_in_iff.mpr (by omega) | exact vp_in_nI (by omega) (by omega) | exact ⟨by omega, by omega⟩), (rf_s hta (by omega) ef_37 (by rw [fdB_2 (by omega) (by omega)]; exact rb_v (by omega) ev_32 ev_33 ev_34 ev_35 ev_36) (by omega)), hP.sub [0, 1] rfl, hD.sub [0, 1] (by decide) rfl, hS, lv_sub hl [2, 3, 4, 5, 6, 7, 0] rfl⟩ (by omega)
        · skip
          have g_39 := n_nge (a := k) (b := 8) c_10 (by omega) (by omega)
          refine lv_iload_n hx hb dX14_feed_47 rfl (lv_at hl 2 rfl) ?_
          refine lv_goto (tgt := 76) hx hb dX14_feed_48 (by decide) ?_
          refine lv_istore (lv' := [(7, .int eb), (0, .ref m0), (1, .int ea), (2, .int eb), (3, .int ec), (4, .int ed), (5, .int ee), (6, .int (nI k))]) hx hb dX14_feed_76 hl (by decide) rfl (fun ls hl => ?_)
          refine lv_aload_n hx hb dX14_feed_78 rfl (lv_at hl 1 rfl) ?_
          refine va_get (D := (dC, dI)) (ci := 14) (v := .ref m0_tape) (C := RX14) (T := TX14) (N := 51) hx hb hts (fun w h => wM_c (iX14 w h)) hown hK hP 0 rfl rfl 8 (by decide) (hts _ (wM_c wd_1461)) (fun _ h9 => h9) rfl dX14_feed_79 ?_
          refine lv_aload_n hx hb dX14_feed_82 rfl (lv_at hl 1 rfl) ?_
          refine va_get (D := (dC, dI)) (ci := 14) (v := .int (nI t2)) (C := RX14) (T := TX14) (N := 51) hx hb hts (fun w h => wM_c (iX14 w h)) hown hK hP 0 rfl rfl 9 (by decide) (hts _ (wM_c wd_1462)) (fun _ h9 => h9) rfl dX14_feed_83 ?_
          refine lv_iload hx hb dX14_feed_86 (lv_at hl 0 rfl) ?_
          refine lv_bipush (v := 24) hx hb dX14_feed_88 (by decide) ?_
          refine lv_bipush (v := 8) hx hb dX14_feed_90 (by decide) ?_
          refine lv_iload hx hb dX14_feed_92 (lv_at hl 7 rfl) ?_
          refine lv_iconst (v := 4) hx hb dX14_feed_94 (by decide) ?_
          refine lv_irem hx hb dX14_feed_95 (by decide) ?_
          refine lv_topi (fun v_40 ev_40 => ?_)
          refine lv_imul hx hb dX14_feed_96 ?_
          refine lv_topi (fun v_41 ev_41 => ?_)
          refine lv_isub hx hb dX14_feed_97 ?_
          refine lv_topi (fun v_42 ev_42 => ?_)
          refine lv_ishr hx hb dX14_feed_98 ?_
          refine lv_topi (fun v_43 ev_43 => ?_)
          refine lv_i2b hx hb dX14_feed_99 rfl ?_
          refine lv_topi (fun v_44 ev_44 => ?_)
          refine va_bast hx hb hK hP hD hS 1 0 rfl rfl (vp_in_nI (n := t2) (by omega) (by omega)) dX14_feed_100 (fun H locs hP hD hS => ?_)
          obtain ⟨f_45, ef_45⟩ : ∃ f9, f9 = (upd ta2 (nI t2).toNatClampNeg (vp_nar .byte v_44)) := ⟨_, rfl⟩
          obtain ⟨hP, hD⟩ : s3_w (dC, dI) classes A [(m0, .inr (14, fX14 (.int 0) (.ref m0_power) (.int m0_trouble) (.int m0_where) (.int m0_fault) bv fv (.ref sp) (.ref m0_tape) (.int (nI t2)) (.int m0_size) (.int m0_at) (.int m0_sort) (.int m0_place) (.int m0_mark) (.int m0_number) (.long m0_word) (.ref m0_isOpen) (.ref m0_isFallen) (.ref m0_speed) (.ref m0_fire) (.int m0_most) (.int m0_hindered) (.int m0_hinderedBy) (.ref m0_air) (.ref m0_cameBy) (.ref m0_least) (.ref m0_before) (.ref m0_gas) (.ref m0_into) (.ref m0_rest) (.ref m0_isTold) (.ref m0_isPast) (.ref m0_kept) (.ref m0_smoke) (.ref m0_early) (.int m0_men) (.ref m0_manAt) (.int m0_changes) (.ref m0_changeKind) (.ref m0_changeOf) (.ref m0_changeTo) (.ref m0_row) (.ref m0_openWas) (.ref m0_fallenWas) (.ref m0_speedWas) (.int m0_readings) (.ref m0_readingOf) (.ref m0_low) (.ref m0_high) (.ref m0_back))), (m0_tape, .inl (k_m0_tape, 600, .inl f_45))] H := ⟨(by rw [ef_45]; exact hP), (by rw [ef_45]; exact hD)⟩
          refine lv_aload_n hx hb dX14_feed_101 rfl (lv_at hl 1 rfl) ?_
          refine lv_dup hx hb dX14_feed_102 rfl ?_
          refine va_get (D := (dC, dI)) (ci := 14) (v := .int (nI t2)) (C := RX14) (T := TX14) (N := 51) hx hb hts (fun w h => wM_c (iX14 w h)) hown hK hP 0 rfl rfl 9 (by decide) (hts _ (wM_c wd_1462)) (fun _ h9 => h9) rfl dX14_feed_103 ?_
          refine lv_iconst (v := 1) hx hb dX14_feed_106 (by decide) ?_
          refine lv_iadd hx hb dX14_feed_107 ?_
          refine lv_topi (fun v_46 ev_46 => ?_)
          obtain rfl : v_46 = nI (t2 + 1) := ev_46.trans (nI_add t2 1)
          refine va_put (D := (dC, dI)) (ci := 14) (v := .int (nI (t2 + 1))) (ty := .int) (C := RX14) (T := TX14) (N := 51) hx hb hts (fun w h => wM_c (iX14 w h)) tyX14 tyX14_ok nmX14 hown hK hP hD hS 0 rfl rfl 9 (by decide) (hts _ (wM_c wd_1462)) (fun _ h9 => h9) rfl (by decide +kernel) rfl rfl (Nat.le_of_ble_eq_true rfl) dX14_feed_108 (fun H locs hP hD hS => ?_)
          obtain ⟨hP, hD⟩ : s3_w (dC, dI) classes A [(m0, .inr (14, fX14 (.int 0) (.ref m0_power) (.int m0_trouble) (.int m0_where) (.int m0_fault) bv fv (.ref sp) (.ref m0_tape) (.int (nI (t2 + 1))) (.int m0_size) (.int m0_at) (.int m0_sort) (.int m0_place) (.int m0_mark) (.int m0_number) (.long m0_word) (.ref m0_isOpen) (.ref m0_isFallen) (.ref m0_speed) (.ref m0_fire) (.int m0_most) (.int m0_hindered) (.int m0_hinderedBy) (.ref m0_air) (.ref m0_cameBy) (.ref m0_least) (.ref m0_before) (.ref m0_gas) (.ref m0_into) (.ref m0_rest) (.ref m0_isTold) (.ref m0_isPast) (.ref m0_kept) (.ref m0_smoke) (.ref m0_early) (.int m0_men) (.ref m0_manAt) (.int m0_changes) (.ref m0_changeKind) (.ref m0_changeOf) (.ref m0_changeTo) (.ref m0_row) (.ref m0_openWas) (.ref m0_fallenWas) (.ref m0_speedWas) (.int m0_readings) (.ref m0_readingOf) (.ref m0_low) (.ref m0_high) (.ref m0_back))), (m0_tape, .inl (k_m0_tape, 600, .inl f_45))] H := ⟨hP, hD⟩
          refine lv_iinc (v := (nI (k + 1))) (lv' := [(6, .int (nI (k + 1))), (7, .int eb), (0, .ref m0), (1, .int ea), (2, .int eb), (3, .int ec), (4, .int ed), (5, .int ee)]) hx hb dX14_feed_111 hl (k := 7) rfl (nI_add _ 1) (by decide) rfl (fun ls hl => ?_)
          refine lv_goto (tgt := 23) hx hb dX14_feed_114 (by decide) ?_
          exact ih_4 (k + 1) (t2 + 1) f_45 _ _ _ ⟨(by first | with_reducible assumption | omega | exact vp_in_iff.mpr (by omega) | exact vp_in_nI (by omega) (by omega) | exact ⟨by omega, by omega⟩), (rf_s hta (by omega) ef_45 (by rw [fdB_1 (by omega) (by omega)]; exact rb_v (by omega) ev_40 ev_41 ev_42 ev_43 ev_44) (by omega)), hP.sub [0, 1] rfl, hD.sub [0, 1] (by decide) rfl, hS, lv_sub hl [2, 3, 4, 5, 6, 7, 0] rfl⟩ (by omega)
      · skip
        have g_47 := n_nge (a := k) (b := 4) c_8 (by omega) (by omega)
        refine lv_iload_n hx hb dX14_feed_36 rfl (lv_at hl 1 rfl) ?_
        refine lv_goto (tgt := 76) hx hb dX14_feed_37 (by decide) ?_
        refine lv_istore (lv' := [(7, .int ea), (0, .ref m0), (1, .int ea), (2, .int eb), (3, .int ec), (4, .int ed), (5, .int ee), (6, .int (nI k))]) hx hb dX14_feed_76 hl (by decide) rfl (fun ls hl => ?_)
        refine lv_aload_n hx hb dX14_feed_78 rfl (lv_at hl 1 rfl) ?_
        refine va_get (D := (dC, dI)) (ci := 14) (v := .ref m0_tape) (C := RX14) (T := TX14) (N := 51) hx hb hts (fun w h => wM_c (iX14 w h)) hown hK hP 0 rfl rfl 8 (by decide) (hts _ (wM_c wd_1461)) (fun _ h9 => h9) rfl dX14_feed_79 ?_
        refine lv_aload_n hx hb dX14_feed_82 rfl (lv_at hl 1 rfl) ?_
        refine va_get (D := (dC, dI)) (ci := 14) (v := .int (nI t2)) (C := RX14) (T := TX14) (N := 51) hx hb hts (fun w h => wM_c (iX14 w h)) hown hK hP 0 rfl rfl 9 (by decide) (hts _ (wM_c wd_1462)) (fun _ h9 => h9) rfl dX14_feed_83 ?_
        refine lv_iload hx hb dX14_feed_86 (lv_at hl 0 rfl) ?_
        refine lv_bipush (v := 24) hx hb dX14_feed_88 (by decide) ?_
        refine lv_bipush (v := 8) hx hb dX14_feed_90 (by decide) ?_
        refine lv_iload hx hb dX14_feed_92 (lv_at hl 7 rfl) ?_
        refine lv_iconst (v := 4) hx hb dX14_feed_94 (by decide) ?_
        refine lv_irem hx hb dX14_feed_95 (by decide) ?_
        refine lv_topi (fun v_48 ev_48 => ?_)
        refine lv_imul hx hb dX14_feed_96 ?_
        refine lv_topi (fun v_49 ev_49 => ?_)
        refine lv_isub hx hb dX14_feed_97 ?_
        refine lv_topi (fun v_50 ev_50 => ?_)
        refine lv_ishr hx hb dX14_feed_98 ?_
        refine lv_topi (fun v_51 ev_51 => ?_)
        refine lv_i2b hx hb dX14_feed_99 rfl ?_
        refine lv_topi (fun v_52 ev_52 => ?_)
        refine va_bast hx hb hK hP hD hS 1 0 rfl rfl (vp_in_nI (n := t2) (by omega) (by omega)) dX14_feed_100 (fun H locs hP hD hS => ?_)
        obtain ⟨f_53, ef_53⟩ : ∃ f9, f9 = (upd ta2 (nI t2).toNatClampNeg (vp_nar .byte v_52)) := ⟨_, rfl⟩
        obtain ⟨hP, hD⟩ : s3_w (dC, dI) classes A [(m0, .inr (14, fX14 (.int 0) (.ref m0_power) (.int m0_trouble) (.int m0_where) (.int m0_fault) bv fv (.ref sp) (.ref m0_tape) (.int (nI t2)) (.int m0_size) (.int m0_at) (.int m0_sort) (.int m0_place) (.int m0_mark) (.int m0_number) (.long m0_word) (.ref m0_isOpen) (.ref m0_isFallen) (.ref m0_speed) (.ref m0_fire) (.int m0_most) (.int m0_hindered) (.int m0_hinderedBy) (.ref m0_air) (.ref m0_cameBy) (.ref m0_least) (.ref m0_before) (.ref m0_gas) (.ref m0_into) (.ref m0_rest) (.ref m0_isTold) (.ref m0_isPast) (.ref m0_kept) (.ref m0_smoke) (.ref m0_early) (.int m0_men) (.ref m0_manAt) (.int m0_changes) (.ref m0_changeKind) (.ref m0_changeOf) (.ref m0_changeTo) (.ref m0_row) (.ref m0_openWas) (.ref m0_fallenWas) (.ref m0_speedWas) (.int m0_readings) (.ref m0_readingOf) (.ref m0_low) (.ref m0_high) (.ref m0_back))), (m0_tape, .inl (k_m0_tape, 600, .inl f_53))] H := ⟨(by rw [ef_53]; exact hP), (by rw [ef_53]; exact hD)⟩
        refine lv_aload_n hx hb dX14_feed_101 rfl (lv_at hl 1 rfl) ?_
        refine lv_dup hx hb dX14_feed_102 rfl ?_
        refine va_get (D := (dC, dI)) (ci := 14) (v := .int (nI t2)) (C := RX14) (T := TX14) (N := 51) hx hb hts (fun w h => wM_c (iX14 w h)) hown hK hP 0 rfl rfl 9 (by decide) (hts _ (wM_c wd_1462)) (fun _ h9 => h9) rfl dX14_feed_103 ?_
        refine lv_iconst (v := 1) hx hb dX14_feed_106 (by decide) ?_
        refine lv_iadd hx hb dX14_feed_107 ?_
        refine lv_topi (fun v_54 ev_54 => ?_)
        obtain rfl : v_54 = nI (t2 + 1) := ev_54.trans (nI_add t2 1)
        refine va_put (D := (dC, dI)) (ci := 14) (v := .int (nI (t2 + 1))) (ty := .int) (C := RX14) (T := TX14) (N := 51) hx hb hts (fun w h => wM_c (iX14 w h)) tyX14 tyX14_ok nmX14 hown hK hP hD hS 0 rfl rfl 9 (by decide) (hts _ (wM_c wd_1462)) (fun _ h9 => h9) rfl (by decide +kernel) rfl rfl (Nat.le_of_ble_eq_true rfl) dX14_feed_108 (fun H locs hP hD hS => ?_)
        obtain ⟨hP, hD⟩ : s3_w (dC, dI) classes A [(m0, .inr (14, fX14 (.int 0) (.ref m0_power) (.int m0_trouble) (.int m0_where) (.int m0_fault) bv fv (.ref sp) (.ref m0_tape) (.int (nI (t2 + 1))) (.int m0_size) (.int m0_at) (.int m0_sort) (.int m0_place) (.int m0_mark) (.int m0_number) (.long m0_word) (.ref m0_isOpen) (.ref m0_isFallen) (.ref m0_speed) (.ref m0_fire) (.int m0_most) (.int m0_hindered) (.int m0_hinderedBy) (.ref m0_air) (.ref m0_cameBy) (.ref m0_least) (.ref m0_before) (.ref m0_gas) (.ref m0_into) (.ref m0_rest) (.ref m0_isTold) (.ref m0_isPast) (.ref m0_kept) (.ref m0_smoke) (.ref m0_early) (.int m0_men) (.ref m0_manAt) (.int m0_changes) (.ref m0_changeKind) (.ref m0_changeOf) (.ref m0_changeTo) (.ref m0_row) (.ref m0_openWas) (.ref m0_fallenWas) (.ref m0_speedWas) (.int m0_readings) (.ref m0_readingOf) (.ref m0_low) (.ref m0_high) (.ref m0_back))), (m0_tape, .inl (k_m0_tape, 600, .inl f_53))] H := ⟨hP, hD⟩
        refine lv_iinc (v := (nI (k + 1))) (lv' := [(6, .int (nI (k + 1))), (7, .int ea), (0, .ref m0), (1, .int ea), (2, .int eb), (3, .int ec), (4, .int ed), (5, .int ee)]) hx hb dX14_feed_111 hl (k := 7) rfl (nI_add _ 1) (by decide) rfl (fun ls hl => ?_)
        refine lv_goto (tgt := 23) hx hb dX14_feed_114 (by decide) ?_
        exact ih_4 (k + 1) (t2 + 1) f_53 _ _ _ ⟨(by first | with_reducible assumption | omega | exact vp_in_iff.mpr (by omega) | exact vp_in_nI (by omega) (by omega) | exact ⟨by omega, by omega⟩), (rf_s hta (by omega) ef_53 (by rw [fdB_0 (by omega)]; exact rb_v (by omega) ev_48 ev_49 ev_50 ev_51 ev_52) (by omega)), hP.sub [0, 1] rfl, hD.sub [0, 1] (by decide) rfl, hS, lv_sub hl [2, 3, 4, 5, 6, 7, 0] rfl⟩ (by omega)
  · skip
    have g_55 := n_nge (a := 600) (b := (tp + 20)) c_2 (by omega) (by omega)
    refine lv_iconst (v := (-1)) hx hb dX14_feed_18 (by decide) ?_
    have hK9 := hK.sub (tys' := [(k_m0_tape, .byte)]) [0] rfl
    exact W.iret (v := (-1)) hx hb hr (fun t ht hW => ⟨⟨(-1), (), rfl, (by rw [if_neg (by omega)]), tp, f_m0_tape, (by rw [if_neg (by omega)]), (fun h9 => absurd h9 (by omega)), (fun _ => rfl), by rw [ht]; exact hP.sub [0, 1] rfl, va_K.moved hW.alike hK9, hD.sub [0, 1] (by decide) rfl⟩, hS.F ht⟩) hS.2.2 dX14_feed_19
