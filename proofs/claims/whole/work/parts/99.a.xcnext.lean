set_option maxHeartbeats 4000000 in
set_option maxRecDepth 100000 in
theorem d7_isLetter (l : Launch) (dC : Nat → ClassId) (dI : Nat → Nat → Nat) (n0 : Nat) (atx : Nat → Nat × Nat) (sz : Nat) (b : Int32) : Met l yX7_isLetter (wM yX7_isLetter cX7_isLetter 1 (some .boolean)) ({ frames := 0, cells := 0, slots := 0, locals := 0 }) (va_Pc [.int b] (fun U => U.heap.size = sz ∧ n0 ≤ sz ∧ GW n0 atx U ∧ va_P (dC, dI) classes [] U.heap ∧ va_K (dC, dI) classes [] U ∧ va_D (fun q => n0 ≤ q) [])) (va_Qi (fun (r : Int32) (_ : Unit) => (r = 1 ∧ 97 ≤ b.toInt ∧ b.toInt ≤ 122) ∨ (r = 0 ∧ ¬ (97 ≤ b.toInt ∧ b.toInt ≤ 122))) (fun (_ : Unit) (t : State) => va_P (dC, dI) classes [] t.heap ∧ va_K (dC, dI) classes [] t ∧ va_D (va_A [] sz) []) (va_A [] sz)) 0 0 (va_A [] sz) := by
  refine Met.ofW (cc := cX7_isLetter) (maxL := 1) (ret := (some .boolean)) (by decide) rfl ?_
  intro p e s m args below meth c s₁ B hml hv
  obtain ⟨rfl, hsz, hn0, hG, hP, hK, hD0⟩ := hv
  have hx := B.exec
  have hb := B.bytes
  have hr := B.returns
  have hts := atoms_spec (ws := wM yX7_isLetter cX7_isLetter 1 (some .boolean)) B.pre
  have hown : s.vm.findClass RX7 = some m.cls := findClass_of_methodNamed B.named
  have hlocks := B.notSynchronized
  subst hsz
  have hD := hD0.self (sz := s.heap.size)
  have hA0 := vA_n0 hD0 hn0
  generalize hAe : va_A [] s.heap.size = A at hD hA0 ⊢
  have hA : ∀ q : Nat, s.heap.size ≤ q → A q := fun q h => by rw [← hAe]; exact Or.inr h
  have hS : va_S A s.heap s.heap [] := va_S.rf
  have hl := lv_entry ([.int b]) (n := 1) (Nat.le_of_ble_eq_true rfl)
  rw [lg_entry_eq]
  generalize (lg_sl ([.int b]) ++ List.replicate (1 - (lg_sl ([.int b])).length) Slot.unset).toArray = ls at hl ⊢
  have hl : lv_has ls 1 [(0, .int b)] := hl
  refine lv_iload_n hx hb dX7_isLetter_0 rfl (lv_at hl 0 rfl) ?_
  refine lv_bipush (v := 97) hx hb dX7_isLetter_1 (by decide) ?_
  refine lv_icmp_lt (tgt := 16) hx hb dX7_isLetter_3 (by decide) (fun c_1 => ?_) (fun c_1 => ?_)
  · skip
    have g_2 : b.toInt < (97 : Int) := i_lt c_1
    refine lv_iconst (v := 0) hx hb dX7_isLetter_16 (by decide) ?_
    have hK9 := hK.sub (tys' := []) [] rfl
    exact W.zret (v := 0) hx hb hr rfl (fun t ht hW => ⟨⟨0, (), rfl, (Or.inr ⟨rfl, by omega⟩), by rw [ht]; exact hP.sub [] rfl, va_K.moved hW.alike hK9, hD.sub [] (by decide) rfl⟩, hS.F ht⟩) hS.2.2 dX7_isLetter_17
  · skip
    have g_3 : (97 : Int) ≤ b.toInt := i_nlt c_1
    refine lv_iload_n hx hb dX7_isLetter_6 rfl (lv_at hl 0 rfl) ?_
    refine lv_bipush (v := 122) hx hb dX7_isLetter_7 (by decide) ?_
    refine lv_icmp_gt (tgt := 16) hx hb dX7_isLetter_9 (by decide) (fun c_4 => ?_) (fun c_4 => ?_)
    · skip
      have g_5 : (122 : Int) < b.toInt := i_lt c_4
      refine lv_iconst (v := 0) hx hb dX7_isLetter_16 (by decide) ?_
      have hK9 := hK.sub (tys' := []) [] rfl
      exact W.zret (v := 0) hx hb hr rfl (fun t ht hW => ⟨⟨0, (), rfl, (Or.inr ⟨rfl, by omega⟩), by rw [ht]; exact hP.sub [] rfl, va_K.moved hW.alike hK9, hD.sub [] (by decide) rfl⟩, hS.F ht⟩) hS.2.2 dX7_isLetter_17
    · skip
      have g_6 : b.toInt ≤ (122 : Int) := i_nlt c_4
      refine lv_iconst (v := 1) hx hb dX7_isLetter_12 (by decide) ?_
      refine lv_goto (tgt := 17) hx hb dX7_isLetter_13 (by decide) ?_
      have hK9 := hK.sub (tys' := []) [] rfl
      exact W.zret (v := 1) hx hb hr rfl (fun t ht hW => ⟨⟨1, (), rfl, (Or.inl ⟨rfl, by omega, by omega⟩), by rw [ht]; exact hP.sub [] rfl, va_K.moved hW.alike hK9, hD.sub [] (by decide) rfl⟩, hS.F ht⟩) hS.2.2 dX7_isLetter_17
set_option maxHeartbeats 4000000 in
set_option maxRecDepth 100000 in
theorem d7_isDigit (l : Launch) (dC : Nat → ClassId) (dI : Nat → Nat → Nat) (n0 : Nat) (atx : Nat → Nat × Nat) (sz : Nat) (b : Int32) : Met l yX7_isDigit (wM yX7_isDigit cX7_isDigit 1 (some .boolean)) ({ frames := 0, cells := 0, slots := 0, locals := 0 }) (va_Pc [.int b] (fun U => U.heap.size = sz ∧ n0 ≤ sz ∧ GW n0 atx U ∧ va_P (dC, dI) classes [] U.heap ∧ va_K (dC, dI) classes [] U ∧ va_D (fun q => n0 ≤ q) [])) (va_Qi (fun (r : Int32) (_ : Unit) => (r = 1 ∧ 48 ≤ b.toInt ∧ b.toInt ≤ 57) ∨ (r = 0 ∧ ¬ (48 ≤ b.toInt ∧ b.toInt ≤ 57))) (fun (_ : Unit) (t : State) => va_P (dC, dI) classes [] t.heap ∧ va_K (dC, dI) classes [] t ∧ va_D (va_A [] sz) []) (va_A [] sz)) 0 0 (va_A [] sz) := by
  refine Met.ofW (cc := cX7_isDigit) (maxL := 1) (ret := (some .boolean)) (by decide) rfl ?_
  intro p e s m args below meth c s₁ B hml hv
  obtain ⟨rfl, hsz, hn0, hG, hP, hK, hD0⟩ := hv
  have hx := B.exec
  have hb := B.bytes
  have hr := B.returns
  have hts := atoms_spec (ws := wM yX7_isDigit cX7_isDigit 1 (some .boolean)) B.pre
  have hown : s.vm.findClass RX7 = some m.cls := findClass_of_methodNamed B.named
  have hlocks := B.notSynchronized
  subst hsz
  have hD := hD0.self (sz := s.heap.size)
  have hA0 := vA_n0 hD0 hn0
  generalize hAe : va_A [] s.heap.size = A at hD hA0 ⊢
  have hA : ∀ q : Nat, s.heap.size ≤ q → A q := fun q h => by rw [← hAe]; exact Or.inr h
  have hS : va_S A s.heap s.heap [] := va_S.rf
  have hl := lv_entry ([.int b]) (n := 1) (Nat.le_of_ble_eq_true rfl)
  rw [lg_entry_eq]
  generalize (lg_sl ([.int b]) ++ List.replicate (1 - (lg_sl ([.int b])).length) Slot.unset).toArray = ls at hl ⊢
  have hl : lv_has ls 1 [(0, .int b)] := hl
  refine lv_iload_n hx hb dX7_isDigit_0 rfl (lv_at hl 0 rfl) ?_
  refine lv_bipush (v := 48) hx hb dX7_isDigit_1 (by decide) ?_
  refine lv_icmp_lt (tgt := 16) hx hb dX7_isDigit_3 (by decide) (fun c_1 => ?_) (fun c_1 => ?_)
  · skip
    have g_2 : b.toInt < (48 : Int) := i_lt c_1
    refine lv_iconst (v := 0) hx hb dX7_isDigit_16 (by decide) ?_
    have hK9 := hK.sub (tys' := []) [] rfl
    exact W.zret (v := 0) hx hb hr rfl (fun t ht hW => ⟨⟨0, (), rfl, (Or.inr ⟨rfl, by omega⟩), by rw [ht]; exact hP.sub [] rfl, va_K.moved hW.alike hK9, hD.sub [] (by decide) rfl⟩, hS.F ht⟩) hS.2.2 dX7_isDigit_17
  · skip
    have g_3 : (48 : Int) ≤ b.toInt := i_nlt c_1
    refine lv_iload_n hx hb dX7_isDigit_6 rfl (lv_at hl 0 rfl) ?_
    refine lv_bipush (v := 57) hx hb dX7_isDigit_7 (by decide) ?_
    refine lv_icmp_gt (tgt := 16) hx hb dX7_isDigit_9 (by decide) (fun c_4 => ?_) (fun c_4 => ?_)
    · skip
      have g_5 : (57 : Int) < b.toInt := i_lt c_4
      refine lv_iconst (v := 0) hx hb dX7_isDigit_16 (by decide) ?_
      have hK9 := hK.sub (tys' := []) [] rfl
      exact W.zret (v := 0) hx hb hr rfl (fun t ht hW => ⟨⟨0, (), rfl, (Or.inr ⟨rfl, by omega⟩), by rw [ht]; exact hP.sub [] rfl, va_K.moved hW.alike hK9, hD.sub [] (by decide) rfl⟩, hS.F ht⟩) hS.2.2 dX7_isDigit_17
    · skip
      have g_6 : b.toInt ≤ (57 : Int) := i_nlt c_4
      refine lv_iconst (v := 1) hx hb dX7_isDigit_12 (by decide) ?_
      refine lv_goto (tgt := 17) hx hb dX7_isDigit_13 (by decide) ?_
      have hK9 := hK.sub (tys' := []) [] rfl
      exact W.zret (v := 1) hx hb hr rfl (fun t ht hW => ⟨⟨1, (), rfl, (Or.inl ⟨rfl, by omega, by omega⟩), by rw [ht]; exact hP.sub [] rfl, va_K.moved hW.alike hK9, hD.sub [] (by decide) rfl⟩, hS.F ht⟩) hS.2.2 dX7_isDigit_17
set_option maxHeartbeats 4000000 in
set_option maxRecDepth 100000 in
theorem d7_readWord (l : Launch) (dC : Nat → ClassId) (dI : Nat → Nat → Nat) (n0 : Nat) (atx : Nat → Nat × Nat) (sz : Nat) (rd : Nat) (rd_tape : Nat) (fd1 : Int32) (fa1 : Int32) (fp1 : Int32) (bk : Nat) (rd_names : Nat) (rd_nameKind : Nat) (rd_nameNumber : Nat) (nm : Nat) (rd_knotNames : Nat) (en : Nat) (at1 : Nat) (tk1 : Int32) (ts1 : Nat) (tv1 : Int64) (k_rd_tape : ClassId) (f_rd_tape : Nat → Int32) (T : Nat → Int32) (h_en : en ≤ 600) (h_at : at1 ≤ en) (hT : ∀ k, k < en → f_rd_tape k = T k) (h_ts : ts1 = at1) (h_v0 : tv1 = 0) : Met l yX7_readWord (wM yX7_readWord cX7_readWord 2 none) ({ frames := 1, cells := 0, slots := 0, locals := 20 }) (va_Pc [.ref rd] (fun U => U.heap.size = sz ∧ n0 ≤ sz ∧ GW n0 atx U ∧ va_P (dC, dI) classes [(rd, .inr (7, [.ref rd_tape, .int fd1, .int fa1, .int fp1, .ref bk, .ref rd_names, .ref rd_nameKind, .ref rd_nameNumber, .int (nI nm), .ref rd_knotNames, .int (nI en), .int (nI at1), .int tk1, .int (nI ts1), .long tv1])), (rd_tape, .inl (k_rd_tape, 600, .inl f_rd_tape))] U.heap ∧ va_K (dC, dI) classes [(k_rd_tape, .int)] U ∧ va_D (fun q => n0 ≤ q) [(rd, .inr (7, [.ref rd_tape, .int fd1, .int fa1, .int fp1, .ref bk, .ref rd_names, .ref rd_nameKind, .ref rd_nameNumber, .int (nI nm), .ref rd_knotNames, .int (nI en), .int (nI at1), .int tk1, .int (nI ts1), .long tv1])), (rd_tape, .inl (k_rd_tape, 600, .inl f_rd_tape))])) (va_Qv (fun _ : Unit => True) (fun (_ : Unit) (t : State) => ∃ (at9 : Nat), ∃ (tk9 : Int32), ∃ (tv9 : Int64), (at9 ≤ en) ∧ (at1 ≤ at9) ∧ (rN bLt T en at1 = at9) ∧ (tv9 = wvT T at1 (at9 - at1)) ∧ ((tk9 = 1 ∧ at9 - at1 ≤ 8) ∨ (tk9 = 5 ∧ 8 < at9 - at1)) ∧ va_P (dC, dI) classes [(rd, .inr (7, [.ref rd_tape, .int fd1, .int fa1, .int fp1, .ref bk, .ref rd_names, .ref rd_nameKind, .ref rd_nameNumber, .int (nI nm), .ref rd_knotNames, .int (nI en), .int (nI at9), .int tk9, .int (nI ts1), .long tv9])), (rd_tape, .inl (k_rd_tape, 600, .inl f_rd_tape))] t.heap ∧ va_K (dC, dI) classes [(k_rd_tape, .int)] t ∧ va_D (va_A [(rd, .inr (7, [.ref rd_tape, .int fd1, .int fa1, .int fp1, .ref bk, .ref rd_names, .ref rd_nameKind, .ref rd_nameNumber, .int (nI nm), .ref rd_knotNames, .int (nI en), .int (nI at1), .int tk1, .int (nI ts1), .long tv1])), (rd_tape, .inl (k_rd_tape, 600, .inl f_rd_tape))] sz) [(rd, .inr (7, [.ref rd_tape, .int fd1, .int fa1, .int fp1, .ref bk, .ref rd_names, .ref rd_nameKind, .ref rd_nameNumber, .int (nI nm), .ref rd_knotNames, .int (nI en), .int (nI at9), .int tk9, .int (nI ts1), .long tv9])), (rd_tape, .inl (k_rd_tape, 600, .inl f_rd_tape))]) (va_A [(rd, .inr (7, [.ref rd_tape, .int fd1, .int fa1, .int fp1, .ref bk, .ref rd_names, .ref rd_nameKind, .ref rd_nameNumber, .int (nI nm), .ref rd_knotNames, .int (nI en), .int (nI at1), .int tk1, .int (nI ts1), .long tv1])), (rd_tape, .inl (k_rd_tape, 600, .inl f_rd_tape))] sz)) 0 0 (va_A [(rd, .inr (7, [.ref rd_tape, .int fd1, .int fa1, .int fp1, .ref bk, .ref rd_names, .ref rd_nameKind, .ref rd_nameNumber, .int (nI nm), .ref rd_knotNames, .int (nI en), .int (nI at1), .int tk1, .int (nI ts1), .long tv1])), (rd_tape, .inl (k_rd_tape, 600, .inl f_rd_tape))] sz) := by
  refine Met.ofW (cc := cX7_readWord) (maxL := 2) (ret := none) (by decide) rfl ?_
  intro p e s m args below meth c s₁ B hml hv
  obtain ⟨rfl, hsz, hn0, hG, hP, hK, hD0⟩ := hv
  have hx := B.exec
  have hb := B.bytes
  have hr := B.returns
  have hts := atoms_spec (ws := wM yX7_readWord cX7_readWord 2 none) B.pre
  have hown : s.vm.findClass RX7 = some m.cls := findClass_of_methodNamed B.named
  have hlocks := B.notSynchronized
  subst hsz
  have hD := hD0.self (sz := s.heap.size)
  have hA0 := vA_n0 hD0 hn0
  generalize hAe : va_A [(rd, .inr (7, [.ref rd_tape, .int fd1, .int fa1, .int fp1, .ref bk, .ref rd_names, .ref rd_nameKind, .ref rd_nameNumber, .int (nI nm), .ref rd_knotNames, .int (nI en), .int (nI at1), .int tk1, .int (nI ts1), .long tv1])), (rd_tape, .inl (k_rd_tape, 600, .inl f_rd_tape))] s.heap.size = A at hD hA0 ⊢
  have hA : ∀ q : Nat, s.heap.size ≤ q → A q := fun q h => by rw [← hAe]; exact Or.inr h
  have hS : va_S A s.heap s.heap [] := va_S.rf
  have hl := lv_entry ([.ref rd]) (n := 2) (Nat.le_of_ble_eq_true rfl)
  rw [lg_entry_eq]
  generalize (lg_sl ([.ref rd]) ++ List.replicate (2 - (lg_sl ([.ref rd])).length) Slot.unset).toArray = ls at hl ⊢
  have hl : lv_has ls 2 [(0, .ref rd)] := hl
  refine lv_aload_n hx hb dX7_readWord_0 rfl (lv_at hl 0 rfl) ?_
  refine va_get (D := (dC, dI)) (ci := 7) (v := .int (nI at1)) (C := RX7) (T := TX7) (N := 15) hx hb hts (fun w h => wM_c (iX7 w h)) hown hK hP 0 rfl rfl 11 (by decide) (hts _ (wM_c wd_347)) (fun _ h9 => h9) rfl dX7_readWord_1 ?_
  refine lv_istore_n (lv' := [(1, .int (nI at1)), (0, .ref rd)]) hx hb dX7_readWord_4 rfl hl (by decide) rfl (fun ls hl => ?_)
  refine W_lp3 (I := fun (i : Nat) (a2 : Nat) (t2 : Int64) H locs ls => (i ≤ en ∧ a2 = i ∧ at1 ≤ i) ∧ (∀ j, at1 ≤ j → j < i → bLt (T j) = true) ∧ (t2 = wvT T at1 (i - at1)) ∧ va_P (dC, dI) classes [(rd, .inr (7, [.ref rd_tape, .int fd1, .int fa1, .int fp1, .ref bk, .ref rd_names, .ref rd_nameKind, .ref rd_nameNumber, .int (nI nm), .ref rd_knotNames, .int (nI en), .int (nI a2), .int tk1, .int (nI ts1), .long t2])), (rd_tape, .inl (k_rd_tape, 600, .inl f_rd_tape))] H ∧ va_D A [(rd, .inr (7, [.ref rd_tape, .int fd1, .int fa1, .int fp1, .ref bk, .ref rd_names, .ref rd_nameKind, .ref rd_nameNumber, .int (nI nm), .ref rd_knotNames, .int (nI en), .int (nI a2), .int tk1, .int (nI ts1), .long t2])), (rd_tape, .inl (k_rd_tape, 600, .inl f_rd_tape))] ∧ va_S A s.heap H locs ∧ lv_has ls 2 [(0, .ref rd), (1, .int (nI i))]) (μ := fun (i : Nat) (a2 : Nat) (t2 : Int64) => en - i) ?_ at1 at1 tv1 _ _ _ ⟨(by first | with_reducible assumption | omega | exact vp_in_iff.mpr (by omega) | exact vp_in_nI (by omega) (by omega) | exact ⟨by omega, by omega⟩), (fun j h1 h2 => absurd h2 (by omega)), (by rw [Nat.sub_self]; exact h_v0), hP, hD, hS, lv_sub hl [1, 0] rfl⟩
  intro i a2 t2 H locs ls hI ih_1
  obtain ⟨hi, hr2, hv2, hP, hD, hS, hl⟩ := hI
  refine lv_iload_n hx hb dX7_readWord_5 rfl (lv_at hl 1 rfl) ?_
  refine lv_aload_n hx hb dX7_readWord_6 rfl (lv_at hl 0 rfl) ?_
  refine va_get (D := (dC, dI)) (ci := 7) (v := .int (nI en)) (C := RX7) (T := TX7) (N := 15) hx hb hts (fun w h => wM_c (iX7 w h)) hown hK hP 0 rfl rfl 10 (by decide) (hts _ (wM_c wd_346)) (fun _ h9 => h9) rfl dX7_readWord_7 ?_
  refine lv_icmp_ge (tgt := 61) hx hb dX7_readWord_10 (by decide) (fun c_2 => ?_) (fun c_2 => ?_)
  · skip
    have g_3 := n_ge (a := i) (b := en) c_2 (by omega) (by omega)
    refine lv_aload_n hx hb dX7_readWord_61 rfl (lv_at hl 0 rfl) ?_
    refine lv_aload_n hx hb dX7_readWord_62 rfl (lv_at hl 0 rfl) ?_
    refine va_get (D := (dC, dI)) (ci := 7) (v := .int (nI a2)) (C := RX7) (T := TX7) (N := 15) hx hb hts (fun w h => wM_c (iX7 w h)) hown hK hP 0 rfl rfl 11 (by decide) (hts _ (wM_c wd_347)) (fun _ h9 => h9) rfl dX7_readWord_63 ?_
    refine lv_aload_n hx hb dX7_readWord_66 rfl (lv_at hl 0 rfl) ?_
    refine va_get (D := (dC, dI)) (ci := 7) (v := .int (nI ts1)) (C := RX7) (T := TX7) (N := 15) hx hb hts (fun w h => wM_c (iX7 w h)) hown hK hP 0 rfl rfl 13 (by decide) (hts _ (wM_c wd_349)) (fun _ h9 => h9) rfl dX7_readWord_67 ?_
    refine lv_isub hx hb dX7_readWord_70 ?_
    refine lv_topi (fun v_4 ev_4 => ?_)
    have z8 : (nI a2).toInt = ((a2 : Nat) : Int) := nI_toInt (by omega)
    have z8 : (nI ts1).toInt = ((ts1 : Nat) : Int) := nI_toInt (by omega)
    have g_5 : v_4.toInt = ((a2 : Nat) : Int) - ((ts1 : Nat) : Int) := by have h9 := i_sub (x := (nI a2)) (y := (nI ts1)) (by omega) (by omega); rw [← ev_4] at h9; omega
    refine lv_bipush (v := 8) hx hb dX7_readWord_71 (by decide) ?_
    refine lv_icmp_le (tgt := 80) hx hb dX7_readWord_73 (by decide) (fun c_6 => ?_) (fun c_6 => ?_)
    · skip
      have g_7 : v_4.toInt ≤ (8 : Int) := i_le c_6
      refine lv_iconst (v := 1) hx hb dX7_readWord_80 (by decide) ?_
      refine va_put (D := (dC, dI)) (ci := 7) (v := .int 1) (ty := .int) (C := RX7) (T := TX7) (N := 15) hx hb hts (fun w h => wM_c (iX7 w h)) tyX7 tyX7_ok nmX7 hown hK hP hD hS 0 rfl rfl 12 (by decide) (hts _ (wM_c wd_348)) (fun _ h9 => h9) rfl (by decide +kernel) rfl rfl (Nat.le_of_ble_eq_true rfl) dX7_readWord_81 (fun H locs hP hD hS => ?_)
      obtain ⟨hP, hD⟩ : s3_w (dC, dI) classes A [(rd, .inr (7, [.ref rd_tape, .int fd1, .int fa1, .int fp1, .ref bk, .ref rd_names, .ref rd_nameKind, .ref rd_nameNumber, .int (nI nm), .ref rd_knotNames, .int (nI en), .int (nI a2), .int 1, .int (nI ts1), .long t2])), (rd_tape, .inl (k_rd_tape, 600, .inl f_rd_tape))] H := ⟨hP, hD⟩
      have hK9 := hK.sub (tys' := [(k_rd_tape, .int)]) [0] rfl
      exact W.vret hx hb hr (fun t ht hW => ⟨⟨(), rfl, trivial, a2, 1, t2, (by omega), (by omega), (by rw [show a2 = i by omega]; exact rN_eq (by omega) (by omega) hr2 (fun h9 => absurd h9 (by omega))), (by rw [show a2 = i by omega]; exact hv2), (Or.inl ⟨rfl, by omega⟩), by rw [ht]; exact hP.sub [0, 1] rfl, va_K.moved hW.alike hK9, hD.sub [0, 1] (by decide) rfl⟩, hS.F ht⟩) hS.2.2 dX7_readWord_84
    · skip
      have g_8 : (8 : Int) < v_4.toInt := i_nle c_6
      refine lv_iconst (v := 5) hx hb dX7_readWord_76 (by decide) ?_
      refine lv_goto (tgt := 81) hx hb dX7_readWord_77 (by decide) ?_
      refine va_put (D := (dC, dI)) (ci := 7) (v := .int 5) (ty := .int) (C := RX7) (T := TX7) (N := 15) hx hb hts (fun w h => wM_c (iX7 w h)) tyX7 tyX7_ok nmX7 hown hK hP hD hS 0 rfl rfl 12 (by decide) (hts _ (wM_c wd_348)) (fun _ h9 => h9) rfl (by decide +kernel) rfl rfl (Nat.le_of_ble_eq_true rfl) dX7_readWord_81 (fun H locs hP hD hS => ?_)
      obtain ⟨hP, hD⟩ : s3_w (dC, dI) classes A [(rd, .inr (7, [.ref rd_tape, .int fd1, .int fa1, .int fp1, .ref bk, .ref rd_names, .ref rd_nameKind, .ref rd_nameNumber, .int (nI nm), .ref rd_knotNames, .int (nI en), .int (nI a2), .int 5, .int (nI ts1), .long t2])), (rd_tape, .inl (k_rd_tape, 600, .inl f_rd_tape))] H := ⟨hP, hD⟩
      have hK9 := hK.sub (tys' := [(k_rd_tape, .int)]) [0] rfl
      exact W.vret hx hb hr (fun t ht hW => ⟨⟨(), rfl, trivial, a2, 5, t2, (by omega), (by omega), (by rw [show a2 = i by omega]; exact rN_eq (by omega) (by omega) hr2 (fun h9 => absurd h9 (by omega))), (by rw [show a2 = i by omega]; exact hv2), (Or.inr ⟨rfl, by omega⟩), by rw [ht]; exact hP.sub [0, 1] rfl, va_K.moved hW.alike hK9, hD.sub [0, 1] (by decide) rfl⟩, hS.F ht⟩) hS.2.2 dX7_readWord_84
  · skip
    have g_9 := n_nge (a := i) (b := en) c_2 (by omega) (by omega)
    refine lv_aload_n hx hb dX7_readWord_13 rfl (lv_at hl 0 rfl) ?_
    refine va_get (D := (dC, dI)) (ci := 7) (v := .ref rd_tape) (C := RX7) (T := TX7) (N := 15) hx hb hts (fun w h => wM_c (iX7 w h)) hown hK hP 0 rfl rfl 0 (by decide) (hts _ (wM_c wd_333)) (fun _ h9 => h9) rfl dX7_readWord_14 ?_
    refine lv_iload_n hx hb dX7_readWord_17 rfl (lv_at hl 1 rfl) ?_
    refine va_iald hx hb hK hP 1 0 rfl rfl (vp_in_nI (n := i) (by omega) (by omega)) dX7_readWord_18 ?_
    refine lv_topi (fun v_10 ev_10 => ?_)
    have nv_10 : v_10 = f_rd_tape i := by rw [ev_10]; exact congrArg _ (nI_clamp (by omega))
    have mv_10 : v_10 = T i := nv_10.trans (hT i (by omega))
    obtain ⟨hPc, hDc, hFc⟩ := s3_c (ws' := []) [] hP hD hS hA rfl (by decide)
    have hKc := hK.sub (tys' := []) [] rfl
    refine va_calli (va_runS (As := [.int v_10]) (rest := []) ⟨hx, hb, hml, hown, hts⟩ (d7_isLetter l dC dI n0 atx H.size v_10 ) (va_cwS 1 hts (gS (fun w h => wM_c h) wd_738 wd_736 wd_737 wd_117) rfl rfl rfl (by decide +kernel) ⟨Nat.le_of_ble_eq_true rfl, Nat.le_of_ble_eq_true rfl⟩) ⟨fun a U g mk q => by obtain ⟨q0, q1, q2, qG, qP, qK, qD⟩ := q; exact ⟨q0, q1, q2, GW.blind qG, qP, va_K.moved (u := U) (U := U.calling g mk a) (Vm.Alike.refl U.vm) qK, qD⟩, fun U hU hW => ⟨rfl, by rw [hU], Nat.le_trans hn0 hS.1, GW.go hW hU hG (fun q hq hA9 => hS.2.1 q hq (fun h => hA9 (hA0 q h))), by rw [hU]; exact hPc, va_K.moved hW.alike hKc, hDc.weaken (fun _ _ _ h => hA0 _ h)⟩⟩ rfl rfl hl.1 rfl (lv_room (Nat.le_of_ble_eq_true rfl)) dX7_readWord_19 ⟨Nat.le_of_ble_eq_true rfl, Nat.le_of_ble_eq_true rfl⟩) hS (fun q _ h => hFc q h) hFc (fun r_11 u t H1 locs ht hvm hw_12 hB hz1 hk1 hS => ?_)
    obtain ⟨hP1, hK1, hD1⟩ := hB
    rw [ht] at hP1
    obtain ⟨hP, hD⟩ := s3_j (L := [(rd, .inr (7, [.ref rd_tape, .int fd1, .int fa1, .int fp1, .ref bk, .ref rd_names, .ref rd_nameKind, .ref rd_nameNumber, .int (nI nm), .ref rd_knotNames, .int (nI en), .int (nI a2), .int tk1, .int (nI ts1), .long t2])), (rd_tape, .inl (k_rd_tape, 600, .inl f_rd_tape))]) 2 hP hD [] [0, 1] hk1 hFc hP1 hD1 rfl rfl rfl (by decide) (by decide)
    generalize H1 = H at hP hS ⊢
    rcases hw_12 with ⟨rfl, s_13, s_14⟩ | ⟨rfl, s_15⟩
    · skip
      refine lv_if_eq (tgt := 61) hx hb dX7_readWord_22 (by decide) (fun c_16 => ?_) (fun c_16 => ?_)
      · exact absurd c_16 (by decide)
      refine lv_aload_n hx hb dX7_readWord_25 rfl (lv_at hl 0 rfl) ?_
      refine lv_aload_n hx hb dX7_readWord_26 rfl (lv_at hl 0 rfl) ?_
      refine va_get (D := (dC, dI)) (ci := 7) (v := .long t2) (C := RX7) (T := TX7) (N := 15) hx hb hts (fun w h => wM_c (iX7 w h)) hown hK hP 0 rfl rfl 14 (by decide) (hts _ (wM_c wd_350)) (fun _ h9 => h9) rfl dX7_readWord_27 ?_
      refine lv_iconst (v := 5) hx hb dX7_readWord_30 (by decide) ?_
      refine lv_lshl hx hb dX7_readWord_31 rfl ?_
      refine lv_topl (fun v_17 ev_17 => ?_)
      refine lv_aload_n hx hb dX7_readWord_32 rfl (lv_at hl 0 rfl) ?_
      refine va_get (D := (dC, dI)) (ci := 7) (v := .ref rd_tape) (C := RX7) (T := TX7) (N := 15) hx hb hts (fun w h => wM_c (iX7 w h)) hown hK hP 0 rfl rfl 0 (by decide) (hts _ (wM_c wd_333)) (fun _ h9 => h9) rfl dX7_readWord_33 ?_
      refine lv_iload_n hx hb dX7_readWord_36 rfl (lv_at hl 1 rfl) ?_
      refine va_iald hx hb hK hP 1 0 rfl rfl (vp_in_nI (n := i) (by omega) (by omega)) dX7_readWord_37 ?_
      refine lv_topi (fun v_18 ev_18 => ?_)
      have nv_18 : v_18 = f_rd_tape i := by rw [ev_18]; exact congrArg _ (nI_clamp (by omega))
      have mv_18 : v_18 = T i := nv_18.trans (hT i (by omega))
      refine lv_bipush (v := 97) hx hb dX7_readWord_38 (by decide) ?_
      refine lv_isub hx hb dX7_readWord_40 ?_
      refine lv_topi (fun v_19 ev_19 => ?_)
      refine lv_iconst (v := 1) hx hb dX7_readWord_41 (by decide) ?_
      refine lv_iadd hx hb dX7_readWord_42 ?_
      refine lv_topi (fun v_20 ev_20 => ?_)
      refine lv_i2l (v := v_20.toInt64) hx hb dX7_readWord_43 rfl ?_
      refine lv_topl (fun v_21 ev_21 => ?_)
      refine lv_lor hx hb dX7_readWord_44 ?_
      refine lv_topl (fun v_22 ev_22 => ?_)
      refine va_put (D := (dC, dI)) (ci := 7) (v := .long v_22) (ty := .long) (C := RX7) (T := TX7) (N := 15) hx hb hts (fun w h => wM_c (iX7 w h)) tyX7 tyX7_ok nmX7 hown hK hP hD hS 0 rfl rfl 14 (by decide) (hts _ (wM_c wd_350)) (fun _ h9 => h9) rfl (by decide +kernel) rfl rfl (Nat.le_of_ble_eq_true rfl) dX7_readWord_45 (fun H locs hP hD hS => ?_)
      obtain ⟨hP, hD⟩ : s3_w (dC, dI) classes A [(rd, .inr (7, [.ref rd_tape, .int fd1, .int fa1, .int fp1, .ref bk, .ref rd_names, .ref rd_nameKind, .ref rd_nameNumber, .int (nI nm), .ref rd_knotNames, .int (nI en), .int (nI a2), .int tk1, .int (nI ts1), .long v_22])), (rd_tape, .inl (k_rd_tape, 600, .inl f_rd_tape))] H := ⟨hP, hD⟩
      refine lv_aload_n hx hb dX7_readWord_48 rfl (lv_at hl 0 rfl) ?_
      refine lv_iload_n hx hb dX7_readWord_49 rfl (lv_at hl 1 rfl) ?_
      refine lv_iconst (v := 1) hx hb dX7_readWord_50 (by decide) ?_
      refine lv_iadd hx hb dX7_readWord_51 ?_
      refine lv_topi (fun v_23 ev_23 => ?_)
      obtain rfl : v_23 = nI (i + 1) := ev_23.trans (nI_add i 1)
      refine va_put (D := (dC, dI)) (ci := 7) (v := .int (nI (i + 1))) (ty := .int) (C := RX7) (T := TX7) (N := 15) hx hb hts (fun w h => wM_c (iX7 w h)) tyX7 tyX7_ok nmX7 hown hK hP hD hS 0 rfl rfl 11 (by decide) (hts _ (wM_c wd_347)) (fun _ h9 => h9) rfl (by decide +kernel) rfl rfl (Nat.le_of_ble_eq_true rfl) dX7_readWord_52 (fun H locs hP hD hS => ?_)
      obtain ⟨hP, hD⟩ : s3_w (dC, dI) classes A [(rd, .inr (7, [.ref rd_tape, .int fd1, .int fa1, .int fp1, .ref bk, .ref rd_names, .ref rd_nameKind, .ref rd_nameNumber, .int (nI nm), .ref rd_knotNames, .int (nI en), .int (nI (i + 1)), .int tk1, .int (nI ts1), .long v_22])), (rd_tape, .inl (k_rd_tape, 600, .inl f_rd_tape))] H := ⟨hP, hD⟩
      refine lv_iinc (v := (nI (i + 1))) (lv' := [(1, .int (nI (i + 1))), (0, .ref rd)]) hx hb dX7_readWord_55 hl (k := 1) rfl (nI_add _ 1) (by decide) rfl (fun ls hl => ?_)
      refine lv_goto (tgt := 5) hx hb dX7_readWord_58 (by decide) ?_
      exact ih_1 (i + 1) (i + 1) v_22 _ _ _ ⟨(by first | with_reducible assumption | omega | exact vp_in_iff.mpr (by omega) | exact vp_in_nI (by omega) (by omega) | exact ⟨by omega, by omega⟩), (xrun_s hr2 mv_10 (decide_eq_true ⟨s_13, s_14⟩)), (xwv_s hv2 (by omega) mv_18 (by rw [mv_18, ← mv_10]; exact ⟨s_13, s_14⟩) (by rw [ev_22, ev_17, ev_21, ev_20, ev_19])), hP.sub [0, 1] rfl, hD.sub [0, 1] (by decide) rfl, hS, lv_sub hl [1, 0] rfl⟩ (by omega)
    · skip
      refine lv_if_eq (tgt := 61) hx hb dX7_readWord_22 (by decide) (fun c_24 => ?_) (fun c_24 => ?_)
      · skip
        refine lv_aload_n hx hb dX7_readWord_61 rfl (lv_at hl 0 rfl) ?_
        refine lv_aload_n hx hb dX7_readWord_62 rfl (lv_at hl 0 rfl) ?_
        refine va_get (D := (dC, dI)) (ci := 7) (v := .int (nI a2)) (C := RX7) (T := TX7) (N := 15) hx hb hts (fun w h => wM_c (iX7 w h)) hown hK hP 0 rfl rfl 11 (by decide) (hts _ (wM_c wd_347)) (fun _ h9 => h9) rfl dX7_readWord_63 ?_
        refine lv_aload_n hx hb dX7_readWord_66 rfl (lv_at hl 0 rfl) ?_
        refine va_get (D := (dC, dI)) (ci := 7) (v := .int (nI ts1)) (C := RX7) (T := TX7) (N := 15) hx hb hts (fun w h => wM_c (iX7 w h)) hown hK hP 0 rfl rfl 13 (by decide) (hts _ (wM_c wd_349)) (fun _ h9 => h9) rfl dX7_readWord_67 ?_
        refine lv_isub hx hb dX7_readWord_70 ?_
        refine lv_topi (fun v_25 ev_25 => ?_)
        have z8 : (nI a2).toInt = ((a2 : Nat) : Int) := nI_toInt (by omega)
        have z8 : (nI ts1).toInt = ((ts1 : Nat) : Int) := nI_toInt (by omega)
        have g_26 : v_25.toInt = ((a2 : Nat) : Int) - ((ts1 : Nat) : Int) := by have h9 := i_sub (x := (nI a2)) (y := (nI ts1)) (by omega) (by omega); rw [← ev_25] at h9; omega
        refine lv_bipush (v := 8) hx hb dX7_readWord_71 (by decide) ?_
        refine lv_icmp_le (tgt := 80) hx hb dX7_readWord_73 (by decide) (fun c_27 => ?_) (fun c_27 => ?_)
        · skip
          have g_28 : v_25.toInt ≤ (8 : Int) := i_le c_27
          refine lv_iconst (v := 1) hx hb dX7_readWord_80 (by decide) ?_
          refine va_put (D := (dC, dI)) (ci := 7) (v := .int 1) (ty := .int) (C := RX7) (T := TX7) (N := 15) hx hb hts (fun w h => wM_c (iX7 w h)) tyX7 tyX7_ok nmX7 hown hK hP hD hS 0 rfl rfl 12 (by decide) (hts _ (wM_c wd_348)) (fun _ h9 => h9) rfl (by decide +kernel) rfl rfl (Nat.le_of_ble_eq_true rfl) dX7_readWord_81 (fun H locs hP hD hS => ?_)
          obtain ⟨hP, hD⟩ : s3_w (dC, dI) classes A [(rd, .inr (7, [.ref rd_tape, .int fd1, .int fa1, .int fp1, .ref bk, .ref rd_names, .ref rd_nameKind, .ref rd_nameNumber, .int (nI nm), .ref rd_knotNames, .int (nI en), .int (nI a2), .int 1, .int (nI ts1), .long t2])), (rd_tape, .inl (k_rd_tape, 600, .inl f_rd_tape))] H := ⟨hP, hD⟩
          have hK9 := hK.sub (tys' := [(k_rd_tape, .int)]) [0] rfl
          exact W.vret hx hb hr (fun t ht hW => ⟨⟨(), rfl, trivial, a2, 1, t2, (by omega), (by omega), (by rw [show a2 = i by omega]; exact rN_eq (by omega) (by omega) hr2 (fun _ => by rw [← mv_10]; exact decide_eq_false s_15)), (by rw [show a2 = i by omega]; exact hv2), (Or.inl ⟨rfl, by omega⟩), by rw [ht]; exact hP.sub [0, 1] rfl, va_K.moved hW.alike hK9, hD.sub [0, 1] (by decide) rfl⟩, hS.F ht⟩) hS.2.2 dX7_readWord_84
        · skip
          have g_29 : (8 : Int) < v_25.toInt := i_nle c_27
          refine lv_iconst (v := 5) hx hb dX7_readWord_76 (by decide) ?_
          refine lv_goto (tgt := 81) hx hb dX7_readWord_77 (by decide) ?_
          refine va_put (D := (dC, dI)) (ci := 7) (v := .int 5) (ty := .int) (C := RX7) (T := TX7) (N := 15) hx hb hts (fun w h => wM_c (iX7 w h)) tyX7 tyX7_ok nmX7 hown hK hP hD hS 0 rfl rfl 12 (by decide) (hts _ (wM_c wd_348)) (fun _ h9 => h9) rfl (by decide +kernel) rfl rfl (Nat.le_of_ble_eq_true rfl) dX7_readWord_81 (fun H locs hP hD hS => ?_)
          obtain ⟨hP, hD⟩ : s3_w (dC, dI) classes A [(rd, .inr (7, [.ref rd_tape, .int fd1, .int fa1, .int fp1, .ref bk, .ref rd_names, .ref rd_nameKind, .ref rd_nameNumber, .int (nI nm), .ref rd_knotNames, .int (nI en), .int (nI a2), .int 5, .int (nI ts1), .long t2])), (rd_tape, .inl (k_rd_tape, 600, .inl f_rd_tape))] H := ⟨hP, hD⟩
          have hK9 := hK.sub (tys' := [(k_rd_tape, .int)]) [0] rfl
          exact W.vret hx hb hr (fun t ht hW => ⟨⟨(), rfl, trivial, a2, 5, t2, (by omega), (by omega), (by rw [show a2 = i by omega]; exact rN_eq (by omega) (by omega) hr2 (fun _ => by rw [← mv_10]; exact decide_eq_false s_15)), (by rw [show a2 = i by omega]; exact hv2), (Or.inr ⟨rfl, by omega⟩), by rw [ht]; exact hP.sub [0, 1] rfl, va_K.moved hW.alike hK9, hD.sub [0, 1] (by decide) rfl⟩, hS.F ht⟩) hS.2.2 dX7_readWord_84
      · exact absurd c_24 (by decide)
set_option maxHeartbeats 4000000 in
set_option maxRecDepth 100000 in
theorem d7_readDigits (l : Launch) (dC : Nat → ClassId) (dI : Nat → Nat → Nat) (n0 : Nat) (atx : Nat → Nat × Nat) (sz : Nat) (rd : Nat) (rd_tape : Nat) (fd1 : Int32) (fa1 : Int32) (fp1 : Int32) (bk : Nat) (rd_names : Nat) (rd_nameKind : Nat) (rd_nameNumber : Nat) (nm : Nat) (rd_knotNames : Nat) (en : Nat) (at1 : Nat) (tk1 : Int32) (ts1 : Nat) (tv1 : Int64) (k_rd_tape : ClassId) (f_rd_tape : Nat → Int32) (T : Nat → Int32) (h_en : en ≤ 600) (h_at : at1 ≤ en) (hT : ∀ k, k < en → f_rd_tape k = T k) (h_ts : ts1 = at1) (h_v0 : tv1.toInt32 = 0) : Met l yX7_readDigits (wM yX7_readDigits cX7_readDigits 2 none) ({ frames := 1, cells := 0, slots := 0, locals := 20 }) (va_Pc [.ref rd] (fun U => U.heap.size = sz ∧ n0 ≤ sz ∧ GW n0 atx U ∧ va_P (dC, dI) classes [(rd, .inr (7, [.ref rd_tape, .int fd1, .int fa1, .int fp1, .ref bk, .ref rd_names, .ref rd_nameKind, .ref rd_nameNumber, .int (nI nm), .ref rd_knotNames, .int (nI en), .int (nI at1), .int tk1, .int (nI ts1), .long tv1])), (rd_tape, .inl (k_rd_tape, 600, .inl f_rd_tape))] U.heap ∧ va_K (dC, dI) classes [(k_rd_tape, .int)] U ∧ va_D (fun q => n0 ≤ q) [(rd, .inr (7, [.ref rd_tape, .int fd1, .int fa1, .int fp1, .ref bk, .ref rd_names, .ref rd_nameKind, .ref rd_nameNumber, .int (nI nm), .ref rd_knotNames, .int (nI en), .int (nI at1), .int tk1, .int (nI ts1), .long tv1])), (rd_tape, .inl (k_rd_tape, 600, .inl f_rd_tape))])) (va_Qv (fun _ : Unit => True) (fun (_ : Unit) (t : State) => ∃ (at9 : Nat), ∃ (tk9 : Int32), ∃ (tv9 : Int64), (at9 ≤ en) ∧ (at1 ≤ at9) ∧ (rN bDg T en at1 = at9) ∧ (tv9.toInt32 = dvT T at1 (at9 - at1)) ∧ ((tk9 = 2 ∧ at9 - at1 ≤ 4) ∨ (tk9 = 5 ∧ 4 < at9 - at1)) ∧ va_P (dC, dI) classes [(rd, .inr (7, [.ref rd_tape, .int fd1, .int fa1, .int fp1, .ref bk, .ref rd_names, .ref rd_nameKind, .ref rd_nameNumber, .int (nI nm), .ref rd_knotNames, .int (nI en), .int (nI at9), .int tk9, .int (nI ts1), .long tv9])), (rd_tape, .inl (k_rd_tape, 600, .inl f_rd_tape))] t.heap ∧ va_K (dC, dI) classes [(k_rd_tape, .int)] t ∧ va_D (va_A [(rd, .inr (7, [.ref rd_tape, .int fd1, .int fa1, .int fp1, .ref bk, .ref rd_names, .ref rd_nameKind, .ref rd_nameNumber, .int (nI nm), .ref rd_knotNames, .int (nI en), .int (nI at1), .int tk1, .int (nI ts1), .long tv1])), (rd_tape, .inl (k_rd_tape, 600, .inl f_rd_tape))] sz) [(rd, .inr (7, [.ref rd_tape, .int fd1, .int fa1, .int fp1, .ref bk, .ref rd_names, .ref rd_nameKind, .ref rd_nameNumber, .int (nI nm), .ref rd_knotNames, .int (nI en), .int (nI at9), .int tk9, .int (nI ts1), .long tv9])), (rd_tape, .inl (k_rd_tape, 600, .inl f_rd_tape))]) (va_A [(rd, .inr (7, [.ref rd_tape, .int fd1, .int fa1, .int fp1, .ref bk, .ref rd_names, .ref rd_nameKind, .ref rd_nameNumber, .int (nI nm), .ref rd_knotNames, .int (nI en), .int (nI at1), .int tk1, .int (nI ts1), .long tv1])), (rd_tape, .inl (k_rd_tape, 600, .inl f_rd_tape))] sz)) 0 0 (va_A [(rd, .inr (7, [.ref rd_tape, .int fd1, .int fa1, .int fp1, .ref bk, .ref rd_names, .ref rd_nameKind, .ref rd_nameNumber, .int (nI nm), .ref rd_knotNames, .int (nI en), .int (nI at1), .int tk1, .int (nI ts1), .long tv1])), (rd_tape, .inl (k_rd_tape, 600, .inl f_rd_tape))] sz) := by
  refine Met.ofW (cc := cX7_readDigits) (maxL := 2) (ret := none) (by decide) rfl ?_
  intro p e s m args below meth c s₁ B hml hv
  obtain ⟨rfl, hsz, hn0, hG, hP, hK, hD0⟩ := hv
  have hx := B.exec
  have hb := B.bytes
  have hr := B.returns
  have hts := atoms_spec (ws := wM yX7_readDigits cX7_readDigits 2 none) B.pre
  have hown : s.vm.findClass RX7 = some m.cls := findClass_of_methodNamed B.named
  have hlocks := B.notSynchronized
  subst hsz
  have hD := hD0.self (sz := s.heap.size)
  have hA0 := vA_n0 hD0 hn0
  generalize hAe : va_A [(rd, .inr (7, [.ref rd_tape, .int fd1, .int fa1, .int fp1, .ref bk, .ref rd_names, .ref rd_nameKind, .ref rd_nameNumber, .int (nI nm), .ref rd_knotNames, .int (nI en), .int (nI at1), .int tk1, .int (nI ts1), .long tv1])), (rd_tape, .inl (k_rd_tape, 600, .inl f_rd_tape))] s.heap.size = A at hD hA0 ⊢
  have hA : ∀ q : Nat, s.heap.size ≤ q → A q := fun q h => by rw [← hAe]; exact Or.inr h
  have hS : va_S A s.heap s.heap [] := va_S.rf
  have hl := lv_entry ([.ref rd]) (n := 2) (Nat.le_of_ble_eq_true rfl)
  rw [lg_entry_eq]
  generalize (lg_sl ([.ref rd]) ++ List.replicate (2 - (lg_sl ([.ref rd])).length) Slot.unset).toArray = ls at hl ⊢
  have hl : lv_has ls 2 [(0, .ref rd)] := hl
  refine lv_aload_n hx hb dX7_readDigits_0 rfl (lv_at hl 0 rfl) ?_
  refine va_get (D := (dC, dI)) (ci := 7) (v := .int (nI at1)) (C := RX7) (T := TX7) (N := 15) hx hb hts (fun w h => wM_c (iX7 w h)) hown hK hP 0 rfl rfl 11 (by decide) (hts _ (wM_c wd_347)) (fun _ h9 => h9) rfl dX7_readDigits_1 ?_
  refine lv_istore_n (lv' := [(1, .int (nI at1)), (0, .ref rd)]) hx hb dX7_readDigits_4 rfl hl (by decide) rfl (fun ls hl => ?_)
  refine W_lp3 (I := fun (i : Nat) (a2 : Nat) (t2 : Int64) H locs ls => (i ≤ en ∧ a2 = i ∧ at1 ≤ i) ∧ (∀ j, at1 ≤ j → j < i → bDg (T j) = true) ∧ (t2.toInt32 = dvT T at1 (i - at1)) ∧ va_P (dC, dI) classes [(rd, .inr (7, [.ref rd_tape, .int fd1, .int fa1, .int fp1, .ref bk, .ref rd_names, .ref rd_nameKind, .ref rd_nameNumber, .int (nI nm), .ref rd_knotNames, .int (nI en), .int (nI a2), .int tk1, .int (nI ts1), .long t2])), (rd_tape, .inl (k_rd_tape, 600, .inl f_rd_tape))] H ∧ va_D A [(rd, .inr (7, [.ref rd_tape, .int fd1, .int fa1, .int fp1, .ref bk, .ref rd_names, .ref rd_nameKind, .ref rd_nameNumber, .int (nI nm), .ref rd_knotNames, .int (nI en), .int (nI a2), .int tk1, .int (nI ts1), .long t2])), (rd_tape, .inl (k_rd_tape, 600, .inl f_rd_tape))] ∧ va_S A s.heap H locs ∧ lv_has ls 2 [(0, .ref rd), (1, .int (nI i))]) (μ := fun (i : Nat) (a2 : Nat) (t2 : Int64) => en - i) ?_ at1 at1 tv1 _ _ _ ⟨(by first | with_reducible assumption | omega | exact vp_in_iff.mpr (by omega) | exact vp_in_nI (by omega) (by omega) | exact ⟨by omega, by omega⟩), (fun j h1 h2 => absurd h2 (by omega)), (by rw [Nat.sub_self]; exact h_v0), hP, hD, hS, lv_sub hl [1, 0] rfl⟩
  intro i a2 t2 H locs ls hI ih_1
  obtain ⟨hi, hr2, hv2, hP, hD, hS, hl⟩ := hI
  refine lv_iload_n hx hb dX7_readDigits_5 rfl (lv_at hl 1 rfl) ?_
  refine lv_aload_n hx hb dX7_readDigits_6 rfl (lv_at hl 0 rfl) ?_
  refine va_get (D := (dC, dI)) (ci := 7) (v := .int (nI en)) (C := RX7) (T := TX7) (N := 15) hx hb hts (fun w h => wM_c (iX7 w h)) hown hK hP 0 rfl rfl 10 (by decide) (hts _ (wM_c wd_346)) (fun _ h9 => h9) rfl dX7_readDigits_7 ?_
  refine lv_icmp_ge (tgt := 62) hx hb dX7_readDigits_10 (by decide) (fun c_2 => ?_) (fun c_2 => ?_)
  · skip
    have g_3 := n_ge (a := i) (b := en) c_2 (by omega) (by omega)
    refine lv_aload_n hx hb dX7_readDigits_62 rfl (lv_at hl 0 rfl) ?_
    refine lv_aload_n hx hb dX7_readDigits_63 rfl (lv_at hl 0 rfl) ?_
    refine va_get (D := (dC, dI)) (ci := 7) (v := .int (nI a2)) (C := RX7) (T := TX7) (N := 15) hx hb hts (fun w h => wM_c (iX7 w h)) hown hK hP 0 rfl rfl 11 (by decide) (hts _ (wM_c wd_347)) (fun _ h9 => h9) rfl dX7_readDigits_64 ?_
    refine lv_aload_n hx hb dX7_readDigits_67 rfl (lv_at hl 0 rfl) ?_
    refine va_get (D := (dC, dI)) (ci := 7) (v := .int (nI ts1)) (C := RX7) (T := TX7) (N := 15) hx hb hts (fun w h => wM_c (iX7 w h)) hown hK hP 0 rfl rfl 13 (by decide) (hts _ (wM_c wd_349)) (fun _ h9 => h9) rfl dX7_readDigits_68 ?_
    refine lv_isub hx hb dX7_readDigits_71 ?_
    refine lv_topi (fun v_4 ev_4 => ?_)
    have z8 : (nI a2).toInt = ((a2 : Nat) : Int) := nI_toInt (by omega)
    have z8 : (nI ts1).toInt = ((ts1 : Nat) : Int) := nI_toInt (by omega)
    have g_5 : v_4.toInt = ((a2 : Nat) : Int) - ((ts1 : Nat) : Int) := by have h9 := i_sub (x := (nI a2)) (y := (nI ts1)) (by omega) (by omega); rw [← ev_4] at h9; omega
    refine lv_iconst (v := 4) hx hb dX7_readDigits_72 (by decide) ?_
    refine lv_icmp_le (tgt := 80) hx hb dX7_readDigits_73 (by decide) (fun c_6 => ?_) (fun c_6 => ?_)
    · skip
      have g_7 : v_4.toInt ≤ (4 : Int) := i_le c_6
      refine lv_iconst (v := 2) hx hb dX7_readDigits_80 (by decide) ?_
      refine va_put (D := (dC, dI)) (ci := 7) (v := .int 2) (ty := .int) (C := RX7) (T := TX7) (N := 15) hx hb hts (fun w h => wM_c (iX7 w h)) tyX7 tyX7_ok nmX7 hown hK hP hD hS 0 rfl rfl 12 (by decide) (hts _ (wM_c wd_348)) (fun _ h9 => h9) rfl (by decide +kernel) rfl rfl (Nat.le_of_ble_eq_true rfl) dX7_readDigits_81 (fun H locs hP hD hS => ?_)
      obtain ⟨hP, hD⟩ : s3_w (dC, dI) classes A [(rd, .inr (7, [.ref rd_tape, .int fd1, .int fa1, .int fp1, .ref bk, .ref rd_names, .ref rd_nameKind, .ref rd_nameNumber, .int (nI nm), .ref rd_knotNames, .int (nI en), .int (nI a2), .int 2, .int (nI ts1), .long t2])), (rd_tape, .inl (k_rd_tape, 600, .inl f_rd_tape))] H := ⟨hP, hD⟩
      have hK9 := hK.sub (tys' := [(k_rd_tape, .int)]) [0] rfl
      exact W.vret hx hb hr (fun t ht hW => ⟨⟨(), rfl, trivial, a2, 2, t2, (by omega), (by omega), (by rw [show a2 = i by omega]; exact rN_eq (by omega) (by omega) hr2 (fun h9 => absurd h9 (by omega))), (by rw [show a2 = i by omega]; exact hv2), (Or.inl ⟨rfl, by omega⟩), by rw [ht]; exact hP.sub [0, 1] rfl, va_K.moved hW.alike hK9, hD.sub [0, 1] (by decide) rfl⟩, hS.F ht⟩) hS.2.2 dX7_readDigits_84
    · skip
      have g_8 : (4 : Int) < v_4.toInt := i_nle c_6
      refine lv_iconst (v := 5) hx hb dX7_readDigits_76 (by decide) ?_
      refine lv_goto (tgt := 81) hx hb dX7_readDigits_77 (by decide) ?_
      refine va_put (D := (dC, dI)) (ci := 7) (v := .int 5) (ty := .int) (C := RX7) (T := TX7) (N := 15) hx hb hts (fun w h => wM_c (iX7 w h)) tyX7 tyX7_ok nmX7 hown hK hP hD hS 0 rfl rfl 12 (by decide) (hts _ (wM_c wd_348)) (fun _ h9 => h9) rfl (by decide +kernel) rfl rfl (Nat.le_of_ble_eq_true rfl) dX7_readDigits_81 (fun H locs hP hD hS => ?_)
      obtain ⟨hP, hD⟩ : s3_w (dC, dI) classes A [(rd, .inr (7, [.ref rd_tape, .int fd1, .int fa1, .int fp1, .ref bk, .ref rd_names, .ref rd_nameKind, .ref rd_nameNumber, .int (nI nm), .ref rd_knotNames, .int (nI en), .int (nI a2), .int 5, .int (nI ts1), .long t2])), (rd_tape, .inl (k_rd_tape, 600, .inl f_rd_tape))] H := ⟨hP, hD⟩
      have hK9 := hK.sub (tys' := [(k_rd_tape, .int)]) [0] rfl
      exact W.vret hx hb hr (fun t ht hW => ⟨⟨(), rfl, trivial, a2, 5, t2, (by omega), (by omega), (by rw [show a2 = i by omega]; exact rN_eq (by omega) (by omega) hr2 (fun h9 => absurd h9 (by omega))), (by rw [show a2 = i by omega]; exact hv2), (Or.inr ⟨rfl, by omega⟩), by rw [ht]; exact hP.sub [0, 1] rfl, va_K.moved hW.alike hK9, hD.sub [0, 1] (by decide) rfl⟩, hS.F ht⟩) hS.2.2 dX7_readDigits_84
  · skip
    have g_9 := n_nge (a := i) (b := en) c_2 (by omega) (by omega)
    refine lv_aload_n hx hb dX7_readDigits_13 rfl (lv_at hl 0 rfl) ?_
    refine va_get (D := (dC, dI)) (ci := 7) (v := .ref rd_tape) (C := RX7) (T := TX7) (N := 15) hx hb hts (fun w h => wM_c (iX7 w h)) hown hK hP 0 rfl rfl 0 (by decide) (hts _ (wM_c wd_333)) (fun _ h9 => h9) rfl dX7_readDigits_14 ?_
    refine lv_iload_n hx hb dX7_readDigits_17 rfl (lv_at hl 1 rfl) ?_
    refine va_iald hx hb hK hP 1 0 rfl rfl (vp_in_nI (n := i) (by omega) (by omega)) dX7_readDigits_18 ?_
    refine lv_topi (fun v_10 ev_10 => ?_)
    have nv_10 : v_10 = f_rd_tape i := by rw [ev_10]; exact congrArg _ (nI_clamp (by omega))
    have mv_10 : v_10 = T i := nv_10.trans (hT i (by omega))
    obtain ⟨hPc, hDc, hFc⟩ := s3_c (ws' := []) [] hP hD hS hA rfl (by decide)
    have hKc := hK.sub (tys' := []) [] rfl
    refine va_calli (va_runS (As := [.int v_10]) (rest := []) ⟨hx, hb, hml, hown, hts⟩ (d7_isDigit l dC dI n0 atx H.size v_10 ) (va_cwS 1 hts (gS (fun w h => wM_c h) wd_745 wd_743 wd_744 wd_117) rfl rfl rfl (by decide +kernel) ⟨Nat.le_of_ble_eq_true rfl, Nat.le_of_ble_eq_true rfl⟩) ⟨fun a U g mk q => by obtain ⟨q0, q1, q2, qG, qP, qK, qD⟩ := q; exact ⟨q0, q1, q2, GW.blind qG, qP, va_K.moved (u := U) (U := U.calling g mk a) (Vm.Alike.refl U.vm) qK, qD⟩, fun U hU hW => ⟨rfl, by rw [hU], Nat.le_trans hn0 hS.1, GW.go hW hU hG (fun q hq hA9 => hS.2.1 q hq (fun h => hA9 (hA0 q h))), by rw [hU]; exact hPc, va_K.moved hW.alike hKc, hDc.weaken (fun _ _ _ h => hA0 _ h)⟩⟩ rfl rfl hl.1 rfl (lv_room (Nat.le_of_ble_eq_true rfl)) dX7_readDigits_19 ⟨Nat.le_of_ble_eq_true rfl, Nat.le_of_ble_eq_true rfl⟩) hS (fun q _ h => hFc q h) hFc (fun r_11 u t H1 locs ht hvm hw_12 hB hz1 hk1 hS => ?_)
    obtain ⟨hP1, hK1, hD1⟩ := hB
    rw [ht] at hP1
    obtain ⟨hP, hD⟩ := s3_j (L := [(rd, .inr (7, [.ref rd_tape, .int fd1, .int fa1, .int fp1, .ref bk, .ref rd_names, .ref rd_nameKind, .ref rd_nameNumber, .int (nI nm), .ref rd_knotNames, .int (nI en), .int (nI a2), .int tk1, .int (nI ts1), .long t2])), (rd_tape, .inl (k_rd_tape, 600, .inl f_rd_tape))]) 2 hP hD [] [0, 1] hk1 hFc hP1 hD1 rfl rfl rfl (by decide) (by decide)
    generalize H1 = H at hP hS ⊢
    rcases hw_12 with ⟨rfl, s_13, s_14⟩ | ⟨rfl, s_15⟩
    · skip
      refine lv_if_eq (tgt := 62) hx hb dX7_readDigits_22 (by decide) (fun c_16 => ?_) (fun c_16 => ?_)
      · exact absurd c_16 (by decide)
      refine lv_aload_n hx hb dX7_readDigits_25 rfl (lv_at hl 0 rfl) ?_
      refine lv_aload_n hx hb dX7_readDigits_26 rfl (lv_at hl 0 rfl) ?_
      refine va_get (D := (dC, dI)) (ci := 7) (v := .long t2) (C := RX7) (T := TX7) (N := 15) hx hb hts (fun w h => wM_c (iX7 w h)) hown hK hP 0 rfl rfl 14 (by decide) (hts _ (wM_c wd_350)) (fun _ h9 => h9) rfl dX7_readDigits_27 ?_
      refine lv_ldc2 hx hb hown (hts _ (wM_c wd_750)) dX7_readDigits_30 ?_
      refine lv_lmul hx hb dX7_readDigits_33 ?_
      refine lv_topl (fun v_17 ev_17 => ?_)
      refine lv_aload_n hx hb dX7_readDigits_34 rfl (lv_at hl 0 rfl) ?_
      refine va_get (D := (dC, dI)) (ci := 7) (v := .ref rd_tape) (C := RX7) (T := TX7) (N := 15) hx hb hts (fun w h => wM_c (iX7 w h)) hown hK hP 0 rfl rfl 0 (by decide) (hts _ (wM_c wd_333)) (fun _ h9 => h9) rfl dX7_readDigits_35 ?_
      refine lv_iload_n hx hb dX7_readDigits_38 rfl (lv_at hl 1 rfl) ?_
      refine va_iald hx hb hK hP 1 0 rfl rfl (vp_in_nI (n := i) (by omega) (by omega)) dX7_readDigits_39 ?_
      refine lv_topi (fun v_18 ev_18 => ?_)
      have nv_18 : v_18 = f_rd_tape i := by rw [ev_18]; exact congrArg _ (nI_clamp (by omega))
      have mv_18 : v_18 = T i := nv_18.trans (hT i (by omega))
      refine lv_i2l (v := v_18.toInt64) hx hb dX7_readDigits_40 rfl ?_
      refine lv_topl (fun v_19 ev_19 => ?_)
      refine lv_ladd hx hb dX7_readDigits_41 ?_
      refine lv_topl (fun v_20 ev_20 => ?_)
      refine lv_ldc2 hx hb hown (hts _ (wM_c wd_751)) dX7_readDigits_42 ?_
      refine lv_lsub hx hb dX7_readDigits_45 ?_
      refine lv_topl (fun v_21 ev_21 => ?_)
      refine va_put (D := (dC, dI)) (ci := 7) (v := .long v_21) (ty := .long) (C := RX7) (T := TX7) (N := 15) hx hb hts (fun w h => wM_c (iX7 w h)) tyX7 tyX7_ok nmX7 hown hK hP hD hS 0 rfl rfl 14 (by decide) (hts _ (wM_c wd_350)) (fun _ h9 => h9) rfl (by decide +kernel) rfl rfl (Nat.le_of_ble_eq_true rfl) dX7_readDigits_46 (fun H locs hP hD hS => ?_)
      obtain ⟨hP, hD⟩ : s3_w (dC, dI) classes A [(rd, .inr (7, [.ref rd_tape, .int fd1, .int fa1, .int fp1, .ref bk, .ref rd_names, .ref rd_nameKind, .ref rd_nameNumber, .int (nI nm), .ref rd_knotNames, .int (nI en), .int (nI a2), .int tk1, .int (nI ts1), .long v_21])), (rd_tape, .inl (k_rd_tape, 600, .inl f_rd_tape))] H := ⟨hP, hD⟩
      refine lv_aload_n hx hb dX7_readDigits_49 rfl (lv_at hl 0 rfl) ?_
      refine lv_iload_n hx hb dX7_readDigits_50 rfl (lv_at hl 1 rfl) ?_
      refine lv_iconst (v := 1) hx hb dX7_readDigits_51 (by decide) ?_
      refine lv_iadd hx hb dX7_readDigits_52 ?_
      refine lv_topi (fun v_22 ev_22 => ?_)
      obtain rfl : v_22 = nI (i + 1) := ev_22.trans (nI_add i 1)
      refine va_put (D := (dC, dI)) (ci := 7) (v := .int (nI (i + 1))) (ty := .int) (C := RX7) (T := TX7) (N := 15) hx hb hts (fun w h => wM_c (iX7 w h)) tyX7 tyX7_ok nmX7 hown hK hP hD hS 0 rfl rfl 11 (by decide) (hts _ (wM_c wd_347)) (fun _ h9 => h9) rfl (by decide +kernel) rfl rfl (Nat.le_of_ble_eq_true rfl) dX7_readDigits_53 (fun H locs hP hD hS => ?_)
      obtain ⟨hP, hD⟩ : s3_w (dC, dI) classes A [(rd, .inr (7, [.ref rd_tape, .int fd1, .int fa1, .int fp1, .ref bk, .ref rd_names, .ref rd_nameKind, .ref rd_nameNumber, .int (nI nm), .ref rd_knotNames, .int (nI en), .int (nI (i + 1)), .int tk1, .int (nI ts1), .long v_21])), (rd_tape, .inl (k_rd_tape, 600, .inl f_rd_tape))] H := ⟨hP, hD⟩
      refine lv_iinc (v := (nI (i + 1))) (lv' := [(1, .int (nI (i + 1))), (0, .ref rd)]) hx hb dX7_readDigits_56 hl (k := 1) rfl (nI_add _ 1) (by decide) rfl (fun ls hl => ?_)
      refine lv_goto (tgt := 5) hx hb dX7_readDigits_59 (by decide) ?_
      exact ih_1 (i + 1) (i + 1) v_21 _ _ _ ⟨(by first | with_reducible assumption | omega | exact vp_in_iff.mpr (by omega) | exact vp_in_nI (by omega) (by omega) | exact ⟨by omega, by omega⟩), (xrun_s hr2 mv_10 (decide_eq_true ⟨s_13, s_14⟩)), (xdv_s hv2 (by omega) mv_18 (by rw [ev_21, ev_20, ev_17, ev_19])), hP.sub [0, 1] rfl, hD.sub [0, 1] (by decide) rfl, hS, lv_sub hl [1, 0] rfl⟩ (by omega)
    · skip
      refine lv_if_eq (tgt := 62) hx hb dX7_readDigits_22 (by decide) (fun c_23 => ?_) (fun c_23 => ?_)
      · skip
        refine lv_aload_n hx hb dX7_readDigits_62 rfl (lv_at hl 0 rfl) ?_
        refine lv_aload_n hx hb dX7_readDigits_63 rfl (lv_at hl 0 rfl) ?_
        refine va_get (D := (dC, dI)) (ci := 7) (v := .int (nI a2)) (C := RX7) (T := TX7) (N := 15) hx hb hts (fun w h => wM_c (iX7 w h)) hown hK hP 0 rfl rfl 11 (by decide) (hts _ (wM_c wd_347)) (fun _ h9 => h9) rfl dX7_readDigits_64 ?_
        refine lv_aload_n hx hb dX7_readDigits_67 rfl (lv_at hl 0 rfl) ?_
        refine va_get (D := (dC, dI)) (ci := 7) (v := .int (nI ts1)) (C := RX7) (T := TX7) (N := 15) hx hb hts (fun w h => wM_c (iX7 w h)) hown hK hP 0 rfl rfl 13 (by decide) (hts _ (wM_c wd_349)) (fun _ h9 => h9) rfl dX7_readDigits_68 ?_
        refine lv_isub hx hb dX7_readDigits_71 ?_
        refine lv_topi (fun v_24 ev_24 => ?_)
        have z8 : (nI a2).toInt = ((a2 : Nat) : Int) := nI_toInt (by omega)
        have z8 : (nI ts1).toInt = ((ts1 : Nat) : Int) := nI_toInt (by omega)
        have g_25 : v_24.toInt = ((a2 : Nat) : Int) - ((ts1 : Nat) : Int) := by have h9 := i_sub (x := (nI a2)) (y := (nI ts1)) (by omega) (by omega); rw [← ev_24] at h9; omega
        refine lv_iconst (v := 4) hx hb dX7_readDigits_72 (by decide) ?_
        refine lv_icmp_le (tgt := 80) hx hb dX7_readDigits_73 (by decide) (fun c_26 => ?_) (fun c_26 => ?_)
        · skip
          have g_27 : v_24.toInt ≤ (4 : Int) := i_le c_26
          refine lv_iconst (v := 2) hx hb dX7_readDigits_80 (by decide) ?_
          refine va_put (D := (dC, dI)) (ci := 7) (v := .int 2) (ty := .int) (C := RX7) (T := TX7) (N := 15) hx hb hts (fun w h => wM_c (iX7 w h)) tyX7 tyX7_ok nmX7 hown hK hP hD hS 0 rfl rfl 12 (by decide) (hts _ (wM_c wd_348)) (fun _ h9 => h9) rfl (by decide +kernel) rfl rfl (Nat.le_of_ble_eq_true rfl) dX7_readDigits_81 (fun H locs hP hD hS => ?_)
          obtain ⟨hP, hD⟩ : s3_w (dC, dI) classes A [(rd, .inr (7, [.ref rd_tape, .int fd1, .int fa1, .int fp1, .ref bk, .ref rd_names, .ref rd_nameKind, .ref rd_nameNumber, .int (nI nm), .ref rd_knotNames, .int (nI en), .int (nI a2), .int 2, .int (nI ts1), .long t2])), (rd_tape, .inl (k_rd_tape, 600, .inl f_rd_tape))] H := ⟨hP, hD⟩
          have hK9 := hK.sub (tys' := [(k_rd_tape, .int)]) [0] rfl
          exact W.vret hx hb hr (fun t ht hW => ⟨⟨(), rfl, trivial, a2, 2, t2, (by omega), (by omega), (by rw [show a2 = i by omega]; exact rN_eq (by omega) (by omega) hr2 (fun _ => by rw [← mv_10]; exact decide_eq_false s_15)), (by rw [show a2 = i by omega]; exact hv2), (Or.inl ⟨rfl, by omega⟩), by rw [ht]; exact hP.sub [0, 1] rfl, va_K.moved hW.alike hK9, hD.sub [0, 1] (by decide) rfl⟩, hS.F ht⟩) hS.2.2 dX7_readDigits_84
        · skip
          have g_28 : (4 : Int) < v_24.toInt := i_nle c_26
          refine lv_iconst (v := 5) hx hb dX7_readDigits_76 (by decide) ?_
          refine lv_goto (tgt := 81) hx hb dX7_readDigits_77 (by decide) ?_
          refine va_put (D := (dC, dI)) (ci := 7) (v := .int 5) (ty := .int) (C := RX7) (T := TX7) (N := 15) hx hb hts (fun w h => wM_c (iX7 w h)) tyX7 tyX7_ok nmX7 hown hK hP hD hS 0 rfl rfl 12 (by decide) (hts _ (wM_c wd_348)) (fun _ h9 => h9) rfl (by decide +kernel) rfl rfl (Nat.le_of_ble_eq_true rfl) dX7_readDigits_81 (fun H locs hP hD hS => ?_)
          obtain ⟨hP, hD⟩ : s3_w (dC, dI) classes A [(rd, .inr (7, [.ref rd_tape, .int fd1, .int fa1, .int fp1, .ref bk, .ref rd_names, .ref rd_nameKind, .ref rd_nameNumber, .int (nI nm), .ref rd_knotNames, .int (nI en), .int (nI a2), .int 5, .int (nI ts1), .long t2])), (rd_tape, .inl (k_rd_tape, 600, .inl f_rd_tape))] H := ⟨hP, hD⟩
          have hK9 := hK.sub (tys' := [(k_rd_tape, .int)]) [0] rfl
          exact W.vret hx hb hr (fun t ht hW => ⟨⟨(), rfl, trivial, a2, 5, t2, (by omega), (by omega), (by rw [show a2 = i by omega]; exact rN_eq (by omega) (by omega) hr2 (fun _ => by rw [← mv_10]; exact decide_eq_false s_15)), (by rw [show a2 = i by omega]; exact hv2), (Or.inr ⟨rfl, by omega⟩), by rw [ht]; exact hP.sub [0, 1] rfl, va_K.moved hW.alike hK9, hD.sub [0, 1] (by decide) rfl⟩, hS.F ht⟩) hS.2.2 dX7_readDigits_84
      · exact absurd c_23 (by decide)
set_option maxHeartbeats 4000000 in
set_option maxRecDepth 100000 in
theorem d7_next (l : Launch) (dC : Nat → ClassId) (dI : Nat → Nat → Nat) (n0 : Nat) (atx : Nat → Nat × Nat) (sz : Nat) (rd : Nat) (rd_tape : Nat) (fd1 : Int32) (fa1 : Int32) (fp1 : Int32) (bk : Nat) (rd_names : Nat) (rd_nameKind : Nat) (rd_nameNumber : Nat) (nm : Nat) (rd_knotNames : Nat) (en : Nat) (at1 : Nat) (tk1 : Int32) (ts0 : Int32) (tv1 : Int64) (k_rd_tape : ClassId) (f_rd_tape : Nat → Int32) (T : Nat → Int32) (h_en : en ≤ 600) (h_at : at1 ≤ en) (hT : ∀ k, k < en → f_rd_tape k = T k) : Met l yX7_next (wM yX7_next cX7_next 2 none) ({ frames := 2, cells := 0, slots := 0, locals := 41 }) (va_Pc [.ref rd] (fun U => U.heap.size = sz ∧ n0 ≤ sz ∧ GW n0 atx U ∧ va_P (dC, dI) classes [(rd, .inr (7, [.ref rd_tape, .int fd1, .int fa1, .int fp1, .ref bk, .ref rd_names, .ref rd_nameKind, .ref rd_nameNumber, .int (nI nm), .ref rd_knotNames, .int (nI en), .int (nI at1), .int tk1, .int ts0, .long tv1])), (rd_tape, .inl (k_rd_tape, 600, .inl f_rd_tape))] U.heap ∧ va_K (dC, dI) classes [(k_rd_tape, .int)] U ∧ va_D (fun q => n0 ≤ q) [(rd, .inr (7, [.ref rd_tape, .int fd1, .int fa1, .int fp1, .ref bk, .ref rd_names, .ref rd_nameKind, .ref rd_nameNumber, .int (nI nm), .ref rd_knotNames, .int (nI en), .int (nI at1), .int tk1, .int ts0, .long tv1])), (rd_tape, .inl (k_rd_tape, 600, .inl f_rd_tape))])) (va_Qv (fun _ : Unit => True) (fun (_ : Unit) (t : State) => ∃ (at9 : Nat), ∃ (tk9 : Int32), ∃ (ts9 : Nat), ∃ (tv9 : Int64), (at9 ≤ en) ∧ (xTk T en at1 ts9 at9 tk9 tv9) ∧ va_P (dC, dI) classes [(rd, .inr (7, [.ref rd_tape, .int fd1, .int fa1, .int fp1, .ref bk, .ref rd_names, .ref rd_nameKind, .ref rd_nameNumber, .int (nI nm), .ref rd_knotNames, .int (nI en), .int (nI at9), .int tk9, .int (nI ts9), .long tv9])), (rd_tape, .inl (k_rd_tape, 600, .inl f_rd_tape))] t.heap ∧ va_K (dC, dI) classes [(k_rd_tape, .int)] t ∧ va_D (va_A [(rd, .inr (7, [.ref rd_tape, .int fd1, .int fa1, .int fp1, .ref bk, .ref rd_names, .ref rd_nameKind, .ref rd_nameNumber, .int (nI nm), .ref rd_knotNames, .int (nI en), .int (nI at1), .int tk1, .int ts0, .long tv1])), (rd_tape, .inl (k_rd_tape, 600, .inl f_rd_tape))] sz) [(rd, .inr (7, [.ref rd_tape, .int fd1, .int fa1, .int fp1, .ref bk, .ref rd_names, .ref rd_nameKind, .ref rd_nameNumber, .int (nI nm), .ref rd_knotNames, .int (nI en), .int (nI at9), .int tk9, .int (nI ts9), .long tv9])), (rd_tape, .inl (k_rd_tape, 600, .inl f_rd_tape))]) (va_A [(rd, .inr (7, [.ref rd_tape, .int fd1, .int fa1, .int fp1, .ref bk, .ref rd_names, .ref rd_nameKind, .ref rd_nameNumber, .int (nI nm), .ref rd_knotNames, .int (nI en), .int (nI at1), .int tk1, .int ts0, .long tv1])), (rd_tape, .inl (k_rd_tape, 600, .inl f_rd_tape))] sz)) 0 0 (va_A [(rd, .inr (7, [.ref rd_tape, .int fd1, .int fa1, .int fp1, .ref bk, .ref rd_names, .ref rd_nameKind, .ref rd_nameNumber, .int (nI nm), .ref rd_knotNames, .int (nI en), .int (nI at1), .int tk1, .int ts0, .long tv1])), (rd_tape, .inl (k_rd_tape, 600, .inl f_rd_tape))] sz) := by
  refine Met.ofW (cc := cX7_next) (maxL := 2) (ret := none) (by decide) rfl ?_
  intro p e s m args below meth c s₁ B hml hv
  obtain ⟨rfl, hsz, hn0, hG, hP, hK, hD0⟩ := hv
  have hx := B.exec
  have hb := B.bytes
  have hr := B.returns
  have hts := atoms_spec (ws := wM yX7_next cX7_next 2 none) B.pre
  have hown : s.vm.findClass RX7 = some m.cls := findClass_of_methodNamed B.named
  have hlocks := B.notSynchronized
  subst hsz
  have hD := hD0.self (sz := s.heap.size)
  have hA0 := vA_n0 hD0 hn0
  generalize hAe : va_A [(rd, .inr (7, [.ref rd_tape, .int fd1, .int fa1, .int fp1, .ref bk, .ref rd_names, .ref rd_nameKind, .ref rd_nameNumber, .int (nI nm), .ref rd_knotNames, .int (nI en), .int (nI at1), .int tk1, .int ts0, .long tv1])), (rd_tape, .inl (k_rd_tape, 600, .inl f_rd_tape))] s.heap.size = A at hD hA0 ⊢
  have hA : ∀ q : Nat, s.heap.size ≤ q → A q := fun q h => by rw [← hAe]; exact Or.inr h
  have hS : va_S A s.heap s.heap [] := va_S.rf
  have hl := lv_entry ([.ref rd]) (n := 2) (Nat.le_of_ble_eq_true rfl)
  rw [lg_entry_eq]
  generalize (lg_sl ([.ref rd]) ++ List.replicate (2 - (lg_sl ([.ref rd])).length) Slot.unset).toArray = ls at hl ⊢
  have hl : lv_has ls 2 [(0, .ref rd)] := hl
  refine lv_aload_n hx hb dX7_next_0 rfl (lv_at hl 0 rfl) ?_
  refine va_get (D := (dC, dI)) (ci := 7) (v := .int (nI at1)) (C := RX7) (T := TX7) (N := 15) hx hb hts (fun w h => wM_c (iX7 w h)) hown hK hP 0 rfl rfl 11 (by decide) (hts _ (wM_c wd_347)) (fun _ h9 => h9) rfl dX7_next_1 ?_
  refine lv_istore_n (lv' := [(1, .int (nI at1)), (0, .ref rd)]) hx hb dX7_next_4 rfl hl (by decide) rfl (fun ls hl => ?_)
  refine W_lp2 (I := fun (i : Nat) (a2 : Nat) H locs ls => (i ≤ en ∧ a2 = i ∧ at1 ≤ i) ∧ (∀ j, at1 ≤ j → j < i → bBl (T j) = true) ∧ va_P (dC, dI) classes [(rd, .inr (7, [.ref rd_tape, .int fd1, .int fa1, .int fp1, .ref bk, .ref rd_names, .ref rd_nameKind, .ref rd_nameNumber, .int (nI nm), .ref rd_knotNames, .int (nI en), .int (nI a2), .int tk1, .int ts0, .long tv1])), (rd_tape, .inl (k_rd_tape, 600, .inl f_rd_tape))] H ∧ va_D A [(rd, .inr (7, [.ref rd_tape, .int fd1, .int fa1, .int fp1, .ref bk, .ref rd_names, .ref rd_nameKind, .ref rd_nameNumber, .int (nI nm), .ref rd_knotNames, .int (nI en), .int (nI a2), .int tk1, .int ts0, .long tv1])), (rd_tape, .inl (k_rd_tape, 600, .inl f_rd_tape))] ∧ va_S A s.heap H locs ∧ lv_has ls 2 [(0, .ref rd), (1, .int (nI i))]) (μ := fun (i : Nat) (a2 : Nat) => en - i) ?_ at1 at1 _ _ _ ⟨(by first | with_reducible assumption | omega | exact vp_in_iff.mpr (by omega) | exact vp_in_nI (by omega) (by omega) | exact ⟨by omega, by omega⟩), (fun j h1 h2 => absurd h2 (by omega)), hP, hD, hS, lv_sub hl [1, 0] rfl⟩
  intro i a2 H locs ls hI ih_1
  obtain ⟨hi, hb2, hP, hD, hS, hl⟩ := hI
  refine lv_iload_n hx hb dX7_next_5 rfl (lv_at hl 1 rfl) ?_
  refine lv_aload_n hx hb dX7_next_6 rfl (lv_at hl 0 rfl) ?_
  refine va_get (D := (dC, dI)) (ci := 7) (v := .int (nI en)) (C := RX7) (T := TX7) (N := 15) hx hb hts (fun w h => wM_c (iX7 w h)) hown hK hP 0 rfl rfl 10 (by decide) (hts _ (wM_c wd_346)) (fun _ h9 => h9) rfl dX7_next_7 ?_
  refine lv_icmp_ge (tgt := 37) hx hb dX7_next_10 (by decide) (fun c_2 => ?_) (fun c_2 => ?_)
  · skip
    have g_3 := n_ge (a := i) (b := en) c_2 (by omega) (by omega)
    have htp : tkP T en at1 = a2 := by rw [show a2 = i by omega]; exact rN_eq (by omega) (by omega) hb2 (fun h9 => absurd h9 (by omega))
    refine lv_aload_n hx hb dX7_next_37 rfl (lv_at hl 0 rfl) ?_
    refine lv_aload_n hx hb dX7_next_38 rfl (lv_at hl 0 rfl) ?_
    refine va_get (D := (dC, dI)) (ci := 7) (v := .int (nI a2)) (C := RX7) (T := TX7) (N := 15) hx hb hts (fun w h => wM_c (iX7 w h)) hown hK hP 0 rfl rfl 11 (by decide) (hts _ (wM_c wd_347)) (fun _ h9 => h9) rfl dX7_next_39 ?_
    refine va_put (D := (dC, dI)) (ci := 7) (v := .int (nI a2)) (ty := .int) (C := RX7) (T := TX7) (N := 15) hx hb hts (fun w h => wM_c (iX7 w h)) tyX7 tyX7_ok nmX7 hown hK hP hD hS 0 rfl rfl 13 (by decide) (hts _ (wM_c wd_349)) (fun _ h9 => h9) rfl (by decide +kernel) rfl rfl (Nat.le_of_ble_eq_true rfl) dX7_next_42 (fun H locs hP hD hS => ?_)
    obtain ⟨hP, hD⟩ : s3_w (dC, dI) classes A [(rd, .inr (7, [.ref rd_tape, .int fd1, .int fa1, .int fp1, .ref bk, .ref rd_names, .ref rd_nameKind, .ref rd_nameNumber, .int (nI nm), .ref rd_knotNames, .int (nI en), .int (nI a2), .int tk1, .int (nI a2), .long tv1])), (rd_tape, .inl (k_rd_tape, 600, .inl f_rd_tape))] H := ⟨hP, hD⟩
    refine lv_aload_n hx hb dX7_next_45 rfl (lv_at hl 0 rfl) ?_
    refine lv_lconst (v := 0) hx hb dX7_next_46 (by decide) ?_
    refine va_put (D := (dC, dI)) (ci := 7) (v := .long 0) (ty := .long) (C := RX7) (T := TX7) (N := 15) hx hb hts (fun w h => wM_c (iX7 w h)) tyX7 tyX7_ok nmX7 hown hK hP hD hS 0 rfl rfl 14 (by decide) (hts _ (wM_c wd_350)) (fun _ h9 => h9) rfl (by decide +kernel) rfl rfl (Nat.le_of_ble_eq_true rfl) dX7_next_47 (fun H locs hP hD hS => ?_)
    obtain ⟨hP, hD⟩ : s3_w (dC, dI) classes A [(rd, .inr (7, [.ref rd_tape, .int fd1, .int fa1, .int fp1, .ref bk, .ref rd_names, .ref rd_nameKind, .ref rd_nameNumber, .int (nI nm), .ref rd_knotNames, .int (nI en), .int (nI a2), .int tk1, .int (nI a2), .long 0])), (rd_tape, .inl (k_rd_tape, 600, .inl f_rd_tape))] H := ⟨hP, hD⟩
    refine lv_aload_n hx hb dX7_next_50 rfl (lv_at hl 0 rfl) ?_
    refine va_get (D := (dC, dI)) (ci := 7) (v := .int (nI a2)) (C := RX7) (T := TX7) (N := 15) hx hb hts (fun w h => wM_c (iX7 w h)) hown hK hP 0 rfl rfl 11 (by decide) (hts _ (wM_c wd_347)) (fun _ h9 => h9) rfl dX7_next_51 ?_
    refine lv_aload_n hx hb dX7_next_54 rfl (lv_at hl 0 rfl) ?_
    refine va_get (D := (dC, dI)) (ci := 7) (v := .int (nI en)) (C := RX7) (T := TX7) (N := 15) hx hb hts (fun w h => wM_c (iX7 w h)) hown hK hP 0 rfl rfl 10 (by decide) (hts _ (wM_c wd_346)) (fun _ h9 => h9) rfl dX7_next_55 ?_
    refine lv_icmp_lt (tgt := 69) hx hb dX7_next_58 (by decide) (fun c_4 => ?_) (fun c_4 => ?_)
    · skip
      have g_5 := n_lt (a := a2) (b := en) c_4 (by omega) (by omega)
      refine lv_aload_n hx hb dX7_next_69 rfl (lv_at hl 0 rfl) ?_
      refine va_get (D := (dC, dI)) (ci := 7) (v := .ref rd_tape) (C := RX7) (T := TX7) (N := 15) hx hb hts (fun w h => wM_c (iX7 w h)) hown hK hP 0 rfl rfl 0 (by decide) (hts _ (wM_c wd_333)) (fun _ h9 => h9) rfl dX7_next_70 ?_
      refine lv_aload_n hx hb dX7_next_73 rfl (lv_at hl 0 rfl) ?_
      refine va_get (D := (dC, dI)) (ci := 7) (v := .int (nI a2)) (C := RX7) (T := TX7) (N := 15) hx hb hts (fun w h => wM_c (iX7 w h)) hown hK hP 0 rfl rfl 11 (by decide) (hts _ (wM_c wd_347)) (fun _ h9 => h9) rfl dX7_next_74 ?_
      refine va_iald hx hb hK hP 1 0 rfl rfl (vp_in_nI (n := a2) (by omega) (by omega)) dX7_next_77 ?_
      refine lv_topi (fun v_6 ev_6 => ?_)
      have nv_6 : v_6 = f_rd_tape a2 := by rw [ev_6]; exact congrArg _ (nI_clamp (by omega))
      have mv_6 : v_6 = T a2 := nv_6.trans (hT a2 (by omega))
      obtain ⟨hPc, hDc, hFc⟩ := s3_c (ws' := []) [] hP hD hS hA rfl (by decide)
      have hKc := hK.sub (tys' := []) [] rfl
      refine va_calli (va_runS (As := [.int v_6]) (rest := []) ⟨hx, hb, hml, hown, hts⟩ (d7_isLetter l dC dI n0 atx H.size v_6 ) (va_cwS 1 hts (gS (fun w h => wM_c h) wd_738 wd_736 wd_737 wd_117) rfl rfl rfl (by decide +kernel) ⟨Nat.le_of_ble_eq_true rfl, Nat.le_of_ble_eq_true rfl⟩) ⟨fun a U g mk q => by obtain ⟨q0, q1, q2, qG, qP, qK, qD⟩ := q; exact ⟨q0, q1, q2, GW.blind qG, qP, va_K.moved (u := U) (U := U.calling g mk a) (Vm.Alike.refl U.vm) qK, qD⟩, fun U hU hW => ⟨rfl, by rw [hU], Nat.le_trans hn0 hS.1, GW.go hW hU hG (fun q hq hA9 => hS.2.1 q hq (fun h => hA9 (hA0 q h))), by rw [hU]; exact hPc, va_K.moved hW.alike hKc, hDc.weaken (fun _ _ _ h => hA0 _ h)⟩⟩ rfl rfl hl.1 rfl (lv_room (Nat.le_of_ble_eq_true rfl)) dX7_next_78 ⟨Nat.le_of_ble_eq_true rfl, Nat.le_of_ble_eq_true rfl⟩) hS (fun q _ h => hFc q h) hFc (fun r_7 u t H1 locs ht hvm hw_8 hB hz1 hk1 hS => ?_)
      obtain ⟨hP1, hK1, hD1⟩ := hB
      rw [ht] at hP1
      obtain ⟨hP, hD⟩ := s3_j (L := [(rd, .inr (7, [.ref rd_tape, .int fd1, .int fa1, .int fp1, .ref bk, .ref rd_names, .ref rd_nameKind, .ref rd_nameNumber, .int (nI nm), .ref rd_knotNames, .int (nI en), .int (nI a2), .int tk1, .int (nI a2), .long 0])), (rd_tape, .inl (k_rd_tape, 600, .inl f_rd_tape))]) 2 hP hD [] [0, 1] hk1 hFc hP1 hD1 rfl rfl rfl (by decide) (by decide)
      generalize H1 = H at hP hS ⊢
      rcases hw_8 with ⟨rfl, s_9, s_10⟩ | ⟨rfl, s_11⟩
      · skip
        refine lv_if_eq (tgt := 91) hx hb dX7_next_81 (by decide) (fun c_12 => ?_) (fun c_12 => ?_)
        · exact absurd c_12 (by decide)
        have hLt : bLt (T a2) = true := by rw [← mv_6]; exact decide_eq_true ⟨s_9, s_10⟩
        refine lv_aload_n hx hb dX7_next_84 rfl (lv_at hl 0 rfl) ?_
        obtain ⟨hPc, hDc, hFc⟩ := s3_c (ws' := [(rd, .inr (7, [.ref rd_tape, .int fd1, .int fa1, .int fp1, .ref bk, .ref rd_names, .ref rd_nameKind, .ref rd_nameNumber, .int (nI nm), .ref rd_knotNames, .int (nI en), .int (nI a2), .int tk1, .int (nI a2), .long 0])), (rd_tape, .inl (k_rd_tape, 600, .inl f_rd_tape))]) [0, 1] hP hD hS hA rfl (by decide)
        have hKc := hK.sub (tys' := [(k_rd_tape, .int)]) [0] rfl
        refine va_callv (va_runV (As := []) (rest := []) ⟨hx, hb, hml, hown, hts⟩ (d7_readWord l dC dI n0 atx H.size rd rd_tape fd1 fa1 fp1 bk rd_names rd_nameKind rd_nameNumber nm rd_knotNames en a2 tk1 a2 0 k_rd_tape f_rd_tape T (by first | with_reducible assumption | omega | exact vp_in_iff.mpr (by omega) | exact vp_in_nI (by omega) (by omega) | exact ⟨by omega, by omega⟩) (by first | with_reducible assumption | omega | exact vp_in_iff.mpr (by omega) | exact vp_in_nI (by omega) (by omega) | exact ⟨by omega, by omega⟩) (by first | with_reducible assumption | omega | exact vp_in_iff.mpr (by omega) | exact vp_in_nI (by omega) (by omega) | exact ⟨by omega, by omega⟩) rfl rfl) (cwV 0 hts (gV (fun w h => wM_c h) wd_742 wd_739 wd_741 wd_2 wd_117) rfl rfl rfl (by decide +kernel) ⟨Nat.le_of_ble_eq_true rfl, Nat.le_of_ble_eq_true rfl⟩) ⟨fun a U g mk q => by obtain ⟨q0, q1, q2, qG, qP, qK, qD⟩ := q; exact ⟨q0, q1, q2, GW.blind qG, qP, va_K.moved (u := U) (U := U.calling g mk a) (Vm.Alike.refl U.vm) qK, qD⟩, va_recv hKc hPc (ci := 7) (q0 := 0) rfl rfl, fun U hU hW => ⟨rfl, by rw [hU], Nat.le_trans hn0 hS.1, GW.go hW hU hG (fun q hq hA9 => hS.2.1 q hq (fun h => hA9 (hA0 q h))), by rw [hU]; exact hPc, va_K.moved hW.alike hKc, hDc.weaken (fun _ _ _ h => hA0 _ h)⟩⟩ rfl rfl hl.1 rfl (lv_room (Nat.le_of_ble_eq_true rfl)) dX7_next_85 ⟨Nat.le_of_ble_eq_true rfl, Nat.le_of_ble_eq_true rfl⟩) hS (fun q _ h => hFc q h) hFc (fun u t H1 locs ht hvm hw_14 hB hz1 hk1 hS => ?_)
        obtain ⟨at9_15, tk9_16, tv9_17, hf_18, hf_19, hf_20, hf_21, hf_22, hP1, hK1, hD1⟩ := hB
        rw [ht] at hP1
        obtain ⟨hP, hD⟩ := s3_j (L := [(rd, .inr (7, [.ref rd_tape, .int fd1, .int fa1, .int fp1, .ref bk, .ref rd_names, .ref rd_nameKind, .ref rd_nameNumber, .int (nI nm), .ref rd_knotNames, .int (nI en), .int (nI at9_15), .int tk9_16, .int (nI a2), .long tv9_17])), (rd_tape, .inl (k_rd_tape, 600, .inl f_rd_tape))]) 0 hP hD [0, 1] [] hk1 hFc hP1 hD1 rfl rfl rfl (by decide) (by decide)
        generalize H1 = H at hP hS ⊢
        refine lv_goto (tgt := 164) hx hb dX7_next_88 (by decide) ?_
        have hK9 := hK.sub (tys' := [(k_rd_tape, .int)]) [0] rfl
        exact W.vret hx hb hr (fun t ht hW => ⟨⟨(), rfl, trivial, at9_15, tk9_16, a2, tv9_17, (by omega), (xT_w htp (by omega) hLt hf_20 hf_22 hf_21), by rw [ht]; exact hP.sub [0, 1] rfl, va_K.moved hW.alike hK9, hD.sub [0, 1] (by decide) rfl⟩, hS.F ht⟩) hS.2.2 dX7_next_164
      · skip
        refine lv_if_eq (tgt := 91) hx hb dX7_next_81 (by decide) (fun c_23 => ?_) (fun c_23 => ?_)
        · skip
          have hLt : bLt (T a2) = false := by rw [← mv_6]; exact decide_eq_false s_11
          refine lv_aload_n hx hb dX7_next_91 rfl (lv_at hl 0 rfl) ?_
          refine va_get (D := (dC, dI)) (ci := 7) (v := .ref rd_tape) (C := RX7) (T := TX7) (N := 15) hx hb hts (fun w h => wM_c (iX7 w h)) hown hK hP 0 rfl rfl 0 (by decide) (hts _ (wM_c wd_333)) (fun _ h9 => h9) rfl dX7_next_92 ?_
          refine lv_aload_n hx hb dX7_next_95 rfl (lv_at hl 0 rfl) ?_
          refine va_get (D := (dC, dI)) (ci := 7) (v := .int (nI a2)) (C := RX7) (T := TX7) (N := 15) hx hb hts (fun w h => wM_c (iX7 w h)) hown hK hP 0 rfl rfl 11 (by decide) (hts _ (wM_c wd_347)) (fun _ h9 => h9) rfl dX7_next_96 ?_
          refine va_iald hx hb hK hP 1 0 rfl rfl (vp_in_nI (n := a2) (by omega) (by omega)) dX7_next_99 ?_
          refine lv_topi (fun v_24 ev_24 => ?_)
          have nv_24 : v_24 = f_rd_tape a2 := by rw [ev_24]; exact congrArg _ (nI_clamp (by omega))
          have mv_24 : v_24 = T a2 := nv_24.trans (hT a2 (by omega))
          obtain ⟨hPc, hDc, hFc⟩ := s3_c (ws' := []) [] hP hD hS hA rfl (by decide)
          have hKc := hK.sub (tys' := []) [] rfl
          refine va_calli (va_runS (As := [.int v_24]) (rest := []) ⟨hx, hb, hml, hown, hts⟩ (d7_isDigit l dC dI n0 atx H.size v_24 ) (va_cwS 1 hts (gS (fun w h => wM_c h) wd_745 wd_743 wd_744 wd_117) rfl rfl rfl (by decide +kernel) ⟨Nat.le_of_ble_eq_true rfl, Nat.le_of_ble_eq_true rfl⟩) ⟨fun a U g mk q => by obtain ⟨q0, q1, q2, qG, qP, qK, qD⟩ := q; exact ⟨q0, q1, q2, GW.blind qG, qP, va_K.moved (u := U) (U := U.calling g mk a) (Vm.Alike.refl U.vm) qK, qD⟩, fun U hU hW => ⟨rfl, by rw [hU], Nat.le_trans hn0 hS.1, GW.go hW hU hG (fun q hq hA9 => hS.2.1 q hq (fun h => hA9 (hA0 q h))), by rw [hU]; exact hPc, va_K.moved hW.alike hKc, hDc.weaken (fun _ _ _ h => hA0 _ h)⟩⟩ rfl rfl hl.1 rfl (lv_room (Nat.le_of_ble_eq_true rfl)) dX7_next_100 ⟨Nat.le_of_ble_eq_true rfl, Nat.le_of_ble_eq_true rfl⟩) hS (fun q _ h => hFc q h) hFc (fun r_25 u t H1 locs ht hvm hw_26 hB hz1 hk1 hS => ?_)
          obtain ⟨hP1, hK1, hD1⟩ := hB
          rw [ht] at hP1
          obtain ⟨hP, hD⟩ := s3_j (L := [(rd, .inr (7, [.ref rd_tape, .int fd1, .int fa1, .int fp1, .ref bk, .ref rd_names, .ref rd_nameKind, .ref rd_nameNumber, .int (nI nm), .ref rd_knotNames, .int (nI en), .int (nI a2), .int tk1, .int (nI a2), .long 0])), (rd_tape, .inl (k_rd_tape, 600, .inl f_rd_tape))]) 2 hP hD [] [0, 1] hk1 hFc hP1 hD1 rfl rfl rfl (by decide) (by decide)
          generalize H1 = H at hP hS ⊢
          rcases hw_26 with ⟨rfl, s_27, s_28⟩ | ⟨rfl, s_29⟩
          · skip
            refine lv_if_eq (tgt := 113) hx hb dX7_next_103 (by decide) (fun c_30 => ?_) (fun c_30 => ?_)
            · exact absurd c_30 (by decide)
            have hDt : bDg (T a2) = true := by rw [← mv_24]; exact decide_eq_true ⟨s_27, s_28⟩
            refine lv_aload_n hx hb dX7_next_106 rfl (lv_at hl 0 rfl) ?_
            obtain ⟨hPc, hDc, hFc⟩ := s3_c (ws' := [(rd, .inr (7, [.ref rd_tape, .int fd1, .int fa1, .int fp1, .ref bk, .ref rd_names, .ref rd_nameKind, .ref rd_nameNumber, .int (nI nm), .ref rd_knotNames, .int (nI en), .int (nI a2), .int tk1, .int (nI a2), .long 0])), (rd_tape, .inl (k_rd_tape, 600, .inl f_rd_tape))]) [0, 1] hP hD hS hA rfl (by decide)
            have hKc := hK.sub (tys' := [(k_rd_tape, .int)]) [0] rfl
            refine va_callv (va_runV (As := []) (rest := []) ⟨hx, hb, hml, hown, hts⟩ (d7_readDigits l dC dI n0 atx H.size rd rd_tape fd1 fa1 fp1 bk rd_names rd_nameKind rd_nameNumber nm rd_knotNames en a2 tk1 a2 0 k_rd_tape f_rd_tape T (by first | with_reducible assumption | omega | exact vp_in_iff.mpr (by omega) | exact vp_in_nI (by omega) (by omega) | exact ⟨by omega, by omega⟩) (by first | with_reducible assumption | omega | exact vp_in_iff.mpr (by omega) | exact vp_in_nI (by omega) (by omega) | exact ⟨by omega, by omega⟩) (by first | with_reducible assumption | omega | exact vp_in_iff.mpr (by omega) | exact vp_in_nI (by omega) (by omega) | exact ⟨by omega, by omega⟩) rfl (by decide)) (cwV 0 hts (gV (fun w h => wM_c h) wd_749 wd_746 wd_748 wd_3 wd_117) rfl rfl rfl (by decide +kernel) ⟨Nat.le_of_ble_eq_true rfl, Nat.le_of_ble_eq_true rfl⟩) ⟨fun a U g mk q => by obtain ⟨q0, q1, q2, qG, qP, qK, qD⟩ := q; exact ⟨q0, q1, q2, GW.blind qG, qP, va_K.moved (u := U) (U := U.calling g mk a) (Vm.Alike.refl U.vm) qK, qD⟩, va_recv hKc hPc (ci := 7) (q0 := 0) rfl rfl, fun U hU hW => ⟨rfl, by rw [hU], Nat.le_trans hn0 hS.1, GW.go hW hU hG (fun q hq hA9 => hS.2.1 q hq (fun h => hA9 (hA0 q h))), by rw [hU]; exact hPc, va_K.moved hW.alike hKc, hDc.weaken (fun _ _ _ h => hA0 _ h)⟩⟩ rfl rfl hl.1 rfl (lv_room (Nat.le_of_ble_eq_true rfl)) dX7_next_107 ⟨Nat.le_of_ble_eq_true rfl, Nat.le_of_ble_eq_true rfl⟩) hS (fun q _ h => hFc q h) hFc (fun u t H1 locs ht hvm hw_32 hB hz1 hk1 hS => ?_)
            obtain ⟨at9_33, tk9_34, tv9_35, hf_36, hf_37, hf_38, hf_39, hf_40, hP1, hK1, hD1⟩ := hB
            rw [ht] at hP1
            obtain ⟨hP, hD⟩ := s3_j (L := [(rd, .inr (7, [.ref rd_tape, .int fd1, .int fa1, .int fp1, .ref bk, .ref rd_names, .ref rd_nameKind, .ref rd_nameNumber, .int (nI nm), .ref rd_knotNames, .int (nI en), .int (nI at9_33), .int tk9_34, .int (nI a2), .long tv9_35])), (rd_tape, .inl (k_rd_tape, 600, .inl f_rd_tape))]) 0 hP hD [0, 1] [] hk1 hFc hP1 hD1 rfl rfl rfl (by decide) (by decide)
            generalize H1 = H at hP hS ⊢
            refine lv_goto (tgt := 164) hx hb dX7_next_110 (by decide) ?_
            have hK9 := hK.sub (tys' := [(k_rd_tape, .int)]) [0] rfl
            exact W.vret hx hb hr (fun t ht hW => ⟨⟨(), rfl, trivial, at9_33, tk9_34, a2, tv9_35, (by omega), (xT_d htp (by omega) hLt hDt hf_38 hf_40 hf_39), by rw [ht]; exact hP.sub [0, 1] rfl, va_K.moved hW.alike hK9, hD.sub [0, 1] (by decide) rfl⟩, hS.F ht⟩) hS.2.2 dX7_next_164
          · skip
            refine lv_if_eq (tgt := 113) hx hb dX7_next_103 (by decide) (fun c_41 => ?_) (fun c_41 => ?_)
            · skip
              have hDt : bDg (T a2) = false := by rw [← mv_24]; exact decide_eq_false s_29
              refine lv_aload_n hx hb dX7_next_113 rfl (lv_at hl 0 rfl) ?_
              refine lv_aload_n hx hb dX7_next_114 rfl (lv_at hl 0 rfl) ?_
              refine va_get (D := (dC, dI)) (ci := 7) (v := .ref rd_tape) (C := RX7) (T := TX7) (N := 15) hx hb hts (fun w h => wM_c (iX7 w h)) hown hK hP 0 rfl rfl 0 (by decide) (hts _ (wM_c wd_333)) (fun _ h9 => h9) rfl dX7_next_115 ?_
              refine lv_aload_n hx hb dX7_next_118 rfl (lv_at hl 0 rfl) ?_
              refine va_get (D := (dC, dI)) (ci := 7) (v := .int (nI a2)) (C := RX7) (T := TX7) (N := 15) hx hb hts (fun w h => wM_c (iX7 w h)) hown hK hP 0 rfl rfl 11 (by decide) (hts _ (wM_c wd_347)) (fun _ h9 => h9) rfl dX7_next_119 ?_
              refine va_iald hx hb hK hP 1 0 rfl rfl (vp_in_nI (n := a2) (by omega) (by omega)) dX7_next_122 ?_
              refine lv_topi (fun v_42 ev_42 => ?_)
              have nv_42 : v_42 = f_rd_tape a2 := by rw [ev_42]; exact congrArg _ (nI_clamp (by omega))
              have mv_42 : v_42 = T a2 := nv_42.trans (hT a2 (by omega))
              refine lv_bipush (v := 59) hx hb dX7_next_123 (by decide) ?_
              refine lv_icmp_ne (tgt := 132) hx hb dX7_next_125 (by decide) (fun c_43 => ?_) (fun c_43 => ?_)
              · skip
                have g_44 : v_42.toInt ≠ (59 : Int) := i_ne c_43
                refine lv_aload_n hx hb dX7_next_132 rfl (lv_at hl 0 rfl) ?_
                refine va_get (D := (dC, dI)) (ci := 7) (v := .ref rd_tape) (C := RX7) (T := TX7) (N := 15) hx hb hts (fun w h => wM_c (iX7 w h)) hown hK hP 0 rfl rfl 0 (by decide) (hts _ (wM_c wd_333)) (fun _ h9 => h9) rfl dX7_next_133 ?_
                refine lv_aload_n hx hb dX7_next_136 rfl (lv_at hl 0 rfl) ?_
                refine va_get (D := (dC, dI)) (ci := 7) (v := .int (nI a2)) (C := RX7) (T := TX7) (N := 15) hx hb hts (fun w h => wM_c (iX7 w h)) hown hK hP 0 rfl rfl 11 (by decide) (hts _ (wM_c wd_347)) (fun _ h9 => h9) rfl dX7_next_137 ?_
                refine va_iald hx hb hK hP 1 0 rfl rfl (vp_in_nI (n := a2) (by omega) (by omega)) dX7_next_140 ?_
                refine lv_topi (fun v_45 ev_45 => ?_)
                have nv_45 : v_45 = f_rd_tape a2 := by rw [ev_45]; exact congrArg _ (nI_clamp (by omega))
                have mv_45 : v_45 = T a2 := nv_45.trans (hT a2 (by omega))
                refine lv_bipush (v := 45) hx hb dX7_next_141 (by decide) ?_
                refine lv_icmp_ne (tgt := 150) hx hb dX7_next_143 (by decide) (fun c_46 => ?_) (fun c_46 => ?_)
                · skip
                  have g_47 : v_45.toInt ≠ (45 : Int) := i_ne c_46
                  refine lv_iconst (v := 5) hx hb dX7_next_150 (by decide) ?_
                  refine va_put (D := (dC, dI)) (ci := 7) (v := .int 5) (ty := .int) (C := RX7) (T := TX7) (N := 15) hx hb hts (fun w h => wM_c (iX7 w h)) tyX7 tyX7_ok nmX7 hown hK hP hD hS 0 rfl rfl 12 (by decide) (hts _ (wM_c wd_348)) (fun _ h9 => h9) rfl (by decide +kernel) rfl rfl (Nat.le_of_ble_eq_true rfl) dX7_next_151 (fun H locs hP hD hS => ?_)
                  obtain ⟨hP, hD⟩ : s3_w (dC, dI) classes A [(rd, .inr (7, [.ref rd_tape, .int fd1, .int fa1, .int fp1, .ref bk, .ref rd_names, .ref rd_nameKind, .ref rd_nameNumber, .int (nI nm), .ref rd_knotNames, .int (nI en), .int (nI a2), .int 5, .int (nI a2), .long 0])), (rd_tape, .inl (k_rd_tape, 600, .inl f_rd_tape))] H := ⟨hP, hD⟩
                  refine lv_aload_n hx hb dX7_next_154 rfl (lv_at hl 0 rfl) ?_
                  refine lv_dup hx hb dX7_next_155 rfl ?_
                  refine va_get (D := (dC, dI)) (ci := 7) (v := .int (nI a2)) (C := RX7) (T := TX7) (N := 15) hx hb hts (fun w h => wM_c (iX7 w h)) hown hK hP 0 rfl rfl 11 (by decide) (hts _ (wM_c wd_347)) (fun _ h9 => h9) rfl dX7_next_156 ?_
                  refine lv_iconst (v := 1) hx hb dX7_next_159 (by decide) ?_
                  refine lv_iadd hx hb dX7_next_160 ?_
                  refine lv_topi (fun v_48 ev_48 => ?_)
                  obtain rfl : v_48 = nI (a2 + 1) := ev_48.trans (nI_add a2 1)
                  refine va_put (D := (dC, dI)) (ci := 7) (v := .int (nI (a2 + 1))) (ty := .int) (C := RX7) (T := TX7) (N := 15) hx hb hts (fun w h => wM_c (iX7 w h)) tyX7 tyX7_ok nmX7 hown hK hP hD hS 0 rfl rfl 11 (by decide) (hts _ (wM_c wd_347)) (fun _ h9 => h9) rfl (by decide +kernel) rfl rfl (Nat.le_of_ble_eq_true rfl) dX7_next_161 (fun H locs hP hD hS => ?_)
                  obtain ⟨hP, hD⟩ : s3_w (dC, dI) classes A [(rd, .inr (7, [.ref rd_tape, .int fd1, .int fa1, .int fp1, .ref bk, .ref rd_names, .ref rd_nameKind, .ref rd_nameNumber, .int (nI nm), .ref rd_knotNames, .int (nI en), .int (nI (a2 + 1)), .int 5, .int (nI a2), .long 0])), (rd_tape, .inl (k_rd_tape, 600, .inl f_rd_tape))] H := ⟨hP, hD⟩
                  have hK9 := hK.sub (tys' := [(k_rd_tape, .int)]) [0] rfl
                  exact W.vret hx hb hr (fun t ht hW => ⟨⟨(), rfl, trivial, (a2 + 1), 5, a2, 0, (by omega), (xT_5 htp (by omega) hLt hDt (fun q9 => c_43 (mv_42.trans q9)) (fun q9 => c_46 (mv_45.trans q9))), by rw [ht]; exact hP.sub [0, 1] rfl, va_K.moved hW.alike hK9, hD.sub [0, 1] (by decide) rfl⟩, hS.F ht⟩) hS.2.2 dX7_next_164
                · skip
                  have g_49 : v_45.toInt = (45 : Int) := i_eq c_46
                  refine lv_iconst (v := 4) hx hb dX7_next_146 (by decide) ?_
                  refine lv_goto (tgt := 151) hx hb dX7_next_147 (by decide) ?_
                  refine va_put (D := (dC, dI)) (ci := 7) (v := .int 4) (ty := .int) (C := RX7) (T := TX7) (N := 15) hx hb hts (fun w h => wM_c (iX7 w h)) tyX7 tyX7_ok nmX7 hown hK hP hD hS 0 rfl rfl 12 (by decide) (hts _ (wM_c wd_348)) (fun _ h9 => h9) rfl (by decide +kernel) rfl rfl (Nat.le_of_ble_eq_true rfl) dX7_next_151 (fun H locs hP hD hS => ?_)
                  obtain ⟨hP, hD⟩ : s3_w (dC, dI) classes A [(rd, .inr (7, [.ref rd_tape, .int fd1, .int fa1, .int fp1, .ref bk, .ref rd_names, .ref rd_nameKind, .ref rd_nameNumber, .int (nI nm), .ref rd_knotNames, .int (nI en), .int (nI a2), .int 4, .int (nI a2), .long 0])), (rd_tape, .inl (k_rd_tape, 600, .inl f_rd_tape))] H := ⟨hP, hD⟩
                  refine lv_aload_n hx hb dX7_next_154 rfl (lv_at hl 0 rfl) ?_
                  refine lv_dup hx hb dX7_next_155 rfl ?_
                  refine va_get (D := (dC, dI)) (ci := 7) (v := .int (nI a2)) (C := RX7) (T := TX7) (N := 15) hx hb hts (fun w h => wM_c (iX7 w h)) hown hK hP 0 rfl rfl 11 (by decide) (hts _ (wM_c wd_347)) (fun _ h9 => h9) rfl dX7_next_156 ?_
                  refine lv_iconst (v := 1) hx hb dX7_next_159 (by decide) ?_
                  refine lv_iadd hx hb dX7_next_160 ?_
                  refine lv_topi (fun v_50 ev_50 => ?_)
                  obtain rfl : v_50 = nI (a2 + 1) := ev_50.trans (nI_add a2 1)
                  refine va_put (D := (dC, dI)) (ci := 7) (v := .int (nI (a2 + 1))) (ty := .int) (C := RX7) (T := TX7) (N := 15) hx hb hts (fun w h => wM_c (iX7 w h)) tyX7 tyX7_ok nmX7 hown hK hP hD hS 0 rfl rfl 11 (by decide) (hts _ (wM_c wd_347)) (fun _ h9 => h9) rfl (by decide +kernel) rfl rfl (Nat.le_of_ble_eq_true rfl) dX7_next_161 (fun H locs hP hD hS => ?_)
                  obtain ⟨hP, hD⟩ : s3_w (dC, dI) classes A [(rd, .inr (7, [.ref rd_tape, .int fd1, .int fa1, .int fp1, .ref bk, .ref rd_names, .ref rd_nameKind, .ref rd_nameNumber, .int (nI nm), .ref rd_knotNames, .int (nI en), .int (nI (a2 + 1)), .int 4, .int (nI a2), .long 0])), (rd_tape, .inl (k_rd_tape, 600, .inl f_rd_tape))] H := ⟨hP, hD⟩
                  have hK9 := hK.sub (tys' := [(k_rd_tape, .int)]) [0] rfl
                  exact W.vret hx hb hr (fun t ht hW => ⟨⟨(), rfl, trivial, (a2 + 1), 4, a2, 0, (by omega), (xT_4 htp (by omega) hLt hDt (mv_45.symm.trans c_46)), by rw [ht]; exact hP.sub [0, 1] rfl, va_K.moved hW.alike hK9, hD.sub [0, 1] (by decide) rfl⟩, hS.F ht⟩) hS.2.2 dX7_next_164
              · skip
                have g_51 : v_42.toInt = (59 : Int) := i_eq c_43
                refine lv_iconst (v := 3) hx hb dX7_next_128 (by decide) ?_
                refine lv_goto (tgt := 151) hx hb dX7_next_129 (by decide) ?_
                refine va_put (D := (dC, dI)) (ci := 7) (v := .int 3) (ty := .int) (C := RX7) (T := TX7) (N := 15) hx hb hts (fun w h => wM_c (iX7 w h)) tyX7 tyX7_ok nmX7 hown hK hP hD hS 0 rfl rfl 12 (by decide) (hts _ (wM_c wd_348)) (fun _ h9 => h9) rfl (by decide +kernel) rfl rfl (Nat.le_of_ble_eq_true rfl) dX7_next_151 (fun H locs hP hD hS => ?_)
                obtain ⟨hP, hD⟩ : s3_w (dC, dI) classes A [(rd, .inr (7, [.ref rd_tape, .int fd1, .int fa1, .int fp1, .ref bk, .ref rd_names, .ref rd_nameKind, .ref rd_nameNumber, .int (nI nm), .ref rd_knotNames, .int (nI en), .int (nI a2), .int 3, .int (nI a2), .long 0])), (rd_tape, .inl (k_rd_tape, 600, .inl f_rd_tape))] H := ⟨hP, hD⟩
                refine lv_aload_n hx hb dX7_next_154 rfl (lv_at hl 0 rfl) ?_
                refine lv_dup hx hb dX7_next_155 rfl ?_
                refine va_get (D := (dC, dI)) (ci := 7) (v := .int (nI a2)) (C := RX7) (T := TX7) (N := 15) hx hb hts (fun w h => wM_c (iX7 w h)) hown hK hP 0 rfl rfl 11 (by decide) (hts _ (wM_c wd_347)) (fun _ h9 => h9) rfl dX7_next_156 ?_
                refine lv_iconst (v := 1) hx hb dX7_next_159 (by decide) ?_
                refine lv_iadd hx hb dX7_next_160 ?_
                refine lv_topi (fun v_52 ev_52 => ?_)
                obtain rfl : v_52 = nI (a2 + 1) := ev_52.trans (nI_add a2 1)
                refine va_put (D := (dC, dI)) (ci := 7) (v := .int (nI (a2 + 1))) (ty := .int) (C := RX7) (T := TX7) (N := 15) hx hb hts (fun w h => wM_c (iX7 w h)) tyX7 tyX7_ok nmX7 hown hK hP hD hS 0 rfl rfl 11 (by decide) (hts _ (wM_c wd_347)) (fun _ h9 => h9) rfl (by decide +kernel) rfl rfl (Nat.le_of_ble_eq_true rfl) dX7_next_161 (fun H locs hP hD hS => ?_)
                obtain ⟨hP, hD⟩ : s3_w (dC, dI) classes A [(rd, .inr (7, [.ref rd_tape, .int fd1, .int fa1, .int fp1, .ref bk, .ref rd_names, .ref rd_nameKind, .ref rd_nameNumber, .int (nI nm), .ref rd_knotNames, .int (nI en), .int (nI (a2 + 1)), .int 3, .int (nI a2), .long 0])), (rd_tape, .inl (k_rd_tape, 600, .inl f_rd_tape))] H := ⟨hP, hD⟩
                have hK9 := hK.sub (tys' := [(k_rd_tape, .int)]) [0] rfl
                exact W.vret hx hb hr (fun t ht hW => ⟨⟨(), rfl, trivial, (a2 + 1), 3, a2, 0, (by omega), (xT_3 htp (by omega) hLt hDt (mv_42.symm.trans c_43)), by rw [ht]; exact hP.sub [0, 1] rfl, va_K.moved hW.alike hK9, hD.sub [0, 1] (by decide) rfl⟩, hS.F ht⟩) hS.2.2 dX7_next_164
            · exact absurd c_41 (by decide)
        · exact absurd c_23 (by decide)
    · skip
      have g_53 := n_nlt (a := a2) (b := en) c_4 (by omega) (by omega)
      refine lv_aload_n hx hb dX7_next_61 rfl (lv_at hl 0 rfl) ?_
      refine lv_iconst (v := 0) hx hb dX7_next_62 (by decide) ?_
      refine va_put (D := (dC, dI)) (ci := 7) (v := .int 0) (ty := .int) (C := RX7) (T := TX7) (N := 15) hx hb hts (fun w h => wM_c (iX7 w h)) tyX7 tyX7_ok nmX7 hown hK hP hD hS 0 rfl rfl 12 (by decide) (hts _ (wM_c wd_348)) (fun _ h9 => h9) rfl (by decide +kernel) rfl rfl (Nat.le_of_ble_eq_true rfl) dX7_next_63 (fun H locs hP hD hS => ?_)
      obtain ⟨hP, hD⟩ : s3_w (dC, dI) classes A [(rd, .inr (7, [.ref rd_tape, .int fd1, .int fa1, .int fp1, .ref bk, .ref rd_names, .ref rd_nameKind, .ref rd_nameNumber, .int (nI nm), .ref rd_knotNames, .int (nI en), .int (nI a2), .int 0, .int (nI a2), .long 0])), (rd_tape, .inl (k_rd_tape, 600, .inl f_rd_tape))] H := ⟨hP, hD⟩
      refine lv_goto (tgt := 164) hx hb dX7_next_66 (by decide) ?_
      have hK9 := hK.sub (tys' := [(k_rd_tape, .int)]) [0] rfl
      exact W.vret hx hb hr (fun t ht hW => ⟨⟨(), rfl, trivial, a2, 0, a2, 0, (by omega), (xT_end htp (by omega)), by rw [ht]; exact hP.sub [0, 1] rfl, va_K.moved hW.alike hK9, hD.sub [0, 1] (by decide) rfl⟩, hS.F ht⟩) hS.2.2 dX7_next_164
  · skip
    have g_54 := n_nge (a := i) (b := en) c_2 (by omega) (by omega)
    refine lv_aload_n hx hb dX7_next_13 rfl (lv_at hl 0 rfl) ?_
    refine va_get (D := (dC, dI)) (ci := 7) (v := .ref rd_tape) (C := RX7) (T := TX7) (N := 15) hx hb hts (fun w h => wM_c (iX7 w h)) hown hK hP 0 rfl rfl 0 (by decide) (hts _ (wM_c wd_333)) (fun _ h9 => h9) rfl dX7_next_14 ?_
    refine lv_iload_n hx hb dX7_next_17 rfl (lv_at hl 1 rfl) ?_
    refine va_iald hx hb hK hP 1 0 rfl rfl (vp_in_nI (n := i) (by omega) (by omega)) dX7_next_18 ?_
    refine lv_topi (fun v_55 ev_55 => ?_)
    have nv_55 : v_55 = f_rd_tape i := by rw [ev_55]; exact congrArg _ (nI_clamp (by omega))
    have mv_55 : v_55 = T i := nv_55.trans (hT i (by omega))
    refine lv_bipush (v := 32) hx hb dX7_next_19 (by decide) ?_
    refine lv_icmp_ne (tgt := 37) hx hb dX7_next_21 (by decide) (fun c_56 => ?_) (fun c_56 => ?_)
    · skip
      have g_57 : v_55.toInt ≠ (32 : Int) := i_ne c_56
      have htp : tkP T en at1 = a2 := by rw [show a2 = i by omega]; exact rN_eq (by omega) (by omega) hb2 (fun _ => by rw [← mv_55]; exact decide_eq_false c_56)
      refine lv_aload_n hx hb dX7_next_37 rfl (lv_at hl 0 rfl) ?_
      refine lv_aload_n hx hb dX7_next_38 rfl (lv_at hl 0 rfl) ?_
      refine va_get (D := (dC, dI)) (ci := 7) (v := .int (nI a2)) (C := RX7) (T := TX7) (N := 15) hx hb hts (fun w h => wM_c (iX7 w h)) hown hK hP 0 rfl rfl 11 (by decide) (hts _ (wM_c wd_347)) (fun _ h9 => h9) rfl dX7_next_39 ?_
      refine va_put (D := (dC, dI)) (ci := 7) (v := .int (nI a2)) (ty := .int) (C := RX7) (T := TX7) (N := 15) hx hb hts (fun w h => wM_c (iX7 w h)) tyX7 tyX7_ok nmX7 hown hK hP hD hS 0 rfl rfl 13 (by decide) (hts _ (wM_c wd_349)) (fun _ h9 => h9) rfl (by decide +kernel) rfl rfl (Nat.le_of_ble_eq_true rfl) dX7_next_42 (fun H locs hP hD hS => ?_)
      obtain ⟨hP, hD⟩ : s3_w (dC, dI) classes A [(rd, .inr (7, [.ref rd_tape, .int fd1, .int fa1, .int fp1, .ref bk, .ref rd_names, .ref rd_nameKind, .ref rd_nameNumber, .int (nI nm), .ref rd_knotNames, .int (nI en), .int (nI a2), .int tk1, .int (nI a2), .long tv1])), (rd_tape, .inl (k_rd_tape, 600, .inl f_rd_tape))] H := ⟨hP, hD⟩
      refine lv_aload_n hx hb dX7_next_45 rfl (lv_at hl 0 rfl) ?_
      refine lv_lconst (v := 0) hx hb dX7_next_46 (by decide) ?_
      refine va_put (D := (dC, dI)) (ci := 7) (v := .long 0) (ty := .long) (C := RX7) (T := TX7) (N := 15) hx hb hts (fun w h => wM_c (iX7 w h)) tyX7 tyX7_ok nmX7 hown hK hP hD hS 0 rfl rfl 14 (by decide) (hts _ (wM_c wd_350)) (fun _ h9 => h9) rfl (by decide +kernel) rfl rfl (Nat.le_of_ble_eq_true rfl) dX7_next_47 (fun H locs hP hD hS => ?_)
      obtain ⟨hP, hD⟩ : s3_w (dC, dI) classes A [(rd, .inr (7, [.ref rd_tape, .int fd1, .int fa1, .int fp1, .ref bk, .ref rd_names, .ref rd_nameKind, .ref rd_nameNumber, .int (nI nm), .ref rd_knotNames, .int (nI en), .int (nI a2), .int tk1, .int (nI a2), .long 0])), (rd_tape, .inl (k_rd_tape, 600, .inl f_rd_tape))] H := ⟨hP, hD⟩
      refine lv_aload_n hx hb dX7_next_50 rfl (lv_at hl 0 rfl) ?_
      refine va_get (D := (dC, dI)) (ci := 7) (v := .int (nI a2)) (C := RX7) (T := TX7) (N := 15) hx hb hts (fun w h => wM_c (iX7 w h)) hown hK hP 0 rfl rfl 11 (by decide) (hts _ (wM_c wd_347)) (fun _ h9 => h9) rfl dX7_next_51 ?_
      refine lv_aload_n hx hb dX7_next_54 rfl (lv_at hl 0 rfl) ?_
      refine va_get (D := (dC, dI)) (ci := 7) (v := .int (nI en)) (C := RX7) (T := TX7) (N := 15) hx hb hts (fun w h => wM_c (iX7 w h)) hown hK hP 0 rfl rfl 10 (by decide) (hts _ (wM_c wd_346)) (fun _ h9 => h9) rfl dX7_next_55 ?_
      refine lv_icmp_lt (tgt := 69) hx hb dX7_next_58 (by decide) (fun c_58 => ?_) (fun c_58 => ?_)
      · skip
        have g_59 := n_lt (a := a2) (b := en) c_58 (by omega) (by omega)
        refine lv_aload_n hx hb dX7_next_69 rfl (lv_at hl 0 rfl) ?_
        refine va_get (D := (dC, dI)) (ci := 7) (v := .ref rd_tape) (C := RX7) (T := TX7) (N := 15) hx hb hts (fun w h => wM_c (iX7 w h)) hown hK hP 0 rfl rfl 0 (by decide) (hts _ (wM_c wd_333)) (fun _ h9 => h9) rfl dX7_next_70 ?_
        refine lv_aload_n hx hb dX7_next_73 rfl (lv_at hl 0 rfl) ?_
        refine va_get (D := (dC, dI)) (ci := 7) (v := .int (nI a2)) (C := RX7) (T := TX7) (N := 15) hx hb hts (fun w h => wM_c (iX7 w h)) hown hK hP 0 rfl rfl 11 (by decide) (hts _ (wM_c wd_347)) (fun _ h9 => h9) rfl dX7_next_74 ?_
        refine va_iald hx hb hK hP 1 0 rfl rfl (vp_in_nI (n := a2) (by omega) (by omega)) dX7_next_77 ?_
        refine lv_topi (fun v_60 ev_60 => ?_)
        have nv_60 : v_60 = f_rd_tape a2 := by rw [ev_60]; exact congrArg _ (nI_clamp (by omega))
        have mv_60 : v_60 = T a2 := nv_60.trans (hT a2 (by omega))
        obtain ⟨hPc, hDc, hFc⟩ := s3_c (ws' := []) [] hP hD hS hA rfl (by decide)
        have hKc := hK.sub (tys' := []) [] rfl
        refine va_calli (va_runS (As := [.int v_60]) (rest := []) ⟨hx, hb, hml, hown, hts⟩ (d7_isLetter l dC dI n0 atx H.size v_60 ) (va_cwS 1 hts (gS (fun w h => wM_c h) wd_738 wd_736 wd_737 wd_117) rfl rfl rfl (by decide +kernel) ⟨Nat.le_of_ble_eq_true rfl, Nat.le_of_ble_eq_true rfl⟩) ⟨fun a U g mk q => by obtain ⟨q0, q1, q2, qG, qP, qK, qD⟩ := q; exact ⟨q0, q1, q2, GW.blind qG, qP, va_K.moved (u := U) (U := U.calling g mk a) (Vm.Alike.refl U.vm) qK, qD⟩, fun U hU hW => ⟨rfl, by rw [hU], Nat.le_trans hn0 hS.1, GW.go hW hU hG (fun q hq hA9 => hS.2.1 q hq (fun h => hA9 (hA0 q h))), by rw [hU]; exact hPc, va_K.moved hW.alike hKc, hDc.weaken (fun _ _ _ h => hA0 _ h)⟩⟩ rfl rfl hl.1 rfl (lv_room (Nat.le_of_ble_eq_true rfl)) dX7_next_78 ⟨Nat.le_of_ble_eq_true rfl, Nat.le_of_ble_eq_true rfl⟩) hS (fun q _ h => hFc q h) hFc (fun r_61 u t H1 locs ht hvm hw_62 hB hz1 hk1 hS => ?_)
        obtain ⟨hP1, hK1, hD1⟩ := hB
        rw [ht] at hP1
        obtain ⟨hP, hD⟩ := s3_j (L := [(rd, .inr (7, [.ref rd_tape, .int fd1, .int fa1, .int fp1, .ref bk, .ref rd_names, .ref rd_nameKind, .ref rd_nameNumber, .int (nI nm), .ref rd_knotNames, .int (nI en), .int (nI a2), .int tk1, .int (nI a2), .long 0])), (rd_tape, .inl (k_rd_tape, 600, .inl f_rd_tape))]) 2 hP hD [] [0, 1] hk1 hFc hP1 hD1 rfl rfl rfl (by decide) (by decide)
        generalize H1 = H at hP hS ⊢
        rcases hw_62 with ⟨rfl, s_63, s_64⟩ | ⟨rfl, s_65⟩
        · skip
          refine lv_if_eq (tgt := 91) hx hb dX7_next_81 (by decide) (fun c_66 => ?_) (fun c_66 => ?_)
          · exact absurd c_66 (by decide)
          have hLt : bLt (T a2) = true := by rw [← mv_60]; exact decide_eq_true ⟨s_63, s_64⟩
          refine lv_aload_n hx hb dX7_next_84 rfl (lv_at hl 0 rfl) ?_
          obtain ⟨hPc, hDc, hFc⟩ := s3_c (ws' := [(rd, .inr (7, [.ref rd_tape, .int fd1, .int fa1, .int fp1, .ref bk, .ref rd_names, .ref rd_nameKind, .ref rd_nameNumber, .int (nI nm), .ref rd_knotNames, .int (nI en), .int (nI a2), .int tk1, .int (nI a2), .long 0])), (rd_tape, .inl (k_rd_tape, 600, .inl f_rd_tape))]) [0, 1] hP hD hS hA rfl (by decide)
          have hKc := hK.sub (tys' := [(k_rd_tape, .int)]) [0] rfl
          refine va_callv (va_runV (As := []) (rest := []) ⟨hx, hb, hml, hown, hts⟩ (d7_readWord l dC dI n0 atx H.size rd rd_tape fd1 fa1 fp1 bk rd_names rd_nameKind rd_nameNumber nm rd_knotNames en a2 tk1 a2 0 k_rd_tape f_rd_tape T (by first | with_reducible assumption | omega | exact vp_in_iff.mpr (by omega) | exact vp_in_nI (by omega) (by omega) | exact ⟨by omega, by omega⟩) (by first | with_reducible assumption | omega | exact vp_in_iff.mpr (by omega) | exact vp_in_nI (by omega) (by omega) | exact ⟨by omega, by omega⟩) (by first | with_reducible assumption | omega | exact vp_in_iff.mpr (by omega) | exact vp_in_nI (by omega) (by omega) | exact ⟨by omega, by omega⟩) rfl rfl) (cwV 0 hts (gV (fun w h => wM_c h) wd_742 wd_739 wd_741 wd_2 wd_117) rfl rfl rfl (by decide +kernel) ⟨Nat.le_of_ble_eq_true rfl, Nat.le_of_ble_eq_true rfl⟩) ⟨fun a U g mk q => by obtain ⟨q0, q1, q2, qG, qP, qK, qD⟩ := q; exact ⟨q0, q1, q2, GW.blind qG, qP, va_K.moved (u := U) (U := U.calling g mk a) (Vm.Alike.refl U.vm) qK, qD⟩, va_recv hKc hPc (ci := 7) (q0 := 0) rfl rfl, fun U hU hW => ⟨rfl, by rw [hU], Nat.le_trans hn0 hS.1, GW.go hW hU hG (fun q hq hA9 => hS.2.1 q hq (fun h => hA9 (hA0 q h))), by rw [hU]; exact hPc, va_K.moved hW.alike hKc, hDc.weaken (fun _ _ _ h => hA0 _ h)⟩⟩ rfl rfl hl.1 rfl (lv_room (Nat.le_of_ble_eq_true rfl)) dX7_next_85 ⟨Nat.le_of_ble_eq_true rfl, Nat.le_of_ble_eq_true rfl⟩) hS (fun q _ h => hFc q h) hFc (fun u t H1 locs ht hvm hw_68 hB hz1 hk1 hS => ?_)
          obtain ⟨at9_69, tk9_70, tv9_71, hf_72, hf_73, hf_74, hf_75, hf_76, hP1, hK1, hD1⟩ := hB
          rw [ht] at hP1
          obtain ⟨hP, hD⟩ := s3_j (L := [(rd, .inr (7, [.ref rd_tape, .int fd1, .int fa1, .int fp1, .ref bk, .ref rd_names, .ref rd_nameKind, .ref rd_nameNumber, .int (nI nm), .ref rd_knotNames, .int (nI en), .int (nI at9_69), .int tk9_70, .int (nI a2), .long tv9_71])), (rd_tape, .inl (k_rd_tape, 600, .inl f_rd_tape))]) 0 hP hD [0, 1] [] hk1 hFc hP1 hD1 rfl rfl rfl (by decide) (by decide)
          generalize H1 = H at hP hS ⊢
          refine lv_goto (tgt := 164) hx hb dX7_next_88 (by decide) ?_
          have hK9 := hK.sub (tys' := [(k_rd_tape, .int)]) [0] rfl
          exact W.vret hx hb hr (fun t ht hW => ⟨⟨(), rfl, trivial, at9_69, tk9_70, a2, tv9_71, (by omega), (xT_w htp (by omega) hLt hf_74 hf_76 hf_75), by rw [ht]; exact hP.sub [0, 1] rfl, va_K.moved hW.alike hK9, hD.sub [0, 1] (by decide) rfl⟩, hS.F ht⟩) hS.2.2 dX7_next_164
        · skip
          refine lv_if_eq (tgt := 91) hx hb dX7_next_81 (by decide) (fun c_77 => ?_) (fun c_77 => ?_)
          · skip
            have hLt : bLt (T a2) = false := by rw [← mv_60]; exact decide_eq_false s_65
            refine lv_aload_n hx hb dX7_next_91 rfl (lv_at hl 0 rfl) ?_
            refine va_get (D := (dC, dI)) (ci := 7) (v := .ref rd_tape) (C := RX7) (T := TX7) (N := 15) hx hb hts (fun w h => wM_c (iX7 w h)) hown hK hP 0 rfl rfl 0 (by decide) (hts _ (wM_c wd_333)) (fun _ h9 => h9) rfl dX7_next_92 ?_
            refine lv_aload_n hx hb dX7_next_95 rfl (lv_at hl 0 rfl) ?_
            refine va_get (D := (dC, dI)) (ci := 7) (v := .int (nI a2)) (C := RX7) (T := TX7) (N := 15) hx hb hts (fun w h => wM_c (iX7 w h)) hown hK hP 0 rfl rfl 11 (by decide) (hts _ (wM_c wd_347)) (fun _ h9 => h9) rfl dX7_next_96 ?_
            refine va_iald hx hb hK hP 1 0 rfl rfl (vp_in_nI (n := a2) (by omega) (by omega)) dX7_next_99 ?_
            refine lv_topi (fun v_78 ev_78 => ?_)
            have nv_78 : v_78 = f_rd_tape a2 := by rw [ev_78]; exact congrArg _ (nI_clamp (by omega))
            have mv_78 : v_78 = T a2 := nv_78.trans (hT a2 (by omega))
            obtain ⟨hPc, hDc, hFc⟩ := s3_c (ws' := []) [] hP hD hS hA rfl (by decide)
            have hKc := hK.sub (tys' := []) [] rfl
            refine va_calli (va_runS (As := [.int v_78]) (rest := []) ⟨hx, hb, hml, hown, hts⟩ (d7_isDigit l dC dI n0 atx H.size v_78 ) (va_cwS 1 hts (gS (fun w h => wM_c h) wd_745 wd_743 wd_744 wd_117) rfl rfl rfl (by decide +kernel) ⟨Nat.le_of_ble_eq_true rfl, Nat.le_of_ble_eq_true rfl⟩) ⟨fun a U g mk q => by obtain ⟨q0, q1, q2, qG, qP, qK, qD⟩ := q; exact ⟨q0, q1, q2, GW.blind qG, qP, va_K.moved (u := U) (U := U.calling g mk a) (Vm.Alike.refl U.vm) qK, qD⟩, fun U hU hW => ⟨rfl, by rw [hU], Nat.le_trans hn0 hS.1, GW.go hW hU hG (fun q hq hA9 => hS.2.1 q hq (fun h => hA9 (hA0 q h))), by rw [hU]; exact hPc, va_K.moved hW.alike hKc, hDc.weaken (fun _ _ _ h => hA0 _ h)⟩⟩ rfl rfl hl.1 rfl (lv_room (Nat.le_of_ble_eq_true rfl)) dX7_next_100 ⟨Nat.le_of_ble_eq_true rfl, Nat.le_of_ble_eq_true rfl⟩) hS (fun q _ h => hFc q h) hFc (fun r_79 u t H1 locs ht hvm hw_80 hB hz1 hk1 hS => ?_)
            obtain ⟨hP1, hK1, hD1⟩ := hB
            rw [ht] at hP1
            obtain ⟨hP, hD⟩ := s3_j (L := [(rd, .inr (7, [.ref rd_tape, .int fd1, .int fa1, .int fp1, .ref bk, .ref rd_names, .ref rd_nameKind, .ref rd_nameNumber, .int (nI nm), .ref rd_knotNames, .int (nI en), .int (nI a2), .int tk1, .int (nI a2), .long 0])), (rd_tape, .inl (k_rd_tape, 600, .inl f_rd_tape))]) 2 hP hD [] [0, 1] hk1 hFc hP1 hD1 rfl rfl rfl (by decide) (by decide)
            generalize H1 = H at hP hS ⊢
            rcases hw_80 with ⟨rfl, s_81, s_82⟩ | ⟨rfl, s_83⟩
            · skip
              refine lv_if_eq (tgt := 113) hx hb dX7_next_103 (by decide) (fun c_84 => ?_) (fun c_84 => ?_)
              · exact absurd c_84 (by decide)
              have hDt : bDg (T a2) = true := by rw [← mv_78]; exact decide_eq_true ⟨s_81, s_82⟩
              refine lv_aload_n hx hb dX7_next_106 rfl (lv_at hl 0 rfl) ?_
              obtain ⟨hPc, hDc, hFc⟩ := s3_c (ws' := [(rd, .inr (7, [.ref rd_tape, .int fd1, .int fa1, .int fp1, .ref bk, .ref rd_names, .ref rd_nameKind, .ref rd_nameNumber, .int (nI nm), .ref rd_knotNames, .int (nI en), .int (nI a2), .int tk1, .int (nI a2), .long 0])), (rd_tape, .inl (k_rd_tape, 600, .inl f_rd_tape))]) [0, 1] hP hD hS hA rfl (by decide)
              have hKc := hK.sub (tys' := [(k_rd_tape, .int)]) [0] rfl
              refine va_callv (va_runV (As := []) (rest := []) ⟨hx, hb, hml, hown, hts⟩ (d7_readDigits l dC dI n0 atx H.size rd rd_tape fd1 fa1 fp1 bk rd_names rd_nameKind rd_nameNumber nm rd_knotNames en a2 tk1 a2 0 k_rd_tape f_rd_tape T (by first | with_reducible assumption | omega | exact vp_in_iff.mpr (by omega) | exact vp_in_nI (by omega) (by omega) | exact ⟨by omega, by omega⟩) (by first | with_reducible assumption | omega | exact vp_in_iff.mpr (by omega) | exact vp_in_nI (by omega) (by omega) | exact ⟨by omega, by omega⟩) (by first | with_reducible assumption | omega | exact vp_in_iff.mpr (by omega) | exact vp_in_nI (by omega) (by omega) | exact ⟨by omega, by omega⟩) rfl (by decide)) (cwV 0 hts (gV (fun w h => wM_c h) wd_749 wd_746 wd_748 wd_3 wd_117) rfl rfl rfl (by decide +kernel) ⟨Nat.le_of_ble_eq_true rfl, Nat.le_of_ble_eq_true rfl⟩) ⟨fun a U g mk q => by obtain ⟨q0, q1, q2, qG, qP, qK, qD⟩ := q; exact ⟨q0, q1, q2, GW.blind qG, qP, va_K.moved (u := U) (U := U.calling g mk a) (Vm.Alike.refl U.vm) qK, qD⟩, va_recv hKc hPc (ci := 7) (q0 := 0) rfl rfl, fun U hU hW => ⟨rfl, by rw [hU], Nat.le_trans hn0 hS.1, GW.go hW hU hG (fun q hq hA9 => hS.2.1 q hq (fun h => hA9 (hA0 q h))), by rw [hU]; exact hPc, va_K.moved hW.alike hKc, hDc.weaken (fun _ _ _ h => hA0 _ h)⟩⟩ rfl rfl hl.1 rfl (lv_room (Nat.le_of_ble_eq_true rfl)) dX7_next_107 ⟨Nat.le_of_ble_eq_true rfl, Nat.le_of_ble_eq_true rfl⟩) hS (fun q _ h => hFc q h) hFc (fun u t H1 locs ht hvm hw_86 hB hz1 hk1 hS => ?_)
              obtain ⟨at9_87, tk9_88, tv9_89, hf_90, hf_91, hf_92, hf_93, hf_94, hP1, hK1, hD1⟩ := hB
              rw [ht] at hP1
              obtain ⟨hP, hD⟩ := s3_j (L := [(rd, .inr (7, [.ref rd_tape, .int fd1, .int fa1, .int fp1, .ref bk, .ref rd_names, .ref rd_nameKind, .ref rd_nameNumber, .int (nI nm), .ref rd_knotNames, .int (nI en), .int (nI at9_87), .int tk9_88, .int (nI a2), .long tv9_89])), (rd_tape, .inl (k_rd_tape, 600, .inl f_rd_tape))]) 0 hP hD [0, 1] [] hk1 hFc hP1 hD1 rfl rfl rfl (by decide) (by decide)
              generalize H1 = H at hP hS ⊢
              refine lv_goto (tgt := 164) hx hb dX7_next_110 (by decide) ?_
              have hK9 := hK.sub (tys' := [(k_rd_tape, .int)]) [0] rfl
              exact W.vret hx hb hr (fun t ht hW => ⟨⟨(), rfl, trivial, at9_87, tk9_88, a2, tv9_89, (by omega), (xT_d htp (by omega) hLt hDt hf_92 hf_94 hf_93), by rw [ht]; exact hP.sub [0, 1] rfl, va_K.moved hW.alike hK9, hD.sub [0, 1] (by decide) rfl⟩, hS.F ht⟩) hS.2.2 dX7_next_164
            · skip
              refine lv_if_eq (tgt := 113) hx hb dX7_next_103 (by decide) (fun c_95 => ?_) (fun c_95 => ?_)
              · skip
                have hDt : bDg (T a2) = false := by rw [← mv_78]; exact decide_eq_false s_83
                refine lv_aload_n hx hb dX7_next_113 rfl (lv_at hl 0 rfl) ?_
                refine lv_aload_n hx hb dX7_next_114 rfl (lv_at hl 0 rfl) ?_
                refine va_get (D := (dC, dI)) (ci := 7) (v := .ref rd_tape) (C := RX7) (T := TX7) (N := 15) hx hb hts (fun w h => wM_c (iX7 w h)) hown hK hP 0 rfl rfl 0 (by decide) (hts _ (wM_c wd_333)) (fun _ h9 => h9) rfl dX7_next_115 ?_
                refine lv_aload_n hx hb dX7_next_118 rfl (lv_at hl 0 rfl) ?_
                refine va_get (D := (dC, dI)) (ci := 7) (v := .int (nI a2)) (C := RX7) (T := TX7) (N := 15) hx hb hts (fun w h => wM_c (iX7 w h)) hown hK hP 0 rfl rfl 11 (by decide) (hts _ (wM_c wd_347)) (fun _ h9 => h9) rfl dX7_next_119 ?_
                refine va_iald hx hb hK hP 1 0 rfl rfl (vp_in_nI (n := a2) (by omega) (by omega)) dX7_next_122 ?_
                refine lv_topi (fun v_96 ev_96 => ?_)
                have nv_96 : v_96 = f_rd_tape a2 := by rw [ev_96]; exact congrArg _ (nI_clamp (by omega))
                have mv_96 : v_96 = T a2 := nv_96.trans (hT a2 (by omega))
                refine lv_bipush (v := 59) hx hb dX7_next_123 (by decide) ?_
                refine lv_icmp_ne (tgt := 132) hx hb dX7_next_125 (by decide) (fun c_97 => ?_) (fun c_97 => ?_)
                · skip
                  have g_98 : v_96.toInt ≠ (59 : Int) := i_ne c_97
                  refine lv_aload_n hx hb dX7_next_132 rfl (lv_at hl 0 rfl) ?_
                  refine va_get (D := (dC, dI)) (ci := 7) (v := .ref rd_tape) (C := RX7) (T := TX7) (N := 15) hx hb hts (fun w h => wM_c (iX7 w h)) hown hK hP 0 rfl rfl 0 (by decide) (hts _ (wM_c wd_333)) (fun _ h9 => h9) rfl dX7_next_133 ?_
                  refine lv_aload_n hx hb dX7_next_136 rfl (lv_at hl 0 rfl) ?_
                  refine va_get (D := (dC, dI)) (ci := 7) (v := .int (nI a2)) (C := RX7) (T := TX7) (N := 15) hx hb hts (fun w h => wM_c (iX7 w h)) hown hK hP 0 rfl rfl 11 (by decide) (hts _ (wM_c wd_347)) (fun _ h9 => h9) rfl dX7_next_137 ?_
                  refine va_iald hx hb hK hP 1 0 rfl rfl (vp_in_nI (n := a2) (by omega) (by omega)) dX7_next_140 ?_
                  refine lv_topi (fun v_99 ev_99 => ?_)
                  have nv_99 : v_99 = f_rd_tape a2 := by rw [ev_99]; exact congrArg _ (nI_clamp (by omega))
                  have mv_99 : v_99 = T a2 := nv_99.trans (hT a2 (by omega))
                  refine lv_bipush (v := 45) hx hb dX7_next_141 (by decide) ?_
                  refine lv_icmp_ne (tgt := 150) hx hb dX7_next_143 (by decide) (fun c_100 => ?_) (fun c_100 => ?_)
                  · skip
                    have g_101 : v_99.toInt ≠ (45 : Int) := i_ne c_100
                    refine lv_iconst (v := 5) hx hb dX7_next_150 (by decide) ?_
                    refine va_put (D := (dC, dI)) (ci := 7) (v := .int 5) (ty := .int) (C := RX7) (T := TX7) (N := 15) hx hb hts (fun w h => wM_c (iX7 w h)) tyX7 tyX7_ok nmX7 hown hK hP hD hS 0 rfl rfl 12 (by decide) (hts _ (wM_c wd_348)) (fun _ h9 => h9) rfl (by decide +kernel) rfl rfl (Nat.le_of_ble_eq_true rfl) dX7_next_151 (fun H locs hP hD hS => ?_)
                    obtain ⟨hP, hD⟩ : s3_w (dC, dI) classes A [(rd, .inr (7, [.ref rd_tape, .int fd1, .int fa1, .int fp1, .ref bk, .ref rd_names, .ref rd_nameKind, .ref rd_nameNumber, .int (nI nm), .ref rd_knotNames, .int (nI en), .int (nI a2), .int 5, .int (nI a2), .long 0])), (rd_tape, .inl (k_rd_tape, 600, .inl f_rd_tape))] H := ⟨hP, hD⟩
                    refine lv_aload_n hx hb dX7_next_154 rfl (lv_at hl 0 rfl) ?_
                    refine lv_dup hx hb dX7_next_155 rfl ?_
                    refine va_get (D := (dC, dI)) (ci := 7) (v := .int (nI a2)) (C := RX7) (T := TX7) (N := 15) hx hb hts (fun w h => wM_c (iX7 w h)) hown hK hP 0 rfl rfl 11 (by decide) (hts _ (wM_c wd_347)) (fun _ h9 => h9) rfl dX7_next_156 ?_
                    refine lv_iconst (v := 1) hx hb dX7_next_159 (by decide) ?_
                    refine lv_iadd hx hb dX7_next_160 ?_
                    refine lv_topi (fun v_102 ev_102 => ?_)
                    obtain rfl : v_102 = nI (a2 + 1) := ev_102.trans (nI_add a2 1)
                    refine va_put (D := (dC, dI)) (ci := 7) (v := .int (nI (a2 + 1))) (ty := .int) (C := RX7) (T := TX7) (N := 15) hx hb hts (fun w h => wM_c (iX7 w h)) tyX7 tyX7_ok nmX7 hown hK hP hD hS 0 rfl rfl 11 (by decide) (hts _ (wM_c wd_347)) (fun _ h9 => h9) rfl (by decide +kernel) rfl rfl (Nat.le_of_ble_eq_true rfl) dX7_next_161 (fun H locs hP hD hS => ?_)
                    obtain ⟨hP, hD⟩ : s3_w (dC, dI) classes A [(rd, .inr (7, [.ref rd_tape, .int fd1, .int fa1, .int fp1, .ref bk, .ref rd_names, .ref rd_nameKind, .ref rd_nameNumber, .int (nI nm), .ref rd_knotNames, .int (nI en), .int (nI (a2 + 1)), .int 5, .int (nI a2), .long 0])), (rd_tape, .inl (k_rd_tape, 600, .inl f_rd_tape))] H := ⟨hP, hD⟩
                    have hK9 := hK.sub (tys' := [(k_rd_tape, .int)]) [0] rfl
                    exact W.vret hx hb hr (fun t ht hW => ⟨⟨(), rfl, trivial, (a2 + 1), 5, a2, 0, (by omega), (xT_5 htp (by omega) hLt hDt (fun q9 => c_97 (mv_96.trans q9)) (fun q9 => c_100 (mv_99.trans q9))), by rw [ht]; exact hP.sub [0, 1] rfl, va_K.moved hW.alike hK9, hD.sub [0, 1] (by decide) rfl⟩, hS.F ht⟩) hS.2.2 dX7_next_164
                  · skip
                    have g_103 : v_99.toInt = (45 : Int) := i_eq c_100
                    refine lv_iconst (v := 4) hx hb dX7_next_146 (by decide) ?_
                    refine lv_goto (tgt := 151) hx hb dX7_next_147 (by decide) ?_
                    refine va_put (D := (dC, dI)) (ci := 7) (v := .int 4) (ty := .int) (C := RX7) (T := TX7) (N := 15) hx hb hts (fun w h => wM_c (iX7 w h)) tyX7 tyX7_ok nmX7 hown hK hP hD hS 0 rfl rfl 12 (by decide) (hts _ (wM_c wd_348)) (fun _ h9 => h9) rfl (by decide +kernel) rfl rfl (Nat.le_of_ble_eq_true rfl) dX7_next_151 (fun H locs hP hD hS => ?_)
                    obtain ⟨hP, hD⟩ : s3_w (dC, dI) classes A [(rd, .inr (7, [.ref rd_tape, .int fd1, .int fa1, .int fp1, .ref bk, .ref rd_names, .ref rd_nameKind, .ref rd_nameNumber, .int (nI nm), .ref rd_knotNames, .int (nI en), .int (nI a2), .int 4, .int (nI a2), .long 0])), (rd_tape, .inl (k_rd_tape, 600, .inl f_rd_tape))] H := ⟨hP, hD⟩
                    refine lv_aload_n hx hb dX7_next_154 rfl (lv_at hl 0 rfl) ?_
                    refine lv_dup hx hb dX7_next_155 rfl ?_
                    refine va_get (D := (dC, dI)) (ci := 7) (v := .int (nI a2)) (C := RX7) (T := TX7) (N := 15) hx hb hts (fun w h => wM_c (iX7 w h)) hown hK hP 0 rfl rfl 11 (by decide) (hts _ (wM_c wd_347)) (fun _ h9 => h9) rfl dX7_next_156 ?_
                    refine lv_iconst (v := 1) hx hb dX7_next_159 (by decide) ?_
                    refine lv_iadd hx hb dX7_next_160 ?_
                    refine lv_topi (fun v_104 ev_104 => ?_)
                    obtain rfl : v_104 = nI (a2 + 1) := ev_104.trans (nI_add a2 1)
                    refine va_put (D := (dC, dI)) (ci := 7) (v := .int (nI (a2 + 1))) (ty := .int) (C := RX7) (T := TX7) (N := 15) hx hb hts (fun w h => wM_c (iX7 w h)) tyX7 tyX7_ok nmX7 hown hK hP hD hS 0 rfl rfl 11 (by decide) (hts _ (wM_c wd_347)) (fun _ h9 => h9) rfl (by decide +kernel) rfl rfl (Nat.le_of_ble_eq_true rfl) dX7_next_161 (fun H locs hP hD hS => ?_)
                    obtain ⟨hP, hD⟩ : s3_w (dC, dI) classes A [(rd, .inr (7, [.ref rd_tape, .int fd1, .int fa1, .int fp1, .ref bk, .ref rd_names, .ref rd_nameKind, .ref rd_nameNumber, .int (nI nm), .ref rd_knotNames, .int (nI en), .int (nI (a2 + 1)), .int 4, .int (nI a2), .long 0])), (rd_tape, .inl (k_rd_tape, 600, .inl f_rd_tape))] H := ⟨hP, hD⟩
                    have hK9 := hK.sub (tys' := [(k_rd_tape, .int)]) [0] rfl
                    exact W.vret hx hb hr (fun t ht hW => ⟨⟨(), rfl, trivial, (a2 + 1), 4, a2, 0, (by omega), (xT_4 htp (by omega) hLt hDt (mv_99.symm.trans c_100)), by rw [ht]; exact hP.sub [0, 1] rfl, va_K.moved hW.alike hK9, hD.sub [0, 1] (by decide) rfl⟩, hS.F ht⟩) hS.2.2 dX7_next_164
                · skip
                  have g_105 : v_96.toInt = (59 : Int) := i_eq c_97
                  refine lv_iconst (v := 3) hx hb dX7_next_128 (by decide) ?_
                  refine lv_goto (tgt := 151) hx hb dX7_next_129 (by decide) ?_
                  refine va_put (D := (dC, dI)) (ci := 7) (v := .int 3) (ty := .int) (C := RX7) (T := TX7) (N := 15) hx hb hts (fun w h => wM_c (iX7 w h)) tyX7 tyX7_ok nmX7 hown hK hP hD hS 0 rfl rfl 12 (by decide) (hts _ (wM_c wd_348)) (fun _ h9 => h9) rfl (by decide +kernel) rfl rfl (Nat.le_of_ble_eq_true rfl) dX7_next_151 (fun H locs hP hD hS => ?_)
                  obtain ⟨hP, hD⟩ : s3_w (dC, dI) classes A [(rd, .inr (7, [.ref rd_tape, .int fd1, .int fa1, .int fp1, .ref bk, .ref rd_names, .ref rd_nameKind, .ref rd_nameNumber, .int (nI nm), .ref rd_knotNames, .int (nI en), .int (nI a2), .int 3, .int (nI a2), .long 0])), (rd_tape, .inl (k_rd_tape, 600, .inl f_rd_tape))] H := ⟨hP, hD⟩
                  refine lv_aload_n hx hb dX7_next_154 rfl (lv_at hl 0 rfl) ?_
                  refine lv_dup hx hb dX7_next_155 rfl ?_
                  refine va_get (D := (dC, dI)) (ci := 7) (v := .int (nI a2)) (C := RX7) (T := TX7) (N := 15) hx hb hts (fun w h => wM_c (iX7 w h)) hown hK hP 0 rfl rfl 11 (by decide) (hts _ (wM_c wd_347)) (fun _ h9 => h9) rfl dX7_next_156 ?_
                  refine lv_iconst (v := 1) hx hb dX7_next_159 (by decide) ?_
                  refine lv_iadd hx hb dX7_next_160 ?_
                  refine lv_topi (fun v_106 ev_106 => ?_)
                  obtain rfl : v_106 = nI (a2 + 1) := ev_106.trans (nI_add a2 1)
                  refine va_put (D := (dC, dI)) (ci := 7) (v := .int (nI (a2 + 1))) (ty := .int) (C := RX7) (T := TX7) (N := 15) hx hb hts (fun w h => wM_c (iX7 w h)) tyX7 tyX7_ok nmX7 hown hK hP hD hS 0 rfl rfl 11 (by decide) (hts _ (wM_c wd_347)) (fun _ h9 => h9) rfl (by decide +kernel) rfl rfl (Nat.le_of_ble_eq_true rfl) dX7_next_161 (fun H locs hP hD hS => ?_)
                  obtain ⟨hP, hD⟩ : s3_w (dC, dI) classes A [(rd, .inr (7, [.ref rd_tape, .int fd1, .int fa1, .int fp1, .ref bk, .ref rd_names, .ref rd_nameKind, .ref rd_nameNumber, .int (nI nm), .ref rd_knotNames, .int (nI en), .int (nI (a2 + 1)), .int 3, .int (nI a2), .long 0])), (rd_tape, .inl (k_rd_tape, 600, .inl f_rd_tape))] H := ⟨hP, hD⟩
                  have hK9 := hK.sub (tys' := [(k_rd_tape, .int)]) [0] rfl
                  exact W.vret hx hb hr (fun t ht hW => ⟨⟨(), rfl, trivial, (a2 + 1), 3, a2, 0, (by omega), (xT_3 htp (by omega) hLt hDt (mv_96.symm.trans c_97)), by rw [ht]; exact hP.sub [0, 1] rfl, va_K.moved hW.alike hK9, hD.sub [0, 1] (by decide) rfl⟩, hS.F ht⟩) hS.2.2 dX7_next_164
              · exact absurd c_95 (by decide)
          · exact absurd c_77 (by decide)
      · skip
        have g_107 := n_nlt (a := a2) (b := en) c_58 (by omega) (by omega)
        refine lv_aload_n hx hb dX7_next_61 rfl (lv_at hl 0 rfl) ?_
        refine lv_iconst (v := 0) hx hb dX7_next_62 (by decide) ?_
        refine va_put (D := (dC, dI)) (ci := 7) (v := .int 0) (ty := .int) (C := RX7) (T := TX7) (N := 15) hx hb hts (fun w h => wM_c (iX7 w h)) tyX7 tyX7_ok nmX7 hown hK hP hD hS 0 rfl rfl 12 (by decide) (hts _ (wM_c wd_348)) (fun _ h9 => h9) rfl (by decide +kernel) rfl rfl (Nat.le_of_ble_eq_true rfl) dX7_next_63 (fun H locs hP hD hS => ?_)
        obtain ⟨hP, hD⟩ : s3_w (dC, dI) classes A [(rd, .inr (7, [.ref rd_tape, .int fd1, .int fa1, .int fp1, .ref bk, .ref rd_names, .ref rd_nameKind, .ref rd_nameNumber, .int (nI nm), .ref rd_knotNames, .int (nI en), .int (nI a2), .int 0, .int (nI a2), .long 0])), (rd_tape, .inl (k_rd_tape, 600, .inl f_rd_tape))] H := ⟨hP, hD⟩
        refine lv_goto (tgt := 164) hx hb dX7_next_66 (by decide) ?_
        have hK9 := hK.sub (tys' := [(k_rd_tape, .int)]) [0] rfl
        exact W.vret hx hb hr (fun t ht hW => ⟨⟨(), rfl, trivial, a2, 0, a2, 0, (by omega), (xT_end htp (by omega)), by rw [ht]; exact hP.sub [0, 1] rfl, va_K.moved hW.alike hK9, hD.sub [0, 1] (by decide) rfl⟩, hS.F ht⟩) hS.2.2 dX7_next_164
    · skip
      have g_108 : v_55.toInt = (32 : Int) := i_eq c_56
      refine lv_aload_n hx hb dX7_next_24 rfl (lv_at hl 0 rfl) ?_
      refine lv_iload_n hx hb dX7_next_25 rfl (lv_at hl 1 rfl) ?_
      refine lv_iconst (v := 1) hx hb dX7_next_26 (by decide) ?_
      refine lv_iadd hx hb dX7_next_27 ?_
      refine lv_topi (fun v_109 ev_109 => ?_)
      obtain rfl : v_109 = nI (i + 1) := ev_109.trans (nI_add i 1)
      refine va_put (D := (dC, dI)) (ci := 7) (v := .int (nI (i + 1))) (ty := .int) (C := RX7) (T := TX7) (N := 15) hx hb hts (fun w h => wM_c (iX7 w h)) tyX7 tyX7_ok nmX7 hown hK hP hD hS 0 rfl rfl 11 (by decide) (hts _ (wM_c wd_347)) (fun _ h9 => h9) rfl (by decide +kernel) rfl rfl (Nat.le_of_ble_eq_true rfl) dX7_next_28 (fun H locs hP hD hS => ?_)
      obtain ⟨hP, hD⟩ : s3_w (dC, dI) classes A [(rd, .inr (7, [.ref rd_tape, .int fd1, .int fa1, .int fp1, .ref bk, .ref rd_names, .ref rd_nameKind, .ref rd_nameNumber, .int (nI nm), .ref rd_knotNames, .int (nI en), .int (nI (i + 1)), .int tk1, .int ts0, .long tv1])), (rd_tape, .inl (k_rd_tape, 600, .inl f_rd_tape))] H := ⟨hP, hD⟩
      refine lv_iinc (v := (nI (i + 1))) (lv' := [(1, .int (nI (i + 1))), (0, .ref rd)]) hx hb dX7_next_31 hl (k := 1) rfl (nI_add _ 1) (by decide) rfl (fun ls hl => ?_)
      refine lv_goto (tgt := 5) hx hb dX7_next_34 (by decide) ?_
      exact ih_1 (i + 1) (i + 1) _ _ _ ⟨(by first | with_reducible assumption | omega | exact vp_in_iff.mpr (by omega) | exact vp_in_nI (by omega) (by omega) | exact ⟨by omega, by omega⟩), (xrun_s hb2 mv_55 (decide_eq_true c_56)), hP.sub [0, 1] rfl, hD.sub [0, 1] (by decide) rfl, hS, lv_sub hl [1, 0] rfl⟩ (by omega)
theorem ltx_0 : ∀ j, j < (txb 0).length → 97 ≤ ((txb 0).getD j 0).toInt ∧ ((txb 0).getD j 0).toInt ≤ 122 := by decide +kernel
theorem ltx_1 : ∀ j, j < (txb 1).length → 97 ≤ ((txb 1).getD j 0).toInt ∧ ((txb 1).getD j 0).toInt ≤ 122 := by decide +kernel
theorem ltx_2 : ∀ j, j < (txb 2).length → 97 ≤ ((txb 2).getD j 0).toInt ∧ ((txb 2).getD j 0).toInt ≤ 122 := by decide +kernel
theorem ltx_3 : ∀ j, j < (txb 3).length → 97 ≤ ((txb 3).getD j 0).toInt ∧ ((txb 3).getD j 0).toInt ≤ 122 := by decide +kernel
theorem ltx_4 : ∀ j, j < (txb 4).length → 97 ≤ ((txb 4).getD j 0).toInt ∧ ((txb 4).getD j 0).toInt ≤ 122 := by decide +kernel
theorem ltx_5 : ∀ j, j < (txb 5).length → 97 ≤ ((txb 5).getD j 0).toInt ∧ ((txb 5).getD j 0).toInt ≤ 122 := by decide +kernel
theorem ltx_6 : ∀ j, j < (txb 6).length → 97 ≤ ((txb 6).getD j 0).toInt ∧ ((txb 6).getD j 0).toInt ≤ 122 := by decide +kernel
theorem ltx_7 : ∀ j, j < (txb 7).length → 97 ≤ ((txb 7).getD j 0).toInt ∧ ((txb 7).getD j 0).toInt ≤ 122 := by decide +kernel
theorem ltx_8 : ∀ j, j < (txb 8).length → 97 ≤ ((txb 8).getD j 0).toInt ∧ ((txb 8).getD j 0).toInt ≤ 122 := by decide +kernel
theorem ltx_9 : ∀ j, j < (txb 9).length → 97 ≤ ((txb 9).getD j 0).toInt ∧ ((txb 9).getD j 0).toInt ≤ 122 := by decide +kernel
theorem ltx_10 : ∀ j, j < (txb 10).length → 97 ≤ ((txb 10).getD j 0).toInt ∧ ((txb 10).getD j 0).toInt ≤ 122 := by decide +kernel
theorem ltx_11 : ∀ j, j < (txb 11).length → 97 ≤ ((txb 11).getD j 0).toInt ∧ ((txb 11).getD j 0).toInt ≤ 122 := by decide +kernel
theorem ltx_12 : ∀ j, j < (txb 12).length → 97 ≤ ((txb 12).getD j 0).toInt ∧ ((txb 12).getD j 0).toInt ≤ 122 := by decide +kernel
theorem ltx_13 : ∀ j, j < (txb 13).length → 97 ≤ ((txb 13).getD j 0).toInt ∧ ((txb 13).getD j 0).toInt ≤ 122 := by decide +kernel
theorem ltx_14 : ∀ j, j < (txb 14).length → 97 ≤ ((txb 14).getD j 0).toInt ∧ ((txb 14).getD j 0).toInt ≤ 122 := by decide +kernel
theorem ltx_15 : ∀ j, j < (txb 15).length → 97 ≤ ((txb 15).getD j 0).toInt ∧ ((txb 15).getD j 0).toInt ≤ 122 := by decide +kernel
theorem ltx_16 : ∀ j, j < (txb 16).length → 97 ≤ ((txb 16).getD j 0).toInt ∧ ((txb 16).getD j 0).toInt ≤ 122 := by decide +kernel
set_option maxHeartbeats 4000000 in
set_option maxRecDepth 100000 in
theorem d7_codeOf (l : Launch) (dC : Nat → ClassId) (dI : Nat → Nat → Nat) (n0 : Nat) (atx : Nat → Nat × Nat) (sz : Nat) (ti : Nat) (hti : ti < 34) (hlt : ∀ j, j < (txb ti).length → 97 ≤ ((txb ti).getD j 0).toInt ∧ ((txb ti).getD j 0).toInt ≤ 122) : Met l yX7_codeOf (wM yX7_codeOf cX7_codeOf 4 (some .long)) ({ frames := 4, cells := 0, slots := 0, locals := 85 }) (va_Pc [.ref (atx ti).1] (fun U => U.heap.size = sz ∧ n0 ≤ sz ∧ GW n0 atx U ∧ va_P (dC, dI) classes [] U.heap ∧ va_K (dC, dI) classes [] U ∧ va_D (fun q => n0 ≤ q) [])) (va_Ql (fun (r : Int64) (_ : Unit) => r = wordN (txb ti) (txb ti).length) (fun (_ : Unit) (t : State) => va_P (dC, dI) classes [] t.heap ∧ va_K (dC, dI) classes [] t ∧ va_D (va_A [] sz) []) (va_A [] sz)) 0 0 (va_A [] sz) := by
  refine Met.ofW (cc := cX7_codeOf) (maxL := 4) (ret := (some .long)) (by decide) rfl ?_
  intro p e s m args below meth c s₁ B hml hv
  obtain ⟨rfl, hsz, hn0, hG, hP, hK, hD0⟩ := hv
  have hx := B.exec
  have hb := B.bytes
  have hr := B.returns
  have hts := atoms_spec (ws := wM yX7_codeOf cX7_codeOf 4 (some .long)) B.pre
  have hown : s.vm.findClass RX7 = some m.cls := findClass_of_methodNamed B.named
  have hlocks := B.notSynchronized
  subst hsz
  have hD := hD0.self (sz := s.heap.size)
  have hA0 := vA_n0 hD0 hn0
  generalize hAe : va_A [] s.heap.size = A at hD hA0 ⊢
  have hA : ∀ q : Nat, s.heap.size ≤ q → A q := fun q h => by rw [← hAe]; exact Or.inr h
  have hS : va_S A s.heap s.heap [] := va_S.rf
  have hl := lv_entry ([.ref (atx ti).1]) (n := 4) (Nat.le_of_ble_eq_true rfl)
  rw [lg_entry_eq]
  generalize (lg_sl ([.ref (atx ti).1]) ++ List.replicate (4 - (lg_sl ([.ref (atx ti).1])).length) Slot.unset).toArray = ls at hl ⊢
  have hl : lv_has ls 4 [(0, .ref (atx ti).1)] := hl
  have hL := tx_len ti hti
  refine lv_lconst (v := 0) hx hb dX7_codeOf_0 (by decide) ?_
  refine lv_lstore_n (lv' := [(1, .long 0), (0, .ref (atx ti).1)]) hx hb dX7_codeOf_1 rfl hl (by decide) rfl (fun ls hl => ?_)
  refine lv_iconst (v := 0) hx hb dX7_codeOf_2 (by decide) ?_
  refine lv_istore_n (lv' := [(3, .int 0), (1, .long 0), (0, .ref (atx ti).1)]) hx hb dX7_codeOf_3 rfl hl (by decide) rfl (fun ls hl => ?_)
  refine W_lp2 (I := fun (v1 : Int64) (i : Nat) H locs ls => (i ≤ (txb ti).length) ∧ (v1 = wordN (txb ti) i) ∧ va_P (dC, dI) classes [] H ∧ va_D A [] ∧ va_S A s.heap H locs ∧ lv_has ls 4 [(0, .ref (atx ti).1), (1, .long v1), (3, .int (nI i))]) (μ := fun (v1 : Int64) (i : Nat) => (txb ti).length - i) ?_ 0 0 _ _ _ ⟨(by first | with_reducible assumption | omega | exact vp_in_iff.mpr (by omega) | exact vp_in_nI (by omega) (by omega) | exact ⟨by omega, by omega⟩), rfl, hP, hD, hS, lv_sub hl [2, 1, 0] rfl⟩
  intro v1 i H locs ls hI ih_1
  obtain ⟨hi, hv, hP, hD, hS, hl⟩ := hI
  refine lv_iload_n hx hb dX7_codeOf_4 rfl (lv_at hl 2 rfl) ?_
  refine lv_aload_n hx hb dX7_codeOf_5 rfl (lv_at hl 0 rfl) ?_
  obtain ⟨hPc, hDc, hFc⟩ := s3_c (ws' := []) [] hP hD hS hA rfl (by decide)
  have hKc := hK.sub (tys' := []) [] rfl
  refine va_calli (va_runV (As := []) (rest := [.int (nI i)]) ⟨hx, hb, hml, hown, hts⟩ (j_length l dC dI n0 atx H.size ti (by first | with_reducible assumption | omega | exact vp_in_iff.mpr (by omega) | exact vp_in_nI (by omega) (by omega) | exact ⟨by omega, by omega⟩)) (cwV 0 hts (gV (fun w h => wM_c h) wd_767 wd_764 wd_765 wd_766 wd_132) rfl rfl rfl (by decide +kernel) ⟨Nat.le_of_ble_eq_true rfl, Nat.le_of_ble_eq_true rfl⟩) ⟨fun a U g mk q => by obtain ⟨q0, q1, q2, qG, qP, qK, qD⟩ := q; exact ⟨q0, q1, q2, GW.blind qG, qP, va_K.moved (u := U) (U := U.calling g mk a) (Vm.Alike.refl U.vm) qK, qD⟩, (by obtain ⟨cell, h1, h2, h3, -⟩ := ((hG.txi (by first | with_reducible assumption | omega | exact vp_in_iff.mpr (by omega) | exact vp_in_nI (by omega) (by omega) | exact ⟨by omega, by omega⟩)).1.narrow hA0).kept hS.2.1; exact ⟨cell, h1, h2, h3⟩), fun U hU hW => ⟨rfl, by rw [hU], Nat.le_trans hn0 hS.1, GW.go hW hU hG (fun q hq hA9 => hS.2.1 q hq (fun h => hA9 (hA0 q h))), by rw [hU]; exact hPc, va_K.moved hW.alike hKc, hDc.weaken (fun _ _ _ h => hA0 _ h)⟩⟩ rfl rfl hl.1 rfl (lv_room (Nat.le_of_ble_eq_true rfl)) dX7_codeOf_6 ⟨Nat.le_of_ble_eq_true rfl, Nat.le_of_ble_eq_true rfl⟩) hS (fun q _ h => hFc q h) hFc (fun r_2 u t H1 locs ht hvm hw_3 hB hz1 hk1 hS => ?_)
  obtain ⟨hP1, hK1, hD1⟩ := hB
  rw [ht] at hP1
  obtain ⟨hP, hD⟩ := s3_j (L := []) 0 hP hD [] [] hk1 hFc hP1 hD1 rfl rfl rfl (by decide) (by decide)
  generalize H1 = H at hP hS ⊢
  subst hw_3
  refine lv_icmp_ge (tgt := 34) hx hb dX7_codeOf_9 (by decide) (fun c_4 => ?_) (fun c_4 => ?_)
  · skip
    have g_5 := n_ge (a := i) (b := (txb ti).length) c_4 (by omega) (by omega)
    refine lv_lload_n hx hb dX7_codeOf_34 rfl (lv_at hl 1 rfl) ?_
    have hK9 := hK.sub (tys' := []) [] rfl
    exact W.lret (v := v1) hx hb hr (fun t ht hW => ⟨⟨v1, (), rfl, (by have h9 : i = (txb ti).length := (by omega); rw [hv, h9]), by rw [ht]; exact hP.sub [] rfl, va_K.moved hW.alike hK9, hD.sub [] (by decide) rfl⟩, hS.F ht⟩) hS.2.2 dX7_codeOf_35
  · skip
    have g_6 := n_nge (a := i) (b := (txb ti).length) c_4 (by omega) (by omega)
    refine lv_lload_n hx hb dX7_codeOf_12 rfl (lv_at hl 1 rfl) ?_
    refine lv_iconst (v := 5) hx hb dX7_codeOf_13 (by decide) ?_
    refine lv_lshl hx hb dX7_codeOf_14 rfl ?_
    refine lv_topl (fun v_7 ev_7 => ?_)
    refine lv_aload_n hx hb dX7_codeOf_15 rfl (lv_at hl 0 rfl) ?_
    refine lv_iload_n hx hb dX7_codeOf_16 rfl (lv_at hl 2 rfl) ?_
    obtain ⟨hPc, hDc, hFc⟩ := s3_c (ws' := []) [] hP hD hS hA rfl (by decide)
    have hKc := hK.sub (tys' := []) [] rfl
    refine va_calli (va_runV (As := [.int (nI i)]) (rest := [.long v_7]) ⟨hx, hb, hml, hown, hts⟩ (j_charAt l dC dI n0 atx H.size ti i (by first | with_reducible assumption | omega | exact vp_in_iff.mpr (by omega) | exact vp_in_nI (by omega) (by omega) | exact ⟨by omega, by omega⟩) (by first | with_reducible assumption | omega | exact vp_in_iff.mpr (by omega) | exact vp_in_nI (by omega) (by omega) | exact ⟨by omega, by omega⟩)) (cwV 1 hts (gV (fun w h => wM_c h) wd_777 wd_774 wd_775 wd_776 wd_132) rfl rfl rfl (by decide +kernel) ⟨Nat.le_of_ble_eq_true rfl, Nat.le_of_ble_eq_true rfl⟩) ⟨fun a U g mk q => by obtain ⟨q0, q1, q2, qG, qP, qK, qD⟩ := q; exact ⟨q0, q1, q2, GW.blind qG, qP, va_K.moved (u := U) (U := U.calling g mk a) (Vm.Alike.refl U.vm) qK, qD⟩, (by obtain ⟨cell, h1, h2, h3, -⟩ := ((hG.txi (by first | with_reducible assumption | omega | exact vp_in_iff.mpr (by omega) | exact vp_in_nI (by omega) (by omega) | exact ⟨by omega, by omega⟩)).1.narrow hA0).kept hS.2.1; exact ⟨cell, h1, h2, h3⟩), fun U hU hW => ⟨rfl, by rw [hU], Nat.le_trans hn0 hS.1, GW.go hW hU hG (fun q hq hA9 => hS.2.1 q hq (fun h => hA9 (hA0 q h))), by rw [hU]; exact hPc, va_K.moved hW.alike hKc, hDc.weaken (fun _ _ _ h => hA0 _ h)⟩⟩ rfl rfl hl.1 rfl (lv_room (Nat.le_of_ble_eq_true rfl)) dX7_codeOf_17 ⟨Nat.le_of_ble_eq_true rfl, Nat.le_of_ble_eq_true rfl⟩) hS (fun q _ h => hFc q h) hFc (fun r_8 u t H1 locs ht hvm hw_9 hB hz1 hk1 hS => ?_)
    obtain ⟨hP1, hK1, hD1⟩ := hB
    rw [ht] at hP1
    obtain ⟨hP, hD⟩ := s3_j (L := []) 0 hP hD [] [] hk1 hFc hP1 hD1 rfl rfl rfl (by decide) (by decide)
    generalize H1 = H at hP hS ⊢
    refine lv_bipush (v := 97) hx hb dX7_codeOf_20 (by decide) ?_
    refine lv_isub hx hb dX7_codeOf_22 ?_
    refine lv_topi (fun v_10 ev_10 => ?_)
    refine lv_iconst (v := 1) hx hb dX7_codeOf_23 (by decide) ?_
    refine lv_iadd hx hb dX7_codeOf_24 ?_
    refine lv_topi (fun v_11 ev_11 => ?_)
    refine lv_i2l (v := v_11.toInt64) hx hb dX7_codeOf_25 rfl ?_
    refine lv_topl (fun v_12 ev_12 => ?_)
    refine lv_lor hx hb dX7_codeOf_26 ?_
    refine lv_topl (fun v_13 ev_13 => ?_)
    refine lv_lstore_n (lv' := [(1, .long v_13), (0, .ref (atx ti).1), (3, .int (nI i))]) hx hb dX7_codeOf_27 rfl hl (by decide) rfl (fun ls hl => ?_)
    refine lv_iinc (v := (nI (i + 1))) (lv' := [(3, .int (nI (i + 1))), (1, .long v_13), (0, .ref (atx ti).1)]) hx hb dX7_codeOf_28 hl (k := 2) rfl (nI_add _ 1) (by decide) rfl (fun ls hl => ?_)
    refine lv_goto (tgt := 4) hx hb dX7_codeOf_31 (by decide) ?_
    exact ih_1 v_13 (i + 1) _ _ _ ⟨(by first | with_reducible assumption | omega | exact vp_in_iff.mpr (by omega) | exact vp_in_nI (by omega) (by omega) | exact ⟨by omega, by omega⟩), (xcd_s hv hw_9 (by rw [hw_9]; exact hlt i (by omega)) (by rw [ev_13, ev_7, ev_12, ev_11, ev_10])), hP.sub [] rfl, hD.sub [] (by decide) rfl, hS, lv_sub hl [2, 1, 0] rfl⟩ (by omega)
set_option maxHeartbeats 4000000 in
set_option maxRecDepth 100000 in
theorem d7_isWord (l : Launch) (dC : Nat → ClassId) (dI : Nat → Nat → Nat) (n0 : Nat) (atx : Nat → Nat × Nat) (sz : Nat) (rd : Nat) (rd_tape : Nat) (fd1 : Int32) (fa1 : Int32) (fp1 : Int32) (bk : Nat) (rd_names : Nat) (rd_nameKind : Nat) (rd_nameNumber : Nat) (nm : Nat) (rd_knotNames : Nat) (en : Nat) (at1 : Nat) (tk1 : Int32) (ts1 : Nat) (tv1 : Int64) (ti : Nat) (hti : ti < 34) (hlt : ∀ j, j < (txb ti).length → 97 ≤ ((txb ti).getD j 0).toInt ∧ ((txb ti).getD j 0).toInt ≤ 122) : Met l yX7_isWord (wM yX7_isWord cX7_isWord 2 (some .boolean)) ({ frames := 5, cells := 0, slots := 0, locals := 108 }) (va_Pc [.ref rd, .ref (atx ti).1] (fun U => U.heap.size = sz ∧ n0 ≤ sz ∧ GW n0 atx U ∧ va_P (dC, dI) classes [(rd, .inr (7, [.ref rd_tape, .int fd1, .int fa1, .int fp1, .ref bk, .ref rd_names, .ref rd_nameKind, .ref rd_nameNumber, .int (nI nm), .ref rd_knotNames, .int (nI en), .int (nI at1), .int tk1, .int (nI ts1), .long tv1]))] U.heap ∧ va_K (dC, dI) classes [] U ∧ va_D (fun q => n0 ≤ q) [(rd, .inr (7, [.ref rd_tape, .int fd1, .int fa1, .int fp1, .ref bk, .ref rd_names, .ref rd_nameKind, .ref rd_nameNumber, .int (nI nm), .ref rd_knotNames, .int (nI en), .int (nI at1), .int tk1, .int (nI ts1), .long tv1]))])) (va_Qi (fun (r : Int32) (_ : Unit) => (r = 1 ∧ tk1 = 1 ∧ tv1 = wordN (txb ti) (txb ti).length) ∨ (r = 0 ∧ ¬ (tk1 = 1 ∧ tv1 = wordN (txb ti) (txb ti).length))) (fun (_ : Unit) (t : State) => va_P (dC, dI) classes [(rd, .inr (7, [.ref rd_tape, .int fd1, .int fa1, .int fp1, .ref bk, .ref rd_names, .ref rd_nameKind, .ref rd_nameNumber, .int (nI nm), .ref rd_knotNames, .int (nI en), .int (nI at1), .int tk1, .int (nI ts1), .long tv1]))] t.heap ∧ va_K (dC, dI) classes [] t ∧ va_D (va_A [(rd, .inr (7, [.ref rd_tape, .int fd1, .int fa1, .int fp1, .ref bk, .ref rd_names, .ref rd_nameKind, .ref rd_nameNumber, .int (nI nm), .ref rd_knotNames, .int (nI en), .int (nI at1), .int tk1, .int (nI ts1), .long tv1]))] sz) [(rd, .inr (7, [.ref rd_tape, .int fd1, .int fa1, .int fp1, .ref bk, .ref rd_names, .ref rd_nameKind, .ref rd_nameNumber, .int (nI nm), .ref rd_knotNames, .int (nI en), .int (nI at1), .int tk1, .int (nI ts1), .long tv1]))]) (va_A [(rd, .inr (7, [.ref rd_tape, .int fd1, .int fa1, .int fp1, .ref bk, .ref rd_names, .ref rd_nameKind, .ref rd_nameNumber, .int (nI nm), .ref rd_knotNames, .int (nI en), .int (nI at1), .int tk1, .int (nI ts1), .long tv1]))] sz)) 0 0 (va_A [(rd, .inr (7, [.ref rd_tape, .int fd1, .int fa1, .int fp1, .ref bk, .ref rd_names, .ref rd_nameKind, .ref rd_nameNumber, .int (nI nm), .ref rd_knotNames, .int (nI en), .int (nI at1), .int tk1, .int (nI ts1), .long tv1]))] sz) := by
  refine Met.ofW (cc := cX7_isWord) (maxL := 2) (ret := (some .boolean)) (by decide) rfl ?_
  intro p e s m args below meth c s₁ B hml hv
  obtain ⟨rfl, hsz, hn0, hG, hP, hK, hD0⟩ := hv
  have hx := B.exec
  have hb := B.bytes
  have hr := B.returns
  have hts := atoms_spec (ws := wM yX7_isWord cX7_isWord 2 (some .boolean)) B.pre
  have hown : s.vm.findClass RX7 = some m.cls := findClass_of_methodNamed B.named
  have hlocks := B.notSynchronized
  subst hsz
  have hD := hD0.self (sz := s.heap.size)
  have hA0 := vA_n0 hD0 hn0
  generalize hAe : va_A [(rd, .inr (7, [.ref rd_tape, .int fd1, .int fa1, .int fp1, .ref bk, .ref rd_names, .ref rd_nameKind, .ref rd_nameNumber, .int (nI nm), .ref rd_knotNames, .int (nI en), .int (nI at1), .int tk1, .int (nI ts1), .long tv1]))] s.heap.size = A at hD hA0 ⊢
  have hA : ∀ q : Nat, s.heap.size ≤ q → A q := fun q h => by rw [← hAe]; exact Or.inr h
  have hS : va_S A s.heap s.heap [] := va_S.rf
  have hl := lv_entry ([.ref rd, .ref (atx ti).1]) (n := 2) (Nat.le_of_ble_eq_true rfl)
  rw [lg_entry_eq]
  generalize (lg_sl ([.ref rd, .ref (atx ti).1]) ++ List.replicate (2 - (lg_sl ([.ref rd, .ref (atx ti).1])).length) Slot.unset).toArray = ls at hl ⊢
  have hl : lv_has ls 2 [(0, .ref rd), (1, .ref (atx ti).1)] := hl
  refine lv_aload_n hx hb dX7_isWord_0 rfl (lv_at hl 0 rfl) ?_
  refine va_get (D := (dC, dI)) (ci := 7) (v := .int tk1) (C := RX7) (T := TX7) (N := 15) hx hb hts (fun w h => wM_c (iX7 w h)) hown hK hP 0 rfl rfl 12 (by decide) (hts _ (wM_c wd_348)) (fun _ h9 => h9) rfl dX7_isWord_1 ?_
  refine lv_iconst (v := 1) hx hb dX7_isWord_4 (by decide) ?_
  refine lv_icmp_ne (tgt := 24) hx hb dX7_isWord_5 (by decide) (fun c_1 => ?_) (fun c_1 => ?_)
  · skip
    have g_2 : tk1.toInt ≠ (1 : Int) := i_ne c_1
    refine lv_iconst (v := 0) hx hb dX7_isWord_24 (by decide) ?_
    have hK9 := hK.sub (tys' := []) [] rfl
    exact W.zret (v := 0) hx hb hr rfl (fun t ht hW => ⟨⟨0, (), rfl, (Or.inr ⟨rfl, fun q9 => c_1 q9.1⟩), by rw [ht]; exact hP.sub [0] rfl, va_K.moved hW.alike hK9, hD.sub [0] (by decide) rfl⟩, hS.F ht⟩) hS.2.2 dX7_isWord_25
  · skip
    have g_3 : tk1.toInt = (1 : Int) := i_eq c_1
    refine lv_aload_n hx hb dX7_isWord_8 rfl (lv_at hl 0 rfl) ?_
    refine va_get (D := (dC, dI)) (ci := 7) (v := .long tv1) (C := RX7) (T := TX7) (N := 15) hx hb hts (fun w h => wM_c (iX7 w h)) hown hK hP 0 rfl rfl 14 (by decide) (hts _ (wM_c wd_350)) (fun _ h9 => h9) rfl dX7_isWord_9 ?_
    refine lv_aload_n hx hb dX7_isWord_12 rfl (lv_at hl 1 rfl) ?_
    obtain ⟨hPc, hDc, hFc⟩ := s3_c (ws' := []) [] hP hD hS hA rfl (by decide)
    have hKc := hK.sub (tys' := []) [] rfl
    refine va_calll (va_runS (As := [.ref (atx ti).1]) (rest := [.long tv1]) ⟨hx, hb, hml, hown, hts⟩ (d7_codeOf l dC dI n0 atx s.heap.size ti (by first | with_reducible assumption | omega | exact vp_in_iff.mpr (by omega) | exact vp_in_nI (by omega) (by omega) | exact ⟨by omega, by omega⟩) (by first | with_reducible assumption | omega | exact vp_in_iff.mpr (by omega) | exact vp_in_nI (by omega) (by omega) | exact ⟨by omega, by omega⟩)) (va_cwS 1 hts (gS (fun w h => wM_c h) wd_763 wd_761 wd_762 wd_117) rfl rfl rfl (by decide +kernel) ⟨Nat.le_of_ble_eq_true rfl, Nat.le_of_ble_eq_true rfl⟩) ⟨fun a U g mk q => by obtain ⟨q0, q1, q2, qG, qP, qK, qD⟩ := q; exact ⟨q0, q1, q2, GW.blind qG, qP, va_K.moved (u := U) (U := U.calling g mk a) (Vm.Alike.refl U.vm) qK, qD⟩, fun U hU hW => ⟨rfl, by rw [hU], Nat.le_trans hn0 hS.1, GW.go hW hU hG (fun q hq hA9 => hS.2.1 q hq (fun h => hA9 (hA0 q h))), by rw [hU]; exact hPc, va_K.moved hW.alike hKc, hDc.weaken (fun _ _ _ h => hA0 _ h)⟩⟩ rfl rfl hl.1 rfl (lv_room (Nat.le_of_ble_eq_true rfl)) dX7_isWord_13 ⟨Nat.le_of_ble_eq_true rfl, Nat.le_of_ble_eq_true rfl⟩) hS (fun q _ h => hFc q h) hFc (fun r_4 u t H1 locs ht hvm hw_5 hB hz1 hk1 hS => ?_)
    obtain ⟨hP1, hK1, hD1⟩ := hB
    rw [ht] at hP1
    obtain ⟨hP, hD⟩ := s3_j (L := [(rd, .inr (7, [.ref rd_tape, .int fd1, .int fa1, .int fp1, .ref bk, .ref rd_names, .ref rd_nameKind, .ref rd_nameNumber, .int (nI nm), .ref rd_knotNames, .int (nI en), .int (nI at1), .int tk1, .int (nI ts1), .long tv1]))]) 1 hP hD [] [0] hk1 hFc hP1 hD1 rfl rfl rfl (by decide) (by decide)
    generalize H1 = H at hP hS ⊢
    refine W.lcmp hx hb dX7_isWord_16 ?_
    refine lv_topi (fun v_6 ev_6 => ?_)
    refine lv_if_ne (tgt := 24) hx hb dX7_isWord_17 (by decide) (fun c_7 => ?_) (fun c_7 => ?_)
    · skip
      have g_8 : ¬ tv1 = r_4 := fun q9 => c_7 (by rw [ev_6]; exact (lg_cmp_eq tv1 r_4).mpr q9)
      refine lv_iconst (v := 0) hx hb dX7_isWord_24 (by decide) ?_
      have hK9 := hK.sub (tys' := []) [] rfl
      exact W.zret (v := 0) hx hb hr rfl (fun t ht hW => ⟨⟨0, (), rfl, (Or.inr ⟨rfl, fun q9 => g_8 (q9.2.trans hw_5.symm)⟩), by rw [ht]; exact hP.sub [0] rfl, va_K.moved hW.alike hK9, hD.sub [0] (by decide) rfl⟩, hS.F ht⟩) hS.2.2 dX7_isWord_25
    · skip
      have g_9 : tv1 = r_4 := (lg_cmp_eq tv1 r_4).mp (by rw [← ev_6]; exact c_7)
      refine lv_iconst (v := 1) hx hb dX7_isWord_20 (by decide) ?_
      refine lv_goto (tgt := 25) hx hb dX7_isWord_21 (by decide) ?_
      have hK9 := hK.sub (tys' := []) [] rfl
      exact W.zret (v := 1) hx hb hr rfl (fun t ht hW => ⟨⟨1, (), rfl, (Or.inl ⟨rfl, c_1, g_9.trans hw_5⟩), by rw [ht]; exact hP.sub [0] rfl, va_K.moved hW.alike hK9, hD.sub [0] (by decide) rfl⟩, hS.F ht⟩) hS.2.2 dX7_isWord_25
set_option maxHeartbeats 4000000 in
set_option maxRecDepth 100000 in
theorem d7_isName (l : Launch) (dC : Nat → ClassId) (dI : Nat → Nat → Nat) (n0 : Nat) (atx : Nat → Nat × Nat) (sz : Nat) (rd : Nat) (rd_tape : Nat) (fd1 : Int32) (fa1 : Int32) (fp1 : Int32) (bk : Nat) (rd_names : Nat) (rd_nameKind : Nat) (rd_nameNumber : Nat) (nm : Nat) (rd_knotNames : Nat) (en : Nat) (at1 : Nat) (tk1 : Int32) (ts1 : Nat) (tv1 : Int64) (T : Nat → Int32) (a0 : Nat) (h_tok : xTk T en a0 ts1 at1 tk1 tv1) : Met l yX7_isName (wM yX7_isName cX7_isName 1 (some .boolean)) ({ frames := 6, cells := 0, slots := 0, locals := 129 }) (va_Pc [.ref rd] (fun U => U.heap.size = sz ∧ n0 ≤ sz ∧ GW n0 atx U ∧ va_P (dC, dI) classes [(rd, .inr (7, [.ref rd_tape, .int fd1, .int fa1, .int fp1, .ref bk, .ref rd_names, .ref rd_nameKind, .ref rd_nameNumber, .int (nI nm), .ref rd_knotNames, .int (nI en), .int (nI at1), .int tk1, .int (nI ts1), .long tv1]))] U.heap ∧ va_K (dC, dI) classes [] U ∧ va_D (fun q => n0 ≤ q) [(rd, .inr (7, [.ref rd_tape, .int fd1, .int fa1, .int fp1, .ref bk, .ref rd_names, .ref rd_nameKind, .ref rd_nameNumber, .int (nI nm), .ref rd_knotNames, .int (nI en), .int (nI at1), .int tk1, .int (nI ts1), .long tv1]))])) (va_Qi (fun (r : Int32) (_ : Unit) => (r = 1 ∧ isNm T en a0 = true) ∨ (r = 0 ∧ isNm T en a0 = false)) (fun (_ : Unit) (t : State) => va_P (dC, dI) classes [(rd, .inr (7, [.ref rd_tape, .int fd1, .int fa1, .int fp1, .ref bk, .ref rd_names, .ref rd_nameKind, .ref rd_nameNumber, .int (nI nm), .ref rd_knotNames, .int (nI en), .int (nI at1), .int tk1, .int (nI ts1), .long tv1]))] t.heap ∧ va_K (dC, dI) classes [] t ∧ va_D (va_A [(rd, .inr (7, [.ref rd_tape, .int fd1, .int fa1, .int fp1, .ref bk, .ref rd_names, .ref rd_nameKind, .ref rd_nameNumber, .int (nI nm), .ref rd_knotNames, .int (nI en), .int (nI at1), .int tk1, .int (nI ts1), .long tv1]))] sz) [(rd, .inr (7, [.ref rd_tape, .int fd1, .int fa1, .int fp1, .ref bk, .ref rd_names, .ref rd_nameKind, .ref rd_nameNumber, .int (nI nm), .ref rd_knotNames, .int (nI en), .int (nI at1), .int tk1, .int (nI ts1), .long tv1]))]) (va_A [(rd, .inr (7, [.ref rd_tape, .int fd1, .int fa1, .int fp1, .ref bk, .ref rd_names, .ref rd_nameKind, .ref rd_nameNumber, .int (nI nm), .ref rd_knotNames, .int (nI en), .int (nI at1), .int tk1, .int (nI ts1), .long tv1]))] sz)) 0 0 (va_A [(rd, .inr (7, [.ref rd_tape, .int fd1, .int fa1, .int fp1, .ref bk, .ref rd_names, .ref rd_nameKind, .ref rd_nameNumber, .int (nI nm), .ref rd_knotNames, .int (nI en), .int (nI at1), .int tk1, .int (nI ts1), .long tv1]))] sz) := by
  refine Met.ofW (cc := cX7_isName) (maxL := 1) (ret := (some .boolean)) (by decide) rfl ?_
  intro p e s m args below meth c s₁ B hml hv
  obtain ⟨rfl, hsz, hn0, hG, hP, hK, hD0⟩ := hv
  have hx := B.exec
  have hb := B.bytes
  have hr := B.returns
  have hts := atoms_spec (ws := wM yX7_isName cX7_isName 1 (some .boolean)) B.pre
  have hown : s.vm.findClass RX7 = some m.cls := findClass_of_methodNamed B.named
  have hlocks := B.notSynchronized
  subst hsz
  have hD := hD0.self (sz := s.heap.size)
  have hA0 := vA_n0 hD0 hn0
  generalize hAe : va_A [(rd, .inr (7, [.ref rd_tape, .int fd1, .int fa1, .int fp1, .ref bk, .ref rd_names, .ref rd_nameKind, .ref rd_nameNumber, .int (nI nm), .ref rd_knotNames, .int (nI en), .int (nI at1), .int tk1, .int (nI ts1), .long tv1]))] s.heap.size = A at hD hA0 ⊢
  have hA : ∀ q : Nat, s.heap.size ≤ q → A q := fun q h => by rw [← hAe]; exact Or.inr h
  have hS : va_S A s.heap s.heap [] := va_S.rf
  have hl := lv_entry ([.ref rd]) (n := 1) (Nat.le_of_ble_eq_true rfl)
  rw [lg_entry_eq]
  generalize (lg_sl ([.ref rd]) ++ List.replicate (1 - (lg_sl ([.ref rd])).length) Slot.unset).toArray = ls at hl ⊢
  have hl : lv_has ls 1 [(0, .ref rd)] := hl
  refine lv_aload_n hx hb dX7_isName_0 rfl (lv_at hl 0 rfl) ?_
  refine va_get (D := (dC, dI)) (ci := 7) (v := .int tk1) (C := RX7) (T := TX7) (N := 15) hx hb hts (fun w h => wM_c (iX7 w h)) hown hK hP 0 rfl rfl 12 (by decide) (hts _ (wM_c wd_348)) (fun _ h9 => h9) rfl dX7_isName_1 ?_
  refine lv_iconst (v := 1) hx hb dX7_isName_4 (by decide) ?_
  refine lv_icmp_ne (tgt := 57) hx hb dX7_isName_5 (by decide) (fun c_1 => ?_) (fun c_1 => ?_)
  · skip
    have g_2 : tk1.toInt ≠ (1 : Int) := i_ne c_1
    refine lv_iconst (v := 0) hx hb dX7_isName_57 (by decide) ?_
    have hK9 := hK.sub (tys' := []) [] rfl
    exact W.zret (v := 0) hx hb hr rfl (fun t ht hW => ⟨⟨0, (), rfl, (Or.inr ⟨rfl, xnm_f0 h_tok c_1⟩), by rw [ht]; exact hP.sub [0] rfl, va_K.moved hW.alike hK9, hD.sub [0] (by decide) rfl⟩, hS.F ht⟩) hS.2.2 dX7_isName_58
  · skip
    have g_3 : tk1.toInt = (1 : Int) := i_eq c_1
    refine lv_aload_n hx hb dX7_isName_8 rfl (lv_at hl 0 rfl) ?_
    refine va_ldcS (q := (atx 0).1) hx hb hown (hG.t 0 (q := ("MineAir$Reader", 59, "way", _)) rfl) dX7_isName_9 ?_
    obtain ⟨hPc, hDc, hFc⟩ := s3_c (ws' := [(rd, .inr (7, [.ref rd_tape, .int fd1, .int fa1, .int fp1, .ref bk, .ref rd_names, .ref rd_nameKind, .ref rd_nameNumber, .int (nI nm), .ref rd_knotNames, .int (nI en), .int (nI at1), .int tk1, .int (nI ts1), .long tv1]))]) [0] hP hD hS hA rfl (by decide)
    have hKc := hK.sub (tys' := []) [] rfl
    refine va_calli (va_runV (As := [.ref (atx 0).1]) (rest := []) ⟨hx, hb, hml, hown, hts⟩ (d7_isWord l dC dI n0 atx s.heap.size rd rd_tape fd1 fa1 fp1 bk rd_names rd_nameKind rd_nameNumber nm rd_knotNames en at1 tk1 ts1 tv1 0 (by first | with_reducible assumption | omega | exact vp_in_iff.mpr (by omega) | exact vp_in_nI (by omega) (by omega) | exact ⟨by omega, by omega⟩) ltx_0) (cwV 1 hts (gV (fun w h => wM_c h) wd_760 wd_757 wd_759 wd_5 wd_117) rfl rfl rfl (by decide +kernel) ⟨Nat.le_of_ble_eq_true rfl, Nat.le_of_ble_eq_true rfl⟩) ⟨fun a U g mk q => by obtain ⟨q0, q1, q2, qG, qP, qK, qD⟩ := q; exact ⟨q0, q1, q2, GW.blind qG, qP, va_K.moved (u := U) (U := U.calling g mk a) (Vm.Alike.refl U.vm) qK, qD⟩, va_recv hKc hPc (ci := 7) (q0 := 0) rfl rfl, fun U hU hW => ⟨rfl, by rw [hU], Nat.le_trans hn0 hS.1, GW.go hW hU hG (fun q hq hA9 => hS.2.1 q hq (fun h => hA9 (hA0 q h))), by rw [hU]; exact hPc, va_K.moved hW.alike hKc, hDc.weaken (fun _ _ _ h => hA0 _ h)⟩⟩ rfl rfl hl.1 rfl (lv_room (Nat.le_of_ble_eq_true rfl)) dX7_isName_11 ⟨Nat.le_of_ble_eq_true rfl, Nat.le_of_ble_eq_true rfl⟩) hS (fun q _ h => hFc q h) hFc (fun r_4 u t H1 locs ht hvm hw_5 hB hz1 hk1 hS => ?_)
    obtain ⟨hP1, hK1, hD1⟩ := hB
    rw [ht] at hP1
    obtain ⟨hP, hD⟩ := s3_j (L := [(rd, .inr (7, [.ref rd_tape, .int fd1, .int fa1, .int fp1, .ref bk, .ref rd_names, .ref rd_nameKind, .ref rd_nameNumber, .int (nI nm), .ref rd_knotNames, .int (nI en), .int (nI at1), .int tk1, .int (nI ts1), .long tv1]))]) 0 hP hD [0] [] hk1 hFc hP1 hD1 rfl rfl rfl (by decide) (by decide)
    generalize H1 = H at hP hS ⊢
    rcases hw_5 with ⟨rfl, s_6, s_7⟩ | ⟨rfl, s_8⟩
    · skip
      refine lv_if_ne (tgt := 57) hx hb dX7_isName_14 (by decide) (fun c_9 => ?_) (fun c_9 => ?_)
      · skip
        refine lv_iconst (v := 0) hx hb dX7_isName_57 (by decide) ?_
        have hK9 := hK.sub (tys' := []) [] rfl
        exact W.zret (v := 0) hx hb hr rfl (fun t ht hW => ⟨⟨0, (), rfl, (Or.inr ⟨rfl, xnm_fw h_tok s_6 (s_7.trans wn_0) (by decide)⟩), by rw [ht]; exact hP.sub [0] rfl, va_K.moved hW.alike hK9, hD.sub [0] (by decide) rfl⟩, hS.F ht⟩) hS.2.2 dX7_isName_58
      · exact absurd c_9 (by decide)
    · skip
      refine lv_if_ne (tgt := 57) hx hb dX7_isName_14 (by decide) (fun c_10 => ?_) (fun c_10 => ?_)
      · exact absurd c_10 (by decide)
      refine lv_aload_n hx hb dX7_isName_17 rfl (lv_at hl 0 rfl) ?_
      refine va_ldcS (q := (atx 1).1) hx hb hown (hG.t 1 (q := ("MineAir$Reader", 68, "door", _)) rfl) dX7_isName_18 ?_
      obtain ⟨hPc, hDc, hFc⟩ := s3_c (ws' := [(rd, .inr (7, [.ref rd_tape, .int fd1, .int fa1, .int fp1, .ref bk, .ref rd_names, .ref rd_nameKind, .ref rd_nameNumber, .int (nI nm), .ref rd_knotNames, .int (nI en), .int (nI at1), .int tk1, .int (nI ts1), .long tv1]))]) [0] hP hD hS hA rfl (by decide)
      have hKc := hK.sub (tys' := []) [] rfl
      refine va_calli (va_runV (As := [.ref (atx 1).1]) (rest := []) ⟨hx, hb, hml, hown, hts⟩ (d7_isWord l dC dI n0 atx H.size rd rd_tape fd1 fa1 fp1 bk rd_names rd_nameKind rd_nameNumber nm rd_knotNames en at1 tk1 ts1 tv1 1 (by first | with_reducible assumption | omega | exact vp_in_iff.mpr (by omega) | exact vp_in_nI (by omega) (by omega) | exact ⟨by omega, by omega⟩) ltx_1) (cwV 1 hts (gV (fun w h => wM_c h) wd_760 wd_757 wd_759 wd_5 wd_117) rfl rfl rfl (by decide +kernel) ⟨Nat.le_of_ble_eq_true rfl, Nat.le_of_ble_eq_true rfl⟩) ⟨fun a U g mk q => by obtain ⟨q0, q1, q2, qG, qP, qK, qD⟩ := q; exact ⟨q0, q1, q2, GW.blind qG, qP, va_K.moved (u := U) (U := U.calling g mk a) (Vm.Alike.refl U.vm) qK, qD⟩, va_recv hKc hPc (ci := 7) (q0 := 0) rfl rfl, fun U hU hW => ⟨rfl, by rw [hU], Nat.le_trans hn0 hS.1, GW.go hW hU hG (fun q hq hA9 => hS.2.1 q hq (fun h => hA9 (hA0 q h))), by rw [hU]; exact hPc, va_K.moved hW.alike hKc, hDc.weaken (fun _ _ _ h => hA0 _ h)⟩⟩ rfl rfl hl.1 rfl (lv_room (Nat.le_of_ble_eq_true rfl)) dX7_isName_20 ⟨Nat.le_of_ble_eq_true rfl, Nat.le_of_ble_eq_true rfl⟩) hS (fun q _ h => hFc q h) hFc (fun r_11 u t H1 locs ht hvm hw_12 hB hz1 hk1 hS => ?_)
      obtain ⟨hP1, hK1, hD1⟩ := hB
      rw [ht] at hP1
      obtain ⟨hP, hD⟩ := s3_j (L := [(rd, .inr (7, [.ref rd_tape, .int fd1, .int fa1, .int fp1, .ref bk, .ref rd_names, .ref rd_nameKind, .ref rd_nameNumber, .int (nI nm), .ref rd_knotNames, .int (nI en), .int (nI at1), .int tk1, .int (nI ts1), .long tv1]))]) 0 hP hD [0] [] hk1 hFc hP1 hD1 rfl rfl rfl (by decide) (by decide)
      generalize H1 = H at hP hS ⊢
      rcases hw_12 with ⟨rfl, s_13, s_14⟩ | ⟨rfl, s_15⟩
      · skip
        refine lv_if_ne (tgt := 57) hx hb dX7_isName_23 (by decide) (fun c_16 => ?_) (fun c_16 => ?_)
        · skip
          refine lv_iconst (v := 0) hx hb dX7_isName_57 (by decide) ?_
          have hK9 := hK.sub (tys' := []) [] rfl
          exact W.zret (v := 0) hx hb hr rfl (fun t ht hW => ⟨⟨0, (), rfl, (Or.inr ⟨rfl, xnm_fw h_tok s_13 (s_14.trans wn_1) (by decide)⟩), by rw [ht]; exact hP.sub [0] rfl, va_K.moved hW.alike hK9, hD.sub [0] (by decide) rfl⟩, hS.F ht⟩) hS.2.2 dX7_isName_58
        · exact absurd c_16 (by decide)
      · skip
        refine lv_if_ne (tgt := 57) hx hb dX7_isName_23 (by decide) (fun c_17 => ?_) (fun c_17 => ?_)
        · exact absurd c_17 (by decide)
        refine lv_aload_n hx hb dX7_isName_26 rfl (lv_at hl 0 rfl) ?_
        refine va_ldcS (q := (atx 2).1) hx hb hown (hG.t 2 (q := ("MineAir$Reader", 73, "pair", _)) rfl) dX7_isName_27 ?_
        obtain ⟨hPc, hDc, hFc⟩ := s3_c (ws' := [(rd, .inr (7, [.ref rd_tape, .int fd1, .int fa1, .int fp1, .ref bk, .ref rd_names, .ref rd_nameKind, .ref rd_nameNumber, .int (nI nm), .ref rd_knotNames, .int (nI en), .int (nI at1), .int tk1, .int (nI ts1), .long tv1]))]) [0] hP hD hS hA rfl (by decide)
        have hKc := hK.sub (tys' := []) [] rfl
        refine va_calli (va_runV (As := [.ref (atx 2).1]) (rest := []) ⟨hx, hb, hml, hown, hts⟩ (d7_isWord l dC dI n0 atx H.size rd rd_tape fd1 fa1 fp1 bk rd_names rd_nameKind rd_nameNumber nm rd_knotNames en at1 tk1 ts1 tv1 2 (by first | with_reducible assumption | omega | exact vp_in_iff.mpr (by omega) | exact vp_in_nI (by omega) (by omega) | exact ⟨by omega, by omega⟩) ltx_2) (cwV 1 hts (gV (fun w h => wM_c h) wd_760 wd_757 wd_759 wd_5 wd_117) rfl rfl rfl (by decide +kernel) ⟨Nat.le_of_ble_eq_true rfl, Nat.le_of_ble_eq_true rfl⟩) ⟨fun a U g mk q => by obtain ⟨q0, q1, q2, qG, qP, qK, qD⟩ := q; exact ⟨q0, q1, q2, GW.blind qG, qP, va_K.moved (u := U) (U := U.calling g mk a) (Vm.Alike.refl U.vm) qK, qD⟩, va_recv hKc hPc (ci := 7) (q0 := 0) rfl rfl, fun U hU hW => ⟨rfl, by rw [hU], Nat.le_trans hn0 hS.1, GW.go hW hU hG (fun q hq hA9 => hS.2.1 q hq (fun h => hA9 (hA0 q h))), by rw [hU]; exact hPc, va_K.moved hW.alike hKc, hDc.weaken (fun _ _ _ h => hA0 _ h)⟩⟩ rfl rfl hl.1 rfl (lv_room (Nat.le_of_ble_eq_true rfl)) dX7_isName_29 ⟨Nat.le_of_ble_eq_true rfl, Nat.le_of_ble_eq_true rfl⟩) hS (fun q _ h => hFc q h) hFc (fun r_18 u t H1 locs ht hvm hw_19 hB hz1 hk1 hS => ?_)
        obtain ⟨hP1, hK1, hD1⟩ := hB
        rw [ht] at hP1
        obtain ⟨hP, hD⟩ := s3_j (L := [(rd, .inr (7, [.ref rd_tape, .int fd1, .int fa1, .int fp1, .ref bk, .ref rd_names, .ref rd_nameKind, .ref rd_nameNumber, .int (nI nm), .ref rd_knotNames, .int (nI en), .int (nI at1), .int tk1, .int (nI ts1), .long tv1]))]) 0 hP hD [0] [] hk1 hFc hP1 hD1 rfl rfl rfl (by decide) (by decide)
        generalize H1 = H at hP hS ⊢
        rcases hw_19 with ⟨rfl, s_20, s_21⟩ | ⟨rfl, s_22⟩
        · skip
          refine lv_if_ne (tgt := 57) hx hb dX7_isName_32 (by decide) (fun c_23 => ?_) (fun c_23 => ?_)
          · skip
            refine lv_iconst (v := 0) hx hb dX7_isName_57 (by decide) ?_
            have hK9 := hK.sub (tys' := []) [] rfl
            exact W.zret (v := 0) hx hb hr rfl (fun t ht hW => ⟨⟨0, (), rfl, (Or.inr ⟨rfl, xnm_fw h_tok s_20 (s_21.trans wn_2) (by decide)⟩), by rw [ht]; exact hP.sub [0] rfl, va_K.moved hW.alike hK9, hD.sub [0] (by decide) rfl⟩, hS.F ht⟩) hS.2.2 dX7_isName_58
          · exact absurd c_23 (by decide)
        · skip
          refine lv_if_ne (tgt := 57) hx hb dX7_isName_32 (by decide) (fun c_24 => ?_) (fun c_24 => ?_)
          · exact absurd c_24 (by decide)
          refine lv_aload_n hx hb dX7_isName_35 rfl (lv_at hl 0 rfl) ?_
          refine va_ldcS (q := (atx 3).1) hx hb hown (hG.t 3 (q := ("MineAir$Reader", 78, "fan", _)) rfl) dX7_isName_36 ?_
          obtain ⟨hPc, hDc, hFc⟩ := s3_c (ws' := [(rd, .inr (7, [.ref rd_tape, .int fd1, .int fa1, .int fp1, .ref bk, .ref rd_names, .ref rd_nameKind, .ref rd_nameNumber, .int (nI nm), .ref rd_knotNames, .int (nI en), .int (nI at1), .int tk1, .int (nI ts1), .long tv1]))]) [0] hP hD hS hA rfl (by decide)
          have hKc := hK.sub (tys' := []) [] rfl
          refine va_calli (va_runV (As := [.ref (atx 3).1]) (rest := []) ⟨hx, hb, hml, hown, hts⟩ (d7_isWord l dC dI n0 atx H.size rd rd_tape fd1 fa1 fp1 bk rd_names rd_nameKind rd_nameNumber nm rd_knotNames en at1 tk1 ts1 tv1 3 (by first | with_reducible assumption | omega | exact vp_in_iff.mpr (by omega) | exact vp_in_nI (by omega) (by omega) | exact ⟨by omega, by omega⟩) ltx_3) (cwV 1 hts (gV (fun w h => wM_c h) wd_760 wd_757 wd_759 wd_5 wd_117) rfl rfl rfl (by decide +kernel) ⟨Nat.le_of_ble_eq_true rfl, Nat.le_of_ble_eq_true rfl⟩) ⟨fun a U g mk q => by obtain ⟨q0, q1, q2, qG, qP, qK, qD⟩ := q; exact ⟨q0, q1, q2, GW.blind qG, qP, va_K.moved (u := U) (U := U.calling g mk a) (Vm.Alike.refl U.vm) qK, qD⟩, va_recv hKc hPc (ci := 7) (q0 := 0) rfl rfl, fun U hU hW => ⟨rfl, by rw [hU], Nat.le_trans hn0 hS.1, GW.go hW hU hG (fun q hq hA9 => hS.2.1 q hq (fun h => hA9 (hA0 q h))), by rw [hU]; exact hPc, va_K.moved hW.alike hKc, hDc.weaken (fun _ _ _ h => hA0 _ h)⟩⟩ rfl rfl hl.1 rfl (lv_room (Nat.le_of_ble_eq_true rfl)) dX7_isName_38 ⟨Nat.le_of_ble_eq_true rfl, Nat.le_of_ble_eq_true rfl⟩) hS (fun q _ h => hFc q h) hFc (fun r_25 u t H1 locs ht hvm hw_26 hB hz1 hk1 hS => ?_)
          obtain ⟨hP1, hK1, hD1⟩ := hB
          rw [ht] at hP1
          obtain ⟨hP, hD⟩ := s3_j (L := [(rd, .inr (7, [.ref rd_tape, .int fd1, .int fa1, .int fp1, .ref bk, .ref rd_names, .ref rd_nameKind, .ref rd_nameNumber, .int (nI nm), .ref rd_knotNames, .int (nI en), .int (nI at1), .int tk1, .int (nI ts1), .long tv1]))]) 0 hP hD [0] [] hk1 hFc hP1 hD1 rfl rfl rfl (by decide) (by decide)
          generalize H1 = H at hP hS ⊢
          rcases hw_26 with ⟨rfl, s_27, s_28⟩ | ⟨rfl, s_29⟩
          · skip
            refine lv_if_ne (tgt := 57) hx hb dX7_isName_41 (by decide) (fun c_30 => ?_) (fun c_30 => ?_)
            · skip
              refine lv_iconst (v := 0) hx hb dX7_isName_57 (by decide) ?_
              have hK9 := hK.sub (tys' := []) [] rfl
              exact W.zret (v := 0) hx hb hr rfl (fun t ht hW => ⟨⟨0, (), rfl, (Or.inr ⟨rfl, xnm_fw h_tok s_27 (s_28.trans wn_3) (by decide)⟩), by rw [ht]; exact hP.sub [0] rfl, va_K.moved hW.alike hK9, hD.sub [0] (by decide) rfl⟩, hS.F ht⟩) hS.2.2 dX7_isName_58
            · exact absurd c_30 (by decide)
          · skip
            refine lv_if_ne (tgt := 57) hx hb dX7_isName_41 (by decide) (fun c_31 => ?_) (fun c_31 => ?_)
            · exact absurd c_31 (by decide)
            refine lv_aload_n hx hb dX7_isName_44 rfl (lv_at hl 0 rfl) ?_
            refine va_ldcS (q := (atx 4).1) hx hb hown (hG.t 4 (q := ("MineAir$Reader", 83, "face", _)) rfl) dX7_isName_45 ?_
            obtain ⟨hPc, hDc, hFc⟩ := s3_c (ws' := [(rd, .inr (7, [.ref rd_tape, .int fd1, .int fa1, .int fp1, .ref bk, .ref rd_names, .ref rd_nameKind, .ref rd_nameNumber, .int (nI nm), .ref rd_knotNames, .int (nI en), .int (nI at1), .int tk1, .int (nI ts1), .long tv1]))]) [0] hP hD hS hA rfl (by decide)
            have hKc := hK.sub (tys' := []) [] rfl
            refine va_calli (va_runV (As := [.ref (atx 4).1]) (rest := []) ⟨hx, hb, hml, hown, hts⟩ (d7_isWord l dC dI n0 atx H.size rd rd_tape fd1 fa1 fp1 bk rd_names rd_nameKind rd_nameNumber nm rd_knotNames en at1 tk1 ts1 tv1 4 (by first | with_reducible assumption | omega | exact vp_in_iff.mpr (by omega) | exact vp_in_nI (by omega) (by omega) | exact ⟨by omega, by omega⟩) ltx_4) (cwV 1 hts (gV (fun w h => wM_c h) wd_760 wd_757 wd_759 wd_5 wd_117) rfl rfl rfl (by decide +kernel) ⟨Nat.le_of_ble_eq_true rfl, Nat.le_of_ble_eq_true rfl⟩) ⟨fun a U g mk q => by obtain ⟨q0, q1, q2, qG, qP, qK, qD⟩ := q; exact ⟨q0, q1, q2, GW.blind qG, qP, va_K.moved (u := U) (U := U.calling g mk a) (Vm.Alike.refl U.vm) qK, qD⟩, va_recv hKc hPc (ci := 7) (q0 := 0) rfl rfl, fun U hU hW => ⟨rfl, by rw [hU], Nat.le_trans hn0 hS.1, GW.go hW hU hG (fun q hq hA9 => hS.2.1 q hq (fun h => hA9 (hA0 q h))), by rw [hU]; exact hPc, va_K.moved hW.alike hKc, hDc.weaken (fun _ _ _ h => hA0 _ h)⟩⟩ rfl rfl hl.1 rfl (lv_room (Nat.le_of_ble_eq_true rfl)) dX7_isName_47 ⟨Nat.le_of_ble_eq_true rfl, Nat.le_of_ble_eq_true rfl⟩) hS (fun q _ h => hFc q h) hFc (fun r_32 u t H1 locs ht hvm hw_33 hB hz1 hk1 hS => ?_)
            obtain ⟨hP1, hK1, hD1⟩ := hB
            rw [ht] at hP1
            obtain ⟨hP, hD⟩ := s3_j (L := [(rd, .inr (7, [.ref rd_tape, .int fd1, .int fa1, .int fp1, .ref bk, .ref rd_names, .ref rd_nameKind, .ref rd_nameNumber, .int (nI nm), .ref rd_knotNames, .int (nI en), .int (nI at1), .int tk1, .int (nI ts1), .long tv1]))]) 0 hP hD [0] [] hk1 hFc hP1 hD1 rfl rfl rfl (by decide) (by decide)
            generalize H1 = H at hP hS ⊢
            rcases hw_33 with ⟨rfl, s_34, s_35⟩ | ⟨rfl, s_36⟩
            · skip
              refine lv_if_ne (tgt := 57) hx hb dX7_isName_50 (by decide) (fun c_37 => ?_) (fun c_37 => ?_)
              · skip
                refine lv_iconst (v := 0) hx hb dX7_isName_57 (by decide) ?_
                have hK9 := hK.sub (tys' := []) [] rfl
                exact W.zret (v := 0) hx hb hr rfl (fun t ht hW => ⟨⟨0, (), rfl, (Or.inr ⟨rfl, xnm_fw h_tok s_34 (s_35.trans wn_4) (by decide)⟩), by rw [ht]; exact hP.sub [0] rfl, va_K.moved hW.alike hK9, hD.sub [0] (by decide) rfl⟩, hS.F ht⟩) hS.2.2 dX7_isName_58
              · exact absurd c_37 (by decide)
            · skip
              refine lv_if_ne (tgt := 57) hx hb dX7_isName_50 (by decide) (fun c_38 => ?_) (fun c_38 => ?_)
              · exact absurd c_38 (by decide)
              refine lv_iconst (v := 1) hx hb dX7_isName_53 (by decide) ?_
              refine lv_goto (tgt := 58) hx hb dX7_isName_54 (by decide) ?_
              have hK9 := hK.sub (tys' := []) [] rfl
              exact W.zret (v := 1) hx hb hr rfl (fun t ht hW => ⟨⟨1, (), rfl, (Or.inl ⟨rfl, xnm_t h_tok c_1 (xnwd wn_0 s_8) (xnwd wn_1 s_15) (xnwd wn_2 s_22) (xnwd wn_3 s_29) (xnwd wn_4 s_36)⟩), by rw [ht]; exact hP.sub [0] rfl, va_K.moved hW.alike hK9, hD.sub [0] (by decide) rfl⟩, hS.F ht⟩) hS.2.2 dX7_isName_58
set_option maxHeartbeats 4000000 in
set_option maxRecDepth 100000 in
theorem d7_takeWord (l : Launch) (dC : Nat → ClassId) (dI : Nat → Nat → Nat) (n0 : Nat) (atx : Nat → Nat × Nat) (sz : Nat) (rd : Nat) (rd_tape : Nat) (fd1 : Int32) (fa1 : Int32) (fp1 : Int32) (bk : Nat) (rd_names : Nat) (rd_nameKind : Nat) (rd_nameNumber : Nat) (nm : Nat) (rd_knotNames : Nat) (en : Nat) (at1 : Nat) (tk1 : Int32) (ts1 : Nat) (tv1 : Int64) (k_rd_tape : ClassId) (f_rd_tape : Nat → Int32) (ti : Nat) (c9 : Int64) (T : Nat → Int32) (a0 : Nat) (hti : ti < 34) (hlt : ∀ j, j < (txb ti).length → 97 ≤ ((txb ti).getD j 0).toInt ∧ ((txb ti).getD j 0).toInt ≤ 122) (hc9 : wordN (txb ti) (txb ti).length = c9) (h_en : en ≤ 600) (h_at : at1 ≤ en) (hT : ∀ k, k < en → f_rd_tape k = T k) (h_tok : xTk T en a0 ts1 at1 tk1 tv1) : Met l yX7_takeWord (wM yX7_takeWord cX7_takeWord 2 (some .boolean)) ({ frames := 6, cells := 0, slots := 0, locals := 129 }) (va_Pc [.ref rd, .ref (atx ti).1] (fun U => U.heap.size = sz ∧ n0 ≤ sz ∧ GW n0 atx U ∧ va_P (dC, dI) classes [(rd, .inr (7, [.ref rd_tape, .int fd1, .int fa1, .int fp1, .ref bk, .ref rd_names, .ref rd_nameKind, .ref rd_nameNumber, .int (nI nm), .ref rd_knotNames, .int (nI en), .int (nI at1), .int tk1, .int (nI ts1), .long tv1])), (rd_tape, .inl (k_rd_tape, 600, .inl f_rd_tape))] U.heap ∧ va_K (dC, dI) classes [(k_rd_tape, .int)] U ∧ va_D (fun q => n0 ≤ q) [(rd, .inr (7, [.ref rd_tape, .int fd1, .int fa1, .int fp1, .ref bk, .ref rd_names, .ref rd_nameKind, .ref rd_nameNumber, .int (nI nm), .ref rd_knotNames, .int (nI en), .int (nI at1), .int tk1, .int (nI ts1), .long tv1])), (rd_tape, .inl (k_rd_tape, 600, .inl f_rd_tape))])) (va_Qi (fun (r : Int32) (tw9 : Int32) => r = tw9) (fun (tw9 : Int32) (t : State) => ∃ (at9 : Nat), ∃ (tk9 : Int32), ∃ (ts9 : Nat), ∃ (tv9 : Int64), (at9 ≤ en) ∧ ((tw9 = 1 ∧ isWd T en a0 c9 = true ∧ xTk T en (tkE T en a0) ts9 at9 tk9 tv9) ∨ (tw9 = 0 ∧ isWd T en a0 c9 = false ∧ xTk T en a0 ts9 at9 tk9 tv9)) ∧ va_P (dC, dI) classes [(rd, .inr (7, [.ref rd_tape, .int fd1, .int fa1, .int fp1, .ref bk, .ref rd_names, .ref rd_nameKind, .ref rd_nameNumber, .int (nI nm), .ref rd_knotNames, .int (nI en), .int (nI at9), .int tk9, .int (nI ts9), .long tv9])), (rd_tape, .inl (k_rd_tape, 600, .inl f_rd_tape))] t.heap ∧ va_K (dC, dI) classes [(k_rd_tape, .int)] t ∧ va_D (va_A [(rd, .inr (7, [.ref rd_tape, .int fd1, .int fa1, .int fp1, .ref bk, .ref rd_names, .ref rd_nameKind, .ref rd_nameNumber, .int (nI nm), .ref rd_knotNames, .int (nI en), .int (nI at1), .int tk1, .int (nI ts1), .long tv1])), (rd_tape, .inl (k_rd_tape, 600, .inl f_rd_tape))] sz) [(rd, .inr (7, [.ref rd_tape, .int fd1, .int fa1, .int fp1, .ref bk, .ref rd_names, .ref rd_nameKind, .ref rd_nameNumber, .int (nI nm), .ref rd_knotNames, .int (nI en), .int (nI at9), .int tk9, .int (nI ts9), .long tv9])), (rd_tape, .inl (k_rd_tape, 600, .inl f_rd_tape))]) (va_A [(rd, .inr (7, [.ref rd_tape, .int fd1, .int fa1, .int fp1, .ref bk, .ref rd_names, .ref rd_nameKind, .ref rd_nameNumber, .int (nI nm), .ref rd_knotNames, .int (nI en), .int (nI at1), .int tk1, .int (nI ts1), .long tv1])), (rd_tape, .inl (k_rd_tape, 600, .inl f_rd_tape))] sz)) 0 0 (va_A [(rd, .inr (7, [.ref rd_tape, .int fd1, .int fa1, .int fp1, .ref bk, .ref rd_names, .ref rd_nameKind, .ref rd_nameNumber, .int (nI nm), .ref rd_knotNames, .int (nI en), .int (nI at1), .int tk1, .int (nI ts1), .long tv1])), (rd_tape, .inl (k_rd_tape, 600, .inl f_rd_tape))] sz) := by
  refine Met.ofW (cc := cX7_takeWord) (maxL := 2) (ret := (some .boolean)) (by decide) rfl ?_
  intro p e s m args below meth c s₁ B hml hv
  obtain ⟨rfl, hsz, hn0, hG, hP, hK, hD0⟩ := hv
  have hx := B.exec
  have hb := B.bytes
  have hr := B.returns
  have hts := atoms_spec (ws := wM yX7_takeWord cX7_takeWord 2 (some .boolean)) B.pre
  have hown : s.vm.findClass RX7 = some m.cls := findClass_of_methodNamed B.named
  have hlocks := B.notSynchronized
  subst hsz
  have hD := hD0.self (sz := s.heap.size)
  have hA0 := vA_n0 hD0 hn0
  generalize hAe : va_A [(rd, .inr (7, [.ref rd_tape, .int fd1, .int fa1, .int fp1, .ref bk, .ref rd_names, .ref rd_nameKind, .ref rd_nameNumber, .int (nI nm), .ref rd_knotNames, .int (nI en), .int (nI at1), .int tk1, .int (nI ts1), .long tv1])), (rd_tape, .inl (k_rd_tape, 600, .inl f_rd_tape))] s.heap.size = A at hD hA0 ⊢
  have hA : ∀ q : Nat, s.heap.size ≤ q → A q := fun q h => by rw [← hAe]; exact Or.inr h
  have hS : va_S A s.heap s.heap [] := va_S.rf
  have hl := lv_entry ([.ref rd, .ref (atx ti).1]) (n := 2) (Nat.le_of_ble_eq_true rfl)
  rw [lg_entry_eq]
  generalize (lg_sl ([.ref rd, .ref (atx ti).1]) ++ List.replicate (2 - (lg_sl ([.ref rd, .ref (atx ti).1])).length) Slot.unset).toArray = ls at hl ⊢
  have hl : lv_has ls 2 [(0, .ref rd), (1, .ref (atx ti).1)] := hl
  refine lv_aload_n hx hb dX7_takeWord_0 rfl (lv_at hl 0 rfl) ?_
  refine lv_aload_n hx hb dX7_takeWord_1 rfl (lv_at hl 1 rfl) ?_
  obtain ⟨hPc, hDc, hFc⟩ := s3_c (ws' := [(rd, .inr (7, [.ref rd_tape, .int fd1, .int fa1, .int fp1, .ref bk, .ref rd_names, .ref rd_nameKind, .ref rd_nameNumber, .int (nI nm), .ref rd_knotNames, .int (nI en), .int (nI at1), .int tk1, .int (nI ts1), .long tv1]))]) [0] hP hD hS hA rfl (by decide)
  have hKc := hK.sub (tys' := []) [] rfl
  refine va_calli (va_runV (As := [.ref (atx ti).1]) (rest := []) ⟨hx, hb, hml, hown, hts⟩ (d7_isWord l dC dI n0 atx s.heap.size rd rd_tape fd1 fa1 fp1 bk rd_names rd_nameKind rd_nameNumber nm rd_knotNames en at1 tk1 ts1 tv1 ti (by first | with_reducible assumption | omega | exact vp_in_iff.mpr (by omega) | exact vp_in_nI (by omega) (by omega) | exact ⟨by omega, by omega⟩) (by first | with_reducible assumption | omega | exact vp_in_iff.mpr (by omega) | exact vp_in_nI (by omega) (by omega) | exact ⟨by omega, by omega⟩)) (cwV 1 hts (gV (fun w h => wM_c h) wd_760 wd_757 wd_759 wd_5 wd_117) rfl rfl rfl (by decide +kernel) ⟨Nat.le_of_ble_eq_true rfl, Nat.le_of_ble_eq_true rfl⟩) ⟨fun a U g mk q => by obtain ⟨q0, q1, q2, qG, qP, qK, qD⟩ := q; exact ⟨q0, q1, q2, GW.blind qG, qP, va_K.moved (u := U) (U := U.calling g mk a) (Vm.Alike.refl U.vm) qK, qD⟩, va_recv hKc hPc (ci := 7) (q0 := 0) rfl rfl, fun U hU hW => ⟨rfl, by rw [hU], Nat.le_trans hn0 hS.1, GW.go hW hU hG (fun q hq hA9 => hS.2.1 q hq (fun h => hA9 (hA0 q h))), by rw [hU]; exact hPc, va_K.moved hW.alike hKc, hDc.weaken (fun _ _ _ h => hA0 _ h)⟩⟩ rfl rfl hl.1 rfl (lv_room (Nat.le_of_ble_eq_true rfl)) dX7_takeWord_2 ⟨Nat.le_of_ble_eq_true rfl, Nat.le_of_ble_eq_true rfl⟩) hS (fun q _ h => hFc q h) hFc (fun r_1 u t H1 locs ht hvm hw_2 hB hz1 hk1 hS => ?_)
  obtain ⟨hP1, hK1, hD1⟩ := hB
  rw [ht] at hP1
  obtain ⟨hP, hD⟩ := s3_j (L := [(rd_tape, .inl (k_rd_tape, 600, .inl f_rd_tape)), (rd, .inr (7, [.ref rd_tape, .int fd1, .int fa1, .int fp1, .ref bk, .ref rd_names, .ref rd_nameKind, .ref rd_nameNumber, .int (nI nm), .ref rd_knotNames, .int (nI en), .int (nI at1), .int tk1, .int (nI ts1), .long tv1]))]) 1 hP hD [0] [1] hk1 hFc hP1 hD1 rfl rfl rfl (by decide) (by decide)
  generalize H1 = H at hP hS ⊢
  rcases hw_2 with ⟨rfl, s_3, s_4⟩ | ⟨rfl, s_5⟩
  · skip
    refine lv_if_ne (tgt := 10) hx hb dX7_takeWord_5 (by decide) (fun c_6 => ?_) (fun c_6 => ?_)
    · skip
      refine lv_aload_n hx hb dX7_takeWord_10 rfl (lv_at hl 0 rfl) ?_
      obtain ⟨hPc, hDc, hFc⟩ := s3_c (ws' := [(rd, .inr (7, [.ref rd_tape, .int fd1, .int fa1, .int fp1, .ref bk, .ref rd_names, .ref rd_nameKind, .ref rd_nameNumber, .int (nI nm), .ref rd_knotNames, .int (nI en), .int (nI at1), .int tk1, .int (nI ts1), .long tv1])), (rd_tape, .inl (k_rd_tape, 600, .inl f_rd_tape))]) [1, 0] hP hD hS hA rfl (by decide)
      have hKc := hK.sub (tys' := [(k_rd_tape, .int)]) [0] rfl
      refine va_callv (va_runV (As := []) (rest := []) ⟨hx, hb, hml, hown, hts⟩ (d7_next l dC dI n0 atx H.size rd rd_tape fd1 fa1 fp1 bk rd_names rd_nameKind rd_nameNumber nm rd_knotNames en at1 tk1 (nI ts1) tv1 k_rd_tape f_rd_tape T (by first | with_reducible assumption | omega | exact vp_in_iff.mpr (by omega) | exact vp_in_nI (by omega) (by omega) | exact ⟨by omega, by omega⟩) (by first | with_reducible assumption | omega | exact vp_in_iff.mpr (by omega) | exact vp_in_nI (by omega) (by omega) | exact ⟨by omega, by omega⟩) (by first | with_reducible assumption | omega | exact vp_in_iff.mpr (by omega) | exact vp_in_nI (by omega) (by omega) | exact ⟨by omega, by omega⟩)) (cwV 0 hts (gV (fun w h => wM_c h) wd_735 wd_732 wd_734 wd_1 wd_117) rfl rfl rfl (by decide +kernel) ⟨Nat.le_of_ble_eq_true rfl, Nat.le_of_ble_eq_true rfl⟩) ⟨fun a U g mk q => by obtain ⟨q0, q1, q2, qG, qP, qK, qD⟩ := q; exact ⟨q0, q1, q2, GW.blind qG, qP, va_K.moved (u := U) (U := U.calling g mk a) (Vm.Alike.refl U.vm) qK, qD⟩, va_recv hKc hPc (ci := 7) (q0 := 0) rfl rfl, fun U hU hW => ⟨rfl, by rw [hU], Nat.le_trans hn0 hS.1, GW.go hW hU hG (fun q hq hA9 => hS.2.1 q hq (fun h => hA9 (hA0 q h))), by rw [hU]; exact hPc, va_K.moved hW.alike hKc, hDc.weaken (fun _ _ _ h => hA0 _ h)⟩⟩ rfl rfl hl.1 rfl (lv_room (Nat.le_of_ble_eq_true rfl)) dX7_takeWord_11 ⟨Nat.le_of_ble_eq_true rfl, Nat.le_of_ble_eq_true rfl⟩) hS (fun q _ h => hFc q h) hFc (fun u t H1 locs ht hvm hw_8 hB hz1 hk1 hS => ?_)
      obtain ⟨at9_9, tk9_10, ts9_11, tv9_12, hf_13, hf_14, hP1, hK1, hD1⟩ := hB
      rw [ht] at hP1
      obtain ⟨hP, hD⟩ := s3_j (L := [(rd, .inr (7, [.ref rd_tape, .int fd1, .int fa1, .int fp1, .ref bk, .ref rd_names, .ref rd_nameKind, .ref rd_nameNumber, .int (nI nm), .ref rd_knotNames, .int (nI en), .int (nI at9_9), .int tk9_10, .int (nI ts9_11), .long tv9_12])), (rd_tape, .inl (k_rd_tape, 600, .inl f_rd_tape))]) 0 hP hD [1, 0] [] hk1 hFc hP1 hD1 rfl rfl rfl (by decide) (by decide)
      generalize H1 = H at hP hS ⊢
      refine lv_iconst (v := 1) hx hb dX7_takeWord_14 (by decide) ?_
      have hK9 := hK.sub (tys' := [(k_rd_tape, .int)]) [0] rfl
      exact W.zret (v := 1) hx hb hr rfl (fun t ht hW => ⟨⟨1, 1, rfl, rfl, at9_9, tk9_10, ts9_11, tv9_12, (by omega), (Or.inl ⟨rfl, xw_t h_tok s_3 (s_4.trans hc9), xgo h_tok hf_14⟩), by rw [ht]; exact hP.sub [0, 1] rfl, va_K.moved hW.alike hK9, hD.sub [0, 1] (by decide) rfl⟩, hS.F ht⟩) hS.2.2 dX7_takeWord_15
    · exact absurd c_6 (by decide)
  · skip
    refine lv_if_ne (tgt := 10) hx hb dX7_takeWord_5 (by decide) (fun c_15 => ?_) (fun c_15 => ?_)
    · exact absurd c_15 (by decide)
    refine lv_iconst (v := 0) hx hb dX7_takeWord_8 (by decide) ?_
    have hK9 := hK.sub (tys' := [(k_rd_tape, .int)]) [0] rfl
    exact W.zret (v := 0) hx hb hr rfl (fun t ht hW => ⟨⟨0, 0, rfl, rfl, at1, tk1, ts1, tv1, (by omega), (Or.inr ⟨rfl, xw_f h_tok (xnwd hc9 s_5), h_tok⟩), by rw [ht]; exact hP.sub [1, 0] rfl, va_K.moved hW.alike hK9, hD.sub [1, 0] (by decide) rfl⟩, hS.F ht⟩) hS.2.2 dX7_takeWord_9
set_option maxHeartbeats 4000000 in
set_option maxRecDepth 100000 in
theorem d7_miss (l : Launch) (dC : Nat → ClassId) (dI : Nat → Nat → Nat) (n0 : Nat) (atx : Nat → Nat × Nat) (sz : Nat) (rd : Nat) (rd_tape : Nat) (fd1 : Int32) (fa1 : Int32) (fp1 : Int32) (bk : Nat) (rd_names : Nat) (rd_nameKind : Nat) (rd_nameNumber : Nat) (nm : Nat) (rd_knotNames : Nat) (en : Nat) (at1 : Nat) (tk1 : Int32) (ts1 : Nat) (tv1 : Int64) (ny : Int32) : Met l yX7_miss (wM yX7_miss cX7_miss 2 (some .boolean)) ({ frames := 0, cells := 0, slots := 0, locals := 0 }) (va_Pc [.ref rd, .int ny] (fun U => U.heap.size = sz ∧ n0 ≤ sz ∧ GW n0 atx U ∧ va_P (dC, dI) classes [(rd, .inr (7, [.ref rd_tape, .int fd1, .int fa1, .int fp1, .ref bk, .ref rd_names, .ref rd_nameKind, .ref rd_nameNumber, .int (nI nm), .ref rd_knotNames, .int (nI en), .int (nI at1), .int tk1, .int (nI ts1), .long tv1]))] U.heap ∧ va_K (dC, dI) classes [] U ∧ va_D (fun q => n0 ≤ q) [(rd, .inr (7, [.ref rd_tape, .int fd1, .int fa1, .int fp1, .ref bk, .ref rd_names, .ref rd_nameKind, .ref rd_nameNumber, .int (nI nm), .ref rd_knotNames, .int (nI en), .int (nI at1), .int tk1, .int (nI ts1), .long tv1]))])) (va_Qi (fun (r : Int32) (_ : Unit) => r = 0) (fun (_ : Unit) (t : State) => ∃ (fa9 : Int32), ∃ (fp9 : Int32), (fa1 = 0 → fa9 = ny ∧ fp9 = nI ts1) ∧ (¬ fa1 = 0 → fa9 = fa1 ∧ fp9 = fp1) ∧ va_P (dC, dI) classes [(rd, .inr (7, [.ref rd_tape, .int fd1, .int fa9, .int fp9, .ref bk, .ref rd_names, .ref rd_nameKind, .ref rd_nameNumber, .int (nI nm), .ref rd_knotNames, .int (nI en), .int (nI at1), .int tk1, .int (nI ts1), .long tv1]))] t.heap ∧ va_K (dC, dI) classes [] t ∧ va_D (va_A [(rd, .inr (7, [.ref rd_tape, .int fd1, .int fa1, .int fp1, .ref bk, .ref rd_names, .ref rd_nameKind, .ref rd_nameNumber, .int (nI nm), .ref rd_knotNames, .int (nI en), .int (nI at1), .int tk1, .int (nI ts1), .long tv1]))] sz) [(rd, .inr (7, [.ref rd_tape, .int fd1, .int fa9, .int fp9, .ref bk, .ref rd_names, .ref rd_nameKind, .ref rd_nameNumber, .int (nI nm), .ref rd_knotNames, .int (nI en), .int (nI at1), .int tk1, .int (nI ts1), .long tv1]))]) (va_A [(rd, .inr (7, [.ref rd_tape, .int fd1, .int fa1, .int fp1, .ref bk, .ref rd_names, .ref rd_nameKind, .ref rd_nameNumber, .int (nI nm), .ref rd_knotNames, .int (nI en), .int (nI at1), .int tk1, .int (nI ts1), .long tv1]))] sz)) 0 0 (va_A [(rd, .inr (7, [.ref rd_tape, .int fd1, .int fa1, .int fp1, .ref bk, .ref rd_names, .ref rd_nameKind, .ref rd_nameNumber, .int (nI nm), .ref rd_knotNames, .int (nI en), .int (nI at1), .int tk1, .int (nI ts1), .long tv1]))] sz) := by
  refine Met.ofW (cc := cX7_miss) (maxL := 2) (ret := (some .boolean)) (by decide) rfl ?_
  intro p e s m args below meth c s₁ B hml hv
  obtain ⟨rfl, hsz, hn0, hG, hP, hK, hD0⟩ := hv
  have hx := B.exec
  have hb := B.bytes
  have hr := B.returns
  have hts := atoms_spec (ws := wM yX7_miss cX7_miss 2 (some .boolean)) B.pre
  have hown : s.vm.findClass RX7 = some m.cls := findClass_of_methodNamed B.named
  have hlocks := B.notSynchronized
  subst hsz
  have hD := hD0.self (sz := s.heap.size)
  have hA0 := vA_n0 hD0 hn0
  generalize hAe : va_A [(rd, .inr (7, [.ref rd_tape, .int fd1, .int fa1, .int fp1, .ref bk, .ref rd_names, .ref rd_nameKind, .ref rd_nameNumber, .int (nI nm), .ref rd_knotNames, .int (nI en), .int (nI at1), .int tk1, .int (nI ts1), .long tv1]))] s.heap.size = A at hD hA0 ⊢
  have hA : ∀ q : Nat, s.heap.size ≤ q → A q := fun q h => by rw [← hAe]; exact Or.inr h
  have hS : va_S A s.heap s.heap [] := va_S.rf
  have hl := lv_entry ([.ref rd, .int ny]) (n := 2) (Nat.le_of_ble_eq_true rfl)
  rw [lg_entry_eq]
  generalize (lg_sl ([.ref rd, .int ny]) ++ List.replicate (2 - (lg_sl ([.ref rd, .int ny])).length) Slot.unset).toArray = ls at hl ⊢
  have hl : lv_has ls 2 [(0, .ref rd), (1, .int ny)] := hl
  refine lv_aload_n hx hb dX7_miss_0 rfl (lv_at hl 0 rfl) ?_
  refine va_get (D := (dC, dI)) (ci := 7) (v := .int fa1) (C := RX7) (T := TX7) (N := 15) hx hb hts (fun w h => wM_c (iX7 w h)) hown hK hP 0 rfl rfl 2 (by decide) (hts _ (wM_c wd_337)) (fun _ h9 => h9) rfl dX7_miss_1 ?_
  refine lv_if_ne (tgt := 20) hx hb dX7_miss_4 (by decide) (fun c_1 => ?_) (fun c_1 => ?_)
  · skip
    have g_2 : fa1.toInt ≠ (0 : Int) := i_ne c_1
    refine lv_iconst (v := 0) hx hb dX7_miss_20 (by decide) ?_
    have hK9 := hK.sub (tys' := []) [] rfl
    exact W.zret (v := 0) hx hb hr rfl (fun t ht hW => ⟨⟨0, (), rfl, rfl, fa1, fp1, (fun h9 => absurd h9 c_1), (fun _ => ⟨rfl, rfl⟩), by rw [ht]; exact hP.sub [0] rfl, va_K.moved hW.alike hK9, hD.sub [0] (by decide) rfl⟩, hS.F ht⟩) hS.2.2 dX7_miss_21
  · skip
    have g_3 : fa1.toInt = (0 : Int) := i_eq c_1
    refine lv_aload_n hx hb dX7_miss_7 rfl (lv_at hl 0 rfl) ?_
    refine lv_iload_n hx hb dX7_miss_8 rfl (lv_at hl 1 rfl) ?_
    refine va_put (D := (dC, dI)) (ci := 7) (v := .int ny) (ty := .int) (C := RX7) (T := TX7) (N := 15) hx hb hts (fun w h => wM_c (iX7 w h)) tyX7 tyX7_ok nmX7 hown hK hP hD hS 0 rfl rfl 2 (by decide) (hts _ (wM_c wd_337)) (fun _ h9 => h9) rfl (by decide +kernel) rfl rfl (Nat.le_of_ble_eq_true rfl) dX7_miss_9 (fun H locs hP hD hS => ?_)
    obtain ⟨hP, hD⟩ : s3_w (dC, dI) classes A [(rd, .inr (7, [.ref rd_tape, .int fd1, .int ny, .int fp1, .ref bk, .ref rd_names, .ref rd_nameKind, .ref rd_nameNumber, .int (nI nm), .ref rd_knotNames, .int (nI en), .int (nI at1), .int tk1, .int (nI ts1), .long tv1]))] H := ⟨hP, hD⟩
    refine lv_aload_n hx hb dX7_miss_12 rfl (lv_at hl 0 rfl) ?_
    refine lv_aload_n hx hb dX7_miss_13 rfl (lv_at hl 0 rfl) ?_
    refine va_get (D := (dC, dI)) (ci := 7) (v := .int (nI ts1)) (C := RX7) (T := TX7) (N := 15) hx hb hts (fun w h => wM_c (iX7 w h)) hown hK hP 0 rfl rfl 13 (by decide) (hts _ (wM_c wd_349)) (fun _ h9 => h9) rfl dX7_miss_14 ?_
    refine va_put (D := (dC, dI)) (ci := 7) (v := .int (nI ts1)) (ty := .int) (C := RX7) (T := TX7) (N := 15) hx hb hts (fun w h => wM_c (iX7 w h)) tyX7 tyX7_ok nmX7 hown hK hP hD hS 0 rfl rfl 3 (by decide) (hts _ (wM_c wd_338)) (fun _ h9 => h9) rfl (by decide +kernel) rfl rfl (Nat.le_of_ble_eq_true rfl) dX7_miss_17 (fun H locs hP hD hS => ?_)
    obtain ⟨hP, hD⟩ : s3_w (dC, dI) classes A [(rd, .inr (7, [.ref rd_tape, .int fd1, .int ny, .int (nI ts1), .ref bk, .ref rd_names, .ref rd_nameKind, .ref rd_nameNumber, .int (nI nm), .ref rd_knotNames, .int (nI en), .int (nI at1), .int tk1, .int (nI ts1), .long tv1]))] H := ⟨hP, hD⟩
    refine lv_iconst (v := 0) hx hb dX7_miss_20 (by decide) ?_
    have hK9 := hK.sub (tys' := []) [] rfl
    exact W.zret (v := 0) hx hb hr rfl (fun t ht hW => ⟨⟨0, (), rfl, rfl, ny, (nI ts1), (fun _ => ⟨rfl, rfl⟩), (fun h9 => absurd c_1 h9), by rw [ht]; exact hP.sub [0] rfl, va_K.moved hW.alike hK9, hD.sub [0] (by decide) rfl⟩, hS.F ht⟩) hS.2.2 dX7_miss_21
set_option maxHeartbeats 4000000 in
set_option maxRecDepth 100000 in
theorem d7_nameIndex (l : Launch) (dC : Nat → ClassId) (dI : Nat → Nat → Nat) (n0 : Nat) (atx : Nat → Nat × Nat) (sz : Nat) (rd : Nat) (rd_tape : Nat) (fd1 : Int32) (fa1 : Int32) (fp1 : Int32) (bk : Nat) (rd_names : Nat) (rd_nameKind : Nat) (rd_nameNumber : Nat) (nm : Nat) (rd_knotNames : Nat) (en : Nat) (at1 : Nat) (tk1 : Int32) (ts1 : Nat) (tv1 : Int64) (k_rd_names : ClassId) (f_rd_names : Nat → Int64) (hcnt : nm ≤ 28) : Met l yX7_nameIndex (wM yX7_nameIndex cX7_nameIndex 2 (some .int)) ({ frames := 0, cells := 0, slots := 0, locals := 0 }) (va_Pc [.ref rd] (fun U => U.heap.size = sz ∧ n0 ≤ sz ∧ GW n0 atx U ∧ va_P (dC, dI) classes [(rd, .inr (7, [.ref rd_tape, .int fd1, .int fa1, .int fp1, .ref bk, .ref rd_names, .ref rd_nameKind, .ref rd_nameNumber, .int (nI nm), .ref rd_knotNames, .int (nI en), .int (nI at1), .int tk1, .int (nI ts1), .long tv1])), (rd_names, .inl (k_rd_names, 28, .inr (.inl f_rd_names)))] U.heap ∧ va_K (dC, dI) classes [(k_rd_names, .long)] U ∧ va_D (fun q => n0 ≤ q) [(rd, .inr (7, [.ref rd_tape, .int fd1, .int fa1, .int fp1, .ref bk, .ref rd_names, .ref rd_nameKind, .ref rd_nameNumber, .int (nI nm), .ref rd_knotNames, .int (nI en), .int (nI at1), .int tk1, .int (nI ts1), .long tv1])), (rd_names, .inl (k_rd_names, 28, .inr (.inl f_rd_names)))])) (va_Qi (fun (r : Int32) (_ : Unit) => (∃ k : Nat, k < nm ∧ r = nI k ∧ f_rd_names k = tv1 ∧ ∀ j, j < k → f_rd_names j ≠ tv1) ∨ (r = (-1) ∧ ∀ j, j < nm → f_rd_names j ≠ tv1)) (fun (_ : Unit) (t : State) => va_P (dC, dI) classes [(rd, .inr (7, [.ref rd_tape, .int fd1, .int fa1, .int fp1, .ref bk, .ref rd_names, .ref rd_nameKind, .ref rd_nameNumber, .int (nI nm), .ref rd_knotNames, .int (nI en), .int (nI at1), .int tk1, .int (nI ts1), .long tv1])), (rd_names, .inl (k_rd_names, 28, .inr (.inl f_rd_names)))] t.heap ∧ va_K (dC, dI) classes [(k_rd_names, .long)] t ∧ va_D (va_A [(rd, .inr (7, [.ref rd_tape, .int fd1, .int fa1, .int fp1, .ref bk, .ref rd_names, .ref rd_nameKind, .ref rd_nameNumber, .int (nI nm), .ref rd_knotNames, .int (nI en), .int (nI at1), .int tk1, .int (nI ts1), .long tv1])), (rd_names, .inl (k_rd_names, 28, .inr (.inl f_rd_names)))] sz) [(rd, .inr (7, [.ref rd_tape, .int fd1, .int fa1, .int fp1, .ref bk, .ref rd_names, .ref rd_nameKind, .ref rd_nameNumber, .int (nI nm), .ref rd_knotNames, .int (nI en), .int (nI at1), .int tk1, .int (nI ts1), .long tv1])), (rd_names, .inl (k_rd_names, 28, .inr (.inl f_rd_names)))]) (va_A [(rd, .inr (7, [.ref rd_tape, .int fd1, .int fa1, .int fp1, .ref bk, .ref rd_names, .ref rd_nameKind, .ref rd_nameNumber, .int (nI nm), .ref rd_knotNames, .int (nI en), .int (nI at1), .int tk1, .int (nI ts1), .long tv1])), (rd_names, .inl (k_rd_names, 28, .inr (.inl f_rd_names)))] sz)) 0 0 (va_A [(rd, .inr (7, [.ref rd_tape, .int fd1, .int fa1, .int fp1, .ref bk, .ref rd_names, .ref rd_nameKind, .ref rd_nameNumber, .int (nI nm), .ref rd_knotNames, .int (nI en), .int (nI at1), .int tk1, .int (nI ts1), .long tv1])), (rd_names, .inl (k_rd_names, 28, .inr (.inl f_rd_names)))] sz) := by
  refine Met.ofW (cc := cX7_nameIndex) (maxL := 2) (ret := (some .int)) (by decide) rfl ?_
  intro p e s m args below meth c s₁ B hml hv
  obtain ⟨rfl, hsz, hn0, hG, hP, hK, hD0⟩ := hv
  have hx := B.exec
  have hb := B.bytes
  have hr := B.returns
  have hts := atoms_spec (ws := wM yX7_nameIndex cX7_nameIndex 2 (some .int)) B.pre
  have hown : s.vm.findClass RX7 = some m.cls := findClass_of_methodNamed B.named
  have hlocks := B.notSynchronized
  subst hsz
  have hD := hD0.self (sz := s.heap.size)
  have hA0 := vA_n0 hD0 hn0
  generalize hAe : va_A [(rd, .inr (7, [.ref rd_tape, .int fd1, .int fa1, .int fp1, .ref bk, .ref rd_names, .ref rd_nameKind, .ref rd_nameNumber, .int (nI nm), .ref rd_knotNames, .int (nI en), .int (nI at1), .int tk1, .int (nI ts1), .long tv1])), (rd_names, .inl (k_rd_names, 28, .inr (.inl f_rd_names)))] s.heap.size = A at hD hA0 ⊢
  have hA : ∀ q : Nat, s.heap.size ≤ q → A q := fun q h => by rw [← hAe]; exact Or.inr h
  have hS : va_S A s.heap s.heap [] := va_S.rf
  have hl := lv_entry ([.ref rd]) (n := 2) (Nat.le_of_ble_eq_true rfl)
  rw [lg_entry_eq]
  generalize (lg_sl ([.ref rd]) ++ List.replicate (2 - (lg_sl ([.ref rd])).length) Slot.unset).toArray = ls at hl ⊢
  have hl : lv_has ls 2 [(0, .ref rd)] := hl
  refine lv_iconst (v := 0) hx hb dX7_nameIndex_0 (by decide) ?_
  refine lv_istore_n (lv' := [(1, .int 0), (0, .ref rd)]) hx hb dX7_nameIndex_1 rfl hl (by decide) rfl (fun ls hl => ?_)
  refine W_lp1 (I := fun (i : Nat) H locs ls => (i ≤ nm) ∧ (∀ j, j < i → f_rd_names j ≠ tv1) ∧ va_P (dC, dI) classes [(rd, .inr (7, [.ref rd_tape, .int fd1, .int fa1, .int fp1, .ref bk, .ref rd_names, .ref rd_nameKind, .ref rd_nameNumber, .int (nI nm), .ref rd_knotNames, .int (nI en), .int (nI at1), .int tk1, .int (nI ts1), .long tv1])), (rd_names, .inl (k_rd_names, 28, .inr (.inl f_rd_names)))] H ∧ va_D A [(rd, .inr (7, [.ref rd_tape, .int fd1, .int fa1, .int fp1, .ref bk, .ref rd_names, .ref rd_nameKind, .ref rd_nameNumber, .int (nI nm), .ref rd_knotNames, .int (nI en), .int (nI at1), .int tk1, .int (nI ts1), .long tv1])), (rd_names, .inl (k_rd_names, 28, .inr (.inl f_rd_names)))] ∧ va_S A s.heap H locs ∧ lv_has ls 2 [(0, .ref rd), (1, .int (nI i))]) (μ := fun (i : Nat) => nm - i) ?_ 0 _ _ _ ⟨(by first | with_reducible assumption | omega | exact vp_in_iff.mpr (by omega) | exact vp_in_nI (by omega) (by omega) | exact ⟨by omega, by omega⟩), (fun j hj => absurd hj (Nat.not_lt_zero j)), hP, hD, hS, lv_sub hl [1, 0] rfl⟩
  intro i H locs ls hI ih_1
  obtain ⟨hi, hf, hP, hD, hS, hl⟩ := hI
  refine lv_iload_n hx hb dX7_nameIndex_2 rfl (lv_at hl 1 rfl) ?_
  refine lv_aload_n hx hb dX7_nameIndex_3 rfl (lv_at hl 0 rfl) ?_
  refine va_get (D := (dC, dI)) (ci := 7) (v := .int (nI nm)) (C := RX7) (T := TX7) (N := 15) hx hb hts (fun w h => wM_c (iX7 w h)) hown hK hP 0 rfl rfl 8 (by decide) (hts _ (wM_c wd_344)) (fun _ h9 => h9) rfl dX7_nameIndex_4 ?_
  refine lv_icmp_ge (tgt := 32) hx hb dX7_nameIndex_7 (by decide) (fun c_2 => ?_) (fun c_2 => ?_)
  · skip
    have g_3 := n_ge (a := i) (b := nm) c_2 (by omega) (by omega)
    refine lv_iconst (v := (-1)) hx hb dX7_nameIndex_32 (by decide) ?_
    have hK9 := hK.sub (tys' := [(k_rd_names, .long)]) [0] rfl
    exact W.iret (v := (-1)) hx hb hr (fun t ht hW => ⟨⟨(-1), (), rfl, (Or.inr ⟨rfl, fun j hj => hf j (by omega)⟩), by rw [ht]; exact hP.sub [0, 1] rfl, va_K.moved hW.alike hK9, hD.sub [0, 1] (by decide) rfl⟩, hS.F ht⟩) hS.2.2 dX7_nameIndex_33
  · skip
    have g_4 := n_nge (a := i) (b := nm) c_2 (by omega) (by omega)
    refine lv_aload_n hx hb dX7_nameIndex_10 rfl (lv_at hl 0 rfl) ?_
    refine va_get (D := (dC, dI)) (ci := 7) (v := .ref rd_names) (C := RX7) (T := TX7) (N := 15) hx hb hts (fun w h => wM_c (iX7 w h)) hown hK hP 0 rfl rfl 5 (by decide) (hts _ (wM_c wd_341)) (fun _ h9 => h9) rfl dX7_nameIndex_11 ?_
    refine lv_iload_n hx hb dX7_nameIndex_14 rfl (lv_at hl 1 rfl) ?_
    refine va_lald hx hb hK hP 1 0 rfl rfl (vp_in_nI (n := i) (by omega) (by omega)) dX7_nameIndex_15 ?_
    refine lv_topl (fun v_5 ev_5 => ?_)
    have nv_5 : v_5 = f_rd_names i := by rw [ev_5]; exact congrArg _ (nI_clamp (by omega))
    refine lv_aload_n hx hb dX7_nameIndex_16 rfl (lv_at hl 0 rfl) ?_
    refine va_get (D := (dC, dI)) (ci := 7) (v := .long tv1) (C := RX7) (T := TX7) (N := 15) hx hb hts (fun w h => wM_c (iX7 w h)) hown hK hP 0 rfl rfl 14 (by decide) (hts _ (wM_c wd_350)) (fun _ h9 => h9) rfl dX7_nameIndex_17 ?_
    refine W.lcmp hx hb dX7_nameIndex_20 ?_
    refine lv_topi (fun v_6 ev_6 => ?_)
    refine lv_if_ne (tgt := 26) hx hb dX7_nameIndex_21 (by decide) (fun c_7 => ?_) (fun c_7 => ?_)
    · skip
      have g_8 : ¬ v_5 = tv1 := fun q9 => c_7 (by rw [ev_6]; exact (lg_cmp_eq v_5 tv1).mpr q9)
      refine lv_iinc (v := (nI (i + 1))) (lv' := [(1, .int (nI (i + 1))), (0, .ref rd)]) hx hb dX7_nameIndex_26 hl (k := 1) rfl (nI_add _ 1) (by decide) rfl (fun ls hl => ?_)
      refine lv_goto (tgt := 2) hx hb dX7_nameIndex_29 (by decide) ?_
      exact ih_1 (i + 1) _ _ _ ⟨(by first | with_reducible assumption | omega | exact vp_in_iff.mpr (by omega) | exact vp_in_nI (by omega) (by omega) | exact ⟨by omega, by omega⟩), (lt_s hf (fun q9 => g_8 (nv_5.trans q9))), hP.sub [0, 1] rfl, hD.sub [0, 1] (by decide) rfl, hS, lv_sub hl [1, 0] rfl⟩ (by omega)
    · skip
      have g_9 : v_5 = tv1 := (lg_cmp_eq v_5 tv1).mp (by rw [← ev_6]; exact c_7)
      refine lv_iload_n hx hb dX7_nameIndex_24 rfl (lv_at hl 1 rfl) ?_
      have hK9 := hK.sub (tys' := [(k_rd_names, .long)]) [0] rfl
      exact W.iret (v := (nI i)) hx hb hr (fun t ht hW => ⟨⟨(nI i), (), rfl, (Or.inl ⟨i, by omega, rfl, nv_5.symm.trans g_9, hf⟩), by rw [ht]; exact hP.sub [0, 1] rfl, va_K.moved hW.alike hK9, hD.sub [0, 1] (by decide) rfl⟩, hS.F ht⟩) hS.2.2 dX7_nameIndex_25
set_option maxHeartbeats 4000000 in
set_option maxRecDepth 100000 in
theorem d7_knotNumber (l : Launch) (dC : Nat → ClassId) (dI : Nat → Nat → Nat) (n0 : Nat) (atx : Nat → Nat × Nat) (sz : Nat) (rd : Nat) (rd_tape : Nat) (fd1 : Int32) (fa1 : Int32) (fp1 : Int32) (bk : Nat) (rd_names : Nat) (rd_nameKind : Nat) (rd_nameNumber : Nat) (nm : Nat) (rd_knotNames : Nat) (en : Nat) (at1 : Nat) (tk1 : Int32) (ts1 : Nat) (tv1 : Int64) (bw : Nat) (bk_tail : Nat) (bk_head : Nat) (bk_hinder : Nat) (bk_size : Nat) (bk_walk : Nat) (bk_draught : Nat) (bk_doorIn : Nat) (bk_fanIn : Nat) (bk_faceIn : Nat) (bn : Nat) (bk_day : Int32) (gr : Nat) (k_rd_knotNames : ClassId) (f_rd_knotNames : Nat → Int64) (hbw : bw ≤ 14) (hbn : bn ≤ 10) (q_day : -1 ≤ bk_day.toInt ∧ bk_day.toInt < 10) (hcnt : bn ≤ 10) : Met l yX7_knotNumber (wM yX7_knotNumber cX7_knotNumber 2 (some .int)) ({ frames := 0, cells := 0, slots := 0, locals := 0 }) (va_Pc [.ref rd] (fun U => U.heap.size = sz ∧ n0 ≤ sz ∧ GW n0 atx U ∧ va_P (dC, dI) classes [(rd, .inr (7, [.ref rd_tape, .int fd1, .int fa1, .int fp1, .ref bk, .ref rd_names, .ref rd_nameKind, .ref rd_nameNumber, .int (nI nm), .ref rd_knotNames, .int (nI en), .int (nI at1), .int tk1, .int (nI ts1), .long tv1])), (bk, .inr (0, [.int (nI bw), .ref bk_tail, .ref bk_head, .ref bk_hinder, .ref bk_size, .ref bk_walk, .ref bk_draught, .ref bk_doorIn, .ref bk_fanIn, .ref bk_faceIn, .int (nI bn), .int bk_day, .ref gr])), (rd_knotNames, .inl (k_rd_knotNames, 10, .inr (.inl f_rd_knotNames)))] U.heap ∧ va_K (dC, dI) classes [(k_rd_knotNames, .long)] U ∧ va_D (fun q => n0 ≤ q) [(rd, .inr (7, [.ref rd_tape, .int fd1, .int fa1, .int fp1, .ref bk, .ref rd_names, .ref rd_nameKind, .ref rd_nameNumber, .int (nI nm), .ref rd_knotNames, .int (nI en), .int (nI at1), .int tk1, .int (nI ts1), .long tv1])), (bk, .inr (0, [.int (nI bw), .ref bk_tail, .ref bk_head, .ref bk_hinder, .ref bk_size, .ref bk_walk, .ref bk_draught, .ref bk_doorIn, .ref bk_fanIn, .ref bk_faceIn, .int (nI bn), .int bk_day, .ref gr])), (rd_knotNames, .inl (k_rd_knotNames, 10, .inr (.inl f_rd_knotNames)))])) (va_Qi (fun (r : Int32) (_ : Unit) => (∃ k : Nat, k < bn ∧ r = nI k ∧ f_rd_knotNames k = tv1 ∧ ∀ j, j < k → f_rd_knotNames j ≠ tv1) ∨ (r = (-1) ∧ ∀ j, j < bn → f_rd_knotNames j ≠ tv1)) (fun (_ : Unit) (t : State) => va_P (dC, dI) classes [(rd, .inr (7, [.ref rd_tape, .int fd1, .int fa1, .int fp1, .ref bk, .ref rd_names, .ref rd_nameKind, .ref rd_nameNumber, .int (nI nm), .ref rd_knotNames, .int (nI en), .int (nI at1), .int tk1, .int (nI ts1), .long tv1])), (bk, .inr (0, [.int (nI bw), .ref bk_tail, .ref bk_head, .ref bk_hinder, .ref bk_size, .ref bk_walk, .ref bk_draught, .ref bk_doorIn, .ref bk_fanIn, .ref bk_faceIn, .int (nI bn), .int bk_day, .ref gr])), (rd_knotNames, .inl (k_rd_knotNames, 10, .inr (.inl f_rd_knotNames)))] t.heap ∧ va_K (dC, dI) classes [(k_rd_knotNames, .long)] t ∧ va_D (va_A [(rd, .inr (7, [.ref rd_tape, .int fd1, .int fa1, .int fp1, .ref bk, .ref rd_names, .ref rd_nameKind, .ref rd_nameNumber, .int (nI nm), .ref rd_knotNames, .int (nI en), .int (nI at1), .int tk1, .int (nI ts1), .long tv1])), (bk, .inr (0, [.int (nI bw), .ref bk_tail, .ref bk_head, .ref bk_hinder, .ref bk_size, .ref bk_walk, .ref bk_draught, .ref bk_doorIn, .ref bk_fanIn, .ref bk_faceIn, .int (nI bn), .int bk_day, .ref gr])), (rd_knotNames, .inl (k_rd_knotNames, 10, .inr (.inl f_rd_knotNames)))] sz) [(rd, .inr (7, [.ref rd_tape, .int fd1, .int fa1, .int fp1, .ref bk, .ref rd_names, .ref rd_nameKind, .ref rd_nameNumber, .int (nI nm), .ref rd_knotNames, .int (nI en), .int (nI at1), .int tk1, .int (nI ts1), .long tv1])), (bk, .inr (0, [.int (nI bw), .ref bk_tail, .ref bk_head, .ref bk_hinder, .ref bk_size, .ref bk_walk, .ref bk_draught, .ref bk_doorIn, .ref bk_fanIn, .ref bk_faceIn, .int (nI bn), .int bk_day, .ref gr])), (rd_knotNames, .inl (k_rd_knotNames, 10, .inr (.inl f_rd_knotNames)))]) (va_A [(rd, .inr (7, [.ref rd_tape, .int fd1, .int fa1, .int fp1, .ref bk, .ref rd_names, .ref rd_nameKind, .ref rd_nameNumber, .int (nI nm), .ref rd_knotNames, .int (nI en), .int (nI at1), .int tk1, .int (nI ts1), .long tv1])), (bk, .inr (0, [.int (nI bw), .ref bk_tail, .ref bk_head, .ref bk_hinder, .ref bk_size, .ref bk_walk, .ref bk_draught, .ref bk_doorIn, .ref bk_fanIn, .ref bk_faceIn, .int (nI bn), .int bk_day, .ref gr])), (rd_knotNames, .inl (k_rd_knotNames, 10, .inr (.inl f_rd_knotNames)))] sz)) 0 0 (va_A [(rd, .inr (7, [.ref rd_tape, .int fd1, .int fa1, .int fp1, .ref bk, .ref rd_names, .ref rd_nameKind, .ref rd_nameNumber, .int (nI nm), .ref rd_knotNames, .int (nI en), .int (nI at1), .int tk1, .int (nI ts1), .long tv1])), (bk, .inr (0, [.int (nI bw), .ref bk_tail, .ref bk_head, .ref bk_hinder, .ref bk_size, .ref bk_walk, .ref bk_draught, .ref bk_doorIn, .ref bk_fanIn, .ref bk_faceIn, .int (nI bn), .int bk_day, .ref gr])), (rd_knotNames, .inl (k_rd_knotNames, 10, .inr (.inl f_rd_knotNames)))] sz) := by
  refine Met.ofW (cc := cX7_knotNumber) (maxL := 2) (ret := (some .int)) (by decide) rfl ?_
  intro p e s m args below meth c s₁ B hml hv
  obtain ⟨rfl, hsz, hn0, hG, hP, hK, hD0⟩ := hv
  have hx := B.exec
  have hb := B.bytes
  have hr := B.returns
  have hts := atoms_spec (ws := wM yX7_knotNumber cX7_knotNumber 2 (some .int)) B.pre
  have hown : s.vm.findClass RX7 = some m.cls := findClass_of_methodNamed B.named
  have hlocks := B.notSynchronized
  subst hsz
  have hD := hD0.self (sz := s.heap.size)
  have hA0 := vA_n0 hD0 hn0
  generalize hAe : va_A [(rd, .inr (7, [.ref rd_tape, .int fd1, .int fa1, .int fp1, .ref bk, .ref rd_names, .ref rd_nameKind, .ref rd_nameNumber, .int (nI nm), .ref rd_knotNames, .int (nI en), .int (nI at1), .int tk1, .int (nI ts1), .long tv1])), (bk, .inr (0, [.int (nI bw), .ref bk_tail, .ref bk_head, .ref bk_hinder, .ref bk_size, .ref bk_walk, .ref bk_draught, .ref bk_doorIn, .ref bk_fanIn, .ref bk_faceIn, .int (nI bn), .int bk_day, .ref gr])), (rd_knotNames, .inl (k_rd_knotNames, 10, .inr (.inl f_rd_knotNames)))] s.heap.size = A at hD hA0 ⊢
  have hA : ∀ q : Nat, s.heap.size ≤ q → A q := fun q h => by rw [← hAe]; exact Or.inr h
  have hS : va_S A s.heap s.heap [] := va_S.rf
  have hl := lv_entry ([.ref rd]) (n := 2) (Nat.le_of_ble_eq_true rfl)
  rw [lg_entry_eq]
  generalize (lg_sl ([.ref rd]) ++ List.replicate (2 - (lg_sl ([.ref rd])).length) Slot.unset).toArray = ls at hl ⊢
  have hl : lv_has ls 2 [(0, .ref rd)] := hl
  refine lv_iconst (v := 0) hx hb dX7_knotNumber_0 (by decide) ?_
  refine lv_istore_n (lv' := [(1, .int 0), (0, .ref rd)]) hx hb dX7_knotNumber_1 rfl hl (by decide) rfl (fun ls hl => ?_)
  refine W_lp1 (I := fun (i : Nat) H locs ls => (i ≤ bn) ∧ (∀ j, j < i → f_rd_knotNames j ≠ tv1) ∧ va_P (dC, dI) classes [(rd, .inr (7, [.ref rd_tape, .int fd1, .int fa1, .int fp1, .ref bk, .ref rd_names, .ref rd_nameKind, .ref rd_nameNumber, .int (nI nm), .ref rd_knotNames, .int (nI en), .int (nI at1), .int tk1, .int (nI ts1), .long tv1])), (bk, .inr (0, [.int (nI bw), .ref bk_tail, .ref bk_head, .ref bk_hinder, .ref bk_size, .ref bk_walk, .ref bk_draught, .ref bk_doorIn, .ref bk_fanIn, .ref bk_faceIn, .int (nI bn), .int bk_day, .ref gr])), (rd_knotNames, .inl (k_rd_knotNames, 10, .inr (.inl f_rd_knotNames)))] H ∧ va_D A [(rd, .inr (7, [.ref rd_tape, .int fd1, .int fa1, .int fp1, .ref bk, .ref rd_names, .ref rd_nameKind, .ref rd_nameNumber, .int (nI nm), .ref rd_knotNames, .int (nI en), .int (nI at1), .int tk1, .int (nI ts1), .long tv1])), (bk, .inr (0, [.int (nI bw), .ref bk_tail, .ref bk_head, .ref bk_hinder, .ref bk_size, .ref bk_walk, .ref bk_draught, .ref bk_doorIn, .ref bk_fanIn, .ref bk_faceIn, .int (nI bn), .int bk_day, .ref gr])), (rd_knotNames, .inl (k_rd_knotNames, 10, .inr (.inl f_rd_knotNames)))] ∧ va_S A s.heap H locs ∧ lv_has ls 2 [(0, .ref rd), (1, .int (nI i))]) (μ := fun (i : Nat) => bn - i) ?_ 0 _ _ _ ⟨(by first | with_reducible assumption | omega | exact vp_in_iff.mpr (by omega) | exact vp_in_nI (by omega) (by omega) | exact ⟨by omega, by omega⟩), (fun j hj => absurd hj (Nat.not_lt_zero j)), hP, hD, hS, lv_sub hl [1, 0] rfl⟩
  intro i H locs ls hI ih_1
  obtain ⟨hi, hf, hP, hD, hS, hl⟩ := hI
  refine lv_iload_n hx hb dX7_knotNumber_2 rfl (lv_at hl 1 rfl) ?_
  refine lv_aload_n hx hb dX7_knotNumber_3 rfl (lv_at hl 0 rfl) ?_
  refine va_get (D := (dC, dI)) (ci := 7) (v := .ref bk) (C := RX7) (T := TX7) (N := 15) hx hb hts (fun w h => wM_c (iX7 w h)) hown hK hP 0 rfl rfl 4 (by decide) (hts _ (wM_c wd_340)) (fun _ h9 => h9) rfl dX7_knotNumber_4 ?_
  refine va_get (D := (dC, dI)) (ci := 0) (v := .int (nI bn)) (C := RX0) (T := TX0) (N := 13) hx hb hts (fun w h => wM_c (iX0 w h)) hown hK hP 1 rfl rfl 10 (by decide) (hts _ (wM_c wd_286)) (fun _ h9 => h9) rfl dX7_knotNumber_7 ?_
  refine lv_icmp_ge (tgt := 35) hx hb dX7_knotNumber_10 (by decide) (fun c_2 => ?_) (fun c_2 => ?_)
  · skip
    have g_3 := n_ge (a := i) (b := bn) c_2 (by omega) (by omega)
    refine lv_iconst (v := (-1)) hx hb dX7_knotNumber_35 (by decide) ?_
    have hK9 := hK.sub (tys' := [(k_rd_knotNames, .long)]) [0] rfl
    exact W.iret (v := (-1)) hx hb hr (fun t ht hW => ⟨⟨(-1), (), rfl, (Or.inr ⟨rfl, fun j hj => hf j (by omega)⟩), by rw [ht]; exact hP.sub [0, 1, 2] rfl, va_K.moved hW.alike hK9, hD.sub [0, 1, 2] (by decide) rfl⟩, hS.F ht⟩) hS.2.2 dX7_knotNumber_36
  · skip
    have g_4 := n_nge (a := i) (b := bn) c_2 (by omega) (by omega)
    refine lv_aload_n hx hb dX7_knotNumber_13 rfl (lv_at hl 0 rfl) ?_
    refine va_get (D := (dC, dI)) (ci := 7) (v := .ref rd_knotNames) (C := RX7) (T := TX7) (N := 15) hx hb hts (fun w h => wM_c (iX7 w h)) hown hK hP 0 rfl rfl 9 (by decide) (hts _ (wM_c wd_345)) (fun _ h9 => h9) rfl dX7_knotNumber_14 ?_
    refine lv_iload_n hx hb dX7_knotNumber_17 rfl (lv_at hl 1 rfl) ?_
    refine va_lald hx hb hK hP 2 0 rfl rfl (vp_in_nI (n := i) (by omega) (by omega)) dX7_knotNumber_18 ?_
    refine lv_topl (fun v_5 ev_5 => ?_)
    have nv_5 : v_5 = f_rd_knotNames i := by rw [ev_5]; exact congrArg _ (nI_clamp (by omega))
    refine lv_aload_n hx hb dX7_knotNumber_19 rfl (lv_at hl 0 rfl) ?_
    refine va_get (D := (dC, dI)) (ci := 7) (v := .long tv1) (C := RX7) (T := TX7) (N := 15) hx hb hts (fun w h => wM_c (iX7 w h)) hown hK hP 0 rfl rfl 14 (by decide) (hts _ (wM_c wd_350)) (fun _ h9 => h9) rfl dX7_knotNumber_20 ?_
    refine W.lcmp hx hb dX7_knotNumber_23 ?_
    refine lv_topi (fun v_6 ev_6 => ?_)
    refine lv_if_ne (tgt := 29) hx hb dX7_knotNumber_24 (by decide) (fun c_7 => ?_) (fun c_7 => ?_)
    · skip
      have g_8 : ¬ v_5 = tv1 := fun q9 => c_7 (by rw [ev_6]; exact (lg_cmp_eq v_5 tv1).mpr q9)
      refine lv_iinc (v := (nI (i + 1))) (lv' := [(1, .int (nI (i + 1))), (0, .ref rd)]) hx hb dX7_knotNumber_29 hl (k := 1) rfl (nI_add _ 1) (by decide) rfl (fun ls hl => ?_)
      refine lv_goto (tgt := 2) hx hb dX7_knotNumber_32 (by decide) ?_
      exact ih_1 (i + 1) _ _ _ ⟨(by first | with_reducible assumption | omega | exact vp_in_iff.mpr (by omega) | exact vp_in_nI (by omega) (by omega) | exact ⟨by omega, by omega⟩), (lt_s hf (fun q9 => g_8 (nv_5.trans q9))), hP.sub [0, 1, 2] rfl, hD.sub [0, 1, 2] (by decide) rfl, hS, lv_sub hl [1, 0] rfl⟩ (by omega)
    · skip
      have g_9 : v_5 = tv1 := (lg_cmp_eq v_5 tv1).mp (by rw [← ev_6]; exact c_7)
      refine lv_iload_n hx hb dX7_knotNumber_27 rfl (lv_at hl 1 rfl) ?_
      have hK9 := hK.sub (tys' := [(k_rd_knotNames, .long)]) [0] rfl
      exact W.iret (v := (nI i)) hx hb hr (fun t ht hW => ⟨⟨(nI i), (), rfl, (Or.inl ⟨i, by omega, rfl, nv_5.symm.trans g_9, hf⟩), by rw [ht]; exact hP.sub [0, 1, 2] rfl, va_K.moved hW.alike hK9, hD.sub [0, 1, 2] (by decide) rfl⟩, hS.F ht⟩) hS.2.2 dX7_knotNumber_28
