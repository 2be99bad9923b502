set_option maxHeartbeats 4000000 in
set_option maxRecDepth 100000 in
theorem d7_takeNewName (l : Launch) (dC : Nat → ClassId) (dI : Nat → Nat → Nat) (n0 : Nat) (atx : Nat → Nat × Nat) (sz : Nat) (rd : Nat) (rd_tape : Nat) (fd1 : Int32) (fa1 : Int32) (fp1 : Int32) (bk : Nat) (rd_names : Nat) (rd_nameKind : Nat) (rd_nameNumber : Nat) (nm : Nat) (rd_knotNames : Nat) (en : Nat) (at1 : Nat) (tk1 : Int32) (ts1 : Nat) (tv1 : Int64) (k_rd_tape : ClassId) (f_rd_tape : Nat → Int32) (k_rd_names : ClassId) (f_rd_names : Nat → Int64) (k_rd_nameKind : ClassId) (f_rd_nameKind : Nat → Int32) (k_rd_nameNumber : ClassId) (f_rd_nameNumber : Nat → Int32) (nu : Nat) (ki : Int32) (ro : Int32) (fu : Int32) (T : Nat → Int32) (a0 : Nat) (h_en : en ≤ 600) (h_at : at1 ≤ en) (hT : ∀ k, k < en → f_rd_tape k = T k) (h_nm : nm ≤ 28) (h_ni : nmI f_rd_nameKind f_rd_nameNumber) (h_wo : (ki = 0 → ro.toInt ≤ 14) ∧ (ki = 1 → ro.toInt ≤ 6)) (h_ro : 0 < ro.toInt ∧ ro.toInt ≤ 14) (h_nu : nu ≤ 14) (h_fu : (fu = 0 ∧ (nu : Int) < ro.toInt) ∨ (¬ fu = 0 ∧ ro.toInt ≤ (nu : Int))) (h_28 : 28 ≤ nm → ro.toInt ≤ (nu : Int)) (h_tok : fa1 = 0 → xTk T en a0 ts1 at1 tk1 tv1) : Met l yX7_takeNewName (wM yX7_takeNewName cX7_takeNewName 4 (some .int)) ({ frames := 7, cells := 0, slots := 0, locals := 149 }) (va_Pc [.ref rd, .int ki, .int (nI nu), .int ro] (fun U => U.heap.size = sz ∧ n0 ≤ sz ∧ GW n0 atx U ∧ va_P (dC, dI) classes [(rd, .inr (7, [.ref rd_tape, .int fd1, .int fa1, .int fp1, .ref bk, .ref rd_names, .ref rd_nameKind, .ref rd_nameNumber, .int (nI nm), .ref rd_knotNames, .int (nI en), .int (nI at1), .int tk1, .int (nI ts1), .long tv1])), (rd_tape, .inl (k_rd_tape, 600, .inl f_rd_tape)), (rd_names, .inl (k_rd_names, 28, .inr (.inl f_rd_names))), (rd_nameKind, .inl (k_rd_nameKind, 28, .inl f_rd_nameKind)), (rd_nameNumber, .inl (k_rd_nameNumber, 28, .inl f_rd_nameNumber))] U.heap ∧ va_K (dC, dI) classes [(k_rd_tape, .int), (k_rd_names, .long), (k_rd_nameKind, .int), (k_rd_nameNumber, .int)] U ∧ va_D (fun q => n0 ≤ q) [(rd, .inr (7, [.ref rd_tape, .int fd1, .int fa1, .int fp1, .ref bk, .ref rd_names, .ref rd_nameKind, .ref rd_nameNumber, .int (nI nm), .ref rd_knotNames, .int (nI en), .int (nI at1), .int tk1, .int (nI ts1), .long tv1])), (rd_tape, .inl (k_rd_tape, 600, .inl f_rd_tape)), (rd_names, .inl (k_rd_names, 28, .inr (.inl f_rd_names))), (rd_nameKind, .inl (k_rd_nameKind, 28, .inl f_rd_nameKind)), (rd_nameNumber, .inl (k_rd_nameNumber, 28, .inl f_rd_nameNumber))])) (va_Qi (fun (r : Int32) (rk9 : Int32) => r = rk9) (fun (rk9 : Int32) (t : State) => ∃ (nm9 : Nat), ∃ (fa9 : Int32), ∃ (fp9 : Int32), ∃ (at9 : Nat), ∃ (tk9 : Int32), ∃ (ts9 : Nat), ∃ (tv9 : Int64), ∃ (na9 : Nat → Int64), ∃ (nk9 : Nat → Int32), ∃ (nn9 : Nat → Int32), ∃ (ps9 : Nat), ∃ (wl9 : Int64), (at9 ≤ en) ∧ (nm9 ≤ 28) ∧ (nmI nk9 nn9) ∧ (0 ≤ rk9.toInt ∧ rk9.toInt < ro.toInt) ∧ (fa9 = 0 → (nu : Int) < ro.toInt) ∧ (CK fa1 fp1 fa9 fp9 (fFresh T en a0 nm f_rd_names fu) (ps9, wl9) (xTk T en ps9 ts9 at9 tk9 tv9 ∧ nm9 = nm + 1 ∧ na9 = vp_updL f_rd_names nm wl9 ∧ nk9 = upd f_rd_nameKind nm ki ∧ nn9 = upd f_rd_nameNumber nm (nI nu) ∧ rk9 = nI nu)) ∧ va_P (dC, dI) classes [(rd, .inr (7, [.ref rd_tape, .int fd1, .int fa9, .int fp9, .ref bk, .ref rd_names, .ref rd_nameKind, .ref rd_nameNumber, .int (nI nm9), .ref rd_knotNames, .int (nI en), .int (nI at9), .int tk9, .int (nI ts9), .long tv9])), (rd_tape, .inl (k_rd_tape, 600, .inl f_rd_tape)), (rd_names, .inl (k_rd_names, 28, .inr (.inl na9))), (rd_nameKind, .inl (k_rd_nameKind, 28, .inl nk9)), (rd_nameNumber, .inl (k_rd_nameNumber, 28, .inl nn9))] t.heap ∧ va_K (dC, dI) classes [(k_rd_tape, .int), (k_rd_names, .long), (k_rd_nameKind, .int), (k_rd_nameNumber, .int)] t ∧ va_D (va_A [(rd, .inr (7, [.ref rd_tape, .int fd1, .int fa1, .int fp1, .ref bk, .ref rd_names, .ref rd_nameKind, .ref rd_nameNumber, .int (nI nm), .ref rd_knotNames, .int (nI en), .int (nI at1), .int tk1, .int (nI ts1), .long tv1])), (rd_tape, .inl (k_rd_tape, 600, .inl f_rd_tape)), (rd_names, .inl (k_rd_names, 28, .inr (.inl f_rd_names))), (rd_nameKind, .inl (k_rd_nameKind, 28, .inl f_rd_nameKind)), (rd_nameNumber, .inl (k_rd_nameNumber, 28, .inl f_rd_nameNumber))] sz) [(rd, .inr (7, [.ref rd_tape, .int fd1, .int fa9, .int fp9, .ref bk, .ref rd_names, .ref rd_nameKind, .ref rd_nameNumber, .int (nI nm9), .ref rd_knotNames, .int (nI en), .int (nI at9), .int tk9, .int (nI ts9), .long tv9])), (rd_tape, .inl (k_rd_tape, 600, .inl f_rd_tape)), (rd_names, .inl (k_rd_names, 28, .inr (.inl na9))), (rd_nameKind, .inl (k_rd_nameKind, 28, .inl nk9)), (rd_nameNumber, .inl (k_rd_nameNumber, 28, .inl nn9))]) (va_A [(rd, .inr (7, [.ref rd_tape, .int fd1, .int fa1, .int fp1, .ref bk, .ref rd_names, .ref rd_nameKind, .ref rd_nameNumber, .int (nI nm), .ref rd_knotNames, .int (nI en), .int (nI at1), .int tk1, .int (nI ts1), .long tv1])), (rd_tape, .inl (k_rd_tape, 600, .inl f_rd_tape)), (rd_names, .inl (k_rd_names, 28, .inr (.inl f_rd_names))), (rd_nameKind, .inl (k_rd_nameKind, 28, .inl f_rd_nameKind)), (rd_nameNumber, .inl (k_rd_nameNumber, 28, .inl f_rd_nameNumber))] sz)) 0 0 (va_A [(rd, .inr (7, [.ref rd_tape, .int fd1, .int fa1, .int fp1, .ref bk, .ref rd_names, .ref rd_nameKind, .ref rd_nameNumber, .int (nI nm), .ref rd_knotNames, .int (nI en), .int (nI at1), .int tk1, .int (nI ts1), .long tv1])), (rd_tape, .inl (k_rd_tape, 600, .inl f_rd_tape)), (rd_names, .inl (k_rd_names, 28, .inr (.inl f_rd_names))), (rd_nameKind, .inl (k_rd_nameKind, 28, .inl f_rd_nameKind)), (rd_nameNumber, .inl (k_rd_nameNumber, 28, .inl f_rd_nameNumber))] sz) := by
  refine Met.ofW (cc := cX7_takeNewName) (maxL := 4) (ret := (some .int)) (by decide) rfl ?_
  intro p e s m args below meth c s₁ B hml hv
  obtain ⟨rfl, hsz, hn0, hG, hP, hK, hD0⟩ := hv
  have hx := B.exec
  have hb := B.bytes
  have hr := B.returns
  have hts := atoms_spec (ws := wM yX7_takeNewName cX7_takeNewName 4 (some .int)) B.pre
  have hown : s.vm.findClass RX7 = some m.cls := findClass_of_methodNamed B.named
  have hlocks := B.notSynchronized
  subst hsz
  have hD := hD0.self (sz := s.heap.size)
  have hA0 := vA_n0 hD0 hn0
  generalize hAe : va_A [(rd, .inr (7, [.ref rd_tape, .int fd1, .int fa1, .int fp1, .ref bk, .ref rd_names, .ref rd_nameKind, .ref rd_nameNumber, .int (nI nm), .ref rd_knotNames, .int (nI en), .int (nI at1), .int tk1, .int (nI ts1), .long tv1])), (rd_tape, .inl (k_rd_tape, 600, .inl f_rd_tape)), (rd_names, .inl (k_rd_names, 28, .inr (.inl f_rd_names))), (rd_nameKind, .inl (k_rd_nameKind, 28, .inl f_rd_nameKind)), (rd_nameNumber, .inl (k_rd_nameNumber, 28, .inl f_rd_nameNumber))] s.heap.size = A at hD hA0 ⊢
  have hA : ∀ q : Nat, s.heap.size ≤ q → A q := fun q h => by rw [← hAe]; exact Or.inr h
  have hS : va_S A s.heap s.heap [] := va_S.rf
  have hl := lv_entry ([.ref rd, .int ki, .int (nI nu), .int ro]) (n := 4) (Nat.le_of_ble_eq_true rfl)
  rw [lg_entry_eq]
  generalize (lg_sl ([.ref rd, .int ki, .int (nI nu), .int ro]) ++ List.replicate (4 - (lg_sl ([.ref rd, .int ki, .int (nI nu), .int ro])).length) Slot.unset).toArray = ls at hl ⊢
  have hl : lv_has ls 4 [(0, .ref rd), (1, .int ki), (2, .int (nI nu)), (3, .int ro)] := hl
  refine lv_aload_n hx hb dX7_takeNewName_0 rfl (lv_at hl 0 rfl) ?_
  refine va_get (D := (dC, dI)) (ci := 7) (v := .int fa1) (C := RX7) (T := TX7) (N := 15) hx hb hts (fun w h => wM_c (iX7 w h)) hown hK hP 0 rfl rfl 2 (by decide) (hts _ (wM_c wd_337)) (fun _ h9 => h9) rfl dX7_takeNewName_1 ?_
  refine lv_if_eq (tgt := 9) hx hb dX7_takeNewName_4 (by decide) (fun c_1 => ?_) (fun c_1 => ?_)
  · skip
    have g_2 : fa1.toInt = (0 : Int) := i_eq c_1
    have htk_3 := h_tok c_1
    refine lv_aload_n hx hb dX7_takeNewName_9 rfl (lv_at hl 0 rfl) ?_
    obtain ⟨hPc, hDc, hFc⟩ := s3_c (ws' := [(rd, .inr (7, [.ref rd_tape, .int fd1, .int fa1, .int fp1, .ref bk, .ref rd_names, .ref rd_nameKind, .ref rd_nameNumber, .int (nI nm), .ref rd_knotNames, .int (nI en), .int (nI at1), .int tk1, .int (nI ts1), .long tv1]))]) [0] hP hD hS hA rfl (by decide)
    have hKc := hK.sub (tys' := []) [] rfl
    refine va_calli (va_runV (As := []) (rest := []) ⟨hx, hb, hml, hown, hts⟩ (d7_isName l dC dI n0 atx s.heap.size rd rd_tape fd1 fa1 fp1 bk rd_names rd_nameKind rd_nameNumber nm rd_knotNames en at1 tk1 ts1 tv1 T a0 htk_3) (cwV 0 hts (gV (fun w h => wM_c h) wd_823 wd_820 wd_822 wd_8 wd_117) rfl rfl rfl (by decide +kernel) ⟨Nat.le_of_ble_eq_true rfl, Nat.le_of_ble_eq_true rfl⟩) ⟨fun a U g mk q => by obtain ⟨q0, q1, q2, qG, qP, qK, qD⟩ := q; exact ⟨q0, q1, q2, GW.blind qG, qP, va_K.moved (u := U) (U := U.calling g mk a) (Vm.Alike.refl U.vm) qK, qD⟩, va_recv hKc hPc (ci := 7) (q0 := 0) rfl rfl, fun U hU hW => ⟨rfl, by rw [hU], Nat.le_trans hn0 hS.1, GW.go hW hU hG (fun q hq hA9 => hS.2.1 q hq (fun h => hA9 (hA0 q h))), by rw [hU]; exact hPc, va_K.moved hW.alike hKc, hDc.weaken (fun _ _ _ h => hA0 _ h)⟩⟩ rfl rfl hl.1 rfl (lv_room (Nat.le_of_ble_eq_true rfl)) dX7_takeNewName_10 ⟨Nat.le_of_ble_eq_true rfl, Nat.le_of_ble_eq_true rfl⟩) hS (fun q _ h => hFc q h) hFc (fun r_4 u t H1 locs ht hvm hw_5 hB hz1 hk1 hS => ?_)
    obtain ⟨hP1, hK1, hD1⟩ := hB
    rw [ht] at hP1
    obtain ⟨hP, hD⟩ := s3_j (L := [(rd_tape, .inl (k_rd_tape, 600, .inl f_rd_tape)), (rd_names, .inl (k_rd_names, 28, .inr (.inl f_rd_names))), (rd_nameKind, .inl (k_rd_nameKind, 28, .inl f_rd_nameKind)), (rd_nameNumber, .inl (k_rd_nameNumber, 28, .inl f_rd_nameNumber)), (rd, .inr (7, [.ref rd_tape, .int fd1, .int fa1, .int fp1, .ref bk, .ref rd_names, .ref rd_nameKind, .ref rd_nameNumber, .int (nI nm), .ref rd_knotNames, .int (nI en), .int (nI at1), .int tk1, .int (nI ts1), .long tv1]))]) 4 hP hD [0] [1, 2, 3, 4] hk1 hFc hP1 hD1 rfl rfl rfl (by decide) (by decide)
    generalize H1 = H at hP hS ⊢
    rcases hw_5 with ⟨rfl, s_6⟩ | ⟨rfl, s_7⟩
    · skip
      refine lv_if_ne (tgt := 25) hx hb dX7_takeNewName_13 (by decide) (fun c_8 => ?_) (fun c_8 => ?_)
      · skip
        refine lv_aload_n hx hb dX7_takeNewName_25 rfl (lv_at hl 0 rfl) ?_
        obtain ⟨hPc, hDc, hFc⟩ := s3_c (ws' := [(rd, .inr (7, [.ref rd_tape, .int fd1, .int fa1, .int fp1, .ref bk, .ref rd_names, .ref rd_nameKind, .ref rd_nameNumber, .int (nI nm), .ref rd_knotNames, .int (nI en), .int (nI at1), .int tk1, .int (nI ts1), .long tv1])), (rd_names, .inl (k_rd_names, 28, .inr (.inl f_rd_names)))]) [4, 1] hP hD hS hA rfl (by decide)
        have hKc := hK.sub (tys' := [(k_rd_names, .long)]) [1] rfl
        refine va_calli (va_runV (As := []) (rest := []) ⟨hx, hb, hml, hown, hts⟩ (d7_nameIndex l dC dI n0 atx H.size rd rd_tape fd1 fa1 fp1 bk rd_names rd_nameKind rd_nameNumber nm rd_knotNames en at1 tk1 ts1 tv1 k_rd_names f_rd_names (by first | with_reducible assumption | omega | exact vp_in_iff.mpr (by omega) | exact vp_in_nI (by omega) (by omega) | exact ⟨by omega, by omega⟩)) (cwV 0 hts (gV (fun w h => wM_c h) wd_835 wd_832 wd_834 wd_10 wd_117) rfl rfl rfl (by decide +kernel) ⟨Nat.le_of_ble_eq_true rfl, Nat.le_of_ble_eq_true rfl⟩) ⟨fun a U g mk q => by obtain ⟨q0, q1, q2, qG, qP, qK, qD⟩ := q; exact ⟨q0, q1, q2, GW.blind qG, qP, va_K.moved (u := U) (U := U.calling g mk a) (Vm.Alike.refl U.vm) qK, qD⟩, va_recv hKc hPc (ci := 7) (q0 := 0) rfl rfl, fun U hU hW => ⟨rfl, by rw [hU], Nat.le_trans hn0 hS.1, GW.go hW hU hG (fun q hq hA9 => hS.2.1 q hq (fun h => hA9 (hA0 q h))), by rw [hU]; exact hPc, va_K.moved hW.alike hKc, hDc.weaken (fun _ _ _ h => hA0 _ h)⟩⟩ rfl rfl hl.1 rfl (lv_room (Nat.le_of_ble_eq_true rfl)) dX7_takeNewName_26 ⟨Nat.le_of_ble_eq_true rfl, Nat.le_of_ble_eq_true rfl⟩) hS (fun q _ h => hFc q h) hFc (fun r_9 u t H1 locs ht hvm hw_10 hB hz1 hk1 hS => ?_)
        obtain ⟨hP1, hK1, hD1⟩ := hB
        rw [ht] at hP1
        obtain ⟨hP, hD⟩ := s3_j (L := [(rd_tape, .inl (k_rd_tape, 600, .inl f_rd_tape)), (rd_nameKind, .inl (k_rd_nameKind, 28, .inl f_rd_nameKind)), (rd_nameNumber, .inl (k_rd_nameNumber, 28, .inl f_rd_nameNumber)), (rd, .inr (7, [.ref rd_tape, .int fd1, .int fa1, .int fp1, .ref bk, .ref rd_names, .ref rd_nameKind, .ref rd_nameNumber, .int (nI nm), .ref rd_knotNames, .int (nI en), .int (nI at1), .int tk1, .int (nI ts1), .long tv1])), (rd_names, .inl (k_rd_names, 28, .inr (.inl f_rd_names)))]) 3 hP hD [4, 1] [0, 2, 3] hk1 hFc hP1 hD1 rfl rfl rfl (by decide) (by decide)
        generalize H1 = H at hP hS ⊢
        rcases hw_10 with ⟨fk_11, hfk_12, rfl, hfe_13, hfl_14⟩ | ⟨rfl, hfn_15⟩
        · skip
          refine lv_iconst (v := (-1)) hx hb dX7_takeNewName_29 (by decide) ?_
          refine lv_icmp_eq (tgt := 42) hx hb dX7_takeNewName_30 (by decide) (fun c_16 => ?_) (fun c_16 => ?_)
          · exact absurd (i_eq c_16) (by rw [nI_toInt (by omega)]; have h9 : (-1 : Int32).toInt = -1 := rfl; omega)
          refine lv_aload_n hx hb dX7_takeNewName_33 rfl (lv_at hl 0 rfl) ?_
          refine lv_iconst (v := 3) hx hb dX7_takeNewName_34 (by decide) ?_
          obtain ⟨hPc, hDc, hFc⟩ := s3_c (ws' := [(rd, .inr (7, [.ref rd_tape, .int fd1, .int fa1, .int fp1, .ref bk, .ref rd_names, .ref rd_nameKind, .ref rd_nameNumber, .int (nI nm), .ref rd_knotNames, .int (nI en), .int (nI at1), .int tk1, .int (nI ts1), .long tv1]))]) [3] hP hD hS hA rfl (by decide)
          have hKc := hK.sub (tys' := []) [] rfl
          refine va_calli (va_runV (As := [.int 3]) (rest := []) ⟨hx, hb, hml, hown, hts⟩ (d7_miss l dC dI n0 atx H.size rd rd_tape fd1 fa1 fp1 bk rd_names rd_nameKind rd_nameNumber nm rd_knotNames en at1 tk1 ts1 tv1 3 ) (cwV 1 hts (gV (fun w h => wM_c h) wd_831 wd_828 wd_830 wd_9 wd_117) rfl rfl rfl (by decide +kernel) ⟨Nat.le_of_ble_eq_true rfl, Nat.le_of_ble_eq_true rfl⟩) ⟨fun a U g mk q => by obtain ⟨q0, q1, q2, qG, qP, qK, qD⟩ := q; exact ⟨q0, q1, q2, GW.blind qG, qP, va_K.moved (u := U) (U := U.calling g mk a) (Vm.Alike.refl U.vm) qK, qD⟩, va_recv hKc hPc (ci := 7) (q0 := 0) rfl rfl, fun U hU hW => ⟨rfl, by rw [hU], Nat.le_trans hn0 hS.1, GW.go hW hU hG (fun q hq hA9 => hS.2.1 q hq (fun h => hA9 (hA0 q h))), by rw [hU]; exact hPc, va_K.moved hW.alike hKc, hDc.weaken (fun _ _ _ h => hA0 _ h)⟩⟩ rfl rfl hl.1 rfl (lv_room (Nat.le_of_ble_eq_true rfl)) dX7_takeNewName_35 ⟨Nat.le_of_ble_eq_true rfl, Nat.le_of_ble_eq_true rfl⟩) hS (fun q _ h => hFc q h) hFc (fun r_17 u t H1 locs ht hvm hw_18 hB hz1 hk1 hS => ?_)
          obtain ⟨fa9_19, fp9_20, hf_21, hf_22, hP1, hK1, hD1⟩ := hB
          rw [ht] at hP1
          obtain ⟨hP, hD⟩ := s3_j (L := [(rd_tape, .inl (k_rd_tape, 600, .inl f_rd_tape)), (rd_nameKind, .inl (k_rd_nameKind, 28, .inl f_rd_nameKind)), (rd_nameNumber, .inl (k_rd_nameNumber, 28, .inl f_rd_nameNumber)), (rd_names, .inl (k_rd_names, 28, .inr (.inl f_rd_names))), (rd, .inr (7, [.ref rd_tape, .int fd1, .int fa9_19, .int fp9_20, .ref bk, .ref rd_names, .ref rd_nameKind, .ref rd_nameNumber, .int (nI nm), .ref rd_knotNames, .int (nI en), .int (nI at1), .int tk1, .int (nI ts1), .long tv1]))]) 4 hP hD [3] [0, 1, 2, 4] hk1 hFc hP1 hD1 rfl rfl rfl (by decide) (by decide)
          generalize H1 = H at hP hS ⊢
          obtain rfl : r_17 = 0 := hw_18
          have hm_23 := hf_21 c_1
          have hz_24 : ¬ fa9_19 = 0 := by rw [hm_23.1]; decide
          refine lv_pop hx hb dX7_takeNewName_38 rfl ?_
          refine lv_goto (tgt := 62) hx hb dX7_takeNewName_39 (by decide) ?_
          refine lv_aload_n hx hb dX7_takeNewName_62 rfl (lv_at hl 0 rfl) ?_
          refine va_get (D := (dC, dI)) (ci := 7) (v := .int fa9_19) (C := RX7) (T := TX7) (N := 15) hx hb hts (fun w h => wM_c (iX7 w h)) hown hK hP 4 rfl rfl 2 (by decide) (hts _ (wM_c wd_337)) (fun _ h9 => h9) rfl dX7_takeNewName_63 ?_
          refine lv_if_eq (tgt := 71) hx hb dX7_takeNewName_66 (by decide) (fun c_25 => ?_) (fun c_25 => ?_)
          · exact absurd c_25 hz_24
          refine lv_iconst (v := 0) hx hb dX7_takeNewName_69 (by decide) ?_
          have hK9 := hK.sub (tys' := [(k_rd_tape, .int), (k_rd_names, .long), (k_rd_nameKind, .int), (k_rd_nameNumber, .int)]) [0, 1, 2, 3] rfl
          exact W.iret (v := 0) hx hb hr (fun t ht hW => ⟨⟨0, 0, rfl, rfl, nm, fa9_19, fp9_20, at1, tk1, ts1, tv1, f_rd_names, f_rd_nameKind, f_rd_nameNumber, 0, 0, (by omega), (by omega), h_ni, (by have z9 : (0 : Int32).toInt = 0 := rfl; omega), (fun h9 => absurd h9 hz_24), (ck_e c_1 hm_23 (by decide) (xfr_3 htk_3.1 s_6 (xnm_w htk_3 s_6) hfk_12 hfe_13 hfl_14)), by rw [ht]; exact hP.sub [4, 0, 3, 1, 2] rfl, va_K.moved hW.alike hK9, hD.sub [4, 0, 3, 1, 2] (by decide) rfl⟩, hS.F ht⟩) hS.2.2 dX7_takeNewName_70
        · skip
          refine lv_iconst (v := (-1)) hx hb dX7_takeNewName_29 (by decide) ?_
          refine lv_icmp_eq (tgt := 42) hx hb dX7_takeNewName_30 (by decide) (fun c_26 => ?_) (fun c_26 => ?_)
          · skip
            refine lv_iload_n hx hb dX7_takeNewName_42 rfl (lv_at hl 2 rfl) ?_
            refine lv_iload_n hx hb dX7_takeNewName_43 rfl (lv_at hl 3 rfl) ?_
            refine lv_icmp_ge (tgt := 56) hx hb dX7_takeNewName_44 (by decide) (fun c_27 => ?_) (fun c_27 => ?_)
            · skip
              have g_28 : ro.toInt ≤ ((nu : Nat) : Int) := (by have h := i_le c_27; rw [nI_toInt (by omega)] at h; exact h)
              have hfu9 : ¬ fu = 0 := h_fu.elim (fun h9 => absurd h9.2 (by have := h_28; omega)) (fun h9 => h9.1)
              refine lv_aload_n hx hb dX7_takeNewName_56 rfl (lv_at hl 0 rfl) ?_
              refine lv_iconst (v := 5) hx hb dX7_takeNewName_57 (by decide) ?_
              obtain ⟨hPc, hDc, hFc⟩ := s3_c (ws' := [(rd, .inr (7, [.ref rd_tape, .int fd1, .int fa1, .int fp1, .ref bk, .ref rd_names, .ref rd_nameKind, .ref rd_nameNumber, .int (nI nm), .ref rd_knotNames, .int (nI en), .int (nI at1), .int tk1, .int (nI ts1), .long tv1]))]) [3] hP hD hS hA rfl (by decide)
              have hKc := hK.sub (tys' := []) [] rfl
              refine va_calli (va_runV (As := [.int 5]) (rest := []) ⟨hx, hb, hml, hown, hts⟩ (d7_miss l dC dI n0 atx H.size rd rd_tape fd1 fa1 fp1 bk rd_names rd_nameKind rd_nameNumber nm rd_knotNames en at1 tk1 ts1 tv1 5 ) (cwV 1 hts (gV (fun w h => wM_c h) wd_831 wd_828 wd_830 wd_9 wd_117) rfl rfl rfl (by decide +kernel) ⟨Nat.le_of_ble_eq_true rfl, Nat.le_of_ble_eq_true rfl⟩) ⟨fun a U g mk q => by obtain ⟨q0, q1, q2, qG, qP, qK, qD⟩ := q; exact ⟨q0, q1, q2, GW.blind qG, qP, va_K.moved (u := U) (U := U.calling g mk a) (Vm.Alike.refl U.vm) qK, qD⟩, va_recv hKc hPc (ci := 7) (q0 := 0) rfl rfl, fun U hU hW => ⟨rfl, by rw [hU], Nat.le_trans hn0 hS.1, GW.go hW hU hG (fun q hq hA9 => hS.2.1 q hq (fun h => hA9 (hA0 q h))), by rw [hU]; exact hPc, va_K.moved hW.alike hKc, hDc.weaken (fun _ _ _ h => hA0 _ h)⟩⟩ rfl rfl hl.1 rfl (lv_room (Nat.le_of_ble_eq_true rfl)) dX7_takeNewName_58 ⟨Nat.le_of_ble_eq_true rfl, Nat.le_of_ble_eq_true rfl⟩) hS (fun q _ h => hFc q h) hFc (fun r_29 u t H1 locs ht hvm hw_30 hB hz1 hk1 hS => ?_)
              obtain ⟨fa9_31, fp9_32, hf_33, hf_34, hP1, hK1, hD1⟩ := hB
              rw [ht] at hP1
              obtain ⟨hP, hD⟩ := s3_j (L := [(rd_tape, .inl (k_rd_tape, 600, .inl f_rd_tape)), (rd_nameKind, .inl (k_rd_nameKind, 28, .inl f_rd_nameKind)), (rd_nameNumber, .inl (k_rd_nameNumber, 28, .inl f_rd_nameNumber)), (rd_names, .inl (k_rd_names, 28, .inr (.inl f_rd_names))), (rd, .inr (7, [.ref rd_tape, .int fd1, .int fa9_31, .int fp9_32, .ref bk, .ref rd_names, .ref rd_nameKind, .ref rd_nameNumber, .int (nI nm), .ref rd_knotNames, .int (nI en), .int (nI at1), .int tk1, .int (nI ts1), .long tv1]))]) 4 hP hD [3] [0, 1, 2, 4] hk1 hFc hP1 hD1 rfl rfl rfl (by decide) (by decide)
              generalize H1 = H at hP hS ⊢
              obtain rfl : r_29 = 0 := hw_30
              have hm_35 := hf_33 c_1
              have hz_36 : ¬ fa9_31 = 0 := by rw [hm_35.1]; decide
              refine lv_pop hx hb dX7_takeNewName_61 rfl ?_
              refine lv_aload_n hx hb dX7_takeNewName_62 rfl (lv_at hl 0 rfl) ?_
              refine va_get (D := (dC, dI)) (ci := 7) (v := .int fa9_31) (C := RX7) (T := TX7) (N := 15) hx hb hts (fun w h => wM_c (iX7 w h)) hown hK hP 4 rfl rfl 2 (by decide) (hts _ (wM_c wd_337)) (fun _ h9 => h9) rfl dX7_takeNewName_63 ?_
              refine lv_if_eq (tgt := 71) hx hb dX7_takeNewName_66 (by decide) (fun c_37 => ?_) (fun c_37 => ?_)
              · exact absurd c_37 hz_36
              refine lv_iconst (v := 0) hx hb dX7_takeNewName_69 (by decide) ?_
              have hK9 := hK.sub (tys' := [(k_rd_tape, .int), (k_rd_names, .long), (k_rd_nameKind, .int), (k_rd_nameNumber, .int)]) [0, 1, 2, 3] rfl
              exact W.iret (v := 0) hx hb hr (fun t ht hW => ⟨⟨0, 0, rfl, rfl, nm, fa9_31, fp9_32, at1, tk1, ts1, tv1, f_rd_names, f_rd_nameKind, f_rd_nameNumber, 0, 0, (by omega), (by omega), h_ni, (by have z9 : (0 : Int32).toInt = 0 := rfl; omega), (fun h9 => absurd h9 hz_36), (ck_e c_1 hm_35 (by decide) (xfr_5 htk_3.1 s_6 (xnm_w htk_3 s_6) hfn_15 hfu9)), by rw [ht]; exact hP.sub [4, 0, 3, 1, 2] rfl, va_K.moved hW.alike hK9, hD.sub [4, 0, 3, 1, 2] (by decide) rfl⟩, hS.F ht⟩) hS.2.2 dX7_takeNewName_70
            · skip
              have g_38 : ((nu : Nat) : Int) < ro.toInt := (by have h := i_nle c_27; rw [nI_toInt (by omega)] at h; exact h)
              refine lv_aload_n hx hb dX7_takeNewName_47 rfl (lv_at hl 0 rfl) ?_
              refine va_get (D := (dC, dI)) (ci := 7) (v := .int (nI nm)) (C := RX7) (T := TX7) (N := 15) hx hb hts (fun w h => wM_c (iX7 w h)) hown hK hP 3 rfl rfl 8 (by decide) (hts _ (wM_c wd_344)) (fun _ h9 => h9) rfl dX7_takeNewName_48 ?_
              refine lv_bipush (v := 28) hx hb dX7_takeNewName_51 (by decide) ?_
              refine lv_icmp_lt (tgt := 62) hx hb dX7_takeNewName_53 (by decide) (fun c_39 => ?_) (fun c_39 => ?_)
              · skip
                have g_40 := n_lt (a := nm) (b := 28) c_39 (by omega) (by omega)
                have hfu9 : fu = 0 := h_fu.elim (fun h9 => h9.1) (fun h9 => absurd h9.2 (by omega))
                refine lv_aload_n hx hb dX7_takeNewName_62 rfl (lv_at hl 0 rfl) ?_
                refine va_get (D := (dC, dI)) (ci := 7) (v := .int fa1) (C := RX7) (T := TX7) (N := 15) hx hb hts (fun w h => wM_c (iX7 w h)) hown hK hP 3 rfl rfl 2 (by decide) (hts _ (wM_c wd_337)) (fun _ h9 => h9) rfl dX7_takeNewName_63 ?_
                refine lv_if_eq (tgt := 71) hx hb dX7_takeNewName_66 (by decide) (fun c_41 => ?_) (fun c_41 => ?_)
                · skip
                  refine lv_aload_n hx hb dX7_takeNewName_71 rfl (lv_at hl 0 rfl) ?_
                  refine va_get (D := (dC, dI)) (ci := 7) (v := .ref rd_names) (C := RX7) (T := TX7) (N := 15) hx hb hts (fun w h => wM_c (iX7 w h)) hown hK hP 3 rfl rfl 5 (by decide) (hts _ (wM_c wd_341)) (fun _ h9 => h9) rfl dX7_takeNewName_72 ?_
                  refine lv_aload_n hx hb dX7_takeNewName_75 rfl (lv_at hl 0 rfl) ?_
                  refine va_get (D := (dC, dI)) (ci := 7) (v := .int (nI nm)) (C := RX7) (T := TX7) (N := 15) hx hb hts (fun w h => wM_c (iX7 w h)) hown hK hP 3 rfl rfl 8 (by decide) (hts _ (wM_c wd_344)) (fun _ h9 => h9) rfl dX7_takeNewName_76 ?_
                  refine lv_aload_n hx hb dX7_takeNewName_79 rfl (lv_at hl 0 rfl) ?_
                  refine va_get (D := (dC, dI)) (ci := 7) (v := .long tv1) (C := RX7) (T := TX7) (N := 15) hx hb hts (fun w h => wM_c (iX7 w h)) hown hK hP 3 rfl rfl 14 (by decide) (hts _ (wM_c wd_350)) (fun _ h9 => h9) rfl dX7_takeNewName_80 ?_
                  refine va_last hx hb hK hP hD hS 4 1 rfl rfl (vp_in_nI (n := nm) (by omega) (by omega)) dX7_takeNewName_83 (fun H locs hP hD hS => ?_)
                  obtain ⟨f_42, ef_42⟩ : ∃ f9, f9 = (vp_updL f_rd_names (nI nm).toNatClampNeg tv1) := ⟨_, rfl⟩
                  obtain ⟨hP, hD⟩ : s3_w (dC, dI) classes A [(rd_tape, .inl (k_rd_tape, 600, .inl f_rd_tape)), (rd_nameKind, .inl (k_rd_nameKind, 28, .inl f_rd_nameKind)), (rd_nameNumber, .inl (k_rd_nameNumber, 28, .inl f_rd_nameNumber)), (rd, .inr (7, [.ref rd_tape, .int fd1, .int fa1, .int fp1, .ref bk, .ref rd_names, .ref rd_nameKind, .ref rd_nameNumber, .int (nI nm), .ref rd_knotNames, .int (nI en), .int (nI at1), .int tk1, .int (nI ts1), .long tv1])), (rd_names, .inl (k_rd_names, 28, .inr (.inl f_42)))] H := ⟨(by rw [ef_42]; exact hP), (by rw [ef_42]; exact hD)⟩
                  refine lv_aload_n hx hb dX7_takeNewName_84 rfl (lv_at hl 0 rfl) ?_
                  refine va_get (D := (dC, dI)) (ci := 7) (v := .ref rd_nameKind) (C := RX7) (T := TX7) (N := 15) hx hb hts (fun w h => wM_c (iX7 w h)) hown hK hP 3 rfl rfl 6 (by decide) (hts _ (wM_c wd_342)) (fun _ h9 => h9) rfl dX7_takeNewName_85 ?_
                  refine lv_aload_n hx hb dX7_takeNewName_88 rfl (lv_at hl 0 rfl) ?_
                  refine va_get (D := (dC, dI)) (ci := 7) (v := .int (nI nm)) (C := RX7) (T := TX7) (N := 15) hx hb hts (fun w h => wM_c (iX7 w h)) hown hK hP 3 rfl rfl 8 (by decide) (hts _ (wM_c wd_344)) (fun _ h9 => h9) rfl dX7_takeNewName_89 ?_
                  refine lv_iload_n hx hb dX7_takeNewName_92 rfl (lv_at hl 1 rfl) ?_
                  refine va_iast hx hb hK hP hD hS 1 2 rfl rfl (vp_in_nI (n := nm) (by omega) (by omega)) dX7_takeNewName_93 (fun H locs hP hD hS => ?_)
                  obtain ⟨f_43, ef_43⟩ : ∃ f9, f9 = (upd f_rd_nameKind (nI nm).toNatClampNeg ki) := ⟨_, rfl⟩
                  obtain ⟨hP, hD⟩ : s3_w (dC, dI) classes A [(rd_tape, .inl (k_rd_tape, 600, .inl f_rd_tape)), (rd_nameKind, .inl (k_rd_nameKind, 28, .inl f_43)), (rd_nameNumber, .inl (k_rd_nameNumber, 28, .inl f_rd_nameNumber)), (rd, .inr (7, [.ref rd_tape, .int fd1, .int fa1, .int fp1, .ref bk, .ref rd_names, .ref rd_nameKind, .ref rd_nameNumber, .int (nI nm), .ref rd_knotNames, .int (nI en), .int (nI at1), .int tk1, .int (nI ts1), .long tv1])), (rd_names, .inl (k_rd_names, 28, .inr (.inl f_42)))] H := ⟨(by rw [ef_43]; exact hP), (by rw [ef_43]; exact hD)⟩
                  refine lv_aload_n hx hb dX7_takeNewName_94 rfl (lv_at hl 0 rfl) ?_
                  refine va_get (D := (dC, dI)) (ci := 7) (v := .ref rd_nameNumber) (C := RX7) (T := TX7) (N := 15) hx hb hts (fun w h => wM_c (iX7 w h)) hown hK hP 3 rfl rfl 7 (by decide) (hts _ (wM_c wd_343)) (fun _ h9 => h9) rfl dX7_takeNewName_95 ?_
                  refine lv_aload_n hx hb dX7_takeNewName_98 rfl (lv_at hl 0 rfl) ?_
                  refine va_get (D := (dC, dI)) (ci := 7) (v := .int (nI nm)) (C := RX7) (T := TX7) (N := 15) hx hb hts (fun w h => wM_c (iX7 w h)) hown hK hP 3 rfl rfl 8 (by decide) (hts _ (wM_c wd_344)) (fun _ h9 => h9) rfl dX7_takeNewName_99 ?_
                  refine lv_iload_n hx hb dX7_takeNewName_102 rfl (lv_at hl 2 rfl) ?_
                  refine va_iast hx hb hK hP hD hS 2 3 rfl rfl (vp_in_nI (n := nm) (by omega) (by omega)) dX7_takeNewName_103 (fun H locs hP hD hS => ?_)
                  obtain ⟨f_44, ef_44⟩ : ∃ f9, f9 = (upd f_rd_nameNumber (nI nm).toNatClampNeg (nI nu)) := ⟨_, rfl⟩
                  obtain ⟨hP, hD⟩ : s3_w (dC, dI) classes A [(rd_tape, .inl (k_rd_tape, 600, .inl f_rd_tape)), (rd_nameKind, .inl (k_rd_nameKind, 28, .inl f_43)), (rd_nameNumber, .inl (k_rd_nameNumber, 28, .inl f_44)), (rd, .inr (7, [.ref rd_tape, .int fd1, .int fa1, .int fp1, .ref bk, .ref rd_names, .ref rd_nameKind, .ref rd_nameNumber, .int (nI nm), .ref rd_knotNames, .int (nI en), .int (nI at1), .int tk1, .int (nI ts1), .long tv1])), (rd_names, .inl (k_rd_names, 28, .inr (.inl f_42)))] H := ⟨(by rw [ef_44]; exact hP), (by rw [ef_44]; exact hD)⟩
                  refine lv_aload_n hx hb dX7_takeNewName_104 rfl (lv_at hl 0 rfl) ?_
                  refine lv_dup hx hb dX7_takeNewName_105 rfl ?_
                  refine va_get (D := (dC, dI)) (ci := 7) (v := .int (nI nm)) (C := RX7) (T := TX7) (N := 15) hx hb hts (fun w h => wM_c (iX7 w h)) hown hK hP 3 rfl rfl 8 (by decide) (hts _ (wM_c wd_344)) (fun _ h9 => h9) rfl dX7_takeNewName_106 ?_
                  refine lv_iconst (v := 1) hx hb dX7_takeNewName_109 (by decide) ?_
                  refine lv_iadd hx hb dX7_takeNewName_110 ?_
                  refine lv_topi (fun v_45 ev_45 => ?_)
                  obtain rfl : v_45 = nI (nm + 1) := ev_45.trans (nI_add nm 1)
                  refine va_put (D := (dC, dI)) (ci := 7) (v := .int (nI (nm + 1))) (ty := .int) (C := RX7) (T := TX7) (N := 15) hx hb hts (fun w h => wM_c (iX7 w h)) tyX7 tyX7_ok nmX7 hown hK hP hD hS 3 rfl rfl 8 (by decide) (hts _ (wM_c wd_344)) (fun _ h9 => h9) rfl (by decide +kernel) rfl rfl (Nat.le_of_ble_eq_true rfl) dX7_takeNewName_111 (fun H locs hP hD hS => ?_)
                  obtain ⟨hP, hD⟩ : s3_w (dC, dI) classes A [(rd_tape, .inl (k_rd_tape, 600, .inl f_rd_tape)), (rd_nameKind, .inl (k_rd_nameKind, 28, .inl f_43)), (rd_nameNumber, .inl (k_rd_nameNumber, 28, .inl f_44)), (rd, .inr (7, [.ref rd_tape, .int fd1, .int fa1, .int fp1, .ref bk, .ref rd_names, .ref rd_nameKind, .ref rd_nameNumber, .int (nI (nm + 1)), .ref rd_knotNames, .int (nI en), .int (nI at1), .int tk1, .int (nI ts1), .long tv1])), (rd_names, .inl (k_rd_names, 28, .inr (.inl f_42)))] H := ⟨hP, hD⟩
                  refine lv_aload_n hx hb dX7_takeNewName_114 rfl (lv_at hl 0 rfl) ?_
                  obtain ⟨hPc, hDc, hFc⟩ := s3_c (ws' := [(rd, .inr (7, [.ref rd_tape, .int fd1, .int fa1, .int fp1, .ref bk, .ref rd_names, .ref rd_nameKind, .ref rd_nameNumber, .int (nI (nm + 1)), .ref rd_knotNames, .int (nI en), .int (nI at1), .int tk1, .int (nI ts1), .long tv1])), (rd_tape, .inl (k_rd_tape, 600, .inl f_rd_tape))]) [3, 0] hP hD hS hA rfl (by decide)
                  have hKc := hK.sub (tys' := [(k_rd_tape, .int)]) [0] rfl
                  refine va_callv (va_runV (As := []) (rest := []) ⟨hx, hb, hml, hown, hts⟩ (d7_next l dC dI n0 atx H.size rd rd_tape fd1 fa1 fp1 bk rd_names rd_nameKind rd_nameNumber (nm + 1) rd_knotNames en at1 tk1 (nI ts1) tv1 k_rd_tape f_rd_tape T (by first | with_reducible assumption | omega | exact vp_in_iff.mpr (by omega) | exact vp_in_nI (by omega) (by omega) | exact ⟨by omega, by omega⟩) (by first | with_reducible assumption | omega | exact vp_in_iff.mpr (by omega) | exact vp_in_nI (by omega) (by omega) | exact ⟨by omega, by omega⟩) (by first | with_reducible assumption | omega | exact vp_in_iff.mpr (by omega) | exact vp_in_nI (by omega) (by omega) | exact ⟨by omega, by omega⟩)) (cwV 0 hts (gV (fun w h => wM_c h) wd_735 wd_732 wd_734 wd_1 wd_117) rfl rfl rfl (by decide +kernel) ⟨Nat.le_of_ble_eq_true rfl, Nat.le_of_ble_eq_true rfl⟩) ⟨fun a U g mk q => by obtain ⟨q0, q1, q2, qG, qP, qK, qD⟩ := q; exact ⟨q0, q1, q2, GW.blind qG, qP, va_K.moved (u := U) (U := U.calling g mk a) (Vm.Alike.refl U.vm) qK, qD⟩, va_recv hKc hPc (ci := 7) (q0 := 0) rfl rfl, fun U hU hW => ⟨rfl, by rw [hU], Nat.le_trans hn0 hS.1, GW.go hW hU hG (fun q hq hA9 => hS.2.1 q hq (fun h => hA9 (hA0 q h))), by rw [hU]; exact hPc, va_K.moved hW.alike hKc, hDc.weaken (fun _ _ _ h => hA0 _ h)⟩⟩ rfl rfl hl.1 rfl (lv_room (Nat.le_of_ble_eq_true rfl)) dX7_takeNewName_115 ⟨Nat.le_of_ble_eq_true rfl, Nat.le_of_ble_eq_true rfl⟩) hS (fun q _ h => hFc q h) hFc (fun u t H1 locs ht hvm hw_47 hB hz1 hk1 hS => ?_)
                  obtain ⟨at9_48, tk9_49, ts9_50, tv9_51, hf_52, hf_53, hP1, hK1, hD1⟩ := hB
                  rw [ht] at hP1
                  obtain ⟨hP, hD⟩ := s3_j (L := [(rd_nameKind, .inl (k_rd_nameKind, 28, .inl f_43)), (rd_nameNumber, .inl (k_rd_nameNumber, 28, .inl f_44)), (rd_names, .inl (k_rd_names, 28, .inr (.inl f_42))), (rd, .inr (7, [.ref rd_tape, .int fd1, .int fa1, .int fp1, .ref bk, .ref rd_names, .ref rd_nameKind, .ref rd_nameNumber, .int (nI (nm + 1)), .ref rd_knotNames, .int (nI en), .int (nI at9_48), .int tk9_49, .int (nI ts9_50), .long tv9_51])), (rd_tape, .inl (k_rd_tape, 600, .inl f_rd_tape))]) 3 hP hD [3, 0] [1, 2, 4] hk1 hFc hP1 hD1 rfl rfl rfl (by decide) (by decide)
                  generalize H1 = H at hP hS ⊢
                  refine lv_iload_n hx hb dX7_takeNewName_118 rfl (lv_at hl 2 rfl) ?_
                  have hK9 := hK.sub (tys' := [(k_rd_tape, .int), (k_rd_names, .long), (k_rd_nameKind, .int), (k_rd_nameNumber, .int)]) [0, 1, 2, 3] rfl
                  exact W.iret (v := (nI nu)) hx hb hr (fun t ht hW => ⟨⟨(nI nu), (nI nu), rfl, rfl, (nm + 1), fa1, fp1, at9_48, tk9_49, ts9_50, tv9_51, f_42, f_43, f_44, (tkE T en a0), tv1, (by omega), (by omega), (nmI_upd h_ni (by omega) ef_43 ef_44 ⟨fun q9 => by have := h_wo.1 q9; rw [nI_toInt (by omega)]; omega, fun q9 => by have := h_wo.2 q9; rw [nI_toInt (by omega)]; omega⟩), (by rw [nI_toInt (by omega)]; omega), (fun _ => by omega), (ck_k c_1 c_1 (xfr_t s_6 (xnm_w htk_3 s_6) hfn_15 hfu9) ⟨xgo htk_3 hf_53, rfl, (by rw [ef_42, nI_clamp (by omega)]), (by rw [ef_43, nI_clamp (by omega)]), (by rw [ef_44, nI_clamp (by omega)]), rfl⟩), by rw [ht]; exact hP.sub [3, 4, 2, 0, 1] rfl, va_K.moved hW.alike hK9, hD.sub [3, 4, 2, 0, 1] (by decide) rfl⟩, hS.F ht⟩) hS.2.2 dX7_takeNewName_119
                · exact absurd c_1 c_41
              · skip
                have g_54 := n_nlt (a := nm) (b := 28) c_39 (by omega) (by omega)
                have hfu9 : ¬ fu = 0 := h_fu.elim (fun h9 => absurd h9.2 (by have := h_28; omega)) (fun h9 => h9.1)
                refine lv_aload_n hx hb dX7_takeNewName_56 rfl (lv_at hl 0 rfl) ?_
                refine lv_iconst (v := 5) hx hb dX7_takeNewName_57 (by decide) ?_
                obtain ⟨hPc, hDc, hFc⟩ := s3_c (ws' := [(rd, .inr (7, [.ref rd_tape, .int fd1, .int fa1, .int fp1, .ref bk, .ref rd_names, .ref rd_nameKind, .ref rd_nameNumber, .int (nI nm), .ref rd_knotNames, .int (nI en), .int (nI at1), .int tk1, .int (nI ts1), .long tv1]))]) [3] hP hD hS hA rfl (by decide)
                have hKc := hK.sub (tys' := []) [] rfl
                refine va_calli (va_runV (As := [.int 5]) (rest := []) ⟨hx, hb, hml, hown, hts⟩ (d7_miss l dC dI n0 atx H.size rd rd_tape fd1 fa1 fp1 bk rd_names rd_nameKind rd_nameNumber nm rd_knotNames en at1 tk1 ts1 tv1 5 ) (cwV 1 hts (gV (fun w h => wM_c h) wd_831 wd_828 wd_830 wd_9 wd_117) rfl rfl rfl (by decide +kernel) ⟨Nat.le_of_ble_eq_true rfl, Nat.le_of_ble_eq_true rfl⟩) ⟨fun a U g mk q => by obtain ⟨q0, q1, q2, qG, qP, qK, qD⟩ := q; exact ⟨q0, q1, q2, GW.blind qG, qP, va_K.moved (u := U) (U := U.calling g mk a) (Vm.Alike.refl U.vm) qK, qD⟩, va_recv hKc hPc (ci := 7) (q0 := 0) rfl rfl, fun U hU hW => ⟨rfl, by rw [hU], Nat.le_trans hn0 hS.1, GW.go hW hU hG (fun q hq hA9 => hS.2.1 q hq (fun h => hA9 (hA0 q h))), by rw [hU]; exact hPc, va_K.moved hW.alike hKc, hDc.weaken (fun _ _ _ h => hA0 _ h)⟩⟩ rfl rfl hl.1 rfl (lv_room (Nat.le_of_ble_eq_true rfl)) dX7_takeNewName_58 ⟨Nat.le_of_ble_eq_true rfl, Nat.le_of_ble_eq_true rfl⟩) hS (fun q _ h => hFc q h) hFc (fun r_55 u t H1 locs ht hvm hw_56 hB hz1 hk1 hS => ?_)
                obtain ⟨fa9_57, fp9_58, hf_59, hf_60, hP1, hK1, hD1⟩ := hB
                rw [ht] at hP1
                obtain ⟨hP, hD⟩ := s3_j (L := [(rd_tape, .inl (k_rd_tape, 600, .inl f_rd_tape)), (rd_nameKind, .inl (k_rd_nameKind, 28, .inl f_rd_nameKind)), (rd_nameNumber, .inl (k_rd_nameNumber, 28, .inl f_rd_nameNumber)), (rd_names, .inl (k_rd_names, 28, .inr (.inl f_rd_names))), (rd, .inr (7, [.ref rd_tape, .int fd1, .int fa9_57, .int fp9_58, .ref bk, .ref rd_names, .ref rd_nameKind, .ref rd_nameNumber, .int (nI nm), .ref rd_knotNames, .int (nI en), .int (nI at1), .int tk1, .int (nI ts1), .long tv1]))]) 4 hP hD [3] [0, 1, 2, 4] hk1 hFc hP1 hD1 rfl rfl rfl (by decide) (by decide)
                generalize H1 = H at hP hS ⊢
                obtain rfl : r_55 = 0 := hw_56
                have hm_61 := hf_59 c_1
                have hz_62 : ¬ fa9_57 = 0 := by rw [hm_61.1]; decide
                refine lv_pop hx hb dX7_takeNewName_61 rfl ?_
                refine lv_aload_n hx hb dX7_takeNewName_62 rfl (lv_at hl 0 rfl) ?_
                refine va_get (D := (dC, dI)) (ci := 7) (v := .int fa9_57) (C := RX7) (T := TX7) (N := 15) hx hb hts (fun w h => wM_c (iX7 w h)) hown hK hP 4 rfl rfl 2 (by decide) (hts _ (wM_c wd_337)) (fun _ h9 => h9) rfl dX7_takeNewName_63 ?_
                refine lv_if_eq (tgt := 71) hx hb dX7_takeNewName_66 (by decide) (fun c_63 => ?_) (fun c_63 => ?_)
                · exact absurd c_63 hz_62
                refine lv_iconst (v := 0) hx hb dX7_takeNewName_69 (by decide) ?_
                have hK9 := hK.sub (tys' := [(k_rd_tape, .int), (k_rd_names, .long), (k_rd_nameKind, .int), (k_rd_nameNumber, .int)]) [0, 1, 2, 3] rfl
                exact W.iret (v := 0) hx hb hr (fun t ht hW => ⟨⟨0, 0, rfl, rfl, nm, fa9_57, fp9_58, at1, tk1, ts1, tv1, f_rd_names, f_rd_nameKind, f_rd_nameNumber, 0, 0, (by omega), (by omega), h_ni, (by have z9 : (0 : Int32).toInt = 0 := rfl; omega), (fun h9 => absurd h9 hz_62), (ck_e c_1 hm_61 (by decide) (xfr_5 htk_3.1 s_6 (xnm_w htk_3 s_6) hfn_15 hfu9)), by rw [ht]; exact hP.sub [4, 0, 3, 1, 2] rfl, va_K.moved hW.alike hK9, hD.sub [4, 0, 3, 1, 2] (by decide) rfl⟩, hS.F ht⟩) hS.2.2 dX7_takeNewName_70
          · exact absurd c_26 (by decide)
      · exact absurd c_8 (by decide)
    · skip
      refine lv_if_ne (tgt := 25) hx hb dX7_takeNewName_13 (by decide) (fun c_64 => ?_) (fun c_64 => ?_)
      · exact absurd c_64 (by decide)
      refine lv_aload_n hx hb dX7_takeNewName_16 rfl (lv_at hl 0 rfl) ?_
      refine lv_iconst (v := 1) hx hb dX7_takeNewName_17 (by decide) ?_
      obtain ⟨hPc, hDc, hFc⟩ := s3_c (ws' := [(rd, .inr (7, [.ref rd_tape, .int fd1, .int fa1, .int fp1, .ref bk, .ref rd_names, .ref rd_nameKind, .ref rd_nameNumber, .int (nI nm), .ref rd_knotNames, .int (nI en), .int (nI at1), .int tk1, .int (nI ts1), .long tv1]))]) [4] hP hD hS hA rfl (by decide)
      have hKc := hK.sub (tys' := []) [] rfl
      refine va_calli (va_runV (As := [.int 1]) (rest := []) ⟨hx, hb, hml, hown, hts⟩ (d7_miss l dC dI n0 atx H.size rd rd_tape fd1 fa1 fp1 bk rd_names rd_nameKind rd_nameNumber nm rd_knotNames en at1 tk1 ts1 tv1 1 ) (cwV 1 hts (gV (fun w h => wM_c h) wd_831 wd_828 wd_830 wd_9 wd_117) rfl rfl rfl (by decide +kernel) ⟨Nat.le_of_ble_eq_true rfl, Nat.le_of_ble_eq_true rfl⟩) ⟨fun a U g mk q => by obtain ⟨q0, q1, q2, qG, qP, qK, qD⟩ := q; exact ⟨q0, q1, q2, GW.blind qG, qP, va_K.moved (u := U) (U := U.calling g mk a) (Vm.Alike.refl U.vm) qK, qD⟩, va_recv hKc hPc (ci := 7) (q0 := 0) rfl rfl, fun U hU hW => ⟨rfl, by rw [hU], Nat.le_trans hn0 hS.1, GW.go hW hU hG (fun q hq hA9 => hS.2.1 q hq (fun h => hA9 (hA0 q h))), by rw [hU]; exact hPc, va_K.moved hW.alike hKc, hDc.weaken (fun _ _ _ h => hA0 _ h)⟩⟩ rfl rfl hl.1 rfl (lv_room (Nat.le_of_ble_eq_true rfl)) dX7_takeNewName_18 ⟨Nat.le_of_ble_eq_true rfl, Nat.le_of_ble_eq_true rfl⟩) hS (fun q _ h => hFc q h) hFc (fun r_65 u t H1 locs ht hvm hw_66 hB hz1 hk1 hS => ?_)
      obtain ⟨fa9_67, fp9_68, hf_69, hf_70, hP1, hK1, hD1⟩ := hB
      rw [ht] at hP1
      obtain ⟨hP, hD⟩ := s3_j (L := [(rd_tape, .inl (k_rd_tape, 600, .inl f_rd_tape)), (rd_names, .inl (k_rd_names, 28, .inr (.inl f_rd_names))), (rd_nameKind, .inl (k_rd_nameKind, 28, .inl f_rd_nameKind)), (rd_nameNumber, .inl (k_rd_nameNumber, 28, .inl f_rd_nameNumber)), (rd, .inr (7, [.ref rd_tape, .int fd1, .int fa9_67, .int fp9_68, .ref bk, .ref rd_names, .ref rd_nameKind, .ref rd_nameNumber, .int (nI nm), .ref rd_knotNames, .int (nI en), .int (nI at1), .int tk1, .int (nI ts1), .long tv1]))]) 4 hP hD [4] [0, 1, 2, 3] hk1 hFc hP1 hD1 rfl rfl rfl (by decide) (by decide)
      generalize H1 = H at hP hS ⊢
      obtain rfl : r_65 = 0 := hw_66
      have hm_71 := hf_69 c_1
      have hz_72 : ¬ fa9_67 = 0 := by rw [hm_71.1]; decide
      refine lv_pop hx hb dX7_takeNewName_21 rfl ?_
      refine lv_goto (tgt := 62) hx hb dX7_takeNewName_22 (by decide) ?_
      refine lv_aload_n hx hb dX7_takeNewName_62 rfl (lv_at hl 0 rfl) ?_
      refine va_get (D := (dC, dI)) (ci := 7) (v := .int fa9_67) (C := RX7) (T := TX7) (N := 15) hx hb hts (fun w h => wM_c (iX7 w h)) hown hK hP 4 rfl rfl 2 (by decide) (hts _ (wM_c wd_337)) (fun _ h9 => h9) rfl dX7_takeNewName_63 ?_
      refine lv_if_eq (tgt := 71) hx hb dX7_takeNewName_66 (by decide) (fun c_73 => ?_) (fun c_73 => ?_)
      · exact absurd c_73 hz_72
      refine lv_iconst (v := 0) hx hb dX7_takeNewName_69 (by decide) ?_
      have hK9 := hK.sub (tys' := [(k_rd_tape, .int), (k_rd_names, .long), (k_rd_nameKind, .int), (k_rd_nameNumber, .int)]) [0, 1, 2, 3] rfl
      exact W.iret (v := 0) hx hb hr (fun t ht hW => ⟨⟨0, 0, rfl, rfl, nm, fa9_67, fp9_68, at1, tk1, ts1, tv1, f_rd_names, f_rd_nameKind, f_rd_nameNumber, 0, 0, (by omega), (by omega), h_ni, (by have z9 : (0 : Int32).toInt = 0 := rfl; omega), (fun h9 => absurd h9 hz_72), (ck_e c_1 hm_71 (by decide) (xfr_1 htk_3.1 s_7)), by rw [ht]; exact hP.sub [4, 0, 1, 2, 3] rfl, va_K.moved hW.alike hK9, hD.sub [4, 0, 1, 2, 3] (by decide) rfl⟩, hS.F ht⟩) hS.2.2 dX7_takeNewName_70
  · skip
    have g_74 : fa1.toInt ≠ (0 : Int) := i_ne c_1
    refine lv_iconst (v := 0) hx hb dX7_takeNewName_7 (by decide) ?_
    have hK9 := hK.sub (tys' := [(k_rd_tape, .int), (k_rd_names, .long), (k_rd_nameKind, .int), (k_rd_nameNumber, .int)]) [0, 1, 2, 3] rfl
    exact W.iret (v := 0) hx hb hr (fun t ht hW => ⟨⟨0, 0, rfl, rfl, nm, fa1, fp1, at1, tk1, ts1, tv1, f_rd_names, f_rd_nameKind, f_rd_nameNumber, 0, 0, (by omega), (by omega), h_ni, (by have z9 : (0 : Int32).toInt = 0 := rfl; omega), (fun h9 => absurd h9 c_1), (ck_a c_1), by rw [ht]; exact hP.sub [0, 1, 2, 3, 4] rfl, va_K.moved hW.alike hK9, hD.sub [0, 1, 2, 3, 4] (by decide) rfl⟩, hS.F ht⟩) hS.2.2 dX7_takeNewName_8
set_option maxHeartbeats 4000000 in
set_option maxRecDepth 100000 in
theorem d7_addKnot (l : Launch) (dC : Nat → ClassId) (dI : Nat → Nat → Nat) (n0 : Nat) (atx : Nat → Nat × Nat) (sz : Nat) (rd : Nat) (rd_tape : Nat) (fd1 : Int32) (fa1 : Int32) (fp1 : Int32) (bk : Nat) (rd_names : Nat) (rd_nameKind : Nat) (rd_nameNumber : Nat) (nm : Nat) (rd_knotNames : Nat) (en : Nat) (at1 : Nat) (tk1 : Int32) (ts1 : Nat) (tv1 : Int64) (bw : Nat) (bk_tail : Nat) (bk_head : Nat) (bk_hinder : Nat) (bk_size : Nat) (bk_walk : Nat) (bk_draught : Nat) (bk_doorIn : Nat) (bk_fanIn : Nat) (bk_faceIn : Nat) (bn : Nat) (bk_day : Int32) (gr : Nat) (k_rd_knotNames : ClassId) (f_rd_knotNames : Nat → Int64) (hbw : bw ≤ 14) (hbn : bn ≤ 10) (q_day : -1 ≤ bk_day.toInt ∧ bk_day.toInt < 10) (h_en : en ≤ 600) (h_at : at1 ≤ en) (h_z : fa1 = 0) : Met l yX7_addKnot (wM yX7_addKnot cX7_addKnot 2 (some .int)) ({ frames := 6, cells := 0, slots := 0, locals := 129 }) (va_Pc [.ref rd] (fun U => U.heap.size = sz ∧ n0 ≤ sz ∧ GW n0 atx U ∧ va_P (dC, dI) classes [(rd, .inr (7, [.ref rd_tape, .int fd1, .int fa1, .int fp1, .ref bk, .ref rd_names, .ref rd_nameKind, .ref rd_nameNumber, .int (nI nm), .ref rd_knotNames, .int (nI en), .int (nI at1), .int tk1, .int (nI ts1), .long tv1])), (bk, .inr (0, [.int (nI bw), .ref bk_tail, .ref bk_head, .ref bk_hinder, .ref bk_size, .ref bk_walk, .ref bk_draught, .ref bk_doorIn, .ref bk_fanIn, .ref bk_faceIn, .int (nI bn), .int bk_day, .ref gr])), (rd_knotNames, .inl (k_rd_knotNames, 10, .inr (.inl f_rd_knotNames)))] U.heap ∧ va_K (dC, dI) classes [(k_rd_knotNames, .long)] U ∧ va_D (fun q => n0 ≤ q) [(rd, .inr (7, [.ref rd_tape, .int fd1, .int fa1, .int fp1, .ref bk, .ref rd_names, .ref rd_nameKind, .ref rd_nameNumber, .int (nI nm), .ref rd_knotNames, .int (nI en), .int (nI at1), .int tk1, .int (nI ts1), .long tv1])), (bk, .inr (0, [.int (nI bw), .ref bk_tail, .ref bk_head, .ref bk_hinder, .ref bk_size, .ref bk_walk, .ref bk_draught, .ref bk_doorIn, .ref bk_fanIn, .ref bk_faceIn, .int (nI bn), .int bk_day, .ref gr])), (rd_knotNames, .inl (k_rd_knotNames, 10, .inr (.inl f_rd_knotNames)))])) (va_Qi (fun (r : Int32) (rk9 : Int32) => r = rk9) (fun (rk9 : Int32) (t : State) => ∃ (fa9 : Int32), ∃ (fp9 : Int32), ∃ (bn9 : Nat), ∃ (dy9 : Int32), ∃ (kn9 : Nat → Int64), (bn ≤ bn9 ∧ bn9 ≤ 10) ∧ (-1 ≤ dy9.toInt ∧ dy9.toInt < 10) ∧ (0 ≤ rk9.toInt ∧ rk9.toInt < 10) ∧ ((bn = 10 ∧ fa9 = 5 ∧ fp9 = nI ts1) ∨ (¬ bn = 10 ∧ fa9 = fa1 ∧ fp9 = fp1 ∧ bn9 = bn + 1 ∧ kn9 = vp_updL f_rd_knotNames bn tv1 ∧ rk9 = nI bn)) ∧ va_P (dC, dI) classes [(rd, .inr (7, [.ref rd_tape, .int fd1, .int fa9, .int fp9, .ref bk, .ref rd_names, .ref rd_nameKind, .ref rd_nameNumber, .int (nI nm), .ref rd_knotNames, .int (nI en), .int (nI at1), .int tk1, .int (nI ts1), .long tv1])), (bk, .inr (0, [.int (nI bw), .ref bk_tail, .ref bk_head, .ref bk_hinder, .ref bk_size, .ref bk_walk, .ref bk_draught, .ref bk_doorIn, .ref bk_fanIn, .ref bk_faceIn, .int (nI bn9), .int dy9, .ref gr])), (rd_knotNames, .inl (k_rd_knotNames, 10, .inr (.inl kn9)))] t.heap ∧ va_K (dC, dI) classes [(k_rd_knotNames, .long)] t ∧ va_D (va_A [(rd, .inr (7, [.ref rd_tape, .int fd1, .int fa1, .int fp1, .ref bk, .ref rd_names, .ref rd_nameKind, .ref rd_nameNumber, .int (nI nm), .ref rd_knotNames, .int (nI en), .int (nI at1), .int tk1, .int (nI ts1), .long tv1])), (bk, .inr (0, [.int (nI bw), .ref bk_tail, .ref bk_head, .ref bk_hinder, .ref bk_size, .ref bk_walk, .ref bk_draught, .ref bk_doorIn, .ref bk_fanIn, .ref bk_faceIn, .int (nI bn), .int bk_day, .ref gr])), (rd_knotNames, .inl (k_rd_knotNames, 10, .inr (.inl f_rd_knotNames)))] sz) [(rd, .inr (7, [.ref rd_tape, .int fd1, .int fa9, .int fp9, .ref bk, .ref rd_names, .ref rd_nameKind, .ref rd_nameNumber, .int (nI nm), .ref rd_knotNames, .int (nI en), .int (nI at1), .int tk1, .int (nI ts1), .long tv1])), (bk, .inr (0, [.int (nI bw), .ref bk_tail, .ref bk_head, .ref bk_hinder, .ref bk_size, .ref bk_walk, .ref bk_draught, .ref bk_doorIn, .ref bk_fanIn, .ref bk_faceIn, .int (nI bn9), .int dy9, .ref gr])), (rd_knotNames, .inl (k_rd_knotNames, 10, .inr (.inl kn9)))]) (va_A [(rd, .inr (7, [.ref rd_tape, .int fd1, .int fa1, .int fp1, .ref bk, .ref rd_names, .ref rd_nameKind, .ref rd_nameNumber, .int (nI nm), .ref rd_knotNames, .int (nI en), .int (nI at1), .int tk1, .int (nI ts1), .long tv1])), (bk, .inr (0, [.int (nI bw), .ref bk_tail, .ref bk_head, .ref bk_hinder, .ref bk_size, .ref bk_walk, .ref bk_draught, .ref bk_doorIn, .ref bk_fanIn, .ref bk_faceIn, .int (nI bn), .int bk_day, .ref gr])), (rd_knotNames, .inl (k_rd_knotNames, 10, .inr (.inl f_rd_knotNames)))] sz)) 0 0 (va_A [(rd, .inr (7, [.ref rd_tape, .int fd1, .int fa1, .int fp1, .ref bk, .ref rd_names, .ref rd_nameKind, .ref rd_nameNumber, .int (nI nm), .ref rd_knotNames, .int (nI en), .int (nI at1), .int tk1, .int (nI ts1), .long tv1])), (bk, .inr (0, [.int (nI bw), .ref bk_tail, .ref bk_head, .ref bk_hinder, .ref bk_size, .ref bk_walk, .ref bk_draught, .ref bk_doorIn, .ref bk_fanIn, .ref bk_faceIn, .int (nI bn), .int bk_day, .ref gr])), (rd_knotNames, .inl (k_rd_knotNames, 10, .inr (.inl f_rd_knotNames)))] sz) := by
  refine Met.ofW (cc := cX7_addKnot) (maxL := 2) (ret := (some .int)) (by decide) rfl ?_
  intro p e s m args below meth c s₁ B hml hv
  obtain ⟨rfl, hsz, hn0, hG, hP, hK, hD0⟩ := hv
  have hx := B.exec
  have hb := B.bytes
  have hr := B.returns
  have hts := atoms_spec (ws := wM yX7_addKnot cX7_addKnot 2 (some .int)) B.pre
  have hown : s.vm.findClass RX7 = some m.cls := findClass_of_methodNamed B.named
  have hlocks := B.notSynchronized
  subst hsz
  have hD := hD0.self (sz := s.heap.size)
  have hA0 := vA_n0 hD0 hn0
  generalize hAe : va_A [(rd, .inr (7, [.ref rd_tape, .int fd1, .int fa1, .int fp1, .ref bk, .ref rd_names, .ref rd_nameKind, .ref rd_nameNumber, .int (nI nm), .ref rd_knotNames, .int (nI en), .int (nI at1), .int tk1, .int (nI ts1), .long tv1])), (bk, .inr (0, [.int (nI bw), .ref bk_tail, .ref bk_head, .ref bk_hinder, .ref bk_size, .ref bk_walk, .ref bk_draught, .ref bk_doorIn, .ref bk_fanIn, .ref bk_faceIn, .int (nI bn), .int bk_day, .ref gr])), (rd_knotNames, .inl (k_rd_knotNames, 10, .inr (.inl f_rd_knotNames)))] s.heap.size = A at hD hA0 ⊢
  have hA : ∀ q : Nat, s.heap.size ≤ q → A q := fun q h => by rw [← hAe]; exact Or.inr h
  have hS : va_S A s.heap s.heap [] := va_S.rf
  have hl := lv_entry ([.ref rd]) (n := 2) (Nat.le_of_ble_eq_true rfl)
  rw [lg_entry_eq]
  generalize (lg_sl ([.ref rd]) ++ List.replicate (2 - (lg_sl ([.ref rd])).length) Slot.unset).toArray = ls at hl ⊢
  have hl : lv_has ls 2 [(0, .ref rd)] := hl
  refine lv_aload_n hx hb dX7_addKnot_0 rfl (lv_at hl 0 rfl) ?_
  refine va_get (D := (dC, dI)) (ci := 7) (v := .ref bk) (C := RX7) (T := TX7) (N := 15) hx hb hts (fun w h => wM_c (iX7 w h)) hown hK hP 0 rfl rfl 4 (by decide) (hts _ (wM_c wd_340)) (fun _ h9 => h9) rfl dX7_addKnot_1 ?_
  refine va_get (D := (dC, dI)) (ci := 0) (v := .int (nI bn)) (C := RX0) (T := TX0) (N := 13) hx hb hts (fun w h => wM_c (iX0 w h)) hown hK hP 1 rfl rfl 10 (by decide) (hts _ (wM_c wd_286)) (fun _ h9 => h9) rfl dX7_addKnot_4 ?_
  refine lv_istore_n (lv' := [(1, .int (nI bn)), (0, .ref rd)]) hx hb dX7_addKnot_7 rfl hl (by decide) rfl (fun ls hl => ?_)
  refine lv_iload_n hx hb dX7_addKnot_8 rfl (lv_at hl 0 rfl) ?_
  refine lv_bipush (v := 10) hx hb dX7_addKnot_9 (by decide) ?_
  refine lv_icmp_lt (tgt := 22) hx hb dX7_addKnot_11 (by decide) (fun c_1 => ?_) (fun c_1 => ?_)
  · skip
    have g_2 := n_lt (a := bn) (b := 10) c_1 (by omega) (by omega)
    refine lv_aload_n hx hb dX7_addKnot_22 rfl (lv_at hl 1 rfl) ?_
    refine va_get (D := (dC, dI)) (ci := 7) (v := .ref rd_knotNames) (C := RX7) (T := TX7) (N := 15) hx hb hts (fun w h => wM_c (iX7 w h)) hown hK hP 0 rfl rfl 9 (by decide) (hts _ (wM_c wd_345)) (fun _ h9 => h9) rfl dX7_addKnot_23 ?_
    refine lv_iload_n hx hb dX7_addKnot_26 rfl (lv_at hl 0 rfl) ?_
    refine lv_aload_n hx hb dX7_addKnot_27 rfl (lv_at hl 1 rfl) ?_
    refine va_get (D := (dC, dI)) (ci := 7) (v := .long tv1) (C := RX7) (T := TX7) (N := 15) hx hb hts (fun w h => wM_c (iX7 w h)) hown hK hP 0 rfl rfl 14 (by decide) (hts _ (wM_c wd_350)) (fun _ h9 => h9) rfl dX7_addKnot_28 ?_
    refine va_last hx hb hK hP hD hS 2 0 rfl rfl (vp_in_nI (n := bn) (by omega) (by omega)) dX7_addKnot_31 (fun H locs hP hD hS => ?_)
    obtain ⟨f_3, ef_3⟩ : ∃ f9, f9 = (vp_updL f_rd_knotNames (nI bn).toNatClampNeg tv1) := ⟨_, rfl⟩
    obtain ⟨hP, hD⟩ : s3_w (dC, dI) classes A [(rd, .inr (7, [.ref rd_tape, .int fd1, .int fa1, .int fp1, .ref bk, .ref rd_names, .ref rd_nameKind, .ref rd_nameNumber, .int (nI nm), .ref rd_knotNames, .int (nI en), .int (nI at1), .int tk1, .int (nI ts1), .long tv1])), (bk, .inr (0, [.int (nI bw), .ref bk_tail, .ref bk_head, .ref bk_hinder, .ref bk_size, .ref bk_walk, .ref bk_draught, .ref bk_doorIn, .ref bk_fanIn, .ref bk_faceIn, .int (nI bn), .int bk_day, .ref gr])), (rd_knotNames, .inl (k_rd_knotNames, 10, .inr (.inl f_3)))] H := ⟨(by rw [ef_3]; exact hP), (by rw [ef_3]; exact hD)⟩
    refine lv_aload_n hx hb dX7_addKnot_32 rfl (lv_at hl 1 rfl) ?_
    refine va_ldcS (q := (atx 5).1) hx hb hown (hG.t 5 (q := ("MineAir$Reader", 228, "day", _)) rfl) dX7_addKnot_33 ?_
    obtain ⟨hPc, hDc, hFc⟩ := s3_c (ws' := [(rd, .inr (7, [.ref rd_tape, .int fd1, .int fa1, .int fp1, .ref bk, .ref rd_names, .ref rd_nameKind, .ref rd_nameNumber, .int (nI nm), .ref rd_knotNames, .int (nI en), .int (nI at1), .int tk1, .int (nI ts1), .long tv1]))]) [0] hP hD hS hA rfl (by decide)
    have hKc := hK.sub (tys' := []) [] rfl
    refine va_calli (va_runV (As := [.ref (atx 5).1]) (rest := []) ⟨hx, hb, hml, hown, hts⟩ (d7_isWord l dC dI n0 atx H.size rd rd_tape fd1 fa1 fp1 bk rd_names rd_nameKind rd_nameNumber nm rd_knotNames en at1 tk1 ts1 tv1 5 (by first | with_reducible assumption | omega | exact vp_in_iff.mpr (by omega) | exact vp_in_nI (by omega) (by omega) | exact ⟨by omega, by omega⟩) ltx_5) (cwV 1 hts (gV (fun w h => wM_c h) wd_760 wd_757 wd_759 wd_5 wd_117) rfl rfl rfl (by decide +kernel) ⟨Nat.le_of_ble_eq_true rfl, Nat.le_of_ble_eq_true rfl⟩) ⟨fun a U g mk q => by obtain ⟨q0, q1, q2, qG, qP, qK, qD⟩ := q; exact ⟨q0, q1, q2, GW.blind qG, qP, va_K.moved (u := U) (U := U.calling g mk a) (Vm.Alike.refl U.vm) qK, qD⟩, va_recv hKc hPc (ci := 7) (q0 := 0) rfl rfl, fun U hU hW => ⟨rfl, by rw [hU], Nat.le_trans hn0 hS.1, GW.go hW hU hG (fun q hq hA9 => hS.2.1 q hq (fun h => hA9 (hA0 q h))), by rw [hU]; exact hPc, va_K.moved hW.alike hKc, hDc.weaken (fun _ _ _ h => hA0 _ h)⟩⟩ rfl rfl hl.1 rfl (lv_room (Nat.le_of_ble_eq_true rfl)) dX7_addKnot_35 ⟨Nat.le_of_ble_eq_true rfl, Nat.le_of_ble_eq_true rfl⟩) hS (fun q _ h => hFc q h) hFc (fun r_4 u t H1 locs ht hvm hw_5 hB hz1 hk1 hS => ?_)
    obtain ⟨hP1, hK1, hD1⟩ := hB
    rw [ht] at hP1
    obtain ⟨hP, hD⟩ := s3_j (L := [(bk, .inr (0, [.int (nI bw), .ref bk_tail, .ref bk_head, .ref bk_hinder, .ref bk_size, .ref bk_walk, .ref bk_draught, .ref bk_doorIn, .ref bk_fanIn, .ref bk_faceIn, .int (nI bn), .int bk_day, .ref gr])), (rd_knotNames, .inl (k_rd_knotNames, 10, .inr (.inl f_3))), (rd, .inr (7, [.ref rd_tape, .int fd1, .int fa1, .int fp1, .ref bk, .ref rd_names, .ref rd_nameKind, .ref rd_nameNumber, .int (nI nm), .ref rd_knotNames, .int (nI en), .int (nI at1), .int tk1, .int (nI ts1), .long tv1]))]) 2 hP hD [0] [1, 2] hk1 hFc hP1 hD1 rfl rfl rfl (by decide) (by decide)
    generalize H1 = H at hP hS ⊢
    rcases hw_5 with ⟨rfl, s_6, s_7⟩ | ⟨rfl, s_8⟩
    · skip
      refine lv_if_eq (tgt := 49) hx hb dX7_addKnot_38 (by decide) (fun c_9 => ?_) (fun c_9 => ?_)
      · exact absurd c_9 (by decide)
      refine lv_aload_n hx hb dX7_addKnot_41 rfl (lv_at hl 1 rfl) ?_
      refine va_get (D := (dC, dI)) (ci := 7) (v := .ref bk) (C := RX7) (T := TX7) (N := 15) hx hb hts (fun w h => wM_c (iX7 w h)) hown hK hP 2 rfl rfl 4 (by decide) (hts _ (wM_c wd_340)) (fun _ h9 => h9) rfl dX7_addKnot_42 ?_
      refine lv_iload_n hx hb dX7_addKnot_45 rfl (lv_at hl 0 rfl) ?_
      refine va_put (D := (dC, dI)) (ci := 0) (v := .int (nI bn)) (ty := .int) (C := RX0) (T := TX0) (N := 13) hx hb hts (fun w h => wM_c (iX0 w h)) tyX0 tyX0_ok nmX0 hown hK hP hD hS 0 rfl rfl 11 (by decide) (hts _ (wM_c wd_291)) (fun _ h9 => h9) rfl (by decide +kernel) rfl rfl (Nat.le_of_ble_eq_true rfl) dX7_addKnot_46 (fun H locs hP hD hS => ?_)
      obtain ⟨hP, hD⟩ : s3_w (dC, dI) classes A [(bk, .inr (0, [.int (nI bw), .ref bk_tail, .ref bk_head, .ref bk_hinder, .ref bk_size, .ref bk_walk, .ref bk_draught, .ref bk_doorIn, .ref bk_fanIn, .ref bk_faceIn, .int (nI bn), .int (nI bn), .ref gr])), (rd_knotNames, .inl (k_rd_knotNames, 10, .inr (.inl f_3))), (rd, .inr (7, [.ref rd_tape, .int fd1, .int fa1, .int fp1, .ref bk, .ref rd_names, .ref rd_nameKind, .ref rd_nameNumber, .int (nI nm), .ref rd_knotNames, .int (nI en), .int (nI at1), .int tk1, .int (nI ts1), .long tv1]))] H := ⟨hP, hD⟩
      refine lv_aload_n hx hb dX7_addKnot_49 rfl (lv_at hl 1 rfl) ?_
      refine va_get (D := (dC, dI)) (ci := 7) (v := .ref bk) (C := RX7) (T := TX7) (N := 15) hx hb hts (fun w h => wM_c (iX7 w h)) hown hK hP 2 rfl rfl 4 (by decide) (hts _ (wM_c wd_340)) (fun _ h9 => h9) rfl dX7_addKnot_50 ?_
      refine lv_dup hx hb dX7_addKnot_53 rfl ?_
      refine va_get (D := (dC, dI)) (ci := 0) (v := .int (nI bn)) (C := RX0) (T := TX0) (N := 13) hx hb hts (fun w h => wM_c (iX0 w h)) hown hK hP 0 rfl rfl 10 (by decide) (hts _ (wM_c wd_286)) (fun _ h9 => h9) rfl dX7_addKnot_54 ?_
      refine lv_iconst (v := 1) hx hb dX7_addKnot_57 (by decide) ?_
      refine lv_iadd hx hb dX7_addKnot_58 ?_
      refine lv_topi (fun v_10 ev_10 => ?_)
      obtain rfl : v_10 = nI (bn + 1) := ev_10.trans (nI_add bn 1)
      refine va_put (D := (dC, dI)) (ci := 0) (v := .int (nI (bn + 1))) (ty := .int) (C := RX0) (T := TX0) (N := 13) hx hb hts (fun w h => wM_c (iX0 w h)) tyX0 tyX0_ok nmX0 hown hK hP hD hS 0 rfl rfl 10 (by decide) (hts _ (wM_c wd_286)) (fun _ h9 => h9) rfl (by decide +kernel) rfl rfl (Nat.le_of_ble_eq_true rfl) dX7_addKnot_59 (fun H locs hP hD hS => ?_)
      obtain ⟨hP, hD⟩ : s3_w (dC, dI) classes A [(bk, .inr (0, [.int (nI bw), .ref bk_tail, .ref bk_head, .ref bk_hinder, .ref bk_size, .ref bk_walk, .ref bk_draught, .ref bk_doorIn, .ref bk_fanIn, .ref bk_faceIn, .int (nI (bn + 1)), .int (nI bn), .ref gr])), (rd_knotNames, .inl (k_rd_knotNames, 10, .inr (.inl f_3))), (rd, .inr (7, [.ref rd_tape, .int fd1, .int fa1, .int fp1, .ref bk, .ref rd_names, .ref rd_nameKind, .ref rd_nameNumber, .int (nI nm), .ref rd_knotNames, .int (nI en), .int (nI at1), .int tk1, .int (nI ts1), .long tv1]))] H := ⟨hP, hD⟩
      refine lv_iload_n hx hb dX7_addKnot_62 rfl (lv_at hl 0 rfl) ?_
      have hK9 := hK.sub (tys' := [(k_rd_knotNames, .long)]) [0] rfl
      exact W.iret (v := (nI bn)) hx hb hr (fun t ht hW => ⟨⟨(nI bn), (nI bn), rfl, rfl, fa1, fp1, (bn + 1), (nI bn), f_3, (by omega), (by first | omega | (rw [nI_toInt (by omega)]; omega)), (by rw [nI_toInt (by omega)]; omega), (Or.inr ⟨by omega, rfl, rfl, rfl, (by rw [ef_3, nI_clamp (by omega)]), rfl⟩), by rw [ht]; exact hP.sub [2, 0, 1] rfl, va_K.moved hW.alike hK9, hD.sub [2, 0, 1] (by decide) rfl⟩, hS.F ht⟩) hS.2.2 dX7_addKnot_63
    · skip
      refine lv_if_eq (tgt := 49) hx hb dX7_addKnot_38 (by decide) (fun c_11 => ?_) (fun c_11 => ?_)
      · skip
        refine lv_aload_n hx hb dX7_addKnot_49 rfl (lv_at hl 1 rfl) ?_
        refine va_get (D := (dC, dI)) (ci := 7) (v := .ref bk) (C := RX7) (T := TX7) (N := 15) hx hb hts (fun w h => wM_c (iX7 w h)) hown hK hP 2 rfl rfl 4 (by decide) (hts _ (wM_c wd_340)) (fun _ h9 => h9) rfl dX7_addKnot_50 ?_
        refine lv_dup hx hb dX7_addKnot_53 rfl ?_
        refine va_get (D := (dC, dI)) (ci := 0) (v := .int (nI bn)) (C := RX0) (T := TX0) (N := 13) hx hb hts (fun w h => wM_c (iX0 w h)) hown hK hP 0 rfl rfl 10 (by decide) (hts _ (wM_c wd_286)) (fun _ h9 => h9) rfl dX7_addKnot_54 ?_
        refine lv_iconst (v := 1) hx hb dX7_addKnot_57 (by decide) ?_
        refine lv_iadd hx hb dX7_addKnot_58 ?_
        refine lv_topi (fun v_12 ev_12 => ?_)
        obtain rfl : v_12 = nI (bn + 1) := ev_12.trans (nI_add bn 1)
        refine va_put (D := (dC, dI)) (ci := 0) (v := .int (nI (bn + 1))) (ty := .int) (C := RX0) (T := TX0) (N := 13) hx hb hts (fun w h => wM_c (iX0 w h)) tyX0 tyX0_ok nmX0 hown hK hP hD hS 0 rfl rfl 10 (by decide) (hts _ (wM_c wd_286)) (fun _ h9 => h9) rfl (by decide +kernel) rfl rfl (Nat.le_of_ble_eq_true rfl) dX7_addKnot_59 (fun H locs hP hD hS => ?_)
        obtain ⟨hP, hD⟩ : s3_w (dC, dI) classes A [(bk, .inr (0, [.int (nI bw), .ref bk_tail, .ref bk_head, .ref bk_hinder, .ref bk_size, .ref bk_walk, .ref bk_draught, .ref bk_doorIn, .ref bk_fanIn, .ref bk_faceIn, .int (nI (bn + 1)), .int bk_day, .ref gr])), (rd_knotNames, .inl (k_rd_knotNames, 10, .inr (.inl f_3))), (rd, .inr (7, [.ref rd_tape, .int fd1, .int fa1, .int fp1, .ref bk, .ref rd_names, .ref rd_nameKind, .ref rd_nameNumber, .int (nI nm), .ref rd_knotNames, .int (nI en), .int (nI at1), .int tk1, .int (nI ts1), .long tv1]))] H := ⟨hP, hD⟩
        refine lv_iload_n hx hb dX7_addKnot_62 rfl (lv_at hl 0 rfl) ?_
        have hK9 := hK.sub (tys' := [(k_rd_knotNames, .long)]) [0] rfl
        exact W.iret (v := (nI bn)) hx hb hr (fun t ht hW => ⟨⟨(nI bn), (nI bn), rfl, rfl, fa1, fp1, (bn + 1), bk_day, f_3, (by omega), (by first | omega | (rw [nI_toInt (by omega)]; omega)), (by rw [nI_toInt (by omega)]; omega), (Or.inr ⟨by omega, rfl, rfl, rfl, (by rw [ef_3, nI_clamp (by omega)]), rfl⟩), by rw [ht]; exact hP.sub [2, 0, 1] rfl, va_K.moved hW.alike hK9, hD.sub [2, 0, 1] (by decide) rfl⟩, hS.F ht⟩) hS.2.2 dX7_addKnot_63
      · exact absurd c_11 (by decide)
  · skip
    have g_13 := n_nlt (a := bn) (b := 10) c_1 (by omega) (by omega)
    refine lv_aload_n hx hb dX7_addKnot_14 rfl (lv_at hl 1 rfl) ?_
    refine lv_iconst (v := 5) hx hb dX7_addKnot_15 (by decide) ?_
    obtain ⟨hPc, hDc, hFc⟩ := s3_c (ws' := [(rd, .inr (7, [.ref rd_tape, .int fd1, .int fa1, .int fp1, .ref bk, .ref rd_names, .ref rd_nameKind, .ref rd_nameNumber, .int (nI nm), .ref rd_knotNames, .int (nI en), .int (nI at1), .int tk1, .int (nI ts1), .long tv1]))]) [0] hP hD hS hA rfl (by decide)
    have hKc := hK.sub (tys' := []) [] rfl
    refine va_calli (va_runV (As := [.int 5]) (rest := []) ⟨hx, hb, hml, hown, hts⟩ (d7_miss l dC dI n0 atx s.heap.size rd rd_tape fd1 fa1 fp1 bk rd_names rd_nameKind rd_nameNumber nm rd_knotNames en at1 tk1 ts1 tv1 5 ) (cwV 1 hts (gV (fun w h => wM_c h) wd_831 wd_828 wd_830 wd_9 wd_117) rfl rfl rfl (by decide +kernel) ⟨Nat.le_of_ble_eq_true rfl, Nat.le_of_ble_eq_true rfl⟩) ⟨fun a U g mk q => by obtain ⟨q0, q1, q2, qG, qP, qK, qD⟩ := q; exact ⟨q0, q1, q2, GW.blind qG, qP, va_K.moved (u := U) (U := U.calling g mk a) (Vm.Alike.refl U.vm) qK, qD⟩, va_recv hKc hPc (ci := 7) (q0 := 0) rfl rfl, fun U hU hW => ⟨rfl, by rw [hU], Nat.le_trans hn0 hS.1, GW.go hW hU hG (fun q hq hA9 => hS.2.1 q hq (fun h => hA9 (hA0 q h))), by rw [hU]; exact hPc, va_K.moved hW.alike hKc, hDc.weaken (fun _ _ _ h => hA0 _ h)⟩⟩ rfl rfl hl.1 rfl (lv_room (Nat.le_of_ble_eq_true rfl)) dX7_addKnot_16 ⟨Nat.le_of_ble_eq_true rfl, Nat.le_of_ble_eq_true rfl⟩) hS (fun q _ h => hFc q h) hFc (fun r_14 u t H1 locs ht hvm hw_15 hB hz1 hk1 hS => ?_)
    obtain ⟨fa9_16, fp9_17, hf_18, hf_19, hP1, hK1, hD1⟩ := hB
    rw [ht] at hP1
    obtain ⟨hP, hD⟩ := s3_j (L := [(bk, .inr (0, [.int (nI bw), .ref bk_tail, .ref bk_head, .ref bk_hinder, .ref bk_size, .ref bk_walk, .ref bk_draught, .ref bk_doorIn, .ref bk_fanIn, .ref bk_faceIn, .int (nI bn), .int bk_day, .ref gr])), (rd_knotNames, .inl (k_rd_knotNames, 10, .inr (.inl f_rd_knotNames))), (rd, .inr (7, [.ref rd_tape, .int fd1, .int fa9_16, .int fp9_17, .ref bk, .ref rd_names, .ref rd_nameKind, .ref rd_nameNumber, .int (nI nm), .ref rd_knotNames, .int (nI en), .int (nI at1), .int tk1, .int (nI ts1), .long tv1]))]) 2 hP hD [0] [1, 2] hk1 hFc hP1 hD1 rfl rfl rfl (by decide) (by decide)
    generalize H1 = H at hP hS ⊢
    obtain rfl : r_14 = 0 := hw_15
    have hm_20 := hf_18 h_z
    have hz_21 : ¬ fa9_16 = 0 := by rw [hm_20.1]; decide
    refine lv_pop hx hb dX7_addKnot_19 rfl ?_
    refine lv_iconst (v := 0) hx hb dX7_addKnot_20 (by decide) ?_
    have hK9 := hK.sub (tys' := [(k_rd_knotNames, .long)]) [0] rfl
    exact W.iret (v := 0) hx hb hr (fun t ht hW => ⟨⟨0, 0, rfl, rfl, fa9_16, fp9_17, bn, bk_day, f_rd_knotNames, (by omega), q_day, (by have z9 : (0 : Int32).toInt = 0 := rfl; omega), (Or.inl ⟨by omega, hm_20.1, hm_20.2⟩), by rw [ht]; exact hP.sub [2, 0, 1] rfl, va_K.moved hW.alike hK9, hD.sub [2, 0, 1] (by decide) rfl⟩, hS.F ht⟩) hS.2.2 dX7_addKnot_21
set_option maxHeartbeats 4000000 in
set_option maxRecDepth 100000 in
theorem d7_takeKnot (l : Launch) (dC : Nat → ClassId) (dI : Nat → Nat → Nat) (n0 : Nat) (atx : Nat → Nat × Nat) (sz : Nat) (rd : Nat) (rd_tape : Nat) (fd1 : Int32) (fa1 : Int32) (fp1 : Int32) (bk : Nat) (rd_names : Nat) (rd_nameKind : Nat) (rd_nameNumber : Nat) (nm : Nat) (rd_knotNames : Nat) (en : Nat) (at1 : Nat) (tk1 : Int32) (ts1 : Nat) (tv1 : Int64) (bw : Nat) (bk_tail : Nat) (bk_head : Nat) (bk_hinder : Nat) (bk_size : Nat) (bk_walk : Nat) (bk_draught : Nat) (bk_doorIn : Nat) (bk_fanIn : Nat) (bk_faceIn : Nat) (bn : Nat) (bk_day : Int32) (gr : Nat) (k_rd_tape : ClassId) (f_rd_tape : Nat → Int32) (k_rd_knotNames : ClassId) (f_rd_knotNames : Nat → Int64) (ot : Int32) (T : Nat → Int32) (a0 : Nat) (hbw : bw ≤ 14) (hbn : bn ≤ 10) (q_day : -1 ≤ bk_day.toInt ∧ bk_day.toInt < 10) (h_en : en ≤ 600) (h_at : at1 ≤ en) (hT : ∀ k, k < en → f_rd_tape k = T k) (h_tok : fa1 = 0 → xTk T en a0 ts1 at1 tk1 tv1) : Met l yX7_takeKnot (wM yX7_takeKnot cX7_takeKnot 3 (some .int)) ({ frames := 7, cells := 0, slots := 0, locals := 150 }) (va_Pc [.ref rd, .int ot] (fun U => U.heap.size = sz ∧ n0 ≤ sz ∧ GW n0 atx U ∧ va_P (dC, dI) classes [(rd, .inr (7, [.ref rd_tape, .int fd1, .int fa1, .int fp1, .ref bk, .ref rd_names, .ref rd_nameKind, .ref rd_nameNumber, .int (nI nm), .ref rd_knotNames, .int (nI en), .int (nI at1), .int tk1, .int (nI ts1), .long tv1])), (bk, .inr (0, [.int (nI bw), .ref bk_tail, .ref bk_head, .ref bk_hinder, .ref bk_size, .ref bk_walk, .ref bk_draught, .ref bk_doorIn, .ref bk_fanIn, .ref bk_faceIn, .int (nI bn), .int bk_day, .ref gr])), (rd_tape, .inl (k_rd_tape, 600, .inl f_rd_tape)), (rd_knotNames, .inl (k_rd_knotNames, 10, .inr (.inl f_rd_knotNames)))] U.heap ∧ va_K (dC, dI) classes [(k_rd_tape, .int), (k_rd_knotNames, .long)] U ∧ va_D (fun q => n0 ≤ q) [(rd, .inr (7, [.ref rd_tape, .int fd1, .int fa1, .int fp1, .ref bk, .ref rd_names, .ref rd_nameKind, .ref rd_nameNumber, .int (nI nm), .ref rd_knotNames, .int (nI en), .int (nI at1), .int tk1, .int (nI ts1), .long tv1])), (bk, .inr (0, [.int (nI bw), .ref bk_tail, .ref bk_head, .ref bk_hinder, .ref bk_size, .ref bk_walk, .ref bk_draught, .ref bk_doorIn, .ref bk_fanIn, .ref bk_faceIn, .int (nI bn), .int bk_day, .ref gr])), (rd_tape, .inl (k_rd_tape, 600, .inl f_rd_tape)), (rd_knotNames, .inl (k_rd_knotNames, 10, .inr (.inl f_rd_knotNames)))])) (va_Qi (fun (r : Int32) (rk9 : Int32) => r = rk9) (fun (rk9 : Int32) (t : State) => ∃ (fa9 : Int32), ∃ (fp9 : Int32), ∃ (at9 : Nat), ∃ (tk9 : Int32), ∃ (ts9 : Nat), ∃ (tv9 : Int64), ∃ (bn9 : Nat), ∃ (dy9 : Int32), ∃ (kn9 : Nat → Int64), ∃ (ps9 : Nat), (at9 ≤ en) ∧ (bn ≤ bn9 ∧ bn9 ≤ 10) ∧ (-1 ≤ dy9.toInt ∧ dy9.toInt < 10) ∧ (0 ≤ rk9.toInt ∧ rk9.toInt < 10) ∧ (CK fa1 fp1 fa9 fp9 (fKnot T en a0 bn f_rd_knotNames ot) (ps9, rk9, bn9, kn9) (xTk T en ps9 ts9 at9 tk9 tv9)) ∧ va_P (dC, dI) classes [(rd, .inr (7, [.ref rd_tape, .int fd1, .int fa9, .int fp9, .ref bk, .ref rd_names, .ref rd_nameKind, .ref rd_nameNumber, .int (nI nm), .ref rd_knotNames, .int (nI en), .int (nI at9), .int tk9, .int (nI ts9), .long tv9])), (bk, .inr (0, [.int (nI bw), .ref bk_tail, .ref bk_head, .ref bk_hinder, .ref bk_size, .ref bk_walk, .ref bk_draught, .ref bk_doorIn, .ref bk_fanIn, .ref bk_faceIn, .int (nI bn9), .int dy9, .ref gr])), (rd_tape, .inl (k_rd_tape, 600, .inl f_rd_tape)), (rd_knotNames, .inl (k_rd_knotNames, 10, .inr (.inl kn9)))] t.heap ∧ va_K (dC, dI) classes [(k_rd_tape, .int), (k_rd_knotNames, .long)] t ∧ va_D (va_A [(rd, .inr (7, [.ref rd_tape, .int fd1, .int fa1, .int fp1, .ref bk, .ref rd_names, .ref rd_nameKind, .ref rd_nameNumber, .int (nI nm), .ref rd_knotNames, .int (nI en), .int (nI at1), .int tk1, .int (nI ts1), .long tv1])), (bk, .inr (0, [.int (nI bw), .ref bk_tail, .ref bk_head, .ref bk_hinder, .ref bk_size, .ref bk_walk, .ref bk_draught, .ref bk_doorIn, .ref bk_fanIn, .ref bk_faceIn, .int (nI bn), .int bk_day, .ref gr])), (rd_tape, .inl (k_rd_tape, 600, .inl f_rd_tape)), (rd_knotNames, .inl (k_rd_knotNames, 10, .inr (.inl f_rd_knotNames)))] sz) [(rd, .inr (7, [.ref rd_tape, .int fd1, .int fa9, .int fp9, .ref bk, .ref rd_names, .ref rd_nameKind, .ref rd_nameNumber, .int (nI nm), .ref rd_knotNames, .int (nI en), .int (nI at9), .int tk9, .int (nI ts9), .long tv9])), (bk, .inr (0, [.int (nI bw), .ref bk_tail, .ref bk_head, .ref bk_hinder, .ref bk_size, .ref bk_walk, .ref bk_draught, .ref bk_doorIn, .ref bk_fanIn, .ref bk_faceIn, .int (nI bn9), .int dy9, .ref gr])), (rd_tape, .inl (k_rd_tape, 600, .inl f_rd_tape)), (rd_knotNames, .inl (k_rd_knotNames, 10, .inr (.inl kn9)))]) (va_A [(rd, .inr (7, [.ref rd_tape, .int fd1, .int fa1, .int fp1, .ref bk, .ref rd_names, .ref rd_nameKind, .ref rd_nameNumber, .int (nI nm), .ref rd_knotNames, .int (nI en), .int (nI at1), .int tk1, .int (nI ts1), .long tv1])), (bk, .inr (0, [.int (nI bw), .ref bk_tail, .ref bk_head, .ref bk_hinder, .ref bk_size, .ref bk_walk, .ref bk_draught, .ref bk_doorIn, .ref bk_fanIn, .ref bk_faceIn, .int (nI bn), .int bk_day, .ref gr])), (rd_tape, .inl (k_rd_tape, 600, .inl f_rd_tape)), (rd_knotNames, .inl (k_rd_knotNames, 10, .inr (.inl f_rd_knotNames)))] sz)) 0 0 (va_A [(rd, .inr (7, [.ref rd_tape, .int fd1, .int fa1, .int fp1, .ref bk, .ref rd_names, .ref rd_nameKind, .ref rd_nameNumber, .int (nI nm), .ref rd_knotNames, .int (nI en), .int (nI at1), .int tk1, .int (nI ts1), .long tv1])), (bk, .inr (0, [.int (nI bw), .ref bk_tail, .ref bk_head, .ref bk_hinder, .ref bk_size, .ref bk_walk, .ref bk_draught, .ref bk_doorIn, .ref bk_fanIn, .ref bk_faceIn, .int (nI bn), .int bk_day, .ref gr])), (rd_tape, .inl (k_rd_tape, 600, .inl f_rd_tape)), (rd_knotNames, .inl (k_rd_knotNames, 10, .inr (.inl f_rd_knotNames)))] sz) := by
  refine Met.ofW (cc := cX7_takeKnot) (maxL := 3) (ret := (some .int)) (by decide) rfl ?_
  intro p e s m args below meth c s₁ B hml hv
  obtain ⟨rfl, hsz, hn0, hG, hP, hK, hD0⟩ := hv
  have hx := B.exec
  have hb := B.bytes
  have hr := B.returns
  have hts := atoms_spec (ws := wM yX7_takeKnot cX7_takeKnot 3 (some .int)) B.pre
  have hown : s.vm.findClass RX7 = some m.cls := findClass_of_methodNamed B.named
  have hlocks := B.notSynchronized
  subst hsz
  have hD := hD0.self (sz := s.heap.size)
  have hA0 := vA_n0 hD0 hn0
  generalize hAe : va_A [(rd, .inr (7, [.ref rd_tape, .int fd1, .int fa1, .int fp1, .ref bk, .ref rd_names, .ref rd_nameKind, .ref rd_nameNumber, .int (nI nm), .ref rd_knotNames, .int (nI en), .int (nI at1), .int tk1, .int (nI ts1), .long tv1])), (bk, .inr (0, [.int (nI bw), .ref bk_tail, .ref bk_head, .ref bk_hinder, .ref bk_size, .ref bk_walk, .ref bk_draught, .ref bk_doorIn, .ref bk_fanIn, .ref bk_faceIn, .int (nI bn), .int bk_day, .ref gr])), (rd_tape, .inl (k_rd_tape, 600, .inl f_rd_tape)), (rd_knotNames, .inl (k_rd_knotNames, 10, .inr (.inl f_rd_knotNames)))] s.heap.size = A at hD hA0 ⊢
  have hA : ∀ q : Nat, s.heap.size ≤ q → A q := fun q h => by rw [← hAe]; exact Or.inr h
  have hS : va_S A s.heap s.heap [] := va_S.rf
  have hl := lv_entry ([.ref rd, .int ot]) (n := 3) (Nat.le_of_ble_eq_true rfl)
  rw [lg_entry_eq]
  generalize (lg_sl ([.ref rd, .int ot]) ++ List.replicate (3 - (lg_sl ([.ref rd, .int ot])).length) Slot.unset).toArray = ls at hl ⊢
  have hl : lv_has ls 3 [(0, .ref rd), (1, .int ot)] := hl
  refine lv_aload_n hx hb dX7_takeKnot_0 rfl (lv_at hl 0 rfl) ?_
  refine va_get (D := (dC, dI)) (ci := 7) (v := .int fa1) (C := RX7) (T := TX7) (N := 15) hx hb hts (fun w h => wM_c (iX7 w h)) hown hK hP 0 rfl rfl 2 (by decide) (hts _ (wM_c wd_337)) (fun _ h9 => h9) rfl dX7_takeKnot_1 ?_
  refine lv_if_eq (tgt := 9) hx hb dX7_takeKnot_4 (by decide) (fun c_1 => ?_) (fun c_1 => ?_)
  · skip
    have g_2 : fa1.toInt = (0 : Int) := i_eq c_1
    have htk_3 := h_tok c_1
    refine lv_aload_n hx hb dX7_takeKnot_9 rfl (lv_at hl 0 rfl) ?_
    obtain ⟨hPc, hDc, hFc⟩ := s3_c (ws' := [(rd, .inr (7, [.ref rd_tape, .int fd1, .int fa1, .int fp1, .ref bk, .ref rd_names, .ref rd_nameKind, .ref rd_nameNumber, .int (nI nm), .ref rd_knotNames, .int (nI en), .int (nI at1), .int tk1, .int (nI ts1), .long tv1]))]) [0] hP hD hS hA rfl (by decide)
    have hKc := hK.sub (tys' := []) [] rfl
    refine va_calli (va_runV (As := []) (rest := []) ⟨hx, hb, hml, hown, hts⟩ (d7_isName l dC dI n0 atx s.heap.size rd rd_tape fd1 fa1 fp1 bk rd_names rd_nameKind rd_nameNumber nm rd_knotNames en at1 tk1 ts1 tv1 T a0 htk_3) (cwV 0 hts (gV (fun w h => wM_c h) wd_823 wd_820 wd_822 wd_8 wd_117) rfl rfl rfl (by decide +kernel) ⟨Nat.le_of_ble_eq_true rfl, Nat.le_of_ble_eq_true rfl⟩) ⟨fun a U g mk q => by obtain ⟨q0, q1, q2, qG, qP, qK, qD⟩ := q; exact ⟨q0, q1, q2, GW.blind qG, qP, va_K.moved (u := U) (U := U.calling g mk a) (Vm.Alike.refl U.vm) qK, qD⟩, va_recv hKc hPc (ci := 7) (q0 := 0) rfl rfl, fun U hU hW => ⟨rfl, by rw [hU], Nat.le_trans hn0 hS.1, GW.go hW hU hG (fun q hq hA9 => hS.2.1 q hq (fun h => hA9 (hA0 q h))), by rw [hU]; exact hPc, va_K.moved hW.alike hKc, hDc.weaken (fun _ _ _ h => hA0 _ h)⟩⟩ rfl rfl hl.1 rfl (lv_room (Nat.le_of_ble_eq_true rfl)) dX7_takeKnot_10 ⟨Nat.le_of_ble_eq_true rfl, Nat.le_of_ble_eq_true rfl⟩) hS (fun q _ h => hFc q h) hFc (fun r_4 u t H1 locs ht hvm hw_5 hB hz1 hk1 hS => ?_)
    obtain ⟨hP1, hK1, hD1⟩ := hB
    rw [ht] at hP1
    obtain ⟨hP, hD⟩ := s3_j (L := [(bk, .inr (0, [.int (nI bw), .ref bk_tail, .ref bk_head, .ref bk_hinder, .ref bk_size, .ref bk_walk, .ref bk_draught, .ref bk_doorIn, .ref bk_fanIn, .ref bk_faceIn, .int (nI bn), .int bk_day, .ref gr])), (rd_tape, .inl (k_rd_tape, 600, .inl f_rd_tape)), (rd_knotNames, .inl (k_rd_knotNames, 10, .inr (.inl f_rd_knotNames))), (rd, .inr (7, [.ref rd_tape, .int fd1, .int fa1, .int fp1, .ref bk, .ref rd_names, .ref rd_nameKind, .ref rd_nameNumber, .int (nI nm), .ref rd_knotNames, .int (nI en), .int (nI at1), .int tk1, .int (nI ts1), .long tv1]))]) 3 hP hD [0] [1, 2, 3] hk1 hFc hP1 hD1 rfl rfl rfl (by decide) (by decide)
    generalize H1 = H at hP hS ⊢
    rcases hw_5 with ⟨rfl, s_6⟩ | ⟨rfl, s_7⟩
    · skip
      refine lv_if_ne (tgt := 24) hx hb dX7_takeKnot_13 (by decide) (fun c_8 => ?_) (fun c_8 => ?_)
      · skip
        refine lv_aload_n hx hb dX7_takeKnot_24 rfl (lv_at hl 0 rfl) ?_
        obtain ⟨hPc, hDc, hFc⟩ := s3_c (ws' := [(rd, .inr (7, [.ref rd_tape, .int fd1, .int fa1, .int fp1, .ref bk, .ref rd_names, .ref rd_nameKind, .ref rd_nameNumber, .int (nI nm), .ref rd_knotNames, .int (nI en), .int (nI at1), .int tk1, .int (nI ts1), .long tv1])), (bk, .inr (0, [.int (nI bw), .ref bk_tail, .ref bk_head, .ref bk_hinder, .ref bk_size, .ref bk_walk, .ref bk_draught, .ref bk_doorIn, .ref bk_fanIn, .ref bk_faceIn, .int (nI bn), .int bk_day, .ref gr])), (rd_knotNames, .inl (k_rd_knotNames, 10, .inr (.inl f_rd_knotNames)))]) [3, 0, 2] hP hD hS hA rfl (by decide)
        have hKc := hK.sub (tys' := [(k_rd_knotNames, .long)]) [1] rfl
        refine va_calli (va_runV (As := []) (rest := []) ⟨hx, hb, hml, hown, hts⟩ (d7_knotNumber l dC dI n0 atx H.size rd rd_tape fd1 fa1 fp1 bk rd_names rd_nameKind rd_nameNumber nm rd_knotNames en at1 tk1 ts1 tv1 bw bk_tail bk_head bk_hinder bk_size bk_walk bk_draught bk_doorIn bk_fanIn bk_faceIn bn bk_day gr k_rd_knotNames f_rd_knotNames (by first | with_reducible assumption | omega | exact vp_in_iff.mpr (by omega) | exact vp_in_nI (by omega) (by omega) | exact ⟨by omega, by omega⟩) (by first | with_reducible assumption | omega | exact vp_in_iff.mpr (by omega) | exact vp_in_nI (by omega) (by omega) | exact ⟨by omega, by omega⟩) (by first | with_reducible assumption | omega | exact vp_in_iff.mpr (by omega) | exact vp_in_nI (by omega) (by omega) | exact ⟨by omega, by omega⟩) (by first | with_reducible assumption | omega | exact vp_in_iff.mpr (by omega) | exact vp_in_nI (by omega) (by omega) | exact ⟨by omega, by omega⟩)) (cwV 0 hts (gV (fun w h => wM_c h) wd_843 wd_840 wd_842 wd_12 wd_117) rfl rfl rfl (by decide +kernel) ⟨Nat.le_of_ble_eq_true rfl, Nat.le_of_ble_eq_true rfl⟩) ⟨fun a U g mk q => by obtain ⟨q0, q1, q2, qG, qP, qK, qD⟩ := q; exact ⟨q0, q1, q2, GW.blind qG, qP, va_K.moved (u := U) (U := U.calling g mk a) (Vm.Alike.refl U.vm) qK, qD⟩, va_recv hKc hPc (ci := 7) (q0 := 0) rfl rfl, fun U hU hW => ⟨rfl, by rw [hU], Nat.le_trans hn0 hS.1, GW.go hW hU hG (fun q hq hA9 => hS.2.1 q hq (fun h => hA9 (hA0 q h))), by rw [hU]; exact hPc, va_K.moved hW.alike hKc, hDc.weaken (fun _ _ _ h => hA0 _ h)⟩⟩ rfl rfl hl.1 rfl (lv_room (Nat.le_of_ble_eq_true rfl)) dX7_takeKnot_25 ⟨Nat.le_of_ble_eq_true rfl, Nat.le_of_ble_eq_true rfl⟩) hS (fun q _ h => hFc q h) hFc (fun r_9 u t H1 locs ht hvm hw_10 hB hz1 hk1 hS => ?_)
        obtain ⟨hP1, hK1, hD1⟩ := hB
        rw [ht] at hP1
        obtain ⟨hP, hD⟩ := s3_j (L := [(rd_tape, .inl (k_rd_tape, 600, .inl f_rd_tape)), (rd, .inr (7, [.ref rd_tape, .int fd1, .int fa1, .int fp1, .ref bk, .ref rd_names, .ref rd_nameKind, .ref rd_nameNumber, .int (nI nm), .ref rd_knotNames, .int (nI en), .int (nI at1), .int tk1, .int (nI ts1), .long tv1])), (bk, .inr (0, [.int (nI bw), .ref bk_tail, .ref bk_head, .ref bk_hinder, .ref bk_size, .ref bk_walk, .ref bk_draught, .ref bk_doorIn, .ref bk_fanIn, .ref bk_faceIn, .int (nI bn), .int bk_day, .ref gr])), (rd_knotNames, .inl (k_rd_knotNames, 10, .inr (.inl f_rd_knotNames)))]) 1 hP hD [3, 0, 2] [1] hk1 hFc hP1 hD1 rfl rfl rfl (by decide) (by decide)
        generalize H1 = H at hP hS ⊢
        rcases hw_10 with ⟨fk_11, hfk_12, rfl, hfe_13, hfl_14⟩ | ⟨rfl, hfn_15⟩
        · skip
          refine lv_istore_n (lv' := [(2, .int (nI fk_11)), (0, .ref rd), (1, .int ot)]) hx hb dX7_takeKnot_28 rfl hl (by decide) rfl (fun ls hl => ?_)
          refine lv_iload_n hx hb dX7_takeKnot_29 rfl (lv_at hl 0 rfl) ?_
          refine lv_iconst (v := (-1)) hx hb dX7_takeKnot_30 (by decide) ?_
          refine lv_icmp_ne (tgt := 42) hx hb dX7_takeKnot_31 (by decide) (fun c_16 => ?_) (fun c_16 => ?_)
          · skip
            refine lv_iload_n hx hb dX7_takeKnot_42 rfl (lv_at hl 0 rfl) ?_
            refine lv_iload_n hx hb dX7_takeKnot_43 rfl (lv_at hl 2 rfl) ?_
            refine lv_icmp_ne (tgt := 53) hx hb dX7_takeKnot_44 (by decide) (fun c_17 => ?_) (fun c_17 => ?_)
            · skip
              have g_18 : ((fk_11 : Nat) : Int) ≠ ot.toInt := (by have h := i_ne c_17; rw [nI_toInt (by omega)] at h; exact h)
              refine lv_aload_n hx hb dX7_takeKnot_53 rfl (lv_at hl 1 rfl) ?_
              refine va_get (D := (dC, dI)) (ci := 7) (v := .int fa1) (C := RX7) (T := TX7) (N := 15) hx hb hts (fun w h => wM_c (iX7 w h)) hown hK hP 1 rfl rfl 2 (by decide) (hts _ (wM_c wd_337)) (fun _ h9 => h9) rfl dX7_takeKnot_54 ?_
              refine lv_if_ne (tgt := 64) hx hb dX7_takeKnot_57 (by decide) (fun c_19 => ?_) (fun c_19 => ?_)
              · exact absurd c_1 c_19
              refine lv_aload_n hx hb dX7_takeKnot_60 rfl (lv_at hl 1 rfl) ?_
              obtain ⟨hPc, hDc, hFc⟩ := s3_c (ws' := [(rd, .inr (7, [.ref rd_tape, .int fd1, .int fa1, .int fp1, .ref bk, .ref rd_names, .ref rd_nameKind, .ref rd_nameNumber, .int (nI nm), .ref rd_knotNames, .int (nI en), .int (nI at1), .int tk1, .int (nI ts1), .long tv1])), (rd_tape, .inl (k_rd_tape, 600, .inl f_rd_tape))]) [1, 0] hP hD hS hA rfl (by decide)
              have hKc := hK.sub (tys' := [(k_rd_tape, .int)]) [0] rfl
              refine va_callv (va_runV (As := []) (rest := []) ⟨hx, hb, hml, hown, hts⟩ (d7_next l dC dI n0 atx H.size rd rd_tape fd1 fa1 fp1 bk rd_names rd_nameKind rd_nameNumber nm rd_knotNames en at1 tk1 (nI ts1) tv1 k_rd_tape f_rd_tape T (by first | with_reducible assumption | omega | exact vp_in_iff.mpr (by omega) | exact vp_in_nI (by omega) (by omega) | exact ⟨by omega, by omega⟩) (by first | with_reducible assumption | omega | exact vp_in_iff.mpr (by omega) | exact vp_in_nI (by omega) (by omega) | exact ⟨by omega, by omega⟩) (by first | with_reducible assumption | omega | exact vp_in_iff.mpr (by omega) | exact vp_in_nI (by omega) (by omega) | exact ⟨by omega, by omega⟩)) (cwV 0 hts (gV (fun w h => wM_c h) wd_735 wd_732 wd_734 wd_1 wd_117) rfl rfl rfl (by decide +kernel) ⟨Nat.le_of_ble_eq_true rfl, Nat.le_of_ble_eq_true rfl⟩) ⟨fun a U g mk q => by obtain ⟨q0, q1, q2, qG, qP, qK, qD⟩ := q; exact ⟨q0, q1, q2, GW.blind qG, qP, va_K.moved (u := U) (U := U.calling g mk a) (Vm.Alike.refl U.vm) qK, qD⟩, va_recv hKc hPc (ci := 7) (q0 := 0) rfl rfl, fun U hU hW => ⟨rfl, by rw [hU], Nat.le_trans hn0 hS.1, GW.go hW hU hG (fun q hq hA9 => hS.2.1 q hq (fun h => hA9 (hA0 q h))), by rw [hU]; exact hPc, va_K.moved hW.alike hKc, hDc.weaken (fun _ _ _ h => hA0 _ h)⟩⟩ rfl rfl hl.1 rfl (lv_room (Nat.le_of_ble_eq_true rfl)) dX7_takeKnot_61 ⟨Nat.le_of_ble_eq_true rfl, Nat.le_of_ble_eq_true rfl⟩) hS (fun q _ h => hFc q h) hFc (fun u t H1 locs ht hvm hw_21 hB hz1 hk1 hS => ?_)
              obtain ⟨at9_22, tk9_23, ts9_24, tv9_25, hf_26, hf_27, hP1, hK1, hD1⟩ := hB
              rw [ht] at hP1
              obtain ⟨hP, hD⟩ := s3_j (L := [(bk, .inr (0, [.int (nI bw), .ref bk_tail, .ref bk_head, .ref bk_hinder, .ref bk_size, .ref bk_walk, .ref bk_draught, .ref bk_doorIn, .ref bk_fanIn, .ref bk_faceIn, .int (nI bn), .int bk_day, .ref gr])), (rd_knotNames, .inl (k_rd_knotNames, 10, .inr (.inl f_rd_knotNames))), (rd, .inr (7, [.ref rd_tape, .int fd1, .int fa1, .int fp1, .ref bk, .ref rd_names, .ref rd_nameKind, .ref rd_nameNumber, .int (nI nm), .ref rd_knotNames, .int (nI en), .int (nI at9_22), .int tk9_23, .int (nI ts9_24), .long tv9_25])), (rd_tape, .inl (k_rd_tape, 600, .inl f_rd_tape))]) 2 hP hD [1, 0] [2, 3] hk1 hFc hP1 hD1 rfl rfl rfl (by decide) (by decide)
              generalize H1 = H at hP hS ⊢
              have htk_28 := xgo htk_3 hf_27
              refine lv_iload_n hx hb dX7_takeKnot_64 rfl (lv_at hl 0 rfl) ?_
              have hK9 := hK.sub (tys' := [(k_rd_tape, .int), (k_rd_knotNames, .long)]) [0, 1] rfl
              exact W.iret (v := (nI fk_11)) hx hb hr (fun t ht hW => ⟨⟨(nI fk_11), (nI fk_11), rfl, rfl, fa1, fp1, at9_22, tk9_23, ts9_24, tv9_25, bn, bk_day, f_rd_knotNames, (tkE T en a0), (by omega), (by omega), q_day, (by first | have z9 : (0 : Int32).toInt = 0 := rfl; omega | (rw [nI_toInt (by omega)]; omega)), (ck_k c_1 c_1 (xkn_t s_6 (xnm_w htk_3 s_6) hfk_12 hfe_13 hfl_14 c_17) htk_28), by rw [ht]; exact hP.sub [2, 0, 3, 1] rfl, va_K.moved hW.alike hK9, hD.sub [2, 0, 3, 1] (by decide) rfl⟩, hS.F ht⟩) hS.2.2 dX7_takeKnot_65
            · skip
              have g_29 : ((fk_11 : Nat) : Int) = ot.toInt := (by have h := i_eq c_17; rw [nI_toInt (by omega)] at h; exact h)
              refine lv_aload_n hx hb dX7_takeKnot_47 rfl (lv_at hl 1 rfl) ?_
              refine lv_iconst (v := 3) hx hb dX7_takeKnot_48 (by decide) ?_
              obtain ⟨hPc, hDc, hFc⟩ := s3_c (ws' := [(rd, .inr (7, [.ref rd_tape, .int fd1, .int fa1, .int fp1, .ref bk, .ref rd_names, .ref rd_nameKind, .ref rd_nameNumber, .int (nI nm), .ref rd_knotNames, .int (nI en), .int (nI at1), .int tk1, .int (nI ts1), .long tv1]))]) [1] hP hD hS hA rfl (by decide)
              have hKc := hK.sub (tys' := []) [] rfl
              refine va_calli (va_runV (As := [.int 3]) (rest := []) ⟨hx, hb, hml, hown, hts⟩ (d7_miss l dC dI n0 atx H.size rd rd_tape fd1 fa1 fp1 bk rd_names rd_nameKind rd_nameNumber nm rd_knotNames en at1 tk1 ts1 tv1 3 ) (cwV 1 hts (gV (fun w h => wM_c h) wd_831 wd_828 wd_830 wd_9 wd_117) rfl rfl rfl (by decide +kernel) ⟨Nat.le_of_ble_eq_true rfl, Nat.le_of_ble_eq_true rfl⟩) ⟨fun a U g mk q => by obtain ⟨q0, q1, q2, qG, qP, qK, qD⟩ := q; exact ⟨q0, q1, q2, GW.blind qG, qP, va_K.moved (u := U) (U := U.calling g mk a) (Vm.Alike.refl U.vm) qK, qD⟩, va_recv hKc hPc (ci := 7) (q0 := 0) rfl rfl, fun U hU hW => ⟨rfl, by rw [hU], Nat.le_trans hn0 hS.1, GW.go hW hU hG (fun q hq hA9 => hS.2.1 q hq (fun h => hA9 (hA0 q h))), by rw [hU]; exact hPc, va_K.moved hW.alike hKc, hDc.weaken (fun _ _ _ h => hA0 _ h)⟩⟩ rfl rfl hl.1 rfl (lv_room (Nat.le_of_ble_eq_true rfl)) dX7_takeKnot_49 ⟨Nat.le_of_ble_eq_true rfl, Nat.le_of_ble_eq_true rfl⟩) hS (fun q _ h => hFc q h) hFc (fun r_30 u t H1 locs ht hvm hw_31 hB hz1 hk1 hS => ?_)
              obtain ⟨fa9_32, fp9_33, hf_34, hf_35, hP1, hK1, hD1⟩ := hB
              rw [ht] at hP1
              obtain ⟨hP, hD⟩ := s3_j (L := [(rd_tape, .inl (k_rd_tape, 600, .inl f_rd_tape)), (bk, .inr (0, [.int (nI bw), .ref bk_tail, .ref bk_head, .ref bk_hinder, .ref bk_size, .ref bk_walk, .ref bk_draught, .ref bk_doorIn, .ref bk_fanIn, .ref bk_faceIn, .int (nI bn), .int bk_day, .ref gr])), (rd_knotNames, .inl (k_rd_knotNames, 10, .inr (.inl f_rd_knotNames))), (rd, .inr (7, [.ref rd_tape, .int fd1, .int fa9_32, .int fp9_33, .ref bk, .ref rd_names, .ref rd_nameKind, .ref rd_nameNumber, .int (nI nm), .ref rd_knotNames, .int (nI en), .int (nI at1), .int tk1, .int (nI ts1), .long tv1]))]) 3 hP hD [1] [0, 2, 3] hk1 hFc hP1 hD1 rfl rfl rfl (by decide) (by decide)
              generalize H1 = H at hP hS ⊢
              obtain rfl : r_30 = 0 := hw_31
              have hm_36 := hf_34 c_1
              have hz_37 : ¬ fa9_32 = 0 := by rw [hm_36.1]; decide
              refine lv_pop hx hb dX7_takeKnot_52 rfl ?_
              refine lv_aload_n hx hb dX7_takeKnot_53 rfl (lv_at hl 1 rfl) ?_
              refine va_get (D := (dC, dI)) (ci := 7) (v := .int fa9_32) (C := RX7) (T := TX7) (N := 15) hx hb hts (fun w h => wM_c (iX7 w h)) hown hK hP 3 rfl rfl 2 (by decide) (hts _ (wM_c wd_337)) (fun _ h9 => h9) rfl dX7_takeKnot_54 ?_
              refine lv_if_ne (tgt := 64) hx hb dX7_takeKnot_57 (by decide) (fun c_38 => ?_) (fun c_38 => ?_)
              · skip
                refine lv_iload_n hx hb dX7_takeKnot_64 rfl (lv_at hl 0 rfl) ?_
                have hK9 := hK.sub (tys' := [(k_rd_tape, .int), (k_rd_knotNames, .long)]) [0, 1] rfl
                exact W.iret (v := (nI fk_11)) hx hb hr (fun t ht hW => ⟨⟨(nI fk_11), (nI fk_11), rfl, rfl, fa9_32, fp9_33, at1, tk1, ts1, tv1, bn, bk_day, f_rd_knotNames, 0, (by omega), (by omega), q_day, (by first | have z9 : (0 : Int32).toInt = 0 := rfl; omega | (rw [nI_toInt (by omega)]; omega)), (ck_e c_1 hm_36 (by decide) (xkn_3 htk_3.1 s_6 (xnm_w htk_3 s_6) hfk_12 hfe_13 hfl_14 c_17)), by rw [ht]; exact hP.sub [3, 1, 0, 2] rfl, va_K.moved hW.alike hK9, hD.sub [3, 1, 0, 2] (by decide) rfl⟩, hS.F ht⟩) hS.2.2 dX7_takeKnot_65
              · exact absurd c_38 hz_37
          · exact absurd (i_eq c_16) (by rw [nI_toInt (by omega)]; have h9 : (-1 : Int32).toInt = -1 := rfl; omega)
        · skip
          refine lv_istore_n (lv' := [(2, .int (-1)), (0, .ref rd), (1, .int ot)]) hx hb dX7_takeKnot_28 rfl hl (by decide) rfl (fun ls hl => ?_)
          refine lv_iload_n hx hb dX7_takeKnot_29 rfl (lv_at hl 0 rfl) ?_
          refine lv_iconst (v := (-1)) hx hb dX7_takeKnot_30 (by decide) ?_
          refine lv_icmp_ne (tgt := 42) hx hb dX7_takeKnot_31 (by decide) (fun c_39 => ?_) (fun c_39 => ?_)
          · exact absurd c_39 (by decide)
          refine lv_aload_n hx hb dX7_takeKnot_34 rfl (lv_at hl 1 rfl) ?_
          obtain ⟨hPc, hDc, hFc⟩ := s3_c (ws' := [(rd, .inr (7, [.ref rd_tape, .int fd1, .int fa1, .int fp1, .ref bk, .ref rd_names, .ref rd_nameKind, .ref rd_nameNumber, .int (nI nm), .ref rd_knotNames, .int (nI en), .int (nI at1), .int tk1, .int (nI ts1), .long tv1])), (bk, .inr (0, [.int (nI bw), .ref bk_tail, .ref bk_head, .ref bk_hinder, .ref bk_size, .ref bk_walk, .ref bk_draught, .ref bk_doorIn, .ref bk_fanIn, .ref bk_faceIn, .int (nI bn), .int bk_day, .ref gr])), (rd_knotNames, .inl (k_rd_knotNames, 10, .inr (.inl f_rd_knotNames)))]) [1, 2, 3] hP hD hS hA rfl (by decide)
          have hKc := hK.sub (tys' := [(k_rd_knotNames, .long)]) [1] rfl
          refine va_calli (va_runV (As := []) (rest := []) ⟨hx, hb, hml, hown, hts⟩ (d7_addKnot l dC dI n0 atx H.size rd rd_tape fd1 fa1 fp1 bk rd_names rd_nameKind rd_nameNumber nm rd_knotNames en at1 tk1 ts1 tv1 bw bk_tail bk_head bk_hinder bk_size bk_walk bk_draught bk_doorIn bk_fanIn bk_faceIn bn bk_day gr k_rd_knotNames f_rd_knotNames (by first | with_reducible assumption | omega | exact vp_in_iff.mpr (by omega) | exact vp_in_nI (by omega) (by omega) | exact ⟨by omega, by omega⟩) (by first | with_reducible assumption | omega | exact vp_in_iff.mpr (by omega) | exact vp_in_nI (by omega) (by omega) | exact ⟨by omega, by omega⟩) (by first | with_reducible assumption | omega | exact vp_in_iff.mpr (by omega) | exact vp_in_nI (by omega) (by omega) | exact ⟨by omega, by omega⟩) (by first | with_reducible assumption | omega | exact vp_in_iff.mpr (by omega) | exact vp_in_nI (by omega) (by omega) | exact ⟨by omega, by omega⟩) (by first | with_reducible assumption | omega | exact vp_in_iff.mpr (by omega) | exact vp_in_nI (by omega) (by omega) | exact ⟨by omega, by omega⟩) c_1) (cwV 0 hts (gV (fun w h => wM_c h) wd_847 wd_844 wd_846 wd_13 wd_117) rfl rfl rfl (by decide +kernel) ⟨Nat.le_of_ble_eq_true rfl, Nat.le_of_ble_eq_true rfl⟩) ⟨fun a U g mk q => by obtain ⟨q0, q1, q2, qG, qP, qK, qD⟩ := q; exact ⟨q0, q1, q2, GW.blind qG, qP, va_K.moved (u := U) (U := U.calling g mk a) (Vm.Alike.refl U.vm) qK, qD⟩, va_recv hKc hPc (ci := 7) (q0 := 0) rfl rfl, fun U hU hW => ⟨rfl, by rw [hU], Nat.le_trans hn0 hS.1, GW.go hW hU hG (fun q hq hA9 => hS.2.1 q hq (fun h => hA9 (hA0 q h))), by rw [hU]; exact hPc, va_K.moved hW.alike hKc, hDc.weaken (fun _ _ _ h => hA0 _ h)⟩⟩ rfl rfl hl.1 rfl (lv_room (Nat.le_of_ble_eq_true rfl)) dX7_takeKnot_35 ⟨Nat.le_of_ble_eq_true rfl, Nat.le_of_ble_eq_true rfl⟩) hS (fun q _ h => hFc q h) hFc (fun r_40 u t H1 locs ht hvm hw_41 hB hz1 hk1 hS => ?_)
          subst hw_41
          obtain ⟨fa9_42, fp9_43, bn9_44, dy9_45, kn9_46, hf_47, hf_48, hf_49, hf_50, hP1, hK1, hD1⟩ := hB
          rw [ht] at hP1
          obtain ⟨hP, hD⟩ := s3_j (L := [(rd_tape, .inl (k_rd_tape, 600, .inl f_rd_tape)), (rd, .inr (7, [.ref rd_tape, .int fd1, .int fa9_42, .int fp9_43, .ref bk, .ref rd_names, .ref rd_nameKind, .ref rd_nameNumber, .int (nI nm), .ref rd_knotNames, .int (nI en), .int (nI at1), .int tk1, .int (nI ts1), .long tv1])), (bk, .inr (0, [.int (nI bw), .ref bk_tail, .ref bk_head, .ref bk_hinder, .ref bk_size, .ref bk_walk, .ref bk_draught, .ref bk_doorIn, .ref bk_fanIn, .ref bk_faceIn, .int (nI bn9_44), .int dy9_45, .ref gr])), (rd_knotNames, .inl (k_rd_knotNames, 10, .inr (.inl kn9_46)))]) 1 hP hD [1, 2, 3] [0] hk1 hFc hP1 hD1 rfl rfl rfl (by decide) (by decide)
          generalize H1 = H at hP hS ⊢
          rcases hf_50 with ⟨s_51, s_52, s_53⟩ | ⟨s_54, s_55, s_56, s_57, s_58, s_59⟩
          · skip
            have hz_60 : ¬ fa9_42 = 0 := by rw [s_52]; decide
            refine lv_istore_n (lv' := [(2, .int r_40), (0, .ref rd), (1, .int ot)]) hx hb dX7_takeKnot_38 rfl hl (by decide) rfl (fun ls hl => ?_)
            refine lv_goto (tgt := 53) hx hb dX7_takeKnot_39 (by decide) ?_
            refine lv_aload_n hx hb dX7_takeKnot_53 rfl (lv_at hl 1 rfl) ?_
            refine va_get (D := (dC, dI)) (ci := 7) (v := .int fa9_42) (C := RX7) (T := TX7) (N := 15) hx hb hts (fun w h => wM_c (iX7 w h)) hown hK hP 1 rfl rfl 2 (by decide) (hts _ (wM_c wd_337)) (fun _ h9 => h9) rfl dX7_takeKnot_54 ?_
            refine lv_if_ne (tgt := 64) hx hb dX7_takeKnot_57 (by decide) (fun c_61 => ?_) (fun c_61 => ?_)
            · skip
              refine lv_iload_n hx hb dX7_takeKnot_64 rfl (lv_at hl 0 rfl) ?_
              have hK9 := hK.sub (tys' := [(k_rd_tape, .int), (k_rd_knotNames, .long)]) [0, 1] rfl
              exact W.iret (v := r_40) hx hb hr (fun t ht hW => ⟨⟨r_40, r_40, rfl, rfl, fa9_42, fp9_43, at1, tk1, ts1, tv1, bn9_44, dy9_45, kn9_46, 0, (by omega), (by omega), (by assumption), (by assumption), (ck_e c_1 ⟨s_52, s_53⟩ (by decide) (xkn_5 htk_3.1 s_6 (xnm_w htk_3 s_6) hfn_15 s_51)), by rw [ht]; exact hP.sub [1, 2, 0, 3] rfl, va_K.moved hW.alike hK9, hD.sub [1, 2, 0, 3] (by decide) rfl⟩, hS.F ht⟩) hS.2.2 dX7_takeKnot_65
            · exact absurd c_61 hz_60
          · skip
            have hz_62 : fa9_42 = 0 := s_55.trans c_1
            refine lv_istore_n (lv' := [(2, .int r_40), (0, .ref rd), (1, .int ot)]) hx hb dX7_takeKnot_38 rfl hl (by decide) rfl (fun ls hl => ?_)
            refine lv_goto (tgt := 53) hx hb dX7_takeKnot_39 (by decide) ?_
            refine lv_aload_n hx hb dX7_takeKnot_53 rfl (lv_at hl 1 rfl) ?_
            refine va_get (D := (dC, dI)) (ci := 7) (v := .int fa9_42) (C := RX7) (T := TX7) (N := 15) hx hb hts (fun w h => wM_c (iX7 w h)) hown hK hP 1 rfl rfl 2 (by decide) (hts _ (wM_c wd_337)) (fun _ h9 => h9) rfl dX7_takeKnot_54 ?_
            refine lv_if_ne (tgt := 64) hx hb dX7_takeKnot_57 (by decide) (fun c_63 => ?_) (fun c_63 => ?_)
            · exact absurd hz_62 c_63
            refine lv_aload_n hx hb dX7_takeKnot_60 rfl (lv_at hl 1 rfl) ?_
            obtain ⟨hPc, hDc, hFc⟩ := s3_c (ws' := [(rd, .inr (7, [.ref rd_tape, .int fd1, .int fa9_42, .int fp9_43, .ref bk, .ref rd_names, .ref rd_nameKind, .ref rd_nameNumber, .int (nI nm), .ref rd_knotNames, .int (nI en), .int (nI at1), .int tk1, .int (nI ts1), .long tv1])), (rd_tape, .inl (k_rd_tape, 600, .inl f_rd_tape))]) [1, 0] hP hD hS hA rfl (by decide)
            have hKc := hK.sub (tys' := [(k_rd_tape, .int)]) [0] rfl
            refine va_callv (va_runV (As := []) (rest := []) ⟨hx, hb, hml, hown, hts⟩ (d7_next l dC dI n0 atx H.size rd rd_tape fd1 fa9_42 fp9_43 bk rd_names rd_nameKind rd_nameNumber nm rd_knotNames en at1 tk1 (nI ts1) tv1 k_rd_tape f_rd_tape T (by first | with_reducible assumption | omega | exact vp_in_iff.mpr (by omega) | exact vp_in_nI (by omega) (by omega) | exact ⟨by omega, by omega⟩) (by first | with_reducible assumption | omega | exact vp_in_iff.mpr (by omega) | exact vp_in_nI (by omega) (by omega) | exact ⟨by omega, by omega⟩) (by first | with_reducible assumption | omega | exact vp_in_iff.mpr (by omega) | exact vp_in_nI (by omega) (by omega) | exact ⟨by omega, by omega⟩)) (cwV 0 hts (gV (fun w h => wM_c h) wd_735 wd_732 wd_734 wd_1 wd_117) rfl rfl rfl (by decide +kernel) ⟨Nat.le_of_ble_eq_true rfl, Nat.le_of_ble_eq_true rfl⟩) ⟨fun a U g mk q => by obtain ⟨q0, q1, q2, qG, qP, qK, qD⟩ := q; exact ⟨q0, q1, q2, GW.blind qG, qP, va_K.moved (u := U) (U := U.calling g mk a) (Vm.Alike.refl U.vm) qK, qD⟩, va_recv hKc hPc (ci := 7) (q0 := 0) rfl rfl, fun U hU hW => ⟨rfl, by rw [hU], Nat.le_trans hn0 hS.1, GW.go hW hU hG (fun q hq hA9 => hS.2.1 q hq (fun h => hA9 (hA0 q h))), by rw [hU]; exact hPc, va_K.moved hW.alike hKc, hDc.weaken (fun _ _ _ h => hA0 _ h)⟩⟩ rfl rfl hl.1 rfl (lv_room (Nat.le_of_ble_eq_true rfl)) dX7_takeKnot_61 ⟨Nat.le_of_ble_eq_true rfl, Nat.le_of_ble_eq_true rfl⟩) hS (fun q _ h => hFc q h) hFc (fun u t H1 locs ht hvm hw_65 hB hz1 hk1 hS => ?_)
            obtain ⟨at9_66, tk9_67, ts9_68, tv9_69, hf_70, hf_71, hP1, hK1, hD1⟩ := hB
            rw [ht] at hP1
            obtain ⟨hP, hD⟩ := s3_j (L := [(bk, .inr (0, [.int (nI bw), .ref bk_tail, .ref bk_head, .ref bk_hinder, .ref bk_size, .ref bk_walk, .ref bk_draught, .ref bk_doorIn, .ref bk_fanIn, .ref bk_faceIn, .int (nI bn9_44), .int dy9_45, .ref gr])), (rd_knotNames, .inl (k_rd_knotNames, 10, .inr (.inl kn9_46))), (rd, .inr (7, [.ref rd_tape, .int fd1, .int fa9_42, .int fp9_43, .ref bk, .ref rd_names, .ref rd_nameKind, .ref rd_nameNumber, .int (nI nm), .ref rd_knotNames, .int (nI en), .int (nI at9_66), .int tk9_67, .int (nI ts9_68), .long tv9_69])), (rd_tape, .inl (k_rd_tape, 600, .inl f_rd_tape))]) 2 hP hD [1, 0] [2, 3] hk1 hFc hP1 hD1 rfl rfl rfl (by decide) (by decide)
            generalize H1 = H at hP hS ⊢
            have htk_72 := xgo htk_3 hf_71
            refine lv_iload_n hx hb dX7_takeKnot_64 rfl (lv_at hl 0 rfl) ?_
            have hK9 := hK.sub (tys' := [(k_rd_tape, .int), (k_rd_knotNames, .long)]) [0, 1] rfl
            exact W.iret (v := r_40) hx hb hr (fun t ht hW => ⟨⟨r_40, r_40, rfl, rfl, fa9_42, fp9_43, at9_66, tk9_67, ts9_68, tv9_69, bn9_44, dy9_45, kn9_46, (tkE T en a0), (by omega), (by omega), (by assumption), (by assumption), (ck_k c_1 hz_62 (by rw [s_59, s_57]; exact xkn_n s_6 (xnm_w htk_3 s_6) hfn_15 s_54 s_58) htk_72), by rw [ht]; exact hP.sub [2, 0, 3, 1] rfl, va_K.moved hW.alike hK9, hD.sub [2, 0, 3, 1] (by decide) rfl⟩, hS.F ht⟩) hS.2.2 dX7_takeKnot_65
      · exact absurd c_8 (by decide)
    · skip
      refine lv_if_ne (tgt := 24) hx hb dX7_takeKnot_13 (by decide) (fun c_73 => ?_) (fun c_73 => ?_)
      · exact absurd c_73 (by decide)
      refine lv_aload_n hx hb dX7_takeKnot_16 rfl (lv_at hl 0 rfl) ?_
      refine lv_iconst (v := 1) hx hb dX7_takeKnot_17 (by decide) ?_
      obtain ⟨hPc, hDc, hFc⟩ := s3_c (ws' := [(rd, .inr (7, [.ref rd_tape, .int fd1, .int fa1, .int fp1, .ref bk, .ref rd_names, .ref rd_nameKind, .ref rd_nameNumber, .int (nI nm), .ref rd_knotNames, .int (nI en), .int (nI at1), .int tk1, .int (nI ts1), .long tv1]))]) [3] hP hD hS hA rfl (by decide)
      have hKc := hK.sub (tys' := []) [] rfl
      refine va_calli (va_runV (As := [.int 1]) (rest := []) ⟨hx, hb, hml, hown, hts⟩ (d7_miss l dC dI n0 atx H.size rd rd_tape fd1 fa1 fp1 bk rd_names rd_nameKind rd_nameNumber nm rd_knotNames en at1 tk1 ts1 tv1 1 ) (cwV 1 hts (gV (fun w h => wM_c h) wd_831 wd_828 wd_830 wd_9 wd_117) rfl rfl rfl (by decide +kernel) ⟨Nat.le_of_ble_eq_true rfl, Nat.le_of_ble_eq_true rfl⟩) ⟨fun a U g mk q => by obtain ⟨q0, q1, q2, qG, qP, qK, qD⟩ := q; exact ⟨q0, q1, q2, GW.blind qG, qP, va_K.moved (u := U) (U := U.calling g mk a) (Vm.Alike.refl U.vm) qK, qD⟩, va_recv hKc hPc (ci := 7) (q0 := 0) rfl rfl, fun U hU hW => ⟨rfl, by rw [hU], Nat.le_trans hn0 hS.1, GW.go hW hU hG (fun q hq hA9 => hS.2.1 q hq (fun h => hA9 (hA0 q h))), by rw [hU]; exact hPc, va_K.moved hW.alike hKc, hDc.weaken (fun _ _ _ h => hA0 _ h)⟩⟩ rfl rfl hl.1 rfl (lv_room (Nat.le_of_ble_eq_true rfl)) dX7_takeKnot_18 ⟨Nat.le_of_ble_eq_true rfl, Nat.le_of_ble_eq_true rfl⟩) hS (fun q _ h => hFc q h) hFc (fun r_74 u t H1 locs ht hvm hw_75 hB hz1 hk1 hS => ?_)
      obtain ⟨fa9_76, fp9_77, hf_78, hf_79, hP1, hK1, hD1⟩ := hB
      rw [ht] at hP1
      obtain ⟨hP, hD⟩ := s3_j (L := [(bk, .inr (0, [.int (nI bw), .ref bk_tail, .ref bk_head, .ref bk_hinder, .ref bk_size, .ref bk_walk, .ref bk_draught, .ref bk_doorIn, .ref bk_fanIn, .ref bk_faceIn, .int (nI bn), .int bk_day, .ref gr])), (rd_tape, .inl (k_rd_tape, 600, .inl f_rd_tape)), (rd_knotNames, .inl (k_rd_knotNames, 10, .inr (.inl f_rd_knotNames))), (rd, .inr (7, [.ref rd_tape, .int fd1, .int fa9_76, .int fp9_77, .ref bk, .ref rd_names, .ref rd_nameKind, .ref rd_nameNumber, .int (nI nm), .ref rd_knotNames, .int (nI en), .int (nI at1), .int tk1, .int (nI ts1), .long tv1]))]) 3 hP hD [3] [0, 1, 2] hk1 hFc hP1 hD1 rfl rfl rfl (by decide) (by decide)
      generalize H1 = H at hP hS ⊢
      obtain rfl : r_74 = 0 := hw_75
      have hm_80 := hf_78 c_1
      have hz_81 : ¬ fa9_76 = 0 := by rw [hm_80.1]; decide
      refine lv_pop hx hb dX7_takeKnot_21 rfl ?_
      refine lv_iconst (v := 0) hx hb dX7_takeKnot_22 (by decide) ?_
      have hK9 := hK.sub (tys' := [(k_rd_tape, .int), (k_rd_knotNames, .long)]) [0, 1] rfl
      exact W.iret (v := 0) hx hb hr (fun t ht hW => ⟨⟨0, 0, rfl, rfl, fa9_76, fp9_77, at1, tk1, ts1, tv1, bn, bk_day, f_rd_knotNames, 0, (by omega), (by omega), q_day, (by first | have z9 : (0 : Int32).toInt = 0 := rfl; omega | (rw [nI_toInt (by omega)]; omega)), (ck_e c_1 hm_80 (by decide) (xkn_1 htk_3.1 s_7)), by rw [ht]; exact hP.sub [3, 0, 1, 2] rfl, va_K.moved hW.alike hK9, hD.sub [3, 0, 1, 2] (by decide) rfl⟩, hS.F ht⟩) hS.2.2 dX7_takeKnot_23
  · skip
    have g_82 : fa1.toInt ≠ (0 : Int) := i_ne c_1
    refine lv_iconst (v := 0) hx hb dX7_takeKnot_7 (by decide) ?_
    have hK9 := hK.sub (tys' := [(k_rd_tape, .int), (k_rd_knotNames, .long)]) [0, 1] rfl
    exact W.iret (v := 0) hx hb hr (fun t ht hW => ⟨⟨0, 0, rfl, rfl, fa1, fp1, at1, tk1, ts1, tv1, bn, bk_day, f_rd_knotNames, 0, (by omega), (by omega), q_day, (by first | have z9 : (0 : Int32).toInt = 0 := rfl; omega | (rw [nI_toInt (by omega)]; omega)), (ck_a c_1), by rw [ht]; exact hP.sub [0, 1, 2, 3] rfl, va_K.moved hW.alike hK9, hD.sub [0, 1, 2, 3] (by decide) rfl⟩, hS.F ht⟩) hS.2.2 dX7_takeKnot_8
set_option maxHeartbeats 4000000 in
set_option maxRecDepth 100000 in
theorem d7_findTold (l : Launch) (dC : Nat → ClassId) (dI : Nat → Nat → Nat) (n0 : Nat) (atx : Nat → Nat × Nat) (sz : Nat) (rd : Nat) (rd_tape : Nat) (fd1 : Int32) (fa1 : Int32) (fp1 : Int32) (bk : Nat) (rd_names : Nat) (rd_nameKind : Nat) (rd_nameNumber : Nat) (nm : Nat) (rd_knotNames : Nat) (en : Nat) (at1 : Nat) (tk1 : Int32) (ts1 : Nat) (tv1 : Int64) (k_rd_names : ClassId) (f_rd_names : Nat → Int64) (k_rd_nameKind : ClassId) (f_rd_nameKind : Nat → Int32) (k_rd_nameNumber : ClassId) (f_rd_nameNumber : Nat → Int32) (kk9 : Int32) (T : Nat → Int32) (a0 : Nat) (h_nm : nm ≤ 28) (h_ni : nmI f_rd_nameKind f_rd_nameNumber) (h_tok : fa1 = 0 → xTk T en a0 ts1 at1 tk1 tv1) : Met l yX7_findTold (wM yX7_findTold cX7_findTold 3 (some .int)) ({ frames := 7, cells := 0, slots := 0, locals := 149 }) (va_Pc [.ref rd, .int kk9] (fun U => U.heap.size = sz ∧ n0 ≤ sz ∧ GW n0 atx U ∧ va_P (dC, dI) classes [(rd, .inr (7, [.ref rd_tape, .int fd1, .int fa1, .int fp1, .ref bk, .ref rd_names, .ref rd_nameKind, .ref rd_nameNumber, .int (nI nm), .ref rd_knotNames, .int (nI en), .int (nI at1), .int tk1, .int (nI ts1), .long tv1])), (rd_names, .inl (k_rd_names, 28, .inr (.inl f_rd_names))), (rd_nameKind, .inl (k_rd_nameKind, 28, .inl f_rd_nameKind)), (rd_nameNumber, .inl (k_rd_nameNumber, 28, .inl f_rd_nameNumber))] U.heap ∧ va_K (dC, dI) classes [(k_rd_names, .long), (k_rd_nameKind, .int), (k_rd_nameNumber, .int)] U ∧ va_D (fun q => n0 ≤ q) [(rd, .inr (7, [.ref rd_tape, .int fd1, .int fa1, .int fp1, .ref bk, .ref rd_names, .ref rd_nameKind, .ref rd_nameNumber, .int (nI nm), .ref rd_knotNames, .int (nI en), .int (nI at1), .int tk1, .int (nI ts1), .long tv1])), (rd_names, .inl (k_rd_names, 28, .inr (.inl f_rd_names))), (rd_nameKind, .inl (k_rd_nameKind, 28, .inl f_rd_nameKind)), (rd_nameNumber, .inl (k_rd_nameNumber, 28, .inl f_rd_nameNumber))])) (va_Qi (fun (r : Int32) (rt9 : Int32) => r = rt9) (fun (rt9 : Int32) (t : State) => ∃ (fa9 : Int32), ∃ (fp9 : Int32), ((kk9 = 0 → 0 ≤ rt9.toInt ∧ rt9.toInt < 14) ∧ (kk9 = 1 → 0 ≤ rt9.toInt ∧ rt9.toInt < 6)) ∧ (CK fa1 fp1 fa9 fp9 (fTold T en a0 nm f_rd_names f_rd_nameKind f_rd_nameNumber kk9) rt9 (tkS T en a0 = 1)) ∧ va_P (dC, dI) classes [(rd, .inr (7, [.ref rd_tape, .int fd1, .int fa9, .int fp9, .ref bk, .ref rd_names, .ref rd_nameKind, .ref rd_nameNumber, .int (nI nm), .ref rd_knotNames, .int (nI en), .int (nI at1), .int tk1, .int (nI ts1), .long tv1])), (rd_names, .inl (k_rd_names, 28, .inr (.inl f_rd_names))), (rd_nameKind, .inl (k_rd_nameKind, 28, .inl f_rd_nameKind)), (rd_nameNumber, .inl (k_rd_nameNumber, 28, .inl f_rd_nameNumber))] t.heap ∧ va_K (dC, dI) classes [(k_rd_names, .long), (k_rd_nameKind, .int), (k_rd_nameNumber, .int)] t ∧ va_D (va_A [(rd, .inr (7, [.ref rd_tape, .int fd1, .int fa1, .int fp1, .ref bk, .ref rd_names, .ref rd_nameKind, .ref rd_nameNumber, .int (nI nm), .ref rd_knotNames, .int (nI en), .int (nI at1), .int tk1, .int (nI ts1), .long tv1])), (rd_names, .inl (k_rd_names, 28, .inr (.inl f_rd_names))), (rd_nameKind, .inl (k_rd_nameKind, 28, .inl f_rd_nameKind)), (rd_nameNumber, .inl (k_rd_nameNumber, 28, .inl f_rd_nameNumber))] sz) [(rd, .inr (7, [.ref rd_tape, .int fd1, .int fa9, .int fp9, .ref bk, .ref rd_names, .ref rd_nameKind, .ref rd_nameNumber, .int (nI nm), .ref rd_knotNames, .int (nI en), .int (nI at1), .int tk1, .int (nI ts1), .long tv1])), (rd_names, .inl (k_rd_names, 28, .inr (.inl f_rd_names))), (rd_nameKind, .inl (k_rd_nameKind, 28, .inl f_rd_nameKind)), (rd_nameNumber, .inl (k_rd_nameNumber, 28, .inl f_rd_nameNumber))]) (va_A [(rd, .inr (7, [.ref rd_tape, .int fd1, .int fa1, .int fp1, .ref bk, .ref rd_names, .ref rd_nameKind, .ref rd_nameNumber, .int (nI nm), .ref rd_knotNames, .int (nI en), .int (nI at1), .int tk1, .int (nI ts1), .long tv1])), (rd_names, .inl (k_rd_names, 28, .inr (.inl f_rd_names))), (rd_nameKind, .inl (k_rd_nameKind, 28, .inl f_rd_nameKind)), (rd_nameNumber, .inl (k_rd_nameNumber, 28, .inl f_rd_nameNumber))] sz)) 0 0 (va_A [(rd, .inr (7, [.ref rd_tape, .int fd1, .int fa1, .int fp1, .ref bk, .ref rd_names, .ref rd_nameKind, .ref rd_nameNumber, .int (nI nm), .ref rd_knotNames, .int (nI en), .int (nI at1), .int tk1, .int (nI ts1), .long tv1])), (rd_names, .inl (k_rd_names, 28, .inr (.inl f_rd_names))), (rd_nameKind, .inl (k_rd_nameKind, 28, .inl f_rd_nameKind)), (rd_nameNumber, .inl (k_rd_nameNumber, 28, .inl f_rd_nameNumber))] sz) := by
  refine Met.ofW (cc := cX7_findTold) (maxL := 3) (ret := (some .int)) (by decide) rfl ?_
  intro p e s m args below meth c s₁ B hml hv
  obtain ⟨rfl, hsz, hn0, hG, hP, hK, hD0⟩ := hv
  have hx := B.exec
  have hb := B.bytes
  have hr := B.returns
  have hts := atoms_spec (ws := wM yX7_findTold cX7_findTold 3 (some .int)) B.pre
  have hown : s.vm.findClass RX7 = some m.cls := findClass_of_methodNamed B.named
  have hlocks := B.notSynchronized
  subst hsz
  have hD := hD0.self (sz := s.heap.size)
  have hA0 := vA_n0 hD0 hn0
  generalize hAe : va_A [(rd, .inr (7, [.ref rd_tape, .int fd1, .int fa1, .int fp1, .ref bk, .ref rd_names, .ref rd_nameKind, .ref rd_nameNumber, .int (nI nm), .ref rd_knotNames, .int (nI en), .int (nI at1), .int tk1, .int (nI ts1), .long tv1])), (rd_names, .inl (k_rd_names, 28, .inr (.inl f_rd_names))), (rd_nameKind, .inl (k_rd_nameKind, 28, .inl f_rd_nameKind)), (rd_nameNumber, .inl (k_rd_nameNumber, 28, .inl f_rd_nameNumber))] s.heap.size = A at hD hA0 ⊢
  have hA : ∀ q : Nat, s.heap.size ≤ q → A q := fun q h => by rw [← hAe]; exact Or.inr h
  have hS : va_S A s.heap s.heap [] := va_S.rf
  have hl := lv_entry ([.ref rd, .int kk9]) (n := 3) (Nat.le_of_ble_eq_true rfl)
  rw [lg_entry_eq]
  generalize (lg_sl ([.ref rd, .int kk9]) ++ List.replicate (3 - (lg_sl ([.ref rd, .int kk9])).length) Slot.unset).toArray = ls at hl ⊢
  have hl : lv_has ls 3 [(0, .ref rd), (1, .int kk9)] := hl
  refine lv_aload_n hx hb dX7_findTold_0 rfl (lv_at hl 0 rfl) ?_
  refine va_get (D := (dC, dI)) (ci := 7) (v := .int fa1) (C := RX7) (T := TX7) (N := 15) hx hb hts (fun w h => wM_c (iX7 w h)) hown hK hP 0 rfl rfl 2 (by decide) (hts _ (wM_c wd_337)) (fun _ h9 => h9) rfl dX7_findTold_1 ?_
  refine lv_if_eq (tgt := 9) hx hb dX7_findTold_4 (by decide) (fun c_1 => ?_) (fun c_1 => ?_)
  · skip
    have g_2 : fa1.toInt = (0 : Int) := i_eq c_1
    have htk_3 := h_tok c_1
    refine lv_aload_n hx hb dX7_findTold_9 rfl (lv_at hl 0 rfl) ?_
    obtain ⟨hPc, hDc, hFc⟩ := s3_c (ws' := [(rd, .inr (7, [.ref rd_tape, .int fd1, .int fa1, .int fp1, .ref bk, .ref rd_names, .ref rd_nameKind, .ref rd_nameNumber, .int (nI nm), .ref rd_knotNames, .int (nI en), .int (nI at1), .int tk1, .int (nI ts1), .long tv1]))]) [0] hP hD hS hA rfl (by decide)
    have hKc := hK.sub (tys' := []) [] rfl
    refine va_calli (va_runV (As := []) (rest := []) ⟨hx, hb, hml, hown, hts⟩ (d7_isName l dC dI n0 atx s.heap.size rd rd_tape fd1 fa1 fp1 bk rd_names rd_nameKind rd_nameNumber nm rd_knotNames en at1 tk1 ts1 tv1 T a0 htk_3) (cwV 0 hts (gV (fun w h => wM_c h) wd_823 wd_820 wd_822 wd_8 wd_117) rfl rfl rfl (by decide +kernel) ⟨Nat.le_of_ble_eq_true rfl, Nat.le_of_ble_eq_true rfl⟩) ⟨fun a U g mk q => by obtain ⟨q0, q1, q2, qG, qP, qK, qD⟩ := q; exact ⟨q0, q1, q2, GW.blind qG, qP, va_K.moved (u := U) (U := U.calling g mk a) (Vm.Alike.refl U.vm) qK, qD⟩, va_recv hKc hPc (ci := 7) (q0 := 0) rfl rfl, fun U hU hW => ⟨rfl, by rw [hU], Nat.le_trans hn0 hS.1, GW.go hW hU hG (fun q hq hA9 => hS.2.1 q hq (fun h => hA9 (hA0 q h))), by rw [hU]; exact hPc, va_K.moved hW.alike hKc, hDc.weaken (fun _ _ _ h => hA0 _ h)⟩⟩ rfl rfl hl.1 rfl (lv_room (Nat.le_of_ble_eq_true rfl)) dX7_findTold_10 ⟨Nat.le_of_ble_eq_true rfl, Nat.le_of_ble_eq_true rfl⟩) hS (fun q _ h => hFc q h) hFc (fun r_4 u t H1 locs ht hvm hw_5 hB hz1 hk1 hS => ?_)
    obtain ⟨hP1, hK1, hD1⟩ := hB
    rw [ht] at hP1
    obtain ⟨hP, hD⟩ := s3_j (L := [(rd_names, .inl (k_rd_names, 28, .inr (.inl f_rd_names))), (rd_nameKind, .inl (k_rd_nameKind, 28, .inl f_rd_nameKind)), (rd_nameNumber, .inl (k_rd_nameNumber, 28, .inl f_rd_nameNumber)), (rd, .inr (7, [.ref rd_tape, .int fd1, .int fa1, .int fp1, .ref bk, .ref rd_names, .ref rd_nameKind, .ref rd_nameNumber, .int (nI nm), .ref rd_knotNames, .int (nI en), .int (nI at1), .int tk1, .int (nI ts1), .long tv1]))]) 3 hP hD [0] [1, 2, 3] hk1 hFc hP1 hD1 rfl rfl rfl (by decide) (by decide)
    generalize H1 = H at hP hS ⊢
    rcases hw_5 with ⟨rfl, s_6⟩ | ⟨rfl, s_7⟩
    · skip
      refine lv_if_ne (tgt := 24) hx hb dX7_findTold_13 (by decide) (fun c_8 => ?_) (fun c_8 => ?_)
      · skip
        refine lv_aload_n hx hb dX7_findTold_24 rfl (lv_at hl 0 rfl) ?_
        obtain ⟨hPc, hDc, hFc⟩ := s3_c (ws' := [(rd, .inr (7, [.ref rd_tape, .int fd1, .int fa1, .int fp1, .ref bk, .ref rd_names, .ref rd_nameKind, .ref rd_nameNumber, .int (nI nm), .ref rd_knotNames, .int (nI en), .int (nI at1), .int tk1, .int (nI ts1), .long tv1])), (rd_names, .inl (k_rd_names, 28, .inr (.inl f_rd_names)))]) [3, 0] hP hD hS hA rfl (by decide)
        have hKc := hK.sub (tys' := [(k_rd_names, .long)]) [0] rfl
        refine va_calli (va_runV (As := []) (rest := []) ⟨hx, hb, hml, hown, hts⟩ (d7_nameIndex l dC dI n0 atx H.size rd rd_tape fd1 fa1 fp1 bk rd_names rd_nameKind rd_nameNumber nm rd_knotNames en at1 tk1 ts1 tv1 k_rd_names f_rd_names (by first | with_reducible assumption | omega | exact vp_in_iff.mpr (by omega) | exact vp_in_nI (by omega) (by omega) | exact ⟨by omega, by omega⟩)) (cwV 0 hts (gV (fun w h => wM_c h) wd_835 wd_832 wd_834 wd_10 wd_117) rfl rfl rfl (by decide +kernel) ⟨Nat.le_of_ble_eq_true rfl, Nat.le_of_ble_eq_true rfl⟩) ⟨fun a U g mk q => by obtain ⟨q0, q1, q2, qG, qP, qK, qD⟩ := q; exact ⟨q0, q1, q2, GW.blind qG, qP, va_K.moved (u := U) (U := U.calling g mk a) (Vm.Alike.refl U.vm) qK, qD⟩, va_recv hKc hPc (ci := 7) (q0 := 0) rfl rfl, fun U hU hW => ⟨rfl, by rw [hU], Nat.le_trans hn0 hS.1, GW.go hW hU hG (fun q hq hA9 => hS.2.1 q hq (fun h => hA9 (hA0 q h))), by rw [hU]; exact hPc, va_K.moved hW.alike hKc, hDc.weaken (fun _ _ _ h => hA0 _ h)⟩⟩ rfl rfl hl.1 rfl (lv_room (Nat.le_of_ble_eq_true rfl)) dX7_findTold_25 ⟨Nat.le_of_ble_eq_true rfl, Nat.le_of_ble_eq_true rfl⟩) hS (fun q _ h => hFc q h) hFc (fun r_9 u t H1 locs ht hvm hw_10 hB hz1 hk1 hS => ?_)
        obtain ⟨hP1, hK1, hD1⟩ := hB
        rw [ht] at hP1
        obtain ⟨hP, hD⟩ := s3_j (L := [(rd_nameKind, .inl (k_rd_nameKind, 28, .inl f_rd_nameKind)), (rd_nameNumber, .inl (k_rd_nameNumber, 28, .inl f_rd_nameNumber)), (rd, .inr (7, [.ref rd_tape, .int fd1, .int fa1, .int fp1, .ref bk, .ref rd_names, .ref rd_nameKind, .ref rd_nameNumber, .int (nI nm), .ref rd_knotNames, .int (nI en), .int (nI at1), .int tk1, .int (nI ts1), .long tv1])), (rd_names, .inl (k_rd_names, 28, .inr (.inl f_rd_names)))]) 2 hP hD [3, 0] [1, 2] hk1 hFc hP1 hD1 rfl rfl rfl (by decide) (by decide)
        generalize H1 = H at hP hS ⊢
        rcases hw_10 with ⟨fk_11, hfk_12, rfl, hfe_13, hfl_14⟩ | ⟨rfl, hfn_15⟩
        · skip
          refine lv_istore_n (lv' := [(2, .int (nI fk_11)), (0, .ref rd), (1, .int kk9)]) hx hb dX7_findTold_28 rfl hl (by decide) rfl (fun ls hl => ?_)
          refine lv_iload_n hx hb dX7_findTold_29 rfl (lv_at hl 0 rfl) ?_
          refine lv_iconst (v := (-1)) hx hb dX7_findTold_30 (by decide) ?_
          refine lv_icmp_eq (tgt := 44) hx hb dX7_findTold_31 (by decide) (fun c_16 => ?_) (fun c_16 => ?_)
          · exact absurd (i_eq c_16) (by rw [nI_toInt (by omega)]; have h9 : (-1 : Int32).toInt = -1 := rfl; omega)
          refine lv_aload_n hx hb dX7_findTold_34 rfl (lv_at hl 1 rfl) ?_
          refine va_get (D := (dC, dI)) (ci := 7) (v := .ref rd_nameKind) (C := RX7) (T := TX7) (N := 15) hx hb hts (fun w h => wM_c (iX7 w h)) hown hK hP 2 rfl rfl 6 (by decide) (hts _ (wM_c wd_342)) (fun _ h9 => h9) rfl dX7_findTold_35 ?_
          refine lv_iload_n hx hb dX7_findTold_38 rfl (lv_at hl 0 rfl) ?_
          refine va_iald hx hb hK hP 0 1 rfl rfl (vp_in_nI (n := fk_11) (by omega) (by omega)) dX7_findTold_39 ?_
          refine lv_topi (fun v_17 ev_17 => ?_)
          have nv_17 : v_17 = f_rd_nameKind fk_11 := by rw [ev_17]; exact congrArg _ (nI_clamp (by omega))
          refine lv_iload_n hx hb dX7_findTold_40 rfl (lv_at hl 2 rfl) ?_
          refine lv_icmp_eq (tgt := 52) hx hb dX7_findTold_41 (by decide) (fun c_18 => ?_) (fun c_18 => ?_)
          · skip
            have g_19 : v_17.toInt = kk9.toInt := i_eq c_18
            refine lv_aload_n hx hb dX7_findTold_52 rfl (lv_at hl 1 rfl) ?_
            refine va_get (D := (dC, dI)) (ci := 7) (v := .ref rd_nameNumber) (C := RX7) (T := TX7) (N := 15) hx hb hts (fun w h => wM_c (iX7 w h)) hown hK hP 2 rfl rfl 7 (by decide) (hts _ (wM_c wd_343)) (fun _ h9 => h9) rfl dX7_findTold_53 ?_
            refine lv_iload_n hx hb dX7_findTold_56 rfl (lv_at hl 0 rfl) ?_
            refine va_iald hx hb hK hP 1 2 rfl rfl (vp_in_nI (n := fk_11) (by omega) (by omega)) dX7_findTold_57 ?_
            refine lv_topi (fun v_20 ev_20 => ?_)
            have nv_20 : v_20 = f_rd_nameNumber fk_11 := by rw [ev_20]; exact congrArg _ (nI_clamp (by omega))
            have hK9 := hK.sub (tys' := [(k_rd_names, .long), (k_rd_nameKind, .int), (k_rd_nameNumber, .int)]) [0, 1, 2] rfl
            exact W.iret (v := v_20) hx hb hr (fun t ht hW => ⟨⟨v_20, v_20, rfl, rfl, fa1, fp1, (told_rg h_ni (by omega) nv_17 nv_20 c_18), (ck_k c_1 c_1 (xto_t s_6 (xnm_w htk_3 s_6) hfk_12 hfe_13 hfl_14 nv_17 c_18 nv_20) (isNm_1 s_6)), by rw [ht]; exact hP.sub [2, 3, 0, 1] rfl, va_K.moved hW.alike hK9, hD.sub [2, 3, 0, 1] (by decide) rfl⟩, hS.F ht⟩) hS.2.2 dX7_findTold_58
          · skip
            have g_21 : v_17.toInt ≠ kk9.toInt := i_ne c_18
            refine lv_aload_n hx hb dX7_findTold_44 rfl (lv_at hl 1 rfl) ?_
            refine lv_iconst (v := 2) hx hb dX7_findTold_45 (by decide) ?_
            obtain ⟨hPc, hDc, hFc⟩ := s3_c (ws' := [(rd, .inr (7, [.ref rd_tape, .int fd1, .int fa1, .int fp1, .ref bk, .ref rd_names, .ref rd_nameKind, .ref rd_nameNumber, .int (nI nm), .ref rd_knotNames, .int (nI en), .int (nI at1), .int tk1, .int (nI ts1), .long tv1]))]) [2] hP hD hS hA rfl (by decide)
            have hKc := hK.sub (tys' := []) [] rfl
            refine va_calli (va_runV (As := [.int 2]) (rest := []) ⟨hx, hb, hml, hown, hts⟩ (d7_miss l dC dI n0 atx H.size rd rd_tape fd1 fa1 fp1 bk rd_names rd_nameKind rd_nameNumber nm rd_knotNames en at1 tk1 ts1 tv1 2 ) (cwV 1 hts (gV (fun w h => wM_c h) wd_831 wd_828 wd_830 wd_9 wd_117) rfl rfl rfl (by decide +kernel) ⟨Nat.le_of_ble_eq_true rfl, Nat.le_of_ble_eq_true rfl⟩) ⟨fun a U g mk q => by obtain ⟨q0, q1, q2, qG, qP, qK, qD⟩ := q; exact ⟨q0, q1, q2, GW.blind qG, qP, va_K.moved (u := U) (U := U.calling g mk a) (Vm.Alike.refl U.vm) qK, qD⟩, va_recv hKc hPc (ci := 7) (q0 := 0) rfl rfl, fun U hU hW => ⟨rfl, by rw [hU], Nat.le_trans hn0 hS.1, GW.go hW hU hG (fun q hq hA9 => hS.2.1 q hq (fun h => hA9 (hA0 q h))), by rw [hU]; exact hPc, va_K.moved hW.alike hKc, hDc.weaken (fun _ _ _ h => hA0 _ h)⟩⟩ rfl rfl hl.1 rfl (lv_room (Nat.le_of_ble_eq_true rfl)) dX7_findTold_46 ⟨Nat.le_of_ble_eq_true rfl, Nat.le_of_ble_eq_true rfl⟩) hS (fun q _ h => hFc q h) hFc (fun r_22 u t H1 locs ht hvm hw_23 hB hz1 hk1 hS => ?_)
            obtain ⟨fa9_24, fp9_25, hf_26, hf_27, hP1, hK1, hD1⟩ := hB
            rw [ht] at hP1
            obtain ⟨hP, hD⟩ := s3_j (L := [(rd_nameKind, .inl (k_rd_nameKind, 28, .inl f_rd_nameKind)), (rd_nameNumber, .inl (k_rd_nameNumber, 28, .inl f_rd_nameNumber)), (rd_names, .inl (k_rd_names, 28, .inr (.inl f_rd_names))), (rd, .inr (7, [.ref rd_tape, .int fd1, .int fa9_24, .int fp9_25, .ref bk, .ref rd_names, .ref rd_nameKind, .ref rd_nameNumber, .int (nI nm), .ref rd_knotNames, .int (nI en), .int (nI at1), .int tk1, .int (nI ts1), .long tv1]))]) 3 hP hD [2] [0, 1, 3] hk1 hFc hP1 hD1 rfl rfl rfl (by decide) (by decide)
            generalize H1 = H at hP hS ⊢
            obtain rfl : r_22 = 0 := hw_23
            have hm_28 := hf_26 c_1
            have hz_29 : ¬ fa9_24 = 0 := by rw [hm_28.1]; decide
            refine lv_pop hx hb dX7_findTold_49 rfl ?_
            refine lv_iconst (v := 0) hx hb dX7_findTold_50 (by decide) ?_
            have hK9 := hK.sub (tys' := [(k_rd_names, .long), (k_rd_nameKind, .int), (k_rd_nameNumber, .int)]) [0, 1, 2] rfl
            exact W.iret (v := 0) hx hb hr (fun t ht hW => ⟨⟨0, 0, rfl, rfl, fa9_24, fp9_25, ⟨fun _ => (by have z9 : (0 : Int32).toInt = 0 := rfl; omega), fun _ => (by have z9 : (0 : Int32).toInt = 0 := rfl; omega)⟩, (ck_e c_1 hm_28 (by decide) (xto_k htk_3.1 s_6 (xnm_w htk_3 s_6) hfk_12 hfe_13 hfl_14 nv_17 c_18)), by rw [ht]; exact hP.sub [3, 2, 0, 1] rfl, va_K.moved hW.alike hK9, hD.sub [3, 2, 0, 1] (by decide) rfl⟩, hS.F ht⟩) hS.2.2 dX7_findTold_51
        · skip
          refine lv_istore_n (lv' := [(2, .int (-1)), (0, .ref rd), (1, .int kk9)]) hx hb dX7_findTold_28 rfl hl (by decide) rfl (fun ls hl => ?_)
          refine lv_iload_n hx hb dX7_findTold_29 rfl (lv_at hl 0 rfl) ?_
          refine lv_iconst (v := (-1)) hx hb dX7_findTold_30 (by decide) ?_
          refine lv_icmp_eq (tgt := 44) hx hb dX7_findTold_31 (by decide) (fun c_30 => ?_) (fun c_30 => ?_)
          · skip
            refine lv_aload_n hx hb dX7_findTold_44 rfl (lv_at hl 1 rfl) ?_
            refine lv_iconst (v := 2) hx hb dX7_findTold_45 (by decide) ?_
            obtain ⟨hPc, hDc, hFc⟩ := s3_c (ws' := [(rd, .inr (7, [.ref rd_tape, .int fd1, .int fa1, .int fp1, .ref bk, .ref rd_names, .ref rd_nameKind, .ref rd_nameNumber, .int (nI nm), .ref rd_knotNames, .int (nI en), .int (nI at1), .int tk1, .int (nI ts1), .long tv1]))]) [2] hP hD hS hA rfl (by decide)
            have hKc := hK.sub (tys' := []) [] rfl
            refine va_calli (va_runV (As := [.int 2]) (rest := []) ⟨hx, hb, hml, hown, hts⟩ (d7_miss l dC dI n0 atx H.size rd rd_tape fd1 fa1 fp1 bk rd_names rd_nameKind rd_nameNumber nm rd_knotNames en at1 tk1 ts1 tv1 2 ) (cwV 1 hts (gV (fun w h => wM_c h) wd_831 wd_828 wd_830 wd_9 wd_117) rfl rfl rfl (by decide +kernel) ⟨Nat.le_of_ble_eq_true rfl, Nat.le_of_ble_eq_true rfl⟩) ⟨fun a U g mk q => by obtain ⟨q0, q1, q2, qG, qP, qK, qD⟩ := q; exact ⟨q0, q1, q2, GW.blind qG, qP, va_K.moved (u := U) (U := U.calling g mk a) (Vm.Alike.refl U.vm) qK, qD⟩, va_recv hKc hPc (ci := 7) (q0 := 0) rfl rfl, fun U hU hW => ⟨rfl, by rw [hU], Nat.le_trans hn0 hS.1, GW.go hW hU hG (fun q hq hA9 => hS.2.1 q hq (fun h => hA9 (hA0 q h))), by rw [hU]; exact hPc, va_K.moved hW.alike hKc, hDc.weaken (fun _ _ _ h => hA0 _ h)⟩⟩ rfl rfl hl.1 rfl (lv_room (Nat.le_of_ble_eq_true rfl)) dX7_findTold_46 ⟨Nat.le_of_ble_eq_true rfl, Nat.le_of_ble_eq_true rfl⟩) hS (fun q _ h => hFc q h) hFc (fun r_31 u t H1 locs ht hvm hw_32 hB hz1 hk1 hS => ?_)
            obtain ⟨fa9_33, fp9_34, hf_35, hf_36, hP1, hK1, hD1⟩ := hB
            rw [ht] at hP1
            obtain ⟨hP, hD⟩ := s3_j (L := [(rd_nameKind, .inl (k_rd_nameKind, 28, .inl f_rd_nameKind)), (rd_nameNumber, .inl (k_rd_nameNumber, 28, .inl f_rd_nameNumber)), (rd_names, .inl (k_rd_names, 28, .inr (.inl f_rd_names))), (rd, .inr (7, [.ref rd_tape, .int fd1, .int fa9_33, .int fp9_34, .ref bk, .ref rd_names, .ref rd_nameKind, .ref rd_nameNumber, .int (nI nm), .ref rd_knotNames, .int (nI en), .int (nI at1), .int tk1, .int (nI ts1), .long tv1]))]) 3 hP hD [2] [0, 1, 3] hk1 hFc hP1 hD1 rfl rfl rfl (by decide) (by decide)
            generalize H1 = H at hP hS ⊢
            obtain rfl : r_31 = 0 := hw_32
            have hm_37 := hf_35 c_1
            have hz_38 : ¬ fa9_33 = 0 := by rw [hm_37.1]; decide
            refine lv_pop hx hb dX7_findTold_49 rfl ?_
            refine lv_iconst (v := 0) hx hb dX7_findTold_50 (by decide) ?_
            have hK9 := hK.sub (tys' := [(k_rd_names, .long), (k_rd_nameKind, .int), (k_rd_nameNumber, .int)]) [0, 1, 2] rfl
            exact W.iret (v := 0) hx hb hr (fun t ht hW => ⟨⟨0, 0, rfl, rfl, fa9_33, fp9_34, ⟨fun _ => (by have z9 : (0 : Int32).toInt = 0 := rfl; omega), fun _ => (by have z9 : (0 : Int32).toInt = 0 := rfl; omega)⟩, (ck_e c_1 hm_37 (by decide) (xto_2 htk_3.1 s_6 (xnm_w htk_3 s_6) hfn_15)), by rw [ht]; exact hP.sub [3, 2, 0, 1] rfl, va_K.moved hW.alike hK9, hD.sub [3, 2, 0, 1] (by decide) rfl⟩, hS.F ht⟩) hS.2.2 dX7_findTold_51
          · exact absurd c_30 (by decide)
      · exact absurd c_8 (by decide)
    · skip
      refine lv_if_ne (tgt := 24) hx hb dX7_findTold_13 (by decide) (fun c_39 => ?_) (fun c_39 => ?_)
      · exact absurd c_39 (by decide)
      refine lv_aload_n hx hb dX7_findTold_16 rfl (lv_at hl 0 rfl) ?_
      refine lv_iconst (v := 1) hx hb dX7_findTold_17 (by decide) ?_
      obtain ⟨hPc, hDc, hFc⟩ := s3_c (ws' := [(rd, .inr (7, [.ref rd_tape, .int fd1, .int fa1, .int fp1, .ref bk, .ref rd_names, .ref rd_nameKind, .ref rd_nameNumber, .int (nI nm), .ref rd_knotNames, .int (nI en), .int (nI at1), .int tk1, .int (nI ts1), .long tv1]))]) [3] hP hD hS hA rfl (by decide)
      have hKc := hK.sub (tys' := []) [] rfl
      refine va_calli (va_runV (As := [.int 1]) (rest := []) ⟨hx, hb, hml, hown, hts⟩ (d7_miss l dC dI n0 atx H.size rd rd_tape fd1 fa1 fp1 bk rd_names rd_nameKind rd_nameNumber nm rd_knotNames en at1 tk1 ts1 tv1 1 ) (cwV 1 hts (gV (fun w h => wM_c h) wd_831 wd_828 wd_830 wd_9 wd_117) rfl rfl rfl (by decide +kernel) ⟨Nat.le_of_ble_eq_true rfl, Nat.le_of_ble_eq_true rfl⟩) ⟨fun a U g mk q => by obtain ⟨q0, q1, q2, qG, qP, qK, qD⟩ := q; exact ⟨q0, q1, q2, GW.blind qG, qP, va_K.moved (u := U) (U := U.calling g mk a) (Vm.Alike.refl U.vm) qK, qD⟩, va_recv hKc hPc (ci := 7) (q0 := 0) rfl rfl, fun U hU hW => ⟨rfl, by rw [hU], Nat.le_trans hn0 hS.1, GW.go hW hU hG (fun q hq hA9 => hS.2.1 q hq (fun h => hA9 (hA0 q h))), by rw [hU]; exact hPc, va_K.moved hW.alike hKc, hDc.weaken (fun _ _ _ h => hA0 _ h)⟩⟩ rfl rfl hl.1 rfl (lv_room (Nat.le_of_ble_eq_true rfl)) dX7_findTold_18 ⟨Nat.le_of_ble_eq_true rfl, Nat.le_of_ble_eq_true rfl⟩) hS (fun q _ h => hFc q h) hFc (fun r_40 u t H1 locs ht hvm hw_41 hB hz1 hk1 hS => ?_)
      obtain ⟨fa9_42, fp9_43, hf_44, hf_45, hP1, hK1, hD1⟩ := hB
      rw [ht] at hP1
      obtain ⟨hP, hD⟩ := s3_j (L := [(rd_names, .inl (k_rd_names, 28, .inr (.inl f_rd_names))), (rd_nameKind, .inl (k_rd_nameKind, 28, .inl f_rd_nameKind)), (rd_nameNumber, .inl (k_rd_nameNumber, 28, .inl f_rd_nameNumber)), (rd, .inr (7, [.ref rd_tape, .int fd1, .int fa9_42, .int fp9_43, .ref bk, .ref rd_names, .ref rd_nameKind, .ref rd_nameNumber, .int (nI nm), .ref rd_knotNames, .int (nI en), .int (nI at1), .int tk1, .int (nI ts1), .long tv1]))]) 3 hP hD [3] [0, 1, 2] hk1 hFc hP1 hD1 rfl rfl rfl (by decide) (by decide)
      generalize H1 = H at hP hS ⊢
      obtain rfl : r_40 = 0 := hw_41
      have hm_46 := hf_44 c_1
      have hz_47 : ¬ fa9_42 = 0 := by rw [hm_46.1]; decide
      refine lv_pop hx hb dX7_findTold_21 rfl ?_
      refine lv_iconst (v := 0) hx hb dX7_findTold_22 (by decide) ?_
      have hK9 := hK.sub (tys' := [(k_rd_names, .long), (k_rd_nameKind, .int), (k_rd_nameNumber, .int)]) [0, 1, 2] rfl
      exact W.iret (v := 0) hx hb hr (fun t ht hW => ⟨⟨0, 0, rfl, rfl, fa9_42, fp9_43, ⟨fun _ => (by have z9 : (0 : Int32).toInt = 0 := rfl; omega), fun _ => (by have z9 : (0 : Int32).toInt = 0 := rfl; omega)⟩, (ck_e c_1 hm_46 (by decide) (xto_1 htk_3.1 s_7)), by rw [ht]; exact hP.sub [3, 0, 1, 2] rfl, va_K.moved hW.alike hK9, hD.sub [3, 0, 1, 2] (by decide) rfl⟩, hS.F ht⟩) hS.2.2 dX7_findTold_23
  · skip
    have g_48 : fa1.toInt ≠ (0 : Int) := i_ne c_1
    refine lv_iconst (v := 0) hx hb dX7_findTold_7 (by decide) ?_
    have hK9 := hK.sub (tys' := [(k_rd_names, .long), (k_rd_nameKind, .int), (k_rd_nameNumber, .int)]) [0, 1, 2] rfl
    exact W.iret (v := 0) hx hb hr (fun t ht hW => ⟨⟨0, 0, rfl, rfl, fa1, fp1, ⟨fun _ => (by have z9 : (0 : Int32).toInt = 0 := rfl; omega), fun _ => (by have z9 : (0 : Int32).toInt = 0 := rfl; omega)⟩, (ck_a c_1), by rw [ht]; exact hP.sub [0, 1, 2, 3] rfl, va_K.moved hW.alike hK9, hD.sub [0, 1, 2, 3] (by decide) rfl⟩, hS.F ht⟩) hS.2.2 dX7_findTold_8
set_option maxHeartbeats 4000000 in
set_option maxRecDepth 100000 in
theorem d7_takePlace (l : Launch) (dC : Nat → ClassId) (dI : Nat → Nat → Nat) (n0 : Nat) (atx : Nat → Nat × Nat) (sz : Nat) (rd : Nat) (rd_tape : Nat) (fd1 : Int32) (fa1 : Int32) (fp1 : Int32) (bk : Nat) (rd_names : Nat) (rd_nameKind : Nat) (rd_nameNumber : Nat) (nm : Nat) (rd_knotNames : Nat) (en : Nat) (at1 : Nat) (tk1 : Int32) (ts1 : Nat) (tv1 : Int64) (k_rd_tape : ClassId) (f_rd_tape : Nat → Int32) (k_rd_names : ClassId) (f_rd_names : Nat → Int64) (k_rd_nameKind : ClassId) (f_rd_nameKind : Nat → Int32) (k_rd_nameNumber : ClassId) (f_rd_nameNumber : Nat → Int32) (ha : Nat) (k_ha : ClassId) (f_ha : Nat → Int32) (T : Nat → Int32) (a0 : Nat) (h_en : en ≤ 600) (h_at : at1 ≤ en) (hT : ∀ k, k < en → f_rd_tape k = T k) (h_nm : nm ≤ 28) (h_ni : nmI f_rd_nameKind f_rd_nameNumber) (h_tok : fa1 = 0 → xTk T en a0 ts1 at1 tk1 tv1) : Met l yX7_takePlace (wM yX7_takePlace cX7_takePlace 3 (some .int)) ({ frames := 8, cells := 0, slots := 0, locals := 171 }) (va_Pc [.ref rd, .ref ha] (fun U => U.heap.size = sz ∧ n0 ≤ sz ∧ GW n0 atx U ∧ va_P (dC, dI) classes [(rd, .inr (7, [.ref rd_tape, .int fd1, .int fa1, .int fp1, .ref bk, .ref rd_names, .ref rd_nameKind, .ref rd_nameNumber, .int (nI nm), .ref rd_knotNames, .int (nI en), .int (nI at1), .int tk1, .int (nI ts1), .long tv1])), (rd_tape, .inl (k_rd_tape, 600, .inl f_rd_tape)), (rd_names, .inl (k_rd_names, 28, .inr (.inl f_rd_names))), (rd_nameKind, .inl (k_rd_nameKind, 28, .inl f_rd_nameKind)), (rd_nameNumber, .inl (k_rd_nameNumber, 28, .inl f_rd_nameNumber)), (ha, .inl (k_ha, 14, .inl f_ha))] U.heap ∧ va_K (dC, dI) classes [(k_rd_tape, .int), (k_rd_names, .long), (k_rd_nameKind, .int), (k_rd_nameNumber, .int), (k_ha, .int)] U ∧ va_D (fun q => n0 ≤ q) [(rd, .inr (7, [.ref rd_tape, .int fd1, .int fa1, .int fp1, .ref bk, .ref rd_names, .ref rd_nameKind, .ref rd_nameNumber, .int (nI nm), .ref rd_knotNames, .int (nI en), .int (nI at1), .int tk1, .int (nI ts1), .long tv1])), (rd_tape, .inl (k_rd_tape, 600, .inl f_rd_tape)), (rd_names, .inl (k_rd_names, 28, .inr (.inl f_rd_names))), (rd_nameKind, .inl (k_rd_nameKind, 28, .inl f_rd_nameKind)), (rd_nameNumber, .inl (k_rd_nameNumber, 28, .inl f_rd_nameNumber)), (ha, .inl (k_ha, 14, .inl f_ha))])) (va_Qi (fun (r : Int32) (rp9 : Int32) => r = rp9) (fun (rp9 : Int32) (t : State) => ∃ (fa9 : Int32), ∃ (fp9 : Int32), ∃ (at9 : Nat), ∃ (tk9 : Int32), ∃ (ts9 : Nat), ∃ (tv9 : Int64), ∃ (ps9 : Nat), (at9 ≤ en) ∧ (0 ≤ rp9.toInt ∧ rp9.toInt < 14) ∧ (CK fa1 fp1 fa9 fp9 (xIn T en a0 nm f_rd_names f_rd_nameKind f_rd_nameNumber f_ha) (ps9, rp9) (xTk T en ps9 ts9 at9 tk9 tv9)) ∧ va_P (dC, dI) classes [(rd, .inr (7, [.ref rd_tape, .int fd1, .int fa9, .int fp9, .ref bk, .ref rd_names, .ref rd_nameKind, .ref rd_nameNumber, .int (nI nm), .ref rd_knotNames, .int (nI en), .int (nI at9), .int tk9, .int (nI ts9), .long tv9])), (rd_tape, .inl (k_rd_tape, 600, .inl f_rd_tape)), (rd_names, .inl (k_rd_names, 28, .inr (.inl f_rd_names))), (rd_nameKind, .inl (k_rd_nameKind, 28, .inl f_rd_nameKind)), (rd_nameNumber, .inl (k_rd_nameNumber, 28, .inl f_rd_nameNumber)), (ha, .inl (k_ha, 14, .inl f_ha))] t.heap ∧ va_K (dC, dI) classes [(k_rd_tape, .int), (k_rd_names, .long), (k_rd_nameKind, .int), (k_rd_nameNumber, .int), (k_ha, .int)] t ∧ va_D (va_A [(rd, .inr (7, [.ref rd_tape, .int fd1, .int fa1, .int fp1, .ref bk, .ref rd_names, .ref rd_nameKind, .ref rd_nameNumber, .int (nI nm), .ref rd_knotNames, .int (nI en), .int (nI at1), .int tk1, .int (nI ts1), .long tv1])), (rd_tape, .inl (k_rd_tape, 600, .inl f_rd_tape)), (rd_names, .inl (k_rd_names, 28, .inr (.inl f_rd_names))), (rd_nameKind, .inl (k_rd_nameKind, 28, .inl f_rd_nameKind)), (rd_nameNumber, .inl (k_rd_nameNumber, 28, .inl f_rd_nameNumber)), (ha, .inl (k_ha, 14, .inl f_ha))] sz) [(rd, .inr (7, [.ref rd_tape, .int fd1, .int fa9, .int fp9, .ref bk, .ref rd_names, .ref rd_nameKind, .ref rd_nameNumber, .int (nI nm), .ref rd_knotNames, .int (nI en), .int (nI at9), .int tk9, .int (nI ts9), .long tv9])), (rd_tape, .inl (k_rd_tape, 600, .inl f_rd_tape)), (rd_names, .inl (k_rd_names, 28, .inr (.inl f_rd_names))), (rd_nameKind, .inl (k_rd_nameKind, 28, .inl f_rd_nameKind)), (rd_nameNumber, .inl (k_rd_nameNumber, 28, .inl f_rd_nameNumber)), (ha, .inl (k_ha, 14, .inl f_ha))]) (va_A [(rd, .inr (7, [.ref rd_tape, .int fd1, .int fa1, .int fp1, .ref bk, .ref rd_names, .ref rd_nameKind, .ref rd_nameNumber, .int (nI nm), .ref rd_knotNames, .int (nI en), .int (nI at1), .int tk1, .int (nI ts1), .long tv1])), (rd_tape, .inl (k_rd_tape, 600, .inl f_rd_tape)), (rd_names, .inl (k_rd_names, 28, .inr (.inl f_rd_names))), (rd_nameKind, .inl (k_rd_nameKind, 28, .inl f_rd_nameKind)), (rd_nameNumber, .inl (k_rd_nameNumber, 28, .inl f_rd_nameNumber)), (ha, .inl (k_ha, 14, .inl f_ha))] sz)) 0 0 (va_A [(rd, .inr (7, [.ref rd_tape, .int fd1, .int fa1, .int fp1, .ref bk, .ref rd_names, .ref rd_nameKind, .ref rd_nameNumber, .int (nI nm), .ref rd_knotNames, .int (nI en), .int (nI at1), .int tk1, .int (nI ts1), .long tv1])), (rd_tape, .inl (k_rd_tape, 600, .inl f_rd_tape)), (rd_names, .inl (k_rd_names, 28, .inr (.inl f_rd_names))), (rd_nameKind, .inl (k_rd_nameKind, 28, .inl f_rd_nameKind)), (rd_nameNumber, .inl (k_rd_nameNumber, 28, .inl f_rd_nameNumber)), (ha, .inl (k_ha, 14, .inl f_ha))] sz) := by
  refine Met.ofW (cc := cX7_takePlace) (maxL := 3) (ret := (some .int)) (by decide) rfl ?_
  intro p e s m args below meth c s₁ B hml hv
  obtain ⟨rfl, hsz, hn0, hG, hP, hK, hD0⟩ := hv
  have hx := B.exec
  have hb := B.bytes
  have hr := B.returns
  have hts := atoms_spec (ws := wM yX7_takePlace cX7_takePlace 3 (some .int)) B.pre
  have hown : s.vm.findClass RX7 = some m.cls := findClass_of_methodNamed B.named
  have hlocks := B.notSynchronized
  subst hsz
  have hD := hD0.self (sz := s.heap.size)
  have hA0 := vA_n0 hD0 hn0
  generalize hAe : va_A [(rd, .inr (7, [.ref rd_tape, .int fd1, .int fa1, .int fp1, .ref bk, .ref rd_names, .ref rd_nameKind, .ref rd_nameNumber, .int (nI nm), .ref rd_knotNames, .int (nI en), .int (nI at1), .int tk1, .int (nI ts1), .long tv1])), (rd_tape, .inl (k_rd_tape, 600, .inl f_rd_tape)), (rd_names, .inl (k_rd_names, 28, .inr (.inl f_rd_names))), (rd_nameKind, .inl (k_rd_nameKind, 28, .inl f_rd_nameKind)), (rd_nameNumber, .inl (k_rd_nameNumber, 28, .inl f_rd_nameNumber)), (ha, .inl (k_ha, 14, .inl f_ha))] s.heap.size = A at hD hA0 ⊢
  have hA : ∀ q : Nat, s.heap.size ≤ q → A q := fun q h => by rw [← hAe]; exact Or.inr h
  have hS : va_S A s.heap s.heap [] := va_S.rf
  have hl := lv_entry ([.ref rd, .ref ha]) (n := 3) (Nat.le_of_ble_eq_true rfl)
  rw [lg_entry_eq]
  generalize (lg_sl ([.ref rd, .ref ha]) ++ List.replicate (3 - (lg_sl ([.ref rd, .ref ha])).length) Slot.unset).toArray = ls at hl ⊢
  have hl : lv_has ls 3 [(0, .ref rd), (1, .ref ha)] := hl
  refine lv_aload_n hx hb dX7_takePlace_0 rfl (lv_at hl 0 rfl) ?_
  refine va_get (D := (dC, dI)) (ci := 7) (v := .int fa1) (C := RX7) (T := TX7) (N := 15) hx hb hts (fun w h => wM_c (iX7 w h)) hown hK hP 0 rfl rfl 2 (by decide) (hts _ (wM_c wd_337)) (fun _ h9 => h9) rfl dX7_takePlace_1 ?_
  refine lv_if_eq (tgt := 9) hx hb dX7_takePlace_4 (by decide) (fun c_1 => ?_) (fun c_1 => ?_)
  · skip
    have g_2 : fa1.toInt = (0 : Int) := i_eq c_1
    have htk_3 := h_tok c_1
    refine lv_aload_n hx hb dX7_takePlace_9 rfl (lv_at hl 0 rfl) ?_
    refine va_ldcS (q := (atx 10).1) hx hb hown (hG.t 10 (q := ("MineAir$Reader", 235, "in", _)) rfl) dX7_takePlace_10 ?_
    obtain ⟨hPc, hDc, hFc⟩ := s3_c (ws' := [(rd, .inr (7, [.ref rd_tape, .int fd1, .int fa1, .int fp1, .ref bk, .ref rd_names, .ref rd_nameKind, .ref rd_nameNumber, .int (nI nm), .ref rd_knotNames, .int (nI en), .int (nI at1), .int tk1, .int (nI ts1), .long tv1])), (rd_tape, .inl (k_rd_tape, 600, .inl f_rd_tape))]) [0, 1] hP hD hS hA rfl (by decide)
    have hKc := hK.sub (tys' := [(k_rd_tape, .int)]) [0] rfl
    refine va_calli (va_runV (As := [.ref (atx 10).1]) (rest := []) ⟨hx, hb, hml, hown, hts⟩ (d7_takeWord l dC dI n0 atx s.heap.size rd rd_tape fd1 fa1 fp1 bk rd_names rd_nameKind rd_nameNumber nm rd_knotNames en at1 tk1 ts1 tv1 k_rd_tape f_rd_tape 10 302 T a0 (by first | with_reducible assumption | omega | exact vp_in_iff.mpr (by omega) | exact vp_in_nI (by omega) (by omega) | exact ⟨by omega, by omega⟩) ltx_10 wn_10 (by first | with_reducible assumption | omega | exact vp_in_iff.mpr (by omega) | exact vp_in_nI (by omega) (by omega) | exact ⟨by omega, by omega⟩) (by first | with_reducible assumption | omega | exact vp_in_iff.mpr (by omega) | exact vp_in_nI (by omega) (by omega) | exact ⟨by omega, by omega⟩) (by first | with_reducible assumption | omega | exact vp_in_iff.mpr (by omega) | exact vp_in_nI (by omega) (by omega) | exact ⟨by omega, by omega⟩) htk_3) (cwV 1 hts (gV (fun w h => wM_c h) wd_756 wd_753 wd_755 wd_4 wd_117) rfl rfl rfl (by decide +kernel) ⟨Nat.le_of_ble_eq_true rfl, Nat.le_of_ble_eq_true rfl⟩) ⟨fun a U g mk q => by obtain ⟨q0, q1, q2, qG, qP, qK, qD⟩ := q; exact ⟨q0, q1, q2, GW.blind qG, qP, va_K.moved (u := U) (U := U.calling g mk a) (Vm.Alike.refl U.vm) qK, qD⟩, va_recv hKc hPc (ci := 7) (q0 := 0) rfl rfl, fun U hU hW => ⟨rfl, by rw [hU], Nat.le_trans hn0 hS.1, GW.go hW hU hG (fun q hq hA9 => hS.2.1 q hq (fun h => hA9 (hA0 q h))), by rw [hU]; exact hPc, va_K.moved hW.alike hKc, hDc.weaken (fun _ _ _ h => hA0 _ h)⟩⟩ rfl rfl hl.1 rfl (lv_room (Nat.le_of_ble_eq_true rfl)) dX7_takePlace_12 ⟨Nat.le_of_ble_eq_true rfl, Nat.le_of_ble_eq_true rfl⟩) hS (fun q _ h => hFc q h) hFc (fun r_4 u t H1 locs ht hvm hw_5 hB hz1 hk1 hS => ?_)
    subst hw_5
    obtain ⟨at9_6, tk9_7, ts9_8, tv9_9, hf_10, hf_11, hP1, hK1, hD1⟩ := hB
    rw [ht] at hP1
    obtain ⟨hP, hD⟩ := s3_j (L := [(rd_names, .inl (k_rd_names, 28, .inr (.inl f_rd_names))), (rd_nameKind, .inl (k_rd_nameKind, 28, .inl f_rd_nameKind)), (rd_nameNumber, .inl (k_rd_nameNumber, 28, .inl f_rd_nameNumber)), (ha, .inl (k_ha, 14, .inl f_ha)), (rd, .inr (7, [.ref rd_tape, .int fd1, .int fa1, .int fp1, .ref bk, .ref rd_names, .ref rd_nameKind, .ref rd_nameNumber, .int (nI nm), .ref rd_knotNames, .int (nI en), .int (nI at9_6), .int tk9_7, .int (nI ts9_8), .long tv9_9])), (rd_tape, .inl (k_rd_tape, 600, .inl f_rd_tape))]) 4 hP hD [0, 1] [2, 3, 4, 5] hk1 hFc hP1 hD1 rfl rfl rfl (by decide) (by decide)
    generalize H1 = H at hP hS ⊢
    rcases hf_11 with ⟨rfl, hwd_12, htk_13⟩ | ⟨rfl, hwd_14, htk_15⟩
    · skip
      refine lv_if_ne (tgt := 26) hx hb dX7_takePlace_15 (by decide) (fun c_16 => ?_) (fun c_16 => ?_)
      · skip
        refine lv_aload_n hx hb dX7_takePlace_26 rfl (lv_at hl 0 rfl) ?_
        refine lv_iconst (v := 0) hx hb dX7_takePlace_27 (by decide) ?_
        obtain ⟨hPc, hDc, hFc⟩ := s3_c (ws' := [(rd, .inr (7, [.ref rd_tape, .int fd1, .int fa1, .int fp1, .ref bk, .ref rd_names, .ref rd_nameKind, .ref rd_nameNumber, .int (nI nm), .ref rd_knotNames, .int (nI en), .int (nI at9_6), .int tk9_7, .int (nI ts9_8), .long tv9_9])), (rd_names, .inl (k_rd_names, 28, .inr (.inl f_rd_names))), (rd_nameKind, .inl (k_rd_nameKind, 28, .inl f_rd_nameKind)), (rd_nameNumber, .inl (k_rd_nameNumber, 28, .inl f_rd_nameNumber))]) [4, 0, 1, 2] hP hD hS hA rfl (by decide)
        have hKc := hK.sub (tys' := [(k_rd_names, .long), (k_rd_nameKind, .int), (k_rd_nameNumber, .int)]) [1, 2, 3] rfl
        refine va_calli (va_runV (As := [.int 0]) (rest := []) ⟨hx, hb, hml, hown, hts⟩ (d7_findTold l dC dI n0 atx H.size rd rd_tape fd1 fa1 fp1 bk rd_names rd_nameKind rd_nameNumber nm rd_knotNames en at9_6 tk9_7 ts9_8 tv9_9 k_rd_names f_rd_names k_rd_nameKind f_rd_nameKind k_rd_nameNumber f_rd_nameNumber 0 T (tkE T en a0) (by first | with_reducible assumption | omega | exact vp_in_iff.mpr (by omega) | exact vp_in_nI (by omega) (by omega) | exact ⟨by omega, by omega⟩) (by first | with_reducible assumption | omega | exact vp_in_iff.mpr (by omega) | exact vp_in_nI (by omega) (by omega) | exact ⟨by omega, by omega⟩) (fun _ => htk_13)) (cwV 1 hts (gV (fun w h => wM_c h) wd_873 wd_870 wd_872 wd_18 wd_117) rfl rfl rfl (by decide +kernel) ⟨Nat.le_of_ble_eq_true rfl, Nat.le_of_ble_eq_true rfl⟩) ⟨fun a U g mk q => by obtain ⟨q0, q1, q2, qG, qP, qK, qD⟩ := q; exact ⟨q0, q1, q2, GW.blind qG, qP, va_K.moved (u := U) (U := U.calling g mk a) (Vm.Alike.refl U.vm) qK, qD⟩, va_recv hKc hPc (ci := 7) (q0 := 0) rfl rfl, fun U hU hW => ⟨rfl, by rw [hU], Nat.le_trans hn0 hS.1, GW.go hW hU hG (fun q hq hA9 => hS.2.1 q hq (fun h => hA9 (hA0 q h))), by rw [hU]; exact hPc, va_K.moved hW.alike hKc, hDc.weaken (fun _ _ _ h => hA0 _ h)⟩⟩ rfl rfl hl.1 rfl (lv_room (Nat.le_of_ble_eq_true rfl)) dX7_takePlace_28 ⟨Nat.le_of_ble_eq_true rfl, Nat.le_of_ble_eq_true rfl⟩) hS (fun q _ h => hFc q h) hFc (fun r_17 u t H1 locs ht hvm hw_18 hB hz1 hk1 hS => ?_)
        subst hw_18
        obtain ⟨fa9_19, fp9_20, hf_21, hf_22, hP1, hK1, hD1⟩ := hB
        rw [ht] at hP1
        obtain ⟨hP, hD⟩ := s3_j (L := [(ha, .inl (k_ha, 14, .inl f_ha)), (rd_tape, .inl (k_rd_tape, 600, .inl f_rd_tape)), (rd, .inr (7, [.ref rd_tape, .int fd1, .int fa9_19, .int fp9_20, .ref bk, .ref rd_names, .ref rd_nameKind, .ref rd_nameNumber, .int (nI nm), .ref rd_knotNames, .int (nI en), .int (nI at9_6), .int tk9_7, .int (nI ts9_8), .long tv9_9])), (rd_names, .inl (k_rd_names, 28, .inr (.inl f_rd_names))), (rd_nameKind, .inl (k_rd_nameKind, 28, .inl f_rd_nameKind)), (rd_nameNumber, .inl (k_rd_nameNumber, 28, .inl f_rd_nameNumber))]) 2 hP hD [4, 0, 1, 2] [3, 5] hk1 hFc hP1 hD1 rfl rfl rfl (by decide) (by decide)
        generalize H1 = H at hP hS ⊢
        have hzq_23 := hf_21.1 rfl
        refine lv_istore_n (lv' := [(2, .int r_17), (0, .ref rd), (1, .ref ha)]) hx hb dX7_takePlace_31 rfl hl (by decide) rfl (fun ls hl => ?_)
        refine lv_aload_n hx hb dX7_takePlace_32 rfl (lv_at hl 1 rfl) ?_
        refine va_get (D := (dC, dI)) (ci := 7) (v := .int fa9_19) (C := RX7) (T := TX7) (N := 15) hx hb hts (fun w h => wM_c (iX7 w h)) hown hK hP 2 rfl rfl 2 (by decide) (hts _ (wM_c wd_337)) (fun _ h9 => h9) rfl dX7_takePlace_33 ?_
        refine lv_if_ne (tgt := 52) hx hb dX7_takePlace_36 (by decide) (fun c_24 => ?_) (fun c_24 => ?_)
        · skip
          have g_25 : fa9_19.toInt ≠ (0 : Int) := i_ne c_24
          refine lv_aload_n hx hb dX7_takePlace_52 rfl (lv_at hl 1 rfl) ?_
          refine va_get (D := (dC, dI)) (ci := 7) (v := .int fa9_19) (C := RX7) (T := TX7) (N := 15) hx hb hts (fun w h => wM_c (iX7 w h)) hown hK hP 2 rfl rfl 2 (by decide) (hts _ (wM_c wd_337)) (fun _ h9 => h9) rfl dX7_takePlace_53 ?_
          refine lv_if_ne (tgt := 63) hx hb dX7_takePlace_56 (by decide) (fun c_26 => ?_) (fun c_26 => ?_)
          · skip
            refine lv_iload_n hx hb dX7_takePlace_63 rfl (lv_at hl 0 rfl) ?_
            have hK9 := hK.sub (tys' := [(k_rd_tape, .int), (k_rd_names, .long), (k_rd_nameKind, .int), (k_rd_nameNumber, .int), (k_ha, .int)]) [0, 1, 2, 3, 4] rfl
            exact W.iret (v := r_17) hx hb hr (fun t ht hW => ⟨⟨r_17, r_17, rfl, rfl, fa9_19, fp9_20, at9_6, tk9_7, ts9_8, tv9_9, (tkE T en a0), (by omega), (by omega), (xin_e c_1 hwd_12 hf_22 c_24), by rw [ht]; exact hP.sub [2, 1, 3, 4, 5, 0] rfl, va_K.moved hW.alike hK9, hD.sub [2, 1, 3, 4, 5, 0] (by decide) rfl⟩, hS.F ht⟩) hS.2.2 dX7_takePlace_64
          · exact absurd c_26 c_24
        · skip
          have g_27 : fa9_19.toInt = (0 : Int) := i_eq c_24
          refine lv_aload_n hx hb dX7_takePlace_39 rfl (lv_at hl 2 rfl) ?_
          refine lv_iload_n hx hb dX7_takePlace_40 rfl (lv_at hl 0 rfl) ?_
          refine va_iald hx hb hK hP 0 4 rfl rfl (by first | with_reducible assumption | exact vp_in_iff.mpr (by omega)) dX7_takePlace_41 ?_
          refine lv_topi (fun v_28 ev_28 => ?_)
          refine lv_iconst (v := (-1)) hx hb dX7_takePlace_42 (by decide) ?_
          refine lv_icmp_eq (tgt := 52) hx hb dX7_takePlace_43 (by decide) (fun c_29 => ?_) (fun c_29 => ?_)
          · skip
            have g_30 : v_28.toInt = (-1 : Int) := i_eq c_29
            refine lv_aload_n hx hb dX7_takePlace_52 rfl (lv_at hl 1 rfl) ?_
            refine va_get (D := (dC, dI)) (ci := 7) (v := .int fa9_19) (C := RX7) (T := TX7) (N := 15) hx hb hts (fun w h => wM_c (iX7 w h)) hown hK hP 2 rfl rfl 2 (by decide) (hts _ (wM_c wd_337)) (fun _ h9 => h9) rfl dX7_takePlace_53 ?_
            refine lv_if_ne (tgt := 63) hx hb dX7_takePlace_56 (by decide) (fun c_31 => ?_) (fun c_31 => ?_)
            · exact absurd c_24 c_31
            refine lv_aload_n hx hb dX7_takePlace_59 rfl (lv_at hl 1 rfl) ?_
            obtain ⟨hPc, hDc, hFc⟩ := s3_c (ws' := [(rd, .inr (7, [.ref rd_tape, .int fd1, .int fa9_19, .int fp9_20, .ref bk, .ref rd_names, .ref rd_nameKind, .ref rd_nameNumber, .int (nI nm), .ref rd_knotNames, .int (nI en), .int (nI at9_6), .int tk9_7, .int (nI ts9_8), .long tv9_9])), (rd_tape, .inl (k_rd_tape, 600, .inl f_rd_tape))]) [2, 1] hP hD hS hA rfl (by decide)
            have hKc := hK.sub (tys' := [(k_rd_tape, .int)]) [0] rfl
            refine va_callv (va_runV (As := []) (rest := []) ⟨hx, hb, hml, hown, hts⟩ (d7_next l dC dI n0 atx H.size rd rd_tape fd1 fa9_19 fp9_20 bk rd_names rd_nameKind rd_nameNumber nm rd_knotNames en at9_6 tk9_7 (nI ts9_8) tv9_9 k_rd_tape f_rd_tape T (by first | with_reducible assumption | omega | exact vp_in_iff.mpr (by omega) | exact vp_in_nI (by omega) (by omega) | exact ⟨by omega, by omega⟩) (by first | with_reducible assumption | omega | exact vp_in_iff.mpr (by omega) | exact vp_in_nI (by omega) (by omega) | exact ⟨by omega, by omega⟩) (by first | with_reducible assumption | omega | exact vp_in_iff.mpr (by omega) | exact vp_in_nI (by omega) (by omega) | exact ⟨by omega, by omega⟩)) (cwV 0 hts (gV (fun w h => wM_c h) wd_735 wd_732 wd_734 wd_1 wd_117) rfl rfl rfl (by decide +kernel) ⟨Nat.le_of_ble_eq_true rfl, Nat.le_of_ble_eq_true rfl⟩) ⟨fun a U g mk q => by obtain ⟨q0, q1, q2, qG, qP, qK, qD⟩ := q; exact ⟨q0, q1, q2, GW.blind qG, qP, va_K.moved (u := U) (U := U.calling g mk a) (Vm.Alike.refl U.vm) qK, qD⟩, va_recv hKc hPc (ci := 7) (q0 := 0) rfl rfl, fun U hU hW => ⟨rfl, by rw [hU], Nat.le_trans hn0 hS.1, GW.go hW hU hG (fun q hq hA9 => hS.2.1 q hq (fun h => hA9 (hA0 q h))), by rw [hU]; exact hPc, va_K.moved hW.alike hKc, hDc.weaken (fun _ _ _ h => hA0 _ h)⟩⟩ rfl rfl hl.1 rfl (lv_room (Nat.le_of_ble_eq_true rfl)) dX7_takePlace_60 ⟨Nat.le_of_ble_eq_true rfl, Nat.le_of_ble_eq_true rfl⟩) hS (fun q _ h => hFc q h) hFc (fun u t H1 locs ht hvm hw_33 hB hz1 hk1 hS => ?_)
            obtain ⟨at9_34, tk9_35, ts9_36, tv9_37, hf_38, hf_39, hP1, hK1, hD1⟩ := hB
            rw [ht] at hP1
            obtain ⟨hP, hD⟩ := s3_j (L := [(ha, .inl (k_ha, 14, .inl f_ha)), (rd_names, .inl (k_rd_names, 28, .inr (.inl f_rd_names))), (rd_nameKind, .inl (k_rd_nameKind, 28, .inl f_rd_nameKind)), (rd_nameNumber, .inl (k_rd_nameNumber, 28, .inl f_rd_nameNumber)), (rd, .inr (7, [.ref rd_tape, .int fd1, .int fa9_19, .int fp9_20, .ref bk, .ref rd_names, .ref rd_nameKind, .ref rd_nameNumber, .int (nI nm), .ref rd_knotNames, .int (nI en), .int (nI at9_34), .int tk9_35, .int (nI ts9_36), .long tv9_37])), (rd_tape, .inl (k_rd_tape, 600, .inl f_rd_tape))]) 4 hP hD [2, 1] [0, 3, 4, 5] hk1 hFc hP1 hD1 rfl rfl rfl (by decide) (by decide)
            generalize H1 = H at hP hS ⊢
            have htk_40 := xgo htk_13 hf_39
            refine lv_iload_n hx hb dX7_takePlace_63 rfl (lv_at hl 0 rfl) ?_
            have hK9 := hK.sub (tys' := [(k_rd_tape, .int), (k_rd_names, .long), (k_rd_nameKind, .int), (k_rd_nameNumber, .int), (k_ha, .int)]) [0, 1, 2, 3, 4] rfl
            exact W.iret (v := r_17) hx hb hr (fun t ht hW => ⟨⟨r_17, r_17, rfl, rfl, fa9_19, fp9_20, at9_34, tk9_35, ts9_36, tv9_37, (tkE T en (tkE T en a0)), (by omega), (by omega), (ck_k c_1 c_24 (xin_t hwd_12 (hf_22.2.1 c_1 c_24).1 ev_28 c_29) htk_40), by rw [ht]; exact hP.sub [4, 5, 1, 2, 3, 0] rfl, va_K.moved hW.alike hK9, hD.sub [4, 5, 1, 2, 3, 0] (by decide) rfl⟩, hS.F ht⟩) hS.2.2 dX7_takePlace_64
          · skip
            have g_41 : v_28.toInt ≠ (-1 : Int) := i_ne c_29
            refine lv_aload_n hx hb dX7_takePlace_46 rfl (lv_at hl 1 rfl) ?_
            refine lv_iconst (v := 3) hx hb dX7_takePlace_47 (by decide) ?_
            obtain ⟨hPc, hDc, hFc⟩ := s3_c (ws' := [(rd, .inr (7, [.ref rd_tape, .int fd1, .int fa9_19, .int fp9_20, .ref bk, .ref rd_names, .ref rd_nameKind, .ref rd_nameNumber, .int (nI nm), .ref rd_knotNames, .int (nI en), .int (nI at9_6), .int tk9_7, .int (nI ts9_8), .long tv9_9]))]) [2] hP hD hS hA rfl (by decide)
            have hKc := hK.sub (tys' := []) [] rfl
            refine va_calli (va_runV (As := [.int 3]) (rest := []) ⟨hx, hb, hml, hown, hts⟩ (d7_miss l dC dI n0 atx H.size rd rd_tape fd1 fa9_19 fp9_20 bk rd_names rd_nameKind rd_nameNumber nm rd_knotNames en at9_6 tk9_7 ts9_8 tv9_9 3 ) (cwV 1 hts (gV (fun w h => wM_c h) wd_831 wd_828 wd_830 wd_9 wd_117) rfl rfl rfl (by decide +kernel) ⟨Nat.le_of_ble_eq_true rfl, Nat.le_of_ble_eq_true rfl⟩) ⟨fun a U g mk q => by obtain ⟨q0, q1, q2, qG, qP, qK, qD⟩ := q; exact ⟨q0, q1, q2, GW.blind qG, qP, va_K.moved (u := U) (U := U.calling g mk a) (Vm.Alike.refl U.vm) qK, qD⟩, va_recv hKc hPc (ci := 7) (q0 := 0) rfl rfl, fun U hU hW => ⟨rfl, by rw [hU], Nat.le_trans hn0 hS.1, GW.go hW hU hG (fun q hq hA9 => hS.2.1 q hq (fun h => hA9 (hA0 q h))), by rw [hU]; exact hPc, va_K.moved hW.alike hKc, hDc.weaken (fun _ _ _ h => hA0 _ h)⟩⟩ rfl rfl hl.1 rfl (lv_room (Nat.le_of_ble_eq_true rfl)) dX7_takePlace_48 ⟨Nat.le_of_ble_eq_true rfl, Nat.le_of_ble_eq_true rfl⟩) hS (fun q _ h => hFc q h) hFc (fun r_42 u t H1 locs ht hvm hw_43 hB hz1 hk1 hS => ?_)
            obtain ⟨fa9_44, fp9_45, hf_46, hf_47, hP1, hK1, hD1⟩ := hB
            rw [ht] at hP1
            obtain ⟨hP, hD⟩ := s3_j (L := [(ha, .inl (k_ha, 14, .inl f_ha)), (rd_tape, .inl (k_rd_tape, 600, .inl f_rd_tape)), (rd_names, .inl (k_rd_names, 28, .inr (.inl f_rd_names))), (rd_nameKind, .inl (k_rd_nameKind, 28, .inl f_rd_nameKind)), (rd_nameNumber, .inl (k_rd_nameNumber, 28, .inl f_rd_nameNumber)), (rd, .inr (7, [.ref rd_tape, .int fd1, .int fa9_44, .int fp9_45, .ref bk, .ref rd_names, .ref rd_nameKind, .ref rd_nameNumber, .int (nI nm), .ref rd_knotNames, .int (nI en), .int (nI at9_6), .int tk9_7, .int (nI ts9_8), .long tv9_9]))]) 5 hP hD [2] [0, 1, 3, 4, 5] hk1 hFc hP1 hD1 rfl rfl rfl (by decide) (by decide)
            generalize H1 = H at hP hS ⊢
            obtain rfl : r_42 = 0 := hw_43
            have hm_48 := hf_46 c_24
            have hz_49 : ¬ fa9_44 = 0 := by rw [hm_48.1]; decide
            refine lv_pop hx hb dX7_takePlace_51 rfl ?_
            refine lv_aload_n hx hb dX7_takePlace_52 rfl (lv_at hl 1 rfl) ?_
            refine va_get (D := (dC, dI)) (ci := 7) (v := .int fa9_44) (C := RX7) (T := TX7) (N := 15) hx hb hts (fun w h => wM_c (iX7 w h)) hown hK hP 5 rfl rfl 2 (by decide) (hts _ (wM_c wd_337)) (fun _ h9 => h9) rfl dX7_takePlace_53 ?_
            refine lv_if_ne (tgt := 63) hx hb dX7_takePlace_56 (by decide) (fun c_50 => ?_) (fun c_50 => ?_)
            · skip
              refine lv_iload_n hx hb dX7_takePlace_63 rfl (lv_at hl 0 rfl) ?_
              have hK9 := hK.sub (tys' := [(k_rd_tape, .int), (k_rd_names, .long), (k_rd_nameKind, .int), (k_rd_nameNumber, .int), (k_ha, .int)]) [0, 1, 2, 3, 4] rfl
              exact W.iret (v := r_17) hx hb hr (fun t ht hW => ⟨⟨r_17, r_17, rfl, rfl, fa9_44, fp9_45, at9_6, tk9_7, ts9_8, tv9_9, (tkE T en a0), (by omega), (by omega), (ck_e c_1 hm_48 (by decide) (xin_3 hwd_12 (hf_22.2.1 c_1 c_24).1 ev_28 c_29 htk_13.1)), by rw [ht]; exact hP.sub [5, 1, 2, 3, 4, 0] rfl, va_K.moved hW.alike hK9, hD.sub [5, 1, 2, 3, 4, 0] (by decide) rfl⟩, hS.F ht⟩) hS.2.2 dX7_takePlace_64
            · exact absurd c_50 hz_49
      · exact absurd c_16 (by decide)
    · skip
      refine lv_if_ne (tgt := 26) hx hb dX7_takePlace_15 (by decide) (fun c_51 => ?_) (fun c_51 => ?_)
      · exact absurd c_51 (by decide)
      refine lv_aload_n hx hb dX7_takePlace_18 rfl (lv_at hl 0 rfl) ?_
      refine lv_iconst (v := 1) hx hb dX7_takePlace_19 (by decide) ?_
      obtain ⟨hPc, hDc, hFc⟩ := s3_c (ws' := [(rd, .inr (7, [.ref rd_tape, .int fd1, .int fa1, .int fp1, .ref bk, .ref rd_names, .ref rd_nameKind, .ref rd_nameNumber, .int (nI nm), .ref rd_knotNames, .int (nI en), .int (nI at9_6), .int tk9_7, .int (nI ts9_8), .long tv9_9]))]) [4] hP hD hS hA rfl (by decide)
      have hKc := hK.sub (tys' := []) [] rfl
      refine va_calli (va_runV (As := [.int 1]) (rest := []) ⟨hx, hb, hml, hown, hts⟩ (d7_miss l dC dI n0 atx H.size rd rd_tape fd1 fa1 fp1 bk rd_names rd_nameKind rd_nameNumber nm rd_knotNames en at9_6 tk9_7 ts9_8 tv9_9 1 ) (cwV 1 hts (gV (fun w h => wM_c h) wd_831 wd_828 wd_830 wd_9 wd_117) rfl rfl rfl (by decide +kernel) ⟨Nat.le_of_ble_eq_true rfl, Nat.le_of_ble_eq_true rfl⟩) ⟨fun a U g mk q => by obtain ⟨q0, q1, q2, qG, qP, qK, qD⟩ := q; exact ⟨q0, q1, q2, GW.blind qG, qP, va_K.moved (u := U) (U := U.calling g mk a) (Vm.Alike.refl U.vm) qK, qD⟩, va_recv hKc hPc (ci := 7) (q0 := 0) rfl rfl, fun U hU hW => ⟨rfl, by rw [hU], Nat.le_trans hn0 hS.1, GW.go hW hU hG (fun q hq hA9 => hS.2.1 q hq (fun h => hA9 (hA0 q h))), by rw [hU]; exact hPc, va_K.moved hW.alike hKc, hDc.weaken (fun _ _ _ h => hA0 _ h)⟩⟩ rfl rfl hl.1 rfl (lv_room (Nat.le_of_ble_eq_true rfl)) dX7_takePlace_20 ⟨Nat.le_of_ble_eq_true rfl, Nat.le_of_ble_eq_true rfl⟩) hS (fun q _ h => hFc q h) hFc (fun r_52 u t H1 locs ht hvm hw_53 hB hz1 hk1 hS => ?_)
      obtain ⟨fa9_54, fp9_55, hf_56, hf_57, hP1, hK1, hD1⟩ := hB
      rw [ht] at hP1
      obtain ⟨hP, hD⟩ := s3_j (L := [(rd_names, .inl (k_rd_names, 28, .inr (.inl f_rd_names))), (rd_nameKind, .inl (k_rd_nameKind, 28, .inl f_rd_nameKind)), (rd_nameNumber, .inl (k_rd_nameNumber, 28, .inl f_rd_nameNumber)), (ha, .inl (k_ha, 14, .inl f_ha)), (rd_tape, .inl (k_rd_tape, 600, .inl f_rd_tape)), (rd, .inr (7, [.ref rd_tape, .int fd1, .int fa9_54, .int fp9_55, .ref bk, .ref rd_names, .ref rd_nameKind, .ref rd_nameNumber, .int (nI nm), .ref rd_knotNames, .int (nI en), .int (nI at9_6), .int tk9_7, .int (nI ts9_8), .long tv9_9]))]) 5 hP hD [4] [0, 1, 2, 3, 5] hk1 hFc hP1 hD1 rfl rfl rfl (by decide) (by decide)
      generalize H1 = H at hP hS ⊢
      obtain rfl : r_52 = 0 := hw_53
      have hm_58 := hf_56 c_1
      have hz_59 : ¬ fa9_54 = 0 := by rw [hm_58.1]; decide
      refine lv_pop hx hb dX7_takePlace_23 rfl ?_
      refine lv_iconst (v := 0) hx hb dX7_takePlace_24 (by decide) ?_
      have hK9 := hK.sub (tys' := [(k_rd_tape, .int), (k_rd_names, .long), (k_rd_nameKind, .int), (k_rd_nameNumber, .int), (k_ha, .int)]) [0, 1, 2, 3, 4] rfl
      exact W.iret (v := 0) hx hb hr (fun t ht hW => ⟨⟨0, 0, rfl, rfl, fa9_54, fp9_55, at9_6, tk9_7, ts9_8, tv9_9, a0, (by omega), (by have z9 : (0 : Int32).toInt = 0 := rfl; omega), (ck_e c_1 hm_58 (by decide) (xin_1 hwd_14 htk_15.1)), by rw [ht]; exact hP.sub [5, 4, 0, 1, 2, 3] rfl, va_K.moved hW.alike hK9, hD.sub [5, 4, 0, 1, 2, 3] (by decide) rfl⟩, hS.F ht⟩) hS.2.2 dX7_takePlace_25
  · skip
    have g_60 : fa1.toInt ≠ (0 : Int) := i_ne c_1
    refine lv_iconst (v := 0) hx hb dX7_takePlace_7 (by decide) ?_
    have hK9 := hK.sub (tys' := [(k_rd_tape, .int), (k_rd_names, .long), (k_rd_nameKind, .int), (k_rd_nameNumber, .int), (k_ha, .int)]) [0, 1, 2, 3, 4] rfl
    exact W.iret (v := 0) hx hb hr (fun t ht hW => ⟨⟨0, 0, rfl, rfl, fa1, fp1, at1, tk1, ts1, tv1, 0, (by omega), (by have z9 : (0 : Int32).toInt = 0 := rfl; omega), (ck_a c_1), by rw [ht]; exact hP.sub [0, 1, 2, 3, 4, 5] rfl, va_K.moved hW.alike hK9, hD.sub [0, 1, 2, 3, 4, 5] (by decide) rfl⟩, hS.F ht⟩) hS.2.2 dX7_takePlace_8
set_option maxHeartbeats 4000000 in
set_option maxRecDepth 100000 in
theorem d7_takeWhole (l : Launch) (dC : Nat → ClassId) (dI : Nat → Nat → Nat) (n0 : Nat) (atx : Nat → Nat × Nat) (sz : Nat) (rd : Nat) (rd_tape : Nat) (fd1 : Int32) (fa1 : Int32) (fp1 : Int32) (bk : Nat) (rd_names : Nat) (rd_nameKind : Nat) (rd_nameNumber : Nat) (nm : Nat) (rd_knotNames : Nat) (en : Nat) (at1 : Nat) (tk1 : Int32) (ts1 : Nat) (tv1 : Int64) (k_rd_tape : ClassId) (f_rd_tape : Nat → Int32) (ti : Nat) (c9 : Int64) (lo : Int32) (hi : Int32) (T : Nat → Int32) (a0 : Nat) (hti : ti < 34) (hlt : ∀ j, j < (txb ti).length → 97 ≤ ((txb ti).getD j 0).toInt ∧ ((txb ti).getD j 0).toInt ≤ 122) (hc9 : wordN (txb ti) (txb ti).length = c9) (h_en : en ≤ 600) (h_at : at1 ≤ en) (hT : ∀ k, k < en → f_rd_tape k = T k) (h_tok : fa1 = 0 → xTk T en a0 ts1 at1 tk1 tv1) : Met l yX7_takeWhole (wM yX7_takeWhole cX7_takeWhole 5 (some .int)) ({ frames := 7, cells := 0, slots := 0, locals := 150 }) (va_Pc [.ref rd, .ref (atx ti).1, .int lo, .int hi] (fun U => U.heap.size = sz ∧ n0 ≤ sz ∧ GW n0 atx U ∧ va_P (dC, dI) classes [(rd, .inr (7, [.ref rd_tape, .int fd1, .int fa1, .int fp1, .ref bk, .ref rd_names, .ref rd_nameKind, .ref rd_nameNumber, .int (nI nm), .ref rd_knotNames, .int (nI en), .int (nI at1), .int tk1, .int (nI ts1), .long tv1])), (rd_tape, .inl (k_rd_tape, 600, .inl f_rd_tape))] U.heap ∧ va_K (dC, dI) classes [(k_rd_tape, .int)] U ∧ va_D (fun q => n0 ≤ q) [(rd, .inr (7, [.ref rd_tape, .int fd1, .int fa1, .int fp1, .ref bk, .ref rd_names, .ref rd_nameKind, .ref rd_nameNumber, .int (nI nm), .ref rd_knotNames, .int (nI en), .int (nI at1), .int tk1, .int (nI ts1), .long tv1])), (rd_tape, .inl (k_rd_tape, 600, .inl f_rd_tape))])) (va_Qi (fun (r : Int32) (rw9 : Int32) => r = rw9) (fun (rw9 : Int32) (t : State) => ∃ (fa9 : Int32), ∃ (fp9 : Int32), ∃ (at9 : Nat), ∃ (tk9 : Int32), ∃ (ts9 : Nat), ∃ (tv9 : Int64), ∃ (ps9 : Nat), (at9 ≤ en) ∧ (CK fa1 fp1 fa9 fp9 (fLead T en a0 c9 lo hi) (ps9, rw9) (xTk T en ps9 ts9 at9 tk9 tv9)) ∧ va_P (dC, dI) classes [(rd, .inr (7, [.ref rd_tape, .int fd1, .int fa9, .int fp9, .ref bk, .ref rd_names, .ref rd_nameKind, .ref rd_nameNumber, .int (nI nm), .ref rd_knotNames, .int (nI en), .int (nI at9), .int tk9, .int (nI ts9), .long tv9])), (rd_tape, .inl (k_rd_tape, 600, .inl f_rd_tape))] t.heap ∧ va_K (dC, dI) classes [(k_rd_tape, .int)] t ∧ va_D (va_A [(rd, .inr (7, [.ref rd_tape, .int fd1, .int fa1, .int fp1, .ref bk, .ref rd_names, .ref rd_nameKind, .ref rd_nameNumber, .int (nI nm), .ref rd_knotNames, .int (nI en), .int (nI at1), .int tk1, .int (nI ts1), .long tv1])), (rd_tape, .inl (k_rd_tape, 600, .inl f_rd_tape))] sz) [(rd, .inr (7, [.ref rd_tape, .int fd1, .int fa9, .int fp9, .ref bk, .ref rd_names, .ref rd_nameKind, .ref rd_nameNumber, .int (nI nm), .ref rd_knotNames, .int (nI en), .int (nI at9), .int tk9, .int (nI ts9), .long tv9])), (rd_tape, .inl (k_rd_tape, 600, .inl f_rd_tape))]) (va_A [(rd, .inr (7, [.ref rd_tape, .int fd1, .int fa1, .int fp1, .ref bk, .ref rd_names, .ref rd_nameKind, .ref rd_nameNumber, .int (nI nm), .ref rd_knotNames, .int (nI en), .int (nI at1), .int tk1, .int (nI ts1), .long tv1])), (rd_tape, .inl (k_rd_tape, 600, .inl f_rd_tape))] sz)) 0 0 (va_A [(rd, .inr (7, [.ref rd_tape, .int fd1, .int fa1, .int fp1, .ref bk, .ref rd_names, .ref rd_nameKind, .ref rd_nameNumber, .int (nI nm), .ref rd_knotNames, .int (nI en), .int (nI at1), .int tk1, .int (nI ts1), .long tv1])), (rd_tape, .inl (k_rd_tape, 600, .inl f_rd_tape))] sz) := by
  refine Met.ofW (cc := cX7_takeWhole) (maxL := 5) (ret := (some .int)) (by decide) rfl ?_
  intro p e s m args below meth c s₁ B hml hv
  obtain ⟨rfl, hsz, hn0, hG, hP, hK, hD0⟩ := hv
  have hx := B.exec
  have hb := B.bytes
  have hr := B.returns
  have hts := atoms_spec (ws := wM yX7_takeWhole cX7_takeWhole 5 (some .int)) B.pre
  have hown : s.vm.findClass RX7 = some m.cls := findClass_of_methodNamed B.named
  have hlocks := B.notSynchronized
  subst hsz
  have hD := hD0.self (sz := s.heap.size)
  have hA0 := vA_n0 hD0 hn0
  generalize hAe : va_A [(rd, .inr (7, [.ref rd_tape, .int fd1, .int fa1, .int fp1, .ref bk, .ref rd_names, .ref rd_nameKind, .ref rd_nameNumber, .int (nI nm), .ref rd_knotNames, .int (nI en), .int (nI at1), .int tk1, .int (nI ts1), .long tv1])), (rd_tape, .inl (k_rd_tape, 600, .inl f_rd_tape))] s.heap.size = A at hD hA0 ⊢
  have hA : ∀ q : Nat, s.heap.size ≤ q → A q := fun q h => by rw [← hAe]; exact Or.inr h
  have hS : va_S A s.heap s.heap [] := va_S.rf
  have hl := lv_entry ([.ref rd, .ref (atx ti).1, .int lo, .int hi]) (n := 5) (Nat.le_of_ble_eq_true rfl)
  rw [lg_entry_eq]
  generalize (lg_sl ([.ref rd, .ref (atx ti).1, .int lo, .int hi]) ++ List.replicate (5 - (lg_sl ([.ref rd, .ref (atx ti).1, .int lo, .int hi])).length) Slot.unset).toArray = ls at hl ⊢
  have hl : lv_has ls 5 [(0, .ref rd), (1, .ref (atx ti).1), (2, .int lo), (3, .int hi)] := hl
  refine lv_aload_n hx hb dX7_takeWhole_0 rfl (lv_at hl 0 rfl) ?_
  refine va_get (D := (dC, dI)) (ci := 7) (v := .int fa1) (C := RX7) (T := TX7) (N := 15) hx hb hts (fun w h => wM_c (iX7 w h)) hown hK hP 0 rfl rfl 2 (by decide) (hts _ (wM_c wd_337)) (fun _ h9 => h9) rfl dX7_takeWhole_1 ?_
  refine lv_if_eq (tgt := 9) hx hb dX7_takeWhole_4 (by decide) (fun c_1 => ?_) (fun c_1 => ?_)
  · skip
    have g_2 : fa1.toInt = (0 : Int) := i_eq c_1
    have htk_3 := h_tok c_1
    refine lv_aload_n hx hb dX7_takeWhole_9 rfl (lv_at hl 0 rfl) ?_
    refine lv_aload_n hx hb dX7_takeWhole_10 rfl (lv_at hl 1 rfl) ?_
    obtain ⟨hPc, hDc, hFc⟩ := s3_c (ws' := [(rd, .inr (7, [.ref rd_tape, .int fd1, .int fa1, .int fp1, .ref bk, .ref rd_names, .ref rd_nameKind, .ref rd_nameNumber, .int (nI nm), .ref rd_knotNames, .int (nI en), .int (nI at1), .int tk1, .int (nI ts1), .long tv1])), (rd_tape, .inl (k_rd_tape, 600, .inl f_rd_tape))]) [0, 1] hP hD hS hA rfl (by decide)
    have hKc := hK.sub (tys' := [(k_rd_tape, .int)]) [0] rfl
    refine va_calli (va_runV (As := [.ref (atx ti).1]) (rest := []) ⟨hx, hb, hml, hown, hts⟩ (d7_takeWord l dC dI n0 atx s.heap.size rd rd_tape fd1 fa1 fp1 bk rd_names rd_nameKind rd_nameNumber nm rd_knotNames en at1 tk1 ts1 tv1 k_rd_tape f_rd_tape ti c9 T a0 (by first | with_reducible assumption | omega | exact vp_in_iff.mpr (by omega) | exact vp_in_nI (by omega) (by omega) | exact ⟨by omega, by omega⟩) (by first | with_reducible assumption | omega | exact vp_in_iff.mpr (by omega) | exact vp_in_nI (by omega) (by omega) | exact ⟨by omega, by omega⟩) (by first | with_reducible assumption | omega | exact vp_in_iff.mpr (by omega) | exact vp_in_nI (by omega) (by omega) | exact ⟨by omega, by omega⟩) (by first | with_reducible assumption | omega | exact vp_in_iff.mpr (by omega) | exact vp_in_nI (by omega) (by omega) | exact ⟨by omega, by omega⟩) (by first | with_reducible assumption | omega | exact vp_in_iff.mpr (by omega) | exact vp_in_nI (by omega) (by omega) | exact ⟨by omega, by omega⟩) (by first | with_reducible assumption | omega | exact vp_in_iff.mpr (by omega) | exact vp_in_nI (by omega) (by omega) | exact ⟨by omega, by omega⟩) htk_3) (cwV 1 hts (gV (fun w h => wM_c h) wd_756 wd_753 wd_755 wd_4 wd_117) rfl rfl rfl (by decide +kernel) ⟨Nat.le_of_ble_eq_true rfl, Nat.le_of_ble_eq_true rfl⟩) ⟨fun a U g mk q => by obtain ⟨q0, q1, q2, qG, qP, qK, qD⟩ := q; exact ⟨q0, q1, q2, GW.blind qG, qP, va_K.moved (u := U) (U := U.calling g mk a) (Vm.Alike.refl U.vm) qK, qD⟩, va_recv hKc hPc (ci := 7) (q0 := 0) rfl rfl, fun U hU hW => ⟨rfl, by rw [hU], Nat.le_trans hn0 hS.1, GW.go hW hU hG (fun q hq hA9 => hS.2.1 q hq (fun h => hA9 (hA0 q h))), by rw [hU]; exact hPc, va_K.moved hW.alike hKc, hDc.weaken (fun _ _ _ h => hA0 _ h)⟩⟩ rfl rfl hl.1 rfl (lv_room (Nat.le_of_ble_eq_true rfl)) dX7_takeWhole_11 ⟨Nat.le_of_ble_eq_true rfl, Nat.le_of_ble_eq_true rfl⟩) hS (fun q _ h => hFc q h) hFc (fun r_4 u t H1 locs ht hvm hw_5 hB hz1 hk1 hS => ?_)
    subst hw_5
    obtain ⟨at9_6, tk9_7, ts9_8, tv9_9, hf_10, hf_11, hP1, hK1, hD1⟩ := hB
    rw [ht] at hP1
    obtain ⟨hP, hD⟩ := s3_j (L := [(rd, .inr (7, [.ref rd_tape, .int fd1, .int fa1, .int fp1, .ref bk, .ref rd_names, .ref rd_nameKind, .ref rd_nameNumber, .int (nI nm), .ref rd_knotNames, .int (nI en), .int (nI at9_6), .int tk9_7, .int (nI ts9_8), .long tv9_9])), (rd_tape, .inl (k_rd_tape, 600, .inl f_rd_tape))]) 0 hP hD [0, 1] [] hk1 hFc hP1 hD1 rfl rfl rfl (by decide) (by decide)
    generalize H1 = H at hP hS ⊢
    rcases hf_11 with ⟨rfl, hwd_12, htk_13⟩ | ⟨rfl, hwd_14, htk_15⟩
    · skip
      refine lv_if_eq (tgt := 25) hx hb dX7_takeWhole_14 (by decide) (fun c_16 => ?_) (fun c_16 => ?_)
      · exact absurd c_16 (by decide)
      refine lv_aload_n hx hb dX7_takeWhole_17 rfl (lv_at hl 0 rfl) ?_
      refine va_get (D := (dC, dI)) (ci := 7) (v := .int tk9_7) (C := RX7) (T := TX7) (N := 15) hx hb hts (fun w h => wM_c (iX7 w h)) hown hK hP 0 rfl rfl 12 (by decide) (hts _ (wM_c wd_348)) (fun _ h9 => h9) rfl dX7_takeWhole_18 ?_
      refine lv_iconst (v := 2) hx hb dX7_takeWhole_21 (by decide) ?_
      refine lv_icmp_eq (tgt := 33) hx hb dX7_takeWhole_22 (by decide) (fun c_17 => ?_) (fun c_17 => ?_)
      · skip
        have g_18 : tk9_7.toInt = (2 : Int) := i_eq c_17
        refine lv_aload_n hx hb dX7_takeWhole_33 rfl (lv_at hl 0 rfl) ?_
        refine va_get (D := (dC, dI)) (ci := 7) (v := .long tv9_9) (C := RX7) (T := TX7) (N := 15) hx hb hts (fun w h => wM_c (iX7 w h)) hown hK hP 0 rfl rfl 14 (by decide) (hts _ (wM_c wd_350)) (fun _ h9 => h9) rfl dX7_takeWhole_34 ?_
        refine lv_l2i hx hb dX7_takeWhole_37 rfl ?_
        refine lv_topi (fun v_19 ev_19 => ?_)
        refine lv_istore (lv' := [(4, .int v_19), (0, .ref rd), (1, .ref (atx ti).1), (2, .int lo), (3, .int hi)]) hx hb dX7_takeWhole_38 hl (by decide) rfl (fun ls hl => ?_)
        refine lv_iload hx hb dX7_takeWhole_40 (lv_at hl 0 rfl) ?_
        refine lv_iload_n hx hb dX7_takeWhole_42 rfl (lv_at hl 3 rfl) ?_
        refine lv_icmp_lt (tgt := 52) hx hb dX7_takeWhole_43 (by decide) (fun c_20 => ?_) (fun c_20 => ?_)
        · skip
          have g_21 : v_19.toInt < lo.toInt := i_lt c_20
          refine lv_aload_n hx hb dX7_takeWhole_52 rfl (lv_at hl 1 rfl) ?_
          refine lv_iconst (v := 4) hx hb dX7_takeWhole_53 (by decide) ?_
          obtain ⟨hPc, hDc, hFc⟩ := s3_c (ws' := [(rd, .inr (7, [.ref rd_tape, .int fd1, .int fa1, .int fp1, .ref bk, .ref rd_names, .ref rd_nameKind, .ref rd_nameNumber, .int (nI nm), .ref rd_knotNames, .int (nI en), .int (nI at9_6), .int tk9_7, .int (nI ts9_8), .long tv9_9]))]) [0] hP hD hS hA rfl (by decide)
          have hKc := hK.sub (tys' := []) [] rfl
          refine va_calli (va_runV (As := [.int 4]) (rest := []) ⟨hx, hb, hml, hown, hts⟩ (d7_miss l dC dI n0 atx H.size rd rd_tape fd1 fa1 fp1 bk rd_names rd_nameKind rd_nameNumber nm rd_knotNames en at9_6 tk9_7 ts9_8 tv9_9 4 ) (cwV 1 hts (gV (fun w h => wM_c h) wd_831 wd_828 wd_830 wd_9 wd_117) rfl rfl rfl (by decide +kernel) ⟨Nat.le_of_ble_eq_true rfl, Nat.le_of_ble_eq_true rfl⟩) ⟨fun a U g mk q => by obtain ⟨q0, q1, q2, qG, qP, qK, qD⟩ := q; exact ⟨q0, q1, q2, GW.blind qG, qP, va_K.moved (u := U) (U := U.calling g mk a) (Vm.Alike.refl U.vm) qK, qD⟩, va_recv hKc hPc (ci := 7) (q0 := 0) rfl rfl, fun U hU hW => ⟨rfl, by rw [hU], Nat.le_trans hn0 hS.1, GW.go hW hU hG (fun q hq hA9 => hS.2.1 q hq (fun h => hA9 (hA0 q h))), by rw [hU]; exact hPc, va_K.moved hW.alike hKc, hDc.weaken (fun _ _ _ h => hA0 _ h)⟩⟩ rfl rfl hl.1 rfl (lv_room (Nat.le_of_ble_eq_true rfl)) dX7_takeWhole_54 ⟨Nat.le_of_ble_eq_true rfl, Nat.le_of_ble_eq_true rfl⟩) hS (fun q _ h => hFc q h) hFc (fun r_22 u t H1 locs ht hvm hw_23 hB hz1 hk1 hS => ?_)
          obtain ⟨fa9_24, fp9_25, hf_26, hf_27, hP1, hK1, hD1⟩ := hB
          rw [ht] at hP1
          obtain ⟨hP, hD⟩ := s3_j (L := [(rd_tape, .inl (k_rd_tape, 600, .inl f_rd_tape)), (rd, .inr (7, [.ref rd_tape, .int fd1, .int fa9_24, .int fp9_25, .ref bk, .ref rd_names, .ref rd_nameKind, .ref rd_nameNumber, .int (nI nm), .ref rd_knotNames, .int (nI en), .int (nI at9_6), .int tk9_7, .int (nI ts9_8), .long tv9_9]))]) 1 hP hD [0] [1] hk1 hFc hP1 hD1 rfl rfl rfl (by decide) (by decide)
          generalize H1 = H at hP hS ⊢
          obtain rfl : r_22 = 0 := hw_23
          have hm_28 := hf_26 c_1
          have hz_29 : ¬ fa9_24 = 0 := by rw [hm_28.1]; decide
          refine lv_pop hx hb dX7_takeWhole_57 rfl ?_
          refine lv_goto (tgt := 65) hx hb dX7_takeWhole_58 (by decide) ?_
          refine lv_iload hx hb dX7_takeWhole_65 (lv_at hl 0 rfl) ?_
          have hK9 := hK.sub (tys' := [(k_rd_tape, .int)]) [0] rfl
          exact W.iret (v := v_19) hx hb hr (fun t ht hW => ⟨⟨v_19, v_19, rfl, rfl, fa9_24, fp9_25, at9_6, tk9_7, ts9_8, tv9_9, (tkE T en a0), (by omega), (ck_e c_1 hm_28 (by decide) (fLead_w hwd_12 (xwh_4 (xS_2 htk_13 c_17) (ev_19.trans (htk_13.2.2.2.2 (xS_2 htk_13 c_17))) (by omega) htk_13.1))), by rw [ht]; exact hP.sub [1, 0] rfl, va_K.moved hW.alike hK9, hD.sub [1, 0] (by decide) rfl⟩, hS.F ht⟩) hS.2.2 dX7_takeWhole_67
        · skip
          have g_30 : lo.toInt ≤ v_19.toInt := i_nlt c_20
          refine lv_iload hx hb dX7_takeWhole_46 (lv_at hl 0 rfl) ?_
          refine lv_iload_n hx hb dX7_takeWhole_48 rfl (lv_at hl 4 rfl) ?_
          refine lv_icmp_le (tgt := 61) hx hb dX7_takeWhole_49 (by decide) (fun c_31 => ?_) (fun c_31 => ?_)
          · skip
            have g_32 : v_19.toInt ≤ hi.toInt := i_le c_31
            refine lv_aload_n hx hb dX7_takeWhole_61 rfl (lv_at hl 1 rfl) ?_
            obtain ⟨hPc, hDc, hFc⟩ := s3_c (ws' := [(rd, .inr (7, [.ref rd_tape, .int fd1, .int fa1, .int fp1, .ref bk, .ref rd_names, .ref rd_nameKind, .ref rd_nameNumber, .int (nI nm), .ref rd_knotNames, .int (nI en), .int (nI at9_6), .int tk9_7, .int (nI ts9_8), .long tv9_9])), (rd_tape, .inl (k_rd_tape, 600, .inl f_rd_tape))]) [0, 1] hP hD hS hA rfl (by decide)
            have hKc := hK.sub (tys' := [(k_rd_tape, .int)]) [0] rfl
            refine va_callv (va_runV (As := []) (rest := []) ⟨hx, hb, hml, hown, hts⟩ (d7_next l dC dI n0 atx H.size rd rd_tape fd1 fa1 fp1 bk rd_names rd_nameKind rd_nameNumber nm rd_knotNames en at9_6 tk9_7 (nI ts9_8) tv9_9 k_rd_tape f_rd_tape T (by first | with_reducible assumption | omega | exact vp_in_iff.mpr (by omega) | exact vp_in_nI (by omega) (by omega) | exact ⟨by omega, by omega⟩) (by first | with_reducible assumption | omega | exact vp_in_iff.mpr (by omega) | exact vp_in_nI (by omega) (by omega) | exact ⟨by omega, by omega⟩) (by first | with_reducible assumption | omega | exact vp_in_iff.mpr (by omega) | exact vp_in_nI (by omega) (by omega) | exact ⟨by omega, by omega⟩)) (cwV 0 hts (gV (fun w h => wM_c h) wd_735 wd_732 wd_734 wd_1 wd_117) rfl rfl rfl (by decide +kernel) ⟨Nat.le_of_ble_eq_true rfl, Nat.le_of_ble_eq_true rfl⟩) ⟨fun a U g mk q => by obtain ⟨q0, q1, q2, qG, qP, qK, qD⟩ := q; exact ⟨q0, q1, q2, GW.blind qG, qP, va_K.moved (u := U) (U := U.calling g mk a) (Vm.Alike.refl U.vm) qK, qD⟩, va_recv hKc hPc (ci := 7) (q0 := 0) rfl rfl, fun U hU hW => ⟨rfl, by rw [hU], Nat.le_trans hn0 hS.1, GW.go hW hU hG (fun q hq hA9 => hS.2.1 q hq (fun h => hA9 (hA0 q h))), by rw [hU]; exact hPc, va_K.moved hW.alike hKc, hDc.weaken (fun _ _ _ h => hA0 _ h)⟩⟩ rfl rfl hl.1 rfl (lv_room (Nat.le_of_ble_eq_true rfl)) dX7_takeWhole_62 ⟨Nat.le_of_ble_eq_true rfl, Nat.le_of_ble_eq_true rfl⟩) hS (fun q _ h => hFc q h) hFc (fun u t H1 locs ht hvm hw_34 hB hz1 hk1 hS => ?_)
            obtain ⟨at9_35, tk9_36, ts9_37, tv9_38, hf_39, hf_40, hP1, hK1, hD1⟩ := hB
            rw [ht] at hP1
            obtain ⟨hP, hD⟩ := s3_j (L := [(rd, .inr (7, [.ref rd_tape, .int fd1, .int fa1, .int fp1, .ref bk, .ref rd_names, .ref rd_nameKind, .ref rd_nameNumber, .int (nI nm), .ref rd_knotNames, .int (nI en), .int (nI at9_35), .int tk9_36, .int (nI ts9_37), .long tv9_38])), (rd_tape, .inl (k_rd_tape, 600, .inl f_rd_tape))]) 0 hP hD [0, 1] [] hk1 hFc hP1 hD1 rfl rfl rfl (by decide) (by decide)
            generalize H1 = H at hP hS ⊢
            have htk_41 := xgo htk_13 hf_40
            refine lv_iload hx hb dX7_takeWhole_65 (lv_at hl 0 rfl) ?_
            have hK9 := hK.sub (tys' := [(k_rd_tape, .int)]) [0] rfl
            exact W.iret (v := v_19) hx hb hr (fun t ht hW => ⟨⟨v_19, v_19, rfl, rfl, fa1, fp1, at9_35, tk9_36, ts9_37, tv9_38, (tkE T en (tkE T en a0)), (by omega), (ck_k c_1 c_1 (fLead_w hwd_12 (xwh_t (xS_2 htk_13 c_17) (ev_19.trans (htk_13.2.2.2.2 (xS_2 htk_13 c_17))) (by omega))) htk_41), by rw [ht]; exact hP.sub [0, 1] rfl, va_K.moved hW.alike hK9, hD.sub [0, 1] (by decide) rfl⟩, hS.F ht⟩) hS.2.2 dX7_takeWhole_67
          · skip
            have g_42 : hi.toInt < v_19.toInt := i_nle c_31
            refine lv_aload_n hx hb dX7_takeWhole_52 rfl (lv_at hl 1 rfl) ?_
            refine lv_iconst (v := 4) hx hb dX7_takeWhole_53 (by decide) ?_
            obtain ⟨hPc, hDc, hFc⟩ := s3_c (ws' := [(rd, .inr (7, [.ref rd_tape, .int fd1, .int fa1, .int fp1, .ref bk, .ref rd_names, .ref rd_nameKind, .ref rd_nameNumber, .int (nI nm), .ref rd_knotNames, .int (nI en), .int (nI at9_6), .int tk9_7, .int (nI ts9_8), .long tv9_9]))]) [0] hP hD hS hA rfl (by decide)
            have hKc := hK.sub (tys' := []) [] rfl
            refine va_calli (va_runV (As := [.int 4]) (rest := []) ⟨hx, hb, hml, hown, hts⟩ (d7_miss l dC dI n0 atx H.size rd rd_tape fd1 fa1 fp1 bk rd_names rd_nameKind rd_nameNumber nm rd_knotNames en at9_6 tk9_7 ts9_8 tv9_9 4 ) (cwV 1 hts (gV (fun w h => wM_c h) wd_831 wd_828 wd_830 wd_9 wd_117) rfl rfl rfl (by decide +kernel) ⟨Nat.le_of_ble_eq_true rfl, Nat.le_of_ble_eq_true rfl⟩) ⟨fun a U g mk q => by obtain ⟨q0, q1, q2, qG, qP, qK, qD⟩ := q; exact ⟨q0, q1, q2, GW.blind qG, qP, va_K.moved (u := U) (U := U.calling g mk a) (Vm.Alike.refl U.vm) qK, qD⟩, va_recv hKc hPc (ci := 7) (q0 := 0) rfl rfl, fun U hU hW => ⟨rfl, by rw [hU], Nat.le_trans hn0 hS.1, GW.go hW hU hG (fun q hq hA9 => hS.2.1 q hq (fun h => hA9 (hA0 q h))), by rw [hU]; exact hPc, va_K.moved hW.alike hKc, hDc.weaken (fun _ _ _ h => hA0 _ h)⟩⟩ rfl rfl hl.1 rfl (lv_room (Nat.le_of_ble_eq_true rfl)) dX7_takeWhole_54 ⟨Nat.le_of_ble_eq_true rfl, Nat.le_of_ble_eq_true rfl⟩) hS (fun q _ h => hFc q h) hFc (fun r_43 u t H1 locs ht hvm hw_44 hB hz1 hk1 hS => ?_)
            obtain ⟨fa9_45, fp9_46, hf_47, hf_48, hP1, hK1, hD1⟩ := hB
            rw [ht] at hP1
            obtain ⟨hP, hD⟩ := s3_j (L := [(rd_tape, .inl (k_rd_tape, 600, .inl f_rd_tape)), (rd, .inr (7, [.ref rd_tape, .int fd1, .int fa9_45, .int fp9_46, .ref bk, .ref rd_names, .ref rd_nameKind, .ref rd_nameNumber, .int (nI nm), .ref rd_knotNames, .int (nI en), .int (nI at9_6), .int tk9_7, .int (nI ts9_8), .long tv9_9]))]) 1 hP hD [0] [1] hk1 hFc hP1 hD1 rfl rfl rfl (by decide) (by decide)
            generalize H1 = H at hP hS ⊢
            obtain rfl : r_43 = 0 := hw_44
            have hm_49 := hf_47 c_1
            have hz_50 : ¬ fa9_45 = 0 := by rw [hm_49.1]; decide
            refine lv_pop hx hb dX7_takeWhole_57 rfl ?_
            refine lv_goto (tgt := 65) hx hb dX7_takeWhole_58 (by decide) ?_
            refine lv_iload hx hb dX7_takeWhole_65 (lv_at hl 0 rfl) ?_
            have hK9 := hK.sub (tys' := [(k_rd_tape, .int)]) [0] rfl
            exact W.iret (v := v_19) hx hb hr (fun t ht hW => ⟨⟨v_19, v_19, rfl, rfl, fa9_45, fp9_46, at9_6, tk9_7, ts9_8, tv9_9, (tkE T en a0), (by omega), (ck_e c_1 hm_49 (by decide) (fLead_w hwd_12 (xwh_4 (xS_2 htk_13 c_17) (ev_19.trans (htk_13.2.2.2.2 (xS_2 htk_13 c_17))) (by omega) htk_13.1))), by rw [ht]; exact hP.sub [1, 0] rfl, va_K.moved hW.alike hK9, hD.sub [1, 0] (by decide) rfl⟩, hS.F ht⟩) hS.2.2 dX7_takeWhole_67
      · skip
        have g_51 : tk9_7.toInt ≠ (2 : Int) := i_ne c_17
        refine lv_aload_n hx hb dX7_takeWhole_25 rfl (lv_at hl 0 rfl) ?_
        refine lv_iconst (v := 1) hx hb dX7_takeWhole_26 (by decide) ?_
        obtain ⟨hPc, hDc, hFc⟩ := s3_c (ws' := [(rd, .inr (7, [.ref rd_tape, .int fd1, .int fa1, .int fp1, .ref bk, .ref rd_names, .ref rd_nameKind, .ref rd_nameNumber, .int (nI nm), .ref rd_knotNames, .int (nI en), .int (nI at9_6), .int tk9_7, .int (nI ts9_8), .long tv9_9]))]) [0] hP hD hS hA rfl (by decide)
        have hKc := hK.sub (tys' := []) [] rfl
        refine va_calli (va_runV (As := [.int 1]) (rest := []) ⟨hx, hb, hml, hown, hts⟩ (d7_miss l dC dI n0 atx H.size rd rd_tape fd1 fa1 fp1 bk rd_names rd_nameKind rd_nameNumber nm rd_knotNames en at9_6 tk9_7 ts9_8 tv9_9 1 ) (cwV 1 hts (gV (fun w h => wM_c h) wd_831 wd_828 wd_830 wd_9 wd_117) rfl rfl rfl (by decide +kernel) ⟨Nat.le_of_ble_eq_true rfl, Nat.le_of_ble_eq_true rfl⟩) ⟨fun a U g mk q => by obtain ⟨q0, q1, q2, qG, qP, qK, qD⟩ := q; exact ⟨q0, q1, q2, GW.blind qG, qP, va_K.moved (u := U) (U := U.calling g mk a) (Vm.Alike.refl U.vm) qK, qD⟩, va_recv hKc hPc (ci := 7) (q0 := 0) rfl rfl, fun U hU hW => ⟨rfl, by rw [hU], Nat.le_trans hn0 hS.1, GW.go hW hU hG (fun q hq hA9 => hS.2.1 q hq (fun h => hA9 (hA0 q h))), by rw [hU]; exact hPc, va_K.moved hW.alike hKc, hDc.weaken (fun _ _ _ h => hA0 _ h)⟩⟩ rfl rfl hl.1 rfl (lv_room (Nat.le_of_ble_eq_true rfl)) dX7_takeWhole_27 ⟨Nat.le_of_ble_eq_true rfl, Nat.le_of_ble_eq_true rfl⟩) hS (fun q _ h => hFc q h) hFc (fun r_52 u t H1 locs ht hvm hw_53 hB hz1 hk1 hS => ?_)
        obtain ⟨fa9_54, fp9_55, hf_56, hf_57, hP1, hK1, hD1⟩ := hB
        rw [ht] at hP1
        obtain ⟨hP, hD⟩ := s3_j (L := [(rd_tape, .inl (k_rd_tape, 600, .inl f_rd_tape)), (rd, .inr (7, [.ref rd_tape, .int fd1, .int fa9_54, .int fp9_55, .ref bk, .ref rd_names, .ref rd_nameKind, .ref rd_nameNumber, .int (nI nm), .ref rd_knotNames, .int (nI en), .int (nI at9_6), .int tk9_7, .int (nI ts9_8), .long tv9_9]))]) 1 hP hD [0] [1] hk1 hFc hP1 hD1 rfl rfl rfl (by decide) (by decide)
        generalize H1 = H at hP hS ⊢
        obtain rfl : r_52 = 0 := hw_53
        have hm_58 := hf_56 c_1
        have hz_59 : ¬ fa9_54 = 0 := by rw [hm_58.1]; decide
        refine lv_pop hx hb dX7_takeWhole_30 rfl ?_
        refine lv_iconst (v := 0) hx hb dX7_takeWhole_31 (by decide) ?_
        have hK9 := hK.sub (tys' := [(k_rd_tape, .int)]) [0] rfl
        exact W.iret (v := 0) hx hb hr (fun t ht hW => ⟨⟨0, 0, rfl, rfl, fa9_54, fp9_55, at9_6, tk9_7, ts9_8, tv9_9, (tkE T en a0), (by omega), (ck_e c_1 hm_58 (by decide) (fLead_w hwd_12 (xwh_1 (xN htk_13 c_17) htk_13.1))), by rw [ht]; exact hP.sub [1, 0] rfl, va_K.moved hW.alike hK9, hD.sub [1, 0] (by decide) rfl⟩, hS.F ht⟩) hS.2.2 dX7_takeWhole_32
    · skip
      refine lv_if_eq (tgt := 25) hx hb dX7_takeWhole_14 (by decide) (fun c_60 => ?_) (fun c_60 => ?_)
      · skip
        refine lv_aload_n hx hb dX7_takeWhole_25 rfl (lv_at hl 0 rfl) ?_
        refine lv_iconst (v := 1) hx hb dX7_takeWhole_26 (by decide) ?_
        obtain ⟨hPc, hDc, hFc⟩ := s3_c (ws' := [(rd, .inr (7, [.ref rd_tape, .int fd1, .int fa1, .int fp1, .ref bk, .ref rd_names, .ref rd_nameKind, .ref rd_nameNumber, .int (nI nm), .ref rd_knotNames, .int (nI en), .int (nI at9_6), .int tk9_7, .int (nI ts9_8), .long tv9_9]))]) [0] hP hD hS hA rfl (by decide)
        have hKc := hK.sub (tys' := []) [] rfl
        refine va_calli (va_runV (As := [.int 1]) (rest := []) ⟨hx, hb, hml, hown, hts⟩ (d7_miss l dC dI n0 atx H.size rd rd_tape fd1 fa1 fp1 bk rd_names rd_nameKind rd_nameNumber nm rd_knotNames en at9_6 tk9_7 ts9_8 tv9_9 1 ) (cwV 1 hts (gV (fun w h => wM_c h) wd_831 wd_828 wd_830 wd_9 wd_117) rfl rfl rfl (by decide +kernel) ⟨Nat.le_of_ble_eq_true rfl, Nat.le_of_ble_eq_true rfl⟩) ⟨fun a U g mk q => by obtain ⟨q0, q1, q2, qG, qP, qK, qD⟩ := q; exact ⟨q0, q1, q2, GW.blind qG, qP, va_K.moved (u := U) (U := U.calling g mk a) (Vm.Alike.refl U.vm) qK, qD⟩, va_recv hKc hPc (ci := 7) (q0 := 0) rfl rfl, fun U hU hW => ⟨rfl, by rw [hU], Nat.le_trans hn0 hS.1, GW.go hW hU hG (fun q hq hA9 => hS.2.1 q hq (fun h => hA9 (hA0 q h))), by rw [hU]; exact hPc, va_K.moved hW.alike hKc, hDc.weaken (fun _ _ _ h => hA0 _ h)⟩⟩ rfl rfl hl.1 rfl (lv_room (Nat.le_of_ble_eq_true rfl)) dX7_takeWhole_27 ⟨Nat.le_of_ble_eq_true rfl, Nat.le_of_ble_eq_true rfl⟩) hS (fun q _ h => hFc q h) hFc (fun r_61 u t H1 locs ht hvm hw_62 hB hz1 hk1 hS => ?_)
        obtain ⟨fa9_63, fp9_64, hf_65, hf_66, hP1, hK1, hD1⟩ := hB
        rw [ht] at hP1
        obtain ⟨hP, hD⟩ := s3_j (L := [(rd_tape, .inl (k_rd_tape, 600, .inl f_rd_tape)), (rd, .inr (7, [.ref rd_tape, .int fd1, .int fa9_63, .int fp9_64, .ref bk, .ref rd_names, .ref rd_nameKind, .ref rd_nameNumber, .int (nI nm), .ref rd_knotNames, .int (nI en), .int (nI at9_6), .int tk9_7, .int (nI ts9_8), .long tv9_9]))]) 1 hP hD [0] [1] hk1 hFc hP1 hD1 rfl rfl rfl (by decide) (by decide)
        generalize H1 = H at hP hS ⊢
        obtain rfl : r_61 = 0 := hw_62
        have hm_67 := hf_65 c_1
        have hz_68 : ¬ fa9_63 = 0 := by rw [hm_67.1]; decide
        refine lv_pop hx hb dX7_takeWhole_30 rfl ?_
        refine lv_iconst (v := 0) hx hb dX7_takeWhole_31 (by decide) ?_
        have hK9 := hK.sub (tys' := [(k_rd_tape, .int)]) [0] rfl
        exact W.iret (v := 0) hx hb hr (fun t ht hW => ⟨⟨0, 0, rfl, rfl, fa9_63, fp9_64, at9_6, tk9_7, ts9_8, tv9_9, a0, (by omega), (ck_e c_1 hm_67 (by decide) (fLead_1 hwd_14 htk_15.1)), by rw [ht]; exact hP.sub [1, 0] rfl, va_K.moved hW.alike hK9, hD.sub [1, 0] (by decide) rfl⟩, hS.F ht⟩) hS.2.2 dX7_takeWhole_32
      · exact absurd c_60 (by decide)
  · skip
    have g_69 : fa1.toInt ≠ (0 : Int) := i_ne c_1
    refine lv_iconst (v := 0) hx hb dX7_takeWhole_7 (by decide) ?_
    have hK9 := hK.sub (tys' := [(k_rd_tape, .int)]) [0] rfl
    exact W.iret (v := 0) hx hb hr (fun t ht hW => ⟨⟨0, 0, rfl, rfl, fa1, fp1, at1, tk1, ts1, tv1, 0, (by omega), (ck_a c_1), by rw [ht]; exact hP.sub [0, 1] rfl, va_K.moved hW.alike hK9, hD.sub [0, 1] (by decide) rfl⟩, hS.F ht⟩) hS.2.2 dX7_takeWhole_8
set_option maxHeartbeats 4000000 in
set_option maxRecDepth 100000 in
theorem d7_takeDraught (l : Launch) (dC : Nat → ClassId) (dI : Nat → Nat → Nat) (n0 : Nat) (atx : Nat → Nat × Nat) (sz : Nat) (rd : Nat) (rd_tape : Nat) (fd1 : Int32) (fa1 : Int32) (fp1 : Int32) (bk : Nat) (rd_names : Nat) (rd_nameKind : Nat) (rd_nameNumber : Nat) (nm : Nat) (rd_knotNames : Nat) (en : Nat) (at1 : Nat) (tk1 : Int32) (ts1 : Nat) (tv1 : Int64) (k_rd_tape : ClassId) (f_rd_tape : Nat → Int32) (T : Nat → Int32) (a0 : Nat) (h_en : en ≤ 600) (h_at : at1 ≤ en) (hT : ∀ k, k < en → f_rd_tape k = T k) (h_tok : fa1 = 0 → xTk T en a0 ts1 at1 tk1 tv1) : Met l yX7_takeDraught (wM yX7_takeDraught cX7_takeDraught 3 (some .int)) ({ frames := 6, cells := 0, slots := 0, locals := 129 }) (va_Pc [.ref rd] (fun U => U.heap.size = sz ∧ n0 ≤ sz ∧ GW n0 atx U ∧ va_P (dC, dI) classes [(rd, .inr (7, [.ref rd_tape, .int fd1, .int fa1, .int fp1, .ref bk, .ref rd_names, .ref rd_nameKind, .ref rd_nameNumber, .int (nI nm), .ref rd_knotNames, .int (nI en), .int (nI at1), .int tk1, .int (nI ts1), .long tv1])), (rd_tape, .inl (k_rd_tape, 600, .inl f_rd_tape))] U.heap ∧ va_K (dC, dI) classes [(k_rd_tape, .int)] U ∧ va_D (fun q => n0 ≤ q) [(rd, .inr (7, [.ref rd_tape, .int fd1, .int fa1, .int fp1, .ref bk, .ref rd_names, .ref rd_nameKind, .ref rd_nameNumber, .int (nI nm), .ref rd_knotNames, .int (nI en), .int (nI at1), .int tk1, .int (nI ts1), .long tv1])), (rd_tape, .inl (k_rd_tape, 600, .inl f_rd_tape))])) (va_Qi (fun (r : Int32) (rd9 : Int32) => r = rd9) (fun (rd9 : Int32) (t : State) => ∃ (fa9 : Int32), ∃ (fp9 : Int32), ∃ (at9 : Nat), ∃ (tk9 : Int32), ∃ (ts9 : Nat), ∃ (tv9 : Int64), ∃ (ps9 : Nat), (at9 ≤ en) ∧ (CK fa1 fp1 fa9 fp9 (fDraught T en a0) (ps9, rd9) (xTk T en ps9 ts9 at9 tk9 tv9)) ∧ va_P (dC, dI) classes [(rd, .inr (7, [.ref rd_tape, .int fd1, .int fa9, .int fp9, .ref bk, .ref rd_names, .ref rd_nameKind, .ref rd_nameNumber, .int (nI nm), .ref rd_knotNames, .int (nI en), .int (nI at9), .int tk9, .int (nI ts9), .long tv9])), (rd_tape, .inl (k_rd_tape, 600, .inl f_rd_tape))] t.heap ∧ va_K (dC, dI) classes [(k_rd_tape, .int)] t ∧ va_D (va_A [(rd, .inr (7, [.ref rd_tape, .int fd1, .int fa1, .int fp1, .ref bk, .ref rd_names, .ref rd_nameKind, .ref rd_nameNumber, .int (nI nm), .ref rd_knotNames, .int (nI en), .int (nI at1), .int tk1, .int (nI ts1), .long tv1])), (rd_tape, .inl (k_rd_tape, 600, .inl f_rd_tape))] sz) [(rd, .inr (7, [.ref rd_tape, .int fd1, .int fa9, .int fp9, .ref bk, .ref rd_names, .ref rd_nameKind, .ref rd_nameNumber, .int (nI nm), .ref rd_knotNames, .int (nI en), .int (nI at9), .int tk9, .int (nI ts9), .long tv9])), (rd_tape, .inl (k_rd_tape, 600, .inl f_rd_tape))]) (va_A [(rd, .inr (7, [.ref rd_tape, .int fd1, .int fa1, .int fp1, .ref bk, .ref rd_names, .ref rd_nameKind, .ref rd_nameNumber, .int (nI nm), .ref rd_knotNames, .int (nI en), .int (nI at1), .int tk1, .int (nI ts1), .long tv1])), (rd_tape, .inl (k_rd_tape, 600, .inl f_rd_tape))] sz)) 0 0 (va_A [(rd, .inr (7, [.ref rd_tape, .int fd1, .int fa1, .int fp1, .ref bk, .ref rd_names, .ref rd_nameKind, .ref rd_nameNumber, .int (nI nm), .ref rd_knotNames, .int (nI en), .int (nI at1), .int tk1, .int (nI ts1), .long tv1])), (rd_tape, .inl (k_rd_tape, 600, .inl f_rd_tape))] sz) := by
  refine Met.ofW (cc := cX7_takeDraught) (maxL := 3) (ret := (some .int)) (by decide) rfl ?_
  intro p e s m args below meth c s₁ B hml hv
  obtain ⟨rfl, hsz, hn0, hG, hP, hK, hD0⟩ := hv
  have hx := B.exec
  have hb := B.bytes
  have hr := B.returns
  have hts := atoms_spec (ws := wM yX7_takeDraught cX7_takeDraught 3 (some .int)) B.pre
  have hown : s.vm.findClass RX7 = some m.cls := findClass_of_methodNamed B.named
  have hlocks := B.notSynchronized
  subst hsz
  have hD := hD0.self (sz := s.heap.size)
  have hA0 := vA_n0 hD0 hn0
  generalize hAe : va_A [(rd, .inr (7, [.ref rd_tape, .int fd1, .int fa1, .int fp1, .ref bk, .ref rd_names, .ref rd_nameKind, .ref rd_nameNumber, .int (nI nm), .ref rd_knotNames, .int (nI en), .int (nI at1), .int tk1, .int (nI ts1), .long tv1])), (rd_tape, .inl (k_rd_tape, 600, .inl f_rd_tape))] s.heap.size = A at hD hA0 ⊢
  have hA : ∀ q : Nat, s.heap.size ≤ q → A q := fun q h => by rw [← hAe]; exact Or.inr h
  have hS : va_S A s.heap s.heap [] := va_S.rf
  have hl := lv_entry ([.ref rd]) (n := 3) (Nat.le_of_ble_eq_true rfl)
  rw [lg_entry_eq]
  generalize (lg_sl ([.ref rd]) ++ List.replicate (3 - (lg_sl ([.ref rd])).length) Slot.unset).toArray = ls at hl ⊢
  have hl : lv_has ls 3 [(0, .ref rd)] := hl
  refine lv_aload_n hx hb dX7_takeDraught_0 rfl (lv_at hl 0 rfl) ?_
  refine va_get (D := (dC, dI)) (ci := 7) (v := .int fa1) (C := RX7) (T := TX7) (N := 15) hx hb hts (fun w h => wM_c (iX7 w h)) hown hK hP 0 rfl rfl 2 (by decide) (hts _ (wM_c wd_337)) (fun _ h9 => h9) rfl dX7_takeDraught_1 ?_
  refine lv_if_ne (tgt := 16) hx hb dX7_takeDraught_4 (by decide) (fun c_1 => ?_) (fun c_1 => ?_)
  · skip
    have g_2 : fa1.toInt ≠ (0 : Int) := i_ne c_1
    refine lv_iconst (v := 0) hx hb dX7_takeDraught_16 (by decide) ?_
    have hK9 := hK.sub (tys' := [(k_rd_tape, .int)]) [0] rfl
    exact W.iret (v := 0) hx hb hr (fun t ht hW => ⟨⟨0, 0, rfl, rfl, fa1, fp1, at1, tk1, ts1, tv1, 0, (by omega), (ck_a c_1), by rw [ht]; exact hP.sub [0, 1] rfl, va_K.moved hW.alike hK9, hD.sub [0, 1] (by decide) rfl⟩, hS.F ht⟩) hS.2.2 dX7_takeDraught_17
  · skip
    have g_3 : fa1.toInt = (0 : Int) := i_eq c_1
    have htk_4 := h_tok c_1
    refine lv_aload_n hx hb dX7_takeDraught_7 rfl (lv_at hl 0 rfl) ?_
    refine va_ldcS (q := (atx 9).1) hx hb hown (hG.t 9 (q := ("MineAir$Reader", 237, "draught", _)) rfl) dX7_takeDraught_8 ?_
    obtain ⟨hPc, hDc, hFc⟩ := s3_c (ws' := [(rd, .inr (7, [.ref rd_tape, .int fd1, .int fa1, .int fp1, .ref bk, .ref rd_names, .ref rd_nameKind, .ref rd_nameNumber, .int (nI nm), .ref rd_knotNames, .int (nI en), .int (nI at1), .int tk1, .int (nI ts1), .long tv1]))]) [0] hP hD hS hA rfl (by decide)
    have hKc := hK.sub (tys' := []) [] rfl
    refine va_calli (va_runV (As := [.ref (atx 9).1]) (rest := []) ⟨hx, hb, hml, hown, hts⟩ (d7_isWord l dC dI n0 atx s.heap.size rd rd_tape fd1 fa1 fp1 bk rd_names rd_nameKind rd_nameNumber nm rd_knotNames en at1 tk1 ts1 tv1 9 (by first | with_reducible assumption | omega | exact vp_in_iff.mpr (by omega) | exact vp_in_nI (by omega) (by omega) | exact ⟨by omega, by omega⟩) ltx_9) (cwV 1 hts (gV (fun w h => wM_c h) wd_760 wd_757 wd_759 wd_5 wd_117) rfl rfl rfl (by decide +kernel) ⟨Nat.le_of_ble_eq_true rfl, Nat.le_of_ble_eq_true rfl⟩) ⟨fun a U g mk q => by obtain ⟨q0, q1, q2, qG, qP, qK, qD⟩ := q; exact ⟨q0, q1, q2, GW.blind qG, qP, va_K.moved (u := U) (U := U.calling g mk a) (Vm.Alike.refl U.vm) qK, qD⟩, va_recv hKc hPc (ci := 7) (q0 := 0) rfl rfl, fun U hU hW => ⟨rfl, by rw [hU], Nat.le_trans hn0 hS.1, GW.go hW hU hG (fun q hq hA9 => hS.2.1 q hq (fun h => hA9 (hA0 q h))), by rw [hU]; exact hPc, va_K.moved hW.alike hKc, hDc.weaken (fun _ _ _ h => hA0 _ h)⟩⟩ rfl rfl hl.1 rfl (lv_room (Nat.le_of_ble_eq_true rfl)) dX7_takeDraught_10 ⟨Nat.le_of_ble_eq_true rfl, Nat.le_of_ble_eq_true rfl⟩) hS (fun q _ h => hFc q h) hFc (fun r_5 u t H1 locs ht hvm hw_6 hB hz1 hk1 hS => ?_)
    obtain ⟨hP1, hK1, hD1⟩ := hB
    rw [ht] at hP1
    obtain ⟨hP, hD⟩ := s3_j (L := [(rd_tape, .inl (k_rd_tape, 600, .inl f_rd_tape)), (rd, .inr (7, [.ref rd_tape, .int fd1, .int fa1, .int fp1, .ref bk, .ref rd_names, .ref rd_nameKind, .ref rd_nameNumber, .int (nI nm), .ref rd_knotNames, .int (nI en), .int (nI at1), .int tk1, .int (nI ts1), .long tv1]))]) 1 hP hD [0] [1] hk1 hFc hP1 hD1 rfl rfl rfl (by decide) (by decide)
    generalize H1 = H at hP hS ⊢
    rcases hw_6 with ⟨rfl, s_7, s_8⟩ | ⟨rfl, s_9⟩
    · skip
      have hdw_10 : isWd T en a0 4900691220 = true := xw_t htk_4 s_7 (s_8.trans wn_9)
      refine lv_if_ne (tgt := 18) hx hb dX7_takeDraught_13 (by decide) (fun c_11 => ?_) (fun c_11 => ?_)
      · skip
        refine lv_aload_n hx hb dX7_takeDraught_18 rfl (lv_at hl 0 rfl) ?_
        obtain ⟨hPc, hDc, hFc⟩ := s3_c (ws' := [(rd, .inr (7, [.ref rd_tape, .int fd1, .int fa1, .int fp1, .ref bk, .ref rd_names, .ref rd_nameKind, .ref rd_nameNumber, .int (nI nm), .ref rd_knotNames, .int (nI en), .int (nI at1), .int tk1, .int (nI ts1), .long tv1])), (rd_tape, .inl (k_rd_tape, 600, .inl f_rd_tape))]) [1, 0] hP hD hS hA rfl (by decide)
        have hKc := hK.sub (tys' := [(k_rd_tape, .int)]) [0] rfl
        refine va_callv (va_runV (As := []) (rest := []) ⟨hx, hb, hml, hown, hts⟩ (d7_next l dC dI n0 atx H.size rd rd_tape fd1 fa1 fp1 bk rd_names rd_nameKind rd_nameNumber nm rd_knotNames en at1 tk1 (nI ts1) tv1 k_rd_tape f_rd_tape T (by first | with_reducible assumption | omega | exact vp_in_iff.mpr (by omega) | exact vp_in_nI (by omega) (by omega) | exact ⟨by omega, by omega⟩) (by first | with_reducible assumption | omega | exact vp_in_iff.mpr (by omega) | exact vp_in_nI (by omega) (by omega) | exact ⟨by omega, by omega⟩) (by first | with_reducible assumption | omega | exact vp_in_iff.mpr (by omega) | exact vp_in_nI (by omega) (by omega) | exact ⟨by omega, by omega⟩)) (cwV 0 hts (gV (fun w h => wM_c h) wd_735 wd_732 wd_734 wd_1 wd_117) rfl rfl rfl (by decide +kernel) ⟨Nat.le_of_ble_eq_true rfl, Nat.le_of_ble_eq_true rfl⟩) ⟨fun a U g mk q => by obtain ⟨q0, q1, q2, qG, qP, qK, qD⟩ := q; exact ⟨q0, q1, q2, GW.blind qG, qP, va_K.moved (u := U) (U := U.calling g mk a) (Vm.Alike.refl U.vm) qK, qD⟩, va_recv hKc hPc (ci := 7) (q0 := 0) rfl rfl, fun U hU hW => ⟨rfl, by rw [hU], Nat.le_trans hn0 hS.1, GW.go hW hU hG (fun q hq hA9 => hS.2.1 q hq (fun h => hA9 (hA0 q h))), by rw [hU]; exact hPc, va_K.moved hW.alike hKc, hDc.weaken (fun _ _ _ h => hA0 _ h)⟩⟩ rfl rfl hl.1 rfl (lv_room (Nat.le_of_ble_eq_true rfl)) dX7_takeDraught_19 ⟨Nat.le_of_ble_eq_true rfl, Nat.le_of_ble_eq_true rfl⟩) hS (fun q _ h => hFc q h) hFc (fun u t H1 locs ht hvm hw_13 hB hz1 hk1 hS => ?_)
        obtain ⟨at9_14, tk9_15, ts9_16, tv9_17, hf_18, hf_19, hP1, hK1, hD1⟩ := hB
        rw [ht] at hP1
        obtain ⟨hP, hD⟩ := s3_j (L := [(rd, .inr (7, [.ref rd_tape, .int fd1, .int fa1, .int fp1, .ref bk, .ref rd_names, .ref rd_nameKind, .ref rd_nameNumber, .int (nI nm), .ref rd_knotNames, .int (nI en), .int (nI at9_14), .int tk9_15, .int (nI ts9_16), .long tv9_17])), (rd_tape, .inl (k_rd_tape, 600, .inl f_rd_tape))]) 0 hP hD [1, 0] [] hk1 hFc hP1 hD1 rfl rfl rfl (by decide) (by decide)
        generalize H1 = H at hP hS ⊢
        have htk_20 := xgo htk_4 hf_19
        refine lv_aload_n hx hb dX7_takeDraught_22 rfl (lv_at hl 0 rfl) ?_
        refine va_get (D := (dC, dI)) (ci := 7) (v := .int tk9_15) (C := RX7) (T := TX7) (N := 15) hx hb hts (fun w h => wM_c (iX7 w h)) hown hK hP 0 rfl rfl 12 (by decide) (hts _ (wM_c wd_348)) (fun _ h9 => h9) rfl dX7_takeDraught_23 ?_
        refine lv_iconst (v := 4) hx hb dX7_takeDraught_26 (by decide) ?_
        refine lv_icmp_ne (tgt := 34) hx hb dX7_takeDraught_27 (by decide) (fun c_21 => ?_) (fun c_21 => ?_)
        · skip
          have g_22 : tk9_15.toInt ≠ (4 : Int) := i_ne c_21
          have hds_23 := xN htk_20 (c := 4) c_21
          refine lv_iconst (v := 0) hx hb dX7_takeDraught_34 (by decide) ?_
          refine lv_istore_n (lv' := [(1, .int 0), (0, .ref rd)]) hx hb dX7_takeDraught_35 rfl hl (by decide) rfl (fun ls hl => ?_)
          refine lv_iload_n hx hb dX7_takeDraught_36 rfl (lv_at hl 0 rfl) ?_
          refine lv_if_eq (tgt := 44) hx hb dX7_takeDraught_37 (by decide) (fun c_24 => ?_) (fun c_24 => ?_)
          · skip
            refine lv_aload_n hx hb dX7_takeDraught_44 rfl (lv_at hl 1 rfl) ?_
            refine va_get (D := (dC, dI)) (ci := 7) (v := .int tk9_15) (C := RX7) (T := TX7) (N := 15) hx hb hts (fun w h => wM_c (iX7 w h)) hown hK hP 0 rfl rfl 12 (by decide) (hts _ (wM_c wd_348)) (fun _ h9 => h9) rfl dX7_takeDraught_45 ?_
            refine lv_iconst (v := 2) hx hb dX7_takeDraught_48 (by decide) ?_
            refine lv_icmp_eq (tgt := 60) hx hb dX7_takeDraught_49 (by decide) (fun c_25 => ?_) (fun c_25 => ?_)
            · skip
              have g_26 : tk9_15.toInt = (2 : Int) := i_eq c_25
              have h2_27 := xS_2 htk_20 c_25
              refine lv_aload_n hx hb dX7_takeDraught_60 rfl (lv_at hl 1 rfl) ?_
              refine va_get (D := (dC, dI)) (ci := 7) (v := .long tv9_17) (C := RX7) (T := TX7) (N := 15) hx hb hts (fun w h => wM_c (iX7 w h)) hown hK hP 0 rfl rfl 14 (by decide) (hts _ (wM_c wd_350)) (fun _ h9 => h9) rfl dX7_takeDraught_61 ?_
              refine lv_l2i hx hb dX7_takeDraught_64 rfl ?_
              refine lv_topi (fun v_28 ev_28 => ?_)
              refine lv_istore_n (lv' := [(2, .int v_28), (1, .int 0), (0, .ref rd)]) hx hb dX7_takeDraught_65 rfl hl (by decide) rfl (fun ls hl => ?_)
              have hu_29 := ev_28.trans (htk_20.2.2.2.2 h2_27)
              have hge9 : 0 ≤ v_28.toInt := by rw [hu_29]; exact tkN_ge h2_27
              have z0q : (0 : Int32).toInt = 0 := rfl
              have z5q : (5000 : Int32).toInt = 5000 := rfl
              refine lv_iload_n hx hb dX7_takeDraught_66 rfl (lv_at hl 0 rfl) ?_
              refine lv_sipush (v := 5000) hx hb dX7_takeDraught_67 (by decide) ?_
              refine lv_icmp_le (tgt := 82) hx hb dX7_takeDraught_70 (by decide) (fun c_30 => ?_) (fun c_30 => ?_)
              · skip
                have g_31 : v_28.toInt ≤ (5000 : Int) := i_le c_30
                refine lv_aload_n hx hb dX7_takeDraught_82 rfl (lv_at hl 2 rfl) ?_
                obtain ⟨hPc, hDc, hFc⟩ := s3_c (ws' := [(rd, .inr (7, [.ref rd_tape, .int fd1, .int fa1, .int fp1, .ref bk, .ref rd_names, .ref rd_nameKind, .ref rd_nameNumber, .int (nI nm), .ref rd_knotNames, .int (nI en), .int (nI at9_14), .int tk9_15, .int (nI ts9_16), .long tv9_17])), (rd_tape, .inl (k_rd_tape, 600, .inl f_rd_tape))]) [0, 1] hP hD hS hA rfl (by decide)
                have hKc := hK.sub (tys' := [(k_rd_tape, .int)]) [0] rfl
                refine va_callv (va_runV (As := []) (rest := []) ⟨hx, hb, hml, hown, hts⟩ (d7_next l dC dI n0 atx H.size rd rd_tape fd1 fa1 fp1 bk rd_names rd_nameKind rd_nameNumber nm rd_knotNames en at9_14 tk9_15 (nI ts9_16) tv9_17 k_rd_tape f_rd_tape T (by first | with_reducible assumption | omega | exact vp_in_iff.mpr (by omega) | exact vp_in_nI (by omega) (by omega) | exact ⟨by omega, by omega⟩) (by first | with_reducible assumption | omega | exact vp_in_iff.mpr (by omega) | exact vp_in_nI (by omega) (by omega) | exact ⟨by omega, by omega⟩) (by first | with_reducible assumption | omega | exact vp_in_iff.mpr (by omega) | exact vp_in_nI (by omega) (by omega) | exact ⟨by omega, by omega⟩)) (cwV 0 hts (gV (fun w h => wM_c h) wd_735 wd_732 wd_734 wd_1 wd_117) rfl rfl rfl (by decide +kernel) ⟨Nat.le_of_ble_eq_true rfl, Nat.le_of_ble_eq_true rfl⟩) ⟨fun a U g mk q => by obtain ⟨q0, q1, q2, qG, qP, qK, qD⟩ := q; exact ⟨q0, q1, q2, GW.blind qG, qP, va_K.moved (u := U) (U := U.calling g mk a) (Vm.Alike.refl U.vm) qK, qD⟩, va_recv hKc hPc (ci := 7) (q0 := 0) rfl rfl, fun U hU hW => ⟨rfl, by rw [hU], Nat.le_trans hn0 hS.1, GW.go hW hU hG (fun q hq hA9 => hS.2.1 q hq (fun h => hA9 (hA0 q h))), by rw [hU]; exact hPc, va_K.moved hW.alike hKc, hDc.weaken (fun _ _ _ h => hA0 _ h)⟩⟩ rfl rfl hl.1 rfl (lv_room (Nat.le_of_ble_eq_true rfl)) dX7_takeDraught_83 ⟨Nat.le_of_ble_eq_true rfl, Nat.le_of_ble_eq_true rfl⟩) hS (fun q _ h => hFc q h) hFc (fun u t H1 locs ht hvm hw_33 hB hz1 hk1 hS => ?_)
                obtain ⟨at9_34, tk9_35, ts9_36, tv9_37, hf_38, hf_39, hP1, hK1, hD1⟩ := hB
                rw [ht] at hP1
                obtain ⟨hP, hD⟩ := s3_j (L := [(rd, .inr (7, [.ref rd_tape, .int fd1, .int fa1, .int fp1, .ref bk, .ref rd_names, .ref rd_nameKind, .ref rd_nameNumber, .int (nI nm), .ref rd_knotNames, .int (nI en), .int (nI at9_34), .int tk9_35, .int (nI ts9_36), .long tv9_37])), (rd_tape, .inl (k_rd_tape, 600, .inl f_rd_tape))]) 0 hP hD [0, 1] [] hk1 hFc hP1 hD1 rfl rfl rfl (by decide) (by decide)
                generalize H1 = H at hP hS ⊢
                have htk_40 := xgo htk_20 hf_39
                refine lv_iload_n hx hb dX7_takeDraught_86 rfl (lv_at hl 1 rfl) ?_
                refine lv_if_eq (tgt := 95) hx hb dX7_takeDraught_87 (by decide) (fun c_41 => ?_) (fun c_41 => ?_)
                · skip
                  refine lv_iload_n hx hb dX7_takeDraught_95 rfl (lv_at hl 0 rfl) ?_
                  have hK9 := hK.sub (tys' := [(k_rd_tape, .int)]) [0] rfl
                  exact W.iret (v := v_28) hx hb hr (fun t ht hW => ⟨⟨v_28, v_28, rfl, rfl, fa1, fp1, at9_34, tk9_35, ts9_36, tv9_37, (tkE T en (tkE T en a0)), (by omega), (ck_k c_1 c_1 (dr_p hdw_10 hds_23 (xwh_t h2_27 hu_29 (by omega))) htk_40), by rw [ht]; exact hP.sub [0, 1] rfl, va_K.moved hW.alike hK9, hD.sub [0, 1] (by decide) rfl⟩, hS.F ht⟩) hS.2.2 dX7_takeDraught_96
                · exact absurd c_41 (by decide)
              · skip
                have g_42 : (5000 : Int) < v_28.toInt := i_nle c_30
                refine lv_aload_n hx hb dX7_takeDraught_73 rfl (lv_at hl 2 rfl) ?_
                refine lv_iconst (v := 4) hx hb dX7_takeDraught_74 (by decide) ?_
                obtain ⟨hPc, hDc, hFc⟩ := s3_c (ws' := [(rd, .inr (7, [.ref rd_tape, .int fd1, .int fa1, .int fp1, .ref bk, .ref rd_names, .ref rd_nameKind, .ref rd_nameNumber, .int (nI nm), .ref rd_knotNames, .int (nI en), .int (nI at9_14), .int tk9_15, .int (nI ts9_16), .long tv9_17]))]) [0] hP hD hS hA rfl (by decide)
                have hKc := hK.sub (tys' := []) [] rfl
                refine va_calli (va_runV (As := [.int 4]) (rest := []) ⟨hx, hb, hml, hown, hts⟩ (d7_miss l dC dI n0 atx H.size rd rd_tape fd1 fa1 fp1 bk rd_names rd_nameKind rd_nameNumber nm rd_knotNames en at9_14 tk9_15 ts9_16 tv9_17 4 ) (cwV 1 hts (gV (fun w h => wM_c h) wd_831 wd_828 wd_830 wd_9 wd_117) rfl rfl rfl (by decide +kernel) ⟨Nat.le_of_ble_eq_true rfl, Nat.le_of_ble_eq_true rfl⟩) ⟨fun a U g mk q => by obtain ⟨q0, q1, q2, qG, qP, qK, qD⟩ := q; exact ⟨q0, q1, q2, GW.blind qG, qP, va_K.moved (u := U) (U := U.calling g mk a) (Vm.Alike.refl U.vm) qK, qD⟩, va_recv hKc hPc (ci := 7) (q0 := 0) rfl rfl, fun U hU hW => ⟨rfl, by rw [hU], Nat.le_trans hn0 hS.1, GW.go hW hU hG (fun q hq hA9 => hS.2.1 q hq (fun h => hA9 (hA0 q h))), by rw [hU]; exact hPc, va_K.moved hW.alike hKc, hDc.weaken (fun _ _ _ h => hA0 _ h)⟩⟩ rfl rfl hl.1 rfl (lv_room (Nat.le_of_ble_eq_true rfl)) dX7_takeDraught_75 ⟨Nat.le_of_ble_eq_true rfl, Nat.le_of_ble_eq_true rfl⟩) hS (fun q _ h => hFc q h) hFc (fun r_43 u t H1 locs ht hvm hw_44 hB hz1 hk1 hS => ?_)
                obtain ⟨fa9_45, fp9_46, hf_47, hf_48, hP1, hK1, hD1⟩ := hB
                rw [ht] at hP1
                obtain ⟨hP, hD⟩ := s3_j (L := [(rd_tape, .inl (k_rd_tape, 600, .inl f_rd_tape)), (rd, .inr (7, [.ref rd_tape, .int fd1, .int fa9_45, .int fp9_46, .ref bk, .ref rd_names, .ref rd_nameKind, .ref rd_nameNumber, .int (nI nm), .ref rd_knotNames, .int (nI en), .int (nI at9_14), .int tk9_15, .int (nI ts9_16), .long tv9_17]))]) 1 hP hD [0] [1] hk1 hFc hP1 hD1 rfl rfl rfl (by decide) (by decide)
                generalize H1 = H at hP hS ⊢
                obtain rfl : r_43 = 0 := hw_44
                have hm_49 := hf_47 c_1
                have hz_50 : ¬ fa9_45 = 0 := by rw [hm_49.1]; decide
                refine lv_pop hx hb dX7_takeDraught_78 rfl ?_
                refine lv_goto (tgt := 86) hx hb dX7_takeDraught_79 (by decide) ?_
                refine lv_iload_n hx hb dX7_takeDraught_86 rfl (lv_at hl 1 rfl) ?_
                refine lv_if_eq (tgt := 95) hx hb dX7_takeDraught_87 (by decide) (fun c_51 => ?_) (fun c_51 => ?_)
                · skip
                  refine lv_iload_n hx hb dX7_takeDraught_95 rfl (lv_at hl 0 rfl) ?_
                  have hK9 := hK.sub (tys' := [(k_rd_tape, .int)]) [0] rfl
                  exact W.iret (v := v_28) hx hb hr (fun t ht hW => ⟨⟨v_28, v_28, rfl, rfl, fa9_45, fp9_46, at9_14, tk9_15, ts9_16, tv9_17, (tkE T en a0), (by omega), (ck_e c_1 hm_49 (by decide) (dr_p hdw_10 hds_23 (xwh_4 h2_27 hu_29 (by omega) htk_20.1))), by rw [ht]; exact hP.sub [1, 0] rfl, va_K.moved hW.alike hK9, hD.sub [1, 0] (by decide) rfl⟩, hS.F ht⟩) hS.2.2 dX7_takeDraught_96
                · exact absurd c_51 (by decide)
            · skip
              have g_52 : tk9_15.toInt ≠ (2 : Int) := i_ne c_25
              refine lv_aload_n hx hb dX7_takeDraught_52 rfl (lv_at hl 1 rfl) ?_
              refine lv_iconst (v := 1) hx hb dX7_takeDraught_53 (by decide) ?_
              obtain ⟨hPc, hDc, hFc⟩ := s3_c (ws' := [(rd, .inr (7, [.ref rd_tape, .int fd1, .int fa1, .int fp1, .ref bk, .ref rd_names, .ref rd_nameKind, .ref rd_nameNumber, .int (nI nm), .ref rd_knotNames, .int (nI en), .int (nI at9_14), .int tk9_15, .int (nI ts9_16), .long tv9_17]))]) [0] hP hD hS hA rfl (by decide)
              have hKc := hK.sub (tys' := []) [] rfl
              refine va_calli (va_runV (As := [.int 1]) (rest := []) ⟨hx, hb, hml, hown, hts⟩ (d7_miss l dC dI n0 atx H.size rd rd_tape fd1 fa1 fp1 bk rd_names rd_nameKind rd_nameNumber nm rd_knotNames en at9_14 tk9_15 ts9_16 tv9_17 1 ) (cwV 1 hts (gV (fun w h => wM_c h) wd_831 wd_828 wd_830 wd_9 wd_117) rfl rfl rfl (by decide +kernel) ⟨Nat.le_of_ble_eq_true rfl, Nat.le_of_ble_eq_true rfl⟩) ⟨fun a U g mk q => by obtain ⟨q0, q1, q2, qG, qP, qK, qD⟩ := q; exact ⟨q0, q1, q2, GW.blind qG, qP, va_K.moved (u := U) (U := U.calling g mk a) (Vm.Alike.refl U.vm) qK, qD⟩, va_recv hKc hPc (ci := 7) (q0 := 0) rfl rfl, fun U hU hW => ⟨rfl, by rw [hU], Nat.le_trans hn0 hS.1, GW.go hW hU hG (fun q hq hA9 => hS.2.1 q hq (fun h => hA9 (hA0 q h))), by rw [hU]; exact hPc, va_K.moved hW.alike hKc, hDc.weaken (fun _ _ _ h => hA0 _ h)⟩⟩ rfl rfl hl.1 rfl (lv_room (Nat.le_of_ble_eq_true rfl)) dX7_takeDraught_54 ⟨Nat.le_of_ble_eq_true rfl, Nat.le_of_ble_eq_true rfl⟩) hS (fun q _ h => hFc q h) hFc (fun r_53 u t H1 locs ht hvm hw_54 hB hz1 hk1 hS => ?_)
              obtain ⟨fa9_55, fp9_56, hf_57, hf_58, hP1, hK1, hD1⟩ := hB
              rw [ht] at hP1
              obtain ⟨hP, hD⟩ := s3_j (L := [(rd_tape, .inl (k_rd_tape, 600, .inl f_rd_tape)), (rd, .inr (7, [.ref rd_tape, .int fd1, .int fa9_55, .int fp9_56, .ref bk, .ref rd_names, .ref rd_nameKind, .ref rd_nameNumber, .int (nI nm), .ref rd_knotNames, .int (nI en), .int (nI at9_14), .int tk9_15, .int (nI ts9_16), .long tv9_17]))]) 1 hP hD [0] [1] hk1 hFc hP1 hD1 rfl rfl rfl (by decide) (by decide)
              generalize H1 = H at hP hS ⊢
              obtain rfl : r_53 = 0 := hw_54
              have hm_59 := hf_57 c_1
              have hz_60 : ¬ fa9_55 = 0 := by rw [hm_59.1]; decide
              refine lv_pop hx hb dX7_takeDraught_57 rfl ?_
              refine lv_iconst (v := 0) hx hb dX7_takeDraught_58 (by decide) ?_
              have hK9 := hK.sub (tys' := [(k_rd_tape, .int)]) [0] rfl
              exact W.iret (v := 0) hx hb hr (fun t ht hW => ⟨⟨0, 0, rfl, rfl, fa9_55, fp9_56, at9_14, tk9_15, ts9_16, tv9_17, (tkE T en a0), (by omega), (ck_e c_1 hm_59 (by decide) (dr_p hdw_10 hds_23 (xwh_1 (xN htk_20 c_25) htk_20.1))), by rw [ht]; exact hP.sub [1, 0] rfl, va_K.moved hW.alike hK9, hD.sub [1, 0] (by decide) rfl⟩, hS.F ht⟩) hS.2.2 dX7_takeDraught_59
          · exact absurd c_24 (by decide)
        · skip
          have g_61 : tk9_15.toInt = (4 : Int) := i_eq c_21
          have hds_62 := xS_4 htk_20 c_21
          refine lv_iconst (v := 1) hx hb dX7_takeDraught_30 (by decide) ?_
          refine lv_goto (tgt := 35) hx hb dX7_takeDraught_31 (by decide) ?_
          refine lv_istore_n (lv' := [(1, .int 1), (0, .ref rd)]) hx hb dX7_takeDraught_35 rfl hl (by decide) rfl (fun ls hl => ?_)
          refine lv_iload_n hx hb dX7_takeDraught_36 rfl (lv_at hl 0 rfl) ?_
          refine lv_if_eq (tgt := 44) hx hb dX7_takeDraught_37 (by decide) (fun c_63 => ?_) (fun c_63 => ?_)
          · exact absurd c_63 (by decide)
          refine lv_aload_n hx hb dX7_takeDraught_40 rfl (lv_at hl 1 rfl) ?_
          obtain ⟨hPc, hDc, hFc⟩ := s3_c (ws' := [(rd, .inr (7, [.ref rd_tape, .int fd1, .int fa1, .int fp1, .ref bk, .ref rd_names, .ref rd_nameKind, .ref rd_nameNumber, .int (nI nm), .ref rd_knotNames, .int (nI en), .int (nI at9_14), .int tk9_15, .int (nI ts9_16), .long tv9_17])), (rd_tape, .inl (k_rd_tape, 600, .inl f_rd_tape))]) [0, 1] hP hD hS hA rfl (by decide)
          have hKc := hK.sub (tys' := [(k_rd_tape, .int)]) [0] rfl
          refine va_callv (va_runV (As := []) (rest := []) ⟨hx, hb, hml, hown, hts⟩ (d7_next l dC dI n0 atx H.size rd rd_tape fd1 fa1 fp1 bk rd_names rd_nameKind rd_nameNumber nm rd_knotNames en at9_14 tk9_15 (nI ts9_16) tv9_17 k_rd_tape f_rd_tape T (by first | with_reducible assumption | omega | exact vp_in_iff.mpr (by omega) | exact vp_in_nI (by omega) (by omega) | exact ⟨by omega, by omega⟩) (by first | with_reducible assumption | omega | exact vp_in_iff.mpr (by omega) | exact vp_in_nI (by omega) (by omega) | exact ⟨by omega, by omega⟩) (by first | with_reducible assumption | omega | exact vp_in_iff.mpr (by omega) | exact vp_in_nI (by omega) (by omega) | exact ⟨by omega, by omega⟩)) (cwV 0 hts (gV (fun w h => wM_c h) wd_735 wd_732 wd_734 wd_1 wd_117) rfl rfl rfl (by decide +kernel) ⟨Nat.le_of_ble_eq_true rfl, Nat.le_of_ble_eq_true rfl⟩) ⟨fun a U g mk q => by obtain ⟨q0, q1, q2, qG, qP, qK, qD⟩ := q; exact ⟨q0, q1, q2, GW.blind qG, qP, va_K.moved (u := U) (U := U.calling g mk a) (Vm.Alike.refl U.vm) qK, qD⟩, va_recv hKc hPc (ci := 7) (q0 := 0) rfl rfl, fun U hU hW => ⟨rfl, by rw [hU], Nat.le_trans hn0 hS.1, GW.go hW hU hG (fun q hq hA9 => hS.2.1 q hq (fun h => hA9 (hA0 q h))), by rw [hU]; exact hPc, va_K.moved hW.alike hKc, hDc.weaken (fun _ _ _ h => hA0 _ h)⟩⟩ rfl rfl hl.1 rfl (lv_room (Nat.le_of_ble_eq_true rfl)) dX7_takeDraught_41 ⟨Nat.le_of_ble_eq_true rfl, Nat.le_of_ble_eq_true rfl⟩) hS (fun q _ h => hFc q h) hFc (fun u t H1 locs ht hvm hw_65 hB hz1 hk1 hS => ?_)
          obtain ⟨at9_66, tk9_67, ts9_68, tv9_69, hf_70, hf_71, hP1, hK1, hD1⟩ := hB
          rw [ht] at hP1
          obtain ⟨hP, hD⟩ := s3_j (L := [(rd, .inr (7, [.ref rd_tape, .int fd1, .int fa1, .int fp1, .ref bk, .ref rd_names, .ref rd_nameKind, .ref rd_nameNumber, .int (nI nm), .ref rd_knotNames, .int (nI en), .int (nI at9_66), .int tk9_67, .int (nI ts9_68), .long tv9_69])), (rd_tape, .inl (k_rd_tape, 600, .inl f_rd_tape))]) 0 hP hD [0, 1] [] hk1 hFc hP1 hD1 rfl rfl rfl (by decide) (by decide)
          generalize H1 = H at hP hS ⊢
          have htk_72 := xgo htk_20 hf_71
          refine lv_aload_n hx hb dX7_takeDraught_44 rfl (lv_at hl 1 rfl) ?_
          refine va_get (D := (dC, dI)) (ci := 7) (v := .int tk9_67) (C := RX7) (T := TX7) (N := 15) hx hb hts (fun w h => wM_c (iX7 w h)) hown hK hP 0 rfl rfl 12 (by decide) (hts _ (wM_c wd_348)) (fun _ h9 => h9) rfl dX7_takeDraught_45 ?_
          refine lv_iconst (v := 2) hx hb dX7_takeDraught_48 (by decide) ?_
          refine lv_icmp_eq (tgt := 60) hx hb dX7_takeDraught_49 (by decide) (fun c_73 => ?_) (fun c_73 => ?_)
          · skip
            have g_74 : tk9_67.toInt = (2 : Int) := i_eq c_73
            have h2_75 := xS_2 htk_72 c_73
            refine lv_aload_n hx hb dX7_takeDraught_60 rfl (lv_at hl 1 rfl) ?_
            refine va_get (D := (dC, dI)) (ci := 7) (v := .long tv9_69) (C := RX7) (T := TX7) (N := 15) hx hb hts (fun w h => wM_c (iX7 w h)) hown hK hP 0 rfl rfl 14 (by decide) (hts _ (wM_c wd_350)) (fun _ h9 => h9) rfl dX7_takeDraught_61 ?_
            refine lv_l2i hx hb dX7_takeDraught_64 rfl ?_
            refine lv_topi (fun v_76 ev_76 => ?_)
            refine lv_istore_n (lv' := [(2, .int v_76), (1, .int 1), (0, .ref rd)]) hx hb dX7_takeDraught_65 rfl hl (by decide) rfl (fun ls hl => ?_)
            have hu_77 := ev_76.trans (htk_72.2.2.2.2 h2_75)
            have hge9 : 0 ≤ v_76.toInt := by rw [hu_77]; exact tkN_ge h2_75
            have z0q : (0 : Int32).toInt = 0 := rfl
            have z5q : (5000 : Int32).toInt = 5000 := rfl
            refine lv_iload_n hx hb dX7_takeDraught_66 rfl (lv_at hl 0 rfl) ?_
            refine lv_sipush (v := 5000) hx hb dX7_takeDraught_67 (by decide) ?_
            refine lv_icmp_le (tgt := 82) hx hb dX7_takeDraught_70 (by decide) (fun c_78 => ?_) (fun c_78 => ?_)
            · skip
              have g_79 : v_76.toInt ≤ (5000 : Int) := i_le c_78
              refine lv_aload_n hx hb dX7_takeDraught_82 rfl (lv_at hl 2 rfl) ?_
              obtain ⟨hPc, hDc, hFc⟩ := s3_c (ws' := [(rd, .inr (7, [.ref rd_tape, .int fd1, .int fa1, .int fp1, .ref bk, .ref rd_names, .ref rd_nameKind, .ref rd_nameNumber, .int (nI nm), .ref rd_knotNames, .int (nI en), .int (nI at9_66), .int tk9_67, .int (nI ts9_68), .long tv9_69])), (rd_tape, .inl (k_rd_tape, 600, .inl f_rd_tape))]) [0, 1] hP hD hS hA rfl (by decide)
              have hKc := hK.sub (tys' := [(k_rd_tape, .int)]) [0] rfl
              refine va_callv (va_runV (As := []) (rest := []) ⟨hx, hb, hml, hown, hts⟩ (d7_next l dC dI n0 atx H.size rd rd_tape fd1 fa1 fp1 bk rd_names rd_nameKind rd_nameNumber nm rd_knotNames en at9_66 tk9_67 (nI ts9_68) tv9_69 k_rd_tape f_rd_tape T (by first | with_reducible assumption | omega | exact vp_in_iff.mpr (by omega) | exact vp_in_nI (by omega) (by omega) | exact ⟨by omega, by omega⟩) (by first | with_reducible assumption | omega | exact vp_in_iff.mpr (by omega) | exact vp_in_nI (by omega) (by omega) | exact ⟨by omega, by omega⟩) (by first | with_reducible assumption | omega | exact vp_in_iff.mpr (by omega) | exact vp_in_nI (by omega) (by omega) | exact ⟨by omega, by omega⟩)) (cwV 0 hts (gV (fun w h => wM_c h) wd_735 wd_732 wd_734 wd_1 wd_117) rfl rfl rfl (by decide +kernel) ⟨Nat.le_of_ble_eq_true rfl, Nat.le_of_ble_eq_true rfl⟩) ⟨fun a U g mk q => by obtain ⟨q0, q1, q2, qG, qP, qK, qD⟩ := q; exact ⟨q0, q1, q2, GW.blind qG, qP, va_K.moved (u := U) (U := U.calling g mk a) (Vm.Alike.refl U.vm) qK, qD⟩, va_recv hKc hPc (ci := 7) (q0 := 0) rfl rfl, fun U hU hW => ⟨rfl, by rw [hU], Nat.le_trans hn0 hS.1, GW.go hW hU hG (fun q hq hA9 => hS.2.1 q hq (fun h => hA9 (hA0 q h))), by rw [hU]; exact hPc, va_K.moved hW.alike hKc, hDc.weaken (fun _ _ _ h => hA0 _ h)⟩⟩ rfl rfl hl.1 rfl (lv_room (Nat.le_of_ble_eq_true rfl)) dX7_takeDraught_83 ⟨Nat.le_of_ble_eq_true rfl, Nat.le_of_ble_eq_true rfl⟩) hS (fun q _ h => hFc q h) hFc (fun u t H1 locs ht hvm hw_81 hB hz1 hk1 hS => ?_)
              obtain ⟨at9_82, tk9_83, ts9_84, tv9_85, hf_86, hf_87, hP1, hK1, hD1⟩ := hB
              rw [ht] at hP1
              obtain ⟨hP, hD⟩ := s3_j (L := [(rd, .inr (7, [.ref rd_tape, .int fd1, .int fa1, .int fp1, .ref bk, .ref rd_names, .ref rd_nameKind, .ref rd_nameNumber, .int (nI nm), .ref rd_knotNames, .int (nI en), .int (nI at9_82), .int tk9_83, .int (nI ts9_84), .long tv9_85])), (rd_tape, .inl (k_rd_tape, 600, .inl f_rd_tape))]) 0 hP hD [0, 1] [] hk1 hFc hP1 hD1 rfl rfl rfl (by decide) (by decide)
              generalize H1 = H at hP hS ⊢
              have htk_88 := xgo htk_72 hf_87
              refine lv_iload_n hx hb dX7_takeDraught_86 rfl (lv_at hl 1 rfl) ?_
              refine lv_if_eq (tgt := 95) hx hb dX7_takeDraught_87 (by decide) (fun c_89 => ?_) (fun c_89 => ?_)
              · exact absurd c_89 (by decide)
              refine lv_iload_n hx hb dX7_takeDraught_90 rfl (lv_at hl 0 rfl) ?_
              refine lv_ineg hx hb dX7_takeDraught_91 ?_
              refine lv_topi (fun v_90 ev_90 => ?_)
              refine lv_goto (tgt := 96) hx hb dX7_takeDraught_92 (by decide) ?_
              have hK9 := hK.sub (tys' := [(k_rd_tape, .int)]) [0] rfl
              exact W.iret (v := v_90) hx hb hr (fun t ht hW => ⟨⟨v_90, v_90, rfl, rfl, fa1, fp1, at9_82, tk9_83, ts9_84, tv9_85, (tkE T en (tkE T en (tkE T en a0))), (by omega), (ck_k c_1 c_1 (by rw [ev_90]; exact (dr_m hdw_10 hds_62 (xwh_t h2_75 hu_77 (by omega)))) htk_88), by rw [ht]; exact hP.sub [0, 1] rfl, va_K.moved hW.alike hK9, hD.sub [0, 1] (by decide) rfl⟩, hS.F ht⟩) hS.2.2 dX7_takeDraught_96
            · skip
              have g_91 : (5000 : Int) < v_76.toInt := i_nle c_78
              refine lv_aload_n hx hb dX7_takeDraught_73 rfl (lv_at hl 2 rfl) ?_
              refine lv_iconst (v := 4) hx hb dX7_takeDraught_74 (by decide) ?_
              obtain ⟨hPc, hDc, hFc⟩ := s3_c (ws' := [(rd, .inr (7, [.ref rd_tape, .int fd1, .int fa1, .int fp1, .ref bk, .ref rd_names, .ref rd_nameKind, .ref rd_nameNumber, .int (nI nm), .ref rd_knotNames, .int (nI en), .int (nI at9_66), .int tk9_67, .int (nI ts9_68), .long tv9_69]))]) [0] hP hD hS hA rfl (by decide)
              have hKc := hK.sub (tys' := []) [] rfl
              refine va_calli (va_runV (As := [.int 4]) (rest := []) ⟨hx, hb, hml, hown, hts⟩ (d7_miss l dC dI n0 atx H.size rd rd_tape fd1 fa1 fp1 bk rd_names rd_nameKind rd_nameNumber nm rd_knotNames en at9_66 tk9_67 ts9_68 tv9_69 4 ) (cwV 1 hts (gV (fun w h => wM_c h) wd_831 wd_828 wd_830 wd_9 wd_117) rfl rfl rfl (by decide +kernel) ⟨Nat.le_of_ble_eq_true rfl, Nat.le_of_ble_eq_true rfl⟩) ⟨fun a U g mk q => by obtain ⟨q0, q1, q2, qG, qP, qK, qD⟩ := q; exact ⟨q0, q1, q2, GW.blind qG, qP, va_K.moved (u := U) (U := U.calling g mk a) (Vm.Alike.refl U.vm) qK, qD⟩, va_recv hKc hPc (ci := 7) (q0 := 0) rfl rfl, fun U hU hW => ⟨rfl, by rw [hU], Nat.le_trans hn0 hS.1, GW.go hW hU hG (fun q hq hA9 => hS.2.1 q hq (fun h => hA9 (hA0 q h))), by rw [hU]; exact hPc, va_K.moved hW.alike hKc, hDc.weaken (fun _ _ _ h => hA0 _ h)⟩⟩ rfl rfl hl.1 rfl (lv_room (Nat.le_of_ble_eq_true rfl)) dX7_takeDraught_75 ⟨Nat.le_of_ble_eq_true rfl, Nat.le_of_ble_eq_true rfl⟩) hS (fun q _ h => hFc q h) hFc (fun r_92 u t H1 locs ht hvm hw_93 hB hz1 hk1 hS => ?_)
              obtain ⟨fa9_94, fp9_95, hf_96, hf_97, hP1, hK1, hD1⟩ := hB
              rw [ht] at hP1
              obtain ⟨hP, hD⟩ := s3_j (L := [(rd_tape, .inl (k_rd_tape, 600, .inl f_rd_tape)), (rd, .inr (7, [.ref rd_tape, .int fd1, .int fa9_94, .int fp9_95, .ref bk, .ref rd_names, .ref rd_nameKind, .ref rd_nameNumber, .int (nI nm), .ref rd_knotNames, .int (nI en), .int (nI at9_66), .int tk9_67, .int (nI ts9_68), .long tv9_69]))]) 1 hP hD [0] [1] hk1 hFc hP1 hD1 rfl rfl rfl (by decide) (by decide)
              generalize H1 = H at hP hS ⊢
              obtain rfl : r_92 = 0 := hw_93
              have hm_98 := hf_96 c_1
              have hz_99 : ¬ fa9_94 = 0 := by rw [hm_98.1]; decide
              refine lv_pop hx hb dX7_takeDraught_78 rfl ?_
              refine lv_goto (tgt := 86) hx hb dX7_takeDraught_79 (by decide) ?_
              refine lv_iload_n hx hb dX7_takeDraught_86 rfl (lv_at hl 1 rfl) ?_
              refine lv_if_eq (tgt := 95) hx hb dX7_takeDraught_87 (by decide) (fun c_100 => ?_) (fun c_100 => ?_)
              · exact absurd c_100 (by decide)
              refine lv_iload_n hx hb dX7_takeDraught_90 rfl (lv_at hl 0 rfl) ?_
              refine lv_ineg hx hb dX7_takeDraught_91 ?_
              refine lv_topi (fun v_101 ev_101 => ?_)
              refine lv_goto (tgt := 96) hx hb dX7_takeDraught_92 (by decide) ?_
              have hK9 := hK.sub (tys' := [(k_rd_tape, .int)]) [0] rfl
              exact W.iret (v := v_101) hx hb hr (fun t ht hW => ⟨⟨v_101, v_101, rfl, rfl, fa9_94, fp9_95, at9_66, tk9_67, ts9_68, tv9_69, (tkE T en (tkE T en a0)), (by omega), (ck_e c_1 hm_98 (by decide) (dr_me hdw_10 hds_62 (xwh_4 h2_75 hu_77 (by omega) htk_72.1))), by rw [ht]; exact hP.sub [1, 0] rfl, va_K.moved hW.alike hK9, hD.sub [1, 0] (by decide) rfl⟩, hS.F ht⟩) hS.2.2 dX7_takeDraught_96
          · skip
            have g_102 : tk9_67.toInt ≠ (2 : Int) := i_ne c_73
            refine lv_aload_n hx hb dX7_takeDraught_52 rfl (lv_at hl 1 rfl) ?_
            refine lv_iconst (v := 1) hx hb dX7_takeDraught_53 (by decide) ?_
            obtain ⟨hPc, hDc, hFc⟩ := s3_c (ws' := [(rd, .inr (7, [.ref rd_tape, .int fd1, .int fa1, .int fp1, .ref bk, .ref rd_names, .ref rd_nameKind, .ref rd_nameNumber, .int (nI nm), .ref rd_knotNames, .int (nI en), .int (nI at9_66), .int tk9_67, .int (nI ts9_68), .long tv9_69]))]) [0] hP hD hS hA rfl (by decide)
            have hKc := hK.sub (tys' := []) [] rfl
            refine va_calli (va_runV (As := [.int 1]) (rest := []) ⟨hx, hb, hml, hown, hts⟩ (d7_miss l dC dI n0 atx H.size rd rd_tape fd1 fa1 fp1 bk rd_names rd_nameKind rd_nameNumber nm rd_knotNames en at9_66 tk9_67 ts9_68 tv9_69 1 ) (cwV 1 hts (gV (fun w h => wM_c h) wd_831 wd_828 wd_830 wd_9 wd_117) rfl rfl rfl (by decide +kernel) ⟨Nat.le_of_ble_eq_true rfl, Nat.le_of_ble_eq_true rfl⟩) ⟨fun a U g mk q => by obtain ⟨q0, q1, q2, qG, qP, qK, qD⟩ := q; exact ⟨q0, q1, q2, GW.blind qG, qP, va_K.moved (u := U) (U := U.calling g mk a) (Vm.Alike.refl U.vm) qK, qD⟩, va_recv hKc hPc (ci := 7) (q0 := 0) rfl rfl, fun U hU hW => ⟨rfl, by rw [hU], Nat.le_trans hn0 hS.1, GW.go hW hU hG (fun q hq hA9 => hS.2.1 q hq (fun h => hA9 (hA0 q h))), by rw [hU]; exact hPc, va_K.moved hW.alike hKc, hDc.weaken (fun _ _ _ h => hA0 _ h)⟩⟩ rfl rfl hl.1 rfl (lv_room (Nat.le_of_ble_eq_true rfl)) dX7_takeDraught_54 ⟨Nat.le_of_ble_eq_true rfl, Nat.le_of_ble_eq_true rfl⟩) hS (fun q _ h => hFc q h) hFc (fun r_103 u t H1 locs ht hvm hw_104 hB hz1 hk1 hS => ?_)
            obtain ⟨fa9_105, fp9_106, hf_107, hf_108, hP1, hK1, hD1⟩ := hB
            rw [ht] at hP1
            obtain ⟨hP, hD⟩ := s3_j (L := [(rd_tape, .inl (k_rd_tape, 600, .inl f_rd_tape)), (rd, .inr (7, [.ref rd_tape, .int fd1, .int fa9_105, .int fp9_106, .ref bk, .ref rd_names, .ref rd_nameKind, .ref rd_nameNumber, .int (nI nm), .ref rd_knotNames, .int (nI en), .int (nI at9_66), .int tk9_67, .int (nI ts9_68), .long tv9_69]))]) 1 hP hD [0] [1] hk1 hFc hP1 hD1 rfl rfl rfl (by decide) (by decide)
            generalize H1 = H at hP hS ⊢
            obtain rfl : r_103 = 0 := hw_104
            have hm_109 := hf_107 c_1
            have hz_110 : ¬ fa9_105 = 0 := by rw [hm_109.1]; decide
            refine lv_pop hx hb dX7_takeDraught_57 rfl ?_
            refine lv_iconst (v := 0) hx hb dX7_takeDraught_58 (by decide) ?_
            have hK9 := hK.sub (tys' := [(k_rd_tape, .int)]) [0] rfl
            exact W.iret (v := 0) hx hb hr (fun t ht hW => ⟨⟨0, 0, rfl, rfl, fa9_105, fp9_106, at9_66, tk9_67, ts9_68, tv9_69, (tkE T en (tkE T en a0)), (by omega), (ck_e c_1 hm_109 (by decide) (dr_me hdw_10 hds_62 (xwh_1 (xN htk_72 c_73) htk_72.1))), by rw [ht]; exact hP.sub [1, 0] rfl, va_K.moved hW.alike hK9, hD.sub [1, 0] (by decide) rfl⟩, hS.F ht⟩) hS.2.2 dX7_takeDraught_59
      · exact absurd c_11 (by decide)
    · skip
      have hdw_111 : isWd T en a0 4900691220 = false := xw_f htk_4 (xnwd wn_9 s_9)
      refine lv_if_ne (tgt := 18) hx hb dX7_takeDraught_13 (by decide) (fun c_112 => ?_) (fun c_112 => ?_)
      · exact absurd c_112 (by decide)
      refine lv_iconst (v := 0) hx hb dX7_takeDraught_16 (by decide) ?_
      have hK9 := hK.sub (tys' := [(k_rd_tape, .int)]) [0] rfl
      exact W.iret (v := 0) hx hb hr (fun t ht hW => ⟨⟨0, 0, rfl, rfl, fa1, fp1, at1, tk1, ts1, tv1, a0, (by omega), (ck_k c_1 c_1 (dr_0 hdw_111) htk_4), by rw [ht]; exact hP.sub [1, 0] rfl, va_K.moved hW.alike hK9, hD.sub [1, 0] (by decide) rfl⟩, hS.F ht⟩) hS.2.2 dX7_takeDraught_17
