theorem wd_140 : Cond.classLink "MineAirLaw" 8 "MineAir" ∈ wG := wG_of 140 (by decide +kernel) (by decide +kernel)
theorem wd_141 : Cond.instantiable "MineAir" 12 ∈ wG := wG_of 141 (by decide +kernel) (by decide +kernel)
theorem wd_142 : Cond.methodLink "MineAirLaw" 15 (⟨"MineAir", "<init>", "()V"⟩ : MethodName) ∈ wG := wG_of 142 (by decide +kernel) (by decide +kernel)
theorem wd_143 : Cond.instanceMethod (⟨"MineAir", "<init>", "()V"⟩ : MethodName) ∈ wG := wG_of 143 (by decide +kernel) (by decide +kernel)
theorem wd_144 : Cond.code (⟨"MineAir", "<init>", "()V"⟩ : MethodName) prog_1_method_1_code 2 (Option.none : Option Jvm.ClassFile.FieldType) ∈ wG := wG_of 144 (by decide +kernel) (by decide +kernel)
theorem wd_1417 : Cond.classLink "MineAirLaw" 16 "MineAirModel" ∈ wG := wG_of 1417 (by decide +kernel) (by decide +kernel)
theorem wd_1418 : Cond.instantiable "MineAirModel" 51 ∈ wG := wG_of 1418 (by decide +kernel) (by decide +kernel)
theorem wd_1419 : Cond.methodLink "MineAirLaw" 18 (⟨"MineAirModel", "<init>", "()V"⟩ : MethodName) ∈ wG := wG_of 1419 (by decide +kernel) (by decide +kernel)
theorem wd_1420 : Cond.instanceMethod (⟨"MineAirModel", "<init>", "()V"⟩ : MethodName) ∈ wG := wG_of 1420 (by decide +kernel) (by decide +kernel)
theorem wd_1421 : Cond.code (⟨"MineAirModel", "<init>", "()V"⟩ : MethodName) prog_14_method_1_code 2 (Option.none : Option Jvm.ClassFile.FieldType) ∈ wG := wG_of 1421 (by decide +kernel) (by decide +kernel)
theorem dL_law_0 : decode cL_law 0 = .ok (.new 8, 3) := by decide +kernel
theorem dL_law_3 : decode cL_law 3 = .ok (.dup, 1) := by decide +kernel
theorem dL_law_4 : decode cL_law 4 = .ok (.invokespecial 15, 3) := by decide +kernel
theorem dL_law_7 : decode cL_law 7 = .ok (.astore_n 1, 1) := by decide +kernel
theorem dL_law_8 : decode cL_law 8 = .ok (.new 16, 3) := by decide +kernel
theorem dL_law_11 : decode cL_law 11 = .ok (.dup, 1) := by decide +kernel
theorem dL_law_12 : decode cL_law 12 = .ok (.invokespecial 18, 3) := by decide +kernel
theorem dL_law_15 : decode cL_law 15 = .ok (.astore_n 2, 1) := by decide +kernel
theorem dL_law_16 : decode cL_law 16 = .ok (.iconst 1, 1) := by decide +kernel
theorem dL_law_17 : decode cL_law 17 = .ok (.newarray .long, 2) := by decide +kernel
theorem dL_law_19 : decode cL_law 19 = .ok (.astore_n 3, 1) := by decide +kernel
theorem dL_law_20 : decode cL_law 20 = .ok (.iconst 0, 1) := by decide +kernel
theorem dL_law_21 : decode cL_law 21 = .ok (.istore 4, 2) := by decide +kernel
set_option maxHeartbeats 4000000 in
set_option maxRecDepth 100000 in
theorem whole_start {p : Program} {e : Env} {s : State} {m : MethodId} {below : List Frame} {meth : Method} {c : Code} (l : Launch) (hst : l.stackTraces = false) {b L : Nat} {xs : Nat → Int32} (hL : L ≤ 3072) (C0 : lw_At p s m meth c b L xs) : W p l e room_1 s m #[Value.ref b] below meth c s.heap [] 0 0 (lw_Z below #[Value.ref b] s) (entryFrame m ([Value.ref b] : List Value).toArray 7) := by
  have C1 := C0
  obtain ⟨-, -, -, -, -, hts9, -, -, -, hgv9⟩ := C1
  obtain ⟨atx, hG⟩ : ∃ atx, GW s.heap.size atx s := gw_start hts9 hgv9
  have C2 := C0
  obtain ⟨hx, hb, hr, hml, hown, hts0, hX, hbl, hlocks, hgv⟩ := C0
  have hts : ∀ w ∈ wG, w.before #[Value.ref b] s = true := fun w h => hts0 w (wG_t h)
  have hA : ∀ q : Nat, s.heap.size ≤ q → (fun q : Nat => s.heap.size ≤ q) q := fun _ h => h
  have hA0 : ∀ q : Nat, (fun q : Nat => s.heap.size ≤ q) q → s.heap.size ≤ q := fun _ h => h
  have hn0 : s.heap.size ≤ s.heap.size := Nat.le_refl _
  have hbA : ¬ (fun q : Nat => s.heap.size ≤ q) b := Nat.not_le.mpr hbl
  obtain ⟨c0, iS0, hKn0⟩ := u_known (C := RX0) (T := TX0) (N := 13) (n := 13) hts iX0 (hts _ wd_149)
  obtain ⟨c1, iS1, hKn1⟩ := u_known (C := RX1) (T := TX1) (N := 8) (n := 8) hts iX1 (hts _ wd_609)
  obtain ⟨c2, iS2, hKn2⟩ := u_known (C := RX2) (T := TX2) (N := 12) (n := 12) hts iX2 (hts _ wd_438)
  obtain ⟨c3, iS3, hKn3⟩ := u_known (C := RX3) (T := TX3) (N := 13) (n := 13) hts iX3 (hts _ wd_155)
  obtain ⟨c4, iS4, hKn4⟩ := u_known (C := RX4) (T := TX4) (N := 6) (n := 6) hts iX4 (hts _ wd_432)
  obtain ⟨c5, iS5, hKn5⟩ := u_known (C := RX5) (T := TX5) (N := 6) (n := 6) hts iX5 (hts _ wd_484)
  obtain ⟨c6, iS6, hKn6⟩ := u_known (C := RX6) (T := TX6) (N := 11) (n := 11) hts iX6 (hts _ wd_567)
  obtain ⟨c7, iS7, hKn7⟩ := u_known (C := RX7) (T := TX7) (N := 15) (n := 15) hts iX7 (hts _ wd_328)
  obtain ⟨c8, iS8, hKn8⟩ := u_known (C := RX8) (T := TX8) (N := 4) (n := 4) hts iX8 (hts _ wd_644)
  obtain ⟨c9, iS9, hKn9⟩ := u_known (C := RX9) (T := TX9) (N := 8) (n := 8) hts iX9 (hts _ wd_384)
  obtain ⟨c10, iS10, hKn10⟩ := u_known (C := RX10) (T := TX10) (N := 8) (n := 8) hts iX10 (hts _ wd_535)
  obtain ⟨c11, iS11, hKn11⟩ := u_known (C := RX11) (T := TX11) (N := 12) (n := 12) hts iX11 (hts _ wd_141)
  obtain ⟨c12, iS12, hKn12⟩ := u_known (C := RX12) (T := TX12) (N := 28) (n := 28) hts iX12 (hts _ wd_1620)
  obtain ⟨c13, iS13, hKn13⟩ := u_known (C := RX13) (T := TX13) (N := 8) (n := 8) hts iX13 (hts _ wd_1424)
  obtain ⟨c14, iS14, hKn14⟩ := u_known (C := RX14) (T := TX14) (N := 51) (n := 51) hts iX14 (hts _ wd_1418)
  obtain ⟨dC, dI, hKc⟩ : ∃ (dC : Nat → ClassId) (dI : Nat → Nat → Nat), ∀ (k : Nat) (q : vw_C), classes[k]? = some q → u_Kn s q.1 q.2.1 q.2.2 (dC k) (dI k) := by
    refine ⟨fun k => if k = 0 then c0 else if k = 1 then c1 else if k = 2 then c2 else if k = 3 then c3 else if k = 4 then c4 else if k = 5 then c5 else if k = 6 then c6 else if k = 7 then c7 else if k = 8 then c8 else if k = 9 then c9 else if k = 10 then c10 else if k = 11 then c11 else if k = 12 then c12 else if k = 13 then c13 else c14, fun k => if k = 0 then iS0 else if k = 1 then iS1 else if k = 2 then iS2 else if k = 3 then iS3 else if k = 4 then iS4 else if k = 5 then iS5 else if k = 6 then iS6 else if k = 7 then iS7 else if k = 8 then iS8 else if k = 9 then iS9 else if k = 10 then iS10 else if k = 11 then iS11 else if k = 12 then iS12 else if k = 13 then iS13 else iS14, ?_⟩
    intro k q hq
    match k, hq with
    | 0, hq => cases hq; exact hKn0
    | 1, hq => cases hq; exact hKn1
    | 2, hq => cases hq; exact hKn2
    | 3, hq => cases hq; exact hKn3
    | 4, hq => cases hq; exact hKn4
    | 5, hq => cases hq; exact hKn5
    | 6, hq => cases hq; exact hKn6
    | 7, hq => cases hq; exact hKn7
    | 8, hq => cases hq; exact hKn8
    | 9, hq => cases hq; exact hKn9
    | 10, hq => cases hq; exact hKn10
    | 11, hq => cases hq; exact hKn11
    | 12, hq => cases hq; exact hKn12
    | 13, hq => cases hq; exact hKn13
    | 14, hq => cases hq; exact hKn14
    | k + 15, hq => simp [classes] at hq
  have hS : va_S (fun q : Nat => s.heap.size ≤ q) s.heap s.heap [] := va_S.rf
  have hK : va_K (dC, dI) classes [] s := ⟨hKc, fun k q h => by simp at h⟩
  have hP : va_P (dC, dI) classes [] s.heap := fun k q h => by simp at h
  have hD : va_D (fun q : Nat => s.heap.size ≤ q) [] := ⟨fun i j p q h => by simp at h, fun k q h => by simp at h⟩
  have hl := lv_entry ([.ref b]) (n := 7) (Nat.le_of_ble_eq_true rfl)
  rw [lg_entry_eq]
  generalize (lg_sl ([.ref b]) ++ List.replicate (7 - (lg_sl ([.ref b])).length) Slot.unset).toArray = ls at hl ⊢
  have hl : lv_has ls 7 [(0, .ref b)] := hl
  refine va_new (ci := 11) (fs := [.null, .null, .null, .null, .null, .null, .null, .null, .null, .int 0, .int 0, .int 0]) (C := RX11) (T := TX11) (N := 12) hx hb hts (fun w h => id (iX11 w h)) tyX11 tyX11_ok hown (hts _ (id wd_140)) (hts _ (id wd_141)) (hts _ (id wd_114)) hK hP hD hS hA rfl dfX11 (Nat.le_of_ble_eq_true rfl) (Nat.le_of_ble_eq_true rfl) dL_law_0 (fun q_1 H hP hD hS => ?_)
  refine W.widen (k := 1) (n := 12) (Nat.le_of_ble_eq_true rfl) (Nat.le_of_ble_eq_true rfl) ?_
  have hP : va_P (dC, dI) classes ([(q_1, .inr (11, [.null, .null, .null, .null, .null, .null, .null, .null, .null, .int 0, .int 0, .int 0]))] ++ []) H := hP
  have hD : va_D (fun q : Nat => s.heap.size ≤ q) ([(q_1, .inr (11, [.null, .null, .null, .null, .null, .null, .null, .null, .null, .int 0, .int 0, .int 0]))] ++ []) := hD
  refine lv_dup hx hb dL_law_3 rfl ?_
  have hPc := ap_l hP
  have hDc := ad_l hD
  have hKe : va_K (dC, dI) classes [] s := ⟨hKc, fun k q h => by simp at h⟩
  have hFc := fr_O hDc hS hA
  refine va_callv (va_runI (As := []) (rest := [.ref q_1]) ⟨hx, hb, hml, hown, hts⟩ (X_new l dC dI s.heap.size atx H.size q_1) (cwI 0 hts (gI (fun w h => id h) wd_144) rfl rfl rfl (hts _ (id wd_114)) (hts _ (id wd_142)) (hts _ (id wd_143)) rfl (by decide +kernel) ⟨Nat.le_of_ble_eq_true rfl, Nat.le_of_ble_eq_true rfl⟩) ⟨fun a U g mk q => by obtain ⟨q0, q1, q2, qG, qP, qK, qD⟩ := q; exact ⟨q0, q1, q2, GW.blind qG, qP, va_K.moved (u := U) (U := U.calling g mk a) (Vm.Alike.refl U.vm) qK, qD⟩, fun U hU hW => ⟨rfl, by rw [hU], Nat.le_trans hn0 hS.1, GW.go hW hU hG (fun q hq hA9 => hS.2.1 q hq (fun h => hA9 (hA0 q h))), by rw [hU]; exact hPc, va_K.moved hW.alike hKe, hDc.weaken (fun _ _ _ h => hA0 _ h)⟩⟩ rfl rfl hl.1 rfl (lv_room (Nat.le_of_ble_eq_true rfl)) dL_law_4 ⟨Nat.le_of_ble_eq_true rfl, Nat.le_of_ble_eq_true rfl⟩) hS (fun q _ h => hFc q h) hFc (fun u t H1 locs ht hvm hw9 hB hz1 hk1 hS => ?_)
  obtain ⟨w1, t1, hN1, hP1, hK1, hD1⟩ := hB
  rw [ht] at hP1
  obtain ⟨hP, hD⟩ := jo_l hP hD hk1 hFc hP1 hD1
  rw [List.append_nil] at hP hD
  have hK1 := va_K.moved hvm.symm hK1
  generalize H1 = H at hP hS ⊢
  refine W.widen (k := 105) (n := 1967) (Nat.le_of_ble_eq_true rfl) (Nat.le_of_ble_eq_true rfl) ?_
  refine lv_astore_n (lv' := [(1, .ref q_1), (0, .ref b)]) hx hb dL_law_7 rfl hl (by decide) rfl (fun ls hl => ?_)
  refine va_new (ci := 14) (fs := fX14 (.int 0) .null (.int 0) (.int 0) (.int 0) .null .null .null .null (.int 0) (.int 0) (.int 0) (.int 0) (.int 0) (.int 0) (.int 0) (.long 0) .null .null .null .null (.int 0) (.int 0) (.int 0) .null .null .null .null .null .null .null .null .null .null .null .null (.int 0) .null (.int 0) .null .null .null .null .null .null .null (.int 0) .null .null .null .null) (C := RX14) (T := TX14) (N := 51) hx hb hts (fun w h => id (iX14 w h)) tyX14 tyX14_ok hown (hts _ (id wd_1417)) (hts _ (id wd_1418)) (hts _ (id wd_127)) hK hP hD hS hA rfl dfX14 (Nat.le_of_ble_eq_true rfl) (Nat.le_of_ble_eq_true rfl) dL_law_8 (fun q_2 H hP hD hS => ?_)
  refine W.widen (k := 106) (n := 2018) (Nat.le_of_ble_eq_true rfl) (Nat.le_of_ble_eq_true rfl) ?_
  refine lv_dup hx hb dL_law_11 rfl ?_
  have hPc := ap_r hP
  have hDc := ad_r hD
  have hKe : va_K (dC, dI) classes [] s := ⟨hKc, fun k q h => by simp at h⟩
  have hFc := fr_O hDc hS hA
  refine va_callv (va_runI (As := []) (rest := [.ref q_2]) ⟨hx, hb, hml, hown, hts⟩ (Z_new l dC dI s.heap.size atx H.size q_2) (cwI 0 hts (gI (fun w h => id h) wd_1421) rfl rfl rfl (hts _ (id wd_127)) (hts _ (id wd_1419)) (hts _ (id wd_1420)) rfl (by decide +kernel) ⟨Nat.le_of_ble_eq_true rfl, Nat.le_of_ble_eq_true rfl⟩) ⟨fun a U g mk q => by obtain ⟨q0, q1, q2, qG, qP, qK, qD⟩ := q; exact ⟨q0, q1, q2, GW.blind qG, qP, va_K.moved (u := U) (U := U.calling g mk a) (Vm.Alike.refl U.vm) qK, qD⟩, fun U hU hW => ⟨rfl, by rw [hU], Nat.le_trans hn0 hS.1, GW.go hW hU hG (fun q hq hA9 => hS.2.1 q hq (fun h => hA9 (hA0 q h))), by rw [hU]; exact hPc, va_K.moved hW.alike hKe, hDc.weaken (fun _ _ _ h => hA0 _ h)⟩⟩ rfl rfl hl.1 rfl (lv_room (Nat.le_of_ble_eq_true rfl)) dL_law_12 ⟨Nat.le_of_ble_eq_true rfl, Nat.le_of_ble_eq_true rfl⟩) hS (fun q _ h => hFc q h) hFc (fun u t H1 locs ht hvm hw9 hB hz1 hk1 hS => ?_)
  obtain ⟨w2, t2, hN2, hP1, hK2, hD1⟩ := hB
  rw [ht] at hP1
  obtain ⟨hP, hD⟩ := jo_r hP hD hk1 hFc hP1 hD1
  have hK2 := va_K.moved hvm.symm hK2
  generalize H1 = H at hP hS ⊢
  refine W.widen (k := 137) (n := 2918) (Nat.le_of_ble_eq_true rfl) (Nat.le_of_ble_eq_true rfl) ?_
  refine lv_astore_n (lv' := [(2, .ref q_2), (1, .ref q_1), (0, .ref b)]) hx hb dL_law_15 rfl hl (by decide) rfl (fun ls hl => ?_)
  refine lv_iconst (v := 1) hx hb dL_law_16 (by decide) ?_
  refine va_newa (atype := .long) (a0 := (1, .inr (.inl (fun _ => 0)))) (ty := .long) hx hb (hts _ (id wd_382)) rfl hK1 hP hD hS hA (fun _ => rfl) (by decide) rfl (by decide) (Nat.le_of_ble_eq_true rfl) (Nat.le_of_ble_eq_true rfl) dL_law_17 (fun q_3 k_3 H hK3 hP hD hS => ?_)
  refine W.widen (k := 138) (n := 2919) (Nat.le_of_ble_eq_true rfl) (Nat.le_of_ble_eq_true rfl) ?_
  refine lv_astore_n (lv' := [(3, .ref q_3), (2, .ref q_2), (1, .ref q_1), (0, .ref b)]) hx hb dL_law_19 rfl hl (by decide) rfl (fun ls hl => ?_)
  refine lv_iconst (v := 0) hx hb dL_law_20 (by decide) ?_
  refine lv_istore (lv' := [(4, .int 0), (3, .ref q_3), (2, .ref q_2), (1, .ref q_1), (0, .ref b)]) hx hb dL_law_21 hl (by decide) rfl (fun ls hl => ?_)
  obtain ⟨ad, ka, Gx, hXI, hg0, had⟩ := hN1 q_3 k_3 (fun _ => 0)
  obtain ⟨md, mk9, Gm, hMI, hm0⟩ := hN2
  refine W.widen (k := 150 + 23 * 0) (n := 3000 + 300 * 0) (by omega) (by omega) ?_
  exact law_loop hst hL C2 atx hG ad ka q_1 md mk9 q_2 0 _ _ _ ⟨by omega, Gx, Gm, _, w2, _, t2, hXI, Or.inl hMI, rel_in hg0 hm0, hK3, hK2, sw_P hP, sw_D hD, hS, by rw [had]; exact lv_sub hl [0, 1, 2, 3, 4] rfl⟩
