theorem wd_objInit : Cond.code objectInit ⟨#[0xb1]⟩ 1 none ∈ wG := wG_of 147 (by decide +kernel) (by decide +kernel)
theorem wd_163 : Cond.fieldLink "MineAir" 317 "MineAir$Gear" "doors" "I" ∈ wG := wG_of 163 (by decide +kernel) (by decide +kernel)
theorem wd_182 : Cond.fieldLink "MineAir" 325 "MineAir$Gear" "fans" "I" ∈ wG := wG_of 182 (by decide +kernel) (by decide +kernel)
theorem wd_243 : Cond.fieldLink "MineAir" 121 "MineAir$Book" "ways" "I" ∈ wG := wG_of 243 (by decide +kernel) (by decide +kernel)
theorem wd_299 : Cond.fieldLink "MineAir" 313 "MineAir$Book" "gear" "LMineAir$Gear;" ∈ wG := wG_of 299 (by decide +kernel) (by decide +kernel)
theorem wd_614 : Cond.fieldLink "MineAir" 111 "MineAir$Flight" "men" "I" ∈ wG := wG_of 614 (by decide +kernel) (by decide +kernel)
theorem wd_672 : Cond.fieldLink "MineAir" 16 "MineAir" "book" "LMineAir$Book;" ∈ wG := wG_of 672 (by decide +kernel) (by decide +kernel)
theorem wd_677 : Cond.fieldLink "MineAir" 65 "MineAir" "flight" "LMineAir$Flight;" ∈ wG := wG_of 677 (by decide +kernel) (by decide +kernel)
theorem wd_679 : Cond.fieldLink "MineAir" 127 "MineAir" "trouble" "I" ∈ wG := wG_of 679 (by decide +kernel) (by decide +kernel)
theorem dX11_accept_0 : decode cX11_accept 0 = .ok (.aload_n 0, 1) := by decide +kernel
theorem dX11_accept_1 : decode cX11_accept 1 = .ok (.iconst 0, 1) := by decide +kernel
theorem dX11_accept_2 : decode cX11_accept 2 = .ok (.putfield 127, 3) := by decide +kernel
theorem dX11_accept_5 : decode cX11_accept 5 = .ok (.iload_n 1, 1) := by decide +kernel
theorem dX11_accept_6 : decode cX11_accept 6 = .ok (.ireturn, 1) := by decide +kernel
theorem dX11_allow_0 : decode cX11_allow 0 = .ok (.aload_n 0, 1) := by decide +kernel
theorem dX11_allow_1 : decode cX11_allow 1 = .ok (.iconst 0, 1) := by decide +kernel
theorem dX11_allow_2 : decode cX11_allow 2 = .ok (.putfield 127, 3) := by decide +kernel
theorem dX11_allow_5 : decode cX11_allow 5 = .ok (.iconst 1, 1) := by decide +kernel
theorem dX11_allow_6 : decode cX11_allow 6 = .ok (.ireturn, 1) := by decide +kernel
theorem dX11_deny_0 : decode cX11_deny 0 = .ok (.aload_n 0, 1) := by decide +kernel
theorem dX11_deny_1 : decode cX11_deny 1 = .ok (.iload_n 1, 1) := by decide +kernel
theorem dX11_deny_2 : decode cX11_deny 2 = .ok (.putfield 127, 3) := by decide +kernel
theorem dX11_deny_5 : decode cX11_deny 5 = .ok (.iconst 0, 1) := by decide +kernel
theorem dX11_deny_6 : decode cX11_deny 6 = .ok (.ireturn, 1) := by decide +kernel
theorem dX11_isBooked_0 : decode cX11_isBooked 0 = .ok (.aload_n 0, 1) := by decide +kernel
theorem dX11_isBooked_1 : decode cX11_isBooked 1 = .ok (.getfield 16, 3) := by decide +kernel
theorem dX11_isBooked_4 : decode cX11_isBooked 4 = .ok (.getfield 121, 3) := by decide +kernel
theorem dX11_isBooked_7 : decode cX11_isBooked 7 = .ok (.ifCond .le 7, 3) := by decide +kernel
theorem dX11_isBooked_14 : decode cX11_isBooked 14 = .ok (.iconst 0, 1) := by decide +kernel
theorem dX11_isBooked_15 : decode cX11_isBooked 15 = .ok (.ireturn, 1) := by decide +kernel
theorem dX11_isDoor_0 : decode cX11_isDoor 0 = .ok (.iload_n 1, 1) := by decide +kernel
theorem dX11_isDoor_1 : decode cX11_isDoor 1 = .ok (.ifCond .lt 21, 3) := by decide +kernel
theorem dX11_isDoor_4 : decode cX11_isDoor 4 = .ok (.iload_n 1, 1) := by decide +kernel
theorem dX11_isDoor_5 : decode cX11_isDoor 5 = .ok (.aload_n 0, 1) := by decide +kernel
theorem dX11_isDoor_6 : decode cX11_isDoor 6 = .ok (.getfield 16, 3) := by decide +kernel
theorem dX11_isDoor_9 : decode cX11_isDoor 9 = .ok (.getfield 313, 3) := by decide +kernel
theorem dX11_isDoor_12 : decode cX11_isDoor 12 = .ok (.getfield 317, 3) := by decide +kernel
theorem dX11_isDoor_15 : decode cX11_isDoor 15 = .ok (.if_icmp .ge 7, 3) := by decide +kernel
theorem dX11_isDoor_22 : decode cX11_isDoor 22 = .ok (.iconst 0, 1) := by decide +kernel
theorem dX11_isDoor_23 : decode cX11_isDoor 23 = .ok (.ireturn, 1) := by decide +kernel
theorem dX11_isFan_0 : decode cX11_isFan 0 = .ok (.iload_n 1, 1) := by decide +kernel
theorem dX11_isFan_1 : decode cX11_isFan 1 = .ok (.ifCond .lt 21, 3) := by decide +kernel
theorem dX11_isFan_4 : decode cX11_isFan 4 = .ok (.iload_n 1, 1) := by decide +kernel
theorem dX11_isFan_5 : decode cX11_isFan 5 = .ok (.aload_n 0, 1) := by decide +kernel
theorem dX11_isFan_6 : decode cX11_isFan 6 = .ok (.getfield 16, 3) := by decide +kernel
theorem dX11_isFan_9 : decode cX11_isFan 9 = .ok (.getfield 313, 3) := by decide +kernel
theorem dX11_isFan_12 : decode cX11_isFan 12 = .ok (.getfield 325, 3) := by decide +kernel
theorem dX11_isFan_15 : decode cX11_isFan 15 = .ok (.if_icmp .ge 7, 3) := by decide +kernel
theorem dX11_isFan_22 : decode cX11_isFan 22 = .ok (.iconst 0, 1) := by decide +kernel
theorem dX11_isFan_23 : decode cX11_isFan 23 = .ok (.ireturn, 1) := by decide +kernel
theorem dX11_isMan_0 : decode cX11_isMan 0 = .ok (.iload_n 1, 1) := by decide +kernel
theorem dX11_isMan_1 : decode cX11_isMan 1 = .ok (.ifCond .lt 18, 3) := by decide +kernel
theorem dX11_isMan_4 : decode cX11_isMan 4 = .ok (.iload_n 1, 1) := by decide +kernel
theorem dX11_isMan_5 : decode cX11_isMan 5 = .ok (.aload_n 0, 1) := by decide +kernel
theorem dX11_isMan_6 : decode cX11_isMan 6 = .ok (.getfield 65, 3) := by decide +kernel
theorem dX11_isMan_9 : decode cX11_isMan 9 = .ok (.getfield 111, 3) := by decide +kernel
theorem dX11_isMan_12 : decode cX11_isMan 12 = .ok (.if_icmp .ge 7, 3) := by decide +kernel
theorem dX11_isMan_19 : decode cX11_isMan 19 = .ok (.iconst 0, 1) := by decide +kernel
theorem dX11_isMan_20 : decode cX11_isMan 20 = .ok (.ireturn, 1) := by decide +kernel
theorem dX11_isWay_0 : decode cX11_isWay 0 = .ok (.iload_n 1, 1) := by decide +kernel
theorem dX11_isWay_1 : decode cX11_isWay 1 = .ok (.ifCond .lt 18, 3) := by decide +kernel
theorem dX11_isWay_4 : decode cX11_isWay 4 = .ok (.iload_n 1, 1) := by decide +kernel
theorem dX11_isWay_5 : decode cX11_isWay 5 = .ok (.aload_n 0, 1) := by decide +kernel
theorem dX11_isWay_6 : decode cX11_isWay 6 = .ok (.getfield 16, 3) := by decide +kernel
theorem dX11_isWay_9 : decode cX11_isWay 9 = .ok (.getfield 121, 3) := by decide +kernel
theorem dX11_isWay_12 : decode cX11_isWay 12 = .ok (.if_icmp .ge 7, 3) := by decide +kernel
theorem dX11_isWay_19 : decode cX11_isWay 19 = .ok (.iconst 0, 1) := by decide +kernel
theorem dX11_isWay_20 : decode cX11_isWay 20 = .ok (.ireturn, 1) := by decide +kernel
theorem dX11_refuse_0 : decode cX11_refuse 0 = .ok (.aload_n 0, 1) := by decide +kernel
theorem dX11_refuse_1 : decode cX11_refuse 1 = .ok (.iload_n 1, 1) := by decide +kernel
theorem dX11_refuse_2 : decode cX11_refuse 2 = .ok (.putfield 127, 3) := by decide +kernel
theorem dX11_refuse_5 : decode cX11_refuse 5 = .ok (.iconst (-1), 1) := by decide +kernel
theorem dX11_refuse_6 : decode cX11_refuse 6 = .ok (.ireturn, 1) := by decide +kernel
set_option maxHeartbeats 4000000 in
set_option maxRecDepth 100000 in
theorem c_refuse (l : Launch) (dC : Nat → ClassId) (dI : Nat → Nat → Nat) (n0 sz : Nat) (x0 : Nat) (rd : Nat) (dr : Nat) (bk : Nat) (st : Nat) (nw : Nat) (tr : Nat) (pl : Nat) (fl : Nat) (rg : Nat) (tb : Int32) (ft : Int32) (pc : Int32) (why : Int32) : Met l yX11_refuse (wM yX11_refuse cX11_refuse 2 (some .int)) ({ frames := 0, cells := 0, slots := 0, locals := 0 }) (va_Pc [.ref x0, .int why] (fun U => U.heap.size = sz ∧ n0 ≤ sz ∧ GW n0 U ∧ va_P (dC, dI) classes [(x0, .inr (11, [.ref rd, .ref dr, .ref bk, .ref st, .ref nw, .ref tr, .ref pl, .ref fl, .ref rg, .int tb, .int ft, .int pc]))] U.heap ∧ va_K (dC, dI) classes [] U ∧ va_D (fun q => n0 ≤ q) [(x0, .inr (11, [.ref rd, .ref dr, .ref bk, .ref st, .ref nw, .ref tr, .ref pl, .ref fl, .ref rg, .int tb, .int ft, .int pc]))])) (va_Qi (fun (r : Int32) (_ : Unit) => r = (-1)) (fun (_ : Unit) (t : State) => va_P (dC, dI) classes [(x0, .inr (11, [.ref rd, .ref dr, .ref bk, .ref st, .ref nw, .ref tr, .ref pl, .ref fl, .ref rg, .int why, .int ft, .int pc]))] t.heap ∧ va_K (dC, dI) classes [] t ∧ va_D (va_A [(x0, .inr (11, [.ref rd, .ref dr, .ref bk, .ref st, .ref nw, .ref tr, .ref pl, .ref fl, .ref rg, .int tb, .int ft, .int pc]))] sz) [(x0, .inr (11, [.ref rd, .ref dr, .ref bk, .ref st, .ref nw, .ref tr, .ref pl, .ref fl, .ref rg, .int why, .int ft, .int pc]))]) (va_A [(x0, .inr (11, [.ref rd, .ref dr, .ref bk, .ref st, .ref nw, .ref tr, .ref pl, .ref fl, .ref rg, .int tb, .int ft, .int pc]))] sz)) 0 0 (va_A [(x0, .inr (11, [.ref rd, .ref dr, .ref bk, .ref st, .ref nw, .ref tr, .ref pl, .ref fl, .ref rg, .int tb, .int ft, .int pc]))] sz) := by
  refine Met.ofW (cc := cX11_refuse) (maxL := 2) (ret := (some .int)) (by decide) rfl ?_
  intro p e s m args below meth c s₁ B hml hv
  obtain ⟨rfl, hsz, hn0, hG, hP, hK, hD0⟩ := hv
  have hx := B.exec
  have hb := B.bytes
  have hr := B.returns
  have hts := atoms_spec (ws := wM yX11_refuse cX11_refuse 2 (some .int)) B.pre
  have hown : s.vm.findClass RX11 = some m.cls := findClass_of_methodNamed B.named
  have hlocks := B.notSynchronized
  subst hsz
  have hD := hD0.self (sz := s.heap.size)
  have hA0 := vA_n0 hD0 hn0
  generalize hAe : va_A [(x0, .inr (11, [.ref rd, .ref dr, .ref bk, .ref st, .ref nw, .ref tr, .ref pl, .ref fl, .ref rg, .int tb, .int ft, .int pc]))] s.heap.size = A at hD hA0 ⊢
  have hA : ∀ q : Nat, s.heap.size ≤ q → A q := fun q h => by rw [← hAe]; exact Or.inr h
  have hS : va_S A s.heap s.heap [] := va_S.rf
  have hl := lv_entry ([.ref x0, .int why]) (n := 2) (Nat.le_of_ble_eq_true rfl)
  rw [lg_entry_eq]
  generalize (lg_sl ([.ref x0, .int why]) ++ List.replicate (2 - (lg_sl ([.ref x0, .int why])).length) Slot.unset).toArray = ls at hl ⊢
  have hl : lv_has ls 2 [(0, .ref x0), (1, .int why)] := hl
  refine lv_aload_n hx hb dX11_refuse_0 rfl (lv_at hl 0 rfl) ?_
  refine lv_iload_n hx hb dX11_refuse_1 rfl (lv_at hl 1 rfl) ?_
  refine va_put (D := (dC, dI)) (ci := 11) (v := .int why) (ty := .int) (C := RX11) (T := TX11) (N := 12) hx hb hts (fun w h => wM_c (iX11 w h)) tyX11 tyX11_ok nmX11 hown hK hP hD hS 0 rfl rfl 9 (by decide) (hts _ (wM_c wd_679)) (fun _ h9 => h9) rfl (by decide +kernel) rfl rfl (Nat.le_of_ble_eq_true rfl) dX11_refuse_2 (fun H locs hP hD hS => ?_)
  have hP : va_P (dC, dI) classes [(x0, .inr (11, [.ref rd, .ref dr, .ref bk, .ref st, .ref nw, .ref tr, .ref pl, .ref fl, .ref rg, .int why, .int ft, .int pc]))] H := hP
  have hD : va_D A [(x0, .inr (11, [.ref rd, .ref dr, .ref bk, .ref st, .ref nw, .ref tr, .ref pl, .ref fl, .ref rg, .int why, .int ft, .int pc]))] := hD
  refine lv_iconst (v := (-1)) hx hb dX11_refuse_5 (by decide) ?_
  have hP9 := hP.sub (ws' := [(x0, .inr (11, [.ref rd, .ref dr, .ref bk, .ref st, .ref nw, .ref tr, .ref pl, .ref fl, .ref rg, .int why, .int ft, .int pc]))]) [0] rfl
  have hD9 := hD.sub (ws' := [(x0, .inr (11, [.ref rd, .ref dr, .ref bk, .ref st, .ref nw, .ref tr, .ref pl, .ref fl, .ref rg, .int why, .int ft, .int pc]))]) [0] (by decide) rfl
  have hK9 := hK.sub (tys' := []) [] rfl
  exact W.iret (v := (-1)) hx hb hr (fun t ht hW => ⟨⟨(-1), (), rfl, rfl, by rw [ht]; exact hP9, va_K.moved hW.alike hK9, hD9⟩, hS.F ht⟩) hS.2.2 dX11_refuse_6
set_option maxHeartbeats 4000000 in
set_option maxRecDepth 100000 in
theorem c_deny (l : Launch) (dC : Nat → ClassId) (dI : Nat → Nat → Nat) (n0 sz : Nat) (x0 : Nat) (rd : Nat) (dr : Nat) (bk : Nat) (st : Nat) (nw : Nat) (tr : Nat) (pl : Nat) (fl : Nat) (rg : Nat) (tb : Int32) (ft : Int32) (pc : Int32) (why : Int32) : Met l yX11_deny (wM yX11_deny cX11_deny 2 (some .boolean)) ({ frames := 0, cells := 0, slots := 0, locals := 0 }) (va_Pc [.ref x0, .int why] (fun U => U.heap.size = sz ∧ n0 ≤ sz ∧ GW n0 U ∧ va_P (dC, dI) classes [(x0, .inr (11, [.ref rd, .ref dr, .ref bk, .ref st, .ref nw, .ref tr, .ref pl, .ref fl, .ref rg, .int tb, .int ft, .int pc]))] U.heap ∧ va_K (dC, dI) classes [] U ∧ va_D (fun q => n0 ≤ q) [(x0, .inr (11, [.ref rd, .ref dr, .ref bk, .ref st, .ref nw, .ref tr, .ref pl, .ref fl, .ref rg, .int tb, .int ft, .int pc]))])) (va_Qi (fun (r : Int32) (_ : Unit) => r = 0) (fun (_ : Unit) (t : State) => va_P (dC, dI) classes [(x0, .inr (11, [.ref rd, .ref dr, .ref bk, .ref st, .ref nw, .ref tr, .ref pl, .ref fl, .ref rg, .int why, .int ft, .int pc]))] t.heap ∧ va_K (dC, dI) classes [] t ∧ va_D (va_A [(x0, .inr (11, [.ref rd, .ref dr, .ref bk, .ref st, .ref nw, .ref tr, .ref pl, .ref fl, .ref rg, .int tb, .int ft, .int pc]))] sz) [(x0, .inr (11, [.ref rd, .ref dr, .ref bk, .ref st, .ref nw, .ref tr, .ref pl, .ref fl, .ref rg, .int why, .int ft, .int pc]))]) (va_A [(x0, .inr (11, [.ref rd, .ref dr, .ref bk, .ref st, .ref nw, .ref tr, .ref pl, .ref fl, .ref rg, .int tb, .int ft, .int pc]))] sz)) 0 0 (va_A [(x0, .inr (11, [.ref rd, .ref dr, .ref bk, .ref st, .ref nw, .ref tr, .ref pl, .ref fl, .ref rg, .int tb, .int ft, .int pc]))] sz) := by
  refine Met.ofW (cc := cX11_deny) (maxL := 2) (ret := (some .boolean)) (by decide) rfl ?_
  intro p e s m args below meth c s₁ B hml hv
  obtain ⟨rfl, hsz, hn0, hG, hP, hK, hD0⟩ := hv
  have hx := B.exec
  have hb := B.bytes
  have hr := B.returns
  have hts := atoms_spec (ws := wM yX11_deny cX11_deny 2 (some .boolean)) B.pre
  have hown : s.vm.findClass RX11 = some m.cls := findClass_of_methodNamed B.named
  have hlocks := B.notSynchronized
  subst hsz
  have hD := hD0.self (sz := s.heap.size)
  have hA0 := vA_n0 hD0 hn0
  generalize hAe : va_A [(x0, .inr (11, [.ref rd, .ref dr, .ref bk, .ref st, .ref nw, .ref tr, .ref pl, .ref fl, .ref rg, .int tb, .int ft, .int pc]))] s.heap.size = A at hD hA0 ⊢
  have hA : ∀ q : Nat, s.heap.size ≤ q → A q := fun q h => by rw [← hAe]; exact Or.inr h
  have hS : va_S A s.heap s.heap [] := va_S.rf
  have hl := lv_entry ([.ref x0, .int why]) (n := 2) (Nat.le_of_ble_eq_true rfl)
  rw [lg_entry_eq]
  generalize (lg_sl ([.ref x0, .int why]) ++ List.replicate (2 - (lg_sl ([.ref x0, .int why])).length) Slot.unset).toArray = ls at hl ⊢
  have hl : lv_has ls 2 [(0, .ref x0), (1, .int why)] := hl
  refine lv_aload_n hx hb dX11_deny_0 rfl (lv_at hl 0 rfl) ?_
  refine lv_iload_n hx hb dX11_deny_1 rfl (lv_at hl 1 rfl) ?_
  refine va_put (D := (dC, dI)) (ci := 11) (v := .int why) (ty := .int) (C := RX11) (T := TX11) (N := 12) hx hb hts (fun w h => wM_c (iX11 w h)) tyX11 tyX11_ok nmX11 hown hK hP hD hS 0 rfl rfl 9 (by decide) (hts _ (wM_c wd_679)) (fun _ h9 => h9) rfl (by decide +kernel) rfl rfl (Nat.le_of_ble_eq_true rfl) dX11_deny_2 (fun H locs hP hD hS => ?_)
  have hP : va_P (dC, dI) classes [(x0, .inr (11, [.ref rd, .ref dr, .ref bk, .ref st, .ref nw, .ref tr, .ref pl, .ref fl, .ref rg, .int why, .int ft, .int pc]))] H := hP
  have hD : va_D A [(x0, .inr (11, [.ref rd, .ref dr, .ref bk, .ref st, .ref nw, .ref tr, .ref pl, .ref fl, .ref rg, .int why, .int ft, .int pc]))] := hD
  refine lv_iconst (v := 0) hx hb dX11_deny_5 (by decide) ?_
  have hP9 := hP.sub (ws' := [(x0, .inr (11, [.ref rd, .ref dr, .ref bk, .ref st, .ref nw, .ref tr, .ref pl, .ref fl, .ref rg, .int why, .int ft, .int pc]))]) [0] rfl
  have hD9 := hD.sub (ws' := [(x0, .inr (11, [.ref rd, .ref dr, .ref bk, .ref st, .ref nw, .ref tr, .ref pl, .ref fl, .ref rg, .int why, .int ft, .int pc]))]) [0] (by decide) rfl
  have hK9 := hK.sub (tys' := []) [] rfl
  exact W.zret (v := 0) hx hb hr rfl (fun t ht hW => ⟨⟨0, (), rfl, rfl, by rw [ht]; exact hP9, va_K.moved hW.alike hK9, hD9⟩, hS.F ht⟩) hS.2.2 dX11_deny_6
set_option maxHeartbeats 4000000 in
set_option maxRecDepth 100000 in
theorem c_accept (l : Launch) (dC : Nat → ClassId) (dI : Nat → Nat → Nat) (n0 sz : Nat) (x0 : Nat) (rd : Nat) (dr : Nat) (bk : Nat) (st : Nat) (nw : Nat) (tr : Nat) (pl : Nat) (fl : Nat) (rg : Nat) (tb : Int32) (ft : Int32) (pc : Int32) (an : Int32) : Met l yX11_accept (wM yX11_accept cX11_accept 2 (some .int)) ({ frames := 0, cells := 0, slots := 0, locals := 0 }) (va_Pc [.ref x0, .int an] (fun U => U.heap.size = sz ∧ n0 ≤ sz ∧ GW n0 U ∧ va_P (dC, dI) classes [(x0, .inr (11, [.ref rd, .ref dr, .ref bk, .ref st, .ref nw, .ref tr, .ref pl, .ref fl, .ref rg, .int tb, .int ft, .int pc]))] U.heap ∧ va_K (dC, dI) classes [] U ∧ va_D (fun q => n0 ≤ q) [(x0, .inr (11, [.ref rd, .ref dr, .ref bk, .ref st, .ref nw, .ref tr, .ref pl, .ref fl, .ref rg, .int tb, .int ft, .int pc]))])) (va_Qi (fun (r : Int32) (_ : Unit) => r = an) (fun (_ : Unit) (t : State) => va_P (dC, dI) classes [(x0, .inr (11, [.ref rd, .ref dr, .ref bk, .ref st, .ref nw, .ref tr, .ref pl, .ref fl, .ref rg, .int 0, .int ft, .int pc]))] t.heap ∧ va_K (dC, dI) classes [] t ∧ va_D (va_A [(x0, .inr (11, [.ref rd, .ref dr, .ref bk, .ref st, .ref nw, .ref tr, .ref pl, .ref fl, .ref rg, .int tb, .int ft, .int pc]))] sz) [(x0, .inr (11, [.ref rd, .ref dr, .ref bk, .ref st, .ref nw, .ref tr, .ref pl, .ref fl, .ref rg, .int 0, .int ft, .int pc]))]) (va_A [(x0, .inr (11, [.ref rd, .ref dr, .ref bk, .ref st, .ref nw, .ref tr, .ref pl, .ref fl, .ref rg, .int tb, .int ft, .int pc]))] sz)) 0 0 (va_A [(x0, .inr (11, [.ref rd, .ref dr, .ref bk, .ref st, .ref nw, .ref tr, .ref pl, .ref fl, .ref rg, .int tb, .int ft, .int pc]))] sz) := by
  refine Met.ofW (cc := cX11_accept) (maxL := 2) (ret := (some .int)) (by decide) rfl ?_
  intro p e s m args below meth c s₁ B hml hv
  obtain ⟨rfl, hsz, hn0, hG, hP, hK, hD0⟩ := hv
  have hx := B.exec
  have hb := B.bytes
  have hr := B.returns
  have hts := atoms_spec (ws := wM yX11_accept cX11_accept 2 (some .int)) B.pre
  have hown : s.vm.findClass RX11 = some m.cls := findClass_of_methodNamed B.named
  have hlocks := B.notSynchronized
  subst hsz
  have hD := hD0.self (sz := s.heap.size)
  have hA0 := vA_n0 hD0 hn0
  generalize hAe : va_A [(x0, .inr (11, [.ref rd, .ref dr, .ref bk, .ref st, .ref nw, .ref tr, .ref pl, .ref fl, .ref rg, .int tb, .int ft, .int pc]))] s.heap.size = A at hD hA0 ⊢
  have hA : ∀ q : Nat, s.heap.size ≤ q → A q := fun q h => by rw [← hAe]; exact Or.inr h
  have hS : va_S A s.heap s.heap [] := va_S.rf
  have hl := lv_entry ([.ref x0, .int an]) (n := 2) (Nat.le_of_ble_eq_true rfl)
  rw [lg_entry_eq]
  generalize (lg_sl ([.ref x0, .int an]) ++ List.replicate (2 - (lg_sl ([.ref x0, .int an])).length) Slot.unset).toArray = ls at hl ⊢
  have hl : lv_has ls 2 [(0, .ref x0), (1, .int an)] := hl
  refine lv_aload_n hx hb dX11_accept_0 rfl (lv_at hl 0 rfl) ?_
  refine lv_iconst (v := 0) hx hb dX11_accept_1 (by decide) ?_
  refine va_put (D := (dC, dI)) (ci := 11) (v := .int 0) (ty := .int) (C := RX11) (T := TX11) (N := 12) hx hb hts (fun w h => wM_c (iX11 w h)) tyX11 tyX11_ok nmX11 hown hK hP hD hS 0 rfl rfl 9 (by decide) (hts _ (wM_c wd_679)) (fun _ h9 => h9) rfl (by decide +kernel) rfl rfl (Nat.le_of_ble_eq_true rfl) dX11_accept_2 (fun H locs hP hD hS => ?_)
  have hP : va_P (dC, dI) classes [(x0, .inr (11, [.ref rd, .ref dr, .ref bk, .ref st, .ref nw, .ref tr, .ref pl, .ref fl, .ref rg, .int 0, .int ft, .int pc]))] H := hP
  have hD : va_D A [(x0, .inr (11, [.ref rd, .ref dr, .ref bk, .ref st, .ref nw, .ref tr, .ref pl, .ref fl, .ref rg, .int 0, .int ft, .int pc]))] := hD
  refine lv_iload_n hx hb dX11_accept_5 rfl (lv_at hl 1 rfl) ?_
  have hP9 := hP.sub (ws' := [(x0, .inr (11, [.ref rd, .ref dr, .ref bk, .ref st, .ref nw, .ref tr, .ref pl, .ref fl, .ref rg, .int 0, .int ft, .int pc]))]) [0] rfl
  have hD9 := hD.sub (ws' := [(x0, .inr (11, [.ref rd, .ref dr, .ref bk, .ref st, .ref nw, .ref tr, .ref pl, .ref fl, .ref rg, .int 0, .int ft, .int pc]))]) [0] (by decide) rfl
  have hK9 := hK.sub (tys' := []) [] rfl
  exact W.iret (v := an) hx hb hr (fun t ht hW => ⟨⟨an, (), rfl, rfl, by rw [ht]; exact hP9, va_K.moved hW.alike hK9, hD9⟩, hS.F ht⟩) hS.2.2 dX11_accept_6
set_option maxHeartbeats 4000000 in
set_option maxRecDepth 100000 in
theorem c_allow (l : Launch) (dC : Nat → ClassId) (dI : Nat → Nat → Nat) (n0 sz : Nat) (x0 : Nat) (rd : Nat) (dr : Nat) (bk : Nat) (st : Nat) (nw : Nat) (tr : Nat) (pl : Nat) (fl : Nat) (rg : Nat) (tb : Int32) (ft : Int32) (pc : Int32) : Met l yX11_allow (wM yX11_allow cX11_allow 1 (some .boolean)) ({ frames := 0, cells := 0, slots := 0, locals := 0 }) (va_Pc [.ref x0] (fun U => U.heap.size = sz ∧ n0 ≤ sz ∧ GW n0 U ∧ va_P (dC, dI) classes [(x0, .inr (11, [.ref rd, .ref dr, .ref bk, .ref st, .ref nw, .ref tr, .ref pl, .ref fl, .ref rg, .int tb, .int ft, .int pc]))] U.heap ∧ va_K (dC, dI) classes [] U ∧ va_D (fun q => n0 ≤ q) [(x0, .inr (11, [.ref rd, .ref dr, .ref bk, .ref st, .ref nw, .ref tr, .ref pl, .ref fl, .ref rg, .int tb, .int ft, .int pc]))])) (va_Qi (fun (r : Int32) (_ : Unit) => r = 1) (fun (_ : Unit) (t : State) => va_P (dC, dI) classes [(x0, .inr (11, [.ref rd, .ref dr, .ref bk, .ref st, .ref nw, .ref tr, .ref pl, .ref fl, .ref rg, .int 0, .int ft, .int pc]))] t.heap ∧ va_K (dC, dI) classes [] t ∧ va_D (va_A [(x0, .inr (11, [.ref rd, .ref dr, .ref bk, .ref st, .ref nw, .ref tr, .ref pl, .ref fl, .ref rg, .int tb, .int ft, .int pc]))] sz) [(x0, .inr (11, [.ref rd, .ref dr, .ref bk, .ref st, .ref nw, .ref tr, .ref pl, .ref fl, .ref rg, .int 0, .int ft, .int pc]))]) (va_A [(x0, .inr (11, [.ref rd, .ref dr, .ref bk, .ref st, .ref nw, .ref tr, .ref pl, .ref fl, .ref rg, .int tb, .int ft, .int pc]))] sz)) 0 0 (va_A [(x0, .inr (11, [.ref rd, .ref dr, .ref bk, .ref st, .ref nw, .ref tr, .ref pl, .ref fl, .ref rg, .int tb, .int ft, .int pc]))] sz) := by
  refine Met.ofW (cc := cX11_allow) (maxL := 1) (ret := (some .boolean)) (by decide) rfl ?_
  intro p e s m args below meth c s₁ B hml hv
  obtain ⟨rfl, hsz, hn0, hG, hP, hK, hD0⟩ := hv
  have hx := B.exec
  have hb := B.bytes
  have hr := B.returns
  have hts := atoms_spec (ws := wM yX11_allow cX11_allow 1 (some .boolean)) B.pre
  have hown : s.vm.findClass RX11 = some m.cls := findClass_of_methodNamed B.named
  have hlocks := B.notSynchronized
  subst hsz
  have hD := hD0.self (sz := s.heap.size)
  have hA0 := vA_n0 hD0 hn0
  generalize hAe : va_A [(x0, .inr (11, [.ref rd, .ref dr, .ref bk, .ref st, .ref nw, .ref tr, .ref pl, .ref fl, .ref rg, .int tb, .int ft, .int pc]))] s.heap.size = A at hD hA0 ⊢
  have hA : ∀ q : Nat, s.heap.size ≤ q → A q := fun q h => by rw [← hAe]; exact Or.inr h
  have hS : va_S A s.heap s.heap [] := va_S.rf
  have hl := lv_entry ([.ref x0]) (n := 1) (Nat.le_of_ble_eq_true rfl)
  rw [lg_entry_eq]
  generalize (lg_sl ([.ref x0]) ++ List.replicate (1 - (lg_sl ([.ref x0])).length) Slot.unset).toArray = ls at hl ⊢
  have hl : lv_has ls 1 [(0, .ref x0)] := hl
  refine lv_aload_n hx hb dX11_allow_0 rfl (lv_at hl 0 rfl) ?_
  refine lv_iconst (v := 0) hx hb dX11_allow_1 (by decide) ?_
  refine va_put (D := (dC, dI)) (ci := 11) (v := .int 0) (ty := .int) (C := RX11) (T := TX11) (N := 12) hx hb hts (fun w h => wM_c (iX11 w h)) tyX11 tyX11_ok nmX11 hown hK hP hD hS 0 rfl rfl 9 (by decide) (hts _ (wM_c wd_679)) (fun _ h9 => h9) rfl (by decide +kernel) rfl rfl (Nat.le_of_ble_eq_true rfl) dX11_allow_2 (fun H locs hP hD hS => ?_)
  have hP : va_P (dC, dI) classes [(x0, .inr (11, [.ref rd, .ref dr, .ref bk, .ref st, .ref nw, .ref tr, .ref pl, .ref fl, .ref rg, .int 0, .int ft, .int pc]))] H := hP
  have hD : va_D A [(x0, .inr (11, [.ref rd, .ref dr, .ref bk, .ref st, .ref nw, .ref tr, .ref pl, .ref fl, .ref rg, .int 0, .int ft, .int pc]))] := hD
  refine lv_iconst (v := 1) hx hb dX11_allow_5 (by decide) ?_
  have hP9 := hP.sub (ws' := [(x0, .inr (11, [.ref rd, .ref dr, .ref bk, .ref st, .ref nw, .ref tr, .ref pl, .ref fl, .ref rg, .int 0, .int ft, .int pc]))]) [0] rfl
  have hD9 := hD.sub (ws' := [(x0, .inr (11, [.ref rd, .ref dr, .ref bk, .ref st, .ref nw, .ref tr, .ref pl, .ref fl, .ref rg, .int 0, .int ft, .int pc]))]) [0] (by decide) rfl
  have hK9 := hK.sub (tys' := []) [] rfl
  exact W.zret (v := 1) hx hb hr rfl (fun t ht hW => ⟨⟨1, (), rfl, rfl, by rw [ht]; exact hP9, va_K.moved hW.alike hK9, hD9⟩, hS.F ht⟩) hS.2.2 dX11_allow_6
set_option maxHeartbeats 4000000 in
set_option maxRecDepth 100000 in
theorem c_isWay (l : Launch) (dC : Nat → ClassId) (dI : Nat → Nat → Nat) (n0 sz : Nat) (x0 : Nat) (rd : Nat) (dr : Nat) (bk : Nat) (st : Nat) (nw : Nat) (tr : Nat) (pl : Nat) (fl : Nat) (rg : Nat) (tb : Int32) (ft : Int32) (pc : Int32) (bk_tail : Nat) (bk_head : Nat) (bk_hinder : Nat) (bk_size : Nat) (bk_walk : Nat) (bk_draught : Nat) (bk_doorIn : Nat) (bk_fanIn : Nat) (bk_faceIn : Nat) (gr : Nat) (w : Int32) : Met l yX11_isWay (wM yX11_isWay cX11_isWay 2 (some .boolean)) ({ frames := 0, cells := 0, slots := 0, locals := 0 }) (va_Pc [.ref x0, .int w] (fun U => U.heap.size = sz ∧ n0 ≤ sz ∧ GW n0 U ∧ va_P (dC, dI) classes [(x0, .inr (11, [.ref rd, .ref dr, .ref bk, .ref st, .ref nw, .ref tr, .ref pl, .ref fl, .ref rg, .int tb, .int ft, .int pc])), (bk, .inr (0, [.int 0, .ref bk_tail, .ref bk_head, .ref bk_hinder, .ref bk_size, .ref bk_walk, .ref bk_draught, .ref bk_doorIn, .ref bk_fanIn, .ref bk_faceIn, .int 0, .int (-1), .ref gr]))] U.heap ∧ va_K (dC, dI) classes [] U ∧ va_D (fun q => n0 ≤ q) [(x0, .inr (11, [.ref rd, .ref dr, .ref bk, .ref st, .ref nw, .ref tr, .ref pl, .ref fl, .ref rg, .int tb, .int ft, .int pc])), (bk, .inr (0, [.int 0, .ref bk_tail, .ref bk_head, .ref bk_hinder, .ref bk_size, .ref bk_walk, .ref bk_draught, .ref bk_doorIn, .ref bk_fanIn, .ref bk_faceIn, .int 0, .int (-1), .ref gr]))])) (va_Qi (fun (r : Int32) (_ : Unit) => r = 0) (fun (_ : Unit) (t : State) => va_P (dC, dI) classes [(x0, .inr (11, [.ref rd, .ref dr, .ref bk, .ref st, .ref nw, .ref tr, .ref pl, .ref fl, .ref rg, .int tb, .int ft, .int pc])), (bk, .inr (0, [.int 0, .ref bk_tail, .ref bk_head, .ref bk_hinder, .ref bk_size, .ref bk_walk, .ref bk_draught, .ref bk_doorIn, .ref bk_fanIn, .ref bk_faceIn, .int 0, .int (-1), .ref gr]))] t.heap ∧ va_K (dC, dI) classes [] t ∧ va_D (va_A [(x0, .inr (11, [.ref rd, .ref dr, .ref bk, .ref st, .ref nw, .ref tr, .ref pl, .ref fl, .ref rg, .int tb, .int ft, .int pc])), (bk, .inr (0, [.int 0, .ref bk_tail, .ref bk_head, .ref bk_hinder, .ref bk_size, .ref bk_walk, .ref bk_draught, .ref bk_doorIn, .ref bk_fanIn, .ref bk_faceIn, .int 0, .int (-1), .ref gr]))] sz) [(x0, .inr (11, [.ref rd, .ref dr, .ref bk, .ref st, .ref nw, .ref tr, .ref pl, .ref fl, .ref rg, .int tb, .int ft, .int pc])), (bk, .inr (0, [.int 0, .ref bk_tail, .ref bk_head, .ref bk_hinder, .ref bk_size, .ref bk_walk, .ref bk_draught, .ref bk_doorIn, .ref bk_fanIn, .ref bk_faceIn, .int 0, .int (-1), .ref gr]))]) (va_A [(x0, .inr (11, [.ref rd, .ref dr, .ref bk, .ref st, .ref nw, .ref tr, .ref pl, .ref fl, .ref rg, .int tb, .int ft, .int pc])), (bk, .inr (0, [.int 0, .ref bk_tail, .ref bk_head, .ref bk_hinder, .ref bk_size, .ref bk_walk, .ref bk_draught, .ref bk_doorIn, .ref bk_fanIn, .ref bk_faceIn, .int 0, .int (-1), .ref gr]))] sz)) 0 0 (va_A [(x0, .inr (11, [.ref rd, .ref dr, .ref bk, .ref st, .ref nw, .ref tr, .ref pl, .ref fl, .ref rg, .int tb, .int ft, .int pc])), (bk, .inr (0, [.int 0, .ref bk_tail, .ref bk_head, .ref bk_hinder, .ref bk_size, .ref bk_walk, .ref bk_draught, .ref bk_doorIn, .ref bk_fanIn, .ref bk_faceIn, .int 0, .int (-1), .ref gr]))] sz) := by
  refine Met.ofW (cc := cX11_isWay) (maxL := 2) (ret := (some .boolean)) (by decide) rfl ?_
  intro p e s m args below meth c s₁ B hml hv
  obtain ⟨rfl, hsz, hn0, hG, hP, hK, hD0⟩ := hv
  have hx := B.exec
  have hb := B.bytes
  have hr := B.returns
  have hts := atoms_spec (ws := wM yX11_isWay cX11_isWay 2 (some .boolean)) B.pre
  have hown : s.vm.findClass RX11 = some m.cls := findClass_of_methodNamed B.named
  have hlocks := B.notSynchronized
  subst hsz
  have hD := hD0.self (sz := s.heap.size)
  have hA0 := vA_n0 hD0 hn0
  generalize hAe : va_A [(x0, .inr (11, [.ref rd, .ref dr, .ref bk, .ref st, .ref nw, .ref tr, .ref pl, .ref fl, .ref rg, .int tb, .int ft, .int pc])), (bk, .inr (0, [.int 0, .ref bk_tail, .ref bk_head, .ref bk_hinder, .ref bk_size, .ref bk_walk, .ref bk_draught, .ref bk_doorIn, .ref bk_fanIn, .ref bk_faceIn, .int 0, .int (-1), .ref gr]))] s.heap.size = A at hD hA0 ⊢
  have hA : ∀ q : Nat, s.heap.size ≤ q → A q := fun q h => by rw [← hAe]; exact Or.inr h
  have hS : va_S A s.heap s.heap [] := va_S.rf
  have hl := lv_entry ([.ref x0, .int w]) (n := 2) (Nat.le_of_ble_eq_true rfl)
  rw [lg_entry_eq]
  generalize (lg_sl ([.ref x0, .int w]) ++ List.replicate (2 - (lg_sl ([.ref x0, .int w])).length) Slot.unset).toArray = ls at hl ⊢
  have hl : lv_has ls 2 [(0, .ref x0), (1, .int w)] := hl
  refine lv_iload_n hx hb dX11_isWay_0 rfl (lv_at hl 1 rfl) ?_
  refine lv_if_lt (tgt := 19) hx hb dX11_isWay_1 (by decide) (fun c_1 => ?_) (fun c_1 => ?_)
  · skip
    refine lv_iconst (v := 0) hx hb dX11_isWay_19 (by decide) ?_
    have hP9 := hP.sub (ws' := [(x0, .inr (11, [.ref rd, .ref dr, .ref bk, .ref st, .ref nw, .ref tr, .ref pl, .ref fl, .ref rg, .int tb, .int ft, .int pc])), (bk, .inr (0, [.int 0, .ref bk_tail, .ref bk_head, .ref bk_hinder, .ref bk_size, .ref bk_walk, .ref bk_draught, .ref bk_doorIn, .ref bk_fanIn, .ref bk_faceIn, .int 0, .int (-1), .ref gr]))]) [0, 1] rfl
    have hD9 := hD.sub (ws' := [(x0, .inr (11, [.ref rd, .ref dr, .ref bk, .ref st, .ref nw, .ref tr, .ref pl, .ref fl, .ref rg, .int tb, .int ft, .int pc])), (bk, .inr (0, [.int 0, .ref bk_tail, .ref bk_head, .ref bk_hinder, .ref bk_size, .ref bk_walk, .ref bk_draught, .ref bk_doorIn, .ref bk_fanIn, .ref bk_faceIn, .int 0, .int (-1), .ref gr]))]) [0, 1] (by decide) rfl
    have hK9 := hK.sub (tys' := []) [] rfl
    exact W.zret (v := 0) hx hb hr rfl (fun t ht hW => ⟨⟨0, (), rfl, rfl, by rw [ht]; exact hP9, va_K.moved hW.alike hK9, hD9⟩, hS.F ht⟩) hS.2.2 dX11_isWay_20
  · skip
    refine lv_iload_n hx hb dX11_isWay_4 rfl (lv_at hl 1 rfl) ?_
    refine lv_aload_n hx hb dX11_isWay_5 rfl (lv_at hl 0 rfl) ?_
    refine va_get (D := (dC, dI)) (ci := 11) (v := .ref bk) (C := RX11) (T := TX11) (N := 12) hx hb hts (fun w h => wM_c (iX11 w h)) hown hK hP 0 rfl rfl 2 (by decide) (hts _ (wM_c wd_672)) (fun _ h9 => h9) rfl dX11_isWay_6 ?_
    refine va_get (D := (dC, dI)) (ci := 0) (v := .int 0) (C := RX0) (T := TX0) (N := 13) hx hb hts (fun w h => wM_c (iX0 w h)) hown hK hP 1 rfl rfl 0 (by decide) (hts _ (wM_c wd_243)) (fun _ h9 => h9) rfl dX11_isWay_9 ?_
    refine lv_icmp_ge (tgt := 19) hx hb dX11_isWay_12 (by decide) (fun c_2 => ?_) (fun c_2 => ?_)
    · skip
      refine lv_iconst (v := 0) hx hb dX11_isWay_19 (by decide) ?_
      have hP9 := hP.sub (ws' := [(x0, .inr (11, [.ref rd, .ref dr, .ref bk, .ref st, .ref nw, .ref tr, .ref pl, .ref fl, .ref rg, .int tb, .int ft, .int pc])), (bk, .inr (0, [.int 0, .ref bk_tail, .ref bk_head, .ref bk_hinder, .ref bk_size, .ref bk_walk, .ref bk_draught, .ref bk_doorIn, .ref bk_fanIn, .ref bk_faceIn, .int 0, .int (-1), .ref gr]))]) [0, 1] rfl
      have hD9 := hD.sub (ws' := [(x0, .inr (11, [.ref rd, .ref dr, .ref bk, .ref st, .ref nw, .ref tr, .ref pl, .ref fl, .ref rg, .int tb, .int ft, .int pc])), (bk, .inr (0, [.int 0, .ref bk_tail, .ref bk_head, .ref bk_hinder, .ref bk_size, .ref bk_walk, .ref bk_draught, .ref bk_doorIn, .ref bk_fanIn, .ref bk_faceIn, .int 0, .int (-1), .ref gr]))]) [0, 1] (by decide) rfl
      have hK9 := hK.sub (tys' := []) [] rfl
      exact W.zret (v := 0) hx hb hr rfl (fun t ht hW => ⟨⟨0, (), rfl, rfl, by rw [ht]; exact hP9, va_K.moved hW.alike hK9, hD9⟩, hS.F ht⟩) hS.2.2 dX11_isWay_20
    · exact absurd (nl0 c_1) c_2
set_option maxHeartbeats 4000000 in
set_option maxRecDepth 100000 in
theorem c_isDoor (l : Launch) (dC : Nat → ClassId) (dI : Nat → Nat → Nat) (n0 sz : Nat) (x0 : Nat) (rd : Nat) (dr : Nat) (bk : Nat) (st : Nat) (nw : Nat) (tr : Nat) (pl : Nat) (fl : Nat) (rg : Nat) (tb : Int32) (ft : Int32) (pc : Int32) (bk_tail : Nat) (bk_head : Nat) (bk_hinder : Nat) (bk_size : Nat) (bk_walk : Nat) (bk_draught : Nat) (bk_doorIn : Nat) (bk_fanIn : Nat) (bk_faceIn : Nat) (gr : Nat) (gr_doorBy : Nat) (gr_pairFirst : Nat) (gr_pairSecond : Nat) (gr_fanPush : Nat) (gr_fanFall : Nat) (gr_fanCost : Nat) (gr_faceWay : Nat) (gr_faceGas : Nat) (gr_faceNeed : Nat) (w : Int32) : Met l yX11_isDoor (wM yX11_isDoor cX11_isDoor 2 (some .boolean)) ({ frames := 0, cells := 0, slots := 0, locals := 0 }) (va_Pc [.ref x0, .int w] (fun U => U.heap.size = sz ∧ n0 ≤ sz ∧ GW n0 U ∧ va_P (dC, dI) classes [(x0, .inr (11, [.ref rd, .ref dr, .ref bk, .ref st, .ref nw, .ref tr, .ref pl, .ref fl, .ref rg, .int tb, .int ft, .int pc])), (bk, .inr (0, [.int 0, .ref bk_tail, .ref bk_head, .ref bk_hinder, .ref bk_size, .ref bk_walk, .ref bk_draught, .ref bk_doorIn, .ref bk_fanIn, .ref bk_faceIn, .int 0, .int (-1), .ref gr])), (gr, .inr (3, [.int 0, .ref gr_doorBy, .int 0, .ref gr_pairFirst, .ref gr_pairSecond, .int 0, .ref gr_fanPush, .ref gr_fanFall, .ref gr_fanCost, .int 0, .ref gr_faceWay, .ref gr_faceGas, .ref gr_faceNeed]))] U.heap ∧ va_K (dC, dI) classes [] U ∧ va_D (fun q => n0 ≤ q) [(x0, .inr (11, [.ref rd, .ref dr, .ref bk, .ref st, .ref nw, .ref tr, .ref pl, .ref fl, .ref rg, .int tb, .int ft, .int pc])), (bk, .inr (0, [.int 0, .ref bk_tail, .ref bk_head, .ref bk_hinder, .ref bk_size, .ref bk_walk, .ref bk_draught, .ref bk_doorIn, .ref bk_fanIn, .ref bk_faceIn, .int 0, .int (-1), .ref gr])), (gr, .inr (3, [.int 0, .ref gr_doorBy, .int 0, .ref gr_pairFirst, .ref gr_pairSecond, .int 0, .ref gr_fanPush, .ref gr_fanFall, .ref gr_fanCost, .int 0, .ref gr_faceWay, .ref gr_faceGas, .ref gr_faceNeed]))])) (va_Qi (fun (r : Int32) (_ : Unit) => r = 0) (fun (_ : Unit) (t : State) => va_P (dC, dI) classes [(x0, .inr (11, [.ref rd, .ref dr, .ref bk, .ref st, .ref nw, .ref tr, .ref pl, .ref fl, .ref rg, .int tb, .int ft, .int pc])), (bk, .inr (0, [.int 0, .ref bk_tail, .ref bk_head, .ref bk_hinder, .ref bk_size, .ref bk_walk, .ref bk_draught, .ref bk_doorIn, .ref bk_fanIn, .ref bk_faceIn, .int 0, .int (-1), .ref gr])), (gr, .inr (3, [.int 0, .ref gr_doorBy, .int 0, .ref gr_pairFirst, .ref gr_pairSecond, .int 0, .ref gr_fanPush, .ref gr_fanFall, .ref gr_fanCost, .int 0, .ref gr_faceWay, .ref gr_faceGas, .ref gr_faceNeed]))] t.heap ∧ va_K (dC, dI) classes [] t ∧ va_D (va_A [(x0, .inr (11, [.ref rd, .ref dr, .ref bk, .ref st, .ref nw, .ref tr, .ref pl, .ref fl, .ref rg, .int tb, .int ft, .int pc])), (bk, .inr (0, [.int 0, .ref bk_tail, .ref bk_head, .ref bk_hinder, .ref bk_size, .ref bk_walk, .ref bk_draught, .ref bk_doorIn, .ref bk_fanIn, .ref bk_faceIn, .int 0, .int (-1), .ref gr])), (gr, .inr (3, [.int 0, .ref gr_doorBy, .int 0, .ref gr_pairFirst, .ref gr_pairSecond, .int 0, .ref gr_fanPush, .ref gr_fanFall, .ref gr_fanCost, .int 0, .ref gr_faceWay, .ref gr_faceGas, .ref gr_faceNeed]))] sz) [(x0, .inr (11, [.ref rd, .ref dr, .ref bk, .ref st, .ref nw, .ref tr, .ref pl, .ref fl, .ref rg, .int tb, .int ft, .int pc])), (bk, .inr (0, [.int 0, .ref bk_tail, .ref bk_head, .ref bk_hinder, .ref bk_size, .ref bk_walk, .ref bk_draught, .ref bk_doorIn, .ref bk_fanIn, .ref bk_faceIn, .int 0, .int (-1), .ref gr])), (gr, .inr (3, [.int 0, .ref gr_doorBy, .int 0, .ref gr_pairFirst, .ref gr_pairSecond, .int 0, .ref gr_fanPush, .ref gr_fanFall, .ref gr_fanCost, .int 0, .ref gr_faceWay, .ref gr_faceGas, .ref gr_faceNeed]))]) (va_A [(x0, .inr (11, [.ref rd, .ref dr, .ref bk, .ref st, .ref nw, .ref tr, .ref pl, .ref fl, .ref rg, .int tb, .int ft, .int pc])), (bk, .inr (0, [.int 0, .ref bk_tail, .ref bk_head, .ref bk_hinder, .ref bk_size, .ref bk_walk, .ref bk_draught, .ref bk_doorIn, .ref bk_fanIn, .ref bk_faceIn, .int 0, .int (-1), .ref gr])), (gr, .inr (3, [.int 0, .ref gr_doorBy, .int 0, .ref gr_pairFirst, .ref gr_pairSecond, .int 0, .ref gr_fanPush, .ref gr_fanFall, .ref gr_fanCost, .int 0, .ref gr_faceWay, .ref gr_faceGas, .ref gr_faceNeed]))] sz)) 0 0 (va_A [(x0, .inr (11, [.ref rd, .ref dr, .ref bk, .ref st, .ref nw, .ref tr, .ref pl, .ref fl, .ref rg, .int tb, .int ft, .int pc])), (bk, .inr (0, [.int 0, .ref bk_tail, .ref bk_head, .ref bk_hinder, .ref bk_size, .ref bk_walk, .ref bk_draught, .ref bk_doorIn, .ref bk_fanIn, .ref bk_faceIn, .int 0, .int (-1), .ref gr])), (gr, .inr (3, [.int 0, .ref gr_doorBy, .int 0, .ref gr_pairFirst, .ref gr_pairSecond, .int 0, .ref gr_fanPush, .ref gr_fanFall, .ref gr_fanCost, .int 0, .ref gr_faceWay, .ref gr_faceGas, .ref gr_faceNeed]))] sz) := by
  refine Met.ofW (cc := cX11_isDoor) (maxL := 2) (ret := (some .boolean)) (by decide) rfl ?_
  intro p e s m args below meth c s₁ B hml hv
  obtain ⟨rfl, hsz, hn0, hG, hP, hK, hD0⟩ := hv
  have hx := B.exec
  have hb := B.bytes
  have hr := B.returns
  have hts := atoms_spec (ws := wM yX11_isDoor cX11_isDoor 2 (some .boolean)) B.pre
  have hown : s.vm.findClass RX11 = some m.cls := findClass_of_methodNamed B.named
  have hlocks := B.notSynchronized
  subst hsz
  have hD := hD0.self (sz := s.heap.size)
  have hA0 := vA_n0 hD0 hn0
  generalize hAe : va_A [(x0, .inr (11, [.ref rd, .ref dr, .ref bk, .ref st, .ref nw, .ref tr, .ref pl, .ref fl, .ref rg, .int tb, .int ft, .int pc])), (bk, .inr (0, [.int 0, .ref bk_tail, .ref bk_head, .ref bk_hinder, .ref bk_size, .ref bk_walk, .ref bk_draught, .ref bk_doorIn, .ref bk_fanIn, .ref bk_faceIn, .int 0, .int (-1), .ref gr])), (gr, .inr (3, [.int 0, .ref gr_doorBy, .int 0, .ref gr_pairFirst, .ref gr_pairSecond, .int 0, .ref gr_fanPush, .ref gr_fanFall, .ref gr_fanCost, .int 0, .ref gr_faceWay, .ref gr_faceGas, .ref gr_faceNeed]))] s.heap.size = A at hD hA0 ⊢
  have hA : ∀ q : Nat, s.heap.size ≤ q → A q := fun q h => by rw [← hAe]; exact Or.inr h
  have hS : va_S A s.heap s.heap [] := va_S.rf
  have hl := lv_entry ([.ref x0, .int w]) (n := 2) (Nat.le_of_ble_eq_true rfl)
  rw [lg_entry_eq]
  generalize (lg_sl ([.ref x0, .int w]) ++ List.replicate (2 - (lg_sl ([.ref x0, .int w])).length) Slot.unset).toArray = ls at hl ⊢
  have hl : lv_has ls 2 [(0, .ref x0), (1, .int w)] := hl
  refine lv_iload_n hx hb dX11_isDoor_0 rfl (lv_at hl 1 rfl) ?_
  refine lv_if_lt (tgt := 22) hx hb dX11_isDoor_1 (by decide) (fun c_1 => ?_) (fun c_1 => ?_)
  · skip
    refine lv_iconst (v := 0) hx hb dX11_isDoor_22 (by decide) ?_
    have hP9 := hP.sub (ws' := [(x0, .inr (11, [.ref rd, .ref dr, .ref bk, .ref st, .ref nw, .ref tr, .ref pl, .ref fl, .ref rg, .int tb, .int ft, .int pc])), (bk, .inr (0, [.int 0, .ref bk_tail, .ref bk_head, .ref bk_hinder, .ref bk_size, .ref bk_walk, .ref bk_draught, .ref bk_doorIn, .ref bk_fanIn, .ref bk_faceIn, .int 0, .int (-1), .ref gr])), (gr, .inr (3, [.int 0, .ref gr_doorBy, .int 0, .ref gr_pairFirst, .ref gr_pairSecond, .int 0, .ref gr_fanPush, .ref gr_fanFall, .ref gr_fanCost, .int 0, .ref gr_faceWay, .ref gr_faceGas, .ref gr_faceNeed]))]) [0, 1, 2] rfl
    have hD9 := hD.sub (ws' := [(x0, .inr (11, [.ref rd, .ref dr, .ref bk, .ref st, .ref nw, .ref tr, .ref pl, .ref fl, .ref rg, .int tb, .int ft, .int pc])), (bk, .inr (0, [.int 0, .ref bk_tail, .ref bk_head, .ref bk_hinder, .ref bk_size, .ref bk_walk, .ref bk_draught, .ref bk_doorIn, .ref bk_fanIn, .ref bk_faceIn, .int 0, .int (-1), .ref gr])), (gr, .inr (3, [.int 0, .ref gr_doorBy, .int 0, .ref gr_pairFirst, .ref gr_pairSecond, .int 0, .ref gr_fanPush, .ref gr_fanFall, .ref gr_fanCost, .int 0, .ref gr_faceWay, .ref gr_faceGas, .ref gr_faceNeed]))]) [0, 1, 2] (by decide) rfl
    have hK9 := hK.sub (tys' := []) [] rfl
    exact W.zret (v := 0) hx hb hr rfl (fun t ht hW => ⟨⟨0, (), rfl, rfl, by rw [ht]; exact hP9, va_K.moved hW.alike hK9, hD9⟩, hS.F ht⟩) hS.2.2 dX11_isDoor_23
  · skip
    refine lv_iload_n hx hb dX11_isDoor_4 rfl (lv_at hl 1 rfl) ?_
    refine lv_aload_n hx hb dX11_isDoor_5 rfl (lv_at hl 0 rfl) ?_
    refine va_get (D := (dC, dI)) (ci := 11) (v := .ref bk) (C := RX11) (T := TX11) (N := 12) hx hb hts (fun w h => wM_c (iX11 w h)) hown hK hP 0 rfl rfl 2 (by decide) (hts _ (wM_c wd_672)) (fun _ h9 => h9) rfl dX11_isDoor_6 ?_
    refine va_get (D := (dC, dI)) (ci := 0) (v := .ref gr) (C := RX0) (T := TX0) (N := 13) hx hb hts (fun w h => wM_c (iX0 w h)) hown hK hP 1 rfl rfl 12 (by decide) (hts _ (wM_c wd_299)) (fun _ h9 => h9) rfl dX11_isDoor_9 ?_
    refine va_get (D := (dC, dI)) (ci := 3) (v := .int 0) (C := RX3) (T := TX3) (N := 13) hx hb hts (fun w h => wM_c (iX3 w h)) hown hK hP 2 rfl rfl 0 (by decide) (hts _ (wM_c wd_163)) (fun _ h9 => h9) rfl dX11_isDoor_12 ?_
    refine lv_icmp_ge (tgt := 22) hx hb dX11_isDoor_15 (by decide) (fun c_2 => ?_) (fun c_2 => ?_)
    · skip
      refine lv_iconst (v := 0) hx hb dX11_isDoor_22 (by decide) ?_
      have hP9 := hP.sub (ws' := [(x0, .inr (11, [.ref rd, .ref dr, .ref bk, .ref st, .ref nw, .ref tr, .ref pl, .ref fl, .ref rg, .int tb, .int ft, .int pc])), (bk, .inr (0, [.int 0, .ref bk_tail, .ref bk_head, .ref bk_hinder, .ref bk_size, .ref bk_walk, .ref bk_draught, .ref bk_doorIn, .ref bk_fanIn, .ref bk_faceIn, .int 0, .int (-1), .ref gr])), (gr, .inr (3, [.int 0, .ref gr_doorBy, .int 0, .ref gr_pairFirst, .ref gr_pairSecond, .int 0, .ref gr_fanPush, .ref gr_fanFall, .ref gr_fanCost, .int 0, .ref gr_faceWay, .ref gr_faceGas, .ref gr_faceNeed]))]) [0, 1, 2] rfl
      have hD9 := hD.sub (ws' := [(x0, .inr (11, [.ref rd, .ref dr, .ref bk, .ref st, .ref nw, .ref tr, .ref pl, .ref fl, .ref rg, .int tb, .int ft, .int pc])), (bk, .inr (0, [.int 0, .ref bk_tail, .ref bk_head, .ref bk_hinder, .ref bk_size, .ref bk_walk, .ref bk_draught, .ref bk_doorIn, .ref bk_fanIn, .ref bk_faceIn, .int 0, .int (-1), .ref gr])), (gr, .inr (3, [.int 0, .ref gr_doorBy, .int 0, .ref gr_pairFirst, .ref gr_pairSecond, .int 0, .ref gr_fanPush, .ref gr_fanFall, .ref gr_fanCost, .int 0, .ref gr_faceWay, .ref gr_faceGas, .ref gr_faceNeed]))]) [0, 1, 2] (by decide) rfl
      have hK9 := hK.sub (tys' := []) [] rfl
      exact W.zret (v := 0) hx hb hr rfl (fun t ht hW => ⟨⟨0, (), rfl, rfl, by rw [ht]; exact hP9, va_K.moved hW.alike hK9, hD9⟩, hS.F ht⟩) hS.2.2 dX11_isDoor_23
    · exact absurd (nl0 c_1) c_2
set_option maxHeartbeats 4000000 in
set_option maxRecDepth 100000 in
theorem c_isFan (l : Launch) (dC : Nat → ClassId) (dI : Nat → Nat → Nat) (n0 sz : Nat) (x0 : Nat) (rd : Nat) (dr : Nat) (bk : Nat) (st : Nat) (nw : Nat) (tr : Nat) (pl : Nat) (fl : Nat) (rg : Nat) (tb : Int32) (ft : Int32) (pc : Int32) (bk_tail : Nat) (bk_head : Nat) (bk_hinder : Nat) (bk_size : Nat) (bk_walk : Nat) (bk_draught : Nat) (bk_doorIn : Nat) (bk_fanIn : Nat) (bk_faceIn : Nat) (gr : Nat) (gr_doorBy : Nat) (gr_pairFirst : Nat) (gr_pairSecond : Nat) (gr_fanPush : Nat) (gr_fanFall : Nat) (gr_fanCost : Nat) (gr_faceWay : Nat) (gr_faceGas : Nat) (gr_faceNeed : Nat) (w : Int32) : Met l yX11_isFan (wM yX11_isFan cX11_isFan 2 (some .boolean)) ({ frames := 0, cells := 0, slots := 0, locals := 0 }) (va_Pc [.ref x0, .int w] (fun U => U.heap.size = sz ∧ n0 ≤ sz ∧ GW n0 U ∧ va_P (dC, dI) classes [(x0, .inr (11, [.ref rd, .ref dr, .ref bk, .ref st, .ref nw, .ref tr, .ref pl, .ref fl, .ref rg, .int tb, .int ft, .int pc])), (bk, .inr (0, [.int 0, .ref bk_tail, .ref bk_head, .ref bk_hinder, .ref bk_size, .ref bk_walk, .ref bk_draught, .ref bk_doorIn, .ref bk_fanIn, .ref bk_faceIn, .int 0, .int (-1), .ref gr])), (gr, .inr (3, [.int 0, .ref gr_doorBy, .int 0, .ref gr_pairFirst, .ref gr_pairSecond, .int 0, .ref gr_fanPush, .ref gr_fanFall, .ref gr_fanCost, .int 0, .ref gr_faceWay, .ref gr_faceGas, .ref gr_faceNeed]))] U.heap ∧ va_K (dC, dI) classes [] U ∧ va_D (fun q => n0 ≤ q) [(x0, .inr (11, [.ref rd, .ref dr, .ref bk, .ref st, .ref nw, .ref tr, .ref pl, .ref fl, .ref rg, .int tb, .int ft, .int pc])), (bk, .inr (0, [.int 0, .ref bk_tail, .ref bk_head, .ref bk_hinder, .ref bk_size, .ref bk_walk, .ref bk_draught, .ref bk_doorIn, .ref bk_fanIn, .ref bk_faceIn, .int 0, .int (-1), .ref gr])), (gr, .inr (3, [.int 0, .ref gr_doorBy, .int 0, .ref gr_pairFirst, .ref gr_pairSecond, .int 0, .ref gr_fanPush, .ref gr_fanFall, .ref gr_fanCost, .int 0, .ref gr_faceWay, .ref gr_faceGas, .ref gr_faceNeed]))])) (va_Qi (fun (r : Int32) (_ : Unit) => r = 0) (fun (_ : Unit) (t : State) => va_P (dC, dI) classes [(x0, .inr (11, [.ref rd, .ref dr, .ref bk, .ref st, .ref nw, .ref tr, .ref pl, .ref fl, .ref rg, .int tb, .int ft, .int pc])), (bk, .inr (0, [.int 0, .ref bk_tail, .ref bk_head, .ref bk_hinder, .ref bk_size, .ref bk_walk, .ref bk_draught, .ref bk_doorIn, .ref bk_fanIn, .ref bk_faceIn, .int 0, .int (-1), .ref gr])), (gr, .inr (3, [.int 0, .ref gr_doorBy, .int 0, .ref gr_pairFirst, .ref gr_pairSecond, .int 0, .ref gr_fanPush, .ref gr_fanFall, .ref gr_fanCost, .int 0, .ref gr_faceWay, .ref gr_faceGas, .ref gr_faceNeed]))] t.heap ∧ va_K (dC, dI) classes [] t ∧ va_D (va_A [(x0, .inr (11, [.ref rd, .ref dr, .ref bk, .ref st, .ref nw, .ref tr, .ref pl, .ref fl, .ref rg, .int tb, .int ft, .int pc])), (bk, .inr (0, [.int 0, .ref bk_tail, .ref bk_head, .ref bk_hinder, .ref bk_size, .ref bk_walk, .ref bk_draught, .ref bk_doorIn, .ref bk_fanIn, .ref bk_faceIn, .int 0, .int (-1), .ref gr])), (gr, .inr (3, [.int 0, .ref gr_doorBy, .int 0, .ref gr_pairFirst, .ref gr_pairSecond, .int 0, .ref gr_fanPush, .ref gr_fanFall, .ref gr_fanCost, .int 0, .ref gr_faceWay, .ref gr_faceGas, .ref gr_faceNeed]))] sz) [(x0, .inr (11, [.ref rd, .ref dr, .ref bk, .ref st, .ref nw, .ref tr, .ref pl, .ref fl, .ref rg, .int tb, .int ft, .int pc])), (bk, .inr (0, [.int 0, .ref bk_tail, .ref bk_head, .ref bk_hinder, .ref bk_size, .ref bk_walk, .ref bk_draught, .ref bk_doorIn, .ref bk_fanIn, .ref bk_faceIn, .int 0, .int (-1), .ref gr])), (gr, .inr (3, [.int 0, .ref gr_doorBy, .int 0, .ref gr_pairFirst, .ref gr_pairSecond, .int 0, .ref gr_fanPush, .ref gr_fanFall, .ref gr_fanCost, .int 0, .ref gr_faceWay, .ref gr_faceGas, .ref gr_faceNeed]))]) (va_A [(x0, .inr (11, [.ref rd, .ref dr, .ref bk, .ref st, .ref nw, .ref tr, .ref pl, .ref fl, .ref rg, .int tb, .int ft, .int pc])), (bk, .inr (0, [.int 0, .ref bk_tail, .ref bk_head, .ref bk_hinder, .ref bk_size, .ref bk_walk, .ref bk_draught, .ref bk_doorIn, .ref bk_fanIn, .ref bk_faceIn, .int 0, .int (-1), .ref gr])), (gr, .inr (3, [.int 0, .ref gr_doorBy, .int 0, .ref gr_pairFirst, .ref gr_pairSecond, .int 0, .ref gr_fanPush, .ref gr_fanFall, .ref gr_fanCost, .int 0, .ref gr_faceWay, .ref gr_faceGas, .ref gr_faceNeed]))] sz)) 0 0 (va_A [(x0, .inr (11, [.ref rd, .ref dr, .ref bk, .ref st, .ref nw, .ref tr, .ref pl, .ref fl, .ref rg, .int tb, .int ft, .int pc])), (bk, .inr (0, [.int 0, .ref bk_tail, .ref bk_head, .ref bk_hinder, .ref bk_size, .ref bk_walk, .ref bk_draught, .ref bk_doorIn, .ref bk_fanIn, .ref bk_faceIn, .int 0, .int (-1), .ref gr])), (gr, .inr (3, [.int 0, .ref gr_doorBy, .int 0, .ref gr_pairFirst, .ref gr_pairSecond, .int 0, .ref gr_fanPush, .ref gr_fanFall, .ref gr_fanCost, .int 0, .ref gr_faceWay, .ref gr_faceGas, .ref gr_faceNeed]))] sz) := by
  refine Met.ofW (cc := cX11_isFan) (maxL := 2) (ret := (some .boolean)) (by decide) rfl ?_
  intro p e s m args below meth c s₁ B hml hv
  obtain ⟨rfl, hsz, hn0, hG, hP, hK, hD0⟩ := hv
  have hx := B.exec
  have hb := B.bytes
  have hr := B.returns
  have hts := atoms_spec (ws := wM yX11_isFan cX11_isFan 2 (some .boolean)) B.pre
  have hown : s.vm.findClass RX11 = some m.cls := findClass_of_methodNamed B.named
  have hlocks := B.notSynchronized
  subst hsz
  have hD := hD0.self (sz := s.heap.size)
  have hA0 := vA_n0 hD0 hn0
  generalize hAe : va_A [(x0, .inr (11, [.ref rd, .ref dr, .ref bk, .ref st, .ref nw, .ref tr, .ref pl, .ref fl, .ref rg, .int tb, .int ft, .int pc])), (bk, .inr (0, [.int 0, .ref bk_tail, .ref bk_head, .ref bk_hinder, .ref bk_size, .ref bk_walk, .ref bk_draught, .ref bk_doorIn, .ref bk_fanIn, .ref bk_faceIn, .int 0, .int (-1), .ref gr])), (gr, .inr (3, [.int 0, .ref gr_doorBy, .int 0, .ref gr_pairFirst, .ref gr_pairSecond, .int 0, .ref gr_fanPush, .ref gr_fanFall, .ref gr_fanCost, .int 0, .ref gr_faceWay, .ref gr_faceGas, .ref gr_faceNeed]))] s.heap.size = A at hD hA0 ⊢
  have hA : ∀ q : Nat, s.heap.size ≤ q → A q := fun q h => by rw [← hAe]; exact Or.inr h
  have hS : va_S A s.heap s.heap [] := va_S.rf
  have hl := lv_entry ([.ref x0, .int w]) (n := 2) (Nat.le_of_ble_eq_true rfl)
  rw [lg_entry_eq]
  generalize (lg_sl ([.ref x0, .int w]) ++ List.replicate (2 - (lg_sl ([.ref x0, .int w])).length) Slot.unset).toArray = ls at hl ⊢
  have hl : lv_has ls 2 [(0, .ref x0), (1, .int w)] := hl
  refine lv_iload_n hx hb dX11_isFan_0 rfl (lv_at hl 1 rfl) ?_
  refine lv_if_lt (tgt := 22) hx hb dX11_isFan_1 (by decide) (fun c_1 => ?_) (fun c_1 => ?_)
  · skip
    refine lv_iconst (v := 0) hx hb dX11_isFan_22 (by decide) ?_
    have hP9 := hP.sub (ws' := [(x0, .inr (11, [.ref rd, .ref dr, .ref bk, .ref st, .ref nw, .ref tr, .ref pl, .ref fl, .ref rg, .int tb, .int ft, .int pc])), (bk, .inr (0, [.int 0, .ref bk_tail, .ref bk_head, .ref bk_hinder, .ref bk_size, .ref bk_walk, .ref bk_draught, .ref bk_doorIn, .ref bk_fanIn, .ref bk_faceIn, .int 0, .int (-1), .ref gr])), (gr, .inr (3, [.int 0, .ref gr_doorBy, .int 0, .ref gr_pairFirst, .ref gr_pairSecond, .int 0, .ref gr_fanPush, .ref gr_fanFall, .ref gr_fanCost, .int 0, .ref gr_faceWay, .ref gr_faceGas, .ref gr_faceNeed]))]) [0, 1, 2] rfl
    have hD9 := hD.sub (ws' := [(x0, .inr (11, [.ref rd, .ref dr, .ref bk, .ref st, .ref nw, .ref tr, .ref pl, .ref fl, .ref rg, .int tb, .int ft, .int pc])), (bk, .inr (0, [.int 0, .ref bk_tail, .ref bk_head, .ref bk_hinder, .ref bk_size, .ref bk_walk, .ref bk_draught, .ref bk_doorIn, .ref bk_fanIn, .ref bk_faceIn, .int 0, .int (-1), .ref gr])), (gr, .inr (3, [.int 0, .ref gr_doorBy, .int 0, .ref gr_pairFirst, .ref gr_pairSecond, .int 0, .ref gr_fanPush, .ref gr_fanFall, .ref gr_fanCost, .int 0, .ref gr_faceWay, .ref gr_faceGas, .ref gr_faceNeed]))]) [0, 1, 2] (by decide) rfl
    have hK9 := hK.sub (tys' := []) [] rfl
    exact W.zret (v := 0) hx hb hr rfl (fun t ht hW => ⟨⟨0, (), rfl, rfl, by rw [ht]; exact hP9, va_K.moved hW.alike hK9, hD9⟩, hS.F ht⟩) hS.2.2 dX11_isFan_23
  · skip
    refine lv_iload_n hx hb dX11_isFan_4 rfl (lv_at hl 1 rfl) ?_
    refine lv_aload_n hx hb dX11_isFan_5 rfl (lv_at hl 0 rfl) ?_
    refine va_get (D := (dC, dI)) (ci := 11) (v := .ref bk) (C := RX11) (T := TX11) (N := 12) hx hb hts (fun w h => wM_c (iX11 w h)) hown hK hP 0 rfl rfl 2 (by decide) (hts _ (wM_c wd_672)) (fun _ h9 => h9) rfl dX11_isFan_6 ?_
    refine va_get (D := (dC, dI)) (ci := 0) (v := .ref gr) (C := RX0) (T := TX0) (N := 13) hx hb hts (fun w h => wM_c (iX0 w h)) hown hK hP 1 rfl rfl 12 (by decide) (hts _ (wM_c wd_299)) (fun _ h9 => h9) rfl dX11_isFan_9 ?_
    refine va_get (D := (dC, dI)) (ci := 3) (v := .int 0) (C := RX3) (T := TX3) (N := 13) hx hb hts (fun w h => wM_c (iX3 w h)) hown hK hP 2 rfl rfl 5 (by decide) (hts _ (wM_c wd_182)) (fun _ h9 => h9) rfl dX11_isFan_12 ?_
    refine lv_icmp_ge (tgt := 22) hx hb dX11_isFan_15 (by decide) (fun c_2 => ?_) (fun c_2 => ?_)
    · skip
      refine lv_iconst (v := 0) hx hb dX11_isFan_22 (by decide) ?_
      have hP9 := hP.sub (ws' := [(x0, .inr (11, [.ref rd, .ref dr, .ref bk, .ref st, .ref nw, .ref tr, .ref pl, .ref fl, .ref rg, .int tb, .int ft, .int pc])), (bk, .inr (0, [.int 0, .ref bk_tail, .ref bk_head, .ref bk_hinder, .ref bk_size, .ref bk_walk, .ref bk_draught, .ref bk_doorIn, .ref bk_fanIn, .ref bk_faceIn, .int 0, .int (-1), .ref gr])), (gr, .inr (3, [.int 0, .ref gr_doorBy, .int 0, .ref gr_pairFirst, .ref gr_pairSecond, .int 0, .ref gr_fanPush, .ref gr_fanFall, .ref gr_fanCost, .int 0, .ref gr_faceWay, .ref gr_faceGas, .ref gr_faceNeed]))]) [0, 1, 2] rfl
      have hD9 := hD.sub (ws' := [(x0, .inr (11, [.ref rd, .ref dr, .ref bk, .ref st, .ref nw, .ref tr, .ref pl, .ref fl, .ref rg, .int tb, .int ft, .int pc])), (bk, .inr (0, [.int 0, .ref bk_tail, .ref bk_head, .ref bk_hinder, .ref bk_size, .ref bk_walk, .ref bk_draught, .ref bk_doorIn, .ref bk_fanIn, .ref bk_faceIn, .int 0, .int (-1), .ref gr])), (gr, .inr (3, [.int 0, .ref gr_doorBy, .int 0, .ref gr_pairFirst, .ref gr_pairSecond, .int 0, .ref gr_fanPush, .ref gr_fanFall, .ref gr_fanCost, .int 0, .ref gr_faceWay, .ref gr_faceGas, .ref gr_faceNeed]))]) [0, 1, 2] (by decide) rfl
      have hK9 := hK.sub (tys' := []) [] rfl
      exact W.zret (v := 0) hx hb hr rfl (fun t ht hW => ⟨⟨0, (), rfl, rfl, by rw [ht]; exact hP9, va_K.moved hW.alike hK9, hD9⟩, hS.F ht⟩) hS.2.2 dX11_isFan_23
    · exact absurd (nl0 c_1) c_2
set_option maxHeartbeats 4000000 in
set_option maxRecDepth 100000 in
theorem c_isBooked (l : Launch) (dC : Nat → ClassId) (dI : Nat → Nat → Nat) (n0 sz : Nat) (x0 : Nat) (rd : Nat) (dr : Nat) (bk : Nat) (st : Nat) (nw : Nat) (tr : Nat) (pl : Nat) (fl : Nat) (rg : Nat) (tb : Int32) (ft : Int32) (pc : Int32) (bk_tail : Nat) (bk_head : Nat) (bk_hinder : Nat) (bk_size : Nat) (bk_walk : Nat) (bk_draught : Nat) (bk_doorIn : Nat) (bk_fanIn : Nat) (bk_faceIn : Nat) (gr : Nat) : Met l yX11_isBooked (wM yX11_isBooked cX11_isBooked 1 (some .boolean)) ({ frames := 0, cells := 0, slots := 0, locals := 0 }) (va_Pc [.ref x0] (fun U => U.heap.size = sz ∧ n0 ≤ sz ∧ GW n0 U ∧ va_P (dC, dI) classes [(x0, .inr (11, [.ref rd, .ref dr, .ref bk, .ref st, .ref nw, .ref tr, .ref pl, .ref fl, .ref rg, .int tb, .int ft, .int pc])), (bk, .inr (0, [.int 0, .ref bk_tail, .ref bk_head, .ref bk_hinder, .ref bk_size, .ref bk_walk, .ref bk_draught, .ref bk_doorIn, .ref bk_fanIn, .ref bk_faceIn, .int 0, .int (-1), .ref gr]))] U.heap ∧ va_K (dC, dI) classes [] U ∧ va_D (fun q => n0 ≤ q) [(x0, .inr (11, [.ref rd, .ref dr, .ref bk, .ref st, .ref nw, .ref tr, .ref pl, .ref fl, .ref rg, .int tb, .int ft, .int pc])), (bk, .inr (0, [.int 0, .ref bk_tail, .ref bk_head, .ref bk_hinder, .ref bk_size, .ref bk_walk, .ref bk_draught, .ref bk_doorIn, .ref bk_fanIn, .ref bk_faceIn, .int 0, .int (-1), .ref gr]))])) (va_Qi (fun (r : Int32) (_ : Unit) => r = 0) (fun (_ : Unit) (t : State) => va_P (dC, dI) classes [(x0, .inr (11, [.ref rd, .ref dr, .ref bk, .ref st, .ref nw, .ref tr, .ref pl, .ref fl, .ref rg, .int tb, .int ft, .int pc])), (bk, .inr (0, [.int 0, .ref bk_tail, .ref bk_head, .ref bk_hinder, .ref bk_size, .ref bk_walk, .ref bk_draught, .ref bk_doorIn, .ref bk_fanIn, .ref bk_faceIn, .int 0, .int (-1), .ref gr]))] t.heap ∧ va_K (dC, dI) classes [] t ∧ va_D (va_A [(x0, .inr (11, [.ref rd, .ref dr, .ref bk, .ref st, .ref nw, .ref tr, .ref pl, .ref fl, .ref rg, .int tb, .int ft, .int pc])), (bk, .inr (0, [.int 0, .ref bk_tail, .ref bk_head, .ref bk_hinder, .ref bk_size, .ref bk_walk, .ref bk_draught, .ref bk_doorIn, .ref bk_fanIn, .ref bk_faceIn, .int 0, .int (-1), .ref gr]))] sz) [(x0, .inr (11, [.ref rd, .ref dr, .ref bk, .ref st, .ref nw, .ref tr, .ref pl, .ref fl, .ref rg, .int tb, .int ft, .int pc])), (bk, .inr (0, [.int 0, .ref bk_tail, .ref bk_head, .ref bk_hinder, .ref bk_size, .ref bk_walk, .ref bk_draught, .ref bk_doorIn, .ref bk_fanIn, .ref bk_faceIn, .int 0, .int (-1), .ref gr]))]) (va_A [(x0, .inr (11, [.ref rd, .ref dr, .ref bk, .ref st, .ref nw, .ref tr, .ref pl, .ref fl, .ref rg, .int tb, .int ft, .int pc])), (bk, .inr (0, [.int 0, .ref bk_tail, .ref bk_head, .ref bk_hinder, .ref bk_size, .ref bk_walk, .ref bk_draught, .ref bk_doorIn, .ref bk_fanIn, .ref bk_faceIn, .int 0, .int (-1), .ref gr]))] sz)) 0 0 (va_A [(x0, .inr (11, [.ref rd, .ref dr, .ref bk, .ref st, .ref nw, .ref tr, .ref pl, .ref fl, .ref rg, .int tb, .int ft, .int pc])), (bk, .inr (0, [.int 0, .ref bk_tail, .ref bk_head, .ref bk_hinder, .ref bk_size, .ref bk_walk, .ref bk_draught, .ref bk_doorIn, .ref bk_fanIn, .ref bk_faceIn, .int 0, .int (-1), .ref gr]))] sz) := by
  refine Met.ofW (cc := cX11_isBooked) (maxL := 1) (ret := (some .boolean)) (by decide) rfl ?_
  intro p e s m args below meth c s₁ B hml hv
  obtain ⟨rfl, hsz, hn0, hG, hP, hK, hD0⟩ := hv
  have hx := B.exec
  have hb := B.bytes
  have hr := B.returns
  have hts := atoms_spec (ws := wM yX11_isBooked cX11_isBooked 1 (some .boolean)) B.pre
  have hown : s.vm.findClass RX11 = some m.cls := findClass_of_methodNamed B.named
  have hlocks := B.notSynchronized
  subst hsz
  have hD := hD0.self (sz := s.heap.size)
  have hA0 := vA_n0 hD0 hn0
  generalize hAe : va_A [(x0, .inr (11, [.ref rd, .ref dr, .ref bk, .ref st, .ref nw, .ref tr, .ref pl, .ref fl, .ref rg, .int tb, .int ft, .int pc])), (bk, .inr (0, [.int 0, .ref bk_tail, .ref bk_head, .ref bk_hinder, .ref bk_size, .ref bk_walk, .ref bk_draught, .ref bk_doorIn, .ref bk_fanIn, .ref bk_faceIn, .int 0, .int (-1), .ref gr]))] s.heap.size = A at hD hA0 ⊢
  have hA : ∀ q : Nat, s.heap.size ≤ q → A q := fun q h => by rw [← hAe]; exact Or.inr h
  have hS : va_S A s.heap s.heap [] := va_S.rf
  have hl := lv_entry ([.ref x0]) (n := 1) (Nat.le_of_ble_eq_true rfl)
  rw [lg_entry_eq]
  generalize (lg_sl ([.ref x0]) ++ List.replicate (1 - (lg_sl ([.ref x0])).length) Slot.unset).toArray = ls at hl ⊢
  have hl : lv_has ls 1 [(0, .ref x0)] := hl
  refine lv_aload_n hx hb dX11_isBooked_0 rfl (lv_at hl 0 rfl) ?_
  refine va_get (D := (dC, dI)) (ci := 11) (v := .ref bk) (C := RX11) (T := TX11) (N := 12) hx hb hts (fun w h => wM_c (iX11 w h)) hown hK hP 0 rfl rfl 2 (by decide) (hts _ (wM_c wd_672)) (fun _ h9 => h9) rfl dX11_isBooked_1 ?_
  refine va_get (D := (dC, dI)) (ci := 0) (v := .int 0) (C := RX0) (T := TX0) (N := 13) hx hb hts (fun w h => wM_c (iX0 w h)) hown hK hP 1 rfl rfl 0 (by decide) (hts _ (wM_c wd_243)) (fun _ h9 => h9) rfl dX11_isBooked_4 ?_
  refine lv_if_le (tgt := 14) hx hb dX11_isBooked_7 (by decide) (fun c_1 => ?_) (fun c_1 => ?_)
  · skip
    refine lv_iconst (v := 0) hx hb dX11_isBooked_14 (by decide) ?_
    have hP9 := hP.sub (ws' := [(x0, .inr (11, [.ref rd, .ref dr, .ref bk, .ref st, .ref nw, .ref tr, .ref pl, .ref fl, .ref rg, .int tb, .int ft, .int pc])), (bk, .inr (0, [.int 0, .ref bk_tail, .ref bk_head, .ref bk_hinder, .ref bk_size, .ref bk_walk, .ref bk_draught, .ref bk_doorIn, .ref bk_fanIn, .ref bk_faceIn, .int 0, .int (-1), .ref gr]))]) [0, 1] rfl
    have hD9 := hD.sub (ws' := [(x0, .inr (11, [.ref rd, .ref dr, .ref bk, .ref st, .ref nw, .ref tr, .ref pl, .ref fl, .ref rg, .int tb, .int ft, .int pc])), (bk, .inr (0, [.int 0, .ref bk_tail, .ref bk_head, .ref bk_hinder, .ref bk_size, .ref bk_walk, .ref bk_draught, .ref bk_doorIn, .ref bk_fanIn, .ref bk_faceIn, .int 0, .int (-1), .ref gr]))]) [0, 1] (by decide) rfl
    have hK9 := hK.sub (tys' := []) [] rfl
    exact W.zret (v := 0) hx hb hr rfl (fun t ht hW => ⟨⟨0, (), rfl, rfl, by rw [ht]; exact hP9, va_K.moved hW.alike hK9, hD9⟩, hS.F ht⟩) hS.2.2 dX11_isBooked_15
  · exact absurd c_1 (by decide)
set_option maxHeartbeats 4000000 in
set_option maxRecDepth 100000 in
theorem c_isMan (l : Launch) (dC : Nat → ClassId) (dI : Nat → Nat → Nat) (n0 sz : Nat) (x0 : Nat) (rd : Nat) (dr : Nat) (bk : Nat) (st : Nat) (nw : Nat) (tr : Nat) (pl : Nat) (fl : Nat) (rg : Nat) (tb : Int32) (ft : Int32) (pc : Int32) (fl_knotOf : Nat) (fl_smokeAt : Nat) (fl_reach : Nat) (fl_route : Nat) (fl_book : Nat) (fl_state : Nat) (fl_smokeIn : Nat) (w : Int32) : Met l yX11_isMan (wM yX11_isMan cX11_isMan 2 (some .boolean)) ({ frames := 0, cells := 0, slots := 0, locals := 0 }) (va_Pc [.ref x0, .int w] (fun U => U.heap.size = sz ∧ n0 ≤ sz ∧ GW n0 U ∧ va_P (dC, dI) classes [(x0, .inr (11, [.ref rd, .ref dr, .ref bk, .ref st, .ref nw, .ref tr, .ref pl, .ref fl, .ref rg, .int tb, .int ft, .int pc])), (fl, .inr (1, [.int 0, .ref fl_knotOf, .ref fl_smokeAt, .ref fl_reach, .ref fl_route, .ref fl_book, .ref fl_state, .ref fl_smokeIn]))] U.heap ∧ va_K (dC, dI) classes [] U ∧ va_D (fun q => n0 ≤ q) [(x0, .inr (11, [.ref rd, .ref dr, .ref bk, .ref st, .ref nw, .ref tr, .ref pl, .ref fl, .ref rg, .int tb, .int ft, .int pc])), (fl, .inr (1, [.int 0, .ref fl_knotOf, .ref fl_smokeAt, .ref fl_reach, .ref fl_route, .ref fl_book, .ref fl_state, .ref fl_smokeIn]))])) (va_Qi (fun (r : Int32) (_ : Unit) => r = 0) (fun (_ : Unit) (t : State) => va_P (dC, dI) classes [(x0, .inr (11, [.ref rd, .ref dr, .ref bk, .ref st, .ref nw, .ref tr, .ref pl, .ref fl, .ref rg, .int tb, .int ft, .int pc])), (fl, .inr (1, [.int 0, .ref fl_knotOf, .ref fl_smokeAt, .ref fl_reach, .ref fl_route, .ref fl_book, .ref fl_state, .ref fl_smokeIn]))] t.heap ∧ va_K (dC, dI) classes [] t ∧ va_D (va_A [(x0, .inr (11, [.ref rd, .ref dr, .ref bk, .ref st, .ref nw, .ref tr, .ref pl, .ref fl, .ref rg, .int tb, .int ft, .int pc])), (fl, .inr (1, [.int 0, .ref fl_knotOf, .ref fl_smokeAt, .ref fl_reach, .ref fl_route, .ref fl_book, .ref fl_state, .ref fl_smokeIn]))] sz) [(x0, .inr (11, [.ref rd, .ref dr, .ref bk, .ref st, .ref nw, .ref tr, .ref pl, .ref fl, .ref rg, .int tb, .int ft, .int pc])), (fl, .inr (1, [.int 0, .ref fl_knotOf, .ref fl_smokeAt, .ref fl_reach, .ref fl_route, .ref fl_book, .ref fl_state, .ref fl_smokeIn]))]) (va_A [(x0, .inr (11, [.ref rd, .ref dr, .ref bk, .ref st, .ref nw, .ref tr, .ref pl, .ref fl, .ref rg, .int tb, .int ft, .int pc])), (fl, .inr (1, [.int 0, .ref fl_knotOf, .ref fl_smokeAt, .ref fl_reach, .ref fl_route, .ref fl_book, .ref fl_state, .ref fl_smokeIn]))] sz)) 0 0 (va_A [(x0, .inr (11, [.ref rd, .ref dr, .ref bk, .ref st, .ref nw, .ref tr, .ref pl, .ref fl, .ref rg, .int tb, .int ft, .int pc])), (fl, .inr (1, [.int 0, .ref fl_knotOf, .ref fl_smokeAt, .ref fl_reach, .ref fl_route, .ref fl_book, .ref fl_state, .ref fl_smokeIn]))] sz) := by
  refine Met.ofW (cc := cX11_isMan) (maxL := 2) (ret := (some .boolean)) (by decide) rfl ?_
  intro p e s m args below meth c s₁ B hml hv
  obtain ⟨rfl, hsz, hn0, hG, hP, hK, hD0⟩ := hv
  have hx := B.exec
  have hb := B.bytes
  have hr := B.returns
  have hts := atoms_spec (ws := wM yX11_isMan cX11_isMan 2 (some .boolean)) B.pre
  have hown : s.vm.findClass RX11 = some m.cls := findClass_of_methodNamed B.named
  have hlocks := B.notSynchronized
  subst hsz
  have hD := hD0.self (sz := s.heap.size)
  have hA0 := vA_n0 hD0 hn0
  generalize hAe : va_A [(x0, .inr (11, [.ref rd, .ref dr, .ref bk, .ref st, .ref nw, .ref tr, .ref pl, .ref fl, .ref rg, .int tb, .int ft, .int pc])), (fl, .inr (1, [.int 0, .ref fl_knotOf, .ref fl_smokeAt, .ref fl_reach, .ref fl_route, .ref fl_book, .ref fl_state, .ref fl_smokeIn]))] s.heap.size = A at hD hA0 ⊢
  have hA : ∀ q : Nat, s.heap.size ≤ q → A q := fun q h => by rw [← hAe]; exact Or.inr h
  have hS : va_S A s.heap s.heap [] := va_S.rf
  have hl := lv_entry ([.ref x0, .int w]) (n := 2) (Nat.le_of_ble_eq_true rfl)
  rw [lg_entry_eq]
  generalize (lg_sl ([.ref x0, .int w]) ++ List.replicate (2 - (lg_sl ([.ref x0, .int w])).length) Slot.unset).toArray = ls at hl ⊢
  have hl : lv_has ls 2 [(0, .ref x0), (1, .int w)] := hl
  refine lv_iload_n hx hb dX11_isMan_0 rfl (lv_at hl 1 rfl) ?_
  refine lv_if_lt (tgt := 19) hx hb dX11_isMan_1 (by decide) (fun c_1 => ?_) (fun c_1 => ?_)
  · skip
    refine lv_iconst (v := 0) hx hb dX11_isMan_19 (by decide) ?_
    have hP9 := hP.sub (ws' := [(x0, .inr (11, [.ref rd, .ref dr, .ref bk, .ref st, .ref nw, .ref tr, .ref pl, .ref fl, .ref rg, .int tb, .int ft, .int pc])), (fl, .inr (1, [.int 0, .ref fl_knotOf, .ref fl_smokeAt, .ref fl_reach, .ref fl_route, .ref fl_book, .ref fl_state, .ref fl_smokeIn]))]) [0, 1] rfl
    have hD9 := hD.sub (ws' := [(x0, .inr (11, [.ref rd, .ref dr, .ref bk, .ref st, .ref nw, .ref tr, .ref pl, .ref fl, .ref rg, .int tb, .int ft, .int pc])), (fl, .inr (1, [.int 0, .ref fl_knotOf, .ref fl_smokeAt, .ref fl_reach, .ref fl_route, .ref fl_book, .ref fl_state, .ref fl_smokeIn]))]) [0, 1] (by decide) rfl
    have hK9 := hK.sub (tys' := []) [] rfl
    exact W.zret (v := 0) hx hb hr rfl (fun t ht hW => ⟨⟨0, (), rfl, rfl, by rw [ht]; exact hP9, va_K.moved hW.alike hK9, hD9⟩, hS.F ht⟩) hS.2.2 dX11_isMan_20
  · skip
    refine lv_iload_n hx hb dX11_isMan_4 rfl (lv_at hl 1 rfl) ?_
    refine lv_aload_n hx hb dX11_isMan_5 rfl (lv_at hl 0 rfl) ?_
    refine va_get (D := (dC, dI)) (ci := 11) (v := .ref fl) (C := RX11) (T := TX11) (N := 12) hx hb hts (fun w h => wM_c (iX11 w h)) hown hK hP 0 rfl rfl 7 (by decide) (hts _ (wM_c wd_677)) (fun _ h9 => h9) rfl dX11_isMan_6 ?_
    refine va_get (D := (dC, dI)) (ci := 1) (v := .int 0) (C := RX1) (T := TX1) (N := 8) hx hb hts (fun w h => wM_c (iX1 w h)) hown hK hP 1 rfl rfl 0 (by decide) (hts _ (wM_c wd_614)) (fun _ h9 => h9) rfl dX11_isMan_9 ?_
    refine lv_icmp_ge (tgt := 19) hx hb dX11_isMan_12 (by decide) (fun c_2 => ?_) (fun c_2 => ?_)
    · skip
      refine lv_iconst (v := 0) hx hb dX11_isMan_19 (by decide) ?_
      have hP9 := hP.sub (ws' := [(x0, .inr (11, [.ref rd, .ref dr, .ref bk, .ref st, .ref nw, .ref tr, .ref pl, .ref fl, .ref rg, .int tb, .int ft, .int pc])), (fl, .inr (1, [.int 0, .ref fl_knotOf, .ref fl_smokeAt, .ref fl_reach, .ref fl_route, .ref fl_book, .ref fl_state, .ref fl_smokeIn]))]) [0, 1] rfl
      have hD9 := hD.sub (ws' := [(x0, .inr (11, [.ref rd, .ref dr, .ref bk, .ref st, .ref nw, .ref tr, .ref pl, .ref fl, .ref rg, .int tb, .int ft, .int pc])), (fl, .inr (1, [.int 0, .ref fl_knotOf, .ref fl_smokeAt, .ref fl_reach, .ref fl_route, .ref fl_book, .ref fl_state, .ref fl_smokeIn]))]) [0, 1] (by decide) rfl
      have hK9 := hK.sub (tys' := []) [] rfl
      exact W.zret (v := 0) hx hb hr rfl (fun t ht hW => ⟨⟨0, (), rfl, rfl, by rw [ht]; exact hP9, va_K.moved hW.alike hK9, hD9⟩, hS.F ht⟩) hS.2.2 dX11_isMan_20
    · exact absurd (nl0 c_1) c_2
