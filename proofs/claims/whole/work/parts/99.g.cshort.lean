theorem wd_23 : Cond.selects "MineAir" (⟨"MineAir", "forgetVerdicts", "()V"⟩ : MethodName) (⟨"MineAir", "forgetVerdicts", "()V"⟩ : MethodName) ∈ wG := wG_of 23 (by decide +kernel) (by decide +kernel)
theorem wd_114 : Cond.initialized "MineAir" ∈ wG := wG_of 114 (by decide +kernel) (by decide +kernel)
theorem wd_163 : Cond.fieldLink "MineAir" 317 "MineAir$Gear" "doors" "I" ∈ wG := wG_of 163 (by decide +kernel) (by decide +kernel)
theorem wd_182 : Cond.fieldLink "MineAir" 325 "MineAir$Gear" "fans" "I" ∈ wG := wG_of 182 (by decide +kernel) (by decide +kernel)
theorem wd_243 : Cond.fieldLink "MineAir" 121 "MineAir$Book" "ways" "I" ∈ wG := wG_of 243 (by decide +kernel) (by decide +kernel)
theorem wd_299 : Cond.fieldLink "MineAir" 313 "MineAir$Book" "gear" "LMineAir$Gear;" ∈ wG := wG_of 299 (by decide +kernel) (by decide +kernel)
theorem wd_541 : Cond.fieldLink "MineAir" 337 "MineAir$Trials" "settingKnown" "Z" ∈ wG := wG_of 541 (by decide +kernel) (by decide +kernel)
theorem wd_614 : Cond.fieldLink "MineAir" 111 "MineAir$Flight" "men" "I" ∈ wG := wG_of 614 (by decide +kernel) (by decide +kernel)
theorem wd_672 : Cond.fieldLink "MineAir" 16 "MineAir" "book" "LMineAir$Book;" ∈ wG := wG_of 672 (by decide +kernel) (by decide +kernel)
theorem wd_674 : Cond.fieldLink "MineAir" 40 "MineAir" "now" "LMineAir$Judge;" ∈ wG := wG_of 674 (by decide +kernel) (by decide +kernel)
theorem wd_675 : Cond.fieldLink "MineAir" 49 "MineAir" "trials" "LMineAir$Trials;" ∈ wG := wG_of 675 (by decide +kernel) (by decide +kernel)
theorem wd_676 : Cond.fieldLink "MineAir" 58 "MineAir" "plan" "LMineAir$Plan;" ∈ wG := wG_of 676 (by decide +kernel) (by decide +kernel)
theorem wd_677 : Cond.fieldLink "MineAir" 65 "MineAir" "flight" "LMineAir$Flight;" ∈ wG := wG_of 677 (by decide +kernel) (by decide +kernel)
theorem wd_679 : Cond.fieldLink "MineAir" 127 "MineAir" "trouble" "I" ∈ wG := wG_of 679 (by decide +kernel) (by decide +kernel)
theorem wd_921 : Cond.methodLink "MineAir" 334 (⟨"MineAir$Judge", "forget", "()V"⟩ : MethodName) ∈ wG := wG_of 921 (by decide +kernel) (by decide +kernel)
theorem wd_922 : Cond.methodLink "MineAir" 197 (⟨"MineAir", "forgetVerdicts", "()V"⟩ : MethodName) ∈ wG := wG_of 922 (by decide +kernel) (by decide +kernel)
theorem wd_924 : Cond.instanceMethod (⟨"MineAir", "forgetVerdicts", "()V"⟩ : MethodName) ∈ wG := wG_of 924 (by decide +kernel) (by decide +kernel)
theorem wd_925 : Cond.code (⟨"MineAir", "forgetVerdicts", "()V"⟩ : MethodName) prog_1_method_37_code 1 (Option.none : Option Jvm.ClassFile.FieldType) ∈ wG := wG_of 925 (by decide +kernel) (by decide +kernel)
theorem wd_926 : Cond.methodLink "MineAir" 340 (⟨"MineAir$Plan", "forget", "()V"⟩ : MethodName) ∈ wG := wG_of 926 (by decide +kernel) (by decide +kernel)
theorem dX11_accept_0 : decode cX11_accept 0 = .ok (.aload_n 0, 1) := by decide +kernel
theorem dX11_accept_1 : decode cX11_accept 1 = .ok (.iconst 0, 1) := by decide +kernel
theorem dX11_accept_2 : decode cX11_accept 2 = .ok (.putfield 127, 3) := by decide +kernel
theorem dX11_accept_5 : decode cX11_accept 5 = .ok (.iload_n 1, 1) := by decide +kernel
theorem dX11_accept_6 : decode cX11_accept 6 = .ok (.ireturn, 1) := by decide +kernel
theorem dX11_allow_0 : decode cX11_allow 0 = .ok (.aload_n 0, 1) := by decide +kernel
theorem dX11_allow_1 : decode cX11_allow 1 = .ok (.iconst 0, 1) := by decide +kernel
theorem dX11_allow_2 : decode cX11_allow 2 = .ok (.putfield 127, 3) := by decide +kernel
theorem dX11_allow_5 : decode cX11_allow 5 = .ok (.iconst 1, 1) := by decide +kernel
theorem dX11_allow_6 : decode cX11_allow 6 = .ok (.ireturn, 1) := by decide +kernel
theorem dX11_deny_0 : decode cX11_deny 0 = .ok (.aload_n 0, 1) := by decide +kernel
theorem dX11_deny_1 : decode cX11_deny 1 = .ok (.iload_n 1, 1) := by decide +kernel
theorem dX11_deny_2 : decode cX11_deny 2 = .ok (.putfield 127, 3) := by decide +kernel
theorem dX11_deny_5 : decode cX11_deny 5 = .ok (.iconst 0, 1) := by decide +kernel
theorem dX11_deny_6 : decode cX11_deny 6 = .ok (.ireturn, 1) := by decide +kernel
theorem dX11_forgetAir_0 : decode cX11_forgetAir 0 = .ok (.aload_n 0, 1) := by decide +kernel
theorem dX11_forgetAir_1 : decode cX11_forgetAir 1 = .ok (.getfield 40, 3) := by decide +kernel
theorem dX11_forgetAir_4 : decode cX11_forgetAir 4 = .ok (.invokevirtual 334, 3) := by decide +kernel
theorem dX11_forgetAir_7 : decode cX11_forgetAir 7 = .ok (.aload_n 0, 1) := by decide +kernel
theorem dX11_forgetAir_8 : decode cX11_forgetAir 8 = .ok (.invokevirtual 197, 3) := by decide +kernel
theorem dX11_forgetAir_11 : decode cX11_forgetAir 11 = .ok (.return_, 1) := by decide +kernel
theorem dX11_forgetVerdicts_0 : decode cX11_forgetVerdicts 0 = .ok (.aload_n 0, 1) := by decide +kernel
theorem dX11_forgetVerdicts_1 : decode cX11_forgetVerdicts 1 = .ok (.getfield 49, 3) := by decide +kernel
theorem dX11_forgetVerdicts_4 : decode cX11_forgetVerdicts 4 = .ok (.iconst 0, 1) := by decide +kernel
theorem dX11_forgetVerdicts_5 : decode cX11_forgetVerdicts 5 = .ok (.putfield 337, 3) := by decide +kernel
theorem dX11_forgetVerdicts_8 : decode cX11_forgetVerdicts 8 = .ok (.aload_n 0, 1) := by decide +kernel
theorem dX11_forgetVerdicts_9 : decode cX11_forgetVerdicts 9 = .ok (.getfield 58, 3) := by decide +kernel
theorem dX11_forgetVerdicts_12 : decode cX11_forgetVerdicts 12 = .ok (.invokevirtual 340, 3) := by decide +kernel
theorem dX11_forgetVerdicts_15 : decode cX11_forgetVerdicts 15 = .ok (.return_, 1) := by decide +kernel
theorem dX11_isBooked_0 : decode cX11_isBooked 0 = .ok (.aload_n 0, 1) := by decide +kernel
theorem dX11_isBooked_1 : decode cX11_isBooked 1 = .ok (.getfield 16, 3) := by decide +kernel
theorem dX11_isBooked_4 : decode cX11_isBooked 4 = .ok (.getfield 121, 3) := by decide +kernel
theorem dX11_isBooked_7 : decode cX11_isBooked 7 = .ok (.ifCond .le 7, 3) := by decide +kernel
theorem dX11_isBooked_10 : decode cX11_isBooked 10 = .ok (.iconst 1, 1) := by decide +kernel
theorem dX11_isBooked_11 : decode cX11_isBooked 11 = .ok (.goto 4, 3) := by decide +kernel
theorem dX11_isBooked_14 : decode cX11_isBooked 14 = .ok (.iconst 0, 1) := by decide +kernel
theorem dX11_isBooked_15 : decode cX11_isBooked 15 = .ok (.ireturn, 1) := by decide +kernel
theorem dX11_isDoor_0 : decode cX11_isDoor 0 = .ok (.iload_n 1, 1) := by decide +kernel
theorem dX11_isDoor_1 : decode cX11_isDoor 1 = .ok (.ifCond .lt 21, 3) := by decide +kernel
theorem dX11_isDoor_4 : decode cX11_isDoor 4 = .ok (.iload_n 1, 1) := by decide +kernel
theorem dX11_isDoor_5 : decode cX11_isDoor 5 = .ok (.aload_n 0, 1) := by decide +kernel
theorem dX11_isDoor_6 : decode cX11_isDoor 6 = .ok (.getfield 16, 3) := by decide +kernel
theorem dX11_isDoor_9 : decode cX11_isDoor 9 = .ok (.getfield 313, 3) := by decide +kernel
theorem dX11_isDoor_12 : decode cX11_isDoor 12 = .ok (.getfield 317, 3) := by decide +kernel
theorem dX11_isDoor_15 : decode cX11_isDoor 15 = .ok (.if_icmp .ge 7, 3) := by decide +kernel
theorem dX11_isDoor_18 : decode cX11_isDoor 18 = .ok (.iconst 1, 1) := by decide +kernel
theorem dX11_isDoor_19 : decode cX11_isDoor 19 = .ok (.goto 4, 3) := by decide +kernel
theorem dX11_isDoor_22 : decode cX11_isDoor 22 = .ok (.iconst 0, 1) := by decide +kernel
theorem dX11_isDoor_23 : decode cX11_isDoor 23 = .ok (.ireturn, 1) := by decide +kernel
theorem dX11_isFan_0 : decode cX11_isFan 0 = .ok (.iload_n 1, 1) := by decide +kernel
theorem dX11_isFan_1 : decode cX11_isFan 1 = .ok (.ifCond .lt 21, 3) := by decide +kernel
theorem dX11_isFan_4 : decode cX11_isFan 4 = .ok (.iload_n 1, 1) := by decide +kernel
theorem dX11_isFan_5 : decode cX11_isFan 5 = .ok (.aload_n 0, 1) := by decide +kernel
theorem dX11_isFan_6 : decode cX11_isFan 6 = .ok (.getfield 16, 3) := by decide +kernel
theorem dX11_isFan_9 : decode cX11_isFan 9 = .ok (.getfield 313, 3) := by decide +kernel
theorem dX11_isFan_12 : decode cX11_isFan 12 = .ok (.getfield 325, 3) := by decide +kernel
theorem dX11_isFan_15 : decode cX11_isFan 15 = .ok (.if_icmp .ge 7, 3) := by decide +kernel
theorem dX11_isFan_18 : decode cX11_isFan 18 = .ok (.iconst 1, 1) := by decide +kernel
theorem dX11_isFan_19 : decode cX11_isFan 19 = .ok (.goto 4, 3) := by decide +kernel
theorem dX11_isFan_22 : decode cX11_isFan 22 = .ok (.iconst 0, 1) := by decide +kernel
theorem dX11_isFan_23 : decode cX11_isFan 23 = .ok (.ireturn, 1) := by decide +kernel
theorem dX11_isMan_0 : decode cX11_isMan 0 = .ok (.iload_n 1, 1) := by decide +kernel
theorem dX11_isMan_1 : decode cX11_isMan 1 = .ok (.ifCond .lt 18, 3) := by decide +kernel
theorem dX11_isMan_4 : decode cX11_isMan 4 = .ok (.iload_n 1, 1) := by decide +kernel
theorem dX11_isMan_5 : decode cX11_isMan 5 = .ok (.aload_n 0, 1) := by decide +kernel
theorem dX11_isMan_6 : decode cX11_isMan 6 = .ok (.getfield 65, 3) := by decide +kernel
theorem dX11_isMan_9 : decode cX11_isMan 9 = .ok (.getfield 111, 3) := by decide +kernel
theorem dX11_isMan_12 : decode cX11_isMan 12 = .ok (.if_icmp .ge 7, 3) := by decide +kernel
theorem dX11_isMan_15 : decode cX11_isMan 15 = .ok (.iconst 1, 1) := by decide +kernel
theorem dX11_isMan_16 : decode cX11_isMan 16 = .ok (.goto 4, 3) := by decide +kernel
theorem dX11_isMan_19 : decode cX11_isMan 19 = .ok (.iconst 0, 1) := by decide +kernel
theorem dX11_isMan_20 : decode cX11_isMan 20 = .ok (.ireturn, 1) := by decide +kernel
theorem dX11_isSpeed_0 : decode cX11_isSpeed 0 = .ok (.iload_n 0, 1) := by decide +kernel
theorem dX11_isSpeed_1 : decode cX11_isSpeed 1 = .ok (.bipush (-3), 2) := by decide +kernel
theorem dX11_isSpeed_3 : decode cX11_isSpeed 3 = .ok (.if_icmp .lt 12, 3) := by decide +kernel
theorem dX11_isSpeed_6 : decode cX11_isSpeed 6 = .ok (.iload_n 0, 1) := by decide +kernel
theorem dX11_isSpeed_7 : decode cX11_isSpeed 7 = .ok (.iconst 3, 1) := by decide +kernel
theorem dX11_isSpeed_8 : decode cX11_isSpeed 8 = .ok (.if_icmp .gt 7, 3) := by decide +kernel
theorem dX11_isSpeed_11 : decode cX11_isSpeed 11 = .ok (.iconst 1, 1) := by decide +kernel
theorem dX11_isSpeed_12 : decode cX11_isSpeed 12 = .ok (.goto 4, 3) := by decide +kernel
theorem dX11_isSpeed_15 : decode cX11_isSpeed 15 = .ok (.iconst 0, 1) := by decide +kernel
theorem dX11_isSpeed_16 : decode cX11_isSpeed 16 = .ok (.ireturn, 1) := by decide +kernel
theorem dX11_isWay_0 : decode cX11_isWay 0 = .ok (.iload_n 1, 1) := by decide +kernel
theorem dX11_isWay_1 : decode cX11_isWay 1 = .ok (.ifCond .lt 18, 3) := by decide +kernel
theorem dX11_isWay_4 : decode cX11_isWay 4 = .ok (.iload_n 1, 1) := by decide +kernel
theorem dX11_isWay_5 : decode cX11_isWay 5 = .ok (.aload_n 0, 1) := by decide +kernel
theorem dX11_isWay_6 : decode cX11_isWay 6 = .ok (.getfield 16, 3) := by decide +kernel
theorem dX11_isWay_9 : decode cX11_isWay 9 = .ok (.getfield 121, 3) := by decide +kernel
theorem dX11_isWay_12 : decode cX11_isWay 12 = .ok (.if_icmp .ge 7, 3) := by decide +kernel
theorem dX11_isWay_15 : decode cX11_isWay 15 = .ok (.iconst 1, 1) := by decide +kernel
theorem dX11_isWay_16 : decode cX11_isWay 16 = .ok (.goto 4, 3) := by decide +kernel
theorem dX11_isWay_19 : decode cX11_isWay 19 = .ok (.iconst 0, 1) := by decide +kernel
theorem dX11_isWay_20 : decode cX11_isWay 20 = .ok (.ireturn, 1) := by decide +kernel
theorem dX11_orNotSo_0 : decode cX11_orNotSo 0 = .ok (.iload_n 0, 1) := by decide +kernel
theorem dX11_orNotSo_1 : decode cX11_orNotSo 1 = .ok (.iconst (-1), 1) := by decide +kernel
theorem dX11_orNotSo_2 : decode cX11_orNotSo 2 = .ok (.if_icmp .ne 8, 3) := by decide +kernel
theorem dX11_orNotSo_5 : decode cX11_orNotSo 5 = .ok (.bipush (-2), 2) := by decide +kernel
theorem dX11_orNotSo_7 : decode cX11_orNotSo 7 = .ok (.goto 4, 3) := by decide +kernel
theorem dX11_orNotSo_10 : decode cX11_orNotSo 10 = .ok (.iload_n 0, 1) := by decide +kernel
theorem dX11_orNotSo_11 : decode cX11_orNotSo 11 = .ok (.ireturn, 1) := by decide +kernel
theorem dX11_refuse_0 : decode cX11_refuse 0 = .ok (.aload_n 0, 1) := by decide +kernel
theorem dX11_refuse_1 : decode cX11_refuse 1 = .ok (.iload_n 1, 1) := by decide +kernel
theorem dX11_refuse_2 : decode cX11_refuse 2 = .ok (.putfield 127, 3) := by decide +kernel
theorem dX11_refuse_5 : decode cX11_refuse 5 = .ok (.iconst (-1), 1) := by decide +kernel
theorem dX11_refuse_6 : decode cX11_refuse 6 = .ok (.ireturn, 1) := by decide +kernel
set_option maxHeartbeats 4000000 in
set_option maxRecDepth 100000 in
theorem x_refuse (l : Launch) (dC : Nat → ClassId) (dI : Nat → Nat → Nat) (n0 : Nat) (atx : Nat → Nat × Nat) (sz : Nat) (x0 : Nat) (rd : Nat) (dr : Nat) (bk : Nat) (st : Nat) (j2 : Nat) (tr : Nat) (pl : Nat) (fl : Nat) (rq : Nat) (xt : Int32) (xf1 : Int32) (xp1 : Int32) (why : Int32) : Met l yX11_refuse (wM yX11_refuse cX11_refuse 2 (some .int)) ({ frames := 0, cells := 0, slots := 0, locals := 0 }) (va_Pc [.ref x0, .int why] (fun U => U.heap.size = sz ∧ n0 ≤ sz ∧ GW n0 atx U ∧ va_P (dC, dI) classes [(x0, .inr (11, [.ref rd, .ref dr, .ref bk, .ref st, .ref j2, .ref tr, .ref pl, .ref fl, .ref rq, .int xt, .int xf1, .int xp1]))] U.heap ∧ va_K (dC, dI) classes [] U ∧ va_D (fun q => n0 ≤ q) [(x0, .inr (11, [.ref rd, .ref dr, .ref bk, .ref st, .ref j2, .ref tr, .ref pl, .ref fl, .ref rq, .int xt, .int xf1, .int xp1]))])) (va_Qi (fun (r : Int32) (_ : Unit) => r = (-1)) (fun (_ : Unit) (t : State) => va_P (dC, dI) classes [(x0, .inr (11, [.ref rd, .ref dr, .ref bk, .ref st, .ref j2, .ref tr, .ref pl, .ref fl, .ref rq, .int why, .int xf1, .int xp1]))] t.heap ∧ va_K (dC, dI) classes [] t ∧ va_D (va_A [(x0, .inr (11, [.ref rd, .ref dr, .ref bk, .ref st, .ref j2, .ref tr, .ref pl, .ref fl, .ref rq, .int xt, .int xf1, .int xp1]))] sz) [(x0, .inr (11, [.ref rd, .ref dr, .ref bk, .ref st, .ref j2, .ref tr, .ref pl, .ref fl, .ref rq, .int why, .int xf1, .int xp1]))]) (va_A [(x0, .inr (11, [.ref rd, .ref dr, .ref bk, .ref st, .ref j2, .ref tr, .ref pl, .ref fl, .ref rq, .int xt, .int xf1, .int xp1]))] sz)) 0 0 (va_A [(x0, .inr (11, [.ref rd, .ref dr, .ref bk, .ref st, .ref j2, .ref tr, .ref pl, .ref fl, .ref rq, .int xt, .int xf1, .int xp1]))] sz) := by
  refine Met.ofW (cc := cX11_refuse) (maxL := 2) (ret := (some .int)) (by decide) rfl ?_
  intro p e s m args below meth c s₁ B hml hv
  obtain ⟨rfl, hsz, hn0, hG, hP, hK, hD0⟩ := hv
  have hx := B.exec
  have hb := B.bytes
  have hr := B.returns
  have hts := atoms_spec (ws := wM yX11_refuse cX11_refuse 2 (some .int)) B.pre
  have hown : s.vm.findClass RX11 = some m.cls := findClass_of_methodNamed B.named
  have hlocks := B.notSynchronized
  subst hsz
  have hD := hD0.self (sz := s.heap.size)
  have hA0 := vA_n0 hD0 hn0
  generalize hAe : va_A [(x0, .inr (11, [.ref rd, .ref dr, .ref bk, .ref st, .ref j2, .ref tr, .ref pl, .ref fl, .ref rq, .int xt, .int xf1, .int xp1]))] s.heap.size = A at hD hA0 ⊢
  have hA : ∀ q : Nat, s.heap.size ≤ q → A q := fun q h => by rw [← hAe]; exact Or.inr h
  have hS : va_S A s.heap s.heap [] := va_S.rf
  have hl := lv_entry ([.ref x0, .int why]) (n := 2) (Nat.le_of_ble_eq_true rfl)
  rw [lg_entry_eq]
  generalize (lg_sl ([.ref x0, .int why]) ++ List.replicate (2 - (lg_sl ([.ref x0, .int why])).length) Slot.unset).toArray = ls at hl ⊢
  have hl : lv_has ls 2 [(0, .ref x0), (1, .int why)] := hl
  refine lv_aload_n hx hb dX11_refuse_0 rfl (lv_at hl 0 rfl) ?_
  refine lv_iload_n hx hb dX11_refuse_1 rfl (lv_at hl 1 rfl) ?_
  refine va_put (D := (dC, dI)) (ci := 11) (v := .int why) (ty := .int) (C := RX11) (T := TX11) (N := 12) hx hb hts (fun w h => wM_c (iX11 w h)) tyX11 tyX11_ok nmX11 hown hK hP hD hS 0 rfl rfl 9 (by decide) (hts _ (wM_c wd_679)) (fun _ h9 => h9) rfl (by decide +kernel) rfl rfl (Nat.le_of_ble_eq_true rfl) dX11_refuse_2 (fun H locs hP hD hS => ?_)
  obtain ⟨hP, hD⟩ : s3_w (dC, dI) classes A [(x0, .inr (11, [.ref rd, .ref dr, .ref bk, .ref st, .ref j2, .ref tr, .ref pl, .ref fl, .ref rq, .int why, .int xf1, .int xp1]))] H := ⟨hP, hD⟩
  refine lv_iconst (v := (-1)) hx hb dX11_refuse_5 (by decide) ?_
  have hK9 := hK.sub (tys' := []) [] rfl
  exact W.iret (v := (-1)) hx hb hr (fun t ht hW => ⟨⟨(-1), (), rfl, rfl, by rw [ht]; exact hP.sub [0] rfl, va_K.moved hW.alike hK9, hD.sub [0] (by decide) rfl⟩, hS.F ht⟩) hS.2.2 dX11_refuse_6
set_option maxHeartbeats 4000000 in
set_option maxRecDepth 100000 in
theorem x_deny (l : Launch) (dC : Nat → ClassId) (dI : Nat → Nat → Nat) (n0 : Nat) (atx : Nat → Nat × Nat) (sz : Nat) (x0 : Nat) (rd : Nat) (dr : Nat) (bk : Nat) (st : Nat) (j2 : Nat) (tr : Nat) (pl : Nat) (fl : Nat) (rq : Nat) (xt : Int32) (xf1 : Int32) (xp1 : Int32) (why : Int32) : Met l yX11_deny (wM yX11_deny cX11_deny 2 (some .boolean)) ({ frames := 0, cells := 0, slots := 0, locals := 0 }) (va_Pc [.ref x0, .int why] (fun U => U.heap.size = sz ∧ n0 ≤ sz ∧ GW n0 atx U ∧ va_P (dC, dI) classes [(x0, .inr (11, [.ref rd, .ref dr, .ref bk, .ref st, .ref j2, .ref tr, .ref pl, .ref fl, .ref rq, .int xt, .int xf1, .int xp1]))] U.heap ∧ va_K (dC, dI) classes [] U ∧ va_D (fun q => n0 ≤ q) [(x0, .inr (11, [.ref rd, .ref dr, .ref bk, .ref st, .ref j2, .ref tr, .ref pl, .ref fl, .ref rq, .int xt, .int xf1, .int xp1]))])) (va_Qi (fun (r : Int32) (_ : Unit) => r = 0) (fun (_ : Unit) (t : State) => va_P (dC, dI) classes [(x0, .inr (11, [.ref rd, .ref dr, .ref bk, .ref st, .ref j2, .ref tr, .ref pl, .ref fl, .ref rq, .int why, .int xf1, .int xp1]))] t.heap ∧ va_K (dC, dI) classes [] t ∧ va_D (va_A [(x0, .inr (11, [.ref rd, .ref dr, .ref bk, .ref st, .ref j2, .ref tr, .ref pl, .ref fl, .ref rq, .int xt, .int xf1, .int xp1]))] sz) [(x0, .inr (11, [.ref rd, .ref dr, .ref bk, .ref st, .ref j2, .ref tr, .ref pl, .ref fl, .ref rq, .int why, .int xf1, .int xp1]))]) (va_A [(x0, .inr (11, [.ref rd, .ref dr, .ref bk, .ref st, .ref j2, .ref tr, .ref pl, .ref fl, .ref rq, .int xt, .int xf1, .int xp1]))] sz)) 0 0 (va_A [(x0, .inr (11, [.ref rd, .ref dr, .ref bk, .ref st, .ref j2, .ref tr, .ref pl, .ref fl, .ref rq, .int xt, .int xf1, .int xp1]))] sz) := by
  refine Met.ofW (cc := cX11_deny) (maxL := 2) (ret := (some .boolean)) (by decide) rfl ?_
  intro p e s m args below meth c s₁ B hml hv
  obtain ⟨rfl, hsz, hn0, hG, hP, hK, hD0⟩ := hv
  have hx := B.exec
  have hb := B.bytes
  have hr := B.returns
  have hts := atoms_spec (ws := wM yX11_deny cX11_deny 2 (some .boolean)) B.pre
  have hown : s.vm.findClass RX11 = some m.cls := findClass_of_methodNamed B.named
  have hlocks := B.notSynchronized
  subst hsz
  have hD := hD0.self (sz := s.heap.size)
  have hA0 := vA_n0 hD0 hn0
  generalize hAe : va_A [(x0, .inr (11, [.ref rd, .ref dr, .ref bk, .ref st, .ref j2, .ref tr, .ref pl, .ref fl, .ref rq, .int xt, .int xf1, .int xp1]))] s.heap.size = A at hD hA0 ⊢
  have hA : ∀ q : Nat, s.heap.size ≤ q → A q := fun q h => by rw [← hAe]; exact Or.inr h
  have hS : va_S A s.heap s.heap [] := va_S.rf
  have hl := lv_entry ([.ref x0, .int why]) (n := 2) (Nat.le_of_ble_eq_true rfl)
  rw [lg_entry_eq]
  generalize (lg_sl ([.ref x0, .int why]) ++ List.replicate (2 - (lg_sl ([.ref x0, .int why])).length) Slot.unset).toArray = ls at hl ⊢
  have hl : lv_has ls 2 [(0, .ref x0), (1, .int why)] := hl
  refine lv_aload_n hx hb dX11_deny_0 rfl (lv_at hl 0 rfl) ?_
  refine lv_iload_n hx hb dX11_deny_1 rfl (lv_at hl 1 rfl) ?_
  refine va_put (D := (dC, dI)) (ci := 11) (v := .int why) (ty := .int) (C := RX11) (T := TX11) (N := 12) hx hb hts (fun w h => wM_c (iX11 w h)) tyX11 tyX11_ok nmX11 hown hK hP hD hS 0 rfl rfl 9 (by decide) (hts _ (wM_c wd_679)) (fun _ h9 => h9) rfl (by decide +kernel) rfl rfl (Nat.le_of_ble_eq_true rfl) dX11_deny_2 (fun H locs hP hD hS => ?_)
  obtain ⟨hP, hD⟩ : s3_w (dC, dI) classes A [(x0, .inr (11, [.ref rd, .ref dr, .ref bk, .ref st, .ref j2, .ref tr, .ref pl, .ref fl, .ref rq, .int why, .int xf1, .int xp1]))] H := ⟨hP, hD⟩
  refine lv_iconst (v := 0) hx hb dX11_deny_5 (by decide) ?_
  have hK9 := hK.sub (tys' := []) [] rfl
  exact W.zret (v := 0) hx hb hr rfl (fun t ht hW => ⟨⟨0, (), rfl, rfl, by rw [ht]; exact hP.sub [0] rfl, va_K.moved hW.alike hK9, hD.sub [0] (by decide) rfl⟩, hS.F ht⟩) hS.2.2 dX11_deny_6
set_option maxHeartbeats 4000000 in
set_option maxRecDepth 100000 in
theorem x_accept (l : Launch) (dC : Nat → ClassId) (dI : Nat → Nat → Nat) (n0 : Nat) (atx : Nat → Nat × Nat) (sz : Nat) (x0 : Nat) (rd : Nat) (dr : Nat) (bk : Nat) (st : Nat) (j2 : Nat) (tr : Nat) (pl : Nat) (fl : Nat) (rq : Nat) (xt : Int32) (xf1 : Int32) (xp1 : Int32) (an0 : Int32) : Met l yX11_accept (wM yX11_accept cX11_accept 2 (some .int)) ({ frames := 0, cells := 0, slots := 0, locals := 0 }) (va_Pc [.ref x0, .int an0] (fun U => U.heap.size = sz ∧ n0 ≤ sz ∧ GW n0 atx U ∧ va_P (dC, dI) classes [(x0, .inr (11, [.ref rd, .ref dr, .ref bk, .ref st, .ref j2, .ref tr, .ref pl, .ref fl, .ref rq, .int xt, .int xf1, .int xp1]))] U.heap ∧ va_K (dC, dI) classes [] U ∧ va_D (fun q => n0 ≤ q) [(x0, .inr (11, [.ref rd, .ref dr, .ref bk, .ref st, .ref j2, .ref tr, .ref pl, .ref fl, .ref rq, .int xt, .int xf1, .int xp1]))])) (va_Qi (fun (r : Int32) (_ : Unit) => r = an0) (fun (_ : Unit) (t : State) => va_P (dC, dI) classes [(x0, .inr (11, [.ref rd, .ref dr, .ref bk, .ref st, .ref j2, .ref tr, .ref pl, .ref fl, .ref rq, .int 0, .int xf1, .int xp1]))] t.heap ∧ va_K (dC, dI) classes [] t ∧ va_D (va_A [(x0, .inr (11, [.ref rd, .ref dr, .ref bk, .ref st, .ref j2, .ref tr, .ref pl, .ref fl, .ref rq, .int xt, .int xf1, .int xp1]))] sz) [(x0, .inr (11, [.ref rd, .ref dr, .ref bk, .ref st, .ref j2, .ref tr, .ref pl, .ref fl, .ref rq, .int 0, .int xf1, .int xp1]))]) (va_A [(x0, .inr (11, [.ref rd, .ref dr, .ref bk, .ref st, .ref j2, .ref tr, .ref pl, .ref fl, .ref rq, .int xt, .int xf1, .int xp1]))] sz)) 0 0 (va_A [(x0, .inr (11, [.ref rd, .ref dr, .ref bk, .ref st, .ref j2, .ref tr, .ref pl, .ref fl, .ref rq, .int xt, .int xf1, .int xp1]))] sz) := by
  refine Met.ofW (cc := cX11_accept) (maxL := 2) (ret := (some .int)) (by decide) rfl ?_
  intro p e s m args below meth c s₁ B hml hv
  obtain ⟨rfl, hsz, hn0, hG, hP, hK, hD0⟩ := hv
  have hx := B.exec
  have hb := B.bytes
  have hr := B.returns
  have hts := atoms_spec (ws := wM yX11_accept cX11_accept 2 (some .int)) B.pre
  have hown : s.vm.findClass RX11 = some m.cls := findClass_of_methodNamed B.named
  have hlocks := B.notSynchronized
  subst hsz
  have hD := hD0.self (sz := s.heap.size)
  have hA0 := vA_n0 hD0 hn0
  generalize hAe : va_A [(x0, .inr (11, [.ref rd, .ref dr, .ref bk, .ref st, .ref j2, .ref tr, .ref pl, .ref fl, .ref rq, .int xt, .int xf1, .int xp1]))] s.heap.size = A at hD hA0 ⊢
  have hA : ∀ q : Nat, s.heap.size ≤ q → A q := fun q h => by rw [← hAe]; exact Or.inr h
  have hS : va_S A s.heap s.heap [] := va_S.rf
  have hl := lv_entry ([.ref x0, .int an0]) (n := 2) (Nat.le_of_ble_eq_true rfl)
  rw [lg_entry_eq]
  generalize (lg_sl ([.ref x0, .int an0]) ++ List.replicate (2 - (lg_sl ([.ref x0, .int an0])).length) Slot.unset).toArray = ls at hl ⊢
  have hl : lv_has ls 2 [(0, .ref x0), (1, .int an0)] := hl
  refine lv_aload_n hx hb dX11_accept_0 rfl (lv_at hl 0 rfl) ?_
  refine lv_iconst (v := 0) hx hb dX11_accept_1 (by decide) ?_
  refine va_put (D := (dC, dI)) (ci := 11) (v := .int 0) (ty := .int) (C := RX11) (T := TX11) (N := 12) hx hb hts (fun w h => wM_c (iX11 w h)) tyX11 tyX11_ok nmX11 hown hK hP hD hS 0 rfl rfl 9 (by decide) (hts _ (wM_c wd_679)) (fun _ h9 => h9) rfl (by decide +kernel) rfl rfl (Nat.le_of_ble_eq_true rfl) dX11_accept_2 (fun H locs hP hD hS => ?_)
  obtain ⟨hP, hD⟩ : s3_w (dC, dI) classes A [(x0, .inr (11, [.ref rd, .ref dr, .ref bk, .ref st, .ref j2, .ref tr, .ref pl, .ref fl, .ref rq, .int 0, .int xf1, .int xp1]))] H := ⟨hP, hD⟩
  refine lv_iload_n hx hb dX11_accept_5 rfl (lv_at hl 1 rfl) ?_
  have hK9 := hK.sub (tys' := []) [] rfl
  exact W.iret (v := an0) hx hb hr (fun t ht hW => ⟨⟨an0, (), rfl, rfl, by rw [ht]; exact hP.sub [0] rfl, va_K.moved hW.alike hK9, hD.sub [0] (by decide) rfl⟩, hS.F ht⟩) hS.2.2 dX11_accept_6
set_option maxHeartbeats 4000000 in
set_option maxRecDepth 100000 in
theorem x_allow (l : Launch) (dC : Nat → ClassId) (dI : Nat → Nat → Nat) (n0 : Nat) (atx : Nat → Nat × Nat) (sz : Nat) (x0 : Nat) (rd : Nat) (dr : Nat) (bk : Nat) (st : Nat) (j2 : Nat) (tr : Nat) (pl : Nat) (fl : Nat) (rq : Nat) (xt : Int32) (xf1 : Int32) (xp1 : Int32) : Met l yX11_allow (wM yX11_allow cX11_allow 1 (some .boolean)) ({ frames := 0, cells := 0, slots := 0, locals := 0 }) (va_Pc [.ref x0] (fun U => U.heap.size = sz ∧ n0 ≤ sz ∧ GW n0 atx U ∧ va_P (dC, dI) classes [(x0, .inr (11, [.ref rd, .ref dr, .ref bk, .ref st, .ref j2, .ref tr, .ref pl, .ref fl, .ref rq, .int xt, .int xf1, .int xp1]))] U.heap ∧ va_K (dC, dI) classes [] U ∧ va_D (fun q => n0 ≤ q) [(x0, .inr (11, [.ref rd, .ref dr, .ref bk, .ref st, .ref j2, .ref tr, .ref pl, .ref fl, .ref rq, .int xt, .int xf1, .int xp1]))])) (va_Qi (fun (r : Int32) (_ : Unit) => r = 1) (fun (_ : Unit) (t : State) => va_P (dC, dI) classes [(x0, .inr (11, [.ref rd, .ref dr, .ref bk, .ref st, .ref j2, .ref tr, .ref pl, .ref fl, .ref rq, .int 0, .int xf1, .int xp1]))] t.heap ∧ va_K (dC, dI) classes [] t ∧ va_D (va_A [(x0, .inr (11, [.ref rd, .ref dr, .ref bk, .ref st, .ref j2, .ref tr, .ref pl, .ref fl, .ref rq, .int xt, .int xf1, .int xp1]))] sz) [(x0, .inr (11, [.ref rd, .ref dr, .ref bk, .ref st, .ref j2, .ref tr, .ref pl, .ref fl, .ref rq, .int 0, .int xf1, .int xp1]))]) (va_A [(x0, .inr (11, [.ref rd, .ref dr, .ref bk, .ref st, .ref j2, .ref tr, .ref pl, .ref fl, .ref rq, .int xt, .int xf1, .int xp1]))] sz)) 0 0 (va_A [(x0, .inr (11, [.ref rd, .ref dr, .ref bk, .ref st, .ref j2, .ref tr, .ref pl, .ref fl, .ref rq, .int xt, .int xf1, .int xp1]))] sz) := by
  refine Met.ofW (cc := cX11_allow) (maxL := 1) (ret := (some .boolean)) (by decide) rfl ?_
  intro p e s m args below meth c s₁ B hml hv
  obtain ⟨rfl, hsz, hn0, hG, hP, hK, hD0⟩ := hv
  have hx := B.exec
  have hb := B.bytes
  have hr := B.returns
  have hts := atoms_spec (ws := wM yX11_allow cX11_allow 1 (some .boolean)) B.pre
  have hown : s.vm.findClass RX11 = some m.cls := findClass_of_methodNamed B.named
  have hlocks := B.notSynchronized
  subst hsz
  have hD := hD0.self (sz := s.heap.size)
  have hA0 := vA_n0 hD0 hn0
  generalize hAe : va_A [(x0, .inr (11, [.ref rd, .ref dr, .ref bk, .ref st, .ref j2, .ref tr, .ref pl, .ref fl, .ref rq, .int xt, .int xf1, .int xp1]))] s.heap.size = A at hD hA0 ⊢
  have hA : ∀ q : Nat, s.heap.size ≤ q → A q := fun q h => by rw [← hAe]; exact Or.inr h
  have hS : va_S A s.heap s.heap [] := va_S.rf
  have hl := lv_entry ([.ref x0]) (n := 1) (Nat.le_of_ble_eq_true rfl)
  rw [lg_entry_eq]
  generalize (lg_sl ([.ref x0]) ++ List.replicate (1 - (lg_sl ([.ref x0])).length) Slot.unset).toArray = ls at hl ⊢
  have hl : lv_has ls 1 [(0, .ref x0)] := hl
  refine lv_aload_n hx hb dX11_allow_0 rfl (lv_at hl 0 rfl) ?_
  refine lv_iconst (v := 0) hx hb dX11_allow_1 (by decide) ?_
  refine va_put (D := (dC, dI)) (ci := 11) (v := .int 0) (ty := .int) (C := RX11) (T := TX11) (N := 12) hx hb hts (fun w h => wM_c (iX11 w h)) tyX11 tyX11_ok nmX11 hown hK hP hD hS 0 rfl rfl 9 (by decide) (hts _ (wM_c wd_679)) (fun _ h9 => h9) rfl (by decide +kernel) rfl rfl (Nat.le_of_ble_eq_true rfl) dX11_allow_2 (fun H locs hP hD hS => ?_)
  obtain ⟨hP, hD⟩ : s3_w (dC, dI) classes A [(x0, .inr (11, [.ref rd, .ref dr, .ref bk, .ref st, .ref j2, .ref tr, .ref pl, .ref fl, .ref rq, .int 0, .int xf1, .int xp1]))] H := ⟨hP, hD⟩
  refine lv_iconst (v := 1) hx hb dX11_allow_5 (by decide) ?_
  have hK9 := hK.sub (tys' := []) [] rfl
  exact W.zret (v := 1) hx hb hr rfl (fun t ht hW => ⟨⟨1, (), rfl, rfl, by rw [ht]; exact hP.sub [0] rfl, va_K.moved hW.alike hK9, hD.sub [0] (by decide) rfl⟩, hS.F ht⟩) hS.2.2 dX11_allow_6
set_option maxHeartbeats 4000000 in
set_option maxRecDepth 100000 in
theorem x_isWay (l : Launch) (dC : Nat → ClassId) (dI : Nat → Nat → Nat) (n0 : Nat) (atx : Nat → Nat × Nat) (sz : Nat) (x0 : Nat) (rd : Nat) (dr : Nat) (bk : Nat) (st : Nat) (j2 : Nat) (tr : Nat) (pl : Nat) (fl : Nat) (rq : Nat) (xt : Int32) (xf1 : Int32) (xp1 : Int32) (bw : Nat) (bk_tail : Nat) (bk_head : Nat) (bk_hinder : Nat) (bk_size : Nat) (bk_walk : Nat) (bk_draught : Nat) (bk_doorIn : Nat) (bk_fanIn : Nat) (bk_faceIn : Nat) (bn : Nat) (bk_day : Int32) (gr : Nat) (w : Int32) (hbw : bw ≤ 14) (hbn : bn ≤ 10) (q_day : -1 ≤ bk_day.toInt ∧ bk_day.toInt < 10) : Met l yX11_isWay (wM yX11_isWay cX11_isWay 2 (some .boolean)) ({ frames := 0, cells := 0, slots := 0, locals := 0 }) (va_Pc [.ref x0, .int w] (fun U => U.heap.size = sz ∧ n0 ≤ sz ∧ GW n0 atx U ∧ va_P (dC, dI) classes [(x0, .inr (11, [.ref rd, .ref dr, .ref bk, .ref st, .ref j2, .ref tr, .ref pl, .ref fl, .ref rq, .int xt, .int xf1, .int xp1])), (bk, .inr (0, [.int (nI bw), .ref bk_tail, .ref bk_head, .ref bk_hinder, .ref bk_size, .ref bk_walk, .ref bk_draught, .ref bk_doorIn, .ref bk_fanIn, .ref bk_faceIn, .int (nI bn), .int bk_day, .ref gr]))] U.heap ∧ va_K (dC, dI) classes [] U ∧ va_D (fun q => n0 ≤ q) [(x0, .inr (11, [.ref rd, .ref dr, .ref bk, .ref st, .ref j2, .ref tr, .ref pl, .ref fl, .ref rq, .int xt, .int xf1, .int xp1])), (bk, .inr (0, [.int (nI bw), .ref bk_tail, .ref bk_head, .ref bk_hinder, .ref bk_size, .ref bk_walk, .ref bk_draught, .ref bk_doorIn, .ref bk_fanIn, .ref bk_faceIn, .int (nI bn), .int bk_day, .ref gr]))])) (va_Qi (fun (r : Int32) (_ : Unit) => (r = 1 ∧ 0 ≤ w.toInt ∧ w.toInt < bw) ∨ (r = 0 ∧ ¬ (0 ≤ w.toInt ∧ w.toInt < bw))) (fun (_ : Unit) (t : State) => va_P (dC, dI) classes [(x0, .inr (11, [.ref rd, .ref dr, .ref bk, .ref st, .ref j2, .ref tr, .ref pl, .ref fl, .ref rq, .int xt, .int xf1, .int xp1])), (bk, .inr (0, [.int (nI bw), .ref bk_tail, .ref bk_head, .ref bk_hinder, .ref bk_size, .ref bk_walk, .ref bk_draught, .ref bk_doorIn, .ref bk_fanIn, .ref bk_faceIn, .int (nI bn), .int bk_day, .ref gr]))] t.heap ∧ va_K (dC, dI) classes [] t ∧ va_D (va_A [(x0, .inr (11, [.ref rd, .ref dr, .ref bk, .ref st, .ref j2, .ref tr, .ref pl, .ref fl, .ref rq, .int xt, .int xf1, .int xp1])), (bk, .inr (0, [.int (nI bw), .ref bk_tail, .ref bk_head, .ref bk_hinder, .ref bk_size, .ref bk_walk, .ref bk_draught, .ref bk_doorIn, .ref bk_fanIn, .ref bk_faceIn, .int (nI bn), .int bk_day, .ref gr]))] sz) [(x0, .inr (11, [.ref rd, .ref dr, .ref bk, .ref st, .ref j2, .ref tr, .ref pl, .ref fl, .ref rq, .int xt, .int xf1, .int xp1])), (bk, .inr (0, [.int (nI bw), .ref bk_tail, .ref bk_head, .ref bk_hinder, .ref bk_size, .ref bk_walk, .ref bk_draught, .ref bk_doorIn, .ref bk_fanIn, .ref bk_faceIn, .int (nI bn), .int bk_day, .ref gr]))]) (va_A [(x0, .inr (11, [.ref rd, .ref dr, .ref bk, .ref st, .ref j2, .ref tr, .ref pl, .ref fl, .ref rq, .int xt, .int xf1, .int xp1])), (bk, .inr (0, [.int (nI bw), .ref bk_tail, .ref bk_head, .ref bk_hinder, .ref bk_size, .ref bk_walk, .ref bk_draught, .ref bk_doorIn, .ref bk_fanIn, .ref bk_faceIn, .int (nI bn), .int bk_day, .ref gr]))] sz)) 0 0 (va_A [(x0, .inr (11, [.ref rd, .ref dr, .ref bk, .ref st, .ref j2, .ref tr, .ref pl, .ref fl, .ref rq, .int xt, .int xf1, .int xp1])), (bk, .inr (0, [.int (nI bw), .ref bk_tail, .ref bk_head, .ref bk_hinder, .ref bk_size, .ref bk_walk, .ref bk_draught, .ref bk_doorIn, .ref bk_fanIn, .ref bk_faceIn, .int (nI bn), .int bk_day, .ref gr]))] sz) := by
  refine Met.ofW (cc := cX11_isWay) (maxL := 2) (ret := (some .boolean)) (by decide) rfl ?_
  intro p e s m args below meth c s₁ B hml hv
  obtain ⟨rfl, hsz, hn0, hG, hP, hK, hD0⟩ := hv
  have hx := B.exec
  have hb := B.bytes
  have hr := B.returns
  have hts := atoms_spec (ws := wM yX11_isWay cX11_isWay 2 (some .boolean)) B.pre
  have hown : s.vm.findClass RX11 = some m.cls := findClass_of_methodNamed B.named
  have hlocks := B.notSynchronized
  subst hsz
  have hD := hD0.self (sz := s.heap.size)
  have hA0 := vA_n0 hD0 hn0
  generalize hAe : va_A [(x0, .inr (11, [.ref rd, .ref dr, .ref bk, .ref st, .ref j2, .ref tr, .ref pl, .ref fl, .ref rq, .int xt, .int xf1, .int xp1])), (bk, .inr (0, [.int (nI bw), .ref bk_tail, .ref bk_head, .ref bk_hinder, .ref bk_size, .ref bk_walk, .ref bk_draught, .ref bk_doorIn, .ref bk_fanIn, .ref bk_faceIn, .int (nI bn), .int bk_day, .ref gr]))] s.heap.size = A at hD hA0 ⊢
  have hA : ∀ q : Nat, s.heap.size ≤ q → A q := fun q h => by rw [← hAe]; exact Or.inr h
  have hS : va_S A s.heap s.heap [] := va_S.rf
  have hl := lv_entry ([.ref x0, .int w]) (n := 2) (Nat.le_of_ble_eq_true rfl)
  rw [lg_entry_eq]
  generalize (lg_sl ([.ref x0, .int w]) ++ List.replicate (2 - (lg_sl ([.ref x0, .int w])).length) Slot.unset).toArray = ls at hl ⊢
  have hl : lv_has ls 2 [(0, .ref x0), (1, .int w)] := hl
  refine lv_iload_n hx hb dX11_isWay_0 rfl (lv_at hl 1 rfl) ?_
  refine lv_if_lt (tgt := 19) hx hb dX11_isWay_1 (by decide) (fun c_1 => ?_) (fun c_1 => ?_)
  · skip
    have g_2 : w.toInt < (0 : Int) := i_lt c_1
    refine lv_iconst (v := 0) hx hb dX11_isWay_19 (by decide) ?_
    have hK9 := hK.sub (tys' := []) [] rfl
    exact W.zret (v := 0) hx hb hr rfl (fun t ht hW => ⟨⟨0, (), rfl, (Or.inr ⟨rfl, by omega⟩), by rw [ht]; exact hP.sub [0, 1] rfl, va_K.moved hW.alike hK9, hD.sub [0, 1] (by decide) rfl⟩, hS.F ht⟩) hS.2.2 dX11_isWay_20
  · skip
    have g_3 : (0 : Int) ≤ w.toInt := i_nlt c_1
    refine lv_iload_n hx hb dX11_isWay_4 rfl (lv_at hl 1 rfl) ?_
    refine lv_aload_n hx hb dX11_isWay_5 rfl (lv_at hl 0 rfl) ?_
    refine va_get (D := (dC, dI)) (ci := 11) (v := .ref bk) (C := RX11) (T := TX11) (N := 12) hx hb hts (fun w h => wM_c (iX11 w h)) hown hK hP 0 rfl rfl 2 (by decide) (hts _ (wM_c wd_672)) (fun _ h9 => h9) rfl dX11_isWay_6 ?_
    refine va_get (D := (dC, dI)) (ci := 0) (v := .int (nI bw)) (C := RX0) (T := TX0) (N := 13) hx hb hts (fun w h => wM_c (iX0 w h)) hown hK hP 1 rfl rfl 0 (by decide) (hts _ (wM_c wd_243)) (fun _ h9 => h9) rfl dX11_isWay_9 ?_
    refine lv_icmp_ge (tgt := 19) hx hb dX11_isWay_12 (by decide) (fun c_4 => ?_) (fun c_4 => ?_)
    · skip
      have g_5 : ((bw : Nat) : Int) ≤ w.toInt := (by have h := i_le c_4; rw [nI_toInt (by omega)] at h; exact h)
      refine lv_iconst (v := 0) hx hb dX11_isWay_19 (by decide) ?_
      have hK9 := hK.sub (tys' := []) [] rfl
      exact W.zret (v := 0) hx hb hr rfl (fun t ht hW => ⟨⟨0, (), rfl, (Or.inr ⟨rfl, by omega⟩), by rw [ht]; exact hP.sub [0, 1] rfl, va_K.moved hW.alike hK9, hD.sub [0, 1] (by decide) rfl⟩, hS.F ht⟩) hS.2.2 dX11_isWay_20
    · skip
      have g_6 : w.toInt < ((bw : Nat) : Int) := (by have h := i_nle c_4; rw [nI_toInt (by omega)] at h; exact h)
      refine lv_iconst (v := 1) hx hb dX11_isWay_15 (by decide) ?_
      refine lv_goto (tgt := 20) hx hb dX11_isWay_16 (by decide) ?_
      have hK9 := hK.sub (tys' := []) [] rfl
      exact W.zret (v := 1) hx hb hr rfl (fun t ht hW => ⟨⟨1, (), rfl, (Or.inl ⟨rfl, by omega, by omega⟩), by rw [ht]; exact hP.sub [0, 1] rfl, va_K.moved hW.alike hK9, hD.sub [0, 1] (by decide) rfl⟩, hS.F ht⟩) hS.2.2 dX11_isWay_20
set_option maxHeartbeats 4000000 in
set_option maxRecDepth 100000 in
theorem x_isDoor (l : Launch) (dC : Nat → ClassId) (dI : Nat → Nat → Nat) (n0 : Nat) (atx : Nat → Nat × Nat) (sz : Nat) (x0 : Nat) (rd : Nat) (dr : Nat) (bk : Nat) (st : Nat) (j2 : Nat) (tr : Nat) (pl : Nat) (fl : Nat) (rq : Nat) (xt : Int32) (xf1 : Int32) (xp1 : Int32) (bw : Nat) (bk_tail : Nat) (bk_head : Nat) (bk_hinder : Nat) (bk_size : Nat) (bk_walk : Nat) (bk_draught : Nat) (bk_doorIn : Nat) (bk_fanIn : Nat) (bk_faceIn : Nat) (bn : Nat) (bk_day : Int32) (gr : Nat) (gd : Nat) (gr_doorBy : Nat) (gp : Nat) (gr_pairFirst : Nat) (gr_pairSecond : Nat) (gf : Nat) (gr_fanPush : Nat) (gr_fanFall : Nat) (gr_fanCost : Nat) (ge : Nat) (gr_faceWay : Nat) (gr_faceGas : Nat) (gr_faceNeed : Nat) (w : Int32) (hbw : bw ≤ 14) (hbn : bn ≤ 10) (hgd : gd ≤ 6) (hgp : gp ≤ 3) (hgf : gf ≤ 4) (hge : ge ≤ 4) (q_day : -1 ≤ bk_day.toInt ∧ bk_day.toInt < 10) : Met l yX11_isDoor (wM yX11_isDoor cX11_isDoor 2 (some .boolean)) ({ frames := 0, cells := 0, slots := 0, locals := 0 }) (va_Pc [.ref x0, .int w] (fun U => U.heap.size = sz ∧ n0 ≤ sz ∧ GW n0 atx U ∧ va_P (dC, dI) classes [(x0, .inr (11, [.ref rd, .ref dr, .ref bk, .ref st, .ref j2, .ref tr, .ref pl, .ref fl, .ref rq, .int xt, .int xf1, .int xp1])), (bk, .inr (0, [.int (nI bw), .ref bk_tail, .ref bk_head, .ref bk_hinder, .ref bk_size, .ref bk_walk, .ref bk_draught, .ref bk_doorIn, .ref bk_fanIn, .ref bk_faceIn, .int (nI bn), .int bk_day, .ref gr])), (gr, .inr (3, [.int (nI gd), .ref gr_doorBy, .int (nI gp), .ref gr_pairFirst, .ref gr_pairSecond, .int (nI gf), .ref gr_fanPush, .ref gr_fanFall, .ref gr_fanCost, .int (nI ge), .ref gr_faceWay, .ref gr_faceGas, .ref gr_faceNeed]))] U.heap ∧ va_K (dC, dI) classes [] U ∧ va_D (fun q => n0 ≤ q) [(x0, .inr (11, [.ref rd, .ref dr, .ref bk, .ref st, .ref j2, .ref tr, .ref pl, .ref fl, .ref rq, .int xt, .int xf1, .int xp1])), (bk, .inr (0, [.int (nI bw), .ref bk_tail, .ref bk_head, .ref bk_hinder, .ref bk_size, .ref bk_walk, .ref bk_draught, .ref bk_doorIn, .ref bk_fanIn, .ref bk_faceIn, .int (nI bn), .int bk_day, .ref gr])), (gr, .inr (3, [.int (nI gd), .ref gr_doorBy, .int (nI gp), .ref gr_pairFirst, .ref gr_pairSecond, .int (nI gf), .ref gr_fanPush, .ref gr_fanFall, .ref gr_fanCost, .int (nI ge), .ref gr_faceWay, .ref gr_faceGas, .ref gr_faceNeed]))])) (va_Qi (fun (r : Int32) (_ : Unit) => (r = 1 ∧ 0 ≤ w.toInt ∧ w.toInt < gd) ∨ (r = 0 ∧ ¬ (0 ≤ w.toInt ∧ w.toInt < gd))) (fun (_ : Unit) (t : State) => va_P (dC, dI) classes [(x0, .inr (11, [.ref rd, .ref dr, .ref bk, .ref st, .ref j2, .ref tr, .ref pl, .ref fl, .ref rq, .int xt, .int xf1, .int xp1])), (bk, .inr (0, [.int (nI bw), .ref bk_tail, .ref bk_head, .ref bk_hinder, .ref bk_size, .ref bk_walk, .ref bk_draught, .ref bk_doorIn, .ref bk_fanIn, .ref bk_faceIn, .int (nI bn), .int bk_day, .ref gr])), (gr, .inr (3, [.int (nI gd), .ref gr_doorBy, .int (nI gp), .ref gr_pairFirst, .ref gr_pairSecond, .int (nI gf), .ref gr_fanPush, .ref gr_fanFall, .ref gr_fanCost, .int (nI ge), .ref gr_faceWay, .ref gr_faceGas, .ref gr_faceNeed]))] t.heap ∧ va_K (dC, dI) classes [] t ∧ va_D (va_A [(x0, .inr (11, [.ref rd, .ref dr, .ref bk, .ref st, .ref j2, .ref tr, .ref pl, .ref fl, .ref rq, .int xt, .int xf1, .int xp1])), (bk, .inr (0, [.int (nI bw), .ref bk_tail, .ref bk_head, .ref bk_hinder, .ref bk_size, .ref bk_walk, .ref bk_draught, .ref bk_doorIn, .ref bk_fanIn, .ref bk_faceIn, .int (nI bn), .int bk_day, .ref gr])), (gr, .inr (3, [.int (nI gd), .ref gr_doorBy, .int (nI gp), .ref gr_pairFirst, .ref gr_pairSecond, .int (nI gf), .ref gr_fanPush, .ref gr_fanFall, .ref gr_fanCost, .int (nI ge), .ref gr_faceWay, .ref gr_faceGas, .ref gr_faceNeed]))] sz) [(x0, .inr (11, [.ref rd, .ref dr, .ref bk, .ref st, .ref j2, .ref tr, .ref pl, .ref fl, .ref rq, .int xt, .int xf1, .int xp1])), (bk, .inr (0, [.int (nI bw), .ref bk_tail, .ref bk_head, .ref bk_hinder, .ref bk_size, .ref bk_walk, .ref bk_draught, .ref bk_doorIn, .ref bk_fanIn, .ref bk_faceIn, .int (nI bn), .int bk_day, .ref gr])), (gr, .inr (3, [.int (nI gd), .ref gr_doorBy, .int (nI gp), .ref gr_pairFirst, .ref gr_pairSecond, .int (nI gf), .ref gr_fanPush, .ref gr_fanFall, .ref gr_fanCost, .int (nI ge), .ref gr_faceWay, .ref gr_faceGas, .ref gr_faceNeed]))]) (va_A [(x0, .inr (11, [.ref rd, .ref dr, .ref bk, .ref st, .ref j2, .ref tr, .ref pl, .ref fl, .ref rq, .int xt, .int xf1, .int xp1])), (bk, .inr (0, [.int (nI bw), .ref bk_tail, .ref bk_head, .ref bk_hinder, .ref bk_size, .ref bk_walk, .ref bk_draught, .ref bk_doorIn, .ref bk_fanIn, .ref bk_faceIn, .int (nI bn), .int bk_day, .ref gr])), (gr, .inr (3, [.int (nI gd), .ref gr_doorBy, .int (nI gp), .ref gr_pairFirst, .ref gr_pairSecond, .int (nI gf), .ref gr_fanPush, .ref gr_fanFall, .ref gr_fanCost, .int (nI ge), .ref gr_faceWay, .ref gr_faceGas, .ref gr_faceNeed]))] sz)) 0 0 (va_A [(x0, .inr (11, [.ref rd, .ref dr, .ref bk, .ref st, .ref j2, .ref tr, .ref pl, .ref fl, .ref rq, .int xt, .int xf1, .int xp1])), (bk, .inr (0, [.int (nI bw), .ref bk_tail, .ref bk_head, .ref bk_hinder, .ref bk_size, .ref bk_walk, .ref bk_draught, .ref bk_doorIn, .ref bk_fanIn, .ref bk_faceIn, .int (nI bn), .int bk_day, .ref gr])), (gr, .inr (3, [.int (nI gd), .ref gr_doorBy, .int (nI gp), .ref gr_pairFirst, .ref gr_pairSecond, .int (nI gf), .ref gr_fanPush, .ref gr_fanFall, .ref gr_fanCost, .int (nI ge), .ref gr_faceWay, .ref gr_faceGas, .ref gr_faceNeed]))] sz) := by
  refine Met.ofW (cc := cX11_isDoor) (maxL := 2) (ret := (some .boolean)) (by decide) rfl ?_
  intro p e s m args below meth c s₁ B hml hv
  obtain ⟨rfl, hsz, hn0, hG, hP, hK, hD0⟩ := hv
  have hx := B.exec
  have hb := B.bytes
  have hr := B.returns
  have hts := atoms_spec (ws := wM yX11_isDoor cX11_isDoor 2 (some .boolean)) B.pre
  have hown : s.vm.findClass RX11 = some m.cls := findClass_of_methodNamed B.named
  have hlocks := B.notSynchronized
  subst hsz
  have hD := hD0.self (sz := s.heap.size)
  have hA0 := vA_n0 hD0 hn0
  generalize hAe : va_A [(x0, .inr (11, [.ref rd, .ref dr, .ref bk, .ref st, .ref j2, .ref tr, .ref pl, .ref fl, .ref rq, .int xt, .int xf1, .int xp1])), (bk, .inr (0, [.int (nI bw), .ref bk_tail, .ref bk_head, .ref bk_hinder, .ref bk_size, .ref bk_walk, .ref bk_draught, .ref bk_doorIn, .ref bk_fanIn, .ref bk_faceIn, .int (nI bn), .int bk_day, .ref gr])), (gr, .inr (3, [.int (nI gd), .ref gr_doorBy, .int (nI gp), .ref gr_pairFirst, .ref gr_pairSecond, .int (nI gf), .ref gr_fanPush, .ref gr_fanFall, .ref gr_fanCost, .int (nI ge), .ref gr_faceWay, .ref gr_faceGas, .ref gr_faceNeed]))] s.heap.size = A at hD hA0 ⊢
  have hA : ∀ q : Nat, s.heap.size ≤ q → A q := fun q h => by rw [← hAe]; exact Or.inr h
  have hS : va_S A s.heap s.heap [] := va_S.rf
  have hl := lv_entry ([.ref x0, .int w]) (n := 2) (Nat.le_of_ble_eq_true rfl)
  rw [lg_entry_eq]
  generalize (lg_sl ([.ref x0, .int w]) ++ List.replicate (2 - (lg_sl ([.ref x0, .int w])).length) Slot.unset).toArray = ls at hl ⊢
  have hl : lv_has ls 2 [(0, .ref x0), (1, .int w)] := hl
  refine lv_iload_n hx hb dX11_isDoor_0 rfl (lv_at hl 1 rfl) ?_
  refine lv_if_lt (tgt := 22) hx hb dX11_isDoor_1 (by decide) (fun c_1 => ?_) (fun c_1 => ?_)
  · skip
    have g_2 : w.toInt < (0 : Int) := i_lt c_1
    refine lv_iconst (v := 0) hx hb dX11_isDoor_22 (by decide) ?_
    have hK9 := hK.sub (tys' := []) [] rfl
    exact W.zret (v := 0) hx hb hr rfl (fun t ht hW => ⟨⟨0, (), rfl, (Or.inr ⟨rfl, by omega⟩), by rw [ht]; exact hP.sub [0, 1, 2] rfl, va_K.moved hW.alike hK9, hD.sub [0, 1, 2] (by decide) rfl⟩, hS.F ht⟩) hS.2.2 dX11_isDoor_23
  · skip
    have g_3 : (0 : Int) ≤ w.toInt := i_nlt c_1
    refine lv_iload_n hx hb dX11_isDoor_4 rfl (lv_at hl 1 rfl) ?_
    refine lv_aload_n hx hb dX11_isDoor_5 rfl (lv_at hl 0 rfl) ?_
    refine va_get (D := (dC, dI)) (ci := 11) (v := .ref bk) (C := RX11) (T := TX11) (N := 12) hx hb hts (fun w h => wM_c (iX11 w h)) hown hK hP 0 rfl rfl 2 (by decide) (hts _ (wM_c wd_672)) (fun _ h9 => h9) rfl dX11_isDoor_6 ?_
    refine va_get (D := (dC, dI)) (ci := 0) (v := .ref gr) (C := RX0) (T := TX0) (N := 13) hx hb hts (fun w h => wM_c (iX0 w h)) hown hK hP 1 rfl rfl 12 (by decide) (hts _ (wM_c wd_299)) (fun _ h9 => h9) rfl dX11_isDoor_9 ?_
    refine va_get (D := (dC, dI)) (ci := 3) (v := .int (nI gd)) (C := RX3) (T := TX3) (N := 13) hx hb hts (fun w h => wM_c (iX3 w h)) hown hK hP 2 rfl rfl 0 (by decide) (hts _ (wM_c wd_163)) (fun _ h9 => h9) rfl dX11_isDoor_12 ?_
    refine lv_icmp_ge (tgt := 22) hx hb dX11_isDoor_15 (by decide) (fun c_4 => ?_) (fun c_4 => ?_)
    · skip
      have g_5 : ((gd : Nat) : Int) ≤ w.toInt := (by have h := i_le c_4; rw [nI_toInt (by omega)] at h; exact h)
      refine lv_iconst (v := 0) hx hb dX11_isDoor_22 (by decide) ?_
      have hK9 := hK.sub (tys' := []) [] rfl
      exact W.zret (v := 0) hx hb hr rfl (fun t ht hW => ⟨⟨0, (), rfl, (Or.inr ⟨rfl, by omega⟩), by rw [ht]; exact hP.sub [0, 1, 2] rfl, va_K.moved hW.alike hK9, hD.sub [0, 1, 2] (by decide) rfl⟩, hS.F ht⟩) hS.2.2 dX11_isDoor_23
    · skip
      have g_6 : w.toInt < ((gd : Nat) : Int) := (by have h := i_nle c_4; rw [nI_toInt (by omega)] at h; exact h)
      refine lv_iconst (v := 1) hx hb dX11_isDoor_18 (by decide) ?_
      refine lv_goto (tgt := 23) hx hb dX11_isDoor_19 (by decide) ?_
      have hK9 := hK.sub (tys' := []) [] rfl
      exact W.zret (v := 1) hx hb hr rfl (fun t ht hW => ⟨⟨1, (), rfl, (Or.inl ⟨rfl, by omega, by omega⟩), by rw [ht]; exact hP.sub [0, 1, 2] rfl, va_K.moved hW.alike hK9, hD.sub [0, 1, 2] (by decide) rfl⟩, hS.F ht⟩) hS.2.2 dX11_isDoor_23
set_option maxHeartbeats 4000000 in
set_option maxRecDepth 100000 in
theorem x_isFan (l : Launch) (dC : Nat → ClassId) (dI : Nat → Nat → Nat) (n0 : Nat) (atx : Nat → Nat × Nat) (sz : Nat) (x0 : Nat) (rd : Nat) (dr : Nat) (bk : Nat) (st : Nat) (j2 : Nat) (tr : Nat) (pl : Nat) (fl : Nat) (rq : Nat) (xt : Int32) (xf1 : Int32) (xp1 : Int32) (bw : Nat) (bk_tail : Nat) (bk_head : Nat) (bk_hinder : Nat) (bk_size : Nat) (bk_walk : Nat) (bk_draught : Nat) (bk_doorIn : Nat) (bk_fanIn : Nat) (bk_faceIn : Nat) (bn : Nat) (bk_day : Int32) (gr : Nat) (gd : Nat) (gr_doorBy : Nat) (gp : Nat) (gr_pairFirst : Nat) (gr_pairSecond : Nat) (gf : Nat) (gr_fanPush : Nat) (gr_fanFall : Nat) (gr_fanCost : Nat) (ge : Nat) (gr_faceWay : Nat) (gr_faceGas : Nat) (gr_faceNeed : Nat) (w : Int32) (hbw : bw ≤ 14) (hbn : bn ≤ 10) (hgd : gd ≤ 6) (hgp : gp ≤ 3) (hgf : gf ≤ 4) (hge : ge ≤ 4) (q_day : -1 ≤ bk_day.toInt ∧ bk_day.toInt < 10) : Met l yX11_isFan (wM yX11_isFan cX11_isFan 2 (some .boolean)) ({ frames := 0, cells := 0, slots := 0, locals := 0 }) (va_Pc [.ref x0, .int w] (fun U => U.heap.size = sz ∧ n0 ≤ sz ∧ GW n0 atx U ∧ va_P (dC, dI) classes [(x0, .inr (11, [.ref rd, .ref dr, .ref bk, .ref st, .ref j2, .ref tr, .ref pl, .ref fl, .ref rq, .int xt, .int xf1, .int xp1])), (bk, .inr (0, [.int (nI bw), .ref bk_tail, .ref bk_head, .ref bk_hinder, .ref bk_size, .ref bk_walk, .ref bk_draught, .ref bk_doorIn, .ref bk_fanIn, .ref bk_faceIn, .int (nI bn), .int bk_day, .ref gr])), (gr, .inr (3, [.int (nI gd), .ref gr_doorBy, .int (nI gp), .ref gr_pairFirst, .ref gr_pairSecond, .int (nI gf), .ref gr_fanPush, .ref gr_fanFall, .ref gr_fanCost, .int (nI ge), .ref gr_faceWay, .ref gr_faceGas, .ref gr_faceNeed]))] U.heap ∧ va_K (dC, dI) classes [] U ∧ va_D (fun q => n0 ≤ q) [(x0, .inr (11, [.ref rd, .ref dr, .ref bk, .ref st, .ref j2, .ref tr, .ref pl, .ref fl, .ref rq, .int xt, .int xf1, .int xp1])), (bk, .inr (0, [.int (nI bw), .ref bk_tail, .ref bk_head, .ref bk_hinder, .ref bk_size, .ref bk_walk, .ref bk_draught, .ref bk_doorIn, .ref bk_fanIn, .ref bk_faceIn, .int (nI bn), .int bk_day, .ref gr])), (gr, .inr (3, [.int (nI gd), .ref gr_doorBy, .int (nI gp), .ref gr_pairFirst, .ref gr_pairSecond, .int (nI gf), .ref gr_fanPush, .ref gr_fanFall, .ref gr_fanCost, .int (nI ge), .ref gr_faceWay, .ref gr_faceGas, .ref gr_faceNeed]))])) (va_Qi (fun (r : Int32) (_ : Unit) => (r = 1 ∧ 0 ≤ w.toInt ∧ w.toInt < gf) ∨ (r = 0 ∧ ¬ (0 ≤ w.toInt ∧ w.toInt < gf))) (fun (_ : Unit) (t : State) => va_P (dC, dI) classes [(x0, .inr (11, [.ref rd, .ref dr, .ref bk, .ref st, .ref j2, .ref tr, .ref pl, .ref fl, .ref rq, .int xt, .int xf1, .int xp1])), (bk, .inr (0, [.int (nI bw), .ref bk_tail, .ref bk_head, .ref bk_hinder, .ref bk_size, .ref bk_walk, .ref bk_draught, .ref bk_doorIn, .ref bk_fanIn, .ref bk_faceIn, .int (nI bn), .int bk_day, .ref gr])), (gr, .inr (3, [.int (nI gd), .ref gr_doorBy, .int (nI gp), .ref gr_pairFirst, .ref gr_pairSecond, .int (nI gf), .ref gr_fanPush, .ref gr_fanFall, .ref gr_fanCost, .int (nI ge), .ref gr_faceWay, .ref gr_faceGas, .ref gr_faceNeed]))] t.heap ∧ va_K (dC, dI) classes [] t ∧ va_D (va_A [(x0, .inr (11, [.ref rd, .ref dr, .ref bk, .ref st, .ref j2, .ref tr, .ref pl, .ref fl, .ref rq, .int xt, .int xf1, .int xp1])), (bk, .inr (0, [.int (nI bw), .ref bk_tail, .ref bk_head, .ref bk_hinder, .ref bk_size, .ref bk_walk, .ref bk_draught, .ref bk_doorIn, .ref bk_fanIn, .ref bk_faceIn, .int (nI bn), .int bk_day, .ref gr])), (gr, .inr (3, [.int (nI gd), .ref gr_doorBy, .int (nI gp), .ref gr_pairFirst, .ref gr_pairSecond, .int (nI gf), .ref gr_fanPush, .ref gr_fanFall, .ref gr_fanCost, .int (nI ge), .ref gr_faceWay, .ref gr_faceGas, .ref gr_faceNeed]))] sz) [(x0, .inr (11, [.ref rd, .ref dr, .ref bk, .ref st, .ref j2, .ref tr, .ref pl, .ref fl, .ref rq, .int xt, .int xf1, .int xp1])), (bk, .inr (0, [.int (nI bw), .ref bk_tail, .ref bk_head, .ref bk_hinder, .ref bk_size, .ref bk_walk, .ref bk_draught, .ref bk_doorIn, .ref bk_fanIn, .ref bk_faceIn, .int (nI bn), .int bk_day, .ref gr])), (gr, .inr (3, [.int (nI gd), .ref gr_doorBy, .int (nI gp), .ref gr_pairFirst, .ref gr_pairSecond, .int (nI gf), .ref gr_fanPush, .ref gr_fanFall, .ref gr_fanCost, .int (nI ge), .ref gr_faceWay, .ref gr_faceGas, .ref gr_faceNeed]))]) (va_A [(x0, .inr (11, [.ref rd, .ref dr, .ref bk, .ref st, .ref j2, .ref tr, .ref pl, .ref fl, .ref rq, .int xt, .int xf1, .int xp1])), (bk, .inr (0, [.int (nI bw), .ref bk_tail, .ref bk_head, .ref bk_hinder, .ref bk_size, .ref bk_walk, .ref bk_draught, .ref bk_doorIn, .ref bk_fanIn, .ref bk_faceIn, .int (nI bn), .int bk_day, .ref gr])), (gr, .inr (3, [.int (nI gd), .ref gr_doorBy, .int (nI gp), .ref gr_pairFirst, .ref gr_pairSecond, .int (nI gf), .ref gr_fanPush, .ref gr_fanFall, .ref gr_fanCost, .int (nI ge), .ref gr_faceWay, .ref gr_faceGas, .ref gr_faceNeed]))] sz)) 0 0 (va_A [(x0, .inr (11, [.ref rd, .ref dr, .ref bk, .ref st, .ref j2, .ref tr, .ref pl, .ref fl, .ref rq, .int xt, .int xf1, .int xp1])), (bk, .inr (0, [.int (nI bw), .ref bk_tail, .ref bk_head, .ref bk_hinder, .ref bk_size, .ref bk_walk, .ref bk_draught, .ref bk_doorIn, .ref bk_fanIn, .ref bk_faceIn, .int (nI bn), .int bk_day, .ref gr])), (gr, .inr (3, [.int (nI gd), .ref gr_doorBy, .int (nI gp), .ref gr_pairFirst, .ref gr_pairSecond, .int (nI gf), .ref gr_fanPush, .ref gr_fanFall, .ref gr_fanCost, .int (nI ge), .ref gr_faceWay, .ref gr_faceGas, .ref gr_faceNeed]))] sz) := by
  refine Met.ofW (cc := cX11_isFan) (maxL := 2) (ret := (some .boolean)) (by decide) rfl ?_
  intro p e s m args below meth c s₁ B hml hv
  obtain ⟨rfl, hsz, hn0, hG, hP, hK, hD0⟩ := hv
  have hx := B.exec
  have hb := B.bytes
  have hr := B.returns
  have hts := atoms_spec (ws := wM yX11_isFan cX11_isFan 2 (some .boolean)) B.pre
  have hown : s.vm.findClass RX11 = some m.cls := findClass_of_methodNamed B.named
  have hlocks := B.notSynchronized
  subst hsz
  have hD := hD0.self (sz := s.heap.size)
  have hA0 := vA_n0 hD0 hn0
  generalize hAe : va_A [(x0, .inr (11, [.ref rd, .ref dr, .ref bk, .ref st, .ref j2, .ref tr, .ref pl, .ref fl, .ref rq, .int xt, .int xf1, .int xp1])), (bk, .inr (0, [.int (nI bw), .ref bk_tail, .ref bk_head, .ref bk_hinder, .ref bk_size, .ref bk_walk, .ref bk_draught, .ref bk_doorIn, .ref bk_fanIn, .ref bk_faceIn, .int (nI bn), .int bk_day, .ref gr])), (gr, .inr (3, [.int (nI gd), .ref gr_doorBy, .int (nI gp), .ref gr_pairFirst, .ref gr_pairSecond, .int (nI gf), .ref gr_fanPush, .ref gr_fanFall, .ref gr_fanCost, .int (nI ge), .ref gr_faceWay, .ref gr_faceGas, .ref gr_faceNeed]))] s.heap.size = A at hD hA0 ⊢
  have hA : ∀ q : Nat, s.heap.size ≤ q → A q := fun q h => by rw [← hAe]; exact Or.inr h
  have hS : va_S A s.heap s.heap [] := va_S.rf
  have hl := lv_entry ([.ref x0, .int w]) (n := 2) (Nat.le_of_ble_eq_true rfl)
  rw [lg_entry_eq]
  generalize (lg_sl ([.ref x0, .int w]) ++ List.replicate (2 - (lg_sl ([.ref x0, .int w])).length) Slot.unset).toArray = ls at hl ⊢
  have hl : lv_has ls 2 [(0, .ref x0), (1, .int w)] := hl
  refine lv_iload_n hx hb dX11_isFan_0 rfl (lv_at hl 1 rfl) ?_
  refine lv_if_lt (tgt := 22) hx hb dX11_isFan_1 (by decide) (fun c_1 => ?_) (fun c_1 => ?_)
  · skip
    have g_2 : w.toInt < (0 : Int) := i_lt c_1
    refine lv_iconst (v := 0) hx hb dX11_isFan_22 (by decide) ?_
    have hK9 := hK.sub (tys' := []) [] rfl
    exact W.zret (v := 0) hx hb hr rfl (fun t ht hW => ⟨⟨0, (), rfl, (Or.inr ⟨rfl, by omega⟩), by rw [ht]; exact hP.sub [0, 1, 2] rfl, va_K.moved hW.alike hK9, hD.sub [0, 1, 2] (by decide) rfl⟩, hS.F ht⟩) hS.2.2 dX11_isFan_23
  · skip
    have g_3 : (0 : Int) ≤ w.toInt := i_nlt c_1
    refine lv_iload_n hx hb dX11_isFan_4 rfl (lv_at hl 1 rfl) ?_
    refine lv_aload_n hx hb dX11_isFan_5 rfl (lv_at hl 0 rfl) ?_
    refine va_get (D := (dC, dI)) (ci := 11) (v := .ref bk) (C := RX11) (T := TX11) (N := 12) hx hb hts (fun w h => wM_c (iX11 w h)) hown hK hP 0 rfl rfl 2 (by decide) (hts _ (wM_c wd_672)) (fun _ h9 => h9) rfl dX11_isFan_6 ?_
    refine va_get (D := (dC, dI)) (ci := 0) (v := .ref gr) (C := RX0) (T := TX0) (N := 13) hx hb hts (fun w h => wM_c (iX0 w h)) hown hK hP 1 rfl rfl 12 (by decide) (hts _ (wM_c wd_299)) (fun _ h9 => h9) rfl dX11_isFan_9 ?_
    refine va_get (D := (dC, dI)) (ci := 3) (v := .int (nI gf)) (C := RX3) (T := TX3) (N := 13) hx hb hts (fun w h => wM_c (iX3 w h)) hown hK hP 2 rfl rfl 5 (by decide) (hts _ (wM_c wd_182)) (fun _ h9 => h9) rfl dX11_isFan_12 ?_
    refine lv_icmp_ge (tgt := 22) hx hb dX11_isFan_15 (by decide) (fun c_4 => ?_) (fun c_4 => ?_)
    · skip
      have g_5 : ((gf : Nat) : Int) ≤ w.toInt := (by have h := i_le c_4; rw [nI_toInt (by omega)] at h; exact h)
      refine lv_iconst (v := 0) hx hb dX11_isFan_22 (by decide) ?_
      have hK9 := hK.sub (tys' := []) [] rfl
      exact W.zret (v := 0) hx hb hr rfl (fun t ht hW => ⟨⟨0, (), rfl, (Or.inr ⟨rfl, by omega⟩), by rw [ht]; exact hP.sub [0, 1, 2] rfl, va_K.moved hW.alike hK9, hD.sub [0, 1, 2] (by decide) rfl⟩, hS.F ht⟩) hS.2.2 dX11_isFan_23
    · skip
      have g_6 : w.toInt < ((gf : Nat) : Int) := (by have h := i_nle c_4; rw [nI_toInt (by omega)] at h; exact h)
      refine lv_iconst (v := 1) hx hb dX11_isFan_18 (by decide) ?_
      refine lv_goto (tgt := 23) hx hb dX11_isFan_19 (by decide) ?_
      have hK9 := hK.sub (tys' := []) [] rfl
      exact W.zret (v := 1) hx hb hr rfl (fun t ht hW => ⟨⟨1, (), rfl, (Or.inl ⟨rfl, by omega, by omega⟩), by rw [ht]; exact hP.sub [0, 1, 2] rfl, va_K.moved hW.alike hK9, hD.sub [0, 1, 2] (by decide) rfl⟩, hS.F ht⟩) hS.2.2 dX11_isFan_23
set_option maxHeartbeats 4000000 in
set_option maxRecDepth 100000 in
theorem x_isMan (l : Launch) (dC : Nat → ClassId) (dI : Nat → Nat → Nat) (n0 : Nat) (atx : Nat → Nat × Nat) (sz : Nat) (x0 : Nat) (rd : Nat) (dr : Nat) (bk : Nat) (st : Nat) (j2 : Nat) (tr : Nat) (pl : Nat) (fl : Nat) (rq : Nat) (xt : Int32) (xf1 : Int32) (xp1 : Int32) (mm : Nat) (fl_knotOf : Nat) (fl_smokeAt : Nat) (fl_reach : Nat) (fl_route : Nat) (fl_smokeIn : Nat) (w : Int32) (hmm : mm ≤ 20) : Met l yX11_isMan (wM yX11_isMan cX11_isMan 2 (some .boolean)) ({ frames := 0, cells := 0, slots := 0, locals := 0 }) (va_Pc [.ref x0, .int w] (fun U => U.heap.size = sz ∧ n0 ≤ sz ∧ GW n0 atx U ∧ va_P (dC, dI) classes [(x0, .inr (11, [.ref rd, .ref dr, .ref bk, .ref st, .ref j2, .ref tr, .ref pl, .ref fl, .ref rq, .int xt, .int xf1, .int xp1])), (fl, .inr (1, [.int (nI mm), .ref fl_knotOf, .ref fl_smokeAt, .ref fl_reach, .ref fl_route, .ref bk, .ref st, .ref fl_smokeIn]))] U.heap ∧ va_K (dC, dI) classes [] U ∧ va_D (fun q => n0 ≤ q) [(x0, .inr (11, [.ref rd, .ref dr, .ref bk, .ref st, .ref j2, .ref tr, .ref pl, .ref fl, .ref rq, .int xt, .int xf1, .int xp1])), (fl, .inr (1, [.int (nI mm), .ref fl_knotOf, .ref fl_smokeAt, .ref fl_reach, .ref fl_route, .ref bk, .ref st, .ref fl_smokeIn]))])) (va_Qi (fun (r : Int32) (_ : Unit) => (r = 1 ∧ 0 ≤ w.toInt ∧ w.toInt < mm) ∨ (r = 0 ∧ ¬ (0 ≤ w.toInt ∧ w.toInt < mm))) (fun (_ : Unit) (t : State) => va_P (dC, dI) classes [(x0, .inr (11, [.ref rd, .ref dr, .ref bk, .ref st, .ref j2, .ref tr, .ref pl, .ref fl, .ref rq, .int xt, .int xf1, .int xp1])), (fl, .inr (1, [.int (nI mm), .ref fl_knotOf, .ref fl_smokeAt, .ref fl_reach, .ref fl_route, .ref bk, .ref st, .ref fl_smokeIn]))] t.heap ∧ va_K (dC, dI) classes [] t ∧ va_D (va_A [(x0, .inr (11, [.ref rd, .ref dr, .ref bk, .ref st, .ref j2, .ref tr, .ref pl, .ref fl, .ref rq, .int xt, .int xf1, .int xp1])), (fl, .inr (1, [.int (nI mm), .ref fl_knotOf, .ref fl_smokeAt, .ref fl_reach, .ref fl_route, .ref bk, .ref st, .ref fl_smokeIn]))] sz) [(x0, .inr (11, [.ref rd, .ref dr, .ref bk, .ref st, .ref j2, .ref tr, .ref pl, .ref fl, .ref rq, .int xt, .int xf1, .int xp1])), (fl, .inr (1, [.int (nI mm), .ref fl_knotOf, .ref fl_smokeAt, .ref fl_reach, .ref fl_route, .ref bk, .ref st, .ref fl_smokeIn]))]) (va_A [(x0, .inr (11, [.ref rd, .ref dr, .ref bk, .ref st, .ref j2, .ref tr, .ref pl, .ref fl, .ref rq, .int xt, .int xf1, .int xp1])), (fl, .inr (1, [.int (nI mm), .ref fl_knotOf, .ref fl_smokeAt, .ref fl_reach, .ref fl_route, .ref bk, .ref st, .ref fl_smokeIn]))] sz)) 0 0 (va_A [(x0, .inr (11, [.ref rd, .ref dr, .ref bk, .ref st, .ref j2, .ref tr, .ref pl, .ref fl, .ref rq, .int xt, .int xf1, .int xp1])), (fl, .inr (1, [.int (nI mm), .ref fl_knotOf, .ref fl_smokeAt, .ref fl_reach, .ref fl_route, .ref bk, .ref st, .ref fl_smokeIn]))] sz) := by
  refine Met.ofW (cc := cX11_isMan) (maxL := 2) (ret := (some .boolean)) (by decide) rfl ?_
  intro p e s m args below meth c s₁ B hml hv
  obtain ⟨rfl, hsz, hn0, hG, hP, hK, hD0⟩ := hv
  have hx := B.exec
  have hb := B.bytes
  have hr := B.returns
  have hts := atoms_spec (ws := wM yX11_isMan cX11_isMan 2 (some .boolean)) B.pre
  have hown : s.vm.findClass RX11 = some m.cls := findClass_of_methodNamed B.named
  have hlocks := B.notSynchronized
  subst hsz
  have hD := hD0.self (sz := s.heap.size)
  have hA0 := vA_n0 hD0 hn0
  generalize hAe : va_A [(x0, .inr (11, [.ref rd, .ref dr, .ref bk, .ref st, .ref j2, .ref tr, .ref pl, .ref fl, .ref rq, .int xt, .int xf1, .int xp1])), (fl, .inr (1, [.int (nI mm), .ref fl_knotOf, .ref fl_smokeAt, .ref fl_reach, .ref fl_route, .ref bk, .ref st, .ref fl_smokeIn]))] s.heap.size = A at hD hA0 ⊢
  have hA : ∀ q : Nat, s.heap.size ≤ q → A q := fun q h => by rw [← hAe]; exact Or.inr h
  have hS : va_S A s.heap s.heap [] := va_S.rf
  have hl := lv_entry ([.ref x0, .int w]) (n := 2) (Nat.le_of_ble_eq_true rfl)
  rw [lg_entry_eq]
  generalize (lg_sl ([.ref x0, .int w]) ++ List.replicate (2 - (lg_sl ([.ref x0, .int w])).length) Slot.unset).toArray = ls at hl ⊢
  have hl : lv_has ls 2 [(0, .ref x0), (1, .int w)] := hl
  refine lv_iload_n hx hb dX11_isMan_0 rfl (lv_at hl 1 rfl) ?_
  refine lv_if_lt (tgt := 19) hx hb dX11_isMan_1 (by decide) (fun c_1 => ?_) (fun c_1 => ?_)
  · skip
    have g_2 : w.toInt < (0 : Int) := i_lt c_1
    refine lv_iconst (v := 0) hx hb dX11_isMan_19 (by decide) ?_
    have hK9 := hK.sub (tys' := []) [] rfl
    exact W.zret (v := 0) hx hb hr rfl (fun t ht hW => ⟨⟨0, (), rfl, (Or.inr ⟨rfl, by omega⟩), by rw [ht]; exact hP.sub [0, 1] rfl, va_K.moved hW.alike hK9, hD.sub [0, 1] (by decide) rfl⟩, hS.F ht⟩) hS.2.2 dX11_isMan_20
  · skip
    have g_3 : (0 : Int) ≤ w.toInt := i_nlt c_1
    refine lv_iload_n hx hb dX11_isMan_4 rfl (lv_at hl 1 rfl) ?_
    refine lv_aload_n hx hb dX11_isMan_5 rfl (lv_at hl 0 rfl) ?_
    refine va_get (D := (dC, dI)) (ci := 11) (v := .ref fl) (C := RX11) (T := TX11) (N := 12) hx hb hts (fun w h => wM_c (iX11 w h)) hown hK hP 0 rfl rfl 7 (by decide) (hts _ (wM_c wd_677)) (fun _ h9 => h9) rfl dX11_isMan_6 ?_
    refine va_get (D := (dC, dI)) (ci := 1) (v := .int (nI mm)) (C := RX1) (T := TX1) (N := 8) hx hb hts (fun w h => wM_c (iX1 w h)) hown hK hP 1 rfl rfl 0 (by decide) (hts _ (wM_c wd_614)) (fun _ h9 => h9) rfl dX11_isMan_9 ?_
    refine lv_icmp_ge (tgt := 19) hx hb dX11_isMan_12 (by decide) (fun c_4 => ?_) (fun c_4 => ?_)
    · skip
      have g_5 : ((mm : Nat) : Int) ≤ w.toInt := (by have h := i_le c_4; rw [nI_toInt (by omega)] at h; exact h)
      refine lv_iconst (v := 0) hx hb dX11_isMan_19 (by decide) ?_
      have hK9 := hK.sub (tys' := []) [] rfl
      exact W.zret (v := 0) hx hb hr rfl (fun t ht hW => ⟨⟨0, (), rfl, (Or.inr ⟨rfl, by omega⟩), by rw [ht]; exact hP.sub [0, 1] rfl, va_K.moved hW.alike hK9, hD.sub [0, 1] (by decide) rfl⟩, hS.F ht⟩) hS.2.2 dX11_isMan_20
    · skip
      have g_6 : w.toInt < ((mm : Nat) : Int) := (by have h := i_nle c_4; rw [nI_toInt (by omega)] at h; exact h)
      refine lv_iconst (v := 1) hx hb dX11_isMan_15 (by decide) ?_
      refine lv_goto (tgt := 20) hx hb dX11_isMan_16 (by decide) ?_
      have hK9 := hK.sub (tys' := []) [] rfl
      exact W.zret (v := 1) hx hb hr rfl (fun t ht hW => ⟨⟨1, (), rfl, (Or.inl ⟨rfl, by omega, by omega⟩), by rw [ht]; exact hP.sub [0, 1] rfl, va_K.moved hW.alike hK9, hD.sub [0, 1] (by decide) rfl⟩, hS.F ht⟩) hS.2.2 dX11_isMan_20
set_option maxHeartbeats 4000000 in
set_option maxRecDepth 100000 in
theorem x_isBooked (l : Launch) (dC : Nat → ClassId) (dI : Nat → Nat → Nat) (n0 : Nat) (atx : Nat → Nat × Nat) (sz : Nat) (x0 : Nat) (rd : Nat) (dr : Nat) (bk : Nat) (st : Nat) (j2 : Nat) (tr : Nat) (pl : Nat) (fl : Nat) (rq : Nat) (xt : Int32) (xf1 : Int32) (xp1 : Int32) (bw : Nat) (bk_tail : Nat) (bk_head : Nat) (bk_hinder : Nat) (bk_size : Nat) (bk_walk : Nat) (bk_draught : Nat) (bk_doorIn : Nat) (bk_fanIn : Nat) (bk_faceIn : Nat) (bn : Nat) (bk_day : Int32) (gr : Nat) (hbw : bw ≤ 14) (hbn : bn ≤ 10) (q_day : -1 ≤ bk_day.toInt ∧ bk_day.toInt < 10) : Met l yX11_isBooked (wM yX11_isBooked cX11_isBooked 1 (some .boolean)) ({ frames := 0, cells := 0, slots := 0, locals := 0 }) (va_Pc [.ref x0] (fun U => U.heap.size = sz ∧ n0 ≤ sz ∧ GW n0 atx U ∧ va_P (dC, dI) classes [(x0, .inr (11, [.ref rd, .ref dr, .ref bk, .ref st, .ref j2, .ref tr, .ref pl, .ref fl, .ref rq, .int xt, .int xf1, .int xp1])), (bk, .inr (0, [.int (nI bw), .ref bk_tail, .ref bk_head, .ref bk_hinder, .ref bk_size, .ref bk_walk, .ref bk_draught, .ref bk_doorIn, .ref bk_fanIn, .ref bk_faceIn, .int (nI bn), .int bk_day, .ref gr]))] U.heap ∧ va_K (dC, dI) classes [] U ∧ va_D (fun q => n0 ≤ q) [(x0, .inr (11, [.ref rd, .ref dr, .ref bk, .ref st, .ref j2, .ref tr, .ref pl, .ref fl, .ref rq, .int xt, .int xf1, .int xp1])), (bk, .inr (0, [.int (nI bw), .ref bk_tail, .ref bk_head, .ref bk_hinder, .ref bk_size, .ref bk_walk, .ref bk_draught, .ref bk_doorIn, .ref bk_fanIn, .ref bk_faceIn, .int (nI bn), .int bk_day, .ref gr]))])) (va_Qi (fun (r : Int32) (_ : Unit) => r = 0 ∨ r = 1) (fun (_ : Unit) (t : State) => va_P (dC, dI) classes [(x0, .inr (11, [.ref rd, .ref dr, .ref bk, .ref st, .ref j2, .ref tr, .ref pl, .ref fl, .ref rq, .int xt, .int xf1, .int xp1])), (bk, .inr (0, [.int (nI bw), .ref bk_tail, .ref bk_head, .ref bk_hinder, .ref bk_size, .ref bk_walk, .ref bk_draught, .ref bk_doorIn, .ref bk_fanIn, .ref bk_faceIn, .int (nI bn), .int bk_day, .ref gr]))] t.heap ∧ va_K (dC, dI) classes [] t ∧ va_D (va_A [(x0, .inr (11, [.ref rd, .ref dr, .ref bk, .ref st, .ref j2, .ref tr, .ref pl, .ref fl, .ref rq, .int xt, .int xf1, .int xp1])), (bk, .inr (0, [.int (nI bw), .ref bk_tail, .ref bk_head, .ref bk_hinder, .ref bk_size, .ref bk_walk, .ref bk_draught, .ref bk_doorIn, .ref bk_fanIn, .ref bk_faceIn, .int (nI bn), .int bk_day, .ref gr]))] sz) [(x0, .inr (11, [.ref rd, .ref dr, .ref bk, .ref st, .ref j2, .ref tr, .ref pl, .ref fl, .ref rq, .int xt, .int xf1, .int xp1])), (bk, .inr (0, [.int (nI bw), .ref bk_tail, .ref bk_head, .ref bk_hinder, .ref bk_size, .ref bk_walk, .ref bk_draught, .ref bk_doorIn, .ref bk_fanIn, .ref bk_faceIn, .int (nI bn), .int bk_day, .ref gr]))]) (va_A [(x0, .inr (11, [.ref rd, .ref dr, .ref bk, .ref st, .ref j2, .ref tr, .ref pl, .ref fl, .ref rq, .int xt, .int xf1, .int xp1])), (bk, .inr (0, [.int (nI bw), .ref bk_tail, .ref bk_head, .ref bk_hinder, .ref bk_size, .ref bk_walk, .ref bk_draught, .ref bk_doorIn, .ref bk_fanIn, .ref bk_faceIn, .int (nI bn), .int bk_day, .ref gr]))] sz)) 0 0 (va_A [(x0, .inr (11, [.ref rd, .ref dr, .ref bk, .ref st, .ref j2, .ref tr, .ref pl, .ref fl, .ref rq, .int xt, .int xf1, .int xp1])), (bk, .inr (0, [.int (nI bw), .ref bk_tail, .ref bk_head, .ref bk_hinder, .ref bk_size, .ref bk_walk, .ref bk_draught, .ref bk_doorIn, .ref bk_fanIn, .ref bk_faceIn, .int (nI bn), .int bk_day, .ref gr]))] sz) := by
  refine Met.ofW (cc := cX11_isBooked) (maxL := 1) (ret := (some .boolean)) (by decide) rfl ?_
  intro p e s m args below meth c s₁ B hml hv
  obtain ⟨rfl, hsz, hn0, hG, hP, hK, hD0⟩ := hv
  have hx := B.exec
  have hb := B.bytes
  have hr := B.returns
  have hts := atoms_spec (ws := wM yX11_isBooked cX11_isBooked 1 (some .boolean)) B.pre
  have hown : s.vm.findClass RX11 = some m.cls := findClass_of_methodNamed B.named
  have hlocks := B.notSynchronized
  subst hsz
  have hD := hD0.self (sz := s.heap.size)
  have hA0 := vA_n0 hD0 hn0
  generalize hAe : va_A [(x0, .inr (11, [.ref rd, .ref dr, .ref bk, .ref st, .ref j2, .ref tr, .ref pl, .ref fl, .ref rq, .int xt, .int xf1, .int xp1])), (bk, .inr (0, [.int (nI bw), .ref bk_tail, .ref bk_head, .ref bk_hinder, .ref bk_size, .ref bk_walk, .ref bk_draught, .ref bk_doorIn, .ref bk_fanIn, .ref bk_faceIn, .int (nI bn), .int bk_day, .ref gr]))] s.heap.size = A at hD hA0 ⊢
  have hA : ∀ q : Nat, s.heap.size ≤ q → A q := fun q h => by rw [← hAe]; exact Or.inr h
  have hS : va_S A s.heap s.heap [] := va_S.rf
  have hl := lv_entry ([.ref x0]) (n := 1) (Nat.le_of_ble_eq_true rfl)
  rw [lg_entry_eq]
  generalize (lg_sl ([.ref x0]) ++ List.replicate (1 - (lg_sl ([.ref x0])).length) Slot.unset).toArray = ls at hl ⊢
  have hl : lv_has ls 1 [(0, .ref x0)] := hl
  refine lv_aload_n hx hb dX11_isBooked_0 rfl (lv_at hl 0 rfl) ?_
  refine va_get (D := (dC, dI)) (ci := 11) (v := .ref bk) (C := RX11) (T := TX11) (N := 12) hx hb hts (fun w h => wM_c (iX11 w h)) hown hK hP 0 rfl rfl 2 (by decide) (hts _ (wM_c wd_672)) (fun _ h9 => h9) rfl dX11_isBooked_1 ?_
  refine va_get (D := (dC, dI)) (ci := 0) (v := .int (nI bw)) (C := RX0) (T := TX0) (N := 13) hx hb hts (fun w h => wM_c (iX0 w h)) hown hK hP 1 rfl rfl 0 (by decide) (hts _ (wM_c wd_243)) (fun _ h9 => h9) rfl dX11_isBooked_4 ?_
  refine lv_if_le (tgt := 14) hx hb dX11_isBooked_7 (by decide) (fun c_1 => ?_) (fun c_1 => ?_)
  · skip
    have g_2 := n_ge (a := 0) (b := bw) c_1 (by omega) (by omega)
    refine lv_iconst (v := 0) hx hb dX11_isBooked_14 (by decide) ?_
    have hK9 := hK.sub (tys' := []) [] rfl
    exact W.zret (v := 0) hx hb hr rfl (fun t ht hW => ⟨⟨0, (), rfl, (Or.inl rfl), by rw [ht]; exact hP.sub [0, 1] rfl, va_K.moved hW.alike hK9, hD.sub [0, 1] (by decide) rfl⟩, hS.F ht⟩) hS.2.2 dX11_isBooked_15
  · skip
    have g_3 := n_nge (a := 0) (b := bw) c_1 (by omega) (by omega)
    refine lv_iconst (v := 1) hx hb dX11_isBooked_10 (by decide) ?_
    refine lv_goto (tgt := 15) hx hb dX11_isBooked_11 (by decide) ?_
    have hK9 := hK.sub (tys' := []) [] rfl
    exact W.zret (v := 1) hx hb hr rfl (fun t ht hW => ⟨⟨1, (), rfl, (Or.inr rfl), by rw [ht]; exact hP.sub [0, 1] rfl, va_K.moved hW.alike hK9, hD.sub [0, 1] (by decide) rfl⟩, hS.F ht⟩) hS.2.2 dX11_isBooked_15
set_option maxHeartbeats 4000000 in
set_option maxRecDepth 100000 in
theorem x_isSpeed (l : Launch) (dC : Nat → ClassId) (dI : Nat → Nat → Nat) (n0 : Nat) (atx : Nat → Nat × Nat) (sz : Nat) (v : Int32) : Met l yX11_isSpeed (wM yX11_isSpeed cX11_isSpeed 1 (some .boolean)) ({ frames := 0, cells := 0, slots := 0, locals := 0 }) (va_Pc [.int v] (fun U => U.heap.size = sz ∧ n0 ≤ sz ∧ GW n0 atx U ∧ va_P (dC, dI) classes [] U.heap ∧ va_K (dC, dI) classes [] U ∧ va_D (fun q => n0 ≤ q) [])) (va_Qi (fun (r : Int32) (_ : Unit) => (r = 1 ∧ -3 ≤ v.toInt ∧ v.toInt ≤ 3) ∨ (r = 0 ∧ ¬ (-3 ≤ v.toInt ∧ v.toInt ≤ 3))) (fun (_ : Unit) (t : State) => va_P (dC, dI) classes [] t.heap ∧ va_K (dC, dI) classes [] t ∧ va_D (va_A [] sz) []) (va_A [] sz)) 0 0 (va_A [] sz) := by
  refine Met.ofW (cc := cX11_isSpeed) (maxL := 1) (ret := (some .boolean)) (by decide) rfl ?_
  intro p e s m args below meth c s₁ B hml hv
  obtain ⟨rfl, hsz, hn0, hG, hP, hK, hD0⟩ := hv
  have hx := B.exec
  have hb := B.bytes
  have hr := B.returns
  have hts := atoms_spec (ws := wM yX11_isSpeed cX11_isSpeed 1 (some .boolean)) B.pre
  have hown : s.vm.findClass RX11 = some m.cls := findClass_of_methodNamed B.named
  have hlocks := B.notSynchronized
  subst hsz
  have hD := hD0.self (sz := s.heap.size)
  have hA0 := vA_n0 hD0 hn0
  generalize hAe : va_A [] s.heap.size = A at hD hA0 ⊢
  have hA : ∀ q : Nat, s.heap.size ≤ q → A q := fun q h => by rw [← hAe]; exact Or.inr h
  have hS : va_S A s.heap s.heap [] := va_S.rf
  have hl := lv_entry ([.int v]) (n := 1) (Nat.le_of_ble_eq_true rfl)
  rw [lg_entry_eq]
  generalize (lg_sl ([.int v]) ++ List.replicate (1 - (lg_sl ([.int v])).length) Slot.unset).toArray = ls at hl ⊢
  have hl : lv_has ls 1 [(0, .int v)] := hl
  refine lv_iload_n hx hb dX11_isSpeed_0 rfl (lv_at hl 0 rfl) ?_
  refine lv_bipush (v := (-3)) hx hb dX11_isSpeed_1 (by decide) ?_
  refine lv_icmp_lt (tgt := 15) hx hb dX11_isSpeed_3 (by decide) (fun c_1 => ?_) (fun c_1 => ?_)
  · skip
    have g_2 : v.toInt < (-3 : Int) := i_lt c_1
    refine lv_iconst (v := 0) hx hb dX11_isSpeed_15 (by decide) ?_
    have hK9 := hK.sub (tys' := []) [] rfl
    exact W.zret (v := 0) hx hb hr rfl (fun t ht hW => ⟨⟨0, (), rfl, (Or.inr ⟨rfl, by omega⟩), by rw [ht]; exact hP.sub [] rfl, va_K.moved hW.alike hK9, hD.sub [] (by decide) rfl⟩, hS.F ht⟩) hS.2.2 dX11_isSpeed_16
  · skip
    have g_3 : (-3 : Int) ≤ v.toInt := i_nlt c_1
    refine lv_iload_n hx hb dX11_isSpeed_6 rfl (lv_at hl 0 rfl) ?_
    refine lv_iconst (v := 3) hx hb dX11_isSpeed_7 (by decide) ?_
    refine lv_icmp_gt (tgt := 15) hx hb dX11_isSpeed_8 (by decide) (fun c_4 => ?_) (fun c_4 => ?_)
    · skip
      have g_5 : (3 : Int) < v.toInt := i_lt c_4
      refine lv_iconst (v := 0) hx hb dX11_isSpeed_15 (by decide) ?_
      have hK9 := hK.sub (tys' := []) [] rfl
      exact W.zret (v := 0) hx hb hr rfl (fun t ht hW => ⟨⟨0, (), rfl, (Or.inr ⟨rfl, by omega⟩), by rw [ht]; exact hP.sub [] rfl, va_K.moved hW.alike hK9, hD.sub [] (by decide) rfl⟩, hS.F ht⟩) hS.2.2 dX11_isSpeed_16
    · skip
      have g_6 : v.toInt ≤ (3 : Int) := i_nlt c_4
      refine lv_iconst (v := 1) hx hb dX11_isSpeed_11 (by decide) ?_
      refine lv_goto (tgt := 16) hx hb dX11_isSpeed_12 (by decide) ?_
      have hK9 := hK.sub (tys' := []) [] rfl
      exact W.zret (v := 1) hx hb hr rfl (fun t ht hW => ⟨⟨1, (), rfl, (Or.inl ⟨rfl, by omega, by omega⟩), by rw [ht]; exact hP.sub [] rfl, va_K.moved hW.alike hK9, hD.sub [] (by decide) rfl⟩, hS.F ht⟩) hS.2.2 dX11_isSpeed_16
set_option maxHeartbeats 4000000 in
set_option maxRecDepth 100000 in
theorem x_orNotSo (l : Launch) (dC : Nat → ClassId) (dI : Nat → Nat → Nat) (n0 : Nat) (atx : Nat → Nat × Nat) (sz : Nat) (v : Int32) : Met l yX11_orNotSo (wM yX11_orNotSo cX11_orNotSo 1 (some .int)) ({ frames := 0, cells := 0, slots := 0, locals := 0 }) (va_Pc [.int v] (fun U => U.heap.size = sz ∧ n0 ≤ sz ∧ GW n0 atx U ∧ va_P (dC, dI) classes [] U.heap ∧ va_K (dC, dI) classes [] U ∧ va_D (fun q => n0 ≤ q) [])) (va_Qi (fun (r : Int32) (_ : Unit) => r = if v = -1 then -2 else v) (fun (_ : Unit) (t : State) => va_P (dC, dI) classes [] t.heap ∧ va_K (dC, dI) classes [] t ∧ va_D (va_A [] sz) []) (va_A [] sz)) 0 0 (va_A [] sz) := by
  refine Met.ofW (cc := cX11_orNotSo) (maxL := 1) (ret := (some .int)) (by decide) rfl ?_
  intro p e s m args below meth c s₁ B hml hv
  obtain ⟨rfl, hsz, hn0, hG, hP, hK, hD0⟩ := hv
  have hx := B.exec
  have hb := B.bytes
  have hr := B.returns
  have hts := atoms_spec (ws := wM yX11_orNotSo cX11_orNotSo 1 (some .int)) B.pre
  have hown : s.vm.findClass RX11 = some m.cls := findClass_of_methodNamed B.named
  have hlocks := B.notSynchronized
  subst hsz
  have hD := hD0.self (sz := s.heap.size)
  have hA0 := vA_n0 hD0 hn0
  generalize hAe : va_A [] s.heap.size = A at hD hA0 ⊢
  have hA : ∀ q : Nat, s.heap.size ≤ q → A q := fun q h => by rw [← hAe]; exact Or.inr h
  have hS : va_S A s.heap s.heap [] := va_S.rf
  have hl := lv_entry ([.int v]) (n := 1) (Nat.le_of_ble_eq_true rfl)
  rw [lg_entry_eq]
  generalize (lg_sl ([.int v]) ++ List.replicate (1 - (lg_sl ([.int v])).length) Slot.unset).toArray = ls at hl ⊢
  have hl : lv_has ls 1 [(0, .int v)] := hl
  refine lv_iload_n hx hb dX11_orNotSo_0 rfl (lv_at hl 0 rfl) ?_
  refine lv_iconst (v := (-1)) hx hb dX11_orNotSo_1 (by decide) ?_
  refine lv_icmp_ne (tgt := 10) hx hb dX11_orNotSo_2 (by decide) (fun c_1 => ?_) (fun c_1 => ?_)
  · skip
    have g_2 : v.toInt ≠ (-1 : Int) := i_ne c_1
    refine lv_iload_n hx hb dX11_orNotSo_10 rfl (lv_at hl 0 rfl) ?_
    have hK9 := hK.sub (tys' := []) [] rfl
    exact W.iret (v := v) hx hb hr (fun t ht hW => ⟨⟨v, (), rfl, (by rw [if_neg c_1]), by rw [ht]; exact hP.sub [] rfl, va_K.moved hW.alike hK9, hD.sub [] (by decide) rfl⟩, hS.F ht⟩) hS.2.2 dX11_orNotSo_11
  · skip
    have g_3 : v.toInt = (-1 : Int) := i_eq c_1
    refine lv_bipush (v := (-2)) hx hb dX11_orNotSo_5 (by decide) ?_
    refine lv_goto (tgt := 11) hx hb dX11_orNotSo_7 (by decide) ?_
    have hK9 := hK.sub (tys' := []) [] rfl
    exact W.iret (v := (-2)) hx hb hr (fun t ht hW => ⟨⟨(-2), (), rfl, (by rw [if_pos c_1]), by rw [ht]; exact hP.sub [] rfl, va_K.moved hW.alike hK9, hD.sub [] (by decide) rfl⟩, hS.F ht⟩) hS.2.2 dX11_orNotSo_11
set_option maxHeartbeats 4000000 in
set_option maxRecDepth 100000 in
theorem x_forgetVerdicts (l : Launch) (dC : Nat → ClassId) (dI : Nat → Nat → Nat) (n0 : Nat) (atx : Nat → Nat × Nat) (sz : Nat) (x0 : Nat) (rd : Nat) (dr : Nat) (bk : Nat) (st : Nat) (j2 : Nat) (tr : Nat) (pl : Nat) (fl : Nat) (rq : Nat) (xt : Int32) (xf1 : Int32) (xp1 : Int32) (tr_settingKnown : Int32) (tr_knownSetting : Int32) (jd : Nat) (tr_ranks : Nat) (tr_keptSpeed : Nat) (pn : Nat) (pl_order : Nat) (pl_kind : Nat) (pl_which : Nat) (pl_value : Nat) (pl_soundBy : Nat) (pl_found : Int32) (pl_made : Int32) : Met l yX11_forgetVerdicts (wM yX11_forgetVerdicts cX11_forgetVerdicts 1 none) ({ frames := 1, cells := 0, slots := 0, locals := 20 }) (va_Pc [.ref x0] (fun U => U.heap.size = sz ∧ n0 ≤ sz ∧ GW n0 atx U ∧ va_P (dC, dI) classes [(x0, .inr (11, [.ref rd, .ref dr, .ref bk, .ref st, .ref j2, .ref tr, .ref pl, .ref fl, .ref rq, .int xt, .int xf1, .int xp1])), (tr, .inr (10, [.int tr_settingKnown, .int tr_knownSetting, .ref bk, .ref st, .ref j2, .ref jd, .ref tr_ranks, .ref tr_keptSpeed])), (pl, .inr (6, [.int (nI pn), .ref pl_order, .ref st, .ref j2, .ref jd, .ref pl_kind, .ref pl_which, .ref pl_value, .ref pl_soundBy, .int pl_found, .int pl_made]))] U.heap ∧ va_K (dC, dI) classes [] U ∧ va_D (fun q => n0 ≤ q) [(x0, .inr (11, [.ref rd, .ref dr, .ref bk, .ref st, .ref j2, .ref tr, .ref pl, .ref fl, .ref rq, .int xt, .int xf1, .int xp1])), (tr, .inr (10, [.int tr_settingKnown, .int tr_knownSetting, .ref bk, .ref st, .ref j2, .ref jd, .ref tr_ranks, .ref tr_keptSpeed])), (pl, .inr (6, [.int (nI pn), .ref pl_order, .ref st, .ref j2, .ref jd, .ref pl_kind, .ref pl_which, .ref pl_value, .ref pl_soundBy, .int pl_found, .int pl_made]))])) (va_Qv (fun _ : Unit => True) (fun (_ : Unit) (t : State) => va_P (dC, dI) classes [(x0, .inr (11, [.ref rd, .ref dr, .ref bk, .ref st, .ref j2, .ref tr, .ref pl, .ref fl, .ref rq, .int xt, .int xf1, .int xp1])), (tr, .inr (10, [.int 0, .int tr_knownSetting, .ref bk, .ref st, .ref j2, .ref jd, .ref tr_ranks, .ref tr_keptSpeed])), (pl, .inr (6, [.int (nI pn), .ref pl_order, .ref st, .ref j2, .ref jd, .ref pl_kind, .ref pl_which, .ref pl_value, .ref pl_soundBy, .int 0, .int pl_made]))] t.heap ∧ va_K (dC, dI) classes [] t ∧ va_D (va_A [(x0, .inr (11, [.ref rd, .ref dr, .ref bk, .ref st, .ref j2, .ref tr, .ref pl, .ref fl, .ref rq, .int xt, .int xf1, .int xp1])), (tr, .inr (10, [.int tr_settingKnown, .int tr_knownSetting, .ref bk, .ref st, .ref j2, .ref jd, .ref tr_ranks, .ref tr_keptSpeed])), (pl, .inr (6, [.int (nI pn), .ref pl_order, .ref st, .ref j2, .ref jd, .ref pl_kind, .ref pl_which, .ref pl_value, .ref pl_soundBy, .int pl_found, .int pl_made]))] sz) [(x0, .inr (11, [.ref rd, .ref dr, .ref bk, .ref st, .ref j2, .ref tr, .ref pl, .ref fl, .ref rq, .int xt, .int xf1, .int xp1])), (tr, .inr (10, [.int 0, .int tr_knownSetting, .ref bk, .ref st, .ref j2, .ref jd, .ref tr_ranks, .ref tr_keptSpeed])), (pl, .inr (6, [.int (nI pn), .ref pl_order, .ref st, .ref j2, .ref jd, .ref pl_kind, .ref pl_which, .ref pl_value, .ref pl_soundBy, .int 0, .int pl_made]))]) (va_A [(x0, .inr (11, [.ref rd, .ref dr, .ref bk, .ref st, .ref j2, .ref tr, .ref pl, .ref fl, .ref rq, .int xt, .int xf1, .int xp1])), (tr, .inr (10, [.int tr_settingKnown, .int tr_knownSetting, .ref bk, .ref st, .ref j2, .ref jd, .ref tr_ranks, .ref tr_keptSpeed])), (pl, .inr (6, [.int (nI pn), .ref pl_order, .ref st, .ref j2, .ref jd, .ref pl_kind, .ref pl_which, .ref pl_value, .ref pl_soundBy, .int pl_found, .int pl_made]))] sz)) 0 0 (va_A [(x0, .inr (11, [.ref rd, .ref dr, .ref bk, .ref st, .ref j2, .ref tr, .ref pl, .ref fl, .ref rq, .int xt, .int xf1, .int xp1])), (tr, .inr (10, [.int tr_settingKnown, .int tr_knownSetting, .ref bk, .ref st, .ref j2, .ref jd, .ref tr_ranks, .ref tr_keptSpeed])), (pl, .inr (6, [.int (nI pn), .ref pl_order, .ref st, .ref j2, .ref jd, .ref pl_kind, .ref pl_which, .ref pl_value, .ref pl_soundBy, .int pl_found, .int pl_made]))] sz) := by
  refine Met.ofW (cc := cX11_forgetVerdicts) (maxL := 1) (ret := none) (by decide) rfl ?_
  intro p e s m args below meth c s₁ B hml hv
  obtain ⟨rfl, hsz, hn0, hG, hP, hK, hD0⟩ := hv
  have hx := B.exec
  have hb := B.bytes
  have hr := B.returns
  have hts := atoms_spec (ws := wM yX11_forgetVerdicts cX11_forgetVerdicts 1 none) B.pre
  have hown : s.vm.findClass RX11 = some m.cls := findClass_of_methodNamed B.named
  have hlocks := B.notSynchronized
  subst hsz
  have hD := hD0.self (sz := s.heap.size)
  have hA0 := vA_n0 hD0 hn0
  generalize hAe : va_A [(x0, .inr (11, [.ref rd, .ref dr, .ref bk, .ref st, .ref j2, .ref tr, .ref pl, .ref fl, .ref rq, .int xt, .int xf1, .int xp1])), (tr, .inr (10, [.int tr_settingKnown, .int tr_knownSetting, .ref bk, .ref st, .ref j2, .ref jd, .ref tr_ranks, .ref tr_keptSpeed])), (pl, .inr (6, [.int (nI pn), .ref pl_order, .ref st, .ref j2, .ref jd, .ref pl_kind, .ref pl_which, .ref pl_value, .ref pl_soundBy, .int pl_found, .int pl_made]))] s.heap.size = A at hD hA0 ⊢
  have hA : ∀ q : Nat, s.heap.size ≤ q → A q := fun q h => by rw [← hAe]; exact Or.inr h
  have hS : va_S A s.heap s.heap [] := va_S.rf
  have hl := lv_entry ([.ref x0]) (n := 1) (Nat.le_of_ble_eq_true rfl)
  rw [lg_entry_eq]
  generalize (lg_sl ([.ref x0]) ++ List.replicate (1 - (lg_sl ([.ref x0])).length) Slot.unset).toArray = ls at hl ⊢
  have hl : lv_has ls 1 [(0, .ref x0)] := hl
  refine lv_aload_n hx hb dX11_forgetVerdicts_0 rfl (lv_at hl 0 rfl) ?_
  refine va_get (D := (dC, dI)) (ci := 11) (v := .ref tr) (C := RX11) (T := TX11) (N := 12) hx hb hts (fun w h => wM_c (iX11 w h)) hown hK hP 0 rfl rfl 5 (by decide) (hts _ (wM_c wd_675)) (fun _ h9 => h9) rfl dX11_forgetVerdicts_1 ?_
  refine lv_iconst (v := 0) hx hb dX11_forgetVerdicts_4 (by decide) ?_
  refine va_put (D := (dC, dI)) (ci := 10) (v := .int 0) (ty := .boolean) (C := RX10) (T := TX10) (N := 8) hx hb hts (fun w h => wM_c (iX10 w h)) tyX10 tyX10_ok nmX10 hown hK hP hD hS 1 rfl rfl 0 (by decide) (hts _ (wM_c wd_541)) (fun _ h9 => h9) rfl (by decide +kernel) rfl rfl (Nat.le_of_ble_eq_true rfl) dX11_forgetVerdicts_5 (fun H locs hP hD hS => ?_)
  obtain ⟨hP, hD⟩ : s3_w (dC, dI) classes A [(x0, .inr (11, [.ref rd, .ref dr, .ref bk, .ref st, .ref j2, .ref tr, .ref pl, .ref fl, .ref rq, .int xt, .int xf1, .int xp1])), (tr, .inr (10, [.int 0, .int tr_knownSetting, .ref bk, .ref st, .ref j2, .ref jd, .ref tr_ranks, .ref tr_keptSpeed])), (pl, .inr (6, [.int (nI pn), .ref pl_order, .ref st, .ref j2, .ref jd, .ref pl_kind, .ref pl_which, .ref pl_value, .ref pl_soundBy, .int pl_found, .int pl_made]))] H := ⟨hP, hD⟩
  refine lv_aload_n hx hb dX11_forgetVerdicts_8 rfl (lv_at hl 0 rfl) ?_
  refine va_get (D := (dC, dI)) (ci := 11) (v := .ref pl) (C := RX11) (T := TX11) (N := 12) hx hb hts (fun w h => wM_c (iX11 w h)) hown hK hP 0 rfl rfl 6 (by decide) (hts _ (wM_c wd_676)) (fun _ h9 => h9) rfl dX11_forgetVerdicts_9 ?_
  obtain ⟨hPc, hDc, hFc⟩ := s3_c (ws' := [(pl, .inr (6, [.int (nI pn), .ref pl_order, .ref st, .ref j2, .ref jd, .ref pl_kind, .ref pl_which, .ref pl_value, .ref pl_soundBy, .int pl_found, .int pl_made]))]) [2] hP hD hS hA rfl (by decide)
  have hKc := hK.sub (tys' := []) [] rfl
  refine va_callv (va_runV (As := []) (rest := []) ⟨hx, hb, hml, hown, hts⟩ (c6_forget l dC dI n0 atx H.size pl pn pl_order st j2 jd pl_kind pl_which pl_value pl_soundBy pl_found pl_made ) (cwV 0 hts (gV (fun w h => wM_c h) wd_929 wd_926 wd_927 wd_928 wd_123) rfl rfl rfl (by decide +kernel) ⟨Nat.le_of_ble_eq_true rfl, Nat.le_of_ble_eq_true rfl⟩) ⟨fun a U g mk q => by obtain ⟨q0, q1, q2, qG, qP, qK, qD⟩ := q; exact ⟨q0, q1, q2, GW.blind qG, qP, va_K.moved (u := U) (U := U.calling g mk a) (Vm.Alike.refl U.vm) qK, qD⟩, va_recv hKc hPc (ci := 6) (q0 := 0) rfl rfl, fun U hU hW => ⟨rfl, by rw [hU], Nat.le_trans hn0 hS.1, GW.go hW hU hG (fun q hq hA9 => hS.2.1 q hq (fun h => hA9 (hA0 q h))), by rw [hU]; exact hPc, va_K.moved hW.alike hKc, hDc.weaken (fun _ _ _ h => hA0 _ h)⟩⟩ rfl rfl hl.1 rfl (lv_room (Nat.le_of_ble_eq_true rfl)) dX11_forgetVerdicts_12 ⟨Nat.le_of_ble_eq_true rfl, Nat.le_of_ble_eq_true rfl⟩) hS (fun q _ h => hFc q h) hFc (fun u t H1 locs ht hvm hw_2 hB hz1 hk1 hS => ?_)
  obtain ⟨hP1, hK1, hD1⟩ := hB
  rw [ht] at hP1
  obtain ⟨hP, hD⟩ := s3_j (L := [(x0, .inr (11, [.ref rd, .ref dr, .ref bk, .ref st, .ref j2, .ref tr, .ref pl, .ref fl, .ref rq, .int xt, .int xf1, .int xp1])), (tr, .inr (10, [.int 0, .int tr_knownSetting, .ref bk, .ref st, .ref j2, .ref jd, .ref tr_ranks, .ref tr_keptSpeed])), (pl, .inr (6, [.int (nI pn), .ref pl_order, .ref st, .ref j2, .ref jd, .ref pl_kind, .ref pl_which, .ref pl_value, .ref pl_soundBy, .int 0, .int pl_made]))]) 2 hP hD [2] [0, 1] hk1 hFc hP1 hD1 rfl rfl rfl (by decide) (by decide)
  generalize H1 = H at hP hS ⊢
  have hK9 := hK.sub (tys' := []) [] rfl
  exact W.vret hx hb hr (fun t ht hW => ⟨⟨(), rfl, trivial, by rw [ht]; exact hP.sub [0, 1, 2] rfl, va_K.moved hW.alike hK9, hD.sub [0, 1, 2] (by decide) rfl⟩, hS.F ht⟩) hS.2.2 dX11_forgetVerdicts_15
set_option maxHeartbeats 4000000 in
set_option maxRecDepth 100000 in
theorem x_forgetAir (l : Launch) (dC : Nat → ClassId) (dI : Nat → Nat → Nat) (n0 : Nat) (atx : Nat → Nat × Nat) (sz : Nat) (x0 : Nat) (rd : Nat) (dr : Nat) (bk : Nat) (st : Nat) (j2 : Nat) (tr : Nat) (pl : Nat) (fl : Nat) (rq : Nat) (xt : Int32) (xf1 : Int32) (xp1 : Int32) (f2w : Nat) (l2d : Nat) (j2_settled : Int32) (j2_carried : Int32) (tr_settingKnown : Int32) (tr_knownSetting : Int32) (jd : Nat) (tr_ranks : Nat) (tr_keptSpeed : Nat) (pn : Nat) (pl_order : Nat) (pl_kind : Nat) (pl_which : Nat) (pl_value : Nat) (pl_soundBy : Nat) (pl_found : Int32) (pl_made : Int32) : Met l yX11_forgetAir (wM yX11_forgetAir cX11_forgetAir 1 none) ({ frames := 2, cells := 0, slots := 0, locals := 40 }) (va_Pc [.ref x0] (fun U => U.heap.size = sz ∧ n0 ≤ sz ∧ GW n0 atx U ∧ va_P (dC, dI) classes [(x0, .inr (11, [.ref rd, .ref dr, .ref bk, .ref st, .ref j2, .ref tr, .ref pl, .ref fl, .ref rq, .int xt, .int xf1, .int xp1])), (j2, .inr (4, [.ref f2w, .ref l2d, .ref bk, .ref st, .int j2_settled, .int j2_carried])), (tr, .inr (10, [.int tr_settingKnown, .int tr_knownSetting, .ref bk, .ref st, .ref j2, .ref jd, .ref tr_ranks, .ref tr_keptSpeed])), (pl, .inr (6, [.int (nI pn), .ref pl_order, .ref st, .ref j2, .ref jd, .ref pl_kind, .ref pl_which, .ref pl_value, .ref pl_soundBy, .int pl_found, .int pl_made]))] U.heap ∧ va_K (dC, dI) classes [] U ∧ va_D (fun q => n0 ≤ q) [(x0, .inr (11, [.ref rd, .ref dr, .ref bk, .ref st, .ref j2, .ref tr, .ref pl, .ref fl, .ref rq, .int xt, .int xf1, .int xp1])), (j2, .inr (4, [.ref f2w, .ref l2d, .ref bk, .ref st, .int j2_settled, .int j2_carried])), (tr, .inr (10, [.int tr_settingKnown, .int tr_knownSetting, .ref bk, .ref st, .ref j2, .ref jd, .ref tr_ranks, .ref tr_keptSpeed])), (pl, .inr (6, [.int (nI pn), .ref pl_order, .ref st, .ref j2, .ref jd, .ref pl_kind, .ref pl_which, .ref pl_value, .ref pl_soundBy, .int pl_found, .int pl_made]))])) (va_Qv (fun _ : Unit => True) (fun (_ : Unit) (t : State) => va_P (dC, dI) classes [(x0, .inr (11, [.ref rd, .ref dr, .ref bk, .ref st, .ref j2, .ref tr, .ref pl, .ref fl, .ref rq, .int xt, .int xf1, .int xp1])), (j2, .inr (4, [.ref f2w, .ref l2d, .ref bk, .ref st, .int 0, .int 0])), (tr, .inr (10, [.int 0, .int tr_knownSetting, .ref bk, .ref st, .ref j2, .ref jd, .ref tr_ranks, .ref tr_keptSpeed])), (pl, .inr (6, [.int (nI pn), .ref pl_order, .ref st, .ref j2, .ref jd, .ref pl_kind, .ref pl_which, .ref pl_value, .ref pl_soundBy, .int 0, .int pl_made]))] t.heap ∧ va_K (dC, dI) classes [] t ∧ va_D (va_A [(x0, .inr (11, [.ref rd, .ref dr, .ref bk, .ref st, .ref j2, .ref tr, .ref pl, .ref fl, .ref rq, .int xt, .int xf1, .int xp1])), (j2, .inr (4, [.ref f2w, .ref l2d, .ref bk, .ref st, .int j2_settled, .int j2_carried])), (tr, .inr (10, [.int tr_settingKnown, .int tr_knownSetting, .ref bk, .ref st, .ref j2, .ref jd, .ref tr_ranks, .ref tr_keptSpeed])), (pl, .inr (6, [.int (nI pn), .ref pl_order, .ref st, .ref j2, .ref jd, .ref pl_kind, .ref pl_which, .ref pl_value, .ref pl_soundBy, .int pl_found, .int pl_made]))] sz) [(x0, .inr (11, [.ref rd, .ref dr, .ref bk, .ref st, .ref j2, .ref tr, .ref pl, .ref fl, .ref rq, .int xt, .int xf1, .int xp1])), (j2, .inr (4, [.ref f2w, .ref l2d, .ref bk, .ref st, .int 0, .int 0])), (tr, .inr (10, [.int 0, .int tr_knownSetting, .ref bk, .ref st, .ref j2, .ref jd, .ref tr_ranks, .ref tr_keptSpeed])), (pl, .inr (6, [.int (nI pn), .ref pl_order, .ref st, .ref j2, .ref jd, .ref pl_kind, .ref pl_which, .ref pl_value, .ref pl_soundBy, .int 0, .int pl_made]))]) (va_A [(x0, .inr (11, [.ref rd, .ref dr, .ref bk, .ref st, .ref j2, .ref tr, .ref pl, .ref fl, .ref rq, .int xt, .int xf1, .int xp1])), (j2, .inr (4, [.ref f2w, .ref l2d, .ref bk, .ref st, .int j2_settled, .int j2_carried])), (tr, .inr (10, [.int tr_settingKnown, .int tr_knownSetting, .ref bk, .ref st, .ref j2, .ref jd, .ref tr_ranks, .ref tr_keptSpeed])), (pl, .inr (6, [.int (nI pn), .ref pl_order, .ref st, .ref j2, .ref jd, .ref pl_kind, .ref pl_which, .ref pl_value, .ref pl_soundBy, .int pl_found, .int pl_made]))] sz)) 0 0 (va_A [(x0, .inr (11, [.ref rd, .ref dr, .ref bk, .ref st, .ref j2, .ref tr, .ref pl, .ref fl, .ref rq, .int xt, .int xf1, .int xp1])), (j2, .inr (4, [.ref f2w, .ref l2d, .ref bk, .ref st, .int j2_settled, .int j2_carried])), (tr, .inr (10, [.int tr_settingKnown, .int tr_knownSetting, .ref bk, .ref st, .ref j2, .ref jd, .ref tr_ranks, .ref tr_keptSpeed])), (pl, .inr (6, [.int (nI pn), .ref pl_order, .ref st, .ref j2, .ref jd, .ref pl_kind, .ref pl_which, .ref pl_value, .ref pl_soundBy, .int pl_found, .int pl_made]))] sz) := by
  refine Met.ofW (cc := cX11_forgetAir) (maxL := 1) (ret := none) (by decide) rfl ?_
  intro p e s m args below meth c s₁ B hml hv
  obtain ⟨rfl, hsz, hn0, hG, hP, hK, hD0⟩ := hv
  have hx := B.exec
  have hb := B.bytes
  have hr := B.returns
  have hts := atoms_spec (ws := wM yX11_forgetAir cX11_forgetAir 1 none) B.pre
  have hown : s.vm.findClass RX11 = some m.cls := findClass_of_methodNamed B.named
  have hlocks := B.notSynchronized
  subst hsz
  have hD := hD0.self (sz := s.heap.size)
  have hA0 := vA_n0 hD0 hn0
  generalize hAe : va_A [(x0, .inr (11, [.ref rd, .ref dr, .ref bk, .ref st, .ref j2, .ref tr, .ref pl, .ref fl, .ref rq, .int xt, .int xf1, .int xp1])), (j2, .inr (4, [.ref f2w, .ref l2d, .ref bk, .ref st, .int j2_settled, .int j2_carried])), (tr, .inr (10, [.int tr_settingKnown, .int tr_knownSetting, .ref bk, .ref st, .ref j2, .ref jd, .ref tr_ranks, .ref tr_keptSpeed])), (pl, .inr (6, [.int (nI pn), .ref pl_order, .ref st, .ref j2, .ref jd, .ref pl_kind, .ref pl_which, .ref pl_value, .ref pl_soundBy, .int pl_found, .int pl_made]))] s.heap.size = A at hD hA0 ⊢
  have hA : ∀ q : Nat, s.heap.size ≤ q → A q := fun q h => by rw [← hAe]; exact Or.inr h
  have hS : va_S A s.heap s.heap [] := va_S.rf
  have hl := lv_entry ([.ref x0]) (n := 1) (Nat.le_of_ble_eq_true rfl)
  rw [lg_entry_eq]
  generalize (lg_sl ([.ref x0]) ++ List.replicate (1 - (lg_sl ([.ref x0])).length) Slot.unset).toArray = ls at hl ⊢
  have hl : lv_has ls 1 [(0, .ref x0)] := hl
  refine lv_aload_n hx hb dX11_forgetAir_0 rfl (lv_at hl 0 rfl) ?_
  refine va_get (D := (dC, dI)) (ci := 11) (v := .ref j2) (C := RX11) (T := TX11) (N := 12) hx hb hts (fun w h => wM_c (iX11 w h)) hown hK hP 0 rfl rfl 4 (by decide) (hts _ (wM_c wd_674)) (fun _ h9 => h9) rfl dX11_forgetAir_1 ?_
  obtain ⟨hPc, hDc, hFc⟩ := s3_c (ws' := [(j2, .inr (4, [.ref f2w, .ref l2d, .ref bk, .ref st, .int j2_settled, .int j2_carried]))]) [1] hP hD hS hA rfl (by decide)
  have hKc := hK.sub (tys' := []) [] rfl
  refine va_callv (va_runV (As := []) (rest := []) ⟨hx, hb, hml, hown, hts⟩ (c4_forget l dC dI n0 atx s.heap.size j2 f2w l2d bk st j2_settled j2_carried ) (cwV 0 hts (gV (fun w h => wM_c h) wd_916 wd_921 wd_914 wd_915 wd_119) rfl rfl rfl (by decide +kernel) ⟨Nat.le_of_ble_eq_true rfl, Nat.le_of_ble_eq_true rfl⟩) ⟨fun a U g mk q => by obtain ⟨q0, q1, q2, qG, qP, qK, qD⟩ := q; exact ⟨q0, q1, q2, GW.blind qG, qP, va_K.moved (u := U) (U := U.calling g mk a) (Vm.Alike.refl U.vm) qK, qD⟩, va_recv hKc hPc (ci := 4) (q0 := 0) rfl rfl, fun U hU hW => ⟨rfl, by rw [hU], Nat.le_trans hn0 hS.1, GW.go hW hU hG (fun q hq hA9 => hS.2.1 q hq (fun h => hA9 (hA0 q h))), by rw [hU]; exact hPc, va_K.moved hW.alike hKc, hDc.weaken (fun _ _ _ h => hA0 _ h)⟩⟩ rfl rfl hl.1 rfl (lv_room (Nat.le_of_ble_eq_true rfl)) dX11_forgetAir_4 ⟨Nat.le_of_ble_eq_true rfl, Nat.le_of_ble_eq_true rfl⟩) hS (fun q _ h => hFc q h) hFc (fun u t H1 locs ht hvm hw_2 hB hz1 hk1 hS => ?_)
  obtain ⟨hP1, hK1, hD1⟩ := hB
  rw [ht] at hP1
  obtain ⟨hP, hD⟩ := s3_j (L := [(x0, .inr (11, [.ref rd, .ref dr, .ref bk, .ref st, .ref j2, .ref tr, .ref pl, .ref fl, .ref rq, .int xt, .int xf1, .int xp1])), (tr, .inr (10, [.int tr_settingKnown, .int tr_knownSetting, .ref bk, .ref st, .ref j2, .ref jd, .ref tr_ranks, .ref tr_keptSpeed])), (pl, .inr (6, [.int (nI pn), .ref pl_order, .ref st, .ref j2, .ref jd, .ref pl_kind, .ref pl_which, .ref pl_value, .ref pl_soundBy, .int pl_found, .int pl_made])), (j2, .inr (4, [.ref f2w, .ref l2d, .ref bk, .ref st, .int 0, .int 0]))]) 3 hP hD [1] [0, 2, 3] hk1 hFc hP1 hD1 rfl rfl rfl (by decide) (by decide)
  generalize H1 = H at hP hS ⊢
  refine lv_aload_n hx hb dX11_forgetAir_7 rfl (lv_at hl 0 rfl) ?_
  obtain ⟨hPc, hDc, hFc⟩ := s3_c (ws' := [(x0, .inr (11, [.ref rd, .ref dr, .ref bk, .ref st, .ref j2, .ref tr, .ref pl, .ref fl, .ref rq, .int xt, .int xf1, .int xp1])), (tr, .inr (10, [.int tr_settingKnown, .int tr_knownSetting, .ref bk, .ref st, .ref j2, .ref jd, .ref tr_ranks, .ref tr_keptSpeed])), (pl, .inr (6, [.int (nI pn), .ref pl_order, .ref st, .ref j2, .ref jd, .ref pl_kind, .ref pl_which, .ref pl_value, .ref pl_soundBy, .int pl_found, .int pl_made]))]) [0, 1, 2] hP hD hS hA rfl (by decide)
  have hKc := hK.sub (tys' := []) [] rfl
  refine va_callv (va_runV (As := []) (rest := []) ⟨hx, hb, hml, hown, hts⟩ (x_forgetVerdicts l dC dI n0 atx H.size x0 rd dr bk st j2 tr pl fl rq xt xf1 xp1 tr_settingKnown tr_knownSetting jd tr_ranks tr_keptSpeed pn pl_order pl_kind pl_which pl_value pl_soundBy pl_found pl_made ) (cwV 0 hts (gV (fun w h => wM_c h) wd_925 wd_922 wd_924 wd_23 wd_114) rfl rfl rfl (by decide +kernel) ⟨Nat.le_of_ble_eq_true rfl, Nat.le_of_ble_eq_true rfl⟩) ⟨fun a U g mk q => by obtain ⟨q0, q1, q2, qG, qP, qK, qD⟩ := q; exact ⟨q0, q1, q2, GW.blind qG, qP, va_K.moved (u := U) (U := U.calling g mk a) (Vm.Alike.refl U.vm) qK, qD⟩, va_recv hKc hPc (ci := 11) (q0 := 0) rfl rfl, fun U hU hW => ⟨rfl, by rw [hU], Nat.le_trans hn0 hS.1, GW.go hW hU hG (fun q hq hA9 => hS.2.1 q hq (fun h => hA9 (hA0 q h))), by rw [hU]; exact hPc, va_K.moved hW.alike hKc, hDc.weaken (fun _ _ _ h => hA0 _ h)⟩⟩ rfl rfl hl.1 rfl (lv_room (Nat.le_of_ble_eq_true rfl)) dX11_forgetAir_8 ⟨Nat.le_of_ble_eq_true rfl, Nat.le_of_ble_eq_true rfl⟩) hS (fun q _ h => hFc q h) hFc (fun u t H1 locs ht hvm hw_4 hB hz1 hk1 hS => ?_)
  obtain ⟨hP1, hK1, hD1⟩ := hB
  rw [ht] at hP1
  obtain ⟨hP, hD⟩ := s3_j (L := [(j2, .inr (4, [.ref f2w, .ref l2d, .ref bk, .ref st, .int 0, .int 0])), (x0, .inr (11, [.ref rd, .ref dr, .ref bk, .ref st, .ref j2, .ref tr, .ref pl, .ref fl, .ref rq, .int xt, .int xf1, .int xp1])), (tr, .inr (10, [.int 0, .int tr_knownSetting, .ref bk, .ref st, .ref j2, .ref jd, .ref tr_ranks, .ref tr_keptSpeed])), (pl, .inr (6, [.int (nI pn), .ref pl_order, .ref st, .ref j2, .ref jd, .ref pl_kind, .ref pl_which, .ref pl_value, .ref pl_soundBy, .int 0, .int pl_made]))]) 1 hP hD [0, 1, 2] [3] hk1 hFc hP1 hD1 rfl rfl rfl (by decide) (by decide)
  generalize H1 = H at hP hS ⊢
  have hK9 := hK.sub (tys' := []) [] rfl
  exact W.vret hx hb hr (fun t ht hW => ⟨⟨(), rfl, trivial, by rw [ht]; exact hP.sub [1, 0, 2, 3] rfl, va_K.moved hW.alike hK9, hD.sub [1, 0, 2, 3] (by decide) rfl⟩, hS.F ht⟩) hS.2.2 dX11_forgetAir_11
