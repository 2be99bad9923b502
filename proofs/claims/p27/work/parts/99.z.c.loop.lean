theorem dL_law_23 : decode cL_law 23 = .ok (.iload 4, 2) := by decide +kernel
theorem dL_law_25 : decode cL_law 25 = .ok (.aload_n 0, 1) := by decide +kernel
theorem dL_law_26 : decode cL_law 26 = .ok (.arraylength, 1) := by decide +kernel
theorem dL_law_27 : decode cL_law 27 = .ok (.bipush 6, 2) := by decide +kernel
theorem dL_law_29 : decode cL_law 29 = .ok (.isub, 1) := by decide +kernel
theorem dL_law_30 : decode cL_law 30 = .ok (.if_icmp .gt 1025, 3) := by decide +kernel
theorem dL_law_33 : decode cL_law 33 = .ok (.aload_n 0, 1) := by decide +kernel
theorem dL_law_34 : decode cL_law 34 = .ok (.iload 4, 2) := by decide +kernel
theorem dL_law_36 : decode cL_law 36 = .ok (.iaload, 1) := by decide +kernel
theorem dL_law_37 : decode cL_law 37 = .ok (.bipush 31, 2) := by decide +kernel
theorem dL_law_39 : decode cL_law 39 = .ok (.iand, 1) := by decide +kernel
theorem dL_law_40 : decode cL_law 40 = .ok (.tableswitch 1009 0 29 #[136, 209, 234, 247, 260, 297, 350, 387, 440, 477, 502, 527, 540, 565, 590, 615, 628, 641, 682, 695, 720, 745, 770, 819, 844, 857, 906, 931, 971, 996], 136) := by decide +kernel
theorem dL_law_1055 : decode cL_law 1055 = .ok (.iconst 1, 1) := by decide +kernel
theorem dL_law_1056 : decode cL_law 1056 = .ok (.ireturn, 1) := by decide +kernel
set_option maxHeartbeats 4000000 in
set_option maxRecDepth 100000 in
theorem law_loop {p : Program} {l : Launch} {e : Env} {s : State} {m : MethodId} {below : List Frame} {meth : Method} {c : Code} {dC : Nat → ClassId} {dI : Nat → Nat → Nat} {b L : Nat} {xs : Nat → Int32} (hst : l.stackTraces = false) (hL : L ≤ 3072) (C0 : lw_At p s m meth c b L xs) (atx : Nat → Nat × Nat) (hG : GW s.heap.size atx s) (ad : Nat → Nat) (ka : Nat → ClassId) (x0 : Nat) (md : Nat → Nat) (mk9 : Nat → ClassId) (m0 : Nat) : ∀ (i : Nat) (H : Heap) (locs : List Loc) (ls : Array Slot), LV dC dI s b L ad ka x0 md mk9 m0 i H locs ls → W p l e room_1 s m #[Value.ref b] below meth c H locs (150 + 23 * i) (3000 + 300 * i) (lw_Z below #[Value.ref b] s) (F0 m 23 ls []) := by
  refine W_lpR (fun i H locs ls => LV dC dI s b L ad ka x0 md mk9 m0 i H locs ls) (fun i => L + 6 - i) (fun i => 150 + 23 * i) (fun i => 3000 + 300 * i) ?_
  intro i H locs ls hI K0
  show W p l e room_1 s m #[Value.ref b] below meth c H locs (150 + 23 * i) (3000 + 300 * i) (lw_Z below #[Value.ref b] s) (F0 m 23 ls [])
  have C1 := C0
  obtain ⟨hx, hb, hr, hml, hown, hts0, hX, hbl, hlocks, hgv⟩ := C0
  have hts : ∀ w ∈ wG, w.before #[Value.ref b] s = true := fun w h => hts0 w (wG_t h)
  have hA : ∀ q : Nat, s.heap.size ≤ q → (fun q : Nat => s.heap.size ≤ q) q := fun _ h => h
  have hA0 : ∀ q : Nat, (fun q : Nat => s.heap.size ≤ q) q → s.heap.size ≤ q := fun _ h => h
  have hn0 : s.heap.size ≤ s.heap.size := Nat.le_refl _
  have hbA : ¬ (fun q : Nat => s.heap.size ≤ q) b := Nat.not_le.mpr hbl
  obtain ⟨hi5, Gx, Gm, wx, wm, tx, tm, hXI, hMI, hrl, hKx, hKm, hP, hD, hS, hl⟩ := hI
  refine lv_iload hx hb dL_law_23 (lv_at hl 0 rfl) ?_
  refine lv_aload_n hx hb dL_law_25 rfl (lv_at hl 4 rfl) ?_
  refine va_slen hx hb hX hbl hbA hS dL_law_26 ?_
  refine lv_topi (fun v_1 ev_1 => ?_)
  refine lv_bipush (v := 6) hx hb dL_law_27 (by decide) ?_
  refine lv_isub hx hb dL_law_29 ?_
  refine lv_topi (fun v_2 ev_2 => ?_)
  refine lv_icmp_gt (tgt := 1055) hx hb dL_law_30 (by decide) (fun c_3 => ?_) (fun c_3 => ?_)
  · skip
    have g_4 : v_2.toInt < ((i : Nat) : Int) := (by have h := i_lt c_3; rw [nI_toInt (by omega)] at h; exact h)
    refine lv_iconst (v := 1) hx hb dL_law_1055 (by decide) ?_
    refine va_forget (fun q hq => hS.2.2 q hq) ?_
    refine W.widen (k := 601024) (n := 7293034) (by omega) (by omega) ?_
    exact lw_ret hx hb hr hlocks dL_law_1056
  · skip
    have g_5 : ((i : Nat) : Int) ≤ v_2.toInt := (by have h := i_nlt c_3; rw [nI_toInt (by omega)] at h; exact h)
    have hi6 : i + 6 ≤ L := len_ok hL hi5 ev_1 ev_2 c_3
    have K : ∀ (H : Heap) (locs : List Loc) (ls : Array Slot), LV dC dI s b L ad ka x0 md mk9 m0 (i + 6) H locs ls → W p l e room_1 s m #[Value.ref b] below meth c H locs (150 + 23 * (i + 6)) (3000 + 300 * (i + 6)) (lw_Z below #[Value.ref b] s) (F0 m 23 ls []) := fun H locs ls h => K0 (i + 6) H locs ls h (by show L + 6 - (i + 6) < L + 6 - i; omega)
    refine lv_aload_n hx hb dL_law_33 rfl (lv_at hl 4 rfl) ?_
    refine lv_iload hx hb dL_law_34 (lv_at hl 0 rfl) ?_
    refine va_sld hx hb hX hbl hbA hS (vp_in_nI (n := i) (by omega) (by omega)) dL_law_36 ?_
    refine lv_topi (fun v_6 ev_6 => ?_)
    refine lv_bipush (v := 31) hx hb dL_law_37 (by decide) ?_
    refine lv_iand hx hb dL_law_39 ?_
    refine lv_topi (fun v_7 ev_7 => ?_)
    rcases sw_0_29 v_7 with sw_8 | sw_8 | sw_8 | sw_8 | sw_8 | sw_8 | sw_8 | sw_8 | sw_8 | sw_8 | sw_8 | sw_8 | sw_8 | sw_8 | sw_8 | sw_8 | sw_8 | sw_8 | sw_8 | sw_8 | sw_8 | sw_8 | sw_8 | sw_8 | sw_8 | sw_8 | sw_8 | sw_8 | sw_8 | sw_8 | sw_8
    · refine lv_tableOut (tgt := 1049) hx hb dL_law_40 sw_8 (by decide) ?_
      refine lv_iinc (v := (nI (i + 6))) (lv' := [(4, .int (nI (i + 6))), (3, .ref (ad 104)), (2, .ref m0), (1, .ref x0), (0, .ref b)]) hx hb dL_law_1049 hl (k := 0) rfl (nI_add _ 6) (by decide) rfl (fun ls hl => ?_)
      refine lv_goto (tgt := 23) hx hb dL_law_1052 (by decide) ?_
      refine W.widen (k := 150 + 23 * (i + 6)) (n := 3000 + 300 * (i + 6)) (by omega) (by omega) ?_
      exact K _ _ _ ⟨by omega, Gx, Gm, wx, wm, tx, tm, hXI, hMI, hrl, hKx, hKm, hP, hD, hS, lv_sub hl [0, 1, 2, 3, 4] rfl⟩
    · refine lv_tableIn (off := 136) (tgt := 176) hx hb dL_law_40 (by rw [sw_8]; decide) (by rw [sw_8]; decide) (by rw [sw_8]; decide) (by decide) ?_
      exact law_0 hst hL C1 atx hG ad ka x0 md mk9 m0 i hi6 K H locs ls Gx Gm wx wm tx tm hXI hMI hrl hKx hKm hP hD hS (lv_sub hl [0, 1, 2, 3, 4] rfl)
    · refine lv_tableIn (off := 209) (tgt := 249) hx hb dL_law_40 (by rw [sw_8]; decide) (by rw [sw_8]; decide) (by rw [sw_8]; decide) (by decide) ?_
      exact law_1 hst hL C1 atx hG ad ka x0 md mk9 m0 i hi6 K H locs ls Gx Gm wx wm tx tm hXI hMI hrl hKx hKm hP hD hS (lv_sub hl [0, 1, 2, 3, 4] rfl)
    · refine lv_tableIn (off := 234) (tgt := 274) hx hb dL_law_40 (by rw [sw_8]; decide) (by rw [sw_8]; decide) (by rw [sw_8]; decide) (by decide) ?_
      exact law_2 hst hL C1 atx hG ad ka x0 md mk9 m0 i hi6 K H locs ls Gx Gm wx wm tx tm hXI hMI hrl hKx hKm hP hD hS (lv_sub hl [0, 1, 2, 3, 4] rfl)
    · refine lv_tableIn (off := 247) (tgt := 287) hx hb dL_law_40 (by rw [sw_8]; decide) (by rw [sw_8]; decide) (by rw [sw_8]; decide) (by decide) ?_
      exact law_3 hst hL C1 atx hG ad ka x0 md mk9 m0 i hi6 K H locs ls Gx Gm wx wm tx tm hXI hMI hrl hKx hKm hP hD hS (lv_sub hl [0, 1, 2, 3, 4] rfl)
    · refine lv_tableIn (off := 260) (tgt := 300) hx hb dL_law_40 (by rw [sw_8]; decide) (by rw [sw_8]; decide) (by rw [sw_8]; decide) (by decide) ?_
      exact law_4 hst hL C1 atx hG ad ka x0 md mk9 m0 i hi6 K H locs ls Gx Gm wx wm tx tm hXI hMI hrl hKx hKm hP hD hS (lv_sub hl [0, 1, 2, 3, 4] rfl)
    · refine lv_tableIn (off := 297) (tgt := 337) hx hb dL_law_40 (by rw [sw_8]; decide) (by rw [sw_8]; decide) (by rw [sw_8]; decide) (by decide) ?_
      exact law_5 hst hL C1 atx hG ad ka x0 md mk9 m0 i hi6 K H locs ls Gx Gm wx wm tx tm hXI hMI hrl hKx hKm hP hD hS (lv_sub hl [0, 1, 2, 3, 4] rfl)
    · refine lv_tableIn (off := 350) (tgt := 390) hx hb dL_law_40 (by rw [sw_8]; decide) (by rw [sw_8]; decide) (by rw [sw_8]; decide) (by decide) ?_
      exact law_6 hst hL C1 atx hG ad ka x0 md mk9 m0 i hi6 K H locs ls Gx Gm wx wm tx tm hXI hMI hrl hKx hKm hP hD hS (lv_sub hl [0, 1, 2, 3, 4] rfl)
    · refine lv_tableIn (off := 387) (tgt := 427) hx hb dL_law_40 (by rw [sw_8]; decide) (by rw [sw_8]; decide) (by rw [sw_8]; decide) (by decide) ?_
      exact law_7 hst hL C1 atx hG ad ka x0 md mk9 m0 i hi6 K H locs ls Gx Gm wx wm tx tm hXI hMI hrl hKx hKm hP hD hS (lv_sub hl [0, 1, 2, 3, 4] rfl)
    · refine lv_tableIn (off := 440) (tgt := 480) hx hb dL_law_40 (by rw [sw_8]; decide) (by rw [sw_8]; decide) (by rw [sw_8]; decide) (by decide) ?_
      exact law_8 hst hL C1 atx hG ad ka x0 md mk9 m0 i hi6 K H locs ls Gx Gm wx wm tx tm hXI hMI hrl hKx hKm hP hD hS (lv_sub hl [0, 1, 2, 3, 4] rfl)
    · refine lv_tableIn (off := 477) (tgt := 517) hx hb dL_law_40 (by rw [sw_8]; decide) (by rw [sw_8]; decide) (by rw [sw_8]; decide) (by decide) ?_
      exact law_9 hst hL C1 atx hG ad ka x0 md mk9 m0 i hi6 K H locs ls Gx Gm wx wm tx tm hXI hMI hrl hKx hKm hP hD hS (lv_sub hl [0, 1, 2, 3, 4] rfl)
    · refine lv_tableIn (off := 502) (tgt := 542) hx hb dL_law_40 (by rw [sw_8]; decide) (by rw [sw_8]; decide) (by rw [sw_8]; decide) (by decide) ?_
      exact law_10 hst hL C1 atx hG ad ka x0 md mk9 m0 i hi6 K H locs ls Gx Gm wx wm tx tm hXI hMI hrl hKx hKm hP hD hS (lv_sub hl [0, 1, 2, 3, 4] rfl)
    · refine lv_tableIn (off := 527) (tgt := 567) hx hb dL_law_40 (by rw [sw_8]; decide) (by rw [sw_8]; decide) (by rw [sw_8]; decide) (by decide) ?_
      exact law_11 hst hL C1 atx hG ad ka x0 md mk9 m0 i hi6 K H locs ls Gx Gm wx wm tx tm hXI hMI hrl hKx hKm hP hD hS (lv_sub hl [0, 1, 2, 3, 4] rfl)
    · refine lv_tableIn (off := 540) (tgt := 580) hx hb dL_law_40 (by rw [sw_8]; decide) (by rw [sw_8]; decide) (by rw [sw_8]; decide) (by decide) ?_
      exact law_12 hst hL C1 atx hG ad ka x0 md mk9 m0 i hi6 K H locs ls Gx Gm wx wm tx tm hXI hMI hrl hKx hKm hP hD hS (lv_sub hl [0, 1, 2, 3, 4] rfl)
    · refine lv_tableIn (off := 565) (tgt := 605) hx hb dL_law_40 (by rw [sw_8]; decide) (by rw [sw_8]; decide) (by rw [sw_8]; decide) (by decide) ?_
      exact law_13 hst hL C1 atx hG ad ka x0 md mk9 m0 i hi6 K H locs ls Gx Gm wx wm tx tm hXI hMI hrl hKx hKm hP hD hS (lv_sub hl [0, 1, 2, 3, 4] rfl)
    · refine lv_tableIn (off := 590) (tgt := 630) hx hb dL_law_40 (by rw [sw_8]; decide) (by rw [sw_8]; decide) (by rw [sw_8]; decide) (by decide) ?_
      exact law_14 hst hL C1 atx hG ad ka x0 md mk9 m0 i hi6 K H locs ls Gx Gm wx wm tx tm hXI hMI hrl hKx hKm hP hD hS (lv_sub hl [0, 1, 2, 3, 4] rfl)
    · refine lv_tableIn (off := 615) (tgt := 655) hx hb dL_law_40 (by rw [sw_8]; decide) (by rw [sw_8]; decide) (by rw [sw_8]; decide) (by decide) ?_
      exact law_15 hst hL C1 atx hG ad ka x0 md mk9 m0 i hi6 K H locs ls Gx Gm wx wm tx tm hXI hMI hrl hKx hKm hP hD hS (lv_sub hl [0, 1, 2, 3, 4] rfl)
    · refine lv_tableIn (off := 628) (tgt := 668) hx hb dL_law_40 (by rw [sw_8]; decide) (by rw [sw_8]; decide) (by rw [sw_8]; decide) (by decide) ?_
      exact law_16 hst hL C1 atx hG ad ka x0 md mk9 m0 i hi6 K H locs ls Gx Gm wx wm tx tm hXI hMI hrl hKx hKm hP hD hS (lv_sub hl [0, 1, 2, 3, 4] rfl)
    · refine lv_tableIn (off := 641) (tgt := 681) hx hb dL_law_40 (by rw [sw_8]; decide) (by rw [sw_8]; decide) (by rw [sw_8]; decide) (by decide) ?_
      exact law_17 hst hL C1 atx hG ad ka x0 md mk9 m0 i hi6 K H locs ls Gx Gm wx wm tx tm hXI hMI hrl hKx hKm hP hD hS (lv_sub hl [0, 1, 2, 3, 4] rfl)
    · refine lv_tableIn (off := 682) (tgt := 722) hx hb dL_law_40 (by rw [sw_8]; decide) (by rw [sw_8]; decide) (by rw [sw_8]; decide) (by decide) ?_
      exact law_18 hst hL C1 atx hG ad ka x0 md mk9 m0 i hi6 K H locs ls Gx Gm wx wm tx tm hXI hMI hrl hKx hKm hP hD hS (lv_sub hl [0, 1, 2, 3, 4] rfl)
    · refine lv_tableIn (off := 695) (tgt := 735) hx hb dL_law_40 (by rw [sw_8]; decide) (by rw [sw_8]; decide) (by rw [sw_8]; decide) (by decide) ?_
      exact law_19 hst hL C1 atx hG ad ka x0 md mk9 m0 i hi6 K H locs ls Gx Gm wx wm tx tm hXI hMI hrl hKx hKm hP hD hS (lv_sub hl [0, 1, 2, 3, 4] rfl)
    · refine lv_tableIn (off := 720) (tgt := 760) hx hb dL_law_40 (by rw [sw_8]; decide) (by rw [sw_8]; decide) (by rw [sw_8]; decide) (by decide) ?_
      exact law_20 hst hL C1 atx hG ad ka x0 md mk9 m0 i hi6 K H locs ls Gx Gm wx wm tx tm hXI hMI hrl hKx hKm hP hD hS (lv_sub hl [0, 1, 2, 3, 4] rfl)
    · refine lv_tableIn (off := 745) (tgt := 785) hx hb dL_law_40 (by rw [sw_8]; decide) (by rw [sw_8]; decide) (by rw [sw_8]; decide) (by decide) ?_
      exact law_21 hst hL C1 atx hG ad ka x0 md mk9 m0 i hi6 K H locs ls Gx Gm wx wm tx tm hXI hMI hrl hKx hKm hP hD hS (lv_sub hl [0, 1, 2, 3, 4] rfl)
    · refine lv_tableIn (off := 770) (tgt := 810) hx hb dL_law_40 (by rw [sw_8]; decide) (by rw [sw_8]; decide) (by rw [sw_8]; decide) (by decide) ?_
      exact law_22 hst hL C1 atx hG ad ka x0 md mk9 m0 i hi6 K H locs ls Gx Gm wx wm tx tm hXI hMI hrl hKx hKm hP hD hS (lv_sub hl [0, 1, 2, 3, 4] rfl)
    · refine lv_tableIn (off := 819) (tgt := 859) hx hb dL_law_40 (by rw [sw_8]; decide) (by rw [sw_8]; decide) (by rw [sw_8]; decide) (by decide) ?_
      exact law_23 hst hL C1 atx hG ad ka x0 md mk9 m0 i hi6 K H locs ls Gx Gm wx wm tx tm hXI hMI hrl hKx hKm hP hD hS (lv_sub hl [0, 1, 2, 3, 4] rfl)
    · refine lv_tableIn (off := 844) (tgt := 884) hx hb dL_law_40 (by rw [sw_8]; decide) (by rw [sw_8]; decide) (by rw [sw_8]; decide) (by decide) ?_
      exact law_24 hst hL C1 atx hG ad ka x0 md mk9 m0 i hi6 K H locs ls Gx Gm wx wm tx tm hXI hMI hrl hKx hKm hP hD hS (lv_sub hl [0, 1, 2, 3, 4] rfl)
    · refine lv_tableIn (off := 857) (tgt := 897) hx hb dL_law_40 (by rw [sw_8]; decide) (by rw [sw_8]; decide) (by rw [sw_8]; decide) (by decide) ?_
      exact law_25 hst hL C1 atx hG ad ka x0 md mk9 m0 i hi6 K H locs ls Gx Gm wx wm tx tm hXI hMI hrl hKx hKm hP hD hS (lv_sub hl [0, 1, 2, 3, 4] rfl)
    · refine lv_tableIn (off := 906) (tgt := 946) hx hb dL_law_40 (by rw [sw_8]; decide) (by rw [sw_8]; decide) (by rw [sw_8]; decide) (by decide) ?_
      exact law_26 hst hL C1 atx hG ad ka x0 md mk9 m0 i hi6 K H locs ls Gx Gm wx wm tx tm hXI hMI hrl hKx hKm hP hD hS (lv_sub hl [0, 1, 2, 3, 4] rfl)
    · refine lv_tableIn (off := 931) (tgt := 971) hx hb dL_law_40 (by rw [sw_8]; decide) (by rw [sw_8]; decide) (by rw [sw_8]; decide) (by decide) ?_
      exact law_27 hst hL C1 atx hG ad ka x0 md mk9 m0 i hi6 K H locs ls Gx Gm wx wm tx tm hXI hMI hrl hKx hKm hP hD hS (lv_sub hl [0, 1, 2, 3, 4] rfl)
    · refine lv_tableIn (off := 971) (tgt := 1011) hx hb dL_law_40 (by rw [sw_8]; decide) (by rw [sw_8]; decide) (by rw [sw_8]; decide) (by decide) ?_
      exact law_28 hst hL C1 atx hG ad ka x0 md mk9 m0 i hi6 K H locs ls Gx Gm wx wm tx tm hXI hMI hrl hKx hKm hP hD hS (lv_sub hl [0, 1, 2, 3, 4] rfl)
    · refine lv_tableIn (off := 996) (tgt := 1036) hx hb dL_law_40 (by rw [sw_8]; decide) (by rw [sw_8]; decide) (by rw [sw_8]; decide) (by decide) ?_
      exact law_29 hst hL C1 atx hG ad ka x0 md mk9 m0 i hi6 K H locs ls Gx Gm wx wm tx tm hXI hMI hrl hKx hKm hP hD hS (lv_sub hl [0, 1, 2, 3, 4] rfl)
