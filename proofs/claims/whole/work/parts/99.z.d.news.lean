theorem po_v {l : Launch} {y : MethodName} {wl : List Cond} {rm : Room} {Pc : Array Value → State → Prop} {S : Type} {post : S → Prop} {B : S → State → Prop} {B' : State → Prop} {A fr : Nat → Prop} {mc ms : Nat}
    (hM : Met l y wl rm Pc (va_Qv post B A) mc ms fr) (hB : ∀ (u : S) (t : State), post u → B u t → B' t) : Met l y wl rm Pc (va_Qv (fun _ : Unit => True) (fun (_ : Unit) (t : State) => B' t) A) mc ms fr := by
  intro p e ha hc hk s m args below hf happ hP hK0
  obtain ⟨n, o, h1, h2, h3, ⟨⟨u, ho, hp, hb⟩, hFz⟩, L, hE, hL⟩ := hM p e ha hc hk s m args below hf happ hP hK0
  exact ⟨n, o, h1, h2, h3, ⟨⟨(), ho, trivial, hB u _ hp hb⟩, hFz⟩, L, hE, hL⟩
theorem ga_l {α : Type} {w r : List α} {i : Nat} {c : α} (h : gA w i c) : gA (w ++ r) i c := by
  have h1 : w[i]? = some c := h
  show (w ++ r)[i]? = some c
  rw [List.getElem?_append_left (List.getElem?_eq_some_iff.mp h1).1]
  exact h1
theorem ga_r {α : Type} {w : List α} {i : Nat} {c : α} (h : w.length = i) : gA (w ++ [c]) i c := by
  show (w ++ [c])[i]? = some c
  rw [List.getElem?_append_right (by omega), h, Nat.sub_self]
  rfl
theorem sw_P {D : va_G} {a b c : va_W} {H : Heap} (h : va_P D classes ((a ++ b) ++ c) H) : va_P D classes ((a ++ c) ++ b) H := ((ap_l (ap_l h)).app (ap_r h)).app (ap_r (ap_l h))
theorem sw_D {A : Nat → Prop} {a b c : va_W} (h : va_D A ((a ++ b) ++ c)) : va_D A ((a ++ c) ++ b) := by
  have hx := ad_x h
  have hab := ad_x (ad_l h)
  have up : ∀ (i : Nat) (p : Nat × va_E), a[i]? = some p → (a ++ b)[i]? = some p := fun i p hk => by rw [List.getElem?_append_left (List.getElem?_eq_some_iff.mp hk).1]; exact hk
  have ub : ∀ (i : Nat) (p : Nat × va_E), b[i]? = some p → (a ++ b)[a.length + i]? = some p := fun i p hk => by rw [List.getElem?_append_right (Nat.le_add_right _ _), Nat.add_sub_cancel_left]; exact hk
  refine va_D.app (va_D.app (ad_l (ad_l h)) (ad_r h) (fun i j p q hi hj => hx i j p q (up i p hi) hj)) (ad_r (ad_l h)) ?_
  intro i j p q hi hj
  by_cases hl : i < a.length
  · rw [List.getElem?_append_left hl] at hi
    exact hab i j p q hi hj
  · rw [List.getElem?_append_right (by omega)] at hi
    exact fun e => hx (a.length + j) (i - a.length) q p (ub j q hj) hi e.symm
def NXI (x0 : Nat) (ws : va_W) (tx : List (ClassId × FieldType)) : Prop := ∀ (a9 : Nat) (k9 : ClassId) (f9 : Nat → Int64), ∃ (ad : Nat → Nat) (ka : Nat → ClassId) (G : Nat → Int), XI ad ka x0 G (ws ++ [(a9, .inl (k9, 1, .inr (.inl f9)))]) (tx ++ [(k9, .long)]) ∧ INX G ∧ (ad 104) = a9
set_option maxHeartbeats 4000000 in
set_option maxRecDepth 100000 in
theorem X_new (l : Launch) (dC : Nat → ClassId) (dI : Nat → Nat → Nat) (n0 : Nat) (atx : Nat → Nat × Nat) (sz : Nat) (x0 : Nat) : Met l yX11_init (wM yX11_init cX11_init 2 none) ({ frames := 3, cells := 104, slots := 1955, locals := 56 }) (va_Pc [.ref x0] (fun U => U.heap.size = sz ∧ n0 ≤ sz ∧ GW n0 atx U ∧ va_P (dC, dI) classes [(x0, .inr (11, [.null, .null, .null, .null, .null, .null, .null, .null, .null, .int 0, .int 0, .int 0]))] U.heap ∧ va_K (dC, dI) classes [] U ∧ va_D (fun q => n0 ≤ q) [(x0, .inr (11, [.null, .null, .null, .null, .null, .null, .null, .null, .null, .int 0, .int 0, .int 0]))])) (va_Qv (fun _ : Unit => True) (fun (_ : Unit) (t : State) => ∃ (ws : va_W) (tx : List (ClassId × FieldType)), NXI x0 ws tx ∧ va_P (dC, dI) classes ws t.heap ∧ va_K (dC, dI) classes tx t ∧ va_D (va_A [(x0, .inr (11, [.null, .null, .null, .null, .null, .null, .null, .null, .null, .int 0, .int 0, .int 0]))] sz) ws) (va_A [(x0, .inr (11, [.null, .null, .null, .null, .null, .null, .null, .null, .null, .int 0, .int 0, .int 0]))] sz)) 104 1955 (va_A [(x0, .inr (11, [.null, .null, .null, .null, .null, .null, .null, .null, .null, .int 0, .int 0, .int 0]))] sz) := by
  refine po_v (n_MineAir l dC dI n0 atx sz x0) ?_
  intro u9 t9 _ hB
  refine Exists.elim hB (fun rd hB => ?_)
  refine Exists.elim hB (fun dr hB => ?_)
  refine Exists.elim hB (fun bk hB => ?_)
  refine Exists.elim hB (fun st hB => ?_)
  refine Exists.elim hB (fun j2 hB => ?_)
  refine Exists.elim hB (fun tr hB => ?_)
  refine Exists.elim hB (fun pl hB => ?_)
  refine Exists.elim hB (fun fl hB => ?_)
  refine Exists.elim hB (fun rq hB => ?_)
  refine Exists.elim hB (fun rd_tape hB => ?_)
  refine Exists.elim hB (fun rd_names hB => ?_)
  refine Exists.elim hB (fun rd_nameKind hB => ?_)
  refine Exists.elim hB (fun rd_nameNumber hB => ?_)
  refine Exists.elim hB (fun rd_knotNames hB => ?_)
  refine Exists.elim hB (fun dr_tail hB => ?_)
  refine Exists.elim hB (fun dr_head hB => ?_)
  refine Exists.elim hB (fun dr_hinder hB => ?_)
  refine Exists.elim hB (fun dr_size hB => ?_)
  refine Exists.elim hB (fun dr_walk hB => ?_)
  refine Exists.elim hB (fun dr_draught hB => ?_)
  refine Exists.elim hB (fun dr_doorIn hB => ?_)
  refine Exists.elim hB (fun dr_fanIn hB => ?_)
  refine Exists.elim hB (fun dr_faceIn hB => ?_)
  refine Exists.elim hB (fun dg hB => ?_)
  refine Exists.elim hB (fun dg_doorBy hB => ?_)
  refine Exists.elim hB (fun dg_pairFirst hB => ?_)
  refine Exists.elim hB (fun dg_pairSecond hB => ?_)
  refine Exists.elim hB (fun dg_fanPush hB => ?_)
  refine Exists.elim hB (fun dg_fanFall hB => ?_)
  refine Exists.elim hB (fun dg_fanCost hB => ?_)
  refine Exists.elim hB (fun dg_faceWay hB => ?_)
  refine Exists.elim hB (fun dg_faceGas hB => ?_)
  refine Exists.elim hB (fun dg_faceNeed hB => ?_)
  refine Exists.elim hB (fun bk_tail hB => ?_)
  refine Exists.elim hB (fun bk_head hB => ?_)
  refine Exists.elim hB (fun bk_hinder hB => ?_)
  refine Exists.elim hB (fun bk_size hB => ?_)
  refine Exists.elim hB (fun bk_walk hB => ?_)
  refine Exists.elim hB (fun bk_draught hB => ?_)
  refine Exists.elim hB (fun bk_doorIn hB => ?_)
  refine Exists.elim hB (fun bk_fanIn hB => ?_)
  refine Exists.elim hB (fun bk_faceIn hB => ?_)
  refine Exists.elim hB (fun gr hB => ?_)
  refine Exists.elim hB (fun gr_doorBy hB => ?_)
  refine Exists.elim hB (fun gr_pairFirst hB => ?_)
  refine Exists.elim hB (fun gr_pairSecond hB => ?_)
  refine Exists.elim hB (fun gr_fanPush hB => ?_)
  refine Exists.elim hB (fun gr_fanFall hB => ?_)
  refine Exists.elim hB (fun gr_fanCost hB => ?_)
  refine Exists.elim hB (fun gr_faceWay hB => ?_)
  refine Exists.elim hB (fun gr_faceGas hB => ?_)
  refine Exists.elim hB (fun gr_faceNeed hB => ?_)
  refine Exists.elim hB (fun st_open hB => ?_)
  refine Exists.elim hB (fun st_speed hB => ?_)
  refine Exists.elim hB (fun st_fallen hB => ?_)
  refine Exists.elim hB (fun st_fire hB => ?_)
  refine Exists.elim hB (fun f2w hB => ?_)
  refine Exists.elim hB (fun l2d hB => ?_)
  refine Exists.elim hB (fun f2w_air hB => ?_)
  refine Exists.elim hB (fun f2w_hindrance hB => ?_)
  refine Exists.elim hB (fun f2w_pull hB => ?_)
  refine Exists.elim hB (fun f2w_droop hB => ?_)
  refine Exists.elim hB (fun f2w_forth hB => ?_)
  refine Exists.elim hB (fun f2w_back hB => ?_)
  refine Exists.elim hB (fun f2w_label hB => ?_)
  refine Exists.elim hB (fun f2w_cause hB => ?_)
  refine Exists.elim hB (fun f2w_seen hB => ?_)
  refine Exists.elim hB (fun f2w_round hB => ?_)
  refine Exists.elim hB (fun l2d_gas hB => ?_)
  refine Exists.elim hB (fun l2d_coming hB => ?_)
  refine Exists.elim hB (fun l2d_waiting hB => ?_)
  refine Exists.elim hB (fun l2d_rest hB => ?_)
  refine Exists.elim hB (fun jd hB => ?_)
  refine Exists.elim hB (fun tr_ranks hB => ?_)
  refine Exists.elim hB (fun tr_keptSpeed hB => ?_)
  refine Exists.elim hB (fun fw hB => ?_)
  refine Exists.elim hB (fun ld hB => ?_)
  refine Exists.elim hB (fun fw_air hB => ?_)
  refine Exists.elim hB (fun fw_hindrance hB => ?_)
  refine Exists.elim hB (fun fw_pull hB => ?_)
  refine Exists.elim hB (fun fw_droop hB => ?_)
  refine Exists.elim hB (fun fw_forth hB => ?_)
  refine Exists.elim hB (fun fw_back hB => ?_)
  refine Exists.elim hB (fun fw_label hB => ?_)
  refine Exists.elim hB (fun fw_cause hB => ?_)
  refine Exists.elim hB (fun fw_seen hB => ?_)
  refine Exists.elim hB (fun fw_round hB => ?_)
  refine Exists.elim hB (fun ld_gas hB => ?_)
  refine Exists.elim hB (fun ld_coming hB => ?_)
  refine Exists.elim hB (fun ld_waiting hB => ?_)
  refine Exists.elim hB (fun ld_rest hB => ?_)
  refine Exists.elim hB (fun pl_order hB => ?_)
  refine Exists.elim hB (fun pl_kind hB => ?_)
  refine Exists.elim hB (fun pl_which hB => ?_)
  refine Exists.elim hB (fun pl_value hB => ?_)
  refine Exists.elim hB (fun pl_soundBy hB => ?_)
  refine Exists.elim hB (fun fl_knotOf hB => ?_)
  refine Exists.elim hB (fun fl_smokeAt hB => ?_)
  refine Exists.elim hB (fun fl_reach hB => ?_)
  refine Exists.elim hB (fun fl_route hB => ?_)
  refine Exists.elim hB (fun fl_smokeIn hB => ?_)
  refine Exists.elim hB (fun rq_way hB => ?_)
  refine Exists.elim hB (fun rq_low hB => ?_)
  refine Exists.elim hB (fun rq_high hB => ?_)
  refine Exists.elim hB (fun k_rd_tape hB => ?_)
  refine Exists.elim hB (fun k_rd_names hB => ?_)
  refine Exists.elim hB (fun k_rd_nameKind hB => ?_)
  refine Exists.elim hB (fun k_rd_nameNumber hB => ?_)
  refine Exists.elim hB (fun k_rd_knotNames hB => ?_)
  refine Exists.elim hB (fun k_dr_tail hB => ?_)
  refine Exists.elim hB (fun k_dr_head hB => ?_)
  refine Exists.elim hB (fun k_dr_hinder hB => ?_)
  refine Exists.elim hB (fun k_dr_size hB => ?_)
  refine Exists.elim hB (fun k_dr_walk hB => ?_)
  refine Exists.elim hB (fun k_dr_draught hB => ?_)
  refine Exists.elim hB (fun k_dr_doorIn hB => ?_)
  refine Exists.elim hB (fun k_dr_fanIn hB => ?_)
  refine Exists.elim hB (fun k_dr_faceIn hB => ?_)
  refine Exists.elim hB (fun k_dg_doorBy hB => ?_)
  refine Exists.elim hB (fun k_dg_pairFirst hB => ?_)
  refine Exists.elim hB (fun k_dg_pairSecond hB => ?_)
  refine Exists.elim hB (fun k_dg_fanPush hB => ?_)
  refine Exists.elim hB (fun k_dg_fanFall hB => ?_)
  refine Exists.elim hB (fun k_dg_fanCost hB => ?_)
  refine Exists.elim hB (fun k_dg_faceWay hB => ?_)
  refine Exists.elim hB (fun k_dg_faceGas hB => ?_)
  refine Exists.elim hB (fun k_dg_faceNeed hB => ?_)
  refine Exists.elim hB (fun k_bk_tail hB => ?_)
  refine Exists.elim hB (fun k_bk_head hB => ?_)
  refine Exists.elim hB (fun k_bk_hinder hB => ?_)
  refine Exists.elim hB (fun k_bk_size hB => ?_)
  refine Exists.elim hB (fun k_bk_walk hB => ?_)
  refine Exists.elim hB (fun k_bk_draught hB => ?_)
  refine Exists.elim hB (fun k_bk_doorIn hB => ?_)
  refine Exists.elim hB (fun k_bk_fanIn hB => ?_)
  refine Exists.elim hB (fun k_bk_faceIn hB => ?_)
  refine Exists.elim hB (fun k_gr_doorBy hB => ?_)
  refine Exists.elim hB (fun k_gr_pairFirst hB => ?_)
  refine Exists.elim hB (fun k_gr_pairSecond hB => ?_)
  refine Exists.elim hB (fun k_gr_fanPush hB => ?_)
  refine Exists.elim hB (fun k_gr_fanFall hB => ?_)
  refine Exists.elim hB (fun k_gr_fanCost hB => ?_)
  refine Exists.elim hB (fun k_gr_faceWay hB => ?_)
  refine Exists.elim hB (fun k_gr_faceGas hB => ?_)
  refine Exists.elim hB (fun k_gr_faceNeed hB => ?_)
  refine Exists.elim hB (fun k_st_open hB => ?_)
  refine Exists.elim hB (fun k_st_speed hB => ?_)
  refine Exists.elim hB (fun k_st_fallen hB => ?_)
  refine Exists.elim hB (fun k_st_fire hB => ?_)
  refine Exists.elim hB (fun k_f2w_air hB => ?_)
  refine Exists.elim hB (fun k_f2w_hindrance hB => ?_)
  refine Exists.elim hB (fun k_f2w_pull hB => ?_)
  refine Exists.elim hB (fun k_f2w_droop hB => ?_)
  refine Exists.elim hB (fun k_f2w_forth hB => ?_)
  refine Exists.elim hB (fun k_f2w_back hB => ?_)
  refine Exists.elim hB (fun k_f2w_label hB => ?_)
  refine Exists.elim hB (fun k_f2w_cause hB => ?_)
  refine Exists.elim hB (fun k_f2w_seen hB => ?_)
  refine Exists.elim hB (fun k_f2w_round hB => ?_)
  refine Exists.elim hB (fun k_l2d_gas hB => ?_)
  refine Exists.elim hB (fun k_l2d_coming hB => ?_)
  refine Exists.elim hB (fun k_l2d_waiting hB => ?_)
  refine Exists.elim hB (fun k_l2d_rest hB => ?_)
  refine Exists.elim hB (fun k_tr_ranks hB => ?_)
  refine Exists.elim hB (fun k_tr_keptSpeed hB => ?_)
  refine Exists.elim hB (fun k_fw_air hB => ?_)
  refine Exists.elim hB (fun k_fw_hindrance hB => ?_)
  refine Exists.elim hB (fun k_fw_pull hB => ?_)
  refine Exists.elim hB (fun k_fw_droop hB => ?_)
  refine Exists.elim hB (fun k_fw_forth hB => ?_)
  refine Exists.elim hB (fun k_fw_back hB => ?_)
  refine Exists.elim hB (fun k_fw_label hB => ?_)
  refine Exists.elim hB (fun k_fw_cause hB => ?_)
  refine Exists.elim hB (fun k_fw_seen hB => ?_)
  refine Exists.elim hB (fun k_fw_round hB => ?_)
  refine Exists.elim hB (fun k_ld_gas hB => ?_)
  refine Exists.elim hB (fun k_ld_coming hB => ?_)
  refine Exists.elim hB (fun k_ld_waiting hB => ?_)
  refine Exists.elim hB (fun k_ld_rest hB => ?_)
  refine Exists.elim hB (fun k_pl_order hB => ?_)
  refine Exists.elim hB (fun k_pl_kind hB => ?_)
  refine Exists.elim hB (fun k_pl_which hB => ?_)
  refine Exists.elim hB (fun k_pl_value hB => ?_)
  refine Exists.elim hB (fun k_pl_soundBy hB => ?_)
  refine Exists.elim hB (fun k_fl_knotOf hB => ?_)
  refine Exists.elim hB (fun k_fl_smokeAt hB => ?_)
  refine Exists.elim hB (fun k_fl_reach hB => ?_)
  refine Exists.elim hB (fun k_fl_route hB => ?_)
  refine Exists.elim hB (fun k_fl_smokeIn hB => ?_)
  refine Exists.elim hB (fun k_rq_way hB => ?_)
  refine Exists.elim hB (fun k_rq_low hB => ?_)
  refine Exists.elim hB (fun k_rq_high hB => ?_)
  refine Exists.elim hB (fun op9 hB => ?_)
  refine Exists.elim hB (fun sp9 hB => ?_)
  refine Exists.elim hB (fun fa9 hB => ?_)
  refine Exists.elim hB (fun fi9 hB => ?_)
  refine And.elim (fun hf_0 hB => ?_) hB
  refine And.elim (fun hf_1 hB => ?_) hB
  refine And.elim (fun hf_2 hB => ?_) hB
  refine And.elim (fun hf_3 hB => ?_) hB
  refine And.elim (fun hP1 hB => ?_) hB
  refine And.elim (fun hK1 hB => ?_) hB
  have hD1 := hB
  obtain ⟨w9, e9, hP1, hD1⟩ := gz (w := ((x0, .inr (11, [.ref rd, .ref dr, .ref bk, .ref st, .ref j2, .ref tr, .ref pl, .ref fl, .ref rq, .int 0, .int 0, .int 0])) :: (rd, .inr (7, [.ref rd_tape, .int 0, .int 0, .int 0, .ref dr, .ref rd_names, .ref rd_nameKind, .ref rd_nameNumber, .int 0, .ref rd_knotNames, .int 0, .int 0, .int 0, .int 0, .long 0])) :: (rd_tape, .inl (k_rd_tape, 600, .inl (fun _ => 0))) :: (rd_names, .inl (k_rd_names, 28, .inr (.inl (fun _ => 0)))) :: (rd_nameKind, .inl (k_rd_nameKind, 28, .inl (fun _ => 0))) :: (rd_nameNumber, .inl (k_rd_nameNumber, 28, .inl (fun _ => 0))) :: (rd_knotNames, .inl (k_rd_knotNames, 10, .inr (.inl (fun _ => 0)))) :: (dr, .inr (0, [.int 0, .ref dr_tail, .ref dr_head, .ref dr_hinder, .ref dr_size, .ref dr_walk, .ref dr_draught, .ref dr_doorIn, .ref dr_fanIn, .ref dr_faceIn, .int 0, .int (-1), .ref dg])) :: (dr_tail, .inl (k_dr_tail, 14, .inl (fun _ => 0))) :: (dr_head, .inl (k_dr_head, 14, .inl (fun _ => 0))) :: (dr_hinder, .inl (k_dr_hinder, 14, .inl (fun _ => 0))) :: (dr_size, .inl (k_dr_size, 14, .inl (fun _ => 0))) :: (dr_walk, .inl (k_dr_walk, 14, .inl (fun _ => 0))) :: (dr_draught, .inl (k_dr_draught, 14, .inl (fun _ => 0))) :: (dr_doorIn, .inl (k_dr_doorIn, 14, .inl (fun _ => 0))) :: (dr_fanIn, .inl (k_dr_fanIn, 14, .inl (fun _ => 0))) :: (dr_faceIn, .inl (k_dr_faceIn, 14, .inl (fun _ => 0))) :: (dg, .inr (3, [.int 0, .ref dg_doorBy, .int 0, .ref dg_pairFirst, .ref dg_pairSecond, .int 0, .ref dg_fanPush, .ref dg_fanFall, .ref dg_fanCost, .int 0, .ref dg_faceWay, .ref dg_faceGas, .ref dg_faceNeed])) :: (dg_doorBy, .inl (k_dg_doorBy, 6, .inl (fun _ => 0))) :: (dg_pairFirst, .inl (k_dg_pairFirst, 3, .inl (fun _ => 0))) :: (dg_pairSecond, .inl (k_dg_pairSecond, 3, .inl (fun _ => 0))) :: (dg_fanPush, .inl (k_dg_fanPush, 4, .inl (fun _ => 0))) :: (dg_fanFall, .inl (k_dg_fanFall, 4, .inl (fun _ => 0))) :: (dg_fanCost, .inl (k_dg_fanCost, 4, .inl (fun _ => 0))) :: (dg_faceWay, .inl (k_dg_faceWay, 4, .inl (fun _ => 0))) :: (dg_faceGas, .inl (k_dg_faceGas, 4, .inl (fun _ => 0))) :: (dg_faceNeed, .inl (k_dg_faceNeed, 4, .inl (fun _ => 0))) :: (bk, .inr (0, [.int 0, .ref bk_tail, .ref bk_head, .ref bk_hinder, .ref bk_size, .ref bk_walk, .ref bk_draught, .ref bk_doorIn, .ref bk_fanIn, .ref bk_faceIn, .int 0, .int (-1), .ref gr])) :: (bk_tail, .inl (k_bk_tail, 14, .inl (fun _ => 0))) :: (bk_head, .inl (k_bk_head, 14, .inl (fun _ => 0))) :: (bk_hinder, .inl (k_bk_hinder, 14, .inl (fun _ => 0))) :: (bk_size, .inl (k_bk_size, 14, .inl (fun _ => 0))) :: (bk_walk, .inl (k_bk_walk, 14, .inl (fun _ => 0))) :: (bk_draught, .inl (k_bk_draught, 14, .inl (fun _ => 0))) :: (bk_doorIn, .inl (k_bk_doorIn, 14, .inl (fun _ => 0))) :: (bk_fanIn, .inl (k_bk_fanIn, 14, .inl (fun _ => 0))) :: (bk_faceIn, .inl (k_bk_faceIn, 14, .inl (fun _ => 0))) :: (gr, .inr (3, [.int 0, .ref gr_doorBy, .int 0, .ref gr_pairFirst, .ref gr_pairSecond, .int 0, .ref gr_fanPush, .ref gr_fanFall, .ref gr_fanCost, .int 0, .ref gr_faceWay, .ref gr_faceGas, .ref gr_faceNeed])) :: (gr_doorBy, .inl (k_gr_doorBy, 6, .inl (fun _ => 0))) :: (gr_pairFirst, .inl (k_gr_pairFirst, 3, .inl (fun _ => 0))) :: (gr_pairSecond, .inl (k_gr_pairSecond, 3, .inl (fun _ => 0))) :: (gr_fanPush, .inl (k_gr_fanPush, 4, .inl (fun _ => 0))) :: (gr_fanFall, .inl (k_gr_fanFall, 4, .inl (fun _ => 0))) :: (gr_fanCost, .inl (k_gr_fanCost, 4, .inl (fun _ => 0))) :: (gr_faceWay, .inl (k_gr_faceWay, 4, .inl (fun _ => 0))) :: (gr_faceGas, .inl (k_gr_faceGas, 4, .inl (fun _ => 0))) :: (gr_faceNeed, .inl (k_gr_faceNeed, 4, .inl (fun _ => 0))) :: (st, .inr (9, [.ref st_open, .ref st_speed, .ref st_fallen, .ref st_fire, .int 10, .int (-1), .int 0, .ref bk])) :: (st_open, .inl (k_st_open, 6, .inl op9)) :: (st_speed, .inl (k_st_speed, 4, .inl sp9)) :: (st_fallen, .inl (k_st_fallen, 14, .inl fa9)) :: (st_fire, .inl (k_st_fire, 14, .inl fi9)) :: (j2, .inr (4, [.ref f2w, .ref l2d, .ref bk, .ref st, .int 0, .int 0])) :: (f2w, .inr (2, [.ref f2w_air, .ref bk, .ref st, .ref f2w_hindrance, .ref f2w_pull, .ref f2w_droop, .ref f2w_forth, .ref f2w_back, .ref f2w_label, .ref f2w_cause, .ref f2w_seen, .ref f2w_round])) :: (f2w_air, .inl (k_f2w_air, 14, .inl (fun _ => 0))) :: (f2w_hindrance, .inl (k_f2w_hindrance, 14, .inr (.inl (fun _ => 0)))) :: (f2w_pull, .inl (k_f2w_pull, 14, .inr (.inl (fun _ => 0)))) :: (f2w_droop, .inl (k_f2w_droop, 14, .inr (.inl (fun _ => 0)))) :: (f2w_forth, .inl (k_f2w_forth, 14, .inr (.inl (fun _ => 0)))) :: (f2w_back, .inl (k_f2w_back, 14, .inr (.inl (fun _ => 0)))) :: (f2w_label, .inl (k_f2w_label, 10, .inr (.inl (fun _ => 0)))) :: (f2w_cause, .inl (k_f2w_cause, 10, .inl (fun _ => 0))) :: (f2w_seen, .inl (k_f2w_seen, 10, .inl (fun _ => 0))) :: (f2w_round, .inl (k_f2w_round, 10, .inl (fun _ => 0))) :: (l2d, .inr (5, [.ref l2d_gas, .int 0, .ref bk, .ref l2d_coming, .ref l2d_waiting, .ref l2d_rest])) :: (l2d_gas, .inl (k_l2d_gas, 14, .inl (fun _ => 0))) :: (l2d_coming, .inl (k_l2d_coming, 10, .inl (fun _ => 0))) :: (l2d_waiting, .inl (k_l2d_waiting, 10, .inl (fun _ => 0))) :: (l2d_rest, .inl (k_l2d_rest, 14, .inl (fun _ => 0))) :: (tr, .inr (10, [.int 0, .int 0, .ref bk, .ref st, .ref j2, .ref jd, .ref tr_ranks, .ref tr_keptSpeed])) :: (tr_ranks, .inl (k_tr_ranks, 256, .inl (fun _ => 0))) :: (tr_keptSpeed, .inl (k_tr_keptSpeed, 4, .inl (fun _ => 0))) :: (jd, .inr (4, [.ref fw, .ref ld, .ref bk, .ref st, .int 0, .int 0])) :: (fw, .inr (2, [.ref fw_air, .ref bk, .ref st, .ref fw_hindrance, .ref fw_pull, .ref fw_droop, .ref fw_forth, .ref fw_back, .ref fw_label, .ref fw_cause, .ref fw_seen, .ref fw_round])) :: (fw_air, .inl (k_fw_air, 14, .inl (fun _ => 0))) :: (fw_hindrance, .inl (k_fw_hindrance, 14, .inr (.inl (fun _ => 0)))) :: (fw_pull, .inl (k_fw_pull, 14, .inr (.inl (fun _ => 0)))) :: (fw_droop, .inl (k_fw_droop, 14, .inr (.inl (fun _ => 0)))) :: (fw_forth, .inl (k_fw_forth, 14, .inr (.inl (fun _ => 0)))) :: (fw_back, .inl (k_fw_back, 14, .inr (.inl (fun _ => 0)))) :: (fw_label, .inl (k_fw_label, 10, .inr (.inl (fun _ => 0)))) :: (fw_cause, .inl (k_fw_cause, 10, .inl (fun _ => 0))) :: (fw_seen, .inl (k_fw_seen, 10, .inl (fun _ => 0))) :: (fw_round, .inl (k_fw_round, 10, .inl (fun _ => 0))) :: (ld, .inr (5, [.ref ld_gas, .int 0, .ref bk, .ref ld_coming, .ref ld_waiting, .ref ld_rest])) :: (ld_gas, .inl (k_ld_gas, 14, .inl (fun _ => 0))) :: (ld_coming, .inl (k_ld_coming, 10, .inl (fun _ => 0))) :: (ld_waiting, .inl (k_ld_waiting, 10, .inl (fun _ => 0))) :: (ld_rest, .inl (k_ld_rest, 14, .inl (fun _ => 0))) :: (pl, .inr (6, [.int 0, .ref pl_order, .ref st, .ref j2, .ref jd, .ref pl_kind, .ref pl_which, .ref pl_value, .ref pl_soundBy, .int 0, .int 0])) :: (pl_order, .inl (k_pl_order, 5, .inl (fun _ => 0))) :: (pl_kind, .inl (k_pl_kind, 5, .inl (fun _ => 0))) :: (pl_which, .inl (k_pl_which, 5, .inl (fun _ => 0))) :: (pl_value, .inl (k_pl_value, 5, .inl (fun _ => 0))) :: (pl_soundBy, .inl (k_pl_soundBy, 32, .inl (fun _ => 0))) :: (fl, .inr (1, [.int 0, .ref fl_knotOf, .ref fl_smokeAt, .ref fl_reach, .ref fl_route, .ref bk, .ref st, .ref fl_smokeIn])) :: (fl_knotOf, .inl (k_fl_knotOf, 20, .inl (fun _ => 0))) :: (fl_smokeAt, .inl (k_fl_smokeAt, 14, .inl (fun _ => 0))) :: (fl_reach, .inl (k_fl_reach, 10, .inl (fun _ => 0))) :: (fl_route, .inl (k_fl_route, 11, .inl (fun _ => 0))) :: (fl_smokeIn, .inl (k_fl_smokeIn, 10, .inl (fun _ => 0))) :: (rq, .inr (8, [.int 0, .ref rq_way, .ref rq_low, .ref rq_high])) :: (rq_way, .inl (k_rq_way, 8, .inl (fun _ => 0))) :: (rq_low, .inl (k_rq_low, 8, .inl (fun _ => 0))) :: (rq_high, .inl (k_rq_high, 8, .inl (fun _ => 0))) :: [])) hP1 hD1
  have q_0 : gA w9 0 (x0, .inr (11, [.ref rd, .ref dr, .ref bk, .ref st, .ref j2, .ref tr, .ref pl, .ref fl, .ref rq, .int 0, .int 0, .int 0])) := gq e9 rfl
  have q_1 : gA w9 1 (rd, .inr (7, [.ref rd_tape, .int 0, .int 0, .int 0, .ref dr, .ref rd_names, .ref rd_nameKind, .ref rd_nameNumber, .int 0, .ref rd_knotNames, .int 0, .int 0, .int 0, .int 0, .long 0])) := gq e9 rfl
  have q_2 : gA w9 2 (rd_tape, .inl (k_rd_tape, 600, .inl (fun _ => 0))) := gq e9 rfl
  have q_3 : gA w9 3 (rd_names, .inl (k_rd_names, 28, .inr (.inl (fun _ => 0)))) := gq e9 rfl
  have q_4 : gA w9 4 (rd_nameKind, .inl (k_rd_nameKind, 28, .inl (fun _ => 0))) := gq e9 rfl
  have q_5 : gA w9 5 (rd_nameNumber, .inl (k_rd_nameNumber, 28, .inl (fun _ => 0))) := gq e9 rfl
  have q_6 : gA w9 6 (rd_knotNames, .inl (k_rd_knotNames, 10, .inr (.inl (fun _ => 0)))) := gq e9 rfl
  have q_7 : gA w9 7 (dr, .inr (0, [.int 0, .ref dr_tail, .ref dr_head, .ref dr_hinder, .ref dr_size, .ref dr_walk, .ref dr_draught, .ref dr_doorIn, .ref dr_fanIn, .ref dr_faceIn, .int 0, .int (-1), .ref dg])) := gq e9 rfl
  have q_8 : gA w9 8 (dr_tail, .inl (k_dr_tail, 14, .inl (fun _ => 0))) := gq e9 rfl
  have q_9 : gA w9 9 (dr_head, .inl (k_dr_head, 14, .inl (fun _ => 0))) := gq e9 rfl
  have q_10 : gA w9 10 (dr_hinder, .inl (k_dr_hinder, 14, .inl (fun _ => 0))) := gq e9 rfl
  have q_11 : gA w9 11 (dr_size, .inl (k_dr_size, 14, .inl (fun _ => 0))) := gq e9 rfl
  have q_12 : gA w9 12 (dr_walk, .inl (k_dr_walk, 14, .inl (fun _ => 0))) := gq e9 rfl
  have q_13 : gA w9 13 (dr_draught, .inl (k_dr_draught, 14, .inl (fun _ => 0))) := gq e9 rfl
  have q_14 : gA w9 14 (dr_doorIn, .inl (k_dr_doorIn, 14, .inl (fun _ => 0))) := gq e9 rfl
  have q_15 : gA w9 15 (dr_fanIn, .inl (k_dr_fanIn, 14, .inl (fun _ => 0))) := gq e9 rfl
  have q_16 : gA w9 16 (dr_faceIn, .inl (k_dr_faceIn, 14, .inl (fun _ => 0))) := gq e9 rfl
  have q_17 : gA w9 17 (dg, .inr (3, [.int 0, .ref dg_doorBy, .int 0, .ref dg_pairFirst, .ref dg_pairSecond, .int 0, .ref dg_fanPush, .ref dg_fanFall, .ref dg_fanCost, .int 0, .ref dg_faceWay, .ref dg_faceGas, .ref dg_faceNeed])) := gq e9 rfl
  have q_18 : gA w9 18 (dg_doorBy, .inl (k_dg_doorBy, 6, .inl (fun _ => 0))) := gq e9 rfl
  have q_19 : gA w9 19 (dg_pairFirst, .inl (k_dg_pairFirst, 3, .inl (fun _ => 0))) := gq e9 rfl
  have q_20 : gA w9 20 (dg_pairSecond, .inl (k_dg_pairSecond, 3, .inl (fun _ => 0))) := gq e9 rfl
  have q_21 : gA w9 21 (dg_fanPush, .inl (k_dg_fanPush, 4, .inl (fun _ => 0))) := gq e9 rfl
  have q_22 : gA w9 22 (dg_fanFall, .inl (k_dg_fanFall, 4, .inl (fun _ => 0))) := gq e9 rfl
  have q_23 : gA w9 23 (dg_fanCost, .inl (k_dg_fanCost, 4, .inl (fun _ => 0))) := gq e9 rfl
  have q_24 : gA w9 24 (dg_faceWay, .inl (k_dg_faceWay, 4, .inl (fun _ => 0))) := gq e9 rfl
  have q_25 : gA w9 25 (dg_faceGas, .inl (k_dg_faceGas, 4, .inl (fun _ => 0))) := gq e9 rfl
  have q_26 : gA w9 26 (dg_faceNeed, .inl (k_dg_faceNeed, 4, .inl (fun _ => 0))) := gq e9 rfl
  have q_27 : gA w9 27 (bk, .inr (0, [.int 0, .ref bk_tail, .ref bk_head, .ref bk_hinder, .ref bk_size, .ref bk_walk, .ref bk_draught, .ref bk_doorIn, .ref bk_fanIn, .ref bk_faceIn, .int 0, .int (-1), .ref gr])) := gq e9 rfl
  have q_28 : gA w9 28 (bk_tail, .inl (k_bk_tail, 14, .inl (fun _ => 0))) := gq e9 rfl
  have q_29 : gA w9 29 (bk_head, .inl (k_bk_head, 14, .inl (fun _ => 0))) := gq e9 rfl
  have q_30 : gA w9 30 (bk_hinder, .inl (k_bk_hinder, 14, .inl (fun _ => 0))) := gq e9 rfl
  have q_31 : gA w9 31 (bk_size, .inl (k_bk_size, 14, .inl (fun _ => 0))) := gq e9 rfl
  have q_32 : gA w9 32 (bk_walk, .inl (k_bk_walk, 14, .inl (fun _ => 0))) := gq e9 rfl
  have q_33 : gA w9 33 (bk_draught, .inl (k_bk_draught, 14, .inl (fun _ => 0))) := gq e9 rfl
  have q_34 : gA w9 34 (bk_doorIn, .inl (k_bk_doorIn, 14, .inl (fun _ => 0))) := gq e9 rfl
  have q_35 : gA w9 35 (bk_fanIn, .inl (k_bk_fanIn, 14, .inl (fun _ => 0))) := gq e9 rfl
  have q_36 : gA w9 36 (bk_faceIn, .inl (k_bk_faceIn, 14, .inl (fun _ => 0))) := gq e9 rfl
  have q_37 : gA w9 37 (gr, .inr (3, [.int 0, .ref gr_doorBy, .int 0, .ref gr_pairFirst, .ref gr_pairSecond, .int 0, .ref gr_fanPush, .ref gr_fanFall, .ref gr_fanCost, .int 0, .ref gr_faceWay, .ref gr_faceGas, .ref gr_faceNeed])) := gq e9 rfl
  have q_38 : gA w9 38 (gr_doorBy, .inl (k_gr_doorBy, 6, .inl (fun _ => 0))) := gq e9 rfl
  have q_39 : gA w9 39 (gr_pairFirst, .inl (k_gr_pairFirst, 3, .inl (fun _ => 0))) := gq e9 rfl
  have q_40 : gA w9 40 (gr_pairSecond, .inl (k_gr_pairSecond, 3, .inl (fun _ => 0))) := gq e9 rfl
  have q_41 : gA w9 41 (gr_fanPush, .inl (k_gr_fanPush, 4, .inl (fun _ => 0))) := gq e9 rfl
  have q_42 : gA w9 42 (gr_fanFall, .inl (k_gr_fanFall, 4, .inl (fun _ => 0))) := gq e9 rfl
  have q_43 : gA w9 43 (gr_fanCost, .inl (k_gr_fanCost, 4, .inl (fun _ => 0))) := gq e9 rfl
  have q_44 : gA w9 44 (gr_faceWay, .inl (k_gr_faceWay, 4, .inl (fun _ => 0))) := gq e9 rfl
  have q_45 : gA w9 45 (gr_faceGas, .inl (k_gr_faceGas, 4, .inl (fun _ => 0))) := gq e9 rfl
  have q_46 : gA w9 46 (gr_faceNeed, .inl (k_gr_faceNeed, 4, .inl (fun _ => 0))) := gq e9 rfl
  have q_47 : gA w9 47 (st, .inr (9, [.ref st_open, .ref st_speed, .ref st_fallen, .ref st_fire, .int 10, .int (-1), .int 0, .ref bk])) := gq e9 rfl
  have q_48 : gA w9 48 (st_open, .inl (k_st_open, 6, .inl op9)) := gq e9 rfl
  have q_49 : gA w9 49 (st_speed, .inl (k_st_speed, 4, .inl sp9)) := gq e9 rfl
  have q_50 : gA w9 50 (st_fallen, .inl (k_st_fallen, 14, .inl fa9)) := gq e9 rfl
  have q_51 : gA w9 51 (st_fire, .inl (k_st_fire, 14, .inl fi9)) := gq e9 rfl
  have q_52 : gA w9 52 (j2, .inr (4, [.ref f2w, .ref l2d, .ref bk, .ref st, .int 0, .int 0])) := gq e9 rfl
  have q_53 : gA w9 53 (f2w, .inr (2, [.ref f2w_air, .ref bk, .ref st, .ref f2w_hindrance, .ref f2w_pull, .ref f2w_droop, .ref f2w_forth, .ref f2w_back, .ref f2w_label, .ref f2w_cause, .ref f2w_seen, .ref f2w_round])) := gq e9 rfl
  have q_54 : gA w9 54 (f2w_air, .inl (k_f2w_air, 14, .inl (fun _ => 0))) := gq e9 rfl
  have q_55 : gA w9 55 (f2w_hindrance, .inl (k_f2w_hindrance, 14, .inr (.inl (fun _ => 0)))) := gq e9 rfl
  have q_56 : gA w9 56 (f2w_pull, .inl (k_f2w_pull, 14, .inr (.inl (fun _ => 0)))) := gq e9 rfl
  have q_57 : gA w9 57 (f2w_droop, .inl (k_f2w_droop, 14, .inr (.inl (fun _ => 0)))) := gq e9 rfl
  have q_58 : gA w9 58 (f2w_forth, .inl (k_f2w_forth, 14, .inr (.inl (fun _ => 0)))) := gq e9 rfl
  have q_59 : gA w9 59 (f2w_back, .inl (k_f2w_back, 14, .inr (.inl (fun _ => 0)))) := gq e9 rfl
  have q_60 : gA w9 60 (f2w_label, .inl (k_f2w_label, 10, .inr (.inl (fun _ => 0)))) := gq e9 rfl
  have q_61 : gA w9 61 (f2w_cause, .inl (k_f2w_cause, 10, .inl (fun _ => 0))) := gq e9 rfl
  have q_62 : gA w9 62 (f2w_seen, .inl (k_f2w_seen, 10, .inl (fun _ => 0))) := gq e9 rfl
  have q_63 : gA w9 63 (f2w_round, .inl (k_f2w_round, 10, .inl (fun _ => 0))) := gq e9 rfl
  have q_64 : gA w9 64 (l2d, .inr (5, [.ref l2d_gas, .int 0, .ref bk, .ref l2d_coming, .ref l2d_waiting, .ref l2d_rest])) := gq e9 rfl
  have q_65 : gA w9 65 (l2d_gas, .inl (k_l2d_gas, 14, .inl (fun _ => 0))) := gq e9 rfl
  have q_66 : gA w9 66 (l2d_coming, .inl (k_l2d_coming, 10, .inl (fun _ => 0))) := gq e9 rfl
  have q_67 : gA w9 67 (l2d_waiting, .inl (k_l2d_waiting, 10, .inl (fun _ => 0))) := gq e9 rfl
  have q_68 : gA w9 68 (l2d_rest, .inl (k_l2d_rest, 14, .inl (fun _ => 0))) := gq e9 rfl
  have q_69 : gA w9 69 (tr, .inr (10, [.int 0, .int 0, .ref bk, .ref st, .ref j2, .ref jd, .ref tr_ranks, .ref tr_keptSpeed])) := gq e9 rfl
  have q_70 : gA w9 70 (tr_ranks, .inl (k_tr_ranks, 256, .inl (fun _ => 0))) := gq e9 rfl
  have q_71 : gA w9 71 (tr_keptSpeed, .inl (k_tr_keptSpeed, 4, .inl (fun _ => 0))) := gq e9 rfl
  have q_72 : gA w9 72 (jd, .inr (4, [.ref fw, .ref ld, .ref bk, .ref st, .int 0, .int 0])) := gq e9 rfl
  have q_73 : gA w9 73 (fw, .inr (2, [.ref fw_air, .ref bk, .ref st, .ref fw_hindrance, .ref fw_pull, .ref fw_droop, .ref fw_forth, .ref fw_back, .ref fw_label, .ref fw_cause, .ref fw_seen, .ref fw_round])) := gq e9 rfl
  have q_74 : gA w9 74 (fw_air, .inl (k_fw_air, 14, .inl (fun _ => 0))) := gq e9 rfl
  have q_75 : gA w9 75 (fw_hindrance, .inl (k_fw_hindrance, 14, .inr (.inl (fun _ => 0)))) := gq e9 rfl
  have q_76 : gA w9 76 (fw_pull, .inl (k_fw_pull, 14, .inr (.inl (fun _ => 0)))) := gq e9 rfl
  have q_77 : gA w9 77 (fw_droop, .inl (k_fw_droop, 14, .inr (.inl (fun _ => 0)))) := gq e9 rfl
  have q_78 : gA w9 78 (fw_forth, .inl (k_fw_forth, 14, .inr (.inl (fun _ => 0)))) := gq e9 rfl
  have q_79 : gA w9 79 (fw_back, .inl (k_fw_back, 14, .inr (.inl (fun _ => 0)))) := gq e9 rfl
  have q_80 : gA w9 80 (fw_label, .inl (k_fw_label, 10, .inr (.inl (fun _ => 0)))) := gq e9 rfl
  have q_81 : gA w9 81 (fw_cause, .inl (k_fw_cause, 10, .inl (fun _ => 0))) := gq e9 rfl
  have q_82 : gA w9 82 (fw_seen, .inl (k_fw_seen, 10, .inl (fun _ => 0))) := gq e9 rfl
  have q_83 : gA w9 83 (fw_round, .inl (k_fw_round, 10, .inl (fun _ => 0))) := gq e9 rfl
  have q_84 : gA w9 84 (ld, .inr (5, [.ref ld_gas, .int 0, .ref bk, .ref ld_coming, .ref ld_waiting, .ref ld_rest])) := gq e9 rfl
  have q_85 : gA w9 85 (ld_gas, .inl (k_ld_gas, 14, .inl (fun _ => 0))) := gq e9 rfl
  have q_86 : gA w9 86 (ld_coming, .inl (k_ld_coming, 10, .inl (fun _ => 0))) := gq e9 rfl
  have q_87 : gA w9 87 (ld_waiting, .inl (k_ld_waiting, 10, .inl (fun _ => 0))) := gq e9 rfl
  have q_88 : gA w9 88 (ld_rest, .inl (k_ld_rest, 14, .inl (fun _ => 0))) := gq e9 rfl
  have q_89 : gA w9 89 (pl, .inr (6, [.int 0, .ref pl_order, .ref st, .ref j2, .ref jd, .ref pl_kind, .ref pl_which, .ref pl_value, .ref pl_soundBy, .int 0, .int 0])) := gq e9 rfl
  have q_90 : gA w9 90 (pl_order, .inl (k_pl_order, 5, .inl (fun _ => 0))) := gq e9 rfl
  have q_91 : gA w9 91 (pl_kind, .inl (k_pl_kind, 5, .inl (fun _ => 0))) := gq e9 rfl
  have q_92 : gA w9 92 (pl_which, .inl (k_pl_which, 5, .inl (fun _ => 0))) := gq e9 rfl
  have q_93 : gA w9 93 (pl_value, .inl (k_pl_value, 5, .inl (fun _ => 0))) := gq e9 rfl
  have q_94 : gA w9 94 (pl_soundBy, .inl (k_pl_soundBy, 32, .inl (fun _ => 0))) := gq e9 rfl
  have q_95 : gA w9 95 (fl, .inr (1, [.int 0, .ref fl_knotOf, .ref fl_smokeAt, .ref fl_reach, .ref fl_route, .ref bk, .ref st, .ref fl_smokeIn])) := gq e9 rfl
  have q_96 : gA w9 96 (fl_knotOf, .inl (k_fl_knotOf, 20, .inl (fun _ => 0))) := gq e9 rfl
  have q_97 : gA w9 97 (fl_smokeAt, .inl (k_fl_smokeAt, 14, .inl (fun _ => 0))) := gq e9 rfl
  have q_98 : gA w9 98 (fl_reach, .inl (k_fl_reach, 10, .inl (fun _ => 0))) := gq e9 rfl
  have q_99 : gA w9 99 (fl_route, .inl (k_fl_route, 11, .inl (fun _ => 0))) := gq e9 rfl
  have q_100 : gA w9 100 (fl_smokeIn, .inl (k_fl_smokeIn, 10, .inl (fun _ => 0))) := gq e9 rfl
  have q_101 : gA w9 101 (rq, .inr (8, [.int 0, .ref rq_way, .ref rq_low, .ref rq_high])) := gq e9 rfl
  have q_102 : gA w9 102 (rq_way, .inl (k_rq_way, 8, .inl (fun _ => 0))) := gq e9 rfl
  have q_103 : gA w9 103 (rq_low, .inl (k_rq_low, 8, .inl (fun _ => 0))) := gq e9 rfl
  have q_104 : gA w9 104 (rq_high, .inl (k_rq_high, 8, .inl (fun _ => 0))) := gq e9 rfl
  obtain ⟨y9, g9, hK1⟩ := gzK (w := ((k_rd_tape, .int) :: (k_rd_names, .long) :: (k_rd_nameKind, .int) :: (k_rd_nameNumber, .int) :: (k_rd_knotNames, .long) :: (k_dr_tail, .int) :: (k_dr_head, .int) :: (k_dr_hinder, .int) :: (k_dr_size, .int) :: (k_dr_walk, .int) :: (k_dr_draught, .int) :: (k_dr_doorIn, .int) :: (k_dr_fanIn, .int) :: (k_dr_faceIn, .int) :: (k_dg_doorBy, .int) :: (k_dg_pairFirst, .int) :: (k_dg_pairSecond, .int) :: (k_dg_fanPush, .int) :: (k_dg_fanFall, .int) :: (k_dg_fanCost, .int) :: (k_dg_faceWay, .int) :: (k_dg_faceGas, .int) :: (k_dg_faceNeed, .int) :: (k_bk_tail, .int) :: (k_bk_head, .int) :: (k_bk_hinder, .int) :: (k_bk_size, .int) :: (k_bk_walk, .int) :: (k_bk_draught, .int) :: (k_bk_doorIn, .int) :: (k_bk_fanIn, .int) :: (k_bk_faceIn, .int) :: (k_gr_doorBy, .int) :: (k_gr_pairFirst, .int) :: (k_gr_pairSecond, .int) :: (k_gr_fanPush, .int) :: (k_gr_fanFall, .int) :: (k_gr_fanCost, .int) :: (k_gr_faceWay, .int) :: (k_gr_faceGas, .int) :: (k_gr_faceNeed, .int) :: (k_st_open, .boolean) :: (k_st_speed, .int) :: (k_st_fallen, .boolean) :: (k_st_fire, .int) :: (k_f2w_air, .int) :: (k_f2w_hindrance, .long) :: (k_f2w_pull, .long) :: (k_f2w_droop, .long) :: (k_f2w_forth, .long) :: (k_f2w_back, .long) :: (k_f2w_label, .long) :: (k_f2w_cause, .int) :: (k_f2w_seen, .int) :: (k_f2w_round, .int) :: (k_l2d_gas, .int) :: (k_l2d_coming, .int) :: (k_l2d_waiting, .int) :: (k_l2d_rest, .int) :: (k_tr_ranks, .int) :: (k_tr_keptSpeed, .int) :: (k_fw_air, .int) :: (k_fw_hindrance, .long) :: (k_fw_pull, .long) :: (k_fw_droop, .long) :: (k_fw_forth, .long) :: (k_fw_back, .long) :: (k_fw_label, .long) :: (k_fw_cause, .int) :: (k_fw_seen, .int) :: (k_fw_round, .int) :: (k_ld_gas, .int) :: (k_ld_coming, .int) :: (k_ld_waiting, .int) :: (k_ld_rest, .int) :: (k_pl_order, .int) :: (k_pl_kind, .int) :: (k_pl_which, .int) :: (k_pl_value, .int) :: (k_pl_soundBy, .int) :: (k_fl_knotOf, .int) :: (k_fl_smokeAt, .int) :: (k_fl_reach, .int) :: (k_fl_route, .int) :: (k_fl_smokeIn, .int) :: (k_rq_way, .int) :: (k_rq_low, .int) :: (k_rq_high, .int) :: [])) hK1
  have p_0 : gA y9 0 (k_rd_tape, .int) := gqK g9 rfl
  have p_1 : gA y9 1 (k_rd_names, .long) := gqK g9 rfl
  have p_2 : gA y9 2 (k_rd_nameKind, .int) := gqK g9 rfl
  have p_3 : gA y9 3 (k_rd_nameNumber, .int) := gqK g9 rfl
  have p_4 : gA y9 4 (k_rd_knotNames, .long) := gqK g9 rfl
  have p_5 : gA y9 5 (k_dr_tail, .int) := gqK g9 rfl
  have p_6 : gA y9 6 (k_dr_head, .int) := gqK g9 rfl
  have p_7 : gA y9 7 (k_dr_hinder, .int) := gqK g9 rfl
  have p_8 : gA y9 8 (k_dr_size, .int) := gqK g9 rfl
  have p_9 : gA y9 9 (k_dr_walk, .int) := gqK g9 rfl
  have p_10 : gA y9 10 (k_dr_draught, .int) := gqK g9 rfl
  have p_11 : gA y9 11 (k_dr_doorIn, .int) := gqK g9 rfl
  have p_12 : gA y9 12 (k_dr_fanIn, .int) := gqK g9 rfl
  have p_13 : gA y9 13 (k_dr_faceIn, .int) := gqK g9 rfl
  have p_14 : gA y9 14 (k_dg_doorBy, .int) := gqK g9 rfl
  have p_15 : gA y9 15 (k_dg_pairFirst, .int) := gqK g9 rfl
  have p_16 : gA y9 16 (k_dg_pairSecond, .int) := gqK g9 rfl
  have p_17 : gA y9 17 (k_dg_fanPush, .int) := gqK g9 rfl
  have p_18 : gA y9 18 (k_dg_fanFall, .int) := gqK g9 rfl
  have p_19 : gA y9 19 (k_dg_fanCost, .int) := gqK g9 rfl
  have p_20 : gA y9 20 (k_dg_faceWay, .int) := gqK g9 rfl
  have p_21 : gA y9 21 (k_dg_faceGas, .int) := gqK g9 rfl
  have p_22 : gA y9 22 (k_dg_faceNeed, .int) := gqK g9 rfl
  have p_23 : gA y9 23 (k_bk_tail, .int) := gqK g9 rfl
  have p_24 : gA y9 24 (k_bk_head, .int) := gqK g9 rfl
  have p_25 : gA y9 25 (k_bk_hinder, .int) := gqK g9 rfl
  have p_26 : gA y9 26 (k_bk_size, .int) := gqK g9 rfl
  have p_27 : gA y9 27 (k_bk_walk, .int) := gqK g9 rfl
  have p_28 : gA y9 28 (k_bk_draught, .int) := gqK g9 rfl
  have p_29 : gA y9 29 (k_bk_doorIn, .int) := gqK g9 rfl
  have p_30 : gA y9 30 (k_bk_fanIn, .int) := gqK g9 rfl
  have p_31 : gA y9 31 (k_bk_faceIn, .int) := gqK g9 rfl
  have p_32 : gA y9 32 (k_gr_doorBy, .int) := gqK g9 rfl
  have p_33 : gA y9 33 (k_gr_pairFirst, .int) := gqK g9 rfl
  have p_34 : gA y9 34 (k_gr_pairSecond, .int) := gqK g9 rfl
  have p_35 : gA y9 35 (k_gr_fanPush, .int) := gqK g9 rfl
  have p_36 : gA y9 36 (k_gr_fanFall, .int) := gqK g9 rfl
  have p_37 : gA y9 37 (k_gr_fanCost, .int) := gqK g9 rfl
  have p_38 : gA y9 38 (k_gr_faceWay, .int) := gqK g9 rfl
  have p_39 : gA y9 39 (k_gr_faceGas, .int) := gqK g9 rfl
  have p_40 : gA y9 40 (k_gr_faceNeed, .int) := gqK g9 rfl
  have p_41 : gA y9 41 (k_st_open, .boolean) := gqK g9 rfl
  have p_42 : gA y9 42 (k_st_speed, .int) := gqK g9 rfl
  have p_43 : gA y9 43 (k_st_fallen, .boolean) := gqK g9 rfl
  have p_44 : gA y9 44 (k_st_fire, .int) := gqK g9 rfl
  have p_45 : gA y9 45 (k_f2w_air, .int) := gqK g9 rfl
  have p_46 : gA y9 46 (k_f2w_hindrance, .long) := gqK g9 rfl
  have p_47 : gA y9 47 (k_f2w_pull, .long) := gqK g9 rfl
  have p_48 : gA y9 48 (k_f2w_droop, .long) := gqK g9 rfl
  have p_49 : gA y9 49 (k_f2w_forth, .long) := gqK g9 rfl
  have p_50 : gA y9 50 (k_f2w_back, .long) := gqK g9 rfl
  have p_51 : gA y9 51 (k_f2w_label, .long) := gqK g9 rfl
  have p_52 : gA y9 52 (k_f2w_cause, .int) := gqK g9 rfl
  have p_53 : gA y9 53 (k_f2w_seen, .int) := gqK g9 rfl
  have p_54 : gA y9 54 (k_f2w_round, .int) := gqK g9 rfl
  have p_55 : gA y9 55 (k_l2d_gas, .int) := gqK g9 rfl
  have p_56 : gA y9 56 (k_l2d_coming, .int) := gqK g9 rfl
  have p_57 : gA y9 57 (k_l2d_waiting, .int) := gqK g9 rfl
  have p_58 : gA y9 58 (k_l2d_rest, .int) := gqK g9 rfl
  have p_59 : gA y9 59 (k_tr_ranks, .int) := gqK g9 rfl
  have p_60 : gA y9 60 (k_tr_keptSpeed, .int) := gqK g9 rfl
  have p_61 : gA y9 61 (k_fw_air, .int) := gqK g9 rfl
  have p_62 : gA y9 62 (k_fw_hindrance, .long) := gqK g9 rfl
  have p_63 : gA y9 63 (k_fw_pull, .long) := gqK g9 rfl
  have p_64 : gA y9 64 (k_fw_droop, .long) := gqK g9 rfl
  have p_65 : gA y9 65 (k_fw_forth, .long) := gqK g9 rfl
  have p_66 : gA y9 66 (k_fw_back, .long) := gqK g9 rfl
  have p_67 : gA y9 67 (k_fw_label, .long) := gqK g9 rfl
  have p_68 : gA y9 68 (k_fw_cause, .int) := gqK g9 rfl
  have p_69 : gA y9 69 (k_fw_seen, .int) := gqK g9 rfl
  have p_70 : gA y9 70 (k_fw_round, .int) := gqK g9 rfl
  have p_71 : gA y9 71 (k_ld_gas, .int) := gqK g9 rfl
  have p_72 : gA y9 72 (k_ld_coming, .int) := gqK g9 rfl
  have p_73 : gA y9 73 (k_ld_waiting, .int) := gqK g9 rfl
  have p_74 : gA y9 74 (k_ld_rest, .int) := gqK g9 rfl
  have p_75 : gA y9 75 (k_pl_order, .int) := gqK g9 rfl
  have p_76 : gA y9 76 (k_pl_kind, .int) := gqK g9 rfl
  have p_77 : gA y9 77 (k_pl_which, .int) := gqK g9 rfl
  have p_78 : gA y9 78 (k_pl_value, .int) := gqK g9 rfl
  have p_79 : gA y9 79 (k_pl_soundBy, .int) := gqK g9 rfl
  have p_80 : gA y9 80 (k_fl_knotOf, .int) := gqK g9 rfl
  have p_81 : gA y9 81 (k_fl_smokeAt, .int) := gqK g9 rfl
  have p_82 : gA y9 82 (k_fl_reach, .int) := gqK g9 rfl
  have p_83 : gA y9 83 (k_fl_route, .int) := gqK g9 rfl
  have p_84 : gA y9 84 (k_fl_smokeIn, .int) := gqK g9 rfl
  have p_85 : gA y9 85 (k_rq_way, .int) := gqK g9 rfl
  have p_86 : gA y9 86 (k_rq_low, .int) := gqK g9 rfl
  have p_87 : gA y9 87 (k_rq_high, .int) := gqK g9 rfl
  obtain ⟨wa, ea, hPa, hDa⟩ := gz (w := ((x0, .inr (11, [.ref rd, .ref dr, .ref bk, .ref st, .ref j2, .ref tr, .ref pl, .ref fl, .ref rq, .int 0, .int 0, .int 0])) :: (rd, .inr (7, [.ref rd_tape, .int 0, .int 0, .int 0, .ref dr, .ref rd_names, .ref rd_nameKind, .ref rd_nameNumber, .int 0, .ref rd_knotNames, .int 0, .int 0, .int 0, .int 0, .long 0])) :: (dr, .inr (0, [.int 0, .ref dr_tail, .ref dr_head, .ref dr_hinder, .ref dr_size, .ref dr_walk, .ref dr_draught, .ref dr_doorIn, .ref dr_fanIn, .ref dr_faceIn, .int 0, .int (-1), .ref dg])) :: (dg, .inr (3, [.int 0, .ref dg_doorBy, .int 0, .ref dg_pairFirst, .ref dg_pairSecond, .int 0, .ref dg_fanPush, .ref dg_fanFall, .ref dg_fanCost, .int 0, .ref dg_faceWay, .ref dg_faceGas, .ref dg_faceNeed])) :: (bk, .inr (0, [.int 0, .ref bk_tail, .ref bk_head, .ref bk_hinder, .ref bk_size, .ref bk_walk, .ref bk_draught, .ref bk_doorIn, .ref bk_fanIn, .ref bk_faceIn, .int 0, .int (-1), .ref gr])) :: (gr, .inr (3, [.int 0, .ref gr_doorBy, .int 0, .ref gr_pairFirst, .ref gr_pairSecond, .int 0, .ref gr_fanPush, .ref gr_fanFall, .ref gr_fanCost, .int 0, .ref gr_faceWay, .ref gr_faceGas, .ref gr_faceNeed])) :: (st, .inr (9, [.ref st_open, .ref st_speed, .ref st_fallen, .ref st_fire, .int 10, .int (-1), .int 0, .ref bk])) :: (j2, .inr (4, [.ref f2w, .ref l2d, .ref bk, .ref st, .int 0, .int 0])) :: (f2w, .inr (2, [.ref f2w_air, .ref bk, .ref st, .ref f2w_hindrance, .ref f2w_pull, .ref f2w_droop, .ref f2w_forth, .ref f2w_back, .ref f2w_label, .ref f2w_cause, .ref f2w_seen, .ref f2w_round])) :: (l2d, .inr (5, [.ref l2d_gas, .int 0, .ref bk, .ref l2d_coming, .ref l2d_waiting, .ref l2d_rest])) :: (tr, .inr (10, [.int 0, .int 0, .ref bk, .ref st, .ref j2, .ref jd, .ref tr_ranks, .ref tr_keptSpeed])) :: (jd, .inr (4, [.ref fw, .ref ld, .ref bk, .ref st, .int 0, .int 0])) :: (fw, .inr (2, [.ref fw_air, .ref bk, .ref st, .ref fw_hindrance, .ref fw_pull, .ref fw_droop, .ref fw_forth, .ref fw_back, .ref fw_label, .ref fw_cause, .ref fw_seen, .ref fw_round])) :: (ld, .inr (5, [.ref ld_gas, .int 0, .ref bk, .ref ld_coming, .ref ld_waiting, .ref ld_rest])) :: (pl, .inr (6, [.int 0, .ref pl_order, .ref st, .ref j2, .ref jd, .ref pl_kind, .ref pl_which, .ref pl_value, .ref pl_soundBy, .int 0, .int 0])) :: (fl, .inr (1, [.int 0, .ref fl_knotOf, .ref fl_smokeAt, .ref fl_reach, .ref fl_route, .ref bk, .ref st, .ref fl_smokeIn])) :: (rq, .inr (8, [.int 0, .ref rq_way, .ref rq_low, .ref rq_high])) :: (rd_tape, .inl (k_rd_tape, 600, .inl (fun _ => 0))) :: (rd_names, .inl (k_rd_names, 28, .inr (.inl (fun _ => 0)))) :: (rd_nameKind, .inl (k_rd_nameKind, 28, .inl (fun _ => 0))) :: (rd_nameNumber, .inl (k_rd_nameNumber, 28, .inl (fun _ => 0))) :: (rd_knotNames, .inl (k_rd_knotNames, 10, .inr (.inl (fun _ => 0)))) :: (dr_tail, .inl (k_dr_tail, 14, .inl (fun _ => 0))) :: (dr_head, .inl (k_dr_head, 14, .inl (fun _ => 0))) :: (dr_hinder, .inl (k_dr_hinder, 14, .inl (fun _ => 0))) :: (dr_size, .inl (k_dr_size, 14, .inl (fun _ => 0))) :: (dr_walk, .inl (k_dr_walk, 14, .inl (fun _ => 0))) :: (dr_draught, .inl (k_dr_draught, 14, .inl (fun _ => 0))) :: (dr_doorIn, .inl (k_dr_doorIn, 14, .inl (fun _ => 0))) :: (dr_fanIn, .inl (k_dr_fanIn, 14, .inl (fun _ => 0))) :: (dr_faceIn, .inl (k_dr_faceIn, 14, .inl (fun _ => 0))) :: (dg_doorBy, .inl (k_dg_doorBy, 6, .inl (fun _ => 0))) :: (dg_pairFirst, .inl (k_dg_pairFirst, 3, .inl (fun _ => 0))) :: (dg_pairSecond, .inl (k_dg_pairSecond, 3, .inl (fun _ => 0))) :: (dg_fanPush, .inl (k_dg_fanPush, 4, .inl (fun _ => 0))) :: (dg_fanFall, .inl (k_dg_fanFall, 4, .inl (fun _ => 0))) :: (dg_fanCost, .inl (k_dg_fanCost, 4, .inl (fun _ => 0))) :: (dg_faceWay, .inl (k_dg_faceWay, 4, .inl (fun _ => 0))) :: (dg_faceGas, .inl (k_dg_faceGas, 4, .inl (fun _ => 0))) :: (dg_faceNeed, .inl (k_dg_faceNeed, 4, .inl (fun _ => 0))) :: (bk_tail, .inl (k_bk_tail, 14, .inl (fun _ => 0))) :: (bk_head, .inl (k_bk_head, 14, .inl (fun _ => 0))) :: (bk_hinder, .inl (k_bk_hinder, 14, .inl (fun _ => 0))) :: (bk_size, .inl (k_bk_size, 14, .inl (fun _ => 0))) :: (bk_walk, .inl (k_bk_walk, 14, .inl (fun _ => 0))) :: (bk_draught, .inl (k_bk_draught, 14, .inl (fun _ => 0))) :: (bk_doorIn, .inl (k_bk_doorIn, 14, .inl (fun _ => 0))) :: (bk_fanIn, .inl (k_bk_fanIn, 14, .inl (fun _ => 0))) :: (bk_faceIn, .inl (k_bk_faceIn, 14, .inl (fun _ => 0))) :: (gr_doorBy, .inl (k_gr_doorBy, 6, .inl (fun _ => 0))) :: (gr_pairFirst, .inl (k_gr_pairFirst, 3, .inl (fun _ => 0))) :: (gr_pairSecond, .inl (k_gr_pairSecond, 3, .inl (fun _ => 0))) :: (gr_fanPush, .inl (k_gr_fanPush, 4, .inl (fun _ => 0))) :: (gr_fanFall, .inl (k_gr_fanFall, 4, .inl (fun _ => 0))) :: (gr_fanCost, .inl (k_gr_fanCost, 4, .inl (fun _ => 0))) :: (gr_faceWay, .inl (k_gr_faceWay, 4, .inl (fun _ => 0))) :: (gr_faceGas, .inl (k_gr_faceGas, 4, .inl (fun _ => 0))) :: (gr_faceNeed, .inl (k_gr_faceNeed, 4, .inl (fun _ => 0))) :: (st_open, .inl (k_st_open, 6, .inl op9)) :: (st_speed, .inl (k_st_speed, 4, .inl sp9)) :: (st_fallen, .inl (k_st_fallen, 14, .inl fa9)) :: (st_fire, .inl (k_st_fire, 14, .inl fi9)) :: (f2w_air, .inl (k_f2w_air, 14, .inl (fun _ => 0))) :: (f2w_hindrance, .inl (k_f2w_hindrance, 14, .inr (.inl (fun _ => 0)))) :: (f2w_pull, .inl (k_f2w_pull, 14, .inr (.inl (fun _ => 0)))) :: (f2w_droop, .inl (k_f2w_droop, 14, .inr (.inl (fun _ => 0)))) :: (f2w_forth, .inl (k_f2w_forth, 14, .inr (.inl (fun _ => 0)))) :: (f2w_back, .inl (k_f2w_back, 14, .inr (.inl (fun _ => 0)))) :: (f2w_label, .inl (k_f2w_label, 10, .inr (.inl (fun _ => 0)))) :: (f2w_cause, .inl (k_f2w_cause, 10, .inl (fun _ => 0))) :: (f2w_seen, .inl (k_f2w_seen, 10, .inl (fun _ => 0))) :: (f2w_round, .inl (k_f2w_round, 10, .inl (fun _ => 0))) :: (l2d_gas, .inl (k_l2d_gas, 14, .inl (fun _ => 0))) :: (l2d_coming, .inl (k_l2d_coming, 10, .inl (fun _ => 0))) :: (l2d_waiting, .inl (k_l2d_waiting, 10, .inl (fun _ => 0))) :: (l2d_rest, .inl (k_l2d_rest, 14, .inl (fun _ => 0))) :: (tr_ranks, .inl (k_tr_ranks, 256, .inl (fun _ => 0))) :: (tr_keptSpeed, .inl (k_tr_keptSpeed, 4, .inl (fun _ => 0))) :: (fw_air, .inl (k_fw_air, 14, .inl (fun _ => 0))) :: (fw_hindrance, .inl (k_fw_hindrance, 14, .inr (.inl (fun _ => 0)))) :: (fw_pull, .inl (k_fw_pull, 14, .inr (.inl (fun _ => 0)))) :: (fw_droop, .inl (k_fw_droop, 14, .inr (.inl (fun _ => 0)))) :: (fw_forth, .inl (k_fw_forth, 14, .inr (.inl (fun _ => 0)))) :: (fw_back, .inl (k_fw_back, 14, .inr (.inl (fun _ => 0)))) :: (fw_label, .inl (k_fw_label, 10, .inr (.inl (fun _ => 0)))) :: (fw_cause, .inl (k_fw_cause, 10, .inl (fun _ => 0))) :: (fw_seen, .inl (k_fw_seen, 10, .inl (fun _ => 0))) :: (fw_round, .inl (k_fw_round, 10, .inl (fun _ => 0))) :: (ld_gas, .inl (k_ld_gas, 14, .inl (fun _ => 0))) :: (ld_coming, .inl (k_ld_coming, 10, .inl (fun _ => 0))) :: (ld_waiting, .inl (k_ld_waiting, 10, .inl (fun _ => 0))) :: (ld_rest, .inl (k_ld_rest, 14, .inl (fun _ => 0))) :: (pl_order, .inl (k_pl_order, 5, .inl (fun _ => 0))) :: (pl_kind, .inl (k_pl_kind, 5, .inl (fun _ => 0))) :: (pl_which, .inl (k_pl_which, 5, .inl (fun _ => 0))) :: (pl_value, .inl (k_pl_value, 5, .inl (fun _ => 0))) :: (pl_soundBy, .inl (k_pl_soundBy, 32, .inl (fun _ => 0))) :: (fl_knotOf, .inl (k_fl_knotOf, 20, .inl (fun _ => 0))) :: (fl_smokeAt, .inl (k_fl_smokeAt, 14, .inl (fun _ => 0))) :: (fl_reach, .inl (k_fl_reach, 10, .inl (fun _ => 0))) :: (fl_route, .inl (k_fl_route, 11, .inl (fun _ => 0))) :: (fl_smokeIn, .inl (k_fl_smokeIn, 10, .inl (fun _ => 0))) :: (rq_way, .inl (k_rq_way, 8, .inl (fun _ => 0))) :: (rq_low, .inl (k_rq_low, 8, .inl (fun _ => 0))) :: (rq_high, .inl (k_rq_high, 8, .inl (fun _ => 0))) :: [])) (hP1.sub (0 :: 1 :: 7 :: 17 :: 27 :: 37 :: 47 :: 52 :: 53 :: 64 :: 69 :: 72 :: 73 :: 84 :: 89 :: 95 :: 101 :: 2 :: 3 :: 4 :: 5 :: 6 :: 8 :: 9 :: 10 :: 11 :: 12 :: 13 :: 14 :: 15 :: 16 :: 18 :: 19 :: 20 :: 21 :: 22 :: 23 :: 24 :: 25 :: 26 :: 28 :: 29 :: 30 :: 31 :: 32 :: 33 :: 34 :: 35 :: 36 :: 38 :: 39 :: 40 :: 41 :: 42 :: 43 :: 44 :: 45 :: 46 :: 48 :: 49 :: 50 :: 51 :: 54 :: 55 :: 56 :: 57 :: 58 :: 59 :: 60 :: 61 :: 62 :: 63 :: 65 :: 66 :: 67 :: 68 :: 70 :: 71 :: 74 :: 75 :: 76 :: 77 :: 78 :: 79 :: 80 :: 81 :: 82 :: 83 :: 85 :: 86 :: 87 :: 88 :: 90 :: 91 :: 92 :: 93 :: 94 :: 96 :: 97 :: 98 :: 99 :: 100 :: 102 :: 103 :: 104 :: []) (fm_of (pk_k q_0 (pk_k q_1 (pk_k q_7 (pk_k q_17 (pk_k q_27 (pk_k q_37 (pk_k q_47 (pk_k q_52 (pk_k q_53 (pk_k q_64 (pk_k q_69 (pk_k q_72 (pk_k q_73 (pk_k q_84 (pk_k q_89 (pk_k q_95 (pk_k q_101 (pk_k q_2 (pk_k q_3 (pk_k q_4 (pk_k q_5 (pk_k q_6 (pk_k q_8 (pk_k q_9 (pk_k q_10 (pk_k q_11 (pk_k q_12 (pk_k q_13 (pk_k q_14 (pk_k q_15 (pk_k q_16 (pk_k q_18 (pk_k q_19 (pk_k q_20 (pk_k q_21 (pk_k q_22 (pk_k q_23 (pk_k q_24 (pk_k q_25 (pk_k q_26 (pk_k q_28 (pk_k q_29 (pk_k q_30 (pk_k q_31 (pk_k q_32 (pk_k q_33 (pk_k q_34 (pk_k q_35 (pk_k q_36 (pk_k q_38 (pk_k q_39 (pk_k q_40 (pk_k q_41 (pk_k q_42 (pk_k q_43 (pk_k q_44 (pk_k q_45 (pk_k q_46 (pk_k q_48 (pk_k q_49 (pk_k q_50 (pk_k q_51 (pk_k q_54 (pk_k q_55 (pk_k q_56 (pk_k q_57 (pk_k q_58 (pk_k q_59 (pk_k q_60 (pk_k q_61 (pk_k q_62 (pk_k q_63 (pk_k q_65 (pk_k q_66 (pk_k q_67 (pk_k q_68 (pk_k q_70 (pk_k q_71 (pk_k q_74 (pk_k q_75 (pk_k q_76 (pk_k q_77 (pk_k q_78 (pk_k q_79 (pk_k q_80 (pk_k q_81 (pk_k q_82 (pk_k q_83 (pk_k q_85 (pk_k q_86 (pk_k q_87 (pk_k q_88 (pk_k q_90 (pk_k q_91 (pk_k q_92 (pk_k q_93 (pk_k q_94 (pk_k q_96 (pk_k q_97 (pk_k q_98 (pk_k q_99 (pk_k q_100 (pk_k q_102 (pk_k q_103 (pk_k q_104 (pk_n)))))))))))))))))))))))))))))))))))))))))))))))))))))))))))))))))))))))))))))))))))))))))))))))))))))))))))) (hD1.sub (0 :: 1 :: 7 :: 17 :: 27 :: 37 :: 47 :: 52 :: 53 :: 64 :: 69 :: 72 :: 73 :: 84 :: 89 :: 95 :: 101 :: 2 :: 3 :: 4 :: 5 :: 6 :: 8 :: 9 :: 10 :: 11 :: 12 :: 13 :: 14 :: 15 :: 16 :: 18 :: 19 :: 20 :: 21 :: 22 :: 23 :: 24 :: 25 :: 26 :: 28 :: 29 :: 30 :: 31 :: 32 :: 33 :: 34 :: 35 :: 36 :: 38 :: 39 :: 40 :: 41 :: 42 :: 43 :: 44 :: 45 :: 46 :: 48 :: 49 :: 50 :: 51 :: 54 :: 55 :: 56 :: 57 :: 58 :: 59 :: 60 :: 61 :: 62 :: 63 :: 65 :: 66 :: 67 :: 68 :: 70 :: 71 :: 74 :: 75 :: 76 :: 77 :: 78 :: 79 :: 80 :: 81 :: 82 :: 83 :: 85 :: 86 :: 87 :: 88 :: 90 :: 91 :: 92 :: 93 :: 94 :: 96 :: 97 :: 98 :: 99 :: 100 :: 102 :: 103 :: 104 :: []) (by decide +kernel) (pk_k q_0 (pk_k q_1 (pk_k q_7 (pk_k q_17 (pk_k q_27 (pk_k q_37 (pk_k q_47 (pk_k q_52 (pk_k q_53 (pk_k q_64 (pk_k q_69 (pk_k q_72 (pk_k q_73 (pk_k q_84 (pk_k q_89 (pk_k q_95 (pk_k q_101 (pk_k q_2 (pk_k q_3 (pk_k q_4 (pk_k q_5 (pk_k q_6 (pk_k q_8 (pk_k q_9 (pk_k q_10 (pk_k q_11 (pk_k q_12 (pk_k q_13 (pk_k q_14 (pk_k q_15 (pk_k q_16 (pk_k q_18 (pk_k q_19 (pk_k q_20 (pk_k q_21 (pk_k q_22 (pk_k q_23 (pk_k q_24 (pk_k q_25 (pk_k q_26 (pk_k q_28 (pk_k q_29 (pk_k q_30 (pk_k q_31 (pk_k q_32 (pk_k q_33 (pk_k q_34 (pk_k q_35 (pk_k q_36 (pk_k q_38 (pk_k q_39 (pk_k q_40 (pk_k q_41 (pk_k q_42 (pk_k q_43 (pk_k q_44 (pk_k q_45 (pk_k q_46 (pk_k q_48 (pk_k q_49 (pk_k q_50 (pk_k q_51 (pk_k q_54 (pk_k q_55 (pk_k q_56 (pk_k q_57 (pk_k q_58 (pk_k q_59 (pk_k q_60 (pk_k q_61 (pk_k q_62 (pk_k q_63 (pk_k q_65 (pk_k q_66 (pk_k q_67 (pk_k q_68 (pk_k q_70 (pk_k q_71 (pk_k q_74 (pk_k q_75 (pk_k q_76 (pk_k q_77 (pk_k q_78 (pk_k q_79 (pk_k q_80 (pk_k q_81 (pk_k q_82 (pk_k q_83 (pk_k q_85 (pk_k q_86 (pk_k q_87 (pk_k q_88 (pk_k q_90 (pk_k q_91 (pk_k q_92 (pk_k q_93 (pk_k q_94 (pk_k q_96 (pk_k q_97 (pk_k q_98 (pk_k q_99 (pk_k q_100 (pk_k q_102 (pk_k q_103 (pk_k q_104 (pk_n)))))))))))))))))))))))))))))))))))))))))))))))))))))))))))))))))))))))))))))))))))))))))))))))))))))))))))
  obtain ⟨ta, fa, hKa⟩ := gzK (w := ((k_rd_tape, .int) :: (k_rd_names, .long) :: (k_rd_nameKind, .int) :: (k_rd_nameNumber, .int) :: (k_rd_knotNames, .long) :: (k_dr_tail, .int) :: (k_dr_head, .int) :: (k_dr_hinder, .int) :: (k_dr_size, .int) :: (k_dr_walk, .int) :: (k_dr_draught, .int) :: (k_dr_doorIn, .int) :: (k_dr_fanIn, .int) :: (k_dr_faceIn, .int) :: (k_dg_doorBy, .int) :: (k_dg_pairFirst, .int) :: (k_dg_pairSecond, .int) :: (k_dg_fanPush, .int) :: (k_dg_fanFall, .int) :: (k_dg_fanCost, .int) :: (k_dg_faceWay, .int) :: (k_dg_faceGas, .int) :: (k_dg_faceNeed, .int) :: (k_bk_tail, .int) :: (k_bk_head, .int) :: (k_bk_hinder, .int) :: (k_bk_size, .int) :: (k_bk_walk, .int) :: (k_bk_draught, .int) :: (k_bk_doorIn, .int) :: (k_bk_fanIn, .int) :: (k_bk_faceIn, .int) :: (k_gr_doorBy, .int) :: (k_gr_pairFirst, .int) :: (k_gr_pairSecond, .int) :: (k_gr_fanPush, .int) :: (k_gr_fanFall, .int) :: (k_gr_fanCost, .int) :: (k_gr_faceWay, .int) :: (k_gr_faceGas, .int) :: (k_gr_faceNeed, .int) :: (k_st_open, .boolean) :: (k_st_speed, .int) :: (k_st_fallen, .boolean) :: (k_st_fire, .int) :: (k_f2w_air, .int) :: (k_f2w_hindrance, .long) :: (k_f2w_pull, .long) :: (k_f2w_droop, .long) :: (k_f2w_forth, .long) :: (k_f2w_back, .long) :: (k_f2w_label, .long) :: (k_f2w_cause, .int) :: (k_f2w_seen, .int) :: (k_f2w_round, .int) :: (k_l2d_gas, .int) :: (k_l2d_coming, .int) :: (k_l2d_waiting, .int) :: (k_l2d_rest, .int) :: (k_tr_ranks, .int) :: (k_tr_keptSpeed, .int) :: (k_fw_air, .int) :: (k_fw_hindrance, .long) :: (k_fw_pull, .long) :: (k_fw_droop, .long) :: (k_fw_forth, .long) :: (k_fw_back, .long) :: (k_fw_label, .long) :: (k_fw_cause, .int) :: (k_fw_seen, .int) :: (k_fw_round, .int) :: (k_ld_gas, .int) :: (k_ld_coming, .int) :: (k_ld_waiting, .int) :: (k_ld_rest, .int) :: (k_pl_order, .int) :: (k_pl_kind, .int) :: (k_pl_which, .int) :: (k_pl_value, .int) :: (k_pl_soundBy, .int) :: (k_fl_knotOf, .int) :: (k_fl_smokeAt, .int) :: (k_fl_reach, .int) :: (k_fl_route, .int) :: (k_fl_smokeIn, .int) :: (k_rq_way, .int) :: (k_rq_low, .int) :: (k_rq_high, .int) :: [])) (hK1.sub (0 :: 1 :: 2 :: 3 :: 4 :: 5 :: 6 :: 7 :: 8 :: 9 :: 10 :: 11 :: 12 :: 13 :: 14 :: 15 :: 16 :: 17 :: 18 :: 19 :: 20 :: 21 :: 22 :: 23 :: 24 :: 25 :: 26 :: 27 :: 28 :: 29 :: 30 :: 31 :: 32 :: 33 :: 34 :: 35 :: 36 :: 37 :: 38 :: 39 :: 40 :: 41 :: 42 :: 43 :: 44 :: 45 :: 46 :: 47 :: 48 :: 49 :: 50 :: 51 :: 52 :: 53 :: 54 :: 55 :: 56 :: 57 :: 58 :: 59 :: 60 :: 61 :: 62 :: 63 :: 64 :: 65 :: 66 :: 67 :: 68 :: 69 :: 70 :: 71 :: 72 :: 73 :: 74 :: 75 :: 76 :: 77 :: 78 :: 79 :: 80 :: 81 :: 82 :: 83 :: 84 :: 85 :: 86 :: 87 :: []) (fm_of (pk_k p_0 (pk_k p_1 (pk_k p_2 (pk_k p_3 (pk_k p_4 (pk_k p_5 (pk_k p_6 (pk_k p_7 (pk_k p_8 (pk_k p_9 (pk_k p_10 (pk_k p_11 (pk_k p_12 (pk_k p_13 (pk_k p_14 (pk_k p_15 (pk_k p_16 (pk_k p_17 (pk_k p_18 (pk_k p_19 (pk_k p_20 (pk_k p_21 (pk_k p_22 (pk_k p_23 (pk_k p_24 (pk_k p_25 (pk_k p_26 (pk_k p_27 (pk_k p_28 (pk_k p_29 (pk_k p_30 (pk_k p_31 (pk_k p_32 (pk_k p_33 (pk_k p_34 (pk_k p_35 (pk_k p_36 (pk_k p_37 (pk_k p_38 (pk_k p_39 (pk_k p_40 (pk_k p_41 (pk_k p_42 (pk_k p_43 (pk_k p_44 (pk_k p_45 (pk_k p_46 (pk_k p_47 (pk_k p_48 (pk_k p_49 (pk_k p_50 (pk_k p_51 (pk_k p_52 (pk_k p_53 (pk_k p_54 (pk_k p_55 (pk_k p_56 (pk_k p_57 (pk_k p_58 (pk_k p_59 (pk_k p_60 (pk_k p_61 (pk_k p_62 (pk_k p_63 (pk_k p_64 (pk_k p_65 (pk_k p_66 (pk_k p_67 (pk_k p_68 (pk_k p_69 (pk_k p_70 (pk_k p_71 (pk_k p_72 (pk_k p_73 (pk_k p_74 (pk_k p_75 (pk_k p_76 (pk_k p_77 (pk_k p_78 (pk_k p_79 (pk_k p_80 (pk_k p_81 (pk_k p_82 (pk_k p_83 (pk_k p_84 (pk_k p_85 (pk_k p_86 (pk_k p_87 (pk_n)))))))))))))))))))))))))))))))))))))))))))))))))))))))))))))))))))))))))))))))))))))))))))
  have r_0 : gA wa 0 (x0, .inr (11, [.ref rd, .ref dr, .ref bk, .ref st, .ref j2, .ref tr, .ref pl, .ref fl, .ref rq, .int 0, .int 0, .int 0])) := gq ea rfl
  have r_1 : gA wa 1 (rd, .inr (7, [.ref rd_tape, .int 0, .int 0, .int 0, .ref dr, .ref rd_names, .ref rd_nameKind, .ref rd_nameNumber, .int 0, .ref rd_knotNames, .int 0, .int 0, .int 0, .int 0, .long 0])) := gq ea rfl
  have r_2 : gA wa 2 (dr, .inr (0, [.int 0, .ref dr_tail, .ref dr_head, .ref dr_hinder, .ref dr_size, .ref dr_walk, .ref dr_draught, .ref dr_doorIn, .ref dr_fanIn, .ref dr_faceIn, .int 0, .int (-1), .ref dg])) := gq ea rfl
  have r_3 : gA wa 3 (dg, .inr (3, [.int 0, .ref dg_doorBy, .int 0, .ref dg_pairFirst, .ref dg_pairSecond, .int 0, .ref dg_fanPush, .ref dg_fanFall, .ref dg_fanCost, .int 0, .ref dg_faceWay, .ref dg_faceGas, .ref dg_faceNeed])) := gq ea rfl
  have r_4 : gA wa 4 (bk, .inr (0, [.int 0, .ref bk_tail, .ref bk_head, .ref bk_hinder, .ref bk_size, .ref bk_walk, .ref bk_draught, .ref bk_doorIn, .ref bk_fanIn, .ref bk_faceIn, .int 0, .int (-1), .ref gr])) := gq ea rfl
  have r_5 : gA wa 5 (gr, .inr (3, [.int 0, .ref gr_doorBy, .int 0, .ref gr_pairFirst, .ref gr_pairSecond, .int 0, .ref gr_fanPush, .ref gr_fanFall, .ref gr_fanCost, .int 0, .ref gr_faceWay, .ref gr_faceGas, .ref gr_faceNeed])) := gq ea rfl
  have r_6 : gA wa 6 (st, .inr (9, [.ref st_open, .ref st_speed, .ref st_fallen, .ref st_fire, .int 10, .int (-1), .int 0, .ref bk])) := gq ea rfl
  have r_7 : gA wa 7 (j2, .inr (4, [.ref f2w, .ref l2d, .ref bk, .ref st, .int 0, .int 0])) := gq ea rfl
  have r_8 : gA wa 8 (f2w, .inr (2, [.ref f2w_air, .ref bk, .ref st, .ref f2w_hindrance, .ref f2w_pull, .ref f2w_droop, .ref f2w_forth, .ref f2w_back, .ref f2w_label, .ref f2w_cause, .ref f2w_seen, .ref f2w_round])) := gq ea rfl
  have r_9 : gA wa 9 (l2d, .inr (5, [.ref l2d_gas, .int 0, .ref bk, .ref l2d_coming, .ref l2d_waiting, .ref l2d_rest])) := gq ea rfl
  have r_10 : gA wa 10 (tr, .inr (10, [.int 0, .int 0, .ref bk, .ref st, .ref j2, .ref jd, .ref tr_ranks, .ref tr_keptSpeed])) := gq ea rfl
  have r_11 : gA wa 11 (jd, .inr (4, [.ref fw, .ref ld, .ref bk, .ref st, .int 0, .int 0])) := gq ea rfl
  have r_12 : gA wa 12 (fw, .inr (2, [.ref fw_air, .ref bk, .ref st, .ref fw_hindrance, .ref fw_pull, .ref fw_droop, .ref fw_forth, .ref fw_back, .ref fw_label, .ref fw_cause, .ref fw_seen, .ref fw_round])) := gq ea rfl
  have r_13 : gA wa 13 (ld, .inr (5, [.ref ld_gas, .int 0, .ref bk, .ref ld_coming, .ref ld_waiting, .ref ld_rest])) := gq ea rfl
  have r_14 : gA wa 14 (pl, .inr (6, [.int 0, .ref pl_order, .ref st, .ref j2, .ref jd, .ref pl_kind, .ref pl_which, .ref pl_value, .ref pl_soundBy, .int 0, .int 0])) := gq ea rfl
  have r_15 : gA wa 15 (fl, .inr (1, [.int 0, .ref fl_knotOf, .ref fl_smokeAt, .ref fl_reach, .ref fl_route, .ref bk, .ref st, .ref fl_smokeIn])) := gq ea rfl
  have r_16 : gA wa 16 (rq, .inr (8, [.int 0, .ref rq_way, .ref rq_low, .ref rq_high])) := gq ea rfl
  have r_17 : gA wa 17 (rd_tape, .inl (k_rd_tape, 600, .inl (fun _ => 0))) := gq ea rfl
  have r_18 : gA wa 18 (rd_names, .inl (k_rd_names, 28, .inr (.inl (fun _ => 0)))) := gq ea rfl
  have r_19 : gA wa 19 (rd_nameKind, .inl (k_rd_nameKind, 28, .inl (fun _ => 0))) := gq ea rfl
  have r_20 : gA wa 20 (rd_nameNumber, .inl (k_rd_nameNumber, 28, .inl (fun _ => 0))) := gq ea rfl
  have r_21 : gA wa 21 (rd_knotNames, .inl (k_rd_knotNames, 10, .inr (.inl (fun _ => 0)))) := gq ea rfl
  have r_22 : gA wa 22 (dr_tail, .inl (k_dr_tail, 14, .inl (fun _ => 0))) := gq ea rfl
  have r_23 : gA wa 23 (dr_head, .inl (k_dr_head, 14, .inl (fun _ => 0))) := gq ea rfl
  have r_24 : gA wa 24 (dr_hinder, .inl (k_dr_hinder, 14, .inl (fun _ => 0))) := gq ea rfl
  have r_25 : gA wa 25 (dr_size, .inl (k_dr_size, 14, .inl (fun _ => 0))) := gq ea rfl
  have r_26 : gA wa 26 (dr_walk, .inl (k_dr_walk, 14, .inl (fun _ => 0))) := gq ea rfl
  have r_27 : gA wa 27 (dr_draught, .inl (k_dr_draught, 14, .inl (fun _ => 0))) := gq ea rfl
  have r_28 : gA wa 28 (dr_doorIn, .inl (k_dr_doorIn, 14, .inl (fun _ => 0))) := gq ea rfl
  have r_29 : gA wa 29 (dr_fanIn, .inl (k_dr_fanIn, 14, .inl (fun _ => 0))) := gq ea rfl
  have r_30 : gA wa 30 (dr_faceIn, .inl (k_dr_faceIn, 14, .inl (fun _ => 0))) := gq ea rfl
  have r_31 : gA wa 31 (dg_doorBy, .inl (k_dg_doorBy, 6, .inl (fun _ => 0))) := gq ea rfl
  have r_32 : gA wa 32 (dg_pairFirst, .inl (k_dg_pairFirst, 3, .inl (fun _ => 0))) := gq ea rfl
  have r_33 : gA wa 33 (dg_pairSecond, .inl (k_dg_pairSecond, 3, .inl (fun _ => 0))) := gq ea rfl
  have r_34 : gA wa 34 (dg_fanPush, .inl (k_dg_fanPush, 4, .inl (fun _ => 0))) := gq ea rfl
  have r_35 : gA wa 35 (dg_fanFall, .inl (k_dg_fanFall, 4, .inl (fun _ => 0))) := gq ea rfl
  have r_36 : gA wa 36 (dg_fanCost, .inl (k_dg_fanCost, 4, .inl (fun _ => 0))) := gq ea rfl
  have r_37 : gA wa 37 (dg_faceWay, .inl (k_dg_faceWay, 4, .inl (fun _ => 0))) := gq ea rfl
  have r_38 : gA wa 38 (dg_faceGas, .inl (k_dg_faceGas, 4, .inl (fun _ => 0))) := gq ea rfl
  have r_39 : gA wa 39 (dg_faceNeed, .inl (k_dg_faceNeed, 4, .inl (fun _ => 0))) := gq ea rfl
  have r_40 : gA wa 40 (bk_tail, .inl (k_bk_tail, 14, .inl (fun _ => 0))) := gq ea rfl
  have r_41 : gA wa 41 (bk_head, .inl (k_bk_head, 14, .inl (fun _ => 0))) := gq ea rfl
  have r_42 : gA wa 42 (bk_hinder, .inl (k_bk_hinder, 14, .inl (fun _ => 0))) := gq ea rfl
  have r_43 : gA wa 43 (bk_size, .inl (k_bk_size, 14, .inl (fun _ => 0))) := gq ea rfl
  have r_44 : gA wa 44 (bk_walk, .inl (k_bk_walk, 14, .inl (fun _ => 0))) := gq ea rfl
  have r_45 : gA wa 45 (bk_draught, .inl (k_bk_draught, 14, .inl (fun _ => 0))) := gq ea rfl
  have r_46 : gA wa 46 (bk_doorIn, .inl (k_bk_doorIn, 14, .inl (fun _ => 0))) := gq ea rfl
  have r_47 : gA wa 47 (bk_fanIn, .inl (k_bk_fanIn, 14, .inl (fun _ => 0))) := gq ea rfl
  have r_48 : gA wa 48 (bk_faceIn, .inl (k_bk_faceIn, 14, .inl (fun _ => 0))) := gq ea rfl
  have r_49 : gA wa 49 (gr_doorBy, .inl (k_gr_doorBy, 6, .inl (fun _ => 0))) := gq ea rfl
  have r_50 : gA wa 50 (gr_pairFirst, .inl (k_gr_pairFirst, 3, .inl (fun _ => 0))) := gq ea rfl
  have r_51 : gA wa 51 (gr_pairSecond, .inl (k_gr_pairSecond, 3, .inl (fun _ => 0))) := gq ea rfl
  have r_52 : gA wa 52 (gr_fanPush, .inl (k_gr_fanPush, 4, .inl (fun _ => 0))) := gq ea rfl
  have r_53 : gA wa 53 (gr_fanFall, .inl (k_gr_fanFall, 4, .inl (fun _ => 0))) := gq ea rfl
  have r_54 : gA wa 54 (gr_fanCost, .inl (k_gr_fanCost, 4, .inl (fun _ => 0))) := gq ea rfl
  have r_55 : gA wa 55 (gr_faceWay, .inl (k_gr_faceWay, 4, .inl (fun _ => 0))) := gq ea rfl
  have r_56 : gA wa 56 (gr_faceGas, .inl (k_gr_faceGas, 4, .inl (fun _ => 0))) := gq ea rfl
  have r_57 : gA wa 57 (gr_faceNeed, .inl (k_gr_faceNeed, 4, .inl (fun _ => 0))) := gq ea rfl
  have r_58 : gA wa 58 (st_open, .inl (k_st_open, 6, .inl op9)) := gq ea rfl
  have r_59 : gA wa 59 (st_speed, .inl (k_st_speed, 4, .inl sp9)) := gq ea rfl
  have r_60 : gA wa 60 (st_fallen, .inl (k_st_fallen, 14, .inl fa9)) := gq ea rfl
  have r_61 : gA wa 61 (st_fire, .inl (k_st_fire, 14, .inl fi9)) := gq ea rfl
  have r_62 : gA wa 62 (f2w_air, .inl (k_f2w_air, 14, .inl (fun _ => 0))) := gq ea rfl
  have r_63 : gA wa 63 (f2w_hindrance, .inl (k_f2w_hindrance, 14, .inr (.inl (fun _ => 0)))) := gq ea rfl
  have r_64 : gA wa 64 (f2w_pull, .inl (k_f2w_pull, 14, .inr (.inl (fun _ => 0)))) := gq ea rfl
  have r_65 : gA wa 65 (f2w_droop, .inl (k_f2w_droop, 14, .inr (.inl (fun _ => 0)))) := gq ea rfl
  have r_66 : gA wa 66 (f2w_forth, .inl (k_f2w_forth, 14, .inr (.inl (fun _ => 0)))) := gq ea rfl
  have r_67 : gA wa 67 (f2w_back, .inl (k_f2w_back, 14, .inr (.inl (fun _ => 0)))) := gq ea rfl
  have r_68 : gA wa 68 (f2w_label, .inl (k_f2w_label, 10, .inr (.inl (fun _ => 0)))) := gq ea rfl
  have r_69 : gA wa 69 (f2w_cause, .inl (k_f2w_cause, 10, .inl (fun _ => 0))) := gq ea rfl
  have r_70 : gA wa 70 (f2w_seen, .inl (k_f2w_seen, 10, .inl (fun _ => 0))) := gq ea rfl
  have r_71 : gA wa 71 (f2w_round, .inl (k_f2w_round, 10, .inl (fun _ => 0))) := gq ea rfl
  have r_72 : gA wa 72 (l2d_gas, .inl (k_l2d_gas, 14, .inl (fun _ => 0))) := gq ea rfl
  have r_73 : gA wa 73 (l2d_coming, .inl (k_l2d_coming, 10, .inl (fun _ => 0))) := gq ea rfl
  have r_74 : gA wa 74 (l2d_waiting, .inl (k_l2d_waiting, 10, .inl (fun _ => 0))) := gq ea rfl
  have r_75 : gA wa 75 (l2d_rest, .inl (k_l2d_rest, 14, .inl (fun _ => 0))) := gq ea rfl
  have r_76 : gA wa 76 (tr_ranks, .inl (k_tr_ranks, 256, .inl (fun _ => 0))) := gq ea rfl
  have r_77 : gA wa 77 (tr_keptSpeed, .inl (k_tr_keptSpeed, 4, .inl (fun _ => 0))) := gq ea rfl
  have r_78 : gA wa 78 (fw_air, .inl (k_fw_air, 14, .inl (fun _ => 0))) := gq ea rfl
  have r_79 : gA wa 79 (fw_hindrance, .inl (k_fw_hindrance, 14, .inr (.inl (fun _ => 0)))) := gq ea rfl
  have r_80 : gA wa 80 (fw_pull, .inl (k_fw_pull, 14, .inr (.inl (fun _ => 0)))) := gq ea rfl
  have r_81 : gA wa 81 (fw_droop, .inl (k_fw_droop, 14, .inr (.inl (fun _ => 0)))) := gq ea rfl
  have r_82 : gA wa 82 (fw_forth, .inl (k_fw_forth, 14, .inr (.inl (fun _ => 0)))) := gq ea rfl
  have r_83 : gA wa 83 (fw_back, .inl (k_fw_back, 14, .inr (.inl (fun _ => 0)))) := gq ea rfl
  have r_84 : gA wa 84 (fw_label, .inl (k_fw_label, 10, .inr (.inl (fun _ => 0)))) := gq ea rfl
  have r_85 : gA wa 85 (fw_cause, .inl (k_fw_cause, 10, .inl (fun _ => 0))) := gq ea rfl
  have r_86 : gA wa 86 (fw_seen, .inl (k_fw_seen, 10, .inl (fun _ => 0))) := gq ea rfl
  have r_87 : gA wa 87 (fw_round, .inl (k_fw_round, 10, .inl (fun _ => 0))) := gq ea rfl
  have r_88 : gA wa 88 (ld_gas, .inl (k_ld_gas, 14, .inl (fun _ => 0))) := gq ea rfl
  have r_89 : gA wa 89 (ld_coming, .inl (k_ld_coming, 10, .inl (fun _ => 0))) := gq ea rfl
  have r_90 : gA wa 90 (ld_waiting, .inl (k_ld_waiting, 10, .inl (fun _ => 0))) := gq ea rfl
  have r_91 : gA wa 91 (ld_rest, .inl (k_ld_rest, 14, .inl (fun _ => 0))) := gq ea rfl
  have r_92 : gA wa 92 (pl_order, .inl (k_pl_order, 5, .inl (fun _ => 0))) := gq ea rfl
  have r_93 : gA wa 93 (pl_kind, .inl (k_pl_kind, 5, .inl (fun _ => 0))) := gq ea rfl
  have r_94 : gA wa 94 (pl_which, .inl (k_pl_which, 5, .inl (fun _ => 0))) := gq ea rfl
  have r_95 : gA wa 95 (pl_value, .inl (k_pl_value, 5, .inl (fun _ => 0))) := gq ea rfl
  have r_96 : gA wa 96 (pl_soundBy, .inl (k_pl_soundBy, 32, .inl (fun _ => 0))) := gq ea rfl
  have r_97 : gA wa 97 (fl_knotOf, .inl (k_fl_knotOf, 20, .inl (fun _ => 0))) := gq ea rfl
  have r_98 : gA wa 98 (fl_smokeAt, .inl (k_fl_smokeAt, 14, .inl (fun _ => 0))) := gq ea rfl
  have r_99 : gA wa 99 (fl_reach, .inl (k_fl_reach, 10, .inl (fun _ => 0))) := gq ea rfl
  have r_100 : gA wa 100 (fl_route, .inl (k_fl_route, 11, .inl (fun _ => 0))) := gq ea rfl
  have r_101 : gA wa 101 (fl_smokeIn, .inl (k_fl_smokeIn, 10, .inl (fun _ => 0))) := gq ea rfl
  have r_102 : gA wa 102 (rq_way, .inl (k_rq_way, 8, .inl (fun _ => 0))) := gq ea rfl
  have r_103 : gA wa 103 (rq_low, .inl (k_rq_low, 8, .inl (fun _ => 0))) := gq ea rfl
  have r_104 : gA wa 104 (rq_high, .inl (k_rq_high, 8, .inl (fun _ => 0))) := gq ea rfl
  have s_0 : gA ta 0 (k_rd_tape, .int) := gqK fa rfl
  have s_1 : gA ta 1 (k_rd_names, .long) := gqK fa rfl
  have s_2 : gA ta 2 (k_rd_nameKind, .int) := gqK fa rfl
  have s_3 : gA ta 3 (k_rd_nameNumber, .int) := gqK fa rfl
  have s_4 : gA ta 4 (k_rd_knotNames, .long) := gqK fa rfl
  have s_5 : gA ta 5 (k_dr_tail, .int) := gqK fa rfl
  have s_6 : gA ta 6 (k_dr_head, .int) := gqK fa rfl
  have s_7 : gA ta 7 (k_dr_hinder, .int) := gqK fa rfl
  have s_8 : gA ta 8 (k_dr_size, .int) := gqK fa rfl
  have s_9 : gA ta 9 (k_dr_walk, .int) := gqK fa rfl
  have s_10 : gA ta 10 (k_dr_draught, .int) := gqK fa rfl
  have s_11 : gA ta 11 (k_dr_doorIn, .int) := gqK fa rfl
  have s_12 : gA ta 12 (k_dr_fanIn, .int) := gqK fa rfl
  have s_13 : gA ta 13 (k_dr_faceIn, .int) := gqK fa rfl
  have s_14 : gA ta 14 (k_dg_doorBy, .int) := gqK fa rfl
  have s_15 : gA ta 15 (k_dg_pairFirst, .int) := gqK fa rfl
  have s_16 : gA ta 16 (k_dg_pairSecond, .int) := gqK fa rfl
  have s_17 : gA ta 17 (k_dg_fanPush, .int) := gqK fa rfl
  have s_18 : gA ta 18 (k_dg_fanFall, .int) := gqK fa rfl
  have s_19 : gA ta 19 (k_dg_fanCost, .int) := gqK fa rfl
  have s_20 : gA ta 20 (k_dg_faceWay, .int) := gqK fa rfl
  have s_21 : gA ta 21 (k_dg_faceGas, .int) := gqK fa rfl
  have s_22 : gA ta 22 (k_dg_faceNeed, .int) := gqK fa rfl
  have s_23 : gA ta 23 (k_bk_tail, .int) := gqK fa rfl
  have s_24 : gA ta 24 (k_bk_head, .int) := gqK fa rfl
  have s_25 : gA ta 25 (k_bk_hinder, .int) := gqK fa rfl
  have s_26 : gA ta 26 (k_bk_size, .int) := gqK fa rfl
  have s_27 : gA ta 27 (k_bk_walk, .int) := gqK fa rfl
  have s_28 : gA ta 28 (k_bk_draught, .int) := gqK fa rfl
  have s_29 : gA ta 29 (k_bk_doorIn, .int) := gqK fa rfl
  have s_30 : gA ta 30 (k_bk_fanIn, .int) := gqK fa rfl
  have s_31 : gA ta 31 (k_bk_faceIn, .int) := gqK fa rfl
  have s_32 : gA ta 32 (k_gr_doorBy, .int) := gqK fa rfl
  have s_33 : gA ta 33 (k_gr_pairFirst, .int) := gqK fa rfl
  have s_34 : gA ta 34 (k_gr_pairSecond, .int) := gqK fa rfl
  have s_35 : gA ta 35 (k_gr_fanPush, .int) := gqK fa rfl
  have s_36 : gA ta 36 (k_gr_fanFall, .int) := gqK fa rfl
  have s_37 : gA ta 37 (k_gr_fanCost, .int) := gqK fa rfl
  have s_38 : gA ta 38 (k_gr_faceWay, .int) := gqK fa rfl
  have s_39 : gA ta 39 (k_gr_faceGas, .int) := gqK fa rfl
  have s_40 : gA ta 40 (k_gr_faceNeed, .int) := gqK fa rfl
  have s_41 : gA ta 41 (k_st_open, .boolean) := gqK fa rfl
  have s_42 : gA ta 42 (k_st_speed, .int) := gqK fa rfl
  have s_43 : gA ta 43 (k_st_fallen, .boolean) := gqK fa rfl
  have s_44 : gA ta 44 (k_st_fire, .int) := gqK fa rfl
  have s_45 : gA ta 45 (k_f2w_air, .int) := gqK fa rfl
  have s_46 : gA ta 46 (k_f2w_hindrance, .long) := gqK fa rfl
  have s_47 : gA ta 47 (k_f2w_pull, .long) := gqK fa rfl
  have s_48 : gA ta 48 (k_f2w_droop, .long) := gqK fa rfl
  have s_49 : gA ta 49 (k_f2w_forth, .long) := gqK fa rfl
  have s_50 : gA ta 50 (k_f2w_back, .long) := gqK fa rfl
  have s_51 : gA ta 51 (k_f2w_label, .long) := gqK fa rfl
  have s_52 : gA ta 52 (k_f2w_cause, .int) := gqK fa rfl
  have s_53 : gA ta 53 (k_f2w_seen, .int) := gqK fa rfl
  have s_54 : gA ta 54 (k_f2w_round, .int) := gqK fa rfl
  have s_55 : gA ta 55 (k_l2d_gas, .int) := gqK fa rfl
  have s_56 : gA ta 56 (k_l2d_coming, .int) := gqK fa rfl
  have s_57 : gA ta 57 (k_l2d_waiting, .int) := gqK fa rfl
  have s_58 : gA ta 58 (k_l2d_rest, .int) := gqK fa rfl
  have s_59 : gA ta 59 (k_tr_ranks, .int) := gqK fa rfl
  have s_60 : gA ta 60 (k_tr_keptSpeed, .int) := gqK fa rfl
  have s_61 : gA ta 61 (k_fw_air, .int) := gqK fa rfl
  have s_62 : gA ta 62 (k_fw_hindrance, .long) := gqK fa rfl
  have s_63 : gA ta 63 (k_fw_pull, .long) := gqK fa rfl
  have s_64 : gA ta 64 (k_fw_droop, .long) := gqK fa rfl
  have s_65 : gA ta 65 (k_fw_forth, .long) := gqK fa rfl
  have s_66 : gA ta 66 (k_fw_back, .long) := gqK fa rfl
  have s_67 : gA ta 67 (k_fw_label, .long) := gqK fa rfl
  have s_68 : gA ta 68 (k_fw_cause, .int) := gqK fa rfl
  have s_69 : gA ta 69 (k_fw_seen, .int) := gqK fa rfl
  have s_70 : gA ta 70 (k_fw_round, .int) := gqK fa rfl
  have s_71 : gA ta 71 (k_ld_gas, .int) := gqK fa rfl
  have s_72 : gA ta 72 (k_ld_coming, .int) := gqK fa rfl
  have s_73 : gA ta 73 (k_ld_waiting, .int) := gqK fa rfl
  have s_74 : gA ta 74 (k_ld_rest, .int) := gqK fa rfl
  have s_75 : gA ta 75 (k_pl_order, .int) := gqK fa rfl
  have s_76 : gA ta 76 (k_pl_kind, .int) := gqK fa rfl
  have s_77 : gA ta 77 (k_pl_which, .int) := gqK fa rfl
  have s_78 : gA ta 78 (k_pl_value, .int) := gqK fa rfl
  have s_79 : gA ta 79 (k_pl_soundBy, .int) := gqK fa rfl
  have s_80 : gA ta 80 (k_fl_knotOf, .int) := gqK fa rfl
  have s_81 : gA ta 81 (k_fl_smokeAt, .int) := gqK fa rfl
  have s_82 : gA ta 82 (k_fl_reach, .int) := gqK fa rfl
  have s_83 : gA ta 83 (k_fl_route, .int) := gqK fa rfl
  have s_84 : gA ta 84 (k_fl_smokeIn, .int) := gqK fa rfl
  have s_85 : gA ta 85 (k_rq_way, .int) := gqK fa rfl
  have s_86 : gA ta 86 (k_rq_low, .int) := gqK fa rfl
  have s_87 : gA ta 87 (k_rq_high, .int) := gqK fa rfl
  have hla : wa.length = 105 := by rw [ea]; rfl
  have hlt : ta.length = 88 := by rw [fa]; rfl
  exact ⟨wa, ta, fun a9 k9 f9 => ⟨(fun i => ((rd :: dr :: dg :: bk :: gr :: st :: j2 :: f2w :: l2d :: tr :: jd :: fw :: ld :: pl :: fl :: rq :: rd_tape :: rd_names :: rd_nameKind :: rd_nameNumber :: rd_knotNames :: dr_tail :: dr_head :: dr_hinder :: dr_size :: dr_walk :: dr_draught :: dr_doorIn :: dr_fanIn :: dr_faceIn :: dg_doorBy :: dg_pairFirst :: dg_pairSecond :: dg_fanPush :: dg_fanFall :: dg_fanCost :: dg_faceWay :: dg_faceGas :: dg_faceNeed :: bk_tail :: bk_head :: bk_hinder :: bk_size :: bk_walk :: bk_draught :: bk_doorIn :: bk_fanIn :: bk_faceIn :: gr_doorBy :: gr_pairFirst :: gr_pairSecond :: gr_fanPush :: gr_fanFall :: gr_fanCost :: gr_faceWay :: gr_faceGas :: gr_faceNeed :: st_open :: st_speed :: st_fallen :: st_fire :: f2w_air :: f2w_hindrance :: f2w_pull :: f2w_droop :: f2w_forth :: f2w_back :: f2w_label :: f2w_cause :: f2w_seen :: f2w_round :: l2d_gas :: l2d_coming :: l2d_waiting :: l2d_rest :: tr_ranks :: tr_keptSpeed :: fw_air :: fw_hindrance :: fw_pull :: fw_droop :: fw_forth :: fw_back :: fw_label :: fw_cause :: fw_seen :: fw_round :: ld_gas :: ld_coming :: ld_waiting :: ld_rest :: pl_order :: pl_kind :: pl_which :: pl_value :: pl_soundBy :: fl_knotOf :: fl_smokeAt :: fl_reach :: fl_route :: fl_smokeIn :: rq_way :: rq_low :: rq_high :: a9 :: []) : List Nat).getD i 0), (fun i => ((k_rd_tape :: k_rd_names :: k_rd_nameKind :: k_rd_nameNumber :: k_rd_knotNames :: k_dr_tail :: k_dr_head :: k_dr_hinder :: k_dr_size :: k_dr_walk :: k_dr_draught :: k_dr_doorIn :: k_dr_fanIn :: k_dr_faceIn :: k_dg_doorBy :: k_dg_pairFirst :: k_dg_pairSecond :: k_dg_fanPush :: k_dg_fanFall :: k_dg_fanCost :: k_dg_faceWay :: k_dg_faceGas :: k_dg_faceNeed :: k_bk_tail :: k_bk_head :: k_bk_hinder :: k_bk_size :: k_bk_walk :: k_bk_draught :: k_bk_doorIn :: k_bk_fanIn :: k_bk_faceIn :: k_gr_doorBy :: k_gr_pairFirst :: k_gr_pairSecond :: k_gr_fanPush :: k_gr_fanFall :: k_gr_fanCost :: k_gr_faceWay :: k_gr_faceGas :: k_gr_faceNeed :: k_st_open :: k_st_speed :: k_st_fallen :: k_st_fire :: k_f2w_air :: k_f2w_hindrance :: k_f2w_pull :: k_f2w_droop :: k_f2w_forth :: k_f2w_back :: k_f2w_label :: k_f2w_cause :: k_f2w_seen :: k_f2w_round :: k_l2d_gas :: k_l2d_coming :: k_l2d_waiting :: k_l2d_rest :: k_tr_ranks :: k_tr_keptSpeed :: k_fw_air :: k_fw_hindrance :: k_fw_pull :: k_fw_droop :: k_fw_forth :: k_fw_back :: k_fw_label :: k_fw_cause :: k_fw_seen :: k_fw_round :: k_ld_gas :: k_ld_coming :: k_ld_waiting :: k_ld_rest :: k_pl_order :: k_pl_kind :: k_pl_which :: k_pl_value :: k_pl_soundBy :: k_fl_knotOf :: k_fl_smokeAt :: k_fl_reach :: k_fl_route :: k_fl_smokeIn :: k_rq_way :: k_rq_low :: k_rq_high :: k9 :: []) : List ClassId).getD i k_rd_tape), (mkG [((0 : Nat) : Int), ((0 : Nat) : Int), ((0 : Nat) : Int), ((0 : Nat) : Int), ((0 : Nat) : Int), ((0 : Nat) : Int), (0 : Int32).toInt, (0 : Int32).toInt, (0 : Int32).toInt] (tpG 0 (fun _ => 0))), XI_mk (fun i => ((rd :: dr :: dg :: bk :: gr :: st :: j2 :: f2w :: l2d :: tr :: jd :: fw :: ld :: pl :: fl :: rq :: rd_tape :: rd_names :: rd_nameKind :: rd_nameNumber :: rd_knotNames :: dr_tail :: dr_head :: dr_hinder :: dr_size :: dr_walk :: dr_draught :: dr_doorIn :: dr_fanIn :: dr_faceIn :: dg_doorBy :: dg_pairFirst :: dg_pairSecond :: dg_fanPush :: dg_fanFall :: dg_fanCost :: dg_faceWay :: dg_faceGas :: dg_faceNeed :: bk_tail :: bk_head :: bk_hinder :: bk_size :: bk_walk :: bk_draught :: bk_doorIn :: bk_fanIn :: bk_faceIn :: gr_doorBy :: gr_pairFirst :: gr_pairSecond :: gr_fanPush :: gr_fanFall :: gr_fanCost :: gr_faceWay :: gr_faceGas :: gr_faceNeed :: st_open :: st_speed :: st_fallen :: st_fire :: f2w_air :: f2w_hindrance :: f2w_pull :: f2w_droop :: f2w_forth :: f2w_back :: f2w_label :: f2w_cause :: f2w_seen :: f2w_round :: l2d_gas :: l2d_coming :: l2d_waiting :: l2d_rest :: tr_ranks :: tr_keptSpeed :: fw_air :: fw_hindrance :: fw_pull :: fw_droop :: fw_forth :: fw_back :: fw_label :: fw_cause :: fw_seen :: fw_round :: ld_gas :: ld_coming :: ld_waiting :: ld_rest :: pl_order :: pl_kind :: pl_which :: pl_value :: pl_soundBy :: fl_knotOf :: fl_smokeAt :: fl_reach :: fl_route :: fl_smokeIn :: rq_way :: rq_low :: rq_high :: a9 :: []) : List Nat).getD i 0) (fun i => ((k_rd_tape :: k_rd_names :: k_rd_nameKind :: k_rd_nameNumber :: k_rd_knotNames :: k_dr_tail :: k_dr_head :: k_dr_hinder :: k_dr_size :: k_dr_walk :: k_dr_draught :: k_dr_doorIn :: k_dr_fanIn :: k_dr_faceIn :: k_dg_doorBy :: k_dg_pairFirst :: k_dg_pairSecond :: k_dg_fanPush :: k_dg_fanFall :: k_dg_fanCost :: k_dg_faceWay :: k_dg_faceGas :: k_dg_faceNeed :: k_bk_tail :: k_bk_head :: k_bk_hinder :: k_bk_size :: k_bk_walk :: k_bk_draught :: k_bk_doorIn :: k_bk_fanIn :: k_bk_faceIn :: k_gr_doorBy :: k_gr_pairFirst :: k_gr_pairSecond :: k_gr_fanPush :: k_gr_fanFall :: k_gr_fanCost :: k_gr_faceWay :: k_gr_faceGas :: k_gr_faceNeed :: k_st_open :: k_st_speed :: k_st_fallen :: k_st_fire :: k_f2w_air :: k_f2w_hindrance :: k_f2w_pull :: k_f2w_droop :: k_f2w_forth :: k_f2w_back :: k_f2w_label :: k_f2w_cause :: k_f2w_seen :: k_f2w_round :: k_l2d_gas :: k_l2d_coming :: k_l2d_waiting :: k_l2d_rest :: k_tr_ranks :: k_tr_keptSpeed :: k_fw_air :: k_fw_hindrance :: k_fw_pull :: k_fw_droop :: k_fw_forth :: k_fw_back :: k_fw_label :: k_fw_cause :: k_fw_seen :: k_fw_round :: k_ld_gas :: k_ld_coming :: k_ld_waiting :: k_ld_rest :: k_pl_order :: k_pl_kind :: k_pl_which :: k_pl_value :: k_pl_soundBy :: k_fl_knotOf :: k_fl_smokeAt :: k_fl_reach :: k_fl_route :: k_fl_smokeIn :: k_rq_way :: k_rq_low :: k_rq_high :: k9 :: []) : List ClassId).getD i k_rd_tape) x0 (mkG [((0 : Nat) : Int), ((0 : Nat) : Int), ((0 : Nat) : Int), ((0 : Nat) : Int), ((0 : Nat) : Int), ((0 : Nat) : Int), (0 : Int32).toInt, (0 : Int32).toInt, (0 : Int32).toInt] (tpG 0 (fun _ => 0))) (wa ++ [(a9, .inl (k9, 1, .inr (.inl f9)))]) (ta ++ [(k9, .long)]) 0 0 0 0 0 0 0 0 0 0 0 0 0 0 (-1) 0 0 0 0 0 0 (-1) 0 0 0 0 10 (-1) 0 0 0 0 0 0 0 0 0 0 0 0 0 0 (fun _ => 0) (fun _ => 0) (fun _ => 0) (fun _ => 0) (fun _ => 0) (fun _ => 0) (fun _ => 0) (fun _ => 0) (fun _ => 0) (fun _ => 0) (fun _ => 0) (fun _ => 0) (fun _ => 0) (fun _ => 0) (fun _ => 0) (fun _ => 0) (fun _ => 0) (fun _ => 0) (fun _ => 0) (fun _ => 0) (fun _ => 0) (fun _ => 0) (fun _ => 0) (fun _ => 0) (fun _ => 0) (fun _ => 0) (fun _ => 0) (fun _ => 0) (fun _ => 0) (fun _ => 0) (fun _ => 0) (fun _ => 0) (fun _ => 0) (fun _ => 0) (fun _ => 0) (fun _ => 0) (fun _ => 0) (fun _ => 0) (fun _ => 0) (fun _ => 0) (fun _ => 0) op9 sp9 fa9 fi9 (fun _ => 0) (fun _ => 0) (fun _ => 0) (fun _ => 0) (fun _ => 0) (fun _ => 0) (fun _ => 0) (fun _ => 0) (fun _ => 0) (fun _ => 0) (fun _ => 0) (fun _ => 0) (fun _ => 0) (fun _ => 0) (fun _ => 0) (fun _ => 0) (fun _ => 0) (fun _ => 0) (fun _ => 0) (fun _ => 0) (fun _ => 0) (fun _ => 0) (fun _ => 0) (fun _ => 0) (fun _ => 0) (fun _ => 0) (fun _ => 0) (fun _ => 0) (fun _ => 0) (fun _ => 0) (fun _ => 0) (fun _ => 0) (fun _ => 0) (fun _ => 0) (fun _ => 0) (fun _ => 0) (fun _ => 0) (fun _ => 0) (fun _ => 0) (fun _ => 0) (fun _ => 0) (fun _ => 0) (fun _ => 0) f9 (ga_l r_0) (ga_l r_1) (ga_l r_2) (ga_l r_3) (ga_l r_4) (ga_l r_5) (ga_l r_6) (ga_l r_7) (ga_l r_8) (ga_l r_9) (ga_l r_10) (ga_l r_11) (ga_l r_12) (ga_l r_13) (ga_l r_14) (ga_l r_15) (ga_l r_16) (ga_l r_17) (ga_l r_18) (ga_l r_19) (ga_l r_20) (ga_l r_21) (ga_l r_22) (ga_l r_23) (ga_l r_24) (ga_l r_25) (ga_l r_26) (ga_l r_27) (ga_l r_28) (ga_l r_29) (ga_l r_30) (ga_l r_31) (ga_l r_32) (ga_l r_33) (ga_l r_34) (ga_l r_35) (ga_l r_36) (ga_l r_37) (ga_l r_38) (ga_l r_39) (ga_l r_40) (ga_l r_41) (ga_l r_42) (ga_l r_43) (ga_l r_44) (ga_l r_45) (ga_l r_46) (ga_l r_47) (ga_l r_48) (ga_l r_49) (ga_l r_50) (ga_l r_51) (ga_l r_52) (ga_l r_53) (ga_l r_54) (ga_l r_55) (ga_l r_56) (ga_l r_57) (ga_l r_58) (ga_l r_59) (ga_l r_60) (ga_l r_61) (ga_l r_62) (ga_l r_63) (ga_l r_64) (ga_l r_65) (ga_l r_66) (ga_l r_67) (ga_l r_68) (ga_l r_69) (ga_l r_70) (ga_l r_71) (ga_l r_72) (ga_l r_73) (ga_l r_74) (ga_l r_75) (ga_l r_76) (ga_l r_77) (ga_l r_78) (ga_l r_79) (ga_l r_80) (ga_l r_81) (ga_l r_82) (ga_l r_83) (ga_l r_84) (ga_l r_85) (ga_l r_86) (ga_l r_87) (ga_l r_88) (ga_l r_89) (ga_l r_90) (ga_l r_91) (ga_l r_92) (ga_l r_93) (ga_l r_94) (ga_l r_95) (ga_l r_96) (ga_l r_97) (ga_l r_98) (ga_l r_99) (ga_l r_100) (ga_l r_101) (ga_l r_102) (ga_l r_103) (ga_l r_104) (ga_r hla) (ga_l s_0) (ga_l s_1) (ga_l s_2) (ga_l s_3) (ga_l s_4) (ga_l s_5) (ga_l s_6) (ga_l s_7) (ga_l s_8) (ga_l s_9) (ga_l s_10) (ga_l s_11) (ga_l s_12) (ga_l s_13) (ga_l s_14) (ga_l s_15) (ga_l s_16) (ga_l s_17) (ga_l s_18) (ga_l s_19) (ga_l s_20) (ga_l s_21) (ga_l s_22) (ga_l s_23) (ga_l s_24) (ga_l s_25) (ga_l s_26) (ga_l s_27) (ga_l s_28) (ga_l s_29) (ga_l s_30) (ga_l s_31) (ga_l s_32) (ga_l s_33) (ga_l s_34) (ga_l s_35) (ga_l s_36) (ga_l s_37) (ga_l s_38) (ga_l s_39) (ga_l s_40) (ga_l s_41) (ga_l s_42) (ga_l s_43) (ga_l s_44) (ga_l s_45) (ga_l s_46) (ga_l s_47) (ga_l s_48) (ga_l s_49) (ga_l s_50) (ga_l s_51) (ga_l s_52) (ga_l s_53) (ga_l s_54) (ga_l s_55) (ga_l s_56) (ga_l s_57) (ga_l s_58) (ga_l s_59) (ga_l s_60) (ga_l s_61) (ga_l s_62) (ga_l s_63) (ga_l s_64) (ga_l s_65) (ga_l s_66) (ga_l s_67) (ga_l s_68) (ga_l s_69) (ga_l s_70) (ga_l s_71) (ga_l s_72) (ga_l s_73) (ga_l s_74) (ga_l s_75) (ga_l s_76) (ga_l s_77) (ga_l s_78) (ga_l s_79) (ga_l s_80) (ga_l s_81) (ga_l s_82) (ga_l s_83) (ga_l s_84) (ga_l s_85) (ga_l s_86) (ga_l s_87) (ga_r hlt) (by decide) (by decide) (by decide) (by decide) (by decide) (by decide) (by decide) (rg0 (by decide) (by decide)) (rg0 (by decide) (by decide)) (rg0 (by decide) (by decide)) (rg0 (by decide) (by decide)) (rg0 (by decide) (by decide)) (rg0 (by decide) (by decide)) (rg0 (by decide) (by decide)) (rg0 (by decide) (by decide)) (by decide) (by decide) (by decide) (by decide) (by decide) (by decide) (by decide) nm0 (rg0 (by decide) (by decide)) (rg0 (by decide) (by decide)) (rg0 (by decide) (by decide)) (rg0 (by decide) (by decide)) (rg0 (by decide) (by decide)) (rg0 (by decide) (by decide)) (rg0 (by decide) (by decide)) (rg0 (by decide) (by decide)) (rg0 (by decide) (by decide)) (rg0 (by decide) (by decide)) (rg0 (by decide) (by decide)) (rg0 (by decide) (by decide)) (by decide) (rg0 (by decide) (by decide)) (by decide) pc0 (by decide) (rg0 (by decide) (by decide)) (rg0 (by decide) (by decide)) (rg0 (by decide) (by decide)) (by decide) rfl rfl rfl rfl rfl rfl rfl rfl rfl mkG_T, inx_mk, rfl⟩, hPa, hKa, hDa⟩
def NMZ (m0 : Nat) (ws : va_W) (tx : List (ClassId × FieldType)) : Prop := ∃ (md : Nat → Nat) (mk9 : Nat → ClassId) (G : Nat → Int), MZ md mk9 m0 G ws tx ∧ INM G
set_option maxHeartbeats 4000000 in
set_option maxRecDepth 100000 in
theorem Z_new (l : Launch) (dC : Nat → ClassId) (dI : Nat → Nat → Nat) (n0 : Nat) (atx : Nat → Nat × Nat) (sz : Nat) (m0 : Nat) : Met l yX14_init (wM yX14_init cX14_init 2 none) ({ frames := 5, cells := 31, slots := 900, locals := 104 }) (va_Pc [.ref m0] (fun U => U.heap.size = sz ∧ n0 ≤ sz ∧ GW n0 atx U ∧ va_P (dC, dI) classes [(m0, .inr (14, fX14 (.int 0) .null (.int 0) (.int 0) (.int 0) .null .null .null .null (.int 0) (.int 0) (.int 0) (.int 0) (.int 0) (.int 0) (.int 0) (.long 0) .null .null .null .null (.int 0) (.int 0) (.int 0) .null .null .null .null .null .null .null .null .null .null .null .null (.int 0) .null (.int 0) .null .null .null .null .null .null .null (.int 0) .null .null .null .null))] U.heap ∧ va_K (dC, dI) classes [] U ∧ va_D (fun q => n0 ≤ q) [(m0, .inr (14, fX14 (.int 0) .null (.int 0) (.int 0) (.int 0) .null .null .null .null (.int 0) (.int 0) (.int 0) (.int 0) (.int 0) (.int 0) (.int 0) (.long 0) .null .null .null .null (.int 0) (.int 0) (.int 0) .null .null .null .null .null .null .null .null .null .null .null .null (.int 0) .null (.int 0) .null .null .null .null .null .null .null (.int 0) .null .null .null .null))])) (va_Qv (fun _ : Unit => True) (fun (_ : Unit) (t : State) => ∃ (ws : va_W) (tx : List (ClassId × FieldType)), NMZ m0 ws tx ∧ va_P (dC, dI) classes ws t.heap ∧ va_K (dC, dI) classes tx t ∧ va_D (va_A [(m0, .inr (14, fX14 (.int 0) .null (.int 0) (.int 0) (.int 0) .null .null .null .null (.int 0) (.int 0) (.int 0) (.int 0) (.int 0) (.int 0) (.int 0) (.long 0) .null .null .null .null (.int 0) (.int 0) (.int 0) .null .null .null .null .null .null .null .null .null .null .null .null (.int 0) .null (.int 0) .null .null .null .null .null .null .null (.int 0) .null .null .null .null))] sz) ws) (va_A [(m0, .inr (14, fX14 (.int 0) .null (.int 0) (.int 0) (.int 0) .null .null .null .null (.int 0) (.int 0) (.int 0) (.int 0) (.int 0) (.int 0) (.int 0) (.long 0) .null .null .null .null (.int 0) (.int 0) (.int 0) .null .null .null .null .null .null .null .null .null .null .null .null (.int 0) .null (.int 0) .null .null .null .null .null .null .null (.int 0) .null .null .null .null))] sz)) 31 900 (va_A [(m0, .inr (14, fX14 (.int 0) .null (.int 0) (.int 0) (.int 0) .null .null .null .null (.int 0) (.int 0) (.int 0) (.int 0) (.int 0) (.int 0) (.int 0) (.long 0) .null .null .null .null (.int 0) (.int 0) (.int 0) .null .null .null .null .null .null .null .null .null .null .null .null (.int 0) .null (.int 0) .null .null .null .null .null .null .null (.int 0) .null .null .null .null))] sz) := by
  refine po_v (n_Model l dC dI n0 atx sz m0) ?_
  intro u9 t9 _ hB
  refine Exists.elim hB (fun m0_power hB => ?_)
  refine Exists.elim hB (fun sp hB => ?_)
  refine Exists.elim hB (fun m0_tape hB => ?_)
  refine Exists.elim hB (fun m0_isOpen hB => ?_)
  refine Exists.elim hB (fun m0_isFallen hB => ?_)
  refine Exists.elim hB (fun m0_speed hB => ?_)
  refine Exists.elim hB (fun m0_fire hB => ?_)
  refine Exists.elim hB (fun m0_air hB => ?_)
  refine Exists.elim hB (fun m0_cameBy hB => ?_)
  refine Exists.elim hB (fun m0_least hB => ?_)
  refine Exists.elim hB (fun m0_before hB => ?_)
  refine Exists.elim hB (fun m0_gas hB => ?_)
  refine Exists.elim hB (fun m0_into hB => ?_)
  refine Exists.elim hB (fun m0_rest hB => ?_)
  refine Exists.elim hB (fun m0_isTold hB => ?_)
  refine Exists.elim hB (fun m0_isPast hB => ?_)
  refine Exists.elim hB (fun m0_kept hB => ?_)
  refine Exists.elim hB (fun m0_smoke hB => ?_)
  refine Exists.elim hB (fun m0_early hB => ?_)
  refine Exists.elim hB (fun m0_manAt hB => ?_)
  refine Exists.elim hB (fun m0_changeKind hB => ?_)
  refine Exists.elim hB (fun m0_changeOf hB => ?_)
  refine Exists.elim hB (fun m0_changeTo hB => ?_)
  refine Exists.elim hB (fun m0_row hB => ?_)
  refine Exists.elim hB (fun m0_openWas hB => ?_)
  refine Exists.elim hB (fun m0_fallenWas hB => ?_)
  refine Exists.elim hB (fun m0_speedWas hB => ?_)
  refine Exists.elim hB (fun m0_readingOf hB => ?_)
  refine Exists.elim hB (fun m0_low hB => ?_)
  refine Exists.elim hB (fun m0_high hB => ?_)
  refine Exists.elim hB (fun m0_back hB => ?_)
  refine Exists.elim hB (fun k_m0_power hB => ?_)
  refine Exists.elim hB (fun k_m0_tape hB => ?_)
  refine Exists.elim hB (fun k_m0_isOpen hB => ?_)
  refine Exists.elim hB (fun k_m0_isFallen hB => ?_)
  refine Exists.elim hB (fun k_m0_speed hB => ?_)
  refine Exists.elim hB (fun k_m0_fire hB => ?_)
  refine Exists.elim hB (fun k_m0_air hB => ?_)
  refine Exists.elim hB (fun k_m0_cameBy hB => ?_)
  refine Exists.elim hB (fun k_m0_least hB => ?_)
  refine Exists.elim hB (fun k_m0_before hB => ?_)
  refine Exists.elim hB (fun k_m0_gas hB => ?_)
  refine Exists.elim hB (fun k_m0_into hB => ?_)
  refine Exists.elim hB (fun k_m0_rest hB => ?_)
  refine Exists.elim hB (fun k_m0_isTold hB => ?_)
  refine Exists.elim hB (fun k_m0_isPast hB => ?_)
  refine Exists.elim hB (fun k_m0_kept hB => ?_)
  refine Exists.elim hB (fun k_m0_smoke hB => ?_)
  refine Exists.elim hB (fun k_m0_early hB => ?_)
  refine Exists.elim hB (fun k_m0_manAt hB => ?_)
  refine Exists.elim hB (fun k_m0_changeKind hB => ?_)
  refine Exists.elim hB (fun k_m0_changeOf hB => ?_)
  refine Exists.elim hB (fun k_m0_changeTo hB => ?_)
  refine Exists.elim hB (fun k_m0_row hB => ?_)
  refine Exists.elim hB (fun k_m0_openWas hB => ?_)
  refine Exists.elim hB (fun k_m0_fallenWas hB => ?_)
  refine Exists.elim hB (fun k_m0_speedWas hB => ?_)
  refine Exists.elim hB (fun k_m0_readingOf hB => ?_)
  refine Exists.elim hB (fun k_m0_low hB => ?_)
  refine Exists.elim hB (fun k_m0_high hB => ?_)
  refine Exists.elim hB (fun k_m0_back hB => ?_)
  refine Exists.elim hB (fun pw9 hB => ?_)
  refine And.elim (fun hf_0 hB => ?_) hB
  refine And.elim (fun hP1 hB => ?_) hB
  refine And.elim (fun hK1 hB => ?_) hB
  have hD1 := hB
  obtain ⟨w9, e9, hP1, hD1⟩ := gz (w := [(m0, .inr (14, fX14 (.int 0) (.ref m0_power) (.int 0) (.int (-1)) (.int 0) .null .null (.ref sp) (.ref m0_tape) (.int 0) (.int 0) (.int 0) (.int 0) (.int 0) (.int 0) (.int 0) (.long 0) (.ref m0_isOpen) (.ref m0_isFallen) (.ref m0_speed) (.ref m0_fire) (.int 10) (.int (-1)) (.int 0) (.ref m0_air) (.ref m0_cameBy) (.ref m0_least) (.ref m0_before) (.ref m0_gas) (.ref m0_into) (.ref m0_rest) (.ref m0_isTold) (.ref m0_isPast) (.ref m0_kept) (.ref m0_smoke) (.ref m0_early) (.int 0) (.ref m0_manAt) (.int 0) (.ref m0_changeKind) (.ref m0_changeOf) (.ref m0_changeTo) (.ref m0_row) (.ref m0_openWas) (.ref m0_fallenWas) (.ref m0_speedWas) (.int 0) (.ref m0_readingOf) (.ref m0_low) (.ref m0_high) (.ref m0_back))), (sp, .inr (13, [.null, .null, .null, .null, .null, .int 0, .int 0, .int 0])), (m0_power, .inl (k_m0_power, 14, .inr (.inl pw9))), (m0_tape, .inl (k_m0_tape, 600, .inl (fun _ => 0))), (m0_isOpen, .inl (k_m0_isOpen, 6, .inl (fun _ => 0))), (m0_isFallen, .inl (k_m0_isFallen, 14, .inl (fun _ => 0))), (m0_speed, .inl (k_m0_speed, 4, .inl (fun _ => 0))), (m0_fire, .inl (k_m0_fire, 14, .inl (fun _ => 0))), (m0_air, .inl (k_m0_air, 14, .inl (fun _ => 0))), (m0_cameBy, .inl (k_m0_cameBy, 10, .inl (fun _ => 0))), (m0_least, .inl (k_m0_least, 10, .inr (.inl (fun _ => 0)))), (m0_before, .inl (k_m0_before, 14, .inl (fun _ => 0))), (m0_gas, .inl (k_m0_gas, 14, .inl (fun _ => 0))), (m0_into, .inl (k_m0_into, 14, .inl (fun _ => 0))), (m0_rest, .inl (k_m0_rest, 14, .inl (fun _ => 0))), (m0_isTold, .inl (k_m0_isTold, 14, .inl (fun _ => 0))), (m0_isPast, .inl (k_m0_isPast, 10, .inl (fun _ => 0))), (m0_kept, .inl (k_m0_kept, 4, .inl (fun _ => 0))), (m0_smoke, .inl (k_m0_smoke, 14, .inl (fun _ => 0))), (m0_early, .inl (k_m0_early, 10, .inl (fun _ => 0))), (m0_manAt, .inl (k_m0_manAt, 20, .inl (fun _ => 0))), (m0_changeKind, .inl (k_m0_changeKind, 5, .inl (fun _ => 0))), (m0_changeOf, .inl (k_m0_changeOf, 5, .inl (fun _ => 0))), (m0_changeTo, .inl (k_m0_changeTo, 5, .inl (fun _ => 0))), (m0_row, .inl (k_m0_row, 5, .inl (fun _ => 0))), (m0_openWas, .inl (k_m0_openWas, 6, .inl (fun _ => 0))), (m0_fallenWas, .inl (k_m0_fallenWas, 14, .inl (fun _ => 0))), (m0_speedWas, .inl (k_m0_speedWas, 4, .inl (fun _ => 0))), (m0_readingOf, .inl (k_m0_readingOf, 8, .inl (fun _ => 0))), (m0_low, .inl (k_m0_low, 8, .inl (fun _ => 0))), (m0_high, .inl (k_m0_high, 8, .inl (fun _ => 0))), (m0_back, .inl (k_m0_back, 10, .inl (fun _ => 0)))]) hP1 hD1
  have q_0 : gA w9 0 (m0, .inr (14, fX14 (.int 0) (.ref m0_power) (.int 0) (.int (-1)) (.int 0) .null .null (.ref sp) (.ref m0_tape) (.int 0) (.int 0) (.int 0) (.int 0) (.int 0) (.int 0) (.int 0) (.long 0) (.ref m0_isOpen) (.ref m0_isFallen) (.ref m0_speed) (.ref m0_fire) (.int 10) (.int (-1)) (.int 0) (.ref m0_air) (.ref m0_cameBy) (.ref m0_least) (.ref m0_before) (.ref m0_gas) (.ref m0_into) (.ref m0_rest) (.ref m0_isTold) (.ref m0_isPast) (.ref m0_kept) (.ref m0_smoke) (.ref m0_early) (.int 0) (.ref m0_manAt) (.int 0) (.ref m0_changeKind) (.ref m0_changeOf) (.ref m0_changeTo) (.ref m0_row) (.ref m0_openWas) (.ref m0_fallenWas) (.ref m0_speedWas) (.int 0) (.ref m0_readingOf) (.ref m0_low) (.ref m0_high) (.ref m0_back))) := gq e9 rfl
  have q_1 : gA w9 1 (sp, .inr (13, [.null, .null, .null, .null, .null, .int 0, .int 0, .int 0])) := gq e9 rfl
  have q_2 : gA w9 2 (m0_power, .inl (k_m0_power, 14, .inr (.inl pw9))) := gq e9 rfl
  have q_3 : gA w9 3 (m0_tape, .inl (k_m0_tape, 600, .inl (fun _ => 0))) := gq e9 rfl
  have q_4 : gA w9 4 (m0_isOpen, .inl (k_m0_isOpen, 6, .inl (fun _ => 0))) := gq e9 rfl
  have q_5 : gA w9 5 (m0_isFallen, .inl (k_m0_isFallen, 14, .inl (fun _ => 0))) := gq e9 rfl
  have q_6 : gA w9 6 (m0_speed, .inl (k_m0_speed, 4, .inl (fun _ => 0))) := gq e9 rfl
  have q_7 : gA w9 7 (m0_fire, .inl (k_m0_fire, 14, .inl (fun _ => 0))) := gq e9 rfl
  have q_8 : gA w9 8 (m0_air, .inl (k_m0_air, 14, .inl (fun _ => 0))) := gq e9 rfl
  have q_9 : gA w9 9 (m0_cameBy, .inl (k_m0_cameBy, 10, .inl (fun _ => 0))) := gq e9 rfl
  have q_10 : gA w9 10 (m0_least, .inl (k_m0_least, 10, .inr (.inl (fun _ => 0)))) := gq e9 rfl
  have q_11 : gA w9 11 (m0_before, .inl (k_m0_before, 14, .inl (fun _ => 0))) := gq e9 rfl
  have q_12 : gA w9 12 (m0_gas, .inl (k_m0_gas, 14, .inl (fun _ => 0))) := gq e9 rfl
  have q_13 : gA w9 13 (m0_into, .inl (k_m0_into, 14, .inl (fun _ => 0))) := gq e9 rfl
  have q_14 : gA w9 14 (m0_rest, .inl (k_m0_rest, 14, .inl (fun _ => 0))) := gq e9 rfl
  have q_15 : gA w9 15 (m0_isTold, .inl (k_m0_isTold, 14, .inl (fun _ => 0))) := gq e9 rfl
  have q_16 : gA w9 16 (m0_isPast, .inl (k_m0_isPast, 10, .inl (fun _ => 0))) := gq e9 rfl
  have q_17 : gA w9 17 (m0_kept, .inl (k_m0_kept, 4, .inl (fun _ => 0))) := gq e9 rfl
  have q_18 : gA w9 18 (m0_smoke, .inl (k_m0_smoke, 14, .inl (fun _ => 0))) := gq e9 rfl
  have q_19 : gA w9 19 (m0_early, .inl (k_m0_early, 10, .inl (fun _ => 0))) := gq e9 rfl
  have q_20 : gA w9 20 (m0_manAt, .inl (k_m0_manAt, 20, .inl (fun _ => 0))) := gq e9 rfl
  have q_21 : gA w9 21 (m0_changeKind, .inl (k_m0_changeKind, 5, .inl (fun _ => 0))) := gq e9 rfl
  have q_22 : gA w9 22 (m0_changeOf, .inl (k_m0_changeOf, 5, .inl (fun _ => 0))) := gq e9 rfl
  have q_23 : gA w9 23 (m0_changeTo, .inl (k_m0_changeTo, 5, .inl (fun _ => 0))) := gq e9 rfl
  have q_24 : gA w9 24 (m0_row, .inl (k_m0_row, 5, .inl (fun _ => 0))) := gq e9 rfl
  have q_25 : gA w9 25 (m0_openWas, .inl (k_m0_openWas, 6, .inl (fun _ => 0))) := gq e9 rfl
  have q_26 : gA w9 26 (m0_fallenWas, .inl (k_m0_fallenWas, 14, .inl (fun _ => 0))) := gq e9 rfl
  have q_27 : gA w9 27 (m0_speedWas, .inl (k_m0_speedWas, 4, .inl (fun _ => 0))) := gq e9 rfl
  have q_28 : gA w9 28 (m0_readingOf, .inl (k_m0_readingOf, 8, .inl (fun _ => 0))) := gq e9 rfl
  have q_29 : gA w9 29 (m0_low, .inl (k_m0_low, 8, .inl (fun _ => 0))) := gq e9 rfl
  have q_30 : gA w9 30 (m0_high, .inl (k_m0_high, 8, .inl (fun _ => 0))) := gq e9 rfl
  have q_31 : gA w9 31 (m0_back, .inl (k_m0_back, 10, .inl (fun _ => 0))) := gq e9 rfl
  obtain ⟨y9, g9, hK1⟩ := gzK (w := [(k_m0_power, .long), (k_m0_tape, .byte), (k_m0_isOpen, .boolean), (k_m0_isFallen, .boolean), (k_m0_speed, .int), (k_m0_fire, .int), (k_m0_air, .int), (k_m0_cameBy, .int), (k_m0_least, .long), (k_m0_before, .int), (k_m0_gas, .int), (k_m0_into, .int), (k_m0_rest, .int), (k_m0_isTold, .boolean), (k_m0_isPast, .boolean), (k_m0_kept, .int), (k_m0_smoke, .int), (k_m0_early, .int), (k_m0_manAt, .int), (k_m0_changeKind, .int), (k_m0_changeOf, .int), (k_m0_changeTo, .int), (k_m0_row, .int), (k_m0_openWas, .boolean), (k_m0_fallenWas, .boolean), (k_m0_speedWas, .int), (k_m0_readingOf, .int), (k_m0_low, .int), (k_m0_high, .int), (k_m0_back, .int)]) hK1
  have p_0 : gA y9 0 (k_m0_power, .long) := gqK g9 rfl
  have p_1 : gA y9 1 (k_m0_tape, .byte) := gqK g9 rfl
  have p_2 : gA y9 2 (k_m0_isOpen, .boolean) := gqK g9 rfl
  have p_3 : gA y9 3 (k_m0_isFallen, .boolean) := gqK g9 rfl
  have p_4 : gA y9 4 (k_m0_speed, .int) := gqK g9 rfl
  have p_5 : gA y9 5 (k_m0_fire, .int) := gqK g9 rfl
  have p_6 : gA y9 6 (k_m0_air, .int) := gqK g9 rfl
  have p_7 : gA y9 7 (k_m0_cameBy, .int) := gqK g9 rfl
  have p_8 : gA y9 8 (k_m0_least, .long) := gqK g9 rfl
  have p_9 : gA y9 9 (k_m0_before, .int) := gqK g9 rfl
  have p_10 : gA y9 10 (k_m0_gas, .int) := gqK g9 rfl
  have p_11 : gA y9 11 (k_m0_into, .int) := gqK g9 rfl
  have p_12 : gA y9 12 (k_m0_rest, .int) := gqK g9 rfl
  have p_13 : gA y9 13 (k_m0_isTold, .boolean) := gqK g9 rfl
  have p_14 : gA y9 14 (k_m0_isPast, .boolean) := gqK g9 rfl
  have p_15 : gA y9 15 (k_m0_kept, .int) := gqK g9 rfl
  have p_16 : gA y9 16 (k_m0_smoke, .int) := gqK g9 rfl
  have p_17 : gA y9 17 (k_m0_early, .int) := gqK g9 rfl
  have p_18 : gA y9 18 (k_m0_manAt, .int) := gqK g9 rfl
  have p_19 : gA y9 19 (k_m0_changeKind, .int) := gqK g9 rfl
  have p_20 : gA y9 20 (k_m0_changeOf, .int) := gqK g9 rfl
  have p_21 : gA y9 21 (k_m0_changeTo, .int) := gqK g9 rfl
  have p_22 : gA y9 22 (k_m0_row, .int) := gqK g9 rfl
  have p_23 : gA y9 23 (k_m0_openWas, .boolean) := gqK g9 rfl
  have p_24 : gA y9 24 (k_m0_fallenWas, .boolean) := gqK g9 rfl
  have p_25 : gA y9 25 (k_m0_speedWas, .int) := gqK g9 rfl
  have p_26 : gA y9 26 (k_m0_readingOf, .int) := gqK g9 rfl
  have p_27 : gA y9 27 (k_m0_low, .int) := gqK g9 rfl
  have p_28 : gA y9 28 (k_m0_high, .int) := gqK g9 rfl
  have p_29 : gA y9 29 (k_m0_back, .int) := gqK g9 rfl
  obtain ⟨wa, ea, hPa, hDa⟩ := gz (w := [(m0, .inr (14, fX14 (.int 0) (.ref m0_power) (.int 0) (.int (-1)) (.int 0) .null .null (.ref sp) (.ref m0_tape) (.int 0) (.int 0) (.int 0) (.int 0) (.int 0) (.int 0) (.int 0) (.long 0) (.ref m0_isOpen) (.ref m0_isFallen) (.ref m0_speed) (.ref m0_fire) (.int 10) (.int (-1)) (.int 0) (.ref m0_air) (.ref m0_cameBy) (.ref m0_least) (.ref m0_before) (.ref m0_gas) (.ref m0_into) (.ref m0_rest) (.ref m0_isTold) (.ref m0_isPast) (.ref m0_kept) (.ref m0_smoke) (.ref m0_early) (.int 0) (.ref m0_manAt) (.int 0) (.ref m0_changeKind) (.ref m0_changeOf) (.ref m0_changeTo) (.ref m0_row) (.ref m0_openWas) (.ref m0_fallenWas) (.ref m0_speedWas) (.int 0) (.ref m0_readingOf) (.ref m0_low) (.ref m0_high) (.ref m0_back))), (sp, .inr (13, [.null, .null, .null, .null, .null, .int 0, .int 0, .int 0])), (m0_power, .inl (k_m0_power, 14, .inr (.inl pw9))), (m0_tape, .inl (k_m0_tape, 600, .inl (fun _ => 0))), (m0_isOpen, .inl (k_m0_isOpen, 6, .inl (fun _ => 0))), (m0_isFallen, .inl (k_m0_isFallen, 14, .inl (fun _ => 0))), (m0_speed, .inl (k_m0_speed, 4, .inl (fun _ => 0))), (m0_fire, .inl (k_m0_fire, 14, .inl (fun _ => 0))), (m0_air, .inl (k_m0_air, 14, .inl (fun _ => 0))), (m0_cameBy, .inl (k_m0_cameBy, 10, .inl (fun _ => 0))), (m0_least, .inl (k_m0_least, 10, .inr (.inl (fun _ => 0)))), (m0_before, .inl (k_m0_before, 14, .inl (fun _ => 0))), (m0_gas, .inl (k_m0_gas, 14, .inl (fun _ => 0))), (m0_into, .inl (k_m0_into, 14, .inl (fun _ => 0))), (m0_rest, .inl (k_m0_rest, 14, .inl (fun _ => 0))), (m0_isTold, .inl (k_m0_isTold, 14, .inl (fun _ => 0))), (m0_isPast, .inl (k_m0_isPast, 10, .inl (fun _ => 0))), (m0_kept, .inl (k_m0_kept, 4, .inl (fun _ => 0))), (m0_smoke, .inl (k_m0_smoke, 14, .inl (fun _ => 0))), (m0_early, .inl (k_m0_early, 10, .inl (fun _ => 0))), (m0_manAt, .inl (k_m0_manAt, 20, .inl (fun _ => 0))), (m0_changeKind, .inl (k_m0_changeKind, 5, .inl (fun _ => 0))), (m0_changeOf, .inl (k_m0_changeOf, 5, .inl (fun _ => 0))), (m0_changeTo, .inl (k_m0_changeTo, 5, .inl (fun _ => 0))), (m0_row, .inl (k_m0_row, 5, .inl (fun _ => 0))), (m0_openWas, .inl (k_m0_openWas, 6, .inl (fun _ => 0))), (m0_fallenWas, .inl (k_m0_fallenWas, 14, .inl (fun _ => 0))), (m0_speedWas, .inl (k_m0_speedWas, 4, .inl (fun _ => 0))), (m0_readingOf, .inl (k_m0_readingOf, 8, .inl (fun _ => 0))), (m0_low, .inl (k_m0_low, 8, .inl (fun _ => 0))), (m0_high, .inl (k_m0_high, 8, .inl (fun _ => 0))), (m0_back, .inl (k_m0_back, 10, .inl (fun _ => 0)))]) (hP1.sub [0, 1, 2, 3, 4, 5, 6, 7, 8, 9, 10, 11, 12, 13, 14, 15, 16, 17, 18, 19, 20, 21, 22, 23, 24, 25, 26, 27, 28, 29, 30, 31] (fm_of (pk_k q_0 (pk_k q_1 (pk_k q_2 (pk_k q_3 (pk_k q_4 (pk_k q_5 (pk_k q_6 (pk_k q_7 (pk_k q_8 (pk_k q_9 (pk_k q_10 (pk_k q_11 (pk_k q_12 (pk_k q_13 (pk_k q_14 (pk_k q_15 (pk_k q_16 (pk_k q_17 (pk_k q_18 (pk_k q_19 (pk_k q_20 (pk_k q_21 (pk_k q_22 (pk_k q_23 (pk_k q_24 (pk_k q_25 (pk_k q_26 (pk_k q_27 (pk_k q_28 (pk_k q_29 (pk_k q_30 (pk_k q_31 (pk_n))))))))))))))))))))))))))))))))))) (hD1.sub [0, 1, 2, 3, 4, 5, 6, 7, 8, 9, 10, 11, 12, 13, 14, 15, 16, 17, 18, 19, 20, 21, 22, 23, 24, 25, 26, 27, 28, 29, 30, 31] (by decide +kernel) (pk_k q_0 (pk_k q_1 (pk_k q_2 (pk_k q_3 (pk_k q_4 (pk_k q_5 (pk_k q_6 (pk_k q_7 (pk_k q_8 (pk_k q_9 (pk_k q_10 (pk_k q_11 (pk_k q_12 (pk_k q_13 (pk_k q_14 (pk_k q_15 (pk_k q_16 (pk_k q_17 (pk_k q_18 (pk_k q_19 (pk_k q_20 (pk_k q_21 (pk_k q_22 (pk_k q_23 (pk_k q_24 (pk_k q_25 (pk_k q_26 (pk_k q_27 (pk_k q_28 (pk_k q_29 (pk_k q_30 (pk_k q_31 (pk_n))))))))))))))))))))))))))))))))))
  obtain ⟨ta, fa, hKa⟩ := gzK (w := [(k_m0_power, .long), (k_m0_tape, .byte), (k_m0_isOpen, .boolean), (k_m0_isFallen, .boolean), (k_m0_speed, .int), (k_m0_fire, .int), (k_m0_air, .int), (k_m0_cameBy, .int), (k_m0_least, .long), (k_m0_before, .int), (k_m0_gas, .int), (k_m0_into, .int), (k_m0_rest, .int), (k_m0_isTold, .boolean), (k_m0_isPast, .boolean), (k_m0_kept, .int), (k_m0_smoke, .int), (k_m0_early, .int), (k_m0_manAt, .int), (k_m0_changeKind, .int), (k_m0_changeOf, .int), (k_m0_changeTo, .int), (k_m0_row, .int), (k_m0_openWas, .boolean), (k_m0_fallenWas, .boolean), (k_m0_speedWas, .int), (k_m0_readingOf, .int), (k_m0_low, .int), (k_m0_high, .int), (k_m0_back, .int)]) (hK1.sub [0, 1, 2, 3, 4, 5, 6, 7, 8, 9, 10, 11, 12, 13, 14, 15, 16, 17, 18, 19, 20, 21, 22, 23, 24, 25, 26, 27, 28, 29] (fm_of (pk_k p_0 (pk_k p_1 (pk_k p_2 (pk_k p_3 (pk_k p_4 (pk_k p_5 (pk_k p_6 (pk_k p_7 (pk_k p_8 (pk_k p_9 (pk_k p_10 (pk_k p_11 (pk_k p_12 (pk_k p_13 (pk_k p_14 (pk_k p_15 (pk_k p_16 (pk_k p_17 (pk_k p_18 (pk_k p_19 (pk_k p_20 (pk_k p_21 (pk_k p_22 (pk_k p_23 (pk_k p_24 (pk_k p_25 (pk_k p_26 (pk_k p_27 (pk_k p_28 (pk_k p_29 (pk_n)))))))))))))))))))))))))))))))))
  have r_0 : gA wa 0 (m0, .inr (14, fX14 (.int 0) (.ref m0_power) (.int 0) (.int (-1)) (.int 0) .null .null (.ref sp) (.ref m0_tape) (.int 0) (.int 0) (.int 0) (.int 0) (.int 0) (.int 0) (.int 0) (.long 0) (.ref m0_isOpen) (.ref m0_isFallen) (.ref m0_speed) (.ref m0_fire) (.int 10) (.int (-1)) (.int 0) (.ref m0_air) (.ref m0_cameBy) (.ref m0_least) (.ref m0_before) (.ref m0_gas) (.ref m0_into) (.ref m0_rest) (.ref m0_isTold) (.ref m0_isPast) (.ref m0_kept) (.ref m0_smoke) (.ref m0_early) (.int 0) (.ref m0_manAt) (.int 0) (.ref m0_changeKind) (.ref m0_changeOf) (.ref m0_changeTo) (.ref m0_row) (.ref m0_openWas) (.ref m0_fallenWas) (.ref m0_speedWas) (.int 0) (.ref m0_readingOf) (.ref m0_low) (.ref m0_high) (.ref m0_back))) := gq ea rfl
  have r_1 : gA wa 1 (sp, .inr (13, [.null, .null, .null, .null, .null, .int 0, .int 0, .int 0])) := gq ea rfl
  have r_2 : gA wa 2 (m0_power, .inl (k_m0_power, 14, .inr (.inl pw9))) := gq ea rfl
  have r_3 : gA wa 3 (m0_tape, .inl (k_m0_tape, 600, .inl (fun _ => 0))) := gq ea rfl
  have r_4 : gA wa 4 (m0_isOpen, .inl (k_m0_isOpen, 6, .inl (fun _ => 0))) := gq ea rfl
  have r_5 : gA wa 5 (m0_isFallen, .inl (k_m0_isFallen, 14, .inl (fun _ => 0))) := gq ea rfl
  have r_6 : gA wa 6 (m0_speed, .inl (k_m0_speed, 4, .inl (fun _ => 0))) := gq ea rfl
  have r_7 : gA wa 7 (m0_fire, .inl (k_m0_fire, 14, .inl (fun _ => 0))) := gq ea rfl
  have r_8 : gA wa 8 (m0_air, .inl (k_m0_air, 14, .inl (fun _ => 0))) := gq ea rfl
  have r_9 : gA wa 9 (m0_cameBy, .inl (k_m0_cameBy, 10, .inl (fun _ => 0))) := gq ea rfl
  have r_10 : gA wa 10 (m0_least, .inl (k_m0_least, 10, .inr (.inl (fun _ => 0)))) := gq ea rfl
  have r_11 : gA wa 11 (m0_before, .inl (k_m0_before, 14, .inl (fun _ => 0))) := gq ea rfl
  have r_12 : gA wa 12 (m0_gas, .inl (k_m0_gas, 14, .inl (fun _ => 0))) := gq ea rfl
  have r_13 : gA wa 13 (m0_into, .inl (k_m0_into, 14, .inl (fun _ => 0))) := gq ea rfl
  have r_14 : gA wa 14 (m0_rest, .inl (k_m0_rest, 14, .inl (fun _ => 0))) := gq ea rfl
  have r_15 : gA wa 15 (m0_isTold, .inl (k_m0_isTold, 14, .inl (fun _ => 0))) := gq ea rfl
  have r_16 : gA wa 16 (m0_isPast, .inl (k_m0_isPast, 10, .inl (fun _ => 0))) := gq ea rfl
  have r_17 : gA wa 17 (m0_kept, .inl (k_m0_kept, 4, .inl (fun _ => 0))) := gq ea rfl
  have r_18 : gA wa 18 (m0_smoke, .inl (k_m0_smoke, 14, .inl (fun _ => 0))) := gq ea rfl
  have r_19 : gA wa 19 (m0_early, .inl (k_m0_early, 10, .inl (fun _ => 0))) := gq ea rfl
  have r_20 : gA wa 20 (m0_manAt, .inl (k_m0_manAt, 20, .inl (fun _ => 0))) := gq ea rfl
  have r_21 : gA wa 21 (m0_changeKind, .inl (k_m0_changeKind, 5, .inl (fun _ => 0))) := gq ea rfl
  have r_22 : gA wa 22 (m0_changeOf, .inl (k_m0_changeOf, 5, .inl (fun _ => 0))) := gq ea rfl
  have r_23 : gA wa 23 (m0_changeTo, .inl (k_m0_changeTo, 5, .inl (fun _ => 0))) := gq ea rfl
  have r_24 : gA wa 24 (m0_row, .inl (k_m0_row, 5, .inl (fun _ => 0))) := gq ea rfl
  have r_25 : gA wa 25 (m0_openWas, .inl (k_m0_openWas, 6, .inl (fun _ => 0))) := gq ea rfl
  have r_26 : gA wa 26 (m0_fallenWas, .inl (k_m0_fallenWas, 14, .inl (fun _ => 0))) := gq ea rfl
  have r_27 : gA wa 27 (m0_speedWas, .inl (k_m0_speedWas, 4, .inl (fun _ => 0))) := gq ea rfl
  have r_28 : gA wa 28 (m0_readingOf, .inl (k_m0_readingOf, 8, .inl (fun _ => 0))) := gq ea rfl
  have r_29 : gA wa 29 (m0_low, .inl (k_m0_low, 8, .inl (fun _ => 0))) := gq ea rfl
  have r_30 : gA wa 30 (m0_high, .inl (k_m0_high, 8, .inl (fun _ => 0))) := gq ea rfl
  have r_31 : gA wa 31 (m0_back, .inl (k_m0_back, 10, .inl (fun _ => 0))) := gq ea rfl
  have s_0 : gA ta 0 (k_m0_power, .long) := gqK fa rfl
  have s_1 : gA ta 1 (k_m0_tape, .byte) := gqK fa rfl
  have s_2 : gA ta 2 (k_m0_isOpen, .boolean) := gqK fa rfl
  have s_3 : gA ta 3 (k_m0_isFallen, .boolean) := gqK fa rfl
  have s_4 : gA ta 4 (k_m0_speed, .int) := gqK fa rfl
  have s_5 : gA ta 5 (k_m0_fire, .int) := gqK fa rfl
  have s_6 : gA ta 6 (k_m0_air, .int) := gqK fa rfl
  have s_7 : gA ta 7 (k_m0_cameBy, .int) := gqK fa rfl
  have s_8 : gA ta 8 (k_m0_least, .long) := gqK fa rfl
  have s_9 : gA ta 9 (k_m0_before, .int) := gqK fa rfl
  have s_10 : gA ta 10 (k_m0_gas, .int) := gqK fa rfl
  have s_11 : gA ta 11 (k_m0_into, .int) := gqK fa rfl
  have s_12 : gA ta 12 (k_m0_rest, .int) := gqK fa rfl
  have s_13 : gA ta 13 (k_m0_isTold, .boolean) := gqK fa rfl
  have s_14 : gA ta 14 (k_m0_isPast, .boolean) := gqK fa rfl
  have s_15 : gA ta 15 (k_m0_kept, .int) := gqK fa rfl
  have s_16 : gA ta 16 (k_m0_smoke, .int) := gqK fa rfl
  have s_17 : gA ta 17 (k_m0_early, .int) := gqK fa rfl
  have s_18 : gA ta 18 (k_m0_manAt, .int) := gqK fa rfl
  have s_19 : gA ta 19 (k_m0_changeKind, .int) := gqK fa rfl
  have s_20 : gA ta 20 (k_m0_changeOf, .int) := gqK fa rfl
  have s_21 : gA ta 21 (k_m0_changeTo, .int) := gqK fa rfl
  have s_22 : gA ta 22 (k_m0_row, .int) := gqK fa rfl
  have s_23 : gA ta 23 (k_m0_openWas, .boolean) := gqK fa rfl
  have s_24 : gA ta 24 (k_m0_fallenWas, .boolean) := gqK fa rfl
  have s_25 : gA ta 25 (k_m0_speedWas, .int) := gqK fa rfl
  have s_26 : gA ta 26 (k_m0_readingOf, .int) := gqK fa rfl
  have s_27 : gA ta 27 (k_m0_low, .int) := gqK fa rfl
  have s_28 : gA ta 28 (k_m0_high, .int) := gqK fa rfl
  have s_29 : gA ta 29 (k_m0_back, .int) := gqK fa rfl
  exact ⟨wa, ta, ⟨(fun i => ([sp, m0_power, m0_tape, m0_isOpen, m0_isFallen, m0_speed, m0_fire, m0_air, m0_cameBy, m0_least, m0_before, m0_gas, m0_into, m0_rest, m0_isTold, m0_isPast, m0_kept, m0_smoke, m0_early, m0_manAt, m0_changeKind, m0_changeOf, m0_changeTo, m0_row, m0_openWas, m0_fallenWas, m0_speedWas, m0_readingOf, m0_low, m0_high, m0_back] : List Nat).getD i 0), (fun i => ([k_m0_power, k_m0_tape, k_m0_isOpen, k_m0_isFallen, k_m0_speed, k_m0_fire, k_m0_air, k_m0_cameBy, k_m0_least, k_m0_before, k_m0_gas, k_m0_into, k_m0_rest, k_m0_isTold, k_m0_isPast, k_m0_kept, k_m0_smoke, k_m0_early, k_m0_manAt, k_m0_changeKind, k_m0_changeOf, k_m0_changeTo, k_m0_row, k_m0_openWas, k_m0_fallenWas, k_m0_speedWas, k_m0_readingOf, k_m0_low, k_m0_high, k_m0_back] : List ClassId).getD i k_m0_power), (mkG [((0 : Nat) : Int), 0, 0, 0, 0, 0, (0 : Int32).toInt, (0 : Int32).toInt, ((-1) : Int32).toInt] (tpM 0 (fun _ => 0))), MZ_mk (fun i => ([sp, m0_power, m0_tape, m0_isOpen, m0_isFallen, m0_speed, m0_fire, m0_air, m0_cameBy, m0_least, m0_before, m0_gas, m0_into, m0_rest, m0_isTold, m0_isPast, m0_kept, m0_smoke, m0_early, m0_manAt, m0_changeKind, m0_changeOf, m0_changeTo, m0_row, m0_openWas, m0_fallenWas, m0_speedWas, m0_readingOf, m0_low, m0_high, m0_back] : List Nat).getD i 0) (fun i => ([k_m0_power, k_m0_tape, k_m0_isOpen, k_m0_isFallen, k_m0_speed, k_m0_fire, k_m0_air, k_m0_cameBy, k_m0_least, k_m0_before, k_m0_gas, k_m0_into, k_m0_rest, k_m0_isTold, k_m0_isPast, k_m0_kept, k_m0_smoke, k_m0_early, k_m0_manAt, k_m0_changeKind, k_m0_changeOf, k_m0_changeTo, k_m0_row, k_m0_openWas, k_m0_fallenWas, k_m0_speedWas, k_m0_readingOf, k_m0_low, k_m0_high, k_m0_back] : List ClassId).getD i k_m0_power) m0 (mkG [((0 : Nat) : Int), 0, 0, 0, 0, 0, (0 : Int32).toInt, (0 : Int32).toInt, ((-1) : Int32).toInt] (tpM 0 (fun _ => 0))) wa ta 0 0 (-1) 0 .null 0 0 0 0 0 0 0 0 10 .null .null .null .null .null 0 0 0 pw9 (fun _ => 0) (fun _ => 0) (fun _ => 0) (fun _ => 0) (fun _ => 0) (fun _ => 0) (fun _ => 0) (fun _ => 0) (fun _ => 0) (fun _ => 0) (fun _ => 0) (fun _ => 0) (fun _ => 0) (fun _ => 0) (fun _ => 0) (fun _ => 0) (fun _ => 0) (fun _ => 0) (fun _ => 0) (fun _ => 0) (fun _ => 0) (fun _ => 0) (fun _ => 0) (fun _ => 0) (fun _ => 0) (fun _ => 0) (fun _ => 0) (fun _ => 0) (fun _ => 0) r_0 r_1 r_2 r_3 r_4 r_5 r_6 r_7 r_8 r_9 r_10 r_11 r_12 r_13 r_14 r_15 r_16 r_17 r_18 r_19 r_20 r_21 r_22 r_23 r_24 r_25 r_26 r_27 r_28 r_29 r_30 r_31 s_0 s_1 s_2 s_3 s_4 s_5 s_6 s_7 s_8 s_9 s_10 s_11 s_12 s_13 s_14 s_15 s_16 s_17 s_18 s_19 s_20 s_21 s_22 s_23 s_24 s_25 s_26 s_27 s_28 s_29 (rg0 (by decide) (by decide)) (rg0 (by decide) (by decide)) (fun j hj => by rw [hf_0 j hj]; exact pw3_bd j hj) (rg0 (by decide) (by decide)) (rg0 (by decide) (by decide)) (rg0 (by decide) (by decide)) (rg0 (by decide) (by decide)) (rg0 (by decide) (by decide)) ch0 (rg0 (by decide) (by decide)) (rg0 (by decide) (by decide)) (rg0 (by decide) (by decide)) (rg0 (by decide) (by decide)) (rg0 (by decide) (by decide)) (rg0 (by decide) (by decide)) (by decide) rfl rfl rfl rfl rfl rfl rfl rfl rfl mkG_T, inm_mk⟩, hPa, hKa, hDa⟩
