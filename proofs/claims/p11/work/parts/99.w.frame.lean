/-! a contract over some cells of a world as one over the whole world (the rest stays), at the level of Met -/
theorem fm_of {α : Type} {f : Nat → Option α} {is : List Nat} {w : List α} (h : is.map f = w.map some) : is.filterMap f = w := by
  have h1 : is.filterMap f = (is.map f).filterMap id := by rw [List.filterMap_map]; rfl
  rw [h1, h, List.filterMap_map]
  exact List.filterMap_some
theorem fr_free {n0 sz : Nat} {wc wx : va_W} (hD : va_D (fun q => n0 ≤ q) wx) {H : Heap} (hsz : H.size = sz) (isC : List Nat) (hC : isC.map (fun i => wx[i]?) = wc.map some) : ∀ q, va_A wc sz q → va_A wx sz q := by
  subst hsz
  exact va_free (H0 := H) (H := H) (locs := []) (hD.self (sz := H.size)) va_S.rf (fun q h => Or.inr h) isC hC
theorem pk_n {α : Type} {w : List α} : ([] : List Nat).map (fun i => w[i]?) = ([] : List α).map some := rfl
def gA {α : Type} (w : List α) (k : Nat) (c : α) : Prop := w[k]? = some c
theorem pk_k {α : Type} {w : List α} {i : Nat} {c : α} {is : List Nat} {cs : List α} (h : gA w i c) (t : is.map (fun i => w[i]?) = cs.map some) : (i :: is).map (fun i => w[i]?) = (c :: cs).map some := by
  have h9 : w[i]? = some c := h
  rw [List.map_cons, List.map_cons, h9, t]
theorem gq {w1 w : va_W} {j : Nat} {c : Nat × va_E} (e : w1 = w) (h : w[j]? = some c) : gA w1 j c := by rw [e]; exact h
theorem gz {A : Nat → Prop} {D : va_G} {H : Heap} {w : va_W} (hP : va_P D classes w H) (hD : va_D A w) : ∃ w1 : va_W, w1 = w ∧ va_P D classes w1 H ∧ va_D A w1 := ⟨w, rfl, hP, hD⟩
theorem gz2 {A : Nat → Prop} {D : va_G} {H : Heap} {wa wb : va_W} (hP : va_P D classes (wa ++ wb) H) (hD : va_D A (wa ++ wb)) : ∃ w1 w2 : va_W, w1 = wa ∧ w2 = wb ∧ va_P D classes (w1 ++ w2) H ∧ va_D A (w1 ++ w2) := ⟨wa, wb, rfl, rfl, hP, hD⟩
theorem kt_new {D : va_G} {n : Nat} {tx tb : List (ClassId × FieldType)} {t : State} (h : va_K D classes tx t) (h1 : va_K D classes tb t) : va_K D classes (tx.take n ++ tb) t := by
  refine ⟨h.1, fun k q hk => ?_⟩
  rcases List.mem_append.mp (List.mem_of_getElem? hk) with h2 | h2
  · obtain ⟨i, hi⟩ := List.getElem?_of_mem (List.mem_of_mem_take h2)
    exact h.2 i q hi
  · obtain ⟨i, hi⟩ := List.getElem?_of_mem h2
    exact h1.2 i q hi
theorem kn_l {n i : Nat} {tx tb : List (ClassId × FieldType)} {c : ClassId × FieldType} (hi : i < n) (h : gA tx i c) : gA (tx.take n ++ tb) i c := by
  show (tx.take n ++ tb)[i]? = some c
  have h1 : (tx.take n)[i]? = some c := by rw [List.getElem?_take_of_lt hi]; exact h
  rw [List.getElem?_append_left (List.getElem?_eq_some_iff.mp h1).1]
  exact h1
theorem kn_b {n k : Nat} {tx tb : List (ClassId × FieldType)} {c0 c : ClassId × FieldType} (j : Nat) (hk : k = n + 1 + j) (h : gA tx n c0) (hc : tb[j]? = some c) : gA (tx.take (n + 1) ++ tb) k c := by
  show (tx.take (n + 1) ++ tb)[k]? = some c
  have hl := (List.getElem?_eq_some_iff.mp h).1
  have h2 : (tx.take (n + 1)).length = n + 1 := by rw [List.length_take]; omega
  rw [List.getElem?_append_right (by rw [h2]; omega), h2, show k - (n + 1) = j from by omega]
  exact hc
theorem gzK {D : va_G} {w : List (ClassId × FieldType)} {U : State} (h : va_K D classes w U) : ∃ w1, w1 = w ∧ va_K D classes w1 U := ⟨w, rfl, h⟩
theorem gqK {w1 w : List (ClassId × FieldType)} {j : Nat} {c : ClassId × FieldType} (e : w1 = w) (h : w[j]? = some c) : gA w1 j c := by rw [e]; exact h
def putW (ws : va_W) : List Nat → va_W → va_W
  | i :: is, c :: cs => (putW ws is cs).set i c
  | _, _ => ws
theorem put_len (ws : va_W) : ∀ (is : List Nat) (cs : va_W), (putW ws is cs).length = ws.length
  | [], cs => by cases cs <;> rfl
  | _ :: _, [] => rfl
  | i :: is, c :: cs => by
    show ((putW ws is cs).set i c).length = _
    rw [List.length_set]
    exact put_len ws is cs
theorem put_ne' {ws : va_W} {k : Nat} : ∀ (is : List Nat) (cs : va_W), is.contains k = false → (putW ws is cs)[k]? = ws[k]?
  | [], cs, _ => by cases cs <;> rfl
  | _ :: _, [], _ => rfl
  | i :: is, c :: cs, h => by
    have h1 : k ≠ i ∧ is.contains k = false := by
      simp only [List.contains_cons, Bool.or_eq_false_iff, beq_eq_false_iff_ne] at h
      exact h
    show ((putW ws is cs).set i c)[k]? = _
    rw [List.getElem?_set_ne (fun e => h1.1 e.symm)]
    exact put_ne' is cs h1.2
theorem put_or {ws : va_W} {k : Nat} {q : Nat × va_E} : ∀ (is : List Nat) (cs : va_W), is.length = cs.length → (putW ws is cs)[k]? = some q → (∃ j : Nat, is[j]? = some k ∧ cs[j]? = some q) ∨ (is.contains k = false ∧ ws[k]? = some q)
  | [], cs, _, h => Or.inr ⟨rfl, by cases cs <;> exact h⟩
  | _ :: _, [], hl, _ => by simp at hl
  | i :: is, c :: cs, hl, h => by
    have h0 : ((putW ws is cs).set i c)[k]? = some q := h
    by_cases e : i = k
    · refine Or.inl ⟨0, by rw [e]; rfl, ?_⟩
      have hlt := (List.getElem?_eq_some_iff.mp h0).1
      rw [List.length_set] at hlt
      rw [e, List.getElem?_set_self hlt] at h0
      exact h0
    · rw [List.getElem?_set_ne e] at h0
      rcases put_or is cs (Nat.succ.inj hl) h0 with ⟨j, a, b⟩ | ⟨a, b⟩
      · exact Or.inl ⟨j + 1, a, b⟩
      · refine Or.inr ⟨?_, b⟩
        simp only [List.contains_cons, Bool.or_eq_false_iff, beq_eq_false_iff_ne]
        exact ⟨fun h => e h.symm, a⟩
theorem put_at' {ws : va_W} {k : Nat} {c : Nat × va_E} (hk : k < ws.length) : ∀ (is : List Nat) (cs : va_W) (j : Nat), va_nd is = true → is[j]? = some k → cs[j]? = some c → (putW ws is cs)[k]? = some c
  | [], _, j, _, h, _ => by simp at h
  | _ :: _, [], j, _, _, h => by simp at h
  | i :: is, d :: cs, 0, _, h1, h2 => by
    have e1 : i = k := Option.some.inj h1
    have e2 : d = c := Option.some.inj h2
    show ((putW ws is cs).set i d)[k]? = some c
    rw [e1, e2]
    exact List.getElem?_set_self (by rw [put_len]; exact hk)
  | i :: is, d :: cs, j + 1, hn, h1, h2 => by
    have h3 : is[j]? = some k := h1
    have h4 : cs[j]? = some c := h2
    have hn' : decide (i ∉ is) = true ∧ va_nd is = true := by
      have : (decide (i ∉ is) && va_nd is) = true := hn
      simpa using this
    have e : i ≠ k := by
      intro e
      have := of_decide_eq_true hn'.1
      exact this (by rw [e]; exact List.mem_of_getElem? h3)
    show ((putW ws is cs).set i d)[k]? = some c
    rw [List.getElem?_set_ne e]
    exact put_at' hk is cs j hn'.2 h3 h4
/-! the world behind a call: base (its first n cells, those at the places is new), then new ones -/
def nwW (n : Nat) (ws : va_W) (is : List Nat) (wa wb : va_W) : va_W := putW (ws.take n) is wa ++ wb
theorem nw_ne {n k : Nat} {ws : va_W} {is : List Nat} {wa wb : va_W} {c : Nat × va_E} (hi : is.contains k = false) (hk : k < n) (h : gA ws k c) : gA (nwW n ws is wa wb) k c := by
  show (nwW n ws is wa wb)[k]? = some c
  have h1 : (ws.take n)[k]? = some c := by rw [List.getElem?_take_of_lt hk]; exact h
  have hl := (List.getElem?_eq_some_iff.mp h1).1
  unfold nwW
  rw [List.getElem?_append_left (by rw [put_len]; exact hl), put_ne' is wa hi]
  exact h1
theorem nw_at {n k : Nat} {ws : va_W} {is : List Nat} {wa wb : va_W} {c0 c : Nat × va_E} (hn : va_nd is = true) (j : Nat) (hj : is[j]? = some k) (hk : k < n) (h : gA ws k c0) (hc : gA wa j c) : gA (nwW n ws is wa wb) k c := by
  show (nwW n ws is wa wb)[k]? = some c
  have h1 : (ws.take n)[k]? = some c0 := by rw [List.getElem?_take_of_lt hk]; exact h
  have hl := (List.getElem?_eq_some_iff.mp h1).1
  unfold nwW
  rw [List.getElem?_append_left (by rw [put_len]; exact hl)]
  exact put_at' hl is wa j hn hj hc
theorem nw_b {n k : Nat} {ws : va_W} {is : List Nat} {wa wb : va_W} {c0 c : Nat × va_E} (j : Nat) (hk : k = n + 1 + j) (h : gA ws n c0) (hc : gA wb j c) : gA (nwW (n + 1) ws is wa wb) k c := by
  show (nwW (n + 1) ws is wa wb)[k]? = some c
  have hl := (List.getElem?_eq_some_iff.mp h).1
  have h2 : (putW (ws.take (n + 1)) is wa).length = n + 1 := by rw [put_len, List.length_take]; omega
  unfold nwW
  rw [List.getElem?_append_right (by rw [h2]; omega), h2, show k - (n + 1) = j from by omega]
  exact hc
/-- what a call over the cells isC leaves of the rest -/
def frJ (D : va_G) (sz : Nat) (wx wc : va_W) (isC : List Nat) (t : State) : Prop := (∀ (k : Nat) (q : Nat × va_E), wx[k]? = some q → isC.contains k = false → va_at D classes q t.heap ∧ ¬ va_A wc sz q.1) ∧ (∀ q, va_A wc sz q → va_A wx sz q) ∧ (∀ (i j : Nat) (p q : Nat × va_E), wx[i]? = some p → wx[j]? = some q → p.1 = q.1 → i = j)
theorem frJ_of {D : va_G} {n0 sz : Nat} {wc wx : va_W} {st t : State} (hsz : st.heap.size = sz) (hP : va_P D classes wx st.heap) (hD : va_D (fun q => n0 ≤ q) wx) (isC : List Nat) (hC : isC.map (fun i => wx[i]?) = wc.map some) (hF : va_F (va_A wc sz) st t) : frJ D sz wx wc isC t := by
  refine ⟨?_, fr_free hD hsz isC hC, hD.1⟩
  intro k q hk hn
  have hlt : q.1 < st.heap.size := (hP k q hk).lt
  have hna : ¬ va_A wc sz q.1 := by
    intro h
    rcases h with ⟨j, e, h⟩ | h
    · have h1 : (isC.map (fun i => wx[i]?))[j]? = some (some (q.1, e)) := by rw [hC, List.getElem?_map, h]; rfl
      rw [List.getElem?_map] at h1
      obtain ⟨i, hi, hi2⟩ : ∃ i, isC[j]? = some i ∧ wx[i]? = some (q.1, e) := by
        cases hc : isC[j]? with
        | none => rw [hc] at h1; simp at h1
        | some i => rw [hc] at h1; exact ⟨i, rfl, Option.some.inj h1⟩
      have e1 : k = i := hD.1 k i q (q.1, e) hk hi2 rfl
      have h2 : isC.contains k = true := by rw [e1]; exact List.contains_iff_mem.mpr (List.mem_of_getElem? hi)
      rw [h2] at hn
      exact absurd hn (by decide)
    · omega
  exact ⟨(hP k q hk).kept (hF.2 q.1 hlt hna), hna⟩
theorem J_new {D : va_G} {sz : Nat} {wx wc wa wb : va_W} {isC isO : List Nat} {t : State} (n : Nat) (hJ : frJ D sz wx wc isC t) (hP1 : va_P D classes (wa ++ wb) t.heap) (hD1 : va_D (va_A wc sz) (wa ++ wb)) (hl : isO.length = wa.length) (hs : isC.all (fun i => isO.contains i) = true) : va_P D classes (nwW n wx isO wa wb) t.heap ∧ va_D (va_A wx sz) (nwW n wx isO wa wb) := by
  have key : ∀ (k : Nat) (q : Nat × va_E), (nwW n wx isO wa wb)[k]? = some q → (∃ j : Nat, (wa ++ wb)[j]? = some q ∧ ((isO[j]? = some k ∧ j < wa.length) ∨ (wa.length ≤ j ∧ k = (wx.take n).length + (j - wa.length)))) ∨ (isC.contains k = false ∧ wx[k]? = some q) := by
    intro k q hk
    unfold nwW at hk
    by_cases hlt : k < (putW (wx.take n) isO wa).length
    · rw [List.getElem?_append_left hlt] at hk
      rcases put_or isO wa hl hk with ⟨j, a, b⟩ | ⟨a, b⟩
      · have hj := (List.getElem?_eq_some_iff.mp b).1
        exact Or.inl ⟨j, by rw [List.getElem?_append_left hj]; exact b, Or.inl ⟨a, hj⟩⟩
      · refine Or.inr ⟨?_, ?_⟩
        · cases hc : isC.contains k with
          | false => rfl
          | true =>
            have h1 := List.all_eq_true.mp hs k (List.contains_iff_mem.mp hc)
            rw [h1] at a
            exact absurd a (by decide)
        · rw [put_len, List.length_take] at hlt
          rw [List.getElem?_take_of_lt (by omega)] at b
          exact b
    · rw [List.getElem?_append_right (by omega), put_len] at hk
      rw [put_len] at hlt
      refine Or.inl ⟨wa.length + (k - (wx.take n).length), ?_, Or.inr ⟨by omega, by omega⟩⟩
      rw [List.getElem?_append_right (by omega), Nat.add_sub_cancel_left]
      exact hk
  refine ⟨?_, ?_, ?_⟩
  · intro k q hk
    rcases key k q hk with ⟨j, a, -⟩ | ⟨a, b⟩
    · exact hP1 j q a
    · exact (hJ.1 k q b a).1
  · intro i j p q hi hj e
    rcases key i p hi with ⟨i1, a1, b1⟩ | ⟨a1, b1⟩ <;> rcases key j q hj with ⟨j1, a2, b2⟩ | ⟨a2, b2⟩
    · have e1 := hD1.1 i1 j1 p q a1 a2 e
      subst e1
      rcases b1 with ⟨b1, c1⟩ | ⟨c1, b1⟩ <;> rcases b2 with ⟨b2, c2⟩ | ⟨c2, b2⟩
      · rw [b1] at b2; exact Option.some.inj b2
      · omega
      · omega
      · omega
    · exact absurd (by rw [← e]; exact hD1.2 i1 p a1) (hJ.1 j q b2 a2).2
    · exact absurd (by rw [e]; exact hD1.2 j1 q a2) (hJ.1 i p b1 a1).2
    · exact hJ.2.2 i j p q b1 b2 e
  · intro k q hk
    rcases key k q hk with ⟨j, a, -⟩ | ⟨a, b⟩
    · exact hJ.2.1 _ (hD1.2 j q a)
    · exact va_A.in b
theorem J_put {D : va_G} {sz : Nat} {wx wc wa : va_W} {isC isO : List Nat} {t : State} (n : Nat) (hJ : frJ D sz wx wc isC t) (hP1 : va_P D classes wa t.heap) (hD1 : va_D (va_A wc sz) wa) (hl : isO.length = wa.length) (hs : isC.all (fun i => isO.contains i) = true) : va_P D classes (nwW n wx isO wa []) t.heap ∧ va_D (va_A wx sz) (nwW n wx isO wa []) :=
  J_new n hJ (by rw [List.append_nil]; exact hP1) (by rw [List.append_nil]; exact hD1) hl hs
theorem fr_i {l : Launch} {y : MethodName} {wl : List Cond} {rm : Room} {D : va_G} {av : List Value} {sz n0 : Nat} {atx : Nat → Nat × Nat} {wc wx : va_W} {tc tx : List (ClassId × FieldType)} {S : Type} {post : Int32 → S → Prop} {B : S → State → Prop} {B' : Int32 → State → Prop} {mc ms : Nat}
    (hM : Met l y wl rm (va_Pc av (fun U => U.heap.size = sz ∧ n0 ≤ sz ∧ GW n0 atx U ∧ va_P D classes wc U.heap ∧ va_K D classes tc U ∧ va_D (fun q => n0 ≤ q) wc)) (va_Qi post B (va_A wc sz)) mc ms (va_A wc sz))
    (isC isT : List Nat) (hC : isC.map (fun i => wx[i]?) = wc.map some) (hCn : va_nd isC = true) (hT : isT.map (fun i => tx[i]?) = tc.map some)
    (hB : ∀ (r : Int32) (u : S) (t : State), post r u → B u t → va_K D classes tx t → frJ D sz wx wc isC t → B' r t) :
    Met l y wl rm (va_Pc av (fun U => U.heap.size = sz ∧ n0 ≤ sz ∧ GW n0 atx U ∧ va_P D classes wx U.heap ∧ va_K D classes tx U ∧ va_D (fun q => n0 ≤ q) wx)) (va_Qi (fun (r u : Int32) => r = u) B' (va_A wx sz)) mc ms (va_A wx sz) := by
  intro p e ha hc hk s m args below hf happ hP hK0
  obtain ⟨hav, hsz, hn0, hG, hP0, hKx, hD0⟩ := hP
  have hfr := fr_free hD0 hsz isC hC
  obtain ⟨n, o, h1, h2, h3, ⟨⟨r, u, ho, hp, hb⟩, hFz⟩, L, hE, hL⟩ := hM p e ha hc hk s m args below hf happ ⟨hav, hsz, hn0, hG, hP0.sub isC (fm_of hC), hKx.sub isT (fm_of hT), hD0.sub isC hCn hC⟩ hK0
  have hend := hB r u _ hp hb (va_K.moved hE.2.1.alike hKx) (frJ_of hsz hP0 hD0 isC hC hFz)
  exact ⟨n, o, h1, h2, h3, ⟨⟨r, r, ho, rfl, hend⟩, hFz.1, fun q hq hA => hFz.2 q hq (fun h => hA (hfr q h))⟩, L, hE, fun q hq => hfr _ (hL q hq)⟩
theorem fr_l {l : Launch} {y : MethodName} {wl : List Cond} {rm : Room} {D : va_G} {av : List Value} {sz n0 : Nat} {atx : Nat → Nat × Nat} {wc wx : va_W} {tc tx : List (ClassId × FieldType)} {S : Type} {post : Int64 → S → Prop} {B : S → State → Prop} {B' : Int64 → State → Prop} {mc ms : Nat}
    (hM : Met l y wl rm (va_Pc av (fun U => U.heap.size = sz ∧ n0 ≤ sz ∧ GW n0 atx U ∧ va_P D classes wc U.heap ∧ va_K D classes tc U ∧ va_D (fun q => n0 ≤ q) wc)) (va_Ql post B (va_A wc sz)) mc ms (va_A wc sz))
    (isC isT : List Nat) (hC : isC.map (fun i => wx[i]?) = wc.map some) (hCn : va_nd isC = true) (hT : isT.map (fun i => tx[i]?) = tc.map some)
    (hB : ∀ (r : Int64) (u : S) (t : State), post r u → B u t → va_K D classes tx t → frJ D sz wx wc isC t → B' r t) :
    Met l y wl rm (va_Pc av (fun U => U.heap.size = sz ∧ n0 ≤ sz ∧ GW n0 atx U ∧ va_P D classes wx U.heap ∧ va_K D classes tx U ∧ va_D (fun q => n0 ≤ q) wx)) (va_Ql (fun (r u : Int64) => r = u) B' (va_A wx sz)) mc ms (va_A wx sz) := by
  intro p e ha hc hk s m args below hf happ hP hK0
  obtain ⟨hav, hsz, hn0, hG, hP0, hKx, hD0⟩ := hP
  have hfr := fr_free hD0 hsz isC hC
  obtain ⟨n, o, h1, h2, h3, ⟨⟨r, u, ho, hp, hb⟩, hFz⟩, L, hE, hL⟩ := hM p e ha hc hk s m args below hf happ ⟨hav, hsz, hn0, hG, hP0.sub isC (fm_of hC), hKx.sub isT (fm_of hT), hD0.sub isC hCn hC⟩ hK0
  have hend := hB r u _ hp hb (va_K.moved hE.2.1.alike hKx) (frJ_of hsz hP0 hD0 isC hC hFz)
  exact ⟨n, o, h1, h2, h3, ⟨⟨r, r, ho, rfl, hend⟩, hFz.1, fun q hq hA => hFz.2 q hq (fun h => hA (hfr q h))⟩, L, hE, fun q hq => hfr _ (hL q hq)⟩
theorem fr_xi {l : Launch} {y : MethodName} {wl : List Cond} {rm : Room} {D : va_G} {av : List Value} {sz n0 : Nat} {atx : Nat → Nat × Nat} {wc wx : va_W} {tc tx : List (ClassId × FieldType)} {S : Type} {post : Int32 → S → Prop} {B : S → State → Prop} {B' : Int32 → State → Prop} {mc ms : Nat}
    (hM : vx_Met l y wl rm (va_Pc av (fun U => U.heap.size = sz ∧ n0 ≤ sz ∧ GW n0 atx U ∧ va_P D classes wc U.heap ∧ va_K D classes tc U ∧ va_D (fun q => n0 ≤ q) wc)) (va_Qi post B (va_A wc sz)) (vx_X (fun _ : Unit => False) (fun (_ : Addr) (_ : String) (_ : Unit) (_ : State) => True) (va_A wc sz)) mc ms (va_A wc sz))
    (isC isT : List Nat) (hC : isC.map (fun i => wx[i]?) = wc.map some) (hCn : va_nd isC = true) (hT : isT.map (fun i => tx[i]?) = tc.map some)
    (hB : ∀ (r : Int32) (u : S) (t : State), post r u → B u t → va_K D classes tx t → frJ D sz wx wc isC t → B' r t) :
    vx_Met l y wl rm (va_Pc av (fun U => U.heap.size = sz ∧ n0 ≤ sz ∧ GW n0 atx U ∧ va_P D classes wx U.heap ∧ va_K D classes tx U ∧ va_D (fun q => n0 ≤ q) wx)) (va_Qi (fun (r u : Int32) => r = u) B' (va_A wx sz)) (vx_X (fun _ : Unit => False) (fun (_ : Addr) (_ : String) (_ : Unit) (_ : State) => True) (va_A wx sz)) mc ms (va_A wx sz) := by
  intro p e ha hc hk s m args below hf happ hP hK0
  obtain ⟨hav, hsz, hn0, hG, hP0, hKx, hD0⟩ := hP
  have hfr := fr_free hD0 hsz isC hC
  obtain ⟨n, o, h1, h2, h3, hq⟩ := hM p e ha hc hk s m args below hf happ ⟨hav, hsz, hn0, hG, hP0.sub isC (fm_of hC), hKx.sub isT (fm_of hT), hD0.sub isC hCn hC⟩ hK0
  rcases hq with ⟨⟨⟨r, u, ho, hp, hb⟩, hFz⟩, L, hE, hL⟩ | ⟨q, ho, E, ce, L, ⟨u, hu, -⟩, -⟩
  · have hend := hB r u _ hp hb (va_K.moved hE.2.1.alike hKx) (frJ_of hsz hP0 hD0 isC hC hFz)
    exact ⟨n, o, h1, h2, h3, Or.inl ⟨⟨⟨r, r, ho, rfl, hend⟩, hFz.1, fun q hq hA => hFz.2 q hq (fun h => hA (hfr q h))⟩, L, hE, fun q hq => hfr _ (hL q hq)⟩⟩
  · exact hu.elim
/-! worlds whose cells aren't named: two lists side by side -/
theorem ap_l {D : va_G} {cl : List vw_C} {a b : va_W} {H : Heap} (h : va_P D cl (a ++ b) H) : va_P D cl a H := fun k q hk => h k q (by rw [List.getElem?_append_left (List.getElem?_eq_some_iff.mp hk).1]; exact hk)
theorem ap_r {D : va_G} {cl : List vw_C} {a b : va_W} {H : Heap} (h : va_P D cl (a ++ b) H) : va_P D cl b H := fun k q hk => h (a.length + k) q (by rw [List.getElem?_append_right (Nat.le_add_right _ _), Nat.add_sub_cancel_left]; exact hk)
theorem ad_l {A : Nat → Prop} {a b : va_W} (h : va_D A (a ++ b)) : va_D A a :=
  have k : ∀ (i : Nat) (q : Nat × va_E), a[i]? = some q → (a ++ b)[i]? = some q := fun i q hk => by rw [List.getElem?_append_left (List.getElem?_eq_some_iff.mp hk).1]; exact hk
  ⟨fun i j p q hi hj e => h.1 i j p q (k i p hi) (k j q hj) e, fun i q hi => h.2 i q (k i q hi)⟩
theorem ad_r {A : Nat → Prop} {a b : va_W} (h : va_D A (a ++ b)) : va_D A b :=
  have k : ∀ (i : Nat) (q : Nat × va_E), b[i]? = some q → (a ++ b)[a.length + i]? = some q := fun i q hk => by rw [List.getElem?_append_right (Nat.le_add_right _ _), Nat.add_sub_cancel_left]; exact hk
  ⟨fun i j p q hi hj e => by have := h.1 _ _ p q (k i p hi) (k j q hj) e; omega, fun i q hi => h.2 _ q (k i q hi)⟩
theorem ad_x {A : Nat → Prop} {a b : va_W} (h : va_D A (a ++ b)) : ∀ (i j : Nat) (p q : Nat × va_E), a[i]? = some p → b[j]? = some q → p.1 ≠ q.1 := by
  intro i j p q hi hj e
  have hl := (List.getElem?_eq_some_iff.mp hi).1
  have := h.1 i (a.length + j) p q (by rw [List.getElem?_append_left hl]; exact hi) (by rw [List.getElem?_append_right (Nat.le_add_right _ _), Nat.add_sub_cancel_left]; exact hj) e
  omega
theorem fr_O {A0 : Nat → Prop} {w : va_W} {H0 H : Heap} {locs : List Loc} (hD : va_D A0 w) (hS : va_S A0 H0 H locs) (hA : ∀ q, H0.size ≤ q → A0 q) : ∀ q, va_A w H.size q → A0 q := by
  intro q h
  rcases h with ⟨k, e, h⟩ | h
  · exact hD.2 k (q, e) h
  · exact hA q (Nat.le_trans hS.1 h)
theorem jo_l {A0 : Nat → Prop} {D : va_G} {cl : List vw_C} {a b a' : va_W} {H H1 : Heap} (hP : va_P D cl (a ++ b) H) (hD : va_D A0 (a ++ b)) (hk : ∀ q : Nat, q < H.size → ¬ va_A a H.size q → H1[q]? = H[q]?) (hF : ∀ q, va_A a H.size q → A0 q) (hP1 : va_P D cl a' H1) (hD1 : va_D (va_A a H.size) a') : va_P D cl (a' ++ b) H1 ∧ va_D A0 (a' ++ b) := by
  have apart : ∀ (k : Nat) (q : Nat × va_E), b[k]? = some q → q.1 < H.size ∧ ¬ va_A a H.size q.1 := by
    intro k q hq
    have hl := (ap_r hP k q hq).lt
    refine ⟨hl, fun h => ?_⟩
    rcases h with ⟨k2, e, h⟩ | h
    · exact ad_x hD k2 k (q.1, e) q h hq rfl
    · omega
  refine ⟨va_P.app hP1 (fun k q hq => (ap_r hP k q hq).kept (hk q.1 (apart k q hq).1 (apart k q hq).2)), va_D.app (hD1.weaken (fun k q _ h => hF q.1 h)) (ad_r hD) (fun i j x y hx hy hxy => ?_)⟩
  exact (apart j y hy).2 (by rw [← hxy]; exact hD1.2 i x hx)
theorem jo_r {A0 : Nat → Prop} {D : va_G} {cl : List vw_C} {a b b' : va_W} {H H1 : Heap} (hP : va_P D cl (a ++ b) H) (hD : va_D A0 (a ++ b)) (hk : ∀ q : Nat, q < H.size → ¬ va_A b H.size q → H1[q]? = H[q]?) (hF : ∀ q, va_A b H.size q → A0 q) (hP1 : va_P D cl b' H1) (hD1 : va_D (va_A b H.size) b') : va_P D cl (a ++ b') H1 ∧ va_D A0 (a ++ b') := by
  have apart : ∀ (k : Nat) (q : Nat × va_E), a[k]? = some q → q.1 < H.size ∧ ¬ va_A b H.size q.1 := by
    intro k q hq
    have hl := (ap_l hP k q hq).lt
    refine ⟨hl, fun h => ?_⟩
    rcases h with ⟨k2, e, h⟩ | h
    · exact ad_x hD k k2 q (q.1, e) hq h rfl
    · omega
  refine ⟨va_P.app (fun k q hq => (ap_l hP k q hq).kept (hk q.1 (apart k q hq).1 (apart k q hq).2)) hP1, va_D.app (ad_l hD) (hD1.weaken (fun k q _ h => hF q.1 h)) (fun i j x y hx hy hxy => ?_)⟩
  exact (apart i x hx).2 (by rw [hxy]; exact hD1.2 j y hy)
theorem rg_alk {f : Nat → Int32} {n : Nat} {c : Int32} {lo hi : Int} (h : ∀ j, j < n → f j = c) (h1 : lo ≤ c.toInt) (h2 : c.toInt < hi) : rg f n lo hi := fun j hj => by rw [h j hj]; exact ⟨h1, h2⟩
theorem pc0 : pcI (fun _ => 0) (fun _ => 0) := by
  intro j hj
  have h : (0 : Int32).toInt = 0 := rfl
  exact ⟨fun _ => by show (0 : Int32).toInt < 6; omega, fun _ => by show (0 : Int32).toInt < 4; omega, by show 0 ≤ (0 : Int32).toInt; omega, by show (0 : Int32).toInt < 14; omega⟩
theorem ch0 : ∀ j, j < 5 → ((fun _ => (0 : Int32)) j = 0 → ((fun _ => (0 : Int32)) j).toInt < 6) ∧ ((fun _ => (0 : Int32)) j = 1 → ((fun _ => (0 : Int32)) j).toInt < 4 ∧ -3 ≤ ((fun _ => (0 : Int32)) j).toInt ∧ ((fun _ => (0 : Int32)) j).toInt < 4) ∧ 0 ≤ ((fun _ => (0 : Int32)) j).toInt ∧ ((fun _ => (0 : Int32)) j).toInt < 14 := by
  intro j hj
  have h : (0 : Int32).toInt = 0 := rfl
  refine ⟨fun _ => ?_, fun _ => ⟨?_, ?_, ?_⟩, ?_, ?_⟩
  · show (0 : Int32).toInt < 6; omega
  · show (0 : Int32).toInt < 4; omega
  · show -3 ≤ (0 : Int32).toInt; omega
  · show (0 : Int32).toInt < 4; omega
  · show 0 ≤ (0 : Int32).toInt; omega
  · show (0 : Int32).toInt < 14; omega

