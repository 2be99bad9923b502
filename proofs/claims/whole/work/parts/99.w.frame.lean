/-! a contract over some cells of a world as one over the whole world (the rest stays), at the level of Met -/
theorem fm_of {α : Type} {f : Nat → Option α} {is : List Nat} {w : List α} (h : is.map f = w.map some) : is.filterMap f = w := by
  have h1 : is.filterMap f = (is.map f).filterMap id := by rw [List.filterMap_map]; rfl
  rw [h1, h, List.filterMap_map]
  exact List.filterMap_some
theorem fr_free {n0 sz : Nat} {wc wx : va_W} (hD : va_D (fun q => n0 ≤ q) wx) {H : Heap} (hsz : H.size = sz) (isC : List Nat) (hC : isC.map (fun i => wx[i]?) = wc.map some) : ∀ q, va_A wc sz q → va_A wx sz q := by
  subst hsz
  exact va_free (H0 := H) (H := H) (locs := []) (hD.self (sz := H.size)) va_S.rf (fun q h => Or.inr h) isC hC
theorem pk_n {α : Type} {w : List α} : ([] : List Nat).map (fun i => w[i]?) = ([] : List α).map some := rfl
def gA {α : Type} (w : List α) (k : Nat) (c : α) : Prop := w[k]? = some c
theorem pk_k {α : Type} {w : List α} {i : Nat} {c : α} {is : List Nat} {cs : List α} (h : gA w i c) (t : is.map (fun i => w[i]?) = cs.map some) : (i :: is).map (fun i => w[i]?) = (c :: cs).map some := by
  have h9 : w[i]? = some c := h
  rw [List.map_cons, List.map_cons, h9, t]
theorem gq {w1 w : va_W} {j : Nat} {c : Nat × va_E} (e : w1 = w) (h : w[j]? = some c) : gA w1 j c := by rw [e]; exact h
theorem gz {A : Nat → Prop} {D : va_G} {H : Heap} {w : va_W} (hP : va_P D classes w H) (hD : va_D A w) : ∃ w1 : va_W, w1 = w ∧ va_P D classes w1 H ∧ va_D A w1 := ⟨w, rfl, hP, hD⟩
theorem gz2 {A : Nat → Prop} {D : va_G} {H : Heap} {wa wb : va_W} (hP : va_P D classes (wa ++ wb) H) (hD : va_D A (wa ++ wb)) : ∃ w1 w2 : va_W, w1 = wa ∧ w2 = wb ∧ va_P D classes (w1 ++ w2) H ∧ va_D A (w1 ++ w2) := ⟨wa, wb, rfl, rfl, hP, hD⟩
theorem kt_new {D : va_G} {n : Nat} {tx tb : List (ClassId × FieldType)} {t : State} (h : va_K D classes tx t) (h1 : va_K D classes tb t) : va_K D classes (tx.take n ++ tb) t := by
  refine ⟨h.1, fun k q hk => ?_⟩
  rcases List.mem_append.mp (List.mem_of_getElem? hk) with h2 | h2
  · obtain ⟨i, hi⟩ := List.getElem?_of_mem (List.mem_of_mem_take h2)
    exact h.2 i q hi
  · obtain ⟨i, hi⟩ := List.getElem?_of_mem h2
    exact h1.2 i q hi
theorem kn_l {n i : Nat} {tx tb : List (ClassId × FieldType)} {c : ClassId × FieldType} (hi : i < n) (h : gA tx i c) : gA (tx.take n ++ tb) i c := by
  show (tx.take n ++ tb)[i]? = some c
  have h1 : (tx.take n)[i]? = some c := by rw [List.getElem?_take_of_lt hi]; exact h
  rw [List.getElem?_append_left (List.getElem?_eq_some_iff.mp h1).1]
  exact h1
theorem kn_b {n k : Nat} {tx tb : List (ClassId × FieldType)} {c0 c : ClassId × FieldType} (j : Nat) (hk : k = n + 1 + j) (h : gA tx n c0) (hc : tb[j]? = some c) : gA (tx.take (n + 1) ++ tb) k c := by
  show (tx.take (n + 1) ++ tb)[k]? = some c
  have hl := (List.getElem?_eq_some_iff.mp h).1
  have h2 : (tx.take (n + 1)).length = n + 1 := by rw [List.length_take]; omega
  rw [List.getElem?_append_right (by rw [h2]; omega), h2, show k - (n + 1) = j from by omega]
  exact hc
theorem gzK {D : va_G} {w : List (ClassId × FieldType)} {U : State} (h : va_K D classes w U) : ∃ w1, w1 = w ∧ va_K D classes w1 U := ⟨w, rfl, h⟩
theorem gqK {w1 w : List (ClassId × FieldType)} {j : Nat} {c : ClassId × FieldType} (e : w1 = w) (h : w[j]? = some c) : gA w1 j c := by rw [e]; exact h
def putW (ws : va_W) : List Nat → va_W → va_W
  | i :: is, c :: cs => (putW ws is cs).set i c
  | _, _ => ws
theorem put_len (ws : va_W) : ∀ (is : List Nat) (cs : va_W), (putW ws is cs).length = ws.length
  | [], cs => by cases cs <;> rfl
  | _ :: _, [] => rfl
  | i :: is, c :: cs => by
    show ((putW ws is cs).set i c).length = _
    rw [List.length_set]
    exact put_len ws is cs
theorem put_ne' {ws : va_W} {k : Nat} : ∀ (is : List Nat) (cs : va_W), is.contains k = false → (putW ws is cs)[k]? = ws[k]?
  | [], cs, _ => by cases cs <;> rfl
  | _ :: _, [], _ => rfl
  | i :: is, c :: cs, h => by
    have h1 : k ≠ i ∧ is.contains k = false := by
      simp only [List.contains_cons, Bool.or_eq_false_iff, beq_eq_false_iff_ne] at h
      exact h
    show ((putW ws is cs).set i c)[k]? = _
    rw [List.getElem?_set_ne (fun e => h1.1 e.symm)]
    exact put_ne' is cs h1.2
theorem put_or {ws : va_W} {k : Nat} {q : Nat × va_E} : ∀ (is : List Nat) (cs : va_W), is.length = cs.length → (putW ws is cs)[k]? = some q → (∃ j : Nat, is[j]? = some k ∧ cs[j]? = some q) ∨ (is.contains k = false ∧ ws[k]? = some q)
  | [], cs, _, h => Or.inr ⟨rfl, by cases cs <;> exact h⟩
  | _ :: _, [], hl, _ => by simp at hl
  | i :: is, c :: cs, hl, h => by
    have h0 : ((putW ws is cs).set i c)[k]? = some q := h
    by_cases e : i = k
    · refine Or.inl ⟨0, by rw [e]; rfl, ?_⟩
      have hlt := (List.getElem?_eq_some_iff.mp h0).1
      rw [List.length_set] at hlt
      rw [e, List.getElem?_set_self hlt] at h0
      exact h0
    · rw [List.getElem?_set_ne e] at h0
      rcases put_or is cs (Nat.succ.inj hl) h0 with ⟨j, a, b⟩ | ⟨a, b⟩
      · exact Or.inl ⟨j + 1, a, b⟩
      · refine Or.inr ⟨?_, b⟩
        simp only [List.contains_cons, Bool.or_eq_false_iff, beq_eq_false_iff_ne]
        exact ⟨fun h => e h.symm, a⟩
theorem put_at' {ws : va_W} {k : Nat} {c : Nat × va_E} (hk : k < ws.length) : ∀ (is : List Nat) (cs : va_W) (j : Nat), va_nd is = true → is[j]? = some k → cs[j]? = some c → (putW ws is cs)[k]? = some c
  | [], _, j, _, h, _ => by simp at h
  | _ :: _, [], j, _, _, h => by simp at h
  | i :: is, d :: cs, 0, _, h1, h2 => by
    have e1 : i = k := Option.some.inj h1
    have e2 : d = c := Option.some.inj h2
    show ((putW ws is cs).set i d)[k]? = some c
    rw [e1, e2]
    exact List.getElem?_set_self (by rw [put_len]; exact hk)
  | i :: is, d :: cs, j + 1, hn, h1, h2 => by
    have h3 : is[j]? = some k := h1
    have h4 : cs[j]? = some c := h2
    have hn' : decide (i ∉ is) = true ∧ va_nd is = true := by
      have : (decide (i ∉ is) && va_nd is) = true := hn
      simpa using this
    have e : i ≠ k := by
      intro e
      have := of_decide_eq_true hn'.1
      exact this (by rw [e]; exact List.mem_of_getElem? h3)
    show ((putW ws is cs).set i d)[k]? = some c
    rw [List.getElem?_set_ne e]
    exact put_at' hk is cs j hn'.2 h3 h4
/-! the world behind a call: base (its first n cells, those at the places is new), then new ones -/
def nwW (n : Nat) (ws : va_W) (is : List Nat) (wa wb : va_W) : va_W := putW (ws.take n) is wa ++ wb
theorem nw_ne {n k : Nat} {ws : va_W} {is : List Nat} {wa wb : va_W} {c : Nat × va_E} (hi : is.contains k = false) (hk : k < n) (h : gA ws k c) : gA (nwW n ws is wa wb) k c := by
  show (nwW n ws is wa wb)[k]? = some c
  have h1 : (ws.take n)[k]? = some c := by rw [List.getElem?_take_of_lt hk]; exact h
  have hl := (List.getElem?_eq_some_iff.mp h1).1
  unfold nwW
  rw [List.getElem?_append_left (by rw [put_len]; exact hl), put_ne' is wa hi]
  exact h1
theorem nw_at {n k : Nat} {ws : va_W} {is : List Nat} {wa wb : va_W} {c0 c : Nat × va_E} (hn : va_nd is = true) (j : Nat) (hj : is[j]? = some k) (hk : k < n) (h : gA ws k c0) (hc : gA wa j c) : gA (nwW n ws is wa wb) k c := by
  show (nwW n ws is wa wb)[k]? = some c
  have h1 : (ws.take n)[k]? = some c0 := by rw [List.getElem?_take_of_lt hk]; exact h
  have hl := (List.getElem?_eq_some_iff.mp h1).1
  unfold nwW
  rw [List.getElem?_append_left (by rw [put_len]; exact hl)]
  exact put_at' hl is wa j hn hj hc
theorem nw_b {n k : Nat} {ws : va_W} {is : List Nat} {wa wb : va_W} {c0 c : Nat × va_E} (j : Nat) (hk : k = n + 1 + j) (h : gA ws n c0) (hc : gA wb j c) : gA (nwW (n + 1) ws is wa wb) k c := by
  show (nwW (n + 1) ws is wa wb)[k]? = some c
  have hl := (List.getElem?_eq_some_iff.mp h).1
  have h2 : (putW (ws.take (n + 1)) is wa).length = n + 1 := by rw [put_len, List.length_take]; omega
  unfold nwW
  rw [List.getElem?_append_right (by rw [h2]; omega), h2, show k - (n + 1) = j from by omega]
  exact hc
/-- what a call over the cells isC leaves of the rest -/
def frJ (D : va_G) (sz : Nat) (wx wc : va_W) (isC : List Nat) (t : State) : Prop := (∀ (k : Nat) (q : Nat × va_E), wx[k]? = some q → isC.contains k = false → va_at D classes q t.heap ∧ ¬ va_A wc sz q.1) ∧ (∀ q, va_A wc sz q → va_A wx sz q) ∧ (∀ (i j : Nat) (p q : Nat × va_E), wx[i]? = some p → wx[j]? = some q → p.1 = q.1 → i = j)
theorem frJ_of {D : va_G} {n0 sz : Nat} {wc wx : va_W} {st t : State} (hsz : st.heap.size = sz) (hP : va_P D classes wx st.heap) (hD : va_D (fun q => n0 ≤ q) wx) (isC : List Nat) (hC : isC.map (fun i => wx[i]?) = wc.map some) (hF : va_F (va_A wc sz) st t) : frJ D sz wx wc isC t := by
  refine ⟨?_, fr_free hD hsz isC hC, hD.1⟩
  intro k q hk hn
  have hlt : q.1 < st.heap.size := (hP k q hk).lt
  have hna : ¬ va_A wc sz q.1 := by
    intro h
    rcases h with ⟨j, e, h⟩ | h
    · have h1 : (isC.map (fun i => wx[i]?))[j]? = some (some (q.1, e)) := by rw [hC, List.getElem?_map, h]; rfl
      rw [List.getElem?_map] at h1
      obtain ⟨i, hi, hi2⟩ : ∃ i, isC[j]? = some i ∧ wx[i]? = some (q.1, e) := by
        cases hc : isC[j]? with
        | none => rw [hc] at h1; simp at h1
        | some i => rw [hc] at h1; exact ⟨i, rfl, Option.some.inj h1⟩
      have e1 : k = i := hD.1 k i q (q.1, e) hk hi2 rfl
      have h2 : isC.contains k = true := by rw [e1]; exact List.contains_iff_mem.mpr (List.mem_of_getElem? hi)
      rw [h2] at hn
      exact absurd hn (by decide)
    · omega
  exact ⟨(hP k q hk).kept (hF.2 q.1 hlt hna), hna⟩
theorem J_new {D : va_G} {sz : Nat} {wx wc wa wb : va_W} {isC isO : List Nat} {t : State} (n : Nat) (hJ : frJ D sz wx wc isC t) (hP1 : va_P D classes (wa ++ wb) t.heap) (hD1 : va_D (va_A wc sz) (wa ++ wb)) (hl : isO.length = wa.length) (hs : isC.all (fun i => isO.contains i) = true) : va_P D classes (nwW n wx isO wa wb) t.heap ∧ va_D (va_A wx sz) (nwW n wx isO wa wb) := by
  have key : ∀ (k : Nat) (q : Nat × va_E), (nwW n wx isO wa wb)[k]? = some q → (∃ j : Nat, (wa ++ wb)[j]? = some q ∧ ((isO[j]? = some k ∧ j < wa.length) ∨ (wa.length ≤ j ∧ k = (wx.take n).length + (j - wa.length)))) ∨ (isC.contains k = false ∧ wx[k]? = some q) := by
    intro k q hk
    unfold nwW at hk
    by_cases hlt : k < (putW (wx.take n) isO wa).length
    · rw [List.getElem?_append_left hlt] at hk
      rcases put_or isO wa hl hk with ⟨j, a, b⟩ | ⟨a, b⟩
      · have hj := (List.getElem?_eq_some_iff.mp b).1
        exact Or.inl ⟨j, by rw [List.getElem?_append_left hj]; exact b, Or.inl ⟨a, hj⟩⟩
      · refine Or.inr ⟨?_, ?_⟩
        · cases hc : isC.contains k with
          | false => rfl
          | true =>
            have h1 := List.all_eq_true.mp hs k (List.contains_iff_mem.mp hc)
            rw [h1] at a
            exact absurd a (by decide)
        · rw [put_len, List.length_take] at hlt
          rw [List.getElem?_take_of_lt (by omega)] at b
          exact b
    · rw [List.getElem?_append_right (by omega), put_len] at hk
      rw [put_len] at hlt
      refine Or.inl ⟨wa.length + (k - (wx.take n).length), ?_, Or.inr ⟨by omega, by omega⟩⟩
      rw [List.getElem?_append_right (by omega), Nat.add_sub_cancel_left]
      exact hk
  refine ⟨?_, ?_, ?_⟩
  · intro k q hk
    rcases key k q hk with ⟨j, a, -⟩ | ⟨a, b⟩
    · exact hP1 j q a
    · exact (hJ.1 k q b a).1
  · intro i j p q hi hj e
    rcases key i p hi with ⟨i1, a1, b1⟩ | ⟨a1, b1⟩ <;> rcases key j q hj with ⟨j1, a2, b2⟩ | ⟨a2, b2⟩
    · have e1 := hD1.1 i1 j1 p q a1 a2 e
      subst e1
      rcases b1 with ⟨b1, c1⟩ | ⟨c1, b1⟩ <;> rcases b2 with ⟨b2, c2⟩ | ⟨c2, b2⟩
      · rw [b1] at b2; exact Option.some.inj b2
      · omega
      · omega
      · omega
    · exact absurd (by rw [← e]; exact hD1.2 i1 p a1) (hJ.1 j q b2 a2).2
    · exact absurd (by rw [e]; exact hD1.2 j1 q a2) (hJ.1 i p b1 a1).2
    · exact hJ.2.2 i j p q b1 b2 e
  · intro k q hk
    rcases key k q hk with ⟨j, a, -⟩ | ⟨a, b⟩
    · exact hJ.2.1 _ (hD1.2 j q a)
    · exact va_A.in b
theorem J_put {D : va_G} {sz : Nat} {wx wc wa : va_W} {isC isO : List Nat} {t : State} (n : Nat) (hJ : frJ D sz wx wc isC t) (hP1 : va_P D classes wa t.heap) (hD1 : va_D (va_A wc sz) wa) (hl : isO.length = wa.length) (hs : isC.all (fun i => isO.contains i) = true) : va_P D classes (nwW n wx isO wa []) t.heap ∧ va_D (va_A wx sz) (nwW n wx isO wa []) :=
  J_new n hJ (by rw [List.append_nil]; exact hP1) (by rw [List.append_nil]; exact hD1) hl hs
theorem fr_i {l : Launch} {y : MethodName} {wl : List Cond} {rm : Room} {D : va_G} {av : List Value} {sz n0 : Nat} {atx : Nat → Nat × Nat} {wc wx : va_W} {tc tx : List (ClassId × FieldType)} {S : Type} {post : Int32 → S → Prop} {B : S → State → Prop} {B' : Int32 → State → Prop} {mc ms : Nat}
    (hM : Met l y wl rm (va_Pc av (fun U => U.heap.size = sz ∧ n0 ≤ sz ∧ GW n0 atx U ∧ va_P D classes wc U.heap ∧ va_K D classes tc U ∧ va_D (fun q => n0 ≤ q) wc)) (va_Qi post B (va_A wc sz)) mc ms (va_A wc sz))
    (isC isT : List Nat) (hC : isC.map (fun i => wx[i]?) = wc.map some) (hCn : va_nd isC = true) (hT : isT.map (fun i => tx[i]?) = tc.map some)
    (hB : ∀ (r : Int32) (u : S) (t : State), post r u → B u t → va_K D classes tx t → frJ D sz wx wc isC t → B' r t) :
    Met l y wl rm (va_Pc av (fun U => U.heap.size = sz ∧ n0 ≤ sz ∧ GW n0 atx U ∧ va_P D classes wx U.heap ∧ va_K D classes tx U ∧ va_D (fun q => n0 ≤ q) wx)) (va_Qi (fun (r u : Int32) => r = u) B' (va_A wx sz)) mc ms (va_A wx sz) := by
  intro p e ha hc hk s m args below hf happ hP hK0
  obtain ⟨hav, hsz, hn0, hG, hP0, hKx, hD0⟩ := hP
  have hfr := fr_free hD0 hsz isC hC
  obtain ⟨n, o, h1, h2, h3, ⟨⟨r, u, ho, hp, hb⟩, hFz⟩, L, hE, hL⟩ := hM p e ha hc hk s m args below hf happ ⟨hav, hsz, hn0, hG, hP0.sub isC (fm_of hC), hKx.sub isT (fm_of hT), hD0.sub isC hCn hC⟩ hK0
  have hend := hB r u _ hp hb (va_K.moved hE.2.1.alike hKx) (frJ_of hsz hP0 hD0 isC hC hFz)
  exact ⟨n, o, h1, h2, h3, ⟨⟨r, r, ho, rfl, hend⟩, hFz.1, fun q hq hA => hFz.2 q hq (fun h => hA (hfr q h))⟩, L, hE, fun q hq => hfr _ (hL q hq)⟩
theorem fr_l {l : Launch} {y : MethodName} {wl : List Cond} {rm : Room} {D : va_G} {av : List Value} {sz n0 : Nat} {atx : Nat → Nat × Nat} {wc wx : va_W} {tc tx : List (ClassId × FieldType)} {S : Type} {post : Int64 → S → Prop} {B : S → State → Prop} {B' : Int64 → State → Prop} {mc ms : Nat}
    (hM : Met l y wl rm (va_Pc av (fun U => U.heap.size = sz ∧ n0 ≤ sz ∧ GW n0 atx U ∧ va_P D classes wc U.heap ∧ va_K D classes tc U ∧ va_D (fun q => n0 ≤ q) wc)) (va_Ql post B (va_A wc sz)) mc ms (va_A wc sz))
    (isC isT : List Nat) (hC : isC.map (fun i => wx[i]?) = wc.map some) (hCn : va_nd isC = true) (hT : isT.map (fun i => tx[i]?) = tc.map some)
    (hB : ∀ (r : Int64) (u : S) (t : State), post r u → B u t → va_K D classes tx t → frJ D sz wx wc isC t → B' r t) :
    Met l y wl rm (va_Pc av (fun U => U.heap.size = sz ∧ n0 ≤ sz ∧ GW n0 atx U ∧ va_P D classes wx U.heap ∧ va_K D classes tx U ∧ va_D (fun q => n0 ≤ q) wx)) (va_Ql (fun (r u : Int64) => r = u) B' (va_A wx sz)) mc ms (va_A wx sz) := by
  intro p e ha hc hk s m args below hf happ hP hK0
  obtain ⟨hav, hsz, hn0, hG, hP0, hKx, hD0⟩ := hP
  have hfr := fr_free hD0 hsz isC hC
  obtain ⟨n, o, h1, h2, h3, ⟨⟨r, u, ho, hp, hb⟩, hFz⟩, L, hE, hL⟩ := hM p e ha hc hk s m args below hf happ ⟨hav, hsz, hn0, hG, hP0.sub isC (fm_of hC), hKx.sub isT (fm_of hT), hD0.sub isC hCn hC⟩ hK0
  have hend := hB r u _ hp hb (va_K.moved hE.2.1.alike hKx) (frJ_of hsz hP0 hD0 isC hC hFz)
  exact ⟨n, o, h1, h2, h3, ⟨⟨r, r, ho, rfl, hend⟩, hFz.1, fun q hq hA => hFz.2 q hq (fun h => hA (hfr q h))⟩, L, hE, fun q hq => hfr _ (hL q hq)⟩
theorem fr_xi {l : Launch} {y : MethodName} {wl : List Cond} {rm : Room} {D : va_G} {av : List Value} {sz n0 : Nat} {atx : Nat → Nat × Nat} {wc wx : va_W} {tc tx : List (ClassId × FieldType)} {S : Type} {post : Int32 → S → Prop} {B : S → State → Prop} {B' : Int32 → State → Prop} {mc ms : Nat}
    (hM : vx_Met l y wl rm (va_Pc av (fun U => U.heap.size = sz ∧ n0 ≤ sz ∧ GW n0 atx U ∧ va_P D classes wc U.heap ∧ va_K D classes tc U ∧ va_D (fun q => n0 ≤ q) wc)) (va_Qi post B (va_A wc sz)) (vx_X (fun _ : Unit => False) (fun (_ : Addr) (_ : String) (_ : Unit) (_ : State) => True) (va_A wc sz)) mc ms (va_A wc sz))
    (isC isT : List Nat) (hC : isC.map (fun i => wx[i]?) = wc.map some) (hCn : va_nd isC = true) (hT : isT.map (fun i => tx[i]?) = tc.map some)
    (hB : ∀ (r : Int32) (u : S) (t : State), post r u → B u t → va_K D classes tx t → frJ D sz wx wc isC t → B' r t) :
    vx_Met l y wl rm (va_Pc av (fun U => U.heap.size = sz ∧ n0 ≤ sz ∧ GW n0 atx U ∧ va_P D classes wx U.heap ∧ va_K D classes tx U ∧ va_D (fun q => n0 ≤ q) wx)) (va_Qi (fun (r u : Int32) => r = u) B' (va_A wx sz)) (vx_X (fun _ : Unit => False) (fun (_ : Addr) (_ : String) (_ : Unit) (_ : State) => True) (va_A wx sz)) mc ms (va_A wx sz) := by
  intro p e ha hc hk s m args below hf happ hP hK0
  obtain ⟨hav, hsz, hn0, hG, hP0, hKx, hD0⟩ := hP
  have hfr := fr_free hD0 hsz isC hC
  obtain ⟨n, o, h1, h2, h3, hq⟩ := hM p e ha hc hk s m args below hf happ ⟨hav, hsz, hn0, hG, hP0.sub isC (fm_of hC), hKx.sub isT (fm_of hT), hD0.sub isC hCn hC⟩ hK0
  rcases hq with ⟨⟨⟨r, u, ho, hp, hb⟩, hFz⟩, L, hE, hL⟩ | ⟨q, ho, E, ce, L, ⟨u, hu, -⟩, -⟩
  · have hend := hB r u _ hp hb (va_K.moved hE.2.1.alike hKx) (frJ_of hsz hP0 hD0 isC hC hFz)
    exact ⟨n, o, h1, h2, h3, Or.inl ⟨⟨⟨r, r, ho, rfl, hend⟩, hFz.1, fun q hq hA => hFz.2 q hq (fun h => hA (hfr q h))⟩, L, hE, fun q hq => hfr _ (hL q hq)⟩⟩
  · exact hu.elim
/-! worlds whose cells aren't named: two lists side by side -/
theorem ap_l {D : va_G} {cl : List vw_C} {a b : va_W} {H : Heap} (h : va_P D cl (a ++ b) H) : va_P D cl a H := fun k q hk => h k q (by rw [List.getElem?_append_left (List.getElem?_eq_some_iff.mp hk).1]; exact hk)
theorem ap_r {D : va_G} {cl : List vw_C} {a b : va_W} {H : Heap} (h : va_P D cl (a ++ b) H) : va_P D cl b H := fun k q hk => h (a.length + k) q (by rw [List.getElem?_append_right (Nat.le_add_right _ _), Nat.add_sub_cancel_left]; exact hk)
theorem ad_l {A : Nat → Prop} {a b : va_W} (h : va_D A (a ++ b)) : va_D A a :=
  have k : ∀ (i : Nat) (q : Nat × va_E), a[i]? = some q → (a ++ b)[i]? = some q := fun i q hk => by rw [List.getElem?_append_left (List.getElem?_eq_some_iff.mp hk).1]; exact hk
  ⟨fun i j p q hi hj e => h.1 i j p q (k i p hi) (k j q hj) e, fun i q hi => h.2 i q (k i q hi)⟩
theorem ad_r {A : Nat → Prop} {a b : va_W} (h : va_D A (a ++ b)) : va_D A b :=
  have k : ∀ (i : Nat) (q : Nat × va_E), b[i]? = some q → (a ++ b)[a.length + i]? = some q := fun i q hk => by rw [List.getElem?_append_right (Nat.le_add_right _ _), Nat.add_sub_cancel_left]; exact hk
  ⟨fun i j p q hi hj e => by have := h.1 _ _ p q (k i p hi) (k j q hj) e; omega, fun i q hi => h.2 _ q (k i q hi)⟩
theorem ad_x {A : Nat → Prop} {a b : va_W} (h : va_D A (a ++ b)) : ∀ (i j : Nat) (p q : Nat × va_E), a[i]? = some p → b[j]? = some q → p.1 ≠ q.1 := by
  intro i j p q hi hj e
  have hl := (List.getElem?_eq_some_iff.mp hi).1
  have := h.1 i (a.length + j) p q (by rw [List.getElem?_append_left hl]; exact hi) (by rw [List.getElem?_append_right (Nat.le_add_right _ _), Nat.add_sub_cancel_left]; exact hj) e
  omega
theorem fr_O {A0 : Nat → Prop} {w : va_W} {H0 H : Heap} {locs : List Loc} (hD : va_D A0 w) (hS : va_S A0 H0 H locs) (hA : ∀ q, H0.size ≤ q → A0 q) : ∀ q, va_A w H.size q → A0 q := by
  intro q h
  rcases h with ⟨k, e, h⟩ | h
  · exact hD.2 k (q, e) h
  · exact hA q (Nat.le_trans hS.1 h)
theorem jo_l {A0 : Nat → Prop} {D : va_G} {cl : List vw_C} {a b a' : va_W} {H H1 : Heap} (hP : va_P D cl (a ++ b) H) (hD : va_D A0 (a ++ b)) (hk : ∀ q : Nat, q < H.size → ¬ va_A a H.size q → H1[q]? = H[q]?) (hF : ∀ q, va_A a H.size q → A0 q) (hP1 : va_P D cl a' H1) (hD1 : va_D (va_A a H.size) a') : va_P D cl (a' ++ b) H1 ∧ va_D A0 (a' ++ b) := by
  have apart : ∀ (k : Nat) (q : Nat × va_E), b[k]? = some q → q.1 < H.size ∧ ¬ va_A a H.size q.1 := by
    intro k q hq
    have hl := (ap_r hP k q hq).lt
    refine ⟨hl, fun h => ?_⟩
    rcases h with ⟨k2, e, h⟩ | h
    · exact ad_x hD k2 k (q.1, e) q h hq rfl
    · omega
  refine ⟨va_P.app hP1 (fun k q hq => (ap_r hP k q hq).kept (hk q.1 (apart k q hq).1 (apart k q hq).2)), va_D.app (hD1.weaken (fun k q _ h => hF q.1 h)) (ad_r hD) (fun i j x y hx hy hxy => ?_)⟩
  exact (apart j y hy).2 (by rw [← hxy]; exact hD1.2 i x hx)
theorem jo_r {A0 : Nat → Prop} {D : va_G} {cl : List vw_C} {a b b' : va_W} {H H1 : Heap} (hP : va_P D cl (a ++ b) H) (hD : va_D A0 (a ++ b)) (hk : ∀ q : Nat, q < H.size → ¬ va_A b H.size q → H1[q]? = H[q]?) (hF : ∀ q, va_A b H.size q → A0 q) (hP1 : va_P D cl b' H1) (hD1 : va_D (va_A b H.size) b') : va_P D cl (a ++ b') H1 ∧ va_D A0 (a ++ b') := by
  have apart : ∀ (k : Nat) (q : Nat × va_E), a[k]? = some q → q.1 < H.size ∧ ¬ va_A b H.size q.1 := by
    intro k q hq
    have hl := (ap_l hP k q hq).lt
    refine ⟨hl, fun h => ?_⟩
    rcases h with ⟨k2, e, h⟩ | h
    · exact ad_x hD k k2 q (q.1, e) hq h rfl
    · omega
  refine ⟨va_P.app (fun k q hq => (ap_l hP k q hq).kept (hk q.1 (apart k q hq).1 (apart k q hq).2)) hP1, va_D.app (ad_l hD) (hD1.weaken (fun k q _ h => hF q.1 h)) (fun i j x y hx hy hxy => ?_)⟩
  exact (apart i x hx).2 (by rw [hxy]; exact hD1.2 j y hy)
theorem rg_alk {f : Nat → Int32} {n : Nat} {c : Int32} {lo hi : Int} (h : ∀ j, j < n → f j = c) (h1 : lo ≤ c.toInt) (h2 : c.toInt < hi) : rg f n lo hi := fun j hj => by rw [h j hj]; exact ⟨h1, h2⟩
theorem pc0 : pcI (fun _ => 0) (fun _ => 0) := by
  intro j hj
  have h : (0 : Int32).toInt = 0 := rfl
  exact ⟨fun _ => by show (0 : Int32).toInt < 6; omega, fun _ => by show (0 : Int32).toInt < 4; omega, by show 0 ≤ (0 : Int32).toInt; omega, by show (0 : Int32).toInt < 14; omega⟩
theorem ch0 : ∀ j, j < 5 → ((fun _ => (0 : Int32)) j = 0 → ((fun _ => (0 : Int32)) j).toInt < 6) ∧ ((fun _ => (0 : Int32)) j = 1 → ((fun _ => (0 : Int32)) j).toInt < 4 ∧ -3 ≤ ((fun _ => (0 : Int32)) j).toInt ∧ ((fun _ => (0 : Int32)) j).toInt < 4) ∧ 0 ≤ ((fun _ => (0 : Int32)) j).toInt ∧ ((fun _ => (0 : Int32)) j).toInt < 14 := by
  intro j hj
  have h : (0 : Int32).toInt = 0 := rfl
  refine ⟨fun _ => ?_, fun _ => ⟨?_, ?_, ?_⟩, ?_, ?_⟩
  · show (0 : Int32).toInt < 6; omega
  · show (0 : Int32).toInt < 4; omega
  · show -3 ≤ (0 : Int32).toInt; omega
  · show (0 : Int32).toInt < 4; omega
  · show 0 ≤ (0 : Int32).toInt; omega
  · show (0 : Int32).toInt < 14; omega

/-! what both sides know alike: numbers 0 .. 8, and from 100 on the bytes of THE TAPE -/
def mkG (l : List Int) (t : Nat → Int) (i : Nat) : Int := if 100 ≤ i then t (i - 100) else l.getD i 0
theorem mkG_T {l : List Int} {t : Nat → Int} (k : Nat) : mkG l t (k + 100) = t k := by
  unfold mkG
  rw [if_pos (by omega), Nat.add_sub_cancel]
def tpG (n : Nat) (f : Nat → Int32) (k : Nat) : Int := if k < n then (f k).toInt else 0
def tpM (n : Nat) (f : Nat → Int32) (k : Nat) : Int := if k < n then (f k &&& 255).toInt else 0
theorem tpG_0 {n : Nat} {f : Nat → Int32} (h : n = 0) (k : Nat) : tpG n f k = 0 := by
  unfold tpG
  rw [if_neg (by omega)]
theorem tpM_0 {f : Nat → Int32} (k : Nat) : tpM 0 f k = 0 := if_neg (Nat.not_lt_zero k)
def TG (G : Nat → Int) (k : Nat) : Int32 := Int32.ofInt (G (k + 100))
theorem tgx {G : Nat → Int} {n m : Nat} {f : Nat → Int32} (g : ∀ k, G (k + 100) = tpG n f k) (h : m ≤ n) : ∀ k, k < m → f k = TG G k := by
  intro k hk
  unfold TG
  rw [g]
  unfold tpG
  rw [if_pos (by omega)]
  exact (Int32.ofInt_toInt _).symm
theorem tgm {G : Nat → Int} {n m : Nat} {f : Nat → Int32} (g : ∀ k, G (k + 100) = tpM n f k) (h : m ≤ n) : ∀ k, k < m → f k &&& 255 = TG G k := by
  intro k hk
  unfold TG
  rw [g]
  unfold tpM
  rw [if_pos (by omega)]
  exact (Int32.ofInt_toInt _).symm
abbrev KC (G H : Nat → Int) : Prop := H 0 = G 0 ∧ H 1 = G 1 ∧ H 2 = G 2 ∧ H 3 = G 3 ∧ H 4 = G 4 ∧ H 5 = G 5 ∧ H 7 = G 7 ∧ ∀ k, H (k + 100) = G (k + 100)
def fdR (x : Int) : Int32 := if x + 20 ≤ 600 then nI (x.toNat + 20) else (-1)
theorem fdR_ok {g : Int} {n : Nat} {r : Int32} (g0 : g = (n : Int)) (h : r = if n + 20 ≤ 600 then nI (n + 20) else (-1)) : r = fdR g := by
  unfold fdR
  rw [h, g0]
  by_cases c : n + 20 ≤ 600
  · rw [if_pos c, if_pos (by omega)]
    rfl
  · rw [if_neg c, if_neg (by omega)]
def fdN (x : Int) : Int := if x + 20 ≤ 600 then x + 20 else x
theorem fdN_ok {g : Int} {n m : Nat} (g0 : g = (n : Int)) (h : m = if n + 20 ≤ 600 then n + 20 else n) : ((m : Nat) : Int) = fdN g := by
  unfold fdN
  rw [h, g0]
  by_cases c : n + 20 ≤ 600
  · rw [if_pos c, if_pos (by omega)]
    omega
  · rw [if_neg c, if_neg (by omega)]
def fdT (G : Nat → Int) (a b c d e : Int32) (k : Nat) : Int := if G 0 + 20 ≤ 600 then (if (k : Int) < G 0 then G (k + 100) else if (k : Int) < G 0 + 20 then (fdB a b c d e (k - (G 0).toNat)).toInt else 0) else G (k + 100)
theorem kf_x {G : Nat → Int} {n m : Nat} {f t : Nat → Int32} {a b c d e : Int32} (g0 : G 0 = (n : Int)) (gT : ∀ k, G (k + 100) = tpG n f k) (h1 : m = if n + 20 ≤ 600 then n + 20 else n) (h2 : n + 20 ≤ 600 → ∀ j, j < n + 20 → t j = if j < n then f j else fdB a b c d e (j - n)) (h3 : ¬ n + 20 ≤ 600 → t = f) (k : Nat) : tpG m t k = fdT G a b c d e k := by
  unfold fdT
  by_cases q : n + 20 ≤ 600
  · rw [if_pos q] at h1
    rw [if_pos (by omega)]
    by_cases y : k < n
    · rw [if_pos (by omega), gT]
      unfold tpG
      rw [if_pos (by omega), if_pos y, h2 q k (by omega), if_pos y]
    · rw [if_neg (by omega)]
      unfold tpG
      by_cases z : k < n + 20
      · rw [if_pos (by omega), if_pos (by omega), h2 q k z, if_neg y, g0]
        rfl
      · rw [if_neg (by omega), if_neg (by omega)]
  · rw [if_neg q] at h1
    rw [if_neg (by omega), gT, h1, h3 q]
theorem kf_m {G : Nat → Int} {n m : Nat} {f t : Nat → Int32} {a b c d e : Int32} (g0 : G 0 = (n : Int)) (gT : ∀ k, G (k + 100) = tpM n f k) (h1 : m = if n + 20 ≤ 600 then n + 20 else n) (h2 : n + 20 ≤ 600 → ∀ j, j < n + 20 → t j &&& 255 = if j < n then f j &&& 255 else fdB a b c d e (j - n)) (h3 : ¬ n + 20 ≤ 600 → t = f) (k : Nat) : tpM m t k = fdT G a b c d e k := by
  unfold fdT
  by_cases q : n + 20 ≤ 600
  · rw [if_pos q] at h1
    rw [if_pos (by omega)]
    by_cases y : k < n
    · rw [if_pos (by omega), gT]
      unfold tpM
      rw [if_pos (by omega), if_pos y, h2 q k (by omega), if_pos y]
    · rw [if_neg (by omega)]
      unfold tpM
      by_cases z : k < n + 20
      · rw [if_pos (by omega), if_pos (by omega), h2 q k z, if_neg y, g0]
        rfl
      · rw [if_neg (by omega), if_neg (by omega)]
  · rw [if_neg q] at h1
    rw [if_neg (by omega), gT, h1, h3 q]
theorem wh_x {r xt xp : Int32} {G : Nat → Int} (h : r = if xt = 4 then xp else (-1)) (g6 : G 6 = xt.toInt) (g8 : G 8 = xp.toInt) : r.toInt = if G 6 = 4 then G 8 else -1 := by
  rw [h, g6, g8]
  by_cases c : xt = 4
  · rw [if_pos c, c, if_pos (by decide)]
  · have c4 : ¬ xt.toInt = 4 := fun q => c (Int32.toInt_inj.mp (show xt.toInt = (4 : Int32).toInt from q))
    rw [if_neg c, if_neg c4]
    decide
theorem tb4 {t : Int32} (h : ¬ t = 4) : ¬ t.toInt = 4 := fun q => h (Int32.toInt_inj.mp (show t.toInt = (4 : Int32).toInt from q))
theorem mn_r {r w : Int32} {bn mm : Nat} {G : Nat → Int} (h : r = if (0 ≤ w.toInt ∧ w.toInt < (bn : Int)) ∧ mm < 20 then nI mm else (-1)) (g2 : G 2 = (bn : Int)) (g4 : G 4 = (mm : Int)) : r = if (0 ≤ w.toInt ∧ w.toInt < G 2) ∧ G 4 < 20 then nI (G 4).toNat else (-1) := by
  rw [h, g2, g4]
  by_cases c : (0 ≤ w.toInt ∧ w.toInt < (bn : Int)) ∧ mm < 20
  · rw [if_pos c, if_pos ⟨c.1, by omega⟩]
    rfl
  · rw [if_neg c, if_neg (fun q => c ⟨q.1, by omega⟩)]
theorem mn_k {w : Int32} {bn mm m9 : Nat} {G : Nat → Int} (h : m9 = if (0 ≤ w.toInt ∧ w.toInt < (bn : Int)) ∧ mm < 20 then mm + 1 else mm) (g2 : G 2 = (bn : Int)) (g4 : G 4 = (mm : Int)) : ((m9 : Nat) : Int) = if (0 ≤ w.toInt ∧ w.toInt < G 2) ∧ G 4 < 20 then G 4 + 1 else G 4 := by
  rw [h, g2, g4]
  by_cases c : (0 ≤ w.toInt ∧ w.toInt < (bn : Int)) ∧ mm < 20
  · rw [if_pos c, if_pos ⟨c.1, by omega⟩]
    omega
  · rw [if_neg c, if_neg (fun q => c ⟨q.1, by omega⟩)]
theorem rd_r {r w v u : Int32} {bw rc : Nat} {G : Nat → Int} (h : r = if (0 ≤ w.toInt ∧ w.toInt < (bw : Int)) ∧ v.toInt ≤ u.toInt ∧ rc < 8 then nI (rc + 1) else (-1)) (g1 : G 1 = (bw : Int)) (g5 : G 5 = (rc : Int)) : r = if (0 ≤ w.toInt ∧ w.toInt < G 1) ∧ v.toInt ≤ u.toInt ∧ G 5 < 8 then nI ((G 5).toNat + 1) else (-1) := by
  rw [h, g1, g5]
  by_cases c : (0 ≤ w.toInt ∧ w.toInt < (bw : Int)) ∧ v.toInt ≤ u.toInt ∧ rc < 8
  · rw [if_pos c, if_pos ⟨c.1, c.2.1, by omega⟩]
    rfl
  · rw [if_neg c, if_neg (fun q => c ⟨q.1, q.2.1, by omega⟩)]
theorem rd_k {w v u : Int32} {bw rc r9 : Nat} {G : Nat → Int} (h : r9 = if (0 ≤ w.toInt ∧ w.toInt < (bw : Int)) ∧ v.toInt ≤ u.toInt ∧ rc < 8 then rc + 1 else rc) (g1 : G 1 = (bw : Int)) (g5 : G 5 = (rc : Int)) : ((r9 : Nat) : Int) = if (0 ≤ w.toInt ∧ w.toInt < G 1) ∧ v.toInt ≤ u.toInt ∧ G 5 < 8 then G 5 + 1 else G 5 := by
  rw [h, g1, g5]
  by_cases c : (0 ≤ w.toInt ∧ w.toInt < (bw : Int)) ∧ v.toInt ≤ u.toInt ∧ rc < 8
  · rw [if_pos c, if_pos ⟨c.1, c.2.1, by omega⟩]
    omega
  · rw [if_neg c, if_neg (fun q => c ⟨q.1, q.2.1, by omega⟩)]
def BKR (B : Sum (Int32 × Nat) RSt) (r : Int32) (G H : Nat → Int) (Y : Prop) : Prop := (∃ (k : Int32) (q : Nat), B = .inl (k, q) ∧ r = -1 ∧ H 7 = k.toInt ∧ H 6 = 4 ∧ H 8 = (nI q).toInt ∧ H 1 = G 1 ∧ H 2 = G 2 ∧ H 3 = G 3 ∧ H 4 = G 4 ∧ H 5 = G 5) ∨ (∃ σ : RSt, B = .inr σ ∧ r = nI (bkw σ) ∧ H 7 = 0 ∧ H 6 = 0 ∧ H 1 = (bkw σ : Int) ∧ H 2 = (bkk σ : Int) ∧ H 3 = (bkf σ : Int) ∧ H 4 = 0 ∧ H 5 = 0 ∧ Y)
theorem bk_x {B : Sum (Int32 × Nat) RSt} {r xf xp xt : Int32} {bw9 bn9 gf9 mm9 rc9 bw bn gf mm rc : Nat} {G : Nat → Int} {x0 : Int} {t : Nat → Int} (h : (∃ q : Nat, B = .inl (xf, q) ∧ xp = nI q ∧ xt = 4 ∧ r = -1 ∧ bw9 = bw ∧ bn9 = bn ∧ gf9 = gf ∧ mm9 = mm ∧ rc9 = rc) ∨ (∃ σ : RSt, B = .inr σ ∧ xf = 0 ∧ xt = 0 ∧ r = nI (bkw σ) ∧ bw9 = bkw σ ∧ bn9 = bkk σ ∧ gf9 = bkf σ ∧ mm9 = 0 ∧ rc9 = 0)) (g1 : G 1 = (bw : Int)) (g2 : G 2 = (bn : Int)) (g3 : G 3 = (gf : Int)) (g4 : G 4 = (mm : Int)) (g5 : G 5 = (rc : Int)) : BKR B r G (mkG [x0, ((bw9 : Nat) : Int), ((bn9 : Nat) : Int), ((gf9 : Nat) : Int), ((mm9 : Nat) : Int), ((rc9 : Nat) : Int), (xt : Int32).toInt, (xf : Int32).toInt, (xp : Int32).toInt] t) True := by
  rcases h with ⟨q, h1, h2, h3, h4, h5, h6, h7, h8, h9⟩ | ⟨σ, h1, h2, h3, h4, h5, h6, h7, h8, h9⟩
  · subst h2 h3 h5 h6 h7 h8 h9
    exact Or.inl ⟨xf, q, h1, h4, rfl, rfl, rfl, g1.symm, g2.symm, g3.symm, g4.symm, g5.symm⟩
  · subst h2 h3 h5 h6 h7 h8 h9
    exact Or.inr ⟨σ, h1, h4, rfl, rfl, rfl, rfl, rfl, rfl, rfl, trivial⟩
theorem bk_l {B : Sum (Int32 × Nat) RSt} {r k : Int32} {q : Nat} {G : Nat → Int} {x0 x1 x2 x3 x4 x5 : Int} {t : Nat → Int} {Y : Prop} (h : B = .inl (k, q)) (hr : r = -1) (g1 : G 1 = x1) (g2 : G 2 = x2) (g3 : G 3 = x3) (g4 : G 4 = x4) (g5 : G 5 = x5) : BKR B r G (mkG [x0, x1, x2, x3, x4, x5, (4 : Int32).toInt, (k : Int32).toInt, ((nI q) : Int32).toInt] t) Y :=
  Or.inl ⟨k, q, h, hr, rfl, rfl, rfl, g1.symm, g2.symm, g3.symm, g4.symm, g5.symm⟩
theorem bk_r {B : Sum (Int32 × Nat) RSt} {r : Int32} {an ak aw ad ap af ae : Nat} {nm kn : Nat → Int64} {kd nb di fi fc : Nat → Int32} {G : Nat → Int} {x0 : Int} {t : Nat → Int} (h : ∃ ps : Nat, B = .inr (ps, an, nm, kd, nb, ak, kn, aw, ad, ap, af, ae, di, fi, fc)) (hr : r = nI aw) : BKR B r G (mkG [x0, ((aw : Nat) : Int), ((ak : Nat) : Int), ((af : Nat) : Int), ((0 : Nat) : Int), ((0 : Nat) : Int), (0 : Int32).toInt, (0 : Int32).toInt, ((-1) : Int32).toInt] t) (mkG [x0, ((aw : Nat) : Int), ((ak : Nat) : Int), ((af : Nat) : Int), ((0 : Nat) : Int), ((0 : Nat) : Int), (0 : Int32).toInt, (0 : Int32).toInt, ((-1) : Int32).toInt] t 8 = -1) := by
  obtain ⟨ps, h⟩ := h
  exact Or.inr ⟨_, h, hr, rfl, rfl, rfl, rfl, rfl, rfl, rfl, rfl⟩
/-- the class's, the reference's -/
def REL (g h : Nat → Int) : Prop := g 0 = h 0 ∧ g 1 = h 1 ∧ g 2 = h 2 ∧ g 3 = h 3 ∧ g 4 = h 4 ∧ g 5 = h 5 ∧ g 7 = h 7 ∧ (h 8 = if g 6 = 4 then g 8 else -1) ∧ ∀ k, g (k + 100) = h (k + 100)
theorem rel0 {g h : Nat → Int} (r : REL g h) : g 0 = h 0 := r.1
theorem rel1 {g h : Nat → Int} (r : REL g h) : g 1 = h 1 := r.2.1
theorem rel2 {g h : Nat → Int} (r : REL g h) : g 2 = h 2 := r.2.2.1
theorem rel3 {g h : Nat → Int} (r : REL g h) : g 3 = h 3 := r.2.2.2.1
theorem rel4 {g h : Nat → Int} (r : REL g h) : g 4 = h 4 := r.2.2.2.2.1
theorem rel5 {g h : Nat → Int} (r : REL g h) : g 5 = h 5 := r.2.2.2.2.2.1
theorem rel7 {g h : Nat → Int} (r : REL g h) : g 7 = h 7 := r.2.2.2.2.2.2.1
theorem rel8 {g h : Nat → Int} (r : REL g h) : h 8 = if g 6 = 4 then g 8 else -1 := r.2.2.2.2.2.2.2.1
theorem relT {g h : Nat → Int} (r : REL g h) : ∀ k, g (k + 100) = h (k + 100) := r.2.2.2.2.2.2.2.2
theorem rel_tg {g h : Nat → Int} (r : REL g h) : TG g = TG h := by
  funext k
  unfold TG
  rw [relT r]
theorem rel_q {g h g2 h2 : Nat → Int} (r : REL g h) (a : KC g g2) (b : KC h h2) (qa : g2 6 = g 6 ∧ g2 8 = g 8) (qb : h2 8 = h 8) : REL g2 h2 := by
  obtain ⟨a0, a1, a2, a3, a4, a5, a7, aT⟩ := a
  obtain ⟨b0, b1, b2, b3, b4, b5, b7, bT⟩ := b
  obtain ⟨r0, r1, r2, r3, r4, r5, r7, r8, rT⟩ := r
  exact ⟨by omega, by omega, by omega, by omega, by omega, by omega, by omega, by rw [qb, qa.1, qa.2]; exact r8, fun k => by rw [aT, bT]; exact rT k⟩
theorem rel_l {g h g2 h2 : Nat → Int} (r : REL g h) (a : KC g g2) (b : KC h h2) (qa : ¬ g2 6 = 4) (qb : h2 8 = -1) : REL g2 h2 := by
  obtain ⟨a0, a1, a2, a3, a4, a5, a7, aT⟩ := a
  obtain ⟨b0, b1, b2, b3, b4, b5, b7, bT⟩ := b
  obtain ⟨r0, r1, r2, r3, r4, r5, r7, r8, rT⟩ := r
  exact ⟨by omega, by omega, by omega, by omega, by omega, by omega, by omega, by rw [qb, if_neg qa], fun k => by rw [aT, bT]; exact rT k⟩
theorem rel_f {g h g2 h2 : Nat → Int} {x y z u v : Int32} (r : REL g h) (a : g2 0 = fdN (g 0) ∧ g2 1 = g 1 ∧ g2 2 = g 2 ∧ g2 3 = g 3 ∧ g2 4 = g 4 ∧ g2 5 = g 5 ∧ g2 7 = g 7 ∧ ∀ k, g2 (k + 100) = fdT g x y z u v k) (b : h2 0 = fdN (h 0) ∧ h2 1 = h 1 ∧ h2 2 = h 2 ∧ h2 3 = h 3 ∧ h2 4 = h 4 ∧ h2 5 = h 5 ∧ h2 7 = h 7 ∧ ∀ k, h2 (k + 100) = fdT h x y z u v k) (qa : g2 6 = g 6 ∧ g2 8 = g 8) (qb : h2 8 = h 8) : REL g2 h2 := by
  obtain ⟨a0, a1, a2, a3, a4, a5, a7, aT⟩ := a
  obtain ⟨b0, b1, b2, b3, b4, b5, b7, bT⟩ := b
  obtain ⟨r0, r1, r2, r3, r4, r5, r7, r8, rT⟩ := r
  refine ⟨by rw [a0, b0, r0], by omega, by omega, by omega, by omega, by omega, by omega, by rw [qb, qa.1, qa.2]; exact r8, fun k => ?_⟩
  rw [aT, bT]
  unfold fdT
  rw [r0, rT]
theorem rel_m {g h g2 h2 : Nat → Int} {w : Int32} (r : REL g h) (a : g2 4 = (if (0 ≤ w.toInt ∧ w.toInt < g 2) ∧ g 4 < 20 then g 4 + 1 else g 4) ∧ g2 0 = g 0 ∧ g2 1 = g 1 ∧ g2 2 = g 2 ∧ g2 3 = g 3 ∧ g2 5 = g 5 ∧ g2 7 = g 7 ∧ ∀ k, g2 (k + 100) = g (k + 100)) (b : h2 4 = (if (0 ≤ w.toInt ∧ w.toInt < h 2) ∧ h 4 < 20 then h 4 + 1 else h 4) ∧ h2 0 = h 0 ∧ h2 1 = h 1 ∧ h2 2 = h 2 ∧ h2 3 = h 3 ∧ h2 5 = h 5 ∧ h2 7 = h 7 ∧ ∀ k, h2 (k + 100) = h (k + 100)) (qa : ¬ g2 6 = 4) (qb : h2 8 = -1) : REL g2 h2 := by
  obtain ⟨a4, a0, a1, a2, a3, a5, a7, aT⟩ := a
  obtain ⟨b4, b0, b1, b2, b3, b5, b7, bT⟩ := b
  obtain ⟨r0, r1, r2, r3, r4, r5, r7, r8, rT⟩ := r
  exact ⟨by omega, by omega, by omega, by omega, by rw [a4, b4, r2, r4], by omega, by omega, by rw [qb, if_neg qa], fun k => by rw [aT, bT]; exact rT k⟩
theorem rel_r {g h g2 h2 : Nat → Int} {w v u : Int32} (r : REL g h) (a : g2 5 = (if (0 ≤ w.toInt ∧ w.toInt < g 1) ∧ v.toInt ≤ u.toInt ∧ g 5 < 8 then g 5 + 1 else g 5) ∧ g2 0 = g 0 ∧ g2 1 = g 1 ∧ g2 2 = g 2 ∧ g2 3 = g 3 ∧ g2 4 = g 4 ∧ g2 7 = g 7 ∧ ∀ k, g2 (k + 100) = g (k + 100)) (b : h2 5 = (if (0 ≤ w.toInt ∧ w.toInt < h 1) ∧ v.toInt ≤ u.toInt ∧ h 5 < 8 then h 5 + 1 else h 5) ∧ h2 0 = h 0 ∧ h2 1 = h 1 ∧ h2 2 = h 2 ∧ h2 3 = h 3 ∧ h2 4 = h 4 ∧ h2 7 = h 7 ∧ ∀ k, h2 (k + 100) = h (k + 100)) (qa : ¬ g2 6 = 4) (qb : h2 8 = -1) : REL g2 h2 := by
  obtain ⟨a5, a0, a1, a2, a3, a4, a7, aT⟩ := a
  obtain ⟨b5, b0, b1, b2, b3, b4, b7, bT⟩ := b
  obtain ⟨r0, r1, r2, r3, r4, r5, r7, r8, rT⟩ := r
  exact ⟨by omega, by omega, by omega, by omega, by omega, by rw [a5, b5, r1, r5], by omega, by rw [qb, if_neg qa], fun k => by rw [aT, bT]; exact rT k⟩
theorem rel_b {g h g2 h2 : Nat → Int} {n : Nat} {x y : Int32} {Y : Prop} (r : REL g h) (a : BKR (fBook (TG g) n) x g g2 Y ∧ g2 0 = 0 ∧ ∀ k, g2 (k + 100) = 0) (b : BKR (fBook (TG h) n) y h h2 (h2 8 = -1) ∧ h2 0 = 0 ∧ ∀ k, h2 (k + 100) = 0) : x = y ∧ REL g2 h2 := by
  obtain ⟨a, a0, aT⟩ := a
  obtain ⟨b, b0, bT⟩ := b
  rw [rel_tg r] at a
  have hT : ∀ k, g2 (k + 100) = h2 (k + 100) := fun k => by rw [aT, bT]
  obtain ⟨r0, r1, r2, r3, r4, r5, r7, r8, rT⟩ := r
  rcases a with ⟨k, q, e, p1, p7, p6, p8, p11, p2, p3, p4, p5⟩ | ⟨σ, e, p1, p7, p6, p11, p2, p3, p4, p5, -⟩
  · rcases b with ⟨k', q', e', s1, s7, s6, s8, s11, s2, s3, s4, s5⟩ | ⟨σ', e', -⟩
    · rw [e] at e'
      cases e'
      exact ⟨p1.trans s1.symm, by omega, by omega, by omega, by omega, by omega, by omega, by omega, by rw [if_pos p6, p8, s8], hT⟩
    · rw [e] at e'
      cases e'
  · rcases b with ⟨k', q', e', -⟩ | ⟨σ', e', s1, s7, s6, s11, s2, s3, s4, s5, s8⟩
    · rw [e] at e'
      cases e'
    · rw [e] at e'
      cases e'
      exact ⟨p1.trans s1.symm, by omega, by omega, by omega, by omega, by omega, by omega, by omega, by rw [s8, if_neg (by omega)], hT⟩
def INX (G : Nat → Int) : Prop := G 0 = 0 ∧ G 1 = 0 ∧ G 2 = 0 ∧ G 3 = 0 ∧ G 4 = 0 ∧ G 5 = 0 ∧ G 6 = 0 ∧ G 7 = 0 ∧ ∀ k, G (k + 100) = 0
def INM (G : Nat → Int) : Prop := G 0 = 0 ∧ G 1 = 0 ∧ G 2 = 0 ∧ G 3 = 0 ∧ G 4 = 0 ∧ G 5 = 0 ∧ G 7 = 0 ∧ G 8 = -1 ∧ ∀ k, G (k + 100) = 0
theorem inx_mk {x8 : Int} {f : Nat → Int32} : INX (mkG [((0 : Nat) : Int), ((0 : Nat) : Int), ((0 : Nat) : Int), ((0 : Nat) : Int), ((0 : Nat) : Int), ((0 : Nat) : Int), (0 : Int32).toInt, (0 : Int32).toInt, x8] (tpG 0 f)) := ⟨rfl, rfl, rfl, rfl, rfl, rfl, rfl, rfl, fun k => (mkG_T k).trans (tpG_0 rfl k)⟩
theorem inm_mk {x6 : Int} {f : Nat → Int32} : INM (mkG [((0 : Nat) : Int), 0, 0, 0, 0, 0, x6, (0 : Int32).toInt, ((-1) : Int32).toInt] (tpM 0 f)) := ⟨rfl, rfl, rfl, rfl, rfl, rfl, rfl, rfl, fun k => (mkG_T k).trans (tpM_0 k)⟩
