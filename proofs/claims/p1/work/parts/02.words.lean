/-! one word list for all methods: the tables' good words, behind the method's own code -/
def wG : List Cond := lw_tbl.filter goodWord
theorem wG_t {w : Cond} (h : w ∈ wG) : w ∈ lw_tbl := (List.mem_filter.mp h).1
theorem wG_g {w : Cond} (h : w ∈ wG) : goodWord w = true := (List.mem_filter.mp h).2
theorem wG_of {w : Cond} (i : Nat) (h : lw_tbl[i]? = some w) (g : goodWord w = true) : w ∈ wG := List.mem_filter.mpr ⟨List.mem_of_getElem? h, g⟩
/-- the words of a method: its code, then all -/
abbrev wM (y : MethodName) (c : ByteArray) (n : Nat) (r : Option FieldType) : List Cond := Cond.code y c n r :: wG
/-- the same, of a method with a table -/
abbrev wMH (y : MethodName) (c : ByteArray) (n : Nat) (r : Option FieldType) (hh : List (Nat × Nat × Nat × Nat)) : List Cond := Cond.codeWith y c n r hh :: wG
theorem wM_c {c0 w : Cond} (h : w ∈ wG) : w ∈ c0 :: wG := List.mem_cons_of_mem _ h
/-- a callee's words among a caller's -/
theorem gI {c0 : Cond} {Ts : List Cond} (hT : ∀ w ∈ wG, w ∈ Ts) (h : c0 ∈ wG) : GoodIn Ts (c0 :: wG) := by
  intro w hw
  rcases List.mem_cons.mp hw with rfl | hw
  · exact ⟨hT _ h, good_of_word (wG_g h)⟩
  · exact ⟨hT _ hw, good_of_word (wG_g hw)⟩
theorem gV {y : MethodName} {c0 : Cond} {own C : String} {i : Nat} {Ts : List Cond} (hT : ∀ w ∈ wG, w ∈ Ts) (h : c0 ∈ wG) (h1 : Cond.methodLink own i y ∈ wG) (h2 : Cond.instanceMethod y ∈ wG) (h3 : Cond.selects C y y ∈ wG) (h4 : Cond.initialized C ∈ wG) : GoodIn Ts (wsV own i C y (c0 :: wG)) := by
  intro w hw
  rcases List.mem_append.mp hw with hw | hw
  · simp only [List.mem_cons, List.not_mem_nil, or_false] at hw
    rcases hw with rfl | rfl | rfl | rfl
    · exact ⟨hT _ h1, good_of_word (wG_g h1)⟩
    · exact ⟨hT _ h2, good_of_word (wG_g h2)⟩
    · exact ⟨hT _ h3, good_of_word (wG_g h3)⟩
    · exact ⟨hT _ h4, good_of_word (wG_g h4)⟩
  · exact gI hT h w hw
theorem gS {y : MethodName} {c0 : Cond} {own : String} {i : Nat} {Ts : List Cond} (hT : ∀ w ∈ wG, w ∈ Ts) (h : c0 ∈ wG) (h1 : Cond.methodLink own i y ∈ wG) (h2 : Cond.static y ∈ wG) (h4 : Cond.initialized y.cls ∈ wG) : GoodIn Ts (va_wsS own i y (c0 :: wG)) := by
  intro w hw
  rcases List.mem_append.mp hw with hw | hw
  · simp only [List.mem_cons, List.not_mem_nil, or_false] at hw
    rcases hw with rfl | rfl | rfl
    · exact ⟨hT _ h1, good_of_word (wG_g h1)⟩
    · exact ⟨hT _ h2, good_of_word (wG_g h2)⟩
    · exact ⟨hT _ h4, good_of_word (wG_g h4)⟩
  · exact gI hT h w hw
/-! what every method takes along of the machine: links across the nest, and the texts -/
def isN : Cond → Bool
  | .fieldLinkNest .. => true
  | .methodLinkNest .. => true
  | .castable .. => true
  | .declares .. => true
  | _ => false
def wN : List Cond := lw_tbl.filter isN
theorem wN_of {w : Cond} (i : Nat) (h : lw_tbl[i]? = some w) (g : isN w = true) : w ∈ wN := List.mem_filter.mpr ⟨List.mem_of_getElem? h, g⟩
theorem wN_t {w : Cond} (h : w ∈ wN) : w ∈ lw_tbl ∧ isN w = true := List.mem_filter.mp h
def tX : List (String × Nat × String) := lw_tbl.filterMap (fun w => match w with | .stringRef o k t => some (o, k, t) | _ => none)
theorem isN_tab {w : Cond} (h : isN w = true) : w.onTables = true := by cases w <;> first | rfl | cases h
/-- two statics of Throwable, which nobody writes: null or a reference -/
def GZ (n0 : Nat) (U : State) (H : Heap) : Prop := (vx_Zq Bundle.tN "UNASSIGNED_STACK" Bundle.steD (fun q => n0 ≤ q) U H) ∧ vx_Zq Bundle.tN "SUPPRESSED_SENTINEL" Bundle.listD (fun q => n0 ≤ q) U H
/-- what every method takes along: links across the nest, texts, statics below the cell n0 -/
def GW (n0 : Nat) (U : State) : Prop := (∀ w ∈ wN, va_Nw w U) ∧ (∀ q ∈ tX, ∃ a, vk_R q.1 q.2.1 q.2.2 a U) ∧ GZ n0 U U.heap
theorem GW.blind {n0 : Nat} {U : State} {g : JFrame} {mk : MethodId} {a : Array Value} (h : GW n0 U) : GW n0 (U.calling g mk a) := ⟨fun w hw => va_Nw.same (isN_tab (wN_t hw).2) (u := U) rfl (h.1 w hw), fun q hq => by obtain ⟨a, ha⟩ := h.2.1 q hq; exact ⟨a, vk_R.same (u := U) rfl ha⟩, vx_Zq.moved (u := U) (Vm.Alike.refl U.vm) h.2.2.1, vx_Zq.moved (u := U) (Vm.Alike.refl U.vm) h.2.2.2⟩
theorem GW.go {n0 : Nat} {s U : State} {H : Heap} (hW : s.WarmedH U.vm) (hU : U.heap = H) (h : GW n0 s) (hq : ∀ a : Nat, a < s.heap.size → ¬ n0 ≤ a → H[a]? = s.heap[a]?) : GW n0 U := by
  refine ⟨fun w hw => ?_, fun q hq => ?_, ?_, ?_⟩
  · have h1 := h.1 w hw
    have h2 := (wN_t hw).2
    cases w <;> first | cases h2; done | exact va_Nw.warmF hW h1 | exact va_Nw.warmM hW h1 | exact va_Nw.warmC hW h1 | exact va_Nw.warmD hW h1
  · obtain ⟨a, ha⟩ := h.2.1 q hq
    exact ⟨a, vk_R.warm hW ha⟩
  · rw [hU]
    exact vx_Zq.moved hW.alike (h.2.2.1.kept hq)
  · rw [hU]
    exact vx_Zq.moved hW.alike (h.2.2.2.kept hq)
theorem GW.t {n0 : Nat} {U : State} (h : GW n0 U) {own : String} {k : Nat} {t : String} (hq : (own, k, t) ∈ tX) : ∃ a, vk_R own k t a U := h.2.1 _ hq
theorem vA_n0 {n0 sz : Nat} {ws : va_W} (hD : va_D (fun q => n0 ≤ q) ws) (h : n0 ≤ sz) : ∀ q, va_A ws sz q → n0 ≤ q := by
  intro q hq
  rcases hq with ⟨k, e, hk⟩ | hq
  · exact hD.2 k _ hk
  · exact Nat.le_trans h hq
theorem nl0 {w : Int32} (h : ¬ w < 0) : 0 ≤ w := Int32.not_lt.mp h
theorem vx_athrow {p : Program} {l : Launch} {e : Env} {R : Room} {s : State} {m : MethodId} {args : Array Value} {below : List Frame} {meth : Method} {c : Code} {H : Heap} {locs : List Loc} {cells slots : Nat} {Q : State → Prop} {cc : ByteArray} {pc : Nat} {ls : Array Slot} {rest : List Value} {q : Addr} (hexec : p.tables.exec = Jvm.exec) (hb : c.code = cc) (hdg : decode cc pc = .ok (.athrow, 1))
    (k : vx_W p l e R s m args below meth c H locs cells slots Q (F0 m pc ls rest) q) : W p l e R s m args below meth c H locs cells slots Q (F0 m pc ls (.ref q :: rest)) := by
  intro T hT X
  obtain ⟨t, st, hq⟩ := k T hT X
  refine ⟨t, ?_, hq⟩
  have hdg' : decode c.code pc = .ok (.athrow, 1) := by rw [hb]; exact hdg
  jvm_step X.here [X.here.top, hexec, hdg', Op.athrow.wp_sem]
  exact st
theorem hw_no {p : Prop} (h : False) : p := h.elim
