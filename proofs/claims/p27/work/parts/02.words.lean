/-! one word list for all methods: the tables' good words, behind the method's own code -/
def wG : List Cond := lw_tbl.filter goodWord
theorem wG_t {w : Cond} (h : w ∈ wG) : w ∈ lw_tbl := (List.mem_filter.mp h).1
theorem wG_g {w : Cond} (h : w ∈ wG) : goodWord w = true := (List.mem_filter.mp h).2
theorem wG_of {w : Cond} (i : Nat) (h : lw_tbl[i]? = some w) (g : goodWord w = true) : w ∈ wG := List.mem_filter.mpr ⟨List.mem_of_getElem? h, g⟩
/-- the words of a method: its code, then all -/
abbrev wM (y : MethodName) (c : ByteArray) (n : Nat) (r : Option FieldType) : List Cond := Cond.code y c n r :: wG
/-- the same, of a method with a table -/
abbrev wMH (y : MethodName) (c : ByteArray) (n : Nat) (r : Option FieldType) (hh : List (Nat × Nat × Nat × Nat)) : List Cond := Cond.codeWith y c n r hh :: wG
theorem wM_c {c0 w : Cond} (h : w ∈ wG) : w ∈ c0 :: wG := List.mem_cons_of_mem _ h
/-- a callee's words among a caller's -/
theorem gI {c0 : Cond} {Ts : List Cond} (hT : ∀ w ∈ wG, w ∈ Ts) (h : c0 ∈ wG) : GoodIn Ts (c0 :: wG) := by
  intro w hw
  rcases List.mem_cons.mp hw with rfl | hw
  · exact ⟨hT _ h, good_of_word (wG_g h)⟩
  · exact ⟨hT _ hw, good_of_word (wG_g hw)⟩
theorem gV {y : MethodName} {c0 : Cond} {own C : String} {i : Nat} {Ts : List Cond} (hT : ∀ w ∈ wG, w ∈ Ts) (h : c0 ∈ wG) (h1 : Cond.methodLink own i y ∈ wG) (h2 : Cond.instanceMethod y ∈ wG) (h3 : Cond.selects C y y ∈ wG) (h4 : Cond.initialized C ∈ wG) : GoodIn Ts (wsV own i C y (c0 :: wG)) := by
  intro w hw
  rcases List.mem_append.mp hw with hw | hw
  · simp only [List.mem_cons, List.not_mem_nil, or_false] at hw
    rcases hw with rfl | rfl | rfl | rfl
    · exact ⟨hT _ h1, good_of_word (wG_g h1)⟩
    · exact ⟨hT _ h2, good_of_word (wG_g h2)⟩
    · exact ⟨hT _ h3, good_of_word (wG_g h3)⟩
    · exact ⟨hT _ h4, good_of_word (wG_g h4)⟩
  · exact gI hT h w hw
theorem gS {y : MethodName} {c0 : Cond} {own : String} {i : Nat} {Ts : List Cond} (hT : ∀ w ∈ wG, w ∈ Ts) (h : c0 ∈ wG) (h1 : Cond.methodLink own i y ∈ wG) (h2 : Cond.static y ∈ wG) (h4 : Cond.initialized y.cls ∈ wG) : GoodIn Ts (va_wsS own i y (c0 :: wG)) := by
  intro w hw
  rcases List.mem_append.mp hw with hw | hw
  · simp only [List.mem_cons, List.not_mem_nil, or_false] at hw
    rcases hw with rfl | rfl | rfl
    · exact ⟨hT _ h1, good_of_word (wG_g h1)⟩
    · exact ⟨hT _ h2, good_of_word (wG_g h2)⟩
    · exact ⟨hT _ h4, good_of_word (wG_g h4)⟩
  · exact gI hT h w hw
/-! what every method takes along of the machine: links across the nest, and the texts -/
def isN : Cond → Bool
  | .fieldLinkNest .. => true
  | .methodLinkNest .. => true
  | .castable .. => true
  | .declares .. => true
  | _ => false
def wN : List Cond := lw_tbl.filter isN
theorem wN_of {w : Cond} (i : Nat) (h : lw_tbl[i]? = some w) (g : isN w = true) : w ∈ wN := List.mem_filter.mpr ⟨List.mem_of_getElem? h, g⟩
theorem wN_t {w : Cond} (h : w ∈ wN) : w ∈ lw_tbl ∧ isN w = true := List.mem_filter.mp h
def tXb : List (String × Nat × String × List Int32) := [("MineAir$Reader", 59, "way", [119, 97, 121]), ("MineAir$Reader", 68, "door", [100, 111, 111, 114]), ("MineAir$Reader", 73, "pair", [112, 97, 105, 114]), ("MineAir$Reader", 78, "fan", [102, 97, 110]), ("MineAir$Reader", 83, "face", [102, 97, 99, 101]), ("MineAir$Reader", 228, "day", [100, 97, 121]), ("MineAir$Reader", 106, "hinder", [104, 105, 110, 100, 101, 114]), ("MineAir$Reader", 112, "size", [115, 105, 122, 101]), ("MineAir$Reader", 114, "walk", [119, 97, 108, 107]), ("MineAir$Reader", 237, "draught", [100, 114, 97, 117, 103, 104, 116]), ("MineAir$Reader", 235, "in", [105, 110]), ("MineAir$Reader", 151, "by", [98, 121]), ("MineAir$Reader", 174, "push", [112, 117, 115, 104]), ("MineAir$Reader", 176, "fall", [102, 97, 108, 108]), ("MineAir$Reader", 178, "cost", [99, 111, 115, 116]), ("MineAir$Reader", 195, "gas", [103, 97, 115]), ("MineAir$Reader", 197, "need", [110, 101, 101, 100]), ("MineAirModel", 181, "way", [119, 97, 121]), ("MineAirModel", 187, "door", [100, 111, 111, 114]), ("MineAirModel", 189, "pair", [112, 97, 105, 114]), ("MineAirModel", 191, "fan", [102, 97, 110]), ("MineAirModel", 193, "face", [102, 97, 99, 101]), ("MineAirModel", 270, "hinder", [104, 105, 110, 100, 101, 114]), ("MineAirModel", 282, "size", [115, 105, 122, 101]), ("MineAirModel", 285, "walk", [119, 97, 108, 107]), ("MineAirModel", 298, "draught", [100, 114, 97, 117, 103, 104, 116]), ("MineAirModel", 302, "in", [105, 110]), ("MineAirModel", 313, "by", [98, 121]), ("MineAirModel", 329, "push", [112, 117, 115, 104]), ("MineAirModel", 333, "fall", [102, 97, 108, 108]), ("MineAirModel", 337, "cost", [99, 111, 115, 116]), ("MineAirModel", 344, "gas", [103, 97, 115]), ("MineAirModel", 346, "need", [110, 101, 101, 100]), ("MineAirModel", 425, "day", [100, 97, 121])]
theorem isN_tab {w : Cond} (h : isN w = true) : w.onTables = true := by cases w <;> first | rfl | cases h
/-- a text: its String, its bytes -/
def TXT (bs : List Int32) (a v : Nat) (A : Nat → Prop) (U : State) (H : Heap) : Prop := va_O "java/lang/String" a A U H ∧ va_OF "java/lang/String" "coder" "B" (.int 0) a A U H ∧ va_OF "java/lang/String" "value" "[B" (.ref v) a A U H ∧ va_T .byte v bs.length (fun j => .int (bs.getD j 0)) A U H
theorem TXT.moved {bs : List Int32} {a v : Nat} {A : Nat → Prop} {u U : State} {H : Heap} (hvm : u.vm.Alike U.vm) (h : TXT bs a v A u H) : TXT bs a v A U H := ⟨va_O.moved hvm h.1, va_OF.moved hvm h.2.1, va_OF.moved hvm h.2.2.1, va_T.moved hvm h.2.2.2⟩
theorem TXT.kept {bs : List Int32} {a v : Nat} {A : Nat → Prop} {U : State} {H H1 : Heap} (h : TXT bs a v A U H) (hq : ∀ a : Nat, a < H.size → ¬ A a → H1[a]? = H[a]?) : TXT bs a v A U H1 := ⟨h.1.kept hq, h.2.1.kept hq, h.2.2.1.kept hq, h.2.2.2.kept hq⟩
theorem TXT.narrow {bs : List Int32} {a v : Nat} {A B : Nat → Prop} {U : State} {H : Heap} (h : TXT bs a v A U H) (hAB : ∀ q, B q → A q) : TXT bs a v B U H := ⟨h.1.narrow hAB, h.2.1.narrow hAB, h.2.2.1.narrow hAB, h.2.2.2.narrow hAB⟩
def thr3 : List Int32 := [1, 3, 9, 27, 81, 243, 729, 2187, 6561, 19683, 59049, 177147, 531441, 1594323]
def gap5 : List Int32 := [121, 40, 13, 4, 1]
/-- what lies in the heap below n0 and nobody writes: texts, static tables, statics -/
def GZ (n0 : Nat) (atx : Nat → Nat × Nat) (U : State) (H : Heap) : Prop :=
  vx_Zq Bundle.tN "UNASSIGNED_STACK" Bundle.steD (fun q => n0 ≤ q) U H ∧ vx_Zq Bundle.tN "SUPPRESSED_SENTINEL" Bundle.listD (fun q => n0 ≤ q) U H ∧ va_Z "java/lang/String" "COMPACT_STRINGS" "Z" (.int 1) (fun q => n0 ≤ q) U H ∧ va_Zq "jdk/internal/util/Preconditions" "SIOOBE_FORMATTER" "Ljava/util/function/BiFunction;" (fun q => n0 ≤ q) U H ∧ va_Z "MineAir$Flow" "THREES" "[I" (.ref (atx 100).1) (fun q => n0 ≤ q) U H ∧ va_T .int (atx 100).1 14 (fun j => .int (thr3.getD j 0)) (fun q => n0 ≤ q) U H ∧ va_Z "MineAir$Trials" "GAPS" "[I" (.ref (atx 101).1) (fun q => n0 ≤ q) U H ∧ va_T .int (atx 101).1 5 (fun j => .int (gap5.getD j 0)) (fun q => n0 ≤ q) U H ∧ ∀ i q, tXb[i]? = some q → TXT q.2.2.2 (atx i).1 (atx i).2 (fun q => n0 ≤ q) U H
theorem GZ.moved {n0 : Nat} {atx : Nat → Nat × Nat} {u U : State} {H : Heap} (hvm : u.vm.Alike U.vm) (h : GZ n0 atx u H) : GZ n0 atx U H := by
  obtain ⟨h1, h2, h3, h4, h5, h6, h7, h8, h9⟩ := h
  exact ⟨vx_Zq.moved hvm h1, vx_Zq.moved hvm h2, va_Z.moved hvm h3, va_Zq.moved hvm h4, va_Z.moved hvm h5, va_T.moved hvm h6, va_Z.moved hvm h7, va_T.moved hvm h8, fun i q hq => TXT.moved hvm (h9 i q hq)⟩
theorem GZ.kept {n0 : Nat} {atx : Nat → Nat × Nat} {U : State} {H H1 : Heap} (h : GZ n0 atx U H) (hq : ∀ a : Nat, a < H.size → ¬ n0 ≤ a → H1[a]? = H[a]?) : GZ n0 atx U H1 := by
  obtain ⟨h1, h2, h3, h4, h5, h6, h7, h8, h9⟩ := h
  exact ⟨h1.kept hq, h2.kept hq, h3.kept hq, h4.kept hq, h5.kept hq, h6.kept hq, h7.kept hq, h8.kept hq, fun i q hq1 => (h9 i q hq1).kept hq⟩
/-- what every method takes along: links across the nest, texts, statics below the cell n0 -/
def GW (n0 : Nat) (atx : Nat → Nat × Nat) (U : State) : Prop := (∀ w ∈ wN, va_Nw w U) ∧ (∀ i q, tXb[i]? = some q → vk_R q.1 q.2.1 q.2.2.1 (atx i).1 U) ∧ GZ n0 atx U U.heap
theorem GW.blind {n0 : Nat} {atx : Nat → Nat × Nat} {U : State} {g : JFrame} {mk : MethodId} {a : Array Value} (h : GW n0 atx U) : GW n0 atx (U.calling g mk a) := ⟨fun w hw => va_Nw.same (isN_tab (wN_t hw).2) (u := U) rfl (h.1 w hw), fun i q hq => vk_R.same (u := U) rfl (h.2.1 i q hq), GZ.moved (u := U) (Vm.Alike.refl U.vm) h.2.2⟩
theorem GW.go {n0 : Nat} {atx : Nat → Nat × Nat} {s U : State} {H : Heap} (hW : s.WarmedH U.vm) (hU : U.heap = H) (h : GW n0 atx s) (hq : ∀ a : Nat, a < s.heap.size → ¬ n0 ≤ a → H[a]? = s.heap[a]?) : GW n0 atx U := by
  refine ⟨fun w hw => ?_, fun i q hq => vk_R.warm hW (h.2.1 i q hq), ?_⟩
  · have h1 := h.1 w hw
    have h2 := (wN_t hw).2
    cases w <;> first | cases h2; done | exact va_Nw.warmF hW h1 | exact va_Nw.warmM hW h1 | exact va_Nw.warmC hW h1 | exact va_Nw.warmD hW h1
  · rw [hU]
    exact GZ.moved hW.alike (h.2.2.kept hq)
theorem GW.t {n0 : Nat} {atx : Nat → Nat × Nat} {U : State} (h : GW n0 atx U) (i : Nat) {q : String × Nat × String × List Int32} (hq : tXb[i]? = some q) : vk_R q.1 q.2.1 q.2.2.1 (atx i).1 U := h.2.1 i q hq
theorem GW.tx {n0 : Nat} {atx : Nat → Nat × Nat} {U : State} (h : GW n0 atx U) (i : Nat) {q : String × Nat × String × List Int32} (hq : tXb[i]? = some q) : TXT q.2.2.2 (atx i).1 (atx i).2 (fun q => n0 ≤ q) U U.heap := h.2.2.2.2.2.2.2.2.2.2 i q hq
def txb (i : Nat) : List Int32 := (tXb.getD i ("", 0, "", [])).2.2.2
theorem GW.txi {n0 : Nat} {atx : Nat → Nat × Nat} {U : State} (h : GW n0 atx U) {i : Nat} (hi : i < 34) : TXT (txb i) (atx i).1 (atx i).2 (fun q => n0 ≤ q) U U.heap := by
  have e : tXb[i]? = some (tXb.getD i ("", 0, "", [])) := by
    rw [List.getD_eq_getElem?_getD, List.getElem?_eq_getElem (by simpa [tXb] using hi)]
    rfl
  exact h.tx i e
theorem vA_n0 {n0 sz : Nat} {ws : va_W} (hD : va_D (fun q => n0 ≤ q) ws) (h : n0 ≤ sz) : ∀ q, va_A ws sz q → n0 ≤ q := by
  intro q hq
  rcases hq with ⟨k, e, hk⟩ | hq
  · exact hD.2 k _ hk
  · exact Nat.le_trans h hq
theorem nl0 {w : Int32} (h : ¬ w < 0) : 0 ≤ w := Int32.not_lt.mp h
theorem vx_athrow {p : Program} {l : Launch} {e : Env} {R : Room} {s : State} {m : MethodId} {args : Array Value} {below : List Frame} {meth : Method} {c : Code} {H : Heap} {locs : List Loc} {cells slots : Nat} {Q : State → Prop} {cc : ByteArray} {pc : Nat} {ls : Array Slot} {rest : List Value} {q : Addr} (hexec : p.tables.exec = Jvm.exec) (hb : c.code = cc) (hdg : decode cc pc = .ok (.athrow, 1))
    (k : vx_W p l e R s m args below meth c H locs cells slots Q (F0 m pc ls rest) q) : W p l e R s m args below meth c H locs cells slots Q (F0 m pc ls (.ref q :: rest)) := by
  intro T hT X
  obtain ⟨t, st, hq⟩ := k T hT X
  refine ⟨t, ?_, hq⟩
  have hdg' : decode c.code pc = .ok (.athrow, 1) := by rw [hb]; exact hdg
  jvm_step X.here [X.here.top, hexec, hdg', Op.athrow.wp_sem]
  exact st
theorem hw_no {p : Prop} (h : False) : p := h.elim

