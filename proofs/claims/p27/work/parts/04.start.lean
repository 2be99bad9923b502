theorem ref_of_exactly {t : Term} {cls : String} {args : Array Value} {s : State} (h : (Cond.exactly t cls).before args s = true) : ∃ a, t.eval args s none [] s = some (.ref a) := by
  simp only [Cond.before, Cond.holds, Cond.value] at h
  cases hv : t.eval args s none [] s with
  | none => simp [hv] at h
  | some v =>
    cases v with
    | ref a => exact ⟨a, rfl⟩
    | _ => cases hf : s.vm.findClass cls <;> simp [hv, hf] at h
abbrev prem : List Cond := flatC (Jvm.Cond.and given_1 narrow_1)
abbrev tst (q : String × Nat × String × List Int32) : Term := .string q.1 q.2.1
abbrev tsv (q : String × Nat × String × List Int32) : Term := .field (tst q) "java/lang/String" "value" "[B"
theorem tb_ex : ∀ q ∈ tXb, Cond.exactly (tst q) "java/lang/String" ∈ prem := by decide +kernel
theorem tb_co : ∀ q ∈ tXb, Cond.eq (.field (tst q) "java/lang/String" "coder" "B") (.int 0) ∈ prem := by decide +kernel
theorem tb_ar : ∀ q ∈ tXb, Cond.arrayOf (tsv q) .byte ∈ prem := by decide +kernel
theorem tb_le : ∀ q ∈ tXb, Cond.eq (.length (tsv q)) (.int (Int32.ofNat q.2.2.2.length)) ∈ prem := by decide +kernel
def elO (q : String × Nat × String × List Int32) : Prop := ∀ j, j < q.2.2.2.length → Cond.eq (.elem (tsv q) (.int (Int32.ofNat j))) (.int (q.2.2.2.getD j 0)) ∈ prem
theorem tb_el0 : elO ("MineAir$Reader", 59, "way", [119, 97, 121]) := by unfold elO; decide +kernel
theorem tb_el1 : elO ("MineAir$Reader", 68, "door", [100, 111, 111, 114]) := by unfold elO; decide +kernel
theorem tb_el2 : elO ("MineAir$Reader", 73, "pair", [112, 97, 105, 114]) := by unfold elO; decide +kernel
theorem tb_el3 : elO ("MineAir$Reader", 78, "fan", [102, 97, 110]) := by unfold elO; decide +kernel
theorem tb_el4 : elO ("MineAir$Reader", 83, "face", [102, 97, 99, 101]) := by unfold elO; decide +kernel
theorem tb_el5 : elO ("MineAir$Reader", 228, "day", [100, 97, 121]) := by unfold elO; decide +kernel
theorem tb_el6 : elO ("MineAir$Reader", 106, "hinder", [104, 105, 110, 100, 101, 114]) := by unfold elO; decide +kernel
theorem tb_el7 : elO ("MineAir$Reader", 112, "size", [115, 105, 122, 101]) := by unfold elO; decide +kernel
theorem tb_el8 : elO ("MineAir$Reader", 114, "walk", [119, 97, 108, 107]) := by unfold elO; decide +kernel
theorem tb_el9 : elO ("MineAir$Reader", 237, "draught", [100, 114, 97, 117, 103, 104, 116]) := by unfold elO; decide +kernel
theorem tb_el10 : elO ("MineAir$Reader", 235, "in", [105, 110]) := by unfold elO; decide +kernel
theorem tb_el11 : elO ("MineAir$Reader", 151, "by", [98, 121]) := by unfold elO; decide +kernel
theorem tb_el12 : elO ("MineAir$Reader", 174, "push", [112, 117, 115, 104]) := by unfold elO; decide +kernel
theorem tb_el13 : elO ("MineAir$Reader", 176, "fall", [102, 97, 108, 108]) := by unfold elO; decide +kernel
theorem tb_el14 : elO ("MineAir$Reader", 178, "cost", [99, 111, 115, 116]) := by unfold elO; decide +kernel
theorem tb_el15 : elO ("MineAir$Reader", 195, "gas", [103, 97, 115]) := by unfold elO; decide +kernel
theorem tb_el16 : elO ("MineAir$Reader", 197, "need", [110, 101, 101, 100]) := by unfold elO; decide +kernel
theorem tb_el17 : elO ("MineAirModel", 181, "way", [119, 97, 121]) := by unfold elO; decide +kernel
theorem tb_el18 : elO ("MineAirModel", 187, "door", [100, 111, 111, 114]) := by unfold elO; decide +kernel
theorem tb_el19 : elO ("MineAirModel", 189, "pair", [112, 97, 105, 114]) := by unfold elO; decide +kernel
theorem tb_el20 : elO ("MineAirModel", 191, "fan", [102, 97, 110]) := by unfold elO; decide +kernel
theorem tb_el21 : elO ("MineAirModel", 193, "face", [102, 97, 99, 101]) := by unfold elO; decide +kernel
theorem tb_el22 : elO ("MineAirModel", 270, "hinder", [104, 105, 110, 100, 101, 114]) := by unfold elO; decide +kernel
theorem tb_el23 : elO ("MineAirModel", 282, "size", [115, 105, 122, 101]) := by unfold elO; decide +kernel
theorem tb_el24 : elO ("MineAirModel", 285, "walk", [119, 97, 108, 107]) := by unfold elO; decide +kernel
theorem tb_el25 : elO ("MineAirModel", 298, "draught", [100, 114, 97, 117, 103, 104, 116]) := by unfold elO; decide +kernel
theorem tb_el26 : elO ("MineAirModel", 302, "in", [105, 110]) := by unfold elO; decide +kernel
theorem tb_el27 : elO ("MineAirModel", 313, "by", [98, 121]) := by unfold elO; decide +kernel
theorem tb_el28 : elO ("MineAirModel", 329, "push", [112, 117, 115, 104]) := by unfold elO; decide +kernel
theorem tb_el29 : elO ("MineAirModel", 333, "fall", [102, 97, 108, 108]) := by unfold elO; decide +kernel
theorem tb_el30 : elO ("MineAirModel", 337, "cost", [99, 111, 115, 116]) := by unfold elO; decide +kernel
theorem tb_el31 : elO ("MineAirModel", 344, "gas", [103, 97, 115]) := by unfold elO; decide +kernel
theorem tb_el32 : elO ("MineAirModel", 346, "need", [110, 101, 101, 100]) := by unfold elO; decide +kernel
theorem tb_el33 : elO ("MineAirModel", 425, "day", [100, 97, 121]) := by unfold elO; decide +kernel
theorem tb_el : ∀ q ∈ tXb, elO q := List.forall_mem_cons.mpr ⟨tb_el0, List.forall_mem_cons.mpr ⟨tb_el1, List.forall_mem_cons.mpr ⟨tb_el2, List.forall_mem_cons.mpr ⟨tb_el3, List.forall_mem_cons.mpr ⟨tb_el4, List.forall_mem_cons.mpr ⟨tb_el5, List.forall_mem_cons.mpr ⟨tb_el6, List.forall_mem_cons.mpr ⟨tb_el7, List.forall_mem_cons.mpr ⟨tb_el8, List.forall_mem_cons.mpr ⟨tb_el9, List.forall_mem_cons.mpr ⟨tb_el10, List.forall_mem_cons.mpr ⟨tb_el11, List.forall_mem_cons.mpr ⟨tb_el12, List.forall_mem_cons.mpr ⟨tb_el13, List.forall_mem_cons.mpr ⟨tb_el14, List.forall_mem_cons.mpr ⟨tb_el15, List.forall_mem_cons.mpr ⟨tb_el16, List.forall_mem_cons.mpr ⟨tb_el17, List.forall_mem_cons.mpr ⟨tb_el18, List.forall_mem_cons.mpr ⟨tb_el19, List.forall_mem_cons.mpr ⟨tb_el20, List.forall_mem_cons.mpr ⟨tb_el21, List.forall_mem_cons.mpr ⟨tb_el22, List.forall_mem_cons.mpr ⟨tb_el23, List.forall_mem_cons.mpr ⟨tb_el24, List.forall_mem_cons.mpr ⟨tb_el25, List.forall_mem_cons.mpr ⟨tb_el26, List.forall_mem_cons.mpr ⟨tb_el27, List.forall_mem_cons.mpr ⟨tb_el28, List.forall_mem_cons.mpr ⟨tb_el29, List.forall_mem_cons.mpr ⟨tb_el30, List.forall_mem_cons.mpr ⟨tb_el31, List.forall_mem_cons.mpr ⟨tb_el32, List.forall_mem_cons.mpr ⟨tb_el33, fun _ h => absurd h List.not_mem_nil⟩⟩⟩⟩⟩⟩⟩⟩⟩⟩⟩⟩⟩⟩⟩⟩⟩⟩⟩⟩⟩⟩⟩⟩⟩⟩⟩⟩⟩⟩⟩⟩⟩⟩
theorem tb_ln : ∀ q ∈ tXb, q.2.2.2.length < 2 ^ 31 := by decide +kernel
theorem tb_w : ∀ q ∈ tXb, Cond.stringRef q.1 q.2.1 q.2.2.1 ∈ lw_tbl := by decide +kernel
theorem st_t : ∀ j, j < 14 → Cond.eq (.elem (.static "MineAir$Flow" "THREES" "[I") (.int (Int32.ofNat j))) (.int (thr3.getD j 0)) ∈ prem := by decide +kernel
theorem st_g : ∀ j, j < 5 → Cond.eq (.elem (.static "MineAir$Trials" "GAPS" "[I") (.int (Int32.ofNat j))) (.int (gap5.getD j 0)) ∈ prem := by decide +kernel
theorem gw_start {b : Nat} {s : State} (hts : ∀ w ∈ lw_tbl, w.before #[Value.ref b] s = true) (hgv : (Jvm.Cond.and given_1 narrow_1).before #[Value.ref b] s = true) : ∃ atx, GW s.heap.size atx s := by
  have hs := flat_of_before _ hgv
  have hA : ∀ a : Nat, a < s.heap.size → ¬ (fun q : Nat => s.heap.size ≤ q) a := fun a h => Nat.not_le.mpr h
  have h0 : ∀ i : Nat, ∃ p : Nat × Nat, ∀ q, tXb[i]? = some q → (tst q).eval #[Value.ref b] s none [] s = some (.ref p.1) ∧ TXT q.2.2.2 p.1 p.2 (fun q => s.heap.size ≤ q) s s.heap := by
    intro i
    cases hq : tXb[i]? with
    | none => exact ⟨(0, 0), fun q h => by cases h⟩
    | some q =>
      have hm : q ∈ tXb := List.mem_of_getElem? hq
      obtain ⟨a, c, cA, kA, q1, q2, q3, q4, q5, q6, -⟩ := Cond.exactly_spec (args := #[Value.ref b]) (first := s) (o := none) (s := s) (idx := []) (t := tst q) (cls := "java/lang/String") (hs _ (tb_ex q hm))
      obtain ⟨t, ht, hT⟩ := va_Tof (f := fun j => .int (q.2.2.2.getD j 0)) (A := fun q => s.heap.size ≤ q) (tb_ln q hm) (hs _ (tb_ar q hm)) (va_eqt (hs _ (tb_le q hm))) (fun j hj => va_eqt (hs _ (tb_el q hm j hj))) hA
      refine ⟨(a, t), fun q' h' => ?_⟩
      cases h'
      exact ⟨q1, ⟨cA, q3, q5, by rw [q6]; exact q2, hA a (Array.getElem?_eq_some_iff.mp q3).1⟩, vk_OFof q1 (va_eqt (hs _ (tb_co q hm))) hA, vk_OFof q1 ht hA, hT⟩
  obtain ⟨ad, had⟩ := Classical.axiomOfChoice h0
  obtain ⟨t1, ht1, hT1⟩ := va_Tof (f := fun j => .int (thr3.getD j 0)) (N := 14) (ty := .int) (tm := .static "MineAir$Flow" "THREES" "[I") (A := fun q => s.heap.size ≤ q) (args := #[Value.ref b]) (s := s) (by decide) (hs _ (by decide +kernel)) (va_eqt (hs _ (by decide +kernel))) (fun j hj => va_eqt (hs _ (st_t j hj))) hA
  obtain ⟨t2, ht2, hT2⟩ := va_Tof (f := fun j => .int (gap5.getD j 0)) (N := 5) (ty := .int) (tm := .static "MineAir$Trials" "GAPS" "[I") (A := fun q => s.heap.size ≤ q) (args := #[Value.ref b]) (s := s) (by decide) (hs _ (by decide +kernel)) (va_eqt (hs _ (by decide +kernel))) (fun j hj => va_eqt (hs _ (st_g j hj))) hA
  have hlt : ∀ i q, tXb[i]? = some q → i ≠ 100 ∧ i ≠ 101 := by
    intro i q hq
    have h1 := (List.getElem?_eq_some_iff.mp hq).1
    have h2 : tXb.length = 34 := by decide
    omega
  refine ⟨fun i => if i = 100 then (t1, 0) else if i = 101 then (t2, 0) else ad i, fun w hw => va_Nw.of (isN_tab (wN_t hw).2) (hts w (wN_t hw).1), fun i q hq => ?_, ?_⟩
  · have h1 := hlt i q hq
    simp only [if_neg h1.1, if_neg h1.2]
    exact vk_R.of (hts _ (tb_w q (List.mem_of_getElem? hq))) (had i q hq).1
  · refine ⟨vx_Zqof (hts _ (by decide +kernel)) (hts _ (by decide +kernel)) (hs _ (by decide +kernel)) hA, vx_Zqof (hts _ (by decide +kernel)) (hts _ (by decide +kernel)) (hs _ (by decide +kernel)) hA, va_Zof (hts _ (by decide +kernel)) (hts _ (by decide +kernel)) (va_eqt (hs _ (by decide +kernel))) hA, va_Zqof (hts _ (by decide +kernel)) (hts _ (by decide +kernel)) (hs _ (by decide +kernel)) hA, va_Zref (hts _ (by decide +kernel)) (hts _ (by decide +kernel)) ht1 hA, hT1, va_Zref (hts _ (by decide +kernel)) (hts _ (by decide +kernel)) ht2 hA, hT2, fun i q hq => ?_⟩
    have h1 := hlt i q hq
    simp only [if_neg h1.1, if_neg h1.2]
    exact (had i q hq).2
