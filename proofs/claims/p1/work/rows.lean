section
-- ===== PART A: goes FIRST, ahead of the names: the tables' words, and 'selects' of the private methods out of them =====
/-- a private method of a class that the tables say can be made, by its rows of tables_1 -/
def lw_okq (q : MethodName × Nat) : Prop := (q.1.cls ≠ "java/lang/invoke/MethodHandle" ∧ q.1.cls ≠ "java/lang/invoke/VarHandle") ∧ Cond.instantiable q.1.cls q.2 ∈ tables_1 ∧ Cond.privateMethod q.1 ∈ tables_1 ∧ Cond.instanceMethod q.1 ∈ tables_1
theorem lw_p0 : lw_okq (⟨"MineAir", "refuse", "(I)I"⟩, 12) := ⟨⟨by decide +kernel, by decide +kernel⟩, List.mem_of_getElem? (i := 28) (by decide +kernel), List.mem_of_getElem? (i := 607) (by decide +kernel), List.mem_of_getElem? (i := 608) (by decide +kernel)⟩
theorem lw_p1 : lw_okq (⟨"MineAir$Reader", "next", "()V"⟩, 15) := ⟨⟨by decide +kernel, by decide +kernel⟩, List.mem_of_getElem? (i := 215) (by decide +kernel), List.mem_of_getElem? (i := 620) (by decide +kernel), List.mem_of_getElem? (i := 621) (by decide +kernel)⟩
theorem lw_p2 : lw_okq (⟨"MineAir$Reader", "readWord", "()V"⟩, 15) := ⟨⟨by decide +kernel, by decide +kernel⟩, List.mem_of_getElem? (i := 215) (by decide +kernel), List.mem_of_getElem? (i := 627) (by decide +kernel), List.mem_of_getElem? (i := 628) (by decide +kernel)⟩
theorem lw_p3 : lw_okq (⟨"MineAir$Reader", "readDigits", "()V"⟩, 15) := ⟨⟨by decide +kernel, by decide +kernel⟩, List.mem_of_getElem? (i := 215) (by decide +kernel), List.mem_of_getElem? (i := 634) (by decide +kernel), List.mem_of_getElem? (i := 635) (by decide +kernel)⟩
theorem lw_p4 : lw_okq (⟨"MineAir$Reader", "takeWord", "(Ljava/lang/String;)Z"⟩, 15) := ⟨⟨by decide +kernel, by decide +kernel⟩, List.mem_of_getElem? (i := 215) (by decide +kernel), List.mem_of_getElem? (i := 641) (by decide +kernel), List.mem_of_getElem? (i := 642) (by decide +kernel)⟩
theorem lw_p5 : lw_okq (⟨"MineAir$Reader", "isWord", "(Ljava/lang/String;)Z"⟩, 15) := ⟨⟨by decide +kernel, by decide +kernel⟩, List.mem_of_getElem? (i := 215) (by decide +kernel), List.mem_of_getElem? (i := 645) (by decide +kernel), List.mem_of_getElem? (i := 646) (by decide +kernel)⟩
theorem lw_p6 : lw_okq (⟨"MineAir$Reader", "readWay", "()V"⟩, 15) := ⟨⟨by decide +kernel, by decide +kernel⟩, List.mem_of_getElem? (i := 215) (by decide +kernel), List.mem_of_getElem? (i := 700) (by decide +kernel), List.mem_of_getElem? (i := 701) (by decide +kernel)⟩
theorem lw_p7 : lw_okq (⟨"MineAir$Reader", "takeNewName", "(III)I"⟩, 15) := ⟨⟨by decide +kernel, by decide +kernel⟩, List.mem_of_getElem? (i := 215) (by decide +kernel), List.mem_of_getElem? (i := 704) (by decide +kernel), List.mem_of_getElem? (i := 705) (by decide +kernel)⟩
theorem lw_p8 : lw_okq (⟨"MineAir$Reader", "isName", "()Z"⟩, 15) := ⟨⟨by decide +kernel, by decide +kernel⟩, List.mem_of_getElem? (i := 215) (by decide +kernel), List.mem_of_getElem? (i := 708) (by decide +kernel), List.mem_of_getElem? (i := 709) (by decide +kernel)⟩
theorem lw_p9 : lw_okq (⟨"MineAir$Reader", "miss", "(I)Z"⟩, 15) := ⟨⟨by decide +kernel, by decide +kernel⟩, List.mem_of_getElem? (i := 215) (by decide +kernel), List.mem_of_getElem? (i := 716) (by decide +kernel), List.mem_of_getElem? (i := 717) (by decide +kernel)⟩
theorem lw_p10 : lw_okq (⟨"MineAir$Reader", "nameIndex", "()I"⟩, 15) := ⟨⟨by decide +kernel, by decide +kernel⟩, List.mem_of_getElem? (i := 215) (by decide +kernel), List.mem_of_getElem? (i := 720) (by decide +kernel), List.mem_of_getElem? (i := 721) (by decide +kernel)⟩
theorem lw_p11 : lw_okq (⟨"MineAir$Reader", "takeKnot", "(I)I"⟩, 15) := ⟨⟨by decide +kernel, by decide +kernel⟩, List.mem_of_getElem? (i := 215) (by decide +kernel), List.mem_of_getElem? (i := 724) (by decide +kernel), List.mem_of_getElem? (i := 725) (by decide +kernel)⟩
theorem lw_p12 : lw_okq (⟨"MineAir$Reader", "knotNumber", "()I"⟩, 15) := ⟨⟨by decide +kernel, by decide +kernel⟩, List.mem_of_getElem? (i := 215) (by decide +kernel), List.mem_of_getElem? (i := 728) (by decide +kernel), List.mem_of_getElem? (i := 729) (by decide +kernel)⟩
theorem lw_p13 : lw_okq (⟨"MineAir$Reader", "addKnot", "()I"⟩, 15) := ⟨⟨by decide +kernel, by decide +kernel⟩, List.mem_of_getElem? (i := 215) (by decide +kernel), List.mem_of_getElem? (i := 732) (by decide +kernel), List.mem_of_getElem? (i := 733) (by decide +kernel)⟩
theorem lw_p14 : lw_okq (⟨"MineAir$Reader", "takeWhole", "(Ljava/lang/String;II)I"⟩, 15) := ⟨⟨by decide +kernel, by decide +kernel⟩, List.mem_of_getElem? (i := 215) (by decide +kernel), List.mem_of_getElem? (i := 738) (by decide +kernel), List.mem_of_getElem? (i := 739) (by decide +kernel)⟩
theorem lw_p15 : lw_okq (⟨"MineAir$Reader", "takeDraught", "()I"⟩, 15) := ⟨⟨by decide +kernel, by decide +kernel⟩, List.mem_of_getElem? (i := 215) (by decide +kernel), List.mem_of_getElem? (i := 744) (by decide +kernel), List.mem_of_getElem? (i := 745) (by decide +kernel)⟩
def lw_privs_1 : List (MethodName × Nat) := [(⟨"MineAir", "refuse", "(I)I"⟩, 12), (⟨"MineAir$Reader", "next", "()V"⟩, 15), (⟨"MineAir$Reader", "readWord", "()V"⟩, 15), (⟨"MineAir$Reader", "readDigits", "()V"⟩, 15), (⟨"MineAir$Reader", "takeWord", "(Ljava/lang/String;)Z"⟩, 15), (⟨"MineAir$Reader", "isWord", "(Ljava/lang/String;)Z"⟩, 15), (⟨"MineAir$Reader", "readWay", "()V"⟩, 15), (⟨"MineAir$Reader", "takeNewName", "(III)I"⟩, 15), (⟨"MineAir$Reader", "isName", "()Z"⟩, 15), (⟨"MineAir$Reader", "miss", "(I)Z"⟩, 15), (⟨"MineAir$Reader", "nameIndex", "()I"⟩, 15), (⟨"MineAir$Reader", "takeKnot", "(I)I"⟩, 15), (⟨"MineAir$Reader", "knotNumber", "()I"⟩, 15), (⟨"MineAir$Reader", "addKnot", "()I"⟩, 15), (⟨"MineAir$Reader", "takeWhole", "(Ljava/lang/String;II)I"⟩, 15), (⟨"MineAir$Reader", "takeDraught", "()I"⟩, 15)]
theorem lw_r1 : ∀ q ∈ lw_privs_1, lw_okq q := List.forall_mem_cons.mpr ⟨lw_p0, List.forall_mem_cons.mpr ⟨lw_p1, List.forall_mem_cons.mpr ⟨lw_p2, List.forall_mem_cons.mpr ⟨lw_p3, List.forall_mem_cons.mpr ⟨lw_p4, List.forall_mem_cons.mpr ⟨lw_p5, List.forall_mem_cons.mpr ⟨lw_p6, List.forall_mem_cons.mpr ⟨lw_p7, List.forall_mem_cons.mpr ⟨lw_p8, List.forall_mem_cons.mpr ⟨lw_p9, List.forall_mem_cons.mpr ⟨lw_p10, List.forall_mem_cons.mpr ⟨lw_p11, List.forall_mem_cons.mpr ⟨lw_p12, List.forall_mem_cons.mpr ⟨lw_p13, List.forall_mem_cons.mpr ⟨lw_p14, List.forall_mem_cons.mpr ⟨lw_p15, fun _ h => absurd h List.not_mem_nil⟩⟩⟩⟩⟩⟩⟩⟩⟩⟩⟩⟩⟩⟩⟩⟩
theorem lw_p16 : lw_okq (⟨"MineAir$Reader", "readDoor", "()V"⟩, 15) := ⟨⟨by decide +kernel, by decide +kernel⟩, List.mem_of_getElem? (i := 215) (by decide +kernel), List.mem_of_getElem? (i := 749) (by decide +kernel), List.mem_of_getElem? (i := 750) (by decide +kernel)⟩
theorem lw_p17 : lw_okq (⟨"MineAir$Reader", "takePlace", "([I)I"⟩, 15) := ⟨⟨by decide +kernel, by decide +kernel⟩, List.mem_of_getElem? (i := 215) (by decide +kernel), List.mem_of_getElem? (i := 753) (by decide +kernel), List.mem_of_getElem? (i := 754) (by decide +kernel)⟩
theorem lw_p18 : lw_okq (⟨"MineAir$Reader", "findTold", "(I)I"⟩, 15) := ⟨⟨by decide +kernel, by decide +kernel⟩, List.mem_of_getElem? (i := 215) (by decide +kernel), List.mem_of_getElem? (i := 758) (by decide +kernel), List.mem_of_getElem? (i := 759) (by decide +kernel)⟩
theorem lw_p19 : lw_okq (⟨"MineAir$Reader", "readPair", "()V"⟩, 15) := ⟨⟨by decide +kernel, by decide +kernel⟩, List.mem_of_getElem? (i := 215) (by decide +kernel), List.mem_of_getElem? (i := 763) (by decide +kernel), List.mem_of_getElem? (i := 764) (by decide +kernel)⟩
theorem lw_p20 : lw_okq (⟨"MineAir$Reader", "readFan", "()V"⟩, 15) := ⟨⟨by decide +kernel, by decide +kernel⟩, List.mem_of_getElem? (i := 215) (by decide +kernel), List.mem_of_getElem? (i := 767) (by decide +kernel), List.mem_of_getElem? (i := 768) (by decide +kernel)⟩
theorem lw_p21 : lw_okq (⟨"MineAir$Reader", "readFace", "()V"⟩, 15) := ⟨⟨by decide +kernel, by decide +kernel⟩, List.mem_of_getElem? (i := 215) (by decide +kernel), List.mem_of_getElem? (i := 774) (by decide +kernel), List.mem_of_getElem? (i := 775) (by decide +kernel)⟩
theorem lw_p22 : lw_okq (⟨"MineAir", "forgetAir", "()V"⟩, 12) := ⟨⟨by decide +kernel, by decide +kernel⟩, List.mem_of_getElem? (i := 28) (by decide +kernel), List.mem_of_getElem? (i := 805) (by decide +kernel), List.mem_of_getElem? (i := 806) (by decide +kernel)⟩
theorem lw_p23 : lw_okq (⟨"MineAir", "forgetVerdicts", "()V"⟩, 12) := ⟨⟨by decide +kernel, by decide +kernel⟩, List.mem_of_getElem? (i := 28) (by decide +kernel), List.mem_of_getElem? (i := 810) (by decide +kernel), List.mem_of_getElem? (i := 811) (by decide +kernel)⟩
theorem lw_p24 : lw_okq (⟨"MineAir", "accept", "(I)I"⟩, 12) := ⟨⟨by decide +kernel, by decide +kernel⟩, List.mem_of_getElem? (i := 28) (by decide +kernel), List.mem_of_getElem? (i := 818) (by decide +kernel), List.mem_of_getElem? (i := 819) (by decide +kernel)⟩
theorem lw_p25 : lw_okq (⟨"MineAir", "isWay", "(I)Z"⟩, 12) := ⟨⟨by decide +kernel, by decide +kernel⟩, List.mem_of_getElem? (i := 28) (by decide +kernel), List.mem_of_getElem? (i := 835) (by decide +kernel), List.mem_of_getElem? (i := 836) (by decide +kernel)⟩
theorem lw_p26 : lw_okq (⟨"MineAir", "isDoor", "(I)Z"⟩, 12) := ⟨⟨by decide +kernel, by decide +kernel⟩, List.mem_of_getElem? (i := 28) (by decide +kernel), List.mem_of_getElem? (i := 851) (by decide +kernel), List.mem_of_getElem? (i := 852) (by decide +kernel)⟩
theorem lw_p27 : lw_okq (⟨"MineAir", "deny", "(I)Z"⟩, 12) := ⟨⟨by decide +kernel, by decide +kernel⟩, List.mem_of_getElem? (i := 28) (by decide +kernel), List.mem_of_getElem? (i := 855) (by decide +kernel), List.mem_of_getElem? (i := 856) (by decide +kernel)⟩
theorem lw_p28 : lw_okq (⟨"MineAir", "allow", "()Z"⟩, 12) := ⟨⟨by decide +kernel, by decide +kernel⟩, List.mem_of_getElem? (i := 28) (by decide +kernel), List.mem_of_getElem? (i := 859) (by decide +kernel), List.mem_of_getElem? (i := 860) (by decide +kernel)⟩
theorem lw_p29 : lw_okq (⟨"MineAir", "isFan", "(I)Z"⟩, 12) := ⟨⟨by decide +kernel, by decide +kernel⟩, List.mem_of_getElem? (i := 28) (by decide +kernel), List.mem_of_getElem? (i := 867) (by decide +kernel), List.mem_of_getElem? (i := 868) (by decide +kernel)⟩
theorem lw_p30 : lw_okq (⟨"MineAir$Flow", "takeState", "()V"⟩, 12) := ⟨⟨by decide +kernel, by decide +kernel⟩, List.mem_of_getElem? (i := 325) (by decide +kernel), List.mem_of_getElem? (i := 898) (by decide +kernel), List.mem_of_getElem? (i := 899) (by decide +kernel)⟩
theorem lw_p31 : lw_okq (⟨"MineAir$Flow", "rate", "(II)V"⟩, 12) := ⟨⟨by decide +kernel, by decide +kernel⟩, List.mem_of_getElem? (i := 325) (by decide +kernel), List.mem_of_getElem? (i := 908) (by decide +kernel), List.mem_of_getElem? (i := 909) (by decide +kernel)⟩
def lw_privs_2 : List (MethodName × Nat) := [(⟨"MineAir$Reader", "readDoor", "()V"⟩, 15), (⟨"MineAir$Reader", "takePlace", "([I)I"⟩, 15), (⟨"MineAir$Reader", "findTold", "(I)I"⟩, 15), (⟨"MineAir$Reader", "readPair", "()V"⟩, 15), (⟨"MineAir$Reader", "readFan", "()V"⟩, 15), (⟨"MineAir$Reader", "readFace", "()V"⟩, 15), (⟨"MineAir", "forgetAir", "()V"⟩, 12), (⟨"MineAir", "forgetVerdicts", "()V"⟩, 12), (⟨"MineAir", "accept", "(I)I"⟩, 12), (⟨"MineAir", "isWay", "(I)Z"⟩, 12), (⟨"MineAir", "isDoor", "(I)Z"⟩, 12), (⟨"MineAir", "deny", "(I)Z"⟩, 12), (⟨"MineAir", "allow", "()Z"⟩, 12), (⟨"MineAir", "isFan", "(I)Z"⟩, 12), (⟨"MineAir$Flow", "takeState", "()V"⟩, 12), (⟨"MineAir$Flow", "rate", "(II)V"⟩, 12)]
theorem lw_r2 : ∀ q ∈ lw_privs_2, lw_okq q := List.forall_mem_cons.mpr ⟨lw_p16, List.forall_mem_cons.mpr ⟨lw_p17, List.forall_mem_cons.mpr ⟨lw_p18, List.forall_mem_cons.mpr ⟨lw_p19, List.forall_mem_cons.mpr ⟨lw_p20, List.forall_mem_cons.mpr ⟨lw_p21, List.forall_mem_cons.mpr ⟨lw_p22, List.forall_mem_cons.mpr ⟨lw_p23, List.forall_mem_cons.mpr ⟨lw_p24, List.forall_mem_cons.mpr ⟨lw_p25, List.forall_mem_cons.mpr ⟨lw_p26, List.forall_mem_cons.mpr ⟨lw_p27, List.forall_mem_cons.mpr ⟨lw_p28, List.forall_mem_cons.mpr ⟨lw_p29, List.forall_mem_cons.mpr ⟨lw_p30, List.forall_mem_cons.mpr ⟨lw_p31, fun _ h => absurd h List.not_mem_nil⟩⟩⟩⟩⟩⟩⟩⟩⟩⟩⟩⟩⟩⟩⟩⟩
theorem lw_p32 : lw_okq (⟨"MineAir$Flow", "rankOf", "(II)J"⟩, 12) := ⟨⟨by decide +kernel, by decide +kernel⟩, List.mem_of_getElem? (i := 325) (by decide +kernel), List.mem_of_getElem? (i := 913) (by decide +kernel), List.mem_of_getElem? (i := 914) (by decide +kernel)⟩
theorem lw_p33 : lw_okq (⟨"MineAir$Flow", "findRound", "()I"⟩, 12) := ⟨⟨by decide +kernel, by decide +kernel⟩, List.mem_of_getElem? (i := 325) (by decide +kernel), List.mem_of_getElem? (i := 922) (by decide +kernel), List.mem_of_getElem? (i := 923) (by decide +kernel)⟩
theorem lw_p34 : lw_okq (⟨"MineAir$Flow", "relax", "()Z"⟩, 12) := ⟨⟨by decide +kernel, by decide +kernel⟩, List.mem_of_getElem? (i := 325) (by decide +kernel), List.mem_of_getElem? (i := 929) (by decide +kernel), List.mem_of_getElem? (i := 930) (by decide +kernel)⟩
theorem lw_p35 : lw_okq (⟨"MineAir$Flow", "closedKnot", "()I"⟩, 12) := ⟨⟨by decide +kernel, by decide +kernel⟩, List.mem_of_getElem? (i := 325) (by decide +kernel), List.mem_of_getElem? (i := 933) (by decide +kernel), List.mem_of_getElem? (i := 934) (by decide +kernel)⟩
theorem lw_p36 : lw_okq (⟨"MineAir$Flow", "cameFrom", "(I)I"⟩, 12) := ⟨⟨by decide +kernel, by decide +kernel⟩, List.mem_of_getElem? (i := 325) (by decide +kernel), List.mem_of_getElem? (i := 937) (by decide +kernel), List.mem_of_getElem? (i := 938) (by decide +kernel)⟩
theorem lw_p37 : lw_okq (⟨"MineAir$Flow", "followRound", "(II)V"⟩, 12) := ⟨⟨by decide +kernel, by decide +kernel⟩, List.mem_of_getElem? (i := 325) (by decide +kernel), List.mem_of_getElem? (i := 941) (by decide +kernel), List.mem_of_getElem? (i := 942) (by decide +kernel)⟩
theorem lw_p38 : lw_okq (⟨"MineAir$Flow", "gains", "(I)Z"⟩, 12) := ⟨⟨by decide +kernel, by decide +kernel⟩, List.mem_of_getElem? (i := 325) (by decide +kernel), List.mem_of_getElem? (i := 945) (by decide +kernel), List.mem_of_getElem? (i := 946) (by decide +kernel)⟩
theorem lw_p39 : lw_okq (⟨"MineAir", "isBooked", "()Z"⟩, 12) := ⟨⟨by decide +kernel, by decide +kernel⟩, List.mem_of_getElem? (i := 28) (by decide +kernel), List.mem_of_getElem? (i := 953) (by decide +kernel), List.mem_of_getElem? (i := 954) (by decide +kernel)⟩
theorem lw_p40 : lw_okq (⟨"MineAir$Load", "countArrivals", "([I)V"⟩, 6) := ⟨⟨by decide +kernel, by decide +kernel⟩, List.mem_of_getElem? (i := 371) (by decide +kernel), List.mem_of_getElem? (i := 988) (by decide +kernel), List.mem_of_getElem? (i := 989) (by decide +kernel)⟩
theorem lw_p41 : lw_okq (⟨"MineAir$Load", "sendOn", "(I[I)V"⟩, 6) := ⟨⟨by decide +kernel, by decide +kernel⟩, List.mem_of_getElem? (i := 371) (by decide +kernel), List.mem_of_getElem? (i := 1001) (by decide +kernel), List.mem_of_getElem? (i := 1002) (by decide +kernel)⟩
theorem lw_p42 : lw_okq (⟨"MineAir$Load", "share", "(I[II)V"⟩, 6) := ⟨⟨by decide +kernel, by decide +kernel⟩, List.mem_of_getElem? (i := 371) (by decide +kernel), List.mem_of_getElem? (i := 1012) (by decide +kernel), List.mem_of_getElem? (i := 1013) (by decide +kernel)⟩
theorem lw_p43 : lw_okq (⟨"MineAir$Load", "greatestRest", "()I"⟩, 6) := ⟨⟨by decide +kernel, by decide +kernel⟩, List.mem_of_getElem? (i := 371) (by decide +kernel), List.mem_of_getElem? (i := 1016) (by decide +kernel), List.mem_of_getElem? (i := 1017) (by decide +kernel)⟩
theorem lw_p44 : lw_okq (⟨"MineAir$Trials", "seekSetting", "()I"⟩, 8) := ⟨⟨by decide +kernel, by decide +kernel⟩, List.mem_of_getElem? (i := 422) (by decide +kernel), List.mem_of_getElem? (i := 1080) (by decide +kernel), List.mem_of_getElem? (i := 1081) (by decide +kernel)⟩
theorem lw_p45 : lw_okq (⟨"MineAir$Trials", "rankSettings", "()I"⟩, 8) := ⟨⟨by decide +kernel, by decide +kernel⟩, List.mem_of_getElem? (i := 422) (by decide +kernel), List.mem_of_getElem? (i := 1085) (by decide +kernel), List.mem_of_getElem? (i := 1086) (by decide +kernel)⟩
theorem lw_p46 : lw_okq (⟨"MineAir$Trials", "sortBy", "(II)V"⟩, 8) := ⟨⟨by decide +kernel, by decide +kernel⟩, List.mem_of_getElem? (i := 422) (by decide +kernel), List.mem_of_getElem? (i := 1091) (by decide +kernel), List.mem_of_getElem? (i := 1092) (by decide +kernel)⟩
theorem lw_p47 : lw_okq (⟨"MineAir$Trials", "takeSetting", "(I)I"⟩, 8) := ⟨⟨by decide +kernel, by decide +kernel⟩, List.mem_of_getElem? (i := 422) (by decide +kernel), List.mem_of_getElem? (i := 1095) (by decide +kernel), List.mem_of_getElem? (i := 1096) (by decide +kernel)⟩
def lw_privs_3 : List (MethodName × Nat) := [(⟨"MineAir$Flow", "rankOf", "(II)J"⟩, 12), (⟨"MineAir$Flow", "findRound", "()I"⟩, 12), (⟨"MineAir$Flow", "relax", "()Z"⟩, 12), (⟨"MineAir$Flow", "closedKnot", "()I"⟩, 12), (⟨"MineAir$Flow", "cameFrom", "(I)I"⟩, 12), (⟨"MineAir$Flow", "followRound", "(II)V"⟩, 12), (⟨"MineAir$Flow", "gains", "(I)Z"⟩, 12), (⟨"MineAir", "isBooked", "()Z"⟩, 12), (⟨"MineAir$Load", "countArrivals", "([I)V"⟩, 6), (⟨"MineAir$Load", "sendOn", "(I[I)V"⟩, 6), (⟨"MineAir$Load", "share", "(I[II)V"⟩, 6), (⟨"MineAir$Load", "greatestRest", "()I"⟩, 6), (⟨"MineAir$Trials", "seekSetting", "()I"⟩, 8), (⟨"MineAir$Trials", "rankSettings", "()I"⟩, 8), (⟨"MineAir$Trials", "sortBy", "(II)V"⟩, 8), (⟨"MineAir$Trials", "takeSetting", "(I)I"⟩, 8)]
theorem lw_r3 : ∀ q ∈ lw_privs_3, lw_okq q := List.forall_mem_cons.mpr ⟨lw_p32, List.forall_mem_cons.mpr ⟨lw_p33, List.forall_mem_cons.mpr ⟨lw_p34, List.forall_mem_cons.mpr ⟨lw_p35, List.forall_mem_cons.mpr ⟨lw_p36, List.forall_mem_cons.mpr ⟨lw_p37, List.forall_mem_cons.mpr ⟨lw_p38, List.forall_mem_cons.mpr ⟨lw_p39, List.forall_mem_cons.mpr ⟨lw_p40, List.forall_mem_cons.mpr ⟨lw_p41, List.forall_mem_cons.mpr ⟨lw_p42, List.forall_mem_cons.mpr ⟨lw_p43, List.forall_mem_cons.mpr ⟨lw_p44, List.forall_mem_cons.mpr ⟨lw_p45, List.forall_mem_cons.mpr ⟨lw_p46, List.forall_mem_cons.mpr ⟨lw_p47, fun _ h => absurd h List.not_mem_nil⟩⟩⟩⟩⟩⟩⟩⟩⟩⟩⟩⟩⟩⟩⟩⟩
theorem lw_p48 : lw_okq (⟨"MineAir$Flight", "drift", "(II)Z"⟩, 8) := ⟨⟨by decide +kernel, by decide +kernel⟩, List.mem_of_getElem? (i := 496) (by decide +kernel), List.mem_of_getElem? (i := 1114) (by decide +kernel), List.mem_of_getElem? (i := 1115) (by decide +kernel)⟩
theorem lw_p49 : lw_okq (⟨"MineAir", "isMan", "(I)Z"⟩, 12) := ⟨⟨by decide +kernel, by decide +kernel⟩, List.mem_of_getElem? (i := 28) (by decide +kernel), List.mem_of_getElem? (i := 1130) (by decide +kernel), List.mem_of_getElem? (i := 1131) (by decide +kernel)⟩
theorem lw_p50 : lw_okq (⟨"MineAir", "leastMinuteOut", "(I)I"⟩, 12) := ⟨⟨by decide +kernel, by decide +kernel⟩, List.mem_of_getElem? (i := 28) (by decide +kernel), List.mem_of_getElem? (i := 1134) (by decide +kernel), List.mem_of_getElem? (i := 1135) (by decide +kernel)⟩
theorem lw_p51 : lw_okq (⟨"MineAir$Flight", "walk", "(III)Z"⟩, 8) := ⟨⟨by decide +kernel, by decide +kernel⟩, List.mem_of_getElem? (i := 496) (by decide +kernel), List.mem_of_getElem? (i := 1142) (by decide +kernel), List.mem_of_getElem? (i := 1143) (by decide +kernel)⟩
theorem lw_p52 : lw_okq (⟨"MineAir", "isTarget", "(II)Z"⟩, 12) := ⟨⟨by decide +kernel, by decide +kernel⟩, List.mem_of_getElem? (i := 28) (by decide +kernel), List.mem_of_getElem? (i := 1150) (by decide +kernel), List.mem_of_getElem? (i := 1151) (by decide +kernel)⟩
theorem lw_p53 : lw_okq (⟨"MineAir$Plan", "isSafeFrom", "(II)Z"⟩, 11) := ⟨⟨by decide +kernel, by decide +kernel⟩, List.mem_of_getElem? (i := 454) (by decide +kernel), List.mem_of_getElem? (i := 1169) (by decide +kernel), List.mem_of_getElem? (i := 1170) (by decide +kernel)⟩
theorem lw_p54 : lw_okq (⟨"MineAir$Plan", "current", "(I)I"⟩, 11) := ⟨⟨by decide +kernel, by decide +kernel⟩, List.mem_of_getElem? (i := 454) (by decide +kernel), List.mem_of_getElem? (i := 1174) (by decide +kernel), List.mem_of_getElem? (i := 1175) (by decide +kernel)⟩
theorem lw_p55 : lw_okq (⟨"MineAir$Plan", "put", "(II)V"⟩, 11) := ⟨⟨by decide +kernel, by decide +kernel⟩, List.mem_of_getElem? (i := 454) (by decide +kernel), List.mem_of_getElem? (i := 1178) (by decide +kernel), List.mem_of_getElem? (i := 1179) (by decide +kernel)⟩
theorem lw_p56 : lw_okq (⟨"MineAir$Plan", "alike", "(I)I"⟩, 11) := ⟨⟨by decide +kernel, by decide +kernel⟩, List.mem_of_getElem? (i := 454) (by decide +kernel), List.mem_of_getElem? (i := 1182) (by decide +kernel), List.mem_of_getElem? (i := 1183) (by decide +kernel)⟩
theorem lw_p57 : lw_okq (⟨"java/lang/Throwable", "fillInStackTrace", "(I)Ljava/lang/Throwable;"⟩, 6) := ⟨⟨by decide +kernel, by decide +kernel⟩, List.mem_of_getElem? (i := 1267) (by decide +kernel), List.mem_of_getElem? (i := 1265) (by decide +kernel), List.mem_of_getElem? (i := 1266) (by decide +kernel)⟩
theorem lw_p58 : lw_okq (⟨"MineAir$Flight", "knotBefore", "(I)I"⟩, 8) := ⟨⟨by decide +kernel, by decide +kernel⟩, List.mem_of_getElem? (i := 496) (by decide +kernel), List.mem_of_getElem? (i := 1297) (by decide +kernel), List.mem_of_getElem? (i := 1298) (by decide +kernel)⟩
theorem lw_p59 : lw_okq (⟨"MineAir$Flight", "isEarly", "(III)Z"⟩, 8) := ⟨⟨by decide +kernel, by decide +kernel⟩, List.mem_of_getElem? (i := 496) (by decide +kernel), List.mem_of_getElem? (i := 1301) (by decide +kernel), List.mem_of_getElem? (i := 1302) (by decide +kernel)⟩
theorem lw_p60 : lw_okq (⟨"MineAirModel", "refused", "(I)I"⟩, 51) := ⟨⟨by decide +kernel, by decide +kernel⟩, List.mem_of_getElem? (i := 1305) (by decide +kernel), List.mem_of_getElem? (i := 1507) (by decide +kernel), List.mem_of_getElem? (i := 1508) (by decide +kernel)⟩
theorem lw_p61 : lw_okq (⟨"MineAirModel", "next", "()V"⟩, 51) := ⟨⟨by decide +kernel, by decide +kernel⟩, List.mem_of_getElem? (i := 1305) (by decide +kernel), List.mem_of_getElem? (i := 1623) (by decide +kernel), List.mem_of_getElem? (i := 1624) (by decide +kernel)⟩
theorem lw_p62 : lw_okq (⟨"MineAirModel", "byteAt", "(I)I"⟩, 51) := ⟨⟨by decide +kernel, by decide +kernel⟩, List.mem_of_getElem? (i := 1305) (by decide +kernel), List.mem_of_getElem? (i := 1627) (by decide +kernel), List.mem_of_getElem? (i := 1628) (by decide +kernel)⟩
theorem lw_p63 : lw_okq (⟨"MineAirModel", "readBook", "()V"⟩, 51) := ⟨⟨by decide +kernel, by decide +kernel⟩, List.mem_of_getElem? (i := 1305) (by decide +kernel), List.mem_of_getElem? (i := 1638) (by decide +kernel), List.mem_of_getElem? (i := 1639) (by decide +kernel)⟩
def lw_privs_4 : List (MethodName × Nat) := [(⟨"MineAir$Flight", "drift", "(II)Z"⟩, 8), (⟨"MineAir", "isMan", "(I)Z"⟩, 12), (⟨"MineAir", "leastMinuteOut", "(I)I"⟩, 12), (⟨"MineAir$Flight", "walk", "(III)Z"⟩, 8), (⟨"MineAir", "isTarget", "(II)Z"⟩, 12), (⟨"MineAir$Plan", "isSafeFrom", "(II)Z"⟩, 11), (⟨"MineAir$Plan", "current", "(I)I"⟩, 11), (⟨"MineAir$Plan", "put", "(II)V"⟩, 11), (⟨"MineAir$Plan", "alike", "(I)I"⟩, 11), (⟨"java/lang/Throwable", "fillInStackTrace", "(I)Ljava/lang/Throwable;"⟩, 6), (⟨"MineAir$Flight", "knotBefore", "(I)I"⟩, 8), (⟨"MineAir$Flight", "isEarly", "(III)Z"⟩, 8), (⟨"MineAirModel", "refused", "(I)I"⟩, 51), (⟨"MineAirModel", "next", "()V"⟩, 51), (⟨"MineAirModel", "byteAt", "(I)I"⟩, 51), (⟨"MineAirModel", "readBook", "()V"⟩, 51)]
theorem lw_r4 : ∀ q ∈ lw_privs_4, lw_okq q := List.forall_mem_cons.mpr ⟨lw_p48, List.forall_mem_cons.mpr ⟨lw_p49, List.forall_mem_cons.mpr ⟨lw_p50, List.forall_mem_cons.mpr ⟨lw_p51, List.forall_mem_cons.mpr ⟨lw_p52, List.forall_mem_cons.mpr ⟨lw_p53, List.forall_mem_cons.mpr ⟨lw_p54, List.forall_mem_cons.mpr ⟨lw_p55, List.forall_mem_cons.mpr ⟨lw_p56, List.forall_mem_cons.mpr ⟨lw_p57, List.forall_mem_cons.mpr ⟨lw_p58, List.forall_mem_cons.mpr ⟨lw_p59, List.forall_mem_cons.mpr ⟨lw_p60, List.forall_mem_cons.mpr ⟨lw_p61, List.forall_mem_cons.mpr ⟨lw_p62, List.forall_mem_cons.mpr ⟨lw_p63, fun _ h => absurd h List.not_mem_nil⟩⟩⟩⟩⟩⟩⟩⟩⟩⟩⟩⟩⟩⟩⟩⟩
theorem lw_p64 : lw_okq (⟨"MineAirModel", "isWord", "(Ljava/lang/String;)Z"⟩, 51) := ⟨⟨by decide +kernel, by decide +kernel⟩, List.mem_of_getElem? (i := 1305) (by decide +kernel), List.mem_of_getElem? (i := 1643) (by decide +kernel), List.mem_of_getElem? (i := 1644) (by decide +kernel)⟩
theorem lw_p65 : lw_okq (⟨"MineAirModel", "readWay", "()V"⟩, 51) := ⟨⟨by decide +kernel, by decide +kernel⟩, List.mem_of_getElem? (i := 1305) (by decide +kernel), List.mem_of_getElem? (i := 1652) (by decide +kernel), List.mem_of_getElem? (i := 1653) (by decide +kernel)⟩
theorem lw_p66 : lw_okq (⟨"MineAirModel", "readFresh", "(Z)J"⟩, 51) := ⟨⟨by decide +kernel, by decide +kernel⟩, List.mem_of_getElem? (i := 1305) (by decide +kernel), List.mem_of_getElem? (i := 1656) (by decide +kernel), List.mem_of_getElem? (i := 1657) (by decide +kernel)⟩
theorem lw_p67 : lw_okq (⟨"MineAirModel", "isName", "()Z"⟩, 51) := ⟨⟨by decide +kernel, by decide +kernel⟩, List.mem_of_getElem? (i := 1305) (by decide +kernel), List.mem_of_getElem? (i := 1660) (by decide +kernel), List.mem_of_getElem? (i := 1661) (by decide +kernel)⟩
theorem lw_p68 : lw_okq (⟨"MineAirModel", "stop", "(I)LMineAirModel$Stop;"⟩, 51) := ⟨⟨by decide +kernel, by decide +kernel⟩, List.mem_of_getElem? (i := 1305) (by decide +kernel), List.mem_of_getElem? (i := 1668) (by decide +kernel), List.mem_of_getElem? (i := 1669) (by decide +kernel)⟩
theorem lw_p69 : lw_okq (⟨"MineAirModel", "readKnot", "(I)I"⟩, 51) := ⟨⟨by decide +kernel, by decide +kernel⟩, List.mem_of_getElem? (i := 1305) (by decide +kernel), List.mem_of_getElem? (i := 1680) (by decide +kernel), List.mem_of_getElem? (i := 1681) (by decide +kernel)⟩
theorem lw_p70 : lw_okq (⟨"MineAirModel", "needWord", "(Ljava/lang/String;)V"⟩, 51) := ⟨⟨by decide +kernel, by decide +kernel⟩, List.mem_of_getElem? (i := 1305) (by decide +kernel), List.mem_of_getElem? (i := 1689) (by decide +kernel), List.mem_of_getElem? (i := 1690) (by decide +kernel)⟩
theorem lw_p71 : lw_okq (⟨"MineAirModel", "readWhole", "(II)I"⟩, 51) := ⟨⟨by decide +kernel, by decide +kernel⟩, List.mem_of_getElem? (i := 1305) (by decide +kernel), List.mem_of_getElem? (i := 1693) (by decide +kernel), List.mem_of_getElem? (i := 1694) (by decide +kernel)⟩
theorem lw_p72 : lw_okq (⟨"MineAirModel", "is", "(I)Z"⟩, 51) := ⟨⟨by decide +kernel, by decide +kernel⟩, List.mem_of_getElem? (i := 1305) (by decide +kernel), List.mem_of_getElem? (i := 1703) (by decide +kernel), List.mem_of_getElem? (i := 1704) (by decide +kernel)⟩
theorem lw_p73 : lw_okq (⟨"MineAirModel", "readDoor", "()V"⟩, 51) := ⟨⟨by decide +kernel, by decide +kernel⟩, List.mem_of_getElem? (i := 1305) (by decide +kernel), List.mem_of_getElem? (i := 1707) (by decide +kernel), List.mem_of_getElem? (i := 1708) (by decide +kernel)⟩
theorem lw_p74 : lw_okq (⟨"MineAirModel", "readIn", "([I)I"⟩, 51) := ⟨⟨by decide +kernel, by decide +kernel⟩, List.mem_of_getElem? (i := 1305) (by decide +kernel), List.mem_of_getElem? (i := 1711) (by decide +kernel), List.mem_of_getElem? (i := 1712) (by decide +kernel)⟩
theorem lw_p75 : lw_okq (⟨"MineAirModel", "readTold", "(I)I"⟩, 51) := ⟨⟨by decide +kernel, by decide +kernel⟩, List.mem_of_getElem? (i := 1305) (by decide +kernel), List.mem_of_getElem? (i := 1716) (by decide +kernel), List.mem_of_getElem? (i := 1717) (by decide +kernel)⟩
theorem lw_p76 : lw_okq (⟨"MineAirModel", "readPair", "()V"⟩, 51) := ⟨⟨by decide +kernel, by decide +kernel⟩, List.mem_of_getElem? (i := 1305) (by decide +kernel), List.mem_of_getElem? (i := 1721) (by decide +kernel), List.mem_of_getElem? (i := 1722) (by decide +kernel)⟩
theorem lw_p77 : lw_okq (⟨"MineAirModel", "readFan", "()V"⟩, 51) := ⟨⟨by decide +kernel, by decide +kernel⟩, List.mem_of_getElem? (i := 1305) (by decide +kernel), List.mem_of_getElem? (i := 1725) (by decide +kernel), List.mem_of_getElem? (i := 1726) (by decide +kernel)⟩
theorem lw_p78 : lw_okq (⟨"MineAirModel", "readFace", "()V"⟩, 51) := ⟨⟨by decide +kernel, by decide +kernel⟩, List.mem_of_getElem? (i := 1305) (by decide +kernel), List.mem_of_getElem? (i := 1732) (by decide +kernel), List.mem_of_getElem? (i := 1733) (by decide +kernel)⟩
theorem lw_p79 : lw_okq (⟨"MineAirModel", "done", "(I)I"⟩, 51) := ⟨⟨by decide +kernel, by decide +kernel⟩, List.mem_of_getElem? (i := 1305) (by decide +kernel), List.mem_of_getElem? (i := 1738) (by decide +kernel), List.mem_of_getElem? (i := 1739) (by decide +kernel)⟩
def lw_privs_5 : List (MethodName × Nat) := [(⟨"MineAirModel", "isWord", "(Ljava/lang/String;)Z"⟩, 51), (⟨"MineAirModel", "readWay", "()V"⟩, 51), (⟨"MineAirModel", "readFresh", "(Z)J"⟩, 51), (⟨"MineAirModel", "isName", "()Z"⟩, 51), (⟨"MineAirModel", "stop", "(I)LMineAirModel$Stop;"⟩, 51), (⟨"MineAirModel", "readKnot", "(I)I"⟩, 51), (⟨"MineAirModel", "needWord", "(Ljava/lang/String;)V"⟩, 51), (⟨"MineAirModel", "readWhole", "(II)I"⟩, 51), (⟨"MineAirModel", "is", "(I)Z"⟩, 51), (⟨"MineAirModel", "readDoor", "()V"⟩, 51), (⟨"MineAirModel", "readIn", "([I)I"⟩, 51), (⟨"MineAirModel", "readTold", "(I)I"⟩, 51), (⟨"MineAirModel", "readPair", "()V"⟩, 51), (⟨"MineAirModel", "readFan", "()V"⟩, 51), (⟨"MineAirModel", "readFace", "()V"⟩, 51), (⟨"MineAirModel", "done", "(I)I"⟩, 51)]
theorem lw_r5 : ∀ q ∈ lw_privs_5, lw_okq q := List.forall_mem_cons.mpr ⟨lw_p64, List.forall_mem_cons.mpr ⟨lw_p65, List.forall_mem_cons.mpr ⟨lw_p66, List.forall_mem_cons.mpr ⟨lw_p67, List.forall_mem_cons.mpr ⟨lw_p68, List.forall_mem_cons.mpr ⟨lw_p69, List.forall_mem_cons.mpr ⟨lw_p70, List.forall_mem_cons.mpr ⟨lw_p71, List.forall_mem_cons.mpr ⟨lw_p72, List.forall_mem_cons.mpr ⟨lw_p73, List.forall_mem_cons.mpr ⟨lw_p74, List.forall_mem_cons.mpr ⟨lw_p75, List.forall_mem_cons.mpr ⟨lw_p76, List.forall_mem_cons.mpr ⟨lw_p77, List.forall_mem_cons.mpr ⟨lw_p78, List.forall_mem_cons.mpr ⟨lw_p79, fun _ h => absurd h List.not_mem_nil⟩⟩⟩⟩⟩⟩⟩⟩⟩⟩⟩⟩⟩⟩⟩⟩
theorem lw_p80 : lw_okq (⟨"MineAirModel", "isWay", "(I)Z"⟩, 51) := ⟨⟨by decide +kernel, by decide +kernel⟩, List.mem_of_getElem? (i := 1305) (by decide +kernel), List.mem_of_getElem? (i := 1754) (by decide +kernel), List.mem_of_getElem? (i := 1755) (by decide +kernel)⟩
theorem lw_p81 : lw_okq (⟨"MineAirModel", "hindrance", "(I)I"⟩, 51) := ⟨⟨by decide +kernel, by decide +kernel⟩, List.mem_of_getElem? (i := 1305) (by decide +kernel), List.mem_of_getElem? (i := 1759) (by decide +kernel), List.mem_of_getElem? (i := 1760) (by decide +kernel)⟩
theorem lw_p82 : lw_okq (⟨"MineAirModel", "isDoor", "(I)Z"⟩, 51) := ⟨⟨by decide +kernel, by decide +kernel⟩, List.mem_of_getElem? (i := 1305) (by decide +kernel), List.mem_of_getElem? (i := 1767) (by decide +kernel), List.mem_of_getElem? (i := 1768) (by decide +kernel)⟩
theorem lw_p83 : lw_okq (⟨"MineAirModel", "denied", "(I)Z"⟩, 51) := ⟨⟨by decide +kernel, by decide +kernel⟩, List.mem_of_getElem? (i := 1305) (by decide +kernel), List.mem_of_getElem? (i := 1771) (by decide +kernel), List.mem_of_getElem? (i := 1772) (by decide +kernel)⟩
theorem lw_p84 : lw_okq (⟨"MineAirModel", "granted", "()Z"⟩, 51) := ⟨⟨by decide +kernel, by decide +kernel⟩, List.mem_of_getElem? (i := 1305) (by decide +kernel), List.mem_of_getElem? (i := 1775) (by decide +kernel), List.mem_of_getElem? (i := 1776) (by decide +kernel)⟩
theorem lw_p85 : lw_okq (⟨"MineAirModel", "isFan", "(I)Z"⟩, 51) := ⟨⟨by decide +kernel, by decide +kernel⟩, List.mem_of_getElem? (i := 1305) (by decide +kernel), List.mem_of_getElem? (i := 1783) (by decide +kernel), List.mem_of_getElem? (i := 1784) (by decide +kernel)⟩
theorem lw_p86 : lw_okq (⟨"MineAirModel", "blows", "()V"⟩, 51) := ⟨⟨by decide +kernel, by decide +kernel⟩, List.mem_of_getElem? (i := 1305) (by decide +kernel), List.mem_of_getElem? (i := 1803) (by decide +kernel), List.mem_of_getElem? (i := 1804) (by decide +kernel)⟩
theorem lw_p87 : lw_okq (⟨"MineAirModel", "isTurned", "()Z"⟩, 51) := ⟨⟨by decide +kernel, by decide +kernel⟩, List.mem_of_getElem? (i := 1305) (by decide +kernel), List.mem_of_getElem? (i := 1807) (by decide +kernel), List.mem_of_getElem? (i := 1808) (by decide +kernel)⟩
theorem lw_p88 : lw_okq (⟨"MineAirModel", "lowers", "()I"⟩, 51) := ⟨⟨by decide +kernel, by decide +kernel⟩, List.mem_of_getElem? (i := 1305) (by decide +kernel), List.mem_of_getElem? (i := 1811) (by decide +kernel), List.mem_of_getElem? (i := 1812) (by decide +kernel)⟩
theorem lw_p89 : lw_okq (⟨"MineAirModel", "may", "(IZ)Z"⟩, 51) := ⟨⟨by decide +kernel, by decide +kernel⟩, List.mem_of_getElem? (i := 1305) (by decide +kernel), List.mem_of_getElem? (i := 1815) (by decide +kernel), List.mem_of_getElem? (i := 1816) (by decide +kernel)⟩
theorem lw_p90 : lw_okq (⟨"MineAirModel", "both", "(II)J"⟩, 51) := ⟨⟨by decide +kernel, by decide +kernel⟩, List.mem_of_getElem? (i := 1305) (by decide +kernel), List.mem_of_getElem? (i := 1819) (by decide +kernel), List.mem_of_getElem? (i := 1820) (by decide +kernel)⟩
theorem lw_p91 : lw_okq (⟨"MineAirModel", "step", "(II)J"⟩, 51) := ⟨⟨by decide +kernel, by decide +kernel⟩, List.mem_of_getElem? (i := 1305) (by decide +kernel), List.mem_of_getElem? (i := 1823) (by decide +kernel), List.mem_of_getElem? (i := 1824) (by decide +kernel)⟩
theorem lw_p92 : lw_okq (⟨"MineAirModel", "cameFrom", "(I)I"⟩, 51) := ⟨⟨by decide +kernel, by decide +kernel⟩, List.mem_of_getElem? (i := 1305) (by decide +kernel), List.mem_of_getElem? (i := 1827) (by decide +kernel), List.mem_of_getElem? (i := 1828) (by decide +kernel)⟩
theorem lw_p93 : lw_okq (⟨"MineAirModel", "isCarried", "()Z"⟩, 51) := ⟨⟨by decide +kernel, by decide +kernel⟩, List.mem_of_getElem? (i := 1305) (by decide +kernel), List.mem_of_getElem? (i := 1843) (by decide +kernel), List.mem_of_getElem? (i := 1844) (by decide +kernel)⟩
theorem lw_p94 : lw_okq (⟨"MineAirModel", "day", "()I"⟩, 51) := ⟨⟨by decide +kernel, by decide +kernel⟩, List.mem_of_getElem? (i := 1305) (by decide +kernel), List.mem_of_getElem? (i := 1847) (by decide +kernel), List.mem_of_getElem? (i := 1848) (by decide +kernel)⟩
theorem lw_p95 : lw_okq (⟨"MineAirModel", "tail", "(I)I"⟩, 51) := ⟨⟨by decide +kernel, by decide +kernel⟩, List.mem_of_getElem? (i := 1305) (by decide +kernel), List.mem_of_getElem? (i := 1852) (by decide +kernel), List.mem_of_getElem? (i := 1853) (by decide +kernel)⟩
def lw_privs_6 : List (MethodName × Nat) := [(⟨"MineAirModel", "isWay", "(I)Z"⟩, 51), (⟨"MineAirModel", "hindrance", "(I)I"⟩, 51), (⟨"MineAirModel", "isDoor", "(I)Z"⟩, 51), (⟨"MineAirModel", "denied", "(I)Z"⟩, 51), (⟨"MineAirModel", "granted", "()Z"⟩, 51), (⟨"MineAirModel", "isFan", "(I)Z"⟩, 51), (⟨"MineAirModel", "blows", "()V"⟩, 51), (⟨"MineAirModel", "isTurned", "()Z"⟩, 51), (⟨"MineAirModel", "lowers", "()I"⟩, 51), (⟨"MineAirModel", "may", "(IZ)Z"⟩, 51), (⟨"MineAirModel", "both", "(II)J"⟩, 51), (⟨"MineAirModel", "step", "(II)J"⟩, 51), (⟨"MineAirModel", "cameFrom", "(I)I"⟩, 51), (⟨"MineAirModel", "isCarried", "()Z"⟩, 51), (⟨"MineAirModel", "day", "()I"⟩, 51), (⟨"MineAirModel", "tail", "(I)I"⟩, 51)]
theorem lw_r6 : ∀ q ∈ lw_privs_6, lw_okq q := List.forall_mem_cons.mpr ⟨lw_p80, List.forall_mem_cons.mpr ⟨lw_p81, List.forall_mem_cons.mpr ⟨lw_p82, List.forall_mem_cons.mpr ⟨lw_p83, List.forall_mem_cons.mpr ⟨lw_p84, List.forall_mem_cons.mpr ⟨lw_p85, List.forall_mem_cons.mpr ⟨lw_p86, List.forall_mem_cons.mpr ⟨lw_p87, List.forall_mem_cons.mpr ⟨lw_p88, List.forall_mem_cons.mpr ⟨lw_p89, List.forall_mem_cons.mpr ⟨lw_p90, List.forall_mem_cons.mpr ⟨lw_p91, List.forall_mem_cons.mpr ⟨lw_p92, List.forall_mem_cons.mpr ⟨lw_p93, List.forall_mem_cons.mpr ⟨lw_p94, List.forall_mem_cons.mpr ⟨lw_p95, fun _ h => absurd h List.not_mem_nil⟩⟩⟩⟩⟩⟩⟩⟩⟩⟩⟩⟩⟩⟩⟩⟩
theorem lw_p96 : lw_okq (⟨"MineAirModel", "faceGas", "(I)I"⟩, 51) := ⟨⟨by decide +kernel, by decide +kernel⟩, List.mem_of_getElem? (i := 1305) (by decide +kernel), List.mem_of_getElem? (i := 1856) (by decide +kernel), List.mem_of_getElem? (i := 1857) (by decide +kernel)⟩
theorem lw_p97 : lw_okq (⟨"MineAirModel", "isReady", "(I)Z"⟩, 51) := ⟨⟨by decide +kernel, by decide +kernel⟩, List.mem_of_getElem? (i := 1305) (by decide +kernel), List.mem_of_getElem? (i := 1860) (by decide +kernel), List.mem_of_getElem? (i := 1861) (by decide +kernel)⟩
theorem lw_p98 : lw_okq (⟨"MineAirModel", "head", "(I)I"⟩, 51) := ⟨⟨by decide +kernel, by decide +kernel⟩, List.mem_of_getElem? (i := 1305) (by decide +kernel), List.mem_of_getElem? (i := 1864) (by decide +kernel), List.mem_of_getElem? (i := 1865) (by decide +kernel)⟩
theorem lw_p99 : lw_okq (⟨"MineAirModel", "shares", "(I)V"⟩, 51) := ⟨⟨by decide +kernel, by decide +kernel⟩, List.mem_of_getElem? (i := 1305) (by decide +kernel), List.mem_of_getElem? (i := 1868) (by decide +kernel), List.mem_of_getElem? (i := 1869) (by decide +kernel)⟩
theorem lw_p100 : lw_okq (⟨"MineAirModel", "thickOf", "(I)I"⟩, 51) := ⟨⟨by decide +kernel, by decide +kernel⟩, List.mem_of_getElem? (i := 1305) (by decide +kernel), List.mem_of_getElem? (i := 1879) (by decide +kernel), List.mem_of_getElem? (i := 1880) (by decide +kernel)⟩
theorem lw_p101 : lw_okq (⟨"MineAirModel", "overNow", "()I"⟩, 51) := ⟨⟨by decide +kernel, by decide +kernel⟩, List.mem_of_getElem? (i := 1305) (by decide +kernel), List.mem_of_getElem? (i := 1887) (by decide +kernel), List.mem_of_getElem? (i := 1888) (by decide +kernel)⟩
theorem lw_p102 : lw_okq (⟨"MineAirModel", "unsound", "()I"⟩, 51) := ⟨⟨by decide +kernel, by decide +kernel⟩, List.mem_of_getElem? (i := 1305) (by decide +kernel), List.mem_of_getElem? (i := 1895) (by decide +kernel), List.mem_of_getElem? (i := 1896) (by decide +kernel)⟩
theorem lw_p103 : lw_okq (⟨"MineAirModel", "isSmoked", "()Z"⟩, 51) := ⟨⟨by decide +kernel, by decide +kernel⟩, List.mem_of_getElem? (i := 1305) (by decide +kernel), List.mem_of_getElem? (i := 1911) (by decide +kernel), List.mem_of_getElem? (i := 1912) (by decide +kernel)⟩
theorem lw_p104 : lw_okq (⟨"MineAirModel", "burning", "()I"⟩, 51) := ⟨⟨by decide +kernel, by decide +kernel⟩, List.mem_of_getElem? (i := 1305) (by decide +kernel), List.mem_of_getElem? (i := 1915) (by decide +kernel), List.mem_of_getElem? (i := 1916) (by decide +kernel)⟩
theorem lw_p105 : lw_okq (⟨"MineAirModel", "goes", "(I)V"⟩, 51) := ⟨⟨by decide +kernel, by decide +kernel⟩, List.mem_of_getElem? (i := 1305) (by decide +kernel), List.mem_of_getElem? (i := 1931) (by decide +kernel), List.mem_of_getElem? (i := 1932) (by decide +kernel)⟩
theorem lw_p106 : lw_okq (⟨"MineAirModel", "reaches", "(III)V"⟩, 51) := ⟨⟨by decide +kernel, by decide +kernel⟩, List.mem_of_getElem? (i := 1305) (by decide +kernel), List.mem_of_getElem? (i := 1935) (by decide +kernel), List.mem_of_getElem? (i := 1936) (by decide +kernel)⟩
theorem lw_p107 : lw_okq (⟨"MineAirModel", "isOrdered", "()Z"⟩, 51) := ⟨⟨by decide +kernel, by decide +kernel⟩, List.mem_of_getElem? (i := 1305) (by decide +kernel), List.mem_of_getElem? (i := 1947) (by decide +kernel), List.mem_of_getElem? (i := 1948) (by decide +kernel)⟩
theorem lw_p108 : lw_okq (⟨"MineAirModel", "isSafe", "(I)Z"⟩, 51) := ⟨⟨by decide +kernel, by decide +kernel⟩, List.mem_of_getElem? (i := 1305) (by decide +kernel), List.mem_of_getElem? (i := 1951) (by decide +kernel), List.mem_of_getElem? (i := 1952) (by decide +kernel)⟩
theorem lw_p109 : lw_okq (⟨"MineAirModel", "keeps", "()V"⟩, 51) := ⟨⟨by decide +kernel, by decide +kernel⟩, List.mem_of_getElem? (i := 1305) (by decide +kernel), List.mem_of_getElem? (i := 1958) (by decide +kernel), List.mem_of_getElem? (i := 1959) (by decide +kernel)⟩
theorem lw_p110 : lw_okq (⟨"MineAirModel", "makes", "(I)V"⟩, 51) := ⟨⟨by decide +kernel, by decide +kernel⟩, List.mem_of_getElem? (i := 1305) (by decide +kernel), List.mem_of_getElem? (i := 1962) (by decide +kernel), List.mem_of_getElem? (i := 1963) (by decide +kernel)⟩
theorem lw_p111 : lw_okq (⟨"MineAirModel", "restores", "()V"⟩, 51) := ⟨⟨by decide +kernel, by decide +kernel⟩, List.mem_of_getElem? (i := 1305) (by decide +kernel), List.mem_of_getElem? (i := 1966) (by decide +kernel), List.mem_of_getElem? (i := 1967) (by decide +kernel)⟩
def lw_privs_7 : List (MethodName × Nat) := [(⟨"MineAirModel", "faceGas", "(I)I"⟩, 51), (⟨"MineAirModel", "isReady", "(I)Z"⟩, 51), (⟨"MineAirModel", "head", "(I)I"⟩, 51), (⟨"MineAirModel", "shares", "(I)V"⟩, 51), (⟨"MineAirModel", "thickOf", "(I)I"⟩, 51), (⟨"MineAirModel", "overNow", "()I"⟩, 51), (⟨"MineAirModel", "unsound", "()I"⟩, 51), (⟨"MineAirModel", "isSmoked", "()Z"⟩, 51), (⟨"MineAirModel", "burning", "()I"⟩, 51), (⟨"MineAirModel", "goes", "(I)V"⟩, 51), (⟨"MineAirModel", "reaches", "(III)V"⟩, 51), (⟨"MineAirModel", "isOrdered", "()Z"⟩, 51), (⟨"MineAirModel", "isSafe", "(I)Z"⟩, 51), (⟨"MineAirModel", "keeps", "()V"⟩, 51), (⟨"MineAirModel", "makes", "(I)V"⟩, 51), (⟨"MineAirModel", "restores", "()V"⟩, 51)]
theorem lw_r7 : ∀ q ∈ lw_privs_7, lw_okq q := List.forall_mem_cons.mpr ⟨lw_p96, List.forall_mem_cons.mpr ⟨lw_p97, List.forall_mem_cons.mpr ⟨lw_p98, List.forall_mem_cons.mpr ⟨lw_p99, List.forall_mem_cons.mpr ⟨lw_p100, List.forall_mem_cons.mpr ⟨lw_p101, List.forall_mem_cons.mpr ⟨lw_p102, List.forall_mem_cons.mpr ⟨lw_p103, List.forall_mem_cons.mpr ⟨lw_p104, List.forall_mem_cons.mpr ⟨lw_p105, List.forall_mem_cons.mpr ⟨lw_p106, List.forall_mem_cons.mpr ⟨lw_p107, List.forall_mem_cons.mpr ⟨lw_p108, List.forall_mem_cons.mpr ⟨lw_p109, List.forall_mem_cons.mpr ⟨lw_p110, List.forall_mem_cons.mpr ⟨lw_p111, fun _ h => absurd h List.not_mem_nil⟩⟩⟩⟩⟩⟩⟩⟩⟩⟩⟩⟩⟩⟩⟩⟩
theorem lw_p112 : lw_okq (⟨"MineAirModel", "leadsTo", "(II)Z"⟩, 51) := ⟨⟨by decide +kernel, by decide +kernel⟩, List.mem_of_getElem? (i := 1305) (by decide +kernel), List.mem_of_getElem? (i := 1986) (by decide +kernel), List.mem_of_getElem? (i := 1987) (by decide +kernel)⟩
def lw_privs_8 : List (MethodName × Nat) := [(⟨"MineAirModel", "leadsTo", "(II)Z"⟩, 51)]
theorem lw_r8 : ∀ q ∈ lw_privs_8, lw_okq q := List.forall_mem_cons.mpr ⟨lw_p112, fun _ h => absurd h List.not_mem_nil⟩
def lw_privs : List (MethodName × Nat) := lw_privs_1 ++ (lw_privs_2 ++ (lw_privs_3 ++ (lw_privs_4 ++ (lw_privs_5 ++ (lw_privs_6 ++ (lw_privs_7 ++ (lw_privs_8)))))))
def lw_tbl : List Cond := k2_sels lw_privs ++ tables_1
theorem lw_privs_ok : ∀ q ∈ lw_privs, lw_okq q := by
  show ∀ q ∈ lw_privs_1 ++ (lw_privs_2 ++ (lw_privs_3 ++ (lw_privs_4 ++ (lw_privs_5 ++ (lw_privs_6 ++ (lw_privs_7 ++ (lw_privs_8))))))), lw_okq q
  exact List.forall_mem_append.mpr ⟨lw_r1, List.forall_mem_append.mpr ⟨lw_r2, List.forall_mem_append.mpr ⟨lw_r3, List.forall_mem_append.mpr ⟨lw_r4, List.forall_mem_append.mpr ⟨lw_r5, List.forall_mem_append.mpr ⟨lw_r6, List.forall_mem_append.mpr ⟨lw_r7, lw_r8⟩⟩⟩⟩⟩⟩⟩
-- ===== end of PART A; then your names; then what follows =====
end
section
/-! one word list for all methods: the tables' good words, behind the method's own code -/
def wG : List Cond := lw_tbl.filter goodWord
theorem wG_t {w : Cond} (h : w ∈ wG) : w ∈ lw_tbl := (List.mem_filter.mp h).1
theorem wG_g {w : Cond} (h : w ∈ wG) : goodWord w = true := (List.mem_filter.mp h).2
theorem wG_of {w : Cond} (i : Nat) (h : lw_tbl[i]? = some w) (g : goodWord w = true) : w ∈ wG := List.mem_filter.mpr ⟨List.mem_of_getElem? h, g⟩
/-- the words of a method: its code, then all -/
abbrev wM (y : MethodName) (c : ByteArray) (n : Nat) (r : Option FieldType) : List Cond := Cond.code y c n r :: wG
theorem wM_c {y : MethodName} {c : ByteArray} {n : Nat} {r : Option FieldType} {w : Cond} (h : w ∈ wG) : w ∈ wM y c n r := List.mem_cons_of_mem _ h
/-- a callee's words among a caller's -/
theorem gI {y : MethodName} {c : ByteArray} {n : Nat} {r : Option FieldType} {Ts : List Cond} (hT : ∀ w ∈ wG, w ∈ Ts) (h : Cond.code y c n r ∈ wG) : GoodIn Ts (wM y c n r) := by
  intro w hw
  rcases List.mem_cons.mp hw with rfl | hw
  · exact ⟨hT _ h, good_of_word (wG_g h)⟩
  · exact ⟨hT _ hw, good_of_word (wG_g hw)⟩
theorem gV {y : MethodName} {c : ByteArray} {n : Nat} {r : Option FieldType} {own C : String} {i : Nat} {Ts : List Cond} (hT : ∀ w ∈ wG, w ∈ Ts) (h : Cond.code y c n r ∈ wG) (h1 : Cond.methodLink own i y ∈ wG) (h2 : Cond.instanceMethod y ∈ wG) (h3 : Cond.selects C y y ∈ wG) (h4 : Cond.initialized C ∈ wG) : GoodIn Ts (wsV own i C y (wM y c n r)) := by
  intro w hw
  rcases List.mem_append.mp hw with hw | hw
  · simp only [List.mem_cons, List.not_mem_nil, or_false] at hw
    rcases hw with rfl | rfl | rfl | rfl
    · exact ⟨hT _ h1, good_of_word (wG_g h1)⟩
    · exact ⟨hT _ h2, good_of_word (wG_g h2)⟩
    · exact ⟨hT _ h3, good_of_word (wG_g h3)⟩
    · exact ⟨hT _ h4, good_of_word (wG_g h4)⟩
  · exact gI hT h w hw
theorem gS {y : MethodName} {c : ByteArray} {n : Nat} {r : Option FieldType} {own : String} {i : Nat} {Ts : List Cond} (hT : ∀ w ∈ wG, w ∈ Ts) (h : Cond.code y c n r ∈ wG) (h1 : Cond.methodLink own i y ∈ wG) (h2 : Cond.static y ∈ wG) (h4 : Cond.initialized y.cls ∈ wG) : GoodIn Ts (va_wsS own i y (wM y c n r)) := by
  intro w hw
  rcases List.mem_append.mp hw with hw | hw
  · simp only [List.mem_cons, List.not_mem_nil, or_false] at hw
    rcases hw with rfl | rfl | rfl
    · exact ⟨hT _ h1, good_of_word (wG_g h1)⟩
    · exact ⟨hT _ h2, good_of_word (wG_g h2)⟩
    · exact ⟨hT _ h4, good_of_word (wG_g h4)⟩
  · exact gI hT h w hw
/-! what every method takes along of the machine: links across the nest, and the texts -/
def isN : Cond → Bool
  | .fieldLinkNest .. => true
  | .methodLinkNest .. => true
  | _ => false
def wN : List Cond := lw_tbl.filter isN
theorem wN_of {w : Cond} (i : Nat) (h : lw_tbl[i]? = some w) (g : isN w = true) : w ∈ wN := List.mem_filter.mpr ⟨List.mem_of_getElem? h, g⟩
theorem wN_t {w : Cond} (h : w ∈ wN) : w ∈ lw_tbl ∧ isN w = true := List.mem_filter.mp h
def tX : List (String × Nat × String) := lw_tbl.filterMap (fun w => match w with | .stringRef o k t => some (o, k, t) | _ => none)
theorem isN_tab {w : Cond} (h : isN w = true) : w.onTables = true := by cases w <;> first | rfl | cases h
def tN0 : String := "java/lang/Throwable"
/-- two statics of Throwable, which nobody writes: null or a reference -/
def GZ (n0 : Nat) (U : State) (H : Heap) : Prop := (va_Zq tN0 "UNASSIGNED_STACK" "[Ljava/lang/StackTraceElement;" (fun q => n0 ≤ q) U H) ∧ va_Zq tN0 "SUPPRESSED_SENTINEL" "Ljava/util/List;" (fun q => n0 ≤ q) U H
/-- what every method takes along: links across the nest, texts, statics below the cell n0 -/
def GW (n0 : Nat) (U : State) : Prop := (∀ w ∈ wN, va_Nw w U) ∧ (∀ q ∈ tX, ∃ a, vk_R q.1 q.2.1 q.2.2 a U) ∧ GZ n0 U U.heap
theorem GW.blind {n0 : Nat} {U : State} {g : JFrame} {mk : MethodId} {a : Array Value} (h : GW n0 U) : GW n0 (U.calling g mk a) := ⟨fun w hw => va_Nw.same (isN_tab (wN_t hw).2) (u := U) rfl (h.1 w hw), fun q hq => by obtain ⟨a, ha⟩ := h.2.1 q hq; exact ⟨a, vk_R.same (u := U) rfl ha⟩, va_Zq.moved (u := U) (Vm.Alike.refl U.vm) h.2.2.1, va_Zq.moved (u := U) (Vm.Alike.refl U.vm) h.2.2.2⟩
theorem GW.go {n0 : Nat} {s U : State} {H : Heap} (hW : s.WarmedH U.vm) (hU : U.heap = H) (h : GW n0 s) (hq : ∀ a : Nat, a < s.heap.size → ¬ n0 ≤ a → H[a]? = s.heap[a]?) : GW n0 U := by
  refine ⟨fun w hw => ?_, fun q hq => ?_, ?_, ?_⟩
  · have h1 := h.1 w hw
    have h2 := (wN_t hw).2
    cases w <;> first | cases h2; done | exact va_Nw.warmF hW h1 | exact va_Nw.warmM hW h1
  · obtain ⟨a, ha⟩ := h.2.1 q hq
    exact ⟨a, vk_R.warm hW ha⟩
  · rw [hU]
    exact va_Zq.moved hW.alike (h.2.2.1.kept hq)
  · rw [hU]
    exact va_Zq.moved hW.alike (h.2.2.2.kept hq)
theorem GW.t {n0 : Nat} {U : State} (h : GW n0 U) {own : String} {k : Nat} {t : String} (hq : (own, k, t) ∈ tX) : ∃ a, vk_R own k t a U := h.2.1 _ hq
theorem vA_n0 {n0 sz : Nat} {ws : va_W} (hD : va_D (fun q => n0 ≤ q) ws) (h : n0 ≤ sz) : ∀ q, va_A ws sz q → n0 ≤ q := by
  intro q hq
  rcases hq with ⟨k, e, hk⟩ | hq
  · exact hD.2 k _ hk
  · exact Nat.le_trans h hq
theorem nl0 {w : Int32} (h : ¬ w < 0) : 0 ≤ w := Int32.not_lt.mp h
end
section
def RX0 : String := "MineAir$Book"
def TX0 : u_T := fun k => match k with
  | 0 => ("MineAir$Book", "ways", "I", false)
  | 1 => ("MineAir$Book", "tail", "[I", true)
  | 2 => ("MineAir$Book", "head", "[I", true)
  | 3 => ("MineAir$Book", "hinder", "[I", true)
  | 4 => ("MineAir$Book", "size", "[I", true)
  | 5 => ("MineAir$Book", "walk", "[I", true)
  | 6 => ("MineAir$Book", "draught", "[I", true)
  | 7 => ("MineAir$Book", "doorIn", "[I", true)
  | 8 => ("MineAir$Book", "fanIn", "[I", true)
  | 9 => ("MineAir$Book", "faceIn", "[I", true)
  | 10 => ("MineAir$Book", "knots", "I", false)
  | 11 => ("MineAir$Book", "day", "I", false)
  | _ => ("MineAir$Book", "gear", "LMineAir$Gear;", true)
def tyX0 : Nat → FieldType := fun k => match k with
  | 0 => .int
  | 1 => .array .int
  | 2 => .array .int
  | 3 => .array .int
  | 4 => .array .int
  | 5 => .array .int
  | 6 => .array .int
  | 7 => .array .int
  | 8 => .array .int
  | 9 => .array .int
  | 10 => .int
  | 11 => .int
  | _ => .object "MineAir$Gear"
abbrev wsX00 : List Cond := u_ws RX0 TX0 13
theorem nmX0 : ∀ a, a < 13 → ∀ b, b < 13 → a ≠ b → (TX0 a).2.1 ≠ (TX0 b).2.1 := by decide +kernel
theorem tyX0_ok : ∀ k, k < 13 → parseFieldDescriptor (TX0 k).2.2.1 = some (tyX0 k) := by decide +kernel
abbrev cX0_init : ByteArray := prog_2_method_1_code
def yX0_init : MethodName := ⟨RX0, "<init>", "()V"⟩
abbrev cX0_clear : ByteArray := prog_2_method_2_code
def yX0_clear : MethodName := ⟨RX0, "clear", "()V"⟩
abbrev cX0_copy : ByteArray := prog_2_method_3_code
def yX0_copy : MethodName := ⟨RX0, "copy", "(LMineAir$Book;)V"⟩
abbrev cX0_startOf : ByteArray := prog_2_method_4_code
def yX0_startOf : MethodName := ⟨RX0, "startOf", "(II)I"⟩
abbrev cX0_endOf : ByteArray := prog_2_method_5_code
def yX0_endOf : MethodName := ⟨RX0, "endOf", "(II)I"⟩
abbrev cX0_faceGasIn : ByteArray := prog_2_method_6_code
def yX0_faceGasIn : MethodName := ⟨RX0, "faceGasIn", "(I)I"⟩
def RX1 : String := "MineAir$Flight"
def TX1 : u_T := fun k => match k with
  | 0 => ("MineAir$Flight", "men", "I", false)
  | 1 => ("MineAir$Flight", "knotOf", "[I", true)
  | 2 => ("MineAir$Flight", "smokeAt", "[I", true)
  | 3 => ("MineAir$Flight", "reach", "[I", true)
  | 4 => ("MineAir$Flight", "route", "[I", true)
  | 5 => ("MineAir$Flight", "book", "LMineAir$Book;", true)
  | 6 => ("MineAir$Flight", "state", "LMineAir$State;", true)
  | _ => ("MineAir$Flight", "smokeIn", "[I", true)
def tyX1 : Nat → FieldType := fun k => match k with
  | 0 => .int
  | 1 => .array .int
  | 2 => .array .int
  | 3 => .array .int
  | 4 => .array .int
  | 5 => .object "MineAir$Book"
  | 6 => .object "MineAir$State"
  | _ => .array .int
abbrev wsX10 : List Cond := u_ws RX1 TX1 8
theorem nmX1 : ∀ a, a < 8 → ∀ b, b < 8 → a ≠ b → (TX1 a).2.1 ≠ (TX1 b).2.1 := by decide +kernel
theorem tyX1_ok : ∀ k, k < 8 → parseFieldDescriptor (TX1 k).2.2.1 = some (tyX1 k) := by decide +kernel
abbrev cX1_init : ByteArray := prog_3_method_1_code
def yX1_init : MethodName := ⟨RX1, "<init>", "(LMineAir$Book;LMineAir$State;)V"⟩
abbrev cX1_source : ByteArray := prog_3_method_2_code
def yX1_source : MethodName := ⟨RX1, "source", "()I"⟩
abbrev cX1_spread : ByteArray := prog_3_method_3_code
def yX1_spread : MethodName := ⟨RX1, "spread", "([I)V"⟩
abbrev cX1_drift : ByteArray := prog_3_method_4_code
def yX1_drift : MethodName := ⟨RX1, "drift", "(II)Z"⟩
abbrev cX1_walkFrom : ByteArray := prog_3_method_5_code
def yX1_walkFrom : MethodName := ⟨RX1, "walkFrom", "(I)V"⟩
abbrev cX1_walk : ByteArray := prog_3_method_6_code
def yX1_walk : MethodName := ⟨RX1, "walk", "(III)Z"⟩
abbrev cX1_traceBack : ByteArray := prog_3_method_7_code
def yX1_traceBack : MethodName := ⟨RX1, "traceBack", "(I)I"⟩
abbrev cX1_knotBefore : ByteArray := prog_3_method_8_code
def yX1_knotBefore : MethodName := ⟨RX1, "knotBefore", "(I)I"⟩
abbrev cX1_isEarly : ByteArray := prog_3_method_9_code
def yX1_isEarly : MethodName := ⟨RX1, "isEarly", "(III)Z"⟩
def RX2 : String := "MineAir$Flow"
def TX2 : u_T := fun k => match k with
  | 0 => ("MineAir$Flow", "air", "[I", true)
  | 1 => ("MineAir$Flow", "book", "LMineAir$Book;", true)
  | 2 => ("MineAir$Flow", "state", "LMineAir$State;", true)
  | 3 => ("MineAir$Flow", "hindrance", "[J", true)
  | 4 => ("MineAir$Flow", "pull", "[J", true)
  | 5 => ("MineAir$Flow", "droop", "[J", true)
  | 6 => ("MineAir$Flow", "forth", "[J", true)
  | 7 => ("MineAir$Flow", "back", "[J", true)
  | 8 => ("MineAir$Flow", "label", "[J", true)
  | 9 => ("MineAir$Flow", "cause", "[I", true)
  | 10 => ("MineAir$Flow", "seen", "[I", true)
  | _ => ("MineAir$Flow", "round", "[I", true)
def tyX2 : Nat → FieldType := fun k => match k with
  | 0 => .array .int
  | 1 => .object "MineAir$Book"
  | 2 => .object "MineAir$State"
  | 3 => .array .long
  | 4 => .array .long
  | 5 => .array .long
  | 6 => .array .long
  | 7 => .array .long
  | 8 => .array .long
  | 9 => .array .int
  | 10 => .array .int
  | _ => .array .int
abbrev wsX20 : List Cond := u_ws RX2 TX2 12
theorem nmX2 : ∀ a, a < 12 → ∀ b, b < 12 → a ≠ b → (TX2 a).2.1 ≠ (TX2 b).2.1 := by decide +kernel
theorem tyX2_ok : ∀ k, k < 12 → parseFieldDescriptor (TX2 k).2.2.1 = some (tyX2 k) := by decide +kernel
abbrev cX2_init : ByteArray := prog_4_method_1_code
def yX2_init : MethodName := ⟨RX2, "<init>", "(LMineAir$Book;LMineAir$State;)V"⟩
abbrev cX2_clear : ByteArray := prog_4_method_2_code
def yX2_clear : MethodName := ⟨RX2, "clear", "()V"⟩
abbrev cX2_settle : ByteArray := prog_4_method_3_code
def yX2_settle : MethodName := ⟨RX2, "settle", "()V"⟩
abbrev cX2_totalCost : ByteArray := prog_4_method_4_code
def yX2_totalCost : MethodName := ⟨RX2, "totalCost", "()J"⟩
abbrev cX2_takeState : ByteArray := prog_4_method_5_code
def yX2_takeState : MethodName := ⟨RX2, "takeState", "()V"⟩
abbrev cX2_rankOf : ByteArray := prog_4_method_6_code
def yX2_rankOf : MethodName := ⟨RX2, "rankOf", "(II)J"⟩
abbrev cX2_rate : ByteArray := prog_4_method_7_code
def yX2_rate : MethodName := ⟨RX2, "rate", "(II)V"⟩
abbrev cX2_findRound : ByteArray := prog_4_method_8_code
def yX2_findRound : MethodName := ⟨RX2, "findRound", "()I"⟩
abbrev cX2_relax : ByteArray := prog_4_method_9_code
def yX2_relax : MethodName := ⟨RX2, "relax", "()Z"⟩
abbrev cX2_closedKnot : ByteArray := prog_4_method_10_code
def yX2_closedKnot : MethodName := ⟨RX2, "closedKnot", "()I"⟩
abbrev cX2_cameFrom : ByteArray := prog_4_method_11_code
def yX2_cameFrom : MethodName := ⟨RX2, "cameFrom", "(I)I"⟩
abbrev cX2_followRound : ByteArray := prog_4_method_12_code
def yX2_followRound : MethodName := ⟨RX2, "followRound", "(II)V"⟩
abbrev cX2_gains : ByteArray := prog_4_method_13_code
def yX2_gains : MethodName := ⟨RX2, "gains", "(I)Z"⟩
def RX3 : String := "MineAir$Gear"
def TX3 : u_T := fun k => match k with
  | 0 => ("MineAir$Gear", "doors", "I", false)
  | 1 => ("MineAir$Gear", "doorBy", "[I", true)
  | 2 => ("MineAir$Gear", "pairs", "I", false)
  | 3 => ("MineAir$Gear", "pairFirst", "[I", true)
  | 4 => ("MineAir$Gear", "pairSecond", "[I", true)
  | 5 => ("MineAir$Gear", "fans", "I", false)
  | 6 => ("MineAir$Gear", "fanPush", "[I", true)
  | 7 => ("MineAir$Gear", "fanFall", "[I", true)
  | 8 => ("MineAir$Gear", "fanCost", "[I", true)
  | 9 => ("MineAir$Gear", "faces", "I", false)
  | 10 => ("MineAir$Gear", "faceWay", "[I", true)
  | 11 => ("MineAir$Gear", "faceGas", "[I", true)
  | _ => ("MineAir$Gear", "faceNeed", "[I", true)
def tyX3 : Nat → FieldType := fun k => match k with
  | 0 => .int
  | 1 => .array .int
  | 2 => .int
  | 3 => .array .int
  | 4 => .array .int
  | 5 => .int
  | 6 => .array .int
  | 7 => .array .int
  | 8 => .array .int
  | 9 => .int
  | 10 => .array .int
  | 11 => .array .int
  | _ => .array .int
abbrev wsX30 : List Cond := u_ws RX3 TX3 13
theorem nmX3 : ∀ a, a < 13 → ∀ b, b < 13 → a ≠ b → (TX3 a).2.1 ≠ (TX3 b).2.1 := by decide +kernel
theorem tyX3_ok : ∀ k, k < 13 → parseFieldDescriptor (TX3 k).2.2.1 = some (tyX3 k) := by decide +kernel
abbrev cX3_init : ByteArray := prog_5_method_1_code
def yX3_init : MethodName := ⟨RX3, "<init>", "()V"⟩
abbrev cX3_copy : ByteArray := prog_5_method_2_code
def yX3_copy : MethodName := ⟨RX3, "copy", "(LMineAir$Gear;)V"⟩
def RX4 : String := "MineAir$Judge"
def TX4 : u_T := fun k => match k with
  | 0 => ("MineAir$Judge", "flow", "LMineAir$Flow;", true)
  | 1 => ("MineAir$Judge", "load", "LMineAir$Load;", true)
  | 2 => ("MineAir$Judge", "book", "LMineAir$Book;", true)
  | 3 => ("MineAir$Judge", "state", "LMineAir$State;", true)
  | 4 => ("MineAir$Judge", "settled", "Z", false)
  | _ => ("MineAir$Judge", "carried", "Z", false)
def tyX4 : Nat → FieldType := fun k => match k with
  | 0 => .object "MineAir$Flow"
  | 1 => .object "MineAir$Load"
  | 2 => .object "MineAir$Book"
  | 3 => .object "MineAir$State"
  | 4 => .boolean
  | _ => .boolean
abbrev wsX40 : List Cond := u_ws RX4 TX4 6
theorem nmX4 : ∀ a, a < 6 → ∀ b, b < 6 → a ≠ b → (TX4 a).2.1 ≠ (TX4 b).2.1 := by decide +kernel
theorem tyX4_ok : ∀ k, k < 6 → parseFieldDescriptor (TX4 k).2.2.1 = some (tyX4 k) := by decide +kernel
abbrev cX4_init : ByteArray := prog_6_method_1_code
def yX4_init : MethodName := ⟨RX4, "<init>", "(LMineAir$Book;LMineAir$State;)V"⟩
abbrev cX4_forget : ByteArray := prog_6_method_2_code
def yX4_forget : MethodName := ⟨RX4, "forget", "()V"⟩
abbrev cX4_restart : ByteArray := prog_6_method_3_code
def yX4_restart : MethodName := ⟨RX4, "restart", "()V"⟩
abbrev cX4_startFrom : ByteArray := prog_6_method_4_code
def yX4_startFrom : MethodName := ⟨RX4, "startFrom", "(LMineAir$Judge;)V"⟩
abbrev cX4_settle : ByteArray := prog_6_method_5_code
def yX4_settle : MethodName := ⟨RX4, "settle", "()V"⟩
abbrev cX4_carry : ByteArray := prog_6_method_6_code
def yX4_carry : MethodName := ⟨RX4, "carry", "()V"⟩
abbrev cX4_thickness : ByteArray := prog_6_method_7_code
def yX4_thickness : MethodName := ⟨RX4, "thickness", "(I)I"⟩
abbrev cX4_countOver : ByteArray := prog_6_method_8_code
def yX4_countOver : MethodName := ⟨RX4, "countOver", "()I"⟩
abbrev cX4_verdict : ByteArray := prog_6_method_9_code
def yX4_verdict : MethodName := ⟨RX4, "verdict", "()I"⟩
abbrev cX4_isSoundAnew : ByteArray := prog_6_method_10_code
def yX4_isSoundAnew : MethodName := ⟨RX4, "isSoundAnew", "()Z"⟩
def RX5 : String := "MineAir$Load"
def TX5 : u_T := fun k => match k with
  | 0 => ("MineAir$Load", "gas", "[I", true)
  | 1 => ("MineAir$Load", "ringed", "Z", false)
  | 2 => ("MineAir$Load", "book", "LMineAir$Book;", true)
  | 3 => ("MineAir$Load", "coming", "[I", true)
  | 4 => ("MineAir$Load", "waiting", "[I", true)
  | _ => ("MineAir$Load", "rest", "[I", true)
def tyX5 : Nat → FieldType := fun k => match k with
  | 0 => .array .int
  | 1 => .boolean
  | 2 => .object "MineAir$Book"
  | 3 => .array .int
  | 4 => .array .int
  | _ => .array .int
abbrev wsX50 : List Cond := u_ws RX5 TX5 6
theorem nmX5 : ∀ a, a < 6 → ∀ b, b < 6 → a ≠ b → (TX5 a).2.1 ≠ (TX5 b).2.1 := by decide +kernel
theorem tyX5_ok : ∀ k, k < 6 → parseFieldDescriptor (TX5 k).2.2.1 = some (tyX5 k) := by decide +kernel
abbrev cX5_init : ByteArray := prog_7_method_1_code
def yX5_init : MethodName := ⟨RX5, "<init>", "(LMineAir$Book;)V"⟩
abbrev cX5_carry : ByteArray := prog_7_method_2_code
def yX5_carry : MethodName := ⟨RX5, "carry", "([I)V"⟩
abbrev cX5_countArrivals : ByteArray := prog_7_method_3_code
def yX5_countArrivals : MethodName := ⟨RX5, "countArrivals", "([I)V"⟩
abbrev cX5_sendOn : ByteArray := prog_7_method_4_code
def yX5_sendOn : MethodName := ⟨RX5, "sendOn", "(I[I)V"⟩
abbrev cX5_share : ByteArray := prog_7_method_5_code
def yX5_share : MethodName := ⟨RX5, "share", "(I[II)V"⟩
abbrev cX5_greatestRest : ByteArray := prog_7_method_6_code
def yX5_greatestRest : MethodName := ⟨RX5, "greatestRest", "()I"⟩
def RX6 : String := "MineAir$Plan"
def TX6 : u_T := fun k => match k with
  | 0 => ("MineAir$Plan", "count", "I", false)
  | 1 => ("MineAir$Plan", "order", "[I", true)
  | 2 => ("MineAir$Plan", "state", "LMineAir$State;", true)
  | 3 => ("MineAir$Plan", "now", "LMineAir$Judge;", true)
  | 4 => ("MineAir$Plan", "trial", "LMineAir$Judge;", true)
  | 5 => ("MineAir$Plan", "kind", "[I", true)
  | 6 => ("MineAir$Plan", "which", "[I", true)
  | 7 => ("MineAir$Plan", "value", "[I", true)
  | 8 => ("MineAir$Plan", "soundBy", "[I", true)
  | 9 => ("MineAir$Plan", "found", "I", false)
  | _ => ("MineAir$Plan", "made", "I", false)
def tyX6 : Nat → FieldType := fun k => match k with
  | 0 => .int
  | 1 => .array .int
  | 2 => .object "MineAir$State"
  | 3 => .object "MineAir$Judge"
  | 4 => .object "MineAir$Judge"
  | 5 => .array .int
  | 6 => .array .int
  | 7 => .array .int
  | 8 => .array .int
  | 9 => .int
  | _ => .int
abbrev wsX60 : List Cond := u_ws RX6 TX6 11
theorem nmX6 : ∀ a, a < 11 → ∀ b, b < 11 → a ≠ b → (TX6 a).2.1 ≠ (TX6 b).2.1 := by decide +kernel
theorem tyX6_ok : ∀ k, k < 11 → parseFieldDescriptor (TX6 k).2.2.1 = some (tyX6 k) := by decide +kernel
abbrev cX6_init : ByteArray := prog_8_method_1_code
def yX6_init : MethodName := ⟨RX6, "<init>", "(LMineAir$State;LMineAir$Judge;LMineAir$Judge;)V"⟩
abbrev cX6_forget : ByteArray := prog_8_method_2_code
def yX6_forget : MethodName := ⟨RX6, "forget", "()V"⟩
abbrev cX6_add : ByteArray := prog_8_method_3_code
def yX6_add : MethodName := ⟨RX6, "add", "(III)I"⟩
abbrev cX6_seek : ByteArray := prog_8_method_4_code
def yX6_seek : MethodName := ⟨RX6, "seek", "()Z"⟩
abbrev cX6_carryOut : ByteArray := prog_8_method_5_code
def yX6_carryOut : MethodName := ⟨RX6, "carryOut", "()V"⟩
abbrev cX6_isSafeFrom : ByteArray := prog_8_method_6_code
def yX6_isSafeFrom : MethodName := ⟨RX6, "isSafeFrom", "(II)Z"⟩
abbrev cX6_alike : ByteArray := prog_8_method_7_code
def yX6_alike : MethodName := ⟨RX6, "alike", "(I)I"⟩
abbrev cX6_current : ByteArray := prog_8_method_8_code
def yX6_current : MethodName := ⟨RX6, "current", "(I)I"⟩
abbrev cX6_put : ByteArray := prog_8_method_9_code
def yX6_put : MethodName := ⟨RX6, "put", "(II)V"⟩
def RX7 : String := "MineAir$Reader"
def TX7 : u_T := fun k => match k with
  | 0 => ("MineAir$Reader", "tape", "[I", true)
  | 1 => ("MineAir$Reader", "fed", "I", false)
  | 2 => ("MineAir$Reader", "fault", "I", false)
  | 3 => ("MineAir$Reader", "faultPlace", "I", false)
  | 4 => ("MineAir$Reader", "draft", "LMineAir$Book;", true)
  | 5 => ("MineAir$Reader", "names", "[J", true)
  | 6 => ("MineAir$Reader", "nameKind", "[I", true)
  | 7 => ("MineAir$Reader", "nameNumber", "[I", true)
  | 8 => ("MineAir$Reader", "named", "I", false)
  | 9 => ("MineAir$Reader", "knotNames", "[J", true)
  | 10 => ("MineAir$Reader", "end", "I", false)
  | 11 => ("MineAir$Reader", "at", "I", false)
  | 12 => ("MineAir$Reader", "token", "I", false)
  | 13 => ("MineAir$Reader", "tokenStart", "I", false)
  | _ => ("MineAir$Reader", "tokenValue", "J", false)
def tyX7 : Nat → FieldType := fun k => match k with
  | 0 => .array .int
  | 1 => .int
  | 2 => .int
  | 3 => .int
  | 4 => .object "MineAir$Book"
  | 5 => .array .long
  | 6 => .array .int
  | 7 => .array .int
  | 8 => .int
  | 9 => .array .long
  | 10 => .int
  | 11 => .int
  | 12 => .int
  | 13 => .int
  | _ => .long
abbrev wsX70 : List Cond := u_ws RX7 TX7 15
theorem nmX7 : ∀ a, a < 15 → ∀ b, b < 15 → a ≠ b → (TX7 a).2.1 ≠ (TX7 b).2.1 := by decide +kernel
theorem tyX7_ok : ∀ k, k < 15 → parseFieldDescriptor (TX7 k).2.2.1 = some (tyX7 k) := by decide +kernel
abbrev cX7_init : ByteArray := prog_9_method_1_code
def yX7_init : MethodName := ⟨RX7, "<init>", "(LMineAir$Book;)V"⟩
abbrev cX7_append : ByteArray := prog_9_method_2_code
def yX7_append : MethodName := ⟨RX7, "append", "(I)V"⟩
abbrev cX7_readBook : ByteArray := prog_9_method_3_code
def yX7_readBook : MethodName := ⟨RX7, "readBook", "(I)Z"⟩
abbrev cX7_readWay : ByteArray := prog_9_method_4_code
def yX7_readWay : MethodName := ⟨RX7, "readWay", "()V"⟩
abbrev cX7_readDoor : ByteArray := prog_9_method_5_code
def yX7_readDoor : MethodName := ⟨RX7, "readDoor", "()V"⟩
abbrev cX7_readPair : ByteArray := prog_9_method_6_code
def yX7_readPair : MethodName := ⟨RX7, "readPair", "()V"⟩
abbrev cX7_readFan : ByteArray := prog_9_method_7_code
def yX7_readFan : MethodName := ⟨RX7, "readFan", "()V"⟩
abbrev cX7_readFace : ByteArray := prog_9_method_8_code
def yX7_readFace : MethodName := ⟨RX7, "readFace", "()V"⟩
abbrev cX7_takeNewName : ByteArray := prog_9_method_9_code
def yX7_takeNewName : MethodName := ⟨RX7, "takeNewName", "(III)I"⟩
abbrev cX7_takeKnot : ByteArray := prog_9_method_10_code
def yX7_takeKnot : MethodName := ⟨RX7, "takeKnot", "(I)I"⟩
abbrev cX7_addKnot : ByteArray := prog_9_method_11_code
def yX7_addKnot : MethodName := ⟨RX7, "addKnot", "()I"⟩
abbrev cX7_takePlace : ByteArray := prog_9_method_12_code
def yX7_takePlace : MethodName := ⟨RX7, "takePlace", "([I)I"⟩
abbrev cX7_findTold : ByteArray := prog_9_method_13_code
def yX7_findTold : MethodName := ⟨RX7, "findTold", "(I)I"⟩
abbrev cX7_takeWhole : ByteArray := prog_9_method_14_code
def yX7_takeWhole : MethodName := ⟨RX7, "takeWhole", "(Ljava/lang/String;II)I"⟩
abbrev cX7_takeDraught : ByteArray := prog_9_method_15_code
def yX7_takeDraught : MethodName := ⟨RX7, "takeDraught", "()I"⟩
abbrev cX7_takeWord : ByteArray := prog_9_method_16_code
def yX7_takeWord : MethodName := ⟨RX7, "takeWord", "(Ljava/lang/String;)Z"⟩
abbrev cX7_isWord : ByteArray := prog_9_method_17_code
def yX7_isWord : MethodName := ⟨RX7, "isWord", "(Ljava/lang/String;)Z"⟩
abbrev cX7_isName : ByteArray := prog_9_method_18_code
def yX7_isName : MethodName := ⟨RX7, "isName", "()Z"⟩
abbrev cX7_nameIndex : ByteArray := prog_9_method_19_code
def yX7_nameIndex : MethodName := ⟨RX7, "nameIndex", "()I"⟩
abbrev cX7_knotNumber : ByteArray := prog_9_method_20_code
def yX7_knotNumber : MethodName := ⟨RX7, "knotNumber", "()I"⟩
abbrev cX7_miss : ByteArray := prog_9_method_21_code
def yX7_miss : MethodName := ⟨RX7, "miss", "(I)Z"⟩
abbrev cX7_next : ByteArray := prog_9_method_22_code
def yX7_next : MethodName := ⟨RX7, "next", "()V"⟩
abbrev cX7_readWord : ByteArray := prog_9_method_23_code
def yX7_readWord : MethodName := ⟨RX7, "readWord", "()V"⟩
abbrev cX7_readDigits : ByteArray := prog_9_method_24_code
def yX7_readDigits : MethodName := ⟨RX7, "readDigits", "()V"⟩
abbrev cX7_isLetter : ByteArray := prog_9_method_25_code
def yX7_isLetter : MethodName := ⟨RX7, "isLetter", "(I)Z"⟩
abbrev cX7_isDigit : ByteArray := prog_9_method_26_code
def yX7_isDigit : MethodName := ⟨RX7, "isDigit", "(I)Z"⟩
abbrev cX7_codeOf : ByteArray := prog_9_method_27_code
def yX7_codeOf : MethodName := ⟨RX7, "codeOf", "(Ljava/lang/String;)J"⟩
def RX8 : String := "MineAir$Readings"
def TX8 : u_T := fun k => match k with
  | 0 => ("MineAir$Readings", "count", "I", false)
  | 1 => ("MineAir$Readings", "way", "[I", true)
  | 2 => ("MineAir$Readings", "low", "[I", true)
  | _ => ("MineAir$Readings", "high", "[I", true)
def tyX8 : Nat → FieldType := fun k => match k with
  | 0 => .int
  | 1 => .array .int
  | 2 => .array .int
  | _ => .array .int
abbrev wsX80 : List Cond := u_ws RX8 TX8 4
theorem nmX8 : ∀ a, a < 4 → ∀ b, b < 4 → a ≠ b → (TX8 a).2.1 ≠ (TX8 b).2.1 := by decide +kernel
theorem tyX8_ok : ∀ k, k < 4 → parseFieldDescriptor (TX8 k).2.2.1 = some (tyX8 k) := by decide +kernel
abbrev cX8_init : ByteArray := prog_10_method_1_code
def yX8_init : MethodName := ⟨RX8, "<init>", "()V"⟩
abbrev cX8_add : ByteArray := prog_10_method_2_code
def yX8_add : MethodName := ⟨RX8, "add", "(III)V"⟩
abbrev cX8_hold : ByteArray := prog_10_method_3_code
def yX8_hold : MethodName := ⟨RX8, "hold", "([I)Z"⟩
def RX9 : String := "MineAir$State"
def TX9 : u_T := fun k => match k with
  | 0 => ("MineAir$State", "open", "[Z", true)
  | 1 => ("MineAir$State", "speed", "[I", true)
  | 2 => ("MineAir$State", "fallen", "[Z", true)
  | 3 => ("MineAir$State", "fire", "[I", true)
  | 4 => ("MineAir$State", "mark", "I", false)
  | 5 => ("MineAir$State", "moreIn", "I", false)
  | 6 => ("MineAir$State", "more", "I", false)
  | _ => ("MineAir$State", "book", "LMineAir$Book;", true)
def tyX9 : Nat → FieldType := fun k => match k with
  | 0 => .array .boolean
  | 1 => .array .int
  | 2 => .array .boolean
  | 3 => .array .int
  | 4 => .int
  | 5 => .int
  | 6 => .int
  | _ => .object "MineAir$Book"
abbrev wsX90 : List Cond := u_ws RX9 TX9 8
theorem nmX9 : ∀ a, a < 8 → ∀ b, b < 8 → a ≠ b → (TX9 a).2.1 ≠ (TX9 b).2.1 := by decide +kernel
theorem tyX9_ok : ∀ k, k < 8 → parseFieldDescriptor (TX9 k).2.2.1 = some (tyX9 k) := by decide +kernel
abbrev cX9_init : ByteArray := prog_11_method_1_code
def yX9_init : MethodName := ⟨RX9, "<init>", "(LMineAir$Book;)V"⟩
abbrev cX9_reset : ByteArray := prog_11_method_2_code
def yX9_reset : MethodName := ⟨RX9, "reset", "()V"⟩
abbrev cX9_hindrance : ByteArray := prog_11_method_3_code
def yX9_hindrance : MethodName := ⟨RX9, "hindrance", "(I)I"⟩
abbrev cX9_pull : ByteArray := prog_11_method_4_code
def yX9_pull : MethodName := ⟨RX9, "pull", "(I)I"⟩
abbrev cX9_hasOpenPair : ByteArray := prog_11_method_5_code
def yX9_hasOpenPair : MethodName := ⟨RX9, "hasOpenPair", "()Z"⟩
abbrev cX9_hasFallenFace : ByteArray := prog_11_method_6_code
def yX9_hasFallenFace : MethodName := ⟨RX9, "hasFallenFace", "()Z"⟩
def RX10 : String := "MineAir$Trials"
def TX10 : u_T := fun k => match k with
  | 0 => ("MineAir$Trials", "settingKnown", "Z", false)
  | 1 => ("MineAir$Trials", "knownSetting", "I", false)
  | 2 => ("MineAir$Trials", "book", "LMineAir$Book;", true)
  | 3 => ("MineAir$Trials", "state", "LMineAir$State;", true)
  | 4 => ("MineAir$Trials", "now", "LMineAir$Judge;", true)
  | 5 => ("MineAir$Trials", "trial", "LMineAir$Judge;", true)
  | 6 => ("MineAir$Trials", "ranks", "[I", true)
  | _ => ("MineAir$Trials", "keptSpeed", "[I", true)
def tyX10 : Nat → FieldType := fun k => match k with
  | 0 => .boolean
  | 1 => .int
  | 2 => .object "MineAir$Book"
  | 3 => .object "MineAir$State"
  | 4 => .object "MineAir$Judge"
  | 5 => .object "MineAir$Judge"
  | 6 => .array .int
  | _ => .array .int
abbrev wsX100 : List Cond := u_ws RX10 TX10 8
theorem nmX10 : ∀ a, a < 8 → ∀ b, b < 8 → a ≠ b → (TX10 a).2.1 ≠ (TX10 b).2.1 := by decide +kernel
theorem tyX10_ok : ∀ k, k < 8 → parseFieldDescriptor (TX10 k).2.2.1 = some (tyX10 k) := by decide +kernel
abbrev cX10_init : ByteArray := prog_12_method_1_code
def yX10_init : MethodName := ⟨RX10, "<init>", "(LMineAir$Book;LMineAir$State;LMineAir$Judge;LMineAir$Judge;)V"⟩
abbrev cX10_countTurned : ByteArray := prog_12_method_2_code
def yX10_countTurned : MethodName := ⟨RX10, "countTurned", "(I)I"⟩
abbrev cX10_failingFans : ByteArray := prog_12_method_3_code
def yX10_failingFans : MethodName := ⟨RX10, "failingFans", "()I"⟩
abbrev cX10_failingWays : ByteArray := prog_12_method_4_code
def yX10_failingWays : MethodName := ⟨RX10, "failingWays", "()I"⟩
abbrev cX10_fittingWays : ByteArray := prog_12_method_5_code
def yX10_fittingWays : MethodName := ⟨RX10, "fittingWays", "(ILMineAir$Readings;)I"⟩
abbrev cX10_cheapestSetting : ByteArray := prog_12_method_6_code
def yX10_cheapestSetting : MethodName := ⟨RX10, "cheapestSetting", "()I"⟩
abbrev cX10_seekSetting : ByteArray := prog_12_method_7_code
def yX10_seekSetting : MethodName := ⟨RX10, "seekSetting", "()I"⟩
abbrev cX10_rankSettings : ByteArray := prog_12_method_8_code
def yX10_rankSettings : MethodName := ⟨RX10, "rankSettings", "()I"⟩
abbrev cX10_sortBy : ByteArray := prog_12_method_9_code
def yX10_sortBy : MethodName := ⟨RX10, "sortBy", "(II)V"⟩
abbrev cX10_takeSetting : ByteArray := prog_12_method_10_code
def yX10_takeSetting : MethodName := ⟨RX10, "takeSetting", "(I)I"⟩
def RX11 : String := "MineAir"
def TX11 : u_T := fun k => match k with
  | 0 => ("MineAir", "reader", "LMineAir$Reader;", true)
  | 1 => ("MineAir", "draft", "LMineAir$Book;", true)
  | 2 => ("MineAir", "book", "LMineAir$Book;", true)
  | 3 => ("MineAir", "state", "LMineAir$State;", true)
  | 4 => ("MineAir", "now", "LMineAir$Judge;", true)
  | 5 => ("MineAir", "trials", "LMineAir$Trials;", true)
  | 6 => ("MineAir", "plan", "LMineAir$Plan;", true)
  | 7 => ("MineAir", "flight", "LMineAir$Flight;", true)
  | 8 => ("MineAir", "readings", "LMineAir$Readings;", true)
  | 9 => ("MineAir", "trouble", "I", false)
  | 10 => ("MineAir", "fault", "I", false)
  | _ => ("MineAir", "place", "I", false)
def tyX11 : Nat → FieldType := fun k => match k with
  | 0 => .object "MineAir$Reader"
  | 1 => .object "MineAir$Book"
  | 2 => .object "MineAir$Book"
  | 3 => .object "MineAir$State"
  | 4 => .object "MineAir$Judge"
  | 5 => .object "MineAir$Trials"
  | 6 => .object "MineAir$Plan"
  | 7 => .object "MineAir$Flight"
  | 8 => .object "MineAir$Readings"
  | 9 => .int
  | 10 => .int
  | _ => .int
abbrev wsX110 : List Cond := u_ws RX11 TX11 12
theorem nmX11 : ∀ a, a < 12 → ∀ b, b < 12 → a ≠ b → (TX11 a).2.1 ≠ (TX11 b).2.1 := by decide +kernel
theorem tyX11_ok : ∀ k, k < 12 → parseFieldDescriptor (TX11 k).2.2.1 = some (tyX11 k) := by decide +kernel
abbrev cX11_init : ByteArray := prog_1_method_1_code
def yX11_init : MethodName := ⟨RX11, "<init>", "()V"⟩
abbrev cX11_feed : ByteArray := prog_1_method_2_code
def yX11_feed : MethodName := ⟨RX11, "feed", "(IIIII)I"⟩
abbrev cX11_book : ByteArray := prog_1_method_3_code
def yX11_book : MethodName := ⟨RX11, "book", "(I)I"⟩
abbrev cX11_fault : ByteArray := prog_1_method_4_code
def yX11_fault : MethodName := ⟨RX11, "fault", "()I"⟩
abbrev cX11_where : ByteArray := prog_1_method_5_code
def yX11_where : MethodName := ⟨RX11, "where", "()I"⟩
abbrev cX11_way : ByteArray := prog_1_method_6_code
def yX11_way : MethodName := ⟨RX11, "way", "(II)I"⟩
abbrev cX11_door : ByteArray := prog_1_method_7_code
def yX11_door : MethodName := ⟨RX11, "door", "(IZ)Z"⟩
abbrev cX11_speed : ByteArray := prog_1_method_8_code
def yX11_speed : MethodName := ⟨RX11, "speed", "(II)Z"⟩
abbrev cX11_fall : ByteArray := prog_1_method_9_code
def yX11_fall : MethodName := ⟨RX11, "fall", "(IZ)Z"⟩
abbrev cX11_fire : ByteArray := prog_1_method_10_code
def yX11_fire : MethodName := ⟨RX11, "fire", "(II)Z"⟩
abbrev cX11_mark : ByteArray := prog_1_method_11_code
def yX11_mark : MethodName := ⟨RX11, "mark", "(I)Z"⟩
abbrev cX11_air : ByteArray := prog_1_method_12_code
def yX11_air : MethodName := ⟨RX11, "air", "(I)I"⟩
abbrev cX11_cost : ByteArray := prog_1_method_13_code
def yX11_cost : MethodName := ⟨RX11, "cost", "()J"⟩
abbrev cX11_turned : ByteArray := prog_1_method_14_code
def yX11_turned : MethodName := ⟨RX11, "turned", "(I)I"⟩
abbrev cX11_gas : ByteArray := prog_1_method_15_code
def yX11_gas : MethodName := ⟨RX11, "gas", "(I)I"⟩
abbrev cX11_thick : ByteArray := prog_1_method_16_code
def yX11_thick : MethodName := ⟨RX11, "thick", "(I)I"⟩
abbrev cX11_over : ByteArray := prog_1_method_17_code
def yX11_over : MethodName := ⟨RX11, "over", "()I"⟩
abbrev cX11_sound : ByteArray := prog_1_method_18_code
def yX11_sound : MethodName := ⟨RX11, "sound", "()I"⟩
abbrev cX11_failing : ByteArray := prog_1_method_19_code
def yX11_failing : MethodName := ⟨RX11, "failing", "(Z)I"⟩
abbrev cX11_setting : ByteArray := prog_1_method_20_code
def yX11_setting : MethodName := ⟨RX11, "setting", "()I"⟩
abbrev cX11_smoke : ByteArray := prog_1_method_21_code
def yX11_smoke : MethodName := ⟨RX11, "smoke", "(I)I"⟩
abbrev cX11_man : ByteArray := prog_1_method_22_code
def yX11_man : MethodName := ⟨RX11, "man", "(I)I"⟩
abbrev cX11_out : ByteArray := prog_1_method_23_code
def yX11_out : MethodName := ⟨RX11, "out", "(I)I"⟩
abbrev cX11_change : ByteArray := prog_1_method_24_code
def yX11_change : MethodName := ⟨RX11, "change", "(III)I"⟩
abbrev cX11_order : ByteArray := prog_1_method_25_code
def yX11_order : MethodName := ⟨RX11, "order", "(I)I"⟩
abbrev cX11_make : ByteArray := prog_1_method_26_code
def yX11_make : MethodName := ⟨RX11, "make", "()I"⟩
abbrev cX11_reading : ByteArray := prog_1_method_27_code
def yX11_reading : MethodName := ⟨RX11, "reading", "(III)I"⟩
abbrev cX11_fits : ByteArray := prog_1_method_28_code
def yX11_fits : MethodName := ⟨RX11, "fits", "(I)I"⟩
abbrev cX11_led : ByteArray := prog_1_method_29_code
def yX11_led : MethodName := ⟨RX11, "led", "(II)I"⟩
abbrev cX11_count : ByteArray := prog_1_method_30_code
def yX11_count : MethodName := ⟨RX11, "count", "(I)I"⟩
abbrev cX11_trouble : ByteArray := prog_1_method_31_code
def yX11_trouble : MethodName := ⟨RX11, "trouble", "()I"⟩
abbrev cX11_refuse : ByteArray := prog_1_method_32_code
def yX11_refuse : MethodName := ⟨RX11, "refuse", "(I)I"⟩
abbrev cX11_accept : ByteArray := prog_1_method_33_code
def yX11_accept : MethodName := ⟨RX11, "accept", "(I)I"⟩
abbrev cX11_deny : ByteArray := prog_1_method_34_code
def yX11_deny : MethodName := ⟨RX11, "deny", "(I)Z"⟩
abbrev cX11_allow : ByteArray := prog_1_method_35_code
def yX11_allow : MethodName := ⟨RX11, "allow", "()Z"⟩
abbrev cX11_forgetAir : ByteArray := prog_1_method_36_code
def yX11_forgetAir : MethodName := ⟨RX11, "forgetAir", "()V"⟩
abbrev cX11_forgetVerdicts : ByteArray := prog_1_method_37_code
def yX11_forgetVerdicts : MethodName := ⟨RX11, "forgetVerdicts", "()V"⟩
abbrev cX11_leastMinuteOut : ByteArray := prog_1_method_38_code
def yX11_leastMinuteOut : MethodName := ⟨RX11, "leastMinuteOut", "(I)I"⟩
abbrev cX11_isBooked : ByteArray := prog_1_method_39_code
def yX11_isBooked : MethodName := ⟨RX11, "isBooked", "()Z"⟩
abbrev cX11_isWay : ByteArray := prog_1_method_40_code
def yX11_isWay : MethodName := ⟨RX11, "isWay", "(I)Z"⟩
abbrev cX11_isDoor : ByteArray := prog_1_method_41_code
def yX11_isDoor : MethodName := ⟨RX11, "isDoor", "(I)Z"⟩
abbrev cX11_isFan : ByteArray := prog_1_method_42_code
def yX11_isFan : MethodName := ⟨RX11, "isFan", "(I)Z"⟩
abbrev cX11_isMan : ByteArray := prog_1_method_43_code
def yX11_isMan : MethodName := ⟨RX11, "isMan", "(I)Z"⟩
abbrev cX11_isTarget : ByteArray := prog_1_method_44_code
def yX11_isTarget : MethodName := ⟨RX11, "isTarget", "(II)Z"⟩
abbrev cX11_isSpeed : ByteArray := prog_1_method_45_code
def yX11_isSpeed : MethodName := ⟨RX11, "isSpeed", "(I)Z"⟩
abbrev cX11_orNotSo : ByteArray := prog_1_method_46_code
def yX11_orNotSo : MethodName := ⟨RX11, "orNotSo", "(I)I"⟩
def RX12 : String := "MineAirModel$Book"
def TX12 : u_T := fun k => match k with
  | 0 => ("MineAirModel$Book", "ways", "I", false)
  | 1 => ("MineAirModel$Book", "knots", "I", false)
  | 2 => ("MineAirModel$Book", "doors", "I", false)
  | 3 => ("MineAirModel$Book", "pairs", "I", false)
  | 4 => ("MineAirModel$Book", "fans", "I", false)
  | 5 => ("MineAirModel$Book", "faces", "I", false)
  | 6 => ("MineAirModel$Book", "names", "I", false)
  | 7 => ("MineAirModel$Book", "knot", "[J", true)
  | 8 => ("MineAirModel$Book", "name", "[J", true)
  | 9 => ("MineAirModel$Book", "kind", "[I", true)
  | 10 => ("MineAirModel$Book", "number", "[I", true)
  | 11 => ("MineAirModel$Book", "from", "[I", true)
  | 12 => ("MineAirModel$Book", "to", "[I", true)
  | 13 => ("MineAirModel$Book", "hinder", "[I", true)
  | 14 => ("MineAirModel$Book", "size", "[I", true)
  | 15 => ("MineAirModel$Book", "walk", "[I", true)
  | 16 => ("MineAirModel$Book", "draught", "[I", true)
  | 17 => ("MineAirModel$Book", "doorIn", "[I", true)
  | 18 => ("MineAirModel$Book", "fanIn", "[I", true)
  | 19 => ("MineAirModel$Book", "faceIn", "[I", true)
  | 20 => ("MineAirModel$Book", "by", "[I", true)
  | 21 => ("MineAirModel$Book", "one", "[I", true)
  | 22 => ("MineAirModel$Book", "two", "[I", true)
  | 23 => ("MineAirModel$Book", "push", "[I", true)
  | 24 => ("MineAirModel$Book", "fall", "[I", true)
  | 25 => ("MineAirModel$Book", "cost", "[I", true)
  | 26 => ("MineAirModel$Book", "gas", "[I", true)
  | _ => ("MineAirModel$Book", "need", "[I", true)
def tyX12 : Nat → FieldType := fun k => match k with
  | 0 => .int
  | 1 => .int
  | 2 => .int
  | 3 => .int
  | 4 => .int
  | 5 => .int
  | 6 => .int
  | 7 => .array .long
  | 8 => .array .long
  | 9 => .array .int
  | 10 => .array .int
  | 11 => .array .int
  | 12 => .array .int
  | 13 => .array .int
  | 14 => .array .int
  | 15 => .array .int
  | 16 => .array .int
  | 17 => .array .int
  | 18 => .array .int
  | 19 => .array .int
  | 20 => .array .int
  | 21 => .array .int
  | 22 => .array .int
  | 23 => .array .int
  | 24 => .array .int
  | 25 => .array .int
  | 26 => .array .int
  | _ => .array .int
abbrev wsX120 : List Cond := u_ws RX12 TX12 28
theorem nmX12 : ∀ a, a < 28 → ∀ b, b < 28 → a ≠ b → (TX12 a).2.1 ≠ (TX12 b).2.1 := by decide +kernel
theorem tyX12_ok : ∀ k, k < 28 → parseFieldDescriptor (TX12 k).2.2.1 = some (tyX12 k) := by decide +kernel
abbrev cX12_init : ByteArray := prog_15_method_1_code
def yX12_init : MethodName := ⟨RX12, "<init>", "()V"⟩
abbrev cX12_find : ByteArray := prog_15_method_2_code
def yX12_find : MethodName := ⟨RX12, "find", "(J)I"⟩
abbrev cX12_knotOf : ByteArray := prog_15_method_3_code
def yX12_knotOf : MethodName := ⟨RX12, "knotOf", "(J)I"⟩
abbrev cX12_names : ByteArray := prog_15_method_4_code
def yX12_names : MethodName := ⟨RX12, "names", "(JII)V"⟩
def RX13 : String := "MineAirModel$Stop"
def TX13 : u_T := fun k => match k with
  | 0 => ("java/lang/Throwable", "cause", "Ljava/lang/Throwable;", false)
  | 1 => ("java/lang/Throwable", "stackTrace", "[Ljava/lang/StackTraceElement;", false)
  | 2 => ("java/lang/Throwable", "suppressedExceptions", "Ljava/util/List;", false)
  | 3 => ("java/lang/Throwable", "detailMessage", "Ljava/lang/String;", false)
  | 4 => ("java/lang/Throwable", "backtrace", "Ljava/lang/Object;", false)
  | 5 => ("java/lang/Throwable", "depth", "I", false)
  | 6 => ("MineAirModel$Stop", "kind", "I", false)
  | _ => ("MineAirModel$Stop", "place", "I", false)
def tyX13 : Nat → FieldType := fun k => match k with
  | 0 => .object "java/lang/Throwable"
  | 1 => .array (.object "java/lang/StackTraceElement")
  | 2 => .object "java/util/List"
  | 3 => .object "java/lang/String"
  | 4 => .object "java/lang/Object"
  | 5 => .int
  | 6 => .int
  | _ => .int
abbrev wsX130 : List Cond := u_ws RX13 TX13 8
theorem nmX13 : ∀ a, a < 8 → ∀ b, b < 8 → a ≠ b → (TX13 a).2.1 ≠ (TX13 b).2.1 := by decide +kernel
theorem tyX13_ok : ∀ k, k < 8 → parseFieldDescriptor (TX13 k).2.2.1 = some (tyX13 k) := by decide +kernel
abbrev cX13_init : ByteArray := prog_16_method_1_code
def yX13_init : MethodName := ⟨RX13, "<init>", "()V"⟩
def RX14 : String := "MineAirModel"
def TX14 : u_T := fun k => match k with
  | 0 => ("MineAirModel", "thrown", "I", false)
  | 1 => ("MineAirModel", "power", "[J", true)
  | 2 => ("MineAirModel", "trouble", "I", false)
  | 3 => ("MineAirModel", "where", "I", false)
  | 4 => ("MineAirModel", "fault", "I", false)
  | 5 => ("MineAirModel", "book", "LMineAirModel$Book;", false)
  | 6 => ("MineAirModel", "fresh", "LMineAirModel$Book;", false)
  | 7 => ("MineAirModel", "stop", "LMineAirModel$Stop;", true)
  | 8 => ("MineAirModel", "tape", "[B", true)
  | 9 => ("MineAirModel", "taped", "I", false)
  | 10 => ("MineAirModel", "size", "I", false)
  | 11 => ("MineAirModel", "at", "I", false)
  | 12 => ("MineAirModel", "sort", "I", false)
  | 13 => ("MineAirModel", "place", "I", false)
  | 14 => ("MineAirModel", "mark", "I", false)
  | 15 => ("MineAirModel", "number", "I", false)
  | 16 => ("MineAirModel", "word", "J", false)
  | 17 => ("MineAirModel", "isOpen", "[Z", true)
  | 18 => ("MineAirModel", "isFallen", "[Z", true)
  | 19 => ("MineAirModel", "speed", "[I", true)
  | 20 => ("MineAirModel", "fire", "[I", true)
  | 21 => ("MineAirModel", "most", "I", false)
  | 22 => ("MineAirModel", "hindered", "I", false)
  | 23 => ("MineAirModel", "hinderedBy", "I", false)
  | 24 => ("MineAirModel", "air", "[I", true)
  | 25 => ("MineAirModel", "cameBy", "[I", true)
  | 26 => ("MineAirModel", "least", "[J", true)
  | 27 => ("MineAirModel", "before", "[I", true)
  | 28 => ("MineAirModel", "gas", "[I", true)
  | 29 => ("MineAirModel", "into", "[I", true)
  | 30 => ("MineAirModel", "rest", "[I", true)
  | 31 => ("MineAirModel", "isTold", "[Z", true)
  | 32 => ("MineAirModel", "isPast", "[Z", true)
  | 33 => ("MineAirModel", "kept", "[I", true)
  | 34 => ("MineAirModel", "smoke", "[I", true)
  | 35 => ("MineAirModel", "early", "[I", true)
  | 36 => ("MineAirModel", "men", "I", false)
  | 37 => ("MineAirModel", "manAt", "[I", true)
  | 38 => ("MineAirModel", "changes", "I", false)
  | 39 => ("MineAirModel", "changeKind", "[I", true)
  | 40 => ("MineAirModel", "changeOf", "[I", true)
  | 41 => ("MineAirModel", "changeTo", "[I", true)
  | 42 => ("MineAirModel", "row", "[I", true)
  | 43 => ("MineAirModel", "openWas", "[Z", true)
  | 44 => ("MineAirModel", "fallenWas", "[Z", true)
  | 45 => ("MineAirModel", "speedWas", "[I", true)
  | 46 => ("MineAirModel", "readings", "I", false)
  | 47 => ("MineAirModel", "readingOf", "[I", true)
  | 48 => ("MineAirModel", "low", "[I", true)
  | 49 => ("MineAirModel", "high", "[I", true)
  | _ => ("MineAirModel", "back", "[I", true)
def tyX14 : Nat → FieldType := fun k => match k with
  | 0 => .int
  | 1 => .array .long
  | 2 => .int
  | 3 => .int
  | 4 => .int
  | 5 => .object "MineAirModel$Book"
  | 6 => .object "MineAirModel$Book"
  | 7 => .object "MineAirModel$Stop"
  | 8 => .array .byte
  | 9 => .int
  | 10 => .int
  | 11 => .int
  | 12 => .int
  | 13 => .int
  | 14 => .int
  | 15 => .int
  | 16 => .long
  | 17 => .array .boolean
  | 18 => .array .boolean
  | 19 => .array .int
  | 20 => .array .int
  | 21 => .int
  | 22 => .int
  | 23 => .int
  | 24 => .array .int
  | 25 => .array .int
  | 26 => .array .long
  | 27 => .array .int
  | 28 => .array .int
  | 29 => .array .int
  | 30 => .array .int
  | 31 => .array .boolean
  | 32 => .array .boolean
  | 33 => .array .int
  | 34 => .array .int
  | 35 => .array .int
  | 36 => .int
  | 37 => .array .int
  | 38 => .int
  | 39 => .array .int
  | 40 => .array .int
  | 41 => .array .int
  | 42 => .array .int
  | 43 => .array .boolean
  | 44 => .array .boolean
  | 45 => .array .int
  | 46 => .int
  | 47 => .array .int
  | 48 => .array .int
  | 49 => .array .int
  | _ => .array .int
abbrev wsX140 : List Cond := u_ws RX14 TX14 51
theorem nmX14 : ∀ a, a < 51 → ∀ b, b < 51 → a ≠ b → (TX14 a).2.1 ≠ (TX14 b).2.1 := by decide +kernel
theorem tyX14_ok : ∀ k, k < 51 → parseFieldDescriptor (TX14 k).2.2.1 = some (tyX14 k) := by decide +kernel
abbrev cX14_init : ByteArray := prog_14_method_1_code
def yX14_init : MethodName := ⟨RX14, "<init>", "()V"⟩
abbrev cX14_thrown : ByteArray := prog_14_method_2_code
def yX14_thrown : MethodName := ⟨RX14, "thrown", "()I"⟩
abbrev cX14_refused : ByteArray := prog_14_method_3_code
def yX14_refused : MethodName := ⟨RX14, "refused", "(I)I"⟩
abbrev cX14_denied : ByteArray := prog_14_method_4_code
def yX14_denied : MethodName := ⟨RX14, "denied", "(I)Z"⟩
abbrev cX14_done : ByteArray := prog_14_method_5_code
def yX14_done : MethodName := ⟨RX14, "done", "(I)I"⟩
abbrev cX14_granted : ByteArray := prog_14_method_6_code
def yX14_granted : MethodName := ⟨RX14, "granted", "()Z"⟩
abbrev cX14_in : ByteArray := prog_14_method_7_code
def yX14_in : MethodName := ⟨RX14, "in", "(III)Z"⟩
abbrev cX14_stop : ByteArray := prog_14_method_8_code
def yX14_stop : MethodName := ⟨RX14, "stop", "(I)LMineAirModel$Stop;"⟩
abbrev cX14_byteAt : ByteArray := prog_14_method_9_code
def yX14_byteAt : MethodName := ⟨RX14, "byteAt", "(I)I"⟩
abbrev cX14_isLetter : ByteArray := prog_14_method_10_code
def yX14_isLetter : MethodName := ⟨RX14, "isLetter", "(I)Z"⟩
abbrev cX14_isDigit : ByteArray := prog_14_method_11_code
def yX14_isDigit : MethodName := ⟨RX14, "isDigit", "(I)Z"⟩
abbrev cX14_wordOf : ByteArray := prog_14_method_12_code
def yX14_wordOf : MethodName := ⟨RX14, "wordOf", "(Ljava/lang/String;)J"⟩
abbrev cX14_next : ByteArray := prog_14_method_13_code
def yX14_next : MethodName := ⟨RX14, "next", "()V"⟩
abbrev cX14_isWord : ByteArray := prog_14_method_14_code
def yX14_isWord : MethodName := ⟨RX14, "isWord", "(Ljava/lang/String;)Z"⟩
abbrev cX14_is : ByteArray := prog_14_method_15_code
def yX14_is : MethodName := ⟨RX14, "is", "(I)Z"⟩
abbrev cX14_isName : ByteArray := prog_14_method_16_code
def yX14_isName : MethodName := ⟨RX14, "isName", "()Z"⟩
abbrev cX14_needWord : ByteArray := prog_14_method_17_code
def yX14_needWord : MethodName := ⟨RX14, "needWord", "(Ljava/lang/String;)V"⟩
abbrev cX14_readWhole : ByteArray := prog_14_method_18_code
def yX14_readWhole : MethodName := ⟨RX14, "readWhole", "(II)I"⟩
abbrev cX14_readBook : ByteArray := prog_14_method_19_code
def yX14_readBook : MethodName := ⟨RX14, "readBook", "()V"⟩
abbrev cX14_readFresh : ByteArray := prog_14_method_20_code
def yX14_readFresh : MethodName := ⟨RX14, "readFresh", "(Z)J"⟩
abbrev cX14_readTold : ByteArray := prog_14_method_21_code
def yX14_readTold : MethodName := ⟨RX14, "readTold", "(I)I"⟩
abbrev cX14_readKnot : ByteArray := prog_14_method_22_code
def yX14_readKnot : MethodName := ⟨RX14, "readKnot", "(I)I"⟩
abbrev cX14_readWay : ByteArray := prog_14_method_23_code
def yX14_readWay : MethodName := ⟨RX14, "readWay", "()V"⟩
abbrev cX14_readIn : ByteArray := prog_14_method_24_code
def yX14_readIn : MethodName := ⟨RX14, "readIn", "([I)I"⟩
abbrev cX14_readDoor : ByteArray := prog_14_method_25_code
def yX14_readDoor : MethodName := ⟨RX14, "readDoor", "()V"⟩
abbrev cX14_readPair : ByteArray := prog_14_method_26_code
def yX14_readPair : MethodName := ⟨RX14, "readPair", "()V"⟩
abbrev cX14_readFan : ByteArray := prog_14_method_27_code
def yX14_readFan : MethodName := ⟨RX14, "readFan", "()V"⟩
abbrev cX14_readFace : ByteArray := prog_14_method_28_code
def yX14_readFace : MethodName := ⟨RX14, "readFace", "()V"⟩
abbrev cX14_feed : ByteArray := prog_14_method_29_code
def yX14_feed : MethodName := ⟨RX14, "feed", "(IIIII)I"⟩
abbrev cX14_book : ByteArray := prog_14_method_30_code
def yX14_book : MethodName := ⟨RX14, "book", "(I)I"⟩
abbrev cX14_fault : ByteArray := prog_14_method_31_code
def yX14_fault : MethodName := ⟨RX14, "fault", "()I"⟩
abbrev cX14_where : ByteArray := prog_14_method_32_code
def yX14_where : MethodName := ⟨RX14, "where", "()I"⟩
abbrev cX14_isWay : ByteArray := prog_14_method_33_code
def yX14_isWay : MethodName := ⟨RX14, "isWay", "(I)Z"⟩
abbrev cX14_isDoor : ByteArray := prog_14_method_34_code
def yX14_isDoor : MethodName := ⟨RX14, "isDoor", "(I)Z"⟩
abbrev cX14_isFan : ByteArray := prog_14_method_35_code
def yX14_isFan : MethodName := ⟨RX14, "isFan", "(I)Z"⟩
abbrev cX14_hindrance : ByteArray := prog_14_method_36_code
def yX14_hindrance : MethodName := ⟨RX14, "hindrance", "(I)I"⟩
abbrev cX14_way : ByteArray := prog_14_method_37_code
def yX14_way : MethodName := ⟨RX14, "way", "(II)I"⟩
abbrev cX14_door : ByteArray := prog_14_method_38_code
def yX14_door : MethodName := ⟨RX14, "door", "(IZ)Z"⟩
abbrev cX14_speed : ByteArray := prog_14_method_39_code
def yX14_speed : MethodName := ⟨RX14, "speed", "(II)Z"⟩
abbrev cX14_fall : ByteArray := prog_14_method_40_code
def yX14_fall : MethodName := ⟨RX14, "fall", "(IZ)Z"⟩
abbrev cX14_fire : ByteArray := prog_14_method_41_code
def yX14_fire : MethodName := ⟨RX14, "fire", "(II)Z"⟩
abbrev cX14_mark : ByteArray := prog_14_method_42_code
def yX14_mark : MethodName := ⟨RX14, "mark", "(I)Z"⟩
abbrev cX14_step : ByteArray := prog_14_method_43_code
def yX14_step : MethodName := ⟨RX14, "step", "(II)J"⟩
abbrev cX14_abs : ByteArray := prog_14_method_44_code
def yX14_abs : MethodName := ⟨RX14, "abs", "(I)I"⟩
abbrev cX14_both : ByteArray := prog_14_method_45_code
def yX14_both : MethodName := ⟨RX14, "both", "(II)J"⟩
abbrev cX14_may : ByteArray := prog_14_method_46_code
def yX14_may : MethodName := ⟨RX14, "may", "(IZ)Z"⟩
abbrev cX14_lowers : ByteArray := prog_14_method_47_code
def yX14_lowers : MethodName := ⟨RX14, "lowers", "()I"⟩
abbrev cX14_cameFrom : ByteArray := prog_14_method_48_code
def yX14_cameFrom : MethodName := ⟨RX14, "cameFrom", "(I)I"⟩
abbrev cX14_isTurned : ByteArray := prog_14_method_49_code
def yX14_isTurned : MethodName := ⟨RX14, "isTurned", "()Z"⟩
abbrev cX14_blows : ByteArray := prog_14_method_50_code
def yX14_blows : MethodName := ⟨RX14, "blows", "()V"⟩
abbrev cX14_air : ByteArray := prog_14_method_51_code
def yX14_air : MethodName := ⟨RX14, "air", "(I)I"⟩
abbrev cX14_cost : ByteArray := prog_14_method_52_code
def yX14_cost : MethodName := ⟨RX14, "cost", "()J"⟩
abbrev cX14_turned : ByteArray := prog_14_method_53_code
def yX14_turned : MethodName := ⟨RX14, "turned", "(I)I"⟩
abbrev cX14_day : ByteArray := prog_14_method_54_code
def yX14_day : MethodName := ⟨RX14, "day", "()I"⟩
abbrev cX14_tail : ByteArray := prog_14_method_55_code
def yX14_tail : MethodName := ⟨RX14, "tail", "(I)I"⟩
abbrev cX14_head : ByteArray := prog_14_method_56_code
def yX14_head : MethodName := ⟨RX14, "head", "(I)I"⟩
abbrev cX14_faceGas : ByteArray := prog_14_method_57_code
def yX14_faceGas : MethodName := ⟨RX14, "faceGas", "(I)I"⟩
abbrev cX14_isCarried : ByteArray := prog_14_method_58_code
def yX14_isCarried : MethodName := ⟨RX14, "isCarried", "()Z"⟩
abbrev cX14_isReady : ByteArray := prog_14_method_59_code
def yX14_isReady : MethodName := ⟨RX14, "isReady", "(I)Z"⟩
abbrev cX14_shares : ByteArray := prog_14_method_60_code
def yX14_shares : MethodName := ⟨RX14, "shares", "(I)V"⟩
abbrev cX14_thickOf : ByteArray := prog_14_method_61_code
def yX14_thickOf : MethodName := ⟨RX14, "thickOf", "(I)I"⟩
abbrev cX14_overNow : ByteArray := prog_14_method_62_code
def yX14_overNow : MethodName := ⟨RX14, "overNow", "()I"⟩
abbrev cX14_gas : ByteArray := prog_14_method_63_code
def yX14_gas : MethodName := ⟨RX14, "gas", "(I)I"⟩
abbrev cX14_thick : ByteArray := prog_14_method_64_code
def yX14_thick : MethodName := ⟨RX14, "thick", "(I)I"⟩
abbrev cX14_over : ByteArray := prog_14_method_65_code
def yX14_over : MethodName := ⟨RX14, "over", "()I"⟩
abbrev cX14_unsound : ByteArray := prog_14_method_66_code
def yX14_unsound : MethodName := ⟨RX14, "unsound", "()I"⟩
abbrev cX14_sound : ByteArray := prog_14_method_67_code
def yX14_sound : MethodName := ⟨RX14, "sound", "()I"⟩
abbrev cX14_failing : ByteArray := prog_14_method_68_code
def yX14_failing : MethodName := ⟨RX14, "failing", "(Z)I"⟩
abbrev cX14_setting : ByteArray := prog_14_method_69_code
def yX14_setting : MethodName := ⟨RX14, "setting", "()I"⟩
abbrev cX14_burning : ByteArray := prog_14_method_70_code
def yX14_burning : MethodName := ⟨RX14, "burning", "()I"⟩
abbrev cX14_isSmoked : ByteArray := prog_14_method_71_code
def yX14_isSmoked : MethodName := ⟨RX14, "isSmoked", "()Z"⟩
abbrev cX14_smoke : ByteArray := prog_14_method_72_code
def yX14_smoke : MethodName := ⟨RX14, "smoke", "(I)I"⟩
abbrev cX14_man : ByteArray := prog_14_method_73_code
def yX14_man : MethodName := ⟨RX14, "man", "(I)I"⟩
abbrev cX14_goes : ByteArray := prog_14_method_74_code
def yX14_goes : MethodName := ⟨RX14, "goes", "(I)V"⟩
abbrev cX14_reaches : ByteArray := prog_14_method_75_code
def yX14_reaches : MethodName := ⟨RX14, "reaches", "(III)V"⟩
abbrev cX14_out : ByteArray := prog_14_method_76_code
def yX14_out : MethodName := ⟨RX14, "out", "(I)I"⟩
abbrev cX14_change : ByteArray := prog_14_method_77_code
def yX14_change : MethodName := ⟨RX14, "change", "(III)I"⟩
abbrev cX14_makes : ByteArray := prog_14_method_78_code
def yX14_makes : MethodName := ⟨RX14, "makes", "(I)V"⟩
abbrev cX14_keeps : ByteArray := prog_14_method_79_code
def yX14_keeps : MethodName := ⟨RX14, "keeps", "()V"⟩
abbrev cX14_restores : ByteArray := prog_14_method_80_code
def yX14_restores : MethodName := ⟨RX14, "restores", "()V"⟩
abbrev cX14_isSafe : ByteArray := prog_14_method_81_code
def yX14_isSafe : MethodName := ⟨RX14, "isSafe", "(I)Z"⟩
abbrev cX14_isOrdered : ByteArray := prog_14_method_82_code
def yX14_isOrdered : MethodName := ⟨RX14, "isOrdered", "()Z"⟩
abbrev cX14_order : ByteArray := prog_14_method_83_code
def yX14_order : MethodName := ⟨RX14, "order", "(I)I"⟩
abbrev cX14_make : ByteArray := prog_14_method_84_code
def yX14_make : MethodName := ⟨RX14, "make", "()I"⟩
abbrev cX14_reading : ByteArray := prog_14_method_85_code
def yX14_reading : MethodName := ⟨RX14, "reading", "(III)I"⟩
abbrev cX14_fits : ByteArray := prog_14_method_86_code
def yX14_fits : MethodName := ⟨RX14, "fits", "(I)I"⟩
abbrev cX14_led : ByteArray := prog_14_method_87_code
def yX14_led : MethodName := ⟨RX14, "led", "(II)I"⟩
abbrev cX14_leadsTo : ByteArray := prog_14_method_88_code
def yX14_leadsTo : MethodName := ⟨RX14, "leadsTo", "(II)Z"⟩
abbrev cX14_count : ByteArray := prog_14_method_89_code
def yX14_count : MethodName := ⟨RX14, "count", "(I)I"⟩
abbrev cX14_trouble : ByteArray := prog_14_method_90_code
def yX14_trouble : MethodName := ⟨RX14, "trouble", "()I"⟩
def RJ9 : String := "java/lang/Math"
def TJ9 : u_T := fun k => match k with
  | _ => ("", "", "", false)
def tyJ9 : Nat → FieldType := fun k => match k with
  | _ => .int
abbrev wsJ90 : List Cond := u_ws RJ9 TJ9 0
theorem nmJ9 : ∀ a, a < 0 → ∀ b, b < 0 → a ≠ b → (TJ9 a).2.1 ≠ (TJ9 b).2.1 := by decide +kernel
theorem tyJ9_ok : ∀ k, k < 0 → parseFieldDescriptor (TJ9 k).2.2.1 = some (tyJ9 k) := by decide +kernel
abbrev cJ9_abs_0f7a4 : ByteArray := prog_18_method_59_code
def yJ9_abs_0f7a4 : MethodName := ⟨RJ9, "abs", "(I)I"⟩
abbrev cJ9_max_7cf53 : ByteArray := prog_18_method_65_code
def yJ9_max_7cf53 : MethodName := ⟨RJ9, "max", "(II)I"⟩
abbrev cJ9_min_7cf53 : ByteArray := prog_18_method_69_code
def yJ9_min_7cf53 : MethodName := ⟨RJ9, "min", "(II)I"⟩
def RJ0 : String := "java/lang/String"
def TJ0 : u_T := fun k => match k with
  | _ => ("", "", "", false)
def tyJ0 : Nat → FieldType := fun k => match k with
  | _ => .int
abbrev wsJ00 : List Cond := u_ws RJ0 TJ0 0
theorem nmJ0 : ∀ a, a < 0 → ∀ b, b < 0 → a ≠ b → (TJ0 a).2.1 ≠ (TJ0 b).2.1 := by decide +kernel
theorem tyJ0_ok : ∀ k, k < 0 → parseFieldDescriptor (TJ0 k).2.2.1 = some (tyJ0 k) := by decide +kernel
abbrev cJ0_length_8abf5 : ByteArray := prog_20_method_54_code
def yJ0_length_8abf5 : MethodName := ⟨RJ0, "length", "()I"⟩
abbrev cJ0_charAt_5068e : ByteArray := prog_20_method_56_code
def yJ0_charAt_5068e : MethodName := ⟨RJ0, "charAt", "(I)C"⟩
abbrev cJ0_coder_7d493 : ByteArray := prog_20_method_152_code
def yJ0_coder_7d493 : MethodName := ⟨RJ0, "coder", "()B"⟩
abbrev cJ0_isLatin1_aae02 : ByteArray := prog_20_method_154_code
def yJ0_isLatin1_aae02 : MethodName := ⟨RJ0, "isLatin1", "()Z"⟩
abbrev cJ0_checkIndex_df160 : ByteArray := prog_20_method_155_code
def yJ0_checkIndex_df160 : MethodName := ⟨RJ0, "checkIndex", "(II)V"⟩
def RJ1 : String := "java/lang/StringLatin1"
def TJ1 : u_T := fun k => match k with
  | _ => ("", "", "", false)
def tyJ1 : Nat → FieldType := fun k => match k with
  | _ => .int
abbrev wsJ10 : List Cond := u_ws RJ1 TJ1 0
theorem nmJ1 : ∀ a, a < 0 → ∀ b, b < 0 → a ≠ b → (TJ1 a).2.1 ≠ (TJ1 b).2.1 := by decide +kernel
theorem tyJ1_ok : ∀ k, k < 0 → parseFieldDescriptor (TJ1 k).2.2.1 = some (tyJ1 k) := by decide +kernel
abbrev cJ1_charAt_3b067 : ByteArray := prog_21_method_2_code
def yJ1_charAt_3b067 : MethodName := ⟨RJ1, "charAt", "([BI)C"⟩
def RJ2 : String := "java/lang/StringUTF16"
def TJ2 : u_T := fun k => match k with
  | _ => ("", "", "", false)
def tyJ2 : Nat → FieldType := fun k => match k with
  | _ => .int
abbrev wsJ20 : List Cond := u_ws RJ2 TJ2 0
theorem nmJ2 : ∀ a, a < 0 → ∀ b, b < 0 → a ≠ b → (TJ2 a).2.1 ≠ (TJ2 b).2.1 := by decide +kernel
theorem tyJ2_ok : ∀ k, k < 0 → parseFieldDescriptor (TJ2 k).2.2.1 = some (tyJ2 k) := by decide +kernel
abbrev cJ2_getChar_3b067 : ByteArray := prog_22_method_5_code
def yJ2_getChar_3b067 : MethodName := ⟨RJ2, "getChar", "([BI)C"⟩
abbrev cJ2_length_9d52b : ByteArray := prog_22_method_6_code
def yJ2_length_9d52b : MethodName := ⟨RJ2, "length", "([B)I"⟩
abbrev cJ2_charAt_3b067 : ByteArray := prog_22_method_83_code
def yJ2_charAt_3b067 : MethodName := ⟨RJ2, "charAt", "([BI)C"⟩
abbrev cJ2_checkIndex_2214a : ByteArray := prog_22_method_91_code
def yJ2_checkIndex_2214a : MethodName := ⟨RJ2, "checkIndex", "(I[B)V"⟩
def RJ10 : String := "java/lang/System"
def TJ10 : u_T := fun k => match k with
  | _ => ("", "", "", false)
def tyJ10 : Nat → FieldType := fun k => match k with
  | _ => .int
abbrev wsJ100 : List Cond := u_ws RJ10 TJ10 0
theorem nmJ10 : ∀ a, a < 0 → ∀ b, b < 0 → a ≠ b → (TJ10 a).2.1 ≠ (TJ10 b).2.1 := by decide +kernel
theorem tyJ10_ok : ∀ k, k < 0 → parseFieldDescriptor (TJ10 k).2.2.1 = some (tyJ10 k) := by decide +kernel
def RJ7 : String := "java/util/Arrays"
def TJ7 : u_T := fun k => match k with
  | _ => ("", "", "", false)
def tyJ7 : Nat → FieldType := fun k => match k with
  | _ => .int
abbrev wsJ70 : List Cond := u_ws RJ7 TJ7 0
theorem nmJ7 : ∀ a, a < 0 → ∀ b, b < 0 → a ≠ b → (TJ7 a).2.1 ≠ (TJ7 b).2.1 := by decide +kernel
theorem tyJ7_ok : ∀ k, k < 0 → parseFieldDescriptor (TJ7 k).2.2.1 = some (tyJ7 k) := by decide +kernel
abbrev cJ7_fill_d0a16 : ByteArray := prog_25_method_101_code
def yJ7_fill_d0a16 : MethodName := ⟨RJ7, "fill", "([JJ)V"⟩
abbrev cJ7_fill_53178 : ByteArray := prog_25_method_103_code
def yJ7_fill_53178 : MethodName := ⟨RJ7, "fill", "([II)V"⟩
def RJ3 : String := "jdk/internal/util/Preconditions"
def TJ3 : u_T := fun k => match k with
  | _ => ("", "", "", false)
def tyJ3 : Nat → FieldType := fun k => match k with
  | _ => .int
abbrev wsJ30 : List Cond := u_ws RJ3 TJ3 0
theorem nmJ3 : ∀ a, a < 0 → ∀ b, b < 0 → a ≠ b → (TJ3 a).2.1 ≠ (TJ3 b).2.1 := by decide +kernel
theorem tyJ3_ok : ∀ k, k < 0 → parseFieldDescriptor (TJ3 k).2.2.1 = some (tyJ3 k) := by decide +kernel
abbrev cJ3_checkIndex_8e157 : ByteArray := prog_27_method_11_code
def yJ3_checkIndex_8e157 : MethodName := ⟨RJ3, "checkIndex", "(IILjava/util/function/BiFunction;)I"⟩
def RL : String := "MineAirLaw"
abbrev cL_led : ByteArray := method_3_code
def yL_led : MethodName := ⟨RL, "led", "(LMineAir;II[J)I"⟩
abbrev cL_law : ByteArray := code
def yL_law : MethodName := ⟨RL, "law", "([I)Z"⟩
abbrev classes : List vw_C := [(RX0, TX0, 13), (RX1, TX1, 8), (RX2, TX2, 12), (RX3, TX3, 13), (RX4, TX4, 6), (RX5, TX5, 6), (RX6, TX6, 11), (RX7, TX7, 15), (RX8, TX8, 4), (RX9, TX9, 8), (RX10, TX10, 8), (RX11, TX11, 12), (RX12, TX12, 28), (RX13, TX13, 8), (RX14, TX14, 51)]
theorem iX0 : ∀ w ∈ u_ws RX0 TX0 13, w ∈ wG := fun w h => List.mem_filter.mpr ⟨(by decide +kernel : ∀ w ∈ u_ws RX0 TX0 13, w ∈ lw_tbl) w h, (by decide +kernel : ∀ w ∈ u_ws RX0 TX0 13, goodWord w = true) w h⟩
theorem dfX0 : ∀ j, j < 13 → defaultValue (tyX0 j) = vp_V [.int 0, .null, .null, .null, .null, .null, .null, .null, .null, .null, .int 0, .int 0, .null] j := by decide +kernel
theorem iX1 : ∀ w ∈ u_ws RX1 TX1 8, w ∈ wG := fun w h => List.mem_filter.mpr ⟨(by decide +kernel : ∀ w ∈ u_ws RX1 TX1 8, w ∈ lw_tbl) w h, (by decide +kernel : ∀ w ∈ u_ws RX1 TX1 8, goodWord w = true) w h⟩
theorem dfX1 : ∀ j, j < 8 → defaultValue (tyX1 j) = vp_V [.int 0, .null, .null, .null, .null, .null, .null, .null] j := by decide +kernel
theorem iX2 : ∀ w ∈ u_ws RX2 TX2 12, w ∈ wG := fun w h => List.mem_filter.mpr ⟨(by decide +kernel : ∀ w ∈ u_ws RX2 TX2 12, w ∈ lw_tbl) w h, (by decide +kernel : ∀ w ∈ u_ws RX2 TX2 12, goodWord w = true) w h⟩
theorem dfX2 : ∀ j, j < 12 → defaultValue (tyX2 j) = vp_V [.null, .null, .null, .null, .null, .null, .null, .null, .null, .null, .null, .null] j := by decide +kernel
theorem iX3 : ∀ w ∈ u_ws RX3 TX3 13, w ∈ wG := fun w h => List.mem_filter.mpr ⟨(by decide +kernel : ∀ w ∈ u_ws RX3 TX3 13, w ∈ lw_tbl) w h, (by decide +kernel : ∀ w ∈ u_ws RX3 TX3 13, goodWord w = true) w h⟩
theorem dfX3 : ∀ j, j < 13 → defaultValue (tyX3 j) = vp_V [.int 0, .null, .int 0, .null, .null, .int 0, .null, .null, .null, .int 0, .null, .null, .null] j := by decide +kernel
theorem iX4 : ∀ w ∈ u_ws RX4 TX4 6, w ∈ wG := fun w h => List.mem_filter.mpr ⟨(by decide +kernel : ∀ w ∈ u_ws RX4 TX4 6, w ∈ lw_tbl) w h, (by decide +kernel : ∀ w ∈ u_ws RX4 TX4 6, goodWord w = true) w h⟩
theorem dfX4 : ∀ j, j < 6 → defaultValue (tyX4 j) = vp_V [.null, .null, .null, .null, .int 0, .int 0] j := by decide +kernel
theorem iX5 : ∀ w ∈ u_ws RX5 TX5 6, w ∈ wG := fun w h => List.mem_filter.mpr ⟨(by decide +kernel : ∀ w ∈ u_ws RX5 TX5 6, w ∈ lw_tbl) w h, (by decide +kernel : ∀ w ∈ u_ws RX5 TX5 6, goodWord w = true) w h⟩
theorem dfX5 : ∀ j, j < 6 → defaultValue (tyX5 j) = vp_V [.null, .int 0, .null, .null, .null, .null] j := by decide +kernel
theorem iX6 : ∀ w ∈ u_ws RX6 TX6 11, w ∈ wG := fun w h => List.mem_filter.mpr ⟨(by decide +kernel : ∀ w ∈ u_ws RX6 TX6 11, w ∈ lw_tbl) w h, (by decide +kernel : ∀ w ∈ u_ws RX6 TX6 11, goodWord w = true) w h⟩
theorem dfX6 : ∀ j, j < 11 → defaultValue (tyX6 j) = vp_V [.int 0, .null, .null, .null, .null, .null, .null, .null, .null, .int 0, .int 0] j := by decide +kernel
theorem iX7 : ∀ w ∈ u_ws RX7 TX7 15, w ∈ wG := fun w h => List.mem_filter.mpr ⟨(by decide +kernel : ∀ w ∈ u_ws RX7 TX7 15, w ∈ lw_tbl) w h, (by decide +kernel : ∀ w ∈ u_ws RX7 TX7 15, goodWord w = true) w h⟩
theorem dfX7 : ∀ j, j < 15 → defaultValue (tyX7 j) = vp_V [.null, .int 0, .int 0, .int 0, .null, .null, .null, .null, .int 0, .null, .int 0, .int 0, .int 0, .int 0, .long 0] j := by decide +kernel
theorem iX8 : ∀ w ∈ u_ws RX8 TX8 4, w ∈ wG := fun w h => List.mem_filter.mpr ⟨(by decide +kernel : ∀ w ∈ u_ws RX8 TX8 4, w ∈ lw_tbl) w h, (by decide +kernel : ∀ w ∈ u_ws RX8 TX8 4, goodWord w = true) w h⟩
theorem dfX8 : ∀ j, j < 4 → defaultValue (tyX8 j) = vp_V [.int 0, .null, .null, .null] j := by decide +kernel
theorem iX9 : ∀ w ∈ u_ws RX9 TX9 8, w ∈ wG := fun w h => List.mem_filter.mpr ⟨(by decide +kernel : ∀ w ∈ u_ws RX9 TX9 8, w ∈ lw_tbl) w h, (by decide +kernel : ∀ w ∈ u_ws RX9 TX9 8, goodWord w = true) w h⟩
theorem dfX9 : ∀ j, j < 8 → defaultValue (tyX9 j) = vp_V [.null, .null, .null, .null, .int 0, .int 0, .int 0, .null] j := by decide +kernel
theorem iX10 : ∀ w ∈ u_ws RX10 TX10 8, w ∈ wG := fun w h => List.mem_filter.mpr ⟨(by decide +kernel : ∀ w ∈ u_ws RX10 TX10 8, w ∈ lw_tbl) w h, (by decide +kernel : ∀ w ∈ u_ws RX10 TX10 8, goodWord w = true) w h⟩
theorem dfX10 : ∀ j, j < 8 → defaultValue (tyX10 j) = vp_V [.int 0, .int 0, .null, .null, .null, .null, .null, .null] j := by decide +kernel
theorem iX11 : ∀ w ∈ u_ws RX11 TX11 12, w ∈ wG := fun w h => List.mem_filter.mpr ⟨(by decide +kernel : ∀ w ∈ u_ws RX11 TX11 12, w ∈ lw_tbl) w h, (by decide +kernel : ∀ w ∈ u_ws RX11 TX11 12, goodWord w = true) w h⟩
theorem dfX11 : ∀ j, j < 12 → defaultValue (tyX11 j) = vp_V [.null, .null, .null, .null, .null, .null, .null, .null, .null, .int 0, .int 0, .int 0] j := by decide +kernel
theorem iX12 : ∀ w ∈ u_ws RX12 TX12 28, w ∈ wG := fun w h => List.mem_filter.mpr ⟨(by decide +kernel : ∀ w ∈ u_ws RX12 TX12 28, w ∈ lw_tbl) w h, (by decide +kernel : ∀ w ∈ u_ws RX12 TX12 28, goodWord w = true) w h⟩
theorem dfX12 : ∀ j, j < 28 → defaultValue (tyX12 j) = vp_V [.int 0, .int 0, .int 0, .int 0, .int 0, .int 0, .int 0, .null, .null, .null, .null, .null, .null, .null, .null, .null, .null, .null, .null, .null, .null, .null, .null, .null, .null, .null, .null, .null] j := by decide +kernel
theorem iX13 : ∀ w ∈ u_ws RX13 TX13 8, w ∈ wG := fun w h => List.mem_filter.mpr ⟨(by decide +kernel : ∀ w ∈ u_ws RX13 TX13 8, w ∈ lw_tbl) w h, (by decide +kernel : ∀ w ∈ u_ws RX13 TX13 8, goodWord w = true) w h⟩
theorem dfX13 : ∀ j, j < 8 → defaultValue (tyX13 j) = vp_V [.null, .null, .null, .null, .null, .int 0, .int 0, .int 0] j := by decide +kernel
theorem iX14 : ∀ w ∈ u_ws RX14 TX14 51, w ∈ wG := fun w h => List.mem_filter.mpr ⟨(by decide +kernel : ∀ w ∈ u_ws RX14 TX14 51, w ∈ lw_tbl) w h, (by decide +kernel : ∀ w ∈ u_ws RX14 TX14 51, goodWord w = true) w h⟩
theorem dfX14 : ∀ j, j < 51 → defaultValue (tyX14 j) = vp_V [.int 0, .null, .int 0, .int 0, .int 0, .null, .null, .null, .null, .int 0, .int 0, .int 0, .int 0, .int 0, .int 0, .int 0, .long 0, .null, .null, .null, .null, .int 0, .int 0, .int 0, .null, .null, .null, .null, .null, .null, .null, .null, .null, .null, .null, .null, .int 0, .null, .int 0, .null, .null, .null, .null, .null, .null, .null, .int 0, .null, .null, .null, .null] j := by decide +kernel
end
section
theorem wd_objInit : Cond.code objectInit ⟨#[0xb1]⟩ 1 none ∈ wG := wG_of 147 (by decide +kernel) (by decide +kernel)
theorem wd_0 : Cond.selects "MineAir" (⟨"MineAir", "refuse", "(I)I"⟩ : MethodName) (⟨"MineAir", "refuse", "(I)I"⟩ : MethodName) ∈ wG := wG_of 0 (by decide +kernel) (by decide +kernel)
theorem wd_23 : Cond.selects "MineAir" (⟨"MineAir", "forgetVerdicts", "()V"⟩ : MethodName) (⟨"MineAir", "forgetVerdicts", "()V"⟩ : MethodName) ∈ wG := wG_of 23 (by decide +kernel) (by decide +kernel)
theorem wd_25 : Cond.selects "MineAir" (⟨"MineAir", "isWay", "(I)Z"⟩ : MethodName) (⟨"MineAir", "isWay", "(I)Z"⟩ : MethodName) ∈ wG := wG_of 25 (by decide +kernel) (by decide +kernel)
theorem wd_26 : Cond.selects "MineAir" (⟨"MineAir", "isDoor", "(I)Z"⟩ : MethodName) (⟨"MineAir", "isDoor", "(I)Z"⟩ : MethodName) ∈ wG := wG_of 26 (by decide +kernel) (by decide +kernel)
theorem wd_27 : Cond.selects "MineAir" (⟨"MineAir", "deny", "(I)Z"⟩ : MethodName) (⟨"MineAir", "deny", "(I)Z"⟩ : MethodName) ∈ wG := wG_of 27 (by decide +kernel) (by decide +kernel)
theorem wd_28 : Cond.selects "MineAir" (⟨"MineAir", "allow", "()Z"⟩ : MethodName) (⟨"MineAir", "allow", "()Z"⟩ : MethodName) ∈ wG := wG_of 28 (by decide +kernel) (by decide +kernel)
theorem wd_29 : Cond.selects "MineAir" (⟨"MineAir", "isFan", "(I)Z"⟩ : MethodName) (⟨"MineAir", "isFan", "(I)Z"⟩ : MethodName) ∈ wG := wG_of 29 (by decide +kernel) (by decide +kernel)
theorem wd_39 : Cond.selects "MineAir" (⟨"MineAir", "isBooked", "()Z"⟩ : MethodName) (⟨"MineAir", "isBooked", "()Z"⟩ : MethodName) ∈ wG := wG_of 39 (by decide +kernel) (by decide +kernel)
theorem wd_49 : Cond.selects "MineAir" (⟨"MineAir", "isMan", "(I)Z"⟩ : MethodName) (⟨"MineAir", "isMan", "(I)Z"⟩ : MethodName) ∈ wG := wG_of 49 (by decide +kernel) (by decide +kernel)
theorem wd_52 : Cond.selects "MineAir" (⟨"MineAir", "isTarget", "(II)Z"⟩ : MethodName) (⟨"MineAir", "isTarget", "(II)Z"⟩ : MethodName) ∈ wG := wG_of 52 (by decide +kernel) (by decide +kernel)
theorem wd_114 : Cond.initialized "MineAir" ∈ wG := wG_of 114 (by decide +kernel) (by decide +kernel)
theorem wd_117 : Cond.initialized "MineAir$Reader" ∈ wG := wG_of 117 (by decide +kernel) (by decide +kernel)
theorem wd_123 : Cond.initialized "MineAir$Plan" ∈ wG := wG_of 123 (by decide +kernel) (by decide +kernel)
theorem wd_163 : Cond.fieldLink "MineAir" 317 "MineAir$Gear" "doors" "I" ∈ wG := wG_of 163 (by decide +kernel) (by decide +kernel)
theorem wd_171 : Cond.fieldLink "MineAir" 322 "MineAir$Gear" "pairs" "I" ∈ wG := wG_of 171 (by decide +kernel) (by decide +kernel)
theorem wd_182 : Cond.fieldLink "MineAir" 325 "MineAir$Gear" "fans" "I" ∈ wG := wG_of 182 (by decide +kernel) (by decide +kernel)
theorem wd_197 : Cond.fieldLink "MineAir" 328 "MineAir$Gear" "faces" "I" ∈ wG := wG_of 197 (by decide +kernel) (by decide +kernel)
theorem wd_243 : Cond.fieldLink "MineAir" 121 "MineAir$Book" "ways" "I" ∈ wG := wG_of 243 (by decide +kernel) (by decide +kernel)
theorem wd_287 : Cond.fieldLink "MineAir" 268 "MineAir$Book" "knots" "I" ∈ wG := wG_of 287 (by decide +kernel) (by decide +kernel)
theorem wd_292 : Cond.fieldLink "MineAir" 331 "MineAir$Book" "day" "I" ∈ wG := wG_of 292 (by decide +kernel) (by decide +kernel)
theorem wd_299 : Cond.fieldLink "MineAir" 313 "MineAir$Book" "gear" "LMineAir$Gear;" ∈ wG := wG_of 299 (by decide +kernel) (by decide +kernel)
theorem wd_333 : Cond.fieldLink "MineAir$Reader" 9 "MineAir$Reader" "tape" "[I" ∈ wG := wG_of 333 (by decide +kernel) (by decide +kernel)
theorem wd_334 : Cond.fieldLink "MineAir" 79 "MineAir$Reader" "fed" "I" ∈ wG := wG_of 334 (by decide +kernel) (by decide +kernel)
theorem wd_335 : Cond.fieldLink "MineAir$Reader" 32 "MineAir$Reader" "fed" "I" ∈ wG := wG_of 335 (by decide +kernel) (by decide +kernel)
theorem wd_407 : Cond.fieldLink "MineAir" 194 "MineAir$State" "mark" "I" ∈ wG := wG_of 407 (by decide +kernel) (by decide +kernel)
theorem wd_541 : Cond.fieldLink "MineAir" 337 "MineAir$Trials" "settingKnown" "Z" ∈ wG := wG_of 541 (by decide +kernel) (by decide +kernel)
theorem wd_573 : Cond.fieldLink "MineAir" 114 "MineAir$Plan" "count" "I" ∈ wG := wG_of 573 (by decide +kernel) (by decide +kernel)
theorem wd_583 : Cond.fieldLink "MineAir$Plan" 38 "MineAir$Plan" "found" "I" ∈ wG := wG_of 583 (by decide +kernel) (by decide +kernel)
theorem wd_614 : Cond.fieldLink "MineAir" 111 "MineAir$Flight" "men" "I" ∈ wG := wG_of 614 (by decide +kernel) (by decide +kernel)
theorem wd_650 : Cond.fieldLink "MineAir" 117 "MineAir$Readings" "count" "I" ∈ wG := wG_of 650 (by decide +kernel) (by decide +kernel)
theorem wd_670 : Cond.fieldLink "MineAir" 24 "MineAir" "reader" "LMineAir$Reader;" ∈ wG := wG_of 670 (by decide +kernel) (by decide +kernel)
theorem wd_672 : Cond.fieldLink "MineAir" 16 "MineAir" "book" "LMineAir$Book;" ∈ wG := wG_of 672 (by decide +kernel) (by decide +kernel)
theorem wd_673 : Cond.fieldLink "MineAir" 31 "MineAir" "state" "LMineAir$State;" ∈ wG := wG_of 673 (by decide +kernel) (by decide +kernel)
theorem wd_675 : Cond.fieldLink "MineAir" 49 "MineAir" "trials" "LMineAir$Trials;" ∈ wG := wG_of 675 (by decide +kernel) (by decide +kernel)
theorem wd_676 : Cond.fieldLink "MineAir" 58 "MineAir" "plan" "LMineAir$Plan;" ∈ wG := wG_of 676 (by decide +kernel) (by decide +kernel)
theorem wd_677 : Cond.fieldLink "MineAir" 65 "MineAir" "flight" "LMineAir$Flight;" ∈ wG := wG_of 677 (by decide +kernel) (by decide +kernel)
theorem wd_678 : Cond.fieldLink "MineAir" 72 "MineAir" "readings" "LMineAir$Readings;" ∈ wG := wG_of 678 (by decide +kernel) (by decide +kernel)
theorem wd_679 : Cond.fieldLink "MineAir" 127 "MineAir" "trouble" "I" ∈ wG := wG_of 679 (by decide +kernel) (by decide +kernel)
theorem wd_680 : Cond.fieldLink "MineAir" 98 "MineAir" "fault" "I" ∈ wG := wG_of 680 (by decide +kernel) (by decide +kernel)
theorem wd_711 : Cond.methodLink "MineAir" 83 (⟨"MineAir$Reader", "append", "(I)V"⟩ : MethodName) ∈ wG := wG_of 711 (by decide +kernel) (by decide +kernel)
theorem wd_712 : Cond.instanceMethod (⟨"MineAir$Reader", "append", "(I)V"⟩ : MethodName) ∈ wG := wG_of 712 (by decide +kernel) (by decide +kernel)
theorem wd_713 : Cond.selects "MineAir$Reader" (⟨"MineAir$Reader", "append", "(I)V"⟩ : MethodName) (⟨"MineAir$Reader", "append", "(I)V"⟩ : MethodName) ∈ wG := wG_of 713 (by decide +kernel) (by decide +kernel)
theorem wd_714 : Cond.code (⟨"MineAir$Reader", "append", "(I)V"⟩ : MethodName) prog_9_method_2_code 3 (Option.none : Option Jvm.ClassFile.FieldType) ∈ wG := wG_of 714 (by decide +kernel) (by decide +kernel)
theorem wd_719 : Cond.methodLink "MineAir" 87 (⟨"MineAir", "refuse", "(I)I"⟩ : MethodName) ∈ wG := wG_of 719 (by decide +kernel) (by decide +kernel)
theorem wd_721 : Cond.instanceMethod (⟨"MineAir", "refuse", "(I)I"⟩ : MethodName) ∈ wG := wG_of 721 (by decide +kernel) (by decide +kernel)
theorem wd_722 : Cond.code (⟨"MineAir", "refuse", "(I)I"⟩ : MethodName) prog_1_method_32_code 2 (Option.some Jvm.ClassFile.FieldType.int) ∈ wG := wG_of 722 (by decide +kernel) (by decide +kernel)
theorem wd_922 : Cond.methodLink "MineAir" 197 (⟨"MineAir", "forgetVerdicts", "()V"⟩ : MethodName) ∈ wG := wG_of 922 (by decide +kernel) (by decide +kernel)
theorem wd_924 : Cond.instanceMethod (⟨"MineAir", "forgetVerdicts", "()V"⟩ : MethodName) ∈ wG := wG_of 924 (by decide +kernel) (by decide +kernel)
theorem wd_925 : Cond.code (⟨"MineAir", "forgetVerdicts", "()V"⟩ : MethodName) prog_1_method_37_code 1 (Option.none : Option Jvm.ClassFile.FieldType) ∈ wG := wG_of 925 (by decide +kernel) (by decide +kernel)
theorem wd_926 : Cond.methodLink "MineAir" 340 (⟨"MineAir$Plan", "forget", "()V"⟩ : MethodName) ∈ wG := wG_of 926 (by decide +kernel) (by decide +kernel)
theorem wd_927 : Cond.instanceMethod (⟨"MineAir$Plan", "forget", "()V"⟩ : MethodName) ∈ wG := wG_of 927 (by decide +kernel) (by decide +kernel)
theorem wd_928 : Cond.selects "MineAir$Plan" (⟨"MineAir$Plan", "forget", "()V"⟩ : MethodName) (⟨"MineAir$Plan", "forget", "()V"⟩ : MethodName) ∈ wG := wG_of 928 (by decide +kernel) (by decide +kernel)
theorem wd_929 : Cond.code (⟨"MineAir$Plan", "forget", "()V"⟩ : MethodName) prog_8_method_2_code 1 (Option.none : Option Jvm.ClassFile.FieldType) ∈ wG := wG_of 929 (by decide +kernel) (by decide +kernel)
theorem wd_947 : Cond.methodLink "MineAir" 130 (⟨"MineAir", "isWay", "(I)Z"⟩ : MethodName) ∈ wG := wG_of 947 (by decide +kernel) (by decide +kernel)
theorem wd_949 : Cond.instanceMethod (⟨"MineAir", "isWay", "(I)Z"⟩ : MethodName) ∈ wG := wG_of 949 (by decide +kernel) (by decide +kernel)
theorem wd_950 : Cond.code (⟨"MineAir", "isWay", "(I)Z"⟩ : MethodName) prog_1_method_40_code 2 (Option.some Jvm.ClassFile.FieldType.boolean) ∈ wG := wG_of 950 (by decide +kernel) (by decide +kernel)
theorem wd_951 : Cond.constant "MineAir" 133 (-2147483648) ∈ wG := wG_of 951 (by decide +kernel) (by decide +kernel)
theorem wd_956 : Cond.methodLink "MineAir" 156 (⟨"MineAir", "orNotSo", "(I)I"⟩ : MethodName) ∈ wG := wG_of 956 (by decide +kernel) (by decide +kernel)
theorem wd_957 : Cond.static (⟨"MineAir", "orNotSo", "(I)I"⟩ : MethodName) ∈ wG := wG_of 957 (by decide +kernel) (by decide +kernel)
theorem wd_958 : Cond.code (⟨"MineAir", "orNotSo", "(I)I"⟩ : MethodName) prog_1_method_46_code 1 (Option.some Jvm.ClassFile.FieldType.int) ∈ wG := wG_of 958 (by decide +kernel) (by decide +kernel)
theorem wd_963 : Cond.methodLink "MineAir" 172 (⟨"MineAir", "isDoor", "(I)Z"⟩ : MethodName) ∈ wG := wG_of 963 (by decide +kernel) (by decide +kernel)
theorem wd_965 : Cond.instanceMethod (⟨"MineAir", "isDoor", "(I)Z"⟩ : MethodName) ∈ wG := wG_of 965 (by decide +kernel) (by decide +kernel)
theorem wd_966 : Cond.code (⟨"MineAir", "isDoor", "(I)Z"⟩ : MethodName) prog_1_method_41_code 2 (Option.some Jvm.ClassFile.FieldType.boolean) ∈ wG := wG_of 966 (by decide +kernel) (by decide +kernel)
theorem wd_967 : Cond.methodLink "MineAir" 175 (⟨"MineAir", "deny", "(I)Z"⟩ : MethodName) ∈ wG := wG_of 967 (by decide +kernel) (by decide +kernel)
theorem wd_969 : Cond.instanceMethod (⟨"MineAir", "deny", "(I)Z"⟩ : MethodName) ∈ wG := wG_of 969 (by decide +kernel) (by decide +kernel)
theorem wd_970 : Cond.code (⟨"MineAir", "deny", "(I)Z"⟩ : MethodName) prog_1_method_34_code 2 (Option.some Jvm.ClassFile.FieldType.boolean) ∈ wG := wG_of 970 (by decide +kernel) (by decide +kernel)
theorem wd_971 : Cond.methodLink "MineAir" 181 (⟨"MineAir", "allow", "()Z"⟩ : MethodName) ∈ wG := wG_of 971 (by decide +kernel) (by decide +kernel)
theorem wd_973 : Cond.instanceMethod (⟨"MineAir", "allow", "()Z"⟩ : MethodName) ∈ wG := wG_of 973 (by decide +kernel) (by decide +kernel)
theorem wd_974 : Cond.code (⟨"MineAir", "allow", "()Z"⟩ : MethodName) prog_1_method_35_code 1 (Option.some Jvm.ClassFile.FieldType.boolean) ∈ wG := wG_of 974 (by decide +kernel) (by decide +kernel)
theorem wd_979 : Cond.methodLink "MineAir" 185 (⟨"MineAir", "isFan", "(I)Z"⟩ : MethodName) ∈ wG := wG_of 979 (by decide +kernel) (by decide +kernel)
theorem wd_981 : Cond.instanceMethod (⟨"MineAir", "isFan", "(I)Z"⟩ : MethodName) ∈ wG := wG_of 981 (by decide +kernel) (by decide +kernel)
theorem wd_982 : Cond.code (⟨"MineAir", "isFan", "(I)Z"⟩ : MethodName) prog_1_method_42_code 2 (Option.some Jvm.ClassFile.FieldType.boolean) ∈ wG := wG_of 982 (by decide +kernel) (by decide +kernel)
theorem wd_1065 : Cond.methodLink "MineAir" 212 (⟨"MineAir", "isBooked", "()Z"⟩ : MethodName) ∈ wG := wG_of 1065 (by decide +kernel) (by decide +kernel)
theorem wd_1067 : Cond.instanceMethod (⟨"MineAir", "isBooked", "()Z"⟩ : MethodName) ∈ wG := wG_of 1067 (by decide +kernel) (by decide +kernel)
theorem wd_1068 : Cond.code (⟨"MineAir", "isBooked", "()Z"⟩ : MethodName) prog_1_method_39_code 1 (Option.some Jvm.ClassFile.FieldType.boolean) ∈ wG := wG_of 1068 (by decide +kernel) (by decide +kernel)
theorem wd_1242 : Cond.methodLink "MineAir" 274 (⟨"MineAir", "isMan", "(I)Z"⟩ : MethodName) ∈ wG := wG_of 1242 (by decide +kernel) (by decide +kernel)
theorem wd_1244 : Cond.instanceMethod (⟨"MineAir", "isMan", "(I)Z"⟩ : MethodName) ∈ wG := wG_of 1244 (by decide +kernel) (by decide +kernel)
theorem wd_1245 : Cond.code (⟨"MineAir", "isMan", "(I)Z"⟩ : MethodName) prog_1_method_43_code 2 (Option.some Jvm.ClassFile.FieldType.boolean) ∈ wG := wG_of 1245 (by decide +kernel) (by decide +kernel)
theorem wd_1262 : Cond.methodLink "MineAir" 280 (⟨"MineAir", "isTarget", "(II)Z"⟩ : MethodName) ∈ wG := wG_of 1262 (by decide +kernel) (by decide +kernel)
theorem wd_1264 : Cond.instanceMethod (⟨"MineAir", "isTarget", "(II)Z"⟩ : MethodName) ∈ wG := wG_of 1264 (by decide +kernel) (by decide +kernel)
theorem wd_1265 : Cond.code (⟨"MineAir", "isTarget", "(II)Z"⟩ : MethodName) prog_1_method_44_code 3 (Option.some Jvm.ClassFile.FieldType.boolean) ∈ wG := wG_of 1265 (by decide +kernel) (by decide +kernel)
theorem dX11_accept_0 : decode cX11_accept 0 = .ok (.aload_n 0, 1) := by decide +kernel
theorem dX11_accept_1 : decode cX11_accept 1 = .ok (.iconst 0, 1) := by decide +kernel
theorem dX11_accept_2 : decode cX11_accept 2 = .ok (.putfield 127, 3) := by decide +kernel
theorem dX11_accept_5 : decode cX11_accept 5 = .ok (.iload_n 1, 1) := by decide +kernel
theorem dX11_accept_6 : decode cX11_accept 6 = .ok (.ireturn, 1) := by decide +kernel
theorem dX11_air_0 : decode cX11_air 0 = .ok (.aload_n 0, 1) := by decide +kernel
theorem dX11_air_1 : decode cX11_air 1 = .ok (.iload_n 1, 1) := by decide +kernel
theorem dX11_air_2 : decode cX11_air 2 = .ok (.invokevirtual 130, 3) := by decide +kernel
theorem dX11_air_5 : decode cX11_air 5 = .ok (.ifCond .ne 6, 3) := by decide +kernel
theorem dX11_air_8 : decode cX11_air 8 = .ok (.bipush (-100), 2) := by decide +kernel
theorem dX11_air_10 : decode cX11_air 10 = .ok (.ireturn, 1) := by decide +kernel
theorem dX11_allow_0 : decode cX11_allow 0 = .ok (.aload_n 0, 1) := by decide +kernel
theorem dX11_allow_1 : decode cX11_allow 1 = .ok (.iconst 0, 1) := by decide +kernel
theorem dX11_allow_2 : decode cX11_allow 2 = .ok (.putfield 127, 3) := by decide +kernel
theorem dX11_allow_5 : decode cX11_allow 5 = .ok (.iconst 1, 1) := by decide +kernel
theorem dX11_allow_6 : decode cX11_allow 6 = .ok (.ireturn, 1) := by decide +kernel
theorem dX11_change_0 : decode cX11_change 0 = .ok (.aload_n 0, 1) := by decide +kernel
theorem dX11_change_1 : decode cX11_change 1 = .ok (.iload_n 1, 1) := by decide +kernel
theorem dX11_change_2 : decode cX11_change 2 = .ok (.iload_n 2, 1) := by decide +kernel
theorem dX11_change_3 : decode cX11_change 3 = .ok (.invokevirtual 280, 3) := by decide +kernel
theorem dX11_change_6 : decode cX11_change 6 = .ok (.ifCond .ne 9, 3) := by decide +kernel
theorem dX11_change_9 : decode cX11_change 9 = .ok (.aload_n 0, 1) := by decide +kernel
theorem dX11_change_10 : decode cX11_change 10 = .ok (.iconst 1, 1) := by decide +kernel
theorem dX11_change_11 : decode cX11_change 11 = .ok (.invokevirtual 87, 3) := by decide +kernel
theorem dX11_change_14 : decode cX11_change 14 = .ok (.ireturn, 1) := by decide +kernel
theorem dX11_cost_0 : decode cX11_cost 0 = .ok (.aload_n 0, 1) := by decide +kernel
theorem dX11_cost_1 : decode cX11_cost 1 = .ok (.invokevirtual 212, 3) := by decide +kernel
theorem dX11_cost_4 : decode cX11_cost 4 = .ok (.ifCond .ne 5, 3) := by decide +kernel
theorem dX11_cost_7 : decode cX11_cost 7 = .ok (.lconst 0, 1) := by decide +kernel
theorem dX11_cost_8 : decode cX11_cost 8 = .ok (.lreturn, 1) := by decide +kernel
theorem dX11_count_0 : decode cX11_count 0 = .ok (.iload_n 1, 1) := by decide +kernel
theorem dX11_count_1 : decode cX11_count 1 = .ok (.tableswitch 162 0 10 #[59, 67, 75, 86, 97, 108, 119, 127, 135, 143, 154], 59) := by decide +kernel
theorem dX11_count_60 : decode cX11_count 60 = .ok (.aload_n 0, 1) := by decide +kernel
theorem dX11_count_61 : decode cX11_count 61 = .ok (.getfield 16, 3) := by decide +kernel
theorem dX11_count_64 : decode cX11_count 64 = .ok (.getfield 121, 3) := by decide +kernel
theorem dX11_count_67 : decode cX11_count 67 = .ok (.ireturn, 1) := by decide +kernel
theorem dX11_count_68 : decode cX11_count 68 = .ok (.aload_n 0, 1) := by decide +kernel
theorem dX11_count_69 : decode cX11_count 69 = .ok (.getfield 16, 3) := by decide +kernel
theorem dX11_count_72 : decode cX11_count 72 = .ok (.getfield 268, 3) := by decide +kernel
theorem dX11_count_75 : decode cX11_count 75 = .ok (.ireturn, 1) := by decide +kernel
theorem dX11_count_76 : decode cX11_count 76 = .ok (.aload_n 0, 1) := by decide +kernel
theorem dX11_count_77 : decode cX11_count 77 = .ok (.getfield 16, 3) := by decide +kernel
theorem dX11_count_80 : decode cX11_count 80 = .ok (.getfield 313, 3) := by decide +kernel
theorem dX11_count_83 : decode cX11_count 83 = .ok (.getfield 317, 3) := by decide +kernel
theorem dX11_count_86 : decode cX11_count 86 = .ok (.ireturn, 1) := by decide +kernel
theorem dX11_count_87 : decode cX11_count 87 = .ok (.aload_n 0, 1) := by decide +kernel
theorem dX11_count_88 : decode cX11_count 88 = .ok (.getfield 16, 3) := by decide +kernel
theorem dX11_count_91 : decode cX11_count 91 = .ok (.getfield 313, 3) := by decide +kernel
theorem dX11_count_94 : decode cX11_count 94 = .ok (.getfield 322, 3) := by decide +kernel
theorem dX11_count_97 : decode cX11_count 97 = .ok (.ireturn, 1) := by decide +kernel
theorem dX11_count_98 : decode cX11_count 98 = .ok (.aload_n 0, 1) := by decide +kernel
theorem dX11_count_99 : decode cX11_count 99 = .ok (.getfield 16, 3) := by decide +kernel
theorem dX11_count_102 : decode cX11_count 102 = .ok (.getfield 313, 3) := by decide +kernel
theorem dX11_count_105 : decode cX11_count 105 = .ok (.getfield 325, 3) := by decide +kernel
theorem dX11_count_108 : decode cX11_count 108 = .ok (.ireturn, 1) := by decide +kernel
theorem dX11_count_109 : decode cX11_count 109 = .ok (.aload_n 0, 1) := by decide +kernel
theorem dX11_count_110 : decode cX11_count 110 = .ok (.getfield 16, 3) := by decide +kernel
theorem dX11_count_113 : decode cX11_count 113 = .ok (.getfield 313, 3) := by decide +kernel
theorem dX11_count_116 : decode cX11_count 116 = .ok (.getfield 328, 3) := by decide +kernel
theorem dX11_count_119 : decode cX11_count 119 = .ok (.ireturn, 1) := by decide +kernel
theorem dX11_count_120 : decode cX11_count 120 = .ok (.aload_n 0, 1) := by decide +kernel
theorem dX11_count_121 : decode cX11_count 121 = .ok (.getfield 65, 3) := by decide +kernel
theorem dX11_count_124 : decode cX11_count 124 = .ok (.getfield 111, 3) := by decide +kernel
theorem dX11_count_127 : decode cX11_count 127 = .ok (.ireturn, 1) := by decide +kernel
theorem dX11_count_128 : decode cX11_count 128 = .ok (.aload_n 0, 1) := by decide +kernel
theorem dX11_count_129 : decode cX11_count 129 = .ok (.getfield 58, 3) := by decide +kernel
theorem dX11_count_132 : decode cX11_count 132 = .ok (.getfield 114, 3) := by decide +kernel
theorem dX11_count_135 : decode cX11_count 135 = .ok (.ireturn, 1) := by decide +kernel
theorem dX11_count_136 : decode cX11_count 136 = .ok (.aload_n 0, 1) := by decide +kernel
theorem dX11_count_137 : decode cX11_count 137 = .ok (.getfield 72, 3) := by decide +kernel
theorem dX11_count_140 : decode cX11_count 140 = .ok (.getfield 117, 3) := by decide +kernel
theorem dX11_count_143 : decode cX11_count 143 = .ok (.ireturn, 1) := by decide +kernel
theorem dX11_count_144 : decode cX11_count 144 = .ok (.aload_n 0, 1) := by decide +kernel
theorem dX11_count_145 : decode cX11_count 145 = .ok (.getfield 16, 3) := by decide +kernel
theorem dX11_count_148 : decode cX11_count 148 = .ok (.getfield 331, 3) := by decide +kernel
theorem dX11_count_151 : decode cX11_count 151 = .ok (.invokestatic 156, 3) := by decide +kernel
theorem dX11_count_154 : decode cX11_count 154 = .ok (.ireturn, 1) := by decide +kernel
theorem dX11_count_155 : decode cX11_count 155 = .ok (.aload_n 0, 1) := by decide +kernel
theorem dX11_count_156 : decode cX11_count 156 = .ok (.getfield 24, 3) := by decide +kernel
theorem dX11_count_159 : decode cX11_count 159 = .ok (.getfield 79, 3) := by decide +kernel
theorem dX11_count_162 : decode cX11_count 162 = .ok (.ireturn, 1) := by decide +kernel
theorem dX11_count_163 : decode cX11_count 163 = .ok (.iconst (-1), 1) := by decide +kernel
theorem dX11_count_164 : decode cX11_count 164 = .ok (.ireturn, 1) := by decide +kernel
theorem dX11_deny_0 : decode cX11_deny 0 = .ok (.aload_n 0, 1) := by decide +kernel
theorem dX11_deny_1 : decode cX11_deny 1 = .ok (.iload_n 1, 1) := by decide +kernel
theorem dX11_deny_2 : decode cX11_deny 2 = .ok (.putfield 127, 3) := by decide +kernel
theorem dX11_deny_5 : decode cX11_deny 5 = .ok (.iconst 0, 1) := by decide +kernel
theorem dX11_deny_6 : decode cX11_deny 6 = .ok (.ireturn, 1) := by decide +kernel
theorem dX11_door_0 : decode cX11_door 0 = .ok (.aload_n 0, 1) := by decide +kernel
theorem dX11_door_1 : decode cX11_door 1 = .ok (.iload_n 1, 1) := by decide +kernel
theorem dX11_door_2 : decode cX11_door 2 = .ok (.invokevirtual 172, 3) := by decide +kernel
theorem dX11_door_5 : decode cX11_door 5 = .ok (.ifCond .ne 9, 3) := by decide +kernel
theorem dX11_door_8 : decode cX11_door 8 = .ok (.aload_n 0, 1) := by decide +kernel
theorem dX11_door_9 : decode cX11_door 9 = .ok (.iconst 1, 1) := by decide +kernel
theorem dX11_door_10 : decode cX11_door 10 = .ok (.invokevirtual 175, 3) := by decide +kernel
theorem dX11_door_13 : decode cX11_door 13 = .ok (.ireturn, 1) := by decide +kernel
theorem dX11_failing_0 : decode cX11_failing 0 = .ok (.aload_n 0, 1) := by decide +kernel
theorem dX11_failing_1 : decode cX11_failing 1 = .ok (.invokevirtual 212, 3) := by decide +kernel
theorem dX11_failing_4 : decode cX11_failing 4 = .ok (.ifCond .ne 9, 3) := by decide +kernel
theorem dX11_failing_7 : decode cX11_failing 7 = .ok (.aload_n 0, 1) := by decide +kernel
theorem dX11_failing_8 : decode cX11_failing 8 = .ok (.iconst 1, 1) := by decide +kernel
theorem dX11_failing_9 : decode cX11_failing 9 = .ok (.invokevirtual 87, 3) := by decide +kernel
theorem dX11_failing_12 : decode cX11_failing 12 = .ok (.ireturn, 1) := by decide +kernel
theorem dX11_fall_0 : decode cX11_fall 0 = .ok (.aload_n 0, 1) := by decide +kernel
theorem dX11_fall_1 : decode cX11_fall 1 = .ok (.iload_n 1, 1) := by decide +kernel
theorem dX11_fall_2 : decode cX11_fall 2 = .ok (.invokevirtual 130, 3) := by decide +kernel
theorem dX11_fall_5 : decode cX11_fall 5 = .ok (.ifCond .ne 9, 3) := by decide +kernel
theorem dX11_fall_8 : decode cX11_fall 8 = .ok (.aload_n 0, 1) := by decide +kernel
theorem dX11_fall_9 : decode cX11_fall 9 = .ok (.iconst 1, 1) := by decide +kernel
theorem dX11_fall_10 : decode cX11_fall 10 = .ok (.invokevirtual 175, 3) := by decide +kernel
theorem dX11_fall_13 : decode cX11_fall 13 = .ok (.ireturn, 1) := by decide +kernel
theorem dX11_fault_0 : decode cX11_fault 0 = .ok (.aload_n 0, 1) := by decide +kernel
theorem dX11_fault_1 : decode cX11_fault 1 = .ok (.getfield 98, 3) := by decide +kernel
theorem dX11_fault_4 : decode cX11_fault 4 = .ok (.ireturn, 1) := by decide +kernel
theorem dX11_feed_0 : decode cX11_feed 0 = .ok (.aload_n 0, 1) := by decide +kernel
theorem dX11_feed_1 : decode cX11_feed 1 = .ok (.getfield 24, 3) := by decide +kernel
theorem dX11_feed_4 : decode cX11_feed 4 = .ok (.getfield 79, 3) := by decide +kernel
theorem dX11_feed_7 : decode cX11_feed 7 = .ok (.bipush 20, 2) := by decide +kernel
theorem dX11_feed_9 : decode cX11_feed 9 = .ok (.iadd, 1) := by decide +kernel
theorem dX11_feed_10 : decode cX11_feed 10 = .ok (.sipush 600, 3) := by decide +kernel
theorem dX11_feed_13 : decode cX11_feed 13 = .ok (.if_icmp .le 5, 3) := by decide +kernel
theorem dX11_feed_18 : decode cX11_feed 18 = .ok (.aload_n 0, 1) := by decide +kernel
theorem dX11_feed_19 : decode cX11_feed 19 = .ok (.getfield 24, 3) := by decide +kernel
theorem dX11_feed_22 : decode cX11_feed 22 = .ok (.iload_n 1, 1) := by decide +kernel
theorem dX11_feed_23 : decode cX11_feed 23 = .ok (.invokevirtual 83, 3) := by decide +kernel
theorem dX11_feed_26 : decode cX11_feed 26 = .ok (.aload_n 0, 1) := by decide +kernel
theorem dX11_feed_27 : decode cX11_feed 27 = .ok (.getfield 24, 3) := by decide +kernel
theorem dX11_feed_30 : decode cX11_feed 30 = .ok (.iload_n 2, 1) := by decide +kernel
theorem dX11_feed_31 : decode cX11_feed 31 = .ok (.invokevirtual 83, 3) := by decide +kernel
theorem dX11_feed_34 : decode cX11_feed 34 = .ok (.aload_n 0, 1) := by decide +kernel
theorem dX11_feed_35 : decode cX11_feed 35 = .ok (.getfield 24, 3) := by decide +kernel
theorem dX11_feed_38 : decode cX11_feed 38 = .ok (.iload_n 3, 1) := by decide +kernel
theorem dX11_feed_39 : decode cX11_feed 39 = .ok (.invokevirtual 83, 3) := by decide +kernel
theorem dX11_feed_42 : decode cX11_feed 42 = .ok (.aload_n 0, 1) := by decide +kernel
theorem dX11_feed_43 : decode cX11_feed 43 = .ok (.getfield 24, 3) := by decide +kernel
theorem dX11_feed_46 : decode cX11_feed 46 = .ok (.iload 4, 2) := by decide +kernel
theorem dX11_feed_48 : decode cX11_feed 48 = .ok (.invokevirtual 83, 3) := by decide +kernel
theorem dX11_feed_51 : decode cX11_feed 51 = .ok (.aload_n 0, 1) := by decide +kernel
theorem dX11_feed_52 : decode cX11_feed 52 = .ok (.getfield 24, 3) := by decide +kernel
theorem dX11_feed_55 : decode cX11_feed 55 = .ok (.iload 5, 2) := by decide +kernel
theorem dX11_feed_57 : decode cX11_feed 57 = .ok (.invokevirtual 83, 3) := by decide +kernel
theorem dX11_feed_60 : decode cX11_feed 60 = .ok (.aload_n 0, 1) := by decide +kernel
theorem dX11_feed_61 : decode cX11_feed 61 = .ok (.getfield 24, 3) := by decide +kernel
theorem dX11_feed_64 : decode cX11_feed 64 = .ok (.getfield 79, 3) := by decide +kernel
theorem dX11_feed_67 : decode cX11_feed 67 = .ok (.ireturn, 1) := by decide +kernel
theorem dX11_fire_0 : decode cX11_fire 0 = .ok (.aload_n 0, 1) := by decide +kernel
theorem dX11_fire_1 : decode cX11_fire 1 = .ok (.iload_n 1, 1) := by decide +kernel
theorem dX11_fire_2 : decode cX11_fire 2 = .ok (.invokevirtual 130, 3) := by decide +kernel
theorem dX11_fire_5 : decode cX11_fire 5 = .ok (.ifCond .ne 9, 3) := by decide +kernel
theorem dX11_fire_8 : decode cX11_fire 8 = .ok (.aload_n 0, 1) := by decide +kernel
theorem dX11_fire_9 : decode cX11_fire 9 = .ok (.iconst 1, 1) := by decide +kernel
theorem dX11_fire_10 : decode cX11_fire 10 = .ok (.invokevirtual 175, 3) := by decide +kernel
theorem dX11_fire_13 : decode cX11_fire 13 = .ok (.ireturn, 1) := by decide +kernel
theorem dX11_fits_0 : decode cX11_fits 0 = .ok (.aload_n 0, 1) := by decide +kernel
theorem dX11_fits_1 : decode cX11_fits 1 = .ok (.invokevirtual 212, 3) := by decide +kernel
theorem dX11_fits_4 : decode cX11_fits 4 = .ok (.ifCond .ne 9, 3) := by decide +kernel
theorem dX11_fits_7 : decode cX11_fits 7 = .ok (.aload_n 0, 1) := by decide +kernel
theorem dX11_fits_8 : decode cX11_fits 8 = .ok (.iconst 1, 1) := by decide +kernel
theorem dX11_fits_9 : decode cX11_fits 9 = .ok (.invokevirtual 87, 3) := by decide +kernel
theorem dX11_fits_12 : decode cX11_fits 12 = .ok (.ireturn, 1) := by decide +kernel
theorem dX11_forgetVerdicts_0 : decode cX11_forgetVerdicts 0 = .ok (.aload_n 0, 1) := by decide +kernel
theorem dX11_forgetVerdicts_1 : decode cX11_forgetVerdicts 1 = .ok (.getfield 49, 3) := by decide +kernel
theorem dX11_forgetVerdicts_4 : decode cX11_forgetVerdicts 4 = .ok (.iconst 0, 1) := by decide +kernel
theorem dX11_forgetVerdicts_5 : decode cX11_forgetVerdicts 5 = .ok (.putfield 337, 3) := by decide +kernel
theorem dX11_forgetVerdicts_8 : decode cX11_forgetVerdicts 8 = .ok (.aload_n 0, 1) := by decide +kernel
theorem dX11_forgetVerdicts_9 : decode cX11_forgetVerdicts 9 = .ok (.getfield 58, 3) := by decide +kernel
theorem dX11_forgetVerdicts_12 : decode cX11_forgetVerdicts 12 = .ok (.invokevirtual 340, 3) := by decide +kernel
theorem dX11_forgetVerdicts_15 : decode cX11_forgetVerdicts 15 = .ok (.return_, 1) := by decide +kernel
theorem dX11_gas_0 : decode cX11_gas 0 = .ok (.aload_n 0, 1) := by decide +kernel
theorem dX11_gas_1 : decode cX11_gas 1 = .ok (.iload_n 1, 1) := by decide +kernel
theorem dX11_gas_2 : decode cX11_gas 2 = .ok (.invokevirtual 130, 3) := by decide +kernel
theorem dX11_gas_5 : decode cX11_gas 5 = .ok (.ifCond .ne 9, 3) := by decide +kernel
theorem dX11_gas_8 : decode cX11_gas 8 = .ok (.aload_n 0, 1) := by decide +kernel
theorem dX11_gas_9 : decode cX11_gas 9 = .ok (.iconst 1, 1) := by decide +kernel
theorem dX11_gas_10 : decode cX11_gas 10 = .ok (.invokevirtual 87, 3) := by decide +kernel
theorem dX11_gas_13 : decode cX11_gas 13 = .ok (.ireturn, 1) := by decide +kernel
theorem dX11_isBooked_0 : decode cX11_isBooked 0 = .ok (.aload_n 0, 1) := by decide +kernel
theorem dX11_isBooked_1 : decode cX11_isBooked 1 = .ok (.getfield 16, 3) := by decide +kernel
theorem dX11_isBooked_4 : decode cX11_isBooked 4 = .ok (.getfield 121, 3) := by decide +kernel
theorem dX11_isBooked_7 : decode cX11_isBooked 7 = .ok (.ifCond .le 7, 3) := by decide +kernel
theorem dX11_isBooked_14 : decode cX11_isBooked 14 = .ok (.iconst 0, 1) := by decide +kernel
theorem dX11_isBooked_15 : decode cX11_isBooked 15 = .ok (.ireturn, 1) := by decide +kernel
theorem dX11_isDoor_0 : decode cX11_isDoor 0 = .ok (.iload_n 1, 1) := by decide +kernel
theorem dX11_isDoor_1 : decode cX11_isDoor 1 = .ok (.ifCond .lt 21, 3) := by decide +kernel
theorem dX11_isDoor_4 : decode cX11_isDoor 4 = .ok (.iload_n 1, 1) := by decide +kernel
theorem dX11_isDoor_5 : decode cX11_isDoor 5 = .ok (.aload_n 0, 1) := by decide +kernel
theorem dX11_isDoor_6 : decode cX11_isDoor 6 = .ok (.getfield 16, 3) := by decide +kernel
theorem dX11_isDoor_9 : decode cX11_isDoor 9 = .ok (.getfield 313, 3) := by decide +kernel
theorem dX11_isDoor_12 : decode cX11_isDoor 12 = .ok (.getfield 317, 3) := by decide +kernel
theorem dX11_isDoor_15 : decode cX11_isDoor 15 = .ok (.if_icmp .ge 7, 3) := by decide +kernel
theorem dX11_isDoor_22 : decode cX11_isDoor 22 = .ok (.iconst 0, 1) := by decide +kernel
theorem dX11_isDoor_23 : decode cX11_isDoor 23 = .ok (.ireturn, 1) := by decide +kernel
theorem dX11_isFan_0 : decode cX11_isFan 0 = .ok (.iload_n 1, 1) := by decide +kernel
theorem dX11_isFan_1 : decode cX11_isFan 1 = .ok (.ifCond .lt 21, 3) := by decide +kernel
theorem dX11_isFan_4 : decode cX11_isFan 4 = .ok (.iload_n 1, 1) := by decide +kernel
theorem dX11_isFan_5 : decode cX11_isFan 5 = .ok (.aload_n 0, 1) := by decide +kernel
theorem dX11_isFan_6 : decode cX11_isFan 6 = .ok (.getfield 16, 3) := by decide +kernel
theorem dX11_isFan_9 : decode cX11_isFan 9 = .ok (.getfield 313, 3) := by decide +kernel
theorem dX11_isFan_12 : decode cX11_isFan 12 = .ok (.getfield 325, 3) := by decide +kernel
theorem dX11_isFan_15 : decode cX11_isFan 15 = .ok (.if_icmp .ge 7, 3) := by decide +kernel
theorem dX11_isFan_22 : decode cX11_isFan 22 = .ok (.iconst 0, 1) := by decide +kernel
theorem dX11_isFan_23 : decode cX11_isFan 23 = .ok (.ireturn, 1) := by decide +kernel
theorem dX11_isMan_0 : decode cX11_isMan 0 = .ok (.iload_n 1, 1) := by decide +kernel
theorem dX11_isMan_1 : decode cX11_isMan 1 = .ok (.ifCond .lt 18, 3) := by decide +kernel
theorem dX11_isMan_4 : decode cX11_isMan 4 = .ok (.iload_n 1, 1) := by decide +kernel
theorem dX11_isMan_5 : decode cX11_isMan 5 = .ok (.aload_n 0, 1) := by decide +kernel
theorem dX11_isMan_6 : decode cX11_isMan 6 = .ok (.getfield 65, 3) := by decide +kernel
theorem dX11_isMan_9 : decode cX11_isMan 9 = .ok (.getfield 111, 3) := by decide +kernel
theorem dX11_isMan_12 : decode cX11_isMan 12 = .ok (.if_icmp .ge 7, 3) := by decide +kernel
theorem dX11_isMan_19 : decode cX11_isMan 19 = .ok (.iconst 0, 1) := by decide +kernel
theorem dX11_isMan_20 : decode cX11_isMan 20 = .ok (.ireturn, 1) := by decide +kernel
theorem dX11_isTarget_0 : decode cX11_isTarget 0 = .ok (.iload_n 1, 1) := by decide +kernel
theorem dX11_isTarget_1 : decode cX11_isTarget 1 = .ok (.tableswitch 45 0 2 #[27, 33, 39], 27) := by decide +kernel
theorem dX11_isTarget_28 : decode cX11_isTarget 28 = .ok (.aload_n 0, 1) := by decide +kernel
theorem dX11_isTarget_29 : decode cX11_isTarget 29 = .ok (.iload_n 2, 1) := by decide +kernel
theorem dX11_isTarget_30 : decode cX11_isTarget 30 = .ok (.invokevirtual 172, 3) := by decide +kernel
theorem dX11_isTarget_33 : decode cX11_isTarget 33 = .ok (.ireturn, 1) := by decide +kernel
theorem dX11_isTarget_34 : decode cX11_isTarget 34 = .ok (.aload_n 0, 1) := by decide +kernel
theorem dX11_isTarget_35 : decode cX11_isTarget 35 = .ok (.iload_n 2, 1) := by decide +kernel
theorem dX11_isTarget_36 : decode cX11_isTarget 36 = .ok (.invokevirtual 185, 3) := by decide +kernel
theorem dX11_isTarget_39 : decode cX11_isTarget 39 = .ok (.ireturn, 1) := by decide +kernel
theorem dX11_isTarget_40 : decode cX11_isTarget 40 = .ok (.aload_n 0, 1) := by decide +kernel
theorem dX11_isTarget_41 : decode cX11_isTarget 41 = .ok (.iload_n 2, 1) := by decide +kernel
theorem dX11_isTarget_42 : decode cX11_isTarget 42 = .ok (.invokevirtual 130, 3) := by decide +kernel
theorem dX11_isTarget_45 : decode cX11_isTarget 45 = .ok (.ireturn, 1) := by decide +kernel
theorem dX11_isTarget_46 : decode cX11_isTarget 46 = .ok (.iconst 0, 1) := by decide +kernel
theorem dX11_isTarget_47 : decode cX11_isTarget 47 = .ok (.ireturn, 1) := by decide +kernel
theorem dX11_isWay_0 : decode cX11_isWay 0 = .ok (.iload_n 1, 1) := by decide +kernel
theorem dX11_isWay_1 : decode cX11_isWay 1 = .ok (.ifCond .lt 18, 3) := by decide +kernel
theorem dX11_isWay_4 : decode cX11_isWay 4 = .ok (.iload_n 1, 1) := by decide +kernel
theorem dX11_isWay_5 : decode cX11_isWay 5 = .ok (.aload_n 0, 1) := by decide +kernel
theorem dX11_isWay_6 : decode cX11_isWay 6 = .ok (.getfield 16, 3) := by decide +kernel
theorem dX11_isWay_9 : decode cX11_isWay 9 = .ok (.getfield 121, 3) := by decide +kernel
theorem dX11_isWay_12 : decode cX11_isWay 12 = .ok (.if_icmp .ge 7, 3) := by decide +kernel
theorem dX11_isWay_19 : decode cX11_isWay 19 = .ok (.iconst 0, 1) := by decide +kernel
theorem dX11_isWay_20 : decode cX11_isWay 20 = .ok (.ireturn, 1) := by decide +kernel
theorem dX11_make_0 : decode cX11_make 0 = .ok (.aload_n 0, 1) := by decide +kernel
theorem dX11_make_1 : decode cX11_make 1 = .ok (.getfield 58, 3) := by decide +kernel
theorem dX11_make_4 : decode cX11_make 4 = .ok (.getfield 114, 3) := by decide +kernel
theorem dX11_make_7 : decode cX11_make 7 = .ok (.istore_n 1, 1) := by decide +kernel
theorem dX11_make_8 : decode cX11_make 8 = .ok (.iload_n 1, 1) := by decide +kernel
theorem dX11_make_9 : decode cX11_make 9 = .ok (.ifCond .ne 9, 3) := by decide +kernel
theorem dX11_make_12 : decode cX11_make 12 = .ok (.aload_n 0, 1) := by decide +kernel
theorem dX11_make_13 : decode cX11_make 13 = .ok (.iconst 5, 1) := by decide +kernel
theorem dX11_make_14 : decode cX11_make 14 = .ok (.invokevirtual 87, 3) := by decide +kernel
theorem dX11_make_17 : decode cX11_make 17 = .ok (.ireturn, 1) := by decide +kernel
theorem dX11_man_0 : decode cX11_man 0 = .ok (.iload_n 1, 1) := by decide +kernel
theorem dX11_man_1 : decode cX11_man 1 = .ok (.ifCond .lt 14, 3) := by decide +kernel
theorem dX11_man_4 : decode cX11_man 4 = .ok (.iload_n 1, 1) := by decide +kernel
theorem dX11_man_5 : decode cX11_man 5 = .ok (.aload_n 0, 1) := by decide +kernel
theorem dX11_man_6 : decode cX11_man 6 = .ok (.getfield 16, 3) := by decide +kernel
theorem dX11_man_9 : decode cX11_man 9 = .ok (.getfield 268, 3) := by decide +kernel
theorem dX11_man_12 : decode cX11_man 12 = .ok (.if_icmp .lt 9, 3) := by decide +kernel
theorem dX11_man_15 : decode cX11_man 15 = .ok (.aload_n 0, 1) := by decide +kernel
theorem dX11_man_16 : decode cX11_man 16 = .ok (.iconst 1, 1) := by decide +kernel
theorem dX11_man_17 : decode cX11_man 17 = .ok (.invokevirtual 87, 3) := by decide +kernel
theorem dX11_man_20 : decode cX11_man 20 = .ok (.ireturn, 1) := by decide +kernel
theorem dX11_mark_0 : decode cX11_mark 0 = .ok (.iload_n 1, 1) := by decide +kernel
theorem dX11_mark_1 : decode cX11_mark 1 = .ok (.iconst 1, 1) := by decide +kernel
theorem dX11_mark_2 : decode cX11_mark 2 = .ok (.if_icmp .lt 10, 3) := by decide +kernel
theorem dX11_mark_5 : decode cX11_mark 5 = .ok (.iload_n 1, 1) := by decide +kernel
theorem dX11_mark_6 : decode cX11_mark 6 = .ok (.sipush 999, 3) := by decide +kernel
theorem dX11_mark_9 : decode cX11_mark 9 = .ok (.if_icmp .le 9, 3) := by decide +kernel
theorem dX11_mark_12 : decode cX11_mark 12 = .ok (.aload_n 0, 1) := by decide +kernel
theorem dX11_mark_13 : decode cX11_mark 13 = .ok (.iconst 2, 1) := by decide +kernel
theorem dX11_mark_14 : decode cX11_mark 14 = .ok (.invokevirtual 175, 3) := by decide +kernel
theorem dX11_mark_17 : decode cX11_mark 17 = .ok (.ireturn, 1) := by decide +kernel
theorem dX11_mark_18 : decode cX11_mark 18 = .ok (.aload_n 0, 1) := by decide +kernel
theorem dX11_mark_19 : decode cX11_mark 19 = .ok (.getfield 31, 3) := by decide +kernel
theorem dX11_mark_22 : decode cX11_mark 22 = .ok (.iload_n 1, 1) := by decide +kernel
theorem dX11_mark_23 : decode cX11_mark 23 = .ok (.putfield 194, 3) := by decide +kernel
theorem dX11_mark_26 : decode cX11_mark 26 = .ok (.aload_n 0, 1) := by decide +kernel
theorem dX11_mark_27 : decode cX11_mark 27 = .ok (.invokevirtual 197, 3) := by decide +kernel
theorem dX11_mark_30 : decode cX11_mark 30 = .ok (.aload_n 0, 1) := by decide +kernel
theorem dX11_mark_31 : decode cX11_mark 31 = .ok (.invokevirtual 181, 3) := by decide +kernel
theorem dX11_mark_34 : decode cX11_mark 34 = .ok (.ireturn, 1) := by decide +kernel
theorem dX11_orNotSo_0 : decode cX11_orNotSo 0 = .ok (.iload_n 0, 1) := by decide +kernel
theorem dX11_orNotSo_1 : decode cX11_orNotSo 1 = .ok (.iconst (-1), 1) := by decide +kernel
theorem dX11_orNotSo_2 : decode cX11_orNotSo 2 = .ok (.if_icmp .ne 8, 3) := by decide +kernel
theorem dX11_orNotSo_5 : decode cX11_orNotSo 5 = .ok (.bipush (-2), 2) := by decide +kernel
theorem dX11_orNotSo_7 : decode cX11_orNotSo 7 = .ok (.goto 4, 3) := by decide +kernel
theorem dX11_orNotSo_10 : decode cX11_orNotSo 10 = .ok (.iload_n 0, 1) := by decide +kernel
theorem dX11_orNotSo_11 : decode cX11_orNotSo 11 = .ok (.ireturn, 1) := by decide +kernel
theorem dX11_order_0 : decode cX11_order 0 = .ok (.iload_n 1, 1) := by decide +kernel
theorem dX11_order_1 : decode cX11_order 1 = .ok (.ifCond .lt 14, 3) := by decide +kernel
theorem dX11_order_4 : decode cX11_order 4 = .ok (.iload_n 1, 1) := by decide +kernel
theorem dX11_order_5 : decode cX11_order 5 = .ok (.aload_n 0, 1) := by decide +kernel
theorem dX11_order_6 : decode cX11_order 6 = .ok (.getfield 58, 3) := by decide +kernel
theorem dX11_order_9 : decode cX11_order 9 = .ok (.getfield 114, 3) := by decide +kernel
theorem dX11_order_12 : decode cX11_order 12 = .ok (.if_icmp .lt 9, 3) := by decide +kernel
theorem dX11_order_15 : decode cX11_order 15 = .ok (.aload_n 0, 1) := by decide +kernel
theorem dX11_order_16 : decode cX11_order 16 = .ok (.iconst 1, 1) := by decide +kernel
theorem dX11_order_17 : decode cX11_order 17 = .ok (.invokevirtual 87, 3) := by decide +kernel
theorem dX11_order_20 : decode cX11_order 20 = .ok (.ireturn, 1) := by decide +kernel
theorem dX11_out_0 : decode cX11_out 0 = .ok (.aload_n 0, 1) := by decide +kernel
theorem dX11_out_1 : decode cX11_out 1 = .ok (.iload_n 1, 1) := by decide +kernel
theorem dX11_out_2 : decode cX11_out 2 = .ok (.invokevirtual 274, 3) := by decide +kernel
theorem dX11_out_5 : decode cX11_out 5 = .ok (.ifCond .ne 9, 3) := by decide +kernel
theorem dX11_out_8 : decode cX11_out 8 = .ok (.aload_n 0, 1) := by decide +kernel
theorem dX11_out_9 : decode cX11_out 9 = .ok (.iconst 1, 1) := by decide +kernel
theorem dX11_out_10 : decode cX11_out 10 = .ok (.invokevirtual 87, 3) := by decide +kernel
theorem dX11_out_13 : decode cX11_out 13 = .ok (.ireturn, 1) := by decide +kernel
theorem dX11_over_0 : decode cX11_over 0 = .ok (.aload_n 0, 1) := by decide +kernel
theorem dX11_over_1 : decode cX11_over 1 = .ok (.invokevirtual 212, 3) := by decide +kernel
theorem dX11_over_4 : decode cX11_over 4 = .ok (.ifCond .ne 9, 3) := by decide +kernel
theorem dX11_over_7 : decode cX11_over 7 = .ok (.aload_n 0, 1) := by decide +kernel
theorem dX11_over_8 : decode cX11_over 8 = .ok (.iconst 1, 1) := by decide +kernel
theorem dX11_over_9 : decode cX11_over 9 = .ok (.invokevirtual 87, 3) := by decide +kernel
theorem dX11_over_12 : decode cX11_over 12 = .ok (.ireturn, 1) := by decide +kernel
theorem dX11_reading_0 : decode cX11_reading 0 = .ok (.aload_n 0, 1) := by decide +kernel
theorem dX11_reading_1 : decode cX11_reading 1 = .ok (.iload_n 1, 1) := by decide +kernel
theorem dX11_reading_2 : decode cX11_reading 2 = .ok (.invokevirtual 130, 3) := by decide +kernel
theorem dX11_reading_5 : decode cX11_reading 5 = .ok (.ifCond .ne 9, 3) := by decide +kernel
theorem dX11_reading_8 : decode cX11_reading 8 = .ok (.aload_n 0, 1) := by decide +kernel
theorem dX11_reading_9 : decode cX11_reading 9 = .ok (.iconst 1, 1) := by decide +kernel
theorem dX11_reading_10 : decode cX11_reading 10 = .ok (.invokevirtual 87, 3) := by decide +kernel
theorem dX11_reading_13 : decode cX11_reading 13 = .ok (.ireturn, 1) := by decide +kernel
theorem dX11_refuse_0 : decode cX11_refuse 0 = .ok (.aload_n 0, 1) := by decide +kernel
theorem dX11_refuse_1 : decode cX11_refuse 1 = .ok (.iload_n 1, 1) := by decide +kernel
theorem dX11_refuse_2 : decode cX11_refuse 2 = .ok (.putfield 127, 3) := by decide +kernel
theorem dX11_refuse_5 : decode cX11_refuse 5 = .ok (.iconst (-1), 1) := by decide +kernel
theorem dX11_refuse_6 : decode cX11_refuse 6 = .ok (.ireturn, 1) := by decide +kernel
theorem dX11_setting_0 : decode cX11_setting 0 = .ok (.aload_n 0, 1) := by decide +kernel
theorem dX11_setting_1 : decode cX11_setting 1 = .ok (.invokevirtual 212, 3) := by decide +kernel
theorem dX11_setting_4 : decode cX11_setting 4 = .ok (.ifCond .ne 9, 3) := by decide +kernel
theorem dX11_setting_7 : decode cX11_setting 7 = .ok (.aload_n 0, 1) := by decide +kernel
theorem dX11_setting_8 : decode cX11_setting 8 = .ok (.iconst 1, 1) := by decide +kernel
theorem dX11_setting_9 : decode cX11_setting 9 = .ok (.invokevirtual 87, 3) := by decide +kernel
theorem dX11_setting_12 : decode cX11_setting 12 = .ok (.ireturn, 1) := by decide +kernel
theorem dX11_smoke_0 : decode cX11_smoke 0 = .ok (.aload_n 0, 1) := by decide +kernel
theorem dX11_smoke_1 : decode cX11_smoke 1 = .ok (.iload_n 1, 1) := by decide +kernel
theorem dX11_smoke_2 : decode cX11_smoke 2 = .ok (.invokevirtual 130, 3) := by decide +kernel
theorem dX11_smoke_5 : decode cX11_smoke 5 = .ok (.ifCond .ne 9, 3) := by decide +kernel
theorem dX11_smoke_8 : decode cX11_smoke 8 = .ok (.aload_n 0, 1) := by decide +kernel
theorem dX11_smoke_9 : decode cX11_smoke 9 = .ok (.iconst 1, 1) := by decide +kernel
theorem dX11_smoke_10 : decode cX11_smoke 10 = .ok (.invokevirtual 87, 3) := by decide +kernel
theorem dX11_smoke_13 : decode cX11_smoke 13 = .ok (.ireturn, 1) := by decide +kernel
theorem dX11_sound_0 : decode cX11_sound 0 = .ok (.aload_n 0, 1) := by decide +kernel
theorem dX11_sound_1 : decode cX11_sound 1 = .ok (.invokevirtual 212, 3) := by decide +kernel
theorem dX11_sound_4 : decode cX11_sound 4 = .ok (.ifCond .ne 9, 3) := by decide +kernel
theorem dX11_sound_7 : decode cX11_sound 7 = .ok (.aload_n 0, 1) := by decide +kernel
theorem dX11_sound_8 : decode cX11_sound 8 = .ok (.iconst 1, 1) := by decide +kernel
theorem dX11_sound_9 : decode cX11_sound 9 = .ok (.invokevirtual 87, 3) := by decide +kernel
theorem dX11_sound_12 : decode cX11_sound 12 = .ok (.ireturn, 1) := by decide +kernel
theorem dX11_speed_0 : decode cX11_speed 0 = .ok (.aload_n 0, 1) := by decide +kernel
theorem dX11_speed_1 : decode cX11_speed 1 = .ok (.iload_n 1, 1) := by decide +kernel
theorem dX11_speed_2 : decode cX11_speed 2 = .ok (.invokevirtual 185, 3) := by decide +kernel
theorem dX11_speed_5 : decode cX11_speed 5 = .ok (.ifCond .ne 9, 3) := by decide +kernel
theorem dX11_speed_8 : decode cX11_speed 8 = .ok (.aload_n 0, 1) := by decide +kernel
theorem dX11_speed_9 : decode cX11_speed 9 = .ok (.iconst 1, 1) := by decide +kernel
theorem dX11_speed_10 : decode cX11_speed 10 = .ok (.invokevirtual 175, 3) := by decide +kernel
theorem dX11_speed_13 : decode cX11_speed 13 = .ok (.ireturn, 1) := by decide +kernel
theorem dX11_thick_0 : decode cX11_thick 0 = .ok (.aload_n 0, 1) := by decide +kernel
theorem dX11_thick_1 : decode cX11_thick 1 = .ok (.iload_n 1, 1) := by decide +kernel
theorem dX11_thick_2 : decode cX11_thick 2 = .ok (.invokevirtual 130, 3) := by decide +kernel
theorem dX11_thick_5 : decode cX11_thick 5 = .ok (.ifCond .ne 9, 3) := by decide +kernel
theorem dX11_thick_8 : decode cX11_thick 8 = .ok (.aload_n 0, 1) := by decide +kernel
theorem dX11_thick_9 : decode cX11_thick 9 = .ok (.iconst 1, 1) := by decide +kernel
theorem dX11_thick_10 : decode cX11_thick 10 = .ok (.invokevirtual 87, 3) := by decide +kernel
theorem dX11_thick_13 : decode cX11_thick 13 = .ok (.ireturn, 1) := by decide +kernel
theorem dX11_trouble_0 : decode cX11_trouble 0 = .ok (.aload_n 0, 1) := by decide +kernel
theorem dX11_trouble_1 : decode cX11_trouble 1 = .ok (.getfield 127, 3) := by decide +kernel
theorem dX11_trouble_4 : decode cX11_trouble 4 = .ok (.ireturn, 1) := by decide +kernel
theorem dX11_turned_0 : decode cX11_turned 0 = .ok (.aload_n 0, 1) := by decide +kernel
theorem dX11_turned_1 : decode cX11_turned 1 = .ok (.iload_n 1, 1) := by decide +kernel
theorem dX11_turned_2 : decode cX11_turned 2 = .ok (.invokevirtual 185, 3) := by decide +kernel
theorem dX11_turned_5 : decode cX11_turned 5 = .ok (.ifCond .ne 9, 3) := by decide +kernel
theorem dX11_turned_8 : decode cX11_turned 8 = .ok (.aload_n 0, 1) := by decide +kernel
theorem dX11_turned_9 : decode cX11_turned 9 = .ok (.iconst 1, 1) := by decide +kernel
theorem dX11_turned_10 : decode cX11_turned 10 = .ok (.invokevirtual 87, 3) := by decide +kernel
theorem dX11_turned_13 : decode cX11_turned 13 = .ok (.ireturn, 1) := by decide +kernel
theorem dX11_way_0 : decode cX11_way 0 = .ok (.aload_n 0, 1) := by decide +kernel
theorem dX11_way_1 : decode cX11_way 1 = .ok (.iload_n 1, 1) := by decide +kernel
theorem dX11_way_2 : decode cX11_way 2 = .ok (.invokevirtual 130, 3) := by decide +kernel
theorem dX11_way_5 : decode cX11_way 5 = .ok (.ifCond .ne 6, 3) := by decide +kernel
theorem dX11_way_8 : decode cX11_way 8 = .ok (.ldc 133, 2) := by decide +kernel
theorem dX11_way_10 : decode cX11_way 10 = .ok (.ireturn, 1) := by decide +kernel
theorem dX11_where_0 : decode cX11_where 0 = .ok (.aload_n 0, 1) := by decide +kernel
theorem dX11_where_1 : decode cX11_where 1 = .ok (.getfield 127, 3) := by decide +kernel
theorem dX11_where_4 : decode cX11_where 4 = .ok (.iconst 4, 1) := by decide +kernel
theorem dX11_where_5 : decode cX11_where 5 = .ok (.if_icmp .ne 10, 3) := by decide +kernel
theorem dX11_where_15 : decode cX11_where 15 = .ok (.iconst (-1), 1) := by decide +kernel
theorem dX11_where_16 : decode cX11_where 16 = .ok (.ireturn, 1) := by decide +kernel
theorem dX6_forget_0 : decode cX6_forget 0 = .ok (.aload_n 0, 1) := by decide +kernel
theorem dX6_forget_1 : decode cX6_forget 1 = .ok (.iconst 0, 1) := by decide +kernel
theorem dX6_forget_2 : decode cX6_forget 2 = .ok (.putfield 38, 3) := by decide +kernel
theorem dX6_forget_5 : decode cX6_forget 5 = .ok (.return_, 1) := by decide +kernel
theorem dX7_append_0 : decode cX7_append 0 = .ok (.bipush 24, 2) := by decide +kernel
theorem dX7_append_2 : decode cX7_append 2 = .ok (.istore_n 2, 1) := by decide +kernel
theorem dX7_append_3 : decode cX7_append 3 = .ok (.iload_n 2, 1) := by decide +kernel
theorem dX7_append_4 : decode cX7_append 4 = .ok (.ifCond .lt 45, 3) := by decide +kernel
theorem dX7_append_7 : decode cX7_append 7 = .ok (.aload_n 0, 1) := by decide +kernel
theorem dX7_append_8 : decode cX7_append 8 = .ok (.getfield 32, 3) := by decide +kernel
theorem dX7_append_11 : decode cX7_append 11 = .ok (.sipush 600, 3) := by decide +kernel
theorem dX7_append_14 : decode cX7_append 14 = .ok (.if_icmp .ge 29, 3) := by decide +kernel
theorem dX7_append_17 : decode cX7_append 17 = .ok (.aload_n 0, 1) := by decide +kernel
theorem dX7_append_18 : decode cX7_append 18 = .ok (.getfield 9, 3) := by decide +kernel
theorem dX7_append_21 : decode cX7_append 21 = .ok (.aload_n 0, 1) := by decide +kernel
theorem dX7_append_22 : decode cX7_append 22 = .ok (.getfield 32, 3) := by decide +kernel
theorem dX7_append_25 : decode cX7_append 25 = .ok (.iload_n 1, 1) := by decide +kernel
theorem dX7_append_26 : decode cX7_append 26 = .ok (.iload_n 2, 1) := by decide +kernel
theorem dX7_append_27 : decode cX7_append 27 = .ok (.ishr, 1) := by decide +kernel
theorem dX7_append_28 : decode cX7_append 28 = .ok (.sipush 255, 3) := by decide +kernel
theorem dX7_append_31 : decode cX7_append 31 = .ok (.iand, 1) := by decide +kernel
theorem dX7_append_32 : decode cX7_append 32 = .ok (.iastore, 1) := by decide +kernel
theorem dX7_append_33 : decode cX7_append 33 = .ok (.aload_n 0, 1) := by decide +kernel
theorem dX7_append_34 : decode cX7_append 34 = .ok (.dup, 1) := by decide +kernel
theorem dX7_append_35 : decode cX7_append 35 = .ok (.getfield 32, 3) := by decide +kernel
theorem dX7_append_38 : decode cX7_append 38 = .ok (.iconst 1, 1) := by decide +kernel
theorem dX7_append_39 : decode cX7_append 39 = .ok (.iadd, 1) := by decide +kernel
theorem dX7_append_40 : decode cX7_append 40 = .ok (.putfield 32, 3) := by decide +kernel
theorem dX7_append_43 : decode cX7_append 43 = .ok (.iinc 2 (-8), 3) := by decide +kernel
theorem dX7_append_46 : decode cX7_append 46 = .ok (.goto (-43), 3) := by decide +kernel
theorem dX7_append_49 : decode cX7_append 49 = .ok (.return_, 1) := by decide +kernel
end
section
set_option maxHeartbeats 4000000 in
set_option maxRecDepth 100000 in
theorem c_refuse (l : Launch) (dC : Nat → ClassId) (dI : Nat → Nat → Nat) (n0 sz : Nat) (x0 : Nat) (rd : Nat) (dr : Nat) (bk : Nat) (st : Nat) (nw : Nat) (tr : Nat) (pl : Nat) (fl : Nat) (rg : Nat) (tb : Int32) (ft : Int32) (pc : Int32) (why : Int32) : Met l yX11_refuse (wM yX11_refuse cX11_refuse 2 (some .int)) ({ frames := 0, cells := 0, slots := 0, locals := 0 }) (va_Pc [.ref x0, .int why] (fun U => U.heap.size = sz ∧ n0 ≤ sz ∧ GW n0 U ∧ va_P (dC, dI) classes [(x0, .inr (11, [.ref rd, .ref dr, .ref bk, .ref st, .ref nw, .ref tr, .ref pl, .ref fl, .ref rg, .int tb, .int ft, .int pc]))] U.heap ∧ va_K (dC, dI) classes [] U ∧ va_D (fun q => n0 ≤ q) [(x0, .inr (11, [.ref rd, .ref dr, .ref bk, .ref st, .ref nw, .ref tr, .ref pl, .ref fl, .ref rg, .int tb, .int ft, .int pc]))])) (va_Qi (fun (r : Int32) (_ : Unit) => r = (-1)) (fun (_ : Unit) (t : State) => va_P (dC, dI) classes [(x0, .inr (11, [.ref rd, .ref dr, .ref bk, .ref st, .ref nw, .ref tr, .ref pl, .ref fl, .ref rg, .int why, .int ft, .int pc]))] t.heap ∧ va_K (dC, dI) classes [] t ∧ va_D (va_A [(x0, .inr (11, [.ref rd, .ref dr, .ref bk, .ref st, .ref nw, .ref tr, .ref pl, .ref fl, .ref rg, .int tb, .int ft, .int pc]))] sz) [(x0, .inr (11, [.ref rd, .ref dr, .ref bk, .ref st, .ref nw, .ref tr, .ref pl, .ref fl, .ref rg, .int why, .int ft, .int pc]))]) (va_A [(x0, .inr (11, [.ref rd, .ref dr, .ref bk, .ref st, .ref nw, .ref tr, .ref pl, .ref fl, .ref rg, .int tb, .int ft, .int pc]))] sz)) 0 0 (va_A [(x0, .inr (11, [.ref rd, .ref dr, .ref bk, .ref st, .ref nw, .ref tr, .ref pl, .ref fl, .ref rg, .int tb, .int ft, .int pc]))] sz) := by
  refine Met.ofW (cc := cX11_refuse) (maxL := 2) (ret := (some .int)) (by decide) rfl ?_
  intro p e s m args below meth c s₁ B hml hv
  obtain ⟨rfl, hsz, hn0, hG, hP, hK, hD0⟩ := hv
  have hx := B.exec
  have hb := B.bytes
  have hr := B.returns
  have hts := atoms_spec (ws := wM yX11_refuse cX11_refuse 2 (some .int)) B.pre
  have hown : s.vm.findClass RX11 = some m.cls := findClass_of_methodNamed B.named
  have hlocks := B.notSynchronized
  subst hsz
  have hD := hD0.self (sz := s.heap.size)
  have hA0 := vA_n0 hD0 hn0
  generalize hAe : va_A [(x0, .inr (11, [.ref rd, .ref dr, .ref bk, .ref st, .ref nw, .ref tr, .ref pl, .ref fl, .ref rg, .int tb, .int ft, .int pc]))] s.heap.size = A at hD hA0 ⊢
  have hA : ∀ q : Nat, s.heap.size ≤ q → A q := fun q h => by rw [← hAe]; exact Or.inr h
  have hS : va_S A s.heap s.heap [] := va_S.rf
  have hl := lv_entry ([.ref x0, .int why]) (n := 2) (Nat.le_of_ble_eq_true rfl)
  rw [lg_entry_eq]
  generalize (lg_sl ([.ref x0, .int why]) ++ List.replicate (2 - (lg_sl ([.ref x0, .int why])).length) Slot.unset).toArray = ls at hl ⊢
  have hl : lv_has ls 2 [(0, .ref x0), (1, .int why)] := hl
  refine lv_aload_n hx hb dX11_refuse_0 rfl (lv_at hl 0 rfl) ?_
  refine lv_iload_n hx hb dX11_refuse_1 rfl (lv_at hl 1 rfl) ?_
  refine va_put (D := (dC, dI)) (ci := 11) (v := .int why) (ty := .int) (C := RX11) (T := TX11) (N := 12) hx hb hts (fun w h => wM_c (iX11 w h)) tyX11 tyX11_ok nmX11 hown hK hP hD hS 0 rfl rfl 9 (by decide) (hts _ (wM_c wd_679)) (fun _ h9 => h9) rfl (by decide +kernel) rfl rfl (Nat.le_of_ble_eq_true rfl) dX11_refuse_2 (fun H locs hP hD hS => ?_)
  have hP : va_P (dC, dI) classes [(x0, .inr (11, [.ref rd, .ref dr, .ref bk, .ref st, .ref nw, .ref tr, .ref pl, .ref fl, .ref rg, .int why, .int ft, .int pc]))] H := hP
  have hD : va_D A [(x0, .inr (11, [.ref rd, .ref dr, .ref bk, .ref st, .ref nw, .ref tr, .ref pl, .ref fl, .ref rg, .int why, .int ft, .int pc]))] := hD
  refine lv_iconst (v := (-1)) hx hb dX11_refuse_5 (by decide) ?_
  have hP9 := hP.sub (ws' := [(x0, .inr (11, [.ref rd, .ref dr, .ref bk, .ref st, .ref nw, .ref tr, .ref pl, .ref fl, .ref rg, .int why, .int ft, .int pc]))]) [0] rfl
  have hD9 := hD.sub (ws' := [(x0, .inr (11, [.ref rd, .ref dr, .ref bk, .ref st, .ref nw, .ref tr, .ref pl, .ref fl, .ref rg, .int why, .int ft, .int pc]))]) [0] (by decide) rfl
  have hK9 := hK.sub (tys' := []) [] rfl
  exact W.iret (v := (-1)) hx hb hr (fun t ht hW => ⟨⟨(-1), (), rfl, rfl, by rw [ht]; exact hP9, va_K.moved hW.alike hK9, hD9⟩, hS.F ht⟩) hS.2.2 dX11_refuse_6
set_option maxHeartbeats 4000000 in
set_option maxRecDepth 100000 in
theorem c_deny (l : Launch) (dC : Nat → ClassId) (dI : Nat → Nat → Nat) (n0 sz : Nat) (x0 : Nat) (rd : Nat) (dr : Nat) (bk : Nat) (st : Nat) (nw : Nat) (tr : Nat) (pl : Nat) (fl : Nat) (rg : Nat) (tb : Int32) (ft : Int32) (pc : Int32) (why : Int32) : Met l yX11_deny (wM yX11_deny cX11_deny 2 (some .boolean)) ({ frames := 0, cells := 0, slots := 0, locals := 0 }) (va_Pc [.ref x0, .int why] (fun U => U.heap.size = sz ∧ n0 ≤ sz ∧ GW n0 U ∧ va_P (dC, dI) classes [(x0, .inr (11, [.ref rd, .ref dr, .ref bk, .ref st, .ref nw, .ref tr, .ref pl, .ref fl, .ref rg, .int tb, .int ft, .int pc]))] U.heap ∧ va_K (dC, dI) classes [] U ∧ va_D (fun q => n0 ≤ q) [(x0, .inr (11, [.ref rd, .ref dr, .ref bk, .ref st, .ref nw, .ref tr, .ref pl, .ref fl, .ref rg, .int tb, .int ft, .int pc]))])) (va_Qi (fun (r : Int32) (_ : Unit) => r = 0) (fun (_ : Unit) (t : State) => va_P (dC, dI) classes [(x0, .inr (11, [.ref rd, .ref dr, .ref bk, .ref st, .ref nw, .ref tr, .ref pl, .ref fl, .ref rg, .int why, .int ft, .int pc]))] t.heap ∧ va_K (dC, dI) classes [] t ∧ va_D (va_A [(x0, .inr (11, [.ref rd, .ref dr, .ref bk, .ref st, .ref nw, .ref tr, .ref pl, .ref fl, .ref rg, .int tb, .int ft, .int pc]))] sz) [(x0, .inr (11, [.ref rd, .ref dr, .ref bk, .ref st, .ref nw, .ref tr, .ref pl, .ref fl, .ref rg, .int why, .int ft, .int pc]))]) (va_A [(x0, .inr (11, [.ref rd, .ref dr, .ref bk, .ref st, .ref nw, .ref tr, .ref pl, .ref fl, .ref rg, .int tb, .int ft, .int pc]))] sz)) 0 0 (va_A [(x0, .inr (11, [.ref rd, .ref dr, .ref bk, .ref st, .ref nw, .ref tr, .ref pl, .ref fl, .ref rg, .int tb, .int ft, .int pc]))] sz) := by
  refine Met.ofW (cc := cX11_deny) (maxL := 2) (ret := (some .boolean)) (by decide) rfl ?_
  intro p e s m args below meth c s₁ B hml hv
  obtain ⟨rfl, hsz, hn0, hG, hP, hK, hD0⟩ := hv
  have hx := B.exec
  have hb := B.bytes
  have hr := B.returns
  have hts := atoms_spec (ws := wM yX11_deny cX11_deny 2 (some .boolean)) B.pre
  have hown : s.vm.findClass RX11 = some m.cls := findClass_of_methodNamed B.named
  have hlocks := B.notSynchronized
  subst hsz
  have hD := hD0.self (sz := s.heap.size)
  have hA0 := vA_n0 hD0 hn0
  generalize hAe : va_A [(x0, .inr (11, [.ref rd, .ref dr, .ref bk, .ref st, .ref nw, .ref tr, .ref pl, .ref fl, .ref rg, .int tb, .int ft, .int pc]))] s.heap.size = A at hD hA0 ⊢
  have hA : ∀ q : Nat, s.heap.size ≤ q → A q := fun q h => by rw [← hAe]; exact Or.inr h
  have hS : va_S A s.heap s.heap [] := va_S.rf
  have hl := lv_entry ([.ref x0, .int why]) (n := 2) (Nat.le_of_ble_eq_true rfl)
  rw [lg_entry_eq]
  generalize (lg_sl ([.ref x0, .int why]) ++ List.replicate (2 - (lg_sl ([.ref x0, .int why])).length) Slot.unset).toArray = ls at hl ⊢
  have hl : lv_has ls 2 [(0, .ref x0), (1, .int why)] := hl
  refine lv_aload_n hx hb dX11_deny_0 rfl (lv_at hl 0 rfl) ?_
  refine lv_iload_n hx hb dX11_deny_1 rfl (lv_at hl 1 rfl) ?_
  refine va_put (D := (dC, dI)) (ci := 11) (v := .int why) (ty := .int) (C := RX11) (T := TX11) (N := 12) hx hb hts (fun w h => wM_c (iX11 w h)) tyX11 tyX11_ok nmX11 hown hK hP hD hS 0 rfl rfl 9 (by decide) (hts _ (wM_c wd_679)) (fun _ h9 => h9) rfl (by decide +kernel) rfl rfl (Nat.le_of_ble_eq_true rfl) dX11_deny_2 (fun H locs hP hD hS => ?_)
  have hP : va_P (dC, dI) classes [(x0, .inr (11, [.ref rd, .ref dr, .ref bk, .ref st, .ref nw, .ref tr, .ref pl, .ref fl, .ref rg, .int why, .int ft, .int pc]))] H := hP
  have hD : va_D A [(x0, .inr (11, [.ref rd, .ref dr, .ref bk, .ref st, .ref nw, .ref tr, .ref pl, .ref fl, .ref rg, .int why, .int ft, .int pc]))] := hD
  refine lv_iconst (v := 0) hx hb dX11_deny_5 (by decide) ?_
  have hP9 := hP.sub (ws' := [(x0, .inr (11, [.ref rd, .ref dr, .ref bk, .ref st, .ref nw, .ref tr, .ref pl, .ref fl, .ref rg, .int why, .int ft, .int pc]))]) [0] rfl
  have hD9 := hD.sub (ws' := [(x0, .inr (11, [.ref rd, .ref dr, .ref bk, .ref st, .ref nw, .ref tr, .ref pl, .ref fl, .ref rg, .int why, .int ft, .int pc]))]) [0] (by decide) rfl
  have hK9 := hK.sub (tys' := []) [] rfl
  exact W.zret (v := 0) hx hb hr rfl (fun t ht hW => ⟨⟨0, (), rfl, rfl, by rw [ht]; exact hP9, va_K.moved hW.alike hK9, hD9⟩, hS.F ht⟩) hS.2.2 dX11_deny_6
set_option maxHeartbeats 4000000 in
set_option maxRecDepth 100000 in
theorem c_accept (l : Launch) (dC : Nat → ClassId) (dI : Nat → Nat → Nat) (n0 sz : Nat) (x0 : Nat) (rd : Nat) (dr : Nat) (bk : Nat) (st : Nat) (nw : Nat) (tr : Nat) (pl : Nat) (fl : Nat) (rg : Nat) (tb : Int32) (ft : Int32) (pc : Int32) (an : Int32) : Met l yX11_accept (wM yX11_accept cX11_accept 2 (some .int)) ({ frames := 0, cells := 0, slots := 0, locals := 0 }) (va_Pc [.ref x0, .int an] (fun U => U.heap.size = sz ∧ n0 ≤ sz ∧ GW n0 U ∧ va_P (dC, dI) classes [(x0, .inr (11, [.ref rd, .ref dr, .ref bk, .ref st, .ref nw, .ref tr, .ref pl, .ref fl, .ref rg, .int tb, .int ft, .int pc]))] U.heap ∧ va_K (dC, dI) classes [] U ∧ va_D (fun q => n0 ≤ q) [(x0, .inr (11, [.ref rd, .ref dr, .ref bk, .ref st, .ref nw, .ref tr, .ref pl, .ref fl, .ref rg, .int tb, .int ft, .int pc]))])) (va_Qi (fun (r : Int32) (_ : Unit) => r = an) (fun (_ : Unit) (t : State) => va_P (dC, dI) classes [(x0, .inr (11, [.ref rd, .ref dr, .ref bk, .ref st, .ref nw, .ref tr, .ref pl, .ref fl, .ref rg, .int 0, .int ft, .int pc]))] t.heap ∧ va_K (dC, dI) classes [] t ∧ va_D (va_A [(x0, .inr (11, [.ref rd, .ref dr, .ref bk, .ref st, .ref nw, .ref tr, .ref pl, .ref fl, .ref rg, .int tb, .int ft, .int pc]))] sz) [(x0, .inr (11, [.ref rd, .ref dr, .ref bk, .ref st, .ref nw, .ref tr, .ref pl, .ref fl, .ref rg, .int 0, .int ft, .int pc]))]) (va_A [(x0, .inr (11, [.ref rd, .ref dr, .ref bk, .ref st, .ref nw, .ref tr, .ref pl, .ref fl, .ref rg, .int tb, .int ft, .int pc]))] sz)) 0 0 (va_A [(x0, .inr (11, [.ref rd, .ref dr, .ref bk, .ref st, .ref nw, .ref tr, .ref pl, .ref fl, .ref rg, .int tb, .int ft, .int pc]))] sz) := by
  refine Met.ofW (cc := cX11_accept) (maxL := 2) (ret := (some .int)) (by decide) rfl ?_
  intro p e s m args below meth c s₁ B hml hv
  obtain ⟨rfl, hsz, hn0, hG, hP, hK, hD0⟩ := hv
  have hx := B.exec
  have hb := B.bytes
  have hr := B.returns
  have hts := atoms_spec (ws := wM yX11_accept cX11_accept 2 (some .int)) B.pre
  have hown : s.vm.findClass RX11 = some m.cls := findClass_of_methodNamed B.named
  have hlocks := B.notSynchronized
  subst hsz
  have hD := hD0.self (sz := s.heap.size)
  have hA0 := vA_n0 hD0 hn0
  generalize hAe : va_A [(x0, .inr (11, [.ref rd, .ref dr, .ref bk, .ref st, .ref nw, .ref tr, .ref pl, .ref fl, .ref rg, .int tb, .int ft, .int pc]))] s.heap.size = A at hD hA0 ⊢
  have hA : ∀ q : Nat, s.heap.size ≤ q → A q := fun q h => by rw [← hAe]; exact Or.inr h
  have hS : va_S A s.heap s.heap [] := va_S.rf
  have hl := lv_entry ([.ref x0, .int an]) (n := 2) (Nat.le_of_ble_eq_true rfl)
  rw [lg_entry_eq]
  generalize (lg_sl ([.ref x0, .int an]) ++ List.replicate (2 - (lg_sl ([.ref x0, .int an])).length) Slot.unset).toArray = ls at hl ⊢
  have hl : lv_has ls 2 [(0, .ref x0), (1, .int an)] := hl
  refine lv_aload_n hx hb dX11_accept_0 rfl (lv_at hl 0 rfl) ?_
  refine lv_iconst (v := 0) hx hb dX11_accept_1 (by decide) ?_
  refine va_put (D := (dC, dI)) (ci := 11) (v := .int 0) (ty := .int) (C := RX11) (T := TX11) (N := 12) hx hb hts (fun w h => wM_c (iX11 w h)) tyX11 tyX11_ok nmX11 hown hK hP hD hS 0 rfl rfl 9 (by decide) (hts _ (wM_c wd_679)) (fun _ h9 => h9) rfl (by decide +kernel) rfl rfl (Nat.le_of_ble_eq_true rfl) dX11_accept_2 (fun H locs hP hD hS => ?_)
  have hP : va_P (dC, dI) classes [(x0, .inr (11, [.ref rd, .ref dr, .ref bk, .ref st, .ref nw, .ref tr, .ref pl, .ref fl, .ref rg, .int 0, .int ft, .int pc]))] H := hP
  have hD : va_D A [(x0, .inr (11, [.ref rd, .ref dr, .ref bk, .ref st, .ref nw, .ref tr, .ref pl, .ref fl, .ref rg, .int 0, .int ft, .int pc]))] := hD
  refine lv_iload_n hx hb dX11_accept_5 rfl (lv_at hl 1 rfl) ?_
  have hP9 := hP.sub (ws' := [(x0, .inr (11, [.ref rd, .ref dr, .ref bk, .ref st, .ref nw, .ref tr, .ref pl, .ref fl, .ref rg, .int 0, .int ft, .int pc]))]) [0] rfl
  have hD9 := hD.sub (ws' := [(x0, .inr (11, [.ref rd, .ref dr, .ref bk, .ref st, .ref nw, .ref tr, .ref pl, .ref fl, .ref rg, .int 0, .int ft, .int pc]))]) [0] (by decide) rfl
  have hK9 := hK.sub (tys' := []) [] rfl
  exact W.iret (v := an) hx hb hr (fun t ht hW => ⟨⟨an, (), rfl, rfl, by rw [ht]; exact hP9, va_K.moved hW.alike hK9, hD9⟩, hS.F ht⟩) hS.2.2 dX11_accept_6
set_option maxHeartbeats 4000000 in
set_option maxRecDepth 100000 in
theorem c_allow (l : Launch) (dC : Nat → ClassId) (dI : Nat → Nat → Nat) (n0 sz : Nat) (x0 : Nat) (rd : Nat) (dr : Nat) (bk : Nat) (st : Nat) (nw : Nat) (tr : Nat) (pl : Nat) (fl : Nat) (rg : Nat) (tb : Int32) (ft : Int32) (pc : Int32) : Met l yX11_allow (wM yX11_allow cX11_allow 1 (some .boolean)) ({ frames := 0, cells := 0, slots := 0, locals := 0 }) (va_Pc [.ref x0] (fun U => U.heap.size = sz ∧ n0 ≤ sz ∧ GW n0 U ∧ va_P (dC, dI) classes [(x0, .inr (11, [.ref rd, .ref dr, .ref bk, .ref st, .ref nw, .ref tr, .ref pl, .ref fl, .ref rg, .int tb, .int ft, .int pc]))] U.heap ∧ va_K (dC, dI) classes [] U ∧ va_D (fun q => n0 ≤ q) [(x0, .inr (11, [.ref rd, .ref dr, .ref bk, .ref st, .ref nw, .ref tr, .ref pl, .ref fl, .ref rg, .int tb, .int ft, .int pc]))])) (va_Qi (fun (r : Int32) (_ : Unit) => r = 1) (fun (_ : Unit) (t : State) => va_P (dC, dI) classes [(x0, .inr (11, [.ref rd, .ref dr, .ref bk, .ref st, .ref nw, .ref tr, .ref pl, .ref fl, .ref rg, .int 0, .int ft, .int pc]))] t.heap ∧ va_K (dC, dI) classes [] t ∧ va_D (va_A [(x0, .inr (11, [.ref rd, .ref dr, .ref bk, .ref st, .ref nw, .ref tr, .ref pl, .ref fl, .ref rg, .int tb, .int ft, .int pc]))] sz) [(x0, .inr (11, [.ref rd, .ref dr, .ref bk, .ref st, .ref nw, .ref tr, .ref pl, .ref fl, .ref rg, .int 0, .int ft, .int pc]))]) (va_A [(x0, .inr (11, [.ref rd, .ref dr, .ref bk, .ref st, .ref nw, .ref tr, .ref pl, .ref fl, .ref rg, .int tb, .int ft, .int pc]))] sz)) 0 0 (va_A [(x0, .inr (11, [.ref rd, .ref dr, .ref bk, .ref st, .ref nw, .ref tr, .ref pl, .ref fl, .ref rg, .int tb, .int ft, .int pc]))] sz) := by
  refine Met.ofW (cc := cX11_allow) (maxL := 1) (ret := (some .boolean)) (by decide) rfl ?_
  intro p e s m args below meth c s₁ B hml hv
  obtain ⟨rfl, hsz, hn0, hG, hP, hK, hD0⟩ := hv
  have hx := B.exec
  have hb := B.bytes
  have hr := B.returns
  have hts := atoms_spec (ws := wM yX11_allow cX11_allow 1 (some .boolean)) B.pre
  have hown : s.vm.findClass RX11 = some m.cls := findClass_of_methodNamed B.named
  have hlocks := B.notSynchronized
  subst hsz
  have hD := hD0.self (sz := s.heap.size)
  have hA0 := vA_n0 hD0 hn0
  generalize hAe : va_A [(x0, .inr (11, [.ref rd, .ref dr, .ref bk, .ref st, .ref nw, .ref tr, .ref pl, .ref fl, .ref rg, .int tb, .int ft, .int pc]))] s.heap.size = A at hD hA0 ⊢
  have hA : ∀ q : Nat, s.heap.size ≤ q → A q := fun q h => by rw [← hAe]; exact Or.inr h
  have hS : va_S A s.heap s.heap [] := va_S.rf
  have hl := lv_entry ([.ref x0]) (n := 1) (Nat.le_of_ble_eq_true rfl)
  rw [lg_entry_eq]
  generalize (lg_sl ([.ref x0]) ++ List.replicate (1 - (lg_sl ([.ref x0])).length) Slot.unset).toArray = ls at hl ⊢
  have hl : lv_has ls 1 [(0, .ref x0)] := hl
  refine lv_aload_n hx hb dX11_allow_0 rfl (lv_at hl 0 rfl) ?_
  refine lv_iconst (v := 0) hx hb dX11_allow_1 (by decide) ?_
  refine va_put (D := (dC, dI)) (ci := 11) (v := .int 0) (ty := .int) (C := RX11) (T := TX11) (N := 12) hx hb hts (fun w h => wM_c (iX11 w h)) tyX11 tyX11_ok nmX11 hown hK hP hD hS 0 rfl rfl 9 (by decide) (hts _ (wM_c wd_679)) (fun _ h9 => h9) rfl (by decide +kernel) rfl rfl (Nat.le_of_ble_eq_true rfl) dX11_allow_2 (fun H locs hP hD hS => ?_)
  have hP : va_P (dC, dI) classes [(x0, .inr (11, [.ref rd, .ref dr, .ref bk, .ref st, .ref nw, .ref tr, .ref pl, .ref fl, .ref rg, .int 0, .int ft, .int pc]))] H := hP
  have hD : va_D A [(x0, .inr (11, [.ref rd, .ref dr, .ref bk, .ref st, .ref nw, .ref tr, .ref pl, .ref fl, .ref rg, .int 0, .int ft, .int pc]))] := hD
  refine lv_iconst (v := 1) hx hb dX11_allow_5 (by decide) ?_
  have hP9 := hP.sub (ws' := [(x0, .inr (11, [.ref rd, .ref dr, .ref bk, .ref st, .ref nw, .ref tr, .ref pl, .ref fl, .ref rg, .int 0, .int ft, .int pc]))]) [0] rfl
  have hD9 := hD.sub (ws' := [(x0, .inr (11, [.ref rd, .ref dr, .ref bk, .ref st, .ref nw, .ref tr, .ref pl, .ref fl, .ref rg, .int 0, .int ft, .int pc]))]) [0] (by decide) rfl
  have hK9 := hK.sub (tys' := []) [] rfl
  exact W.zret (v := 1) hx hb hr rfl (fun t ht hW => ⟨⟨1, (), rfl, rfl, by rw [ht]; exact hP9, va_K.moved hW.alike hK9, hD9⟩, hS.F ht⟩) hS.2.2 dX11_allow_6
set_option maxHeartbeats 4000000 in
set_option maxRecDepth 100000 in
theorem c_isWay (l : Launch) (dC : Nat → ClassId) (dI : Nat → Nat → Nat) (n0 sz : Nat) (x0 : Nat) (rd : Nat) (dr : Nat) (bk : Nat) (st : Nat) (nw : Nat) (tr : Nat) (pl : Nat) (fl : Nat) (rg : Nat) (tb : Int32) (ft : Int32) (pc : Int32) (bk_tail : Nat) (bk_head : Nat) (bk_hinder : Nat) (bk_size : Nat) (bk_walk : Nat) (bk_draught : Nat) (bk_doorIn : Nat) (bk_fanIn : Nat) (bk_faceIn : Nat) (gr : Nat) (w : Int32) : Met l yX11_isWay (wM yX11_isWay cX11_isWay 2 (some .boolean)) ({ frames := 0, cells := 0, slots := 0, locals := 0 }) (va_Pc [.ref x0, .int w] (fun U => U.heap.size = sz ∧ n0 ≤ sz ∧ GW n0 U ∧ va_P (dC, dI) classes [(x0, .inr (11, [.ref rd, .ref dr, .ref bk, .ref st, .ref nw, .ref tr, .ref pl, .ref fl, .ref rg, .int tb, .int ft, .int pc])), (bk, .inr (0, [.int 0, .ref bk_tail, .ref bk_head, .ref bk_hinder, .ref bk_size, .ref bk_walk, .ref bk_draught, .ref bk_doorIn, .ref bk_fanIn, .ref bk_faceIn, .int 0, .int (-1), .ref gr]))] U.heap ∧ va_K (dC, dI) classes [] U ∧ va_D (fun q => n0 ≤ q) [(x0, .inr (11, [.ref rd, .ref dr, .ref bk, .ref st, .ref nw, .ref tr, .ref pl, .ref fl, .ref rg, .int tb, .int ft, .int pc])), (bk, .inr (0, [.int 0, .ref bk_tail, .ref bk_head, .ref bk_hinder, .ref bk_size, .ref bk_walk, .ref bk_draught, .ref bk_doorIn, .ref bk_fanIn, .ref bk_faceIn, .int 0, .int (-1), .ref gr]))])) (va_Qi (fun (r : Int32) (_ : Unit) => r = 0) (fun (_ : Unit) (t : State) => va_P (dC, dI) classes [(x0, .inr (11, [.ref rd, .ref dr, .ref bk, .ref st, .ref nw, .ref tr, .ref pl, .ref fl, .ref rg, .int tb, .int ft, .int pc])), (bk, .inr (0, [.int 0, .ref bk_tail, .ref bk_head, .ref bk_hinder, .ref bk_size, .ref bk_walk, .ref bk_draught, .ref bk_doorIn, .ref bk_fanIn, .ref bk_faceIn, .int 0, .int (-1), .ref gr]))] t.heap ∧ va_K (dC, dI) classes [] t ∧ va_D (va_A [(x0, .inr (11, [.ref rd, .ref dr, .ref bk, .ref st, .ref nw, .ref tr, .ref pl, .ref fl, .ref rg, .int tb, .int ft, .int pc])), (bk, .inr (0, [.int 0, .ref bk_tail, .ref bk_head, .ref bk_hinder, .ref bk_size, .ref bk_walk, .ref bk_draught, .ref bk_doorIn, .ref bk_fanIn, .ref bk_faceIn, .int 0, .int (-1), .ref gr]))] sz) [(x0, .inr (11, [.ref rd, .ref dr, .ref bk, .ref st, .ref nw, .ref tr, .ref pl, .ref fl, .ref rg, .int tb, .int ft, .int pc])), (bk, .inr (0, [.int 0, .ref bk_tail, .ref bk_head, .ref bk_hinder, .ref bk_size, .ref bk_walk, .ref bk_draught, .ref bk_doorIn, .ref bk_fanIn, .ref bk_faceIn, .int 0, .int (-1), .ref gr]))]) (va_A [(x0, .inr (11, [.ref rd, .ref dr, .ref bk, .ref st, .ref nw, .ref tr, .ref pl, .ref fl, .ref rg, .int tb, .int ft, .int pc])), (bk, .inr (0, [.int 0, .ref bk_tail, .ref bk_head, .ref bk_hinder, .ref bk_size, .ref bk_walk, .ref bk_draught, .ref bk_doorIn, .ref bk_fanIn, .ref bk_faceIn, .int 0, .int (-1), .ref gr]))] sz)) 0 0 (va_A [(x0, .inr (11, [.ref rd, .ref dr, .ref bk, .ref st, .ref nw, .ref tr, .ref pl, .ref fl, .ref rg, .int tb, .int ft, .int pc])), (bk, .inr (0, [.int 0, .ref bk_tail, .ref bk_head, .ref bk_hinder, .ref bk_size, .ref bk_walk, .ref bk_draught, .ref bk_doorIn, .ref bk_fanIn, .ref bk_faceIn, .int 0, .int (-1), .ref gr]))] sz) := by
  refine Met.ofW (cc := cX11_isWay) (maxL := 2) (ret := (some .boolean)) (by decide) rfl ?_
  intro p e s m args below meth c s₁ B hml hv
  obtain ⟨rfl, hsz, hn0, hG, hP, hK, hD0⟩ := hv
  have hx := B.exec
  have hb := B.bytes
  have hr := B.returns
  have hts := atoms_spec (ws := wM yX11_isWay cX11_isWay 2 (some .boolean)) B.pre
  have hown : s.vm.findClass RX11 = some m.cls := findClass_of_methodNamed B.named
  have hlocks := B.notSynchronized
  subst hsz
  have hD := hD0.self (sz := s.heap.size)
  have hA0 := vA_n0 hD0 hn0
  generalize hAe : va_A [(x0, .inr (11, [.ref rd, .ref dr, .ref bk, .ref st, .ref nw, .ref tr, .ref pl, .ref fl, .ref rg, .int tb, .int ft, .int pc])), (bk, .inr (0, [.int 0, .ref bk_tail, .ref bk_head, .ref bk_hinder, .ref bk_size, .ref bk_walk, .ref bk_draught, .ref bk_doorIn, .ref bk_fanIn, .ref bk_faceIn, .int 0, .int (-1), .ref gr]))] s.heap.size = A at hD hA0 ⊢
  have hA : ∀ q : Nat, s.heap.size ≤ q → A q := fun q h => by rw [← hAe]; exact Or.inr h
  have hS : va_S A s.heap s.heap [] := va_S.rf
  have hl := lv_entry ([.ref x0, .int w]) (n := 2) (Nat.le_of_ble_eq_true rfl)
  rw [lg_entry_eq]
  generalize (lg_sl ([.ref x0, .int w]) ++ List.replicate (2 - (lg_sl ([.ref x0, .int w])).length) Slot.unset).toArray = ls at hl ⊢
  have hl : lv_has ls 2 [(0, .ref x0), (1, .int w)] := hl
  refine lv_iload_n hx hb dX11_isWay_0 rfl (lv_at hl 1 rfl) ?_
  refine lv_if_lt (tgt := 19) hx hb dX11_isWay_1 (by decide) (fun c_1 => ?_) (fun c_1 => ?_)
  · skip
    refine lv_iconst (v := 0) hx hb dX11_isWay_19 (by decide) ?_
    have hP9 := hP.sub (ws' := [(x0, .inr (11, [.ref rd, .ref dr, .ref bk, .ref st, .ref nw, .ref tr, .ref pl, .ref fl, .ref rg, .int tb, .int ft, .int pc])), (bk, .inr (0, [.int 0, .ref bk_tail, .ref bk_head, .ref bk_hinder, .ref bk_size, .ref bk_walk, .ref bk_draught, .ref bk_doorIn, .ref bk_fanIn, .ref bk_faceIn, .int 0, .int (-1), .ref gr]))]) [0, 1] rfl
    have hD9 := hD.sub (ws' := [(x0, .inr (11, [.ref rd, .ref dr, .ref bk, .ref st, .ref nw, .ref tr, .ref pl, .ref fl, .ref rg, .int tb, .int ft, .int pc])), (bk, .inr (0, [.int 0, .ref bk_tail, .ref bk_head, .ref bk_hinder, .ref bk_size, .ref bk_walk, .ref bk_draught, .ref bk_doorIn, .ref bk_fanIn, .ref bk_faceIn, .int 0, .int (-1), .ref gr]))]) [0, 1] (by decide) rfl
    have hK9 := hK.sub (tys' := []) [] rfl
    exact W.zret (v := 0) hx hb hr rfl (fun t ht hW => ⟨⟨0, (), rfl, rfl, by rw [ht]; exact hP9, va_K.moved hW.alike hK9, hD9⟩, hS.F ht⟩) hS.2.2 dX11_isWay_20
  · skip
    refine lv_iload_n hx hb dX11_isWay_4 rfl (lv_at hl 1 rfl) ?_
    refine lv_aload_n hx hb dX11_isWay_5 rfl (lv_at hl 0 rfl) ?_
    refine va_get (D := (dC, dI)) (ci := 11) (v := .ref bk) (C := RX11) (T := TX11) (N := 12) hx hb hts (fun w h => wM_c (iX11 w h)) hown hK hP 0 rfl rfl 2 (by decide) (hts _ (wM_c wd_672)) (fun _ h9 => h9) rfl dX11_isWay_6 ?_
    refine va_get (D := (dC, dI)) (ci := 0) (v := .int 0) (C := RX0) (T := TX0) (N := 13) hx hb hts (fun w h => wM_c (iX0 w h)) hown hK hP 1 rfl rfl 0 (by decide) (hts _ (wM_c wd_243)) (fun _ h9 => h9) rfl dX11_isWay_9 ?_
    refine lv_icmp_ge (tgt := 19) hx hb dX11_isWay_12 (by decide) (fun c_2 => ?_) (fun c_2 => ?_)
    · skip
      refine lv_iconst (v := 0) hx hb dX11_isWay_19 (by decide) ?_
      have hP9 := hP.sub (ws' := [(x0, .inr (11, [.ref rd, .ref dr, .ref bk, .ref st, .ref nw, .ref tr, .ref pl, .ref fl, .ref rg, .int tb, .int ft, .int pc])), (bk, .inr (0, [.int 0, .ref bk_tail, .ref bk_head, .ref bk_hinder, .ref bk_size, .ref bk_walk, .ref bk_draught, .ref bk_doorIn, .ref bk_fanIn, .ref bk_faceIn, .int 0, .int (-1), .ref gr]))]) [0, 1] rfl
      have hD9 := hD.sub (ws' := [(x0, .inr (11, [.ref rd, .ref dr, .ref bk, .ref st, .ref nw, .ref tr, .ref pl, .ref fl, .ref rg, .int tb, .int ft, .int pc])), (bk, .inr (0, [.int 0, .ref bk_tail, .ref bk_head, .ref bk_hinder, .ref bk_size, .ref bk_walk, .ref bk_draught, .ref bk_doorIn, .ref bk_fanIn, .ref bk_faceIn, .int 0, .int (-1), .ref gr]))]) [0, 1] (by decide) rfl
      have hK9 := hK.sub (tys' := []) [] rfl
      exact W.zret (v := 0) hx hb hr rfl (fun t ht hW => ⟨⟨0, (), rfl, rfl, by rw [ht]; exact hP9, va_K.moved hW.alike hK9, hD9⟩, hS.F ht⟩) hS.2.2 dX11_isWay_20
    · exact absurd (nl0 c_1) c_2
set_option maxHeartbeats 4000000 in
set_option maxRecDepth 100000 in
theorem c_isDoor (l : Launch) (dC : Nat → ClassId) (dI : Nat → Nat → Nat) (n0 sz : Nat) (x0 : Nat) (rd : Nat) (dr : Nat) (bk : Nat) (st : Nat) (nw : Nat) (tr : Nat) (pl : Nat) (fl : Nat) (rg : Nat) (tb : Int32) (ft : Int32) (pc : Int32) (bk_tail : Nat) (bk_head : Nat) (bk_hinder : Nat) (bk_size : Nat) (bk_walk : Nat) (bk_draught : Nat) (bk_doorIn : Nat) (bk_fanIn : Nat) (bk_faceIn : Nat) (gr : Nat) (gr_doorBy : Nat) (gr_pairFirst : Nat) (gr_pairSecond : Nat) (gr_fanPush : Nat) (gr_fanFall : Nat) (gr_fanCost : Nat) (gr_faceWay : Nat) (gr_faceGas : Nat) (gr_faceNeed : Nat) (w : Int32) : Met l yX11_isDoor (wM yX11_isDoor cX11_isDoor 2 (some .boolean)) ({ frames := 0, cells := 0, slots := 0, locals := 0 }) (va_Pc [.ref x0, .int w] (fun U => U.heap.size = sz ∧ n0 ≤ sz ∧ GW n0 U ∧ va_P (dC, dI) classes [(x0, .inr (11, [.ref rd, .ref dr, .ref bk, .ref st, .ref nw, .ref tr, .ref pl, .ref fl, .ref rg, .int tb, .int ft, .int pc])), (bk, .inr (0, [.int 0, .ref bk_tail, .ref bk_head, .ref bk_hinder, .ref bk_size, .ref bk_walk, .ref bk_draught, .ref bk_doorIn, .ref bk_fanIn, .ref bk_faceIn, .int 0, .int (-1), .ref gr])), (gr, .inr (3, [.int 0, .ref gr_doorBy, .int 0, .ref gr_pairFirst, .ref gr_pairSecond, .int 0, .ref gr_fanPush, .ref gr_fanFall, .ref gr_fanCost, .int 0, .ref gr_faceWay, .ref gr_faceGas, .ref gr_faceNeed]))] U.heap ∧ va_K (dC, dI) classes [] U ∧ va_D (fun q => n0 ≤ q) [(x0, .inr (11, [.ref rd, .ref dr, .ref bk, .ref st, .ref nw, .ref tr, .ref pl, .ref fl, .ref rg, .int tb, .int ft, .int pc])), (bk, .inr (0, [.int 0, .ref bk_tail, .ref bk_head, .ref bk_hinder, .ref bk_size, .ref bk_walk, .ref bk_draught, .ref bk_doorIn, .ref bk_fanIn, .ref bk_faceIn, .int 0, .int (-1), .ref gr])), (gr, .inr (3, [.int 0, .ref gr_doorBy, .int 0, .ref gr_pairFirst, .ref gr_pairSecond, .int 0, .ref gr_fanPush, .ref gr_fanFall, .ref gr_fanCost, .int 0, .ref gr_faceWay, .ref gr_faceGas, .ref gr_faceNeed]))])) (va_Qi (fun (r : Int32) (_ : Unit) => r = 0) (fun (_ : Unit) (t : State) => va_P (dC, dI) classes [(x0, .inr (11, [.ref rd, .ref dr, .ref bk, .ref st, .ref nw, .ref tr, .ref pl, .ref fl, .ref rg, .int tb, .int ft, .int pc])), (bk, .inr (0, [.int 0, .ref bk_tail, .ref bk_head, .ref bk_hinder, .ref bk_size, .ref bk_walk, .ref bk_draught, .ref bk_doorIn, .ref bk_fanIn, .ref bk_faceIn, .int 0, .int (-1), .ref gr])), (gr, .inr (3, [.int 0, .ref gr_doorBy, .int 0, .ref gr_pairFirst, .ref gr_pairSecond, .int 0, .ref gr_fanPush, .ref gr_fanFall, .ref gr_fanCost, .int 0, .ref gr_faceWay, .ref gr_faceGas, .ref gr_faceNeed]))] t.heap ∧ va_K (dC, dI) classes [] t ∧ va_D (va_A [(x0, .inr (11, [.ref rd, .ref dr, .ref bk, .ref st, .ref nw, .ref tr, .ref pl, .ref fl, .ref rg, .int tb, .int ft, .int pc])), (bk, .inr (0, [.int 0, .ref bk_tail, .ref bk_head, .ref bk_hinder, .ref bk_size, .ref bk_walk, .ref bk_draught, .ref bk_doorIn, .ref bk_fanIn, .ref bk_faceIn, .int 0, .int (-1), .ref gr])), (gr, .inr (3, [.int 0, .ref gr_doorBy, .int 0, .ref gr_pairFirst, .ref gr_pairSecond, .int 0, .ref gr_fanPush, .ref gr_fanFall, .ref gr_fanCost, .int 0, .ref gr_faceWay, .ref gr_faceGas, .ref gr_faceNeed]))] sz) [(x0, .inr (11, [.ref rd, .ref dr, .ref bk, .ref st, .ref nw, .ref tr, .ref pl, .ref fl, .ref rg, .int tb, .int ft, .int pc])), (bk, .inr (0, [.int 0, .ref bk_tail, .ref bk_head, .ref bk_hinder, .ref bk_size, .ref bk_walk, .ref bk_draught, .ref bk_doorIn, .ref bk_fanIn, .ref bk_faceIn, .int 0, .int (-1), .ref gr])), (gr, .inr (3, [.int 0, .ref gr_doorBy, .int 0, .ref gr_pairFirst, .ref gr_pairSecond, .int 0, .ref gr_fanPush, .ref gr_fanFall, .ref gr_fanCost, .int 0, .ref gr_faceWay, .ref gr_faceGas, .ref gr_faceNeed]))]) (va_A [(x0, .inr (11, [.ref rd, .ref dr, .ref bk, .ref st, .ref nw, .ref tr, .ref pl, .ref fl, .ref rg, .int tb, .int ft, .int pc])), (bk, .inr (0, [.int 0, .ref bk_tail, .ref bk_head, .ref bk_hinder, .ref bk_size, .ref bk_walk, .ref bk_draught, .ref bk_doorIn, .ref bk_fanIn, .ref bk_faceIn, .int 0, .int (-1), .ref gr])), (gr, .inr (3, [.int 0, .ref gr_doorBy, .int 0, .ref gr_pairFirst, .ref gr_pairSecond, .int 0, .ref gr_fanPush, .ref gr_fanFall, .ref gr_fanCost, .int 0, .ref gr_faceWay, .ref gr_faceGas, .ref gr_faceNeed]))] sz)) 0 0 (va_A [(x0, .inr (11, [.ref rd, .ref dr, .ref bk, .ref st, .ref nw, .ref tr, .ref pl, .ref fl, .ref rg, .int tb, .int ft, .int pc])), (bk, .inr (0, [.int 0, .ref bk_tail, .ref bk_head, .ref bk_hinder, .ref bk_size, .ref bk_walk, .ref bk_draught, .ref bk_doorIn, .ref bk_fanIn, .ref bk_faceIn, .int 0, .int (-1), .ref gr])), (gr, .inr (3, [.int 0, .ref gr_doorBy, .int 0, .ref gr_pairFirst, .ref gr_pairSecond, .int 0, .ref gr_fanPush, .ref gr_fanFall, .ref gr_fanCost, .int 0, .ref gr_faceWay, .ref gr_faceGas, .ref gr_faceNeed]))] sz) := by
  refine Met.ofW (cc := cX11_isDoor) (maxL := 2) (ret := (some .boolean)) (by decide) rfl ?_
  intro p e s m args below meth c s₁ B hml hv
  obtain ⟨rfl, hsz, hn0, hG, hP, hK, hD0⟩ := hv
  have hx := B.exec
  have hb := B.bytes
  have hr := B.returns
  have hts := atoms_spec (ws := wM yX11_isDoor cX11_isDoor 2 (some .boolean)) B.pre
  have hown : s.vm.findClass RX11 = some m.cls := findClass_of_methodNamed B.named
  have hlocks := B.notSynchronized
  subst hsz
  have hD := hD0.self (sz := s.heap.size)
  have hA0 := vA_n0 hD0 hn0
  generalize hAe : va_A [(x0, .inr (11, [.ref rd, .ref dr, .ref bk, .ref st, .ref nw, .ref tr, .ref pl, .ref fl, .ref rg, .int tb, .int ft, .int pc])), (bk, .inr (0, [.int 0, .ref bk_tail, .ref bk_head, .ref bk_hinder, .ref bk_size, .ref bk_walk, .ref bk_draught, .ref bk_doorIn, .ref bk_fanIn, .ref bk_faceIn, .int 0, .int (-1), .ref gr])), (gr, .inr (3, [.int 0, .ref gr_doorBy, .int 0, .ref gr_pairFirst, .ref gr_pairSecond, .int 0, .ref gr_fanPush, .ref gr_fanFall, .ref gr_fanCost, .int 0, .ref gr_faceWay, .ref gr_faceGas, .ref gr_faceNeed]))] s.heap.size = A at hD hA0 ⊢
  have hA : ∀ q : Nat, s.heap.size ≤ q → A q := fun q h => by rw [← hAe]; exact Or.inr h
  have hS : va_S A s.heap s.heap [] := va_S.rf
  have hl := lv_entry ([.ref x0, .int w]) (n := 2) (Nat.le_of_ble_eq_true rfl)
  rw [lg_entry_eq]
  generalize (lg_sl ([.ref x0, .int w]) ++ List.replicate (2 - (lg_sl ([.ref x0, .int w])).length) Slot.unset).toArray = ls at hl ⊢
  have hl : lv_has ls 2 [(0, .ref x0), (1, .int w)] := hl
  refine lv_iload_n hx hb dX11_isDoor_0 rfl (lv_at hl 1 rfl) ?_
  refine lv_if_lt (tgt := 22) hx hb dX11_isDoor_1 (by decide) (fun c_1 => ?_) (fun c_1 => ?_)
  · skip
    refine lv_iconst (v := 0) hx hb dX11_isDoor_22 (by decide) ?_
    have hP9 := hP.sub (ws' := [(x0, .inr (11, [.ref rd, .ref dr, .ref bk, .ref st, .ref nw, .ref tr, .ref pl, .ref fl, .ref rg, .int tb, .int ft, .int pc])), (bk, .inr (0, [.int 0, .ref bk_tail, .ref bk_head, .ref bk_hinder, .ref bk_size, .ref bk_walk, .ref bk_draught, .ref bk_doorIn, .ref bk_fanIn, .ref bk_faceIn, .int 0, .int (-1), .ref gr])), (gr, .inr (3, [.int 0, .ref gr_doorBy, .int 0, .ref gr_pairFirst, .ref gr_pairSecond, .int 0, .ref gr_fanPush, .ref gr_fanFall, .ref gr_fanCost, .int 0, .ref gr_faceWay, .ref gr_faceGas, .ref gr_faceNeed]))]) [0, 1, 2] rfl
    have hD9 := hD.sub (ws' := [(x0, .inr (11, [.ref rd, .ref dr, .ref bk, .ref st, .ref nw, .ref tr, .ref pl, .ref fl, .ref rg, .int tb, .int ft, .int pc])), (bk, .inr (0, [.int 0, .ref bk_tail, .ref bk_head, .ref bk_hinder, .ref bk_size, .ref bk_walk, .ref bk_draught, .ref bk_doorIn, .ref bk_fanIn, .ref bk_faceIn, .int 0, .int (-1), .ref gr])), (gr, .inr (3, [.int 0, .ref gr_doorBy, .int 0, .ref gr_pairFirst, .ref gr_pairSecond, .int 0, .ref gr_fanPush, .ref gr_fanFall, .ref gr_fanCost, .int 0, .ref gr_faceWay, .ref gr_faceGas, .ref gr_faceNeed]))]) [0, 1, 2] (by decide) rfl
    have hK9 := hK.sub (tys' := []) [] rfl
    exact W.zret (v := 0) hx hb hr rfl (fun t ht hW => ⟨⟨0, (), rfl, rfl, by rw [ht]; exact hP9, va_K.moved hW.alike hK9, hD9⟩, hS.F ht⟩) hS.2.2 dX11_isDoor_23
  · skip
    refine lv_iload_n hx hb dX11_isDoor_4 rfl (lv_at hl 1 rfl) ?_
    refine lv_aload_n hx hb dX11_isDoor_5 rfl (lv_at hl 0 rfl) ?_
    refine va_get (D := (dC, dI)) (ci := 11) (v := .ref bk) (C := RX11) (T := TX11) (N := 12) hx hb hts (fun w h => wM_c (iX11 w h)) hown hK hP 0 rfl rfl 2 (by decide) (hts _ (wM_c wd_672)) (fun _ h9 => h9) rfl dX11_isDoor_6 ?_
    refine va_get (D := (dC, dI)) (ci := 0) (v := .ref gr) (C := RX0) (T := TX0) (N := 13) hx hb hts (fun w h => wM_c (iX0 w h)) hown hK hP 1 rfl rfl 12 (by decide) (hts _ (wM_c wd_299)) (fun _ h9 => h9) rfl dX11_isDoor_9 ?_
    refine va_get (D := (dC, dI)) (ci := 3) (v := .int 0) (C := RX3) (T := TX3) (N := 13) hx hb hts (fun w h => wM_c (iX3 w h)) hown hK hP 2 rfl rfl 0 (by decide) (hts _ (wM_c wd_163)) (fun _ h9 => h9) rfl dX11_isDoor_12 ?_
    refine lv_icmp_ge (tgt := 22) hx hb dX11_isDoor_15 (by decide) (fun c_2 => ?_) (fun c_2 => ?_)
    · skip
      refine lv_iconst (v := 0) hx hb dX11_isDoor_22 (by decide) ?_
      have hP9 := hP.sub (ws' := [(x0, .inr (11, [.ref rd, .ref dr, .ref bk, .ref st, .ref nw, .ref tr, .ref pl, .ref fl, .ref rg, .int tb, .int ft, .int pc])), (bk, .inr (0, [.int 0, .ref bk_tail, .ref bk_head, .ref bk_hinder, .ref bk_size, .ref bk_walk, .ref bk_draught, .ref bk_doorIn, .ref bk_fanIn, .ref bk_faceIn, .int 0, .int (-1), .ref gr])), (gr, .inr (3, [.int 0, .ref gr_doorBy, .int 0, .ref gr_pairFirst, .ref gr_pairSecond, .int 0, .ref gr_fanPush, .ref gr_fanFall, .ref gr_fanCost, .int 0, .ref gr_faceWay, .ref gr_faceGas, .ref gr_faceNeed]))]) [0, 1, 2] rfl
      have hD9 := hD.sub (ws' := [(x0, .inr (11, [.ref rd, .ref dr, .ref bk, .ref st, .ref nw, .ref tr, .ref pl, .ref fl, .ref rg, .int tb, .int ft, .int pc])), (bk, .inr (0, [.int 0, .ref bk_tail, .ref bk_head, .ref bk_hinder, .ref bk_size, .ref bk_walk, .ref bk_draught, .ref bk_doorIn, .ref bk_fanIn, .ref bk_faceIn, .int 0, .int (-1), .ref gr])), (gr, .inr (3, [.int 0, .ref gr_doorBy, .int 0, .ref gr_pairFirst, .ref gr_pairSecond, .int 0, .ref gr_fanPush, .ref gr_fanFall, .ref gr_fanCost, .int 0, .ref gr_faceWay, .ref gr_faceGas, .ref gr_faceNeed]))]) [0, 1, 2] (by decide) rfl
      have hK9 := hK.sub (tys' := []) [] rfl
      exact W.zret (v := 0) hx hb hr rfl (fun t ht hW => ⟨⟨0, (), rfl, rfl, by rw [ht]; exact hP9, va_K.moved hW.alike hK9, hD9⟩, hS.F ht⟩) hS.2.2 dX11_isDoor_23
    · exact absurd (nl0 c_1) c_2
set_option maxHeartbeats 4000000 in
set_option maxRecDepth 100000 in
theorem c_isFan (l : Launch) (dC : Nat → ClassId) (dI : Nat → Nat → Nat) (n0 sz : Nat) (x0 : Nat) (rd : Nat) (dr : Nat) (bk : Nat) (st : Nat) (nw : Nat) (tr : Nat) (pl : Nat) (fl : Nat) (rg : Nat) (tb : Int32) (ft : Int32) (pc : Int32) (bk_tail : Nat) (bk_head : Nat) (bk_hinder : Nat) (bk_size : Nat) (bk_walk : Nat) (bk_draught : Nat) (bk_doorIn : Nat) (bk_fanIn : Nat) (bk_faceIn : Nat) (gr : Nat) (gr_doorBy : Nat) (gr_pairFirst : Nat) (gr_pairSecond : Nat) (gr_fanPush : Nat) (gr_fanFall : Nat) (gr_fanCost : Nat) (gr_faceWay : Nat) (gr_faceGas : Nat) (gr_faceNeed : Nat) (w : Int32) : Met l yX11_isFan (wM yX11_isFan cX11_isFan 2 (some .boolean)) ({ frames := 0, cells := 0, slots := 0, locals := 0 }) (va_Pc [.ref x0, .int w] (fun U => U.heap.size = sz ∧ n0 ≤ sz ∧ GW n0 U ∧ va_P (dC, dI) classes [(x0, .inr (11, [.ref rd, .ref dr, .ref bk, .ref st, .ref nw, .ref tr, .ref pl, .ref fl, .ref rg, .int tb, .int ft, .int pc])), (bk, .inr (0, [.int 0, .ref bk_tail, .ref bk_head, .ref bk_hinder, .ref bk_size, .ref bk_walk, .ref bk_draught, .ref bk_doorIn, .ref bk_fanIn, .ref bk_faceIn, .int 0, .int (-1), .ref gr])), (gr, .inr (3, [.int 0, .ref gr_doorBy, .int 0, .ref gr_pairFirst, .ref gr_pairSecond, .int 0, .ref gr_fanPush, .ref gr_fanFall, .ref gr_fanCost, .int 0, .ref gr_faceWay, .ref gr_faceGas, .ref gr_faceNeed]))] U.heap ∧ va_K (dC, dI) classes [] U ∧ va_D (fun q => n0 ≤ q) [(x0, .inr (11, [.ref rd, .ref dr, .ref bk, .ref st, .ref nw, .ref tr, .ref pl, .ref fl, .ref rg, .int tb, .int ft, .int pc])), (bk, .inr (0, [.int 0, .ref bk_tail, .ref bk_head, .ref bk_hinder, .ref bk_size, .ref bk_walk, .ref bk_draught, .ref bk_doorIn, .ref bk_fanIn, .ref bk_faceIn, .int 0, .int (-1), .ref gr])), (gr, .inr (3, [.int 0, .ref gr_doorBy, .int 0, .ref gr_pairFirst, .ref gr_pairSecond, .int 0, .ref gr_fanPush, .ref gr_fanFall, .ref gr_fanCost, .int 0, .ref gr_faceWay, .ref gr_faceGas, .ref gr_faceNeed]))])) (va_Qi (fun (r : Int32) (_ : Unit) => r = 0) (fun (_ : Unit) (t : State) => va_P (dC, dI) classes [(x0, .inr (11, [.ref rd, .ref dr, .ref bk, .ref st, .ref nw, .ref tr, .ref pl, .ref fl, .ref rg, .int tb, .int ft, .int pc])), (bk, .inr (0, [.int 0, .ref bk_tail, .ref bk_head, .ref bk_hinder, .ref bk_size, .ref bk_walk, .ref bk_draught, .ref bk_doorIn, .ref bk_fanIn, .ref bk_faceIn, .int 0, .int (-1), .ref gr])), (gr, .inr (3, [.int 0, .ref gr_doorBy, .int 0, .ref gr_pairFirst, .ref gr_pairSecond, .int 0, .ref gr_fanPush, .ref gr_fanFall, .ref gr_fanCost, .int 0, .ref gr_faceWay, .ref gr_faceGas, .ref gr_faceNeed]))] t.heap ∧ va_K (dC, dI) classes [] t ∧ va_D (va_A [(x0, .inr (11, [.ref rd, .ref dr, .ref bk, .ref st, .ref nw, .ref tr, .ref pl, .ref fl, .ref rg, .int tb, .int ft, .int pc])), (bk, .inr (0, [.int 0, .ref bk_tail, .ref bk_head, .ref bk_hinder, .ref bk_size, .ref bk_walk, .ref bk_draught, .ref bk_doorIn, .ref bk_fanIn, .ref bk_faceIn, .int 0, .int (-1), .ref gr])), (gr, .inr (3, [.int 0, .ref gr_doorBy, .int 0, .ref gr_pairFirst, .ref gr_pairSecond, .int 0, .ref gr_fanPush, .ref gr_fanFall, .ref gr_fanCost, .int 0, .ref gr_faceWay, .ref gr_faceGas, .ref gr_faceNeed]))] sz) [(x0, .inr (11, [.ref rd, .ref dr, .ref bk, .ref st, .ref nw, .ref tr, .ref pl, .ref fl, .ref rg, .int tb, .int ft, .int pc])), (bk, .inr (0, [.int 0, .ref bk_tail, .ref bk_head, .ref bk_hinder, .ref bk_size, .ref bk_walk, .ref bk_draught, .ref bk_doorIn, .ref bk_fanIn, .ref bk_faceIn, .int 0, .int (-1), .ref gr])), (gr, .inr (3, [.int 0, .ref gr_doorBy, .int 0, .ref gr_pairFirst, .ref gr_pairSecond, .int 0, .ref gr_fanPush, .ref gr_fanFall, .ref gr_fanCost, .int 0, .ref gr_faceWay, .ref gr_faceGas, .ref gr_faceNeed]))]) (va_A [(x0, .inr (11, [.ref rd, .ref dr, .ref bk, .ref st, .ref nw, .ref tr, .ref pl, .ref fl, .ref rg, .int tb, .int ft, .int pc])), (bk, .inr (0, [.int 0, .ref bk_tail, .ref bk_head, .ref bk_hinder, .ref bk_size, .ref bk_walk, .ref bk_draught, .ref bk_doorIn, .ref bk_fanIn, .ref bk_faceIn, .int 0, .int (-1), .ref gr])), (gr, .inr (3, [.int 0, .ref gr_doorBy, .int 0, .ref gr_pairFirst, .ref gr_pairSecond, .int 0, .ref gr_fanPush, .ref gr_fanFall, .ref gr_fanCost, .int 0, .ref gr_faceWay, .ref gr_faceGas, .ref gr_faceNeed]))] sz)) 0 0 (va_A [(x0, .inr (11, [.ref rd, .ref dr, .ref bk, .ref st, .ref nw, .ref tr, .ref pl, .ref fl, .ref rg, .int tb, .int ft, .int pc])), (bk, .inr (0, [.int 0, .ref bk_tail, .ref bk_head, .ref bk_hinder, .ref bk_size, .ref bk_walk, .ref bk_draught, .ref bk_doorIn, .ref bk_fanIn, .ref bk_faceIn, .int 0, .int (-1), .ref gr])), (gr, .inr (3, [.int 0, .ref gr_doorBy, .int 0, .ref gr_pairFirst, .ref gr_pairSecond, .int 0, .ref gr_fanPush, .ref gr_fanFall, .ref gr_fanCost, .int 0, .ref gr_faceWay, .ref gr_faceGas, .ref gr_faceNeed]))] sz) := by
  refine Met.ofW (cc := cX11_isFan) (maxL := 2) (ret := (some .boolean)) (by decide) rfl ?_
  intro p e s m args below meth c s₁ B hml hv
  obtain ⟨rfl, hsz, hn0, hG, hP, hK, hD0⟩ := hv
  have hx := B.exec
  have hb := B.bytes
  have hr := B.returns
  have hts := atoms_spec (ws := wM yX11_isFan cX11_isFan 2 (some .boolean)) B.pre
  have hown : s.vm.findClass RX11 = some m.cls := findClass_of_methodNamed B.named
  have hlocks := B.notSynchronized
  subst hsz
  have hD := hD0.self (sz := s.heap.size)
  have hA0 := vA_n0 hD0 hn0
  generalize hAe : va_A [(x0, .inr (11, [.ref rd, .ref dr, .ref bk, .ref st, .ref nw, .ref tr, .ref pl, .ref fl, .ref rg, .int tb, .int ft, .int pc])), (bk, .inr (0, [.int 0, .ref bk_tail, .ref bk_head, .ref bk_hinder, .ref bk_size, .ref bk_walk, .ref bk_draught, .ref bk_doorIn, .ref bk_fanIn, .ref bk_faceIn, .int 0, .int (-1), .ref gr])), (gr, .inr (3, [.int 0, .ref gr_doorBy, .int 0, .ref gr_pairFirst, .ref gr_pairSecond, .int 0, .ref gr_fanPush, .ref gr_fanFall, .ref gr_fanCost, .int 0, .ref gr_faceWay, .ref gr_faceGas, .ref gr_faceNeed]))] s.heap.size = A at hD hA0 ⊢
  have hA : ∀ q : Nat, s.heap.size ≤ q → A q := fun q h => by rw [← hAe]; exact Or.inr h
  have hS : va_S A s.heap s.heap [] := va_S.rf
  have hl := lv_entry ([.ref x0, .int w]) (n := 2) (Nat.le_of_ble_eq_true rfl)
  rw [lg_entry_eq]
  generalize (lg_sl ([.ref x0, .int w]) ++ List.replicate (2 - (lg_sl ([.ref x0, .int w])).length) Slot.unset).toArray = ls at hl ⊢
  have hl : lv_has ls 2 [(0, .ref x0), (1, .int w)] := hl
  refine lv_iload_n hx hb dX11_isFan_0 rfl (lv_at hl 1 rfl) ?_
  refine lv_if_lt (tgt := 22) hx hb dX11_isFan_1 (by decide) (fun c_1 => ?_) (fun c_1 => ?_)
  · skip
    refine lv_iconst (v := 0) hx hb dX11_isFan_22 (by decide) ?_
    have hP9 := hP.sub (ws' := [(x0, .inr (11, [.ref rd, .ref dr, .ref bk, .ref st, .ref nw, .ref tr, .ref pl, .ref fl, .ref rg, .int tb, .int ft, .int pc])), (bk, .inr (0, [.int 0, .ref bk_tail, .ref bk_head, .ref bk_hinder, .ref bk_size, .ref bk_walk, .ref bk_draught, .ref bk_doorIn, .ref bk_fanIn, .ref bk_faceIn, .int 0, .int (-1), .ref gr])), (gr, .inr (3, [.int 0, .ref gr_doorBy, .int 0, .ref gr_pairFirst, .ref gr_pairSecond, .int 0, .ref gr_fanPush, .ref gr_fanFall, .ref gr_fanCost, .int 0, .ref gr_faceWay, .ref gr_faceGas, .ref gr_faceNeed]))]) [0, 1, 2] rfl
    have hD9 := hD.sub (ws' := [(x0, .inr (11, [.ref rd, .ref dr, .ref bk, .ref st, .ref nw, .ref tr, .ref pl, .ref fl, .ref rg, .int tb, .int ft, .int pc])), (bk, .inr (0, [.int 0, .ref bk_tail, .ref bk_head, .ref bk_hinder, .ref bk_size, .ref bk_walk, .ref bk_draught, .ref bk_doorIn, .ref bk_fanIn, .ref bk_faceIn, .int 0, .int (-1), .ref gr])), (gr, .inr (3, [.int 0, .ref gr_doorBy, .int 0, .ref gr_pairFirst, .ref gr_pairSecond, .int 0, .ref gr_fanPush, .ref gr_fanFall, .ref gr_fanCost, .int 0, .ref gr_faceWay, .ref gr_faceGas, .ref gr_faceNeed]))]) [0, 1, 2] (by decide) rfl
    have hK9 := hK.sub (tys' := []) [] rfl
    exact W.zret (v := 0) hx hb hr rfl (fun t ht hW => ⟨⟨0, (), rfl, rfl, by rw [ht]; exact hP9, va_K.moved hW.alike hK9, hD9⟩, hS.F ht⟩) hS.2.2 dX11_isFan_23
  · skip
    refine lv_iload_n hx hb dX11_isFan_4 rfl (lv_at hl 1 rfl) ?_
    refine lv_aload_n hx hb dX11_isFan_5 rfl (lv_at hl 0 rfl) ?_
    refine va_get (D := (dC, dI)) (ci := 11) (v := .ref bk) (C := RX11) (T := TX11) (N := 12) hx hb hts (fun w h => wM_c (iX11 w h)) hown hK hP 0 rfl rfl 2 (by decide) (hts _ (wM_c wd_672)) (fun _ h9 => h9) rfl dX11_isFan_6 ?_
    refine va_get (D := (dC, dI)) (ci := 0) (v := .ref gr) (C := RX0) (T := TX0) (N := 13) hx hb hts (fun w h => wM_c (iX0 w h)) hown hK hP 1 rfl rfl 12 (by decide) (hts _ (wM_c wd_299)) (fun _ h9 => h9) rfl dX11_isFan_9 ?_
    refine va_get (D := (dC, dI)) (ci := 3) (v := .int 0) (C := RX3) (T := TX3) (N := 13) hx hb hts (fun w h => wM_c (iX3 w h)) hown hK hP 2 rfl rfl 5 (by decide) (hts _ (wM_c wd_182)) (fun _ h9 => h9) rfl dX11_isFan_12 ?_
    refine lv_icmp_ge (tgt := 22) hx hb dX11_isFan_15 (by decide) (fun c_2 => ?_) (fun c_2 => ?_)
    · skip
      refine lv_iconst (v := 0) hx hb dX11_isFan_22 (by decide) ?_
      have hP9 := hP.sub (ws' := [(x0, .inr (11, [.ref rd, .ref dr, .ref bk, .ref st, .ref nw, .ref tr, .ref pl, .ref fl, .ref rg, .int tb, .int ft, .int pc])), (bk, .inr (0, [.int 0, .ref bk_tail, .ref bk_head, .ref bk_hinder, .ref bk_size, .ref bk_walk, .ref bk_draught, .ref bk_doorIn, .ref bk_fanIn, .ref bk_faceIn, .int 0, .int (-1), .ref gr])), (gr, .inr (3, [.int 0, .ref gr_doorBy, .int 0, .ref gr_pairFirst, .ref gr_pairSecond, .int 0, .ref gr_fanPush, .ref gr_fanFall, .ref gr_fanCost, .int 0, .ref gr_faceWay, .ref gr_faceGas, .ref gr_faceNeed]))]) [0, 1, 2] rfl
      have hD9 := hD.sub (ws' := [(x0, .inr (11, [.ref rd, .ref dr, .ref bk, .ref st, .ref nw, .ref tr, .ref pl, .ref fl, .ref rg, .int tb, .int ft, .int pc])), (bk, .inr (0, [.int 0, .ref bk_tail, .ref bk_head, .ref bk_hinder, .ref bk_size, .ref bk_walk, .ref bk_draught, .ref bk_doorIn, .ref bk_fanIn, .ref bk_faceIn, .int 0, .int (-1), .ref gr])), (gr, .inr (3, [.int 0, .ref gr_doorBy, .int 0, .ref gr_pairFirst, .ref gr_pairSecond, .int 0, .ref gr_fanPush, .ref gr_fanFall, .ref gr_fanCost, .int 0, .ref gr_faceWay, .ref gr_faceGas, .ref gr_faceNeed]))]) [0, 1, 2] (by decide) rfl
      have hK9 := hK.sub (tys' := []) [] rfl
      exact W.zret (v := 0) hx hb hr rfl (fun t ht hW => ⟨⟨0, (), rfl, rfl, by rw [ht]; exact hP9, va_K.moved hW.alike hK9, hD9⟩, hS.F ht⟩) hS.2.2 dX11_isFan_23
    · exact absurd (nl0 c_1) c_2
set_option maxHeartbeats 4000000 in
set_option maxRecDepth 100000 in
theorem c_isBooked (l : Launch) (dC : Nat → ClassId) (dI : Nat → Nat → Nat) (n0 sz : Nat) (x0 : Nat) (rd : Nat) (dr : Nat) (bk : Nat) (st : Nat) (nw : Nat) (tr : Nat) (pl : Nat) (fl : Nat) (rg : Nat) (tb : Int32) (ft : Int32) (pc : Int32) (bk_tail : Nat) (bk_head : Nat) (bk_hinder : Nat) (bk_size : Nat) (bk_walk : Nat) (bk_draught : Nat) (bk_doorIn : Nat) (bk_fanIn : Nat) (bk_faceIn : Nat) (gr : Nat) : Met l yX11_isBooked (wM yX11_isBooked cX11_isBooked 1 (some .boolean)) ({ frames := 0, cells := 0, slots := 0, locals := 0 }) (va_Pc [.ref x0] (fun U => U.heap.size = sz ∧ n0 ≤ sz ∧ GW n0 U ∧ va_P (dC, dI) classes [(x0, .inr (11, [.ref rd, .ref dr, .ref bk, .ref st, .ref nw, .ref tr, .ref pl, .ref fl, .ref rg, .int tb, .int ft, .int pc])), (bk, .inr (0, [.int 0, .ref bk_tail, .ref bk_head, .ref bk_hinder, .ref bk_size, .ref bk_walk, .ref bk_draught, .ref bk_doorIn, .ref bk_fanIn, .ref bk_faceIn, .int 0, .int (-1), .ref gr]))] U.heap ∧ va_K (dC, dI) classes [] U ∧ va_D (fun q => n0 ≤ q) [(x0, .inr (11, [.ref rd, .ref dr, .ref bk, .ref st, .ref nw, .ref tr, .ref pl, .ref fl, .ref rg, .int tb, .int ft, .int pc])), (bk, .inr (0, [.int 0, .ref bk_tail, .ref bk_head, .ref bk_hinder, .ref bk_size, .ref bk_walk, .ref bk_draught, .ref bk_doorIn, .ref bk_fanIn, .ref bk_faceIn, .int 0, .int (-1), .ref gr]))])) (va_Qi (fun (r : Int32) (_ : Unit) => r = 0) (fun (_ : Unit) (t : State) => va_P (dC, dI) classes [(x0, .inr (11, [.ref rd, .ref dr, .ref bk, .ref st, .ref nw, .ref tr, .ref pl, .ref fl, .ref rg, .int tb, .int ft, .int pc])), (bk, .inr (0, [.int 0, .ref bk_tail, .ref bk_head, .ref bk_hinder, .ref bk_size, .ref bk_walk, .ref bk_draught, .ref bk_doorIn, .ref bk_fanIn, .ref bk_faceIn, .int 0, .int (-1), .ref gr]))] t.heap ∧ va_K (dC, dI) classes [] t ∧ va_D (va_A [(x0, .inr (11, [.ref rd, .ref dr, .ref bk, .ref st, .ref nw, .ref tr, .ref pl, .ref fl, .ref rg, .int tb, .int ft, .int pc])), (bk, .inr (0, [.int 0, .ref bk_tail, .ref bk_head, .ref bk_hinder, .ref bk_size, .ref bk_walk, .ref bk_draught, .ref bk_doorIn, .ref bk_fanIn, .ref bk_faceIn, .int 0, .int (-1), .ref gr]))] sz) [(x0, .inr (11, [.ref rd, .ref dr, .ref bk, .ref st, .ref nw, .ref tr, .ref pl, .ref fl, .ref rg, .int tb, .int ft, .int pc])), (bk, .inr (0, [.int 0, .ref bk_tail, .ref bk_head, .ref bk_hinder, .ref bk_size, .ref bk_walk, .ref bk_draught, .ref bk_doorIn, .ref bk_fanIn, .ref bk_faceIn, .int 0, .int (-1), .ref gr]))]) (va_A [(x0, .inr (11, [.ref rd, .ref dr, .ref bk, .ref st, .ref nw, .ref tr, .ref pl, .ref fl, .ref rg, .int tb, .int ft, .int pc])), (bk, .inr (0, [.int 0, .ref bk_tail, .ref bk_head, .ref bk_hinder, .ref bk_size, .ref bk_walk, .ref bk_draught, .ref bk_doorIn, .ref bk_fanIn, .ref bk_faceIn, .int 0, .int (-1), .ref gr]))] sz)) 0 0 (va_A [(x0, .inr (11, [.ref rd, .ref dr, .ref bk, .ref st, .ref nw, .ref tr, .ref pl, .ref fl, .ref rg, .int tb, .int ft, .int pc])), (bk, .inr (0, [.int 0, .ref bk_tail, .ref bk_head, .ref bk_hinder, .ref bk_size, .ref bk_walk, .ref bk_draught, .ref bk_doorIn, .ref bk_fanIn, .ref bk_faceIn, .int 0, .int (-1), .ref gr]))] sz) := by
  refine Met.ofW (cc := cX11_isBooked) (maxL := 1) (ret := (some .boolean)) (by decide) rfl ?_
  intro p e s m args below meth c s₁ B hml hv
  obtain ⟨rfl, hsz, hn0, hG, hP, hK, hD0⟩ := hv
  have hx := B.exec
  have hb := B.bytes
  have hr := B.returns
  have hts := atoms_spec (ws := wM yX11_isBooked cX11_isBooked 1 (some .boolean)) B.pre
  have hown : s.vm.findClass RX11 = some m.cls := findClass_of_methodNamed B.named
  have hlocks := B.notSynchronized
  subst hsz
  have hD := hD0.self (sz := s.heap.size)
  have hA0 := vA_n0 hD0 hn0
  generalize hAe : va_A [(x0, .inr (11, [.ref rd, .ref dr, .ref bk, .ref st, .ref nw, .ref tr, .ref pl, .ref fl, .ref rg, .int tb, .int ft, .int pc])), (bk, .inr (0, [.int 0, .ref bk_tail, .ref bk_head, .ref bk_hinder, .ref bk_size, .ref bk_walk, .ref bk_draught, .ref bk_doorIn, .ref bk_fanIn, .ref bk_faceIn, .int 0, .int (-1), .ref gr]))] s.heap.size = A at hD hA0 ⊢
  have hA : ∀ q : Nat, s.heap.size ≤ q → A q := fun q h => by rw [← hAe]; exact Or.inr h
  have hS : va_S A s.heap s.heap [] := va_S.rf
  have hl := lv_entry ([.ref x0]) (n := 1) (Nat.le_of_ble_eq_true rfl)
  rw [lg_entry_eq]
  generalize (lg_sl ([.ref x0]) ++ List.replicate (1 - (lg_sl ([.ref x0])).length) Slot.unset).toArray = ls at hl ⊢
  have hl : lv_has ls 1 [(0, .ref x0)] := hl
  refine lv_aload_n hx hb dX11_isBooked_0 rfl (lv_at hl 0 rfl) ?_
  refine va_get (D := (dC, dI)) (ci := 11) (v := .ref bk) (C := RX11) (T := TX11) (N := 12) hx hb hts (fun w h => wM_c (iX11 w h)) hown hK hP 0 rfl rfl 2 (by decide) (hts _ (wM_c wd_672)) (fun _ h9 => h9) rfl dX11_isBooked_1 ?_
  refine va_get (D := (dC, dI)) (ci := 0) (v := .int 0) (C := RX0) (T := TX0) (N := 13) hx hb hts (fun w h => wM_c (iX0 w h)) hown hK hP 1 rfl rfl 0 (by decide) (hts _ (wM_c wd_243)) (fun _ h9 => h9) rfl dX11_isBooked_4 ?_
  refine lv_if_le (tgt := 14) hx hb dX11_isBooked_7 (by decide) (fun c_1 => ?_) (fun c_1 => ?_)
  · skip
    refine lv_iconst (v := 0) hx hb dX11_isBooked_14 (by decide) ?_
    have hP9 := hP.sub (ws' := [(x0, .inr (11, [.ref rd, .ref dr, .ref bk, .ref st, .ref nw, .ref tr, .ref pl, .ref fl, .ref rg, .int tb, .int ft, .int pc])), (bk, .inr (0, [.int 0, .ref bk_tail, .ref bk_head, .ref bk_hinder, .ref bk_size, .ref bk_walk, .ref bk_draught, .ref bk_doorIn, .ref bk_fanIn, .ref bk_faceIn, .int 0, .int (-1), .ref gr]))]) [0, 1] rfl
    have hD9 := hD.sub (ws' := [(x0, .inr (11, [.ref rd, .ref dr, .ref bk, .ref st, .ref nw, .ref tr, .ref pl, .ref fl, .ref rg, .int tb, .int ft, .int pc])), (bk, .inr (0, [.int 0, .ref bk_tail, .ref bk_head, .ref bk_hinder, .ref bk_size, .ref bk_walk, .ref bk_draught, .ref bk_doorIn, .ref bk_fanIn, .ref bk_faceIn, .int 0, .int (-1), .ref gr]))]) [0, 1] (by decide) rfl
    have hK9 := hK.sub (tys' := []) [] rfl
    exact W.zret (v := 0) hx hb hr rfl (fun t ht hW => ⟨⟨0, (), rfl, rfl, by rw [ht]; exact hP9, va_K.moved hW.alike hK9, hD9⟩, hS.F ht⟩) hS.2.2 dX11_isBooked_15
  · exact absurd c_1 (by decide)
set_option maxHeartbeats 4000000 in
set_option maxRecDepth 100000 in
theorem c_isMan (l : Launch) (dC : Nat → ClassId) (dI : Nat → Nat → Nat) (n0 sz : Nat) (x0 : Nat) (rd : Nat) (dr : Nat) (bk : Nat) (st : Nat) (nw : Nat) (tr : Nat) (pl : Nat) (fl : Nat) (rg : Nat) (tb : Int32) (ft : Int32) (pc : Int32) (fl_knotOf : Nat) (fl_smokeAt : Nat) (fl_reach : Nat) (fl_route : Nat) (fl_book : Nat) (fl_state : Nat) (fl_smokeIn : Nat) (w : Int32) : Met l yX11_isMan (wM yX11_isMan cX11_isMan 2 (some .boolean)) ({ frames := 0, cells := 0, slots := 0, locals := 0 }) (va_Pc [.ref x0, .int w] (fun U => U.heap.size = sz ∧ n0 ≤ sz ∧ GW n0 U ∧ va_P (dC, dI) classes [(x0, .inr (11, [.ref rd, .ref dr, .ref bk, .ref st, .ref nw, .ref tr, .ref pl, .ref fl, .ref rg, .int tb, .int ft, .int pc])), (fl, .inr (1, [.int 0, .ref fl_knotOf, .ref fl_smokeAt, .ref fl_reach, .ref fl_route, .ref fl_book, .ref fl_state, .ref fl_smokeIn]))] U.heap ∧ va_K (dC, dI) classes [] U ∧ va_D (fun q => n0 ≤ q) [(x0, .inr (11, [.ref rd, .ref dr, .ref bk, .ref st, .ref nw, .ref tr, .ref pl, .ref fl, .ref rg, .int tb, .int ft, .int pc])), (fl, .inr (1, [.int 0, .ref fl_knotOf, .ref fl_smokeAt, .ref fl_reach, .ref fl_route, .ref fl_book, .ref fl_state, .ref fl_smokeIn]))])) (va_Qi (fun (r : Int32) (_ : Unit) => r = 0) (fun (_ : Unit) (t : State) => va_P (dC, dI) classes [(x0, .inr (11, [.ref rd, .ref dr, .ref bk, .ref st, .ref nw, .ref tr, .ref pl, .ref fl, .ref rg, .int tb, .int ft, .int pc])), (fl, .inr (1, [.int 0, .ref fl_knotOf, .ref fl_smokeAt, .ref fl_reach, .ref fl_route, .ref fl_book, .ref fl_state, .ref fl_smokeIn]))] t.heap ∧ va_K (dC, dI) classes [] t ∧ va_D (va_A [(x0, .inr (11, [.ref rd, .ref dr, .ref bk, .ref st, .ref nw, .ref tr, .ref pl, .ref fl, .ref rg, .int tb, .int ft, .int pc])), (fl, .inr (1, [.int 0, .ref fl_knotOf, .ref fl_smokeAt, .ref fl_reach, .ref fl_route, .ref fl_book, .ref fl_state, .ref fl_smokeIn]))] sz) [(x0, .inr (11, [.ref rd, .ref dr, .ref bk, .ref st, .ref nw, .ref tr, .ref pl, .ref fl, .ref rg, .int tb, .int ft, .int pc])), (fl, .inr (1, [.int 0, .ref fl_knotOf, .ref fl_smokeAt, .ref fl_reach, .ref fl_route, .ref fl_book, .ref fl_state, .ref fl_smokeIn]))]) (va_A [(x0, .inr (11, [.ref rd, .ref dr, .ref bk, .ref st, .ref nw, .ref tr, .ref pl, .ref fl, .ref rg, .int tb, .int ft, .int pc])), (fl, .inr (1, [.int 0, .ref fl_knotOf, .ref fl_smokeAt, .ref fl_reach, .ref fl_route, .ref fl_book, .ref fl_state, .ref fl_smokeIn]))] sz)) 0 0 (va_A [(x0, .inr (11, [.ref rd, .ref dr, .ref bk, .ref st, .ref nw, .ref tr, .ref pl, .ref fl, .ref rg, .int tb, .int ft, .int pc])), (fl, .inr (1, [.int 0, .ref fl_knotOf, .ref fl_smokeAt, .ref fl_reach, .ref fl_route, .ref fl_book, .ref fl_state, .ref fl_smokeIn]))] sz) := by
  refine Met.ofW (cc := cX11_isMan) (maxL := 2) (ret := (some .boolean)) (by decide) rfl ?_
  intro p e s m args below meth c s₁ B hml hv
  obtain ⟨rfl, hsz, hn0, hG, hP, hK, hD0⟩ := hv
  have hx := B.exec
  have hb := B.bytes
  have hr := B.returns
  have hts := atoms_spec (ws := wM yX11_isMan cX11_isMan 2 (some .boolean)) B.pre
  have hown : s.vm.findClass RX11 = some m.cls := findClass_of_methodNamed B.named
  have hlocks := B.notSynchronized
  subst hsz
  have hD := hD0.self (sz := s.heap.size)
  have hA0 := vA_n0 hD0 hn0
  generalize hAe : va_A [(x0, .inr (11, [.ref rd, .ref dr, .ref bk, .ref st, .ref nw, .ref tr, .ref pl, .ref fl, .ref rg, .int tb, .int ft, .int pc])), (fl, .inr (1, [.int 0, .ref fl_knotOf, .ref fl_smokeAt, .ref fl_reach, .ref fl_route, .ref fl_book, .ref fl_state, .ref fl_smokeIn]))] s.heap.size = A at hD hA0 ⊢
  have hA : ∀ q : Nat, s.heap.size ≤ q → A q := fun q h => by rw [← hAe]; exact Or.inr h
  have hS : va_S A s.heap s.heap [] := va_S.rf
  have hl := lv_entry ([.ref x0, .int w]) (n := 2) (Nat.le_of_ble_eq_true rfl)
  rw [lg_entry_eq]
  generalize (lg_sl ([.ref x0, .int w]) ++ List.replicate (2 - (lg_sl ([.ref x0, .int w])).length) Slot.unset).toArray = ls at hl ⊢
  have hl : lv_has ls 2 [(0, .ref x0), (1, .int w)] := hl
  refine lv_iload_n hx hb dX11_isMan_0 rfl (lv_at hl 1 rfl) ?_
  refine lv_if_lt (tgt := 19) hx hb dX11_isMan_1 (by decide) (fun c_1 => ?_) (fun c_1 => ?_)
  · skip
    refine lv_iconst (v := 0) hx hb dX11_isMan_19 (by decide) ?_
    have hP9 := hP.sub (ws' := [(x0, .inr (11, [.ref rd, .ref dr, .ref bk, .ref st, .ref nw, .ref tr, .ref pl, .ref fl, .ref rg, .int tb, .int ft, .int pc])), (fl, .inr (1, [.int 0, .ref fl_knotOf, .ref fl_smokeAt, .ref fl_reach, .ref fl_route, .ref fl_book, .ref fl_state, .ref fl_smokeIn]))]) [0, 1] rfl
    have hD9 := hD.sub (ws' := [(x0, .inr (11, [.ref rd, .ref dr, .ref bk, .ref st, .ref nw, .ref tr, .ref pl, .ref fl, .ref rg, .int tb, .int ft, .int pc])), (fl, .inr (1, [.int 0, .ref fl_knotOf, .ref fl_smokeAt, .ref fl_reach, .ref fl_route, .ref fl_book, .ref fl_state, .ref fl_smokeIn]))]) [0, 1] (by decide) rfl
    have hK9 := hK.sub (tys' := []) [] rfl
    exact W.zret (v := 0) hx hb hr rfl (fun t ht hW => ⟨⟨0, (), rfl, rfl, by rw [ht]; exact hP9, va_K.moved hW.alike hK9, hD9⟩, hS.F ht⟩) hS.2.2 dX11_isMan_20
  · skip
    refine lv_iload_n hx hb dX11_isMan_4 rfl (lv_at hl 1 rfl) ?_
    refine lv_aload_n hx hb dX11_isMan_5 rfl (lv_at hl 0 rfl) ?_
    refine va_get (D := (dC, dI)) (ci := 11) (v := .ref fl) (C := RX11) (T := TX11) (N := 12) hx hb hts (fun w h => wM_c (iX11 w h)) hown hK hP 0 rfl rfl 7 (by decide) (hts _ (wM_c wd_677)) (fun _ h9 => h9) rfl dX11_isMan_6 ?_
    refine va_get (D := (dC, dI)) (ci := 1) (v := .int 0) (C := RX1) (T := TX1) (N := 8) hx hb hts (fun w h => wM_c (iX1 w h)) hown hK hP 1 rfl rfl 0 (by decide) (hts _ (wM_c wd_614)) (fun _ h9 => h9) rfl dX11_isMan_9 ?_
    refine lv_icmp_ge (tgt := 19) hx hb dX11_isMan_12 (by decide) (fun c_2 => ?_) (fun c_2 => ?_)
    · skip
      refine lv_iconst (v := 0) hx hb dX11_isMan_19 (by decide) ?_
      have hP9 := hP.sub (ws' := [(x0, .inr (11, [.ref rd, .ref dr, .ref bk, .ref st, .ref nw, .ref tr, .ref pl, .ref fl, .ref rg, .int tb, .int ft, .int pc])), (fl, .inr (1, [.int 0, .ref fl_knotOf, .ref fl_smokeAt, .ref fl_reach, .ref fl_route, .ref fl_book, .ref fl_state, .ref fl_smokeIn]))]) [0, 1] rfl
      have hD9 := hD.sub (ws' := [(x0, .inr (11, [.ref rd, .ref dr, .ref bk, .ref st, .ref nw, .ref tr, .ref pl, .ref fl, .ref rg, .int tb, .int ft, .int pc])), (fl, .inr (1, [.int 0, .ref fl_knotOf, .ref fl_smokeAt, .ref fl_reach, .ref fl_route, .ref fl_book, .ref fl_state, .ref fl_smokeIn]))]) [0, 1] (by decide) rfl
      have hK9 := hK.sub (tys' := []) [] rfl
      exact W.zret (v := 0) hx hb hr rfl (fun t ht hW => ⟨⟨0, (), rfl, rfl, by rw [ht]; exact hP9, va_K.moved hW.alike hK9, hD9⟩, hS.F ht⟩) hS.2.2 dX11_isMan_20
    · exact absurd (nl0 c_1) c_2
end
section
theorem sw_0_2 (x : Int32) : (x.toInt < 0 ∨ 2 < x.toInt) ∨ x = 0 ∨ x = 1 ∨ x = 2 := by
  rcases (show (x.toInt < 0 ∨ 2 < x.toInt) ∨ x.toInt = 0 ∨ x.toInt = 1 ∨ x.toInt = 2 by omega) with h | h | h | h
  · exact Or.inl h
  · exact Or.inr (Or.inl (Int32.toInt_inj.mp h))
  · exact Or.inr (Or.inr (Or.inl (Int32.toInt_inj.mp h)))
  · exact Or.inr (Or.inr (Or.inr (Int32.toInt_inj.mp h)))
theorem sw_0_10 (x : Int32) : (x.toInt < 0 ∨ 10 < x.toInt) ∨ x = 0 ∨ x = 1 ∨ x = 2 ∨ x = 3 ∨ x = 4 ∨ x = 5 ∨ x = 6 ∨ x = 7 ∨ x = 8 ∨ x = 9 ∨ x = 10 := by
  rcases (show (x.toInt < 0 ∨ 10 < x.toInt) ∨ x.toInt = 0 ∨ x.toInt = 1 ∨ x.toInt = 2 ∨ x.toInt = 3 ∨ x.toInt = 4 ∨ x.toInt = 5 ∨ x.toInt = 6 ∨ x.toInt = 7 ∨ x.toInt = 8 ∨ x.toInt = 9 ∨ x.toInt = 10 by omega) with h | h | h | h | h | h | h | h | h | h | h | h
  · exact Or.inl h
  · exact Or.inr (Or.inl (Int32.toInt_inj.mp h))
  · exact Or.inr (Or.inr (Or.inl (Int32.toInt_inj.mp h)))
  · exact Or.inr (Or.inr (Or.inr (Or.inl (Int32.toInt_inj.mp h))))
  · exact Or.inr (Or.inr (Or.inr (Or.inr (Or.inl (Int32.toInt_inj.mp h)))))
  · exact Or.inr (Or.inr (Or.inr (Or.inr (Or.inr (Or.inl (Int32.toInt_inj.mp h))))))
  · exact Or.inr (Or.inr (Or.inr (Or.inr (Or.inr (Or.inr (Or.inl (Int32.toInt_inj.mp h)))))))
  · exact Or.inr (Or.inr (Or.inr (Or.inr (Or.inr (Or.inr (Or.inr (Or.inl (Int32.toInt_inj.mp h))))))))
  · exact Or.inr (Or.inr (Or.inr (Or.inr (Or.inr (Or.inr (Or.inr (Or.inr (Or.inl (Int32.toInt_inj.mp h)))))))))
  · exact Or.inr (Or.inr (Or.inr (Or.inr (Or.inr (Or.inr (Or.inr (Or.inr (Or.inr (Or.inl (Int32.toInt_inj.mp h))))))))))
  · exact Or.inr (Or.inr (Or.inr (Or.inr (Or.inr (Or.inr (Or.inr (Or.inr (Or.inr (Or.inr (Or.inl (Int32.toInt_inj.mp h)))))))))))
  · exact Or.inr (Or.inr (Or.inr (Or.inr (Or.inr (Or.inr (Or.inr (Or.inr (Or.inr (Or.inr (Or.inr (Int32.toInt_inj.mp h)))))))))))
theorem sw_0_29 (x : Int32) : (x.toInt < 0 ∨ 29 < x.toInt) ∨ x = 0 ∨ x = 1 ∨ x = 2 ∨ x = 3 ∨ x = 4 ∨ x = 5 ∨ x = 6 ∨ x = 7 ∨ x = 8 ∨ x = 9 ∨ x = 10 ∨ x = 11 ∨ x = 12 ∨ x = 13 ∨ x = 14 ∨ x = 15 ∨ x = 16 ∨ x = 17 ∨ x = 18 ∨ x = 19 ∨ x = 20 ∨ x = 21 ∨ x = 22 ∨ x = 23 ∨ x = 24 ∨ x = 25 ∨ x = 26 ∨ x = 27 ∨ x = 28 ∨ x = 29 := by
  rcases (show (x.toInt < 0 ∨ 29 < x.toInt) ∨ x.toInt = 0 ∨ x.toInt = 1 ∨ x.toInt = 2 ∨ x.toInt = 3 ∨ x.toInt = 4 ∨ x.toInt = 5 ∨ x.toInt = 6 ∨ x.toInt = 7 ∨ x.toInt = 8 ∨ x.toInt = 9 ∨ x.toInt = 10 ∨ x.toInt = 11 ∨ x.toInt = 12 ∨ x.toInt = 13 ∨ x.toInt = 14 ∨ x.toInt = 15 ∨ x.toInt = 16 ∨ x.toInt = 17 ∨ x.toInt = 18 ∨ x.toInt = 19 ∨ x.toInt = 20 ∨ x.toInt = 21 ∨ x.toInt = 22 ∨ x.toInt = 23 ∨ x.toInt = 24 ∨ x.toInt = 25 ∨ x.toInt = 26 ∨ x.toInt = 27 ∨ x.toInt = 28 ∨ x.toInt = 29 by omega) with h | h | h | h | h | h | h | h | h | h | h | h | h | h | h | h | h | h | h | h | h | h | h | h | h | h | h | h | h | h | h
  · exact Or.inl h
  · exact Or.inr (Or.inl (Int32.toInt_inj.mp h))
  · exact Or.inr (Or.inr (Or.inl (Int32.toInt_inj.mp h)))
  · exact Or.inr (Or.inr (Or.inr (Or.inl (Int32.toInt_inj.mp h))))
  · exact Or.inr (Or.inr (Or.inr (Or.inr (Or.inl (Int32.toInt_inj.mp h)))))
  · exact Or.inr (Or.inr (Or.inr (Or.inr (Or.inr (Or.inl (Int32.toInt_inj.mp h))))))
  · exact Or.inr (Or.inr (Or.inr (Or.inr (Or.inr (Or.inr (Or.inl (Int32.toInt_inj.mp h)))))))
  · exact Or.inr (Or.inr (Or.inr (Or.inr (Or.inr (Or.inr (Or.inr (Or.inl (Int32.toInt_inj.mp h))))))))
  · exact Or.inr (Or.inr (Or.inr (Or.inr (Or.inr (Or.inr (Or.inr (Or.inr (Or.inl (Int32.toInt_inj.mp h)))))))))
  · exact Or.inr (Or.inr (Or.inr (Or.inr (Or.inr (Or.inr (Or.inr (Or.inr (Or.inr (Or.inl (Int32.toInt_inj.mp h))))))))))
  · exact Or.inr (Or.inr (Or.inr (Or.inr (Or.inr (Or.inr (Or.inr (Or.inr (Or.inr (Or.inr (Or.inl (Int32.toInt_inj.mp h)))))))))))
  · exact Or.inr (Or.inr (Or.inr (Or.inr (Or.inr (Or.inr (Or.inr (Or.inr (Or.inr (Or.inr (Or.inr (Or.inl (Int32.toInt_inj.mp h))))))))))))
  · exact Or.inr (Or.inr (Or.inr (Or.inr (Or.inr (Or.inr (Or.inr (Or.inr (Or.inr (Or.inr (Or.inr (Or.inr (Or.inl (Int32.toInt_inj.mp h)))))))))))))
  · exact Or.inr (Or.inr (Or.inr (Or.inr (Or.inr (Or.inr (Or.inr (Or.inr (Or.inr (Or.inr (Or.inr (Or.inr (Or.inr (Or.inl (Int32.toInt_inj.mp h))))))))))))))
  · exact Or.inr (Or.inr (Or.inr (Or.inr (Or.inr (Or.inr (Or.inr (Or.inr (Or.inr (Or.inr (Or.inr (Or.inr (Or.inr (Or.inr (Or.inl (Int32.toInt_inj.mp h)))))))))))))))
  · exact Or.inr (Or.inr (Or.inr (Or.inr (Or.inr (Or.inr (Or.inr (Or.inr (Or.inr (Or.inr (Or.inr (Or.inr (Or.inr (Or.inr (Or.inr (Or.inl (Int32.toInt_inj.mp h))))))))))))))))
  · exact Or.inr (Or.inr (Or.inr (Or.inr (Or.inr (Or.inr (Or.inr (Or.inr (Or.inr (Or.inr (Or.inr (Or.inr (Or.inr (Or.inr (Or.inr (Or.inr (Or.inl (Int32.toInt_inj.mp h)))))))))))))))))
  · exact Or.inr (Or.inr (Or.inr (Or.inr (Or.inr (Or.inr (Or.inr (Or.inr (Or.inr (Or.inr (Or.inr (Or.inr (Or.inr (Or.inr (Or.inr (Or.inr (Or.inr (Or.inl (Int32.toInt_inj.mp h))))))))))))))))))
  · exact Or.inr (Or.inr (Or.inr (Or.inr (Or.inr (Or.inr (Or.inr (Or.inr (Or.inr (Or.inr (Or.inr (Or.inr (Or.inr (Or.inr (Or.inr (Or.inr (Or.inr (Or.inr (Or.inl (Int32.toInt_inj.mp h)))))))))))))))))))
  · exact Or.inr (Or.inr (Or.inr (Or.inr (Or.inr (Or.inr (Or.inr (Or.inr (Or.inr (Or.inr (Or.inr (Or.inr (Or.inr (Or.inr (Or.inr (Or.inr (Or.inr (Or.inr (Or.inr (Or.inl (Int32.toInt_inj.mp h))))))))))))))))))))
  · exact Or.inr (Or.inr (Or.inr (Or.inr (Or.inr (Or.inr (Or.inr (Or.inr (Or.inr (Or.inr (Or.inr (Or.inr (Or.inr (Or.inr (Or.inr (Or.inr (Or.inr (Or.inr (Or.inr (Or.inr (Or.inl (Int32.toInt_inj.mp h)))))))))))))))))))))
  · exact Or.inr (Or.inr (Or.inr (Or.inr (Or.inr (Or.inr (Or.inr (Or.inr (Or.inr (Or.inr (Or.inr (Or.inr (Or.inr (Or.inr (Or.inr (Or.inr (Or.inr (Or.inr (Or.inr (Or.inr (Or.inr (Or.inl (Int32.toInt_inj.mp h))))))))))))))))))))))
  · exact Or.inr (Or.inr (Or.inr (Or.inr (Or.inr (Or.inr (Or.inr (Or.inr (Or.inr (Or.inr (Or.inr (Or.inr (Or.inr (Or.inr (Or.inr (Or.inr (Or.inr (Or.inr (Or.inr (Or.inr (Or.inr (Or.inr (Or.inl (Int32.toInt_inj.mp h)))))))))))))))))))))))
  · exact Or.inr (Or.inr (Or.inr (Or.inr (Or.inr (Or.inr (Or.inr (Or.inr (Or.inr (Or.inr (Or.inr (Or.inr (Or.inr (Or.inr (Or.inr (Or.inr (Or.inr (Or.inr (Or.inr (Or.inr (Or.inr (Or.inr (Or.inr (Or.inl (Int32.toInt_inj.mp h))))))))))))))))))))))))
  · exact Or.inr (Or.inr (Or.inr (Or.inr (Or.inr (Or.inr (Or.inr (Or.inr (Or.inr (Or.inr (Or.inr (Or.inr (Or.inr (Or.inr (Or.inr (Or.inr (Or.inr (Or.inr (Or.inr (Or.inr (Or.inr (Or.inr (Or.inr (Or.inr (Or.inl (Int32.toInt_inj.mp h)))))))))))))))))))))))))
  · exact Or.inr (Or.inr (Or.inr (Or.inr (Or.inr (Or.inr (Or.inr (Or.inr (Or.inr (Or.inr (Or.inr (Or.inr (Or.inr (Or.inr (Or.inr (Or.inr (Or.inr (Or.inr (Or.inr (Or.inr (Or.inr (Or.inr (Or.inr (Or.inr (Or.inr (Or.inl (Int32.toInt_inj.mp h))))))))))))))))))))))))))
  · exact Or.inr (Or.inr (Or.inr (Or.inr (Or.inr (Or.inr (Or.inr (Or.inr (Or.inr (Or.inr (Or.inr (Or.inr (Or.inr (Or.inr (Or.inr (Or.inr (Or.inr (Or.inr (Or.inr (Or.inr (Or.inr (Or.inr (Or.inr (Or.inr (Or.inr (Or.inr (Or.inl (Int32.toInt_inj.mp h)))))))))))))))))))))))))))
  · exact Or.inr (Or.inr (Or.inr (Or.inr (Or.inr (Or.inr (Or.inr (Or.inr (Or.inr (Or.inr (Or.inr (Or.inr (Or.inr (Or.inr (Or.inr (Or.inr (Or.inr (Or.inr (Or.inr (Or.inr (Or.inr (Or.inr (Or.inr (Or.inr (Or.inr (Or.inr (Or.inr (Or.inl (Int32.toInt_inj.mp h))))))))))))))))))))))))))))
  · exact Or.inr (Or.inr (Or.inr (Or.inr (Or.inr (Or.inr (Or.inr (Or.inr (Or.inr (Or.inr (Or.inr (Or.inr (Or.inr (Or.inr (Or.inr (Or.inr (Or.inr (Or.inr (Or.inr (Or.inr (Or.inr (Or.inr (Or.inr (Or.inr (Or.inr (Or.inr (Or.inr (Or.inr (Or.inl (Int32.toInt_inj.mp h)))))))))))))))))))))))))))))
  · exact Or.inr (Or.inr (Or.inr (Or.inr (Or.inr (Or.inr (Or.inr (Or.inr (Or.inr (Or.inr (Or.inr (Or.inr (Or.inr (Or.inr (Or.inr (Or.inr (Or.inr (Or.inr (Or.inr (Or.inr (Or.inr (Or.inr (Or.inr (Or.inr (Or.inr (Or.inr (Or.inr (Or.inr (Or.inr (Or.inl (Int32.toInt_inj.mp h))))))))))))))))))))))))))))))
  · exact Or.inr (Or.inr (Or.inr (Or.inr (Or.inr (Or.inr (Or.inr (Or.inr (Or.inr (Or.inr (Or.inr (Or.inr (Or.inr (Or.inr (Or.inr (Or.inr (Or.inr (Or.inr (Or.inr (Or.inr (Or.inr (Or.inr (Or.inr (Or.inr (Or.inr (Or.inr (Or.inr (Or.inr (Or.inr (Or.inr (Int32.toInt_inj.mp h))))))))))))))))))))))))))))))
def cnt0 (w : Int32) : Int32 := if w = 9 then (-2) else if w.toInt < 0 ∨ 10 < w.toInt then (-1) else 0
theorem cnt0_out {w : Int32} (h : w.toInt < 0 ∨ 10 < w.toInt) : (-1) = cnt0 w := by
  have h9 : ¬ w = 9 := fun e => by rw [e] at h; revert h; decide
  unfold cnt0
  rw [if_neg h9, if_pos h]
def mrk (m : Int32) : Int32 := if 1 ≤ m ∧ m ≤ 999 then 1 else 0
theorem mrk_lo {m : Int32} (h : m < 1) : 0 = mrk m := by unfold mrk; rw [if_neg (fun q => Int32.not_lt.mpr q.1 h)]
theorem mrk_hi {m : Int32} (h : ¬ m ≤ 999) : 0 = mrk m := by unfold mrk; rw [if_neg (fun q => h q.2)]
theorem mrk_in {m : Int32} (h : ¬ m < 1) (h2 : m ≤ 999) : 1 = mrk m := by unfold mrk; rw [if_pos ⟨Int32.not_lt.mp h, h2⟩]
set_option maxHeartbeats 4000000 in
set_option maxRecDepth 100000 in
theorem p_fault (l : Launch) (dC : Nat → ClassId) (dI : Nat → Nat → Nat) (n0 sz : Nat) (x0 : Nat) (rd : Nat) (dr : Nat) (bk : Nat) (st : Nat) (nw : Nat) (tr : Nat) (pl : Nat) (fl : Nat) (rg : Nat) : Met l yX11_fault (wM yX11_fault cX11_fault 1 (some .int)) ({ frames := 0, cells := 0, slots := 0, locals := 0 }) (va_Pc [.ref x0] (fun U => U.heap.size = sz ∧ n0 ≤ sz ∧ GW n0 U ∧ va_P (dC, dI) classes [(x0, .inr (11, [.ref rd, .ref dr, .ref bk, .ref st, .ref nw, .ref tr, .ref pl, .ref fl, .ref rg, .int 0, .int 0, .int 0]))] U.heap ∧ va_K (dC, dI) classes [] U ∧ va_D (fun q => n0 ≤ q) [(x0, .inr (11, [.ref rd, .ref dr, .ref bk, .ref st, .ref nw, .ref tr, .ref pl, .ref fl, .ref rg, .int 0, .int 0, .int 0]))])) (va_Qi (fun (r : Int32) (_ : Unit) => r = 0) (fun (_ : Unit) (_ : State) => True) (va_A [(x0, .inr (11, [.ref rd, .ref dr, .ref bk, .ref st, .ref nw, .ref tr, .ref pl, .ref fl, .ref rg, .int 0, .int 0, .int 0]))] sz)) 0 0 (va_A [(x0, .inr (11, [.ref rd, .ref dr, .ref bk, .ref st, .ref nw, .ref tr, .ref pl, .ref fl, .ref rg, .int 0, .int 0, .int 0]))] sz) := by
  refine Met.ofW (cc := cX11_fault) (maxL := 1) (ret := (some .int)) (by decide) rfl ?_
  intro p e s m args below meth c s₁ B hml hv
  obtain ⟨rfl, hsz, hn0, hG, hP, hK, hD0⟩ := hv
  have hx := B.exec
  have hb := B.bytes
  have hr := B.returns
  have hts := atoms_spec (ws := wM yX11_fault cX11_fault 1 (some .int)) B.pre
  have hown : s.vm.findClass RX11 = some m.cls := findClass_of_methodNamed B.named
  have hlocks := B.notSynchronized
  subst hsz
  have hD := hD0.self (sz := s.heap.size)
  have hA0 := vA_n0 hD0 hn0
  generalize hAe : va_A [(x0, .inr (11, [.ref rd, .ref dr, .ref bk, .ref st, .ref nw, .ref tr, .ref pl, .ref fl, .ref rg, .int 0, .int 0, .int 0]))] s.heap.size = A at hD hA0 ⊢
  have hA : ∀ q : Nat, s.heap.size ≤ q → A q := fun q h => by rw [← hAe]; exact Or.inr h
  have hS : va_S A s.heap s.heap [] := va_S.rf
  have hl := lv_entry ([.ref x0]) (n := 1) (Nat.le_of_ble_eq_true rfl)
  rw [lg_entry_eq]
  generalize (lg_sl ([.ref x0]) ++ List.replicate (1 - (lg_sl ([.ref x0])).length) Slot.unset).toArray = ls at hl ⊢
  have hl : lv_has ls 1 [(0, .ref x0)] := hl
  refine lv_aload_n hx hb dX11_fault_0 rfl (lv_at hl 0 rfl) ?_
  refine va_get (D := (dC, dI)) (ci := 11) (v := .int 0) (C := RX11) (T := TX11) (N := 12) hx hb hts (fun w h => wM_c (iX11 w h)) hown hK hP 0 rfl rfl 10 (by decide) (hts _ (wM_c wd_680)) (fun _ h9 => h9) rfl dX11_fault_1 ?_
  exact W.iret (v := 0) hx hb hr (fun t ht hW => ⟨⟨0, (), rfl, rfl, trivial⟩, hS.F ht⟩) hS.2.2 dX11_fault_4
set_option maxHeartbeats 4000000 in
set_option maxRecDepth 100000 in
theorem p_where (l : Launch) (dC : Nat → ClassId) (dI : Nat → Nat → Nat) (n0 sz : Nat) (x0 : Nat) (rd : Nat) (dr : Nat) (bk : Nat) (st : Nat) (nw : Nat) (tr : Nat) (pl : Nat) (fl : Nat) (rg : Nat) : Met l yX11_where (wM yX11_where cX11_where 1 (some .int)) ({ frames := 0, cells := 0, slots := 0, locals := 0 }) (va_Pc [.ref x0] (fun U => U.heap.size = sz ∧ n0 ≤ sz ∧ GW n0 U ∧ va_P (dC, dI) classes [(x0, .inr (11, [.ref rd, .ref dr, .ref bk, .ref st, .ref nw, .ref tr, .ref pl, .ref fl, .ref rg, .int 0, .int 0, .int 0]))] U.heap ∧ va_K (dC, dI) classes [] U ∧ va_D (fun q => n0 ≤ q) [(x0, .inr (11, [.ref rd, .ref dr, .ref bk, .ref st, .ref nw, .ref tr, .ref pl, .ref fl, .ref rg, .int 0, .int 0, .int 0]))])) (va_Qi (fun (r : Int32) (_ : Unit) => r = (-1)) (fun (_ : Unit) (_ : State) => True) (va_A [(x0, .inr (11, [.ref rd, .ref dr, .ref bk, .ref st, .ref nw, .ref tr, .ref pl, .ref fl, .ref rg, .int 0, .int 0, .int 0]))] sz)) 0 0 (va_A [(x0, .inr (11, [.ref rd, .ref dr, .ref bk, .ref st, .ref nw, .ref tr, .ref pl, .ref fl, .ref rg, .int 0, .int 0, .int 0]))] sz) := by
  refine Met.ofW (cc := cX11_where) (maxL := 1) (ret := (some .int)) (by decide) rfl ?_
  intro p e s m args below meth c s₁ B hml hv
  obtain ⟨rfl, hsz, hn0, hG, hP, hK, hD0⟩ := hv
  have hx := B.exec
  have hb := B.bytes
  have hr := B.returns
  have hts := atoms_spec (ws := wM yX11_where cX11_where 1 (some .int)) B.pre
  have hown : s.vm.findClass RX11 = some m.cls := findClass_of_methodNamed B.named
  have hlocks := B.notSynchronized
  subst hsz
  have hD := hD0.self (sz := s.heap.size)
  have hA0 := vA_n0 hD0 hn0
  generalize hAe : va_A [(x0, .inr (11, [.ref rd, .ref dr, .ref bk, .ref st, .ref nw, .ref tr, .ref pl, .ref fl, .ref rg, .int 0, .int 0, .int 0]))] s.heap.size = A at hD hA0 ⊢
  have hA : ∀ q : Nat, s.heap.size ≤ q → A q := fun q h => by rw [← hAe]; exact Or.inr h
  have hS : va_S A s.heap s.heap [] := va_S.rf
  have hl := lv_entry ([.ref x0]) (n := 1) (Nat.le_of_ble_eq_true rfl)
  rw [lg_entry_eq]
  generalize (lg_sl ([.ref x0]) ++ List.replicate (1 - (lg_sl ([.ref x0])).length) Slot.unset).toArray = ls at hl ⊢
  have hl : lv_has ls 1 [(0, .ref x0)] := hl
  refine lv_aload_n hx hb dX11_where_0 rfl (lv_at hl 0 rfl) ?_
  refine va_get (D := (dC, dI)) (ci := 11) (v := .int 0) (C := RX11) (T := TX11) (N := 12) hx hb hts (fun w h => wM_c (iX11 w h)) hown hK hP 0 rfl rfl 9 (by decide) (hts _ (wM_c wd_679)) (fun _ h9 => h9) rfl dX11_where_1 ?_
  refine lv_iconst (v := 4) hx hb dX11_where_4 (by decide) ?_
  refine lv_icmp_ne (tgt := 15) hx hb dX11_where_5 (by decide) (fun c_1 => ?_) (fun c_1 => ?_)
  · skip
    refine lv_iconst (v := (-1)) hx hb dX11_where_15 (by decide) ?_
    exact W.iret (v := (-1)) hx hb hr (fun t ht hW => ⟨⟨(-1), (), rfl, rfl, trivial⟩, hS.F ht⟩) hS.2.2 dX11_where_16
  · exact absurd c_1 (by decide)
set_option maxHeartbeats 4000000 in
set_option maxRecDepth 100000 in
theorem p_trouble (l : Launch) (dC : Nat → ClassId) (dI : Nat → Nat → Nat) (n0 sz : Nat) (x0 : Nat) (rd : Nat) (dr : Nat) (bk : Nat) (st : Nat) (nw : Nat) (tr : Nat) (pl : Nat) (fl : Nat) (rg : Nat) : Met l yX11_trouble (wM yX11_trouble cX11_trouble 1 (some .int)) ({ frames := 0, cells := 0, slots := 0, locals := 0 }) (va_Pc [.ref x0] (fun U => U.heap.size = sz ∧ n0 ≤ sz ∧ GW n0 U ∧ va_P (dC, dI) classes [(x0, .inr (11, [.ref rd, .ref dr, .ref bk, .ref st, .ref nw, .ref tr, .ref pl, .ref fl, .ref rg, .int 0, .int 0, .int 0]))] U.heap ∧ va_K (dC, dI) classes [] U ∧ va_D (fun q => n0 ≤ q) [(x0, .inr (11, [.ref rd, .ref dr, .ref bk, .ref st, .ref nw, .ref tr, .ref pl, .ref fl, .ref rg, .int 0, .int 0, .int 0]))])) (va_Qi (fun (r : Int32) (_ : Unit) => r = 0) (fun (_ : Unit) (_ : State) => True) (va_A [(x0, .inr (11, [.ref rd, .ref dr, .ref bk, .ref st, .ref nw, .ref tr, .ref pl, .ref fl, .ref rg, .int 0, .int 0, .int 0]))] sz)) 0 0 (va_A [(x0, .inr (11, [.ref rd, .ref dr, .ref bk, .ref st, .ref nw, .ref tr, .ref pl, .ref fl, .ref rg, .int 0, .int 0, .int 0]))] sz) := by
  refine Met.ofW (cc := cX11_trouble) (maxL := 1) (ret := (some .int)) (by decide) rfl ?_
  intro p e s m args below meth c s₁ B hml hv
  obtain ⟨rfl, hsz, hn0, hG, hP, hK, hD0⟩ := hv
  have hx := B.exec
  have hb := B.bytes
  have hr := B.returns
  have hts := atoms_spec (ws := wM yX11_trouble cX11_trouble 1 (some .int)) B.pre
  have hown : s.vm.findClass RX11 = some m.cls := findClass_of_methodNamed B.named
  have hlocks := B.notSynchronized
  subst hsz
  have hD := hD0.self (sz := s.heap.size)
  have hA0 := vA_n0 hD0 hn0
  generalize hAe : va_A [(x0, .inr (11, [.ref rd, .ref dr, .ref bk, .ref st, .ref nw, .ref tr, .ref pl, .ref fl, .ref rg, .int 0, .int 0, .int 0]))] s.heap.size = A at hD hA0 ⊢
  have hA : ∀ q : Nat, s.heap.size ≤ q → A q := fun q h => by rw [← hAe]; exact Or.inr h
  have hS : va_S A s.heap s.heap [] := va_S.rf
  have hl := lv_entry ([.ref x0]) (n := 1) (Nat.le_of_ble_eq_true rfl)
  rw [lg_entry_eq]
  generalize (lg_sl ([.ref x0]) ++ List.replicate (1 - (lg_sl ([.ref x0])).length) Slot.unset).toArray = ls at hl ⊢
  have hl : lv_has ls 1 [(0, .ref x0)] := hl
  refine lv_aload_n hx hb dX11_trouble_0 rfl (lv_at hl 0 rfl) ?_
  refine va_get (D := (dC, dI)) (ci := 11) (v := .int 0) (C := RX11) (T := TX11) (N := 12) hx hb hts (fun w h => wM_c (iX11 w h)) hown hK hP 0 rfl rfl 9 (by decide) (hts _ (wM_c wd_679)) (fun _ h9 => h9) rfl dX11_trouble_1 ?_
  exact W.iret (v := 0) hx hb hr (fun t ht hW => ⟨⟨0, (), rfl, rfl, trivial⟩, hS.F ht⟩) hS.2.2 dX11_trouble_4
set_option maxHeartbeats 4000000 in
set_option maxRecDepth 100000 in
theorem p_way (l : Launch) (dC : Nat → ClassId) (dI : Nat → Nat → Nat) (n0 sz : Nat) (x0 : Nat) (rd : Nat) (dr : Nat) (bk : Nat) (st : Nat) (nw : Nat) (tr : Nat) (pl : Nat) (fl : Nat) (rg : Nat) (bk_tail : Nat) (bk_head : Nat) (bk_hinder : Nat) (bk_size : Nat) (bk_walk : Nat) (bk_draught : Nat) (bk_doorIn : Nat) (bk_fanIn : Nat) (bk_faceIn : Nat) (gr : Nat) (w : Int32) (v : Int32) : Met l yX11_way (wM yX11_way cX11_way 3 (some .int)) ({ frames := 1, cells := 0, slots := 0, locals := 21 }) (va_Pc [.ref x0, .int w, .int v] (fun U => U.heap.size = sz ∧ n0 ≤ sz ∧ GW n0 U ∧ va_P (dC, dI) classes [(x0, .inr (11, [.ref rd, .ref dr, .ref bk, .ref st, .ref nw, .ref tr, .ref pl, .ref fl, .ref rg, .int 0, .int 0, .int 0])), (bk, .inr (0, [.int 0, .ref bk_tail, .ref bk_head, .ref bk_hinder, .ref bk_size, .ref bk_walk, .ref bk_draught, .ref bk_doorIn, .ref bk_fanIn, .ref bk_faceIn, .int 0, .int (-1), .ref gr]))] U.heap ∧ va_K (dC, dI) classes [] U ∧ va_D (fun q => n0 ≤ q) [(x0, .inr (11, [.ref rd, .ref dr, .ref bk, .ref st, .ref nw, .ref tr, .ref pl, .ref fl, .ref rg, .int 0, .int 0, .int 0])), (bk, .inr (0, [.int 0, .ref bk_tail, .ref bk_head, .ref bk_hinder, .ref bk_size, .ref bk_walk, .ref bk_draught, .ref bk_doorIn, .ref bk_fanIn, .ref bk_faceIn, .int 0, .int (-1), .ref gr]))])) (va_Qi (fun (r : Int32) (_ : Unit) => r = (-2147483648)) (fun (_ : Unit) (_ : State) => True) (va_A [(x0, .inr (11, [.ref rd, .ref dr, .ref bk, .ref st, .ref nw, .ref tr, .ref pl, .ref fl, .ref rg, .int 0, .int 0, .int 0])), (bk, .inr (0, [.int 0, .ref bk_tail, .ref bk_head, .ref bk_hinder, .ref bk_size, .ref bk_walk, .ref bk_draught, .ref bk_doorIn, .ref bk_fanIn, .ref bk_faceIn, .int 0, .int (-1), .ref gr]))] sz)) 0 0 (va_A [(x0, .inr (11, [.ref rd, .ref dr, .ref bk, .ref st, .ref nw, .ref tr, .ref pl, .ref fl, .ref rg, .int 0, .int 0, .int 0])), (bk, .inr (0, [.int 0, .ref bk_tail, .ref bk_head, .ref bk_hinder, .ref bk_size, .ref bk_walk, .ref bk_draught, .ref bk_doorIn, .ref bk_fanIn, .ref bk_faceIn, .int 0, .int (-1), .ref gr]))] sz) := by
  refine Met.ofW (cc := cX11_way) (maxL := 3) (ret := (some .int)) (by decide) rfl ?_
  intro p e s m args below meth c s₁ B hml hv
  obtain ⟨rfl, hsz, hn0, hG, hP, hK, hD0⟩ := hv
  have hx := B.exec
  have hb := B.bytes
  have hr := B.returns
  have hts := atoms_spec (ws := wM yX11_way cX11_way 3 (some .int)) B.pre
  have hown : s.vm.findClass RX11 = some m.cls := findClass_of_methodNamed B.named
  have hlocks := B.notSynchronized
  subst hsz
  have hD := hD0.self (sz := s.heap.size)
  have hA0 := vA_n0 hD0 hn0
  generalize hAe : va_A [(x0, .inr (11, [.ref rd, .ref dr, .ref bk, .ref st, .ref nw, .ref tr, .ref pl, .ref fl, .ref rg, .int 0, .int 0, .int 0])), (bk, .inr (0, [.int 0, .ref bk_tail, .ref bk_head, .ref bk_hinder, .ref bk_size, .ref bk_walk, .ref bk_draught, .ref bk_doorIn, .ref bk_fanIn, .ref bk_faceIn, .int 0, .int (-1), .ref gr]))] s.heap.size = A at hD hA0 ⊢
  have hA : ∀ q : Nat, s.heap.size ≤ q → A q := fun q h => by rw [← hAe]; exact Or.inr h
  have hS : va_S A s.heap s.heap [] := va_S.rf
  have hl := lv_entry ([.ref x0, .int w, .int v]) (n := 3) (Nat.le_of_ble_eq_true rfl)
  rw [lg_entry_eq]
  generalize (lg_sl ([.ref x0, .int w, .int v]) ++ List.replicate (3 - (lg_sl ([.ref x0, .int w, .int v])).length) Slot.unset).toArray = ls at hl ⊢
  have hl : lv_has ls 3 [(0, .ref x0), (1, .int w), (2, .int v)] := hl
  refine lv_aload_n hx hb dX11_way_0 rfl (lv_at hl 0 rfl) ?_
  refine lv_iload_n hx hb dX11_way_1 rfl (lv_at hl 1 rfl) ?_
  have hPc := hP.sub (ws' := [(x0, .inr (11, [.ref rd, .ref dr, .ref bk, .ref st, .ref nw, .ref tr, .ref pl, .ref fl, .ref rg, .int 0, .int 0, .int 0])), (bk, .inr (0, [.int 0, .ref bk_tail, .ref bk_head, .ref bk_hinder, .ref bk_size, .ref bk_walk, .ref bk_draught, .ref bk_doorIn, .ref bk_fanIn, .ref bk_faceIn, .int 0, .int (-1), .ref gr]))]) [0, 1] rfl
  have hDc := hD.sub (ws' := [(x0, .inr (11, [.ref rd, .ref dr, .ref bk, .ref st, .ref nw, .ref tr, .ref pl, .ref fl, .ref rg, .int 0, .int 0, .int 0])), (bk, .inr (0, [.int 0, .ref bk_tail, .ref bk_head, .ref bk_hinder, .ref bk_size, .ref bk_walk, .ref bk_draught, .ref bk_doorIn, .ref bk_fanIn, .ref bk_faceIn, .int 0, .int (-1), .ref gr]))]) [0, 1] (by decide) rfl
  have hKc := hK.sub (tys' := []) [] rfl
  have hFc := va_free (wc := [(x0, .inr (11, [.ref rd, .ref dr, .ref bk, .ref st, .ref nw, .ref tr, .ref pl, .ref fl, .ref rg, .int 0, .int 0, .int 0])), (bk, .inr (0, [.int 0, .ref bk_tail, .ref bk_head, .ref bk_hinder, .ref bk_size, .ref bk_walk, .ref bk_draught, .ref bk_doorIn, .ref bk_fanIn, .ref bk_faceIn, .int 0, .int (-1), .ref gr]))]) hD hS hA [0, 1] rfl
  refine va_calli (va_runV (As := [.int w]) (rest := []) ⟨hx, hb, hml, hown, hts⟩ (c_isWay l dC dI n0 s.heap.size x0 rd dr bk st nw tr pl fl rg 0 0 0 bk_tail bk_head bk_hinder bk_size bk_walk bk_draught bk_doorIn bk_fanIn bk_faceIn gr w ) (cwV 1 hts (gV (fun w h => wM_c h) wd_950 wd_947 wd_949 wd_25 wd_114) rfl rfl rfl (by decide +kernel) ⟨Nat.le_of_ble_eq_true rfl, Nat.le_of_ble_eq_true rfl⟩) ⟨fun a U g mk q => by obtain ⟨q0, q1, q2, qG, qP, qK, qD⟩ := q; exact ⟨q0, q1, q2, GW.blind qG, qP, va_K.moved (u := U) (U := U.calling g mk a) (Vm.Alike.refl U.vm) qK, qD⟩, va_recv hKc hPc (ci := 11) (q0 := 0) rfl rfl, fun U hU hW => ⟨rfl, by rw [hU], Nat.le_trans hn0 hS.1, GW.go hW hU hG (fun q hq hA9 => hS.2.1 q hq (fun h => hA9 (hA0 q h))), by rw [hU]; exact hPc, va_K.moved hW.alike hKc, hDc.weaken (fun _ _ _ h => hA0 _ h)⟩⟩ rfl rfl hl.1 rfl (lv_room (Nat.le_of_ble_eq_true rfl)) dX11_way_2 ⟨Nat.le_of_ble_eq_true rfl, Nat.le_of_ble_eq_true rfl⟩) hS (fun q _ h => hFc q h) hFc (fun r_1 u t H1 locs ht hvm hw_2 hB hz1 hk1 hS => ?_)
  obtain ⟨hP1, hK1, hD1⟩ := hB
  rw [ht] at hP1
  obtain ⟨hP, hD⟩ := va_join (wr := []) (w1 := [(x0, .inr (11, [.ref rd, .ref dr, .ref bk, .ref st, .ref nw, .ref tr, .ref pl, .ref fl, .ref rg, .int 0, .int 0, .int 0])), (bk, .inr (0, [.int 0, .ref bk_tail, .ref bk_head, .ref bk_hinder, .ref bk_size, .ref bk_walk, .ref bk_draught, .ref bk_doorIn, .ref bk_fanIn, .ref bk_faceIn, .int 0, .int (-1), .ref gr]))]) hP hD [0, 1] [] rfl rfl (by decide) (by decide) hk1 hFc hP1 hD1
  generalize H1 = H at hP hS ⊢
  have hP : va_P (dC, dI) classes [(x0, .inr (11, [.ref rd, .ref dr, .ref bk, .ref st, .ref nw, .ref tr, .ref pl, .ref fl, .ref rg, .int 0, .int 0, .int 0])), (bk, .inr (0, [.int 0, .ref bk_tail, .ref bk_head, .ref bk_hinder, .ref bk_size, .ref bk_walk, .ref bk_draught, .ref bk_doorIn, .ref bk_fanIn, .ref bk_faceIn, .int 0, .int (-1), .ref gr]))] H := hP
  have hD : va_D A [(x0, .inr (11, [.ref rd, .ref dr, .ref bk, .ref st, .ref nw, .ref tr, .ref pl, .ref fl, .ref rg, .int 0, .int 0, .int 0])), (bk, .inr (0, [.int 0, .ref bk_tail, .ref bk_head, .ref bk_hinder, .ref bk_size, .ref bk_walk, .ref bk_draught, .ref bk_doorIn, .ref bk_fanIn, .ref bk_faceIn, .int 0, .int (-1), .ref gr]))] := hD
  obtain rfl : r_1 = 0 := hw_2
  refine lv_if_ne (tgt := 11) hx hb dX11_way_5 (by decide) (fun c_3 => ?_) (fun c_3 => ?_)
  · exact absurd c_3 (by decide)
  refine lv_ldc hx hb hown (hts _ (wM_c wd_951)) dX11_way_8 ?_
  exact W.iret (v := (-2147483648)) hx hb hr (fun t ht hW => ⟨⟨(-2147483648), (), rfl, rfl, trivial⟩, hS.F ht⟩) hS.2.2 dX11_way_10
set_option maxHeartbeats 4000000 in
set_option maxRecDepth 100000 in
theorem c_orNotSo (l : Launch) (dC : Nat → ClassId) (dI : Nat → Nat → Nat) (n0 sz : Nat) (w : Int32) : Met l yX11_orNotSo (wM yX11_orNotSo cX11_orNotSo 1 (some .int)) ({ frames := 0, cells := 0, slots := 0, locals := 0 }) (va_Pc [.int w] (fun U => U.heap.size = sz ∧ n0 ≤ sz ∧ GW n0 U ∧ va_P (dC, dI) classes [] U.heap ∧ va_K (dC, dI) classes [] U ∧ va_D (fun q => n0 ≤ q) [])) (va_Qi (fun (r : Int32) (_ : Unit) => r = if w = -1 then -2 else w) (fun (_ : Unit) (t : State) => va_P (dC, dI) classes [] t.heap ∧ va_K (dC, dI) classes [] t ∧ va_D (va_A [] sz) []) (va_A [] sz)) 0 0 (va_A [] sz) := by
  refine Met.ofW (cc := cX11_orNotSo) (maxL := 1) (ret := (some .int)) (by decide) rfl ?_
  intro p e s m args below meth c s₁ B hml hv
  obtain ⟨rfl, hsz, hn0, hG, hP, hK, hD0⟩ := hv
  have hx := B.exec
  have hb := B.bytes
  have hr := B.returns
  have hts := atoms_spec (ws := wM yX11_orNotSo cX11_orNotSo 1 (some .int)) B.pre
  have hown : s.vm.findClass RX11 = some m.cls := findClass_of_methodNamed B.named
  have hlocks := B.notSynchronized
  subst hsz
  have hD := hD0.self (sz := s.heap.size)
  have hA0 := vA_n0 hD0 hn0
  generalize hAe : va_A [] s.heap.size = A at hD hA0 ⊢
  have hA : ∀ q : Nat, s.heap.size ≤ q → A q := fun q h => by rw [← hAe]; exact Or.inr h
  have hS : va_S A s.heap s.heap [] := va_S.rf
  have hl := lv_entry ([.int w]) (n := 1) (Nat.le_of_ble_eq_true rfl)
  rw [lg_entry_eq]
  generalize (lg_sl ([.int w]) ++ List.replicate (1 - (lg_sl ([.int w])).length) Slot.unset).toArray = ls at hl ⊢
  have hl : lv_has ls 1 [(0, .int w)] := hl
  refine lv_iload_n hx hb dX11_orNotSo_0 rfl (lv_at hl 0 rfl) ?_
  refine lv_iconst (v := (-1)) hx hb dX11_orNotSo_1 (by decide) ?_
  refine lv_icmp_ne (tgt := 10) hx hb dX11_orNotSo_2 (by decide) (fun c_1 => ?_) (fun c_1 => ?_)
  · skip
    refine lv_iload_n hx hb dX11_orNotSo_10 rfl (lv_at hl 0 rfl) ?_
    have hP9 := hP.sub (ws' := []) [] rfl
    have hD9 := hD.sub (ws' := []) [] (by decide) rfl
    have hK9 := hK.sub (tys' := []) [] rfl
    exact W.iret (v := w) hx hb hr (fun t ht hW => ⟨⟨w, (), rfl, (by rw [if_neg c_1]), by rw [ht]; exact hP9, va_K.moved hW.alike hK9, hD9⟩, hS.F ht⟩) hS.2.2 dX11_orNotSo_11
  · skip
    refine lv_bipush (v := (-2)) hx hb dX11_orNotSo_5 (by decide) ?_
    refine lv_goto (tgt := 11) hx hb dX11_orNotSo_7 (by decide) ?_
    have hP9 := hP.sub (ws' := []) [] rfl
    have hD9 := hD.sub (ws' := []) [] (by decide) rfl
    have hK9 := hK.sub (tys' := []) [] rfl
    exact W.iret (v := (-2)) hx hb hr (fun t ht hW => ⟨⟨(-2), (), rfl, (by rw [if_pos c_1]), by rw [ht]; exact hP9, va_K.moved hW.alike hK9, hD9⟩, hS.F ht⟩) hS.2.2 dX11_orNotSo_11
set_option maxHeartbeats 4000000 in
set_option maxRecDepth 100000 in
theorem p_door (l : Launch) (dC : Nat → ClassId) (dI : Nat → Nat → Nat) (n0 sz : Nat) (x0 : Nat) (rd : Nat) (dr : Nat) (bk : Nat) (st : Nat) (nw : Nat) (tr : Nat) (pl : Nat) (fl : Nat) (rg : Nat) (bk_tail : Nat) (bk_head : Nat) (bk_hinder : Nat) (bk_size : Nat) (bk_walk : Nat) (bk_draught : Nat) (bk_doorIn : Nat) (bk_fanIn : Nat) (bk_faceIn : Nat) (gr : Nat) (gr_doorBy : Nat) (gr_pairFirst : Nat) (gr_pairSecond : Nat) (gr_fanPush : Nat) (gr_fanFall : Nat) (gr_fanCost : Nat) (gr_faceWay : Nat) (gr_faceGas : Nat) (gr_faceNeed : Nat) (w : Int32) (v : Int32) : Met l yX11_door (wM yX11_door cX11_door 3 (some .boolean)) ({ frames := 1, cells := 0, slots := 0, locals := 21 }) (va_Pc [.ref x0, .int w, .int v] (fun U => U.heap.size = sz ∧ n0 ≤ sz ∧ GW n0 U ∧ va_P (dC, dI) classes [(x0, .inr (11, [.ref rd, .ref dr, .ref bk, .ref st, .ref nw, .ref tr, .ref pl, .ref fl, .ref rg, .int 0, .int 0, .int 0])), (bk, .inr (0, [.int 0, .ref bk_tail, .ref bk_head, .ref bk_hinder, .ref bk_size, .ref bk_walk, .ref bk_draught, .ref bk_doorIn, .ref bk_fanIn, .ref bk_faceIn, .int 0, .int (-1), .ref gr])), (gr, .inr (3, [.int 0, .ref gr_doorBy, .int 0, .ref gr_pairFirst, .ref gr_pairSecond, .int 0, .ref gr_fanPush, .ref gr_fanFall, .ref gr_fanCost, .int 0, .ref gr_faceWay, .ref gr_faceGas, .ref gr_faceNeed]))] U.heap ∧ va_K (dC, dI) classes [] U ∧ va_D (fun q => n0 ≤ q) [(x0, .inr (11, [.ref rd, .ref dr, .ref bk, .ref st, .ref nw, .ref tr, .ref pl, .ref fl, .ref rg, .int 0, .int 0, .int 0])), (bk, .inr (0, [.int 0, .ref bk_tail, .ref bk_head, .ref bk_hinder, .ref bk_size, .ref bk_walk, .ref bk_draught, .ref bk_doorIn, .ref bk_fanIn, .ref bk_faceIn, .int 0, .int (-1), .ref gr])), (gr, .inr (3, [.int 0, .ref gr_doorBy, .int 0, .ref gr_pairFirst, .ref gr_pairSecond, .int 0, .ref gr_fanPush, .ref gr_fanFall, .ref gr_fanCost, .int 0, .ref gr_faceWay, .ref gr_faceGas, .ref gr_faceNeed]))])) (va_Qi (fun (r : Int32) (_ : Unit) => r = 0) (fun (_ : Unit) (_ : State) => True) (va_A [(x0, .inr (11, [.ref rd, .ref dr, .ref bk, .ref st, .ref nw, .ref tr, .ref pl, .ref fl, .ref rg, .int 0, .int 0, .int 0])), (bk, .inr (0, [.int 0, .ref bk_tail, .ref bk_head, .ref bk_hinder, .ref bk_size, .ref bk_walk, .ref bk_draught, .ref bk_doorIn, .ref bk_fanIn, .ref bk_faceIn, .int 0, .int (-1), .ref gr])), (gr, .inr (3, [.int 0, .ref gr_doorBy, .int 0, .ref gr_pairFirst, .ref gr_pairSecond, .int 0, .ref gr_fanPush, .ref gr_fanFall, .ref gr_fanCost, .int 0, .ref gr_faceWay, .ref gr_faceGas, .ref gr_faceNeed]))] sz)) 0 0 (va_A [(x0, .inr (11, [.ref rd, .ref dr, .ref bk, .ref st, .ref nw, .ref tr, .ref pl, .ref fl, .ref rg, .int 0, .int 0, .int 0])), (bk, .inr (0, [.int 0, .ref bk_tail, .ref bk_head, .ref bk_hinder, .ref bk_size, .ref bk_walk, .ref bk_draught, .ref bk_doorIn, .ref bk_fanIn, .ref bk_faceIn, .int 0, .int (-1), .ref gr])), (gr, .inr (3, [.int 0, .ref gr_doorBy, .int 0, .ref gr_pairFirst, .ref gr_pairSecond, .int 0, .ref gr_fanPush, .ref gr_fanFall, .ref gr_fanCost, .int 0, .ref gr_faceWay, .ref gr_faceGas, .ref gr_faceNeed]))] sz) := by
  refine Met.ofW (cc := cX11_door) (maxL := 3) (ret := (some .boolean)) (by decide) rfl ?_
  intro p e s m args below meth c s₁ B hml hv
  obtain ⟨rfl, hsz, hn0, hG, hP, hK, hD0⟩ := hv
  have hx := B.exec
  have hb := B.bytes
  have hr := B.returns
  have hts := atoms_spec (ws := wM yX11_door cX11_door 3 (some .boolean)) B.pre
  have hown : s.vm.findClass RX11 = some m.cls := findClass_of_methodNamed B.named
  have hlocks := B.notSynchronized
  subst hsz
  have hD := hD0.self (sz := s.heap.size)
  have hA0 := vA_n0 hD0 hn0
  generalize hAe : va_A [(x0, .inr (11, [.ref rd, .ref dr, .ref bk, .ref st, .ref nw, .ref tr, .ref pl, .ref fl, .ref rg, .int 0, .int 0, .int 0])), (bk, .inr (0, [.int 0, .ref bk_tail, .ref bk_head, .ref bk_hinder, .ref bk_size, .ref bk_walk, .ref bk_draught, .ref bk_doorIn, .ref bk_fanIn, .ref bk_faceIn, .int 0, .int (-1), .ref gr])), (gr, .inr (3, [.int 0, .ref gr_doorBy, .int 0, .ref gr_pairFirst, .ref gr_pairSecond, .int 0, .ref gr_fanPush, .ref gr_fanFall, .ref gr_fanCost, .int 0, .ref gr_faceWay, .ref gr_faceGas, .ref gr_faceNeed]))] s.heap.size = A at hD hA0 ⊢
  have hA : ∀ q : Nat, s.heap.size ≤ q → A q := fun q h => by rw [← hAe]; exact Or.inr h
  have hS : va_S A s.heap s.heap [] := va_S.rf
  have hl := lv_entry ([.ref x0, .int w, .int v]) (n := 3) (Nat.le_of_ble_eq_true rfl)
  rw [lg_entry_eq]
  generalize (lg_sl ([.ref x0, .int w, .int v]) ++ List.replicate (3 - (lg_sl ([.ref x0, .int w, .int v])).length) Slot.unset).toArray = ls at hl ⊢
  have hl : lv_has ls 3 [(0, .ref x0), (1, .int w), (2, .int v)] := hl
  refine lv_aload_n hx hb dX11_door_0 rfl (lv_at hl 0 rfl) ?_
  refine lv_iload_n hx hb dX11_door_1 rfl (lv_at hl 1 rfl) ?_
  have hPc := hP.sub (ws' := [(x0, .inr (11, [.ref rd, .ref dr, .ref bk, .ref st, .ref nw, .ref tr, .ref pl, .ref fl, .ref rg, .int 0, .int 0, .int 0])), (bk, .inr (0, [.int 0, .ref bk_tail, .ref bk_head, .ref bk_hinder, .ref bk_size, .ref bk_walk, .ref bk_draught, .ref bk_doorIn, .ref bk_fanIn, .ref bk_faceIn, .int 0, .int (-1), .ref gr])), (gr, .inr (3, [.int 0, .ref gr_doorBy, .int 0, .ref gr_pairFirst, .ref gr_pairSecond, .int 0, .ref gr_fanPush, .ref gr_fanFall, .ref gr_fanCost, .int 0, .ref gr_faceWay, .ref gr_faceGas, .ref gr_faceNeed]))]) [0, 1, 2] rfl
  have hDc := hD.sub (ws' := [(x0, .inr (11, [.ref rd, .ref dr, .ref bk, .ref st, .ref nw, .ref tr, .ref pl, .ref fl, .ref rg, .int 0, .int 0, .int 0])), (bk, .inr (0, [.int 0, .ref bk_tail, .ref bk_head, .ref bk_hinder, .ref bk_size, .ref bk_walk, .ref bk_draught, .ref bk_doorIn, .ref bk_fanIn, .ref bk_faceIn, .int 0, .int (-1), .ref gr])), (gr, .inr (3, [.int 0, .ref gr_doorBy, .int 0, .ref gr_pairFirst, .ref gr_pairSecond, .int 0, .ref gr_fanPush, .ref gr_fanFall, .ref gr_fanCost, .int 0, .ref gr_faceWay, .ref gr_faceGas, .ref gr_faceNeed]))]) [0, 1, 2] (by decide) rfl
  have hKc := hK.sub (tys' := []) [] rfl
  have hFc := va_free (wc := [(x0, .inr (11, [.ref rd, .ref dr, .ref bk, .ref st, .ref nw, .ref tr, .ref pl, .ref fl, .ref rg, .int 0, .int 0, .int 0])), (bk, .inr (0, [.int 0, .ref bk_tail, .ref bk_head, .ref bk_hinder, .ref bk_size, .ref bk_walk, .ref bk_draught, .ref bk_doorIn, .ref bk_fanIn, .ref bk_faceIn, .int 0, .int (-1), .ref gr])), (gr, .inr (3, [.int 0, .ref gr_doorBy, .int 0, .ref gr_pairFirst, .ref gr_pairSecond, .int 0, .ref gr_fanPush, .ref gr_fanFall, .ref gr_fanCost, .int 0, .ref gr_faceWay, .ref gr_faceGas, .ref gr_faceNeed]))]) hD hS hA [0, 1, 2] rfl
  refine va_calli (va_runV (As := [.int w]) (rest := []) ⟨hx, hb, hml, hown, hts⟩ (c_isDoor l dC dI n0 s.heap.size x0 rd dr bk st nw tr pl fl rg 0 0 0 bk_tail bk_head bk_hinder bk_size bk_walk bk_draught bk_doorIn bk_fanIn bk_faceIn gr gr_doorBy gr_pairFirst gr_pairSecond gr_fanPush gr_fanFall gr_fanCost gr_faceWay gr_faceGas gr_faceNeed w ) (cwV 1 hts (gV (fun w h => wM_c h) wd_966 wd_963 wd_965 wd_26 wd_114) rfl rfl rfl (by decide +kernel) ⟨Nat.le_of_ble_eq_true rfl, Nat.le_of_ble_eq_true rfl⟩) ⟨fun a U g mk q => by obtain ⟨q0, q1, q2, qG, qP, qK, qD⟩ := q; exact ⟨q0, q1, q2, GW.blind qG, qP, va_K.moved (u := U) (U := U.calling g mk a) (Vm.Alike.refl U.vm) qK, qD⟩, va_recv hKc hPc (ci := 11) (q0 := 0) rfl rfl, fun U hU hW => ⟨rfl, by rw [hU], Nat.le_trans hn0 hS.1, GW.go hW hU hG (fun q hq hA9 => hS.2.1 q hq (fun h => hA9 (hA0 q h))), by rw [hU]; exact hPc, va_K.moved hW.alike hKc, hDc.weaken (fun _ _ _ h => hA0 _ h)⟩⟩ rfl rfl hl.1 rfl (lv_room (Nat.le_of_ble_eq_true rfl)) dX11_door_2 ⟨Nat.le_of_ble_eq_true rfl, Nat.le_of_ble_eq_true rfl⟩) hS (fun q _ h => hFc q h) hFc (fun r_1 u t H1 locs ht hvm hw_2 hB hz1 hk1 hS => ?_)
  obtain ⟨hP1, hK1, hD1⟩ := hB
  rw [ht] at hP1
  obtain ⟨hP, hD⟩ := va_join (wr := []) (w1 := [(x0, .inr (11, [.ref rd, .ref dr, .ref bk, .ref st, .ref nw, .ref tr, .ref pl, .ref fl, .ref rg, .int 0, .int 0, .int 0])), (bk, .inr (0, [.int 0, .ref bk_tail, .ref bk_head, .ref bk_hinder, .ref bk_size, .ref bk_walk, .ref bk_draught, .ref bk_doorIn, .ref bk_fanIn, .ref bk_faceIn, .int 0, .int (-1), .ref gr])), (gr, .inr (3, [.int 0, .ref gr_doorBy, .int 0, .ref gr_pairFirst, .ref gr_pairSecond, .int 0, .ref gr_fanPush, .ref gr_fanFall, .ref gr_fanCost, .int 0, .ref gr_faceWay, .ref gr_faceGas, .ref gr_faceNeed]))]) hP hD [0, 1, 2] [] rfl rfl (by decide) (by decide) hk1 hFc hP1 hD1
  generalize H1 = H at hP hS ⊢
  have hP : va_P (dC, dI) classes [(x0, .inr (11, [.ref rd, .ref dr, .ref bk, .ref st, .ref nw, .ref tr, .ref pl, .ref fl, .ref rg, .int 0, .int 0, .int 0])), (bk, .inr (0, [.int 0, .ref bk_tail, .ref bk_head, .ref bk_hinder, .ref bk_size, .ref bk_walk, .ref bk_draught, .ref bk_doorIn, .ref bk_fanIn, .ref bk_faceIn, .int 0, .int (-1), .ref gr])), (gr, .inr (3, [.int 0, .ref gr_doorBy, .int 0, .ref gr_pairFirst, .ref gr_pairSecond, .int 0, .ref gr_fanPush, .ref gr_fanFall, .ref gr_fanCost, .int 0, .ref gr_faceWay, .ref gr_faceGas, .ref gr_faceNeed]))] H := hP
  have hD : va_D A [(x0, .inr (11, [.ref rd, .ref dr, .ref bk, .ref st, .ref nw, .ref tr, .ref pl, .ref fl, .ref rg, .int 0, .int 0, .int 0])), (bk, .inr (0, [.int 0, .ref bk_tail, .ref bk_head, .ref bk_hinder, .ref bk_size, .ref bk_walk, .ref bk_draught, .ref bk_doorIn, .ref bk_fanIn, .ref bk_faceIn, .int 0, .int (-1), .ref gr])), (gr, .inr (3, [.int 0, .ref gr_doorBy, .int 0, .ref gr_pairFirst, .ref gr_pairSecond, .int 0, .ref gr_fanPush, .ref gr_fanFall, .ref gr_fanCost, .int 0, .ref gr_faceWay, .ref gr_faceGas, .ref gr_faceNeed]))] := hD
  obtain rfl : r_1 = 0 := hw_2
  refine lv_if_ne (tgt := 14) hx hb dX11_door_5 (by decide) (fun c_3 => ?_) (fun c_3 => ?_)
  · exact absurd c_3 (by decide)
  refine lv_aload_n hx hb dX11_door_8 rfl (lv_at hl 0 rfl) ?_
  refine lv_iconst (v := 1) hx hb dX11_door_9 (by decide) ?_
  have hPc := hP.sub (ws' := [(x0, .inr (11, [.ref rd, .ref dr, .ref bk, .ref st, .ref nw, .ref tr, .ref pl, .ref fl, .ref rg, .int 0, .int 0, .int 0]))]) [0] rfl
  have hDc := hD.sub (ws' := [(x0, .inr (11, [.ref rd, .ref dr, .ref bk, .ref st, .ref nw, .ref tr, .ref pl, .ref fl, .ref rg, .int 0, .int 0, .int 0]))]) [0] (by decide) rfl
  have hKc := hK.sub (tys' := []) [] rfl
  have hFc := va_free (wc := [(x0, .inr (11, [.ref rd, .ref dr, .ref bk, .ref st, .ref nw, .ref tr, .ref pl, .ref fl, .ref rg, .int 0, .int 0, .int 0]))]) hD hS hA [0] rfl
  refine va_calli (va_runV (As := [.int 1]) (rest := []) ⟨hx, hb, hml, hown, hts⟩ (c_deny l dC dI n0 H.size x0 rd dr bk st nw tr pl fl rg 0 0 0 1 ) (cwV 1 hts (gV (fun w h => wM_c h) wd_970 wd_967 wd_969 wd_27 wd_114) rfl rfl rfl (by decide +kernel) ⟨Nat.le_of_ble_eq_true rfl, Nat.le_of_ble_eq_true rfl⟩) ⟨fun a U g mk q => by obtain ⟨q0, q1, q2, qG, qP, qK, qD⟩ := q; exact ⟨q0, q1, q2, GW.blind qG, qP, va_K.moved (u := U) (U := U.calling g mk a) (Vm.Alike.refl U.vm) qK, qD⟩, va_recv hKc hPc (ci := 11) (q0 := 0) rfl rfl, fun U hU hW => ⟨rfl, by rw [hU], Nat.le_trans hn0 hS.1, GW.go hW hU hG (fun q hq hA9 => hS.2.1 q hq (fun h => hA9 (hA0 q h))), by rw [hU]; exact hPc, va_K.moved hW.alike hKc, hDc.weaken (fun _ _ _ h => hA0 _ h)⟩⟩ rfl rfl hl.1 rfl (lv_room (Nat.le_of_ble_eq_true rfl)) dX11_door_10 ⟨Nat.le_of_ble_eq_true rfl, Nat.le_of_ble_eq_true rfl⟩) hS (fun q _ h => hFc q h) hFc (fun r_4 u t H1 locs ht hvm hw_5 hB hz1 hk1 hS => ?_)
  obtain ⟨hP1, hK1, hD1⟩ := hB
  rw [ht] at hP1
  obtain ⟨hP, hD⟩ := va_join (wr := [(bk, .inr (0, [.int 0, .ref bk_tail, .ref bk_head, .ref bk_hinder, .ref bk_size, .ref bk_walk, .ref bk_draught, .ref bk_doorIn, .ref bk_fanIn, .ref bk_faceIn, .int 0, .int (-1), .ref gr])), (gr, .inr (3, [.int 0, .ref gr_doorBy, .int 0, .ref gr_pairFirst, .ref gr_pairSecond, .int 0, .ref gr_fanPush, .ref gr_fanFall, .ref gr_fanCost, .int 0, .ref gr_faceWay, .ref gr_faceGas, .ref gr_faceNeed]))]) (w1 := [(x0, .inr (11, [.ref rd, .ref dr, .ref bk, .ref st, .ref nw, .ref tr, .ref pl, .ref fl, .ref rg, .int 1, .int 0, .int 0]))]) hP hD [0] [1, 2] rfl rfl (by decide) (by decide) hk1 hFc hP1 hD1
  generalize H1 = H at hP hS ⊢
  have hP : va_P (dC, dI) classes [(bk, .inr (0, [.int 0, .ref bk_tail, .ref bk_head, .ref bk_hinder, .ref bk_size, .ref bk_walk, .ref bk_draught, .ref bk_doorIn, .ref bk_fanIn, .ref bk_faceIn, .int 0, .int (-1), .ref gr])), (gr, .inr (3, [.int 0, .ref gr_doorBy, .int 0, .ref gr_pairFirst, .ref gr_pairSecond, .int 0, .ref gr_fanPush, .ref gr_fanFall, .ref gr_fanCost, .int 0, .ref gr_faceWay, .ref gr_faceGas, .ref gr_faceNeed])), (x0, .inr (11, [.ref rd, .ref dr, .ref bk, .ref st, .ref nw, .ref tr, .ref pl, .ref fl, .ref rg, .int 1, .int 0, .int 0]))] H := hP
  have hD : va_D A [(bk, .inr (0, [.int 0, .ref bk_tail, .ref bk_head, .ref bk_hinder, .ref bk_size, .ref bk_walk, .ref bk_draught, .ref bk_doorIn, .ref bk_fanIn, .ref bk_faceIn, .int 0, .int (-1), .ref gr])), (gr, .inr (3, [.int 0, .ref gr_doorBy, .int 0, .ref gr_pairFirst, .ref gr_pairSecond, .int 0, .ref gr_fanPush, .ref gr_fanFall, .ref gr_fanCost, .int 0, .ref gr_faceWay, .ref gr_faceGas, .ref gr_faceNeed])), (x0, .inr (11, [.ref rd, .ref dr, .ref bk, .ref st, .ref nw, .ref tr, .ref pl, .ref fl, .ref rg, .int 1, .int 0, .int 0]))] := hD
  obtain rfl : r_4 = 0 := hw_5
  exact W.zret (v := 0) hx hb hr rfl (fun t ht hW => ⟨⟨0, (), rfl, rfl, trivial⟩, hS.F ht⟩) hS.2.2 dX11_door_13
set_option maxHeartbeats 4000000 in
set_option maxRecDepth 100000 in
theorem p_speed (l : Launch) (dC : Nat → ClassId) (dI : Nat → Nat → Nat) (n0 sz : Nat) (x0 : Nat) (rd : Nat) (dr : Nat) (bk : Nat) (st : Nat) (nw : Nat) (tr : Nat) (pl : Nat) (fl : Nat) (rg : Nat) (bk_tail : Nat) (bk_head : Nat) (bk_hinder : Nat) (bk_size : Nat) (bk_walk : Nat) (bk_draught : Nat) (bk_doorIn : Nat) (bk_fanIn : Nat) (bk_faceIn : Nat) (gr : Nat) (gr_doorBy : Nat) (gr_pairFirst : Nat) (gr_pairSecond : Nat) (gr_fanPush : Nat) (gr_fanFall : Nat) (gr_fanCost : Nat) (gr_faceWay : Nat) (gr_faceGas : Nat) (gr_faceNeed : Nat) (w : Int32) (v : Int32) : Met l yX11_speed (wM yX11_speed cX11_speed 3 (some .boolean)) ({ frames := 1, cells := 0, slots := 0, locals := 21 }) (va_Pc [.ref x0, .int w, .int v] (fun U => U.heap.size = sz ∧ n0 ≤ sz ∧ GW n0 U ∧ va_P (dC, dI) classes [(x0, .inr (11, [.ref rd, .ref dr, .ref bk, .ref st, .ref nw, .ref tr, .ref pl, .ref fl, .ref rg, .int 0, .int 0, .int 0])), (bk, .inr (0, [.int 0, .ref bk_tail, .ref bk_head, .ref bk_hinder, .ref bk_size, .ref bk_walk, .ref bk_draught, .ref bk_doorIn, .ref bk_fanIn, .ref bk_faceIn, .int 0, .int (-1), .ref gr])), (gr, .inr (3, [.int 0, .ref gr_doorBy, .int 0, .ref gr_pairFirst, .ref gr_pairSecond, .int 0, .ref gr_fanPush, .ref gr_fanFall, .ref gr_fanCost, .int 0, .ref gr_faceWay, .ref gr_faceGas, .ref gr_faceNeed]))] U.heap ∧ va_K (dC, dI) classes [] U ∧ va_D (fun q => n0 ≤ q) [(x0, .inr (11, [.ref rd, .ref dr, .ref bk, .ref st, .ref nw, .ref tr, .ref pl, .ref fl, .ref rg, .int 0, .int 0, .int 0])), (bk, .inr (0, [.int 0, .ref bk_tail, .ref bk_head, .ref bk_hinder, .ref bk_size, .ref bk_walk, .ref bk_draught, .ref bk_doorIn, .ref bk_fanIn, .ref bk_faceIn, .int 0, .int (-1), .ref gr])), (gr, .inr (3, [.int 0, .ref gr_doorBy, .int 0, .ref gr_pairFirst, .ref gr_pairSecond, .int 0, .ref gr_fanPush, .ref gr_fanFall, .ref gr_fanCost, .int 0, .ref gr_faceWay, .ref gr_faceGas, .ref gr_faceNeed]))])) (va_Qi (fun (r : Int32) (_ : Unit) => r = 0) (fun (_ : Unit) (_ : State) => True) (va_A [(x0, .inr (11, [.ref rd, .ref dr, .ref bk, .ref st, .ref nw, .ref tr, .ref pl, .ref fl, .ref rg, .int 0, .int 0, .int 0])), (bk, .inr (0, [.int 0, .ref bk_tail, .ref bk_head, .ref bk_hinder, .ref bk_size, .ref bk_walk, .ref bk_draught, .ref bk_doorIn, .ref bk_fanIn, .ref bk_faceIn, .int 0, .int (-1), .ref gr])), (gr, .inr (3, [.int 0, .ref gr_doorBy, .int 0, .ref gr_pairFirst, .ref gr_pairSecond, .int 0, .ref gr_fanPush, .ref gr_fanFall, .ref gr_fanCost, .int 0, .ref gr_faceWay, .ref gr_faceGas, .ref gr_faceNeed]))] sz)) 0 0 (va_A [(x0, .inr (11, [.ref rd, .ref dr, .ref bk, .ref st, .ref nw, .ref tr, .ref pl, .ref fl, .ref rg, .int 0, .int 0, .int 0])), (bk, .inr (0, [.int 0, .ref bk_tail, .ref bk_head, .ref bk_hinder, .ref bk_size, .ref bk_walk, .ref bk_draught, .ref bk_doorIn, .ref bk_fanIn, .ref bk_faceIn, .int 0, .int (-1), .ref gr])), (gr, .inr (3, [.int 0, .ref gr_doorBy, .int 0, .ref gr_pairFirst, .ref gr_pairSecond, .int 0, .ref gr_fanPush, .ref gr_fanFall, .ref gr_fanCost, .int 0, .ref gr_faceWay, .ref gr_faceGas, .ref gr_faceNeed]))] sz) := by
  refine Met.ofW (cc := cX11_speed) (maxL := 3) (ret := (some .boolean)) (by decide) rfl ?_
  intro p e s m args below meth c s₁ B hml hv
  obtain ⟨rfl, hsz, hn0, hG, hP, hK, hD0⟩ := hv
  have hx := B.exec
  have hb := B.bytes
  have hr := B.returns
  have hts := atoms_spec (ws := wM yX11_speed cX11_speed 3 (some .boolean)) B.pre
  have hown : s.vm.findClass RX11 = some m.cls := findClass_of_methodNamed B.named
  have hlocks := B.notSynchronized
  subst hsz
  have hD := hD0.self (sz := s.heap.size)
  have hA0 := vA_n0 hD0 hn0
  generalize hAe : va_A [(x0, .inr (11, [.ref rd, .ref dr, .ref bk, .ref st, .ref nw, .ref tr, .ref pl, .ref fl, .ref rg, .int 0, .int 0, .int 0])), (bk, .inr (0, [.int 0, .ref bk_tail, .ref bk_head, .ref bk_hinder, .ref bk_size, .ref bk_walk, .ref bk_draught, .ref bk_doorIn, .ref bk_fanIn, .ref bk_faceIn, .int 0, .int (-1), .ref gr])), (gr, .inr (3, [.int 0, .ref gr_doorBy, .int 0, .ref gr_pairFirst, .ref gr_pairSecond, .int 0, .ref gr_fanPush, .ref gr_fanFall, .ref gr_fanCost, .int 0, .ref gr_faceWay, .ref gr_faceGas, .ref gr_faceNeed]))] s.heap.size = A at hD hA0 ⊢
  have hA : ∀ q : Nat, s.heap.size ≤ q → A q := fun q h => by rw [← hAe]; exact Or.inr h
  have hS : va_S A s.heap s.heap [] := va_S.rf
  have hl := lv_entry ([.ref x0, .int w, .int v]) (n := 3) (Nat.le_of_ble_eq_true rfl)
  rw [lg_entry_eq]
  generalize (lg_sl ([.ref x0, .int w, .int v]) ++ List.replicate (3 - (lg_sl ([.ref x0, .int w, .int v])).length) Slot.unset).toArray = ls at hl ⊢
  have hl : lv_has ls 3 [(0, .ref x0), (1, .int w), (2, .int v)] := hl
  refine lv_aload_n hx hb dX11_speed_0 rfl (lv_at hl 0 rfl) ?_
  refine lv_iload_n hx hb dX11_speed_1 rfl (lv_at hl 1 rfl) ?_
  have hPc := hP.sub (ws' := [(x0, .inr (11, [.ref rd, .ref dr, .ref bk, .ref st, .ref nw, .ref tr, .ref pl, .ref fl, .ref rg, .int 0, .int 0, .int 0])), (bk, .inr (0, [.int 0, .ref bk_tail, .ref bk_head, .ref bk_hinder, .ref bk_size, .ref bk_walk, .ref bk_draught, .ref bk_doorIn, .ref bk_fanIn, .ref bk_faceIn, .int 0, .int (-1), .ref gr])), (gr, .inr (3, [.int 0, .ref gr_doorBy, .int 0, .ref gr_pairFirst, .ref gr_pairSecond, .int 0, .ref gr_fanPush, .ref gr_fanFall, .ref gr_fanCost, .int 0, .ref gr_faceWay, .ref gr_faceGas, .ref gr_faceNeed]))]) [0, 1, 2] rfl
  have hDc := hD.sub (ws' := [(x0, .inr (11, [.ref rd, .ref dr, .ref bk, .ref st, .ref nw, .ref tr, .ref pl, .ref fl, .ref rg, .int 0, .int 0, .int 0])), (bk, .inr (0, [.int 0, .ref bk_tail, .ref bk_head, .ref bk_hinder, .ref bk_size, .ref bk_walk, .ref bk_draught, .ref bk_doorIn, .ref bk_fanIn, .ref bk_faceIn, .int 0, .int (-1), .ref gr])), (gr, .inr (3, [.int 0, .ref gr_doorBy, .int 0, .ref gr_pairFirst, .ref gr_pairSecond, .int 0, .ref gr_fanPush, .ref gr_fanFall, .ref gr_fanCost, .int 0, .ref gr_faceWay, .ref gr_faceGas, .ref gr_faceNeed]))]) [0, 1, 2] (by decide) rfl
  have hKc := hK.sub (tys' := []) [] rfl
  have hFc := va_free (wc := [(x0, .inr (11, [.ref rd, .ref dr, .ref bk, .ref st, .ref nw, .ref tr, .ref pl, .ref fl, .ref rg, .int 0, .int 0, .int 0])), (bk, .inr (0, [.int 0, .ref bk_tail, .ref bk_head, .ref bk_hinder, .ref bk_size, .ref bk_walk, .ref bk_draught, .ref bk_doorIn, .ref bk_fanIn, .ref bk_faceIn, .int 0, .int (-1), .ref gr])), (gr, .inr (3, [.int 0, .ref gr_doorBy, .int 0, .ref gr_pairFirst, .ref gr_pairSecond, .int 0, .ref gr_fanPush, .ref gr_fanFall, .ref gr_fanCost, .int 0, .ref gr_faceWay, .ref gr_faceGas, .ref gr_faceNeed]))]) hD hS hA [0, 1, 2] rfl
  refine va_calli (va_runV (As := [.int w]) (rest := []) ⟨hx, hb, hml, hown, hts⟩ (c_isFan l dC dI n0 s.heap.size x0 rd dr bk st nw tr pl fl rg 0 0 0 bk_tail bk_head bk_hinder bk_size bk_walk bk_draught bk_doorIn bk_fanIn bk_faceIn gr gr_doorBy gr_pairFirst gr_pairSecond gr_fanPush gr_fanFall gr_fanCost gr_faceWay gr_faceGas gr_faceNeed w ) (cwV 1 hts (gV (fun w h => wM_c h) wd_982 wd_979 wd_981 wd_29 wd_114) rfl rfl rfl (by decide +kernel) ⟨Nat.le_of_ble_eq_true rfl, Nat.le_of_ble_eq_true rfl⟩) ⟨fun a U g mk q => by obtain ⟨q0, q1, q2, qG, qP, qK, qD⟩ := q; exact ⟨q0, q1, q2, GW.blind qG, qP, va_K.moved (u := U) (U := U.calling g mk a) (Vm.Alike.refl U.vm) qK, qD⟩, va_recv hKc hPc (ci := 11) (q0 := 0) rfl rfl, fun U hU hW => ⟨rfl, by rw [hU], Nat.le_trans hn0 hS.1, GW.go hW hU hG (fun q hq hA9 => hS.2.1 q hq (fun h => hA9 (hA0 q h))), by rw [hU]; exact hPc, va_K.moved hW.alike hKc, hDc.weaken (fun _ _ _ h => hA0 _ h)⟩⟩ rfl rfl hl.1 rfl (lv_room (Nat.le_of_ble_eq_true rfl)) dX11_speed_2 ⟨Nat.le_of_ble_eq_true rfl, Nat.le_of_ble_eq_true rfl⟩) hS (fun q _ h => hFc q h) hFc (fun r_1 u t H1 locs ht hvm hw_2 hB hz1 hk1 hS => ?_)
  obtain ⟨hP1, hK1, hD1⟩ := hB
  rw [ht] at hP1
  obtain ⟨hP, hD⟩ := va_join (wr := []) (w1 := [(x0, .inr (11, [.ref rd, .ref dr, .ref bk, .ref st, .ref nw, .ref tr, .ref pl, .ref fl, .ref rg, .int 0, .int 0, .int 0])), (bk, .inr (0, [.int 0, .ref bk_tail, .ref bk_head, .ref bk_hinder, .ref bk_size, .ref bk_walk, .ref bk_draught, .ref bk_doorIn, .ref bk_fanIn, .ref bk_faceIn, .int 0, .int (-1), .ref gr])), (gr, .inr (3, [.int 0, .ref gr_doorBy, .int 0, .ref gr_pairFirst, .ref gr_pairSecond, .int 0, .ref gr_fanPush, .ref gr_fanFall, .ref gr_fanCost, .int 0, .ref gr_faceWay, .ref gr_faceGas, .ref gr_faceNeed]))]) hP hD [0, 1, 2] [] rfl rfl (by decide) (by decide) hk1 hFc hP1 hD1
  generalize H1 = H at hP hS ⊢
  have hP : va_P (dC, dI) classes [(x0, .inr (11, [.ref rd, .ref dr, .ref bk, .ref st, .ref nw, .ref tr, .ref pl, .ref fl, .ref rg, .int 0, .int 0, .int 0])), (bk, .inr (0, [.int 0, .ref bk_tail, .ref bk_head, .ref bk_hinder, .ref bk_size, .ref bk_walk, .ref bk_draught, .ref bk_doorIn, .ref bk_fanIn, .ref bk_faceIn, .int 0, .int (-1), .ref gr])), (gr, .inr (3, [.int 0, .ref gr_doorBy, .int 0, .ref gr_pairFirst, .ref gr_pairSecond, .int 0, .ref gr_fanPush, .ref gr_fanFall, .ref gr_fanCost, .int 0, .ref gr_faceWay, .ref gr_faceGas, .ref gr_faceNeed]))] H := hP
  have hD : va_D A [(x0, .inr (11, [.ref rd, .ref dr, .ref bk, .ref st, .ref nw, .ref tr, .ref pl, .ref fl, .ref rg, .int 0, .int 0, .int 0])), (bk, .inr (0, [.int 0, .ref bk_tail, .ref bk_head, .ref bk_hinder, .ref bk_size, .ref bk_walk, .ref bk_draught, .ref bk_doorIn, .ref bk_fanIn, .ref bk_faceIn, .int 0, .int (-1), .ref gr])), (gr, .inr (3, [.int 0, .ref gr_doorBy, .int 0, .ref gr_pairFirst, .ref gr_pairSecond, .int 0, .ref gr_fanPush, .ref gr_fanFall, .ref gr_fanCost, .int 0, .ref gr_faceWay, .ref gr_faceGas, .ref gr_faceNeed]))] := hD
  obtain rfl : r_1 = 0 := hw_2
  refine lv_if_ne (tgt := 14) hx hb dX11_speed_5 (by decide) (fun c_3 => ?_) (fun c_3 => ?_)
  · exact absurd c_3 (by decide)
  refine lv_aload_n hx hb dX11_speed_8 rfl (lv_at hl 0 rfl) ?_
  refine lv_iconst (v := 1) hx hb dX11_speed_9 (by decide) ?_
  have hPc := hP.sub (ws' := [(x0, .inr (11, [.ref rd, .ref dr, .ref bk, .ref st, .ref nw, .ref tr, .ref pl, .ref fl, .ref rg, .int 0, .int 0, .int 0]))]) [0] rfl
  have hDc := hD.sub (ws' := [(x0, .inr (11, [.ref rd, .ref dr, .ref bk, .ref st, .ref nw, .ref tr, .ref pl, .ref fl, .ref rg, .int 0, .int 0, .int 0]))]) [0] (by decide) rfl
  have hKc := hK.sub (tys' := []) [] rfl
  have hFc := va_free (wc := [(x0, .inr (11, [.ref rd, .ref dr, .ref bk, .ref st, .ref nw, .ref tr, .ref pl, .ref fl, .ref rg, .int 0, .int 0, .int 0]))]) hD hS hA [0] rfl
  refine va_calli (va_runV (As := [.int 1]) (rest := []) ⟨hx, hb, hml, hown, hts⟩ (c_deny l dC dI n0 H.size x0 rd dr bk st nw tr pl fl rg 0 0 0 1 ) (cwV 1 hts (gV (fun w h => wM_c h) wd_970 wd_967 wd_969 wd_27 wd_114) rfl rfl rfl (by decide +kernel) ⟨Nat.le_of_ble_eq_true rfl, Nat.le_of_ble_eq_true rfl⟩) ⟨fun a U g mk q => by obtain ⟨q0, q1, q2, qG, qP, qK, qD⟩ := q; exact ⟨q0, q1, q2, GW.blind qG, qP, va_K.moved (u := U) (U := U.calling g mk a) (Vm.Alike.refl U.vm) qK, qD⟩, va_recv hKc hPc (ci := 11) (q0 := 0) rfl rfl, fun U hU hW => ⟨rfl, by rw [hU], Nat.le_trans hn0 hS.1, GW.go hW hU hG (fun q hq hA9 => hS.2.1 q hq (fun h => hA9 (hA0 q h))), by rw [hU]; exact hPc, va_K.moved hW.alike hKc, hDc.weaken (fun _ _ _ h => hA0 _ h)⟩⟩ rfl rfl hl.1 rfl (lv_room (Nat.le_of_ble_eq_true rfl)) dX11_speed_10 ⟨Nat.le_of_ble_eq_true rfl, Nat.le_of_ble_eq_true rfl⟩) hS (fun q _ h => hFc q h) hFc (fun r_4 u t H1 locs ht hvm hw_5 hB hz1 hk1 hS => ?_)
  obtain ⟨hP1, hK1, hD1⟩ := hB
  rw [ht] at hP1
  obtain ⟨hP, hD⟩ := va_join (wr := [(bk, .inr (0, [.int 0, .ref bk_tail, .ref bk_head, .ref bk_hinder, .ref bk_size, .ref bk_walk, .ref bk_draught, .ref bk_doorIn, .ref bk_fanIn, .ref bk_faceIn, .int 0, .int (-1), .ref gr])), (gr, .inr (3, [.int 0, .ref gr_doorBy, .int 0, .ref gr_pairFirst, .ref gr_pairSecond, .int 0, .ref gr_fanPush, .ref gr_fanFall, .ref gr_fanCost, .int 0, .ref gr_faceWay, .ref gr_faceGas, .ref gr_faceNeed]))]) (w1 := [(x0, .inr (11, [.ref rd, .ref dr, .ref bk, .ref st, .ref nw, .ref tr, .ref pl, .ref fl, .ref rg, .int 1, .int 0, .int 0]))]) hP hD [0] [1, 2] rfl rfl (by decide) (by decide) hk1 hFc hP1 hD1
  generalize H1 = H at hP hS ⊢
  have hP : va_P (dC, dI) classes [(bk, .inr (0, [.int 0, .ref bk_tail, .ref bk_head, .ref bk_hinder, .ref bk_size, .ref bk_walk, .ref bk_draught, .ref bk_doorIn, .ref bk_fanIn, .ref bk_faceIn, .int 0, .int (-1), .ref gr])), (gr, .inr (3, [.int 0, .ref gr_doorBy, .int 0, .ref gr_pairFirst, .ref gr_pairSecond, .int 0, .ref gr_fanPush, .ref gr_fanFall, .ref gr_fanCost, .int 0, .ref gr_faceWay, .ref gr_faceGas, .ref gr_faceNeed])), (x0, .inr (11, [.ref rd, .ref dr, .ref bk, .ref st, .ref nw, .ref tr, .ref pl, .ref fl, .ref rg, .int 1, .int 0, .int 0]))] H := hP
  have hD : va_D A [(bk, .inr (0, [.int 0, .ref bk_tail, .ref bk_head, .ref bk_hinder, .ref bk_size, .ref bk_walk, .ref bk_draught, .ref bk_doorIn, .ref bk_fanIn, .ref bk_faceIn, .int 0, .int (-1), .ref gr])), (gr, .inr (3, [.int 0, .ref gr_doorBy, .int 0, .ref gr_pairFirst, .ref gr_pairSecond, .int 0, .ref gr_fanPush, .ref gr_fanFall, .ref gr_fanCost, .int 0, .ref gr_faceWay, .ref gr_faceGas, .ref gr_faceNeed])), (x0, .inr (11, [.ref rd, .ref dr, .ref bk, .ref st, .ref nw, .ref tr, .ref pl, .ref fl, .ref rg, .int 1, .int 0, .int 0]))] := hD
  obtain rfl : r_4 = 0 := hw_5
  exact W.zret (v := 0) hx hb hr rfl (fun t ht hW => ⟨⟨0, (), rfl, rfl, trivial⟩, hS.F ht⟩) hS.2.2 dX11_speed_13
set_option maxHeartbeats 4000000 in
set_option maxRecDepth 100000 in
theorem p_fall (l : Launch) (dC : Nat → ClassId) (dI : Nat → Nat → Nat) (n0 sz : Nat) (x0 : Nat) (rd : Nat) (dr : Nat) (bk : Nat) (st : Nat) (nw : Nat) (tr : Nat) (pl : Nat) (fl : Nat) (rg : Nat) (bk_tail : Nat) (bk_head : Nat) (bk_hinder : Nat) (bk_size : Nat) (bk_walk : Nat) (bk_draught : Nat) (bk_doorIn : Nat) (bk_fanIn : Nat) (bk_faceIn : Nat) (gr : Nat) (w : Int32) (v : Int32) : Met l yX11_fall (wM yX11_fall cX11_fall 3 (some .boolean)) ({ frames := 1, cells := 0, slots := 0, locals := 21 }) (va_Pc [.ref x0, .int w, .int v] (fun U => U.heap.size = sz ∧ n0 ≤ sz ∧ GW n0 U ∧ va_P (dC, dI) classes [(x0, .inr (11, [.ref rd, .ref dr, .ref bk, .ref st, .ref nw, .ref tr, .ref pl, .ref fl, .ref rg, .int 0, .int 0, .int 0])), (bk, .inr (0, [.int 0, .ref bk_tail, .ref bk_head, .ref bk_hinder, .ref bk_size, .ref bk_walk, .ref bk_draught, .ref bk_doorIn, .ref bk_fanIn, .ref bk_faceIn, .int 0, .int (-1), .ref gr]))] U.heap ∧ va_K (dC, dI) classes [] U ∧ va_D (fun q => n0 ≤ q) [(x0, .inr (11, [.ref rd, .ref dr, .ref bk, .ref st, .ref nw, .ref tr, .ref pl, .ref fl, .ref rg, .int 0, .int 0, .int 0])), (bk, .inr (0, [.int 0, .ref bk_tail, .ref bk_head, .ref bk_hinder, .ref bk_size, .ref bk_walk, .ref bk_draught, .ref bk_doorIn, .ref bk_fanIn, .ref bk_faceIn, .int 0, .int (-1), .ref gr]))])) (va_Qi (fun (r : Int32) (_ : Unit) => r = 0) (fun (_ : Unit) (_ : State) => True) (va_A [(x0, .inr (11, [.ref rd, .ref dr, .ref bk, .ref st, .ref nw, .ref tr, .ref pl, .ref fl, .ref rg, .int 0, .int 0, .int 0])), (bk, .inr (0, [.int 0, .ref bk_tail, .ref bk_head, .ref bk_hinder, .ref bk_size, .ref bk_walk, .ref bk_draught, .ref bk_doorIn, .ref bk_fanIn, .ref bk_faceIn, .int 0, .int (-1), .ref gr]))] sz)) 0 0 (va_A [(x0, .inr (11, [.ref rd, .ref dr, .ref bk, .ref st, .ref nw, .ref tr, .ref pl, .ref fl, .ref rg, .int 0, .int 0, .int 0])), (bk, .inr (0, [.int 0, .ref bk_tail, .ref bk_head, .ref bk_hinder, .ref bk_size, .ref bk_walk, .ref bk_draught, .ref bk_doorIn, .ref bk_fanIn, .ref bk_faceIn, .int 0, .int (-1), .ref gr]))] sz) := by
  refine Met.ofW (cc := cX11_fall) (maxL := 3) (ret := (some .boolean)) (by decide) rfl ?_
  intro p e s m args below meth c s₁ B hml hv
  obtain ⟨rfl, hsz, hn0, hG, hP, hK, hD0⟩ := hv
  have hx := B.exec
  have hb := B.bytes
  have hr := B.returns
  have hts := atoms_spec (ws := wM yX11_fall cX11_fall 3 (some .boolean)) B.pre
  have hown : s.vm.findClass RX11 = some m.cls := findClass_of_methodNamed B.named
  have hlocks := B.notSynchronized
  subst hsz
  have hD := hD0.self (sz := s.heap.size)
  have hA0 := vA_n0 hD0 hn0
  generalize hAe : va_A [(x0, .inr (11, [.ref rd, .ref dr, .ref bk, .ref st, .ref nw, .ref tr, .ref pl, .ref fl, .ref rg, .int 0, .int 0, .int 0])), (bk, .inr (0, [.int 0, .ref bk_tail, .ref bk_head, .ref bk_hinder, .ref bk_size, .ref bk_walk, .ref bk_draught, .ref bk_doorIn, .ref bk_fanIn, .ref bk_faceIn, .int 0, .int (-1), .ref gr]))] s.heap.size = A at hD hA0 ⊢
  have hA : ∀ q : Nat, s.heap.size ≤ q → A q := fun q h => by rw [← hAe]; exact Or.inr h
  have hS : va_S A s.heap s.heap [] := va_S.rf
  have hl := lv_entry ([.ref x0, .int w, .int v]) (n := 3) (Nat.le_of_ble_eq_true rfl)
  rw [lg_entry_eq]
  generalize (lg_sl ([.ref x0, .int w, .int v]) ++ List.replicate (3 - (lg_sl ([.ref x0, .int w, .int v])).length) Slot.unset).toArray = ls at hl ⊢
  have hl : lv_has ls 3 [(0, .ref x0), (1, .int w), (2, .int v)] := hl
  refine lv_aload_n hx hb dX11_fall_0 rfl (lv_at hl 0 rfl) ?_
  refine lv_iload_n hx hb dX11_fall_1 rfl (lv_at hl 1 rfl) ?_
  have hPc := hP.sub (ws' := [(x0, .inr (11, [.ref rd, .ref dr, .ref bk, .ref st, .ref nw, .ref tr, .ref pl, .ref fl, .ref rg, .int 0, .int 0, .int 0])), (bk, .inr (0, [.int 0, .ref bk_tail, .ref bk_head, .ref bk_hinder, .ref bk_size, .ref bk_walk, .ref bk_draught, .ref bk_doorIn, .ref bk_fanIn, .ref bk_faceIn, .int 0, .int (-1), .ref gr]))]) [0, 1] rfl
  have hDc := hD.sub (ws' := [(x0, .inr (11, [.ref rd, .ref dr, .ref bk, .ref st, .ref nw, .ref tr, .ref pl, .ref fl, .ref rg, .int 0, .int 0, .int 0])), (bk, .inr (0, [.int 0, .ref bk_tail, .ref bk_head, .ref bk_hinder, .ref bk_size, .ref bk_walk, .ref bk_draught, .ref bk_doorIn, .ref bk_fanIn, .ref bk_faceIn, .int 0, .int (-1), .ref gr]))]) [0, 1] (by decide) rfl
  have hKc := hK.sub (tys' := []) [] rfl
  have hFc := va_free (wc := [(x0, .inr (11, [.ref rd, .ref dr, .ref bk, .ref st, .ref nw, .ref tr, .ref pl, .ref fl, .ref rg, .int 0, .int 0, .int 0])), (bk, .inr (0, [.int 0, .ref bk_tail, .ref bk_head, .ref bk_hinder, .ref bk_size, .ref bk_walk, .ref bk_draught, .ref bk_doorIn, .ref bk_fanIn, .ref bk_faceIn, .int 0, .int (-1), .ref gr]))]) hD hS hA [0, 1] rfl
  refine va_calli (va_runV (As := [.int w]) (rest := []) ⟨hx, hb, hml, hown, hts⟩ (c_isWay l dC dI n0 s.heap.size x0 rd dr bk st nw tr pl fl rg 0 0 0 bk_tail bk_head bk_hinder bk_size bk_walk bk_draught bk_doorIn bk_fanIn bk_faceIn gr w ) (cwV 1 hts (gV (fun w h => wM_c h) wd_950 wd_947 wd_949 wd_25 wd_114) rfl rfl rfl (by decide +kernel) ⟨Nat.le_of_ble_eq_true rfl, Nat.le_of_ble_eq_true rfl⟩) ⟨fun a U g mk q => by obtain ⟨q0, q1, q2, qG, qP, qK, qD⟩ := q; exact ⟨q0, q1, q2, GW.blind qG, qP, va_K.moved (u := U) (U := U.calling g mk a) (Vm.Alike.refl U.vm) qK, qD⟩, va_recv hKc hPc (ci := 11) (q0 := 0) rfl rfl, fun U hU hW => ⟨rfl, by rw [hU], Nat.le_trans hn0 hS.1, GW.go hW hU hG (fun q hq hA9 => hS.2.1 q hq (fun h => hA9 (hA0 q h))), by rw [hU]; exact hPc, va_K.moved hW.alike hKc, hDc.weaken (fun _ _ _ h => hA0 _ h)⟩⟩ rfl rfl hl.1 rfl (lv_room (Nat.le_of_ble_eq_true rfl)) dX11_fall_2 ⟨Nat.le_of_ble_eq_true rfl, Nat.le_of_ble_eq_true rfl⟩) hS (fun q _ h => hFc q h) hFc (fun r_1 u t H1 locs ht hvm hw_2 hB hz1 hk1 hS => ?_)
  obtain ⟨hP1, hK1, hD1⟩ := hB
  rw [ht] at hP1
  obtain ⟨hP, hD⟩ := va_join (wr := []) (w1 := [(x0, .inr (11, [.ref rd, .ref dr, .ref bk, .ref st, .ref nw, .ref tr, .ref pl, .ref fl, .ref rg, .int 0, .int 0, .int 0])), (bk, .inr (0, [.int 0, .ref bk_tail, .ref bk_head, .ref bk_hinder, .ref bk_size, .ref bk_walk, .ref bk_draught, .ref bk_doorIn, .ref bk_fanIn, .ref bk_faceIn, .int 0, .int (-1), .ref gr]))]) hP hD [0, 1] [] rfl rfl (by decide) (by decide) hk1 hFc hP1 hD1
  generalize H1 = H at hP hS ⊢
  have hP : va_P (dC, dI) classes [(x0, .inr (11, [.ref rd, .ref dr, .ref bk, .ref st, .ref nw, .ref tr, .ref pl, .ref fl, .ref rg, .int 0, .int 0, .int 0])), (bk, .inr (0, [.int 0, .ref bk_tail, .ref bk_head, .ref bk_hinder, .ref bk_size, .ref bk_walk, .ref bk_draught, .ref bk_doorIn, .ref bk_fanIn, .ref bk_faceIn, .int 0, .int (-1), .ref gr]))] H := hP
  have hD : va_D A [(x0, .inr (11, [.ref rd, .ref dr, .ref bk, .ref st, .ref nw, .ref tr, .ref pl, .ref fl, .ref rg, .int 0, .int 0, .int 0])), (bk, .inr (0, [.int 0, .ref bk_tail, .ref bk_head, .ref bk_hinder, .ref bk_size, .ref bk_walk, .ref bk_draught, .ref bk_doorIn, .ref bk_fanIn, .ref bk_faceIn, .int 0, .int (-1), .ref gr]))] := hD
  obtain rfl : r_1 = 0 := hw_2
  refine lv_if_ne (tgt := 14) hx hb dX11_fall_5 (by decide) (fun c_3 => ?_) (fun c_3 => ?_)
  · exact absurd c_3 (by decide)
  refine lv_aload_n hx hb dX11_fall_8 rfl (lv_at hl 0 rfl) ?_
  refine lv_iconst (v := 1) hx hb dX11_fall_9 (by decide) ?_
  have hPc := hP.sub (ws' := [(x0, .inr (11, [.ref rd, .ref dr, .ref bk, .ref st, .ref nw, .ref tr, .ref pl, .ref fl, .ref rg, .int 0, .int 0, .int 0]))]) [0] rfl
  have hDc := hD.sub (ws' := [(x0, .inr (11, [.ref rd, .ref dr, .ref bk, .ref st, .ref nw, .ref tr, .ref pl, .ref fl, .ref rg, .int 0, .int 0, .int 0]))]) [0] (by decide) rfl
  have hKc := hK.sub (tys' := []) [] rfl
  have hFc := va_free (wc := [(x0, .inr (11, [.ref rd, .ref dr, .ref bk, .ref st, .ref nw, .ref tr, .ref pl, .ref fl, .ref rg, .int 0, .int 0, .int 0]))]) hD hS hA [0] rfl
  refine va_calli (va_runV (As := [.int 1]) (rest := []) ⟨hx, hb, hml, hown, hts⟩ (c_deny l dC dI n0 H.size x0 rd dr bk st nw tr pl fl rg 0 0 0 1 ) (cwV 1 hts (gV (fun w h => wM_c h) wd_970 wd_967 wd_969 wd_27 wd_114) rfl rfl rfl (by decide +kernel) ⟨Nat.le_of_ble_eq_true rfl, Nat.le_of_ble_eq_true rfl⟩) ⟨fun a U g mk q => by obtain ⟨q0, q1, q2, qG, qP, qK, qD⟩ := q; exact ⟨q0, q1, q2, GW.blind qG, qP, va_K.moved (u := U) (U := U.calling g mk a) (Vm.Alike.refl U.vm) qK, qD⟩, va_recv hKc hPc (ci := 11) (q0 := 0) rfl rfl, fun U hU hW => ⟨rfl, by rw [hU], Nat.le_trans hn0 hS.1, GW.go hW hU hG (fun q hq hA9 => hS.2.1 q hq (fun h => hA9 (hA0 q h))), by rw [hU]; exact hPc, va_K.moved hW.alike hKc, hDc.weaken (fun _ _ _ h => hA0 _ h)⟩⟩ rfl rfl hl.1 rfl (lv_room (Nat.le_of_ble_eq_true rfl)) dX11_fall_10 ⟨Nat.le_of_ble_eq_true rfl, Nat.le_of_ble_eq_true rfl⟩) hS (fun q _ h => hFc q h) hFc (fun r_4 u t H1 locs ht hvm hw_5 hB hz1 hk1 hS => ?_)
  obtain ⟨hP1, hK1, hD1⟩ := hB
  rw [ht] at hP1
  obtain ⟨hP, hD⟩ := va_join (wr := [(bk, .inr (0, [.int 0, .ref bk_tail, .ref bk_head, .ref bk_hinder, .ref bk_size, .ref bk_walk, .ref bk_draught, .ref bk_doorIn, .ref bk_fanIn, .ref bk_faceIn, .int 0, .int (-1), .ref gr]))]) (w1 := [(x0, .inr (11, [.ref rd, .ref dr, .ref bk, .ref st, .ref nw, .ref tr, .ref pl, .ref fl, .ref rg, .int 1, .int 0, .int 0]))]) hP hD [0] [1] rfl rfl (by decide) (by decide) hk1 hFc hP1 hD1
  generalize H1 = H at hP hS ⊢
  have hP : va_P (dC, dI) classes [(bk, .inr (0, [.int 0, .ref bk_tail, .ref bk_head, .ref bk_hinder, .ref bk_size, .ref bk_walk, .ref bk_draught, .ref bk_doorIn, .ref bk_fanIn, .ref bk_faceIn, .int 0, .int (-1), .ref gr])), (x0, .inr (11, [.ref rd, .ref dr, .ref bk, .ref st, .ref nw, .ref tr, .ref pl, .ref fl, .ref rg, .int 1, .int 0, .int 0]))] H := hP
  have hD : va_D A [(bk, .inr (0, [.int 0, .ref bk_tail, .ref bk_head, .ref bk_hinder, .ref bk_size, .ref bk_walk, .ref bk_draught, .ref bk_doorIn, .ref bk_fanIn, .ref bk_faceIn, .int 0, .int (-1), .ref gr])), (x0, .inr (11, [.ref rd, .ref dr, .ref bk, .ref st, .ref nw, .ref tr, .ref pl, .ref fl, .ref rg, .int 1, .int 0, .int 0]))] := hD
  obtain rfl : r_4 = 0 := hw_5
  exact W.zret (v := 0) hx hb hr rfl (fun t ht hW => ⟨⟨0, (), rfl, rfl, trivial⟩, hS.F ht⟩) hS.2.2 dX11_fall_13
set_option maxHeartbeats 4000000 in
set_option maxRecDepth 100000 in
theorem p_fire (l : Launch) (dC : Nat → ClassId) (dI : Nat → Nat → Nat) (n0 sz : Nat) (x0 : Nat) (rd : Nat) (dr : Nat) (bk : Nat) (st : Nat) (nw : Nat) (tr : Nat) (pl : Nat) (fl : Nat) (rg : Nat) (bk_tail : Nat) (bk_head : Nat) (bk_hinder : Nat) (bk_size : Nat) (bk_walk : Nat) (bk_draught : Nat) (bk_doorIn : Nat) (bk_fanIn : Nat) (bk_faceIn : Nat) (gr : Nat) (w : Int32) (v : Int32) : Met l yX11_fire (wM yX11_fire cX11_fire 3 (some .boolean)) ({ frames := 1, cells := 0, slots := 0, locals := 21 }) (va_Pc [.ref x0, .int w, .int v] (fun U => U.heap.size = sz ∧ n0 ≤ sz ∧ GW n0 U ∧ va_P (dC, dI) classes [(x0, .inr (11, [.ref rd, .ref dr, .ref bk, .ref st, .ref nw, .ref tr, .ref pl, .ref fl, .ref rg, .int 0, .int 0, .int 0])), (bk, .inr (0, [.int 0, .ref bk_tail, .ref bk_head, .ref bk_hinder, .ref bk_size, .ref bk_walk, .ref bk_draught, .ref bk_doorIn, .ref bk_fanIn, .ref bk_faceIn, .int 0, .int (-1), .ref gr]))] U.heap ∧ va_K (dC, dI) classes [] U ∧ va_D (fun q => n0 ≤ q) [(x0, .inr (11, [.ref rd, .ref dr, .ref bk, .ref st, .ref nw, .ref tr, .ref pl, .ref fl, .ref rg, .int 0, .int 0, .int 0])), (bk, .inr (0, [.int 0, .ref bk_tail, .ref bk_head, .ref bk_hinder, .ref bk_size, .ref bk_walk, .ref bk_draught, .ref bk_doorIn, .ref bk_fanIn, .ref bk_faceIn, .int 0, .int (-1), .ref gr]))])) (va_Qi (fun (r : Int32) (_ : Unit) => r = 0) (fun (_ : Unit) (_ : State) => True) (va_A [(x0, .inr (11, [.ref rd, .ref dr, .ref bk, .ref st, .ref nw, .ref tr, .ref pl, .ref fl, .ref rg, .int 0, .int 0, .int 0])), (bk, .inr (0, [.int 0, .ref bk_tail, .ref bk_head, .ref bk_hinder, .ref bk_size, .ref bk_walk, .ref bk_draught, .ref bk_doorIn, .ref bk_fanIn, .ref bk_faceIn, .int 0, .int (-1), .ref gr]))] sz)) 0 0 (va_A [(x0, .inr (11, [.ref rd, .ref dr, .ref bk, .ref st, .ref nw, .ref tr, .ref pl, .ref fl, .ref rg, .int 0, .int 0, .int 0])), (bk, .inr (0, [.int 0, .ref bk_tail, .ref bk_head, .ref bk_hinder, .ref bk_size, .ref bk_walk, .ref bk_draught, .ref bk_doorIn, .ref bk_fanIn, .ref bk_faceIn, .int 0, .int (-1), .ref gr]))] sz) := by
  refine Met.ofW (cc := cX11_fire) (maxL := 3) (ret := (some .boolean)) (by decide) rfl ?_
  intro p e s m args below meth c s₁ B hml hv
  obtain ⟨rfl, hsz, hn0, hG, hP, hK, hD0⟩ := hv
  have hx := B.exec
  have hb := B.bytes
  have hr := B.returns
  have hts := atoms_spec (ws := wM yX11_fire cX11_fire 3 (some .boolean)) B.pre
  have hown : s.vm.findClass RX11 = some m.cls := findClass_of_methodNamed B.named
  have hlocks := B.notSynchronized
  subst hsz
  have hD := hD0.self (sz := s.heap.size)
  have hA0 := vA_n0 hD0 hn0
  generalize hAe : va_A [(x0, .inr (11, [.ref rd, .ref dr, .ref bk, .ref st, .ref nw, .ref tr, .ref pl, .ref fl, .ref rg, .int 0, .int 0, .int 0])), (bk, .inr (0, [.int 0, .ref bk_tail, .ref bk_head, .ref bk_hinder, .ref bk_size, .ref bk_walk, .ref bk_draught, .ref bk_doorIn, .ref bk_fanIn, .ref bk_faceIn, .int 0, .int (-1), .ref gr]))] s.heap.size = A at hD hA0 ⊢
  have hA : ∀ q : Nat, s.heap.size ≤ q → A q := fun q h => by rw [← hAe]; exact Or.inr h
  have hS : va_S A s.heap s.heap [] := va_S.rf
  have hl := lv_entry ([.ref x0, .int w, .int v]) (n := 3) (Nat.le_of_ble_eq_true rfl)
  rw [lg_entry_eq]
  generalize (lg_sl ([.ref x0, .int w, .int v]) ++ List.replicate (3 - (lg_sl ([.ref x0, .int w, .int v])).length) Slot.unset).toArray = ls at hl ⊢
  have hl : lv_has ls 3 [(0, .ref x0), (1, .int w), (2, .int v)] := hl
  refine lv_aload_n hx hb dX11_fire_0 rfl (lv_at hl 0 rfl) ?_
  refine lv_iload_n hx hb dX11_fire_1 rfl (lv_at hl 1 rfl) ?_
  have hPc := hP.sub (ws' := [(x0, .inr (11, [.ref rd, .ref dr, .ref bk, .ref st, .ref nw, .ref tr, .ref pl, .ref fl, .ref rg, .int 0, .int 0, .int 0])), (bk, .inr (0, [.int 0, .ref bk_tail, .ref bk_head, .ref bk_hinder, .ref bk_size, .ref bk_walk, .ref bk_draught, .ref bk_doorIn, .ref bk_fanIn, .ref bk_faceIn, .int 0, .int (-1), .ref gr]))]) [0, 1] rfl
  have hDc := hD.sub (ws' := [(x0, .inr (11, [.ref rd, .ref dr, .ref bk, .ref st, .ref nw, .ref tr, .ref pl, .ref fl, .ref rg, .int 0, .int 0, .int 0])), (bk, .inr (0, [.int 0, .ref bk_tail, .ref bk_head, .ref bk_hinder, .ref bk_size, .ref bk_walk, .ref bk_draught, .ref bk_doorIn, .ref bk_fanIn, .ref bk_faceIn, .int 0, .int (-1), .ref gr]))]) [0, 1] (by decide) rfl
  have hKc := hK.sub (tys' := []) [] rfl
  have hFc := va_free (wc := [(x0, .inr (11, [.ref rd, .ref dr, .ref bk, .ref st, .ref nw, .ref tr, .ref pl, .ref fl, .ref rg, .int 0, .int 0, .int 0])), (bk, .inr (0, [.int 0, .ref bk_tail, .ref bk_head, .ref bk_hinder, .ref bk_size, .ref bk_walk, .ref bk_draught, .ref bk_doorIn, .ref bk_fanIn, .ref bk_faceIn, .int 0, .int (-1), .ref gr]))]) hD hS hA [0, 1] rfl
  refine va_calli (va_runV (As := [.int w]) (rest := []) ⟨hx, hb, hml, hown, hts⟩ (c_isWay l dC dI n0 s.heap.size x0 rd dr bk st nw tr pl fl rg 0 0 0 bk_tail bk_head bk_hinder bk_size bk_walk bk_draught bk_doorIn bk_fanIn bk_faceIn gr w ) (cwV 1 hts (gV (fun w h => wM_c h) wd_950 wd_947 wd_949 wd_25 wd_114) rfl rfl rfl (by decide +kernel) ⟨Nat.le_of_ble_eq_true rfl, Nat.le_of_ble_eq_true rfl⟩) ⟨fun a U g mk q => by obtain ⟨q0, q1, q2, qG, qP, qK, qD⟩ := q; exact ⟨q0, q1, q2, GW.blind qG, qP, va_K.moved (u := U) (U := U.calling g mk a) (Vm.Alike.refl U.vm) qK, qD⟩, va_recv hKc hPc (ci := 11) (q0 := 0) rfl rfl, fun U hU hW => ⟨rfl, by rw [hU], Nat.le_trans hn0 hS.1, GW.go hW hU hG (fun q hq hA9 => hS.2.1 q hq (fun h => hA9 (hA0 q h))), by rw [hU]; exact hPc, va_K.moved hW.alike hKc, hDc.weaken (fun _ _ _ h => hA0 _ h)⟩⟩ rfl rfl hl.1 rfl (lv_room (Nat.le_of_ble_eq_true rfl)) dX11_fire_2 ⟨Nat.le_of_ble_eq_true rfl, Nat.le_of_ble_eq_true rfl⟩) hS (fun q _ h => hFc q h) hFc (fun r_1 u t H1 locs ht hvm hw_2 hB hz1 hk1 hS => ?_)
  obtain ⟨hP1, hK1, hD1⟩ := hB
  rw [ht] at hP1
  obtain ⟨hP, hD⟩ := va_join (wr := []) (w1 := [(x0, .inr (11, [.ref rd, .ref dr, .ref bk, .ref st, .ref nw, .ref tr, .ref pl, .ref fl, .ref rg, .int 0, .int 0, .int 0])), (bk, .inr (0, [.int 0, .ref bk_tail, .ref bk_head, .ref bk_hinder, .ref bk_size, .ref bk_walk, .ref bk_draught, .ref bk_doorIn, .ref bk_fanIn, .ref bk_faceIn, .int 0, .int (-1), .ref gr]))]) hP hD [0, 1] [] rfl rfl (by decide) (by decide) hk1 hFc hP1 hD1
  generalize H1 = H at hP hS ⊢
  have hP : va_P (dC, dI) classes [(x0, .inr (11, [.ref rd, .ref dr, .ref bk, .ref st, .ref nw, .ref tr, .ref pl, .ref fl, .ref rg, .int 0, .int 0, .int 0])), (bk, .inr (0, [.int 0, .ref bk_tail, .ref bk_head, .ref bk_hinder, .ref bk_size, .ref bk_walk, .ref bk_draught, .ref bk_doorIn, .ref bk_fanIn, .ref bk_faceIn, .int 0, .int (-1), .ref gr]))] H := hP
  have hD : va_D A [(x0, .inr (11, [.ref rd, .ref dr, .ref bk, .ref st, .ref nw, .ref tr, .ref pl, .ref fl, .ref rg, .int 0, .int 0, .int 0])), (bk, .inr (0, [.int 0, .ref bk_tail, .ref bk_head, .ref bk_hinder, .ref bk_size, .ref bk_walk, .ref bk_draught, .ref bk_doorIn, .ref bk_fanIn, .ref bk_faceIn, .int 0, .int (-1), .ref gr]))] := hD
  obtain rfl : r_1 = 0 := hw_2
  refine lv_if_ne (tgt := 14) hx hb dX11_fire_5 (by decide) (fun c_3 => ?_) (fun c_3 => ?_)
  · exact absurd c_3 (by decide)
  refine lv_aload_n hx hb dX11_fire_8 rfl (lv_at hl 0 rfl) ?_
  refine lv_iconst (v := 1) hx hb dX11_fire_9 (by decide) ?_
  have hPc := hP.sub (ws' := [(x0, .inr (11, [.ref rd, .ref dr, .ref bk, .ref st, .ref nw, .ref tr, .ref pl, .ref fl, .ref rg, .int 0, .int 0, .int 0]))]) [0] rfl
  have hDc := hD.sub (ws' := [(x0, .inr (11, [.ref rd, .ref dr, .ref bk, .ref st, .ref nw, .ref tr, .ref pl, .ref fl, .ref rg, .int 0, .int 0, .int 0]))]) [0] (by decide) rfl
  have hKc := hK.sub (tys' := []) [] rfl
  have hFc := va_free (wc := [(x0, .inr (11, [.ref rd, .ref dr, .ref bk, .ref st, .ref nw, .ref tr, .ref pl, .ref fl, .ref rg, .int 0, .int 0, .int 0]))]) hD hS hA [0] rfl
  refine va_calli (va_runV (As := [.int 1]) (rest := []) ⟨hx, hb, hml, hown, hts⟩ (c_deny l dC dI n0 H.size x0 rd dr bk st nw tr pl fl rg 0 0 0 1 ) (cwV 1 hts (gV (fun w h => wM_c h) wd_970 wd_967 wd_969 wd_27 wd_114) rfl rfl rfl (by decide +kernel) ⟨Nat.le_of_ble_eq_true rfl, Nat.le_of_ble_eq_true rfl⟩) ⟨fun a U g mk q => by obtain ⟨q0, q1, q2, qG, qP, qK, qD⟩ := q; exact ⟨q0, q1, q2, GW.blind qG, qP, va_K.moved (u := U) (U := U.calling g mk a) (Vm.Alike.refl U.vm) qK, qD⟩, va_recv hKc hPc (ci := 11) (q0 := 0) rfl rfl, fun U hU hW => ⟨rfl, by rw [hU], Nat.le_trans hn0 hS.1, GW.go hW hU hG (fun q hq hA9 => hS.2.1 q hq (fun h => hA9 (hA0 q h))), by rw [hU]; exact hPc, va_K.moved hW.alike hKc, hDc.weaken (fun _ _ _ h => hA0 _ h)⟩⟩ rfl rfl hl.1 rfl (lv_room (Nat.le_of_ble_eq_true rfl)) dX11_fire_10 ⟨Nat.le_of_ble_eq_true rfl, Nat.le_of_ble_eq_true rfl⟩) hS (fun q _ h => hFc q h) hFc (fun r_4 u t H1 locs ht hvm hw_5 hB hz1 hk1 hS => ?_)
  obtain ⟨hP1, hK1, hD1⟩ := hB
  rw [ht] at hP1
  obtain ⟨hP, hD⟩ := va_join (wr := [(bk, .inr (0, [.int 0, .ref bk_tail, .ref bk_head, .ref bk_hinder, .ref bk_size, .ref bk_walk, .ref bk_draught, .ref bk_doorIn, .ref bk_fanIn, .ref bk_faceIn, .int 0, .int (-1), .ref gr]))]) (w1 := [(x0, .inr (11, [.ref rd, .ref dr, .ref bk, .ref st, .ref nw, .ref tr, .ref pl, .ref fl, .ref rg, .int 1, .int 0, .int 0]))]) hP hD [0] [1] rfl rfl (by decide) (by decide) hk1 hFc hP1 hD1
  generalize H1 = H at hP hS ⊢
  have hP : va_P (dC, dI) classes [(bk, .inr (0, [.int 0, .ref bk_tail, .ref bk_head, .ref bk_hinder, .ref bk_size, .ref bk_walk, .ref bk_draught, .ref bk_doorIn, .ref bk_fanIn, .ref bk_faceIn, .int 0, .int (-1), .ref gr])), (x0, .inr (11, [.ref rd, .ref dr, .ref bk, .ref st, .ref nw, .ref tr, .ref pl, .ref fl, .ref rg, .int 1, .int 0, .int 0]))] H := hP
  have hD : va_D A [(bk, .inr (0, [.int 0, .ref bk_tail, .ref bk_head, .ref bk_hinder, .ref bk_size, .ref bk_walk, .ref bk_draught, .ref bk_doorIn, .ref bk_fanIn, .ref bk_faceIn, .int 0, .int (-1), .ref gr])), (x0, .inr (11, [.ref rd, .ref dr, .ref bk, .ref st, .ref nw, .ref tr, .ref pl, .ref fl, .ref rg, .int 1, .int 0, .int 0]))] := hD
  obtain rfl : r_4 = 0 := hw_5
  exact W.zret (v := 0) hx hb hr rfl (fun t ht hW => ⟨⟨0, (), rfl, rfl, trivial⟩, hS.F ht⟩) hS.2.2 dX11_fire_13
set_option maxHeartbeats 4000000 in
set_option maxRecDepth 100000 in
theorem p_air (l : Launch) (dC : Nat → ClassId) (dI : Nat → Nat → Nat) (n0 sz : Nat) (x0 : Nat) (rd : Nat) (dr : Nat) (bk : Nat) (st : Nat) (nw : Nat) (tr : Nat) (pl : Nat) (fl : Nat) (rg : Nat) (bk_tail : Nat) (bk_head : Nat) (bk_hinder : Nat) (bk_size : Nat) (bk_walk : Nat) (bk_draught : Nat) (bk_doorIn : Nat) (bk_fanIn : Nat) (bk_faceIn : Nat) (gr : Nat) (w : Int32) : Met l yX11_air (wM yX11_air cX11_air 2 (some .int)) ({ frames := 1, cells := 0, slots := 0, locals := 21 }) (va_Pc [.ref x0, .int w] (fun U => U.heap.size = sz ∧ n0 ≤ sz ∧ GW n0 U ∧ va_P (dC, dI) classes [(x0, .inr (11, [.ref rd, .ref dr, .ref bk, .ref st, .ref nw, .ref tr, .ref pl, .ref fl, .ref rg, .int 0, .int 0, .int 0])), (bk, .inr (0, [.int 0, .ref bk_tail, .ref bk_head, .ref bk_hinder, .ref bk_size, .ref bk_walk, .ref bk_draught, .ref bk_doorIn, .ref bk_fanIn, .ref bk_faceIn, .int 0, .int (-1), .ref gr]))] U.heap ∧ va_K (dC, dI) classes [] U ∧ va_D (fun q => n0 ≤ q) [(x0, .inr (11, [.ref rd, .ref dr, .ref bk, .ref st, .ref nw, .ref tr, .ref pl, .ref fl, .ref rg, .int 0, .int 0, .int 0])), (bk, .inr (0, [.int 0, .ref bk_tail, .ref bk_head, .ref bk_hinder, .ref bk_size, .ref bk_walk, .ref bk_draught, .ref bk_doorIn, .ref bk_fanIn, .ref bk_faceIn, .int 0, .int (-1), .ref gr]))])) (va_Qi (fun (r : Int32) (_ : Unit) => r = (-100)) (fun (_ : Unit) (_ : State) => True) (va_A [(x0, .inr (11, [.ref rd, .ref dr, .ref bk, .ref st, .ref nw, .ref tr, .ref pl, .ref fl, .ref rg, .int 0, .int 0, .int 0])), (bk, .inr (0, [.int 0, .ref bk_tail, .ref bk_head, .ref bk_hinder, .ref bk_size, .ref bk_walk, .ref bk_draught, .ref bk_doorIn, .ref bk_fanIn, .ref bk_faceIn, .int 0, .int (-1), .ref gr]))] sz)) 0 0 (va_A [(x0, .inr (11, [.ref rd, .ref dr, .ref bk, .ref st, .ref nw, .ref tr, .ref pl, .ref fl, .ref rg, .int 0, .int 0, .int 0])), (bk, .inr (0, [.int 0, .ref bk_tail, .ref bk_head, .ref bk_hinder, .ref bk_size, .ref bk_walk, .ref bk_draught, .ref bk_doorIn, .ref bk_fanIn, .ref bk_faceIn, .int 0, .int (-1), .ref gr]))] sz) := by
  refine Met.ofW (cc := cX11_air) (maxL := 2) (ret := (some .int)) (by decide) rfl ?_
  intro p e s m args below meth c s₁ B hml hv
  obtain ⟨rfl, hsz, hn0, hG, hP, hK, hD0⟩ := hv
  have hx := B.exec
  have hb := B.bytes
  have hr := B.returns
  have hts := atoms_spec (ws := wM yX11_air cX11_air 2 (some .int)) B.pre
  have hown : s.vm.findClass RX11 = some m.cls := findClass_of_methodNamed B.named
  have hlocks := B.notSynchronized
  subst hsz
  have hD := hD0.self (sz := s.heap.size)
  have hA0 := vA_n0 hD0 hn0
  generalize hAe : va_A [(x0, .inr (11, [.ref rd, .ref dr, .ref bk, .ref st, .ref nw, .ref tr, .ref pl, .ref fl, .ref rg, .int 0, .int 0, .int 0])), (bk, .inr (0, [.int 0, .ref bk_tail, .ref bk_head, .ref bk_hinder, .ref bk_size, .ref bk_walk, .ref bk_draught, .ref bk_doorIn, .ref bk_fanIn, .ref bk_faceIn, .int 0, .int (-1), .ref gr]))] s.heap.size = A at hD hA0 ⊢
  have hA : ∀ q : Nat, s.heap.size ≤ q → A q := fun q h => by rw [← hAe]; exact Or.inr h
  have hS : va_S A s.heap s.heap [] := va_S.rf
  have hl := lv_entry ([.ref x0, .int w]) (n := 2) (Nat.le_of_ble_eq_true rfl)
  rw [lg_entry_eq]
  generalize (lg_sl ([.ref x0, .int w]) ++ List.replicate (2 - (lg_sl ([.ref x0, .int w])).length) Slot.unset).toArray = ls at hl ⊢
  have hl : lv_has ls 2 [(0, .ref x0), (1, .int w)] := hl
  refine lv_aload_n hx hb dX11_air_0 rfl (lv_at hl 0 rfl) ?_
  refine lv_iload_n hx hb dX11_air_1 rfl (lv_at hl 1 rfl) ?_
  have hPc := hP.sub (ws' := [(x0, .inr (11, [.ref rd, .ref dr, .ref bk, .ref st, .ref nw, .ref tr, .ref pl, .ref fl, .ref rg, .int 0, .int 0, .int 0])), (bk, .inr (0, [.int 0, .ref bk_tail, .ref bk_head, .ref bk_hinder, .ref bk_size, .ref bk_walk, .ref bk_draught, .ref bk_doorIn, .ref bk_fanIn, .ref bk_faceIn, .int 0, .int (-1), .ref gr]))]) [0, 1] rfl
  have hDc := hD.sub (ws' := [(x0, .inr (11, [.ref rd, .ref dr, .ref bk, .ref st, .ref nw, .ref tr, .ref pl, .ref fl, .ref rg, .int 0, .int 0, .int 0])), (bk, .inr (0, [.int 0, .ref bk_tail, .ref bk_head, .ref bk_hinder, .ref bk_size, .ref bk_walk, .ref bk_draught, .ref bk_doorIn, .ref bk_fanIn, .ref bk_faceIn, .int 0, .int (-1), .ref gr]))]) [0, 1] (by decide) rfl
  have hKc := hK.sub (tys' := []) [] rfl
  have hFc := va_free (wc := [(x0, .inr (11, [.ref rd, .ref dr, .ref bk, .ref st, .ref nw, .ref tr, .ref pl, .ref fl, .ref rg, .int 0, .int 0, .int 0])), (bk, .inr (0, [.int 0, .ref bk_tail, .ref bk_head, .ref bk_hinder, .ref bk_size, .ref bk_walk, .ref bk_draught, .ref bk_doorIn, .ref bk_fanIn, .ref bk_faceIn, .int 0, .int (-1), .ref gr]))]) hD hS hA [0, 1] rfl
  refine va_calli (va_runV (As := [.int w]) (rest := []) ⟨hx, hb, hml, hown, hts⟩ (c_isWay l dC dI n0 s.heap.size x0 rd dr bk st nw tr pl fl rg 0 0 0 bk_tail bk_head bk_hinder bk_size bk_walk bk_draught bk_doorIn bk_fanIn bk_faceIn gr w ) (cwV 1 hts (gV (fun w h => wM_c h) wd_950 wd_947 wd_949 wd_25 wd_114) rfl rfl rfl (by decide +kernel) ⟨Nat.le_of_ble_eq_true rfl, Nat.le_of_ble_eq_true rfl⟩) ⟨fun a U g mk q => by obtain ⟨q0, q1, q2, qG, qP, qK, qD⟩ := q; exact ⟨q0, q1, q2, GW.blind qG, qP, va_K.moved (u := U) (U := U.calling g mk a) (Vm.Alike.refl U.vm) qK, qD⟩, va_recv hKc hPc (ci := 11) (q0 := 0) rfl rfl, fun U hU hW => ⟨rfl, by rw [hU], Nat.le_trans hn0 hS.1, GW.go hW hU hG (fun q hq hA9 => hS.2.1 q hq (fun h => hA9 (hA0 q h))), by rw [hU]; exact hPc, va_K.moved hW.alike hKc, hDc.weaken (fun _ _ _ h => hA0 _ h)⟩⟩ rfl rfl hl.1 rfl (lv_room (Nat.le_of_ble_eq_true rfl)) dX11_air_2 ⟨Nat.le_of_ble_eq_true rfl, Nat.le_of_ble_eq_true rfl⟩) hS (fun q _ h => hFc q h) hFc (fun r_1 u t H1 locs ht hvm hw_2 hB hz1 hk1 hS => ?_)
  obtain ⟨hP1, hK1, hD1⟩ := hB
  rw [ht] at hP1
  obtain ⟨hP, hD⟩ := va_join (wr := []) (w1 := [(x0, .inr (11, [.ref rd, .ref dr, .ref bk, .ref st, .ref nw, .ref tr, .ref pl, .ref fl, .ref rg, .int 0, .int 0, .int 0])), (bk, .inr (0, [.int 0, .ref bk_tail, .ref bk_head, .ref bk_hinder, .ref bk_size, .ref bk_walk, .ref bk_draught, .ref bk_doorIn, .ref bk_fanIn, .ref bk_faceIn, .int 0, .int (-1), .ref gr]))]) hP hD [0, 1] [] rfl rfl (by decide) (by decide) hk1 hFc hP1 hD1
  generalize H1 = H at hP hS ⊢
  have hP : va_P (dC, dI) classes [(x0, .inr (11, [.ref rd, .ref dr, .ref bk, .ref st, .ref nw, .ref tr, .ref pl, .ref fl, .ref rg, .int 0, .int 0, .int 0])), (bk, .inr (0, [.int 0, .ref bk_tail, .ref bk_head, .ref bk_hinder, .ref bk_size, .ref bk_walk, .ref bk_draught, .ref bk_doorIn, .ref bk_fanIn, .ref bk_faceIn, .int 0, .int (-1), .ref gr]))] H := hP
  have hD : va_D A [(x0, .inr (11, [.ref rd, .ref dr, .ref bk, .ref st, .ref nw, .ref tr, .ref pl, .ref fl, .ref rg, .int 0, .int 0, .int 0])), (bk, .inr (0, [.int 0, .ref bk_tail, .ref bk_head, .ref bk_hinder, .ref bk_size, .ref bk_walk, .ref bk_draught, .ref bk_doorIn, .ref bk_fanIn, .ref bk_faceIn, .int 0, .int (-1), .ref gr]))] := hD
  obtain rfl : r_1 = 0 := hw_2
  refine lv_if_ne (tgt := 11) hx hb dX11_air_5 (by decide) (fun c_3 => ?_) (fun c_3 => ?_)
  · exact absurd c_3 (by decide)
  refine lv_bipush (v := (-100)) hx hb dX11_air_8 (by decide) ?_
  exact W.iret (v := (-100)) hx hb hr (fun t ht hW => ⟨⟨(-100), (), rfl, rfl, trivial⟩, hS.F ht⟩) hS.2.2 dX11_air_10
set_option maxHeartbeats 4000000 in
set_option maxRecDepth 100000 in
theorem p_cost (l : Launch) (dC : Nat → ClassId) (dI : Nat → Nat → Nat) (n0 sz : Nat) (x0 : Nat) (rd : Nat) (dr : Nat) (bk : Nat) (st : Nat) (nw : Nat) (tr : Nat) (pl : Nat) (fl : Nat) (rg : Nat) (bk_tail : Nat) (bk_head : Nat) (bk_hinder : Nat) (bk_size : Nat) (bk_walk : Nat) (bk_draught : Nat) (bk_doorIn : Nat) (bk_fanIn : Nat) (bk_faceIn : Nat) (gr : Nat) : Met l yX11_cost (wM yX11_cost cX11_cost 1 (some .long)) ({ frames := 1, cells := 0, slots := 0, locals := 20 }) (va_Pc [.ref x0] (fun U => U.heap.size = sz ∧ n0 ≤ sz ∧ GW n0 U ∧ va_P (dC, dI) classes [(x0, .inr (11, [.ref rd, .ref dr, .ref bk, .ref st, .ref nw, .ref tr, .ref pl, .ref fl, .ref rg, .int 0, .int 0, .int 0])), (bk, .inr (0, [.int 0, .ref bk_tail, .ref bk_head, .ref bk_hinder, .ref bk_size, .ref bk_walk, .ref bk_draught, .ref bk_doorIn, .ref bk_fanIn, .ref bk_faceIn, .int 0, .int (-1), .ref gr]))] U.heap ∧ va_K (dC, dI) classes [] U ∧ va_D (fun q => n0 ≤ q) [(x0, .inr (11, [.ref rd, .ref dr, .ref bk, .ref st, .ref nw, .ref tr, .ref pl, .ref fl, .ref rg, .int 0, .int 0, .int 0])), (bk, .inr (0, [.int 0, .ref bk_tail, .ref bk_head, .ref bk_hinder, .ref bk_size, .ref bk_walk, .ref bk_draught, .ref bk_doorIn, .ref bk_fanIn, .ref bk_faceIn, .int 0, .int (-1), .ref gr]))])) (va_Ql (fun (r : Int64) (_ : Unit) => r = 0) (fun (_ : Unit) (_ : State) => True) (va_A [(x0, .inr (11, [.ref rd, .ref dr, .ref bk, .ref st, .ref nw, .ref tr, .ref pl, .ref fl, .ref rg, .int 0, .int 0, .int 0])), (bk, .inr (0, [.int 0, .ref bk_tail, .ref bk_head, .ref bk_hinder, .ref bk_size, .ref bk_walk, .ref bk_draught, .ref bk_doorIn, .ref bk_fanIn, .ref bk_faceIn, .int 0, .int (-1), .ref gr]))] sz)) 0 0 (va_A [(x0, .inr (11, [.ref rd, .ref dr, .ref bk, .ref st, .ref nw, .ref tr, .ref pl, .ref fl, .ref rg, .int 0, .int 0, .int 0])), (bk, .inr (0, [.int 0, .ref bk_tail, .ref bk_head, .ref bk_hinder, .ref bk_size, .ref bk_walk, .ref bk_draught, .ref bk_doorIn, .ref bk_fanIn, .ref bk_faceIn, .int 0, .int (-1), .ref gr]))] sz) := by
  refine Met.ofW (cc := cX11_cost) (maxL := 1) (ret := (some .long)) (by decide) rfl ?_
  intro p e s m args below meth c s₁ B hml hv
  obtain ⟨rfl, hsz, hn0, hG, hP, hK, hD0⟩ := hv
  have hx := B.exec
  have hb := B.bytes
  have hr := B.returns
  have hts := atoms_spec (ws := wM yX11_cost cX11_cost 1 (some .long)) B.pre
  have hown : s.vm.findClass RX11 = some m.cls := findClass_of_methodNamed B.named
  have hlocks := B.notSynchronized
  subst hsz
  have hD := hD0.self (sz := s.heap.size)
  have hA0 := vA_n0 hD0 hn0
  generalize hAe : va_A [(x0, .inr (11, [.ref rd, .ref dr, .ref bk, .ref st, .ref nw, .ref tr, .ref pl, .ref fl, .ref rg, .int 0, .int 0, .int 0])), (bk, .inr (0, [.int 0, .ref bk_tail, .ref bk_head, .ref bk_hinder, .ref bk_size, .ref bk_walk, .ref bk_draught, .ref bk_doorIn, .ref bk_fanIn, .ref bk_faceIn, .int 0, .int (-1), .ref gr]))] s.heap.size = A at hD hA0 ⊢
  have hA : ∀ q : Nat, s.heap.size ≤ q → A q := fun q h => by rw [← hAe]; exact Or.inr h
  have hS : va_S A s.heap s.heap [] := va_S.rf
  have hl := lv_entry ([.ref x0]) (n := 1) (Nat.le_of_ble_eq_true rfl)
  rw [lg_entry_eq]
  generalize (lg_sl ([.ref x0]) ++ List.replicate (1 - (lg_sl ([.ref x0])).length) Slot.unset).toArray = ls at hl ⊢
  have hl : lv_has ls 1 [(0, .ref x0)] := hl
  refine lv_aload_n hx hb dX11_cost_0 rfl (lv_at hl 0 rfl) ?_
  have hPc := hP.sub (ws' := [(x0, .inr (11, [.ref rd, .ref dr, .ref bk, .ref st, .ref nw, .ref tr, .ref pl, .ref fl, .ref rg, .int 0, .int 0, .int 0])), (bk, .inr (0, [.int 0, .ref bk_tail, .ref bk_head, .ref bk_hinder, .ref bk_size, .ref bk_walk, .ref bk_draught, .ref bk_doorIn, .ref bk_fanIn, .ref bk_faceIn, .int 0, .int (-1), .ref gr]))]) [0, 1] rfl
  have hDc := hD.sub (ws' := [(x0, .inr (11, [.ref rd, .ref dr, .ref bk, .ref st, .ref nw, .ref tr, .ref pl, .ref fl, .ref rg, .int 0, .int 0, .int 0])), (bk, .inr (0, [.int 0, .ref bk_tail, .ref bk_head, .ref bk_hinder, .ref bk_size, .ref bk_walk, .ref bk_draught, .ref bk_doorIn, .ref bk_fanIn, .ref bk_faceIn, .int 0, .int (-1), .ref gr]))]) [0, 1] (by decide) rfl
  have hKc := hK.sub (tys' := []) [] rfl
  have hFc := va_free (wc := [(x0, .inr (11, [.ref rd, .ref dr, .ref bk, .ref st, .ref nw, .ref tr, .ref pl, .ref fl, .ref rg, .int 0, .int 0, .int 0])), (bk, .inr (0, [.int 0, .ref bk_tail, .ref bk_head, .ref bk_hinder, .ref bk_size, .ref bk_walk, .ref bk_draught, .ref bk_doorIn, .ref bk_fanIn, .ref bk_faceIn, .int 0, .int (-1), .ref gr]))]) hD hS hA [0, 1] rfl
  refine va_calli (va_runV (As := []) (rest := []) ⟨hx, hb, hml, hown, hts⟩ (c_isBooked l dC dI n0 s.heap.size x0 rd dr bk st nw tr pl fl rg 0 0 0 bk_tail bk_head bk_hinder bk_size bk_walk bk_draught bk_doorIn bk_fanIn bk_faceIn gr ) (cwV 0 hts (gV (fun w h => wM_c h) wd_1068 wd_1065 wd_1067 wd_39 wd_114) rfl rfl rfl (by decide +kernel) ⟨Nat.le_of_ble_eq_true rfl, Nat.le_of_ble_eq_true rfl⟩) ⟨fun a U g mk q => by obtain ⟨q0, q1, q2, qG, qP, qK, qD⟩ := q; exact ⟨q0, q1, q2, GW.blind qG, qP, va_K.moved (u := U) (U := U.calling g mk a) (Vm.Alike.refl U.vm) qK, qD⟩, va_recv hKc hPc (ci := 11) (q0 := 0) rfl rfl, fun U hU hW => ⟨rfl, by rw [hU], Nat.le_trans hn0 hS.1, GW.go hW hU hG (fun q hq hA9 => hS.2.1 q hq (fun h => hA9 (hA0 q h))), by rw [hU]; exact hPc, va_K.moved hW.alike hKc, hDc.weaken (fun _ _ _ h => hA0 _ h)⟩⟩ rfl rfl hl.1 rfl (lv_room (Nat.le_of_ble_eq_true rfl)) dX11_cost_1 ⟨Nat.le_of_ble_eq_true rfl, Nat.le_of_ble_eq_true rfl⟩) hS (fun q _ h => hFc q h) hFc (fun r_1 u t H1 locs ht hvm hw_2 hB hz1 hk1 hS => ?_)
  obtain ⟨hP1, hK1, hD1⟩ := hB
  rw [ht] at hP1
  obtain ⟨hP, hD⟩ := va_join (wr := []) (w1 := [(x0, .inr (11, [.ref rd, .ref dr, .ref bk, .ref st, .ref nw, .ref tr, .ref pl, .ref fl, .ref rg, .int 0, .int 0, .int 0])), (bk, .inr (0, [.int 0, .ref bk_tail, .ref bk_head, .ref bk_hinder, .ref bk_size, .ref bk_walk, .ref bk_draught, .ref bk_doorIn, .ref bk_fanIn, .ref bk_faceIn, .int 0, .int (-1), .ref gr]))]) hP hD [0, 1] [] rfl rfl (by decide) (by decide) hk1 hFc hP1 hD1
  generalize H1 = H at hP hS ⊢
  have hP : va_P (dC, dI) classes [(x0, .inr (11, [.ref rd, .ref dr, .ref bk, .ref st, .ref nw, .ref tr, .ref pl, .ref fl, .ref rg, .int 0, .int 0, .int 0])), (bk, .inr (0, [.int 0, .ref bk_tail, .ref bk_head, .ref bk_hinder, .ref bk_size, .ref bk_walk, .ref bk_draught, .ref bk_doorIn, .ref bk_fanIn, .ref bk_faceIn, .int 0, .int (-1), .ref gr]))] H := hP
  have hD : va_D A [(x0, .inr (11, [.ref rd, .ref dr, .ref bk, .ref st, .ref nw, .ref tr, .ref pl, .ref fl, .ref rg, .int 0, .int 0, .int 0])), (bk, .inr (0, [.int 0, .ref bk_tail, .ref bk_head, .ref bk_hinder, .ref bk_size, .ref bk_walk, .ref bk_draught, .ref bk_doorIn, .ref bk_fanIn, .ref bk_faceIn, .int 0, .int (-1), .ref gr]))] := hD
  obtain rfl : r_1 = 0 := hw_2
  refine lv_if_ne (tgt := 9) hx hb dX11_cost_4 (by decide) (fun c_3 => ?_) (fun c_3 => ?_)
  · exact absurd c_3 (by decide)
  refine lv_lconst (v := 0) hx hb dX11_cost_7 (by decide) ?_
  exact W.lret (v := 0) hx hb hr (fun t ht hW => ⟨⟨0, (), rfl, rfl, trivial⟩, hS.F ht⟩) hS.2.2 dX11_cost_8
set_option maxHeartbeats 4000000 in
set_option maxRecDepth 100000 in
theorem p_turned (l : Launch) (dC : Nat → ClassId) (dI : Nat → Nat → Nat) (n0 sz : Nat) (x0 : Nat) (rd : Nat) (dr : Nat) (bk : Nat) (st : Nat) (nw : Nat) (tr : Nat) (pl : Nat) (fl : Nat) (rg : Nat) (bk_tail : Nat) (bk_head : Nat) (bk_hinder : Nat) (bk_size : Nat) (bk_walk : Nat) (bk_draught : Nat) (bk_doorIn : Nat) (bk_fanIn : Nat) (bk_faceIn : Nat) (gr : Nat) (gr_doorBy : Nat) (gr_pairFirst : Nat) (gr_pairSecond : Nat) (gr_fanPush : Nat) (gr_fanFall : Nat) (gr_fanCost : Nat) (gr_faceWay : Nat) (gr_faceGas : Nat) (gr_faceNeed : Nat) (w : Int32) : Met l yX11_turned (wM yX11_turned cX11_turned 2 (some .int)) ({ frames := 1, cells := 0, slots := 0, locals := 21 }) (va_Pc [.ref x0, .int w] (fun U => U.heap.size = sz ∧ n0 ≤ sz ∧ GW n0 U ∧ va_P (dC, dI) classes [(x0, .inr (11, [.ref rd, .ref dr, .ref bk, .ref st, .ref nw, .ref tr, .ref pl, .ref fl, .ref rg, .int 0, .int 0, .int 0])), (bk, .inr (0, [.int 0, .ref bk_tail, .ref bk_head, .ref bk_hinder, .ref bk_size, .ref bk_walk, .ref bk_draught, .ref bk_doorIn, .ref bk_fanIn, .ref bk_faceIn, .int 0, .int (-1), .ref gr])), (gr, .inr (3, [.int 0, .ref gr_doorBy, .int 0, .ref gr_pairFirst, .ref gr_pairSecond, .int 0, .ref gr_fanPush, .ref gr_fanFall, .ref gr_fanCost, .int 0, .ref gr_faceWay, .ref gr_faceGas, .ref gr_faceNeed]))] U.heap ∧ va_K (dC, dI) classes [] U ∧ va_D (fun q => n0 ≤ q) [(x0, .inr (11, [.ref rd, .ref dr, .ref bk, .ref st, .ref nw, .ref tr, .ref pl, .ref fl, .ref rg, .int 0, .int 0, .int 0])), (bk, .inr (0, [.int 0, .ref bk_tail, .ref bk_head, .ref bk_hinder, .ref bk_size, .ref bk_walk, .ref bk_draught, .ref bk_doorIn, .ref bk_fanIn, .ref bk_faceIn, .int 0, .int (-1), .ref gr])), (gr, .inr (3, [.int 0, .ref gr_doorBy, .int 0, .ref gr_pairFirst, .ref gr_pairSecond, .int 0, .ref gr_fanPush, .ref gr_fanFall, .ref gr_fanCost, .int 0, .ref gr_faceWay, .ref gr_faceGas, .ref gr_faceNeed]))])) (va_Qi (fun (r : Int32) (_ : Unit) => r = (-1)) (fun (_ : Unit) (_ : State) => True) (va_A [(x0, .inr (11, [.ref rd, .ref dr, .ref bk, .ref st, .ref nw, .ref tr, .ref pl, .ref fl, .ref rg, .int 0, .int 0, .int 0])), (bk, .inr (0, [.int 0, .ref bk_tail, .ref bk_head, .ref bk_hinder, .ref bk_size, .ref bk_walk, .ref bk_draught, .ref bk_doorIn, .ref bk_fanIn, .ref bk_faceIn, .int 0, .int (-1), .ref gr])), (gr, .inr (3, [.int 0, .ref gr_doorBy, .int 0, .ref gr_pairFirst, .ref gr_pairSecond, .int 0, .ref gr_fanPush, .ref gr_fanFall, .ref gr_fanCost, .int 0, .ref gr_faceWay, .ref gr_faceGas, .ref gr_faceNeed]))] sz)) 0 0 (va_A [(x0, .inr (11, [.ref rd, .ref dr, .ref bk, .ref st, .ref nw, .ref tr, .ref pl, .ref fl, .ref rg, .int 0, .int 0, .int 0])), (bk, .inr (0, [.int 0, .ref bk_tail, .ref bk_head, .ref bk_hinder, .ref bk_size, .ref bk_walk, .ref bk_draught, .ref bk_doorIn, .ref bk_fanIn, .ref bk_faceIn, .int 0, .int (-1), .ref gr])), (gr, .inr (3, [.int 0, .ref gr_doorBy, .int 0, .ref gr_pairFirst, .ref gr_pairSecond, .int 0, .ref gr_fanPush, .ref gr_fanFall, .ref gr_fanCost, .int 0, .ref gr_faceWay, .ref gr_faceGas, .ref gr_faceNeed]))] sz) := by
  refine Met.ofW (cc := cX11_turned) (maxL := 2) (ret := (some .int)) (by decide) rfl ?_
  intro p e s m args below meth c s₁ B hml hv
  obtain ⟨rfl, hsz, hn0, hG, hP, hK, hD0⟩ := hv
  have hx := B.exec
  have hb := B.bytes
  have hr := B.returns
  have hts := atoms_spec (ws := wM yX11_turned cX11_turned 2 (some .int)) B.pre
  have hown : s.vm.findClass RX11 = some m.cls := findClass_of_methodNamed B.named
  have hlocks := B.notSynchronized
  subst hsz
  have hD := hD0.self (sz := s.heap.size)
  have hA0 := vA_n0 hD0 hn0
  generalize hAe : va_A [(x0, .inr (11, [.ref rd, .ref dr, .ref bk, .ref st, .ref nw, .ref tr, .ref pl, .ref fl, .ref rg, .int 0, .int 0, .int 0])), (bk, .inr (0, [.int 0, .ref bk_tail, .ref bk_head, .ref bk_hinder, .ref bk_size, .ref bk_walk, .ref bk_draught, .ref bk_doorIn, .ref bk_fanIn, .ref bk_faceIn, .int 0, .int (-1), .ref gr])), (gr, .inr (3, [.int 0, .ref gr_doorBy, .int 0, .ref gr_pairFirst, .ref gr_pairSecond, .int 0, .ref gr_fanPush, .ref gr_fanFall, .ref gr_fanCost, .int 0, .ref gr_faceWay, .ref gr_faceGas, .ref gr_faceNeed]))] s.heap.size = A at hD hA0 ⊢
  have hA : ∀ q : Nat, s.heap.size ≤ q → A q := fun q h => by rw [← hAe]; exact Or.inr h
  have hS : va_S A s.heap s.heap [] := va_S.rf
  have hl := lv_entry ([.ref x0, .int w]) (n := 2) (Nat.le_of_ble_eq_true rfl)
  rw [lg_entry_eq]
  generalize (lg_sl ([.ref x0, .int w]) ++ List.replicate (2 - (lg_sl ([.ref x0, .int w])).length) Slot.unset).toArray = ls at hl ⊢
  have hl : lv_has ls 2 [(0, .ref x0), (1, .int w)] := hl
  refine lv_aload_n hx hb dX11_turned_0 rfl (lv_at hl 0 rfl) ?_
  refine lv_iload_n hx hb dX11_turned_1 rfl (lv_at hl 1 rfl) ?_
  have hPc := hP.sub (ws' := [(x0, .inr (11, [.ref rd, .ref dr, .ref bk, .ref st, .ref nw, .ref tr, .ref pl, .ref fl, .ref rg, .int 0, .int 0, .int 0])), (bk, .inr (0, [.int 0, .ref bk_tail, .ref bk_head, .ref bk_hinder, .ref bk_size, .ref bk_walk, .ref bk_draught, .ref bk_doorIn, .ref bk_fanIn, .ref bk_faceIn, .int 0, .int (-1), .ref gr])), (gr, .inr (3, [.int 0, .ref gr_doorBy, .int 0, .ref gr_pairFirst, .ref gr_pairSecond, .int 0, .ref gr_fanPush, .ref gr_fanFall, .ref gr_fanCost, .int 0, .ref gr_faceWay, .ref gr_faceGas, .ref gr_faceNeed]))]) [0, 1, 2] rfl
  have hDc := hD.sub (ws' := [(x0, .inr (11, [.ref rd, .ref dr, .ref bk, .ref st, .ref nw, .ref tr, .ref pl, .ref fl, .ref rg, .int 0, .int 0, .int 0])), (bk, .inr (0, [.int 0, .ref bk_tail, .ref bk_head, .ref bk_hinder, .ref bk_size, .ref bk_walk, .ref bk_draught, .ref bk_doorIn, .ref bk_fanIn, .ref bk_faceIn, .int 0, .int (-1), .ref gr])), (gr, .inr (3, [.int 0, .ref gr_doorBy, .int 0, .ref gr_pairFirst, .ref gr_pairSecond, .int 0, .ref gr_fanPush, .ref gr_fanFall, .ref gr_fanCost, .int 0, .ref gr_faceWay, .ref gr_faceGas, .ref gr_faceNeed]))]) [0, 1, 2] (by decide) rfl
  have hKc := hK.sub (tys' := []) [] rfl
  have hFc := va_free (wc := [(x0, .inr (11, [.ref rd, .ref dr, .ref bk, .ref st, .ref nw, .ref tr, .ref pl, .ref fl, .ref rg, .int 0, .int 0, .int 0])), (bk, .inr (0, [.int 0, .ref bk_tail, .ref bk_head, .ref bk_hinder, .ref bk_size, .ref bk_walk, .ref bk_draught, .ref bk_doorIn, .ref bk_fanIn, .ref bk_faceIn, .int 0, .int (-1), .ref gr])), (gr, .inr (3, [.int 0, .ref gr_doorBy, .int 0, .ref gr_pairFirst, .ref gr_pairSecond, .int 0, .ref gr_fanPush, .ref gr_fanFall, .ref gr_fanCost, .int 0, .ref gr_faceWay, .ref gr_faceGas, .ref gr_faceNeed]))]) hD hS hA [0, 1, 2] rfl
  refine va_calli (va_runV (As := [.int w]) (rest := []) ⟨hx, hb, hml, hown, hts⟩ (c_isFan l dC dI n0 s.heap.size x0 rd dr bk st nw tr pl fl rg 0 0 0 bk_tail bk_head bk_hinder bk_size bk_walk bk_draught bk_doorIn bk_fanIn bk_faceIn gr gr_doorBy gr_pairFirst gr_pairSecond gr_fanPush gr_fanFall gr_fanCost gr_faceWay gr_faceGas gr_faceNeed w ) (cwV 1 hts (gV (fun w h => wM_c h) wd_982 wd_979 wd_981 wd_29 wd_114) rfl rfl rfl (by decide +kernel) ⟨Nat.le_of_ble_eq_true rfl, Nat.le_of_ble_eq_true rfl⟩) ⟨fun a U g mk q => by obtain ⟨q0, q1, q2, qG, qP, qK, qD⟩ := q; exact ⟨q0, q1, q2, GW.blind qG, qP, va_K.moved (u := U) (U := U.calling g mk a) (Vm.Alike.refl U.vm) qK, qD⟩, va_recv hKc hPc (ci := 11) (q0 := 0) rfl rfl, fun U hU hW => ⟨rfl, by rw [hU], Nat.le_trans hn0 hS.1, GW.go hW hU hG (fun q hq hA9 => hS.2.1 q hq (fun h => hA9 (hA0 q h))), by rw [hU]; exact hPc, va_K.moved hW.alike hKc, hDc.weaken (fun _ _ _ h => hA0 _ h)⟩⟩ rfl rfl hl.1 rfl (lv_room (Nat.le_of_ble_eq_true rfl)) dX11_turned_2 ⟨Nat.le_of_ble_eq_true rfl, Nat.le_of_ble_eq_true rfl⟩) hS (fun q _ h => hFc q h) hFc (fun r_1 u t H1 locs ht hvm hw_2 hB hz1 hk1 hS => ?_)
  obtain ⟨hP1, hK1, hD1⟩ := hB
  rw [ht] at hP1
  obtain ⟨hP, hD⟩ := va_join (wr := []) (w1 := [(x0, .inr (11, [.ref rd, .ref dr, .ref bk, .ref st, .ref nw, .ref tr, .ref pl, .ref fl, .ref rg, .int 0, .int 0, .int 0])), (bk, .inr (0, [.int 0, .ref bk_tail, .ref bk_head, .ref bk_hinder, .ref bk_size, .ref bk_walk, .ref bk_draught, .ref bk_doorIn, .ref bk_fanIn, .ref bk_faceIn, .int 0, .int (-1), .ref gr])), (gr, .inr (3, [.int 0, .ref gr_doorBy, .int 0, .ref gr_pairFirst, .ref gr_pairSecond, .int 0, .ref gr_fanPush, .ref gr_fanFall, .ref gr_fanCost, .int 0, .ref gr_faceWay, .ref gr_faceGas, .ref gr_faceNeed]))]) hP hD [0, 1, 2] [] rfl rfl (by decide) (by decide) hk1 hFc hP1 hD1
  generalize H1 = H at hP hS ⊢
  have hP : va_P (dC, dI) classes [(x0, .inr (11, [.ref rd, .ref dr, .ref bk, .ref st, .ref nw, .ref tr, .ref pl, .ref fl, .ref rg, .int 0, .int 0, .int 0])), (bk, .inr (0, [.int 0, .ref bk_tail, .ref bk_head, .ref bk_hinder, .ref bk_size, .ref bk_walk, .ref bk_draught, .ref bk_doorIn, .ref bk_fanIn, .ref bk_faceIn, .int 0, .int (-1), .ref gr])), (gr, .inr (3, [.int 0, .ref gr_doorBy, .int 0, .ref gr_pairFirst, .ref gr_pairSecond, .int 0, .ref gr_fanPush, .ref gr_fanFall, .ref gr_fanCost, .int 0, .ref gr_faceWay, .ref gr_faceGas, .ref gr_faceNeed]))] H := hP
  have hD : va_D A [(x0, .inr (11, [.ref rd, .ref dr, .ref bk, .ref st, .ref nw, .ref tr, .ref pl, .ref fl, .ref rg, .int 0, .int 0, .int 0])), (bk, .inr (0, [.int 0, .ref bk_tail, .ref bk_head, .ref bk_hinder, .ref bk_size, .ref bk_walk, .ref bk_draught, .ref bk_doorIn, .ref bk_fanIn, .ref bk_faceIn, .int 0, .int (-1), .ref gr])), (gr, .inr (3, [.int 0, .ref gr_doorBy, .int 0, .ref gr_pairFirst, .ref gr_pairSecond, .int 0, .ref gr_fanPush, .ref gr_fanFall, .ref gr_fanCost, .int 0, .ref gr_faceWay, .ref gr_faceGas, .ref gr_faceNeed]))] := hD
  obtain rfl : r_1 = 0 := hw_2
  refine lv_if_ne (tgt := 14) hx hb dX11_turned_5 (by decide) (fun c_3 => ?_) (fun c_3 => ?_)
  · exact absurd c_3 (by decide)
  refine lv_aload_n hx hb dX11_turned_8 rfl (lv_at hl 0 rfl) ?_
  refine lv_iconst (v := 1) hx hb dX11_turned_9 (by decide) ?_
  have hPc := hP.sub (ws' := [(x0, .inr (11, [.ref rd, .ref dr, .ref bk, .ref st, .ref nw, .ref tr, .ref pl, .ref fl, .ref rg, .int 0, .int 0, .int 0]))]) [0] rfl
  have hDc := hD.sub (ws' := [(x0, .inr (11, [.ref rd, .ref dr, .ref bk, .ref st, .ref nw, .ref tr, .ref pl, .ref fl, .ref rg, .int 0, .int 0, .int 0]))]) [0] (by decide) rfl
  have hKc := hK.sub (tys' := []) [] rfl
  have hFc := va_free (wc := [(x0, .inr (11, [.ref rd, .ref dr, .ref bk, .ref st, .ref nw, .ref tr, .ref pl, .ref fl, .ref rg, .int 0, .int 0, .int 0]))]) hD hS hA [0] rfl
  refine va_calli (va_runV (As := [.int 1]) (rest := []) ⟨hx, hb, hml, hown, hts⟩ (c_refuse l dC dI n0 H.size x0 rd dr bk st nw tr pl fl rg 0 0 0 1 ) (cwV 1 hts (gV (fun w h => wM_c h) wd_722 wd_719 wd_721 wd_0 wd_114) rfl rfl rfl (by decide +kernel) ⟨Nat.le_of_ble_eq_true rfl, Nat.le_of_ble_eq_true rfl⟩) ⟨fun a U g mk q => by obtain ⟨q0, q1, q2, qG, qP, qK, qD⟩ := q; exact ⟨q0, q1, q2, GW.blind qG, qP, va_K.moved (u := U) (U := U.calling g mk a) (Vm.Alike.refl U.vm) qK, qD⟩, va_recv hKc hPc (ci := 11) (q0 := 0) rfl rfl, fun U hU hW => ⟨rfl, by rw [hU], Nat.le_trans hn0 hS.1, GW.go hW hU hG (fun q hq hA9 => hS.2.1 q hq (fun h => hA9 (hA0 q h))), by rw [hU]; exact hPc, va_K.moved hW.alike hKc, hDc.weaken (fun _ _ _ h => hA0 _ h)⟩⟩ rfl rfl hl.1 rfl (lv_room (Nat.le_of_ble_eq_true rfl)) dX11_turned_10 ⟨Nat.le_of_ble_eq_true rfl, Nat.le_of_ble_eq_true rfl⟩) hS (fun q _ h => hFc q h) hFc (fun r_4 u t H1 locs ht hvm hw_5 hB hz1 hk1 hS => ?_)
  obtain ⟨hP1, hK1, hD1⟩ := hB
  rw [ht] at hP1
  obtain ⟨hP, hD⟩ := va_join (wr := [(bk, .inr (0, [.int 0, .ref bk_tail, .ref bk_head, .ref bk_hinder, .ref bk_size, .ref bk_walk, .ref bk_draught, .ref bk_doorIn, .ref bk_fanIn, .ref bk_faceIn, .int 0, .int (-1), .ref gr])), (gr, .inr (3, [.int 0, .ref gr_doorBy, .int 0, .ref gr_pairFirst, .ref gr_pairSecond, .int 0, .ref gr_fanPush, .ref gr_fanFall, .ref gr_fanCost, .int 0, .ref gr_faceWay, .ref gr_faceGas, .ref gr_faceNeed]))]) (w1 := [(x0, .inr (11, [.ref rd, .ref dr, .ref bk, .ref st, .ref nw, .ref tr, .ref pl, .ref fl, .ref rg, .int 1, .int 0, .int 0]))]) hP hD [0] [1, 2] rfl rfl (by decide) (by decide) hk1 hFc hP1 hD1
  generalize H1 = H at hP hS ⊢
  have hP : va_P (dC, dI) classes [(bk, .inr (0, [.int 0, .ref bk_tail, .ref bk_head, .ref bk_hinder, .ref bk_size, .ref bk_walk, .ref bk_draught, .ref bk_doorIn, .ref bk_fanIn, .ref bk_faceIn, .int 0, .int (-1), .ref gr])), (gr, .inr (3, [.int 0, .ref gr_doorBy, .int 0, .ref gr_pairFirst, .ref gr_pairSecond, .int 0, .ref gr_fanPush, .ref gr_fanFall, .ref gr_fanCost, .int 0, .ref gr_faceWay, .ref gr_faceGas, .ref gr_faceNeed])), (x0, .inr (11, [.ref rd, .ref dr, .ref bk, .ref st, .ref nw, .ref tr, .ref pl, .ref fl, .ref rg, .int 1, .int 0, .int 0]))] H := hP
  have hD : va_D A [(bk, .inr (0, [.int 0, .ref bk_tail, .ref bk_head, .ref bk_hinder, .ref bk_size, .ref bk_walk, .ref bk_draught, .ref bk_doorIn, .ref bk_fanIn, .ref bk_faceIn, .int 0, .int (-1), .ref gr])), (gr, .inr (3, [.int 0, .ref gr_doorBy, .int 0, .ref gr_pairFirst, .ref gr_pairSecond, .int 0, .ref gr_fanPush, .ref gr_fanFall, .ref gr_fanCost, .int 0, .ref gr_faceWay, .ref gr_faceGas, .ref gr_faceNeed])), (x0, .inr (11, [.ref rd, .ref dr, .ref bk, .ref st, .ref nw, .ref tr, .ref pl, .ref fl, .ref rg, .int 1, .int 0, .int 0]))] := hD
  obtain rfl : r_4 = (-1) := hw_5
  exact W.iret (v := (-1)) hx hb hr (fun t ht hW => ⟨⟨(-1), (), rfl, rfl, trivial⟩, hS.F ht⟩) hS.2.2 dX11_turned_13
set_option maxHeartbeats 4000000 in
set_option maxRecDepth 100000 in
theorem p_gas (l : Launch) (dC : Nat → ClassId) (dI : Nat → Nat → Nat) (n0 sz : Nat) (x0 : Nat) (rd : Nat) (dr : Nat) (bk : Nat) (st : Nat) (nw : Nat) (tr : Nat) (pl : Nat) (fl : Nat) (rg : Nat) (bk_tail : Nat) (bk_head : Nat) (bk_hinder : Nat) (bk_size : Nat) (bk_walk : Nat) (bk_draught : Nat) (bk_doorIn : Nat) (bk_fanIn : Nat) (bk_faceIn : Nat) (gr : Nat) (w : Int32) : Met l yX11_gas (wM yX11_gas cX11_gas 2 (some .int)) ({ frames := 1, cells := 0, slots := 0, locals := 21 }) (va_Pc [.ref x0, .int w] (fun U => U.heap.size = sz ∧ n0 ≤ sz ∧ GW n0 U ∧ va_P (dC, dI) classes [(x0, .inr (11, [.ref rd, .ref dr, .ref bk, .ref st, .ref nw, .ref tr, .ref pl, .ref fl, .ref rg, .int 0, .int 0, .int 0])), (bk, .inr (0, [.int 0, .ref bk_tail, .ref bk_head, .ref bk_hinder, .ref bk_size, .ref bk_walk, .ref bk_draught, .ref bk_doorIn, .ref bk_fanIn, .ref bk_faceIn, .int 0, .int (-1), .ref gr]))] U.heap ∧ va_K (dC, dI) classes [] U ∧ va_D (fun q => n0 ≤ q) [(x0, .inr (11, [.ref rd, .ref dr, .ref bk, .ref st, .ref nw, .ref tr, .ref pl, .ref fl, .ref rg, .int 0, .int 0, .int 0])), (bk, .inr (0, [.int 0, .ref bk_tail, .ref bk_head, .ref bk_hinder, .ref bk_size, .ref bk_walk, .ref bk_draught, .ref bk_doorIn, .ref bk_fanIn, .ref bk_faceIn, .int 0, .int (-1), .ref gr]))])) (va_Qi (fun (r : Int32) (_ : Unit) => r = (-1)) (fun (_ : Unit) (_ : State) => True) (va_A [(x0, .inr (11, [.ref rd, .ref dr, .ref bk, .ref st, .ref nw, .ref tr, .ref pl, .ref fl, .ref rg, .int 0, .int 0, .int 0])), (bk, .inr (0, [.int 0, .ref bk_tail, .ref bk_head, .ref bk_hinder, .ref bk_size, .ref bk_walk, .ref bk_draught, .ref bk_doorIn, .ref bk_fanIn, .ref bk_faceIn, .int 0, .int (-1), .ref gr]))] sz)) 0 0 (va_A [(x0, .inr (11, [.ref rd, .ref dr, .ref bk, .ref st, .ref nw, .ref tr, .ref pl, .ref fl, .ref rg, .int 0, .int 0, .int 0])), (bk, .inr (0, [.int 0, .ref bk_tail, .ref bk_head, .ref bk_hinder, .ref bk_size, .ref bk_walk, .ref bk_draught, .ref bk_doorIn, .ref bk_fanIn, .ref bk_faceIn, .int 0, .int (-1), .ref gr]))] sz) := by
  refine Met.ofW (cc := cX11_gas) (maxL := 2) (ret := (some .int)) (by decide) rfl ?_
  intro p e s m args below meth c s₁ B hml hv
  obtain ⟨rfl, hsz, hn0, hG, hP, hK, hD0⟩ := hv
  have hx := B.exec
  have hb := B.bytes
  have hr := B.returns
  have hts := atoms_spec (ws := wM yX11_gas cX11_gas 2 (some .int)) B.pre
  have hown : s.vm.findClass RX11 = some m.cls := findClass_of_methodNamed B.named
  have hlocks := B.notSynchronized
  subst hsz
  have hD := hD0.self (sz := s.heap.size)
  have hA0 := vA_n0 hD0 hn0
  generalize hAe : va_A [(x0, .inr (11, [.ref rd, .ref dr, .ref bk, .ref st, .ref nw, .ref tr, .ref pl, .ref fl, .ref rg, .int 0, .int 0, .int 0])), (bk, .inr (0, [.int 0, .ref bk_tail, .ref bk_head, .ref bk_hinder, .ref bk_size, .ref bk_walk, .ref bk_draught, .ref bk_doorIn, .ref bk_fanIn, .ref bk_faceIn, .int 0, .int (-1), .ref gr]))] s.heap.size = A at hD hA0 ⊢
  have hA : ∀ q : Nat, s.heap.size ≤ q → A q := fun q h => by rw [← hAe]; exact Or.inr h
  have hS : va_S A s.heap s.heap [] := va_S.rf
  have hl := lv_entry ([.ref x0, .int w]) (n := 2) (Nat.le_of_ble_eq_true rfl)
  rw [lg_entry_eq]
  generalize (lg_sl ([.ref x0, .int w]) ++ List.replicate (2 - (lg_sl ([.ref x0, .int w])).length) Slot.unset).toArray = ls at hl ⊢
  have hl : lv_has ls 2 [(0, .ref x0), (1, .int w)] := hl
  refine lv_aload_n hx hb dX11_gas_0 rfl (lv_at hl 0 rfl) ?_
  refine lv_iload_n hx hb dX11_gas_1 rfl (lv_at hl 1 rfl) ?_
  have hPc := hP.sub (ws' := [(x0, .inr (11, [.ref rd, .ref dr, .ref bk, .ref st, .ref nw, .ref tr, .ref pl, .ref fl, .ref rg, .int 0, .int 0, .int 0])), (bk, .inr (0, [.int 0, .ref bk_tail, .ref bk_head, .ref bk_hinder, .ref bk_size, .ref bk_walk, .ref bk_draught, .ref bk_doorIn, .ref bk_fanIn, .ref bk_faceIn, .int 0, .int (-1), .ref gr]))]) [0, 1] rfl
  have hDc := hD.sub (ws' := [(x0, .inr (11, [.ref rd, .ref dr, .ref bk, .ref st, .ref nw, .ref tr, .ref pl, .ref fl, .ref rg, .int 0, .int 0, .int 0])), (bk, .inr (0, [.int 0, .ref bk_tail, .ref bk_head, .ref bk_hinder, .ref bk_size, .ref bk_walk, .ref bk_draught, .ref bk_doorIn, .ref bk_fanIn, .ref bk_faceIn, .int 0, .int (-1), .ref gr]))]) [0, 1] (by decide) rfl
  have hKc := hK.sub (tys' := []) [] rfl
  have hFc := va_free (wc := [(x0, .inr (11, [.ref rd, .ref dr, .ref bk, .ref st, .ref nw, .ref tr, .ref pl, .ref fl, .ref rg, .int 0, .int 0, .int 0])), (bk, .inr (0, [.int 0, .ref bk_tail, .ref bk_head, .ref bk_hinder, .ref bk_size, .ref bk_walk, .ref bk_draught, .ref bk_doorIn, .ref bk_fanIn, .ref bk_faceIn, .int 0, .int (-1), .ref gr]))]) hD hS hA [0, 1] rfl
  refine va_calli (va_runV (As := [.int w]) (rest := []) ⟨hx, hb, hml, hown, hts⟩ (c_isWay l dC dI n0 s.heap.size x0 rd dr bk st nw tr pl fl rg 0 0 0 bk_tail bk_head bk_hinder bk_size bk_walk bk_draught bk_doorIn bk_fanIn bk_faceIn gr w ) (cwV 1 hts (gV (fun w h => wM_c h) wd_950 wd_947 wd_949 wd_25 wd_114) rfl rfl rfl (by decide +kernel) ⟨Nat.le_of_ble_eq_true rfl, Nat.le_of_ble_eq_true rfl⟩) ⟨fun a U g mk q => by obtain ⟨q0, q1, q2, qG, qP, qK, qD⟩ := q; exact ⟨q0, q1, q2, GW.blind qG, qP, va_K.moved (u := U) (U := U.calling g mk a) (Vm.Alike.refl U.vm) qK, qD⟩, va_recv hKc hPc (ci := 11) (q0 := 0) rfl rfl, fun U hU hW => ⟨rfl, by rw [hU], Nat.le_trans hn0 hS.1, GW.go hW hU hG (fun q hq hA9 => hS.2.1 q hq (fun h => hA9 (hA0 q h))), by rw [hU]; exact hPc, va_K.moved hW.alike hKc, hDc.weaken (fun _ _ _ h => hA0 _ h)⟩⟩ rfl rfl hl.1 rfl (lv_room (Nat.le_of_ble_eq_true rfl)) dX11_gas_2 ⟨Nat.le_of_ble_eq_true rfl, Nat.le_of_ble_eq_true rfl⟩) hS (fun q _ h => hFc q h) hFc (fun r_1 u t H1 locs ht hvm hw_2 hB hz1 hk1 hS => ?_)
  obtain ⟨hP1, hK1, hD1⟩ := hB
  rw [ht] at hP1
  obtain ⟨hP, hD⟩ := va_join (wr := []) (w1 := [(x0, .inr (11, [.ref rd, .ref dr, .ref bk, .ref st, .ref nw, .ref tr, .ref pl, .ref fl, .ref rg, .int 0, .int 0, .int 0])), (bk, .inr (0, [.int 0, .ref bk_tail, .ref bk_head, .ref bk_hinder, .ref bk_size, .ref bk_walk, .ref bk_draught, .ref bk_doorIn, .ref bk_fanIn, .ref bk_faceIn, .int 0, .int (-1), .ref gr]))]) hP hD [0, 1] [] rfl rfl (by decide) (by decide) hk1 hFc hP1 hD1
  generalize H1 = H at hP hS ⊢
  have hP : va_P (dC, dI) classes [(x0, .inr (11, [.ref rd, .ref dr, .ref bk, .ref st, .ref nw, .ref tr, .ref pl, .ref fl, .ref rg, .int 0, .int 0, .int 0])), (bk, .inr (0, [.int 0, .ref bk_tail, .ref bk_head, .ref bk_hinder, .ref bk_size, .ref bk_walk, .ref bk_draught, .ref bk_doorIn, .ref bk_fanIn, .ref bk_faceIn, .int 0, .int (-1), .ref gr]))] H := hP
  have hD : va_D A [(x0, .inr (11, [.ref rd, .ref dr, .ref bk, .ref st, .ref nw, .ref tr, .ref pl, .ref fl, .ref rg, .int 0, .int 0, .int 0])), (bk, .inr (0, [.int 0, .ref bk_tail, .ref bk_head, .ref bk_hinder, .ref bk_size, .ref bk_walk, .ref bk_draught, .ref bk_doorIn, .ref bk_fanIn, .ref bk_faceIn, .int 0, .int (-1), .ref gr]))] := hD
  obtain rfl : r_1 = 0 := hw_2
  refine lv_if_ne (tgt := 14) hx hb dX11_gas_5 (by decide) (fun c_3 => ?_) (fun c_3 => ?_)
  · exact absurd c_3 (by decide)
  refine lv_aload_n hx hb dX11_gas_8 rfl (lv_at hl 0 rfl) ?_
  refine lv_iconst (v := 1) hx hb dX11_gas_9 (by decide) ?_
  have hPc := hP.sub (ws' := [(x0, .inr (11, [.ref rd, .ref dr, .ref bk, .ref st, .ref nw, .ref tr, .ref pl, .ref fl, .ref rg, .int 0, .int 0, .int 0]))]) [0] rfl
  have hDc := hD.sub (ws' := [(x0, .inr (11, [.ref rd, .ref dr, .ref bk, .ref st, .ref nw, .ref tr, .ref pl, .ref fl, .ref rg, .int 0, .int 0, .int 0]))]) [0] (by decide) rfl
  have hKc := hK.sub (tys' := []) [] rfl
  have hFc := va_free (wc := [(x0, .inr (11, [.ref rd, .ref dr, .ref bk, .ref st, .ref nw, .ref tr, .ref pl, .ref fl, .ref rg, .int 0, .int 0, .int 0]))]) hD hS hA [0] rfl
  refine va_calli (va_runV (As := [.int 1]) (rest := []) ⟨hx, hb, hml, hown, hts⟩ (c_refuse l dC dI n0 H.size x0 rd dr bk st nw tr pl fl rg 0 0 0 1 ) (cwV 1 hts (gV (fun w h => wM_c h) wd_722 wd_719 wd_721 wd_0 wd_114) rfl rfl rfl (by decide +kernel) ⟨Nat.le_of_ble_eq_true rfl, Nat.le_of_ble_eq_true rfl⟩) ⟨fun a U g mk q => by obtain ⟨q0, q1, q2, qG, qP, qK, qD⟩ := q; exact ⟨q0, q1, q2, GW.blind qG, qP, va_K.moved (u := U) (U := U.calling g mk a) (Vm.Alike.refl U.vm) qK, qD⟩, va_recv hKc hPc (ci := 11) (q0 := 0) rfl rfl, fun U hU hW => ⟨rfl, by rw [hU], Nat.le_trans hn0 hS.1, GW.go hW hU hG (fun q hq hA9 => hS.2.1 q hq (fun h => hA9 (hA0 q h))), by rw [hU]; exact hPc, va_K.moved hW.alike hKc, hDc.weaken (fun _ _ _ h => hA0 _ h)⟩⟩ rfl rfl hl.1 rfl (lv_room (Nat.le_of_ble_eq_true rfl)) dX11_gas_10 ⟨Nat.le_of_ble_eq_true rfl, Nat.le_of_ble_eq_true rfl⟩) hS (fun q _ h => hFc q h) hFc (fun r_4 u t H1 locs ht hvm hw_5 hB hz1 hk1 hS => ?_)
  obtain ⟨hP1, hK1, hD1⟩ := hB
  rw [ht] at hP1
  obtain ⟨hP, hD⟩ := va_join (wr := [(bk, .inr (0, [.int 0, .ref bk_tail, .ref bk_head, .ref bk_hinder, .ref bk_size, .ref bk_walk, .ref bk_draught, .ref bk_doorIn, .ref bk_fanIn, .ref bk_faceIn, .int 0, .int (-1), .ref gr]))]) (w1 := [(x0, .inr (11, [.ref rd, .ref dr, .ref bk, .ref st, .ref nw, .ref tr, .ref pl, .ref fl, .ref rg, .int 1, .int 0, .int 0]))]) hP hD [0] [1] rfl rfl (by decide) (by decide) hk1 hFc hP1 hD1
  generalize H1 = H at hP hS ⊢
  have hP : va_P (dC, dI) classes [(bk, .inr (0, [.int 0, .ref bk_tail, .ref bk_head, .ref bk_hinder, .ref bk_size, .ref bk_walk, .ref bk_draught, .ref bk_doorIn, .ref bk_fanIn, .ref bk_faceIn, .int 0, .int (-1), .ref gr])), (x0, .inr (11, [.ref rd, .ref dr, .ref bk, .ref st, .ref nw, .ref tr, .ref pl, .ref fl, .ref rg, .int 1, .int 0, .int 0]))] H := hP
  have hD : va_D A [(bk, .inr (0, [.int 0, .ref bk_tail, .ref bk_head, .ref bk_hinder, .ref bk_size, .ref bk_walk, .ref bk_draught, .ref bk_doorIn, .ref bk_fanIn, .ref bk_faceIn, .int 0, .int (-1), .ref gr])), (x0, .inr (11, [.ref rd, .ref dr, .ref bk, .ref st, .ref nw, .ref tr, .ref pl, .ref fl, .ref rg, .int 1, .int 0, .int 0]))] := hD
  obtain rfl : r_4 = (-1) := hw_5
  exact W.iret (v := (-1)) hx hb hr (fun t ht hW => ⟨⟨(-1), (), rfl, rfl, trivial⟩, hS.F ht⟩) hS.2.2 dX11_gas_13
set_option maxHeartbeats 4000000 in
set_option maxRecDepth 100000 in
theorem p_thick (l : Launch) (dC : Nat → ClassId) (dI : Nat → Nat → Nat) (n0 sz : Nat) (x0 : Nat) (rd : Nat) (dr : Nat) (bk : Nat) (st : Nat) (nw : Nat) (tr : Nat) (pl : Nat) (fl : Nat) (rg : Nat) (bk_tail : Nat) (bk_head : Nat) (bk_hinder : Nat) (bk_size : Nat) (bk_walk : Nat) (bk_draught : Nat) (bk_doorIn : Nat) (bk_fanIn : Nat) (bk_faceIn : Nat) (gr : Nat) (w : Int32) : Met l yX11_thick (wM yX11_thick cX11_thick 2 (some .int)) ({ frames := 1, cells := 0, slots := 0, locals := 21 }) (va_Pc [.ref x0, .int w] (fun U => U.heap.size = sz ∧ n0 ≤ sz ∧ GW n0 U ∧ va_P (dC, dI) classes [(x0, .inr (11, [.ref rd, .ref dr, .ref bk, .ref st, .ref nw, .ref tr, .ref pl, .ref fl, .ref rg, .int 0, .int 0, .int 0])), (bk, .inr (0, [.int 0, .ref bk_tail, .ref bk_head, .ref bk_hinder, .ref bk_size, .ref bk_walk, .ref bk_draught, .ref bk_doorIn, .ref bk_fanIn, .ref bk_faceIn, .int 0, .int (-1), .ref gr]))] U.heap ∧ va_K (dC, dI) classes [] U ∧ va_D (fun q => n0 ≤ q) [(x0, .inr (11, [.ref rd, .ref dr, .ref bk, .ref st, .ref nw, .ref tr, .ref pl, .ref fl, .ref rg, .int 0, .int 0, .int 0])), (bk, .inr (0, [.int 0, .ref bk_tail, .ref bk_head, .ref bk_hinder, .ref bk_size, .ref bk_walk, .ref bk_draught, .ref bk_doorIn, .ref bk_fanIn, .ref bk_faceIn, .int 0, .int (-1), .ref gr]))])) (va_Qi (fun (r : Int32) (_ : Unit) => r = (-1)) (fun (_ : Unit) (_ : State) => True) (va_A [(x0, .inr (11, [.ref rd, .ref dr, .ref bk, .ref st, .ref nw, .ref tr, .ref pl, .ref fl, .ref rg, .int 0, .int 0, .int 0])), (bk, .inr (0, [.int 0, .ref bk_tail, .ref bk_head, .ref bk_hinder, .ref bk_size, .ref bk_walk, .ref bk_draught, .ref bk_doorIn, .ref bk_fanIn, .ref bk_faceIn, .int 0, .int (-1), .ref gr]))] sz)) 0 0 (va_A [(x0, .inr (11, [.ref rd, .ref dr, .ref bk, .ref st, .ref nw, .ref tr, .ref pl, .ref fl, .ref rg, .int 0, .int 0, .int 0])), (bk, .inr (0, [.int 0, .ref bk_tail, .ref bk_head, .ref bk_hinder, .ref bk_size, .ref bk_walk, .ref bk_draught, .ref bk_doorIn, .ref bk_fanIn, .ref bk_faceIn, .int 0, .int (-1), .ref gr]))] sz) := by
  refine Met.ofW (cc := cX11_thick) (maxL := 2) (ret := (some .int)) (by decide) rfl ?_
  intro p e s m args below meth c s₁ B hml hv
  obtain ⟨rfl, hsz, hn0, hG, hP, hK, hD0⟩ := hv
  have hx := B.exec
  have hb := B.bytes
  have hr := B.returns
  have hts := atoms_spec (ws := wM yX11_thick cX11_thick 2 (some .int)) B.pre
  have hown : s.vm.findClass RX11 = some m.cls := findClass_of_methodNamed B.named
  have hlocks := B.notSynchronized
  subst hsz
  have hD := hD0.self (sz := s.heap.size)
  have hA0 := vA_n0 hD0 hn0
  generalize hAe : va_A [(x0, .inr (11, [.ref rd, .ref dr, .ref bk, .ref st, .ref nw, .ref tr, .ref pl, .ref fl, .ref rg, .int 0, .int 0, .int 0])), (bk, .inr (0, [.int 0, .ref bk_tail, .ref bk_head, .ref bk_hinder, .ref bk_size, .ref bk_walk, .ref bk_draught, .ref bk_doorIn, .ref bk_fanIn, .ref bk_faceIn, .int 0, .int (-1), .ref gr]))] s.heap.size = A at hD hA0 ⊢
  have hA : ∀ q : Nat, s.heap.size ≤ q → A q := fun q h => by rw [← hAe]; exact Or.inr h
  have hS : va_S A s.heap s.heap [] := va_S.rf
  have hl := lv_entry ([.ref x0, .int w]) (n := 2) (Nat.le_of_ble_eq_true rfl)
  rw [lg_entry_eq]
  generalize (lg_sl ([.ref x0, .int w]) ++ List.replicate (2 - (lg_sl ([.ref x0, .int w])).length) Slot.unset).toArray = ls at hl ⊢
  have hl : lv_has ls 2 [(0, .ref x0), (1, .int w)] := hl
  refine lv_aload_n hx hb dX11_thick_0 rfl (lv_at hl 0 rfl) ?_
  refine lv_iload_n hx hb dX11_thick_1 rfl (lv_at hl 1 rfl) ?_
  have hPc := hP.sub (ws' := [(x0, .inr (11, [.ref rd, .ref dr, .ref bk, .ref st, .ref nw, .ref tr, .ref pl, .ref fl, .ref rg, .int 0, .int 0, .int 0])), (bk, .inr (0, [.int 0, .ref bk_tail, .ref bk_head, .ref bk_hinder, .ref bk_size, .ref bk_walk, .ref bk_draught, .ref bk_doorIn, .ref bk_fanIn, .ref bk_faceIn, .int 0, .int (-1), .ref gr]))]) [0, 1] rfl
  have hDc := hD.sub (ws' := [(x0, .inr (11, [.ref rd, .ref dr, .ref bk, .ref st, .ref nw, .ref tr, .ref pl, .ref fl, .ref rg, .int 0, .int 0, .int 0])), (bk, .inr (0, [.int 0, .ref bk_tail, .ref bk_head, .ref bk_hinder, .ref bk_size, .ref bk_walk, .ref bk_draught, .ref bk_doorIn, .ref bk_fanIn, .ref bk_faceIn, .int 0, .int (-1), .ref gr]))]) [0, 1] (by decide) rfl
  have hKc := hK.sub (tys' := []) [] rfl
  have hFc := va_free (wc := [(x0, .inr (11, [.ref rd, .ref dr, .ref bk, .ref st, .ref nw, .ref tr, .ref pl, .ref fl, .ref rg, .int 0, .int 0, .int 0])), (bk, .inr (0, [.int 0, .ref bk_tail, .ref bk_head, .ref bk_hinder, .ref bk_size, .ref bk_walk, .ref bk_draught, .ref bk_doorIn, .ref bk_fanIn, .ref bk_faceIn, .int 0, .int (-1), .ref gr]))]) hD hS hA [0, 1] rfl
  refine va_calli (va_runV (As := [.int w]) (rest := []) ⟨hx, hb, hml, hown, hts⟩ (c_isWay l dC dI n0 s.heap.size x0 rd dr bk st nw tr pl fl rg 0 0 0 bk_tail bk_head bk_hinder bk_size bk_walk bk_draught bk_doorIn bk_fanIn bk_faceIn gr w ) (cwV 1 hts (gV (fun w h => wM_c h) wd_950 wd_947 wd_949 wd_25 wd_114) rfl rfl rfl (by decide +kernel) ⟨Nat.le_of_ble_eq_true rfl, Nat.le_of_ble_eq_true rfl⟩) ⟨fun a U g mk q => by obtain ⟨q0, q1, q2, qG, qP, qK, qD⟩ := q; exact ⟨q0, q1, q2, GW.blind qG, qP, va_K.moved (u := U) (U := U.calling g mk a) (Vm.Alike.refl U.vm) qK, qD⟩, va_recv hKc hPc (ci := 11) (q0 := 0) rfl rfl, fun U hU hW => ⟨rfl, by rw [hU], Nat.le_trans hn0 hS.1, GW.go hW hU hG (fun q hq hA9 => hS.2.1 q hq (fun h => hA9 (hA0 q h))), by rw [hU]; exact hPc, va_K.moved hW.alike hKc, hDc.weaken (fun _ _ _ h => hA0 _ h)⟩⟩ rfl rfl hl.1 rfl (lv_room (Nat.le_of_ble_eq_true rfl)) dX11_thick_2 ⟨Nat.le_of_ble_eq_true rfl, Nat.le_of_ble_eq_true rfl⟩) hS (fun q _ h => hFc q h) hFc (fun r_1 u t H1 locs ht hvm hw_2 hB hz1 hk1 hS => ?_)
  obtain ⟨hP1, hK1, hD1⟩ := hB
  rw [ht] at hP1
  obtain ⟨hP, hD⟩ := va_join (wr := []) (w1 := [(x0, .inr (11, [.ref rd, .ref dr, .ref bk, .ref st, .ref nw, .ref tr, .ref pl, .ref fl, .ref rg, .int 0, .int 0, .int 0])), (bk, .inr (0, [.int 0, .ref bk_tail, .ref bk_head, .ref bk_hinder, .ref bk_size, .ref bk_walk, .ref bk_draught, .ref bk_doorIn, .ref bk_fanIn, .ref bk_faceIn, .int 0, .int (-1), .ref gr]))]) hP hD [0, 1] [] rfl rfl (by decide) (by decide) hk1 hFc hP1 hD1
  generalize H1 = H at hP hS ⊢
  have hP : va_P (dC, dI) classes [(x0, .inr (11, [.ref rd, .ref dr, .ref bk, .ref st, .ref nw, .ref tr, .ref pl, .ref fl, .ref rg, .int 0, .int 0, .int 0])), (bk, .inr (0, [.int 0, .ref bk_tail, .ref bk_head, .ref bk_hinder, .ref bk_size, .ref bk_walk, .ref bk_draught, .ref bk_doorIn, .ref bk_fanIn, .ref bk_faceIn, .int 0, .int (-1), .ref gr]))] H := hP
  have hD : va_D A [(x0, .inr (11, [.ref rd, .ref dr, .ref bk, .ref st, .ref nw, .ref tr, .ref pl, .ref fl, .ref rg, .int 0, .int 0, .int 0])), (bk, .inr (0, [.int 0, .ref bk_tail, .ref bk_head, .ref bk_hinder, .ref bk_size, .ref bk_walk, .ref bk_draught, .ref bk_doorIn, .ref bk_fanIn, .ref bk_faceIn, .int 0, .int (-1), .ref gr]))] := hD
  obtain rfl : r_1 = 0 := hw_2
  refine lv_if_ne (tgt := 14) hx hb dX11_thick_5 (by decide) (fun c_3 => ?_) (fun c_3 => ?_)
  · exact absurd c_3 (by decide)
  refine lv_aload_n hx hb dX11_thick_8 rfl (lv_at hl 0 rfl) ?_
  refine lv_iconst (v := 1) hx hb dX11_thick_9 (by decide) ?_
  have hPc := hP.sub (ws' := [(x0, .inr (11, [.ref rd, .ref dr, .ref bk, .ref st, .ref nw, .ref tr, .ref pl, .ref fl, .ref rg, .int 0, .int 0, .int 0]))]) [0] rfl
  have hDc := hD.sub (ws' := [(x0, .inr (11, [.ref rd, .ref dr, .ref bk, .ref st, .ref nw, .ref tr, .ref pl, .ref fl, .ref rg, .int 0, .int 0, .int 0]))]) [0] (by decide) rfl
  have hKc := hK.sub (tys' := []) [] rfl
  have hFc := va_free (wc := [(x0, .inr (11, [.ref rd, .ref dr, .ref bk, .ref st, .ref nw, .ref tr, .ref pl, .ref fl, .ref rg, .int 0, .int 0, .int 0]))]) hD hS hA [0] rfl
  refine va_calli (va_runV (As := [.int 1]) (rest := []) ⟨hx, hb, hml, hown, hts⟩ (c_refuse l dC dI n0 H.size x0 rd dr bk st nw tr pl fl rg 0 0 0 1 ) (cwV 1 hts (gV (fun w h => wM_c h) wd_722 wd_719 wd_721 wd_0 wd_114) rfl rfl rfl (by decide +kernel) ⟨Nat.le_of_ble_eq_true rfl, Nat.le_of_ble_eq_true rfl⟩) ⟨fun a U g mk q => by obtain ⟨q0, q1, q2, qG, qP, qK, qD⟩ := q; exact ⟨q0, q1, q2, GW.blind qG, qP, va_K.moved (u := U) (U := U.calling g mk a) (Vm.Alike.refl U.vm) qK, qD⟩, va_recv hKc hPc (ci := 11) (q0 := 0) rfl rfl, fun U hU hW => ⟨rfl, by rw [hU], Nat.le_trans hn0 hS.1, GW.go hW hU hG (fun q hq hA9 => hS.2.1 q hq (fun h => hA9 (hA0 q h))), by rw [hU]; exact hPc, va_K.moved hW.alike hKc, hDc.weaken (fun _ _ _ h => hA0 _ h)⟩⟩ rfl rfl hl.1 rfl (lv_room (Nat.le_of_ble_eq_true rfl)) dX11_thick_10 ⟨Nat.le_of_ble_eq_true rfl, Nat.le_of_ble_eq_true rfl⟩) hS (fun q _ h => hFc q h) hFc (fun r_4 u t H1 locs ht hvm hw_5 hB hz1 hk1 hS => ?_)
  obtain ⟨hP1, hK1, hD1⟩ := hB
  rw [ht] at hP1
  obtain ⟨hP, hD⟩ := va_join (wr := [(bk, .inr (0, [.int 0, .ref bk_tail, .ref bk_head, .ref bk_hinder, .ref bk_size, .ref bk_walk, .ref bk_draught, .ref bk_doorIn, .ref bk_fanIn, .ref bk_faceIn, .int 0, .int (-1), .ref gr]))]) (w1 := [(x0, .inr (11, [.ref rd, .ref dr, .ref bk, .ref st, .ref nw, .ref tr, .ref pl, .ref fl, .ref rg, .int 1, .int 0, .int 0]))]) hP hD [0] [1] rfl rfl (by decide) (by decide) hk1 hFc hP1 hD1
  generalize H1 = H at hP hS ⊢
  have hP : va_P (dC, dI) classes [(bk, .inr (0, [.int 0, .ref bk_tail, .ref bk_head, .ref bk_hinder, .ref bk_size, .ref bk_walk, .ref bk_draught, .ref bk_doorIn, .ref bk_fanIn, .ref bk_faceIn, .int 0, .int (-1), .ref gr])), (x0, .inr (11, [.ref rd, .ref dr, .ref bk, .ref st, .ref nw, .ref tr, .ref pl, .ref fl, .ref rg, .int 1, .int 0, .int 0]))] H := hP
  have hD : va_D A [(bk, .inr (0, [.int 0, .ref bk_tail, .ref bk_head, .ref bk_hinder, .ref bk_size, .ref bk_walk, .ref bk_draught, .ref bk_doorIn, .ref bk_fanIn, .ref bk_faceIn, .int 0, .int (-1), .ref gr])), (x0, .inr (11, [.ref rd, .ref dr, .ref bk, .ref st, .ref nw, .ref tr, .ref pl, .ref fl, .ref rg, .int 1, .int 0, .int 0]))] := hD
  obtain rfl : r_4 = (-1) := hw_5
  exact W.iret (v := (-1)) hx hb hr (fun t ht hW => ⟨⟨(-1), (), rfl, rfl, trivial⟩, hS.F ht⟩) hS.2.2 dX11_thick_13
set_option maxHeartbeats 4000000 in
set_option maxRecDepth 100000 in
theorem p_over (l : Launch) (dC : Nat → ClassId) (dI : Nat → Nat → Nat) (n0 sz : Nat) (x0 : Nat) (rd : Nat) (dr : Nat) (bk : Nat) (st : Nat) (nw : Nat) (tr : Nat) (pl : Nat) (fl : Nat) (rg : Nat) (bk_tail : Nat) (bk_head : Nat) (bk_hinder : Nat) (bk_size : Nat) (bk_walk : Nat) (bk_draught : Nat) (bk_doorIn : Nat) (bk_fanIn : Nat) (bk_faceIn : Nat) (gr : Nat) : Met l yX11_over (wM yX11_over cX11_over 1 (some .int)) ({ frames := 1, cells := 0, slots := 0, locals := 21 }) (va_Pc [.ref x0] (fun U => U.heap.size = sz ∧ n0 ≤ sz ∧ GW n0 U ∧ va_P (dC, dI) classes [(x0, .inr (11, [.ref rd, .ref dr, .ref bk, .ref st, .ref nw, .ref tr, .ref pl, .ref fl, .ref rg, .int 0, .int 0, .int 0])), (bk, .inr (0, [.int 0, .ref bk_tail, .ref bk_head, .ref bk_hinder, .ref bk_size, .ref bk_walk, .ref bk_draught, .ref bk_doorIn, .ref bk_fanIn, .ref bk_faceIn, .int 0, .int (-1), .ref gr]))] U.heap ∧ va_K (dC, dI) classes [] U ∧ va_D (fun q => n0 ≤ q) [(x0, .inr (11, [.ref rd, .ref dr, .ref bk, .ref st, .ref nw, .ref tr, .ref pl, .ref fl, .ref rg, .int 0, .int 0, .int 0])), (bk, .inr (0, [.int 0, .ref bk_tail, .ref bk_head, .ref bk_hinder, .ref bk_size, .ref bk_walk, .ref bk_draught, .ref bk_doorIn, .ref bk_fanIn, .ref bk_faceIn, .int 0, .int (-1), .ref gr]))])) (va_Qi (fun (r : Int32) (_ : Unit) => r = (-1)) (fun (_ : Unit) (_ : State) => True) (va_A [(x0, .inr (11, [.ref rd, .ref dr, .ref bk, .ref st, .ref nw, .ref tr, .ref pl, .ref fl, .ref rg, .int 0, .int 0, .int 0])), (bk, .inr (0, [.int 0, .ref bk_tail, .ref bk_head, .ref bk_hinder, .ref bk_size, .ref bk_walk, .ref bk_draught, .ref bk_doorIn, .ref bk_fanIn, .ref bk_faceIn, .int 0, .int (-1), .ref gr]))] sz)) 0 0 (va_A [(x0, .inr (11, [.ref rd, .ref dr, .ref bk, .ref st, .ref nw, .ref tr, .ref pl, .ref fl, .ref rg, .int 0, .int 0, .int 0])), (bk, .inr (0, [.int 0, .ref bk_tail, .ref bk_head, .ref bk_hinder, .ref bk_size, .ref bk_walk, .ref bk_draught, .ref bk_doorIn, .ref bk_fanIn, .ref bk_faceIn, .int 0, .int (-1), .ref gr]))] sz) := by
  refine Met.ofW (cc := cX11_over) (maxL := 1) (ret := (some .int)) (by decide) rfl ?_
  intro p e s m args below meth c s₁ B hml hv
  obtain ⟨rfl, hsz, hn0, hG, hP, hK, hD0⟩ := hv
  have hx := B.exec
  have hb := B.bytes
  have hr := B.returns
  have hts := atoms_spec (ws := wM yX11_over cX11_over 1 (some .int)) B.pre
  have hown : s.vm.findClass RX11 = some m.cls := findClass_of_methodNamed B.named
  have hlocks := B.notSynchronized
  subst hsz
  have hD := hD0.self (sz := s.heap.size)
  have hA0 := vA_n0 hD0 hn0
  generalize hAe : va_A [(x0, .inr (11, [.ref rd, .ref dr, .ref bk, .ref st, .ref nw, .ref tr, .ref pl, .ref fl, .ref rg, .int 0, .int 0, .int 0])), (bk, .inr (0, [.int 0, .ref bk_tail, .ref bk_head, .ref bk_hinder, .ref bk_size, .ref bk_walk, .ref bk_draught, .ref bk_doorIn, .ref bk_fanIn, .ref bk_faceIn, .int 0, .int (-1), .ref gr]))] s.heap.size = A at hD hA0 ⊢
  have hA : ∀ q : Nat, s.heap.size ≤ q → A q := fun q h => by rw [← hAe]; exact Or.inr h
  have hS : va_S A s.heap s.heap [] := va_S.rf
  have hl := lv_entry ([.ref x0]) (n := 1) (Nat.le_of_ble_eq_true rfl)
  rw [lg_entry_eq]
  generalize (lg_sl ([.ref x0]) ++ List.replicate (1 - (lg_sl ([.ref x0])).length) Slot.unset).toArray = ls at hl ⊢
  have hl : lv_has ls 1 [(0, .ref x0)] := hl
  refine lv_aload_n hx hb dX11_over_0 rfl (lv_at hl 0 rfl) ?_
  have hPc := hP.sub (ws' := [(x0, .inr (11, [.ref rd, .ref dr, .ref bk, .ref st, .ref nw, .ref tr, .ref pl, .ref fl, .ref rg, .int 0, .int 0, .int 0])), (bk, .inr (0, [.int 0, .ref bk_tail, .ref bk_head, .ref bk_hinder, .ref bk_size, .ref bk_walk, .ref bk_draught, .ref bk_doorIn, .ref bk_fanIn, .ref bk_faceIn, .int 0, .int (-1), .ref gr]))]) [0, 1] rfl
  have hDc := hD.sub (ws' := [(x0, .inr (11, [.ref rd, .ref dr, .ref bk, .ref st, .ref nw, .ref tr, .ref pl, .ref fl, .ref rg, .int 0, .int 0, .int 0])), (bk, .inr (0, [.int 0, .ref bk_tail, .ref bk_head, .ref bk_hinder, .ref bk_size, .ref bk_walk, .ref bk_draught, .ref bk_doorIn, .ref bk_fanIn, .ref bk_faceIn, .int 0, .int (-1), .ref gr]))]) [0, 1] (by decide) rfl
  have hKc := hK.sub (tys' := []) [] rfl
  have hFc := va_free (wc := [(x0, .inr (11, [.ref rd, .ref dr, .ref bk, .ref st, .ref nw, .ref tr, .ref pl, .ref fl, .ref rg, .int 0, .int 0, .int 0])), (bk, .inr (0, [.int 0, .ref bk_tail, .ref bk_head, .ref bk_hinder, .ref bk_size, .ref bk_walk, .ref bk_draught, .ref bk_doorIn, .ref bk_fanIn, .ref bk_faceIn, .int 0, .int (-1), .ref gr]))]) hD hS hA [0, 1] rfl
  refine va_calli (va_runV (As := []) (rest := []) ⟨hx, hb, hml, hown, hts⟩ (c_isBooked l dC dI n0 s.heap.size x0 rd dr bk st nw tr pl fl rg 0 0 0 bk_tail bk_head bk_hinder bk_size bk_walk bk_draught bk_doorIn bk_fanIn bk_faceIn gr ) (cwV 0 hts (gV (fun w h => wM_c h) wd_1068 wd_1065 wd_1067 wd_39 wd_114) rfl rfl rfl (by decide +kernel) ⟨Nat.le_of_ble_eq_true rfl, Nat.le_of_ble_eq_true rfl⟩) ⟨fun a U g mk q => by obtain ⟨q0, q1, q2, qG, qP, qK, qD⟩ := q; exact ⟨q0, q1, q2, GW.blind qG, qP, va_K.moved (u := U) (U := U.calling g mk a) (Vm.Alike.refl U.vm) qK, qD⟩, va_recv hKc hPc (ci := 11) (q0 := 0) rfl rfl, fun U hU hW => ⟨rfl, by rw [hU], Nat.le_trans hn0 hS.1, GW.go hW hU hG (fun q hq hA9 => hS.2.1 q hq (fun h => hA9 (hA0 q h))), by rw [hU]; exact hPc, va_K.moved hW.alike hKc, hDc.weaken (fun _ _ _ h => hA0 _ h)⟩⟩ rfl rfl hl.1 rfl (lv_room (Nat.le_of_ble_eq_true rfl)) dX11_over_1 ⟨Nat.le_of_ble_eq_true rfl, Nat.le_of_ble_eq_true rfl⟩) hS (fun q _ h => hFc q h) hFc (fun r_1 u t H1 locs ht hvm hw_2 hB hz1 hk1 hS => ?_)
  obtain ⟨hP1, hK1, hD1⟩ := hB
  rw [ht] at hP1
  obtain ⟨hP, hD⟩ := va_join (wr := []) (w1 := [(x0, .inr (11, [.ref rd, .ref dr, .ref bk, .ref st, .ref nw, .ref tr, .ref pl, .ref fl, .ref rg, .int 0, .int 0, .int 0])), (bk, .inr (0, [.int 0, .ref bk_tail, .ref bk_head, .ref bk_hinder, .ref bk_size, .ref bk_walk, .ref bk_draught, .ref bk_doorIn, .ref bk_fanIn, .ref bk_faceIn, .int 0, .int (-1), .ref gr]))]) hP hD [0, 1] [] rfl rfl (by decide) (by decide) hk1 hFc hP1 hD1
  generalize H1 = H at hP hS ⊢
  have hP : va_P (dC, dI) classes [(x0, .inr (11, [.ref rd, .ref dr, .ref bk, .ref st, .ref nw, .ref tr, .ref pl, .ref fl, .ref rg, .int 0, .int 0, .int 0])), (bk, .inr (0, [.int 0, .ref bk_tail, .ref bk_head, .ref bk_hinder, .ref bk_size, .ref bk_walk, .ref bk_draught, .ref bk_doorIn, .ref bk_fanIn, .ref bk_faceIn, .int 0, .int (-1), .ref gr]))] H := hP
  have hD : va_D A [(x0, .inr (11, [.ref rd, .ref dr, .ref bk, .ref st, .ref nw, .ref tr, .ref pl, .ref fl, .ref rg, .int 0, .int 0, .int 0])), (bk, .inr (0, [.int 0, .ref bk_tail, .ref bk_head, .ref bk_hinder, .ref bk_size, .ref bk_walk, .ref bk_draught, .ref bk_doorIn, .ref bk_fanIn, .ref bk_faceIn, .int 0, .int (-1), .ref gr]))] := hD
  obtain rfl : r_1 = 0 := hw_2
  refine lv_if_ne (tgt := 13) hx hb dX11_over_4 (by decide) (fun c_3 => ?_) (fun c_3 => ?_)
  · exact absurd c_3 (by decide)
  refine lv_aload_n hx hb dX11_over_7 rfl (lv_at hl 0 rfl) ?_
  refine lv_iconst (v := 1) hx hb dX11_over_8 (by decide) ?_
  have hPc := hP.sub (ws' := [(x0, .inr (11, [.ref rd, .ref dr, .ref bk, .ref st, .ref nw, .ref tr, .ref pl, .ref fl, .ref rg, .int 0, .int 0, .int 0]))]) [0] rfl
  have hDc := hD.sub (ws' := [(x0, .inr (11, [.ref rd, .ref dr, .ref bk, .ref st, .ref nw, .ref tr, .ref pl, .ref fl, .ref rg, .int 0, .int 0, .int 0]))]) [0] (by decide) rfl
  have hKc := hK.sub (tys' := []) [] rfl
  have hFc := va_free (wc := [(x0, .inr (11, [.ref rd, .ref dr, .ref bk, .ref st, .ref nw, .ref tr, .ref pl, .ref fl, .ref rg, .int 0, .int 0, .int 0]))]) hD hS hA [0] rfl
  refine va_calli (va_runV (As := [.int 1]) (rest := []) ⟨hx, hb, hml, hown, hts⟩ (c_refuse l dC dI n0 H.size x0 rd dr bk st nw tr pl fl rg 0 0 0 1 ) (cwV 1 hts (gV (fun w h => wM_c h) wd_722 wd_719 wd_721 wd_0 wd_114) rfl rfl rfl (by decide +kernel) ⟨Nat.le_of_ble_eq_true rfl, Nat.le_of_ble_eq_true rfl⟩) ⟨fun a U g mk q => by obtain ⟨q0, q1, q2, qG, qP, qK, qD⟩ := q; exact ⟨q0, q1, q2, GW.blind qG, qP, va_K.moved (u := U) (U := U.calling g mk a) (Vm.Alike.refl U.vm) qK, qD⟩, va_recv hKc hPc (ci := 11) (q0 := 0) rfl rfl, fun U hU hW => ⟨rfl, by rw [hU], Nat.le_trans hn0 hS.1, GW.go hW hU hG (fun q hq hA9 => hS.2.1 q hq (fun h => hA9 (hA0 q h))), by rw [hU]; exact hPc, va_K.moved hW.alike hKc, hDc.weaken (fun _ _ _ h => hA0 _ h)⟩⟩ rfl rfl hl.1 rfl (lv_room (Nat.le_of_ble_eq_true rfl)) dX11_over_9 ⟨Nat.le_of_ble_eq_true rfl, Nat.le_of_ble_eq_true rfl⟩) hS (fun q _ h => hFc q h) hFc (fun r_4 u t H1 locs ht hvm hw_5 hB hz1 hk1 hS => ?_)
  obtain ⟨hP1, hK1, hD1⟩ := hB
  rw [ht] at hP1
  obtain ⟨hP, hD⟩ := va_join (wr := [(bk, .inr (0, [.int 0, .ref bk_tail, .ref bk_head, .ref bk_hinder, .ref bk_size, .ref bk_walk, .ref bk_draught, .ref bk_doorIn, .ref bk_fanIn, .ref bk_faceIn, .int 0, .int (-1), .ref gr]))]) (w1 := [(x0, .inr (11, [.ref rd, .ref dr, .ref bk, .ref st, .ref nw, .ref tr, .ref pl, .ref fl, .ref rg, .int 1, .int 0, .int 0]))]) hP hD [0] [1] rfl rfl (by decide) (by decide) hk1 hFc hP1 hD1
  generalize H1 = H at hP hS ⊢
  have hP : va_P (dC, dI) classes [(bk, .inr (0, [.int 0, .ref bk_tail, .ref bk_head, .ref bk_hinder, .ref bk_size, .ref bk_walk, .ref bk_draught, .ref bk_doorIn, .ref bk_fanIn, .ref bk_faceIn, .int 0, .int (-1), .ref gr])), (x0, .inr (11, [.ref rd, .ref dr, .ref bk, .ref st, .ref nw, .ref tr, .ref pl, .ref fl, .ref rg, .int 1, .int 0, .int 0]))] H := hP
  have hD : va_D A [(bk, .inr (0, [.int 0, .ref bk_tail, .ref bk_head, .ref bk_hinder, .ref bk_size, .ref bk_walk, .ref bk_draught, .ref bk_doorIn, .ref bk_fanIn, .ref bk_faceIn, .int 0, .int (-1), .ref gr])), (x0, .inr (11, [.ref rd, .ref dr, .ref bk, .ref st, .ref nw, .ref tr, .ref pl, .ref fl, .ref rg, .int 1, .int 0, .int 0]))] := hD
  obtain rfl : r_4 = (-1) := hw_5
  exact W.iret (v := (-1)) hx hb hr (fun t ht hW => ⟨⟨(-1), (), rfl, rfl, trivial⟩, hS.F ht⟩) hS.2.2 dX11_over_12
set_option maxHeartbeats 4000000 in
set_option maxRecDepth 100000 in
theorem p_sound (l : Launch) (dC : Nat → ClassId) (dI : Nat → Nat → Nat) (n0 sz : Nat) (x0 : Nat) (rd : Nat) (dr : Nat) (bk : Nat) (st : Nat) (nw : Nat) (tr : Nat) (pl : Nat) (fl : Nat) (rg : Nat) (bk_tail : Nat) (bk_head : Nat) (bk_hinder : Nat) (bk_size : Nat) (bk_walk : Nat) (bk_draught : Nat) (bk_doorIn : Nat) (bk_fanIn : Nat) (bk_faceIn : Nat) (gr : Nat) : Met l yX11_sound (wM yX11_sound cX11_sound 1 (some .int)) ({ frames := 1, cells := 0, slots := 0, locals := 21 }) (va_Pc [.ref x0] (fun U => U.heap.size = sz ∧ n0 ≤ sz ∧ GW n0 U ∧ va_P (dC, dI) classes [(x0, .inr (11, [.ref rd, .ref dr, .ref bk, .ref st, .ref nw, .ref tr, .ref pl, .ref fl, .ref rg, .int 0, .int 0, .int 0])), (bk, .inr (0, [.int 0, .ref bk_tail, .ref bk_head, .ref bk_hinder, .ref bk_size, .ref bk_walk, .ref bk_draught, .ref bk_doorIn, .ref bk_fanIn, .ref bk_faceIn, .int 0, .int (-1), .ref gr]))] U.heap ∧ va_K (dC, dI) classes [] U ∧ va_D (fun q => n0 ≤ q) [(x0, .inr (11, [.ref rd, .ref dr, .ref bk, .ref st, .ref nw, .ref tr, .ref pl, .ref fl, .ref rg, .int 0, .int 0, .int 0])), (bk, .inr (0, [.int 0, .ref bk_tail, .ref bk_head, .ref bk_hinder, .ref bk_size, .ref bk_walk, .ref bk_draught, .ref bk_doorIn, .ref bk_fanIn, .ref bk_faceIn, .int 0, .int (-1), .ref gr]))])) (va_Qi (fun (r : Int32) (_ : Unit) => r = (-1)) (fun (_ : Unit) (_ : State) => True) (va_A [(x0, .inr (11, [.ref rd, .ref dr, .ref bk, .ref st, .ref nw, .ref tr, .ref pl, .ref fl, .ref rg, .int 0, .int 0, .int 0])), (bk, .inr (0, [.int 0, .ref bk_tail, .ref bk_head, .ref bk_hinder, .ref bk_size, .ref bk_walk, .ref bk_draught, .ref bk_doorIn, .ref bk_fanIn, .ref bk_faceIn, .int 0, .int (-1), .ref gr]))] sz)) 0 0 (va_A [(x0, .inr (11, [.ref rd, .ref dr, .ref bk, .ref st, .ref nw, .ref tr, .ref pl, .ref fl, .ref rg, .int 0, .int 0, .int 0])), (bk, .inr (0, [.int 0, .ref bk_tail, .ref bk_head, .ref bk_hinder, .ref bk_size, .ref bk_walk, .ref bk_draught, .ref bk_doorIn, .ref bk_fanIn, .ref bk_faceIn, .int 0, .int (-1), .ref gr]))] sz) := by
  refine Met.ofW (cc := cX11_sound) (maxL := 1) (ret := (some .int)) (by decide) rfl ?_
  intro p e s m args below meth c s₁ B hml hv
  obtain ⟨rfl, hsz, hn0, hG, hP, hK, hD0⟩ := hv
  have hx := B.exec
  have hb := B.bytes
  have hr := B.returns
  have hts := atoms_spec (ws := wM yX11_sound cX11_sound 1 (some .int)) B.pre
  have hown : s.vm.findClass RX11 = some m.cls := findClass_of_methodNamed B.named
  have hlocks := B.notSynchronized
  subst hsz
  have hD := hD0.self (sz := s.heap.size)
  have hA0 := vA_n0 hD0 hn0
  generalize hAe : va_A [(x0, .inr (11, [.ref rd, .ref dr, .ref bk, .ref st, .ref nw, .ref tr, .ref pl, .ref fl, .ref rg, .int 0, .int 0, .int 0])), (bk, .inr (0, [.int 0, .ref bk_tail, .ref bk_head, .ref bk_hinder, .ref bk_size, .ref bk_walk, .ref bk_draught, .ref bk_doorIn, .ref bk_fanIn, .ref bk_faceIn, .int 0, .int (-1), .ref gr]))] s.heap.size = A at hD hA0 ⊢
  have hA : ∀ q : Nat, s.heap.size ≤ q → A q := fun q h => by rw [← hAe]; exact Or.inr h
  have hS : va_S A s.heap s.heap [] := va_S.rf
  have hl := lv_entry ([.ref x0]) (n := 1) (Nat.le_of_ble_eq_true rfl)
  rw [lg_entry_eq]
  generalize (lg_sl ([.ref x0]) ++ List.replicate (1 - (lg_sl ([.ref x0])).length) Slot.unset).toArray = ls at hl ⊢
  have hl : lv_has ls 1 [(0, .ref x0)] := hl
  refine lv_aload_n hx hb dX11_sound_0 rfl (lv_at hl 0 rfl) ?_
  have hPc := hP.sub (ws' := [(x0, .inr (11, [.ref rd, .ref dr, .ref bk, .ref st, .ref nw, .ref tr, .ref pl, .ref fl, .ref rg, .int 0, .int 0, .int 0])), (bk, .inr (0, [.int 0, .ref bk_tail, .ref bk_head, .ref bk_hinder, .ref bk_size, .ref bk_walk, .ref bk_draught, .ref bk_doorIn, .ref bk_fanIn, .ref bk_faceIn, .int 0, .int (-1), .ref gr]))]) [0, 1] rfl
  have hDc := hD.sub (ws' := [(x0, .inr (11, [.ref rd, .ref dr, .ref bk, .ref st, .ref nw, .ref tr, .ref pl, .ref fl, .ref rg, .int 0, .int 0, .int 0])), (bk, .inr (0, [.int 0, .ref bk_tail, .ref bk_head, .ref bk_hinder, .ref bk_size, .ref bk_walk, .ref bk_draught, .ref bk_doorIn, .ref bk_fanIn, .ref bk_faceIn, .int 0, .int (-1), .ref gr]))]) [0, 1] (by decide) rfl
  have hKc := hK.sub (tys' := []) [] rfl
  have hFc := va_free (wc := [(x0, .inr (11, [.ref rd, .ref dr, .ref bk, .ref st, .ref nw, .ref tr, .ref pl, .ref fl, .ref rg, .int 0, .int 0, .int 0])), (bk, .inr (0, [.int 0, .ref bk_tail, .ref bk_head, .ref bk_hinder, .ref bk_size, .ref bk_walk, .ref bk_draught, .ref bk_doorIn, .ref bk_fanIn, .ref bk_faceIn, .int 0, .int (-1), .ref gr]))]) hD hS hA [0, 1] rfl
  refine va_calli (va_runV (As := []) (rest := []) ⟨hx, hb, hml, hown, hts⟩ (c_isBooked l dC dI n0 s.heap.size x0 rd dr bk st nw tr pl fl rg 0 0 0 bk_tail bk_head bk_hinder bk_size bk_walk bk_draught bk_doorIn bk_fanIn bk_faceIn gr ) (cwV 0 hts (gV (fun w h => wM_c h) wd_1068 wd_1065 wd_1067 wd_39 wd_114) rfl rfl rfl (by decide +kernel) ⟨Nat.le_of_ble_eq_true rfl, Nat.le_of_ble_eq_true rfl⟩) ⟨fun a U g mk q => by obtain ⟨q0, q1, q2, qG, qP, qK, qD⟩ := q; exact ⟨q0, q1, q2, GW.blind qG, qP, va_K.moved (u := U) (U := U.calling g mk a) (Vm.Alike.refl U.vm) qK, qD⟩, va_recv hKc hPc (ci := 11) (q0 := 0) rfl rfl, fun U hU hW => ⟨rfl, by rw [hU], Nat.le_trans hn0 hS.1, GW.go hW hU hG (fun q hq hA9 => hS.2.1 q hq (fun h => hA9 (hA0 q h))), by rw [hU]; exact hPc, va_K.moved hW.alike hKc, hDc.weaken (fun _ _ _ h => hA0 _ h)⟩⟩ rfl rfl hl.1 rfl (lv_room (Nat.le_of_ble_eq_true rfl)) dX11_sound_1 ⟨Nat.le_of_ble_eq_true rfl, Nat.le_of_ble_eq_true rfl⟩) hS (fun q _ h => hFc q h) hFc (fun r_1 u t H1 locs ht hvm hw_2 hB hz1 hk1 hS => ?_)
  obtain ⟨hP1, hK1, hD1⟩ := hB
  rw [ht] at hP1
  obtain ⟨hP, hD⟩ := va_join (wr := []) (w1 := [(x0, .inr (11, [.ref rd, .ref dr, .ref bk, .ref st, .ref nw, .ref tr, .ref pl, .ref fl, .ref rg, .int 0, .int 0, .int 0])), (bk, .inr (0, [.int 0, .ref bk_tail, .ref bk_head, .ref bk_hinder, .ref bk_size, .ref bk_walk, .ref bk_draught, .ref bk_doorIn, .ref bk_fanIn, .ref bk_faceIn, .int 0, .int (-1), .ref gr]))]) hP hD [0, 1] [] rfl rfl (by decide) (by decide) hk1 hFc hP1 hD1
  generalize H1 = H at hP hS ⊢
  have hP : va_P (dC, dI) classes [(x0, .inr (11, [.ref rd, .ref dr, .ref bk, .ref st, .ref nw, .ref tr, .ref pl, .ref fl, .ref rg, .int 0, .int 0, .int 0])), (bk, .inr (0, [.int 0, .ref bk_tail, .ref bk_head, .ref bk_hinder, .ref bk_size, .ref bk_walk, .ref bk_draught, .ref bk_doorIn, .ref bk_fanIn, .ref bk_faceIn, .int 0, .int (-1), .ref gr]))] H := hP
  have hD : va_D A [(x0, .inr (11, [.ref rd, .ref dr, .ref bk, .ref st, .ref nw, .ref tr, .ref pl, .ref fl, .ref rg, .int 0, .int 0, .int 0])), (bk, .inr (0, [.int 0, .ref bk_tail, .ref bk_head, .ref bk_hinder, .ref bk_size, .ref bk_walk, .ref bk_draught, .ref bk_doorIn, .ref bk_fanIn, .ref bk_faceIn, .int 0, .int (-1), .ref gr]))] := hD
  obtain rfl : r_1 = 0 := hw_2
  refine lv_if_ne (tgt := 13) hx hb dX11_sound_4 (by decide) (fun c_3 => ?_) (fun c_3 => ?_)
  · exact absurd c_3 (by decide)
  refine lv_aload_n hx hb dX11_sound_7 rfl (lv_at hl 0 rfl) ?_
  refine lv_iconst (v := 1) hx hb dX11_sound_8 (by decide) ?_
  have hPc := hP.sub (ws' := [(x0, .inr (11, [.ref rd, .ref dr, .ref bk, .ref st, .ref nw, .ref tr, .ref pl, .ref fl, .ref rg, .int 0, .int 0, .int 0]))]) [0] rfl
  have hDc := hD.sub (ws' := [(x0, .inr (11, [.ref rd, .ref dr, .ref bk, .ref st, .ref nw, .ref tr, .ref pl, .ref fl, .ref rg, .int 0, .int 0, .int 0]))]) [0] (by decide) rfl
  have hKc := hK.sub (tys' := []) [] rfl
  have hFc := va_free (wc := [(x0, .inr (11, [.ref rd, .ref dr, .ref bk, .ref st, .ref nw, .ref tr, .ref pl, .ref fl, .ref rg, .int 0, .int 0, .int 0]))]) hD hS hA [0] rfl
  refine va_calli (va_runV (As := [.int 1]) (rest := []) ⟨hx, hb, hml, hown, hts⟩ (c_refuse l dC dI n0 H.size x0 rd dr bk st nw tr pl fl rg 0 0 0 1 ) (cwV 1 hts (gV (fun w h => wM_c h) wd_722 wd_719 wd_721 wd_0 wd_114) rfl rfl rfl (by decide +kernel) ⟨Nat.le_of_ble_eq_true rfl, Nat.le_of_ble_eq_true rfl⟩) ⟨fun a U g mk q => by obtain ⟨q0, q1, q2, qG, qP, qK, qD⟩ := q; exact ⟨q0, q1, q2, GW.blind qG, qP, va_K.moved (u := U) (U := U.calling g mk a) (Vm.Alike.refl U.vm) qK, qD⟩, va_recv hKc hPc (ci := 11) (q0 := 0) rfl rfl, fun U hU hW => ⟨rfl, by rw [hU], Nat.le_trans hn0 hS.1, GW.go hW hU hG (fun q hq hA9 => hS.2.1 q hq (fun h => hA9 (hA0 q h))), by rw [hU]; exact hPc, va_K.moved hW.alike hKc, hDc.weaken (fun _ _ _ h => hA0 _ h)⟩⟩ rfl rfl hl.1 rfl (lv_room (Nat.le_of_ble_eq_true rfl)) dX11_sound_9 ⟨Nat.le_of_ble_eq_true rfl, Nat.le_of_ble_eq_true rfl⟩) hS (fun q _ h => hFc q h) hFc (fun r_4 u t H1 locs ht hvm hw_5 hB hz1 hk1 hS => ?_)
  obtain ⟨hP1, hK1, hD1⟩ := hB
  rw [ht] at hP1
  obtain ⟨hP, hD⟩ := va_join (wr := [(bk, .inr (0, [.int 0, .ref bk_tail, .ref bk_head, .ref bk_hinder, .ref bk_size, .ref bk_walk, .ref bk_draught, .ref bk_doorIn, .ref bk_fanIn, .ref bk_faceIn, .int 0, .int (-1), .ref gr]))]) (w1 := [(x0, .inr (11, [.ref rd, .ref dr, .ref bk, .ref st, .ref nw, .ref tr, .ref pl, .ref fl, .ref rg, .int 1, .int 0, .int 0]))]) hP hD [0] [1] rfl rfl (by decide) (by decide) hk1 hFc hP1 hD1
  generalize H1 = H at hP hS ⊢
  have hP : va_P (dC, dI) classes [(bk, .inr (0, [.int 0, .ref bk_tail, .ref bk_head, .ref bk_hinder, .ref bk_size, .ref bk_walk, .ref bk_draught, .ref bk_doorIn, .ref bk_fanIn, .ref bk_faceIn, .int 0, .int (-1), .ref gr])), (x0, .inr (11, [.ref rd, .ref dr, .ref bk, .ref st, .ref nw, .ref tr, .ref pl, .ref fl, .ref rg, .int 1, .int 0, .int 0]))] H := hP
  have hD : va_D A [(bk, .inr (0, [.int 0, .ref bk_tail, .ref bk_head, .ref bk_hinder, .ref bk_size, .ref bk_walk, .ref bk_draught, .ref bk_doorIn, .ref bk_fanIn, .ref bk_faceIn, .int 0, .int (-1), .ref gr])), (x0, .inr (11, [.ref rd, .ref dr, .ref bk, .ref st, .ref nw, .ref tr, .ref pl, .ref fl, .ref rg, .int 1, .int 0, .int 0]))] := hD
  obtain rfl : r_4 = (-1) := hw_5
  exact W.iret (v := (-1)) hx hb hr (fun t ht hW => ⟨⟨(-1), (), rfl, rfl, trivial⟩, hS.F ht⟩) hS.2.2 dX11_sound_12
set_option maxHeartbeats 4000000 in
set_option maxRecDepth 100000 in
theorem p_failing (l : Launch) (dC : Nat → ClassId) (dI : Nat → Nat → Nat) (n0 sz : Nat) (x0 : Nat) (rd : Nat) (dr : Nat) (bk : Nat) (st : Nat) (nw : Nat) (tr : Nat) (pl : Nat) (fl : Nat) (rg : Nat) (bk_tail : Nat) (bk_head : Nat) (bk_hinder : Nat) (bk_size : Nat) (bk_walk : Nat) (bk_draught : Nat) (bk_doorIn : Nat) (bk_fanIn : Nat) (bk_faceIn : Nat) (gr : Nat) (w : Int32) : Met l yX11_failing (wM yX11_failing cX11_failing 2 (some .int)) ({ frames := 1, cells := 0, slots := 0, locals := 21 }) (va_Pc [.ref x0, .int w] (fun U => U.heap.size = sz ∧ n0 ≤ sz ∧ GW n0 U ∧ va_P (dC, dI) classes [(x0, .inr (11, [.ref rd, .ref dr, .ref bk, .ref st, .ref nw, .ref tr, .ref pl, .ref fl, .ref rg, .int 0, .int 0, .int 0])), (bk, .inr (0, [.int 0, .ref bk_tail, .ref bk_head, .ref bk_hinder, .ref bk_size, .ref bk_walk, .ref bk_draught, .ref bk_doorIn, .ref bk_fanIn, .ref bk_faceIn, .int 0, .int (-1), .ref gr]))] U.heap ∧ va_K (dC, dI) classes [] U ∧ va_D (fun q => n0 ≤ q) [(x0, .inr (11, [.ref rd, .ref dr, .ref bk, .ref st, .ref nw, .ref tr, .ref pl, .ref fl, .ref rg, .int 0, .int 0, .int 0])), (bk, .inr (0, [.int 0, .ref bk_tail, .ref bk_head, .ref bk_hinder, .ref bk_size, .ref bk_walk, .ref bk_draught, .ref bk_doorIn, .ref bk_fanIn, .ref bk_faceIn, .int 0, .int (-1), .ref gr]))])) (va_Qi (fun (r : Int32) (_ : Unit) => r = (-1)) (fun (_ : Unit) (_ : State) => True) (va_A [(x0, .inr (11, [.ref rd, .ref dr, .ref bk, .ref st, .ref nw, .ref tr, .ref pl, .ref fl, .ref rg, .int 0, .int 0, .int 0])), (bk, .inr (0, [.int 0, .ref bk_tail, .ref bk_head, .ref bk_hinder, .ref bk_size, .ref bk_walk, .ref bk_draught, .ref bk_doorIn, .ref bk_fanIn, .ref bk_faceIn, .int 0, .int (-1), .ref gr]))] sz)) 0 0 (va_A [(x0, .inr (11, [.ref rd, .ref dr, .ref bk, .ref st, .ref nw, .ref tr, .ref pl, .ref fl, .ref rg, .int 0, .int 0, .int 0])), (bk, .inr (0, [.int 0, .ref bk_tail, .ref bk_head, .ref bk_hinder, .ref bk_size, .ref bk_walk, .ref bk_draught, .ref bk_doorIn, .ref bk_fanIn, .ref bk_faceIn, .int 0, .int (-1), .ref gr]))] sz) := by
  refine Met.ofW (cc := cX11_failing) (maxL := 2) (ret := (some .int)) (by decide) rfl ?_
  intro p e s m args below meth c s₁ B hml hv
  obtain ⟨rfl, hsz, hn0, hG, hP, hK, hD0⟩ := hv
  have hx := B.exec
  have hb := B.bytes
  have hr := B.returns
  have hts := atoms_spec (ws := wM yX11_failing cX11_failing 2 (some .int)) B.pre
  have hown : s.vm.findClass RX11 = some m.cls := findClass_of_methodNamed B.named
  have hlocks := B.notSynchronized
  subst hsz
  have hD := hD0.self (sz := s.heap.size)
  have hA0 := vA_n0 hD0 hn0
  generalize hAe : va_A [(x0, .inr (11, [.ref rd, .ref dr, .ref bk, .ref st, .ref nw, .ref tr, .ref pl, .ref fl, .ref rg, .int 0, .int 0, .int 0])), (bk, .inr (0, [.int 0, .ref bk_tail, .ref bk_head, .ref bk_hinder, .ref bk_size, .ref bk_walk, .ref bk_draught, .ref bk_doorIn, .ref bk_fanIn, .ref bk_faceIn, .int 0, .int (-1), .ref gr]))] s.heap.size = A at hD hA0 ⊢
  have hA : ∀ q : Nat, s.heap.size ≤ q → A q := fun q h => by rw [← hAe]; exact Or.inr h
  have hS : va_S A s.heap s.heap [] := va_S.rf
  have hl := lv_entry ([.ref x0, .int w]) (n := 2) (Nat.le_of_ble_eq_true rfl)
  rw [lg_entry_eq]
  generalize (lg_sl ([.ref x0, .int w]) ++ List.replicate (2 - (lg_sl ([.ref x0, .int w])).length) Slot.unset).toArray = ls at hl ⊢
  have hl : lv_has ls 2 [(0, .ref x0), (1, .int w)] := hl
  refine lv_aload_n hx hb dX11_failing_0 rfl (lv_at hl 0 rfl) ?_
  have hPc := hP.sub (ws' := [(x0, .inr (11, [.ref rd, .ref dr, .ref bk, .ref st, .ref nw, .ref tr, .ref pl, .ref fl, .ref rg, .int 0, .int 0, .int 0])), (bk, .inr (0, [.int 0, .ref bk_tail, .ref bk_head, .ref bk_hinder, .ref bk_size, .ref bk_walk, .ref bk_draught, .ref bk_doorIn, .ref bk_fanIn, .ref bk_faceIn, .int 0, .int (-1), .ref gr]))]) [0, 1] rfl
  have hDc := hD.sub (ws' := [(x0, .inr (11, [.ref rd, .ref dr, .ref bk, .ref st, .ref nw, .ref tr, .ref pl, .ref fl, .ref rg, .int 0, .int 0, .int 0])), (bk, .inr (0, [.int 0, .ref bk_tail, .ref bk_head, .ref bk_hinder, .ref bk_size, .ref bk_walk, .ref bk_draught, .ref bk_doorIn, .ref bk_fanIn, .ref bk_faceIn, .int 0, .int (-1), .ref gr]))]) [0, 1] (by decide) rfl
  have hKc := hK.sub (tys' := []) [] rfl
  have hFc := va_free (wc := [(x0, .inr (11, [.ref rd, .ref dr, .ref bk, .ref st, .ref nw, .ref tr, .ref pl, .ref fl, .ref rg, .int 0, .int 0, .int 0])), (bk, .inr (0, [.int 0, .ref bk_tail, .ref bk_head, .ref bk_hinder, .ref bk_size, .ref bk_walk, .ref bk_draught, .ref bk_doorIn, .ref bk_fanIn, .ref bk_faceIn, .int 0, .int (-1), .ref gr]))]) hD hS hA [0, 1] rfl
  refine va_calli (va_runV (As := []) (rest := []) ⟨hx, hb, hml, hown, hts⟩ (c_isBooked l dC dI n0 s.heap.size x0 rd dr bk st nw tr pl fl rg 0 0 0 bk_tail bk_head bk_hinder bk_size bk_walk bk_draught bk_doorIn bk_fanIn bk_faceIn gr ) (cwV 0 hts (gV (fun w h => wM_c h) wd_1068 wd_1065 wd_1067 wd_39 wd_114) rfl rfl rfl (by decide +kernel) ⟨Nat.le_of_ble_eq_true rfl, Nat.le_of_ble_eq_true rfl⟩) ⟨fun a U g mk q => by obtain ⟨q0, q1, q2, qG, qP, qK, qD⟩ := q; exact ⟨q0, q1, q2, GW.blind qG, qP, va_K.moved (u := U) (U := U.calling g mk a) (Vm.Alike.refl U.vm) qK, qD⟩, va_recv hKc hPc (ci := 11) (q0 := 0) rfl rfl, fun U hU hW => ⟨rfl, by rw [hU], Nat.le_trans hn0 hS.1, GW.go hW hU hG (fun q hq hA9 => hS.2.1 q hq (fun h => hA9 (hA0 q h))), by rw [hU]; exact hPc, va_K.moved hW.alike hKc, hDc.weaken (fun _ _ _ h => hA0 _ h)⟩⟩ rfl rfl hl.1 rfl (lv_room (Nat.le_of_ble_eq_true rfl)) dX11_failing_1 ⟨Nat.le_of_ble_eq_true rfl, Nat.le_of_ble_eq_true rfl⟩) hS (fun q _ h => hFc q h) hFc (fun r_1 u t H1 locs ht hvm hw_2 hB hz1 hk1 hS => ?_)
  obtain ⟨hP1, hK1, hD1⟩ := hB
  rw [ht] at hP1
  obtain ⟨hP, hD⟩ := va_join (wr := []) (w1 := [(x0, .inr (11, [.ref rd, .ref dr, .ref bk, .ref st, .ref nw, .ref tr, .ref pl, .ref fl, .ref rg, .int 0, .int 0, .int 0])), (bk, .inr (0, [.int 0, .ref bk_tail, .ref bk_head, .ref bk_hinder, .ref bk_size, .ref bk_walk, .ref bk_draught, .ref bk_doorIn, .ref bk_fanIn, .ref bk_faceIn, .int 0, .int (-1), .ref gr]))]) hP hD [0, 1] [] rfl rfl (by decide) (by decide) hk1 hFc hP1 hD1
  generalize H1 = H at hP hS ⊢
  have hP : va_P (dC, dI) classes [(x0, .inr (11, [.ref rd, .ref dr, .ref bk, .ref st, .ref nw, .ref tr, .ref pl, .ref fl, .ref rg, .int 0, .int 0, .int 0])), (bk, .inr (0, [.int 0, .ref bk_tail, .ref bk_head, .ref bk_hinder, .ref bk_size, .ref bk_walk, .ref bk_draught, .ref bk_doorIn, .ref bk_fanIn, .ref bk_faceIn, .int 0, .int (-1), .ref gr]))] H := hP
  have hD : va_D A [(x0, .inr (11, [.ref rd, .ref dr, .ref bk, .ref st, .ref nw, .ref tr, .ref pl, .ref fl, .ref rg, .int 0, .int 0, .int 0])), (bk, .inr (0, [.int 0, .ref bk_tail, .ref bk_head, .ref bk_hinder, .ref bk_size, .ref bk_walk, .ref bk_draught, .ref bk_doorIn, .ref bk_fanIn, .ref bk_faceIn, .int 0, .int (-1), .ref gr]))] := hD
  obtain rfl : r_1 = 0 := hw_2
  refine lv_if_ne (tgt := 13) hx hb dX11_failing_4 (by decide) (fun c_3 => ?_) (fun c_3 => ?_)
  · exact absurd c_3 (by decide)
  refine lv_aload_n hx hb dX11_failing_7 rfl (lv_at hl 0 rfl) ?_
  refine lv_iconst (v := 1) hx hb dX11_failing_8 (by decide) ?_
  have hPc := hP.sub (ws' := [(x0, .inr (11, [.ref rd, .ref dr, .ref bk, .ref st, .ref nw, .ref tr, .ref pl, .ref fl, .ref rg, .int 0, .int 0, .int 0]))]) [0] rfl
  have hDc := hD.sub (ws' := [(x0, .inr (11, [.ref rd, .ref dr, .ref bk, .ref st, .ref nw, .ref tr, .ref pl, .ref fl, .ref rg, .int 0, .int 0, .int 0]))]) [0] (by decide) rfl
  have hKc := hK.sub (tys' := []) [] rfl
  have hFc := va_free (wc := [(x0, .inr (11, [.ref rd, .ref dr, .ref bk, .ref st, .ref nw, .ref tr, .ref pl, .ref fl, .ref rg, .int 0, .int 0, .int 0]))]) hD hS hA [0] rfl
  refine va_calli (va_runV (As := [.int 1]) (rest := []) ⟨hx, hb, hml, hown, hts⟩ (c_refuse l dC dI n0 H.size x0 rd dr bk st nw tr pl fl rg 0 0 0 1 ) (cwV 1 hts (gV (fun w h => wM_c h) wd_722 wd_719 wd_721 wd_0 wd_114) rfl rfl rfl (by decide +kernel) ⟨Nat.le_of_ble_eq_true rfl, Nat.le_of_ble_eq_true rfl⟩) ⟨fun a U g mk q => by obtain ⟨q0, q1, q2, qG, qP, qK, qD⟩ := q; exact ⟨q0, q1, q2, GW.blind qG, qP, va_K.moved (u := U) (U := U.calling g mk a) (Vm.Alike.refl U.vm) qK, qD⟩, va_recv hKc hPc (ci := 11) (q0 := 0) rfl rfl, fun U hU hW => ⟨rfl, by rw [hU], Nat.le_trans hn0 hS.1, GW.go hW hU hG (fun q hq hA9 => hS.2.1 q hq (fun h => hA9 (hA0 q h))), by rw [hU]; exact hPc, va_K.moved hW.alike hKc, hDc.weaken (fun _ _ _ h => hA0 _ h)⟩⟩ rfl rfl hl.1 rfl (lv_room (Nat.le_of_ble_eq_true rfl)) dX11_failing_9 ⟨Nat.le_of_ble_eq_true rfl, Nat.le_of_ble_eq_true rfl⟩) hS (fun q _ h => hFc q h) hFc (fun r_4 u t H1 locs ht hvm hw_5 hB hz1 hk1 hS => ?_)
  obtain ⟨hP1, hK1, hD1⟩ := hB
  rw [ht] at hP1
  obtain ⟨hP, hD⟩ := va_join (wr := [(bk, .inr (0, [.int 0, .ref bk_tail, .ref bk_head, .ref bk_hinder, .ref bk_size, .ref bk_walk, .ref bk_draught, .ref bk_doorIn, .ref bk_fanIn, .ref bk_faceIn, .int 0, .int (-1), .ref gr]))]) (w1 := [(x0, .inr (11, [.ref rd, .ref dr, .ref bk, .ref st, .ref nw, .ref tr, .ref pl, .ref fl, .ref rg, .int 1, .int 0, .int 0]))]) hP hD [0] [1] rfl rfl (by decide) (by decide) hk1 hFc hP1 hD1
  generalize H1 = H at hP hS ⊢
  have hP : va_P (dC, dI) classes [(bk, .inr (0, [.int 0, .ref bk_tail, .ref bk_head, .ref bk_hinder, .ref bk_size, .ref bk_walk, .ref bk_draught, .ref bk_doorIn, .ref bk_fanIn, .ref bk_faceIn, .int 0, .int (-1), .ref gr])), (x0, .inr (11, [.ref rd, .ref dr, .ref bk, .ref st, .ref nw, .ref tr, .ref pl, .ref fl, .ref rg, .int 1, .int 0, .int 0]))] H := hP
  have hD : va_D A [(bk, .inr (0, [.int 0, .ref bk_tail, .ref bk_head, .ref bk_hinder, .ref bk_size, .ref bk_walk, .ref bk_draught, .ref bk_doorIn, .ref bk_fanIn, .ref bk_faceIn, .int 0, .int (-1), .ref gr])), (x0, .inr (11, [.ref rd, .ref dr, .ref bk, .ref st, .ref nw, .ref tr, .ref pl, .ref fl, .ref rg, .int 1, .int 0, .int 0]))] := hD
  obtain rfl : r_4 = (-1) := hw_5
  exact W.iret (v := (-1)) hx hb hr (fun t ht hW => ⟨⟨(-1), (), rfl, rfl, trivial⟩, hS.F ht⟩) hS.2.2 dX11_failing_12
set_option maxHeartbeats 4000000 in
set_option maxRecDepth 100000 in
theorem p_setting (l : Launch) (dC : Nat → ClassId) (dI : Nat → Nat → Nat) (n0 sz : Nat) (x0 : Nat) (rd : Nat) (dr : Nat) (bk : Nat) (st : Nat) (nw : Nat) (tr : Nat) (pl : Nat) (fl : Nat) (rg : Nat) (bk_tail : Nat) (bk_head : Nat) (bk_hinder : Nat) (bk_size : Nat) (bk_walk : Nat) (bk_draught : Nat) (bk_doorIn : Nat) (bk_fanIn : Nat) (bk_faceIn : Nat) (gr : Nat) : Met l yX11_setting (wM yX11_setting cX11_setting 2 (some .int)) ({ frames := 1, cells := 0, slots := 0, locals := 21 }) (va_Pc [.ref x0] (fun U => U.heap.size = sz ∧ n0 ≤ sz ∧ GW n0 U ∧ va_P (dC, dI) classes [(x0, .inr (11, [.ref rd, .ref dr, .ref bk, .ref st, .ref nw, .ref tr, .ref pl, .ref fl, .ref rg, .int 0, .int 0, .int 0])), (bk, .inr (0, [.int 0, .ref bk_tail, .ref bk_head, .ref bk_hinder, .ref bk_size, .ref bk_walk, .ref bk_draught, .ref bk_doorIn, .ref bk_fanIn, .ref bk_faceIn, .int 0, .int (-1), .ref gr]))] U.heap ∧ va_K (dC, dI) classes [] U ∧ va_D (fun q => n0 ≤ q) [(x0, .inr (11, [.ref rd, .ref dr, .ref bk, .ref st, .ref nw, .ref tr, .ref pl, .ref fl, .ref rg, .int 0, .int 0, .int 0])), (bk, .inr (0, [.int 0, .ref bk_tail, .ref bk_head, .ref bk_hinder, .ref bk_size, .ref bk_walk, .ref bk_draught, .ref bk_doorIn, .ref bk_fanIn, .ref bk_faceIn, .int 0, .int (-1), .ref gr]))])) (va_Qi (fun (r : Int32) (_ : Unit) => r = (-1)) (fun (_ : Unit) (_ : State) => True) (va_A [(x0, .inr (11, [.ref rd, .ref dr, .ref bk, .ref st, .ref nw, .ref tr, .ref pl, .ref fl, .ref rg, .int 0, .int 0, .int 0])), (bk, .inr (0, [.int 0, .ref bk_tail, .ref bk_head, .ref bk_hinder, .ref bk_size, .ref bk_walk, .ref bk_draught, .ref bk_doorIn, .ref bk_fanIn, .ref bk_faceIn, .int 0, .int (-1), .ref gr]))] sz)) 0 0 (va_A [(x0, .inr (11, [.ref rd, .ref dr, .ref bk, .ref st, .ref nw, .ref tr, .ref pl, .ref fl, .ref rg, .int 0, .int 0, .int 0])), (bk, .inr (0, [.int 0, .ref bk_tail, .ref bk_head, .ref bk_hinder, .ref bk_size, .ref bk_walk, .ref bk_draught, .ref bk_doorIn, .ref bk_fanIn, .ref bk_faceIn, .int 0, .int (-1), .ref gr]))] sz) := by
  refine Met.ofW (cc := cX11_setting) (maxL := 2) (ret := (some .int)) (by decide) rfl ?_
  intro p e s m args below meth c s₁ B hml hv
  obtain ⟨rfl, hsz, hn0, hG, hP, hK, hD0⟩ := hv
  have hx := B.exec
  have hb := B.bytes
  have hr := B.returns
  have hts := atoms_spec (ws := wM yX11_setting cX11_setting 2 (some .int)) B.pre
  have hown : s.vm.findClass RX11 = some m.cls := findClass_of_methodNamed B.named
  have hlocks := B.notSynchronized
  subst hsz
  have hD := hD0.self (sz := s.heap.size)
  have hA0 := vA_n0 hD0 hn0
  generalize hAe : va_A [(x0, .inr (11, [.ref rd, .ref dr, .ref bk, .ref st, .ref nw, .ref tr, .ref pl, .ref fl, .ref rg, .int 0, .int 0, .int 0])), (bk, .inr (0, [.int 0, .ref bk_tail, .ref bk_head, .ref bk_hinder, .ref bk_size, .ref bk_walk, .ref bk_draught, .ref bk_doorIn, .ref bk_fanIn, .ref bk_faceIn, .int 0, .int (-1), .ref gr]))] s.heap.size = A at hD hA0 ⊢
  have hA : ∀ q : Nat, s.heap.size ≤ q → A q := fun q h => by rw [← hAe]; exact Or.inr h
  have hS : va_S A s.heap s.heap [] := va_S.rf
  have hl := lv_entry ([.ref x0]) (n := 2) (Nat.le_of_ble_eq_true rfl)
  rw [lg_entry_eq]
  generalize (lg_sl ([.ref x0]) ++ List.replicate (2 - (lg_sl ([.ref x0])).length) Slot.unset).toArray = ls at hl ⊢
  have hl : lv_has ls 2 [(0, .ref x0)] := hl
  refine lv_aload_n hx hb dX11_setting_0 rfl (lv_at hl 0 rfl) ?_
  have hPc := hP.sub (ws' := [(x0, .inr (11, [.ref rd, .ref dr, .ref bk, .ref st, .ref nw, .ref tr, .ref pl, .ref fl, .ref rg, .int 0, .int 0, .int 0])), (bk, .inr (0, [.int 0, .ref bk_tail, .ref bk_head, .ref bk_hinder, .ref bk_size, .ref bk_walk, .ref bk_draught, .ref bk_doorIn, .ref bk_fanIn, .ref bk_faceIn, .int 0, .int (-1), .ref gr]))]) [0, 1] rfl
  have hDc := hD.sub (ws' := [(x0, .inr (11, [.ref rd, .ref dr, .ref bk, .ref st, .ref nw, .ref tr, .ref pl, .ref fl, .ref rg, .int 0, .int 0, .int 0])), (bk, .inr (0, [.int 0, .ref bk_tail, .ref bk_head, .ref bk_hinder, .ref bk_size, .ref bk_walk, .ref bk_draught, .ref bk_doorIn, .ref bk_fanIn, .ref bk_faceIn, .int 0, .int (-1), .ref gr]))]) [0, 1] (by decide) rfl
  have hKc := hK.sub (tys' := []) [] rfl
  have hFc := va_free (wc := [(x0, .inr (11, [.ref rd, .ref dr, .ref bk, .ref st, .ref nw, .ref tr, .ref pl, .ref fl, .ref rg, .int 0, .int 0, .int 0])), (bk, .inr (0, [.int 0, .ref bk_tail, .ref bk_head, .ref bk_hinder, .ref bk_size, .ref bk_walk, .ref bk_draught, .ref bk_doorIn, .ref bk_fanIn, .ref bk_faceIn, .int 0, .int (-1), .ref gr]))]) hD hS hA [0, 1] rfl
  refine va_calli (va_runV (As := []) (rest := []) ⟨hx, hb, hml, hown, hts⟩ (c_isBooked l dC dI n0 s.heap.size x0 rd dr bk st nw tr pl fl rg 0 0 0 bk_tail bk_head bk_hinder bk_size bk_walk bk_draught bk_doorIn bk_fanIn bk_faceIn gr ) (cwV 0 hts (gV (fun w h => wM_c h) wd_1068 wd_1065 wd_1067 wd_39 wd_114) rfl rfl rfl (by decide +kernel) ⟨Nat.le_of_ble_eq_true rfl, Nat.le_of_ble_eq_true rfl⟩) ⟨fun a U g mk q => by obtain ⟨q0, q1, q2, qG, qP, qK, qD⟩ := q; exact ⟨q0, q1, q2, GW.blind qG, qP, va_K.moved (u := U) (U := U.calling g mk a) (Vm.Alike.refl U.vm) qK, qD⟩, va_recv hKc hPc (ci := 11) (q0 := 0) rfl rfl, fun U hU hW => ⟨rfl, by rw [hU], Nat.le_trans hn0 hS.1, GW.go hW hU hG (fun q hq hA9 => hS.2.1 q hq (fun h => hA9 (hA0 q h))), by rw [hU]; exact hPc, va_K.moved hW.alike hKc, hDc.weaken (fun _ _ _ h => hA0 _ h)⟩⟩ rfl rfl hl.1 rfl (lv_room (Nat.le_of_ble_eq_true rfl)) dX11_setting_1 ⟨Nat.le_of_ble_eq_true rfl, Nat.le_of_ble_eq_true rfl⟩) hS (fun q _ h => hFc q h) hFc (fun r_1 u t H1 locs ht hvm hw_2 hB hz1 hk1 hS => ?_)
  obtain ⟨hP1, hK1, hD1⟩ := hB
  rw [ht] at hP1
  obtain ⟨hP, hD⟩ := va_join (wr := []) (w1 := [(x0, .inr (11, [.ref rd, .ref dr, .ref bk, .ref st, .ref nw, .ref tr, .ref pl, .ref fl, .ref rg, .int 0, .int 0, .int 0])), (bk, .inr (0, [.int 0, .ref bk_tail, .ref bk_head, .ref bk_hinder, .ref bk_size, .ref bk_walk, .ref bk_draught, .ref bk_doorIn, .ref bk_fanIn, .ref bk_faceIn, .int 0, .int (-1), .ref gr]))]) hP hD [0, 1] [] rfl rfl (by decide) (by decide) hk1 hFc hP1 hD1
  generalize H1 = H at hP hS ⊢
  have hP : va_P (dC, dI) classes [(x0, .inr (11, [.ref rd, .ref dr, .ref bk, .ref st, .ref nw, .ref tr, .ref pl, .ref fl, .ref rg, .int 0, .int 0, .int 0])), (bk, .inr (0, [.int 0, .ref bk_tail, .ref bk_head, .ref bk_hinder, .ref bk_size, .ref bk_walk, .ref bk_draught, .ref bk_doorIn, .ref bk_fanIn, .ref bk_faceIn, .int 0, .int (-1), .ref gr]))] H := hP
  have hD : va_D A [(x0, .inr (11, [.ref rd, .ref dr, .ref bk, .ref st, .ref nw, .ref tr, .ref pl, .ref fl, .ref rg, .int 0, .int 0, .int 0])), (bk, .inr (0, [.int 0, .ref bk_tail, .ref bk_head, .ref bk_hinder, .ref bk_size, .ref bk_walk, .ref bk_draught, .ref bk_doorIn, .ref bk_fanIn, .ref bk_faceIn, .int 0, .int (-1), .ref gr]))] := hD
  obtain rfl : r_1 = 0 := hw_2
  refine lv_if_ne (tgt := 13) hx hb dX11_setting_4 (by decide) (fun c_3 => ?_) (fun c_3 => ?_)
  · exact absurd c_3 (by decide)
  refine lv_aload_n hx hb dX11_setting_7 rfl (lv_at hl 0 rfl) ?_
  refine lv_iconst (v := 1) hx hb dX11_setting_8 (by decide) ?_
  have hPc := hP.sub (ws' := [(x0, .inr (11, [.ref rd, .ref dr, .ref bk, .ref st, .ref nw, .ref tr, .ref pl, .ref fl, .ref rg, .int 0, .int 0, .int 0]))]) [0] rfl
  have hDc := hD.sub (ws' := [(x0, .inr (11, [.ref rd, .ref dr, .ref bk, .ref st, .ref nw, .ref tr, .ref pl, .ref fl, .ref rg, .int 0, .int 0, .int 0]))]) [0] (by decide) rfl
  have hKc := hK.sub (tys' := []) [] rfl
  have hFc := va_free (wc := [(x0, .inr (11, [.ref rd, .ref dr, .ref bk, .ref st, .ref nw, .ref tr, .ref pl, .ref fl, .ref rg, .int 0, .int 0, .int 0]))]) hD hS hA [0] rfl
  refine va_calli (va_runV (As := [.int 1]) (rest := []) ⟨hx, hb, hml, hown, hts⟩ (c_refuse l dC dI n0 H.size x0 rd dr bk st nw tr pl fl rg 0 0 0 1 ) (cwV 1 hts (gV (fun w h => wM_c h) wd_722 wd_719 wd_721 wd_0 wd_114) rfl rfl rfl (by decide +kernel) ⟨Nat.le_of_ble_eq_true rfl, Nat.le_of_ble_eq_true rfl⟩) ⟨fun a U g mk q => by obtain ⟨q0, q1, q2, qG, qP, qK, qD⟩ := q; exact ⟨q0, q1, q2, GW.blind qG, qP, va_K.moved (u := U) (U := U.calling g mk a) (Vm.Alike.refl U.vm) qK, qD⟩, va_recv hKc hPc (ci := 11) (q0 := 0) rfl rfl, fun U hU hW => ⟨rfl, by rw [hU], Nat.le_trans hn0 hS.1, GW.go hW hU hG (fun q hq hA9 => hS.2.1 q hq (fun h => hA9 (hA0 q h))), by rw [hU]; exact hPc, va_K.moved hW.alike hKc, hDc.weaken (fun _ _ _ h => hA0 _ h)⟩⟩ rfl rfl hl.1 rfl (lv_room (Nat.le_of_ble_eq_true rfl)) dX11_setting_9 ⟨Nat.le_of_ble_eq_true rfl, Nat.le_of_ble_eq_true rfl⟩) hS (fun q _ h => hFc q h) hFc (fun r_4 u t H1 locs ht hvm hw_5 hB hz1 hk1 hS => ?_)
  obtain ⟨hP1, hK1, hD1⟩ := hB
  rw [ht] at hP1
  obtain ⟨hP, hD⟩ := va_join (wr := [(bk, .inr (0, [.int 0, .ref bk_tail, .ref bk_head, .ref bk_hinder, .ref bk_size, .ref bk_walk, .ref bk_draught, .ref bk_doorIn, .ref bk_fanIn, .ref bk_faceIn, .int 0, .int (-1), .ref gr]))]) (w1 := [(x0, .inr (11, [.ref rd, .ref dr, .ref bk, .ref st, .ref nw, .ref tr, .ref pl, .ref fl, .ref rg, .int 1, .int 0, .int 0]))]) hP hD [0] [1] rfl rfl (by decide) (by decide) hk1 hFc hP1 hD1
  generalize H1 = H at hP hS ⊢
  have hP : va_P (dC, dI) classes [(bk, .inr (0, [.int 0, .ref bk_tail, .ref bk_head, .ref bk_hinder, .ref bk_size, .ref bk_walk, .ref bk_draught, .ref bk_doorIn, .ref bk_fanIn, .ref bk_faceIn, .int 0, .int (-1), .ref gr])), (x0, .inr (11, [.ref rd, .ref dr, .ref bk, .ref st, .ref nw, .ref tr, .ref pl, .ref fl, .ref rg, .int 1, .int 0, .int 0]))] H := hP
  have hD : va_D A [(bk, .inr (0, [.int 0, .ref bk_tail, .ref bk_head, .ref bk_hinder, .ref bk_size, .ref bk_walk, .ref bk_draught, .ref bk_doorIn, .ref bk_fanIn, .ref bk_faceIn, .int 0, .int (-1), .ref gr])), (x0, .inr (11, [.ref rd, .ref dr, .ref bk, .ref st, .ref nw, .ref tr, .ref pl, .ref fl, .ref rg, .int 1, .int 0, .int 0]))] := hD
  obtain rfl : r_4 = (-1) := hw_5
  exact W.iret (v := (-1)) hx hb hr (fun t ht hW => ⟨⟨(-1), (), rfl, rfl, trivial⟩, hS.F ht⟩) hS.2.2 dX11_setting_12
set_option maxHeartbeats 4000000 in
set_option maxRecDepth 100000 in
theorem p_smoke (l : Launch) (dC : Nat → ClassId) (dI : Nat → Nat → Nat) (n0 sz : Nat) (x0 : Nat) (rd : Nat) (dr : Nat) (bk : Nat) (st : Nat) (nw : Nat) (tr : Nat) (pl : Nat) (fl : Nat) (rg : Nat) (bk_tail : Nat) (bk_head : Nat) (bk_hinder : Nat) (bk_size : Nat) (bk_walk : Nat) (bk_draught : Nat) (bk_doorIn : Nat) (bk_fanIn : Nat) (bk_faceIn : Nat) (gr : Nat) (w : Int32) : Met l yX11_smoke (wM yX11_smoke cX11_smoke 3 (some .int)) ({ frames := 1, cells := 0, slots := 0, locals := 21 }) (va_Pc [.ref x0, .int w] (fun U => U.heap.size = sz ∧ n0 ≤ sz ∧ GW n0 U ∧ va_P (dC, dI) classes [(x0, .inr (11, [.ref rd, .ref dr, .ref bk, .ref st, .ref nw, .ref tr, .ref pl, .ref fl, .ref rg, .int 0, .int 0, .int 0])), (bk, .inr (0, [.int 0, .ref bk_tail, .ref bk_head, .ref bk_hinder, .ref bk_size, .ref bk_walk, .ref bk_draught, .ref bk_doorIn, .ref bk_fanIn, .ref bk_faceIn, .int 0, .int (-1), .ref gr]))] U.heap ∧ va_K (dC, dI) classes [] U ∧ va_D (fun q => n0 ≤ q) [(x0, .inr (11, [.ref rd, .ref dr, .ref bk, .ref st, .ref nw, .ref tr, .ref pl, .ref fl, .ref rg, .int 0, .int 0, .int 0])), (bk, .inr (0, [.int 0, .ref bk_tail, .ref bk_head, .ref bk_hinder, .ref bk_size, .ref bk_walk, .ref bk_draught, .ref bk_doorIn, .ref bk_fanIn, .ref bk_faceIn, .int 0, .int (-1), .ref gr]))])) (va_Qi (fun (r : Int32) (_ : Unit) => r = (-1)) (fun (_ : Unit) (_ : State) => True) (va_A [(x0, .inr (11, [.ref rd, .ref dr, .ref bk, .ref st, .ref nw, .ref tr, .ref pl, .ref fl, .ref rg, .int 0, .int 0, .int 0])), (bk, .inr (0, [.int 0, .ref bk_tail, .ref bk_head, .ref bk_hinder, .ref bk_size, .ref bk_walk, .ref bk_draught, .ref bk_doorIn, .ref bk_fanIn, .ref bk_faceIn, .int 0, .int (-1), .ref gr]))] sz)) 0 0 (va_A [(x0, .inr (11, [.ref rd, .ref dr, .ref bk, .ref st, .ref nw, .ref tr, .ref pl, .ref fl, .ref rg, .int 0, .int 0, .int 0])), (bk, .inr (0, [.int 0, .ref bk_tail, .ref bk_head, .ref bk_hinder, .ref bk_size, .ref bk_walk, .ref bk_draught, .ref bk_doorIn, .ref bk_fanIn, .ref bk_faceIn, .int 0, .int (-1), .ref gr]))] sz) := by
  refine Met.ofW (cc := cX11_smoke) (maxL := 3) (ret := (some .int)) (by decide) rfl ?_
  intro p e s m args below meth c s₁ B hml hv
  obtain ⟨rfl, hsz, hn0, hG, hP, hK, hD0⟩ := hv
  have hx := B.exec
  have hb := B.bytes
  have hr := B.returns
  have hts := atoms_spec (ws := wM yX11_smoke cX11_smoke 3 (some .int)) B.pre
  have hown : s.vm.findClass RX11 = some m.cls := findClass_of_methodNamed B.named
  have hlocks := B.notSynchronized
  subst hsz
  have hD := hD0.self (sz := s.heap.size)
  have hA0 := vA_n0 hD0 hn0
  generalize hAe : va_A [(x0, .inr (11, [.ref rd, .ref dr, .ref bk, .ref st, .ref nw, .ref tr, .ref pl, .ref fl, .ref rg, .int 0, .int 0, .int 0])), (bk, .inr (0, [.int 0, .ref bk_tail, .ref bk_head, .ref bk_hinder, .ref bk_size, .ref bk_walk, .ref bk_draught, .ref bk_doorIn, .ref bk_fanIn, .ref bk_faceIn, .int 0, .int (-1), .ref gr]))] s.heap.size = A at hD hA0 ⊢
  have hA : ∀ q : Nat, s.heap.size ≤ q → A q := fun q h => by rw [← hAe]; exact Or.inr h
  have hS : va_S A s.heap s.heap [] := va_S.rf
  have hl := lv_entry ([.ref x0, .int w]) (n := 3) (Nat.le_of_ble_eq_true rfl)
  rw [lg_entry_eq]
  generalize (lg_sl ([.ref x0, .int w]) ++ List.replicate (3 - (lg_sl ([.ref x0, .int w])).length) Slot.unset).toArray = ls at hl ⊢
  have hl : lv_has ls 3 [(0, .ref x0), (1, .int w)] := hl
  refine lv_aload_n hx hb dX11_smoke_0 rfl (lv_at hl 0 rfl) ?_
  refine lv_iload_n hx hb dX11_smoke_1 rfl (lv_at hl 1 rfl) ?_
  have hPc := hP.sub (ws' := [(x0, .inr (11, [.ref rd, .ref dr, .ref bk, .ref st, .ref nw, .ref tr, .ref pl, .ref fl, .ref rg, .int 0, .int 0, .int 0])), (bk, .inr (0, [.int 0, .ref bk_tail, .ref bk_head, .ref bk_hinder, .ref bk_size, .ref bk_walk, .ref bk_draught, .ref bk_doorIn, .ref bk_fanIn, .ref bk_faceIn, .int 0, .int (-1), .ref gr]))]) [0, 1] rfl
  have hDc := hD.sub (ws' := [(x0, .inr (11, [.ref rd, .ref dr, .ref bk, .ref st, .ref nw, .ref tr, .ref pl, .ref fl, .ref rg, .int 0, .int 0, .int 0])), (bk, .inr (0, [.int 0, .ref bk_tail, .ref bk_head, .ref bk_hinder, .ref bk_size, .ref bk_walk, .ref bk_draught, .ref bk_doorIn, .ref bk_fanIn, .ref bk_faceIn, .int 0, .int (-1), .ref gr]))]) [0, 1] (by decide) rfl
  have hKc := hK.sub (tys' := []) [] rfl
  have hFc := va_free (wc := [(x0, .inr (11, [.ref rd, .ref dr, .ref bk, .ref st, .ref nw, .ref tr, .ref pl, .ref fl, .ref rg, .int 0, .int 0, .int 0])), (bk, .inr (0, [.int 0, .ref bk_tail, .ref bk_head, .ref bk_hinder, .ref bk_size, .ref bk_walk, .ref bk_draught, .ref bk_doorIn, .ref bk_fanIn, .ref bk_faceIn, .int 0, .int (-1), .ref gr]))]) hD hS hA [0, 1] rfl
  refine va_calli (va_runV (As := [.int w]) (rest := []) ⟨hx, hb, hml, hown, hts⟩ (c_isWay l dC dI n0 s.heap.size x0 rd dr bk st nw tr pl fl rg 0 0 0 bk_tail bk_head bk_hinder bk_size bk_walk bk_draught bk_doorIn bk_fanIn bk_faceIn gr w ) (cwV 1 hts (gV (fun w h => wM_c h) wd_950 wd_947 wd_949 wd_25 wd_114) rfl rfl rfl (by decide +kernel) ⟨Nat.le_of_ble_eq_true rfl, Nat.le_of_ble_eq_true rfl⟩) ⟨fun a U g mk q => by obtain ⟨q0, q1, q2, qG, qP, qK, qD⟩ := q; exact ⟨q0, q1, q2, GW.blind qG, qP, va_K.moved (u := U) (U := U.calling g mk a) (Vm.Alike.refl U.vm) qK, qD⟩, va_recv hKc hPc (ci := 11) (q0 := 0) rfl rfl, fun U hU hW => ⟨rfl, by rw [hU], Nat.le_trans hn0 hS.1, GW.go hW hU hG (fun q hq hA9 => hS.2.1 q hq (fun h => hA9 (hA0 q h))), by rw [hU]; exact hPc, va_K.moved hW.alike hKc, hDc.weaken (fun _ _ _ h => hA0 _ h)⟩⟩ rfl rfl hl.1 rfl (lv_room (Nat.le_of_ble_eq_true rfl)) dX11_smoke_2 ⟨Nat.le_of_ble_eq_true rfl, Nat.le_of_ble_eq_true rfl⟩) hS (fun q _ h => hFc q h) hFc (fun r_1 u t H1 locs ht hvm hw_2 hB hz1 hk1 hS => ?_)
  obtain ⟨hP1, hK1, hD1⟩ := hB
  rw [ht] at hP1
  obtain ⟨hP, hD⟩ := va_join (wr := []) (w1 := [(x0, .inr (11, [.ref rd, .ref dr, .ref bk, .ref st, .ref nw, .ref tr, .ref pl, .ref fl, .ref rg, .int 0, .int 0, .int 0])), (bk, .inr (0, [.int 0, .ref bk_tail, .ref bk_head, .ref bk_hinder, .ref bk_size, .ref bk_walk, .ref bk_draught, .ref bk_doorIn, .ref bk_fanIn, .ref bk_faceIn, .int 0, .int (-1), .ref gr]))]) hP hD [0, 1] [] rfl rfl (by decide) (by decide) hk1 hFc hP1 hD1
  generalize H1 = H at hP hS ⊢
  have hP : va_P (dC, dI) classes [(x0, .inr (11, [.ref rd, .ref dr, .ref bk, .ref st, .ref nw, .ref tr, .ref pl, .ref fl, .ref rg, .int 0, .int 0, .int 0])), (bk, .inr (0, [.int 0, .ref bk_tail, .ref bk_head, .ref bk_hinder, .ref bk_size, .ref bk_walk, .ref bk_draught, .ref bk_doorIn, .ref bk_fanIn, .ref bk_faceIn, .int 0, .int (-1), .ref gr]))] H := hP
  have hD : va_D A [(x0, .inr (11, [.ref rd, .ref dr, .ref bk, .ref st, .ref nw, .ref tr, .ref pl, .ref fl, .ref rg, .int 0, .int 0, .int 0])), (bk, .inr (0, [.int 0, .ref bk_tail, .ref bk_head, .ref bk_hinder, .ref bk_size, .ref bk_walk, .ref bk_draught, .ref bk_doorIn, .ref bk_fanIn, .ref bk_faceIn, .int 0, .int (-1), .ref gr]))] := hD
  obtain rfl : r_1 = 0 := hw_2
  refine lv_if_ne (tgt := 14) hx hb dX11_smoke_5 (by decide) (fun c_3 => ?_) (fun c_3 => ?_)
  · exact absurd c_3 (by decide)
  refine lv_aload_n hx hb dX11_smoke_8 rfl (lv_at hl 0 rfl) ?_
  refine lv_iconst (v := 1) hx hb dX11_smoke_9 (by decide) ?_
  have hPc := hP.sub (ws' := [(x0, .inr (11, [.ref rd, .ref dr, .ref bk, .ref st, .ref nw, .ref tr, .ref pl, .ref fl, .ref rg, .int 0, .int 0, .int 0]))]) [0] rfl
  have hDc := hD.sub (ws' := [(x0, .inr (11, [.ref rd, .ref dr, .ref bk, .ref st, .ref nw, .ref tr, .ref pl, .ref fl, .ref rg, .int 0, .int 0, .int 0]))]) [0] (by decide) rfl
  have hKc := hK.sub (tys' := []) [] rfl
  have hFc := va_free (wc := [(x0, .inr (11, [.ref rd, .ref dr, .ref bk, .ref st, .ref nw, .ref tr, .ref pl, .ref fl, .ref rg, .int 0, .int 0, .int 0]))]) hD hS hA [0] rfl
  refine va_calli (va_runV (As := [.int 1]) (rest := []) ⟨hx, hb, hml, hown, hts⟩ (c_refuse l dC dI n0 H.size x0 rd dr bk st nw tr pl fl rg 0 0 0 1 ) (cwV 1 hts (gV (fun w h => wM_c h) wd_722 wd_719 wd_721 wd_0 wd_114) rfl rfl rfl (by decide +kernel) ⟨Nat.le_of_ble_eq_true rfl, Nat.le_of_ble_eq_true rfl⟩) ⟨fun a U g mk q => by obtain ⟨q0, q1, q2, qG, qP, qK, qD⟩ := q; exact ⟨q0, q1, q2, GW.blind qG, qP, va_K.moved (u := U) (U := U.calling g mk a) (Vm.Alike.refl U.vm) qK, qD⟩, va_recv hKc hPc (ci := 11) (q0 := 0) rfl rfl, fun U hU hW => ⟨rfl, by rw [hU], Nat.le_trans hn0 hS.1, GW.go hW hU hG (fun q hq hA9 => hS.2.1 q hq (fun h => hA9 (hA0 q h))), by rw [hU]; exact hPc, va_K.moved hW.alike hKc, hDc.weaken (fun _ _ _ h => hA0 _ h)⟩⟩ rfl rfl hl.1 rfl (lv_room (Nat.le_of_ble_eq_true rfl)) dX11_smoke_10 ⟨Nat.le_of_ble_eq_true rfl, Nat.le_of_ble_eq_true rfl⟩) hS (fun q _ h => hFc q h) hFc (fun r_4 u t H1 locs ht hvm hw_5 hB hz1 hk1 hS => ?_)
  obtain ⟨hP1, hK1, hD1⟩ := hB
  rw [ht] at hP1
  obtain ⟨hP, hD⟩ := va_join (wr := [(bk, .inr (0, [.int 0, .ref bk_tail, .ref bk_head, .ref bk_hinder, .ref bk_size, .ref bk_walk, .ref bk_draught, .ref bk_doorIn, .ref bk_fanIn, .ref bk_faceIn, .int 0, .int (-1), .ref gr]))]) (w1 := [(x0, .inr (11, [.ref rd, .ref dr, .ref bk, .ref st, .ref nw, .ref tr, .ref pl, .ref fl, .ref rg, .int 1, .int 0, .int 0]))]) hP hD [0] [1] rfl rfl (by decide) (by decide) hk1 hFc hP1 hD1
  generalize H1 = H at hP hS ⊢
  have hP : va_P (dC, dI) classes [(bk, .inr (0, [.int 0, .ref bk_tail, .ref bk_head, .ref bk_hinder, .ref bk_size, .ref bk_walk, .ref bk_draught, .ref bk_doorIn, .ref bk_fanIn, .ref bk_faceIn, .int 0, .int (-1), .ref gr])), (x0, .inr (11, [.ref rd, .ref dr, .ref bk, .ref st, .ref nw, .ref tr, .ref pl, .ref fl, .ref rg, .int 1, .int 0, .int 0]))] H := hP
  have hD : va_D A [(bk, .inr (0, [.int 0, .ref bk_tail, .ref bk_head, .ref bk_hinder, .ref bk_size, .ref bk_walk, .ref bk_draught, .ref bk_doorIn, .ref bk_fanIn, .ref bk_faceIn, .int 0, .int (-1), .ref gr])), (x0, .inr (11, [.ref rd, .ref dr, .ref bk, .ref st, .ref nw, .ref tr, .ref pl, .ref fl, .ref rg, .int 1, .int 0, .int 0]))] := hD
  obtain rfl : r_4 = (-1) := hw_5
  exact W.iret (v := (-1)) hx hb hr (fun t ht hW => ⟨⟨(-1), (), rfl, rfl, trivial⟩, hS.F ht⟩) hS.2.2 dX11_smoke_13
set_option maxHeartbeats 4000000 in
set_option maxRecDepth 100000 in
theorem p_man (l : Launch) (dC : Nat → ClassId) (dI : Nat → Nat → Nat) (n0 sz : Nat) (x0 : Nat) (rd : Nat) (dr : Nat) (bk : Nat) (st : Nat) (nw : Nat) (tr : Nat) (pl : Nat) (fl : Nat) (rg : Nat) (bk_tail : Nat) (bk_head : Nat) (bk_hinder : Nat) (bk_size : Nat) (bk_walk : Nat) (bk_draught : Nat) (bk_doorIn : Nat) (bk_fanIn : Nat) (bk_faceIn : Nat) (gr : Nat) (w : Int32) : Met l yX11_man (wM yX11_man cX11_man 2 (some .int)) ({ frames := 1, cells := 0, slots := 0, locals := 21 }) (va_Pc [.ref x0, .int w] (fun U => U.heap.size = sz ∧ n0 ≤ sz ∧ GW n0 U ∧ va_P (dC, dI) classes [(x0, .inr (11, [.ref rd, .ref dr, .ref bk, .ref st, .ref nw, .ref tr, .ref pl, .ref fl, .ref rg, .int 0, .int 0, .int 0])), (bk, .inr (0, [.int 0, .ref bk_tail, .ref bk_head, .ref bk_hinder, .ref bk_size, .ref bk_walk, .ref bk_draught, .ref bk_doorIn, .ref bk_fanIn, .ref bk_faceIn, .int 0, .int (-1), .ref gr]))] U.heap ∧ va_K (dC, dI) classes [] U ∧ va_D (fun q => n0 ≤ q) [(x0, .inr (11, [.ref rd, .ref dr, .ref bk, .ref st, .ref nw, .ref tr, .ref pl, .ref fl, .ref rg, .int 0, .int 0, .int 0])), (bk, .inr (0, [.int 0, .ref bk_tail, .ref bk_head, .ref bk_hinder, .ref bk_size, .ref bk_walk, .ref bk_draught, .ref bk_doorIn, .ref bk_fanIn, .ref bk_faceIn, .int 0, .int (-1), .ref gr]))])) (va_Qi (fun (r : Int32) (_ : Unit) => r = (-1)) (fun (_ : Unit) (_ : State) => True) (va_A [(x0, .inr (11, [.ref rd, .ref dr, .ref bk, .ref st, .ref nw, .ref tr, .ref pl, .ref fl, .ref rg, .int 0, .int 0, .int 0])), (bk, .inr (0, [.int 0, .ref bk_tail, .ref bk_head, .ref bk_hinder, .ref bk_size, .ref bk_walk, .ref bk_draught, .ref bk_doorIn, .ref bk_fanIn, .ref bk_faceIn, .int 0, .int (-1), .ref gr]))] sz)) 0 0 (va_A [(x0, .inr (11, [.ref rd, .ref dr, .ref bk, .ref st, .ref nw, .ref tr, .ref pl, .ref fl, .ref rg, .int 0, .int 0, .int 0])), (bk, .inr (0, [.int 0, .ref bk_tail, .ref bk_head, .ref bk_hinder, .ref bk_size, .ref bk_walk, .ref bk_draught, .ref bk_doorIn, .ref bk_fanIn, .ref bk_faceIn, .int 0, .int (-1), .ref gr]))] sz) := by
  refine Met.ofW (cc := cX11_man) (maxL := 2) (ret := (some .int)) (by decide) rfl ?_
  intro p e s m args below meth c s₁ B hml hv
  obtain ⟨rfl, hsz, hn0, hG, hP, hK, hD0⟩ := hv
  have hx := B.exec
  have hb := B.bytes
  have hr := B.returns
  have hts := atoms_spec (ws := wM yX11_man cX11_man 2 (some .int)) B.pre
  have hown : s.vm.findClass RX11 = some m.cls := findClass_of_methodNamed B.named
  have hlocks := B.notSynchronized
  subst hsz
  have hD := hD0.self (sz := s.heap.size)
  have hA0 := vA_n0 hD0 hn0
  generalize hAe : va_A [(x0, .inr (11, [.ref rd, .ref dr, .ref bk, .ref st, .ref nw, .ref tr, .ref pl, .ref fl, .ref rg, .int 0, .int 0, .int 0])), (bk, .inr (0, [.int 0, .ref bk_tail, .ref bk_head, .ref bk_hinder, .ref bk_size, .ref bk_walk, .ref bk_draught, .ref bk_doorIn, .ref bk_fanIn, .ref bk_faceIn, .int 0, .int (-1), .ref gr]))] s.heap.size = A at hD hA0 ⊢
  have hA : ∀ q : Nat, s.heap.size ≤ q → A q := fun q h => by rw [← hAe]; exact Or.inr h
  have hS : va_S A s.heap s.heap [] := va_S.rf
  have hl := lv_entry ([.ref x0, .int w]) (n := 2) (Nat.le_of_ble_eq_true rfl)
  rw [lg_entry_eq]
  generalize (lg_sl ([.ref x0, .int w]) ++ List.replicate (2 - (lg_sl ([.ref x0, .int w])).length) Slot.unset).toArray = ls at hl ⊢
  have hl : lv_has ls 2 [(0, .ref x0), (1, .int w)] := hl
  refine lv_iload_n hx hb dX11_man_0 rfl (lv_at hl 1 rfl) ?_
  refine lv_if_lt (tgt := 15) hx hb dX11_man_1 (by decide) (fun c_1 => ?_) (fun c_1 => ?_)
  · skip
    refine lv_aload_n hx hb dX11_man_15 rfl (lv_at hl 0 rfl) ?_
    refine lv_iconst (v := 1) hx hb dX11_man_16 (by decide) ?_
    have hPc := hP.sub (ws' := [(x0, .inr (11, [.ref rd, .ref dr, .ref bk, .ref st, .ref nw, .ref tr, .ref pl, .ref fl, .ref rg, .int 0, .int 0, .int 0]))]) [0] rfl
    have hDc := hD.sub (ws' := [(x0, .inr (11, [.ref rd, .ref dr, .ref bk, .ref st, .ref nw, .ref tr, .ref pl, .ref fl, .ref rg, .int 0, .int 0, .int 0]))]) [0] (by decide) rfl
    have hKc := hK.sub (tys' := []) [] rfl
    have hFc := va_free (wc := [(x0, .inr (11, [.ref rd, .ref dr, .ref bk, .ref st, .ref nw, .ref tr, .ref pl, .ref fl, .ref rg, .int 0, .int 0, .int 0]))]) hD hS hA [0] rfl
    refine va_calli (va_runV (As := [.int 1]) (rest := []) ⟨hx, hb, hml, hown, hts⟩ (c_refuse l dC dI n0 s.heap.size x0 rd dr bk st nw tr pl fl rg 0 0 0 1 ) (cwV 1 hts (gV (fun w h => wM_c h) wd_722 wd_719 wd_721 wd_0 wd_114) rfl rfl rfl (by decide +kernel) ⟨Nat.le_of_ble_eq_true rfl, Nat.le_of_ble_eq_true rfl⟩) ⟨fun a U g mk q => by obtain ⟨q0, q1, q2, qG, qP, qK, qD⟩ := q; exact ⟨q0, q1, q2, GW.blind qG, qP, va_K.moved (u := U) (U := U.calling g mk a) (Vm.Alike.refl U.vm) qK, qD⟩, va_recv hKc hPc (ci := 11) (q0 := 0) rfl rfl, fun U hU hW => ⟨rfl, by rw [hU], Nat.le_trans hn0 hS.1, GW.go hW hU hG (fun q hq hA9 => hS.2.1 q hq (fun h => hA9 (hA0 q h))), by rw [hU]; exact hPc, va_K.moved hW.alike hKc, hDc.weaken (fun _ _ _ h => hA0 _ h)⟩⟩ rfl rfl hl.1 rfl (lv_room (Nat.le_of_ble_eq_true rfl)) dX11_man_17 ⟨Nat.le_of_ble_eq_true rfl, Nat.le_of_ble_eq_true rfl⟩) hS (fun q _ h => hFc q h) hFc (fun r_2 u t H1 locs ht hvm hw_3 hB hz1 hk1 hS => ?_)
    obtain ⟨hP1, hK1, hD1⟩ := hB
    rw [ht] at hP1
    obtain ⟨hP, hD⟩ := va_join (wr := [(bk, .inr (0, [.int 0, .ref bk_tail, .ref bk_head, .ref bk_hinder, .ref bk_size, .ref bk_walk, .ref bk_draught, .ref bk_doorIn, .ref bk_fanIn, .ref bk_faceIn, .int 0, .int (-1), .ref gr]))]) (w1 := [(x0, .inr (11, [.ref rd, .ref dr, .ref bk, .ref st, .ref nw, .ref tr, .ref pl, .ref fl, .ref rg, .int 1, .int 0, .int 0]))]) hP hD [0] [1] rfl rfl (by decide) (by decide) hk1 hFc hP1 hD1
    generalize H1 = H at hP hS ⊢
    have hP : va_P (dC, dI) classes [(bk, .inr (0, [.int 0, .ref bk_tail, .ref bk_head, .ref bk_hinder, .ref bk_size, .ref bk_walk, .ref bk_draught, .ref bk_doorIn, .ref bk_fanIn, .ref bk_faceIn, .int 0, .int (-1), .ref gr])), (x0, .inr (11, [.ref rd, .ref dr, .ref bk, .ref st, .ref nw, .ref tr, .ref pl, .ref fl, .ref rg, .int 1, .int 0, .int 0]))] H := hP
    have hD : va_D A [(bk, .inr (0, [.int 0, .ref bk_tail, .ref bk_head, .ref bk_hinder, .ref bk_size, .ref bk_walk, .ref bk_draught, .ref bk_doorIn, .ref bk_fanIn, .ref bk_faceIn, .int 0, .int (-1), .ref gr])), (x0, .inr (11, [.ref rd, .ref dr, .ref bk, .ref st, .ref nw, .ref tr, .ref pl, .ref fl, .ref rg, .int 1, .int 0, .int 0]))] := hD
    obtain rfl : r_2 = (-1) := hw_3
    exact W.iret (v := (-1)) hx hb hr (fun t ht hW => ⟨⟨(-1), (), rfl, rfl, trivial⟩, hS.F ht⟩) hS.2.2 dX11_man_20
  · skip
    refine lv_iload_n hx hb dX11_man_4 rfl (lv_at hl 1 rfl) ?_
    refine lv_aload_n hx hb dX11_man_5 rfl (lv_at hl 0 rfl) ?_
    refine va_get (D := (dC, dI)) (ci := 11) (v := .ref bk) (C := RX11) (T := TX11) (N := 12) hx hb hts (fun w h => wM_c (iX11 w h)) hown hK hP 0 rfl rfl 2 (by decide) (hts _ (wM_c wd_672)) (fun _ h9 => h9) rfl dX11_man_6 ?_
    refine va_get (D := (dC, dI)) (ci := 0) (v := .int 0) (C := RX0) (T := TX0) (N := 13) hx hb hts (fun w h => wM_c (iX0 w h)) hown hK hP 1 rfl rfl 10 (by decide) (hts _ (wM_c wd_287)) (fun _ h9 => h9) rfl dX11_man_9 ?_
    refine lv_icmp_lt (tgt := 21) hx hb dX11_man_12 (by decide) (fun c_4 => ?_) (fun c_4 => ?_)
    · exact absurd c_4 c_1
    refine lv_aload_n hx hb dX11_man_15 rfl (lv_at hl 0 rfl) ?_
    refine lv_iconst (v := 1) hx hb dX11_man_16 (by decide) ?_
    have hPc := hP.sub (ws' := [(x0, .inr (11, [.ref rd, .ref dr, .ref bk, .ref st, .ref nw, .ref tr, .ref pl, .ref fl, .ref rg, .int 0, .int 0, .int 0]))]) [0] rfl
    have hDc := hD.sub (ws' := [(x0, .inr (11, [.ref rd, .ref dr, .ref bk, .ref st, .ref nw, .ref tr, .ref pl, .ref fl, .ref rg, .int 0, .int 0, .int 0]))]) [0] (by decide) rfl
    have hKc := hK.sub (tys' := []) [] rfl
    have hFc := va_free (wc := [(x0, .inr (11, [.ref rd, .ref dr, .ref bk, .ref st, .ref nw, .ref tr, .ref pl, .ref fl, .ref rg, .int 0, .int 0, .int 0]))]) hD hS hA [0] rfl
    refine va_calli (va_runV (As := [.int 1]) (rest := []) ⟨hx, hb, hml, hown, hts⟩ (c_refuse l dC dI n0 s.heap.size x0 rd dr bk st nw tr pl fl rg 0 0 0 1 ) (cwV 1 hts (gV (fun w h => wM_c h) wd_722 wd_719 wd_721 wd_0 wd_114) rfl rfl rfl (by decide +kernel) ⟨Nat.le_of_ble_eq_true rfl, Nat.le_of_ble_eq_true rfl⟩) ⟨fun a U g mk q => by obtain ⟨q0, q1, q2, qG, qP, qK, qD⟩ := q; exact ⟨q0, q1, q2, GW.blind qG, qP, va_K.moved (u := U) (U := U.calling g mk a) (Vm.Alike.refl U.vm) qK, qD⟩, va_recv hKc hPc (ci := 11) (q0 := 0) rfl rfl, fun U hU hW => ⟨rfl, by rw [hU], Nat.le_trans hn0 hS.1, GW.go hW hU hG (fun q hq hA9 => hS.2.1 q hq (fun h => hA9 (hA0 q h))), by rw [hU]; exact hPc, va_K.moved hW.alike hKc, hDc.weaken (fun _ _ _ h => hA0 _ h)⟩⟩ rfl rfl hl.1 rfl (lv_room (Nat.le_of_ble_eq_true rfl)) dX11_man_17 ⟨Nat.le_of_ble_eq_true rfl, Nat.le_of_ble_eq_true rfl⟩) hS (fun q _ h => hFc q h) hFc (fun r_5 u t H1 locs ht hvm hw_6 hB hz1 hk1 hS => ?_)
    obtain ⟨hP1, hK1, hD1⟩ := hB
    rw [ht] at hP1
    obtain ⟨hP, hD⟩ := va_join (wr := [(bk, .inr (0, [.int 0, .ref bk_tail, .ref bk_head, .ref bk_hinder, .ref bk_size, .ref bk_walk, .ref bk_draught, .ref bk_doorIn, .ref bk_fanIn, .ref bk_faceIn, .int 0, .int (-1), .ref gr]))]) (w1 := [(x0, .inr (11, [.ref rd, .ref dr, .ref bk, .ref st, .ref nw, .ref tr, .ref pl, .ref fl, .ref rg, .int 1, .int 0, .int 0]))]) hP hD [0] [1] rfl rfl (by decide) (by decide) hk1 hFc hP1 hD1
    generalize H1 = H at hP hS ⊢
    have hP : va_P (dC, dI) classes [(bk, .inr (0, [.int 0, .ref bk_tail, .ref bk_head, .ref bk_hinder, .ref bk_size, .ref bk_walk, .ref bk_draught, .ref bk_doorIn, .ref bk_fanIn, .ref bk_faceIn, .int 0, .int (-1), .ref gr])), (x0, .inr (11, [.ref rd, .ref dr, .ref bk, .ref st, .ref nw, .ref tr, .ref pl, .ref fl, .ref rg, .int 1, .int 0, .int 0]))] H := hP
    have hD : va_D A [(bk, .inr (0, [.int 0, .ref bk_tail, .ref bk_head, .ref bk_hinder, .ref bk_size, .ref bk_walk, .ref bk_draught, .ref bk_doorIn, .ref bk_fanIn, .ref bk_faceIn, .int 0, .int (-1), .ref gr])), (x0, .inr (11, [.ref rd, .ref dr, .ref bk, .ref st, .ref nw, .ref tr, .ref pl, .ref fl, .ref rg, .int 1, .int 0, .int 0]))] := hD
    obtain rfl : r_5 = (-1) := hw_6
    exact W.iret (v := (-1)) hx hb hr (fun t ht hW => ⟨⟨(-1), (), rfl, rfl, trivial⟩, hS.F ht⟩) hS.2.2 dX11_man_20
set_option maxHeartbeats 4000000 in
set_option maxRecDepth 100000 in
theorem p_out (l : Launch) (dC : Nat → ClassId) (dI : Nat → Nat → Nat) (n0 sz : Nat) (x0 : Nat) (rd : Nat) (dr : Nat) (bk : Nat) (st : Nat) (nw : Nat) (tr : Nat) (pl : Nat) (fl : Nat) (rg : Nat) (fl_knotOf : Nat) (fl_smokeAt : Nat) (fl_reach : Nat) (fl_route : Nat) (fl_book : Nat) (fl_state : Nat) (fl_smokeIn : Nat) (w : Int32) : Met l yX11_out (wM yX11_out cX11_out 2 (some .int)) ({ frames := 1, cells := 0, slots := 0, locals := 21 }) (va_Pc [.ref x0, .int w] (fun U => U.heap.size = sz ∧ n0 ≤ sz ∧ GW n0 U ∧ va_P (dC, dI) classes [(x0, .inr (11, [.ref rd, .ref dr, .ref bk, .ref st, .ref nw, .ref tr, .ref pl, .ref fl, .ref rg, .int 0, .int 0, .int 0])), (fl, .inr (1, [.int 0, .ref fl_knotOf, .ref fl_smokeAt, .ref fl_reach, .ref fl_route, .ref fl_book, .ref fl_state, .ref fl_smokeIn]))] U.heap ∧ va_K (dC, dI) classes [] U ∧ va_D (fun q => n0 ≤ q) [(x0, .inr (11, [.ref rd, .ref dr, .ref bk, .ref st, .ref nw, .ref tr, .ref pl, .ref fl, .ref rg, .int 0, .int 0, .int 0])), (fl, .inr (1, [.int 0, .ref fl_knotOf, .ref fl_smokeAt, .ref fl_reach, .ref fl_route, .ref fl_book, .ref fl_state, .ref fl_smokeIn]))])) (va_Qi (fun (r : Int32) (_ : Unit) => r = (-1)) (fun (_ : Unit) (_ : State) => True) (va_A [(x0, .inr (11, [.ref rd, .ref dr, .ref bk, .ref st, .ref nw, .ref tr, .ref pl, .ref fl, .ref rg, .int 0, .int 0, .int 0])), (fl, .inr (1, [.int 0, .ref fl_knotOf, .ref fl_smokeAt, .ref fl_reach, .ref fl_route, .ref fl_book, .ref fl_state, .ref fl_smokeIn]))] sz)) 0 0 (va_A [(x0, .inr (11, [.ref rd, .ref dr, .ref bk, .ref st, .ref nw, .ref tr, .ref pl, .ref fl, .ref rg, .int 0, .int 0, .int 0])), (fl, .inr (1, [.int 0, .ref fl_knotOf, .ref fl_smokeAt, .ref fl_reach, .ref fl_route, .ref fl_book, .ref fl_state, .ref fl_smokeIn]))] sz) := by
  refine Met.ofW (cc := cX11_out) (maxL := 2) (ret := (some .int)) (by decide) rfl ?_
  intro p e s m args below meth c s₁ B hml hv
  obtain ⟨rfl, hsz, hn0, hG, hP, hK, hD0⟩ := hv
  have hx := B.exec
  have hb := B.bytes
  have hr := B.returns
  have hts := atoms_spec (ws := wM yX11_out cX11_out 2 (some .int)) B.pre
  have hown : s.vm.findClass RX11 = some m.cls := findClass_of_methodNamed B.named
  have hlocks := B.notSynchronized
  subst hsz
  have hD := hD0.self (sz := s.heap.size)
  have hA0 := vA_n0 hD0 hn0
  generalize hAe : va_A [(x0, .inr (11, [.ref rd, .ref dr, .ref bk, .ref st, .ref nw, .ref tr, .ref pl, .ref fl, .ref rg, .int 0, .int 0, .int 0])), (fl, .inr (1, [.int 0, .ref fl_knotOf, .ref fl_smokeAt, .ref fl_reach, .ref fl_route, .ref fl_book, .ref fl_state, .ref fl_smokeIn]))] s.heap.size = A at hD hA0 ⊢
  have hA : ∀ q : Nat, s.heap.size ≤ q → A q := fun q h => by rw [← hAe]; exact Or.inr h
  have hS : va_S A s.heap s.heap [] := va_S.rf
  have hl := lv_entry ([.ref x0, .int w]) (n := 2) (Nat.le_of_ble_eq_true rfl)
  rw [lg_entry_eq]
  generalize (lg_sl ([.ref x0, .int w]) ++ List.replicate (2 - (lg_sl ([.ref x0, .int w])).length) Slot.unset).toArray = ls at hl ⊢
  have hl : lv_has ls 2 [(0, .ref x0), (1, .int w)] := hl
  refine lv_aload_n hx hb dX11_out_0 rfl (lv_at hl 0 rfl) ?_
  refine lv_iload_n hx hb dX11_out_1 rfl (lv_at hl 1 rfl) ?_
  have hPc := hP.sub (ws' := [(x0, .inr (11, [.ref rd, .ref dr, .ref bk, .ref st, .ref nw, .ref tr, .ref pl, .ref fl, .ref rg, .int 0, .int 0, .int 0])), (fl, .inr (1, [.int 0, .ref fl_knotOf, .ref fl_smokeAt, .ref fl_reach, .ref fl_route, .ref fl_book, .ref fl_state, .ref fl_smokeIn]))]) [0, 1] rfl
  have hDc := hD.sub (ws' := [(x0, .inr (11, [.ref rd, .ref dr, .ref bk, .ref st, .ref nw, .ref tr, .ref pl, .ref fl, .ref rg, .int 0, .int 0, .int 0])), (fl, .inr (1, [.int 0, .ref fl_knotOf, .ref fl_smokeAt, .ref fl_reach, .ref fl_route, .ref fl_book, .ref fl_state, .ref fl_smokeIn]))]) [0, 1] (by decide) rfl
  have hKc := hK.sub (tys' := []) [] rfl
  have hFc := va_free (wc := [(x0, .inr (11, [.ref rd, .ref dr, .ref bk, .ref st, .ref nw, .ref tr, .ref pl, .ref fl, .ref rg, .int 0, .int 0, .int 0])), (fl, .inr (1, [.int 0, .ref fl_knotOf, .ref fl_smokeAt, .ref fl_reach, .ref fl_route, .ref fl_book, .ref fl_state, .ref fl_smokeIn]))]) hD hS hA [0, 1] rfl
  refine va_calli (va_runV (As := [.int w]) (rest := []) ⟨hx, hb, hml, hown, hts⟩ (c_isMan l dC dI n0 s.heap.size x0 rd dr bk st nw tr pl fl rg 0 0 0 fl_knotOf fl_smokeAt fl_reach fl_route fl_book fl_state fl_smokeIn w ) (cwV 1 hts (gV (fun w h => wM_c h) wd_1245 wd_1242 wd_1244 wd_49 wd_114) rfl rfl rfl (by decide +kernel) ⟨Nat.le_of_ble_eq_true rfl, Nat.le_of_ble_eq_true rfl⟩) ⟨fun a U g mk q => by obtain ⟨q0, q1, q2, qG, qP, qK, qD⟩ := q; exact ⟨q0, q1, q2, GW.blind qG, qP, va_K.moved (u := U) (U := U.calling g mk a) (Vm.Alike.refl U.vm) qK, qD⟩, va_recv hKc hPc (ci := 11) (q0 := 0) rfl rfl, fun U hU hW => ⟨rfl, by rw [hU], Nat.le_trans hn0 hS.1, GW.go hW hU hG (fun q hq hA9 => hS.2.1 q hq (fun h => hA9 (hA0 q h))), by rw [hU]; exact hPc, va_K.moved hW.alike hKc, hDc.weaken (fun _ _ _ h => hA0 _ h)⟩⟩ rfl rfl hl.1 rfl (lv_room (Nat.le_of_ble_eq_true rfl)) dX11_out_2 ⟨Nat.le_of_ble_eq_true rfl, Nat.le_of_ble_eq_true rfl⟩) hS (fun q _ h => hFc q h) hFc (fun r_1 u t H1 locs ht hvm hw_2 hB hz1 hk1 hS => ?_)
  obtain ⟨hP1, hK1, hD1⟩ := hB
  rw [ht] at hP1
  obtain ⟨hP, hD⟩ := va_join (wr := []) (w1 := [(x0, .inr (11, [.ref rd, .ref dr, .ref bk, .ref st, .ref nw, .ref tr, .ref pl, .ref fl, .ref rg, .int 0, .int 0, .int 0])), (fl, .inr (1, [.int 0, .ref fl_knotOf, .ref fl_smokeAt, .ref fl_reach, .ref fl_route, .ref fl_book, .ref fl_state, .ref fl_smokeIn]))]) hP hD [0, 1] [] rfl rfl (by decide) (by decide) hk1 hFc hP1 hD1
  generalize H1 = H at hP hS ⊢
  have hP : va_P (dC, dI) classes [(x0, .inr (11, [.ref rd, .ref dr, .ref bk, .ref st, .ref nw, .ref tr, .ref pl, .ref fl, .ref rg, .int 0, .int 0, .int 0])), (fl, .inr (1, [.int 0, .ref fl_knotOf, .ref fl_smokeAt, .ref fl_reach, .ref fl_route, .ref fl_book, .ref fl_state, .ref fl_smokeIn]))] H := hP
  have hD : va_D A [(x0, .inr (11, [.ref rd, .ref dr, .ref bk, .ref st, .ref nw, .ref tr, .ref pl, .ref fl, .ref rg, .int 0, .int 0, .int 0])), (fl, .inr (1, [.int 0, .ref fl_knotOf, .ref fl_smokeAt, .ref fl_reach, .ref fl_route, .ref fl_book, .ref fl_state, .ref fl_smokeIn]))] := hD
  obtain rfl : r_1 = 0 := hw_2
  refine lv_if_ne (tgt := 14) hx hb dX11_out_5 (by decide) (fun c_3 => ?_) (fun c_3 => ?_)
  · exact absurd c_3 (by decide)
  refine lv_aload_n hx hb dX11_out_8 rfl (lv_at hl 0 rfl) ?_
  refine lv_iconst (v := 1) hx hb dX11_out_9 (by decide) ?_
  have hPc := hP.sub (ws' := [(x0, .inr (11, [.ref rd, .ref dr, .ref bk, .ref st, .ref nw, .ref tr, .ref pl, .ref fl, .ref rg, .int 0, .int 0, .int 0]))]) [0] rfl
  have hDc := hD.sub (ws' := [(x0, .inr (11, [.ref rd, .ref dr, .ref bk, .ref st, .ref nw, .ref tr, .ref pl, .ref fl, .ref rg, .int 0, .int 0, .int 0]))]) [0] (by decide) rfl
  have hKc := hK.sub (tys' := []) [] rfl
  have hFc := va_free (wc := [(x0, .inr (11, [.ref rd, .ref dr, .ref bk, .ref st, .ref nw, .ref tr, .ref pl, .ref fl, .ref rg, .int 0, .int 0, .int 0]))]) hD hS hA [0] rfl
  refine va_calli (va_runV (As := [.int 1]) (rest := []) ⟨hx, hb, hml, hown, hts⟩ (c_refuse l dC dI n0 H.size x0 rd dr bk st nw tr pl fl rg 0 0 0 1 ) (cwV 1 hts (gV (fun w h => wM_c h) wd_722 wd_719 wd_721 wd_0 wd_114) rfl rfl rfl (by decide +kernel) ⟨Nat.le_of_ble_eq_true rfl, Nat.le_of_ble_eq_true rfl⟩) ⟨fun a U g mk q => by obtain ⟨q0, q1, q2, qG, qP, qK, qD⟩ := q; exact ⟨q0, q1, q2, GW.blind qG, qP, va_K.moved (u := U) (U := U.calling g mk a) (Vm.Alike.refl U.vm) qK, qD⟩, va_recv hKc hPc (ci := 11) (q0 := 0) rfl rfl, fun U hU hW => ⟨rfl, by rw [hU], Nat.le_trans hn0 hS.1, GW.go hW hU hG (fun q hq hA9 => hS.2.1 q hq (fun h => hA9 (hA0 q h))), by rw [hU]; exact hPc, va_K.moved hW.alike hKc, hDc.weaken (fun _ _ _ h => hA0 _ h)⟩⟩ rfl rfl hl.1 rfl (lv_room (Nat.le_of_ble_eq_true rfl)) dX11_out_10 ⟨Nat.le_of_ble_eq_true rfl, Nat.le_of_ble_eq_true rfl⟩) hS (fun q _ h => hFc q h) hFc (fun r_4 u t H1 locs ht hvm hw_5 hB hz1 hk1 hS => ?_)
  obtain ⟨hP1, hK1, hD1⟩ := hB
  rw [ht] at hP1
  obtain ⟨hP, hD⟩ := va_join (wr := [(fl, .inr (1, [.int 0, .ref fl_knotOf, .ref fl_smokeAt, .ref fl_reach, .ref fl_route, .ref fl_book, .ref fl_state, .ref fl_smokeIn]))]) (w1 := [(x0, .inr (11, [.ref rd, .ref dr, .ref bk, .ref st, .ref nw, .ref tr, .ref pl, .ref fl, .ref rg, .int 1, .int 0, .int 0]))]) hP hD [0] [1] rfl rfl (by decide) (by decide) hk1 hFc hP1 hD1
  generalize H1 = H at hP hS ⊢
  have hP : va_P (dC, dI) classes [(fl, .inr (1, [.int 0, .ref fl_knotOf, .ref fl_smokeAt, .ref fl_reach, .ref fl_route, .ref fl_book, .ref fl_state, .ref fl_smokeIn])), (x0, .inr (11, [.ref rd, .ref dr, .ref bk, .ref st, .ref nw, .ref tr, .ref pl, .ref fl, .ref rg, .int 1, .int 0, .int 0]))] H := hP
  have hD : va_D A [(fl, .inr (1, [.int 0, .ref fl_knotOf, .ref fl_smokeAt, .ref fl_reach, .ref fl_route, .ref fl_book, .ref fl_state, .ref fl_smokeIn])), (x0, .inr (11, [.ref rd, .ref dr, .ref bk, .ref st, .ref nw, .ref tr, .ref pl, .ref fl, .ref rg, .int 1, .int 0, .int 0]))] := hD
  obtain rfl : r_4 = (-1) := hw_5
  exact W.iret (v := (-1)) hx hb hr (fun t ht hW => ⟨⟨(-1), (), rfl, rfl, trivial⟩, hS.F ht⟩) hS.2.2 dX11_out_13
set_option maxHeartbeats 4000000 in
set_option maxRecDepth 100000 in
theorem c_isTarget (l : Launch) (dC : Nat → ClassId) (dI : Nat → Nat → Nat) (n0 sz : Nat) (x0 : Nat) (rd : Nat) (dr : Nat) (bk : Nat) (st : Nat) (nw : Nat) (tr : Nat) (pl : Nat) (fl : Nat) (rg : Nat) (tb : Int32) (ft : Int32) (pc : Int32) (bk_tail : Nat) (bk_head : Nat) (bk_hinder : Nat) (bk_size : Nat) (bk_walk : Nat) (bk_draught : Nat) (bk_doorIn : Nat) (bk_fanIn : Nat) (bk_faceIn : Nat) (gr : Nat) (gr_doorBy : Nat) (gr_pairFirst : Nat) (gr_pairSecond : Nat) (gr_fanPush : Nat) (gr_fanFall : Nat) (gr_fanCost : Nat) (gr_faceWay : Nat) (gr_faceGas : Nat) (gr_faceNeed : Nat) (k : Int32) (w : Int32) : Met l yX11_isTarget (wM yX11_isTarget cX11_isTarget 3 (some .boolean)) ({ frames := 1, cells := 0, slots := 0, locals := 21 }) (va_Pc [.ref x0, .int k, .int w] (fun U => U.heap.size = sz ∧ n0 ≤ sz ∧ GW n0 U ∧ va_P (dC, dI) classes [(x0, .inr (11, [.ref rd, .ref dr, .ref bk, .ref st, .ref nw, .ref tr, .ref pl, .ref fl, .ref rg, .int tb, .int ft, .int pc])), (bk, .inr (0, [.int 0, .ref bk_tail, .ref bk_head, .ref bk_hinder, .ref bk_size, .ref bk_walk, .ref bk_draught, .ref bk_doorIn, .ref bk_fanIn, .ref bk_faceIn, .int 0, .int (-1), .ref gr])), (gr, .inr (3, [.int 0, .ref gr_doorBy, .int 0, .ref gr_pairFirst, .ref gr_pairSecond, .int 0, .ref gr_fanPush, .ref gr_fanFall, .ref gr_fanCost, .int 0, .ref gr_faceWay, .ref gr_faceGas, .ref gr_faceNeed]))] U.heap ∧ va_K (dC, dI) classes [] U ∧ va_D (fun q => n0 ≤ q) [(x0, .inr (11, [.ref rd, .ref dr, .ref bk, .ref st, .ref nw, .ref tr, .ref pl, .ref fl, .ref rg, .int tb, .int ft, .int pc])), (bk, .inr (0, [.int 0, .ref bk_tail, .ref bk_head, .ref bk_hinder, .ref bk_size, .ref bk_walk, .ref bk_draught, .ref bk_doorIn, .ref bk_fanIn, .ref bk_faceIn, .int 0, .int (-1), .ref gr])), (gr, .inr (3, [.int 0, .ref gr_doorBy, .int 0, .ref gr_pairFirst, .ref gr_pairSecond, .int 0, .ref gr_fanPush, .ref gr_fanFall, .ref gr_fanCost, .int 0, .ref gr_faceWay, .ref gr_faceGas, .ref gr_faceNeed]))])) (va_Qi (fun (r : Int32) (_ : Unit) => r = 0) (fun (_ : Unit) (t : State) => va_P (dC, dI) classes [(x0, .inr (11, [.ref rd, .ref dr, .ref bk, .ref st, .ref nw, .ref tr, .ref pl, .ref fl, .ref rg, .int tb, .int ft, .int pc])), (bk, .inr (0, [.int 0, .ref bk_tail, .ref bk_head, .ref bk_hinder, .ref bk_size, .ref bk_walk, .ref bk_draught, .ref bk_doorIn, .ref bk_fanIn, .ref bk_faceIn, .int 0, .int (-1), .ref gr])), (gr, .inr (3, [.int 0, .ref gr_doorBy, .int 0, .ref gr_pairFirst, .ref gr_pairSecond, .int 0, .ref gr_fanPush, .ref gr_fanFall, .ref gr_fanCost, .int 0, .ref gr_faceWay, .ref gr_faceGas, .ref gr_faceNeed]))] t.heap ∧ va_K (dC, dI) classes [] t ∧ va_D (va_A [(x0, .inr (11, [.ref rd, .ref dr, .ref bk, .ref st, .ref nw, .ref tr, .ref pl, .ref fl, .ref rg, .int tb, .int ft, .int pc])), (bk, .inr (0, [.int 0, .ref bk_tail, .ref bk_head, .ref bk_hinder, .ref bk_size, .ref bk_walk, .ref bk_draught, .ref bk_doorIn, .ref bk_fanIn, .ref bk_faceIn, .int 0, .int (-1), .ref gr])), (gr, .inr (3, [.int 0, .ref gr_doorBy, .int 0, .ref gr_pairFirst, .ref gr_pairSecond, .int 0, .ref gr_fanPush, .ref gr_fanFall, .ref gr_fanCost, .int 0, .ref gr_faceWay, .ref gr_faceGas, .ref gr_faceNeed]))] sz) [(x0, .inr (11, [.ref rd, .ref dr, .ref bk, .ref st, .ref nw, .ref tr, .ref pl, .ref fl, .ref rg, .int tb, .int ft, .int pc])), (bk, .inr (0, [.int 0, .ref bk_tail, .ref bk_head, .ref bk_hinder, .ref bk_size, .ref bk_walk, .ref bk_draught, .ref bk_doorIn, .ref bk_fanIn, .ref bk_faceIn, .int 0, .int (-1), .ref gr])), (gr, .inr (3, [.int 0, .ref gr_doorBy, .int 0, .ref gr_pairFirst, .ref gr_pairSecond, .int 0, .ref gr_fanPush, .ref gr_fanFall, .ref gr_fanCost, .int 0, .ref gr_faceWay, .ref gr_faceGas, .ref gr_faceNeed]))]) (va_A [(x0, .inr (11, [.ref rd, .ref dr, .ref bk, .ref st, .ref nw, .ref tr, .ref pl, .ref fl, .ref rg, .int tb, .int ft, .int pc])), (bk, .inr (0, [.int 0, .ref bk_tail, .ref bk_head, .ref bk_hinder, .ref bk_size, .ref bk_walk, .ref bk_draught, .ref bk_doorIn, .ref bk_fanIn, .ref bk_faceIn, .int 0, .int (-1), .ref gr])), (gr, .inr (3, [.int 0, .ref gr_doorBy, .int 0, .ref gr_pairFirst, .ref gr_pairSecond, .int 0, .ref gr_fanPush, .ref gr_fanFall, .ref gr_fanCost, .int 0, .ref gr_faceWay, .ref gr_faceGas, .ref gr_faceNeed]))] sz)) 0 0 (va_A [(x0, .inr (11, [.ref rd, .ref dr, .ref bk, .ref st, .ref nw, .ref tr, .ref pl, .ref fl, .ref rg, .int tb, .int ft, .int pc])), (bk, .inr (0, [.int 0, .ref bk_tail, .ref bk_head, .ref bk_hinder, .ref bk_size, .ref bk_walk, .ref bk_draught, .ref bk_doorIn, .ref bk_fanIn, .ref bk_faceIn, .int 0, .int (-1), .ref gr])), (gr, .inr (3, [.int 0, .ref gr_doorBy, .int 0, .ref gr_pairFirst, .ref gr_pairSecond, .int 0, .ref gr_fanPush, .ref gr_fanFall, .ref gr_fanCost, .int 0, .ref gr_faceWay, .ref gr_faceGas, .ref gr_faceNeed]))] sz) := by
  refine Met.ofW (cc := cX11_isTarget) (maxL := 3) (ret := (some .boolean)) (by decide) rfl ?_
  intro p e s m args below meth c s₁ B hml hv
  obtain ⟨rfl, hsz, hn0, hG, hP, hK, hD0⟩ := hv
  have hx := B.exec
  have hb := B.bytes
  have hr := B.returns
  have hts := atoms_spec (ws := wM yX11_isTarget cX11_isTarget 3 (some .boolean)) B.pre
  have hown : s.vm.findClass RX11 = some m.cls := findClass_of_methodNamed B.named
  have hlocks := B.notSynchronized
  subst hsz
  have hD := hD0.self (sz := s.heap.size)
  have hA0 := vA_n0 hD0 hn0
  generalize hAe : va_A [(x0, .inr (11, [.ref rd, .ref dr, .ref bk, .ref st, .ref nw, .ref tr, .ref pl, .ref fl, .ref rg, .int tb, .int ft, .int pc])), (bk, .inr (0, [.int 0, .ref bk_tail, .ref bk_head, .ref bk_hinder, .ref bk_size, .ref bk_walk, .ref bk_draught, .ref bk_doorIn, .ref bk_fanIn, .ref bk_faceIn, .int 0, .int (-1), .ref gr])), (gr, .inr (3, [.int 0, .ref gr_doorBy, .int 0, .ref gr_pairFirst, .ref gr_pairSecond, .int 0, .ref gr_fanPush, .ref gr_fanFall, .ref gr_fanCost, .int 0, .ref gr_faceWay, .ref gr_faceGas, .ref gr_faceNeed]))] s.heap.size = A at hD hA0 ⊢
  have hA : ∀ q : Nat, s.heap.size ≤ q → A q := fun q h => by rw [← hAe]; exact Or.inr h
  have hS : va_S A s.heap s.heap [] := va_S.rf
  have hl := lv_entry ([.ref x0, .int k, .int w]) (n := 3) (Nat.le_of_ble_eq_true rfl)
  rw [lg_entry_eq]
  generalize (lg_sl ([.ref x0, .int k, .int w]) ++ List.replicate (3 - (lg_sl ([.ref x0, .int k, .int w])).length) Slot.unset).toArray = ls at hl ⊢
  have hl : lv_has ls 3 [(0, .ref x0), (1, .int k), (2, .int w)] := hl
  refine lv_iload_n hx hb dX11_isTarget_0 rfl (lv_at hl 1 rfl) ?_
  rcases sw_0_2 k with sw_1 | sw_1 | sw_1 | sw_1
  · refine lv_tableOut (tgt := 46) hx hb dX11_isTarget_1 sw_1 (by decide) ?_
    refine lv_iconst (v := 0) hx hb dX11_isTarget_46 (by decide) ?_
    have hP9 := hP.sub (ws' := [(x0, .inr (11, [.ref rd, .ref dr, .ref bk, .ref st, .ref nw, .ref tr, .ref pl, .ref fl, .ref rg, .int tb, .int ft, .int pc])), (bk, .inr (0, [.int 0, .ref bk_tail, .ref bk_head, .ref bk_hinder, .ref bk_size, .ref bk_walk, .ref bk_draught, .ref bk_doorIn, .ref bk_fanIn, .ref bk_faceIn, .int 0, .int (-1), .ref gr])), (gr, .inr (3, [.int 0, .ref gr_doorBy, .int 0, .ref gr_pairFirst, .ref gr_pairSecond, .int 0, .ref gr_fanPush, .ref gr_fanFall, .ref gr_fanCost, .int 0, .ref gr_faceWay, .ref gr_faceGas, .ref gr_faceNeed]))]) [0, 1, 2] rfl
    have hD9 := hD.sub (ws' := [(x0, .inr (11, [.ref rd, .ref dr, .ref bk, .ref st, .ref nw, .ref tr, .ref pl, .ref fl, .ref rg, .int tb, .int ft, .int pc])), (bk, .inr (0, [.int 0, .ref bk_tail, .ref bk_head, .ref bk_hinder, .ref bk_size, .ref bk_walk, .ref bk_draught, .ref bk_doorIn, .ref bk_fanIn, .ref bk_faceIn, .int 0, .int (-1), .ref gr])), (gr, .inr (3, [.int 0, .ref gr_doorBy, .int 0, .ref gr_pairFirst, .ref gr_pairSecond, .int 0, .ref gr_fanPush, .ref gr_fanFall, .ref gr_fanCost, .int 0, .ref gr_faceWay, .ref gr_faceGas, .ref gr_faceNeed]))]) [0, 1, 2] (by decide) rfl
    have hK9 := hK.sub (tys' := []) [] rfl
    exact W.zret (v := 0) hx hb hr rfl (fun t ht hW => ⟨⟨0, (), rfl, rfl, by rw [ht]; exact hP9, va_K.moved hW.alike hK9, hD9⟩, hS.F ht⟩) hS.2.2 dX11_isTarget_47
  · refine lv_tableIn (off := 27) (tgt := 28) hx hb dX11_isTarget_1 (by rw [sw_1]; decide) (by rw [sw_1]; decide) (by rw [sw_1]; decide) (by decide) ?_
    refine lv_aload_n hx hb dX11_isTarget_28 rfl (lv_at hl 0 rfl) ?_
    refine lv_iload_n hx hb dX11_isTarget_29 rfl (lv_at hl 2 rfl) ?_
    have hPc := hP.sub (ws' := [(x0, .inr (11, [.ref rd, .ref dr, .ref bk, .ref st, .ref nw, .ref tr, .ref pl, .ref fl, .ref rg, .int tb, .int ft, .int pc])), (bk, .inr (0, [.int 0, .ref bk_tail, .ref bk_head, .ref bk_hinder, .ref bk_size, .ref bk_walk, .ref bk_draught, .ref bk_doorIn, .ref bk_fanIn, .ref bk_faceIn, .int 0, .int (-1), .ref gr])), (gr, .inr (3, [.int 0, .ref gr_doorBy, .int 0, .ref gr_pairFirst, .ref gr_pairSecond, .int 0, .ref gr_fanPush, .ref gr_fanFall, .ref gr_fanCost, .int 0, .ref gr_faceWay, .ref gr_faceGas, .ref gr_faceNeed]))]) [0, 1, 2] rfl
    have hDc := hD.sub (ws' := [(x0, .inr (11, [.ref rd, .ref dr, .ref bk, .ref st, .ref nw, .ref tr, .ref pl, .ref fl, .ref rg, .int tb, .int ft, .int pc])), (bk, .inr (0, [.int 0, .ref bk_tail, .ref bk_head, .ref bk_hinder, .ref bk_size, .ref bk_walk, .ref bk_draught, .ref bk_doorIn, .ref bk_fanIn, .ref bk_faceIn, .int 0, .int (-1), .ref gr])), (gr, .inr (3, [.int 0, .ref gr_doorBy, .int 0, .ref gr_pairFirst, .ref gr_pairSecond, .int 0, .ref gr_fanPush, .ref gr_fanFall, .ref gr_fanCost, .int 0, .ref gr_faceWay, .ref gr_faceGas, .ref gr_faceNeed]))]) [0, 1, 2] (by decide) rfl
    have hKc := hK.sub (tys' := []) [] rfl
    have hFc := va_free (wc := [(x0, .inr (11, [.ref rd, .ref dr, .ref bk, .ref st, .ref nw, .ref tr, .ref pl, .ref fl, .ref rg, .int tb, .int ft, .int pc])), (bk, .inr (0, [.int 0, .ref bk_tail, .ref bk_head, .ref bk_hinder, .ref bk_size, .ref bk_walk, .ref bk_draught, .ref bk_doorIn, .ref bk_fanIn, .ref bk_faceIn, .int 0, .int (-1), .ref gr])), (gr, .inr (3, [.int 0, .ref gr_doorBy, .int 0, .ref gr_pairFirst, .ref gr_pairSecond, .int 0, .ref gr_fanPush, .ref gr_fanFall, .ref gr_fanCost, .int 0, .ref gr_faceWay, .ref gr_faceGas, .ref gr_faceNeed]))]) hD hS hA [0, 1, 2] rfl
    refine va_calli (va_runV (As := [.int w]) (rest := []) ⟨hx, hb, hml, hown, hts⟩ (c_isDoor l dC dI n0 s.heap.size x0 rd dr bk st nw tr pl fl rg tb ft pc bk_tail bk_head bk_hinder bk_size bk_walk bk_draught bk_doorIn bk_fanIn bk_faceIn gr gr_doorBy gr_pairFirst gr_pairSecond gr_fanPush gr_fanFall gr_fanCost gr_faceWay gr_faceGas gr_faceNeed w ) (cwV 1 hts (gV (fun w h => wM_c h) wd_966 wd_963 wd_965 wd_26 wd_114) rfl rfl rfl (by decide +kernel) ⟨Nat.le_of_ble_eq_true rfl, Nat.le_of_ble_eq_true rfl⟩) ⟨fun a U g mk q => by obtain ⟨q0, q1, q2, qG, qP, qK, qD⟩ := q; exact ⟨q0, q1, q2, GW.blind qG, qP, va_K.moved (u := U) (U := U.calling g mk a) (Vm.Alike.refl U.vm) qK, qD⟩, va_recv hKc hPc (ci := 11) (q0 := 0) rfl rfl, fun U hU hW => ⟨rfl, by rw [hU], Nat.le_trans hn0 hS.1, GW.go hW hU hG (fun q hq hA9 => hS.2.1 q hq (fun h => hA9 (hA0 q h))), by rw [hU]; exact hPc, va_K.moved hW.alike hKc, hDc.weaken (fun _ _ _ h => hA0 _ h)⟩⟩ rfl rfl hl.1 rfl (lv_room (Nat.le_of_ble_eq_true rfl)) dX11_isTarget_30 ⟨Nat.le_of_ble_eq_true rfl, Nat.le_of_ble_eq_true rfl⟩) hS (fun q _ h => hFc q h) hFc (fun r_2 u t H1 locs ht hvm hw_3 hB hz1 hk1 hS => ?_)
    obtain ⟨hP1, hK1, hD1⟩ := hB
    rw [ht] at hP1
    obtain ⟨hP, hD⟩ := va_join (wr := []) (w1 := [(x0, .inr (11, [.ref rd, .ref dr, .ref bk, .ref st, .ref nw, .ref tr, .ref pl, .ref fl, .ref rg, .int tb, .int ft, .int pc])), (bk, .inr (0, [.int 0, .ref bk_tail, .ref bk_head, .ref bk_hinder, .ref bk_size, .ref bk_walk, .ref bk_draught, .ref bk_doorIn, .ref bk_fanIn, .ref bk_faceIn, .int 0, .int (-1), .ref gr])), (gr, .inr (3, [.int 0, .ref gr_doorBy, .int 0, .ref gr_pairFirst, .ref gr_pairSecond, .int 0, .ref gr_fanPush, .ref gr_fanFall, .ref gr_fanCost, .int 0, .ref gr_faceWay, .ref gr_faceGas, .ref gr_faceNeed]))]) hP hD [0, 1, 2] [] rfl rfl (by decide) (by decide) hk1 hFc hP1 hD1
    generalize H1 = H at hP hS ⊢
    have hP : va_P (dC, dI) classes [(x0, .inr (11, [.ref rd, .ref dr, .ref bk, .ref st, .ref nw, .ref tr, .ref pl, .ref fl, .ref rg, .int tb, .int ft, .int pc])), (bk, .inr (0, [.int 0, .ref bk_tail, .ref bk_head, .ref bk_hinder, .ref bk_size, .ref bk_walk, .ref bk_draught, .ref bk_doorIn, .ref bk_fanIn, .ref bk_faceIn, .int 0, .int (-1), .ref gr])), (gr, .inr (3, [.int 0, .ref gr_doorBy, .int 0, .ref gr_pairFirst, .ref gr_pairSecond, .int 0, .ref gr_fanPush, .ref gr_fanFall, .ref gr_fanCost, .int 0, .ref gr_faceWay, .ref gr_faceGas, .ref gr_faceNeed]))] H := hP
    have hD : va_D A [(x0, .inr (11, [.ref rd, .ref dr, .ref bk, .ref st, .ref nw, .ref tr, .ref pl, .ref fl, .ref rg, .int tb, .int ft, .int pc])), (bk, .inr (0, [.int 0, .ref bk_tail, .ref bk_head, .ref bk_hinder, .ref bk_size, .ref bk_walk, .ref bk_draught, .ref bk_doorIn, .ref bk_fanIn, .ref bk_faceIn, .int 0, .int (-1), .ref gr])), (gr, .inr (3, [.int 0, .ref gr_doorBy, .int 0, .ref gr_pairFirst, .ref gr_pairSecond, .int 0, .ref gr_fanPush, .ref gr_fanFall, .ref gr_fanCost, .int 0, .ref gr_faceWay, .ref gr_faceGas, .ref gr_faceNeed]))] := hD
    obtain rfl : r_2 = 0 := hw_3
    have hP9 := hP.sub (ws' := [(x0, .inr (11, [.ref rd, .ref dr, .ref bk, .ref st, .ref nw, .ref tr, .ref pl, .ref fl, .ref rg, .int tb, .int ft, .int pc])), (bk, .inr (0, [.int 0, .ref bk_tail, .ref bk_head, .ref bk_hinder, .ref bk_size, .ref bk_walk, .ref bk_draught, .ref bk_doorIn, .ref bk_fanIn, .ref bk_faceIn, .int 0, .int (-1), .ref gr])), (gr, .inr (3, [.int 0, .ref gr_doorBy, .int 0, .ref gr_pairFirst, .ref gr_pairSecond, .int 0, .ref gr_fanPush, .ref gr_fanFall, .ref gr_fanCost, .int 0, .ref gr_faceWay, .ref gr_faceGas, .ref gr_faceNeed]))]) [0, 1, 2] rfl
    have hD9 := hD.sub (ws' := [(x0, .inr (11, [.ref rd, .ref dr, .ref bk, .ref st, .ref nw, .ref tr, .ref pl, .ref fl, .ref rg, .int tb, .int ft, .int pc])), (bk, .inr (0, [.int 0, .ref bk_tail, .ref bk_head, .ref bk_hinder, .ref bk_size, .ref bk_walk, .ref bk_draught, .ref bk_doorIn, .ref bk_fanIn, .ref bk_faceIn, .int 0, .int (-1), .ref gr])), (gr, .inr (3, [.int 0, .ref gr_doorBy, .int 0, .ref gr_pairFirst, .ref gr_pairSecond, .int 0, .ref gr_fanPush, .ref gr_fanFall, .ref gr_fanCost, .int 0, .ref gr_faceWay, .ref gr_faceGas, .ref gr_faceNeed]))]) [0, 1, 2] (by decide) rfl
    have hK9 := hK.sub (tys' := []) [] rfl
    exact W.zret (v := 0) hx hb hr rfl (fun t ht hW => ⟨⟨0, (), rfl, rfl, by rw [ht]; exact hP9, va_K.moved hW.alike hK9, hD9⟩, hS.F ht⟩) hS.2.2 dX11_isTarget_33
  · refine lv_tableIn (off := 33) (tgt := 34) hx hb dX11_isTarget_1 (by rw [sw_1]; decide) (by rw [sw_1]; decide) (by rw [sw_1]; decide) (by decide) ?_
    refine lv_aload_n hx hb dX11_isTarget_34 rfl (lv_at hl 0 rfl) ?_
    refine lv_iload_n hx hb dX11_isTarget_35 rfl (lv_at hl 2 rfl) ?_
    have hPc := hP.sub (ws' := [(x0, .inr (11, [.ref rd, .ref dr, .ref bk, .ref st, .ref nw, .ref tr, .ref pl, .ref fl, .ref rg, .int tb, .int ft, .int pc])), (bk, .inr (0, [.int 0, .ref bk_tail, .ref bk_head, .ref bk_hinder, .ref bk_size, .ref bk_walk, .ref bk_draught, .ref bk_doorIn, .ref bk_fanIn, .ref bk_faceIn, .int 0, .int (-1), .ref gr])), (gr, .inr (3, [.int 0, .ref gr_doorBy, .int 0, .ref gr_pairFirst, .ref gr_pairSecond, .int 0, .ref gr_fanPush, .ref gr_fanFall, .ref gr_fanCost, .int 0, .ref gr_faceWay, .ref gr_faceGas, .ref gr_faceNeed]))]) [0, 1, 2] rfl
    have hDc := hD.sub (ws' := [(x0, .inr (11, [.ref rd, .ref dr, .ref bk, .ref st, .ref nw, .ref tr, .ref pl, .ref fl, .ref rg, .int tb, .int ft, .int pc])), (bk, .inr (0, [.int 0, .ref bk_tail, .ref bk_head, .ref bk_hinder, .ref bk_size, .ref bk_walk, .ref bk_draught, .ref bk_doorIn, .ref bk_fanIn, .ref bk_faceIn, .int 0, .int (-1), .ref gr])), (gr, .inr (3, [.int 0, .ref gr_doorBy, .int 0, .ref gr_pairFirst, .ref gr_pairSecond, .int 0, .ref gr_fanPush, .ref gr_fanFall, .ref gr_fanCost, .int 0, .ref gr_faceWay, .ref gr_faceGas, .ref gr_faceNeed]))]) [0, 1, 2] (by decide) rfl
    have hKc := hK.sub (tys' := []) [] rfl
    have hFc := va_free (wc := [(x0, .inr (11, [.ref rd, .ref dr, .ref bk, .ref st, .ref nw, .ref tr, .ref pl, .ref fl, .ref rg, .int tb, .int ft, .int pc])), (bk, .inr (0, [.int 0, .ref bk_tail, .ref bk_head, .ref bk_hinder, .ref bk_size, .ref bk_walk, .ref bk_draught, .ref bk_doorIn, .ref bk_fanIn, .ref bk_faceIn, .int 0, .int (-1), .ref gr])), (gr, .inr (3, [.int 0, .ref gr_doorBy, .int 0, .ref gr_pairFirst, .ref gr_pairSecond, .int 0, .ref gr_fanPush, .ref gr_fanFall, .ref gr_fanCost, .int 0, .ref gr_faceWay, .ref gr_faceGas, .ref gr_faceNeed]))]) hD hS hA [0, 1, 2] rfl
    refine va_calli (va_runV (As := [.int w]) (rest := []) ⟨hx, hb, hml, hown, hts⟩ (c_isFan l dC dI n0 s.heap.size x0 rd dr bk st nw tr pl fl rg tb ft pc bk_tail bk_head bk_hinder bk_size bk_walk bk_draught bk_doorIn bk_fanIn bk_faceIn gr gr_doorBy gr_pairFirst gr_pairSecond gr_fanPush gr_fanFall gr_fanCost gr_faceWay gr_faceGas gr_faceNeed w ) (cwV 1 hts (gV (fun w h => wM_c h) wd_982 wd_979 wd_981 wd_29 wd_114) rfl rfl rfl (by decide +kernel) ⟨Nat.le_of_ble_eq_true rfl, Nat.le_of_ble_eq_true rfl⟩) ⟨fun a U g mk q => by obtain ⟨q0, q1, q2, qG, qP, qK, qD⟩ := q; exact ⟨q0, q1, q2, GW.blind qG, qP, va_K.moved (u := U) (U := U.calling g mk a) (Vm.Alike.refl U.vm) qK, qD⟩, va_recv hKc hPc (ci := 11) (q0 := 0) rfl rfl, fun U hU hW => ⟨rfl, by rw [hU], Nat.le_trans hn0 hS.1, GW.go hW hU hG (fun q hq hA9 => hS.2.1 q hq (fun h => hA9 (hA0 q h))), by rw [hU]; exact hPc, va_K.moved hW.alike hKc, hDc.weaken (fun _ _ _ h => hA0 _ h)⟩⟩ rfl rfl hl.1 rfl (lv_room (Nat.le_of_ble_eq_true rfl)) dX11_isTarget_36 ⟨Nat.le_of_ble_eq_true rfl, Nat.le_of_ble_eq_true rfl⟩) hS (fun q _ h => hFc q h) hFc (fun r_4 u t H1 locs ht hvm hw_5 hB hz1 hk1 hS => ?_)
    obtain ⟨hP1, hK1, hD1⟩ := hB
    rw [ht] at hP1
    obtain ⟨hP, hD⟩ := va_join (wr := []) (w1 := [(x0, .inr (11, [.ref rd, .ref dr, .ref bk, .ref st, .ref nw, .ref tr, .ref pl, .ref fl, .ref rg, .int tb, .int ft, .int pc])), (bk, .inr (0, [.int 0, .ref bk_tail, .ref bk_head, .ref bk_hinder, .ref bk_size, .ref bk_walk, .ref bk_draught, .ref bk_doorIn, .ref bk_fanIn, .ref bk_faceIn, .int 0, .int (-1), .ref gr])), (gr, .inr (3, [.int 0, .ref gr_doorBy, .int 0, .ref gr_pairFirst, .ref gr_pairSecond, .int 0, .ref gr_fanPush, .ref gr_fanFall, .ref gr_fanCost, .int 0, .ref gr_faceWay, .ref gr_faceGas, .ref gr_faceNeed]))]) hP hD [0, 1, 2] [] rfl rfl (by decide) (by decide) hk1 hFc hP1 hD1
    generalize H1 = H at hP hS ⊢
    have hP : va_P (dC, dI) classes [(x0, .inr (11, [.ref rd, .ref dr, .ref bk, .ref st, .ref nw, .ref tr, .ref pl, .ref fl, .ref rg, .int tb, .int ft, .int pc])), (bk, .inr (0, [.int 0, .ref bk_tail, .ref bk_head, .ref bk_hinder, .ref bk_size, .ref bk_walk, .ref bk_draught, .ref bk_doorIn, .ref bk_fanIn, .ref bk_faceIn, .int 0, .int (-1), .ref gr])), (gr, .inr (3, [.int 0, .ref gr_doorBy, .int 0, .ref gr_pairFirst, .ref gr_pairSecond, .int 0, .ref gr_fanPush, .ref gr_fanFall, .ref gr_fanCost, .int 0, .ref gr_faceWay, .ref gr_faceGas, .ref gr_faceNeed]))] H := hP
    have hD : va_D A [(x0, .inr (11, [.ref rd, .ref dr, .ref bk, .ref st, .ref nw, .ref tr, .ref pl, .ref fl, .ref rg, .int tb, .int ft, .int pc])), (bk, .inr (0, [.int 0, .ref bk_tail, .ref bk_head, .ref bk_hinder, .ref bk_size, .ref bk_walk, .ref bk_draught, .ref bk_doorIn, .ref bk_fanIn, .ref bk_faceIn, .int 0, .int (-1), .ref gr])), (gr, .inr (3, [.int 0, .ref gr_doorBy, .int 0, .ref gr_pairFirst, .ref gr_pairSecond, .int 0, .ref gr_fanPush, .ref gr_fanFall, .ref gr_fanCost, .int 0, .ref gr_faceWay, .ref gr_faceGas, .ref gr_faceNeed]))] := hD
    obtain rfl : r_4 = 0 := hw_5
    have hP9 := hP.sub (ws' := [(x0, .inr (11, [.ref rd, .ref dr, .ref bk, .ref st, .ref nw, .ref tr, .ref pl, .ref fl, .ref rg, .int tb, .int ft, .int pc])), (bk, .inr (0, [.int 0, .ref bk_tail, .ref bk_head, .ref bk_hinder, .ref bk_size, .ref bk_walk, .ref bk_draught, .ref bk_doorIn, .ref bk_fanIn, .ref bk_faceIn, .int 0, .int (-1), .ref gr])), (gr, .inr (3, [.int 0, .ref gr_doorBy, .int 0, .ref gr_pairFirst, .ref gr_pairSecond, .int 0, .ref gr_fanPush, .ref gr_fanFall, .ref gr_fanCost, .int 0, .ref gr_faceWay, .ref gr_faceGas, .ref gr_faceNeed]))]) [0, 1, 2] rfl
    have hD9 := hD.sub (ws' := [(x0, .inr (11, [.ref rd, .ref dr, .ref bk, .ref st, .ref nw, .ref tr, .ref pl, .ref fl, .ref rg, .int tb, .int ft, .int pc])), (bk, .inr (0, [.int 0, .ref bk_tail, .ref bk_head, .ref bk_hinder, .ref bk_size, .ref bk_walk, .ref bk_draught, .ref bk_doorIn, .ref bk_fanIn, .ref bk_faceIn, .int 0, .int (-1), .ref gr])), (gr, .inr (3, [.int 0, .ref gr_doorBy, .int 0, .ref gr_pairFirst, .ref gr_pairSecond, .int 0, .ref gr_fanPush, .ref gr_fanFall, .ref gr_fanCost, .int 0, .ref gr_faceWay, .ref gr_faceGas, .ref gr_faceNeed]))]) [0, 1, 2] (by decide) rfl
    have hK9 := hK.sub (tys' := []) [] rfl
    exact W.zret (v := 0) hx hb hr rfl (fun t ht hW => ⟨⟨0, (), rfl, rfl, by rw [ht]; exact hP9, va_K.moved hW.alike hK9, hD9⟩, hS.F ht⟩) hS.2.2 dX11_isTarget_39
  · refine lv_tableIn (off := 39) (tgt := 40) hx hb dX11_isTarget_1 (by rw [sw_1]; decide) (by rw [sw_1]; decide) (by rw [sw_1]; decide) (by decide) ?_
    refine lv_aload_n hx hb dX11_isTarget_40 rfl (lv_at hl 0 rfl) ?_
    refine lv_iload_n hx hb dX11_isTarget_41 rfl (lv_at hl 2 rfl) ?_
    have hPc := hP.sub (ws' := [(x0, .inr (11, [.ref rd, .ref dr, .ref bk, .ref st, .ref nw, .ref tr, .ref pl, .ref fl, .ref rg, .int tb, .int ft, .int pc])), (bk, .inr (0, [.int 0, .ref bk_tail, .ref bk_head, .ref bk_hinder, .ref bk_size, .ref bk_walk, .ref bk_draught, .ref bk_doorIn, .ref bk_fanIn, .ref bk_faceIn, .int 0, .int (-1), .ref gr]))]) [0, 1] rfl
    have hDc := hD.sub (ws' := [(x0, .inr (11, [.ref rd, .ref dr, .ref bk, .ref st, .ref nw, .ref tr, .ref pl, .ref fl, .ref rg, .int tb, .int ft, .int pc])), (bk, .inr (0, [.int 0, .ref bk_tail, .ref bk_head, .ref bk_hinder, .ref bk_size, .ref bk_walk, .ref bk_draught, .ref bk_doorIn, .ref bk_fanIn, .ref bk_faceIn, .int 0, .int (-1), .ref gr]))]) [0, 1] (by decide) rfl
    have hKc := hK.sub (tys' := []) [] rfl
    have hFc := va_free (wc := [(x0, .inr (11, [.ref rd, .ref dr, .ref bk, .ref st, .ref nw, .ref tr, .ref pl, .ref fl, .ref rg, .int tb, .int ft, .int pc])), (bk, .inr (0, [.int 0, .ref bk_tail, .ref bk_head, .ref bk_hinder, .ref bk_size, .ref bk_walk, .ref bk_draught, .ref bk_doorIn, .ref bk_fanIn, .ref bk_faceIn, .int 0, .int (-1), .ref gr]))]) hD hS hA [0, 1] rfl
    refine va_calli (va_runV (As := [.int w]) (rest := []) ⟨hx, hb, hml, hown, hts⟩ (c_isWay l dC dI n0 s.heap.size x0 rd dr bk st nw tr pl fl rg tb ft pc bk_tail bk_head bk_hinder bk_size bk_walk bk_draught bk_doorIn bk_fanIn bk_faceIn gr w ) (cwV 1 hts (gV (fun w h => wM_c h) wd_950 wd_947 wd_949 wd_25 wd_114) rfl rfl rfl (by decide +kernel) ⟨Nat.le_of_ble_eq_true rfl, Nat.le_of_ble_eq_true rfl⟩) ⟨fun a U g mk q => by obtain ⟨q0, q1, q2, qG, qP, qK, qD⟩ := q; exact ⟨q0, q1, q2, GW.blind qG, qP, va_K.moved (u := U) (U := U.calling g mk a) (Vm.Alike.refl U.vm) qK, qD⟩, va_recv hKc hPc (ci := 11) (q0 := 0) rfl rfl, fun U hU hW => ⟨rfl, by rw [hU], Nat.le_trans hn0 hS.1, GW.go hW hU hG (fun q hq hA9 => hS.2.1 q hq (fun h => hA9 (hA0 q h))), by rw [hU]; exact hPc, va_K.moved hW.alike hKc, hDc.weaken (fun _ _ _ h => hA0 _ h)⟩⟩ rfl rfl hl.1 rfl (lv_room (Nat.le_of_ble_eq_true rfl)) dX11_isTarget_42 ⟨Nat.le_of_ble_eq_true rfl, Nat.le_of_ble_eq_true rfl⟩) hS (fun q _ h => hFc q h) hFc (fun r_6 u t H1 locs ht hvm hw_7 hB hz1 hk1 hS => ?_)
    obtain ⟨hP1, hK1, hD1⟩ := hB
    rw [ht] at hP1
    obtain ⟨hP, hD⟩ := va_join (wr := [(gr, .inr (3, [.int 0, .ref gr_doorBy, .int 0, .ref gr_pairFirst, .ref gr_pairSecond, .int 0, .ref gr_fanPush, .ref gr_fanFall, .ref gr_fanCost, .int 0, .ref gr_faceWay, .ref gr_faceGas, .ref gr_faceNeed]))]) (w1 := [(x0, .inr (11, [.ref rd, .ref dr, .ref bk, .ref st, .ref nw, .ref tr, .ref pl, .ref fl, .ref rg, .int tb, .int ft, .int pc])), (bk, .inr (0, [.int 0, .ref bk_tail, .ref bk_head, .ref bk_hinder, .ref bk_size, .ref bk_walk, .ref bk_draught, .ref bk_doorIn, .ref bk_fanIn, .ref bk_faceIn, .int 0, .int (-1), .ref gr]))]) hP hD [0, 1] [2] rfl rfl (by decide) (by decide) hk1 hFc hP1 hD1
    generalize H1 = H at hP hS ⊢
    have hP : va_P (dC, dI) classes [(gr, .inr (3, [.int 0, .ref gr_doorBy, .int 0, .ref gr_pairFirst, .ref gr_pairSecond, .int 0, .ref gr_fanPush, .ref gr_fanFall, .ref gr_fanCost, .int 0, .ref gr_faceWay, .ref gr_faceGas, .ref gr_faceNeed])), (x0, .inr (11, [.ref rd, .ref dr, .ref bk, .ref st, .ref nw, .ref tr, .ref pl, .ref fl, .ref rg, .int tb, .int ft, .int pc])), (bk, .inr (0, [.int 0, .ref bk_tail, .ref bk_head, .ref bk_hinder, .ref bk_size, .ref bk_walk, .ref bk_draught, .ref bk_doorIn, .ref bk_fanIn, .ref bk_faceIn, .int 0, .int (-1), .ref gr]))] H := hP
    have hD : va_D A [(gr, .inr (3, [.int 0, .ref gr_doorBy, .int 0, .ref gr_pairFirst, .ref gr_pairSecond, .int 0, .ref gr_fanPush, .ref gr_fanFall, .ref gr_fanCost, .int 0, .ref gr_faceWay, .ref gr_faceGas, .ref gr_faceNeed])), (x0, .inr (11, [.ref rd, .ref dr, .ref bk, .ref st, .ref nw, .ref tr, .ref pl, .ref fl, .ref rg, .int tb, .int ft, .int pc])), (bk, .inr (0, [.int 0, .ref bk_tail, .ref bk_head, .ref bk_hinder, .ref bk_size, .ref bk_walk, .ref bk_draught, .ref bk_doorIn, .ref bk_fanIn, .ref bk_faceIn, .int 0, .int (-1), .ref gr]))] := hD
    obtain rfl : r_6 = 0 := hw_7
    have hP9 := hP.sub (ws' := [(x0, .inr (11, [.ref rd, .ref dr, .ref bk, .ref st, .ref nw, .ref tr, .ref pl, .ref fl, .ref rg, .int tb, .int ft, .int pc])), (bk, .inr (0, [.int 0, .ref bk_tail, .ref bk_head, .ref bk_hinder, .ref bk_size, .ref bk_walk, .ref bk_draught, .ref bk_doorIn, .ref bk_fanIn, .ref bk_faceIn, .int 0, .int (-1), .ref gr])), (gr, .inr (3, [.int 0, .ref gr_doorBy, .int 0, .ref gr_pairFirst, .ref gr_pairSecond, .int 0, .ref gr_fanPush, .ref gr_fanFall, .ref gr_fanCost, .int 0, .ref gr_faceWay, .ref gr_faceGas, .ref gr_faceNeed]))]) [1, 2, 0] rfl
    have hD9 := hD.sub (ws' := [(x0, .inr (11, [.ref rd, .ref dr, .ref bk, .ref st, .ref nw, .ref tr, .ref pl, .ref fl, .ref rg, .int tb, .int ft, .int pc])), (bk, .inr (0, [.int 0, .ref bk_tail, .ref bk_head, .ref bk_hinder, .ref bk_size, .ref bk_walk, .ref bk_draught, .ref bk_doorIn, .ref bk_fanIn, .ref bk_faceIn, .int 0, .int (-1), .ref gr])), (gr, .inr (3, [.int 0, .ref gr_doorBy, .int 0, .ref gr_pairFirst, .ref gr_pairSecond, .int 0, .ref gr_fanPush, .ref gr_fanFall, .ref gr_fanCost, .int 0, .ref gr_faceWay, .ref gr_faceGas, .ref gr_faceNeed]))]) [1, 2, 0] (by decide) rfl
    have hK9 := hK.sub (tys' := []) [] rfl
    exact W.zret (v := 0) hx hb hr rfl (fun t ht hW => ⟨⟨0, (), rfl, rfl, by rw [ht]; exact hP9, va_K.moved hW.alike hK9, hD9⟩, hS.F ht⟩) hS.2.2 dX11_isTarget_45
set_option maxHeartbeats 4000000 in
set_option maxRecDepth 100000 in
theorem p_change (l : Launch) (dC : Nat → ClassId) (dI : Nat → Nat → Nat) (n0 sz : Nat) (x0 : Nat) (rd : Nat) (dr : Nat) (bk : Nat) (st : Nat) (nw : Nat) (tr : Nat) (pl : Nat) (fl : Nat) (rg : Nat) (bk_tail : Nat) (bk_head : Nat) (bk_hinder : Nat) (bk_size : Nat) (bk_walk : Nat) (bk_draught : Nat) (bk_doorIn : Nat) (bk_fanIn : Nat) (bk_faceIn : Nat) (gr : Nat) (gr_doorBy : Nat) (gr_pairFirst : Nat) (gr_pairSecond : Nat) (gr_fanPush : Nat) (gr_fanFall : Nat) (gr_fanCost : Nat) (gr_faceWay : Nat) (gr_faceGas : Nat) (gr_faceNeed : Nat) (w : Int32) (v : Int32) (u : Int32) : Met l yX11_change (wM yX11_change cX11_change 4 (some .int)) ({ frames := 2, cells := 0, slots := 0, locals := 43 }) (va_Pc [.ref x0, .int w, .int v, .int u] (fun U => U.heap.size = sz ∧ n0 ≤ sz ∧ GW n0 U ∧ va_P (dC, dI) classes [(x0, .inr (11, [.ref rd, .ref dr, .ref bk, .ref st, .ref nw, .ref tr, .ref pl, .ref fl, .ref rg, .int 0, .int 0, .int 0])), (bk, .inr (0, [.int 0, .ref bk_tail, .ref bk_head, .ref bk_hinder, .ref bk_size, .ref bk_walk, .ref bk_draught, .ref bk_doorIn, .ref bk_fanIn, .ref bk_faceIn, .int 0, .int (-1), .ref gr])), (gr, .inr (3, [.int 0, .ref gr_doorBy, .int 0, .ref gr_pairFirst, .ref gr_pairSecond, .int 0, .ref gr_fanPush, .ref gr_fanFall, .ref gr_fanCost, .int 0, .ref gr_faceWay, .ref gr_faceGas, .ref gr_faceNeed]))] U.heap ∧ va_K (dC, dI) classes [] U ∧ va_D (fun q => n0 ≤ q) [(x0, .inr (11, [.ref rd, .ref dr, .ref bk, .ref st, .ref nw, .ref tr, .ref pl, .ref fl, .ref rg, .int 0, .int 0, .int 0])), (bk, .inr (0, [.int 0, .ref bk_tail, .ref bk_head, .ref bk_hinder, .ref bk_size, .ref bk_walk, .ref bk_draught, .ref bk_doorIn, .ref bk_fanIn, .ref bk_faceIn, .int 0, .int (-1), .ref gr])), (gr, .inr (3, [.int 0, .ref gr_doorBy, .int 0, .ref gr_pairFirst, .ref gr_pairSecond, .int 0, .ref gr_fanPush, .ref gr_fanFall, .ref gr_fanCost, .int 0, .ref gr_faceWay, .ref gr_faceGas, .ref gr_faceNeed]))])) (va_Qi (fun (r : Int32) (_ : Unit) => r = (-1)) (fun (_ : Unit) (_ : State) => True) (va_A [(x0, .inr (11, [.ref rd, .ref dr, .ref bk, .ref st, .ref nw, .ref tr, .ref pl, .ref fl, .ref rg, .int 0, .int 0, .int 0])), (bk, .inr (0, [.int 0, .ref bk_tail, .ref bk_head, .ref bk_hinder, .ref bk_size, .ref bk_walk, .ref bk_draught, .ref bk_doorIn, .ref bk_fanIn, .ref bk_faceIn, .int 0, .int (-1), .ref gr])), (gr, .inr (3, [.int 0, .ref gr_doorBy, .int 0, .ref gr_pairFirst, .ref gr_pairSecond, .int 0, .ref gr_fanPush, .ref gr_fanFall, .ref gr_fanCost, .int 0, .ref gr_faceWay, .ref gr_faceGas, .ref gr_faceNeed]))] sz)) 0 0 (va_A [(x0, .inr (11, [.ref rd, .ref dr, .ref bk, .ref st, .ref nw, .ref tr, .ref pl, .ref fl, .ref rg, .int 0, .int 0, .int 0])), (bk, .inr (0, [.int 0, .ref bk_tail, .ref bk_head, .ref bk_hinder, .ref bk_size, .ref bk_walk, .ref bk_draught, .ref bk_doorIn, .ref bk_fanIn, .ref bk_faceIn, .int 0, .int (-1), .ref gr])), (gr, .inr (3, [.int 0, .ref gr_doorBy, .int 0, .ref gr_pairFirst, .ref gr_pairSecond, .int 0, .ref gr_fanPush, .ref gr_fanFall, .ref gr_fanCost, .int 0, .ref gr_faceWay, .ref gr_faceGas, .ref gr_faceNeed]))] sz) := by
  refine Met.ofW (cc := cX11_change) (maxL := 4) (ret := (some .int)) (by decide) rfl ?_
  intro p e s m args below meth c s₁ B hml hv
  obtain ⟨rfl, hsz, hn0, hG, hP, hK, hD0⟩ := hv
  have hx := B.exec
  have hb := B.bytes
  have hr := B.returns
  have hts := atoms_spec (ws := wM yX11_change cX11_change 4 (some .int)) B.pre
  have hown : s.vm.findClass RX11 = some m.cls := findClass_of_methodNamed B.named
  have hlocks := B.notSynchronized
  subst hsz
  have hD := hD0.self (sz := s.heap.size)
  have hA0 := vA_n0 hD0 hn0
  generalize hAe : va_A [(x0, .inr (11, [.ref rd, .ref dr, .ref bk, .ref st, .ref nw, .ref tr, .ref pl, .ref fl, .ref rg, .int 0, .int 0, .int 0])), (bk, .inr (0, [.int 0, .ref bk_tail, .ref bk_head, .ref bk_hinder, .ref bk_size, .ref bk_walk, .ref bk_draught, .ref bk_doorIn, .ref bk_fanIn, .ref bk_faceIn, .int 0, .int (-1), .ref gr])), (gr, .inr (3, [.int 0, .ref gr_doorBy, .int 0, .ref gr_pairFirst, .ref gr_pairSecond, .int 0, .ref gr_fanPush, .ref gr_fanFall, .ref gr_fanCost, .int 0, .ref gr_faceWay, .ref gr_faceGas, .ref gr_faceNeed]))] s.heap.size = A at hD hA0 ⊢
  have hA : ∀ q : Nat, s.heap.size ≤ q → A q := fun q h => by rw [← hAe]; exact Or.inr h
  have hS : va_S A s.heap s.heap [] := va_S.rf
  have hl := lv_entry ([.ref x0, .int w, .int v, .int u]) (n := 4) (Nat.le_of_ble_eq_true rfl)
  rw [lg_entry_eq]
  generalize (lg_sl ([.ref x0, .int w, .int v, .int u]) ++ List.replicate (4 - (lg_sl ([.ref x0, .int w, .int v, .int u])).length) Slot.unset).toArray = ls at hl ⊢
  have hl : lv_has ls 4 [(0, .ref x0), (1, .int w), (2, .int v), (3, .int u)] := hl
  refine lv_aload_n hx hb dX11_change_0 rfl (lv_at hl 0 rfl) ?_
  refine lv_iload_n hx hb dX11_change_1 rfl (lv_at hl 1 rfl) ?_
  refine lv_iload_n hx hb dX11_change_2 rfl (lv_at hl 2 rfl) ?_
  have hPc := hP.sub (ws' := [(x0, .inr (11, [.ref rd, .ref dr, .ref bk, .ref st, .ref nw, .ref tr, .ref pl, .ref fl, .ref rg, .int 0, .int 0, .int 0])), (bk, .inr (0, [.int 0, .ref bk_tail, .ref bk_head, .ref bk_hinder, .ref bk_size, .ref bk_walk, .ref bk_draught, .ref bk_doorIn, .ref bk_fanIn, .ref bk_faceIn, .int 0, .int (-1), .ref gr])), (gr, .inr (3, [.int 0, .ref gr_doorBy, .int 0, .ref gr_pairFirst, .ref gr_pairSecond, .int 0, .ref gr_fanPush, .ref gr_fanFall, .ref gr_fanCost, .int 0, .ref gr_faceWay, .ref gr_faceGas, .ref gr_faceNeed]))]) [0, 1, 2] rfl
  have hDc := hD.sub (ws' := [(x0, .inr (11, [.ref rd, .ref dr, .ref bk, .ref st, .ref nw, .ref tr, .ref pl, .ref fl, .ref rg, .int 0, .int 0, .int 0])), (bk, .inr (0, [.int 0, .ref bk_tail, .ref bk_head, .ref bk_hinder, .ref bk_size, .ref bk_walk, .ref bk_draught, .ref bk_doorIn, .ref bk_fanIn, .ref bk_faceIn, .int 0, .int (-1), .ref gr])), (gr, .inr (3, [.int 0, .ref gr_doorBy, .int 0, .ref gr_pairFirst, .ref gr_pairSecond, .int 0, .ref gr_fanPush, .ref gr_fanFall, .ref gr_fanCost, .int 0, .ref gr_faceWay, .ref gr_faceGas, .ref gr_faceNeed]))]) [0, 1, 2] (by decide) rfl
  have hKc := hK.sub (tys' := []) [] rfl
  have hFc := va_free (wc := [(x0, .inr (11, [.ref rd, .ref dr, .ref bk, .ref st, .ref nw, .ref tr, .ref pl, .ref fl, .ref rg, .int 0, .int 0, .int 0])), (bk, .inr (0, [.int 0, .ref bk_tail, .ref bk_head, .ref bk_hinder, .ref bk_size, .ref bk_walk, .ref bk_draught, .ref bk_doorIn, .ref bk_fanIn, .ref bk_faceIn, .int 0, .int (-1), .ref gr])), (gr, .inr (3, [.int 0, .ref gr_doorBy, .int 0, .ref gr_pairFirst, .ref gr_pairSecond, .int 0, .ref gr_fanPush, .ref gr_fanFall, .ref gr_fanCost, .int 0, .ref gr_faceWay, .ref gr_faceGas, .ref gr_faceNeed]))]) hD hS hA [0, 1, 2] rfl
  refine va_calli (va_runV (As := [.int w, .int v]) (rest := []) ⟨hx, hb, hml, hown, hts⟩ (c_isTarget l dC dI n0 s.heap.size x0 rd dr bk st nw tr pl fl rg 0 0 0 bk_tail bk_head bk_hinder bk_size bk_walk bk_draught bk_doorIn bk_fanIn bk_faceIn gr gr_doorBy gr_pairFirst gr_pairSecond gr_fanPush gr_fanFall gr_fanCost gr_faceWay gr_faceGas gr_faceNeed w v ) (cwV 2 hts (gV (fun w h => wM_c h) wd_1265 wd_1262 wd_1264 wd_52 wd_114) rfl rfl rfl (by decide +kernel) ⟨Nat.le_of_ble_eq_true rfl, Nat.le_of_ble_eq_true rfl⟩) ⟨fun a U g mk q => by obtain ⟨q0, q1, q2, qG, qP, qK, qD⟩ := q; exact ⟨q0, q1, q2, GW.blind qG, qP, va_K.moved (u := U) (U := U.calling g mk a) (Vm.Alike.refl U.vm) qK, qD⟩, va_recv hKc hPc (ci := 11) (q0 := 0) rfl rfl, fun U hU hW => ⟨rfl, by rw [hU], Nat.le_trans hn0 hS.1, GW.go hW hU hG (fun q hq hA9 => hS.2.1 q hq (fun h => hA9 (hA0 q h))), by rw [hU]; exact hPc, va_K.moved hW.alike hKc, hDc.weaken (fun _ _ _ h => hA0 _ h)⟩⟩ rfl rfl hl.1 rfl (lv_room (Nat.le_of_ble_eq_true rfl)) dX11_change_3 ⟨Nat.le_of_ble_eq_true rfl, Nat.le_of_ble_eq_true rfl⟩) hS (fun q _ h => hFc q h) hFc (fun r_1 u t H1 locs ht hvm hw_2 hB hz1 hk1 hS => ?_)
  obtain ⟨hP1, hK1, hD1⟩ := hB
  rw [ht] at hP1
  obtain ⟨hP, hD⟩ := va_join (wr := []) (w1 := [(x0, .inr (11, [.ref rd, .ref dr, .ref bk, .ref st, .ref nw, .ref tr, .ref pl, .ref fl, .ref rg, .int 0, .int 0, .int 0])), (bk, .inr (0, [.int 0, .ref bk_tail, .ref bk_head, .ref bk_hinder, .ref bk_size, .ref bk_walk, .ref bk_draught, .ref bk_doorIn, .ref bk_fanIn, .ref bk_faceIn, .int 0, .int (-1), .ref gr])), (gr, .inr (3, [.int 0, .ref gr_doorBy, .int 0, .ref gr_pairFirst, .ref gr_pairSecond, .int 0, .ref gr_fanPush, .ref gr_fanFall, .ref gr_fanCost, .int 0, .ref gr_faceWay, .ref gr_faceGas, .ref gr_faceNeed]))]) hP hD [0, 1, 2] [] rfl rfl (by decide) (by decide) hk1 hFc hP1 hD1
  generalize H1 = H at hP hS ⊢
  have hP : va_P (dC, dI) classes [(x0, .inr (11, [.ref rd, .ref dr, .ref bk, .ref st, .ref nw, .ref tr, .ref pl, .ref fl, .ref rg, .int 0, .int 0, .int 0])), (bk, .inr (0, [.int 0, .ref bk_tail, .ref bk_head, .ref bk_hinder, .ref bk_size, .ref bk_walk, .ref bk_draught, .ref bk_doorIn, .ref bk_fanIn, .ref bk_faceIn, .int 0, .int (-1), .ref gr])), (gr, .inr (3, [.int 0, .ref gr_doorBy, .int 0, .ref gr_pairFirst, .ref gr_pairSecond, .int 0, .ref gr_fanPush, .ref gr_fanFall, .ref gr_fanCost, .int 0, .ref gr_faceWay, .ref gr_faceGas, .ref gr_faceNeed]))] H := hP
  have hD : va_D A [(x0, .inr (11, [.ref rd, .ref dr, .ref bk, .ref st, .ref nw, .ref tr, .ref pl, .ref fl, .ref rg, .int 0, .int 0, .int 0])), (bk, .inr (0, [.int 0, .ref bk_tail, .ref bk_head, .ref bk_hinder, .ref bk_size, .ref bk_walk, .ref bk_draught, .ref bk_doorIn, .ref bk_fanIn, .ref bk_faceIn, .int 0, .int (-1), .ref gr])), (gr, .inr (3, [.int 0, .ref gr_doorBy, .int 0, .ref gr_pairFirst, .ref gr_pairSecond, .int 0, .ref gr_fanPush, .ref gr_fanFall, .ref gr_fanCost, .int 0, .ref gr_faceWay, .ref gr_faceGas, .ref gr_faceNeed]))] := hD
  obtain rfl : r_1 = 0 := hw_2
  refine lv_if_ne (tgt := 15) hx hb dX11_change_6 (by decide) (fun c_3 => ?_) (fun c_3 => ?_)
  · exact absurd c_3 (by decide)
  refine lv_aload_n hx hb dX11_change_9 rfl (lv_at hl 0 rfl) ?_
  refine lv_iconst (v := 1) hx hb dX11_change_10 (by decide) ?_
  have hPc := hP.sub (ws' := [(x0, .inr (11, [.ref rd, .ref dr, .ref bk, .ref st, .ref nw, .ref tr, .ref pl, .ref fl, .ref rg, .int 0, .int 0, .int 0]))]) [0] rfl
  have hDc := hD.sub (ws' := [(x0, .inr (11, [.ref rd, .ref dr, .ref bk, .ref st, .ref nw, .ref tr, .ref pl, .ref fl, .ref rg, .int 0, .int 0, .int 0]))]) [0] (by decide) rfl
  have hKc := hK.sub (tys' := []) [] rfl
  have hFc := va_free (wc := [(x0, .inr (11, [.ref rd, .ref dr, .ref bk, .ref st, .ref nw, .ref tr, .ref pl, .ref fl, .ref rg, .int 0, .int 0, .int 0]))]) hD hS hA [0] rfl
  refine va_calli (va_runV (As := [.int 1]) (rest := []) ⟨hx, hb, hml, hown, hts⟩ (c_refuse l dC dI n0 H.size x0 rd dr bk st nw tr pl fl rg 0 0 0 1 ) (cwV 1 hts (gV (fun w h => wM_c h) wd_722 wd_719 wd_721 wd_0 wd_114) rfl rfl rfl (by decide +kernel) ⟨Nat.le_of_ble_eq_true rfl, Nat.le_of_ble_eq_true rfl⟩) ⟨fun a U g mk q => by obtain ⟨q0, q1, q2, qG, qP, qK, qD⟩ := q; exact ⟨q0, q1, q2, GW.blind qG, qP, va_K.moved (u := U) (U := U.calling g mk a) (Vm.Alike.refl U.vm) qK, qD⟩, va_recv hKc hPc (ci := 11) (q0 := 0) rfl rfl, fun U hU hW => ⟨rfl, by rw [hU], Nat.le_trans hn0 hS.1, GW.go hW hU hG (fun q hq hA9 => hS.2.1 q hq (fun h => hA9 (hA0 q h))), by rw [hU]; exact hPc, va_K.moved hW.alike hKc, hDc.weaken (fun _ _ _ h => hA0 _ h)⟩⟩ rfl rfl hl.1 rfl (lv_room (Nat.le_of_ble_eq_true rfl)) dX11_change_11 ⟨Nat.le_of_ble_eq_true rfl, Nat.le_of_ble_eq_true rfl⟩) hS (fun q _ h => hFc q h) hFc (fun r_4 u t H1 locs ht hvm hw_5 hB hz1 hk1 hS => ?_)
  obtain ⟨hP1, hK1, hD1⟩ := hB
  rw [ht] at hP1
  obtain ⟨hP, hD⟩ := va_join (wr := [(bk, .inr (0, [.int 0, .ref bk_tail, .ref bk_head, .ref bk_hinder, .ref bk_size, .ref bk_walk, .ref bk_draught, .ref bk_doorIn, .ref bk_fanIn, .ref bk_faceIn, .int 0, .int (-1), .ref gr])), (gr, .inr (3, [.int 0, .ref gr_doorBy, .int 0, .ref gr_pairFirst, .ref gr_pairSecond, .int 0, .ref gr_fanPush, .ref gr_fanFall, .ref gr_fanCost, .int 0, .ref gr_faceWay, .ref gr_faceGas, .ref gr_faceNeed]))]) (w1 := [(x0, .inr (11, [.ref rd, .ref dr, .ref bk, .ref st, .ref nw, .ref tr, .ref pl, .ref fl, .ref rg, .int 1, .int 0, .int 0]))]) hP hD [0] [1, 2] rfl rfl (by decide) (by decide) hk1 hFc hP1 hD1
  generalize H1 = H at hP hS ⊢
  have hP : va_P (dC, dI) classes [(bk, .inr (0, [.int 0, .ref bk_tail, .ref bk_head, .ref bk_hinder, .ref bk_size, .ref bk_walk, .ref bk_draught, .ref bk_doorIn, .ref bk_fanIn, .ref bk_faceIn, .int 0, .int (-1), .ref gr])), (gr, .inr (3, [.int 0, .ref gr_doorBy, .int 0, .ref gr_pairFirst, .ref gr_pairSecond, .int 0, .ref gr_fanPush, .ref gr_fanFall, .ref gr_fanCost, .int 0, .ref gr_faceWay, .ref gr_faceGas, .ref gr_faceNeed])), (x0, .inr (11, [.ref rd, .ref dr, .ref bk, .ref st, .ref nw, .ref tr, .ref pl, .ref fl, .ref rg, .int 1, .int 0, .int 0]))] H := hP
  have hD : va_D A [(bk, .inr (0, [.int 0, .ref bk_tail, .ref bk_head, .ref bk_hinder, .ref bk_size, .ref bk_walk, .ref bk_draught, .ref bk_doorIn, .ref bk_fanIn, .ref bk_faceIn, .int 0, .int (-1), .ref gr])), (gr, .inr (3, [.int 0, .ref gr_doorBy, .int 0, .ref gr_pairFirst, .ref gr_pairSecond, .int 0, .ref gr_fanPush, .ref gr_fanFall, .ref gr_fanCost, .int 0, .ref gr_faceWay, .ref gr_faceGas, .ref gr_faceNeed])), (x0, .inr (11, [.ref rd, .ref dr, .ref bk, .ref st, .ref nw, .ref tr, .ref pl, .ref fl, .ref rg, .int 1, .int 0, .int 0]))] := hD
  obtain rfl : r_4 = (-1) := hw_5
  exact W.iret (v := (-1)) hx hb hr (fun t ht hW => ⟨⟨(-1), (), rfl, rfl, trivial⟩, hS.F ht⟩) hS.2.2 dX11_change_14
set_option maxHeartbeats 4000000 in
set_option maxRecDepth 100000 in
theorem p_order (l : Launch) (dC : Nat → ClassId) (dI : Nat → Nat → Nat) (n0 sz : Nat) (x0 : Nat) (rd : Nat) (dr : Nat) (bk : Nat) (st : Nat) (nw : Nat) (tr : Nat) (pl : Nat) (fl : Nat) (rg : Nat) (pl_order : Nat) (pl_state : Nat) (pl_now : Nat) (pl_trial : Nat) (pl_kind : Nat) (pl_which : Nat) (pl_value : Nat) (pl_soundBy : Nat) (w : Int32) : Met l yX11_order (wM yX11_order cX11_order 2 (some .int)) ({ frames := 1, cells := 0, slots := 0, locals := 21 }) (va_Pc [.ref x0, .int w] (fun U => U.heap.size = sz ∧ n0 ≤ sz ∧ GW n0 U ∧ va_P (dC, dI) classes [(x0, .inr (11, [.ref rd, .ref dr, .ref bk, .ref st, .ref nw, .ref tr, .ref pl, .ref fl, .ref rg, .int 0, .int 0, .int 0])), (pl, .inr (6, [.int 0, .ref pl_order, .ref pl_state, .ref pl_now, .ref pl_trial, .ref pl_kind, .ref pl_which, .ref pl_value, .ref pl_soundBy, .int 0, .int 0]))] U.heap ∧ va_K (dC, dI) classes [] U ∧ va_D (fun q => n0 ≤ q) [(x0, .inr (11, [.ref rd, .ref dr, .ref bk, .ref st, .ref nw, .ref tr, .ref pl, .ref fl, .ref rg, .int 0, .int 0, .int 0])), (pl, .inr (6, [.int 0, .ref pl_order, .ref pl_state, .ref pl_now, .ref pl_trial, .ref pl_kind, .ref pl_which, .ref pl_value, .ref pl_soundBy, .int 0, .int 0]))])) (va_Qi (fun (r : Int32) (_ : Unit) => r = (-1)) (fun (_ : Unit) (_ : State) => True) (va_A [(x0, .inr (11, [.ref rd, .ref dr, .ref bk, .ref st, .ref nw, .ref tr, .ref pl, .ref fl, .ref rg, .int 0, .int 0, .int 0])), (pl, .inr (6, [.int 0, .ref pl_order, .ref pl_state, .ref pl_now, .ref pl_trial, .ref pl_kind, .ref pl_which, .ref pl_value, .ref pl_soundBy, .int 0, .int 0]))] sz)) 0 0 (va_A [(x0, .inr (11, [.ref rd, .ref dr, .ref bk, .ref st, .ref nw, .ref tr, .ref pl, .ref fl, .ref rg, .int 0, .int 0, .int 0])), (pl, .inr (6, [.int 0, .ref pl_order, .ref pl_state, .ref pl_now, .ref pl_trial, .ref pl_kind, .ref pl_which, .ref pl_value, .ref pl_soundBy, .int 0, .int 0]))] sz) := by
  refine Met.ofW (cc := cX11_order) (maxL := 2) (ret := (some .int)) (by decide) rfl ?_
  intro p e s m args below meth c s₁ B hml hv
  obtain ⟨rfl, hsz, hn0, hG, hP, hK, hD0⟩ := hv
  have hx := B.exec
  have hb := B.bytes
  have hr := B.returns
  have hts := atoms_spec (ws := wM yX11_order cX11_order 2 (some .int)) B.pre
  have hown : s.vm.findClass RX11 = some m.cls := findClass_of_methodNamed B.named
  have hlocks := B.notSynchronized
  subst hsz
  have hD := hD0.self (sz := s.heap.size)
  have hA0 := vA_n0 hD0 hn0
  generalize hAe : va_A [(x0, .inr (11, [.ref rd, .ref dr, .ref bk, .ref st, .ref nw, .ref tr, .ref pl, .ref fl, .ref rg, .int 0, .int 0, .int 0])), (pl, .inr (6, [.int 0, .ref pl_order, .ref pl_state, .ref pl_now, .ref pl_trial, .ref pl_kind, .ref pl_which, .ref pl_value, .ref pl_soundBy, .int 0, .int 0]))] s.heap.size = A at hD hA0 ⊢
  have hA : ∀ q : Nat, s.heap.size ≤ q → A q := fun q h => by rw [← hAe]; exact Or.inr h
  have hS : va_S A s.heap s.heap [] := va_S.rf
  have hl := lv_entry ([.ref x0, .int w]) (n := 2) (Nat.le_of_ble_eq_true rfl)
  rw [lg_entry_eq]
  generalize (lg_sl ([.ref x0, .int w]) ++ List.replicate (2 - (lg_sl ([.ref x0, .int w])).length) Slot.unset).toArray = ls at hl ⊢
  have hl : lv_has ls 2 [(0, .ref x0), (1, .int w)] := hl
  refine lv_iload_n hx hb dX11_order_0 rfl (lv_at hl 1 rfl) ?_
  refine lv_if_lt (tgt := 15) hx hb dX11_order_1 (by decide) (fun c_1 => ?_) (fun c_1 => ?_)
  · skip
    refine lv_aload_n hx hb dX11_order_15 rfl (lv_at hl 0 rfl) ?_
    refine lv_iconst (v := 1) hx hb dX11_order_16 (by decide) ?_
    have hPc := hP.sub (ws' := [(x0, .inr (11, [.ref rd, .ref dr, .ref bk, .ref st, .ref nw, .ref tr, .ref pl, .ref fl, .ref rg, .int 0, .int 0, .int 0]))]) [0] rfl
    have hDc := hD.sub (ws' := [(x0, .inr (11, [.ref rd, .ref dr, .ref bk, .ref st, .ref nw, .ref tr, .ref pl, .ref fl, .ref rg, .int 0, .int 0, .int 0]))]) [0] (by decide) rfl
    have hKc := hK.sub (tys' := []) [] rfl
    have hFc := va_free (wc := [(x0, .inr (11, [.ref rd, .ref dr, .ref bk, .ref st, .ref nw, .ref tr, .ref pl, .ref fl, .ref rg, .int 0, .int 0, .int 0]))]) hD hS hA [0] rfl
    refine va_calli (va_runV (As := [.int 1]) (rest := []) ⟨hx, hb, hml, hown, hts⟩ (c_refuse l dC dI n0 s.heap.size x0 rd dr bk st nw tr pl fl rg 0 0 0 1 ) (cwV 1 hts (gV (fun w h => wM_c h) wd_722 wd_719 wd_721 wd_0 wd_114) rfl rfl rfl (by decide +kernel) ⟨Nat.le_of_ble_eq_true rfl, Nat.le_of_ble_eq_true rfl⟩) ⟨fun a U g mk q => by obtain ⟨q0, q1, q2, qG, qP, qK, qD⟩ := q; exact ⟨q0, q1, q2, GW.blind qG, qP, va_K.moved (u := U) (U := U.calling g mk a) (Vm.Alike.refl U.vm) qK, qD⟩, va_recv hKc hPc (ci := 11) (q0 := 0) rfl rfl, fun U hU hW => ⟨rfl, by rw [hU], Nat.le_trans hn0 hS.1, GW.go hW hU hG (fun q hq hA9 => hS.2.1 q hq (fun h => hA9 (hA0 q h))), by rw [hU]; exact hPc, va_K.moved hW.alike hKc, hDc.weaken (fun _ _ _ h => hA0 _ h)⟩⟩ rfl rfl hl.1 rfl (lv_room (Nat.le_of_ble_eq_true rfl)) dX11_order_17 ⟨Nat.le_of_ble_eq_true rfl, Nat.le_of_ble_eq_true rfl⟩) hS (fun q _ h => hFc q h) hFc (fun r_2 u t H1 locs ht hvm hw_3 hB hz1 hk1 hS => ?_)
    obtain ⟨hP1, hK1, hD1⟩ := hB
    rw [ht] at hP1
    obtain ⟨hP, hD⟩ := va_join (wr := [(pl, .inr (6, [.int 0, .ref pl_order, .ref pl_state, .ref pl_now, .ref pl_trial, .ref pl_kind, .ref pl_which, .ref pl_value, .ref pl_soundBy, .int 0, .int 0]))]) (w1 := [(x0, .inr (11, [.ref rd, .ref dr, .ref bk, .ref st, .ref nw, .ref tr, .ref pl, .ref fl, .ref rg, .int 1, .int 0, .int 0]))]) hP hD [0] [1] rfl rfl (by decide) (by decide) hk1 hFc hP1 hD1
    generalize H1 = H at hP hS ⊢
    have hP : va_P (dC, dI) classes [(pl, .inr (6, [.int 0, .ref pl_order, .ref pl_state, .ref pl_now, .ref pl_trial, .ref pl_kind, .ref pl_which, .ref pl_value, .ref pl_soundBy, .int 0, .int 0])), (x0, .inr (11, [.ref rd, .ref dr, .ref bk, .ref st, .ref nw, .ref tr, .ref pl, .ref fl, .ref rg, .int 1, .int 0, .int 0]))] H := hP
    have hD : va_D A [(pl, .inr (6, [.int 0, .ref pl_order, .ref pl_state, .ref pl_now, .ref pl_trial, .ref pl_kind, .ref pl_which, .ref pl_value, .ref pl_soundBy, .int 0, .int 0])), (x0, .inr (11, [.ref rd, .ref dr, .ref bk, .ref st, .ref nw, .ref tr, .ref pl, .ref fl, .ref rg, .int 1, .int 0, .int 0]))] := hD
    obtain rfl : r_2 = (-1) := hw_3
    exact W.iret (v := (-1)) hx hb hr (fun t ht hW => ⟨⟨(-1), (), rfl, rfl, trivial⟩, hS.F ht⟩) hS.2.2 dX11_order_20
  · skip
    refine lv_iload_n hx hb dX11_order_4 rfl (lv_at hl 1 rfl) ?_
    refine lv_aload_n hx hb dX11_order_5 rfl (lv_at hl 0 rfl) ?_
    refine va_get (D := (dC, dI)) (ci := 11) (v := .ref pl) (C := RX11) (T := TX11) (N := 12) hx hb hts (fun w h => wM_c (iX11 w h)) hown hK hP 0 rfl rfl 6 (by decide) (hts _ (wM_c wd_676)) (fun _ h9 => h9) rfl dX11_order_6 ?_
    refine va_get (D := (dC, dI)) (ci := 6) (v := .int 0) (C := RX6) (T := TX6) (N := 11) hx hb hts (fun w h => wM_c (iX6 w h)) hown hK hP 1 rfl rfl 0 (by decide) (hts _ (wM_c wd_573)) (fun _ h9 => h9) rfl dX11_order_9 ?_
    refine lv_icmp_lt (tgt := 21) hx hb dX11_order_12 (by decide) (fun c_4 => ?_) (fun c_4 => ?_)
    · exact absurd c_4 c_1
    refine lv_aload_n hx hb dX11_order_15 rfl (lv_at hl 0 rfl) ?_
    refine lv_iconst (v := 1) hx hb dX11_order_16 (by decide) ?_
    have hPc := hP.sub (ws' := [(x0, .inr (11, [.ref rd, .ref dr, .ref bk, .ref st, .ref nw, .ref tr, .ref pl, .ref fl, .ref rg, .int 0, .int 0, .int 0]))]) [0] rfl
    have hDc := hD.sub (ws' := [(x0, .inr (11, [.ref rd, .ref dr, .ref bk, .ref st, .ref nw, .ref tr, .ref pl, .ref fl, .ref rg, .int 0, .int 0, .int 0]))]) [0] (by decide) rfl
    have hKc := hK.sub (tys' := []) [] rfl
    have hFc := va_free (wc := [(x0, .inr (11, [.ref rd, .ref dr, .ref bk, .ref st, .ref nw, .ref tr, .ref pl, .ref fl, .ref rg, .int 0, .int 0, .int 0]))]) hD hS hA [0] rfl
    refine va_calli (va_runV (As := [.int 1]) (rest := []) ⟨hx, hb, hml, hown, hts⟩ (c_refuse l dC dI n0 s.heap.size x0 rd dr bk st nw tr pl fl rg 0 0 0 1 ) (cwV 1 hts (gV (fun w h => wM_c h) wd_722 wd_719 wd_721 wd_0 wd_114) rfl rfl rfl (by decide +kernel) ⟨Nat.le_of_ble_eq_true rfl, Nat.le_of_ble_eq_true rfl⟩) ⟨fun a U g mk q => by obtain ⟨q0, q1, q2, qG, qP, qK, qD⟩ := q; exact ⟨q0, q1, q2, GW.blind qG, qP, va_K.moved (u := U) (U := U.calling g mk a) (Vm.Alike.refl U.vm) qK, qD⟩, va_recv hKc hPc (ci := 11) (q0 := 0) rfl rfl, fun U hU hW => ⟨rfl, by rw [hU], Nat.le_trans hn0 hS.1, GW.go hW hU hG (fun q hq hA9 => hS.2.1 q hq (fun h => hA9 (hA0 q h))), by rw [hU]; exact hPc, va_K.moved hW.alike hKc, hDc.weaken (fun _ _ _ h => hA0 _ h)⟩⟩ rfl rfl hl.1 rfl (lv_room (Nat.le_of_ble_eq_true rfl)) dX11_order_17 ⟨Nat.le_of_ble_eq_true rfl, Nat.le_of_ble_eq_true rfl⟩) hS (fun q _ h => hFc q h) hFc (fun r_5 u t H1 locs ht hvm hw_6 hB hz1 hk1 hS => ?_)
    obtain ⟨hP1, hK1, hD1⟩ := hB
    rw [ht] at hP1
    obtain ⟨hP, hD⟩ := va_join (wr := [(pl, .inr (6, [.int 0, .ref pl_order, .ref pl_state, .ref pl_now, .ref pl_trial, .ref pl_kind, .ref pl_which, .ref pl_value, .ref pl_soundBy, .int 0, .int 0]))]) (w1 := [(x0, .inr (11, [.ref rd, .ref dr, .ref bk, .ref st, .ref nw, .ref tr, .ref pl, .ref fl, .ref rg, .int 1, .int 0, .int 0]))]) hP hD [0] [1] rfl rfl (by decide) (by decide) hk1 hFc hP1 hD1
    generalize H1 = H at hP hS ⊢
    have hP : va_P (dC, dI) classes [(pl, .inr (6, [.int 0, .ref pl_order, .ref pl_state, .ref pl_now, .ref pl_trial, .ref pl_kind, .ref pl_which, .ref pl_value, .ref pl_soundBy, .int 0, .int 0])), (x0, .inr (11, [.ref rd, .ref dr, .ref bk, .ref st, .ref nw, .ref tr, .ref pl, .ref fl, .ref rg, .int 1, .int 0, .int 0]))] H := hP
    have hD : va_D A [(pl, .inr (6, [.int 0, .ref pl_order, .ref pl_state, .ref pl_now, .ref pl_trial, .ref pl_kind, .ref pl_which, .ref pl_value, .ref pl_soundBy, .int 0, .int 0])), (x0, .inr (11, [.ref rd, .ref dr, .ref bk, .ref st, .ref nw, .ref tr, .ref pl, .ref fl, .ref rg, .int 1, .int 0, .int 0]))] := hD
    obtain rfl : r_5 = (-1) := hw_6
    exact W.iret (v := (-1)) hx hb hr (fun t ht hW => ⟨⟨(-1), (), rfl, rfl, trivial⟩, hS.F ht⟩) hS.2.2 dX11_order_20
set_option maxHeartbeats 4000000 in
set_option maxRecDepth 100000 in
theorem p_make (l : Launch) (dC : Nat → ClassId) (dI : Nat → Nat → Nat) (n0 sz : Nat) (x0 : Nat) (rd : Nat) (dr : Nat) (bk : Nat) (st : Nat) (nw : Nat) (tr : Nat) (pl : Nat) (fl : Nat) (rg : Nat) (pl_order : Nat) (pl_state : Nat) (pl_now : Nat) (pl_trial : Nat) (pl_kind : Nat) (pl_which : Nat) (pl_value : Nat) (pl_soundBy : Nat) : Met l yX11_make (wM yX11_make cX11_make 2 (some .int)) ({ frames := 1, cells := 0, slots := 0, locals := 21 }) (va_Pc [.ref x0] (fun U => U.heap.size = sz ∧ n0 ≤ sz ∧ GW n0 U ∧ va_P (dC, dI) classes [(x0, .inr (11, [.ref rd, .ref dr, .ref bk, .ref st, .ref nw, .ref tr, .ref pl, .ref fl, .ref rg, .int 0, .int 0, .int 0])), (pl, .inr (6, [.int 0, .ref pl_order, .ref pl_state, .ref pl_now, .ref pl_trial, .ref pl_kind, .ref pl_which, .ref pl_value, .ref pl_soundBy, .int 0, .int 0]))] U.heap ∧ va_K (dC, dI) classes [] U ∧ va_D (fun q => n0 ≤ q) [(x0, .inr (11, [.ref rd, .ref dr, .ref bk, .ref st, .ref nw, .ref tr, .ref pl, .ref fl, .ref rg, .int 0, .int 0, .int 0])), (pl, .inr (6, [.int 0, .ref pl_order, .ref pl_state, .ref pl_now, .ref pl_trial, .ref pl_kind, .ref pl_which, .ref pl_value, .ref pl_soundBy, .int 0, .int 0]))])) (va_Qi (fun (r : Int32) (_ : Unit) => r = (-1)) (fun (_ : Unit) (_ : State) => True) (va_A [(x0, .inr (11, [.ref rd, .ref dr, .ref bk, .ref st, .ref nw, .ref tr, .ref pl, .ref fl, .ref rg, .int 0, .int 0, .int 0])), (pl, .inr (6, [.int 0, .ref pl_order, .ref pl_state, .ref pl_now, .ref pl_trial, .ref pl_kind, .ref pl_which, .ref pl_value, .ref pl_soundBy, .int 0, .int 0]))] sz)) 0 0 (va_A [(x0, .inr (11, [.ref rd, .ref dr, .ref bk, .ref st, .ref nw, .ref tr, .ref pl, .ref fl, .ref rg, .int 0, .int 0, .int 0])), (pl, .inr (6, [.int 0, .ref pl_order, .ref pl_state, .ref pl_now, .ref pl_trial, .ref pl_kind, .ref pl_which, .ref pl_value, .ref pl_soundBy, .int 0, .int 0]))] sz) := by
  refine Met.ofW (cc := cX11_make) (maxL := 2) (ret := (some .int)) (by decide) rfl ?_
  intro p e s m args below meth c s₁ B hml hv
  obtain ⟨rfl, hsz, hn0, hG, hP, hK, hD0⟩ := hv
  have hx := B.exec
  have hb := B.bytes
  have hr := B.returns
  have hts := atoms_spec (ws := wM yX11_make cX11_make 2 (some .int)) B.pre
  have hown : s.vm.findClass RX11 = some m.cls := findClass_of_methodNamed B.named
  have hlocks := B.notSynchronized
  subst hsz
  have hD := hD0.self (sz := s.heap.size)
  have hA0 := vA_n0 hD0 hn0
  generalize hAe : va_A [(x0, .inr (11, [.ref rd, .ref dr, .ref bk, .ref st, .ref nw, .ref tr, .ref pl, .ref fl, .ref rg, .int 0, .int 0, .int 0])), (pl, .inr (6, [.int 0, .ref pl_order, .ref pl_state, .ref pl_now, .ref pl_trial, .ref pl_kind, .ref pl_which, .ref pl_value, .ref pl_soundBy, .int 0, .int 0]))] s.heap.size = A at hD hA0 ⊢
  have hA : ∀ q : Nat, s.heap.size ≤ q → A q := fun q h => by rw [← hAe]; exact Or.inr h
  have hS : va_S A s.heap s.heap [] := va_S.rf
  have hl := lv_entry ([.ref x0]) (n := 2) (Nat.le_of_ble_eq_true rfl)
  rw [lg_entry_eq]
  generalize (lg_sl ([.ref x0]) ++ List.replicate (2 - (lg_sl ([.ref x0])).length) Slot.unset).toArray = ls at hl ⊢
  have hl : lv_has ls 2 [(0, .ref x0)] := hl
  refine lv_aload_n hx hb dX11_make_0 rfl (lv_at hl 0 rfl) ?_
  refine va_get (D := (dC, dI)) (ci := 11) (v := .ref pl) (C := RX11) (T := TX11) (N := 12) hx hb hts (fun w h => wM_c (iX11 w h)) hown hK hP 0 rfl rfl 6 (by decide) (hts _ (wM_c wd_676)) (fun _ h9 => h9) rfl dX11_make_1 ?_
  refine va_get (D := (dC, dI)) (ci := 6) (v := .int 0) (C := RX6) (T := TX6) (N := 11) hx hb hts (fun w h => wM_c (iX6 w h)) hown hK hP 1 rfl rfl 0 (by decide) (hts _ (wM_c wd_573)) (fun _ h9 => h9) rfl dX11_make_4 ?_
  refine lv_istore_n (lv' := [(1, .int 0), (0, .ref x0)]) hx hb dX11_make_7 rfl hl (by decide) rfl (fun ls hl => ?_)
  refine lv_iload_n hx hb dX11_make_8 rfl (lv_at hl 0 rfl) ?_
  refine lv_if_ne (tgt := 18) hx hb dX11_make_9 (by decide) (fun c_1 => ?_) (fun c_1 => ?_)
  · exact absurd c_1 (by decide)
  refine lv_aload_n hx hb dX11_make_12 rfl (lv_at hl 1 rfl) ?_
  refine lv_iconst (v := 5) hx hb dX11_make_13 (by decide) ?_
  have hPc := hP.sub (ws' := [(x0, .inr (11, [.ref rd, .ref dr, .ref bk, .ref st, .ref nw, .ref tr, .ref pl, .ref fl, .ref rg, .int 0, .int 0, .int 0]))]) [0] rfl
  have hDc := hD.sub (ws' := [(x0, .inr (11, [.ref rd, .ref dr, .ref bk, .ref st, .ref nw, .ref tr, .ref pl, .ref fl, .ref rg, .int 0, .int 0, .int 0]))]) [0] (by decide) rfl
  have hKc := hK.sub (tys' := []) [] rfl
  have hFc := va_free (wc := [(x0, .inr (11, [.ref rd, .ref dr, .ref bk, .ref st, .ref nw, .ref tr, .ref pl, .ref fl, .ref rg, .int 0, .int 0, .int 0]))]) hD hS hA [0] rfl
  refine va_calli (va_runV (As := [.int 5]) (rest := []) ⟨hx, hb, hml, hown, hts⟩ (c_refuse l dC dI n0 s.heap.size x0 rd dr bk st nw tr pl fl rg 0 0 0 5 ) (cwV 1 hts (gV (fun w h => wM_c h) wd_722 wd_719 wd_721 wd_0 wd_114) rfl rfl rfl (by decide +kernel) ⟨Nat.le_of_ble_eq_true rfl, Nat.le_of_ble_eq_true rfl⟩) ⟨fun a U g mk q => by obtain ⟨q0, q1, q2, qG, qP, qK, qD⟩ := q; exact ⟨q0, q1, q2, GW.blind qG, qP, va_K.moved (u := U) (U := U.calling g mk a) (Vm.Alike.refl U.vm) qK, qD⟩, va_recv hKc hPc (ci := 11) (q0 := 0) rfl rfl, fun U hU hW => ⟨rfl, by rw [hU], Nat.le_trans hn0 hS.1, GW.go hW hU hG (fun q hq hA9 => hS.2.1 q hq (fun h => hA9 (hA0 q h))), by rw [hU]; exact hPc, va_K.moved hW.alike hKc, hDc.weaken (fun _ _ _ h => hA0 _ h)⟩⟩ rfl rfl hl.1 rfl (lv_room (Nat.le_of_ble_eq_true rfl)) dX11_make_14 ⟨Nat.le_of_ble_eq_true rfl, Nat.le_of_ble_eq_true rfl⟩) hS (fun q _ h => hFc q h) hFc (fun r_2 u t H1 locs ht hvm hw_3 hB hz1 hk1 hS => ?_)
  obtain ⟨hP1, hK1, hD1⟩ := hB
  rw [ht] at hP1
  obtain ⟨hP, hD⟩ := va_join (wr := [(pl, .inr (6, [.int 0, .ref pl_order, .ref pl_state, .ref pl_now, .ref pl_trial, .ref pl_kind, .ref pl_which, .ref pl_value, .ref pl_soundBy, .int 0, .int 0]))]) (w1 := [(x0, .inr (11, [.ref rd, .ref dr, .ref bk, .ref st, .ref nw, .ref tr, .ref pl, .ref fl, .ref rg, .int 5, .int 0, .int 0]))]) hP hD [0] [1] rfl rfl (by decide) (by decide) hk1 hFc hP1 hD1
  generalize H1 = H at hP hS ⊢
  have hP : va_P (dC, dI) classes [(pl, .inr (6, [.int 0, .ref pl_order, .ref pl_state, .ref pl_now, .ref pl_trial, .ref pl_kind, .ref pl_which, .ref pl_value, .ref pl_soundBy, .int 0, .int 0])), (x0, .inr (11, [.ref rd, .ref dr, .ref bk, .ref st, .ref nw, .ref tr, .ref pl, .ref fl, .ref rg, .int 5, .int 0, .int 0]))] H := hP
  have hD : va_D A [(pl, .inr (6, [.int 0, .ref pl_order, .ref pl_state, .ref pl_now, .ref pl_trial, .ref pl_kind, .ref pl_which, .ref pl_value, .ref pl_soundBy, .int 0, .int 0])), (x0, .inr (11, [.ref rd, .ref dr, .ref bk, .ref st, .ref nw, .ref tr, .ref pl, .ref fl, .ref rg, .int 5, .int 0, .int 0]))] := hD
  obtain rfl : r_2 = (-1) := hw_3
  exact W.iret (v := (-1)) hx hb hr (fun t ht hW => ⟨⟨(-1), (), rfl, rfl, trivial⟩, hS.F ht⟩) hS.2.2 dX11_make_17
set_option maxHeartbeats 4000000 in
set_option maxRecDepth 100000 in
theorem p_reading (l : Launch) (dC : Nat → ClassId) (dI : Nat → Nat → Nat) (n0 sz : Nat) (x0 : Nat) (rd : Nat) (dr : Nat) (bk : Nat) (st : Nat) (nw : Nat) (tr : Nat) (pl : Nat) (fl : Nat) (rg : Nat) (bk_tail : Nat) (bk_head : Nat) (bk_hinder : Nat) (bk_size : Nat) (bk_walk : Nat) (bk_draught : Nat) (bk_doorIn : Nat) (bk_fanIn : Nat) (bk_faceIn : Nat) (gr : Nat) (w : Int32) (v : Int32) (u : Int32) : Met l yX11_reading (wM yX11_reading cX11_reading 4 (some .int)) ({ frames := 1, cells := 0, slots := 0, locals := 21 }) (va_Pc [.ref x0, .int w, .int v, .int u] (fun U => U.heap.size = sz ∧ n0 ≤ sz ∧ GW n0 U ∧ va_P (dC, dI) classes [(x0, .inr (11, [.ref rd, .ref dr, .ref bk, .ref st, .ref nw, .ref tr, .ref pl, .ref fl, .ref rg, .int 0, .int 0, .int 0])), (bk, .inr (0, [.int 0, .ref bk_tail, .ref bk_head, .ref bk_hinder, .ref bk_size, .ref bk_walk, .ref bk_draught, .ref bk_doorIn, .ref bk_fanIn, .ref bk_faceIn, .int 0, .int (-1), .ref gr]))] U.heap ∧ va_K (dC, dI) classes [] U ∧ va_D (fun q => n0 ≤ q) [(x0, .inr (11, [.ref rd, .ref dr, .ref bk, .ref st, .ref nw, .ref tr, .ref pl, .ref fl, .ref rg, .int 0, .int 0, .int 0])), (bk, .inr (0, [.int 0, .ref bk_tail, .ref bk_head, .ref bk_hinder, .ref bk_size, .ref bk_walk, .ref bk_draught, .ref bk_doorIn, .ref bk_fanIn, .ref bk_faceIn, .int 0, .int (-1), .ref gr]))])) (va_Qi (fun (r : Int32) (_ : Unit) => r = (-1)) (fun (_ : Unit) (_ : State) => True) (va_A [(x0, .inr (11, [.ref rd, .ref dr, .ref bk, .ref st, .ref nw, .ref tr, .ref pl, .ref fl, .ref rg, .int 0, .int 0, .int 0])), (bk, .inr (0, [.int 0, .ref bk_tail, .ref bk_head, .ref bk_hinder, .ref bk_size, .ref bk_walk, .ref bk_draught, .ref bk_doorIn, .ref bk_fanIn, .ref bk_faceIn, .int 0, .int (-1), .ref gr]))] sz)) 0 0 (va_A [(x0, .inr (11, [.ref rd, .ref dr, .ref bk, .ref st, .ref nw, .ref tr, .ref pl, .ref fl, .ref rg, .int 0, .int 0, .int 0])), (bk, .inr (0, [.int 0, .ref bk_tail, .ref bk_head, .ref bk_hinder, .ref bk_size, .ref bk_walk, .ref bk_draught, .ref bk_doorIn, .ref bk_fanIn, .ref bk_faceIn, .int 0, .int (-1), .ref gr]))] sz) := by
  refine Met.ofW (cc := cX11_reading) (maxL := 4) (ret := (some .int)) (by decide) rfl ?_
  intro p e s m args below meth c s₁ B hml hv
  obtain ⟨rfl, hsz, hn0, hG, hP, hK, hD0⟩ := hv
  have hx := B.exec
  have hb := B.bytes
  have hr := B.returns
  have hts := atoms_spec (ws := wM yX11_reading cX11_reading 4 (some .int)) B.pre
  have hown : s.vm.findClass RX11 = some m.cls := findClass_of_methodNamed B.named
  have hlocks := B.notSynchronized
  subst hsz
  have hD := hD0.self (sz := s.heap.size)
  have hA0 := vA_n0 hD0 hn0
  generalize hAe : va_A [(x0, .inr (11, [.ref rd, .ref dr, .ref bk, .ref st, .ref nw, .ref tr, .ref pl, .ref fl, .ref rg, .int 0, .int 0, .int 0])), (bk, .inr (0, [.int 0, .ref bk_tail, .ref bk_head, .ref bk_hinder, .ref bk_size, .ref bk_walk, .ref bk_draught, .ref bk_doorIn, .ref bk_fanIn, .ref bk_faceIn, .int 0, .int (-1), .ref gr]))] s.heap.size = A at hD hA0 ⊢
  have hA : ∀ q : Nat, s.heap.size ≤ q → A q := fun q h => by rw [← hAe]; exact Or.inr h
  have hS : va_S A s.heap s.heap [] := va_S.rf
  have hl := lv_entry ([.ref x0, .int w, .int v, .int u]) (n := 4) (Nat.le_of_ble_eq_true rfl)
  rw [lg_entry_eq]
  generalize (lg_sl ([.ref x0, .int w, .int v, .int u]) ++ List.replicate (4 - (lg_sl ([.ref x0, .int w, .int v, .int u])).length) Slot.unset).toArray = ls at hl ⊢
  have hl : lv_has ls 4 [(0, .ref x0), (1, .int w), (2, .int v), (3, .int u)] := hl
  refine lv_aload_n hx hb dX11_reading_0 rfl (lv_at hl 0 rfl) ?_
  refine lv_iload_n hx hb dX11_reading_1 rfl (lv_at hl 1 rfl) ?_
  have hPc := hP.sub (ws' := [(x0, .inr (11, [.ref rd, .ref dr, .ref bk, .ref st, .ref nw, .ref tr, .ref pl, .ref fl, .ref rg, .int 0, .int 0, .int 0])), (bk, .inr (0, [.int 0, .ref bk_tail, .ref bk_head, .ref bk_hinder, .ref bk_size, .ref bk_walk, .ref bk_draught, .ref bk_doorIn, .ref bk_fanIn, .ref bk_faceIn, .int 0, .int (-1), .ref gr]))]) [0, 1] rfl
  have hDc := hD.sub (ws' := [(x0, .inr (11, [.ref rd, .ref dr, .ref bk, .ref st, .ref nw, .ref tr, .ref pl, .ref fl, .ref rg, .int 0, .int 0, .int 0])), (bk, .inr (0, [.int 0, .ref bk_tail, .ref bk_head, .ref bk_hinder, .ref bk_size, .ref bk_walk, .ref bk_draught, .ref bk_doorIn, .ref bk_fanIn, .ref bk_faceIn, .int 0, .int (-1), .ref gr]))]) [0, 1] (by decide) rfl
  have hKc := hK.sub (tys' := []) [] rfl
  have hFc := va_free (wc := [(x0, .inr (11, [.ref rd, .ref dr, .ref bk, .ref st, .ref nw, .ref tr, .ref pl, .ref fl, .ref rg, .int 0, .int 0, .int 0])), (bk, .inr (0, [.int 0, .ref bk_tail, .ref bk_head, .ref bk_hinder, .ref bk_size, .ref bk_walk, .ref bk_draught, .ref bk_doorIn, .ref bk_fanIn, .ref bk_faceIn, .int 0, .int (-1), .ref gr]))]) hD hS hA [0, 1] rfl
  refine va_calli (va_runV (As := [.int w]) (rest := []) ⟨hx, hb, hml, hown, hts⟩ (c_isWay l dC dI n0 s.heap.size x0 rd dr bk st nw tr pl fl rg 0 0 0 bk_tail bk_head bk_hinder bk_size bk_walk bk_draught bk_doorIn bk_fanIn bk_faceIn gr w ) (cwV 1 hts (gV (fun w h => wM_c h) wd_950 wd_947 wd_949 wd_25 wd_114) rfl rfl rfl (by decide +kernel) ⟨Nat.le_of_ble_eq_true rfl, Nat.le_of_ble_eq_true rfl⟩) ⟨fun a U g mk q => by obtain ⟨q0, q1, q2, qG, qP, qK, qD⟩ := q; exact ⟨q0, q1, q2, GW.blind qG, qP, va_K.moved (u := U) (U := U.calling g mk a) (Vm.Alike.refl U.vm) qK, qD⟩, va_recv hKc hPc (ci := 11) (q0 := 0) rfl rfl, fun U hU hW => ⟨rfl, by rw [hU], Nat.le_trans hn0 hS.1, GW.go hW hU hG (fun q hq hA9 => hS.2.1 q hq (fun h => hA9 (hA0 q h))), by rw [hU]; exact hPc, va_K.moved hW.alike hKc, hDc.weaken (fun _ _ _ h => hA0 _ h)⟩⟩ rfl rfl hl.1 rfl (lv_room (Nat.le_of_ble_eq_true rfl)) dX11_reading_2 ⟨Nat.le_of_ble_eq_true rfl, Nat.le_of_ble_eq_true rfl⟩) hS (fun q _ h => hFc q h) hFc (fun r_1 u t H1 locs ht hvm hw_2 hB hz1 hk1 hS => ?_)
  obtain ⟨hP1, hK1, hD1⟩ := hB
  rw [ht] at hP1
  obtain ⟨hP, hD⟩ := va_join (wr := []) (w1 := [(x0, .inr (11, [.ref rd, .ref dr, .ref bk, .ref st, .ref nw, .ref tr, .ref pl, .ref fl, .ref rg, .int 0, .int 0, .int 0])), (bk, .inr (0, [.int 0, .ref bk_tail, .ref bk_head, .ref bk_hinder, .ref bk_size, .ref bk_walk, .ref bk_draught, .ref bk_doorIn, .ref bk_fanIn, .ref bk_faceIn, .int 0, .int (-1), .ref gr]))]) hP hD [0, 1] [] rfl rfl (by decide) (by decide) hk1 hFc hP1 hD1
  generalize H1 = H at hP hS ⊢
  have hP : va_P (dC, dI) classes [(x0, .inr (11, [.ref rd, .ref dr, .ref bk, .ref st, .ref nw, .ref tr, .ref pl, .ref fl, .ref rg, .int 0, .int 0, .int 0])), (bk, .inr (0, [.int 0, .ref bk_tail, .ref bk_head, .ref bk_hinder, .ref bk_size, .ref bk_walk, .ref bk_draught, .ref bk_doorIn, .ref bk_fanIn, .ref bk_faceIn, .int 0, .int (-1), .ref gr]))] H := hP
  have hD : va_D A [(x0, .inr (11, [.ref rd, .ref dr, .ref bk, .ref st, .ref nw, .ref tr, .ref pl, .ref fl, .ref rg, .int 0, .int 0, .int 0])), (bk, .inr (0, [.int 0, .ref bk_tail, .ref bk_head, .ref bk_hinder, .ref bk_size, .ref bk_walk, .ref bk_draught, .ref bk_doorIn, .ref bk_fanIn, .ref bk_faceIn, .int 0, .int (-1), .ref gr]))] := hD
  obtain rfl : r_1 = 0 := hw_2
  refine lv_if_ne (tgt := 14) hx hb dX11_reading_5 (by decide) (fun c_3 => ?_) (fun c_3 => ?_)
  · exact absurd c_3 (by decide)
  refine lv_aload_n hx hb dX11_reading_8 rfl (lv_at hl 0 rfl) ?_
  refine lv_iconst (v := 1) hx hb dX11_reading_9 (by decide) ?_
  have hPc := hP.sub (ws' := [(x0, .inr (11, [.ref rd, .ref dr, .ref bk, .ref st, .ref nw, .ref tr, .ref pl, .ref fl, .ref rg, .int 0, .int 0, .int 0]))]) [0] rfl
  have hDc := hD.sub (ws' := [(x0, .inr (11, [.ref rd, .ref dr, .ref bk, .ref st, .ref nw, .ref tr, .ref pl, .ref fl, .ref rg, .int 0, .int 0, .int 0]))]) [0] (by decide) rfl
  have hKc := hK.sub (tys' := []) [] rfl
  have hFc := va_free (wc := [(x0, .inr (11, [.ref rd, .ref dr, .ref bk, .ref st, .ref nw, .ref tr, .ref pl, .ref fl, .ref rg, .int 0, .int 0, .int 0]))]) hD hS hA [0] rfl
  refine va_calli (va_runV (As := [.int 1]) (rest := []) ⟨hx, hb, hml, hown, hts⟩ (c_refuse l dC dI n0 H.size x0 rd dr bk st nw tr pl fl rg 0 0 0 1 ) (cwV 1 hts (gV (fun w h => wM_c h) wd_722 wd_719 wd_721 wd_0 wd_114) rfl rfl rfl (by decide +kernel) ⟨Nat.le_of_ble_eq_true rfl, Nat.le_of_ble_eq_true rfl⟩) ⟨fun a U g mk q => by obtain ⟨q0, q1, q2, qG, qP, qK, qD⟩ := q; exact ⟨q0, q1, q2, GW.blind qG, qP, va_K.moved (u := U) (U := U.calling g mk a) (Vm.Alike.refl U.vm) qK, qD⟩, va_recv hKc hPc (ci := 11) (q0 := 0) rfl rfl, fun U hU hW => ⟨rfl, by rw [hU], Nat.le_trans hn0 hS.1, GW.go hW hU hG (fun q hq hA9 => hS.2.1 q hq (fun h => hA9 (hA0 q h))), by rw [hU]; exact hPc, va_K.moved hW.alike hKc, hDc.weaken (fun _ _ _ h => hA0 _ h)⟩⟩ rfl rfl hl.1 rfl (lv_room (Nat.le_of_ble_eq_true rfl)) dX11_reading_10 ⟨Nat.le_of_ble_eq_true rfl, Nat.le_of_ble_eq_true rfl⟩) hS (fun q _ h => hFc q h) hFc (fun r_4 u t H1 locs ht hvm hw_5 hB hz1 hk1 hS => ?_)
  obtain ⟨hP1, hK1, hD1⟩ := hB
  rw [ht] at hP1
  obtain ⟨hP, hD⟩ := va_join (wr := [(bk, .inr (0, [.int 0, .ref bk_tail, .ref bk_head, .ref bk_hinder, .ref bk_size, .ref bk_walk, .ref bk_draught, .ref bk_doorIn, .ref bk_fanIn, .ref bk_faceIn, .int 0, .int (-1), .ref gr]))]) (w1 := [(x0, .inr (11, [.ref rd, .ref dr, .ref bk, .ref st, .ref nw, .ref tr, .ref pl, .ref fl, .ref rg, .int 1, .int 0, .int 0]))]) hP hD [0] [1] rfl rfl (by decide) (by decide) hk1 hFc hP1 hD1
  generalize H1 = H at hP hS ⊢
  have hP : va_P (dC, dI) classes [(bk, .inr (0, [.int 0, .ref bk_tail, .ref bk_head, .ref bk_hinder, .ref bk_size, .ref bk_walk, .ref bk_draught, .ref bk_doorIn, .ref bk_fanIn, .ref bk_faceIn, .int 0, .int (-1), .ref gr])), (x0, .inr (11, [.ref rd, .ref dr, .ref bk, .ref st, .ref nw, .ref tr, .ref pl, .ref fl, .ref rg, .int 1, .int 0, .int 0]))] H := hP
  have hD : va_D A [(bk, .inr (0, [.int 0, .ref bk_tail, .ref bk_head, .ref bk_hinder, .ref bk_size, .ref bk_walk, .ref bk_draught, .ref bk_doorIn, .ref bk_fanIn, .ref bk_faceIn, .int 0, .int (-1), .ref gr])), (x0, .inr (11, [.ref rd, .ref dr, .ref bk, .ref st, .ref nw, .ref tr, .ref pl, .ref fl, .ref rg, .int 1, .int 0, .int 0]))] := hD
  obtain rfl : r_4 = (-1) := hw_5
  exact W.iret (v := (-1)) hx hb hr (fun t ht hW => ⟨⟨(-1), (), rfl, rfl, trivial⟩, hS.F ht⟩) hS.2.2 dX11_reading_13
set_option maxHeartbeats 4000000 in
set_option maxRecDepth 100000 in
theorem p_fits (l : Launch) (dC : Nat → ClassId) (dI : Nat → Nat → Nat) (n0 sz : Nat) (x0 : Nat) (rd : Nat) (dr : Nat) (bk : Nat) (st : Nat) (nw : Nat) (tr : Nat) (pl : Nat) (fl : Nat) (rg : Nat) (bk_tail : Nat) (bk_head : Nat) (bk_hinder : Nat) (bk_size : Nat) (bk_walk : Nat) (bk_draught : Nat) (bk_doorIn : Nat) (bk_fanIn : Nat) (bk_faceIn : Nat) (gr : Nat) (w : Int32) : Met l yX11_fits (wM yX11_fits cX11_fits 2 (some .int)) ({ frames := 1, cells := 0, slots := 0, locals := 21 }) (va_Pc [.ref x0, .int w] (fun U => U.heap.size = sz ∧ n0 ≤ sz ∧ GW n0 U ∧ va_P (dC, dI) classes [(x0, .inr (11, [.ref rd, .ref dr, .ref bk, .ref st, .ref nw, .ref tr, .ref pl, .ref fl, .ref rg, .int 0, .int 0, .int 0])), (bk, .inr (0, [.int 0, .ref bk_tail, .ref bk_head, .ref bk_hinder, .ref bk_size, .ref bk_walk, .ref bk_draught, .ref bk_doorIn, .ref bk_fanIn, .ref bk_faceIn, .int 0, .int (-1), .ref gr]))] U.heap ∧ va_K (dC, dI) classes [] U ∧ va_D (fun q => n0 ≤ q) [(x0, .inr (11, [.ref rd, .ref dr, .ref bk, .ref st, .ref nw, .ref tr, .ref pl, .ref fl, .ref rg, .int 0, .int 0, .int 0])), (bk, .inr (0, [.int 0, .ref bk_tail, .ref bk_head, .ref bk_hinder, .ref bk_size, .ref bk_walk, .ref bk_draught, .ref bk_doorIn, .ref bk_fanIn, .ref bk_faceIn, .int 0, .int (-1), .ref gr]))])) (va_Qi (fun (r : Int32) (_ : Unit) => r = (-1)) (fun (_ : Unit) (_ : State) => True) (va_A [(x0, .inr (11, [.ref rd, .ref dr, .ref bk, .ref st, .ref nw, .ref tr, .ref pl, .ref fl, .ref rg, .int 0, .int 0, .int 0])), (bk, .inr (0, [.int 0, .ref bk_tail, .ref bk_head, .ref bk_hinder, .ref bk_size, .ref bk_walk, .ref bk_draught, .ref bk_doorIn, .ref bk_fanIn, .ref bk_faceIn, .int 0, .int (-1), .ref gr]))] sz)) 0 0 (va_A [(x0, .inr (11, [.ref rd, .ref dr, .ref bk, .ref st, .ref nw, .ref tr, .ref pl, .ref fl, .ref rg, .int 0, .int 0, .int 0])), (bk, .inr (0, [.int 0, .ref bk_tail, .ref bk_head, .ref bk_hinder, .ref bk_size, .ref bk_walk, .ref bk_draught, .ref bk_doorIn, .ref bk_fanIn, .ref bk_faceIn, .int 0, .int (-1), .ref gr]))] sz) := by
  refine Met.ofW (cc := cX11_fits) (maxL := 2) (ret := (some .int)) (by decide) rfl ?_
  intro p e s m args below meth c s₁ B hml hv
  obtain ⟨rfl, hsz, hn0, hG, hP, hK, hD0⟩ := hv
  have hx := B.exec
  have hb := B.bytes
  have hr := B.returns
  have hts := atoms_spec (ws := wM yX11_fits cX11_fits 2 (some .int)) B.pre
  have hown : s.vm.findClass RX11 = some m.cls := findClass_of_methodNamed B.named
  have hlocks := B.notSynchronized
  subst hsz
  have hD := hD0.self (sz := s.heap.size)
  have hA0 := vA_n0 hD0 hn0
  generalize hAe : va_A [(x0, .inr (11, [.ref rd, .ref dr, .ref bk, .ref st, .ref nw, .ref tr, .ref pl, .ref fl, .ref rg, .int 0, .int 0, .int 0])), (bk, .inr (0, [.int 0, .ref bk_tail, .ref bk_head, .ref bk_hinder, .ref bk_size, .ref bk_walk, .ref bk_draught, .ref bk_doorIn, .ref bk_fanIn, .ref bk_faceIn, .int 0, .int (-1), .ref gr]))] s.heap.size = A at hD hA0 ⊢
  have hA : ∀ q : Nat, s.heap.size ≤ q → A q := fun q h => by rw [← hAe]; exact Or.inr h
  have hS : va_S A s.heap s.heap [] := va_S.rf
  have hl := lv_entry ([.ref x0, .int w]) (n := 2) (Nat.le_of_ble_eq_true rfl)
  rw [lg_entry_eq]
  generalize (lg_sl ([.ref x0, .int w]) ++ List.replicate (2 - (lg_sl ([.ref x0, .int w])).length) Slot.unset).toArray = ls at hl ⊢
  have hl : lv_has ls 2 [(0, .ref x0), (1, .int w)] := hl
  refine lv_aload_n hx hb dX11_fits_0 rfl (lv_at hl 0 rfl) ?_
  have hPc := hP.sub (ws' := [(x0, .inr (11, [.ref rd, .ref dr, .ref bk, .ref st, .ref nw, .ref tr, .ref pl, .ref fl, .ref rg, .int 0, .int 0, .int 0])), (bk, .inr (0, [.int 0, .ref bk_tail, .ref bk_head, .ref bk_hinder, .ref bk_size, .ref bk_walk, .ref bk_draught, .ref bk_doorIn, .ref bk_fanIn, .ref bk_faceIn, .int 0, .int (-1), .ref gr]))]) [0, 1] rfl
  have hDc := hD.sub (ws' := [(x0, .inr (11, [.ref rd, .ref dr, .ref bk, .ref st, .ref nw, .ref tr, .ref pl, .ref fl, .ref rg, .int 0, .int 0, .int 0])), (bk, .inr (0, [.int 0, .ref bk_tail, .ref bk_head, .ref bk_hinder, .ref bk_size, .ref bk_walk, .ref bk_draught, .ref bk_doorIn, .ref bk_fanIn, .ref bk_faceIn, .int 0, .int (-1), .ref gr]))]) [0, 1] (by decide) rfl
  have hKc := hK.sub (tys' := []) [] rfl
  have hFc := va_free (wc := [(x0, .inr (11, [.ref rd, .ref dr, .ref bk, .ref st, .ref nw, .ref tr, .ref pl, .ref fl, .ref rg, .int 0, .int 0, .int 0])), (bk, .inr (0, [.int 0, .ref bk_tail, .ref bk_head, .ref bk_hinder, .ref bk_size, .ref bk_walk, .ref bk_draught, .ref bk_doorIn, .ref bk_fanIn, .ref bk_faceIn, .int 0, .int (-1), .ref gr]))]) hD hS hA [0, 1] rfl
  refine va_calli (va_runV (As := []) (rest := []) ⟨hx, hb, hml, hown, hts⟩ (c_isBooked l dC dI n0 s.heap.size x0 rd dr bk st nw tr pl fl rg 0 0 0 bk_tail bk_head bk_hinder bk_size bk_walk bk_draught bk_doorIn bk_fanIn bk_faceIn gr ) (cwV 0 hts (gV (fun w h => wM_c h) wd_1068 wd_1065 wd_1067 wd_39 wd_114) rfl rfl rfl (by decide +kernel) ⟨Nat.le_of_ble_eq_true rfl, Nat.le_of_ble_eq_true rfl⟩) ⟨fun a U g mk q => by obtain ⟨q0, q1, q2, qG, qP, qK, qD⟩ := q; exact ⟨q0, q1, q2, GW.blind qG, qP, va_K.moved (u := U) (U := U.calling g mk a) (Vm.Alike.refl U.vm) qK, qD⟩, va_recv hKc hPc (ci := 11) (q0 := 0) rfl rfl, fun U hU hW => ⟨rfl, by rw [hU], Nat.le_trans hn0 hS.1, GW.go hW hU hG (fun q hq hA9 => hS.2.1 q hq (fun h => hA9 (hA0 q h))), by rw [hU]; exact hPc, va_K.moved hW.alike hKc, hDc.weaken (fun _ _ _ h => hA0 _ h)⟩⟩ rfl rfl hl.1 rfl (lv_room (Nat.le_of_ble_eq_true rfl)) dX11_fits_1 ⟨Nat.le_of_ble_eq_true rfl, Nat.le_of_ble_eq_true rfl⟩) hS (fun q _ h => hFc q h) hFc (fun r_1 u t H1 locs ht hvm hw_2 hB hz1 hk1 hS => ?_)
  obtain ⟨hP1, hK1, hD1⟩ := hB
  rw [ht] at hP1
  obtain ⟨hP, hD⟩ := va_join (wr := []) (w1 := [(x0, .inr (11, [.ref rd, .ref dr, .ref bk, .ref st, .ref nw, .ref tr, .ref pl, .ref fl, .ref rg, .int 0, .int 0, .int 0])), (bk, .inr (0, [.int 0, .ref bk_tail, .ref bk_head, .ref bk_hinder, .ref bk_size, .ref bk_walk, .ref bk_draught, .ref bk_doorIn, .ref bk_fanIn, .ref bk_faceIn, .int 0, .int (-1), .ref gr]))]) hP hD [0, 1] [] rfl rfl (by decide) (by decide) hk1 hFc hP1 hD1
  generalize H1 = H at hP hS ⊢
  have hP : va_P (dC, dI) classes [(x0, .inr (11, [.ref rd, .ref dr, .ref bk, .ref st, .ref nw, .ref tr, .ref pl, .ref fl, .ref rg, .int 0, .int 0, .int 0])), (bk, .inr (0, [.int 0, .ref bk_tail, .ref bk_head, .ref bk_hinder, .ref bk_size, .ref bk_walk, .ref bk_draught, .ref bk_doorIn, .ref bk_fanIn, .ref bk_faceIn, .int 0, .int (-1), .ref gr]))] H := hP
  have hD : va_D A [(x0, .inr (11, [.ref rd, .ref dr, .ref bk, .ref st, .ref nw, .ref tr, .ref pl, .ref fl, .ref rg, .int 0, .int 0, .int 0])), (bk, .inr (0, [.int 0, .ref bk_tail, .ref bk_head, .ref bk_hinder, .ref bk_size, .ref bk_walk, .ref bk_draught, .ref bk_doorIn, .ref bk_fanIn, .ref bk_faceIn, .int 0, .int (-1), .ref gr]))] := hD
  obtain rfl : r_1 = 0 := hw_2
  refine lv_if_ne (tgt := 13) hx hb dX11_fits_4 (by decide) (fun c_3 => ?_) (fun c_3 => ?_)
  · exact absurd c_3 (by decide)
  refine lv_aload_n hx hb dX11_fits_7 rfl (lv_at hl 0 rfl) ?_
  refine lv_iconst (v := 1) hx hb dX11_fits_8 (by decide) ?_
  have hPc := hP.sub (ws' := [(x0, .inr (11, [.ref rd, .ref dr, .ref bk, .ref st, .ref nw, .ref tr, .ref pl, .ref fl, .ref rg, .int 0, .int 0, .int 0]))]) [0] rfl
  have hDc := hD.sub (ws' := [(x0, .inr (11, [.ref rd, .ref dr, .ref bk, .ref st, .ref nw, .ref tr, .ref pl, .ref fl, .ref rg, .int 0, .int 0, .int 0]))]) [0] (by decide) rfl
  have hKc := hK.sub (tys' := []) [] rfl
  have hFc := va_free (wc := [(x0, .inr (11, [.ref rd, .ref dr, .ref bk, .ref st, .ref nw, .ref tr, .ref pl, .ref fl, .ref rg, .int 0, .int 0, .int 0]))]) hD hS hA [0] rfl
  refine va_calli (va_runV (As := [.int 1]) (rest := []) ⟨hx, hb, hml, hown, hts⟩ (c_refuse l dC dI n0 H.size x0 rd dr bk st nw tr pl fl rg 0 0 0 1 ) (cwV 1 hts (gV (fun w h => wM_c h) wd_722 wd_719 wd_721 wd_0 wd_114) rfl rfl rfl (by decide +kernel) ⟨Nat.le_of_ble_eq_true rfl, Nat.le_of_ble_eq_true rfl⟩) ⟨fun a U g mk q => by obtain ⟨q0, q1, q2, qG, qP, qK, qD⟩ := q; exact ⟨q0, q1, q2, GW.blind qG, qP, va_K.moved (u := U) (U := U.calling g mk a) (Vm.Alike.refl U.vm) qK, qD⟩, va_recv hKc hPc (ci := 11) (q0 := 0) rfl rfl, fun U hU hW => ⟨rfl, by rw [hU], Nat.le_trans hn0 hS.1, GW.go hW hU hG (fun q hq hA9 => hS.2.1 q hq (fun h => hA9 (hA0 q h))), by rw [hU]; exact hPc, va_K.moved hW.alike hKc, hDc.weaken (fun _ _ _ h => hA0 _ h)⟩⟩ rfl rfl hl.1 rfl (lv_room (Nat.le_of_ble_eq_true rfl)) dX11_fits_9 ⟨Nat.le_of_ble_eq_true rfl, Nat.le_of_ble_eq_true rfl⟩) hS (fun q _ h => hFc q h) hFc (fun r_4 u t H1 locs ht hvm hw_5 hB hz1 hk1 hS => ?_)
  obtain ⟨hP1, hK1, hD1⟩ := hB
  rw [ht] at hP1
  obtain ⟨hP, hD⟩ := va_join (wr := [(bk, .inr (0, [.int 0, .ref bk_tail, .ref bk_head, .ref bk_hinder, .ref bk_size, .ref bk_walk, .ref bk_draught, .ref bk_doorIn, .ref bk_fanIn, .ref bk_faceIn, .int 0, .int (-1), .ref gr]))]) (w1 := [(x0, .inr (11, [.ref rd, .ref dr, .ref bk, .ref st, .ref nw, .ref tr, .ref pl, .ref fl, .ref rg, .int 1, .int 0, .int 0]))]) hP hD [0] [1] rfl rfl (by decide) (by decide) hk1 hFc hP1 hD1
  generalize H1 = H at hP hS ⊢
  have hP : va_P (dC, dI) classes [(bk, .inr (0, [.int 0, .ref bk_tail, .ref bk_head, .ref bk_hinder, .ref bk_size, .ref bk_walk, .ref bk_draught, .ref bk_doorIn, .ref bk_fanIn, .ref bk_faceIn, .int 0, .int (-1), .ref gr])), (x0, .inr (11, [.ref rd, .ref dr, .ref bk, .ref st, .ref nw, .ref tr, .ref pl, .ref fl, .ref rg, .int 1, .int 0, .int 0]))] H := hP
  have hD : va_D A [(bk, .inr (0, [.int 0, .ref bk_tail, .ref bk_head, .ref bk_hinder, .ref bk_size, .ref bk_walk, .ref bk_draught, .ref bk_doorIn, .ref bk_fanIn, .ref bk_faceIn, .int 0, .int (-1), .ref gr])), (x0, .inr (11, [.ref rd, .ref dr, .ref bk, .ref st, .ref nw, .ref tr, .ref pl, .ref fl, .ref rg, .int 1, .int 0, .int 0]))] := hD
  obtain rfl : r_4 = (-1) := hw_5
  exact W.iret (v := (-1)) hx hb hr (fun t ht hW => ⟨⟨(-1), (), rfl, rfl, trivial⟩, hS.F ht⟩) hS.2.2 dX11_fits_12
set_option maxHeartbeats 4000000 in
set_option maxRecDepth 100000 in
theorem c_planForget (l : Launch) (dC : Nat → ClassId) (dI : Nat → Nat → Nat) (n0 sz : Nat) (pl : Nat) (pl_order : Nat) (pl_state : Nat) (pl_now : Nat) (pl_trial : Nat) (pl_kind : Nat) (pl_which : Nat) (pl_value : Nat) (pl_soundBy : Nat) : Met l yX6_forget (wM yX6_forget cX6_forget 1 none) ({ frames := 0, cells := 0, slots := 0, locals := 0 }) (va_Pc [.ref pl] (fun U => U.heap.size = sz ∧ n0 ≤ sz ∧ GW n0 U ∧ va_P (dC, dI) classes [(pl, .inr (6, [.int 0, .ref pl_order, .ref pl_state, .ref pl_now, .ref pl_trial, .ref pl_kind, .ref pl_which, .ref pl_value, .ref pl_soundBy, .int 0, .int 0]))] U.heap ∧ va_K (dC, dI) classes [] U ∧ va_D (fun q => n0 ≤ q) [(pl, .inr (6, [.int 0, .ref pl_order, .ref pl_state, .ref pl_now, .ref pl_trial, .ref pl_kind, .ref pl_which, .ref pl_value, .ref pl_soundBy, .int 0, .int 0]))])) (va_Qv (fun _ : Unit => True) (fun (_ : Unit) (t : State) => va_P (dC, dI) classes [(pl, .inr (6, [.int 0, .ref pl_order, .ref pl_state, .ref pl_now, .ref pl_trial, .ref pl_kind, .ref pl_which, .ref pl_value, .ref pl_soundBy, .int 0, .int 0]))] t.heap ∧ va_K (dC, dI) classes [] t ∧ va_D (va_A [(pl, .inr (6, [.int 0, .ref pl_order, .ref pl_state, .ref pl_now, .ref pl_trial, .ref pl_kind, .ref pl_which, .ref pl_value, .ref pl_soundBy, .int 0, .int 0]))] sz) [(pl, .inr (6, [.int 0, .ref pl_order, .ref pl_state, .ref pl_now, .ref pl_trial, .ref pl_kind, .ref pl_which, .ref pl_value, .ref pl_soundBy, .int 0, .int 0]))]) (va_A [(pl, .inr (6, [.int 0, .ref pl_order, .ref pl_state, .ref pl_now, .ref pl_trial, .ref pl_kind, .ref pl_which, .ref pl_value, .ref pl_soundBy, .int 0, .int 0]))] sz)) 0 0 (va_A [(pl, .inr (6, [.int 0, .ref pl_order, .ref pl_state, .ref pl_now, .ref pl_trial, .ref pl_kind, .ref pl_which, .ref pl_value, .ref pl_soundBy, .int 0, .int 0]))] sz) := by
  refine Met.ofW (cc := cX6_forget) (maxL := 1) (ret := none) (by decide) rfl ?_
  intro p e s m args below meth c s₁ B hml hv
  obtain ⟨rfl, hsz, hn0, hG, hP, hK, hD0⟩ := hv
  have hx := B.exec
  have hb := B.bytes
  have hr := B.returns
  have hts := atoms_spec (ws := wM yX6_forget cX6_forget 1 none) B.pre
  have hown : s.vm.findClass RX6 = some m.cls := findClass_of_methodNamed B.named
  have hlocks := B.notSynchronized
  subst hsz
  have hD := hD0.self (sz := s.heap.size)
  have hA0 := vA_n0 hD0 hn0
  generalize hAe : va_A [(pl, .inr (6, [.int 0, .ref pl_order, .ref pl_state, .ref pl_now, .ref pl_trial, .ref pl_kind, .ref pl_which, .ref pl_value, .ref pl_soundBy, .int 0, .int 0]))] s.heap.size = A at hD hA0 ⊢
  have hA : ∀ q : Nat, s.heap.size ≤ q → A q := fun q h => by rw [← hAe]; exact Or.inr h
  have hS : va_S A s.heap s.heap [] := va_S.rf
  have hl := lv_entry ([.ref pl]) (n := 1) (Nat.le_of_ble_eq_true rfl)
  rw [lg_entry_eq]
  generalize (lg_sl ([.ref pl]) ++ List.replicate (1 - (lg_sl ([.ref pl])).length) Slot.unset).toArray = ls at hl ⊢
  have hl : lv_has ls 1 [(0, .ref pl)] := hl
  refine lv_aload_n hx hb dX6_forget_0 rfl (lv_at hl 0 rfl) ?_
  refine lv_iconst (v := 0) hx hb dX6_forget_1 (by decide) ?_
  refine va_put (D := (dC, dI)) (ci := 6) (v := .int 0) (ty := .int) (C := RX6) (T := TX6) (N := 11) hx hb hts (fun w h => wM_c (iX6 w h)) tyX6 tyX6_ok nmX6 hown hK hP hD hS 0 rfl rfl 9 (by decide) (hts _ (wM_c wd_583)) (fun _ h9 => h9) rfl (by decide +kernel) rfl rfl (Nat.le_of_ble_eq_true rfl) dX6_forget_2 (fun H locs hP hD hS => ?_)
  have hP : va_P (dC, dI) classes [(pl, .inr (6, [.int 0, .ref pl_order, .ref pl_state, .ref pl_now, .ref pl_trial, .ref pl_kind, .ref pl_which, .ref pl_value, .ref pl_soundBy, .int 0, .int 0]))] H := hP
  have hD : va_D A [(pl, .inr (6, [.int 0, .ref pl_order, .ref pl_state, .ref pl_now, .ref pl_trial, .ref pl_kind, .ref pl_which, .ref pl_value, .ref pl_soundBy, .int 0, .int 0]))] := hD
  have hP9 := hP.sub (ws' := [(pl, .inr (6, [.int 0, .ref pl_order, .ref pl_state, .ref pl_now, .ref pl_trial, .ref pl_kind, .ref pl_which, .ref pl_value, .ref pl_soundBy, .int 0, .int 0]))]) [0] rfl
  have hD9 := hD.sub (ws' := [(pl, .inr (6, [.int 0, .ref pl_order, .ref pl_state, .ref pl_now, .ref pl_trial, .ref pl_kind, .ref pl_which, .ref pl_value, .ref pl_soundBy, .int 0, .int 0]))]) [0] (by decide) rfl
  have hK9 := hK.sub (tys' := []) [] rfl
  exact W.vret hx hb hr (fun t ht hW => ⟨⟨(), rfl, trivial, by rw [ht]; exact hP9, va_K.moved hW.alike hK9, hD9⟩, hS.F ht⟩) hS.2.2 dX6_forget_5
set_option maxHeartbeats 4000000 in
set_option maxRecDepth 100000 in
theorem c_forgetVerdicts (l : Launch) (dC : Nat → ClassId) (dI : Nat → Nat → Nat) (n0 sz : Nat) (x0 : Nat) (rd : Nat) (dr : Nat) (bk : Nat) (st : Nat) (nw : Nat) (tr : Nat) (pl : Nat) (fl : Nat) (rg : Nat) (tb : Int32) (ft : Int32) (pc : Int32) (tr_book : Nat) (tr_state : Nat) (tr_now : Nat) (tr_trial : Nat) (tr_ranks : Nat) (tr_keptSpeed : Nat) (pl_order : Nat) (pl_state : Nat) (pl_now : Nat) (pl_trial : Nat) (pl_kind : Nat) (pl_which : Nat) (pl_value : Nat) (pl_soundBy : Nat) : Met l yX11_forgetVerdicts (wM yX11_forgetVerdicts cX11_forgetVerdicts 1 none) ({ frames := 1, cells := 0, slots := 0, locals := 20 }) (va_Pc [.ref x0] (fun U => U.heap.size = sz ∧ n0 ≤ sz ∧ GW n0 U ∧ va_P (dC, dI) classes [(x0, .inr (11, [.ref rd, .ref dr, .ref bk, .ref st, .ref nw, .ref tr, .ref pl, .ref fl, .ref rg, .int tb, .int ft, .int pc])), (tr, .inr (10, [.int 0, .int 0, .ref tr_book, .ref tr_state, .ref tr_now, .ref tr_trial, .ref tr_ranks, .ref tr_keptSpeed])), (pl, .inr (6, [.int 0, .ref pl_order, .ref pl_state, .ref pl_now, .ref pl_trial, .ref pl_kind, .ref pl_which, .ref pl_value, .ref pl_soundBy, .int 0, .int 0]))] U.heap ∧ va_K (dC, dI) classes [] U ∧ va_D (fun q => n0 ≤ q) [(x0, .inr (11, [.ref rd, .ref dr, .ref bk, .ref st, .ref nw, .ref tr, .ref pl, .ref fl, .ref rg, .int tb, .int ft, .int pc])), (tr, .inr (10, [.int 0, .int 0, .ref tr_book, .ref tr_state, .ref tr_now, .ref tr_trial, .ref tr_ranks, .ref tr_keptSpeed])), (pl, .inr (6, [.int 0, .ref pl_order, .ref pl_state, .ref pl_now, .ref pl_trial, .ref pl_kind, .ref pl_which, .ref pl_value, .ref pl_soundBy, .int 0, .int 0]))])) (va_Qv (fun _ : Unit => True) (fun (_ : Unit) (t : State) => va_P (dC, dI) classes [(x0, .inr (11, [.ref rd, .ref dr, .ref bk, .ref st, .ref nw, .ref tr, .ref pl, .ref fl, .ref rg, .int tb, .int ft, .int pc])), (tr, .inr (10, [.int 0, .int 0, .ref tr_book, .ref tr_state, .ref tr_now, .ref tr_trial, .ref tr_ranks, .ref tr_keptSpeed])), (pl, .inr (6, [.int 0, .ref pl_order, .ref pl_state, .ref pl_now, .ref pl_trial, .ref pl_kind, .ref pl_which, .ref pl_value, .ref pl_soundBy, .int 0, .int 0]))] t.heap ∧ va_K (dC, dI) classes [] t ∧ va_D (va_A [(x0, .inr (11, [.ref rd, .ref dr, .ref bk, .ref st, .ref nw, .ref tr, .ref pl, .ref fl, .ref rg, .int tb, .int ft, .int pc])), (tr, .inr (10, [.int 0, .int 0, .ref tr_book, .ref tr_state, .ref tr_now, .ref tr_trial, .ref tr_ranks, .ref tr_keptSpeed])), (pl, .inr (6, [.int 0, .ref pl_order, .ref pl_state, .ref pl_now, .ref pl_trial, .ref pl_kind, .ref pl_which, .ref pl_value, .ref pl_soundBy, .int 0, .int 0]))] sz) [(x0, .inr (11, [.ref rd, .ref dr, .ref bk, .ref st, .ref nw, .ref tr, .ref pl, .ref fl, .ref rg, .int tb, .int ft, .int pc])), (tr, .inr (10, [.int 0, .int 0, .ref tr_book, .ref tr_state, .ref tr_now, .ref tr_trial, .ref tr_ranks, .ref tr_keptSpeed])), (pl, .inr (6, [.int 0, .ref pl_order, .ref pl_state, .ref pl_now, .ref pl_trial, .ref pl_kind, .ref pl_which, .ref pl_value, .ref pl_soundBy, .int 0, .int 0]))]) (va_A [(x0, .inr (11, [.ref rd, .ref dr, .ref bk, .ref st, .ref nw, .ref tr, .ref pl, .ref fl, .ref rg, .int tb, .int ft, .int pc])), (tr, .inr (10, [.int 0, .int 0, .ref tr_book, .ref tr_state, .ref tr_now, .ref tr_trial, .ref tr_ranks, .ref tr_keptSpeed])), (pl, .inr (6, [.int 0, .ref pl_order, .ref pl_state, .ref pl_now, .ref pl_trial, .ref pl_kind, .ref pl_which, .ref pl_value, .ref pl_soundBy, .int 0, .int 0]))] sz)) 0 0 (va_A [(x0, .inr (11, [.ref rd, .ref dr, .ref bk, .ref st, .ref nw, .ref tr, .ref pl, .ref fl, .ref rg, .int tb, .int ft, .int pc])), (tr, .inr (10, [.int 0, .int 0, .ref tr_book, .ref tr_state, .ref tr_now, .ref tr_trial, .ref tr_ranks, .ref tr_keptSpeed])), (pl, .inr (6, [.int 0, .ref pl_order, .ref pl_state, .ref pl_now, .ref pl_trial, .ref pl_kind, .ref pl_which, .ref pl_value, .ref pl_soundBy, .int 0, .int 0]))] sz) := by
  refine Met.ofW (cc := cX11_forgetVerdicts) (maxL := 1) (ret := none) (by decide) rfl ?_
  intro p e s m args below meth c s₁ B hml hv
  obtain ⟨rfl, hsz, hn0, hG, hP, hK, hD0⟩ := hv
  have hx := B.exec
  have hb := B.bytes
  have hr := B.returns
  have hts := atoms_spec (ws := wM yX11_forgetVerdicts cX11_forgetVerdicts 1 none) B.pre
  have hown : s.vm.findClass RX11 = some m.cls := findClass_of_methodNamed B.named
  have hlocks := B.notSynchronized
  subst hsz
  have hD := hD0.self (sz := s.heap.size)
  have hA0 := vA_n0 hD0 hn0
  generalize hAe : va_A [(x0, .inr (11, [.ref rd, .ref dr, .ref bk, .ref st, .ref nw, .ref tr, .ref pl, .ref fl, .ref rg, .int tb, .int ft, .int pc])), (tr, .inr (10, [.int 0, .int 0, .ref tr_book, .ref tr_state, .ref tr_now, .ref tr_trial, .ref tr_ranks, .ref tr_keptSpeed])), (pl, .inr (6, [.int 0, .ref pl_order, .ref pl_state, .ref pl_now, .ref pl_trial, .ref pl_kind, .ref pl_which, .ref pl_value, .ref pl_soundBy, .int 0, .int 0]))] s.heap.size = A at hD hA0 ⊢
  have hA : ∀ q : Nat, s.heap.size ≤ q → A q := fun q h => by rw [← hAe]; exact Or.inr h
  have hS : va_S A s.heap s.heap [] := va_S.rf
  have hl := lv_entry ([.ref x0]) (n := 1) (Nat.le_of_ble_eq_true rfl)
  rw [lg_entry_eq]
  generalize (lg_sl ([.ref x0]) ++ List.replicate (1 - (lg_sl ([.ref x0])).length) Slot.unset).toArray = ls at hl ⊢
  have hl : lv_has ls 1 [(0, .ref x0)] := hl
  refine lv_aload_n hx hb dX11_forgetVerdicts_0 rfl (lv_at hl 0 rfl) ?_
  refine va_get (D := (dC, dI)) (ci := 11) (v := .ref tr) (C := RX11) (T := TX11) (N := 12) hx hb hts (fun w h => wM_c (iX11 w h)) hown hK hP 0 rfl rfl 5 (by decide) (hts _ (wM_c wd_675)) (fun _ h9 => h9) rfl dX11_forgetVerdicts_1 ?_
  refine lv_iconst (v := 0) hx hb dX11_forgetVerdicts_4 (by decide) ?_
  refine va_put (D := (dC, dI)) (ci := 10) (v := .int 0) (ty := .boolean) (C := RX10) (T := TX10) (N := 8) hx hb hts (fun w h => wM_c (iX10 w h)) tyX10 tyX10_ok nmX10 hown hK hP hD hS 1 rfl rfl 0 (by decide) (hts _ (wM_c wd_541)) (fun _ h9 => h9) rfl (by decide +kernel) rfl rfl (Nat.le_of_ble_eq_true rfl) dX11_forgetVerdicts_5 (fun H locs hP hD hS => ?_)
  have hP : va_P (dC, dI) classes [(x0, .inr (11, [.ref rd, .ref dr, .ref bk, .ref st, .ref nw, .ref tr, .ref pl, .ref fl, .ref rg, .int tb, .int ft, .int pc])), (tr, .inr (10, [.int 0, .int 0, .ref tr_book, .ref tr_state, .ref tr_now, .ref tr_trial, .ref tr_ranks, .ref tr_keptSpeed])), (pl, .inr (6, [.int 0, .ref pl_order, .ref pl_state, .ref pl_now, .ref pl_trial, .ref pl_kind, .ref pl_which, .ref pl_value, .ref pl_soundBy, .int 0, .int 0]))] H := hP
  have hD : va_D A [(x0, .inr (11, [.ref rd, .ref dr, .ref bk, .ref st, .ref nw, .ref tr, .ref pl, .ref fl, .ref rg, .int tb, .int ft, .int pc])), (tr, .inr (10, [.int 0, .int 0, .ref tr_book, .ref tr_state, .ref tr_now, .ref tr_trial, .ref tr_ranks, .ref tr_keptSpeed])), (pl, .inr (6, [.int 0, .ref pl_order, .ref pl_state, .ref pl_now, .ref pl_trial, .ref pl_kind, .ref pl_which, .ref pl_value, .ref pl_soundBy, .int 0, .int 0]))] := hD
  refine lv_aload_n hx hb dX11_forgetVerdicts_8 rfl (lv_at hl 0 rfl) ?_
  refine va_get (D := (dC, dI)) (ci := 11) (v := .ref pl) (C := RX11) (T := TX11) (N := 12) hx hb hts (fun w h => wM_c (iX11 w h)) hown hK hP 0 rfl rfl 6 (by decide) (hts _ (wM_c wd_676)) (fun _ h9 => h9) rfl dX11_forgetVerdicts_9 ?_
  have hPc := hP.sub (ws' := [(pl, .inr (6, [.int 0, .ref pl_order, .ref pl_state, .ref pl_now, .ref pl_trial, .ref pl_kind, .ref pl_which, .ref pl_value, .ref pl_soundBy, .int 0, .int 0]))]) [2] rfl
  have hDc := hD.sub (ws' := [(pl, .inr (6, [.int 0, .ref pl_order, .ref pl_state, .ref pl_now, .ref pl_trial, .ref pl_kind, .ref pl_which, .ref pl_value, .ref pl_soundBy, .int 0, .int 0]))]) [2] (by decide) rfl
  have hKc := hK.sub (tys' := []) [] rfl
  have hFc := va_free (wc := [(pl, .inr (6, [.int 0, .ref pl_order, .ref pl_state, .ref pl_now, .ref pl_trial, .ref pl_kind, .ref pl_which, .ref pl_value, .ref pl_soundBy, .int 0, .int 0]))]) hD hS hA [2] rfl
  refine va_callv (va_runV (As := []) (rest := []) ⟨hx, hb, hml, hown, hts⟩ (c_planForget l dC dI n0 H.size pl pl_order pl_state pl_now pl_trial pl_kind pl_which pl_value pl_soundBy ) (cwV 0 hts (gV (fun w h => wM_c h) wd_929 wd_926 wd_927 wd_928 wd_123) rfl rfl rfl (by decide +kernel) ⟨Nat.le_of_ble_eq_true rfl, Nat.le_of_ble_eq_true rfl⟩) ⟨fun a U g mk q => by obtain ⟨q0, q1, q2, qG, qP, qK, qD⟩ := q; exact ⟨q0, q1, q2, GW.blind qG, qP, va_K.moved (u := U) (U := U.calling g mk a) (Vm.Alike.refl U.vm) qK, qD⟩, va_recv hKc hPc (ci := 6) (q0 := 0) rfl rfl, fun U hU hW => ⟨rfl, by rw [hU], Nat.le_trans hn0 hS.1, GW.go hW hU hG (fun q hq hA9 => hS.2.1 q hq (fun h => hA9 (hA0 q h))), by rw [hU]; exact hPc, va_K.moved hW.alike hKc, hDc.weaken (fun _ _ _ h => hA0 _ h)⟩⟩ rfl rfl hl.1 rfl (lv_room (Nat.le_of_ble_eq_true rfl)) dX11_forgetVerdicts_12 ⟨Nat.le_of_ble_eq_true rfl, Nat.le_of_ble_eq_true rfl⟩) hS (fun q _ h => hFc q h) hFc (fun u t H1 locs ht hvm hw_2 hB hz1 hk1 hS => ?_)
  obtain ⟨hP1, hK1, hD1⟩ := hB
  rw [ht] at hP1
  obtain ⟨hP, hD⟩ := va_join (wr := [(x0, .inr (11, [.ref rd, .ref dr, .ref bk, .ref st, .ref nw, .ref tr, .ref pl, .ref fl, .ref rg, .int tb, .int ft, .int pc])), (tr, .inr (10, [.int 0, .int 0, .ref tr_book, .ref tr_state, .ref tr_now, .ref tr_trial, .ref tr_ranks, .ref tr_keptSpeed]))]) (w1 := [(pl, .inr (6, [.int 0, .ref pl_order, .ref pl_state, .ref pl_now, .ref pl_trial, .ref pl_kind, .ref pl_which, .ref pl_value, .ref pl_soundBy, .int 0, .int 0]))]) hP hD [2] [0, 1] rfl rfl (by decide) (by decide) hk1 hFc hP1 hD1
  generalize H1 = H at hP hS ⊢
  have hP : va_P (dC, dI) classes [(x0, .inr (11, [.ref rd, .ref dr, .ref bk, .ref st, .ref nw, .ref tr, .ref pl, .ref fl, .ref rg, .int tb, .int ft, .int pc])), (tr, .inr (10, [.int 0, .int 0, .ref tr_book, .ref tr_state, .ref tr_now, .ref tr_trial, .ref tr_ranks, .ref tr_keptSpeed])), (pl, .inr (6, [.int 0, .ref pl_order, .ref pl_state, .ref pl_now, .ref pl_trial, .ref pl_kind, .ref pl_which, .ref pl_value, .ref pl_soundBy, .int 0, .int 0]))] H := hP
  have hD : va_D A [(x0, .inr (11, [.ref rd, .ref dr, .ref bk, .ref st, .ref nw, .ref tr, .ref pl, .ref fl, .ref rg, .int tb, .int ft, .int pc])), (tr, .inr (10, [.int 0, .int 0, .ref tr_book, .ref tr_state, .ref tr_now, .ref tr_trial, .ref tr_ranks, .ref tr_keptSpeed])), (pl, .inr (6, [.int 0, .ref pl_order, .ref pl_state, .ref pl_now, .ref pl_trial, .ref pl_kind, .ref pl_which, .ref pl_value, .ref pl_soundBy, .int 0, .int 0]))] := hD
  have hP9 := hP.sub (ws' := [(x0, .inr (11, [.ref rd, .ref dr, .ref bk, .ref st, .ref nw, .ref tr, .ref pl, .ref fl, .ref rg, .int tb, .int ft, .int pc])), (tr, .inr (10, [.int 0, .int 0, .ref tr_book, .ref tr_state, .ref tr_now, .ref tr_trial, .ref tr_ranks, .ref tr_keptSpeed])), (pl, .inr (6, [.int 0, .ref pl_order, .ref pl_state, .ref pl_now, .ref pl_trial, .ref pl_kind, .ref pl_which, .ref pl_value, .ref pl_soundBy, .int 0, .int 0]))]) [0, 1, 2] rfl
  have hD9 := hD.sub (ws' := [(x0, .inr (11, [.ref rd, .ref dr, .ref bk, .ref st, .ref nw, .ref tr, .ref pl, .ref fl, .ref rg, .int tb, .int ft, .int pc])), (tr, .inr (10, [.int 0, .int 0, .ref tr_book, .ref tr_state, .ref tr_now, .ref tr_trial, .ref tr_ranks, .ref tr_keptSpeed])), (pl, .inr (6, [.int 0, .ref pl_order, .ref pl_state, .ref pl_now, .ref pl_trial, .ref pl_kind, .ref pl_which, .ref pl_value, .ref pl_soundBy, .int 0, .int 0]))]) [0, 1, 2] (by decide) rfl
  have hK9 := hK.sub (tys' := []) [] rfl
  exact W.vret hx hb hr (fun t ht hW => ⟨⟨(), rfl, trivial, by rw [ht]; exact hP9, va_K.moved hW.alike hK9, hD9⟩, hS.F ht⟩) hS.2.2 dX11_forgetVerdicts_15
set_option maxHeartbeats 4000000 in
set_option maxRecDepth 100000 in
theorem p_mark (l : Launch) (dC : Nat → ClassId) (dI : Nat → Nat → Nat) (n0 sz : Nat) (x0 : Nat) (rd : Nat) (dr : Nat) (bk : Nat) (st : Nat) (nw : Nat) (tr : Nat) (pl : Nat) (fl : Nat) (rg : Nat) (st_open : Nat) (st_speed : Nat) (st_fallen : Nat) (st_fire : Nat) (st_book : Nat) (tr_book : Nat) (tr_state : Nat) (tr_now : Nat) (tr_trial : Nat) (tr_ranks : Nat) (tr_keptSpeed : Nat) (pl_order : Nat) (pl_state : Nat) (pl_now : Nat) (pl_trial : Nat) (pl_kind : Nat) (pl_which : Nat) (pl_value : Nat) (pl_soundBy : Nat) (w : Int32) : Met l yX11_mark (wM yX11_mark cX11_mark 2 (some .boolean)) ({ frames := 2, cells := 0, slots := 0, locals := 40 }) (va_Pc [.ref x0, .int w] (fun U => U.heap.size = sz ∧ n0 ≤ sz ∧ GW n0 U ∧ va_P (dC, dI) classes [(x0, .inr (11, [.ref rd, .ref dr, .ref bk, .ref st, .ref nw, .ref tr, .ref pl, .ref fl, .ref rg, .int 0, .int 0, .int 0])), (st, .inr (9, [.ref st_open, .ref st_speed, .ref st_fallen, .ref st_fire, .int 10, .int (-1), .int 0, .ref st_book])), (tr, .inr (10, [.int 0, .int 0, .ref tr_book, .ref tr_state, .ref tr_now, .ref tr_trial, .ref tr_ranks, .ref tr_keptSpeed])), (pl, .inr (6, [.int 0, .ref pl_order, .ref pl_state, .ref pl_now, .ref pl_trial, .ref pl_kind, .ref pl_which, .ref pl_value, .ref pl_soundBy, .int 0, .int 0]))] U.heap ∧ va_K (dC, dI) classes [] U ∧ va_D (fun q => n0 ≤ q) [(x0, .inr (11, [.ref rd, .ref dr, .ref bk, .ref st, .ref nw, .ref tr, .ref pl, .ref fl, .ref rg, .int 0, .int 0, .int 0])), (st, .inr (9, [.ref st_open, .ref st_speed, .ref st_fallen, .ref st_fire, .int 10, .int (-1), .int 0, .ref st_book])), (tr, .inr (10, [.int 0, .int 0, .ref tr_book, .ref tr_state, .ref tr_now, .ref tr_trial, .ref tr_ranks, .ref tr_keptSpeed])), (pl, .inr (6, [.int 0, .ref pl_order, .ref pl_state, .ref pl_now, .ref pl_trial, .ref pl_kind, .ref pl_which, .ref pl_value, .ref pl_soundBy, .int 0, .int 0]))])) (va_Qi (fun (r : Int32) (_ : Unit) => r = mrk w) (fun (_ : Unit) (_ : State) => True) (va_A [(x0, .inr (11, [.ref rd, .ref dr, .ref bk, .ref st, .ref nw, .ref tr, .ref pl, .ref fl, .ref rg, .int 0, .int 0, .int 0])), (st, .inr (9, [.ref st_open, .ref st_speed, .ref st_fallen, .ref st_fire, .int 10, .int (-1), .int 0, .ref st_book])), (tr, .inr (10, [.int 0, .int 0, .ref tr_book, .ref tr_state, .ref tr_now, .ref tr_trial, .ref tr_ranks, .ref tr_keptSpeed])), (pl, .inr (6, [.int 0, .ref pl_order, .ref pl_state, .ref pl_now, .ref pl_trial, .ref pl_kind, .ref pl_which, .ref pl_value, .ref pl_soundBy, .int 0, .int 0]))] sz)) 0 0 (va_A [(x0, .inr (11, [.ref rd, .ref dr, .ref bk, .ref st, .ref nw, .ref tr, .ref pl, .ref fl, .ref rg, .int 0, .int 0, .int 0])), (st, .inr (9, [.ref st_open, .ref st_speed, .ref st_fallen, .ref st_fire, .int 10, .int (-1), .int 0, .ref st_book])), (tr, .inr (10, [.int 0, .int 0, .ref tr_book, .ref tr_state, .ref tr_now, .ref tr_trial, .ref tr_ranks, .ref tr_keptSpeed])), (pl, .inr (6, [.int 0, .ref pl_order, .ref pl_state, .ref pl_now, .ref pl_trial, .ref pl_kind, .ref pl_which, .ref pl_value, .ref pl_soundBy, .int 0, .int 0]))] sz) := by
  refine Met.ofW (cc := cX11_mark) (maxL := 2) (ret := (some .boolean)) (by decide) rfl ?_
  intro p e s m args below meth c s₁ B hml hv
  obtain ⟨rfl, hsz, hn0, hG, hP, hK, hD0⟩ := hv
  have hx := B.exec
  have hb := B.bytes
  have hr := B.returns
  have hts := atoms_spec (ws := wM yX11_mark cX11_mark 2 (some .boolean)) B.pre
  have hown : s.vm.findClass RX11 = some m.cls := findClass_of_methodNamed B.named
  have hlocks := B.notSynchronized
  subst hsz
  have hD := hD0.self (sz := s.heap.size)
  have hA0 := vA_n0 hD0 hn0
  generalize hAe : va_A [(x0, .inr (11, [.ref rd, .ref dr, .ref bk, .ref st, .ref nw, .ref tr, .ref pl, .ref fl, .ref rg, .int 0, .int 0, .int 0])), (st, .inr (9, [.ref st_open, .ref st_speed, .ref st_fallen, .ref st_fire, .int 10, .int (-1), .int 0, .ref st_book])), (tr, .inr (10, [.int 0, .int 0, .ref tr_book, .ref tr_state, .ref tr_now, .ref tr_trial, .ref tr_ranks, .ref tr_keptSpeed])), (pl, .inr (6, [.int 0, .ref pl_order, .ref pl_state, .ref pl_now, .ref pl_trial, .ref pl_kind, .ref pl_which, .ref pl_value, .ref pl_soundBy, .int 0, .int 0]))] s.heap.size = A at hD hA0 ⊢
  have hA : ∀ q : Nat, s.heap.size ≤ q → A q := fun q h => by rw [← hAe]; exact Or.inr h
  have hS : va_S A s.heap s.heap [] := va_S.rf
  have hl := lv_entry ([.ref x0, .int w]) (n := 2) (Nat.le_of_ble_eq_true rfl)
  rw [lg_entry_eq]
  generalize (lg_sl ([.ref x0, .int w]) ++ List.replicate (2 - (lg_sl ([.ref x0, .int w])).length) Slot.unset).toArray = ls at hl ⊢
  have hl : lv_has ls 2 [(0, .ref x0), (1, .int w)] := hl
  refine lv_iload_n hx hb dX11_mark_0 rfl (lv_at hl 1 rfl) ?_
  refine lv_iconst (v := 1) hx hb dX11_mark_1 (by decide) ?_
  refine lv_icmp_lt (tgt := 12) hx hb dX11_mark_2 (by decide) (fun c_1 => ?_) (fun c_1 => ?_)
  · skip
    refine lv_aload_n hx hb dX11_mark_12 rfl (lv_at hl 0 rfl) ?_
    refine lv_iconst (v := 2) hx hb dX11_mark_13 (by decide) ?_
    have hPc := hP.sub (ws' := [(x0, .inr (11, [.ref rd, .ref dr, .ref bk, .ref st, .ref nw, .ref tr, .ref pl, .ref fl, .ref rg, .int 0, .int 0, .int 0]))]) [0] rfl
    have hDc := hD.sub (ws' := [(x0, .inr (11, [.ref rd, .ref dr, .ref bk, .ref st, .ref nw, .ref tr, .ref pl, .ref fl, .ref rg, .int 0, .int 0, .int 0]))]) [0] (by decide) rfl
    have hKc := hK.sub (tys' := []) [] rfl
    have hFc := va_free (wc := [(x0, .inr (11, [.ref rd, .ref dr, .ref bk, .ref st, .ref nw, .ref tr, .ref pl, .ref fl, .ref rg, .int 0, .int 0, .int 0]))]) hD hS hA [0] rfl
    refine va_calli (va_runV (As := [.int 2]) (rest := []) ⟨hx, hb, hml, hown, hts⟩ (c_deny l dC dI n0 s.heap.size x0 rd dr bk st nw tr pl fl rg 0 0 0 2 ) (cwV 1 hts (gV (fun w h => wM_c h) wd_970 wd_967 wd_969 wd_27 wd_114) rfl rfl rfl (by decide +kernel) ⟨Nat.le_of_ble_eq_true rfl, Nat.le_of_ble_eq_true rfl⟩) ⟨fun a U g mk q => by obtain ⟨q0, q1, q2, qG, qP, qK, qD⟩ := q; exact ⟨q0, q1, q2, GW.blind qG, qP, va_K.moved (u := U) (U := U.calling g mk a) (Vm.Alike.refl U.vm) qK, qD⟩, va_recv hKc hPc (ci := 11) (q0 := 0) rfl rfl, fun U hU hW => ⟨rfl, by rw [hU], Nat.le_trans hn0 hS.1, GW.go hW hU hG (fun q hq hA9 => hS.2.1 q hq (fun h => hA9 (hA0 q h))), by rw [hU]; exact hPc, va_K.moved hW.alike hKc, hDc.weaken (fun _ _ _ h => hA0 _ h)⟩⟩ rfl rfl hl.1 rfl (lv_room (Nat.le_of_ble_eq_true rfl)) dX11_mark_14 ⟨Nat.le_of_ble_eq_true rfl, Nat.le_of_ble_eq_true rfl⟩) hS (fun q _ h => hFc q h) hFc (fun r_2 u t H1 locs ht hvm hw_3 hB hz1 hk1 hS => ?_)
    obtain ⟨hP1, hK1, hD1⟩ := hB
    rw [ht] at hP1
    obtain ⟨hP, hD⟩ := va_join (wr := [(st, .inr (9, [.ref st_open, .ref st_speed, .ref st_fallen, .ref st_fire, .int 10, .int (-1), .int 0, .ref st_book])), (tr, .inr (10, [.int 0, .int 0, .ref tr_book, .ref tr_state, .ref tr_now, .ref tr_trial, .ref tr_ranks, .ref tr_keptSpeed])), (pl, .inr (6, [.int 0, .ref pl_order, .ref pl_state, .ref pl_now, .ref pl_trial, .ref pl_kind, .ref pl_which, .ref pl_value, .ref pl_soundBy, .int 0, .int 0]))]) (w1 := [(x0, .inr (11, [.ref rd, .ref dr, .ref bk, .ref st, .ref nw, .ref tr, .ref pl, .ref fl, .ref rg, .int 2, .int 0, .int 0]))]) hP hD [0] [1, 2, 3] rfl rfl (by decide) (by decide) hk1 hFc hP1 hD1
    generalize H1 = H at hP hS ⊢
    have hP : va_P (dC, dI) classes [(st, .inr (9, [.ref st_open, .ref st_speed, .ref st_fallen, .ref st_fire, .int 10, .int (-1), .int 0, .ref st_book])), (tr, .inr (10, [.int 0, .int 0, .ref tr_book, .ref tr_state, .ref tr_now, .ref tr_trial, .ref tr_ranks, .ref tr_keptSpeed])), (pl, .inr (6, [.int 0, .ref pl_order, .ref pl_state, .ref pl_now, .ref pl_trial, .ref pl_kind, .ref pl_which, .ref pl_value, .ref pl_soundBy, .int 0, .int 0])), (x0, .inr (11, [.ref rd, .ref dr, .ref bk, .ref st, .ref nw, .ref tr, .ref pl, .ref fl, .ref rg, .int 2, .int 0, .int 0]))] H := hP
    have hD : va_D A [(st, .inr (9, [.ref st_open, .ref st_speed, .ref st_fallen, .ref st_fire, .int 10, .int (-1), .int 0, .ref st_book])), (tr, .inr (10, [.int 0, .int 0, .ref tr_book, .ref tr_state, .ref tr_now, .ref tr_trial, .ref tr_ranks, .ref tr_keptSpeed])), (pl, .inr (6, [.int 0, .ref pl_order, .ref pl_state, .ref pl_now, .ref pl_trial, .ref pl_kind, .ref pl_which, .ref pl_value, .ref pl_soundBy, .int 0, .int 0])), (x0, .inr (11, [.ref rd, .ref dr, .ref bk, .ref st, .ref nw, .ref tr, .ref pl, .ref fl, .ref rg, .int 2, .int 0, .int 0]))] := hD
    obtain rfl : r_2 = 0 := hw_3
    exact W.zret (v := 0) hx hb hr rfl (fun t ht hW => ⟨⟨0, (), rfl, (mrk_lo c_1), trivial⟩, hS.F ht⟩) hS.2.2 dX11_mark_17
  · skip
    refine lv_iload_n hx hb dX11_mark_5 rfl (lv_at hl 1 rfl) ?_
    refine lv_sipush (v := 999) hx hb dX11_mark_6 (by decide) ?_
    refine lv_icmp_le (tgt := 18) hx hb dX11_mark_9 (by decide) (fun c_4 => ?_) (fun c_4 => ?_)
    · skip
      refine lv_aload_n hx hb dX11_mark_18 rfl (lv_at hl 0 rfl) ?_
      refine va_get (D := (dC, dI)) (ci := 11) (v := .ref st) (C := RX11) (T := TX11) (N := 12) hx hb hts (fun w h => wM_c (iX11 w h)) hown hK hP 0 rfl rfl 3 (by decide) (hts _ (wM_c wd_673)) (fun _ h9 => h9) rfl dX11_mark_19 ?_
      refine lv_iload_n hx hb dX11_mark_22 rfl (lv_at hl 1 rfl) ?_
      refine va_put (D := (dC, dI)) (ci := 9) (v := .int w) (ty := .int) (C := RX9) (T := TX9) (N := 8) hx hb hts (fun w h => wM_c (iX9 w h)) tyX9 tyX9_ok nmX9 hown hK hP hD hS 1 rfl rfl 4 (by decide) (hts _ (wM_c wd_407)) (fun _ h9 => h9) rfl (by decide +kernel) rfl rfl (Nat.le_of_ble_eq_true rfl) dX11_mark_23 (fun H locs hP hD hS => ?_)
      have hP : va_P (dC, dI) classes [(x0, .inr (11, [.ref rd, .ref dr, .ref bk, .ref st, .ref nw, .ref tr, .ref pl, .ref fl, .ref rg, .int 0, .int 0, .int 0])), (st, .inr (9, [.ref st_open, .ref st_speed, .ref st_fallen, .ref st_fire, .int w, .int (-1), .int 0, .ref st_book])), (tr, .inr (10, [.int 0, .int 0, .ref tr_book, .ref tr_state, .ref tr_now, .ref tr_trial, .ref tr_ranks, .ref tr_keptSpeed])), (pl, .inr (6, [.int 0, .ref pl_order, .ref pl_state, .ref pl_now, .ref pl_trial, .ref pl_kind, .ref pl_which, .ref pl_value, .ref pl_soundBy, .int 0, .int 0]))] H := hP
      have hD : va_D A [(x0, .inr (11, [.ref rd, .ref dr, .ref bk, .ref st, .ref nw, .ref tr, .ref pl, .ref fl, .ref rg, .int 0, .int 0, .int 0])), (st, .inr (9, [.ref st_open, .ref st_speed, .ref st_fallen, .ref st_fire, .int w, .int (-1), .int 0, .ref st_book])), (tr, .inr (10, [.int 0, .int 0, .ref tr_book, .ref tr_state, .ref tr_now, .ref tr_trial, .ref tr_ranks, .ref tr_keptSpeed])), (pl, .inr (6, [.int 0, .ref pl_order, .ref pl_state, .ref pl_now, .ref pl_trial, .ref pl_kind, .ref pl_which, .ref pl_value, .ref pl_soundBy, .int 0, .int 0]))] := hD
      refine lv_aload_n hx hb dX11_mark_26 rfl (lv_at hl 0 rfl) ?_
      have hPc := hP.sub (ws' := [(x0, .inr (11, [.ref rd, .ref dr, .ref bk, .ref st, .ref nw, .ref tr, .ref pl, .ref fl, .ref rg, .int 0, .int 0, .int 0])), (tr, .inr (10, [.int 0, .int 0, .ref tr_book, .ref tr_state, .ref tr_now, .ref tr_trial, .ref tr_ranks, .ref tr_keptSpeed])), (pl, .inr (6, [.int 0, .ref pl_order, .ref pl_state, .ref pl_now, .ref pl_trial, .ref pl_kind, .ref pl_which, .ref pl_value, .ref pl_soundBy, .int 0, .int 0]))]) [0, 2, 3] rfl
      have hDc := hD.sub (ws' := [(x0, .inr (11, [.ref rd, .ref dr, .ref bk, .ref st, .ref nw, .ref tr, .ref pl, .ref fl, .ref rg, .int 0, .int 0, .int 0])), (tr, .inr (10, [.int 0, .int 0, .ref tr_book, .ref tr_state, .ref tr_now, .ref tr_trial, .ref tr_ranks, .ref tr_keptSpeed])), (pl, .inr (6, [.int 0, .ref pl_order, .ref pl_state, .ref pl_now, .ref pl_trial, .ref pl_kind, .ref pl_which, .ref pl_value, .ref pl_soundBy, .int 0, .int 0]))]) [0, 2, 3] (by decide) rfl
      have hKc := hK.sub (tys' := []) [] rfl
      have hFc := va_free (wc := [(x0, .inr (11, [.ref rd, .ref dr, .ref bk, .ref st, .ref nw, .ref tr, .ref pl, .ref fl, .ref rg, .int 0, .int 0, .int 0])), (tr, .inr (10, [.int 0, .int 0, .ref tr_book, .ref tr_state, .ref tr_now, .ref tr_trial, .ref tr_ranks, .ref tr_keptSpeed])), (pl, .inr (6, [.int 0, .ref pl_order, .ref pl_state, .ref pl_now, .ref pl_trial, .ref pl_kind, .ref pl_which, .ref pl_value, .ref pl_soundBy, .int 0, .int 0]))]) hD hS hA [0, 2, 3] rfl
      refine va_callv (va_runV (As := []) (rest := []) ⟨hx, hb, hml, hown, hts⟩ (c_forgetVerdicts l dC dI n0 H.size x0 rd dr bk st nw tr pl fl rg 0 0 0 tr_book tr_state tr_now tr_trial tr_ranks tr_keptSpeed pl_order pl_state pl_now pl_trial pl_kind pl_which pl_value pl_soundBy ) (cwV 0 hts (gV (fun w h => wM_c h) wd_925 wd_922 wd_924 wd_23 wd_114) rfl rfl rfl (by decide +kernel) ⟨Nat.le_of_ble_eq_true rfl, Nat.le_of_ble_eq_true rfl⟩) ⟨fun a U g mk q => by obtain ⟨q0, q1, q2, qG, qP, qK, qD⟩ := q; exact ⟨q0, q1, q2, GW.blind qG, qP, va_K.moved (u := U) (U := U.calling g mk a) (Vm.Alike.refl U.vm) qK, qD⟩, va_recv hKc hPc (ci := 11) (q0 := 0) rfl rfl, fun U hU hW => ⟨rfl, by rw [hU], Nat.le_trans hn0 hS.1, GW.go hW hU hG (fun q hq hA9 => hS.2.1 q hq (fun h => hA9 (hA0 q h))), by rw [hU]; exact hPc, va_K.moved hW.alike hKc, hDc.weaken (fun _ _ _ h => hA0 _ h)⟩⟩ rfl rfl hl.1 rfl (lv_room (Nat.le_of_ble_eq_true rfl)) dX11_mark_27 ⟨Nat.le_of_ble_eq_true rfl, Nat.le_of_ble_eq_true rfl⟩) hS (fun q _ h => hFc q h) hFc (fun u t H1 locs ht hvm hw_6 hB hz1 hk1 hS => ?_)
      obtain ⟨hP1, hK1, hD1⟩ := hB
      rw [ht] at hP1
      obtain ⟨hP, hD⟩ := va_join (wr := [(st, .inr (9, [.ref st_open, .ref st_speed, .ref st_fallen, .ref st_fire, .int w, .int (-1), .int 0, .ref st_book]))]) (w1 := [(x0, .inr (11, [.ref rd, .ref dr, .ref bk, .ref st, .ref nw, .ref tr, .ref pl, .ref fl, .ref rg, .int 0, .int 0, .int 0])), (tr, .inr (10, [.int 0, .int 0, .ref tr_book, .ref tr_state, .ref tr_now, .ref tr_trial, .ref tr_ranks, .ref tr_keptSpeed])), (pl, .inr (6, [.int 0, .ref pl_order, .ref pl_state, .ref pl_now, .ref pl_trial, .ref pl_kind, .ref pl_which, .ref pl_value, .ref pl_soundBy, .int 0, .int 0]))]) hP hD [0, 2, 3] [1] rfl rfl (by decide) (by decide) hk1 hFc hP1 hD1
      generalize H1 = H at hP hS ⊢
      have hP : va_P (dC, dI) classes [(st, .inr (9, [.ref st_open, .ref st_speed, .ref st_fallen, .ref st_fire, .int w, .int (-1), .int 0, .ref st_book])), (x0, .inr (11, [.ref rd, .ref dr, .ref bk, .ref st, .ref nw, .ref tr, .ref pl, .ref fl, .ref rg, .int 0, .int 0, .int 0])), (tr, .inr (10, [.int 0, .int 0, .ref tr_book, .ref tr_state, .ref tr_now, .ref tr_trial, .ref tr_ranks, .ref tr_keptSpeed])), (pl, .inr (6, [.int 0, .ref pl_order, .ref pl_state, .ref pl_now, .ref pl_trial, .ref pl_kind, .ref pl_which, .ref pl_value, .ref pl_soundBy, .int 0, .int 0]))] H := hP
      have hD : va_D A [(st, .inr (9, [.ref st_open, .ref st_speed, .ref st_fallen, .ref st_fire, .int w, .int (-1), .int 0, .ref st_book])), (x0, .inr (11, [.ref rd, .ref dr, .ref bk, .ref st, .ref nw, .ref tr, .ref pl, .ref fl, .ref rg, .int 0, .int 0, .int 0])), (tr, .inr (10, [.int 0, .int 0, .ref tr_book, .ref tr_state, .ref tr_now, .ref tr_trial, .ref tr_ranks, .ref tr_keptSpeed])), (pl, .inr (6, [.int 0, .ref pl_order, .ref pl_state, .ref pl_now, .ref pl_trial, .ref pl_kind, .ref pl_which, .ref pl_value, .ref pl_soundBy, .int 0, .int 0]))] := hD
      refine lv_aload_n hx hb dX11_mark_30 rfl (lv_at hl 0 rfl) ?_
      have hPc := hP.sub (ws' := [(x0, .inr (11, [.ref rd, .ref dr, .ref bk, .ref st, .ref nw, .ref tr, .ref pl, .ref fl, .ref rg, .int 0, .int 0, .int 0]))]) [1] rfl
      have hDc := hD.sub (ws' := [(x0, .inr (11, [.ref rd, .ref dr, .ref bk, .ref st, .ref nw, .ref tr, .ref pl, .ref fl, .ref rg, .int 0, .int 0, .int 0]))]) [1] (by decide) rfl
      have hKc := hK.sub (tys' := []) [] rfl
      have hFc := va_free (wc := [(x0, .inr (11, [.ref rd, .ref dr, .ref bk, .ref st, .ref nw, .ref tr, .ref pl, .ref fl, .ref rg, .int 0, .int 0, .int 0]))]) hD hS hA [1] rfl
      refine va_calli (va_runV (As := []) (rest := []) ⟨hx, hb, hml, hown, hts⟩ (c_allow l dC dI n0 H.size x0 rd dr bk st nw tr pl fl rg 0 0 0 ) (cwV 0 hts (gV (fun w h => wM_c h) wd_974 wd_971 wd_973 wd_28 wd_114) rfl rfl rfl (by decide +kernel) ⟨Nat.le_of_ble_eq_true rfl, Nat.le_of_ble_eq_true rfl⟩) ⟨fun a U g mk q => by obtain ⟨q0, q1, q2, qG, qP, qK, qD⟩ := q; exact ⟨q0, q1, q2, GW.blind qG, qP, va_K.moved (u := U) (U := U.calling g mk a) (Vm.Alike.refl U.vm) qK, qD⟩, va_recv hKc hPc (ci := 11) (q0 := 0) rfl rfl, fun U hU hW => ⟨rfl, by rw [hU], Nat.le_trans hn0 hS.1, GW.go hW hU hG (fun q hq hA9 => hS.2.1 q hq (fun h => hA9 (hA0 q h))), by rw [hU]; exact hPc, va_K.moved hW.alike hKc, hDc.weaken (fun _ _ _ h => hA0 _ h)⟩⟩ rfl rfl hl.1 rfl (lv_room (Nat.le_of_ble_eq_true rfl)) dX11_mark_31 ⟨Nat.le_of_ble_eq_true rfl, Nat.le_of_ble_eq_true rfl⟩) hS (fun q _ h => hFc q h) hFc (fun r_7 u t H1 locs ht hvm hw_8 hB hz1 hk1 hS => ?_)
      obtain ⟨hP1, hK1, hD1⟩ := hB
      rw [ht] at hP1
      obtain ⟨hP, hD⟩ := va_join (wr := [(st, .inr (9, [.ref st_open, .ref st_speed, .ref st_fallen, .ref st_fire, .int w, .int (-1), .int 0, .ref st_book])), (tr, .inr (10, [.int 0, .int 0, .ref tr_book, .ref tr_state, .ref tr_now, .ref tr_trial, .ref tr_ranks, .ref tr_keptSpeed])), (pl, .inr (6, [.int 0, .ref pl_order, .ref pl_state, .ref pl_now, .ref pl_trial, .ref pl_kind, .ref pl_which, .ref pl_value, .ref pl_soundBy, .int 0, .int 0]))]) (w1 := [(x0, .inr (11, [.ref rd, .ref dr, .ref bk, .ref st, .ref nw, .ref tr, .ref pl, .ref fl, .ref rg, .int 0, .int 0, .int 0]))]) hP hD [1] [0, 2, 3] rfl rfl (by decide) (by decide) hk1 hFc hP1 hD1
      generalize H1 = H at hP hS ⊢
      have hP : va_P (dC, dI) classes [(st, .inr (9, [.ref st_open, .ref st_speed, .ref st_fallen, .ref st_fire, .int w, .int (-1), .int 0, .ref st_book])), (tr, .inr (10, [.int 0, .int 0, .ref tr_book, .ref tr_state, .ref tr_now, .ref tr_trial, .ref tr_ranks, .ref tr_keptSpeed])), (pl, .inr (6, [.int 0, .ref pl_order, .ref pl_state, .ref pl_now, .ref pl_trial, .ref pl_kind, .ref pl_which, .ref pl_value, .ref pl_soundBy, .int 0, .int 0])), (x0, .inr (11, [.ref rd, .ref dr, .ref bk, .ref st, .ref nw, .ref tr, .ref pl, .ref fl, .ref rg, .int 0, .int 0, .int 0]))] H := hP
      have hD : va_D A [(st, .inr (9, [.ref st_open, .ref st_speed, .ref st_fallen, .ref st_fire, .int w, .int (-1), .int 0, .ref st_book])), (tr, .inr (10, [.int 0, .int 0, .ref tr_book, .ref tr_state, .ref tr_now, .ref tr_trial, .ref tr_ranks, .ref tr_keptSpeed])), (pl, .inr (6, [.int 0, .ref pl_order, .ref pl_state, .ref pl_now, .ref pl_trial, .ref pl_kind, .ref pl_which, .ref pl_value, .ref pl_soundBy, .int 0, .int 0])), (x0, .inr (11, [.ref rd, .ref dr, .ref bk, .ref st, .ref nw, .ref tr, .ref pl, .ref fl, .ref rg, .int 0, .int 0, .int 0]))] := hD
      obtain rfl : r_7 = 1 := hw_8
      exact W.zret (v := 1) hx hb hr rfl (fun t ht hW => ⟨⟨1, (), rfl, (mrk_in c_1 c_4), trivial⟩, hS.F ht⟩) hS.2.2 dX11_mark_34
    · skip
      refine lv_aload_n hx hb dX11_mark_12 rfl (lv_at hl 0 rfl) ?_
      refine lv_iconst (v := 2) hx hb dX11_mark_13 (by decide) ?_
      have hPc := hP.sub (ws' := [(x0, .inr (11, [.ref rd, .ref dr, .ref bk, .ref st, .ref nw, .ref tr, .ref pl, .ref fl, .ref rg, .int 0, .int 0, .int 0]))]) [0] rfl
      have hDc := hD.sub (ws' := [(x0, .inr (11, [.ref rd, .ref dr, .ref bk, .ref st, .ref nw, .ref tr, .ref pl, .ref fl, .ref rg, .int 0, .int 0, .int 0]))]) [0] (by decide) rfl
      have hKc := hK.sub (tys' := []) [] rfl
      have hFc := va_free (wc := [(x0, .inr (11, [.ref rd, .ref dr, .ref bk, .ref st, .ref nw, .ref tr, .ref pl, .ref fl, .ref rg, .int 0, .int 0, .int 0]))]) hD hS hA [0] rfl
      refine va_calli (va_runV (As := [.int 2]) (rest := []) ⟨hx, hb, hml, hown, hts⟩ (c_deny l dC dI n0 s.heap.size x0 rd dr bk st nw tr pl fl rg 0 0 0 2 ) (cwV 1 hts (gV (fun w h => wM_c h) wd_970 wd_967 wd_969 wd_27 wd_114) rfl rfl rfl (by decide +kernel) ⟨Nat.le_of_ble_eq_true rfl, Nat.le_of_ble_eq_true rfl⟩) ⟨fun a U g mk q => by obtain ⟨q0, q1, q2, qG, qP, qK, qD⟩ := q; exact ⟨q0, q1, q2, GW.blind qG, qP, va_K.moved (u := U) (U := U.calling g mk a) (Vm.Alike.refl U.vm) qK, qD⟩, va_recv hKc hPc (ci := 11) (q0 := 0) rfl rfl, fun U hU hW => ⟨rfl, by rw [hU], Nat.le_trans hn0 hS.1, GW.go hW hU hG (fun q hq hA9 => hS.2.1 q hq (fun h => hA9 (hA0 q h))), by rw [hU]; exact hPc, va_K.moved hW.alike hKc, hDc.weaken (fun _ _ _ h => hA0 _ h)⟩⟩ rfl rfl hl.1 rfl (lv_room (Nat.le_of_ble_eq_true rfl)) dX11_mark_14 ⟨Nat.le_of_ble_eq_true rfl, Nat.le_of_ble_eq_true rfl⟩) hS (fun q _ h => hFc q h) hFc (fun r_9 u t H1 locs ht hvm hw_10 hB hz1 hk1 hS => ?_)
      obtain ⟨hP1, hK1, hD1⟩ := hB
      rw [ht] at hP1
      obtain ⟨hP, hD⟩ := va_join (wr := [(st, .inr (9, [.ref st_open, .ref st_speed, .ref st_fallen, .ref st_fire, .int 10, .int (-1), .int 0, .ref st_book])), (tr, .inr (10, [.int 0, .int 0, .ref tr_book, .ref tr_state, .ref tr_now, .ref tr_trial, .ref tr_ranks, .ref tr_keptSpeed])), (pl, .inr (6, [.int 0, .ref pl_order, .ref pl_state, .ref pl_now, .ref pl_trial, .ref pl_kind, .ref pl_which, .ref pl_value, .ref pl_soundBy, .int 0, .int 0]))]) (w1 := [(x0, .inr (11, [.ref rd, .ref dr, .ref bk, .ref st, .ref nw, .ref tr, .ref pl, .ref fl, .ref rg, .int 2, .int 0, .int 0]))]) hP hD [0] [1, 2, 3] rfl rfl (by decide) (by decide) hk1 hFc hP1 hD1
      generalize H1 = H at hP hS ⊢
      have hP : va_P (dC, dI) classes [(st, .inr (9, [.ref st_open, .ref st_speed, .ref st_fallen, .ref st_fire, .int 10, .int (-1), .int 0, .ref st_book])), (tr, .inr (10, [.int 0, .int 0, .ref tr_book, .ref tr_state, .ref tr_now, .ref tr_trial, .ref tr_ranks, .ref tr_keptSpeed])), (pl, .inr (6, [.int 0, .ref pl_order, .ref pl_state, .ref pl_now, .ref pl_trial, .ref pl_kind, .ref pl_which, .ref pl_value, .ref pl_soundBy, .int 0, .int 0])), (x0, .inr (11, [.ref rd, .ref dr, .ref bk, .ref st, .ref nw, .ref tr, .ref pl, .ref fl, .ref rg, .int 2, .int 0, .int 0]))] H := hP
      have hD : va_D A [(st, .inr (9, [.ref st_open, .ref st_speed, .ref st_fallen, .ref st_fire, .int 10, .int (-1), .int 0, .ref st_book])), (tr, .inr (10, [.int 0, .int 0, .ref tr_book, .ref tr_state, .ref tr_now, .ref tr_trial, .ref tr_ranks, .ref tr_keptSpeed])), (pl, .inr (6, [.int 0, .ref pl_order, .ref pl_state, .ref pl_now, .ref pl_trial, .ref pl_kind, .ref pl_which, .ref pl_value, .ref pl_soundBy, .int 0, .int 0])), (x0, .inr (11, [.ref rd, .ref dr, .ref bk, .ref st, .ref nw, .ref tr, .ref pl, .ref fl, .ref rg, .int 2, .int 0, .int 0]))] := hD
      obtain rfl : r_9 = 0 := hw_10
      exact W.zret (v := 0) hx hb hr rfl (fun t ht hW => ⟨⟨0, (), rfl, (mrk_hi c_4), trivial⟩, hS.F ht⟩) hS.2.2 dX11_mark_17
set_option maxHeartbeats 4000000 in
set_option maxRecDepth 100000 in
theorem p_count (l : Launch) (dC : Nat → ClassId) (dI : Nat → Nat → Nat) (n0 sz : Nat) (x0 : Nat) (rd : Nat) (dr : Nat) (bk : Nat) (st : Nat) (nw : Nat) (tr : Nat) (pl : Nat) (fl : Nat) (rg : Nat) (bk_tail : Nat) (bk_head : Nat) (bk_hinder : Nat) (bk_size : Nat) (bk_walk : Nat) (bk_draught : Nat) (bk_doorIn : Nat) (bk_fanIn : Nat) (bk_faceIn : Nat) (gr : Nat) (gr_doorBy : Nat) (gr_pairFirst : Nat) (gr_pairSecond : Nat) (gr_fanPush : Nat) (gr_fanFall : Nat) (gr_fanCost : Nat) (gr_faceWay : Nat) (gr_faceGas : Nat) (gr_faceNeed : Nat) (fl_knotOf : Nat) (fl_smokeAt : Nat) (fl_reach : Nat) (fl_route : Nat) (fl_book : Nat) (fl_state : Nat) (fl_smokeIn : Nat) (pl_order : Nat) (pl_state : Nat) (pl_now : Nat) (pl_trial : Nat) (pl_kind : Nat) (pl_which : Nat) (pl_value : Nat) (pl_soundBy : Nat) (rg_way : Nat) (rg_low : Nat) (rg_high : Nat) (rd_tape : Nat) (rd_names : Nat) (rd_nameKind : Nat) (rd_nameNumber : Nat) (rd_knotNames : Nat) (w : Int32) : Met l yX11_count (wM yX11_count cX11_count 2 (some .int)) ({ frames := 1, cells := 0, slots := 0, locals := 20 }) (va_Pc [.ref x0, .int w] (fun U => U.heap.size = sz ∧ n0 ≤ sz ∧ GW n0 U ∧ va_P (dC, dI) classes [(x0, .inr (11, [.ref rd, .ref dr, .ref bk, .ref st, .ref nw, .ref tr, .ref pl, .ref fl, .ref rg, .int 0, .int 0, .int 0])), (bk, .inr (0, [.int 0, .ref bk_tail, .ref bk_head, .ref bk_hinder, .ref bk_size, .ref bk_walk, .ref bk_draught, .ref bk_doorIn, .ref bk_fanIn, .ref bk_faceIn, .int 0, .int (-1), .ref gr])), (gr, .inr (3, [.int 0, .ref gr_doorBy, .int 0, .ref gr_pairFirst, .ref gr_pairSecond, .int 0, .ref gr_fanPush, .ref gr_fanFall, .ref gr_fanCost, .int 0, .ref gr_faceWay, .ref gr_faceGas, .ref gr_faceNeed])), (fl, .inr (1, [.int 0, .ref fl_knotOf, .ref fl_smokeAt, .ref fl_reach, .ref fl_route, .ref fl_book, .ref fl_state, .ref fl_smokeIn])), (pl, .inr (6, [.int 0, .ref pl_order, .ref pl_state, .ref pl_now, .ref pl_trial, .ref pl_kind, .ref pl_which, .ref pl_value, .ref pl_soundBy, .int 0, .int 0])), (rg, .inr (8, [.int 0, .ref rg_way, .ref rg_low, .ref rg_high])), (rd, .inr (7, [.ref rd_tape, .int 0, .int 0, .int 0, .ref dr, .ref rd_names, .ref rd_nameKind, .ref rd_nameNumber, .int 0, .ref rd_knotNames, .int 0, .int 0, .int 0, .int 0, .long 0]))] U.heap ∧ va_K (dC, dI) classes [] U ∧ va_D (fun q => n0 ≤ q) [(x0, .inr (11, [.ref rd, .ref dr, .ref bk, .ref st, .ref nw, .ref tr, .ref pl, .ref fl, .ref rg, .int 0, .int 0, .int 0])), (bk, .inr (0, [.int 0, .ref bk_tail, .ref bk_head, .ref bk_hinder, .ref bk_size, .ref bk_walk, .ref bk_draught, .ref bk_doorIn, .ref bk_fanIn, .ref bk_faceIn, .int 0, .int (-1), .ref gr])), (gr, .inr (3, [.int 0, .ref gr_doorBy, .int 0, .ref gr_pairFirst, .ref gr_pairSecond, .int 0, .ref gr_fanPush, .ref gr_fanFall, .ref gr_fanCost, .int 0, .ref gr_faceWay, .ref gr_faceGas, .ref gr_faceNeed])), (fl, .inr (1, [.int 0, .ref fl_knotOf, .ref fl_smokeAt, .ref fl_reach, .ref fl_route, .ref fl_book, .ref fl_state, .ref fl_smokeIn])), (pl, .inr (6, [.int 0, .ref pl_order, .ref pl_state, .ref pl_now, .ref pl_trial, .ref pl_kind, .ref pl_which, .ref pl_value, .ref pl_soundBy, .int 0, .int 0])), (rg, .inr (8, [.int 0, .ref rg_way, .ref rg_low, .ref rg_high])), (rd, .inr (7, [.ref rd_tape, .int 0, .int 0, .int 0, .ref dr, .ref rd_names, .ref rd_nameKind, .ref rd_nameNumber, .int 0, .ref rd_knotNames, .int 0, .int 0, .int 0, .int 0, .long 0]))])) (va_Qi (fun (r : Int32) (_ : Unit) => r = cnt0 w) (fun (_ : Unit) (_ : State) => True) (va_A [(x0, .inr (11, [.ref rd, .ref dr, .ref bk, .ref st, .ref nw, .ref tr, .ref pl, .ref fl, .ref rg, .int 0, .int 0, .int 0])), (bk, .inr (0, [.int 0, .ref bk_tail, .ref bk_head, .ref bk_hinder, .ref bk_size, .ref bk_walk, .ref bk_draught, .ref bk_doorIn, .ref bk_fanIn, .ref bk_faceIn, .int 0, .int (-1), .ref gr])), (gr, .inr (3, [.int 0, .ref gr_doorBy, .int 0, .ref gr_pairFirst, .ref gr_pairSecond, .int 0, .ref gr_fanPush, .ref gr_fanFall, .ref gr_fanCost, .int 0, .ref gr_faceWay, .ref gr_faceGas, .ref gr_faceNeed])), (fl, .inr (1, [.int 0, .ref fl_knotOf, .ref fl_smokeAt, .ref fl_reach, .ref fl_route, .ref fl_book, .ref fl_state, .ref fl_smokeIn])), (pl, .inr (6, [.int 0, .ref pl_order, .ref pl_state, .ref pl_now, .ref pl_trial, .ref pl_kind, .ref pl_which, .ref pl_value, .ref pl_soundBy, .int 0, .int 0])), (rg, .inr (8, [.int 0, .ref rg_way, .ref rg_low, .ref rg_high])), (rd, .inr (7, [.ref rd_tape, .int 0, .int 0, .int 0, .ref dr, .ref rd_names, .ref rd_nameKind, .ref rd_nameNumber, .int 0, .ref rd_knotNames, .int 0, .int 0, .int 0, .int 0, .long 0]))] sz)) 0 0 (va_A [(x0, .inr (11, [.ref rd, .ref dr, .ref bk, .ref st, .ref nw, .ref tr, .ref pl, .ref fl, .ref rg, .int 0, .int 0, .int 0])), (bk, .inr (0, [.int 0, .ref bk_tail, .ref bk_head, .ref bk_hinder, .ref bk_size, .ref bk_walk, .ref bk_draught, .ref bk_doorIn, .ref bk_fanIn, .ref bk_faceIn, .int 0, .int (-1), .ref gr])), (gr, .inr (3, [.int 0, .ref gr_doorBy, .int 0, .ref gr_pairFirst, .ref gr_pairSecond, .int 0, .ref gr_fanPush, .ref gr_fanFall, .ref gr_fanCost, .int 0, .ref gr_faceWay, .ref gr_faceGas, .ref gr_faceNeed])), (fl, .inr (1, [.int 0, .ref fl_knotOf, .ref fl_smokeAt, .ref fl_reach, .ref fl_route, .ref fl_book, .ref fl_state, .ref fl_smokeIn])), (pl, .inr (6, [.int 0, .ref pl_order, .ref pl_state, .ref pl_now, .ref pl_trial, .ref pl_kind, .ref pl_which, .ref pl_value, .ref pl_soundBy, .int 0, .int 0])), (rg, .inr (8, [.int 0, .ref rg_way, .ref rg_low, .ref rg_high])), (rd, .inr (7, [.ref rd_tape, .int 0, .int 0, .int 0, .ref dr, .ref rd_names, .ref rd_nameKind, .ref rd_nameNumber, .int 0, .ref rd_knotNames, .int 0, .int 0, .int 0, .int 0, .long 0]))] sz) := by
  refine Met.ofW (cc := cX11_count) (maxL := 2) (ret := (some .int)) (by decide) rfl ?_
  intro p e s m args below meth c s₁ B hml hv
  obtain ⟨rfl, hsz, hn0, hG, hP, hK, hD0⟩ := hv
  have hx := B.exec
  have hb := B.bytes
  have hr := B.returns
  have hts := atoms_spec (ws := wM yX11_count cX11_count 2 (some .int)) B.pre
  have hown : s.vm.findClass RX11 = some m.cls := findClass_of_methodNamed B.named
  have hlocks := B.notSynchronized
  subst hsz
  have hD := hD0.self (sz := s.heap.size)
  have hA0 := vA_n0 hD0 hn0
  generalize hAe : va_A [(x0, .inr (11, [.ref rd, .ref dr, .ref bk, .ref st, .ref nw, .ref tr, .ref pl, .ref fl, .ref rg, .int 0, .int 0, .int 0])), (bk, .inr (0, [.int 0, .ref bk_tail, .ref bk_head, .ref bk_hinder, .ref bk_size, .ref bk_walk, .ref bk_draught, .ref bk_doorIn, .ref bk_fanIn, .ref bk_faceIn, .int 0, .int (-1), .ref gr])), (gr, .inr (3, [.int 0, .ref gr_doorBy, .int 0, .ref gr_pairFirst, .ref gr_pairSecond, .int 0, .ref gr_fanPush, .ref gr_fanFall, .ref gr_fanCost, .int 0, .ref gr_faceWay, .ref gr_faceGas, .ref gr_faceNeed])), (fl, .inr (1, [.int 0, .ref fl_knotOf, .ref fl_smokeAt, .ref fl_reach, .ref fl_route, .ref fl_book, .ref fl_state, .ref fl_smokeIn])), (pl, .inr (6, [.int 0, .ref pl_order, .ref pl_state, .ref pl_now, .ref pl_trial, .ref pl_kind, .ref pl_which, .ref pl_value, .ref pl_soundBy, .int 0, .int 0])), (rg, .inr (8, [.int 0, .ref rg_way, .ref rg_low, .ref rg_high])), (rd, .inr (7, [.ref rd_tape, .int 0, .int 0, .int 0, .ref dr, .ref rd_names, .ref rd_nameKind, .ref rd_nameNumber, .int 0, .ref rd_knotNames, .int 0, .int 0, .int 0, .int 0, .long 0]))] s.heap.size = A at hD hA0 ⊢
  have hA : ∀ q : Nat, s.heap.size ≤ q → A q := fun q h => by rw [← hAe]; exact Or.inr h
  have hS : va_S A s.heap s.heap [] := va_S.rf
  have hl := lv_entry ([.ref x0, .int w]) (n := 2) (Nat.le_of_ble_eq_true rfl)
  rw [lg_entry_eq]
  generalize (lg_sl ([.ref x0, .int w]) ++ List.replicate (2 - (lg_sl ([.ref x0, .int w])).length) Slot.unset).toArray = ls at hl ⊢
  have hl : lv_has ls 2 [(0, .ref x0), (1, .int w)] := hl
  refine lv_iload_n hx hb dX11_count_0 rfl (lv_at hl 1 rfl) ?_
  rcases sw_0_10 w with sw_1 | sw_1 | sw_1 | sw_1 | sw_1 | sw_1 | sw_1 | sw_1 | sw_1 | sw_1 | sw_1 | sw_1
  · refine lv_tableOut (tgt := 163) hx hb dX11_count_1 sw_1 (by decide) ?_
    refine lv_iconst (v := (-1)) hx hb dX11_count_163 (by decide) ?_
    exact W.iret (v := (-1)) hx hb hr (fun t ht hW => ⟨⟨(-1), (), rfl, (cnt0_out sw_1), trivial⟩, hS.F ht⟩) hS.2.2 dX11_count_164
  · refine lv_tableIn (off := 59) (tgt := 60) hx hb dX11_count_1 (by rw [sw_1]; decide) (by rw [sw_1]; decide) (by rw [sw_1]; decide) (by decide) ?_
    refine lv_aload_n hx hb dX11_count_60 rfl (lv_at hl 0 rfl) ?_
    refine va_get (D := (dC, dI)) (ci := 11) (v := .ref bk) (C := RX11) (T := TX11) (N := 12) hx hb hts (fun w h => wM_c (iX11 w h)) hown hK hP 0 rfl rfl 2 (by decide) (hts _ (wM_c wd_672)) (fun _ h9 => h9) rfl dX11_count_61 ?_
    refine va_get (D := (dC, dI)) (ci := 0) (v := .int 0) (C := RX0) (T := TX0) (N := 13) hx hb hts (fun w h => wM_c (iX0 w h)) hown hK hP 1 rfl rfl 0 (by decide) (hts _ (wM_c wd_243)) (fun _ h9 => h9) rfl dX11_count_64 ?_
    exact W.iret (v := 0) hx hb hr (fun t ht hW => ⟨⟨0, (), rfl, (by rw [sw_1]; decide), trivial⟩, hS.F ht⟩) hS.2.2 dX11_count_67
  · refine lv_tableIn (off := 67) (tgt := 68) hx hb dX11_count_1 (by rw [sw_1]; decide) (by rw [sw_1]; decide) (by rw [sw_1]; decide) (by decide) ?_
    refine lv_aload_n hx hb dX11_count_68 rfl (lv_at hl 0 rfl) ?_
    refine va_get (D := (dC, dI)) (ci := 11) (v := .ref bk) (C := RX11) (T := TX11) (N := 12) hx hb hts (fun w h => wM_c (iX11 w h)) hown hK hP 0 rfl rfl 2 (by decide) (hts _ (wM_c wd_672)) (fun _ h9 => h9) rfl dX11_count_69 ?_
    refine va_get (D := (dC, dI)) (ci := 0) (v := .int 0) (C := RX0) (T := TX0) (N := 13) hx hb hts (fun w h => wM_c (iX0 w h)) hown hK hP 1 rfl rfl 10 (by decide) (hts _ (wM_c wd_287)) (fun _ h9 => h9) rfl dX11_count_72 ?_
    exact W.iret (v := 0) hx hb hr (fun t ht hW => ⟨⟨0, (), rfl, (by rw [sw_1]; decide), trivial⟩, hS.F ht⟩) hS.2.2 dX11_count_75
  · refine lv_tableIn (off := 75) (tgt := 76) hx hb dX11_count_1 (by rw [sw_1]; decide) (by rw [sw_1]; decide) (by rw [sw_1]; decide) (by decide) ?_
    refine lv_aload_n hx hb dX11_count_76 rfl (lv_at hl 0 rfl) ?_
    refine va_get (D := (dC, dI)) (ci := 11) (v := .ref bk) (C := RX11) (T := TX11) (N := 12) hx hb hts (fun w h => wM_c (iX11 w h)) hown hK hP 0 rfl rfl 2 (by decide) (hts _ (wM_c wd_672)) (fun _ h9 => h9) rfl dX11_count_77 ?_
    refine va_get (D := (dC, dI)) (ci := 0) (v := .ref gr) (C := RX0) (T := TX0) (N := 13) hx hb hts (fun w h => wM_c (iX0 w h)) hown hK hP 1 rfl rfl 12 (by decide) (hts _ (wM_c wd_299)) (fun _ h9 => h9) rfl dX11_count_80 ?_
    refine va_get (D := (dC, dI)) (ci := 3) (v := .int 0) (C := RX3) (T := TX3) (N := 13) hx hb hts (fun w h => wM_c (iX3 w h)) hown hK hP 2 rfl rfl 0 (by decide) (hts _ (wM_c wd_163)) (fun _ h9 => h9) rfl dX11_count_83 ?_
    exact W.iret (v := 0) hx hb hr (fun t ht hW => ⟨⟨0, (), rfl, (by rw [sw_1]; decide), trivial⟩, hS.F ht⟩) hS.2.2 dX11_count_86
  · refine lv_tableIn (off := 86) (tgt := 87) hx hb dX11_count_1 (by rw [sw_1]; decide) (by rw [sw_1]; decide) (by rw [sw_1]; decide) (by decide) ?_
    refine lv_aload_n hx hb dX11_count_87 rfl (lv_at hl 0 rfl) ?_
    refine va_get (D := (dC, dI)) (ci := 11) (v := .ref bk) (C := RX11) (T := TX11) (N := 12) hx hb hts (fun w h => wM_c (iX11 w h)) hown hK hP 0 rfl rfl 2 (by decide) (hts _ (wM_c wd_672)) (fun _ h9 => h9) rfl dX11_count_88 ?_
    refine va_get (D := (dC, dI)) (ci := 0) (v := .ref gr) (C := RX0) (T := TX0) (N := 13) hx hb hts (fun w h => wM_c (iX0 w h)) hown hK hP 1 rfl rfl 12 (by decide) (hts _ (wM_c wd_299)) (fun _ h9 => h9) rfl dX11_count_91 ?_
    refine va_get (D := (dC, dI)) (ci := 3) (v := .int 0) (C := RX3) (T := TX3) (N := 13) hx hb hts (fun w h => wM_c (iX3 w h)) hown hK hP 2 rfl rfl 2 (by decide) (hts _ (wM_c wd_171)) (fun _ h9 => h9) rfl dX11_count_94 ?_
    exact W.iret (v := 0) hx hb hr (fun t ht hW => ⟨⟨0, (), rfl, (by rw [sw_1]; decide), trivial⟩, hS.F ht⟩) hS.2.2 dX11_count_97
  · refine lv_tableIn (off := 97) (tgt := 98) hx hb dX11_count_1 (by rw [sw_1]; decide) (by rw [sw_1]; decide) (by rw [sw_1]; decide) (by decide) ?_
    refine lv_aload_n hx hb dX11_count_98 rfl (lv_at hl 0 rfl) ?_
    refine va_get (D := (dC, dI)) (ci := 11) (v := .ref bk) (C := RX11) (T := TX11) (N := 12) hx hb hts (fun w h => wM_c (iX11 w h)) hown hK hP 0 rfl rfl 2 (by decide) (hts _ (wM_c wd_672)) (fun _ h9 => h9) rfl dX11_count_99 ?_
    refine va_get (D := (dC, dI)) (ci := 0) (v := .ref gr) (C := RX0) (T := TX0) (N := 13) hx hb hts (fun w h => wM_c (iX0 w h)) hown hK hP 1 rfl rfl 12 (by decide) (hts _ (wM_c wd_299)) (fun _ h9 => h9) rfl dX11_count_102 ?_
    refine va_get (D := (dC, dI)) (ci := 3) (v := .int 0) (C := RX3) (T := TX3) (N := 13) hx hb hts (fun w h => wM_c (iX3 w h)) hown hK hP 2 rfl rfl 5 (by decide) (hts _ (wM_c wd_182)) (fun _ h9 => h9) rfl dX11_count_105 ?_
    exact W.iret (v := 0) hx hb hr (fun t ht hW => ⟨⟨0, (), rfl, (by rw [sw_1]; decide), trivial⟩, hS.F ht⟩) hS.2.2 dX11_count_108
  · refine lv_tableIn (off := 108) (tgt := 109) hx hb dX11_count_1 (by rw [sw_1]; decide) (by rw [sw_1]; decide) (by rw [sw_1]; decide) (by decide) ?_
    refine lv_aload_n hx hb dX11_count_109 rfl (lv_at hl 0 rfl) ?_
    refine va_get (D := (dC, dI)) (ci := 11) (v := .ref bk) (C := RX11) (T := TX11) (N := 12) hx hb hts (fun w h => wM_c (iX11 w h)) hown hK hP 0 rfl rfl 2 (by decide) (hts _ (wM_c wd_672)) (fun _ h9 => h9) rfl dX11_count_110 ?_
    refine va_get (D := (dC, dI)) (ci := 0) (v := .ref gr) (C := RX0) (T := TX0) (N := 13) hx hb hts (fun w h => wM_c (iX0 w h)) hown hK hP 1 rfl rfl 12 (by decide) (hts _ (wM_c wd_299)) (fun _ h9 => h9) rfl dX11_count_113 ?_
    refine va_get (D := (dC, dI)) (ci := 3) (v := .int 0) (C := RX3) (T := TX3) (N := 13) hx hb hts (fun w h => wM_c (iX3 w h)) hown hK hP 2 rfl rfl 9 (by decide) (hts _ (wM_c wd_197)) (fun _ h9 => h9) rfl dX11_count_116 ?_
    exact W.iret (v := 0) hx hb hr (fun t ht hW => ⟨⟨0, (), rfl, (by rw [sw_1]; decide), trivial⟩, hS.F ht⟩) hS.2.2 dX11_count_119
  · refine lv_tableIn (off := 119) (tgt := 120) hx hb dX11_count_1 (by rw [sw_1]; decide) (by rw [sw_1]; decide) (by rw [sw_1]; decide) (by decide) ?_
    refine lv_aload_n hx hb dX11_count_120 rfl (lv_at hl 0 rfl) ?_
    refine va_get (D := (dC, dI)) (ci := 11) (v := .ref fl) (C := RX11) (T := TX11) (N := 12) hx hb hts (fun w h => wM_c (iX11 w h)) hown hK hP 0 rfl rfl 7 (by decide) (hts _ (wM_c wd_677)) (fun _ h9 => h9) rfl dX11_count_121 ?_
    refine va_get (D := (dC, dI)) (ci := 1) (v := .int 0) (C := RX1) (T := TX1) (N := 8) hx hb hts (fun w h => wM_c (iX1 w h)) hown hK hP 3 rfl rfl 0 (by decide) (hts _ (wM_c wd_614)) (fun _ h9 => h9) rfl dX11_count_124 ?_
    exact W.iret (v := 0) hx hb hr (fun t ht hW => ⟨⟨0, (), rfl, (by rw [sw_1]; decide), trivial⟩, hS.F ht⟩) hS.2.2 dX11_count_127
  · refine lv_tableIn (off := 127) (tgt := 128) hx hb dX11_count_1 (by rw [sw_1]; decide) (by rw [sw_1]; decide) (by rw [sw_1]; decide) (by decide) ?_
    refine lv_aload_n hx hb dX11_count_128 rfl (lv_at hl 0 rfl) ?_
    refine va_get (D := (dC, dI)) (ci := 11) (v := .ref pl) (C := RX11) (T := TX11) (N := 12) hx hb hts (fun w h => wM_c (iX11 w h)) hown hK hP 0 rfl rfl 6 (by decide) (hts _ (wM_c wd_676)) (fun _ h9 => h9) rfl dX11_count_129 ?_
    refine va_get (D := (dC, dI)) (ci := 6) (v := .int 0) (C := RX6) (T := TX6) (N := 11) hx hb hts (fun w h => wM_c (iX6 w h)) hown hK hP 4 rfl rfl 0 (by decide) (hts _ (wM_c wd_573)) (fun _ h9 => h9) rfl dX11_count_132 ?_
    exact W.iret (v := 0) hx hb hr (fun t ht hW => ⟨⟨0, (), rfl, (by rw [sw_1]; decide), trivial⟩, hS.F ht⟩) hS.2.2 dX11_count_135
  · refine lv_tableIn (off := 135) (tgt := 136) hx hb dX11_count_1 (by rw [sw_1]; decide) (by rw [sw_1]; decide) (by rw [sw_1]; decide) (by decide) ?_
    refine lv_aload_n hx hb dX11_count_136 rfl (lv_at hl 0 rfl) ?_
    refine va_get (D := (dC, dI)) (ci := 11) (v := .ref rg) (C := RX11) (T := TX11) (N := 12) hx hb hts (fun w h => wM_c (iX11 w h)) hown hK hP 0 rfl rfl 8 (by decide) (hts _ (wM_c wd_678)) (fun _ h9 => h9) rfl dX11_count_137 ?_
    refine va_get (D := (dC, dI)) (ci := 8) (v := .int 0) (C := RX8) (T := TX8) (N := 4) hx hb hts (fun w h => wM_c (iX8 w h)) hown hK hP 5 rfl rfl 0 (by decide) (hts _ (wM_c wd_650)) (fun _ h9 => h9) rfl dX11_count_140 ?_
    exact W.iret (v := 0) hx hb hr (fun t ht hW => ⟨⟨0, (), rfl, (by rw [sw_1]; decide), trivial⟩, hS.F ht⟩) hS.2.2 dX11_count_143
  · refine lv_tableIn (off := 143) (tgt := 144) hx hb dX11_count_1 (by rw [sw_1]; decide) (by rw [sw_1]; decide) (by rw [sw_1]; decide) (by decide) ?_
    refine lv_aload_n hx hb dX11_count_144 rfl (lv_at hl 0 rfl) ?_
    refine va_get (D := (dC, dI)) (ci := 11) (v := .ref bk) (C := RX11) (T := TX11) (N := 12) hx hb hts (fun w h => wM_c (iX11 w h)) hown hK hP 0 rfl rfl 2 (by decide) (hts _ (wM_c wd_672)) (fun _ h9 => h9) rfl dX11_count_145 ?_
    refine va_get (D := (dC, dI)) (ci := 0) (v := .int (-1)) (C := RX0) (T := TX0) (N := 13) hx hb hts (fun w h => wM_c (iX0 w h)) hown hK hP 1 rfl rfl 11 (by decide) (hts _ (wM_c wd_292)) (fun _ h9 => h9) rfl dX11_count_148 ?_
    have hPc := hP.sub (ws' := []) [] rfl
    have hDc := hD.sub (ws' := []) [] (by decide) rfl
    have hKc := hK.sub (tys' := []) [] rfl
    have hFc := va_free (wc := []) hD hS hA [] rfl
    refine va_calli (va_runS (As := [.int (-1)]) (rest := []) ⟨hx, hb, hml, hown, hts⟩ (c_orNotSo l dC dI n0 s.heap.size (-1) ) (va_cwS 1 hts (gS (fun w h => wM_c h) wd_958 wd_956 wd_957 wd_114) rfl rfl rfl (by decide +kernel) ⟨Nat.le_of_ble_eq_true rfl, Nat.le_of_ble_eq_true rfl⟩) ⟨fun a U g mk q => by obtain ⟨q0, q1, q2, qG, qP, qK, qD⟩ := q; exact ⟨q0, q1, q2, GW.blind qG, qP, va_K.moved (u := U) (U := U.calling g mk a) (Vm.Alike.refl U.vm) qK, qD⟩, fun U hU hW => ⟨rfl, by rw [hU], Nat.le_trans hn0 hS.1, GW.go hW hU hG (fun q hq hA9 => hS.2.1 q hq (fun h => hA9 (hA0 q h))), by rw [hU]; exact hPc, va_K.moved hW.alike hKc, hDc.weaken (fun _ _ _ h => hA0 _ h)⟩⟩ rfl rfl hl.1 rfl (lv_room (Nat.le_of_ble_eq_true rfl)) dX11_count_151 ⟨Nat.le_of_ble_eq_true rfl, Nat.le_of_ble_eq_true rfl⟩) hS (fun q _ h => hFc q h) hFc (fun r_2 u t H1 locs ht hvm hw_3 hB hz1 hk1 hS => ?_)
    obtain ⟨hP1, hK1, hD1⟩ := hB
    rw [ht] at hP1
    obtain ⟨hP, hD⟩ := va_join (wr := [(x0, .inr (11, [.ref rd, .ref dr, .ref bk, .ref st, .ref nw, .ref tr, .ref pl, .ref fl, .ref rg, .int 0, .int 0, .int 0])), (bk, .inr (0, [.int 0, .ref bk_tail, .ref bk_head, .ref bk_hinder, .ref bk_size, .ref bk_walk, .ref bk_draught, .ref bk_doorIn, .ref bk_fanIn, .ref bk_faceIn, .int 0, .int (-1), .ref gr])), (gr, .inr (3, [.int 0, .ref gr_doorBy, .int 0, .ref gr_pairFirst, .ref gr_pairSecond, .int 0, .ref gr_fanPush, .ref gr_fanFall, .ref gr_fanCost, .int 0, .ref gr_faceWay, .ref gr_faceGas, .ref gr_faceNeed])), (fl, .inr (1, [.int 0, .ref fl_knotOf, .ref fl_smokeAt, .ref fl_reach, .ref fl_route, .ref fl_book, .ref fl_state, .ref fl_smokeIn])), (pl, .inr (6, [.int 0, .ref pl_order, .ref pl_state, .ref pl_now, .ref pl_trial, .ref pl_kind, .ref pl_which, .ref pl_value, .ref pl_soundBy, .int 0, .int 0])), (rg, .inr (8, [.int 0, .ref rg_way, .ref rg_low, .ref rg_high])), (rd, .inr (7, [.ref rd_tape, .int 0, .int 0, .int 0, .ref dr, .ref rd_names, .ref rd_nameKind, .ref rd_nameNumber, .int 0, .ref rd_knotNames, .int 0, .int 0, .int 0, .int 0, .long 0]))]) (w1 := []) hP hD [] [0, 1, 2, 3, 4, 5, 6] rfl rfl (by decide) (by decide) hk1 hFc hP1 hD1
    generalize H1 = H at hP hS ⊢
    have hP : va_P (dC, dI) classes [(x0, .inr (11, [.ref rd, .ref dr, .ref bk, .ref st, .ref nw, .ref tr, .ref pl, .ref fl, .ref rg, .int 0, .int 0, .int 0])), (bk, .inr (0, [.int 0, .ref bk_tail, .ref bk_head, .ref bk_hinder, .ref bk_size, .ref bk_walk, .ref bk_draught, .ref bk_doorIn, .ref bk_fanIn, .ref bk_faceIn, .int 0, .int (-1), .ref gr])), (gr, .inr (3, [.int 0, .ref gr_doorBy, .int 0, .ref gr_pairFirst, .ref gr_pairSecond, .int 0, .ref gr_fanPush, .ref gr_fanFall, .ref gr_fanCost, .int 0, .ref gr_faceWay, .ref gr_faceGas, .ref gr_faceNeed])), (fl, .inr (1, [.int 0, .ref fl_knotOf, .ref fl_smokeAt, .ref fl_reach, .ref fl_route, .ref fl_book, .ref fl_state, .ref fl_smokeIn])), (pl, .inr (6, [.int 0, .ref pl_order, .ref pl_state, .ref pl_now, .ref pl_trial, .ref pl_kind, .ref pl_which, .ref pl_value, .ref pl_soundBy, .int 0, .int 0])), (rg, .inr (8, [.int 0, .ref rg_way, .ref rg_low, .ref rg_high])), (rd, .inr (7, [.ref rd_tape, .int 0, .int 0, .int 0, .ref dr, .ref rd_names, .ref rd_nameKind, .ref rd_nameNumber, .int 0, .ref rd_knotNames, .int 0, .int 0, .int 0, .int 0, .long 0]))] H := hP
    have hD : va_D A [(x0, .inr (11, [.ref rd, .ref dr, .ref bk, .ref st, .ref nw, .ref tr, .ref pl, .ref fl, .ref rg, .int 0, .int 0, .int 0])), (bk, .inr (0, [.int 0, .ref bk_tail, .ref bk_head, .ref bk_hinder, .ref bk_size, .ref bk_walk, .ref bk_draught, .ref bk_doorIn, .ref bk_fanIn, .ref bk_faceIn, .int 0, .int (-1), .ref gr])), (gr, .inr (3, [.int 0, .ref gr_doorBy, .int 0, .ref gr_pairFirst, .ref gr_pairSecond, .int 0, .ref gr_fanPush, .ref gr_fanFall, .ref gr_fanCost, .int 0, .ref gr_faceWay, .ref gr_faceGas, .ref gr_faceNeed])), (fl, .inr (1, [.int 0, .ref fl_knotOf, .ref fl_smokeAt, .ref fl_reach, .ref fl_route, .ref fl_book, .ref fl_state, .ref fl_smokeIn])), (pl, .inr (6, [.int 0, .ref pl_order, .ref pl_state, .ref pl_now, .ref pl_trial, .ref pl_kind, .ref pl_which, .ref pl_value, .ref pl_soundBy, .int 0, .int 0])), (rg, .inr (8, [.int 0, .ref rg_way, .ref rg_low, .ref rg_high])), (rd, .inr (7, [.ref rd_tape, .int 0, .int 0, .int 0, .ref dr, .ref rd_names, .ref rd_nameKind, .ref rd_nameNumber, .int 0, .ref rd_knotNames, .int 0, .int 0, .int 0, .int 0, .long 0]))] := hD
    obtain rfl : r_2 = (-2) := hw_3
    exact W.iret (v := (-2)) hx hb hr (fun t ht hW => ⟨⟨(-2), (), rfl, (by rw [sw_1]; decide), trivial⟩, hS.F ht⟩) hS.2.2 dX11_count_154
  · refine lv_tableIn (off := 154) (tgt := 155) hx hb dX11_count_1 (by rw [sw_1]; decide) (by rw [sw_1]; decide) (by rw [sw_1]; decide) (by decide) ?_
    refine lv_aload_n hx hb dX11_count_155 rfl (lv_at hl 0 rfl) ?_
    refine va_get (D := (dC, dI)) (ci := 11) (v := .ref rd) (C := RX11) (T := TX11) (N := 12) hx hb hts (fun w h => wM_c (iX11 w h)) hown hK hP 0 rfl rfl 0 (by decide) (hts _ (wM_c wd_670)) (fun _ h9 => h9) rfl dX11_count_156 ?_
    refine va_get (D := (dC, dI)) (ci := 7) (v := .int 0) (C := RX7) (T := TX7) (N := 15) hx hb hts (fun w h => wM_c (iX7 w h)) hown hK hP 6 rfl rfl 1 (by decide) (hts _ (wM_c wd_334)) (fun _ h9 => h9) rfl dX11_count_159 ?_
    exact W.iret (v := 0) hx hb hr (fun t ht hW => ⟨⟨0, (), rfl, (by rw [sw_1]; decide), trivial⟩, hS.F ht⟩) hS.2.2 dX11_count_162
end
section
set_option maxHeartbeats 4000000 in
set_option maxRecDepth 100000 in
theorem c_append (l : Launch) (dC : Nat → ClassId) (dI : Nat → Nat → Nat) (n0 sz : Nat) (rd : Nat) (rd_tape : Nat) (i1 : Int32) (i2 : Int32) (dr : Nat) (rd_names : Nat) (rd_nameKind : Nat) (rd_nameNumber : Nat) (i3 : Int32) (rd_knotNames : Nat) (i4 : Int32) (i5 : Int32) (i6 : Int32) (i7 : Int32) (i8 : Int64) (n : Nat) (kt : ClassId) (f : Nat → Int32) (four : Int32) (hn : n ≤ 596) : Met l yX7_append (wM yX7_append cX7_append 3 none) ({ frames := 0, cells := 0, slots := 0, locals := 0 }) (va_Pc [.ref rd, .int four] (fun U => U.heap.size = sz ∧ n0 ≤ sz ∧ GW n0 U ∧ va_P (dC, dI) classes [(rd, .inr (7, [.ref rd_tape, .int (nI n), .int i1, .int i2, .ref dr, .ref rd_names, .ref rd_nameKind, .ref rd_nameNumber, .int i3, .ref rd_knotNames, .int i4, .int i5, .int i6, .int i7, .long i8])), (rd_tape, .inl (kt, 600, .inl f))] U.heap ∧ va_K (dC, dI) classes [(kt, .int)] U ∧ va_D (fun q => n0 ≤ q) [(rd, .inr (7, [.ref rd_tape, .int (nI n), .int i1, .int i2, .ref dr, .ref rd_names, .ref rd_nameKind, .ref rd_nameNumber, .int i3, .ref rd_knotNames, .int i4, .int i5, .int i6, .int i7, .long i8])), (rd_tape, .inl (kt, 600, .inl f))])) (va_Qv (fun _ : Unit => True) (fun (_ : Unit) (t : State) => ∃ (f2 : Nat → Int32), va_P (dC, dI) classes [(rd, .inr (7, [.ref rd_tape, .int (nI (n + 4)), .int i1, .int i2, .ref dr, .ref rd_names, .ref rd_nameKind, .ref rd_nameNumber, .int i3, .ref rd_knotNames, .int i4, .int i5, .int i6, .int i7, .long i8])), (rd_tape, .inl (kt, 600, .inl f2))] t.heap ∧ va_K (dC, dI) classes [(kt, .int)] t ∧ va_D (va_A [(rd, .inr (7, [.ref rd_tape, .int (nI n), .int i1, .int i2, .ref dr, .ref rd_names, .ref rd_nameKind, .ref rd_nameNumber, .int i3, .ref rd_knotNames, .int i4, .int i5, .int i6, .int i7, .long i8])), (rd_tape, .inl (kt, 600, .inl f))] sz) [(rd, .inr (7, [.ref rd_tape, .int (nI (n + 4)), .int i1, .int i2, .ref dr, .ref rd_names, .ref rd_nameKind, .ref rd_nameNumber, .int i3, .ref rd_knotNames, .int i4, .int i5, .int i6, .int i7, .long i8])), (rd_tape, .inl (kt, 600, .inl f2))]) (va_A [(rd, .inr (7, [.ref rd_tape, .int (nI n), .int i1, .int i2, .ref dr, .ref rd_names, .ref rd_nameKind, .ref rd_nameNumber, .int i3, .ref rd_knotNames, .int i4, .int i5, .int i6, .int i7, .long i8])), (rd_tape, .inl (kt, 600, .inl f))] sz)) 0 0 (va_A [(rd, .inr (7, [.ref rd_tape, .int (nI n), .int i1, .int i2, .ref dr, .ref rd_names, .ref rd_nameKind, .ref rd_nameNumber, .int i3, .ref rd_knotNames, .int i4, .int i5, .int i6, .int i7, .long i8])), (rd_tape, .inl (kt, 600, .inl f))] sz) := by
  refine Met.ofW (cc := cX7_append) (maxL := 3) (ret := none) (by decide) rfl ?_
  intro p e s m args below meth c s₁ B hml hv
  obtain ⟨rfl, hsz, hn0, hG, hP, hK, hD0⟩ := hv
  have hx := B.exec
  have hb := B.bytes
  have hr := B.returns
  have hts := atoms_spec (ws := wM yX7_append cX7_append 3 none) B.pre
  have hown : s.vm.findClass RX7 = some m.cls := findClass_of_methodNamed B.named
  have hlocks := B.notSynchronized
  subst hsz
  have hD := hD0.self (sz := s.heap.size)
  have hA0 := vA_n0 hD0 hn0
  generalize hAe : va_A [(rd, .inr (7, [.ref rd_tape, .int (nI n), .int i1, .int i2, .ref dr, .ref rd_names, .ref rd_nameKind, .ref rd_nameNumber, .int i3, .ref rd_knotNames, .int i4, .int i5, .int i6, .int i7, .long i8])), (rd_tape, .inl (kt, 600, .inl f))] s.heap.size = A at hD hA0 ⊢
  have hA : ∀ q : Nat, s.heap.size ≤ q → A q := fun q h => by rw [← hAe]; exact Or.inr h
  have hS : va_S A s.heap s.heap [] := va_S.rf
  have hl := lv_entry ([.ref rd, .int four]) (n := 3) (Nat.le_of_ble_eq_true rfl)
  rw [lg_entry_eq]
  generalize (lg_sl ([.ref rd, .int four]) ++ List.replicate (3 - (lg_sl ([.ref rd, .int four])).length) Slot.unset).toArray = ls at hl ⊢
  have hl : lv_has ls 3 [(0, .ref rd), (1, .int four)] := hl
  refine lv_bipush (v := 24) hx hb dX7_append_0 (by decide) ?_
  refine lv_istore_n (lv' := [(2, .int 24), (0, .ref rd), (1, .int four)]) hx hb dX7_append_2 rfl hl (by decide) rfl (fun ls hl => ?_)
  refine lv_iload_n hx hb dX7_append_3 rfl (lv_at hl 0 rfl) ?_
  refine lv_if_lt (tgt := 49) hx hb dX7_append_4 (by decide) (fun c_1 => ?_) (fun c_1 => ?_)
  · exact absurd c_1 (by decide)
  refine lv_aload_n hx hb dX7_append_7 rfl (lv_at hl 1 rfl) ?_
  refine va_get (D := (dC, dI)) (ci := 7) (v := .int (nI n)) (C := RX7) (T := TX7) (N := 15) hx hb hts (fun w h => wM_c (iX7 w h)) hown hK hP 0 rfl rfl 1 (by decide) (hts _ (wM_c wd_335)) (fun _ h9 => h9) rfl dX7_append_8 ?_
  refine lv_sipush (v := 600) hx hb dX7_append_11 (by decide) ?_
  refine lv_icmp_ge (tgt := 43) hx hb dX7_append_14 (by decide) (fun c_2 => ?_) (fun c_2 => ?_)
  · exact absurd c_2 (nI_ge (b := 600) (by omega) (by decide))
  refine lv_aload_n hx hb dX7_append_17 rfl (lv_at hl 1 rfl) ?_
  refine va_get (D := (dC, dI)) (ci := 7) (v := .ref rd_tape) (C := RX7) (T := TX7) (N := 15) hx hb hts (fun w h => wM_c (iX7 w h)) hown hK hP 0 rfl rfl 0 (by decide) (hts _ (wM_c wd_333)) (fun _ h9 => h9) rfl dX7_append_18 ?_
  refine lv_aload_n hx hb dX7_append_21 rfl (lv_at hl 1 rfl) ?_
  refine va_get (D := (dC, dI)) (ci := 7) (v := .int (nI n)) (C := RX7) (T := TX7) (N := 15) hx hb hts (fun w h => wM_c (iX7 w h)) hown hK hP 0 rfl rfl 1 (by decide) (hts _ (wM_c wd_335)) (fun _ h9 => h9) rfl dX7_append_22 ?_
  refine lv_iload_n hx hb dX7_append_25 rfl (lv_at hl 2 rfl) ?_
  refine lv_iload_n hx hb dX7_append_26 rfl (lv_at hl 0 rfl) ?_
  refine lv_ishr hx hb dX7_append_27 ?_
  refine lv_topi (fun v_3 ev_3 => ?_)
  refine lv_sipush (v := 255) hx hb dX7_append_28 (by decide) ?_
  refine lv_iand hx hb dX7_append_31 ?_
  refine lv_topi (fun v_4 ev_4 => ?_)
  refine va_iast hx hb hK hP hD hS 1 0 rfl rfl (vp_in_nI (by omega) (by decide)) dX7_append_32 (fun H locs hP hD hS => ?_)
  obtain ⟨f_5, hP, hD⟩ : ∃ f9, va_P (dC, dI) classes [(rd, .inr (7, [.ref rd_tape, .int (nI n), .int i1, .int i2, .ref dr, .ref rd_names, .ref rd_nameKind, .ref rd_nameNumber, .int i3, .ref rd_knotNames, .int i4, .int i5, .int i6, .int i7, .long i8])), (rd_tape, .inl (kt, 600, .inl f9))] H ∧ va_D A [(rd, .inr (7, [.ref rd_tape, .int (nI n), .int i1, .int i2, .ref dr, .ref rd_names, .ref rd_nameKind, .ref rd_nameNumber, .int i3, .ref rd_knotNames, .int i4, .int i5, .int i6, .int i7, .long i8])), (rd_tape, .inl (kt, 600, .inl f9))] := ⟨_, hP, hD⟩
  refine lv_aload_n hx hb dX7_append_33 rfl (lv_at hl 1 rfl) ?_
  refine lv_dup hx hb dX7_append_34 rfl ?_
  refine va_get (D := (dC, dI)) (ci := 7) (v := .int (nI n)) (C := RX7) (T := TX7) (N := 15) hx hb hts (fun w h => wM_c (iX7 w h)) hown hK hP 0 rfl rfl 1 (by decide) (hts _ (wM_c wd_335)) (fun _ h9 => h9) rfl dX7_append_35 ?_
  refine lv_iconst (v := 1) hx hb dX7_append_38 (by decide) ?_
  refine lv_iadd hx hb dX7_append_39 ?_
  refine lv_topi (fun v_6 ev_6 => ?_)
  obtain rfl : v_6 = nI (n + 1) := ev_6.trans (nI_1 _)
  refine va_put (D := (dC, dI)) (ci := 7) (v := .int (nI (n + 1))) (ty := .int) (C := RX7) (T := TX7) (N := 15) hx hb hts (fun w h => wM_c (iX7 w h)) tyX7 tyX7_ok nmX7 hown hK hP hD hS 0 rfl rfl 1 (by decide) (hts _ (wM_c wd_335)) (fun _ h9 => h9) rfl (by decide +kernel) rfl rfl (Nat.le_of_ble_eq_true rfl) dX7_append_40 (fun H locs hP hD hS => ?_)
  have hP : va_P (dC, dI) classes [(rd, .inr (7, [.ref rd_tape, .int (nI (n + 1)), .int i1, .int i2, .ref dr, .ref rd_names, .ref rd_nameKind, .ref rd_nameNumber, .int i3, .ref rd_knotNames, .int i4, .int i5, .int i6, .int i7, .long i8])), (rd_tape, .inl (kt, 600, .inl f_5))] H := hP
  have hD : va_D A [(rd, .inr (7, [.ref rd_tape, .int (nI (n + 1)), .int i1, .int i2, .ref dr, .ref rd_names, .ref rd_nameKind, .ref rd_nameNumber, .int i3, .ref rd_knotNames, .int i4, .int i5, .int i6, .int i7, .long i8])), (rd_tape, .inl (kt, 600, .inl f_5))] := hD
  refine lv_iinc (v := 16) (lv' := [(2, .int 16), (0, .ref rd), (1, .int four)]) hx hb dX7_append_43 hl (k := 0) rfl (by decide) (by decide) rfl (fun ls hl => ?_)
  refine lv_goto (tgt := 3) hx hb dX7_append_46 (by decide) ?_
  refine lv_iload_n hx hb dX7_append_3 rfl (lv_at hl 0 rfl) ?_
  refine lv_if_lt (tgt := 49) hx hb dX7_append_4 (by decide) (fun c_7 => ?_) (fun c_7 => ?_)
  · exact absurd c_7 (by decide)
  refine lv_aload_n hx hb dX7_append_7 rfl (lv_at hl 1 rfl) ?_
  refine va_get (D := (dC, dI)) (ci := 7) (v := .int (nI (n + 1))) (C := RX7) (T := TX7) (N := 15) hx hb hts (fun w h => wM_c (iX7 w h)) hown hK hP 0 rfl rfl 1 (by decide) (hts _ (wM_c wd_335)) (fun _ h9 => h9) rfl dX7_append_8 ?_
  refine lv_sipush (v := 600) hx hb dX7_append_11 (by decide) ?_
  refine lv_icmp_ge (tgt := 43) hx hb dX7_append_14 (by decide) (fun c_8 => ?_) (fun c_8 => ?_)
  · exact absurd c_8 (nI_ge (b := 600) (by omega) (by decide))
  refine lv_aload_n hx hb dX7_append_17 rfl (lv_at hl 1 rfl) ?_
  refine va_get (D := (dC, dI)) (ci := 7) (v := .ref rd_tape) (C := RX7) (T := TX7) (N := 15) hx hb hts (fun w h => wM_c (iX7 w h)) hown hK hP 0 rfl rfl 0 (by decide) (hts _ (wM_c wd_333)) (fun _ h9 => h9) rfl dX7_append_18 ?_
  refine lv_aload_n hx hb dX7_append_21 rfl (lv_at hl 1 rfl) ?_
  refine va_get (D := (dC, dI)) (ci := 7) (v := .int (nI (n + 1))) (C := RX7) (T := TX7) (N := 15) hx hb hts (fun w h => wM_c (iX7 w h)) hown hK hP 0 rfl rfl 1 (by decide) (hts _ (wM_c wd_335)) (fun _ h9 => h9) rfl dX7_append_22 ?_
  refine lv_iload_n hx hb dX7_append_25 rfl (lv_at hl 2 rfl) ?_
  refine lv_iload_n hx hb dX7_append_26 rfl (lv_at hl 0 rfl) ?_
  refine lv_ishr hx hb dX7_append_27 ?_
  refine lv_topi (fun v_9 ev_9 => ?_)
  refine lv_sipush (v := 255) hx hb dX7_append_28 (by decide) ?_
  refine lv_iand hx hb dX7_append_31 ?_
  refine lv_topi (fun v_10 ev_10 => ?_)
  refine va_iast hx hb hK hP hD hS 1 0 rfl rfl (vp_in_nI (by omega) (by decide)) dX7_append_32 (fun H locs hP hD hS => ?_)
  obtain ⟨f_11, hP, hD⟩ : ∃ f9, va_P (dC, dI) classes [(rd, .inr (7, [.ref rd_tape, .int (nI (n + 1)), .int i1, .int i2, .ref dr, .ref rd_names, .ref rd_nameKind, .ref rd_nameNumber, .int i3, .ref rd_knotNames, .int i4, .int i5, .int i6, .int i7, .long i8])), (rd_tape, .inl (kt, 600, .inl f9))] H ∧ va_D A [(rd, .inr (7, [.ref rd_tape, .int (nI (n + 1)), .int i1, .int i2, .ref dr, .ref rd_names, .ref rd_nameKind, .ref rd_nameNumber, .int i3, .ref rd_knotNames, .int i4, .int i5, .int i6, .int i7, .long i8])), (rd_tape, .inl (kt, 600, .inl f9))] := ⟨_, hP, hD⟩
  refine lv_aload_n hx hb dX7_append_33 rfl (lv_at hl 1 rfl) ?_
  refine lv_dup hx hb dX7_append_34 rfl ?_
  refine va_get (D := (dC, dI)) (ci := 7) (v := .int (nI (n + 1))) (C := RX7) (T := TX7) (N := 15) hx hb hts (fun w h => wM_c (iX7 w h)) hown hK hP 0 rfl rfl 1 (by decide) (hts _ (wM_c wd_335)) (fun _ h9 => h9) rfl dX7_append_35 ?_
  refine lv_iconst (v := 1) hx hb dX7_append_38 (by decide) ?_
  refine lv_iadd hx hb dX7_append_39 ?_
  refine lv_topi (fun v_12 ev_12 => ?_)
  obtain rfl : v_12 = nI (n + 2) := ev_12.trans (nI_1 _)
  refine va_put (D := (dC, dI)) (ci := 7) (v := .int (nI (n + 2))) (ty := .int) (C := RX7) (T := TX7) (N := 15) hx hb hts (fun w h => wM_c (iX7 w h)) tyX7 tyX7_ok nmX7 hown hK hP hD hS 0 rfl rfl 1 (by decide) (hts _ (wM_c wd_335)) (fun _ h9 => h9) rfl (by decide +kernel) rfl rfl (Nat.le_of_ble_eq_true rfl) dX7_append_40 (fun H locs hP hD hS => ?_)
  have hP : va_P (dC, dI) classes [(rd, .inr (7, [.ref rd_tape, .int (nI (n + 2)), .int i1, .int i2, .ref dr, .ref rd_names, .ref rd_nameKind, .ref rd_nameNumber, .int i3, .ref rd_knotNames, .int i4, .int i5, .int i6, .int i7, .long i8])), (rd_tape, .inl (kt, 600, .inl f_11))] H := hP
  have hD : va_D A [(rd, .inr (7, [.ref rd_tape, .int (nI (n + 2)), .int i1, .int i2, .ref dr, .ref rd_names, .ref rd_nameKind, .ref rd_nameNumber, .int i3, .ref rd_knotNames, .int i4, .int i5, .int i6, .int i7, .long i8])), (rd_tape, .inl (kt, 600, .inl f_11))] := hD
  refine lv_iinc (v := 8) (lv' := [(2, .int 8), (0, .ref rd), (1, .int four)]) hx hb dX7_append_43 hl (k := 0) rfl (by decide) (by decide) rfl (fun ls hl => ?_)
  refine lv_goto (tgt := 3) hx hb dX7_append_46 (by decide) ?_
  refine lv_iload_n hx hb dX7_append_3 rfl (lv_at hl 0 rfl) ?_
  refine lv_if_lt (tgt := 49) hx hb dX7_append_4 (by decide) (fun c_13 => ?_) (fun c_13 => ?_)
  · exact absurd c_13 (by decide)
  refine lv_aload_n hx hb dX7_append_7 rfl (lv_at hl 1 rfl) ?_
  refine va_get (D := (dC, dI)) (ci := 7) (v := .int (nI (n + 2))) (C := RX7) (T := TX7) (N := 15) hx hb hts (fun w h => wM_c (iX7 w h)) hown hK hP 0 rfl rfl 1 (by decide) (hts _ (wM_c wd_335)) (fun _ h9 => h9) rfl dX7_append_8 ?_
  refine lv_sipush (v := 600) hx hb dX7_append_11 (by decide) ?_
  refine lv_icmp_ge (tgt := 43) hx hb dX7_append_14 (by decide) (fun c_14 => ?_) (fun c_14 => ?_)
  · exact absurd c_14 (nI_ge (b := 600) (by omega) (by decide))
  refine lv_aload_n hx hb dX7_append_17 rfl (lv_at hl 1 rfl) ?_
  refine va_get (D := (dC, dI)) (ci := 7) (v := .ref rd_tape) (C := RX7) (T := TX7) (N := 15) hx hb hts (fun w h => wM_c (iX7 w h)) hown hK hP 0 rfl rfl 0 (by decide) (hts _ (wM_c wd_333)) (fun _ h9 => h9) rfl dX7_append_18 ?_
  refine lv_aload_n hx hb dX7_append_21 rfl (lv_at hl 1 rfl) ?_
  refine va_get (D := (dC, dI)) (ci := 7) (v := .int (nI (n + 2))) (C := RX7) (T := TX7) (N := 15) hx hb hts (fun w h => wM_c (iX7 w h)) hown hK hP 0 rfl rfl 1 (by decide) (hts _ (wM_c wd_335)) (fun _ h9 => h9) rfl dX7_append_22 ?_
  refine lv_iload_n hx hb dX7_append_25 rfl (lv_at hl 2 rfl) ?_
  refine lv_iload_n hx hb dX7_append_26 rfl (lv_at hl 0 rfl) ?_
  refine lv_ishr hx hb dX7_append_27 ?_
  refine lv_topi (fun v_15 ev_15 => ?_)
  refine lv_sipush (v := 255) hx hb dX7_append_28 (by decide) ?_
  refine lv_iand hx hb dX7_append_31 ?_
  refine lv_topi (fun v_16 ev_16 => ?_)
  refine va_iast hx hb hK hP hD hS 1 0 rfl rfl (vp_in_nI (by omega) (by decide)) dX7_append_32 (fun H locs hP hD hS => ?_)
  obtain ⟨f_17, hP, hD⟩ : ∃ f9, va_P (dC, dI) classes [(rd, .inr (7, [.ref rd_tape, .int (nI (n + 2)), .int i1, .int i2, .ref dr, .ref rd_names, .ref rd_nameKind, .ref rd_nameNumber, .int i3, .ref rd_knotNames, .int i4, .int i5, .int i6, .int i7, .long i8])), (rd_tape, .inl (kt, 600, .inl f9))] H ∧ va_D A [(rd, .inr (7, [.ref rd_tape, .int (nI (n + 2)), .int i1, .int i2, .ref dr, .ref rd_names, .ref rd_nameKind, .ref rd_nameNumber, .int i3, .ref rd_knotNames, .int i4, .int i5, .int i6, .int i7, .long i8])), (rd_tape, .inl (kt, 600, .inl f9))] := ⟨_, hP, hD⟩
  refine lv_aload_n hx hb dX7_append_33 rfl (lv_at hl 1 rfl) ?_
  refine lv_dup hx hb dX7_append_34 rfl ?_
  refine va_get (D := (dC, dI)) (ci := 7) (v := .int (nI (n + 2))) (C := RX7) (T := TX7) (N := 15) hx hb hts (fun w h => wM_c (iX7 w h)) hown hK hP 0 rfl rfl 1 (by decide) (hts _ (wM_c wd_335)) (fun _ h9 => h9) rfl dX7_append_35 ?_
  refine lv_iconst (v := 1) hx hb dX7_append_38 (by decide) ?_
  refine lv_iadd hx hb dX7_append_39 ?_
  refine lv_topi (fun v_18 ev_18 => ?_)
  obtain rfl : v_18 = nI (n + 3) := ev_18.trans (nI_1 _)
  refine va_put (D := (dC, dI)) (ci := 7) (v := .int (nI (n + 3))) (ty := .int) (C := RX7) (T := TX7) (N := 15) hx hb hts (fun w h => wM_c (iX7 w h)) tyX7 tyX7_ok nmX7 hown hK hP hD hS 0 rfl rfl 1 (by decide) (hts _ (wM_c wd_335)) (fun _ h9 => h9) rfl (by decide +kernel) rfl rfl (Nat.le_of_ble_eq_true rfl) dX7_append_40 (fun H locs hP hD hS => ?_)
  have hP : va_P (dC, dI) classes [(rd, .inr (7, [.ref rd_tape, .int (nI (n + 3)), .int i1, .int i2, .ref dr, .ref rd_names, .ref rd_nameKind, .ref rd_nameNumber, .int i3, .ref rd_knotNames, .int i4, .int i5, .int i6, .int i7, .long i8])), (rd_tape, .inl (kt, 600, .inl f_17))] H := hP
  have hD : va_D A [(rd, .inr (7, [.ref rd_tape, .int (nI (n + 3)), .int i1, .int i2, .ref dr, .ref rd_names, .ref rd_nameKind, .ref rd_nameNumber, .int i3, .ref rd_knotNames, .int i4, .int i5, .int i6, .int i7, .long i8])), (rd_tape, .inl (kt, 600, .inl f_17))] := hD
  refine lv_iinc (v := 0) (lv' := [(2, .int 0), (0, .ref rd), (1, .int four)]) hx hb dX7_append_43 hl (k := 0) rfl (by decide) (by decide) rfl (fun ls hl => ?_)
  refine lv_goto (tgt := 3) hx hb dX7_append_46 (by decide) ?_
  refine lv_iload_n hx hb dX7_append_3 rfl (lv_at hl 0 rfl) ?_
  refine lv_if_lt (tgt := 49) hx hb dX7_append_4 (by decide) (fun c_19 => ?_) (fun c_19 => ?_)
  · exact absurd c_19 (by decide)
  refine lv_aload_n hx hb dX7_append_7 rfl (lv_at hl 1 rfl) ?_
  refine va_get (D := (dC, dI)) (ci := 7) (v := .int (nI (n + 3))) (C := RX7) (T := TX7) (N := 15) hx hb hts (fun w h => wM_c (iX7 w h)) hown hK hP 0 rfl rfl 1 (by decide) (hts _ (wM_c wd_335)) (fun _ h9 => h9) rfl dX7_append_8 ?_
  refine lv_sipush (v := 600) hx hb dX7_append_11 (by decide) ?_
  refine lv_icmp_ge (tgt := 43) hx hb dX7_append_14 (by decide) (fun c_20 => ?_) (fun c_20 => ?_)
  · exact absurd c_20 (nI_ge (b := 600) (by omega) (by decide))
  refine lv_aload_n hx hb dX7_append_17 rfl (lv_at hl 1 rfl) ?_
  refine va_get (D := (dC, dI)) (ci := 7) (v := .ref rd_tape) (C := RX7) (T := TX7) (N := 15) hx hb hts (fun w h => wM_c (iX7 w h)) hown hK hP 0 rfl rfl 0 (by decide) (hts _ (wM_c wd_333)) (fun _ h9 => h9) rfl dX7_append_18 ?_
  refine lv_aload_n hx hb dX7_append_21 rfl (lv_at hl 1 rfl) ?_
  refine va_get (D := (dC, dI)) (ci := 7) (v := .int (nI (n + 3))) (C := RX7) (T := TX7) (N := 15) hx hb hts (fun w h => wM_c (iX7 w h)) hown hK hP 0 rfl rfl 1 (by decide) (hts _ (wM_c wd_335)) (fun _ h9 => h9) rfl dX7_append_22 ?_
  refine lv_iload_n hx hb dX7_append_25 rfl (lv_at hl 2 rfl) ?_
  refine lv_iload_n hx hb dX7_append_26 rfl (lv_at hl 0 rfl) ?_
  refine lv_ishr hx hb dX7_append_27 ?_
  refine lv_topi (fun v_21 ev_21 => ?_)
  refine lv_sipush (v := 255) hx hb dX7_append_28 (by decide) ?_
  refine lv_iand hx hb dX7_append_31 ?_
  refine lv_topi (fun v_22 ev_22 => ?_)
  refine va_iast hx hb hK hP hD hS 1 0 rfl rfl (vp_in_nI (by omega) (by decide)) dX7_append_32 (fun H locs hP hD hS => ?_)
  obtain ⟨f_23, hP, hD⟩ : ∃ f9, va_P (dC, dI) classes [(rd, .inr (7, [.ref rd_tape, .int (nI (n + 3)), .int i1, .int i2, .ref dr, .ref rd_names, .ref rd_nameKind, .ref rd_nameNumber, .int i3, .ref rd_knotNames, .int i4, .int i5, .int i6, .int i7, .long i8])), (rd_tape, .inl (kt, 600, .inl f9))] H ∧ va_D A [(rd, .inr (7, [.ref rd_tape, .int (nI (n + 3)), .int i1, .int i2, .ref dr, .ref rd_names, .ref rd_nameKind, .ref rd_nameNumber, .int i3, .ref rd_knotNames, .int i4, .int i5, .int i6, .int i7, .long i8])), (rd_tape, .inl (kt, 600, .inl f9))] := ⟨_, hP, hD⟩
  refine lv_aload_n hx hb dX7_append_33 rfl (lv_at hl 1 rfl) ?_
  refine lv_dup hx hb dX7_append_34 rfl ?_
  refine va_get (D := (dC, dI)) (ci := 7) (v := .int (nI (n + 3))) (C := RX7) (T := TX7) (N := 15) hx hb hts (fun w h => wM_c (iX7 w h)) hown hK hP 0 rfl rfl 1 (by decide) (hts _ (wM_c wd_335)) (fun _ h9 => h9) rfl dX7_append_35 ?_
  refine lv_iconst (v := 1) hx hb dX7_append_38 (by decide) ?_
  refine lv_iadd hx hb dX7_append_39 ?_
  refine lv_topi (fun v_24 ev_24 => ?_)
  obtain rfl : v_24 = nI (n + 4) := ev_24.trans (nI_1 _)
  refine va_put (D := (dC, dI)) (ci := 7) (v := .int (nI (n + 4))) (ty := .int) (C := RX7) (T := TX7) (N := 15) hx hb hts (fun w h => wM_c (iX7 w h)) tyX7 tyX7_ok nmX7 hown hK hP hD hS 0 rfl rfl 1 (by decide) (hts _ (wM_c wd_335)) (fun _ h9 => h9) rfl (by decide +kernel) rfl rfl (Nat.le_of_ble_eq_true rfl) dX7_append_40 (fun H locs hP hD hS => ?_)
  have hP : va_P (dC, dI) classes [(rd, .inr (7, [.ref rd_tape, .int (nI (n + 4)), .int i1, .int i2, .ref dr, .ref rd_names, .ref rd_nameKind, .ref rd_nameNumber, .int i3, .ref rd_knotNames, .int i4, .int i5, .int i6, .int i7, .long i8])), (rd_tape, .inl (kt, 600, .inl f_23))] H := hP
  have hD : va_D A [(rd, .inr (7, [.ref rd_tape, .int (nI (n + 4)), .int i1, .int i2, .ref dr, .ref rd_names, .ref rd_nameKind, .ref rd_nameNumber, .int i3, .ref rd_knotNames, .int i4, .int i5, .int i6, .int i7, .long i8])), (rd_tape, .inl (kt, 600, .inl f_23))] := hD
  refine lv_iinc (v := (-8)) (lv' := [(2, .int (-8)), (0, .ref rd), (1, .int four)]) hx hb dX7_append_43 hl (k := 0) rfl (by decide) (by decide) rfl (fun ls hl => ?_)
  refine lv_goto (tgt := 3) hx hb dX7_append_46 (by decide) ?_
  refine lv_iload_n hx hb dX7_append_3 rfl (lv_at hl 0 rfl) ?_
  refine lv_if_lt (tgt := 49) hx hb dX7_append_4 (by decide) (fun c_25 => ?_) (fun c_25 => ?_)
  · skip
    have hP9 := hP.sub (ws' := [(rd, .inr (7, [.ref rd_tape, .int (nI (n + 4)), .int i1, .int i2, .ref dr, .ref rd_names, .ref rd_nameKind, .ref rd_nameNumber, .int i3, .ref rd_knotNames, .int i4, .int i5, .int i6, .int i7, .long i8])), (rd_tape, .inl (kt, 600, .inl f_23))]) [0, 1] rfl
    have hD9 := hD.sub (ws' := [(rd, .inr (7, [.ref rd_tape, .int (nI (n + 4)), .int i1, .int i2, .ref dr, .ref rd_names, .ref rd_nameKind, .ref rd_nameNumber, .int i3, .ref rd_knotNames, .int i4, .int i5, .int i6, .int i7, .long i8])), (rd_tape, .inl (kt, 600, .inl f_23))]) [0, 1] (by decide) rfl
    have hK9 := hK.sub (tys' := [(kt, .int)]) [0] rfl
    exact W.vret hx hb hr (fun t ht hW => ⟨⟨(), rfl, trivial, f_23, by rw [ht]; exact hP9, va_K.moved hW.alike hK9, hD9⟩, hS.F ht⟩) hS.2.2 dX7_append_49
  · exact absurd c_25 (by decide)
set_option maxHeartbeats 4000000 in
set_option maxRecDepth 100000 in
theorem p_feed (l : Launch) (dC : Nat → ClassId) (dI : Nat → Nat → Nat) (n0 sz : Nat) (x0 : Nat) (rd : Nat) (dr : Nat) (bk : Nat) (st : Nat) (nw : Nat) (tr : Nat) (pl : Nat) (fl : Nat) (rg : Nat) (rd_tape : Nat) (rd_names : Nat) (rd_nameKind : Nat) (rd_nameNumber : Nat) (rd_knotNames : Nat) (kt : ClassId) (f : Nat → Int32) (av : Int32) (bv : Int32) (cv : Int32) (dv : Int32) (ev : Int32) : Met l yX11_feed (wM yX11_feed cX11_feed 6 (some .int)) ({ frames := 1, cells := 0, slots := 0, locals := 22 }) (va_Pc [.ref x0, .int av, .int bv, .int cv, .int dv, .int ev] (fun U => U.heap.size = sz ∧ n0 ≤ sz ∧ GW n0 U ∧ va_P (dC, dI) classes [(x0, .inr (11, [.ref rd, .ref dr, .ref bk, .ref st, .ref nw, .ref tr, .ref pl, .ref fl, .ref rg, .int 0, .int 0, .int 0])), (rd, .inr (7, [.ref rd_tape, .int 0, .int 0, .int 0, .ref dr, .ref rd_names, .ref rd_nameKind, .ref rd_nameNumber, .int 0, .ref rd_knotNames, .int 0, .int 0, .int 0, .int 0, .long 0])), (rd_tape, .inl (kt, 600, .inl f))] U.heap ∧ va_K (dC, dI) classes [(kt, .int)] U ∧ va_D (fun q => n0 ≤ q) [(x0, .inr (11, [.ref rd, .ref dr, .ref bk, .ref st, .ref nw, .ref tr, .ref pl, .ref fl, .ref rg, .int 0, .int 0, .int 0])), (rd, .inr (7, [.ref rd_tape, .int 0, .int 0, .int 0, .ref dr, .ref rd_names, .ref rd_nameKind, .ref rd_nameNumber, .int 0, .ref rd_knotNames, .int 0, .int 0, .int 0, .int 0, .long 0])), (rd_tape, .inl (kt, 600, .inl f))])) (va_Qi (fun (r : Int32) (_ : Unit) => r = 20) (fun (_ : Unit) (_ : State) => True) (va_A [(x0, .inr (11, [.ref rd, .ref dr, .ref bk, .ref st, .ref nw, .ref tr, .ref pl, .ref fl, .ref rg, .int 0, .int 0, .int 0])), (rd, .inr (7, [.ref rd_tape, .int 0, .int 0, .int 0, .ref dr, .ref rd_names, .ref rd_nameKind, .ref rd_nameNumber, .int 0, .ref rd_knotNames, .int 0, .int 0, .int 0, .int 0, .long 0])), (rd_tape, .inl (kt, 600, .inl f))] sz)) 0 0 (va_A [(x0, .inr (11, [.ref rd, .ref dr, .ref bk, .ref st, .ref nw, .ref tr, .ref pl, .ref fl, .ref rg, .int 0, .int 0, .int 0])), (rd, .inr (7, [.ref rd_tape, .int 0, .int 0, .int 0, .ref dr, .ref rd_names, .ref rd_nameKind, .ref rd_nameNumber, .int 0, .ref rd_knotNames, .int 0, .int 0, .int 0, .int 0, .long 0])), (rd_tape, .inl (kt, 600, .inl f))] sz) := by
  refine Met.ofW (cc := cX11_feed) (maxL := 6) (ret := (some .int)) (by decide) rfl ?_
  intro p e s m args below meth c s₁ B hml hv
  obtain ⟨rfl, hsz, hn0, hG, hP, hK, hD0⟩ := hv
  have hx := B.exec
  have hb := B.bytes
  have hr := B.returns
  have hts := atoms_spec (ws := wM yX11_feed cX11_feed 6 (some .int)) B.pre
  have hown : s.vm.findClass RX11 = some m.cls := findClass_of_methodNamed B.named
  have hlocks := B.notSynchronized
  subst hsz
  have hD := hD0.self (sz := s.heap.size)
  have hA0 := vA_n0 hD0 hn0
  generalize hAe : va_A [(x0, .inr (11, [.ref rd, .ref dr, .ref bk, .ref st, .ref nw, .ref tr, .ref pl, .ref fl, .ref rg, .int 0, .int 0, .int 0])), (rd, .inr (7, [.ref rd_tape, .int 0, .int 0, .int 0, .ref dr, .ref rd_names, .ref rd_nameKind, .ref rd_nameNumber, .int 0, .ref rd_knotNames, .int 0, .int 0, .int 0, .int 0, .long 0])), (rd_tape, .inl (kt, 600, .inl f))] s.heap.size = A at hD hA0 ⊢
  have hA : ∀ q : Nat, s.heap.size ≤ q → A q := fun q h => by rw [← hAe]; exact Or.inr h
  have hS : va_S A s.heap s.heap [] := va_S.rf
  have hl := lv_entry ([.ref x0, .int av, .int bv, .int cv, .int dv, .int ev]) (n := 6) (Nat.le_of_ble_eq_true rfl)
  rw [lg_entry_eq]
  generalize (lg_sl ([.ref x0, .int av, .int bv, .int cv, .int dv, .int ev]) ++ List.replicate (6 - (lg_sl ([.ref x0, .int av, .int bv, .int cv, .int dv, .int ev])).length) Slot.unset).toArray = ls at hl ⊢
  have hl : lv_has ls 6 [(0, .ref x0), (1, .int av), (2, .int bv), (3, .int cv), (4, .int dv), (5, .int ev)] := hl
  refine lv_aload_n hx hb dX11_feed_0 rfl (lv_at hl 0 rfl) ?_
  refine va_get (D := (dC, dI)) (ci := 11) (v := .ref rd) (C := RX11) (T := TX11) (N := 12) hx hb hts (fun w h => wM_c (iX11 w h)) hown hK hP 0 rfl rfl 0 (by decide) (hts _ (wM_c wd_670)) (fun _ h9 => h9) rfl dX11_feed_1 ?_
  refine va_get (D := (dC, dI)) (ci := 7) (v := .int 0) (C := RX7) (T := TX7) (N := 15) hx hb hts (fun w h => wM_c (iX7 w h)) hown hK hP 1 rfl rfl 1 (by decide) (hts _ (wM_c wd_334)) (fun _ h9 => h9) rfl dX11_feed_4 ?_
  refine lv_bipush (v := 20) hx hb dX11_feed_7 (by decide) ?_
  refine lv_iadd hx hb dX11_feed_9 ?_
  refine lv_topi (fun v_1 ev_1 => ?_)
  obtain rfl : v_1 = 20 := ev_1.trans (by decide)
  refine lv_sipush (v := 600) hx hb dX11_feed_10 (by decide) ?_
  refine lv_icmp_le (tgt := 18) hx hb dX11_feed_13 (by decide) (fun c_2 => ?_) (fun c_2 => ?_)
  · skip
    refine lv_aload_n hx hb dX11_feed_18 rfl (lv_at hl 0 rfl) ?_
    refine va_get (D := (dC, dI)) (ci := 11) (v := .ref rd) (C := RX11) (T := TX11) (N := 12) hx hb hts (fun w h => wM_c (iX11 w h)) hown hK hP 0 rfl rfl 0 (by decide) (hts _ (wM_c wd_670)) (fun _ h9 => h9) rfl dX11_feed_19 ?_
    refine lv_iload_n hx hb dX11_feed_22 rfl (lv_at hl 1 rfl) ?_
    have hP : va_P (dC, dI) classes [(x0, .inr (11, [.ref rd, .ref dr, .ref bk, .ref st, .ref nw, .ref tr, .ref pl, .ref fl, .ref rg, .int 0, .int 0, .int 0])), (rd, .inr (7, [.ref rd_tape, .int (nI 0), .int 0, .int 0, .ref dr, .ref rd_names, .ref rd_nameKind, .ref rd_nameNumber, .int 0, .ref rd_knotNames, .int 0, .int 0, .int 0, .int 0, .long 0])), (rd_tape, .inl (kt, 600, .inl f))] s.heap := hP
    have hD : va_D A [(x0, .inr (11, [.ref rd, .ref dr, .ref bk, .ref st, .ref nw, .ref tr, .ref pl, .ref fl, .ref rg, .int 0, .int 0, .int 0])), (rd, .inr (7, [.ref rd_tape, .int (nI 0), .int 0, .int 0, .ref dr, .ref rd_names, .ref rd_nameKind, .ref rd_nameNumber, .int 0, .ref rd_knotNames, .int 0, .int 0, .int 0, .int 0, .long 0])), (rd_tape, .inl (kt, 600, .inl f))] := hD
    have hPc := hP.sub (ws' := [(rd, .inr (7, [.ref rd_tape, .int (nI 0), .int 0, .int 0, .ref dr, .ref rd_names, .ref rd_nameKind, .ref rd_nameNumber, .int 0, .ref rd_knotNames, .int 0, .int 0, .int 0, .int 0, .long 0])), (rd_tape, .inl (kt, 600, .inl f))]) [1, 2] rfl
    have hDc := hD.sub (ws' := [(rd, .inr (7, [.ref rd_tape, .int (nI 0), .int 0, .int 0, .ref dr, .ref rd_names, .ref rd_nameKind, .ref rd_nameNumber, .int 0, .ref rd_knotNames, .int 0, .int 0, .int 0, .int 0, .long 0])), (rd_tape, .inl (kt, 600, .inl f))]) [1, 2] (by decide) rfl
    have hKc := hK.sub (tys' := [(kt, .int)]) [0] rfl
    have hFc := va_free (wc := [(rd, .inr (7, [.ref rd_tape, .int (nI 0), .int 0, .int 0, .ref dr, .ref rd_names, .ref rd_nameKind, .ref rd_nameNumber, .int 0, .ref rd_knotNames, .int 0, .int 0, .int 0, .int 0, .long 0])), (rd_tape, .inl (kt, 600, .inl f))]) hD hS hA [1, 2] rfl
    refine va_callv (va_runV (As := [.int av]) (rest := []) ⟨hx, hb, hml, hown, hts⟩ (c_append l dC dI n0 s.heap.size rd rd_tape 0 0 dr rd_names rd_nameKind rd_nameNumber 0 rd_knotNames 0 0 0 0 0 0 kt f av (by decide)) (cwV 1 hts (gV (fun w h => wM_c h) wd_714 wd_711 wd_712 wd_713 wd_117) rfl rfl rfl (by decide +kernel) ⟨Nat.le_of_ble_eq_true rfl, Nat.le_of_ble_eq_true rfl⟩) ⟨fun a U g mk q => by obtain ⟨q0, q1, q2, qG, qP, qK, qD⟩ := q; exact ⟨q0, q1, q2, GW.blind qG, qP, va_K.moved (u := U) (U := U.calling g mk a) (Vm.Alike.refl U.vm) qK, qD⟩, va_recv hKc hPc (ci := 7) (q0 := 0) rfl rfl, fun U hU hW => ⟨rfl, by rw [hU], Nat.le_trans hn0 hS.1, GW.go hW hU hG (fun q hq hA9 => hS.2.1 q hq (fun h => hA9 (hA0 q h))), by rw [hU]; exact hPc, va_K.moved hW.alike hKc, hDc.weaken (fun _ _ _ h => hA0 _ h)⟩⟩ rfl rfl hl.1 rfl (lv_room (Nat.le_of_ble_eq_true rfl)) dX11_feed_23 ⟨Nat.le_of_ble_eq_true rfl, Nat.le_of_ble_eq_true rfl⟩) hS (fun q _ h => hFc q h) hFc (fun u t H1 locs ht hvm hw_4 hB hz1 hk1 hS => ?_)
    obtain ⟨f2_5, hP1, hK1, hD1⟩ := hB
    rw [ht] at hP1
    obtain ⟨hP, hD⟩ := va_join (wr := [(x0, .inr (11, [.ref rd, .ref dr, .ref bk, .ref st, .ref nw, .ref tr, .ref pl, .ref fl, .ref rg, .int 0, .int 0, .int 0]))]) (w1 := [(rd, .inr (7, [.ref rd_tape, .int (nI (0 + 4)), .int 0, .int 0, .ref dr, .ref rd_names, .ref rd_nameKind, .ref rd_nameNumber, .int 0, .ref rd_knotNames, .int 0, .int 0, .int 0, .int 0, .long 0])), (rd_tape, .inl (kt, 600, .inl f2_5))]) hP hD [1, 2] [0] rfl rfl (by decide) (by decide) hk1 hFc hP1 hD1
    generalize H1 = H at hP hS ⊢
    have hP : va_P (dC, dI) classes [(x0, .inr (11, [.ref rd, .ref dr, .ref bk, .ref st, .ref nw, .ref tr, .ref pl, .ref fl, .ref rg, .int 0, .int 0, .int 0])), (rd, .inr (7, [.ref rd_tape, .int (nI (0 + 4)), .int 0, .int 0, .ref dr, .ref rd_names, .ref rd_nameKind, .ref rd_nameNumber, .int 0, .ref rd_knotNames, .int 0, .int 0, .int 0, .int 0, .long 0])), (rd_tape, .inl (kt, 600, .inl f2_5))] H := hP
    have hD : va_D A [(x0, .inr (11, [.ref rd, .ref dr, .ref bk, .ref st, .ref nw, .ref tr, .ref pl, .ref fl, .ref rg, .int 0, .int 0, .int 0])), (rd, .inr (7, [.ref rd_tape, .int (nI (0 + 4)), .int 0, .int 0, .ref dr, .ref rd_names, .ref rd_nameKind, .ref rd_nameNumber, .int 0, .ref rd_knotNames, .int 0, .int 0, .int 0, .int 0, .long 0])), (rd_tape, .inl (kt, 600, .inl f2_5))] := hD
    refine lv_aload_n hx hb dX11_feed_26 rfl (lv_at hl 0 rfl) ?_
    refine va_get (D := (dC, dI)) (ci := 11) (v := .ref rd) (C := RX11) (T := TX11) (N := 12) hx hb hts (fun w h => wM_c (iX11 w h)) hown hK hP 0 rfl rfl 0 (by decide) (hts _ (wM_c wd_670)) (fun _ h9 => h9) rfl dX11_feed_27 ?_
    refine lv_iload_n hx hb dX11_feed_30 rfl (lv_at hl 2 rfl) ?_
    have hPc := hP.sub (ws' := [(rd, .inr (7, [.ref rd_tape, .int (nI (0 + 4)), .int 0, .int 0, .ref dr, .ref rd_names, .ref rd_nameKind, .ref rd_nameNumber, .int 0, .ref rd_knotNames, .int 0, .int 0, .int 0, .int 0, .long 0])), (rd_tape, .inl (kt, 600, .inl f2_5))]) [1, 2] rfl
    have hDc := hD.sub (ws' := [(rd, .inr (7, [.ref rd_tape, .int (nI (0 + 4)), .int 0, .int 0, .ref dr, .ref rd_names, .ref rd_nameKind, .ref rd_nameNumber, .int 0, .ref rd_knotNames, .int 0, .int 0, .int 0, .int 0, .long 0])), (rd_tape, .inl (kt, 600, .inl f2_5))]) [1, 2] (by decide) rfl
    have hKc := hK.sub (tys' := [(kt, .int)]) [0] rfl
    have hFc := va_free (wc := [(rd, .inr (7, [.ref rd_tape, .int (nI (0 + 4)), .int 0, .int 0, .ref dr, .ref rd_names, .ref rd_nameKind, .ref rd_nameNumber, .int 0, .ref rd_knotNames, .int 0, .int 0, .int 0, .int 0, .long 0])), (rd_tape, .inl (kt, 600, .inl f2_5))]) hD hS hA [1, 2] rfl
    refine va_callv (va_runV (As := [.int bv]) (rest := []) ⟨hx, hb, hml, hown, hts⟩ (c_append l dC dI n0 H.size rd rd_tape 0 0 dr rd_names rd_nameKind rd_nameNumber 0 rd_knotNames 0 0 0 0 0 (0 + 4) kt f2_5 bv (by decide)) (cwV 1 hts (gV (fun w h => wM_c h) wd_714 wd_711 wd_712 wd_713 wd_117) rfl rfl rfl (by decide +kernel) ⟨Nat.le_of_ble_eq_true rfl, Nat.le_of_ble_eq_true rfl⟩) ⟨fun a U g mk q => by obtain ⟨q0, q1, q2, qG, qP, qK, qD⟩ := q; exact ⟨q0, q1, q2, GW.blind qG, qP, va_K.moved (u := U) (U := U.calling g mk a) (Vm.Alike.refl U.vm) qK, qD⟩, va_recv hKc hPc (ci := 7) (q0 := 0) rfl rfl, fun U hU hW => ⟨rfl, by rw [hU], Nat.le_trans hn0 hS.1, GW.go hW hU hG (fun q hq hA9 => hS.2.1 q hq (fun h => hA9 (hA0 q h))), by rw [hU]; exact hPc, va_K.moved hW.alike hKc, hDc.weaken (fun _ _ _ h => hA0 _ h)⟩⟩ rfl rfl hl.1 rfl (lv_room (Nat.le_of_ble_eq_true rfl)) dX11_feed_31 ⟨Nat.le_of_ble_eq_true rfl, Nat.le_of_ble_eq_true rfl⟩) hS (fun q _ h => hFc q h) hFc (fun u t H1 locs ht hvm hw_7 hB hz1 hk1 hS => ?_)
    obtain ⟨f2_8, hP1, hK1, hD1⟩ := hB
    rw [ht] at hP1
    obtain ⟨hP, hD⟩ := va_join (wr := [(x0, .inr (11, [.ref rd, .ref dr, .ref bk, .ref st, .ref nw, .ref tr, .ref pl, .ref fl, .ref rg, .int 0, .int 0, .int 0]))]) (w1 := [(rd, .inr (7, [.ref rd_tape, .int (nI ((0 + 4) + 4)), .int 0, .int 0, .ref dr, .ref rd_names, .ref rd_nameKind, .ref rd_nameNumber, .int 0, .ref rd_knotNames, .int 0, .int 0, .int 0, .int 0, .long 0])), (rd_tape, .inl (kt, 600, .inl f2_8))]) hP hD [1, 2] [0] rfl rfl (by decide) (by decide) hk1 hFc hP1 hD1
    generalize H1 = H at hP hS ⊢
    have hP : va_P (dC, dI) classes [(x0, .inr (11, [.ref rd, .ref dr, .ref bk, .ref st, .ref nw, .ref tr, .ref pl, .ref fl, .ref rg, .int 0, .int 0, .int 0])), (rd, .inr (7, [.ref rd_tape, .int (nI ((0 + 4) + 4)), .int 0, .int 0, .ref dr, .ref rd_names, .ref rd_nameKind, .ref rd_nameNumber, .int 0, .ref rd_knotNames, .int 0, .int 0, .int 0, .int 0, .long 0])), (rd_tape, .inl (kt, 600, .inl f2_8))] H := hP
    have hD : va_D A [(x0, .inr (11, [.ref rd, .ref dr, .ref bk, .ref st, .ref nw, .ref tr, .ref pl, .ref fl, .ref rg, .int 0, .int 0, .int 0])), (rd, .inr (7, [.ref rd_tape, .int (nI ((0 + 4) + 4)), .int 0, .int 0, .ref dr, .ref rd_names, .ref rd_nameKind, .ref rd_nameNumber, .int 0, .ref rd_knotNames, .int 0, .int 0, .int 0, .int 0, .long 0])), (rd_tape, .inl (kt, 600, .inl f2_8))] := hD
    refine lv_aload_n hx hb dX11_feed_34 rfl (lv_at hl 0 rfl) ?_
    refine va_get (D := (dC, dI)) (ci := 11) (v := .ref rd) (C := RX11) (T := TX11) (N := 12) hx hb hts (fun w h => wM_c (iX11 w h)) hown hK hP 0 rfl rfl 0 (by decide) (hts _ (wM_c wd_670)) (fun _ h9 => h9) rfl dX11_feed_35 ?_
    refine lv_iload_n hx hb dX11_feed_38 rfl (lv_at hl 3 rfl) ?_
    have hPc := hP.sub (ws' := [(rd, .inr (7, [.ref rd_tape, .int (nI ((0 + 4) + 4)), .int 0, .int 0, .ref dr, .ref rd_names, .ref rd_nameKind, .ref rd_nameNumber, .int 0, .ref rd_knotNames, .int 0, .int 0, .int 0, .int 0, .long 0])), (rd_tape, .inl (kt, 600, .inl f2_8))]) [1, 2] rfl
    have hDc := hD.sub (ws' := [(rd, .inr (7, [.ref rd_tape, .int (nI ((0 + 4) + 4)), .int 0, .int 0, .ref dr, .ref rd_names, .ref rd_nameKind, .ref rd_nameNumber, .int 0, .ref rd_knotNames, .int 0, .int 0, .int 0, .int 0, .long 0])), (rd_tape, .inl (kt, 600, .inl f2_8))]) [1, 2] (by decide) rfl
    have hKc := hK.sub (tys' := [(kt, .int)]) [0] rfl
    have hFc := va_free (wc := [(rd, .inr (7, [.ref rd_tape, .int (nI ((0 + 4) + 4)), .int 0, .int 0, .ref dr, .ref rd_names, .ref rd_nameKind, .ref rd_nameNumber, .int 0, .ref rd_knotNames, .int 0, .int 0, .int 0, .int 0, .long 0])), (rd_tape, .inl (kt, 600, .inl f2_8))]) hD hS hA [1, 2] rfl
    refine va_callv (va_runV (As := [.int cv]) (rest := []) ⟨hx, hb, hml, hown, hts⟩ (c_append l dC dI n0 H.size rd rd_tape 0 0 dr rd_names rd_nameKind rd_nameNumber 0 rd_knotNames 0 0 0 0 0 ((0 + 4) + 4) kt f2_8 cv (by decide)) (cwV 1 hts (gV (fun w h => wM_c h) wd_714 wd_711 wd_712 wd_713 wd_117) rfl rfl rfl (by decide +kernel) ⟨Nat.le_of_ble_eq_true rfl, Nat.le_of_ble_eq_true rfl⟩) ⟨fun a U g mk q => by obtain ⟨q0, q1, q2, qG, qP, qK, qD⟩ := q; exact ⟨q0, q1, q2, GW.blind qG, qP, va_K.moved (u := U) (U := U.calling g mk a) (Vm.Alike.refl U.vm) qK, qD⟩, va_recv hKc hPc (ci := 7) (q0 := 0) rfl rfl, fun U hU hW => ⟨rfl, by rw [hU], Nat.le_trans hn0 hS.1, GW.go hW hU hG (fun q hq hA9 => hS.2.1 q hq (fun h => hA9 (hA0 q h))), by rw [hU]; exact hPc, va_K.moved hW.alike hKc, hDc.weaken (fun _ _ _ h => hA0 _ h)⟩⟩ rfl rfl hl.1 rfl (lv_room (Nat.le_of_ble_eq_true rfl)) dX11_feed_39 ⟨Nat.le_of_ble_eq_true rfl, Nat.le_of_ble_eq_true rfl⟩) hS (fun q _ h => hFc q h) hFc (fun u t H1 locs ht hvm hw_10 hB hz1 hk1 hS => ?_)
    obtain ⟨f2_11, hP1, hK1, hD1⟩ := hB
    rw [ht] at hP1
    obtain ⟨hP, hD⟩ := va_join (wr := [(x0, .inr (11, [.ref rd, .ref dr, .ref bk, .ref st, .ref nw, .ref tr, .ref pl, .ref fl, .ref rg, .int 0, .int 0, .int 0]))]) (w1 := [(rd, .inr (7, [.ref rd_tape, .int (nI (((0 + 4) + 4) + 4)), .int 0, .int 0, .ref dr, .ref rd_names, .ref rd_nameKind, .ref rd_nameNumber, .int 0, .ref rd_knotNames, .int 0, .int 0, .int 0, .int 0, .long 0])), (rd_tape, .inl (kt, 600, .inl f2_11))]) hP hD [1, 2] [0] rfl rfl (by decide) (by decide) hk1 hFc hP1 hD1
    generalize H1 = H at hP hS ⊢
    have hP : va_P (dC, dI) classes [(x0, .inr (11, [.ref rd, .ref dr, .ref bk, .ref st, .ref nw, .ref tr, .ref pl, .ref fl, .ref rg, .int 0, .int 0, .int 0])), (rd, .inr (7, [.ref rd_tape, .int (nI (((0 + 4) + 4) + 4)), .int 0, .int 0, .ref dr, .ref rd_names, .ref rd_nameKind, .ref rd_nameNumber, .int 0, .ref rd_knotNames, .int 0, .int 0, .int 0, .int 0, .long 0])), (rd_tape, .inl (kt, 600, .inl f2_11))] H := hP
    have hD : va_D A [(x0, .inr (11, [.ref rd, .ref dr, .ref bk, .ref st, .ref nw, .ref tr, .ref pl, .ref fl, .ref rg, .int 0, .int 0, .int 0])), (rd, .inr (7, [.ref rd_tape, .int (nI (((0 + 4) + 4) + 4)), .int 0, .int 0, .ref dr, .ref rd_names, .ref rd_nameKind, .ref rd_nameNumber, .int 0, .ref rd_knotNames, .int 0, .int 0, .int 0, .int 0, .long 0])), (rd_tape, .inl (kt, 600, .inl f2_11))] := hD
    refine lv_aload_n hx hb dX11_feed_42 rfl (lv_at hl 0 rfl) ?_
    refine va_get (D := (dC, dI)) (ci := 11) (v := .ref rd) (C := RX11) (T := TX11) (N := 12) hx hb hts (fun w h => wM_c (iX11 w h)) hown hK hP 0 rfl rfl 0 (by decide) (hts _ (wM_c wd_670)) (fun _ h9 => h9) rfl dX11_feed_43 ?_
    refine lv_iload hx hb dX11_feed_46 (lv_at hl 4 rfl) ?_
    have hPc := hP.sub (ws' := [(rd, .inr (7, [.ref rd_tape, .int (nI (((0 + 4) + 4) + 4)), .int 0, .int 0, .ref dr, .ref rd_names, .ref rd_nameKind, .ref rd_nameNumber, .int 0, .ref rd_knotNames, .int 0, .int 0, .int 0, .int 0, .long 0])), (rd_tape, .inl (kt, 600, .inl f2_11))]) [1, 2] rfl
    have hDc := hD.sub (ws' := [(rd, .inr (7, [.ref rd_tape, .int (nI (((0 + 4) + 4) + 4)), .int 0, .int 0, .ref dr, .ref rd_names, .ref rd_nameKind, .ref rd_nameNumber, .int 0, .ref rd_knotNames, .int 0, .int 0, .int 0, .int 0, .long 0])), (rd_tape, .inl (kt, 600, .inl f2_11))]) [1, 2] (by decide) rfl
    have hKc := hK.sub (tys' := [(kt, .int)]) [0] rfl
    have hFc := va_free (wc := [(rd, .inr (7, [.ref rd_tape, .int (nI (((0 + 4) + 4) + 4)), .int 0, .int 0, .ref dr, .ref rd_names, .ref rd_nameKind, .ref rd_nameNumber, .int 0, .ref rd_knotNames, .int 0, .int 0, .int 0, .int 0, .long 0])), (rd_tape, .inl (kt, 600, .inl f2_11))]) hD hS hA [1, 2] rfl
    refine va_callv (va_runV (As := [.int dv]) (rest := []) ⟨hx, hb, hml, hown, hts⟩ (c_append l dC dI n0 H.size rd rd_tape 0 0 dr rd_names rd_nameKind rd_nameNumber 0 rd_knotNames 0 0 0 0 0 (((0 + 4) + 4) + 4) kt f2_11 dv (by decide)) (cwV 1 hts (gV (fun w h => wM_c h) wd_714 wd_711 wd_712 wd_713 wd_117) rfl rfl rfl (by decide +kernel) ⟨Nat.le_of_ble_eq_true rfl, Nat.le_of_ble_eq_true rfl⟩) ⟨fun a U g mk q => by obtain ⟨q0, q1, q2, qG, qP, qK, qD⟩ := q; exact ⟨q0, q1, q2, GW.blind qG, qP, va_K.moved (u := U) (U := U.calling g mk a) (Vm.Alike.refl U.vm) qK, qD⟩, va_recv hKc hPc (ci := 7) (q0 := 0) rfl rfl, fun U hU hW => ⟨rfl, by rw [hU], Nat.le_trans hn0 hS.1, GW.go hW hU hG (fun q hq hA9 => hS.2.1 q hq (fun h => hA9 (hA0 q h))), by rw [hU]; exact hPc, va_K.moved hW.alike hKc, hDc.weaken (fun _ _ _ h => hA0 _ h)⟩⟩ rfl rfl hl.1 rfl (lv_room (Nat.le_of_ble_eq_true rfl)) dX11_feed_48 ⟨Nat.le_of_ble_eq_true rfl, Nat.le_of_ble_eq_true rfl⟩) hS (fun q _ h => hFc q h) hFc (fun u t H1 locs ht hvm hw_13 hB hz1 hk1 hS => ?_)
    obtain ⟨f2_14, hP1, hK1, hD1⟩ := hB
    rw [ht] at hP1
    obtain ⟨hP, hD⟩ := va_join (wr := [(x0, .inr (11, [.ref rd, .ref dr, .ref bk, .ref st, .ref nw, .ref tr, .ref pl, .ref fl, .ref rg, .int 0, .int 0, .int 0]))]) (w1 := [(rd, .inr (7, [.ref rd_tape, .int (nI ((((0 + 4) + 4) + 4) + 4)), .int 0, .int 0, .ref dr, .ref rd_names, .ref rd_nameKind, .ref rd_nameNumber, .int 0, .ref rd_knotNames, .int 0, .int 0, .int 0, .int 0, .long 0])), (rd_tape, .inl (kt, 600, .inl f2_14))]) hP hD [1, 2] [0] rfl rfl (by decide) (by decide) hk1 hFc hP1 hD1
    generalize H1 = H at hP hS ⊢
    have hP : va_P (dC, dI) classes [(x0, .inr (11, [.ref rd, .ref dr, .ref bk, .ref st, .ref nw, .ref tr, .ref pl, .ref fl, .ref rg, .int 0, .int 0, .int 0])), (rd, .inr (7, [.ref rd_tape, .int (nI ((((0 + 4) + 4) + 4) + 4)), .int 0, .int 0, .ref dr, .ref rd_names, .ref rd_nameKind, .ref rd_nameNumber, .int 0, .ref rd_knotNames, .int 0, .int 0, .int 0, .int 0, .long 0])), (rd_tape, .inl (kt, 600, .inl f2_14))] H := hP
    have hD : va_D A [(x0, .inr (11, [.ref rd, .ref dr, .ref bk, .ref st, .ref nw, .ref tr, .ref pl, .ref fl, .ref rg, .int 0, .int 0, .int 0])), (rd, .inr (7, [.ref rd_tape, .int (nI ((((0 + 4) + 4) + 4) + 4)), .int 0, .int 0, .ref dr, .ref rd_names, .ref rd_nameKind, .ref rd_nameNumber, .int 0, .ref rd_knotNames, .int 0, .int 0, .int 0, .int 0, .long 0])), (rd_tape, .inl (kt, 600, .inl f2_14))] := hD
    refine lv_aload_n hx hb dX11_feed_51 rfl (lv_at hl 0 rfl) ?_
    refine va_get (D := (dC, dI)) (ci := 11) (v := .ref rd) (C := RX11) (T := TX11) (N := 12) hx hb hts (fun w h => wM_c (iX11 w h)) hown hK hP 0 rfl rfl 0 (by decide) (hts _ (wM_c wd_670)) (fun _ h9 => h9) rfl dX11_feed_52 ?_
    refine lv_iload hx hb dX11_feed_55 (lv_at hl 5 rfl) ?_
    have hPc := hP.sub (ws' := [(rd, .inr (7, [.ref rd_tape, .int (nI ((((0 + 4) + 4) + 4) + 4)), .int 0, .int 0, .ref dr, .ref rd_names, .ref rd_nameKind, .ref rd_nameNumber, .int 0, .ref rd_knotNames, .int 0, .int 0, .int 0, .int 0, .long 0])), (rd_tape, .inl (kt, 600, .inl f2_14))]) [1, 2] rfl
    have hDc := hD.sub (ws' := [(rd, .inr (7, [.ref rd_tape, .int (nI ((((0 + 4) + 4) + 4) + 4)), .int 0, .int 0, .ref dr, .ref rd_names, .ref rd_nameKind, .ref rd_nameNumber, .int 0, .ref rd_knotNames, .int 0, .int 0, .int 0, .int 0, .long 0])), (rd_tape, .inl (kt, 600, .inl f2_14))]) [1, 2] (by decide) rfl
    have hKc := hK.sub (tys' := [(kt, .int)]) [0] rfl
    have hFc := va_free (wc := [(rd, .inr (7, [.ref rd_tape, .int (nI ((((0 + 4) + 4) + 4) + 4)), .int 0, .int 0, .ref dr, .ref rd_names, .ref rd_nameKind, .ref rd_nameNumber, .int 0, .ref rd_knotNames, .int 0, .int 0, .int 0, .int 0, .long 0])), (rd_tape, .inl (kt, 600, .inl f2_14))]) hD hS hA [1, 2] rfl
    refine va_callv (va_runV (As := [.int ev]) (rest := []) ⟨hx, hb, hml, hown, hts⟩ (c_append l dC dI n0 H.size rd rd_tape 0 0 dr rd_names rd_nameKind rd_nameNumber 0 rd_knotNames 0 0 0 0 0 ((((0 + 4) + 4) + 4) + 4) kt f2_14 ev (by decide)) (cwV 1 hts (gV (fun w h => wM_c h) wd_714 wd_711 wd_712 wd_713 wd_117) rfl rfl rfl (by decide +kernel) ⟨Nat.le_of_ble_eq_true rfl, Nat.le_of_ble_eq_true rfl⟩) ⟨fun a U g mk q => by obtain ⟨q0, q1, q2, qG, qP, qK, qD⟩ := q; exact ⟨q0, q1, q2, GW.blind qG, qP, va_K.moved (u := U) (U := U.calling g mk a) (Vm.Alike.refl U.vm) qK, qD⟩, va_recv hKc hPc (ci := 7) (q0 := 0) rfl rfl, fun U hU hW => ⟨rfl, by rw [hU], Nat.le_trans hn0 hS.1, GW.go hW hU hG (fun q hq hA9 => hS.2.1 q hq (fun h => hA9 (hA0 q h))), by rw [hU]; exact hPc, va_K.moved hW.alike hKc, hDc.weaken (fun _ _ _ h => hA0 _ h)⟩⟩ rfl rfl hl.1 rfl (lv_room (Nat.le_of_ble_eq_true rfl)) dX11_feed_57 ⟨Nat.le_of_ble_eq_true rfl, Nat.le_of_ble_eq_true rfl⟩) hS (fun q _ h => hFc q h) hFc (fun u t H1 locs ht hvm hw_16 hB hz1 hk1 hS => ?_)
    obtain ⟨f2_17, hP1, hK1, hD1⟩ := hB
    rw [ht] at hP1
    obtain ⟨hP, hD⟩ := va_join (wr := [(x0, .inr (11, [.ref rd, .ref dr, .ref bk, .ref st, .ref nw, .ref tr, .ref pl, .ref fl, .ref rg, .int 0, .int 0, .int 0]))]) (w1 := [(rd, .inr (7, [.ref rd_tape, .int (nI (((((0 + 4) + 4) + 4) + 4) + 4)), .int 0, .int 0, .ref dr, .ref rd_names, .ref rd_nameKind, .ref rd_nameNumber, .int 0, .ref rd_knotNames, .int 0, .int 0, .int 0, .int 0, .long 0])), (rd_tape, .inl (kt, 600, .inl f2_17))]) hP hD [1, 2] [0] rfl rfl (by decide) (by decide) hk1 hFc hP1 hD1
    generalize H1 = H at hP hS ⊢
    have hP : va_P (dC, dI) classes [(x0, .inr (11, [.ref rd, .ref dr, .ref bk, .ref st, .ref nw, .ref tr, .ref pl, .ref fl, .ref rg, .int 0, .int 0, .int 0])), (rd, .inr (7, [.ref rd_tape, .int (nI (((((0 + 4) + 4) + 4) + 4) + 4)), .int 0, .int 0, .ref dr, .ref rd_names, .ref rd_nameKind, .ref rd_nameNumber, .int 0, .ref rd_knotNames, .int 0, .int 0, .int 0, .int 0, .long 0])), (rd_tape, .inl (kt, 600, .inl f2_17))] H := hP
    have hD : va_D A [(x0, .inr (11, [.ref rd, .ref dr, .ref bk, .ref st, .ref nw, .ref tr, .ref pl, .ref fl, .ref rg, .int 0, .int 0, .int 0])), (rd, .inr (7, [.ref rd_tape, .int (nI (((((0 + 4) + 4) + 4) + 4) + 4)), .int 0, .int 0, .ref dr, .ref rd_names, .ref rd_nameKind, .ref rd_nameNumber, .int 0, .ref rd_knotNames, .int 0, .int 0, .int 0, .int 0, .long 0])), (rd_tape, .inl (kt, 600, .inl f2_17))] := hD
    refine lv_aload_n hx hb dX11_feed_60 rfl (lv_at hl 0 rfl) ?_
    refine va_get (D := (dC, dI)) (ci := 11) (v := .ref rd) (C := RX11) (T := TX11) (N := 12) hx hb hts (fun w h => wM_c (iX11 w h)) hown hK hP 0 rfl rfl 0 (by decide) (hts _ (wM_c wd_670)) (fun _ h9 => h9) rfl dX11_feed_61 ?_
    refine va_get (D := (dC, dI)) (ci := 7) (v := .int (nI (((((0 + 4) + 4) + 4) + 4) + 4))) (C := RX7) (T := TX7) (N := 15) hx hb hts (fun w h => wM_c (iX7 w h)) hown hK hP 1 rfl rfl 1 (by decide) (hts _ (wM_c wd_334)) (fun _ h9 => h9) rfl dX11_feed_64 ?_
    exact W.iret (v := (nI (((((0 + 4) + 4) + 4) + 4) + 4))) hx hb hr (fun t ht hW => ⟨⟨(nI (((((0 + 4) + 4) + 4) + 4) + 4)), (), rfl, (by decide), trivial⟩, hS.F ht⟩) hS.2.2 dX11_feed_67
  · exact absurd c_2 (by decide)
end
