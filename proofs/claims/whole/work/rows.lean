section
-- ===== PART A: goes FIRST, ahead of the names: the tables' words, and 'selects' of the private methods out of them =====
/-- a private method of a class that the tables say can be made, by its rows of tables_1 -/
def lw_okq (q : MethodName × Nat) : Prop := (q.1.cls ≠ "java/lang/invoke/MethodHandle" ∧ q.1.cls ≠ "java/lang/invoke/VarHandle") ∧ Cond.instantiable q.1.cls q.2 ∈ tables_1 ∧ Cond.privateMethod q.1 ∈ tables_1 ∧ Cond.instanceMethod q.1 ∈ tables_1
theorem lw_p0 : lw_okq (⟨"FirstPut$Reader", "step", "()Z"⟩, 13) := ⟨⟨by decide +kernel, by decide +kernel⟩, List.mem_of_getElem? (i := 29) (by decide +kernel), List.mem_of_getElem? (i := 438) (by decide +kernel), List.mem_of_getElem? (i := 439) (by decide +kernel)⟩
theorem lw_p1 : lw_okq (⟨"FirstPut$Reader", "refuse", "(II)Z"⟩, 13) := ⟨⟨by decide +kernel, by decide +kernel⟩, List.mem_of_getElem? (i := 29) (by decide +kernel), List.mem_of_getElem? (i := 448) (by decide +kernel), List.mem_of_getElem? (i := 449) (by decide +kernel)⟩
theorem lw_p2 : lw_okq (⟨"FirstPut$Reader", "readLine", "()Z"⟩, 13) := ⟨⟨by decide +kernel, by decide +kernel⟩, List.mem_of_getElem? (i := 29) (by decide +kernel), List.mem_of_getElem? (i := 452) (by decide +kernel), List.mem_of_getElem? (i := 453) (by decide +kernel)⟩
theorem lw_p3 : lw_okq (⟨"FirstPut$Reader", "isWord", "(Ljava/lang/String;)Z"⟩, 13) := ⟨⟨by decide +kernel, by decide +kernel⟩, List.mem_of_getElem? (i := 29) (by decide +kernel), List.mem_of_getElem? (i := 457) (by decide +kernel), List.mem_of_getElem? (i := 458) (by decide +kernel)⟩
theorem lw_p4 : lw_okq (⟨"FirstPut$Reader", "readThing", "()Z"⟩, 13) := ⟨⟨by decide +kernel, by decide +kernel⟩, List.mem_of_getElem? (i := 29) (by decide +kernel), List.mem_of_getElem? (i := 509) (by decide +kernel), List.mem_of_getElem? (i := 510) (by decide +kernel)⟩
theorem lw_p5 : lw_okq (⟨"FirstPut$Reader", "readNumber", "(II)Z"⟩, 13) := ⟨⟨by decide +kernel, by decide +kernel⟩, List.mem_of_getElem? (i := 29) (by decide +kernel), List.mem_of_getElem? (i := 513) (by decide +kernel), List.mem_of_getElem? (i := 514) (by decide +kernel)⟩
theorem lw_p6 : lw_okq (⟨"FirstPut$Reader", "readStop", "()Z"⟩, 13) := ⟨⟨by decide +kernel, by decide +kernel⟩, List.mem_of_getElem? (i := 29) (by decide +kernel), List.mem_of_getElem? (i := 517) (by decide +kernel), List.mem_of_getElem? (i := 518) (by decide +kernel)⟩
theorem lw_p7 : lw_okq (⟨"FirstPut$Reader", "readLineOfThings", "()Z"⟩, 13) := ⟨⟨by decide +kernel, by decide +kernel⟩, List.mem_of_getElem? (i := 29) (by decide +kernel), List.mem_of_getElem? (i := 522) (by decide +kernel), List.mem_of_getElem? (i := 523) (by decide +kernel)⟩
theorem lw_p8 : lw_okq (⟨"FirstPut$Reader", "kindRead", "()I"⟩, 13) := ⟨⟨by decide +kernel, by decide +kernel⟩, List.mem_of_getElem? (i := 29) (by decide +kernel), List.mem_of_getElem? (i := 526) (by decide +kernel), List.mem_of_getElem? (i := 527) (by decide +kernel)⟩
theorem lw_p9 : lw_okq (⟨"FirstPut$Reader", "takeLying", "(I)Z"⟩, 13) := ⟨⟨by decide +kernel, by decide +kernel⟩, List.mem_of_getElem? (i := 29) (by decide +kernel), List.mem_of_getElem? (i := 533) (by decide +kernel), List.mem_of_getElem? (i := 534) (by decide +kernel)⟩
theorem lw_p10 : lw_okq (⟨"FirstPut$Reader", "readVisit", "(Z)Z"⟩, 13) := ⟨⟨by decide +kernel, by decide +kernel⟩, List.mem_of_getElem? (i := 29) (by decide +kernel), List.mem_of_getElem? (i := 538) (by decide +kernel), List.mem_of_getElem? (i := 539) (by decide +kernel)⟩
theorem lw_p11 : lw_okq (⟨"FirstPut$Reader", "readChance", "()Z"⟩, 13) := ⟨⟨by decide +kernel, by decide +kernel⟩, List.mem_of_getElem? (i := 29) (by decide +kernel), List.mem_of_getElem? (i := 552) (by decide +kernel), List.mem_of_getElem? (i := 553) (by decide +kernel)⟩
theorem lw_p12 : lw_okq (⟨"FirstPut$Reader", "settle", "()V"⟩, 13) := ⟨⟨by decide +kernel, by decide +kernel⟩, List.mem_of_getElem? (i := 29) (by decide +kernel), List.mem_of_getElem? (i := 556) (by decide +kernel), List.mem_of_getElem? (i := 557) (by decide +kernel)⟩
theorem lw_p13 : lw_okq (⟨"FirstPut$Reader", "settleThing", "(II)V"⟩, 13) := ⟨⟨by decide +kernel, by decide +kernel⟩, List.mem_of_getElem? (i := 29) (by decide +kernel), List.mem_of_getElem? (i := 560) (by decide +kernel), List.mem_of_getElem? (i := 561) (by decide +kernel)⟩
theorem lw_p14 : lw_okq (⟨"FirstPut", "tellVisit", "(IIII)I"⟩, 14) := ⟨⟨by decide +kernel, by decide +kernel⟩, List.mem_of_getElem? (i := 21) (by decide +kernel), List.mem_of_getElem? (i := 683) (by decide +kernel), List.mem_of_getElem? (i := 684) (by decide +kernel)⟩
theorem lw_p15 : lw_okq (⟨"FirstPut$Runs", "tryLines", "(LFirstPut$Goods;LFirstPut$Visits;II)V"⟩, 7) := ⟨⟨by decide +kernel, by decide +kernel⟩, List.mem_of_getElem? (i := 212) (by decide +kernel), List.mem_of_getElem? (i := 783) (by decide +kernel), List.mem_of_getElem? (i := 784) (by decide +kernel)⟩
def lw_privs_1 : List (MethodName × Nat) := [(⟨"FirstPut$Reader", "step", "()Z"⟩, 13), (⟨"FirstPut$Reader", "refuse", "(II)Z"⟩, 13), (⟨"FirstPut$Reader", "readLine", "()Z"⟩, 13), (⟨"FirstPut$Reader", "isWord", "(Ljava/lang/String;)Z"⟩, 13), (⟨"FirstPut$Reader", "readThing", "()Z"⟩, 13), (⟨"FirstPut$Reader", "readNumber", "(II)Z"⟩, 13), (⟨"FirstPut$Reader", "readStop", "()Z"⟩, 13), (⟨"FirstPut$Reader", "readLineOfThings", "()Z"⟩, 13), (⟨"FirstPut$Reader", "kindRead", "()I"⟩, 13), (⟨"FirstPut$Reader", "takeLying", "(I)Z"⟩, 13), (⟨"FirstPut$Reader", "readVisit", "(Z)Z"⟩, 13), (⟨"FirstPut$Reader", "readChance", "()Z"⟩, 13), (⟨"FirstPut$Reader", "settle", "()V"⟩, 13), (⟨"FirstPut$Reader", "settleThing", "(II)V"⟩, 13), (⟨"FirstPut", "tellVisit", "(IIII)I"⟩, 14), (⟨"FirstPut$Runs", "tryLines", "(LFirstPut$Goods;LFirstPut$Visits;II)V"⟩, 7)]
theorem lw_r1 : ∀ q ∈ lw_privs_1, lw_okq q := List.forall_mem_cons.mpr ⟨lw_p0, List.forall_mem_cons.mpr ⟨lw_p1, List.forall_mem_cons.mpr ⟨lw_p2, List.forall_mem_cons.mpr ⟨lw_p3, List.forall_mem_cons.mpr ⟨lw_p4, List.forall_mem_cons.mpr ⟨lw_p5, List.forall_mem_cons.mpr ⟨lw_p6, List.forall_mem_cons.mpr ⟨lw_p7, List.forall_mem_cons.mpr ⟨lw_p8, List.forall_mem_cons.mpr ⟨lw_p9, List.forall_mem_cons.mpr ⟨lw_p10, List.forall_mem_cons.mpr ⟨lw_p11, List.forall_mem_cons.mpr ⟨lw_p12, List.forall_mem_cons.mpr ⟨lw_p13, List.forall_mem_cons.mpr ⟨lw_p14, List.forall_mem_cons.mpr ⟨lw_p15, fun _ h => absurd h List.not_mem_nil⟩⟩⟩⟩⟩⟩⟩⟩⟩⟩⟩⟩⟩⟩⟩⟩
theorem lw_p16 : lw_okq (⟨"FirstPut$Runs", "takeIfBetter", "(I)V"⟩, 7) := ⟨⟨by decide +kernel, by decide +kernel⟩, List.mem_of_getElem? (i := 212) (by decide +kernel), List.mem_of_getElem? (i := 788) (by decide +kernel), List.mem_of_getElem? (i := 789) (by decide +kernel)⟩
theorem lw_p17 : lw_okq (⟨"FirstPut$Runs", "spread", "(LFirstPut$Goods;LFirstPut$Visits;IIJ)V"⟩, 7) := ⟨⟨by decide +kernel, by decide +kernel⟩, List.mem_of_getElem? (i := 212) (by decide +kernel), List.mem_of_getElem? (i := 808) (by decide +kernel), List.mem_of_getElem? (i := 809) (by decide +kernel)⟩
theorem lw_p18 : lw_okq (⟨"FirstPut$Duel", "outcome", "(LFirstPut$Goods;II)I"⟩, 6) := ⟨⟨by decide +kernel, by decide +kernel⟩, List.mem_of_getElem? (i := 248) (by decide +kernel), List.mem_of_getElem? (i := 833) (by decide +kernel), List.mem_of_getElem? (i := 834) (by decide +kernel)⟩
theorem lw_p19 : lw_okq (⟨"FirstPut$Duel", "canDo", "(III)Z"⟩, 6) := ⟨⟨by decide +kernel, by decide +kernel⟩, List.mem_of_getElem? (i := 248) (by decide +kernel), List.mem_of_getElem? (i := 837) (by decide +kernel), List.mem_of_getElem? (i := 838) (by decide +kernel)⟩
theorem lw_p20 : lw_okq (⟨"FirstPut$Duel", "perform", "(LFirstPut$Goods;IIII)I"⟩, 6) := ⟨⟨by decide +kernel, by decide +kernel⟩, List.mem_of_getElem? (i := 248) (by decide +kernel), List.mem_of_getElem? (i := 841) (by decide +kernel), List.mem_of_getElem? (i := 842) (by decide +kernel)⟩
theorem lw_p21 : lw_okq (⟨"FirstPut$Duel", "takeGiven", "(LFirstPut$Goods;II)I"⟩, 6) := ⟨⟨by decide +kernel, by decide +kernel⟩, List.mem_of_getElem? (i := 248) (by decide +kernel), List.mem_of_getElem? (i := 845) (by decide +kernel), List.mem_of_getElem? (i := 846) (by decide +kernel)⟩
theorem lw_p22 : lw_okq (⟨"FirstPut$Duel", "takeBack", "(II)V"⟩, 6) := ⟨⟨by decide +kernel, by decide +kernel⟩, List.mem_of_getElem? (i := 248) (by decide +kernel), List.mem_of_getElem? (i := 851) (by decide +kernel), List.mem_of_getElem? (i := 852) (by decide +kernel)⟩
theorem lw_p23 : lw_okq (⟨"FirstPut$Duel", "noteFirst", "(II)V"⟩, 6) := ⟨⟨by decide +kernel, by decide +kernel⟩, List.mem_of_getElem? (i := 248) (by decide +kernel), List.mem_of_getElem? (i := 855) (by decide +kernel), List.mem_of_getElem? (i := 856) (by decide +kernel)⟩
theorem lw_p24 : lw_okq (⟨"FirstPut$Orders", "isMember", "(I)Z"⟩, 5) := ⟨⟨by decide +kernel, by decide +kernel⟩, List.mem_of_getElem? (i := 276) (by decide +kernel), List.mem_of_getElem? (i := 892) (by decide +kernel), List.mem_of_getElem? (i := 893) (by decide +kernel)⟩
theorem lw_p25 : lw_okq (⟨"FirstPut$Orders", "isLightestBehind", "(LFirstPut$Goods;LFirstPut$Notes;I)Z"⟩, 5) := ⟨⟨by decide +kernel, by decide +kernel⟩, List.mem_of_getElem? (i := 276) (by decide +kernel), List.mem_of_getElem? (i := 896) (by decide +kernel), List.mem_of_getElem? (i := 897) (by decide +kernel)⟩
theorem lw_p26 : lw_okq (⟨"FirstPut$Orders", "weightThatCounts", "(LFirstPut$Goods;I)I"⟩, 5) := ⟨⟨by decide +kernel, by decide +kernel⟩, List.mem_of_getElem? (i := 276) (by decide +kernel), List.mem_of_getElem? (i := 900) (by decide +kernel), List.mem_of_getElem? (i := 901) (by decide +kernel)⟩
theorem lw_p27 : lw_okq (⟨"FirstPut$Orders", "choicesAt", "(LFirstPut$Goods;LFirstPut$Notes;I)I"⟩, 5) := ⟨⟨by decide +kernel, by decide +kernel⟩, List.mem_of_getElem? (i := 276) (by decide +kernel), List.mem_of_getElem? (i := 905) (by decide +kernel), List.mem_of_getElem? (i := 906) (by decide +kernel)⟩
theorem lw_p28 : lw_okq (⟨"FirstPut$Orders", "isPlaced", "(I)Z"⟩, 5) := ⟨⟨by decide +kernel, by decide +kernel⟩, List.mem_of_getElem? (i := 276) (by decide +kernel), List.mem_of_getElem? (i := 914) (by decide +kernel), List.mem_of_getElem? (i := 915) (by decide +kernel)⟩
theorem lw_p29 : lw_okq (⟨"FirstPut$Orders", "mayStand", "(LFirstPut$Goods;LFirstPut$Notes;II)Z"⟩, 5) := ⟨⟨by decide +kernel, by decide +kernel⟩, List.mem_of_getElem? (i := 276) (by decide +kernel), List.mem_of_getElem? (i := 918) (by decide +kernel), List.mem_of_getElem? (i := 919) (by decide +kernel)⟩
theorem lw_p30 : lw_okq (⟨"FirstPut$Rings", "gather", "(LFirstPut$Places;)V"⟩, 5) := ⟨⟨by decide +kernel, by decide +kernel⟩, List.mem_of_getElem? (i := 299) (by decide +kernel), List.mem_of_getElem? (i := 930) (by decide +kernel), List.mem_of_getElem? (i := 931) (by decide +kernel)⟩
theorem lw_p31 : lw_okq (⟨"FirstPut$Rings", "point", "(LFirstPut$Goods;)V"⟩, 5) := ⟨⟨by decide +kernel, by decide +kernel⟩, List.mem_of_getElem? (i := 299) (by decide +kernel), List.mem_of_getElem? (i := 938) (by decide +kernel), List.mem_of_getElem? (i := 939) (by decide +kernel)⟩
def lw_privs_2 : List (MethodName × Nat) := [(⟨"FirstPut$Runs", "takeIfBetter", "(I)V"⟩, 7), (⟨"FirstPut$Runs", "spread", "(LFirstPut$Goods;LFirstPut$Visits;IIJ)V"⟩, 7), (⟨"FirstPut$Duel", "outcome", "(LFirstPut$Goods;II)I"⟩, 6), (⟨"FirstPut$Duel", "canDo", "(III)Z"⟩, 6), (⟨"FirstPut$Duel", "perform", "(LFirstPut$Goods;IIII)I"⟩, 6), (⟨"FirstPut$Duel", "takeGiven", "(LFirstPut$Goods;II)I"⟩, 6), (⟨"FirstPut$Duel", "takeBack", "(II)V"⟩, 6), (⟨"FirstPut$Duel", "noteFirst", "(II)V"⟩, 6), (⟨"FirstPut$Orders", "isMember", "(I)Z"⟩, 5), (⟨"FirstPut$Orders", "isLightestBehind", "(LFirstPut$Goods;LFirstPut$Notes;I)Z"⟩, 5), (⟨"FirstPut$Orders", "weightThatCounts", "(LFirstPut$Goods;I)I"⟩, 5), (⟨"FirstPut$Orders", "choicesAt", "(LFirstPut$Goods;LFirstPut$Notes;I)I"⟩, 5), (⟨"FirstPut$Orders", "isPlaced", "(I)Z"⟩, 5), (⟨"FirstPut$Orders", "mayStand", "(LFirstPut$Goods;LFirstPut$Notes;II)Z"⟩, 5), (⟨"FirstPut$Rings", "gather", "(LFirstPut$Places;)V"⟩, 5), (⟨"FirstPut$Rings", "point", "(LFirstPut$Goods;)V"⟩, 5)]
theorem lw_r2 : ∀ q ∈ lw_privs_2, lw_okq q := List.forall_mem_cons.mpr ⟨lw_p16, List.forall_mem_cons.mpr ⟨lw_p17, List.forall_mem_cons.mpr ⟨lw_p18, List.forall_mem_cons.mpr ⟨lw_p19, List.forall_mem_cons.mpr ⟨lw_p20, List.forall_mem_cons.mpr ⟨lw_p21, List.forall_mem_cons.mpr ⟨lw_p22, List.forall_mem_cons.mpr ⟨lw_p23, List.forall_mem_cons.mpr ⟨lw_p24, List.forall_mem_cons.mpr ⟨lw_p25, List.forall_mem_cons.mpr ⟨lw_p26, List.forall_mem_cons.mpr ⟨lw_p27, List.forall_mem_cons.mpr ⟨lw_p28, List.forall_mem_cons.mpr ⟨lw_p29, List.forall_mem_cons.mpr ⟨lw_p30, List.forall_mem_cons.mpr ⟨lw_p31, fun _ h => absurd h List.not_mem_nil⟩⟩⟩⟩⟩⟩⟩⟩⟩⟩⟩⟩⟩⟩⟩⟩
theorem lw_p32 : lw_okq (⟨"FirstPut$Rings", "isThere", "(I)Z"⟩, 5) := ⟨⟨by decide +kernel, by decide +kernel⟩, List.mem_of_getElem? (i := 299) (by decide +kernel), List.mem_of_getElem? (i := 942) (by decide +kernel), List.mem_of_getElem? (i := 943) (by decide +kernel)⟩
theorem lw_p33 : lw_okq (⟨"FirstPut$Rings", "takeIfInRing", "(I)I"⟩, 5) := ⟨⟨by decide +kernel, by decide +kernel⟩, List.mem_of_getElem? (i := 299) (by decide +kernel), List.mem_of_getElem? (i := 950) (by decide +kernel), List.mem_of_getElem? (i := 951) (by decide +kernel)⟩
theorem lw_p34 : lw_okq (⟨"FirstPut", "tellVisitOf", "(LFirstPut$Sheet;I)I"⟩, 14) := ⟨⟨by decide +kernel, by decide +kernel⟩, List.mem_of_getElem? (i := 21) (by decide +kernel), List.mem_of_getElem? (i := 1014) (by decide +kernel), List.mem_of_getElem? (i := 1015) (by decide +kernel)⟩
theorem lw_p35 : lw_okq (⟨"FirstPutModel", "step", "()V"⟩, 45) := ⟨⟨by decide +kernel, by decide +kernel⟩, List.mem_of_getElem? (i := 1026) (by decide +kernel), List.mem_of_getElem? (i := 1183) (by decide +kernel), List.mem_of_getElem? (i := 1184) (by decide +kernel)⟩
theorem lw_p36 : lw_okq (⟨"FirstPutModel", "byteAt", "(I)I"⟩, 45) := ⟨⟨by decide +kernel, by decide +kernel⟩, List.mem_of_getElem? (i := 1026) (by decide +kernel), List.mem_of_getElem? (i := 1187) (by decide +kernel), List.mem_of_getElem? (i := 1188) (by decide +kernel)⟩
theorem lw_p37 : lw_okq (⟨"FirstPutModel", "fails", "(I)V"⟩, 45) := ⟨⟨by decide +kernel, by decide +kernel⟩, List.mem_of_getElem? (i := 1026) (by decide +kernel), List.mem_of_getElem? (i := 1195) (by decide +kernel), List.mem_of_getElem? (i := 1196) (by decide +kernel)⟩
theorem lw_p38 : lw_okq (⟨"FirstPutModel", "readLine", "()V"⟩, 45) := ⟨⟨by decide +kernel, by decide +kernel⟩, List.mem_of_getElem? (i := 1026) (by decide +kernel), List.mem_of_getElem? (i := 1199) (by decide +kernel), List.mem_of_getElem? (i := 1200) (by decide +kernel)⟩
theorem lw_p39 : lw_okq (⟨"FirstPutModel", "nameHere", "()I"⟩, 45) := ⟨⟨by decide +kernel, by decide +kernel⟩, List.mem_of_getElem? (i := 1026) (by decide +kernel), List.mem_of_getElem? (i := 1203) (by decide +kernel), List.mem_of_getElem? (i := 1204) (by decide +kernel)⟩
theorem lw_p40 : lw_okq (⟨"FirstPutModel", "readThing", "()V"⟩, 45) := ⟨⟨by decide +kernel, by decide +kernel⟩, List.mem_of_getElem? (i := 1026) (by decide +kernel), List.mem_of_getElem? (i := 1208) (by decide +kernel), List.mem_of_getElem? (i := 1209) (by decide +kernel)⟩
theorem lw_p41 : lw_okq (⟨"FirstPutModel", "number", "(II)I"⟩, 45) := ⟨⟨by decide +kernel, by decide +kernel⟩, List.mem_of_getElem? (i := 1026) (by decide +kernel), List.mem_of_getElem? (i := 1212) (by decide +kernel), List.mem_of_getElem? (i := 1213) (by decide +kernel)⟩
theorem lw_p42 : lw_okq (⟨"FirstPutModel", "looks", "(II)V"⟩, 45) := ⟨⟨by decide +kernel, by decide +kernel⟩, List.mem_of_getElem? (i := 1026) (by decide +kernel), List.mem_of_getElem? (i := 1216) (by decide +kernel), List.mem_of_getElem? (i := 1217) (by decide +kernel)⟩
theorem lw_p43 : lw_okq (⟨"FirstPutModel", "readALine", "()V"⟩, 45) := ⟨⟨by decide +kernel, by decide +kernel⟩, List.mem_of_getElem? (i := 1026) (by decide +kernel), List.mem_of_getElem? (i := 1220) (by decide +kernel), List.mem_of_getElem? (i := 1221) (by decide +kernel)⟩
theorem lw_p44 : lw_okq (⟨"FirstPutModel", "readVisit", "(Z)V"⟩, 45) := ⟨⟨by decide +kernel, by decide +kernel⟩, List.mem_of_getElem? (i := 1026) (by decide +kernel), List.mem_of_getElem? (i := 1224) (by decide +kernel), List.mem_of_getElem? (i := 1225) (by decide +kernel)⟩
theorem lw_p45 : lw_okq (⟨"FirstPutModel", "takes", "()V"⟩, 45) := ⟨⟨by decide +kernel, by decide +kernel⟩, List.mem_of_getElem? (i := 1026) (by decide +kernel), List.mem_of_getElem? (i := 1228) (by decide +kernel), List.mem_of_getElem? (i := 1229) (by decide +kernel)⟩
theorem lw_p46 : lw_okq (⟨"FirstPutModel", "isThing", "(I)Z"⟩, 45) := ⟨⟨by decide +kernel, by decide +kernel⟩, List.mem_of_getElem? (i := 1026) (by decide +kernel), List.mem_of_getElem? (i := 1240) (by decide +kernel), List.mem_of_getElem? (i := 1241) (by decide +kernel)⟩
theorem lw_p47 : lw_okq (⟨"FirstPutModel", "placeOf", "(I)I"⟩, 45) := ⟨⟨by decide +kernel, by decide +kernel⟩, List.mem_of_getElem? (i := 1026) (by decide +kernel), List.mem_of_getElem? (i := 1244) (by decide +kernel), List.mem_of_getElem? (i := 1245) (by decide +kernel)⟩
def lw_privs_3 : List (MethodName × Nat) := [(⟨"FirstPut$Rings", "isThere", "(I)Z"⟩, 5), (⟨"FirstPut$Rings", "takeIfInRing", "(I)I"⟩, 5), (⟨"FirstPut", "tellVisitOf", "(LFirstPut$Sheet;I)I"⟩, 14), (⟨"FirstPutModel", "step", "()V"⟩, 45), (⟨"FirstPutModel", "byteAt", "(I)I"⟩, 45), (⟨"FirstPutModel", "fails", "(I)V"⟩, 45), (⟨"FirstPutModel", "readLine", "()V"⟩, 45), (⟨"FirstPutModel", "nameHere", "()I"⟩, 45), (⟨"FirstPutModel", "readThing", "()V"⟩, 45), (⟨"FirstPutModel", "number", "(II)I"⟩, 45), (⟨"FirstPutModel", "looks", "(II)V"⟩, 45), (⟨"FirstPutModel", "readALine", "()V"⟩, 45), (⟨"FirstPutModel", "readVisit", "(Z)V"⟩, 45), (⟨"FirstPutModel", "takes", "()V"⟩, 45), (⟨"FirstPutModel", "isThing", "(I)Z"⟩, 45), (⟨"FirstPutModel", "placeOf", "(I)I"⟩, 45)]
theorem lw_r3 : ∀ q ∈ lw_privs_3, lw_okq q := List.forall_mem_cons.mpr ⟨lw_p32, List.forall_mem_cons.mpr ⟨lw_p33, List.forall_mem_cons.mpr ⟨lw_p34, List.forall_mem_cons.mpr ⟨lw_p35, List.forall_mem_cons.mpr ⟨lw_p36, List.forall_mem_cons.mpr ⟨lw_p37, List.forall_mem_cons.mpr ⟨lw_p38, List.forall_mem_cons.mpr ⟨lw_p39, List.forall_mem_cons.mpr ⟨lw_p40, List.forall_mem_cons.mpr ⟨lw_p41, List.forall_mem_cons.mpr ⟨lw_p42, List.forall_mem_cons.mpr ⟨lw_p43, List.forall_mem_cons.mpr ⟨lw_p44, List.forall_mem_cons.mpr ⟨lw_p45, List.forall_mem_cons.mpr ⟨lw_p46, List.forall_mem_cons.mpr ⟨lw_p47, fun _ h => absurd h List.not_mem_nil⟩⟩⟩⟩⟩⟩⟩⟩⟩⟩⟩⟩⟩⟩⟩⟩
theorem lw_p48 : lw_okq (⟨"FirstPutModel", "lie", "(II)I"⟩, 45) := ⟨⟨by decide +kernel, by decide +kernel⟩, List.mem_of_getElem? (i := 1026) (by decide +kernel), List.mem_of_getElem? (i := 1248) (by decide +kernel), List.mem_of_getElem? (i := 1249) (by decide +kernel)⟩
theorem lw_p49 : lw_okq (⟨"FirstPutModel", "lies", "(III)I"⟩, 45) := ⟨⟨by decide +kernel, by decide +kernel⟩, List.mem_of_getElem? (i := 1026) (by decide +kernel), List.mem_of_getElem? (i := 1252) (by decide +kernel), List.mem_of_getElem? (i := 1253) (by decide +kernel)⟩
theorem lw_p50 : lw_okq (⟨"FirstPutModel", "isLine", "(I)Z"⟩, 45) := ⟨⟨by decide +kernel, by decide +kernel⟩, List.mem_of_getElem? (i := 1026) (by decide +kernel), List.mem_of_getElem? (i := 1262) (by decide +kernel), List.mem_of_getElem? (i := 1263) (by decide +kernel)⟩
theorem lw_p51 : lw_okq (⟨"FirstPutModel", "gives", "(II)I"⟩, 45) := ⟨⟨by decide +kernel, by decide +kernel⟩, List.mem_of_getElem? (i := 1026) (by decide +kernel), List.mem_of_getElem? (i := 1266) (by decide +kernel), List.mem_of_getElem? (i := 1267) (by decide +kernel)⟩
theorem lw_p52 : lw_okq (⟨"FirstPutModel", "givesAt", "(II)I"⟩, 45) := ⟨⟨by decide +kernel, by decide +kernel⟩, List.mem_of_getElem? (i := 1026) (by decide +kernel), List.mem_of_getElem? (i := 1270) (by decide +kernel), List.mem_of_getElem? (i := 1271) (by decide +kernel)⟩
theorem lw_p53 : lw_okq (⟨"FirstPutModel", "visits", "()I"⟩, 45) := ⟨⟨by decide +kernel, by decide +kernel⟩, List.mem_of_getElem? (i := 1026) (by decide +kernel), List.mem_of_getElem? (i := 1278) (by decide +kernel), List.mem_of_getElem? (i := 1279) (by decide +kernel)⟩
theorem lw_p54 : lw_okq (⟨"FirstPutModel", "holdsAt", "(II)I"⟩, 45) := ⟨⟨by decide +kernel, by decide +kernel⟩, List.mem_of_getElem? (i := 1026) (by decide +kernel), List.mem_of_getElem? (i := 1294) (by decide +kernel), List.mem_of_getElem? (i := 1295) (by decide +kernel)⟩
theorem lw_p55 : lw_okq (⟨"FirstPutModel", "worthAt", "(II)I"⟩, 45) := ⟨⟨by decide +kernel, by decide +kernel⟩, List.mem_of_getElem? (i := 1026) (by decide +kernel), List.mem_of_getElem? (i := 1302) (by decide +kernel), List.mem_of_getElem? (i := 1303) (by decide +kernel)⟩
theorem lw_p56 : lw_okq (⟨"FirstPutModel", "puts", "(IIII)Z"⟩, 45) := ⟨⟨by decide +kernel, by decide +kernel⟩, List.mem_of_getElem? (i := 1026) (by decide +kernel), List.mem_of_getElem? (i := 1310) (by decide +kernel), List.mem_of_getElem? (i := 1311) (by decide +kernel)⟩
theorem lw_p57 : lw_okq (⟨"FirstPutModel", "laysIn", "(IIII)V"⟩, 45) := ⟨⟨by decide +kernel, by decide +kernel⟩, List.mem_of_getElem? (i := 1026) (by decide +kernel), List.mem_of_getElem? (i := 1314) (by decide +kernel), List.mem_of_getElem? (i := 1315) (by decide +kernel)⟩
theorem lw_p58 : lw_okq (⟨"FirstPutModel", "draws", "(III)I"⟩, 45) := ⟨⟨by decide +kernel, by decide +kernel⟩, List.mem_of_getElem? (i := 1026) (by decide +kernel), List.mem_of_getElem? (i := 1322) (by decide +kernel), List.mem_of_getElem? (i := 1323) (by decide +kernel)⟩
theorem lw_p59 : lw_okq (⟨"FirstPutModel", "takesOut", "(III)I"⟩, 45) := ⟨⟨by decide +kernel, by decide +kernel⟩, List.mem_of_getElem? (i := 1026) (by decide +kernel), List.mem_of_getElem? (i := 1326) (by decide +kernel), List.mem_of_getElem? (i := 1327) (by decide +kernel)⟩
theorem lw_p60 : lw_okq (⟨"FirstPutModel", "comes", "(IIII)I"⟩, 45) := ⟨⟨by decide +kernel, by decide +kernel⟩, List.mem_of_getElem? (i := 1026) (by decide +kernel), List.mem_of_getElem? (i := 1338) (by decide +kernel), List.mem_of_getElem? (i := 1339) (by decide +kernel)⟩
theorem lw_p61 : lw_okq (⟨"FirstPutModel", "happens", "(II)Z"⟩, 45) := ⟨⟨by decide +kernel, by decide +kernel⟩, List.mem_of_getElem? (i := 1026) (by decide +kernel), List.mem_of_getElem? (i := 1351) (by decide +kernel), List.mem_of_getElem? (i := 1352) (by decide +kernel)⟩
theorem lw_p62 : lw_okq (⟨"FirstPutModel", "visits2", "(III)Z"⟩, 45) := ⟨⟨by decide +kernel, by decide +kernel⟩, List.mem_of_getElem? (i := 1026) (by decide +kernel), List.mem_of_getElem? (i := 1355) (by decide +kernel), List.mem_of_getElem? (i := 1356) (by decide +kernel)⟩
theorem lw_p63 : lw_okq (⟨"FirstPutModel", "runs", "(I)I"⟩, 45) := ⟨⟨by decide +kernel, by decide +kernel⟩, List.mem_of_getElem? (i := 1026) (by decide +kernel), List.mem_of_getElem? (i := 1363) (by decide +kernel), List.mem_of_getElem? (i := 1364) (by decide +kernel)⟩
def lw_privs_4 : List (MethodName × Nat) := [(⟨"FirstPutModel", "lie", "(II)I"⟩, 45), (⟨"FirstPutModel", "lies", "(III)I"⟩, 45), (⟨"FirstPutModel", "isLine", "(I)Z"⟩, 45), (⟨"FirstPutModel", "gives", "(II)I"⟩, 45), (⟨"FirstPutModel", "givesAt", "(II)I"⟩, 45), (⟨"FirstPutModel", "visits", "()I"⟩, 45), (⟨"FirstPutModel", "holdsAt", "(II)I"⟩, 45), (⟨"FirstPutModel", "worthAt", "(II)I"⟩, 45), (⟨"FirstPutModel", "puts", "(IIII)Z"⟩, 45), (⟨"FirstPutModel", "laysIn", "(IIII)V"⟩, 45), (⟨"FirstPutModel", "draws", "(III)I"⟩, 45), (⟨"FirstPutModel", "takesOut", "(III)I"⟩, 45), (⟨"FirstPutModel", "comes", "(IIII)I"⟩, 45), (⟨"FirstPutModel", "happens", "(II)Z"⟩, 45), (⟨"FirstPutModel", "visits2", "(III)Z"⟩, 45), (⟨"FirstPutModel", "runs", "(I)I"⟩, 45)]
theorem lw_r4 : ∀ q ∈ lw_privs_4, lw_okq q := List.forall_mem_cons.mpr ⟨lw_p48, List.forall_mem_cons.mpr ⟨lw_p49, List.forall_mem_cons.mpr ⟨lw_p50, List.forall_mem_cons.mpr ⟨lw_p51, List.forall_mem_cons.mpr ⟨lw_p52, List.forall_mem_cons.mpr ⟨lw_p53, List.forall_mem_cons.mpr ⟨lw_p54, List.forall_mem_cons.mpr ⟨lw_p55, List.forall_mem_cons.mpr ⟨lw_p56, List.forall_mem_cons.mpr ⟨lw_p57, List.forall_mem_cons.mpr ⟨lw_p58, List.forall_mem_cons.mpr ⟨lw_p59, List.forall_mem_cons.mpr ⟨lw_p60, List.forall_mem_cons.mpr ⟨lw_p61, List.forall_mem_cons.mpr ⟨lw_p62, List.forall_mem_cons.mpr ⟨lw_p63, fun _ h => absurd h List.not_mem_nil⟩⟩⟩⟩⟩⟩⟩⟩⟩⟩⟩⟩⟩⟩⟩⟩
theorem lw_p64 : lw_okq (⟨"FirstPutModel", "copies", "(II)V"⟩, 45) := ⟨⟨by decide +kernel, by decide +kernel⟩, List.mem_of_getElem? (i := 1026) (by decide +kernel), List.mem_of_getElem? (i := 1367) (by decide +kernel), List.mem_of_getElem? (i := 1368) (by decide +kernel)⟩
theorem lw_p65 : lw_okq (⟨"FirstPutModel", "isTrick", "(IIIIII)Z"⟩, 45) := ⟨⟨by decide +kernel, by decide +kernel⟩, List.mem_of_getElem? (i := 1026) (by decide +kernel), List.mem_of_getElem? (i := 1400) (by decide +kernel), List.mem_of_getElem? (i := 1401) (by decide +kernel)⟩
theorem lw_p66 : lw_okq (⟨"FirstPutModel", "isOwn", "(II)Z"⟩, 45) := ⟨⟨by decide +kernel, by decide +kernel⟩, List.mem_of_getElem? (i := 1026) (by decide +kernel), List.mem_of_getElem? (i := 1408) (by decide +kernel), List.mem_of_getElem? (i := 1409) (by decide +kernel)⟩
theorem lw_p67 : lw_okq (⟨"FirstPutModel", "saves", "(I)V"⟩, 45) := ⟨⟨by decide +kernel, by decide +kernel⟩, List.mem_of_getElem? (i := 1026) (by decide +kernel), List.mem_of_getElem? (i := 1412) (by decide +kernel), List.mem_of_getElem? (i := 1413) (by decide +kernel)⟩
theorem lw_p68 : lw_okq (⟨"FirstPutModel", "runsFrom", "(II)V"⟩, 45) := ⟨⟨by decide +kernel, by decide +kernel⟩, List.mem_of_getElem? (i := 1026) (by decide +kernel), List.mem_of_getElem? (i := 1416) (by decide +kernel), List.mem_of_getElem? (i := 1417) (by decide +kernel)⟩
theorem lw_p69 : lw_okq (⟨"FirstPutModel", "nextLines", "(I)I"⟩, 45) := ⟨⟨by decide +kernel, by decide +kernel⟩, List.mem_of_getElem? (i := 1026) (by decide +kernel), List.mem_of_getElem? (i := 1420) (by decide +kernel), List.mem_of_getElem? (i := 1421) (by decide +kernel)⟩
theorem lw_p70 : lw_okq (⟨"FirstPutModel", "layChances", "(I)V"⟩, 45) := ⟨⟨by decide +kernel, by decide +kernel⟩, List.mem_of_getElem? (i := 1026) (by decide +kernel), List.mem_of_getElem? (i := 1430) (by decide +kernel), List.mem_of_getElem? (i := 1431) (by decide +kernel)⟩
theorem lw_p71 : lw_okq (⟨"FirstPutModel", "plays", "(IIIIII)I"⟩, 45) := ⟨⟨by decide +kernel, by decide +kernel⟩, List.mem_of_getElem? (i := 1026) (by decide +kernel), List.mem_of_getElem? (i := 1446) (by decide +kernel), List.mem_of_getElem? (i := 1447) (by decide +kernel)⟩
theorem lw_p72 : lw_okq (⟨"FirstPutModel", "fitsRow", "(II)Z"⟩, 45) := ⟨⟨by decide +kernel, by decide +kernel⟩, List.mem_of_getElem? (i := 1026) (by decide +kernel), List.mem_of_getElem? (i := 1463) (by decide +kernel), List.mem_of_getElem? (i := 1464) (by decide +kernel)⟩
theorem lw_p73 : lw_okq (⟨"FirstPutModel", "nextRow", "(I)Z"⟩, 45) := ⟨⟨by decide +kernel, by decide +kernel⟩, List.mem_of_getElem? (i := 1026) (by decide +kernel), List.mem_of_getElem? (i := 1467) (by decide +kernel), List.mem_of_getElem? (i := 1468) (by decide +kernel)⟩
theorem lw_p74 : lw_okq (⟨"FirstPutModel", "layRings", "()V"⟩, 45) := ⟨⟨by decide +kernel, by decide +kernel⟩, List.mem_of_getElem? (i := 1026) (by decide +kernel), List.mem_of_getElem? (i := 1475) (by decide +kernel), List.mem_of_getElem? (i := 1476) (by decide +kernel)⟩
theorem lw_p75 : lw_okq (⟨"FirstPutModel", "ringOf", "(II)I"⟩, 45) := ⟨⟨by decide +kernel, by decide +kernel⟩, List.mem_of_getElem? (i := 1026) (by decide +kernel), List.mem_of_getElem? (i := 1479) (by decide +kernel), List.mem_of_getElem? (i := 1480) (by decide +kernel)⟩
theorem lw_p76 : lw_okq (⟨"FirstPutModel", "likes", "(II)I"⟩, 45) := ⟨⟨by decide +kernel, by decide +kernel⟩, List.mem_of_getElem? (i := 1026) (by decide +kernel), List.mem_of_getElem? (i := 1483) (by decide +kernel), List.mem_of_getElem? (i := 1484) (by decide +kernel)⟩
theorem lw_p77 : lw_okq (⟨"FirstPutModel", "copiesAll", "(II)V"⟩, 45) := ⟨⟨by decide +kernel, by decide +kernel⟩, List.mem_of_getElem? (i := 1026) (by decide +kernel), List.mem_of_getElem? (i := 1499) (by decide +kernel), List.mem_of_getElem? (i := 1500) (by decide +kernel)⟩
def lw_privs_5 : List (MethodName × Nat) := [(⟨"FirstPutModel", "copies", "(II)V"⟩, 45), (⟨"FirstPutModel", "isTrick", "(IIIIII)Z"⟩, 45), (⟨"FirstPutModel", "isOwn", "(II)Z"⟩, 45), (⟨"FirstPutModel", "saves", "(I)V"⟩, 45), (⟨"FirstPutModel", "runsFrom", "(II)V"⟩, 45), (⟨"FirstPutModel", "nextLines", "(I)I"⟩, 45), (⟨"FirstPutModel", "layChances", "(I)V"⟩, 45), (⟨"FirstPutModel", "plays", "(IIIIII)I"⟩, 45), (⟨"FirstPutModel", "fitsRow", "(II)Z"⟩, 45), (⟨"FirstPutModel", "nextRow", "(I)Z"⟩, 45), (⟨"FirstPutModel", "layRings", "()V"⟩, 45), (⟨"FirstPutModel", "ringOf", "(II)I"⟩, 45), (⟨"FirstPutModel", "likes", "(II)I"⟩, 45), (⟨"FirstPutModel", "copiesAll", "(II)V"⟩, 45)]
theorem lw_r5 : ∀ q ∈ lw_privs_5, lw_okq q := List.forall_mem_cons.mpr ⟨lw_p64, List.forall_mem_cons.mpr ⟨lw_p65, List.forall_mem_cons.mpr ⟨lw_p66, List.forall_mem_cons.mpr ⟨lw_p67, List.forall_mem_cons.mpr ⟨lw_p68, List.forall_mem_cons.mpr ⟨lw_p69, List.forall_mem_cons.mpr ⟨lw_p70, List.forall_mem_cons.mpr ⟨lw_p71, List.forall_mem_cons.mpr ⟨lw_p72, List.forall_mem_cons.mpr ⟨lw_p73, List.forall_mem_cons.mpr ⟨lw_p74, List.forall_mem_cons.mpr ⟨lw_p75, List.forall_mem_cons.mpr ⟨lw_p76, List.forall_mem_cons.mpr ⟨lw_p77, fun _ h => absurd h List.not_mem_nil⟩⟩⟩⟩⟩⟩⟩⟩⟩⟩⟩⟩⟩⟩
def lw_privs : List (MethodName × Nat) := lw_privs_1 ++ (lw_privs_2 ++ (lw_privs_3 ++ (lw_privs_4 ++ (lw_privs_5))))
def lw_tbl : List Cond := k2_sels lw_privs ++ tables_1
theorem lw_privs_ok : ∀ q ∈ lw_privs, lw_okq q := by
  show ∀ q ∈ lw_privs_1 ++ (lw_privs_2 ++ (lw_privs_3 ++ (lw_privs_4 ++ (lw_privs_5)))), lw_okq q
  exact List.forall_mem_append.mpr ⟨lw_r1, List.forall_mem_append.mpr ⟨lw_r2, List.forall_mem_append.mpr ⟨lw_r3, List.forall_mem_append.mpr ⟨lw_r4, lw_r5⟩⟩⟩⟩
end
section
def RX0 : String := "FirstPut$Duel"
def TX0 : u_T := fun k => match k with
  | 0 => ("FirstPut$Duel", "turns", "I", false)
  | 1 => ("FirstPut$Duel", "firstDoes", "I", false)
  | 2 => ("FirstPut$Duel", "player", "[I", true)
  | 3 => ("FirstPut$Duel", "rubbishLeft", "[I", true)
  | 4 => ("FirstPut$Duel", "row", "[[I", true)
  | _ => ("FirstPut$Duel", "lie", "[I", true)
def tyX0 : Nat → FieldType := fun k => match k with
  | 0 => .int
  | 1 => .int
  | 2 => .array .int
  | 3 => .array .int
  | 4 => .array (.array .int)
  | _ => .array .int
abbrev wsX00 : List Cond := u_ws RX0 TX0 6
theorem nmX0 : ∀ a, a < 6 → ∀ b, b < 6 → a ≠ b → (TX0 a).2.1 ≠ (TX0 b).2.1 := by decide +kernel
theorem tyX0_ok : ∀ k, k < 6 → parseFieldDescriptor (TX0 k).2.2.1 = some (tyX0 k) := by decide +kernel
abbrev cX0_init : ByteArray := prog_2_method_1_code
def yX0_init : MethodName := ⟨RX0, "<init>", "()V"⟩
abbrev cX0_prepare : ByteArray := prog_2_method_2_code
def yX0_prepare : MethodName := ⟨RX0, "prepare", "(LFirstPut$Places;IIIII)V"⟩
abbrev cX0_fight : ByteArray := prog_2_method_3_code
def yX0_fight : MethodName := ⟨RX0, "fight", "(LFirstPut$Goods;I)I"⟩
abbrev cX0_outcome : ByteArray := prog_2_method_4_code
def yX0_outcome : MethodName := ⟨RX0, "outcome", "(LFirstPut$Goods;II)I"⟩
abbrev cX0_canDo : ByteArray := prog_2_method_5_code
def yX0_canDo : MethodName := ⟨RX0, "canDo", "(III)Z"⟩
abbrev cX0_perform : ByteArray := prog_2_method_6_code
def yX0_perform : MethodName := ⟨RX0, "perform", "(LFirstPut$Goods;IIII)I"⟩
abbrev cX0_takeGiven : ByteArray := prog_2_method_7_code
def yX0_takeGiven : MethodName := ⟨RX0, "takeGiven", "(LFirstPut$Goods;II)I"⟩
abbrev cX0_takeBack : ByteArray := prog_2_method_8_code
def yX0_takeBack : MethodName := ⟨RX0, "takeBack", "(II)V"⟩
abbrev cX0_noteFirst : ByteArray := prog_2_method_9_code
def yX0_noteFirst : MethodName := ⟨RX0, "noteFirst", "(II)V"⟩
def RX1 : String := "FirstPut$Goods"
def TX1 : u_T := fun k => match k with
  | 0 => ("FirstPut$Goods", "things", "I", false)
  | 1 => ("FirstPut$Goods", "lines", "I", false)
  | 2 => ("FirstPut$Goods", "chanceOfTen", "I", false)
  | 3 => ("FirstPut$Goods", "weight", "[I", true)
  | 4 => ("FirstPut$Goods", "value", "[I", true)
  | _ => ("FirstPut$Goods", "kind", "[I", true)
def tyX1 : Nat → FieldType := fun k => match k with
  | 0 => .int
  | 1 => .int
  | 2 => .int
  | 3 => .array .int
  | 4 => .array .int
  | _ => .array .int
abbrev wsX10 : List Cond := u_ws RX1 TX1 6
theorem nmX1 : ∀ a, a < 6 → ∀ b, b < 6 → a ≠ b → (TX1 a).2.1 ≠ (TX1 b).2.1 := by decide +kernel
theorem tyX1_ok : ∀ k, k < 6 → parseFieldDescriptor (TX1 k).2.2.1 = some (tyX1 k) := by decide +kernel
abbrev cX1_init : ByteArray := prog_3_method_1_code
def yX1_init : MethodName := ⟨RX1, "<init>", "()V"⟩
abbrev cX1_clear : ByteArray := prog_3_method_2_code
def yX1_clear : MethodName := ⟨RX1, "clear", "()V"⟩
abbrev cX1_copyFrom : ByteArray := prog_3_method_3_code
def yX1_copyFrom : MethodName := ⟨RX1, "copyFrom", "(LFirstPut$Goods;)V"⟩
abbrev cX1_hasThing : ByteArray := prog_3_method_4_code
def yX1_hasThing : MethodName := ⟨RX1, "hasThing", "(I)Z"⟩
abbrev cX1_hasLine : ByteArray := prog_3_method_5_code
def yX1_hasLine : MethodName := ⟨RX1, "hasLine", "(I)Z"⟩
abbrev cX1_valueTo : ByteArray := prog_3_method_6_code
def yX1_valueTo : MethodName := ⟨RX1, "valueTo", "(II)I"⟩
def RX2 : String := "FirstPut$Image"
def TX2 : u_T := fun k => match k with
  | 0 => ("FirstPut$Image", "there", "Z", false)
  | 1 => ("FirstPut$Image", "places", "LFirstPut$Places;", true)
  | 2 => ("FirstPut$Image", "visits", "LFirstPut$Visits;", true)
  | _ => ("FirstPut$Image", "notes", "LFirstPut$Notes;", true)
def tyX2 : Nat → FieldType := fun k => match k with
  | 0 => .boolean
  | 1 => .object "FirstPut$Places"
  | 2 => .object "FirstPut$Visits"
  | _ => .object "FirstPut$Notes"
abbrev wsX20 : List Cond := u_ws RX2 TX2 4
theorem nmX2 : ∀ a, a < 4 → ∀ b, b < 4 → a ≠ b → (TX2 a).2.1 ≠ (TX2 b).2.1 := by decide +kernel
theorem tyX2_ok : ∀ k, k < 4 → parseFieldDescriptor (TX2 k).2.2.1 = some (tyX2 k) := by decide +kernel
abbrev cX2_init : ByteArray := prog_4_method_1_code
def yX2_init : MethodName := ⟨RX2, "<init>", "()V"⟩
def RX3 : String := "FirstPut$Notes"
def TX3 : u_T := fun k => match k with
  | 0 => ("FirstPut$Notes", "size", "I", false)
  | _ => ("FirstPut$Notes", "drawn", "[I", true)
def tyX3 : Nat → FieldType := fun k => match k with
  | 0 => .int
  | _ => .array .int
abbrev wsX30 : List Cond := u_ws RX3 TX3 2
theorem nmX3 : ∀ a, a < 2 → ∀ b, b < 2 → a ≠ b → (TX3 a).2.1 ≠ (TX3 b).2.1 := by decide +kernel
theorem tyX3_ok : ∀ k, k < 2 → parseFieldDescriptor (TX3 k).2.2.1 = some (tyX3 k) := by decide +kernel
abbrev cX3_init : ByteArray := prog_5_method_1_code
def yX3_init : MethodName := ⟨RX3, "<init>", "()V"⟩
abbrev cX3_copyFrom : ByteArray := prog_5_method_2_code
def yX3_copyFrom : MethodName := ⟨RX3, "copyFrom", "(LFirstPut$Notes;)V"⟩
abbrev cX3_spotOf : ByteArray := prog_5_method_3_code
def yX3_spotOf : MethodName := ⟨RX3, "spotOf", "(I)I"⟩
abbrev cX3_add : ByteArray := prog_5_method_4_code
def yX3_add : MethodName := ⟨RX3, "add", "(I)Z"⟩
def RX4 : String := "FirstPut$Orders"
def TX4 : u_T := fun k => match k with
  | 0 => ("FirstPut$Orders", "kind", "I", false)
  | 1 => ("FirstPut$Orders", "size", "I", false)
  | 2 => ("FirstPut$Orders", "member", "[I", true)
  | 3 => ("FirstPut$Orders", "placed", "I", false)
  | _ => ("FirstPut$Orders", "first", "[I", true)
def tyX4 : Nat → FieldType := fun k => match k with
  | 0 => .int
  | 1 => .int
  | 2 => .array .int
  | 3 => .int
  | _ => .array .int
abbrev wsX40 : List Cond := u_ws RX4 TX4 5
theorem nmX4 : ∀ a, a < 5 → ∀ b, b < 5 → a ≠ b → (TX4 a).2.1 ≠ (TX4 b).2.1 := by decide +kernel
theorem tyX4_ok : ∀ k, k < 5 → parseFieldDescriptor (TX4 k).2.2.1 = some (tyX4 k) := by decide +kernel
abbrev cX4_init : ByteArray := prog_6_method_1_code
def yX4_init : MethodName := ⟨RX4, "<init>", "()V"⟩
abbrev cX4_prepare : ByteArray := prog_6_method_2_code
def yX4_prepare : MethodName := ⟨RX4, "prepare", "(LFirstPut$Goods;LFirstPut$Places;I)V"⟩
abbrev cX4_weightThatCounts : ByteArray := prog_6_method_3_code
def yX4_weightThatCounts : MethodName := ⟨RX4, "weightThatCounts", "(LFirstPut$Goods;I)I"⟩
abbrev cX4_isMember : ByteArray := prog_6_method_4_code
def yX4_isMember : MethodName := ⟨RX4, "isMember", "(I)Z"⟩
abbrev cX4_canFit : ByteArray := prog_6_method_5_code
def yX4_canFit : MethodName := ⟨RX4, "canFit", "(LFirstPut$Goods;LFirstPut$Notes;)Z"⟩
abbrev cX4_isLightestBehind : ByteArray := prog_6_method_6_code
def yX4_isLightestBehind : MethodName := ⟨RX4, "isLightestBehind", "(LFirstPut$Goods;LFirstPut$Notes;I)Z"⟩
abbrev cX4_howMany : ByteArray := prog_6_method_7_code
def yX4_howMany : MethodName := ⟨RX4, "howMany", "(LFirstPut$Goods;LFirstPut$Notes;)I"⟩
abbrev cX4_choicesAt : ByteArray := prog_6_method_8_code
def yX4_choicesAt : MethodName := ⟨RX4, "choicesAt", "(LFirstPut$Goods;LFirstPut$Notes;I)I"⟩
abbrev cX4_findFirst : ByteArray := prog_6_method_9_code
def yX4_findFirst : MethodName := ⟨RX4, "findFirst", "(LFirstPut$Goods;LFirstPut$Notes;)V"⟩
abbrev cX4_isPlaced : ByteArray := prog_6_method_10_code
def yX4_isPlaced : MethodName := ⟨RX4, "isPlaced", "(I)Z"⟩
abbrev cX4_mayStand : ByteArray := prog_6_method_11_code
def yX4_mayStand : MethodName := ⟨RX4, "mayStand", "(LFirstPut$Goods;LFirstPut$Notes;II)Z"⟩
def RX5 : String := "FirstPut$Places"
def TX5 : u_T := fun k => match k with
  | 0 => ("FirstPut$Places", "where", "[I", true)
  | 1 => ("FirstPut$Places", "putBy", "[I", true)
  | 2 => ("FirstPut$Places", "size", "[I", true)
  | _ => ("FirstPut$Places", "lying", "[I", true)
def tyX5 : Nat → FieldType := fun k => match k with
  | 0 => .array .int
  | 1 => .array .int
  | 2 => .array .int
  | _ => .array .int
abbrev wsX50 : List Cond := u_ws RX5 TX5 4
theorem nmX5 : ∀ a, a < 4 → ∀ b, b < 4 → a ≠ b → (TX5 a).2.1 ≠ (TX5 b).2.1 := by decide +kernel
theorem tyX5_ok : ∀ k, k < 4 → parseFieldDescriptor (TX5 k).2.2.1 = some (tyX5 k) := by decide +kernel
abbrev cX5_init : ByteArray := prog_7_method_1_code
def yX5_init : MethodName := ⟨RX5, "<init>", "()V"⟩
abbrev cX5_clear : ByteArray := prog_7_method_2_code
def yX5_clear : MethodName := ⟨RX5, "clear", "()V"⟩
abbrev cX5_copyFrom : ByteArray := prog_7_method_3_code
def yX5_copyFrom : MethodName := ⟨RX5, "copyFrom", "(LFirstPut$Places;)V"⟩
abbrev cX5_heldBy : ByteArray := prog_7_method_4_code
def yX5_heldBy : MethodName := ⟨RX5, "heldBy", "(I)I"⟩
abbrev cX5_leastHeldBy : ByteArray := prog_7_method_5_code
def yX5_leastHeldBy : MethodName := ⟨RX5, "leastHeldBy", "(I)I"⟩
abbrev cX5_worthTo : ByteArray := prog_7_method_6_code
def yX5_worthTo : MethodName := ⟨RX5, "worthTo", "(LFirstPut$Goods;I)I"⟩
abbrev cX5_spotOf : ByteArray := prog_7_method_7_code
def yX5_spotOf : MethodName := ⟨RX5, "spotOf", "(I)I"⟩
abbrev cX5_gives : ByteArray := prog_7_method_8_code
def yX5_gives : MethodName := ⟨RX5, "gives", "(LFirstPut$Goods;I)I"⟩
abbrev cX5_giveTo : ByteArray := prog_7_method_9_code
def yX5_giveTo : MethodName := ⟨RX5, "giveTo", "(LFirstPut$Goods;II)I"⟩
abbrev cX5_append : ByteArray := prog_7_method_10_code
def yX5_append : MethodName := ⟨RX5, "append", "(III)Z"⟩
abbrev cX5_insert : ByteArray := prog_7_method_11_code
def yX5_insert : MethodName := ⟨RX5, "insert", "(III)Z"⟩
def RX6 : String := "FirstPut$Reader"
def TX6 : u_T := fun k => match k with
  | 0 => ("FirstPut$Reader", "goods", "LFirstPut$Goods;", true)
  | 1 => ("FirstPut$Reader", "places", "LFirstPut$Places;", true)
  | 2 => ("FirstPut$Reader", "visits", "LFirstPut$Visits;", true)
  | 3 => ("FirstPut$Reader", "fault", "I", false)
  | 4 => ("FirstPut$Reader", "faultPlace", "I", false)
  | 5 => ("FirstPut$Reader", "text", "[B", false)
  | 6 => ("FirstPut$Reader", "length", "I", false)
  | 7 => ("FirstPut$Reader", "next", "I", false)
  | 8 => ("FirstPut$Reader", "token", "I", false)
  | 9 => ("FirstPut$Reader", "start", "I", false)
  | 10 => ("FirstPut$Reader", "number", "I", false)
  | 11 => ("FirstPut$Reader", "lying", "I", false)
  | _ => ("FirstPut$Reader", "chanceTold", "Z", false)
def tyX6 : Nat → FieldType := fun k => match k with
  | 0 => .object "FirstPut$Goods"
  | 1 => .object "FirstPut$Places"
  | 2 => .object "FirstPut$Visits"
  | 3 => .int
  | 4 => .int
  | 5 => .array .byte
  | 6 => .int
  | 7 => .int
  | 8 => .int
  | 9 => .int
  | 10 => .int
  | 11 => .int
  | _ => .boolean
abbrev wsX60 : List Cond := u_ws RX6 TX6 13
theorem nmX6 : ∀ a, a < 13 → ∀ b, b < 13 → a ≠ b → (TX6 a).2.1 ≠ (TX6 b).2.1 := by decide +kernel
theorem tyX6_ok : ∀ k, k < 13 → parseFieldDescriptor (TX6 k).2.2.1 = some (tyX6 k) := by decide +kernel
abbrev cX6_init : ByteArray := prog_8_method_1_code
def yX6_init : MethodName := ⟨RX6, "<init>", "()V"⟩
abbrev cX6_readText : ByteArray := prog_8_method_2_code
def yX6_readText : MethodName := ⟨RX6, "readText", "([BI)I"⟩
abbrev cX6_refuse : ByteArray := prog_8_method_3_code
def yX6_refuse : MethodName := ⟨RX6, "refuse", "(II)Z"⟩
abbrev cX6_isLetter : ByteArray := prog_8_method_4_code
def yX6_isLetter : MethodName := ⟨RX6, "isLetter", "(I)Z"⟩
abbrev cX6_isFigure : ByteArray := prog_8_method_5_code
def yX6_isFigure : MethodName := ⟨RX6, "isFigure", "(I)Z"⟩
abbrev cX6_step : ByteArray := prog_8_method_6_code
def yX6_step : MethodName := ⟨RX6, "step", "()Z"⟩
abbrev cX6_isWord : ByteArray := prog_8_method_7_code
def yX6_isWord : MethodName := ⟨RX6, "isWord", "(Ljava/lang/String;)Z"⟩
abbrev cX6_readLine : ByteArray := prog_8_method_8_code
def yX6_readLine : MethodName := ⟨RX6, "readLine", "()Z"⟩
abbrev cX6_readNumber : ByteArray := prog_8_method_9_code
def yX6_readNumber : MethodName := ⟨RX6, "readNumber", "(II)Z"⟩
abbrev cX6_readStop : ByteArray := prog_8_method_10_code
def yX6_readStop : MethodName := ⟨RX6, "readStop", "()Z"⟩
abbrev cX6_readThing : ByteArray := prog_8_method_11_code
def yX6_readThing : MethodName := ⟨RX6, "readThing", "()Z"⟩
abbrev cX6_kindRead : ByteArray := prog_8_method_12_code
def yX6_kindRead : MethodName := ⟨RX6, "kindRead", "()I"⟩
abbrev cX6_readLineOfThings : ByteArray := prog_8_method_13_code
def yX6_readLineOfThings : MethodName := ⟨RX6, "readLineOfThings", "()Z"⟩
abbrev cX6_takeLying : ByteArray := prog_8_method_14_code
def yX6_takeLying : MethodName := ⟨RX6, "takeLying", "(I)Z"⟩
abbrev cX6_readVisit : ByteArray := prog_8_method_15_code
def yX6_readVisit : MethodName := ⟨RX6, "readVisit", "(Z)Z"⟩
abbrev cX6_readChance : ByteArray := prog_8_method_16_code
def yX6_readChance : MethodName := ⟨RX6, "readChance", "()Z"⟩
abbrev cX6_settle : ByteArray := prog_8_method_17_code
def yX6_settle : MethodName := ⟨RX6, "settle", "()V"⟩
abbrev cX6_settleThing : ByteArray := prog_8_method_18_code
def yX6_settleThing : MethodName := ⟨RX6, "settleThing", "(II)V"⟩
def RX7 : String := "FirstPut$Rings"
def TX7 : u_T := fun k => match k with
  | 0 => ("FirstPut$Rings", "gets", "[I", true)
  | 1 => ("FirstPut$Rings", "mates", "[I", true)
  | 2 => ("FirstPut$Rings", "brought", "[I", true)
  | 3 => ("FirstPut$Rings", "pointsTo", "[I", true)
  | _ => ("FirstPut$Rings", "there", "I", false)
def tyX7 : Nat → FieldType := fun k => match k with
  | 0 => .array .int
  | 1 => .array .int
  | 2 => .array .int
  | 3 => .array .int
  | _ => .int
abbrev wsX70 : List Cond := u_ws RX7 TX7 5
theorem nmX7 : ∀ a, a < 5 → ∀ b, b < 5 → a ≠ b → (TX7 a).2.1 ≠ (TX7 b).2.1 := by decide +kernel
theorem tyX7_ok : ∀ k, k < 5 → parseFieldDescriptor (TX7 k).2.2.1 = some (tyX7 k) := by decide +kernel
abbrev cX7_init : ByteArray := prog_9_method_1_code
def yX7_init : MethodName := ⟨RX7, "<init>", "()V"⟩
abbrev cX7_form : ByteArray := prog_9_method_2_code
def yX7_form : MethodName := ⟨RX7, "form", "(LFirstPut$Goods;LFirstPut$Places;)V"⟩
abbrev cX7_gather : ByteArray := prog_9_method_3_code
def yX7_gather : MethodName := ⟨RX7, "gather", "(LFirstPut$Places;)V"⟩
abbrev cX7_isThere : ByteArray := prog_9_method_4_code
def yX7_isThere : MethodName := ⟨RX7, "isThere", "(I)Z"⟩
abbrev cX7_point : ByteArray := prog_9_method_5_code
def yX7_point : MethodName := ⟨RX7, "point", "(LFirstPut$Goods;)V"⟩
abbrev cX7_likesBetter : ByteArray := prog_9_method_6_code
def yX7_likesBetter : MethodName := ⟨RX7, "likesBetter", "(LFirstPut$Goods;III)Z"⟩
abbrev cX7_takeIfInRing : ByteArray := prog_9_method_7_code
def yX7_takeIfInRing : MethodName := ⟨RX7, "takeIfInRing", "(I)I"⟩
def RX8 : String := "FirstPut$Runs"
def TX8 : u_T := fun k => match k with
  | 0 => ("FirstPut$Runs", "stage", "[LFirstPut$Places;", true)
  | 1 => ("FirstPut$Runs", "tricked", "[LFirstPut$Places;", true)
  | 2 => ("FirstPut$Runs", "open", "[Z", true)
  | 3 => ("FirstPut$Runs", "bestWorth", "I", false)
  | 4 => ("FirstPut$Runs", "bestLine", "[I", true)
  | 5 => ("FirstPut$Runs", "triedLine", "[I", true)
  | _ => ("FirstPut$Runs", "share", "[J", true)
def tyX8 : Nat → FieldType := fun k => match k with
  | 0 => .array (.object "FirstPut$Places")
  | 1 => .array (.object "FirstPut$Places")
  | 2 => .array .boolean
  | 3 => .int
  | 4 => .array .int
  | 5 => .array .int
  | _ => .array .long
abbrev wsX80 : List Cond := u_ws RX8 TX8 7
theorem nmX8 : ∀ a, a < 7 → ∀ b, b < 7 → a ≠ b → (TX8 a).2.1 ≠ (TX8 b).2.1 := by decide +kernel
theorem tyX8_ok : ∀ k, k < 7 → parseFieldDescriptor (TX8 k).2.2.1 = some (tyX8 k) := by decide +kernel
abbrev cX8_init : ByteArray := prog_10_method_1_code
def yX8_init : MethodName := ⟨RX8, "<init>", "()V"⟩
abbrev cX8_behind : ByteArray := prog_10_method_2_code
def yX8_behind : MethodName := ⟨RX8, "behind", "(LFirstPut$Goods;LFirstPut$Visits;LFirstPut$Places;I)LFirstPut$Places;"⟩
abbrev cX8_tryTrick : ByteArray := prog_10_method_3_code
def yX8_tryTrick : MethodName := ⟨RX8, "tryTrick", "(LFirstPut$Goods;LFirstPut$Visits;LFirstPut$Places;II)V"⟩
abbrev cX8_goOnWithTrick : ByteArray := prog_10_method_4_code
def yX8_goOnWithTrick : MethodName := ⟨RX8, "goOnWithTrick", "(LFirstPut$Goods;LFirstPut$Visits;I)V"⟩
abbrev cX8_lineTrickedOf : ByteArray := prog_10_method_5_code
def yX8_lineTrickedOf : MethodName := ⟨RX8, "lineTrickedOf", "(LFirstPut$Goods;I)I"⟩
abbrev cX8_findMost : ByteArray := prog_10_method_6_code
def yX8_findMost : MethodName := ⟨RX8, "findMost", "(LFirstPut$Goods;LFirstPut$Visits;LFirstPut$Places;I)V"⟩
abbrev cX8_tryLines : ByteArray := prog_10_method_7_code
def yX8_tryLines : MethodName := ⟨RX8, "tryLines", "(LFirstPut$Goods;LFirstPut$Visits;II)V"⟩
abbrev cX8_takeIfBetter : ByteArray := prog_10_method_8_code
def yX8_takeIfBetter : MethodName := ⟨RX8, "takeIfBetter", "(I)V"⟩
abbrev cX8_findShares : ByteArray := prog_10_method_9_code
def yX8_findShares : MethodName := ⟨RX8, "findShares", "(LFirstPut$Goods;LFirstPut$Visits;LFirstPut$Places;I)J"⟩
abbrev cX8_spread : ByteArray := prog_10_method_10_code
def yX8_spread : MethodName := ⟨RX8, "spread", "(LFirstPut$Goods;LFirstPut$Visits;IIJ)V"⟩
def RX9 : String := "FirstPut$Sheet"
def TX9 : u_T := fun k => match k with
  | 0 => ("FirstPut$Sheet", "lane", "I", false)
  | 1 => ("FirstPut$Sheet", "size", "I", false)
  | _ => ("FirstPut$Sheet", "cell", "[I", true)
def tyX9 : Nat → FieldType := fun k => match k with
  | 0 => .int
  | 1 => .int
  | _ => .array .int
abbrev wsX90 : List Cond := u_ws RX9 TX9 3
theorem nmX9 : ∀ a, a < 3 → ∀ b, b < 3 → a ≠ b → (TX9 a).2.1 ≠ (TX9 b).2.1 := by decide +kernel
theorem tyX9_ok : ∀ k, k < 3 → parseFieldDescriptor (TX9 k).2.2.1 = some (tyX9 k) := by decide +kernel
abbrev cX9_init : ByteArray := prog_11_method_1_code
def yX9_init : MethodName := ⟨RX9, "<init>", "()V"⟩
abbrev cX9_isThere : ByteArray := prog_11_method_2_code
def yX9_isThere : MethodName := ⟨RX9, "isThere", "()Z"⟩
abbrev cX9_has : ByteArray := prog_11_method_3_code
def yX9_has : MethodName := ⟨RX9, "has", "(I)Z"⟩
abbrev cX9_hasVisit : ByteArray := prog_11_method_4_code
def yX9_hasVisit : MethodName := ⟨RX9, "hasVisit", "(II)Z"⟩
abbrev cX9_faultTakenAs : ByteArray := prog_11_method_5_code
def yX9_faultTakenAs : MethodName := ⟨RX9, "faultTakenAs", "(I)I"⟩
abbrev cX9_renew : ByteArray := prog_11_method_6_code
def yX9_renew : MethodName := ⟨RX9, "renew", "(II)V"⟩
abbrev cX9_write : ByteArray := prog_11_method_7_code
def yX9_write : MethodName := ⟨RX9, "write", "(II)V"⟩
def RX10 : String := "FirstPut$Visits"
def TX10 : u_T := fun k => match k with
  | 0 => ("FirstPut$Visits", "size", "I", false)
  | 1 => ("FirstPut$Visits", "day", "[I", true)
  | 2 => ("FirstPut$Visits", "who", "[I", true)
  | 3 => ("FirstPut$Visits", "at", "[I", true)
  | _ => ("FirstPut$Visits", "brings", "[I", true)
def tyX10 : Nat → FieldType := fun k => match k with
  | 0 => .int
  | 1 => .array .int
  | 2 => .array .int
  | 3 => .array .int
  | _ => .array .int
abbrev wsX100 : List Cond := u_ws RX10 TX10 5
theorem nmX10 : ∀ a, a < 5 → ∀ b, b < 5 → a ≠ b → (TX10 a).2.1 ≠ (TX10 b).2.1 := by decide +kernel
theorem tyX10_ok : ∀ k, k < 5 → parseFieldDescriptor (TX10 k).2.2.1 = some (tyX10 k) := by decide +kernel
abbrev cX10_init : ByteArray := prog_12_method_1_code
def yX10_init : MethodName := ⟨RX10, "<init>", "()V"⟩
abbrev cX10_copyFrom : ByteArray := prog_12_method_2_code
def yX10_copyFrom : MethodName := ⟨RX10, "copyFrom", "(LFirstPut$Visits;)V"⟩
abbrev cX10_has : ByteArray := prog_12_method_3_code
def yX10_has : MethodName := ⟨RX10, "has", "(I)Z"⟩
abbrev cX10_isDraw : ByteArray := prog_12_method_4_code
def yX10_isDraw : MethodName := ⟨RX10, "isDraw", "(I)Z"⟩
abbrev cX10_isDrawOf : ByteArray := prog_12_method_5_code
def yX10_isDrawOf : MethodName := ⟨RX10, "isDrawOf", "(II)Z"⟩
abbrev cX10_drawsOf : ByteArray := prog_12_method_6_code
def yX10_drawsOf : MethodName := ⟨RX10, "drawsOf", "(I)I"⟩
abbrev cX10_lastDay : ByteArray := prog_12_method_7_code
def yX10_lastDay : MethodName := ⟨RX10, "lastDay", "()I"⟩
abbrev cX10_add : ByteArray := prog_12_method_8_code
def yX10_add : MethodName := ⟨RX10, "add", "(IIII)Z"⟩
abbrev cX10_dropFirst : ByteArray := prog_12_method_9_code
def yX10_dropFirst : MethodName := ⟨RX10, "dropFirst", "(I)V"⟩
abbrev cX10_happens : ByteArray := prog_12_method_10_code
def yX10_happens : MethodName := ⟨RX10, "happens", "(LFirstPut$Goods;LFirstPut$Places;I)Z"⟩
def RX11 : String := "FirstPut"
def TX11 : u_T := fun k => match k with
  | 0 => ("FirstPut", "tape", "[B", true)
  | 1 => ("FirstPut", "tapeLength", "I", false)
  | 2 => ("FirstPut", "reader", "LFirstPut$Reader;", true)
  | 3 => ("FirstPut", "goods", "LFirstPut$Goods;", true)
  | 4 => ("FirstPut", "now", "LFirstPut$Places;", true)
  | 5 => ("FirstPut", "visits", "LFirstPut$Visits;", true)
  | 6 => ("FirstPut", "notes", "LFirstPut$Notes;", true)
  | 7 => ("FirstPut", "runs", "LFirstPut$Runs;", true)
  | 8 => ("FirstPut", "duelling", "LFirstPut$Duel;", true)
  | 9 => ("FirstPut", "fitting", "LFirstPut$Orders;", true)
  | 10 => ("FirstPut", "rings", "LFirstPut$Rings;", true)
  | 11 => ("FirstPut", "images", "[LFirstPut$Image;", true)
  | 12 => ("FirstPut", "sheets", "[LFirstPut$Sheet;", true)
  | _ => ("FirstPut", "tornBy", "I", false)
def tyX11 : Nat → FieldType := fun k => match k with
  | 0 => .array .byte
  | 1 => .int
  | 2 => .object "FirstPut$Reader"
  | 3 => .object "FirstPut$Goods"
  | 4 => .object "FirstPut$Places"
  | 5 => .object "FirstPut$Visits"
  | 6 => .object "FirstPut$Notes"
  | 7 => .object "FirstPut$Runs"
  | 8 => .object "FirstPut$Duel"
  | 9 => .object "FirstPut$Orders"
  | 10 => .object "FirstPut$Rings"
  | 11 => .array (.object "FirstPut$Image")
  | 12 => .array (.object "FirstPut$Sheet")
  | _ => .int
abbrev wsX110 : List Cond := u_ws RX11 TX11 14
theorem nmX11 : ∀ a, a < 14 → ∀ b, b < 14 → a ≠ b → (TX11 a).2.1 ≠ (TX11 b).2.1 := by decide +kernel
theorem tyX11_ok : ∀ k, k < 14 → parseFieldDescriptor (TX11 k).2.2.1 = some (tyX11 k) := by decide +kernel
abbrev cX11_init : ByteArray := prog_1_method_1_code
def yX11_init : MethodName := ⟨RX11, "<init>", "()V"⟩
abbrev cX11_feed : ByteArray := prog_1_method_2_code
def yX11_feed : MethodName := ⟨RX11, "feed", "(J)I"⟩
abbrev cX11_end : ByteArray := prog_1_method_3_code
def yX11_end : MethodName := ⟨RX11, "end", "(I)I"⟩
abbrev cX11_bank : ByteArray := prog_1_method_4_code
def yX11_bank : MethodName := ⟨RX11, "bank", "()I"⟩
abbrev cX11_fault : ByteArray := prog_1_method_5_code
def yX11_fault : MethodName := ⟨RX11, "fault", "()I"⟩
abbrev cX11_thing : ByteArray := prog_1_method_6_code
def yX11_thing : MethodName := ⟨RX11, "thing", "(II)I"⟩
abbrev cX11_line : ByteArray := prog_1_method_7_code
def yX11_line : MethodName := ⟨RX11, "line", "(II)I"⟩
abbrev cX11_visit : ByteArray := prog_1_method_8_code
def yX11_visit : MethodName := ⟨RX11, "visit", "(II)I"⟩
abbrev cX11_chance : ByteArray := prog_1_method_9_code
def yX11_chance : MethodName := ⟨RX11, "chance", "(I)I"⟩
abbrev cX11_holds : ByteArray := prog_1_method_10_code
def yX11_holds : MethodName := ⟨RX11, "holds", "(I)I"⟩
abbrev cX11_worth : ByteArray := prog_1_method_11_code
def yX11_worth : MethodName := ⟨RX11, "worth", "(I)I"⟩
abbrev cX11_put : ByteArray := prog_1_method_12_code
def yX11_put : MethodName := ⟨RX11, "put", "(III)I"⟩
abbrev cX11_draw : ByteArray := prog_1_method_13_code
def yX11_draw : MethodName := ⟨RX11, "draw", "(II)I"⟩
abbrev cX11_slip : ByteArray := prog_1_method_14_code
def yX11_slip : MethodName := ⟨RX11, "slip", "(III)I"⟩
abbrev cX11_come : ByteArray := prog_1_method_15_code
def yX11_come : MethodName := ⟨RX11, "come", "(IIII)I"⟩
abbrev cX11_cut : ByteArray := prog_1_method_16_code
def yX11_cut : MethodName := ⟨RX11, "cut", "(I)I"⟩
abbrev cX11_go : ByteArray := prog_1_method_17_code
def yX11_go : MethodName := ⟨RX11, "go", "(I)I"⟩
abbrev cX11_after : ByteArray := prog_1_method_18_code
def yX11_after : MethodName := ⟨RX11, "after", "(II)I"⟩
abbrev cX11_gains : ByteArray := prog_1_method_19_code
def yX11_gains : MethodName := ⟨RX11, "gains", "(II)I"⟩
abbrev cX11_vain : ByteArray := prog_1_method_20_code
def yX11_vain : MethodName := ⟨RX11, "vain", "()I"⟩
abbrev cX11_lost : ByteArray := prog_1_method_21_code
def yX11_lost : MethodName := ⟨RX11, "lost", "(I)I"⟩
abbrev cX11_since : ByteArray := prog_1_method_22_code
def yX11_since : MethodName := ⟨RX11, "since", "(II)I"⟩
abbrev cX11_extra : ByteArray := prog_1_method_23_code
def yX11_extra : MethodName := ⟨RX11, "extra", "(III)I"⟩
abbrev cX11_aim : ByteArray := prog_1_method_24_code
def yX11_aim : MethodName := ⟨RX11, "aim", "(II)I"⟩
abbrev cX11_trick : ByteArray := prog_1_method_25_code
def yX11_trick : MethodName := ⟨RX11, "trick", "(IIII)I"⟩
abbrev cX11_most : ByteArray := prog_1_method_26_code
def yX11_most : MethodName := ⟨RX11, "most", "(II)I"⟩
abbrev cX11_odds : ByteArray := prog_1_method_27_code
def yX11_odds : MethodName := ⟨RX11, "odds", "(III)J"⟩
abbrev cX11_likeliest : ByteArray := prog_1_method_28_code
def yX11_likeliest : MethodName := ⟨RX11, "likeliest", "(I)I"⟩
abbrev cX11_duel : ByteArray := prog_1_method_29_code
def yX11_duel : MethodName := ⟨RX11, "duel", "(IIIIII)I"⟩
abbrev cX11_noted : ByteArray := prog_1_method_30_code
def yX11_noted : MethodName := ⟨RX11, "noted", "(I)I"⟩
abbrev cX11_forget : ByteArray := prog_1_method_31_code
def yX11_forget : MethodName := ⟨RX11, "forget", "()I"⟩
abbrev cX11_orders : ByteArray := prog_1_method_32_code
def yX11_orders : MethodName := ⟨RX11, "orders", "(II)I"⟩
abbrev cX11_ring : ByteArray := prog_1_method_33_code
def yX11_ring : MethodName := ⟨RX11, "ring", "(I)I"⟩
abbrev cX11_with : ByteArray := prog_1_method_34_code
def yX11_with : MethodName := ⟨RX11, "with", "(I)I"⟩
abbrev cX11_join : ByteArray := prog_1_method_35_code
def yX11_join : MethodName := ⟨RX11, "join", "(I)I"⟩
abbrev cX11_keep : ByteArray := prog_1_method_36_code
def yX11_keep : MethodName := ⟨RX11, "keep", "(I)I"⟩
abbrev cX11_back : ByteArray := prog_1_method_37_code
def yX11_back : MethodName := ⟨RX11, "back", "(I)I"⟩
abbrev cX11_sheet : ByteArray := prog_1_method_38_code
def yX11_sheet : MethodName := ⟨RX11, "sheet", "(III)I"⟩
abbrev cX11_lay : ByteArray := prog_1_method_39_code
def yX11_lay : MethodName := ⟨RX11, "lay", "(III)I"⟩
abbrev cX11_read : ByteArray := prog_1_method_40_code
def yX11_read : MethodName := ⟨RX11, "read", "(IIII)I"⟩
abbrev cX11_torn : ByteArray := prog_1_method_41_code
def yX11_torn : MethodName := ⟨RX11, "torn", "()I"⟩
abbrev cX11_count : ByteArray := prog_1_method_42_code
def yX11_count : MethodName := ⟨RX11, "count", "(I)I"⟩
abbrev cX11_isOne : ByteArray := prog_1_method_43_code
def yX11_isOne : MethodName := ⟨RX11, "isOne", "(I)Z"⟩
abbrev cX11_isWithin : ByteArray := prog_1_method_44_code
def yX11_isWithin : MethodName := ⟨RX11, "isWithin", "(II)Z"⟩
abbrev cX11_tellVisit : ByteArray := prog_1_method_45_code
def yX11_tellVisit : MethodName := ⟨RX11, "tellVisit", "(IIII)I"⟩
abbrev cX11_tellVisitOf : ByteArray := prog_1_method_46_code
def yX11_tellVisitOf : MethodName := ⟨RX11, "tellVisitOf", "(LFirstPut$Sheet;I)I"⟩
abbrev cX11_greatestDivisor : ByteArray := prog_1_method_47_code
def yX11_greatestDivisor : MethodName := ⟨RX11, "greatestDivisor", "(JJ)J"⟩
abbrev cX11_givenSpot : ByteArray := prog_1_method_48_code
def yX11_givenSpot : MethodName := ⟨RX11, "givenSpot", "(LFirstPut$Goods;I[III)I"⟩
def RX12 : String := "FirstPutModel"
def TX12 : u_T := fun k => match k with
  | 0 => ("FirstPutModel", "state", "[I", true)
  | 1 => ("FirstPutModel", "weights", "[I", true)
  | 2 => ("FirstPutModel", "values", "[I", true)
  | 3 => ("FirstPutModel", "kinds", "[I", true)
  | 4 => ("FirstPutModel", "thingMany", "I", false)
  | 5 => ("FirstPutModel", "lineMany", "I", false)
  | 6 => ("FirstPutModel", "chanceOf", "I", false)
  | 7 => ("FirstPutModel", "readPage", "[I", true)
  | 8 => ("FirstPutModel", "readWeights", "[I", true)
  | 9 => ("FirstPutModel", "readValues", "[I", true)
  | 10 => ("FirstPutModel", "readKinds", "[I", true)
  | 11 => ("FirstPutModel", "readThings", "I", false)
  | 12 => ("FirstPutModel", "readLines", "I", false)
  | 13 => ("FirstPutModel", "readChance", "I", false)
  | 14 => ("FirstPutModel", "hasChance", "Z", false)
  | 15 => ("FirstPutModel", "highThing", "I", false)
  | 16 => ("FirstPutModel", "highLine", "I", false)
  | 17 => ("FirstPutModel", "lying", "I", false)
  | 18 => ("FirstPutModel", "tape", "[I", true)
  | 19 => ("FirstPutModel", "taped", "I", false)
  | 20 => ("FirstPutModel", "fault", "I", false)
  | 21 => ("FirstPutModel", "broken", "I", false)
  | 22 => ("FirstPutModel", "brokenAt", "I", false)
  | 23 => ("FirstPutModel", "spot", "I", false)
  | 24 => ("FirstPutModel", "here", "I", false)
  | 25 => ("FirstPutModel", "token", "I", false)
  | 26 => ("FirstPutModel", "value", "I", false)
  | 27 => ("FirstPutModel", "cuts", "[I", true)
  | 28 => ("FirstPutModel", "letters", "[I", true)
  | 29 => ("FirstPutModel", "levels", "[I", true)
  | 30 => ("FirstPutModel", "chosen", "[I", true)
  | 31 => ("FirstPutModel", "best", "[I", true)
  | 32 => ("FirstPutModel", "likely", "[J", true)
  | 33 => ("FirstPutModel", "allWays", "J", false)
  | 34 => ("FirstPutModel", "folds", "[I", true)
  | 35 => ("FirstPutModel", "row", "[I", true)
  | 36 => ("FirstPutModel", "firstRow", "[I", true)
  | 37 => ("FirstPutModel", "brings", "[I", true)
  | 38 => ("FirstPutModel", "gets", "[I", true)
  | 39 => ("FirstPutModel", "withs", "[I", true)
  | 40 => ("FirstPutModel", "isKept", "[Z", true)
  | 41 => ("FirstPutModel", "lanes", "[I", true)
  | 42 => ("FirstPutModel", "lengths", "[I", true)
  | 43 => ("FirstPutModel", "cells", "[I", true)
  | _ => ("FirstPutModel", "torn", "I", false)
def tyX12 : Nat → FieldType := fun k => match k with
  | 0 => .array .int
  | 1 => .array .int
  | 2 => .array .int
  | 3 => .array .int
  | 4 => .int
  | 5 => .int
  | 6 => .int
  | 7 => .array .int
  | 8 => .array .int
  | 9 => .array .int
  | 10 => .array .int
  | 11 => .int
  | 12 => .int
  | 13 => .int
  | 14 => .boolean
  | 15 => .int
  | 16 => .int
  | 17 => .int
  | 18 => .array .int
  | 19 => .int
  | 20 => .int
  | 21 => .int
  | 22 => .int
  | 23 => .int
  | 24 => .int
  | 25 => .int
  | 26 => .int
  | 27 => .array .int
  | 28 => .array .int
  | 29 => .array .int
  | 30 => .array .int
  | 31 => .array .int
  | 32 => .array .long
  | 33 => .long
  | 34 => .array .int
  | 35 => .array .int
  | 36 => .array .int
  | 37 => .array .int
  | 38 => .array .int
  | 39 => .array .int
  | 40 => .array .boolean
  | 41 => .array .int
  | 42 => .array .int
  | 43 => .array .int
  | _ => .int
abbrev wsX120 : List Cond := u_ws RX12 TX12 45
theorem nmX12 : ∀ a, a < 45 → ∀ b, b < 45 → a ≠ b → (TX12 a).2.1 ≠ (TX12 b).2.1 := by decide +kernel
theorem tyX12_ok : ∀ k, k < 45 → parseFieldDescriptor (TX12 k).2.2.1 = some (tyX12 k) := by decide +kernel
abbrev cX12_init : ByteArray := prog_14_method_1_code
def yX12_init : MethodName := ⟨RX12, "<init>", "()V"⟩
abbrev cX12_in : ByteArray := prog_14_method_3_code
def yX12_in : MethodName := ⟨RX12, "in", "(JJJ)Z"⟩
abbrev cX12_feed : ByteArray := prog_14_method_4_code
def yX12_feed : MethodName := ⟨RX12, "feed", "(J)I"⟩
abbrev cX12_end : ByteArray := prog_14_method_5_code
def yX12_end : MethodName := ⟨RX12, "end", "(I)I"⟩
abbrev cX12_byteAt : ByteArray := prog_14_method_6_code
def yX12_byteAt : MethodName := ⟨RX12, "byteAt", "(I)I"⟩
abbrev cX12_fails : ByteArray := prog_14_method_7_code
def yX12_fails : MethodName := ⟨RX12, "fails", "(I)V"⟩
abbrev cX12_nameHere : ByteArray := prog_14_method_8_code
def yX12_nameHere : MethodName := ⟨RX12, "nameHere", "()I"⟩
abbrev cX12_step : ByteArray := prog_14_method_9_code
def yX12_step : MethodName := ⟨RX12, "step", "()V"⟩
abbrev cX12_looks : ByteArray := prog_14_method_10_code
def yX12_looks : MethodName := ⟨RX12, "looks", "(II)V"⟩
abbrev cX12_number : ByteArray := prog_14_method_11_code
def yX12_number : MethodName := ⟨RX12, "number", "(II)I"⟩
abbrev cX12_readThing : ByteArray := prog_14_method_12_code
def yX12_readThing : MethodName := ⟨RX12, "readThing", "()V"⟩
abbrev cX12_readALine : ByteArray := prog_14_method_13_code
def yX12_readALine : MethodName := ⟨RX12, "readALine", "()V"⟩
abbrev cX12_readVisit : ByteArray := prog_14_method_14_code
def yX12_readVisit : MethodName := ⟨RX12, "readVisit", "(Z)V"⟩
abbrev cX12_readLine : ByteArray := prog_14_method_15_code
def yX12_readLine : MethodName := ⟨RX12, "readLine", "()V"⟩
abbrev cX12_takes : ByteArray := prog_14_method_16_code
def yX12_takes : MethodName := ⟨RX12, "takes", "()V"⟩
abbrev cX12_bank : ByteArray := prog_14_method_17_code
def yX12_bank : MethodName := ⟨RX12, "bank", "()I"⟩
abbrev cX12_fault : ByteArray := prog_14_method_18_code
def yX12_fault : MethodName := ⟨RX12, "fault", "()I"⟩
abbrev cX12_isThing : ByteArray := prog_14_method_19_code
def yX12_isThing : MethodName := ⟨RX12, "isThing", "(I)Z"⟩
abbrev cX12_isOne : ByteArray := prog_14_method_20_code
def yX12_isOne : MethodName := ⟨RX12, "isOne", "(I)Z"⟩
abbrev cX12_isLine : ByteArray := prog_14_method_21_code
def yX12_isLine : MethodName := ⟨RX12, "isLine", "(I)Z"⟩
abbrev cX12_visits : ByteArray := prog_14_method_22_code
def yX12_visits : MethodName := ⟨RX12, "visits", "()I"⟩
abbrev cX12_lie : ByteArray := prog_14_method_23_code
def yX12_lie : MethodName := ⟨RX12, "lie", "(II)I"⟩
abbrev cX12_lies : ByteArray := prog_14_method_24_code
def yX12_lies : MethodName := ⟨RX12, "lies", "(III)I"⟩
abbrev cX12_placeOf : ByteArray := prog_14_method_25_code
def yX12_placeOf : MethodName := ⟨RX12, "placeOf", "(I)I"⟩
abbrev cX12_thing : ByteArray := prog_14_method_26_code
def yX12_thing : MethodName := ⟨RX12, "thing", "(II)I"⟩
abbrev cX12_givesAt : ByteArray := prog_14_method_27_code
def yX12_givesAt : MethodName := ⟨RX12, "givesAt", "(II)I"⟩
abbrev cX12_gives : ByteArray := prog_14_method_28_code
def yX12_gives : MethodName := ⟨RX12, "gives", "(II)I"⟩
abbrev cX12_line : ByteArray := prog_14_method_29_code
def yX12_line : MethodName := ⟨RX12, "line", "(II)I"⟩
abbrev cX12_visit : ByteArray := prog_14_method_30_code
def yX12_visit : MethodName := ⟨RX12, "visit", "(II)I"⟩
abbrev cX12_chance : ByteArray := prog_14_method_31_code
def yX12_chance : MethodName := ⟨RX12, "chance", "(I)I"⟩
abbrev cX12_holdsAt : ByteArray := prog_14_method_32_code
def yX12_holdsAt : MethodName := ⟨RX12, "holdsAt", "(II)I"⟩
abbrev cX12_holds : ByteArray := prog_14_method_33_code
def yX12_holds : MethodName := ⟨RX12, "holds", "(I)I"⟩
abbrev cX12_worthAt : ByteArray := prog_14_method_34_code
def yX12_worthAt : MethodName := ⟨RX12, "worthAt", "(II)I"⟩
abbrev cX12_worth : ByteArray := prog_14_method_35_code
def yX12_worth : MethodName := ⟨RX12, "worth", "(I)I"⟩
abbrev cX12_laysIn : ByteArray := prog_14_method_36_code
def yX12_laysIn : MethodName := ⟨RX12, "laysIn", "(IIII)V"⟩
abbrev cX12_takesOut : ByteArray := prog_14_method_37_code
def yX12_takesOut : MethodName := ⟨RX12, "takesOut", "(III)I"⟩
abbrev cX12_puts : ByteArray := prog_14_method_38_code
def yX12_puts : MethodName := ⟨RX12, "puts", "(IIII)Z"⟩
abbrev cX12_draws : ByteArray := prog_14_method_39_code
def yX12_draws : MethodName := ⟨RX12, "draws", "(III)I"⟩
abbrev cX12_put : ByteArray := prog_14_method_40_code
def yX12_put : MethodName := ⟨RX12, "put", "(III)I"⟩
abbrev cX12_draw : ByteArray := prog_14_method_41_code
def yX12_draw : MethodName := ⟨RX12, "draw", "(II)I"⟩
abbrev cX12_slip : ByteArray := prog_14_method_42_code
def yX12_slip : MethodName := ⟨RX12, "slip", "(III)I"⟩
abbrev cX12_comes : ByteArray := prog_14_method_43_code
def yX12_comes : MethodName := ⟨RX12, "comes", "(IIII)I"⟩
abbrev cX12_come : ByteArray := prog_14_method_44_code
def yX12_come : MethodName := ⟨RX12, "come", "(IIII)I"⟩
abbrev cX12_cut : ByteArray := prog_14_method_45_code
def yX12_cut : MethodName := ⟨RX12, "cut", "(I)I"⟩
abbrev cX12_visits2 : ByteArray := prog_14_method_46_code
def yX12_visits2 : MethodName := ⟨RX12, "visits2", "(III)Z"⟩
abbrev cX12_happens : ByteArray := prog_14_method_47_code
def yX12_happens : MethodName := ⟨RX12, "happens", "(II)Z"⟩
abbrev cX12_go : ByteArray := prog_14_method_48_code
def yX12_go : MethodName := ⟨RX12, "go", "(I)I"⟩
abbrev cX12_copies : ByteArray := prog_14_method_49_code
def yX12_copies : MethodName := ⟨RX12, "copies", "(II)V"⟩
abbrev cX12_runs : ByteArray := prog_14_method_50_code
def yX12_runs : MethodName := ⟨RX12, "runs", "(I)I"⟩
abbrev cX12_after : ByteArray := prog_14_method_51_code
def yX12_after : MethodName := ⟨RX12, "after", "(II)I"⟩
abbrev cX12_gains : ByteArray := prog_14_method_52_code
def yX12_gains : MethodName := ⟨RX12, "gains", "(II)I"⟩
abbrev cX12_vain : ByteArray := prog_14_method_53_code
def yX12_vain : MethodName := ⟨RX12, "vain", "()I"⟩
abbrev cX12_lost : ByteArray := prog_14_method_54_code
def yX12_lost : MethodName := ⟨RX12, "lost", "(I)I"⟩
abbrev cX12_since : ByteArray := prog_14_method_55_code
def yX12_since : MethodName := ⟨RX12, "since", "(II)I"⟩
abbrev cX12_extra : ByteArray := prog_14_method_56_code
def yX12_extra : MethodName := ⟨RX12, "extra", "(III)I"⟩
abbrev cX12_aim : ByteArray := prog_14_method_57_code
def yX12_aim : MethodName := ⟨RX12, "aim", "(II)I"⟩
abbrev cX12_isTrick : ByteArray := prog_14_method_58_code
def yX12_isTrick : MethodName := ⟨RX12, "isTrick", "(IIIIII)Z"⟩
abbrev cX12_trick : ByteArray := prog_14_method_59_code
def yX12_trick : MethodName := ⟨RX12, "trick", "(IIII)I"⟩
abbrev cX12_saves : ByteArray := prog_14_method_60_code
def yX12_saves : MethodName := ⟨RX12, "saves", "(I)V"⟩
abbrev cX12_isOwn : ByteArray := prog_14_method_61_code
def yX12_isOwn : MethodName := ⟨RX12, "isOwn", "(II)Z"⟩
abbrev cX12_runsFrom : ByteArray := prog_14_method_62_code
def yX12_runsFrom : MethodName := ⟨RX12, "runsFrom", "(II)V"⟩
abbrev cX12_nextLines : ByteArray := prog_14_method_63_code
def yX12_nextLines : MethodName := ⟨RX12, "nextLines", "(I)I"⟩
abbrev cX12_most : ByteArray := prog_14_method_64_code
def yX12_most : MethodName := ⟨RX12, "most", "(II)I"⟩
abbrev cX12_layChances : ByteArray := prog_14_method_65_code
def yX12_layChances : MethodName := ⟨RX12, "layChances", "(I)V"⟩
abbrev cX12_lowest : ByteArray := prog_14_method_66_code
def yX12_lowest : MethodName := ⟨RX12, "lowest", "(JJI)J"⟩
abbrev cX12_odds : ByteArray := prog_14_method_67_code
def yX12_odds : MethodName := ⟨RX12, "odds", "(III)J"⟩
abbrev cX12_likeliest : ByteArray := prog_14_method_68_code
def yX12_likeliest : MethodName := ⟨RX12, "likeliest", "(I)I"⟩
abbrev cX12_plays : ByteArray := prog_14_method_69_code
def yX12_plays : MethodName := ⟨RX12, "plays", "(IIIIII)I"⟩
abbrev cX12_duel : ByteArray := prog_14_method_70_code
def yX12_duel : MethodName := ⟨RX12, "duel", "(IIIIII)I"⟩
abbrev cX12_noted : ByteArray := prog_14_method_71_code
def yX12_noted : MethodName := ⟨RX12, "noted", "(I)I"⟩
abbrev cX12_forget : ByteArray := prog_14_method_72_code
def yX12_forget : MethodName := ⟨RX12, "forget", "()I"⟩
abbrev cX12_fitsRow : ByteArray := prog_14_method_73_code
def yX12_fitsRow : MethodName := ⟨RX12, "fitsRow", "(II)Z"⟩
abbrev cX12_nextRow : ByteArray := prog_14_method_74_code
def yX12_nextRow : MethodName := ⟨RX12, "nextRow", "(I)Z"⟩
abbrev cX12_orders : ByteArray := prog_14_method_75_code
def yX12_orders : MethodName := ⟨RX12, "orders", "(II)I"⟩
abbrev cX12_likes : ByteArray := prog_14_method_76_code
def yX12_likes : MethodName := ⟨RX12, "likes", "(II)I"⟩
abbrev cX12_ringOf : ByteArray := prog_14_method_77_code
def yX12_ringOf : MethodName := ⟨RX12, "ringOf", "(II)I"⟩
abbrev cX12_layRings : ByteArray := prog_14_method_78_code
def yX12_layRings : MethodName := ⟨RX12, "layRings", "()V"⟩
abbrev cX12_ring : ByteArray := prog_14_method_79_code
def yX12_ring : MethodName := ⟨RX12, "ring", "(I)I"⟩
abbrev cX12_with : ByteArray := prog_14_method_80_code
def yX12_with : MethodName := ⟨RX12, "with", "(I)I"⟩
abbrev cX12_join : ByteArray := prog_14_method_81_code
def yX12_join : MethodName := ⟨RX12, "join", "(I)I"⟩
abbrev cX12_copiesAll : ByteArray := prog_14_method_82_code
def yX12_copiesAll : MethodName := ⟨RX12, "copiesAll", "(II)V"⟩
abbrev cX12_keep : ByteArray := prog_14_method_83_code
def yX12_keep : MethodName := ⟨RX12, "keep", "(I)I"⟩
abbrev cX12_back : ByteArray := prog_14_method_84_code
def yX12_back : MethodName := ⟨RX12, "back", "(I)I"⟩
abbrev cX12_sheet : ByteArray := prog_14_method_85_code
def yX12_sheet : MethodName := ⟨RX12, "sheet", "(III)I"⟩
abbrev cX12_lay : ByteArray := prog_14_method_86_code
def yX12_lay : MethodName := ⟨RX12, "lay", "(III)I"⟩
abbrev cX12_read : ByteArray := prog_14_method_87_code
def yX12_read : MethodName := ⟨RX12, "read", "(IIII)I"⟩
abbrev cX12_torn : ByteArray := prog_14_method_88_code
def yX12_torn : MethodName := ⟨RX12, "torn", "()I"⟩
abbrev cX12_count : ByteArray := prog_14_method_89_code
def yX12_count : MethodName := ⟨RX12, "count", "(I)I"⟩
def RJx145de : String := "java/io/Serializable"
def TJx145de : u_T := fun k => match k with
  | _ => ("", "", "", false)
def tyJx145de : Nat → FieldType := fun k => match k with
  | _ => .int
abbrev wsJx145de0 : List Cond := u_ws RJx145de TJx145de 0
theorem nmJx145de : ∀ a, a < 0 → ∀ b, b < 0 → a ≠ b → (TJx145de a).2.1 ≠ (TJx145de b).2.1 := by decide +kernel
theorem tyJx145de_ok : ∀ k, k < 0 → parseFieldDescriptor (TJx145de k).2.2.1 = some (tyJx145de k) := by decide +kernel
def RJx9f9b0 : String := "java/lang/CharSequence"
def TJx9f9b0 : u_T := fun k => match k with
  | _ => ("", "", "", false)
def tyJx9f9b0 : Nat → FieldType := fun k => match k with
  | _ => .int
abbrev wsJx9f9b00 : List Cond := u_ws RJx9f9b0 TJx9f9b0 0
theorem nmJx9f9b0 : ∀ a, a < 0 → ∀ b, b < 0 → a ≠ b → (TJx9f9b0 a).2.1 ≠ (TJx9f9b0 b).2.1 := by decide +kernel
theorem tyJx9f9b0_ok : ∀ k, k < 0 → parseFieldDescriptor (TJx9f9b0 k).2.2.1 = some (tyJx9f9b0 k) := by decide +kernel
def RJxb160c : String := "java/lang/Comparable"
def TJxb160c : u_T := fun k => match k with
  | _ => ("", "", "", false)
def tyJxb160c : Nat → FieldType := fun k => match k with
  | _ => .int
abbrev wsJxb160c0 : List Cond := u_ws RJxb160c TJxb160c 0
theorem nmJxb160c : ∀ a, a < 0 → ∀ b, b < 0 → a ≠ b → (TJxb160c a).2.1 ≠ (TJxb160c b).2.1 := by decide +kernel
theorem tyJxb160c_ok : ∀ k, k < 0 → parseFieldDescriptor (TJxb160c k).2.2.1 = some (tyJxb160c k) := by decide +kernel
def RJ0 : String := "java/lang/String"
def TJ0 : u_T := fun k => match k with
  | _ => ("", "", "", false)
def tyJ0 : Nat → FieldType := fun k => match k with
  | _ => .int
abbrev wsJ00 : List Cond := u_ws RJ0 TJ0 0
theorem nmJ0 : ∀ a, a < 0 → ∀ b, b < 0 → a ≠ b → (TJ0 a).2.1 ≠ (TJ0 b).2.1 := by decide +kernel
theorem tyJ0_ok : ∀ k, k < 0 → parseFieldDescriptor (TJ0 k).2.2.1 = some (tyJ0 k) := by decide +kernel
abbrev cJ0_length_8abf5 : ByteArray := prog_15_method_54_code
def yJ0_length_8abf5 : MethodName := ⟨RJ0, "length", "()I"⟩
abbrev cJ0_charAt_5068e : ByteArray := prog_15_method_56_code
def yJ0_charAt_5068e : MethodName := ⟨RJ0, "charAt", "(I)C"⟩
abbrev cJ0_coder_7d493 : ByteArray := prog_15_method_152_code
def yJ0_coder_7d493 : MethodName := ⟨RJ0, "coder", "()B"⟩
abbrev cJ0_isLatin1_aae02 : ByteArray := prog_15_method_154_code
def yJ0_isLatin1_aae02 : MethodName := ⟨RJ0, "isLatin1", "()Z"⟩
abbrev cJ0_checkIndex_df160 : ByteArray := prog_15_method_155_code
def yJ0_checkIndex_df160 : MethodName := ⟨RJ0, "checkIndex", "(II)V"⟩
def RJ1 : String := "java/lang/StringLatin1"
def TJ1 : u_T := fun k => match k with
  | _ => ("", "", "", false)
def tyJ1 : Nat → FieldType := fun k => match k with
  | _ => .int
abbrev wsJ10 : List Cond := u_ws RJ1 TJ1 0
theorem nmJ1 : ∀ a, a < 0 → ∀ b, b < 0 → a ≠ b → (TJ1 a).2.1 ≠ (TJ1 b).2.1 := by decide +kernel
theorem tyJ1_ok : ∀ k, k < 0 → parseFieldDescriptor (TJ1 k).2.2.1 = some (tyJ1 k) := by decide +kernel
abbrev cJ1_charAt_3b067 : ByteArray := prog_16_method_2_code
def yJ1_charAt_3b067 : MethodName := ⟨RJ1, "charAt", "([BI)C"⟩
def RJ2 : String := "java/lang/StringUTF16"
def TJ2 : u_T := fun k => match k with
  | _ => ("", "", "", false)
def tyJ2 : Nat → FieldType := fun k => match k with
  | _ => .int
abbrev wsJ20 : List Cond := u_ws RJ2 TJ2 0
theorem nmJ2 : ∀ a, a < 0 → ∀ b, b < 0 → a ≠ b → (TJ2 a).2.1 ≠ (TJ2 b).2.1 := by decide +kernel
theorem tyJ2_ok : ∀ k, k < 0 → parseFieldDescriptor (TJ2 k).2.2.1 = some (tyJ2 k) := by decide +kernel
abbrev cJ2_getChar_3b067 : ByteArray := prog_17_method_5_code
def yJ2_getChar_3b067 : MethodName := ⟨RJ2, "getChar", "([BI)C"⟩
abbrev cJ2_length_9d52b : ByteArray := prog_17_method_6_code
def yJ2_length_9d52b : MethodName := ⟨RJ2, "length", "([B)I"⟩
abbrev cJ2_charAt_3b067 : ByteArray := prog_17_method_83_code
def yJ2_charAt_3b067 : MethodName := ⟨RJ2, "charAt", "([BI)C"⟩
abbrev cJ2_checkIndex_2214a : ByteArray := prog_17_method_91_code
def yJ2_checkIndex_2214a : MethodName := ⟨RJ2, "checkIndex", "(I[B)V"⟩
def RJ10 : String := "java/lang/System"
def TJ10 : u_T := fun k => match k with
  | _ => ("", "", "", false)
def tyJ10 : Nat → FieldType := fun k => match k with
  | _ => .int
abbrev wsJ100 : List Cond := u_ws RJ10 TJ10 0
theorem nmJ10 : ∀ a, a < 0 → ∀ b, b < 0 → a ≠ b → (TJ10 a).2.1 ≠ (TJ10 b).2.1 := by decide +kernel
theorem tyJ10_ok : ∀ k, k < 0 → parseFieldDescriptor (TJ10 k).2.2.1 = some (tyJ10 k) := by decide +kernel
def RJxfd54e : String := "java/lang/constant/Constable"
def TJxfd54e : u_T := fun k => match k with
  | _ => ("", "", "", false)
def tyJxfd54e : Nat → FieldType := fun k => match k with
  | _ => .int
abbrev wsJxfd54e0 : List Cond := u_ws RJxfd54e TJxfd54e 0
theorem nmJxfd54e : ∀ a, a < 0 → ∀ b, b < 0 → a ≠ b → (TJxfd54e a).2.1 ≠ (TJxfd54e b).2.1 := by decide +kernel
theorem tyJxfd54e_ok : ∀ k, k < 0 → parseFieldDescriptor (TJxfd54e k).2.2.1 = some (tyJxfd54e k) := by decide +kernel
def RJx3cf43 : String := "java/lang/constant/ConstantDesc"
def TJx3cf43 : u_T := fun k => match k with
  | _ => ("", "", "", false)
def tyJx3cf43 : Nat → FieldType := fun k => match k with
  | _ => .int
abbrev wsJx3cf430 : List Cond := u_ws RJx3cf43 TJx3cf43 0
theorem nmJx3cf43 : ∀ a, a < 0 → ∀ b, b < 0 → a ≠ b → (TJx3cf43 a).2.1 ≠ (TJx3cf43 b).2.1 := by decide +kernel
theorem tyJx3cf43_ok : ∀ k, k < 0 → parseFieldDescriptor (TJx3cf43 k).2.2.1 = some (tyJx3cf43 k) := by decide +kernel
def RJ7 : String := "java/util/Arrays"
def TJ7 : u_T := fun k => match k with
  | _ => ("", "", "", false)
def tyJ7 : Nat → FieldType := fun k => match k with
  | _ => .int
abbrev wsJ70 : List Cond := u_ws RJ7 TJ7 0
theorem nmJ7 : ∀ a, a < 0 → ∀ b, b < 0 → a ≠ b → (TJ7 a).2.1 ≠ (TJ7 b).2.1 := by decide +kernel
theorem tyJ7_ok : ∀ k, k < 0 → parseFieldDescriptor (TJ7 k).2.2.1 = some (tyJ7 k) := by decide +kernel
abbrev cJ7_fill_d0a16 : ByteArray := prog_19_method_101_code
def yJ7_fill_d0a16 : MethodName := ⟨RJ7, "fill", "([JJ)V"⟩
abbrev cJ7_fill_53178 : ByteArray := prog_19_method_103_code
def yJ7_fill_53178 : MethodName := ⟨RJ7, "fill", "([II)V"⟩
def RJ3 : String := "jdk/internal/util/Preconditions"
def TJ3 : u_T := fun k => match k with
  | _ => ("", "", "", false)
def tyJ3 : Nat → FieldType := fun k => match k with
  | _ => .int
abbrev wsJ30 : List Cond := u_ws RJ3 TJ3 0
theorem nmJ3 : ∀ a, a < 0 → ∀ b, b < 0 → a ≠ b → (TJ3 a).2.1 ≠ (TJ3 b).2.1 := by decide +kernel
theorem tyJ3_ok : ∀ k, k < 0 → parseFieldDescriptor (TJ3 k).2.2.1 = some (tyJ3 k) := by decide +kernel
abbrev cJ3_checkIndex_8e157 : ByteArray := prog_20_method_11_code
def yJ3_checkIndex_8e157 : MethodName := ⟨RJ3, "checkIndex", "(IILjava/util/function/BiFunction;)I"⟩
def RL : String := "FirstPutLaw"
abbrev cL_law : ByteArray := code
def yL_law : MethodName := ⟨RL, "law", "([I)Z"⟩
abbrev vwCl : List vw_C := [(RX0, TX0, 6), (RX1, TX1, 6), (RX2, TX2, 4), (RX3, TX3, 2), (RX4, TX4, 5), (RX5, TX5, 4), (RX6, TX6, 13), (RX7, TX7, 5), (RX8, TX8, 7), (RX9, TX9, 3), (RX10, TX10, 5), (RX11, TX11, 14), (RX12, TX12, 45)]
abbrev fp_MR : Type := MethodName × ByteArray × Nat × Option FieldType
def kX0_init : fp_MR := (yX0_init, cX0_init, 1, none)
def kX0_prepare : fp_MR := (yX0_prepare, cX0_prepare, 7, none)
def kX0_canDo : fp_MR := (yX0_canDo, cX0_canDo, 4, (some .boolean))
def kX11_givenSpot : fp_MR := (yX11_givenSpot, cX11_givenSpot, 7, (some .int))
def kX0_takeGiven : fp_MR := (yX0_takeGiven, cX0_takeGiven, 8, (some .int))
def kX1_valueTo : fp_MR := (yX1_valueTo, cX1_valueTo, 3, (some .int))
def kX0_perform : fp_MR := (yX0_perform, cX0_perform, 7, (some .int))
def kX0_takeBack : fp_MR := (yX0_takeBack, cX0_takeBack, 3, none)
def kX0_noteFirst : fp_MR := (yX0_noteFirst, cX0_noteFirst, 3, none)
def kX0_outcome : fp_MR := (yX0_outcome, cX0_outcome, 10, (some .int))
def kX0_fight : fp_MR := (yX0_fight, cX0_fight, 3, (some .int))
def kX1_init : fp_MR := (yX1_init, cX1_init, 1, none)
def kX1_clear : fp_MR := (yX1_clear, cX1_clear, 1, none)
def kX1_copyFrom : fp_MR := (yX1_copyFrom, cX1_copyFrom, 2, none)
def kX1_hasThing : fp_MR := (yX1_hasThing, cX1_hasThing, 2, (some .boolean))
def kX1_hasLine : fp_MR := (yX1_hasLine, cX1_hasLine, 2, (some .boolean))
def kJ7_fill_53178 : fp_MR := (yJ7_fill_53178, cJ7_fill_53178, 4, none)
def kX5_init : fp_MR := (yX5_init, cX5_init, 1, none)
def kX10_init : fp_MR := (yX10_init, cX10_init, 1, none)
def kX3_init : fp_MR := (yX3_init, cX3_init, 1, none)
def kX2_init : fp_MR := (yX2_init, cX2_init, 1, none)
def kX3_copyFrom : fp_MR := (yX3_copyFrom, cX3_copyFrom, 2, none)
def kX3_spotOf : fp_MR := (yX3_spotOf, cX3_spotOf, 3, (some .int))
def kX3_add : fp_MR := (yX3_add, cX3_add, 2, (some .boolean))
def kX4_init : fp_MR := (yX4_init, cX4_init, 1, none)
def kX4_prepare : fp_MR := (yX4_prepare, cX4_prepare, 4, none)
def kX4_weightThatCounts : fp_MR := (yX4_weightThatCounts, cX4_weightThatCounts, 3, (some .int))
def kX4_isMember : fp_MR := (yX4_isMember, cX4_isMember, 3, (some .boolean))
def kX4_isLightestBehind : fp_MR := (yX4_isLightestBehind, cX4_isLightestBehind, 8, (some .boolean))
def kX4_canFit : fp_MR := (yX4_canFit, cX4_canFit, 4, (some .boolean))
def kX4_choicesAt : fp_MR := (yX4_choicesAt, cX4_choicesAt, 9, (some .int))
def kX4_howMany : fp_MR := (yX4_howMany, cX4_howMany, 6, (some .int))
def kX4_isPlaced : fp_MR := (yX4_isPlaced, cX4_isPlaced, 2, (some .boolean))
def kX4_mayStand : fp_MR := (yX4_mayStand, cX4_mayStand, 7, (some .boolean))
def kX4_findFirst : fp_MR := (yX4_findFirst, cX4_findFirst, 8, none)
def kX5_clear : fp_MR := (yX5_clear, cX5_clear, 1, none)
def kX5_copyFrom : fp_MR := (yX5_copyFrom, cX5_copyFrom, 2, none)
def kX5_heldBy : fp_MR := (yX5_heldBy, cX5_heldBy, 4, (some .int))
def kX5_leastHeldBy : fp_MR := (yX5_leastHeldBy, cX5_leastHeldBy, 3, (some .int))
def kX5_worthTo : fp_MR := (yX5_worthTo, cX5_worthTo, 5, (some .int))
def kX5_spotOf : fp_MR := (yX5_spotOf, cX5_spotOf, 4, (some .int))
def kX5_gives : fp_MR := (yX5_gives, cX5_gives, 3, (some .int))
def kX5_giveTo : fp_MR := (yX5_giveTo, cX5_giveTo, 8, (some .int))
def kX5_insert : fp_MR := (yX5_insert, cX5_insert, 6, (some .boolean))
def kX5_append : fp_MR := (yX5_append, cX5_append, 4, (some .boolean))
def kX6_init : fp_MR := (yX6_init, cX6_init, 1, none)
def kX6_isLetter : fp_MR := (yX6_isLetter, cX6_isLetter, 1, (some .boolean))
def kX6_isFigure : fp_MR := (yX6_isFigure, cX6_isFigure, 1, (some .boolean))
def kX6_refuse : fp_MR := (yX6_refuse, cX6_refuse, 3, (some .boolean))
def kX6_step : fp_MR := (yX6_step, cX6_step, 1, (some .boolean))
def kJ0_coder_7d493 : fp_MR := (yJ0_coder_7d493, cJ0_coder_7d493, 1, (some .byte))
def kJ0_length_8abf5 : fp_MR := (yJ0_length_8abf5, cJ0_length_8abf5, 1, (some .int))
def kJ0_isLatin1_aae02 : fp_MR := (yJ0_isLatin1_aae02, cJ0_isLatin1_aae02, 1, (some .boolean))
def kJ3_checkIndex_8e157 : fp_MR := (yJ3_checkIndex_8e157, cJ3_checkIndex_8e157, 3, (some .int))
def kJ0_checkIndex_df160 : fp_MR := (yJ0_checkIndex_df160, cJ0_checkIndex_df160, 2, none)
def kJ1_charAt_3b067 : fp_MR := (yJ1_charAt_3b067, cJ1_charAt_3b067, 2, (some .char))
def kJ2_length_9d52b : fp_MR := (yJ2_length_9d52b, cJ2_length_9d52b, 1, (some .int))
def kJ2_checkIndex_2214a : fp_MR := (yJ2_checkIndex_2214a, cJ2_checkIndex_2214a, 2, none)
def kJ2_getChar_3b067 : fp_MR := (yJ2_getChar_3b067, cJ2_getChar_3b067, 2, (some .char))
def kJ2_charAt_3b067 : fp_MR := (yJ2_charAt_3b067, cJ2_charAt_3b067, 2, (some .char))
def kJ0_charAt_5068e : fp_MR := (yJ0_charAt_5068e, cJ0_charAt_5068e, 2, (some .char))
def kX6_isWord : fp_MR := (yX6_isWord, cX6_isWord, 3, (some .boolean))
def kX6_readNumber : fp_MR := (yX6_readNumber, cX6_readNumber, 3, (some .boolean))
def kX6_readStop : fp_MR := (yX6_readStop, cX6_readStop, 1, (some .boolean))
def kX6_readThing : fp_MR := (yX6_readThing, cX6_readThing, 3, (some .boolean))
def kX6_kindRead : fp_MR := (yX6_kindRead, cX6_kindRead, 1, (some .int))
def kX6_takeLying : fp_MR := (yX6_takeLying, cX6_takeLying, 2, (some .boolean))
def kX6_readLineOfThings : fp_MR := (yX6_readLineOfThings, cX6_readLineOfThings, 4, (some .boolean))
def kX10_lastDay : fp_MR := (yX10_lastDay, cX10_lastDay, 1, (some .int))
def kX10_add : fp_MR := (yX10_add, cX10_add, 5, (some .boolean))
def kX6_readVisit : fp_MR := (yX6_readVisit, cX6_readVisit, 5, (some .boolean))
def kX6_readChance : fp_MR := (yX6_readChance, cX6_readChance, 1, (some .boolean))
def kX6_readLine : fp_MR := (yX6_readLine, cX6_readLine, 1, (some .boolean))
def kX6_settleThing : fp_MR := (yX6_settleThing, cX6_settleThing, 3, none)
def kX10_isDraw : fp_MR := (yX10_isDraw, cX10_isDraw, 2, (some .boolean))
def kX6_settle : fp_MR := (yX6_settle, cX6_settle, 3, none)
def kX6_readText : fp_MR := (yX6_readText, cX6_readText, 5, (some .int))
def kX7_init : fp_MR := (yX7_init, cX7_init, 1, none)
def kX7_gather : fp_MR := (yX7_gather, cX7_gather, 3, none)
def kX7_isThere : fp_MR := (yX7_isThere, cX7_isThere, 2, (some .boolean))
def kX7_likesBetter : fp_MR := (yX7_likesBetter, cX7_likesBetter, 5, (some .boolean))
def kX7_point : fp_MR := (yX7_point, cX7_point, 5, none)
def kX7_takeIfInRing : fp_MR := (yX7_takeIfInRing, cX7_takeIfInRing, 5, (some .int))
def kX7_form : fp_MR := (yX7_form, cX7_form, 6, none)
def kX8_init : fp_MR := (yX8_init, cX8_init, 2, none)
def kX10_has : fp_MR := (yX10_has, cX10_has, 2, (some .boolean))
def kX10_happens : fp_MR := (yX10_happens, cX10_happens, 4, (some .boolean))
def kX8_behind : fp_MR := (yX8_behind, cX8_behind, 7, (some (.object "FirstPut$Places")))
def kX8_tryTrick : fp_MR := (yX8_tryTrick, cX8_tryTrick, 8, none)
def kX8_goOnWithTrick : fp_MR := (yX8_goOnWithTrick, cX8_goOnWithTrick, 5, none)
def kX8_lineTrickedOf : fp_MR := (yX8_lineTrickedOf, cX8_lineTrickedOf, 4, (some .int))
def kX8_takeIfBetter : fp_MR := (yX8_takeIfBetter, cX8_takeIfBetter, 2, none)
def kX10_isDrawOf : fp_MR := (yX10_isDrawOf, cX10_isDrawOf, 3, (some .boolean))
def kX8_tryLines : fp_MR := (yX8_tryLines, cX8_tryLines, 6, none)
def kX8_findMost : fp_MR := (yX8_findMost, cX8_findMost, 5, none)
def kJ7_fill_d0a16 : fp_MR := (yJ7_fill_d0a16, cJ7_fill_d0a16, 5, none)
def kX8_spread : fp_MR := (yX8_spread, cX8_spread, 8, none)
def kX8_findShares : fp_MR := (yX8_findShares, cX8_findShares, 8, (some .long))
def kX9_init : fp_MR := (yX9_init, cX9_init, 1, none)
def kX9_isThere : fp_MR := (yX9_isThere, cX9_isThere, 1, (some .boolean))
def kX9_has : fp_MR := (yX9_has, cX9_has, 2, (some .boolean))
def kX9_hasVisit : fp_MR := (yX9_hasVisit, cX9_hasVisit, 3, (some .boolean))
def kX9_faultTakenAs : fp_MR := (yX9_faultTakenAs, cX9_faultTakenAs, 2, (some .int))
def kX9_renew : fp_MR := (yX9_renew, cX9_renew, 3, none)
def kX9_write : fp_MR := (yX9_write, cX9_write, 3, none)
def kX10_copyFrom : fp_MR := (yX10_copyFrom, cX10_copyFrom, 2, none)
def kX10_drawsOf : fp_MR := (yX10_drawsOf, cX10_drawsOf, 4, (some .int))
def kX10_dropFirst : fp_MR := (yX10_dropFirst, cX10_dropFirst, 3, none)
def kX11_init : fp_MR := (yX11_init, cX11_init, 2, none)
def kX11_feed : fp_MR := (yX11_feed, cX11_feed, 4, (some .int))
def kX11_end : fp_MR := (yX11_end, cX11_end, 3, (some .int))
def kX11_bank : fp_MR := (yX11_bank, cX11_bank, 3, (some .int))
def kX11_fault : fp_MR := (yX11_fault, cX11_fault, 1, (some .int))
def kX11_thing : fp_MR := (yX11_thing, cX11_thing, 3, (some .int))
def kX11_line : fp_MR := (yX11_line, cX11_line, 3, (some .int))
def kX11_visit : fp_MR := (yX11_visit, cX11_visit, 3, (some .int))
def kX11_chance : fp_MR := (yX11_chance, cX11_chance, 3, (some .int))
def kX11_isOne : fp_MR := (yX11_isOne, cX11_isOne, 1, (some .boolean))
def kX11_holds : fp_MR := (yX11_holds, cX11_holds, 2, (some .int))
def kX11_worth : fp_MR := (yX11_worth, cX11_worth, 2, (some .int))
def kX11_put : fp_MR := (yX11_put, cX11_put, 4, (some .int))
def kX11_draw : fp_MR := (yX11_draw, cX11_draw, 3, (some .int))
def kX11_slip : fp_MR := (yX11_slip, cX11_slip, 4, (some .int))
def kX11_isWithin : fp_MR := (yX11_isWithin, cX11_isWithin, 2, (some .boolean))
def kX11_tellVisit : fp_MR := (yX11_tellVisit, cX11_tellVisit, 5, (some .int))
def kX11_come : fp_MR := (yX11_come, cX11_come, 5, (some .int))
def kX11_cut : fp_MR := (yX11_cut, cX11_cut, 3, (some .int))
def kX11_go : fp_MR := (yX11_go, cX11_go, 4, (some .int))
def kX11_after : fp_MR := (yX11_after, cX11_after, 3, (some .int))
def kX11_gains : fp_MR := (yX11_gains, cX11_gains, 3, (some .int))
def kX11_vain : fp_MR := (yX11_vain, cX11_vain, 4, (some .int))
def kX11_lost : fp_MR := (yX11_lost, cX11_lost, 6, (some .int))
def kX11_since : fp_MR := (yX11_since, cX11_since, 5, (some .int))
def kX11_extra : fp_MR := (yX11_extra, cX11_extra, 9, (some .int))
def kX11_aim : fp_MR := (yX11_aim, cX11_aim, 6, (some .int))
def kX11_trick : fp_MR := (yX11_trick, cX11_trick, 8, (some .int))
def kX11_most : fp_MR := (yX11_most, cX11_most, 4, (some .int))
def kX11_greatestDivisor : fp_MR := (yX11_greatestDivisor, cX11_greatestDivisor, 11, (some .long))
def kX11_odds : fp_MR := (yX11_odds, cX11_odds, 10, (some .long))
def kX11_likeliest : fp_MR := (yX11_likeliest, cX11_likeliest, 6, (some .int))
def kX11_duel : fp_MR := (yX11_duel, cX11_duel, 8, (some .int))
def kX11_noted : fp_MR := (yX11_noted, cX11_noted, 2, (some .int))
def kX11_forget : fp_MR := (yX11_forget, cX11_forget, 2, (some .int))
def kX11_orders : fp_MR := (yX11_orders, cX11_orders, 4, (some .int))
def kX11_ring : fp_MR := (yX11_ring, cX11_ring, 2, (some .int))
def kX11_with : fp_MR := (yX11_with, cX11_with, 2, (some .int))
def kX11_join : fp_MR := (yX11_join, cX11_join, 6, (some .int))
def kX11_keep : fp_MR := (yX11_keep, cX11_keep, 4, (some .int))
def kX11_back : fp_MR := (yX11_back, cX11_back, 3, (some .int))
def kX11_sheet : fp_MR := (yX11_sheet, cX11_sheet, 4, (some .int))
def kX11_lay : fp_MR := (yX11_lay, cX11_lay, 5, (some .int))
def kX11_tellVisitOf : fp_MR := (yX11_tellVisitOf, cX11_tellVisitOf, 3, (some .int))
def kX11_read : fp_MR := (yX11_read, cX11_read, 9, (some .int))
def kX11_torn : fp_MR := (yX11_torn, cX11_torn, 1, (some .int))
def kX11_count : fp_MR := (yX11_count, cX11_count, 2, (some .int))
def kX12_init : fp_MR := (yX12_init, cX12_init, 1, none)
def kX12_in : fp_MR := (yX12_in, cX12_in, 6, (some .boolean))
def kX12_feed : fp_MR := (yX12_feed, cX12_feed, 4, (some .int))
def kX12_end : fp_MR := (yX12_end, cX12_end, 3, (some .int))
def kX12_byteAt : fp_MR := (yX12_byteAt, cX12_byteAt, 2, (some .int))
def kX12_fails : fp_MR := (yX12_fails, cX12_fails, 2, none)
def kX12_nameHere : fp_MR := (yX12_nameHere, cX12_nameHere, 4, (some .int))
def kX12_step : fp_MR := (yX12_step, cX12_step, 2, none)
def kX12_looks : fp_MR := (yX12_looks, cX12_looks, 3, none)
def kX12_number : fp_MR := (yX12_number, cX12_number, 4, (some .int))
def kX12_readThing : fp_MR := (yX12_readThing, cX12_readThing, 2, none)
def kX12_readALine : fp_MR := (yX12_readALine, cX12_readALine, 3, none)
def kX12_readVisit : fp_MR := (yX12_readVisit, cX12_readVisit, 4, none)
def kX12_readLine : fp_MR := (yX12_readLine, cX12_readLine, 2, none)
def kX12_takes : fp_MR := (yX12_takes, cX12_takes, 4, none)
def kX12_bank : fp_MR := (yX12_bank, cX12_bank, 3, (some .int))
def kX12_fault : fp_MR := (yX12_fault, cX12_fault, 1, (some .int))
def kX12_isThing : fp_MR := (yX12_isThing, cX12_isThing, 2, (some .boolean))
def kX12_isOne : fp_MR := (yX12_isOne, cX12_isOne, 1, (some .boolean))
def kX12_isLine : fp_MR := (yX12_isLine, cX12_isLine, 2, (some .boolean))
def kX12_visits : fp_MR := (yX12_visits, cX12_visits, 1, (some .int))
def kX12_lie : fp_MR := (yX12_lie, cX12_lie, 3, (some .int))
def kX12_lies : fp_MR := (yX12_lies, cX12_lies, 4, (some .int))
def kX12_placeOf : fp_MR := (yX12_placeOf, cX12_placeOf, 4, (some .int))
def kX12_thing : fp_MR := (yX12_thing, cX12_thing, 3, (some .int))
def kX12_givesAt : fp_MR := (yX12_givesAt, cX12_givesAt, 6, (some .int))
def kX12_gives : fp_MR := (yX12_gives, cX12_gives, 4, (some .int))
def kX12_line : fp_MR := (yX12_line, cX12_line, 3, (some .int))
def kX12_visit : fp_MR := (yX12_visit, cX12_visit, 3, (some .int))
def kX12_chance : fp_MR := (yX12_chance, cX12_chance, 3, (some .int))
def kX12_holdsAt : fp_MR := (yX12_holdsAt, cX12_holdsAt, 5, (some .int))
def kX12_holds : fp_MR := (yX12_holds, cX12_holds, 2, (some .int))
def kX12_worthAt : fp_MR := (yX12_worthAt, cX12_worthAt, 5, (some .int))
def kX12_worth : fp_MR := (yX12_worth, cX12_worth, 2, (some .int))
def kX12_laysIn : fp_MR := (yX12_laysIn, cX12_laysIn, 7, none)
def kX12_takesOut : fp_MR := (yX12_takesOut, cX12_takesOut, 7, (some .int))
def kX12_puts : fp_MR := (yX12_puts, cX12_puts, 5, (some .boolean))
def kX12_draws : fp_MR := (yX12_draws, cX12_draws, 6, (some .int))
def kX12_put : fp_MR := (yX12_put, cX12_put, 4, (some .int))
def kX12_draw : fp_MR := (yX12_draw, cX12_draw, 3, (some .int))
def kX12_slip : fp_MR := (yX12_slip, cX12_slip, 4, (some .int))
def kX12_comes : fp_MR := (yX12_comes, cX12_comes, 7, (some .int))
def kX12_come : fp_MR := (yX12_come, cX12_come, 5, (some .int))
def kX12_cut : fp_MR := (yX12_cut, cX12_cut, 3, (some .int))
def kX12_visits2 : fp_MR := (yX12_visits2, cX12_visits2, 6, (some .boolean))
def kX12_happens : fp_MR := (yX12_happens, cX12_happens, 3, (some .boolean))
def kX12_go : fp_MR := (yX12_go, cX12_go, 4, (some .int))
def kX12_copies : fp_MR := (yX12_copies, cX12_copies, 4, none)
def kX12_runs : fp_MR := (yX12_runs, cX12_runs, 4, (some .int))
def kX12_after : fp_MR := (yX12_after, cX12_after, 3, (some .int))
def kX12_gains : fp_MR := (yX12_gains, cX12_gains, 3, (some .int))
def kX12_vain : fp_MR := (yX12_vain, cX12_vain, 1, (some .int))
def kX12_lost : fp_MR := (yX12_lost, cX12_lost, 7, (some .int))
def kX12_since : fp_MR := (yX12_since, cX12_since, 4, (some .int))
def kX12_extra : fp_MR := (yX12_extra, cX12_extra, 9, (some .int))
def kX12_aim : fp_MR := (yX12_aim, cX12_aim, 5, (some .int))
def kX12_isTrick : fp_MR := (yX12_isTrick, cX12_isTrick, 8, (some .boolean))
def kX12_trick : fp_MR := (yX12_trick, cX12_trick, 8, (some .int))
def kX12_saves : fp_MR := (yX12_saves, cX12_saves, 3, none)
def kX12_isOwn : fp_MR := (yX12_isOwn, cX12_isOwn, 3, (some .boolean))
def kX12_runsFrom : fp_MR := (yX12_runsFrom, cX12_runsFrom, 4, none)
def kX12_nextLines : fp_MR := (yX12_nextLines, cX12_nextLines, 3, (some .int))
def kX12_most : fp_MR := (yX12_most, cX12_most, 8, (some .int))
def kX12_layChances : fp_MR := (yX12_layChances, cX12_layChances, 8, none)
def kX12_lowest : fp_MR := (yX12_lowest, cX12_lowest, 11, (some .long))
def kX12_odds : fp_MR := (yX12_odds, cX12_odds, 4, (some .long))
def kX12_likeliest : fp_MR := (yX12_likeliest, cX12_likeliest, 4, (some .int))
def kX12_plays : fp_MR := (yX12_plays, cX12_plays, 15, (some .int))
def kX12_duel : fp_MR := (yX12_duel, cX12_duel, 16, (some .int))
def kX12_noted : fp_MR := (yX12_noted, cX12_noted, 3, (some .int))
def kX12_forget : fp_MR := (yX12_forget, cX12_forget, 2, (some .int))
def kX12_fitsRow : fp_MR := (yX12_fitsRow, cX12_fitsRow, 6, (some .boolean))
def kX12_nextRow : fp_MR := (yX12_nextRow, cX12_nextRow, 7, (some .boolean))
def kX12_orders : fp_MR := (yX12_orders, cX12_orders, 8, (some .int))
def kX12_likes : fp_MR := (yX12_likes, cX12_likes, 7, (some .int))
def kX12_ringOf : fp_MR := (yX12_ringOf, cX12_ringOf, 6, (some .int))
def kX12_layRings : fp_MR := (yX12_layRings, cX12_layRings, 5, none)
def kX12_ring : fp_MR := (yX12_ring, cX12_ring, 2, (some .int))
def kX12_with : fp_MR := (yX12_with, cX12_with, 2, (some .int))
def kX12_join : fp_MR := (yX12_join, cX12_join, 7, (some .int))
def kX12_copiesAll : fp_MR := (yX12_copiesAll, cX12_copiesAll, 4, none)
def kX12_keep : fp_MR := (yX12_keep, cX12_keep, 3, (some .int))
def kX12_back : fp_MR := (yX12_back, cX12_back, 2, (some .int))
def kX12_sheet : fp_MR := (yX12_sheet, cX12_sheet, 5, (some .int))
def kX12_lay : fp_MR := (yX12_lay, cX12_lay, 4, (some .int))
def kX12_read : fp_MR := (yX12_read, cX12_read, 10, (some .int))
def kX12_torn : fp_MR := (yX12_torn, cX12_torn, 1, (some .int))
def kX12_count : fp_MR := (yX12_count, cX12_count, 2, (some .int))
end
