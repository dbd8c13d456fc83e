section
-- ===== PART A: goes FIRST, ahead of the names: the tables' words, and 'selects' of the private methods out of them =====
/-- a private method of a class that the tables say can be made, by its rows of tables_1 -/
def lw_okq (q : MethodName × Nat) : Prop := (q.1.cls ≠ "java/lang/invoke/MethodHandle" ∧ q.1.cls ≠ "java/lang/invoke/VarHandle") ∧ Cond.instantiable q.1.cls q.2 ∈ tables_1 ∧ Cond.privateMethod q.1 ∈ tables_1 ∧ Cond.instanceMethod q.1 ∈ tables_1
theorem lw_p0 : lw_okq (⟨"NeedlePairs$Board", "addPoint", "(III)I"⟩, 7) := ⟨⟨by decide +kernel, by decide +kernel⟩, List.mem_of_getElem? (i := 19) (by decide +kernel), List.mem_of_getElem? (i := 179) (by decide +kernel), List.mem_of_getElem? (i := 180) (by decide +kernel)⟩
theorem lw_p1 : lw_okq (⟨"NeedlePairs", "layTriesAnew", "()V"⟩, 6) := ⟨⟨by decide +kernel, by decide +kernel⟩, List.mem_of_getElem? (i := 11) (by decide +kernel), List.mem_of_getElem? (i := 183) (by decide +kernel), List.mem_of_getElem? (i := 184) (by decide +kernel)⟩
theorem lw_p2 : lw_okq (⟨"NeedlePairs$Tries", "layOut", "(LNeedlePairs$Board;)V"⟩, 6) := ⟨⟨by decide +kernel, by decide +kernel⟩, List.mem_of_getElem? (i := 60) (by decide +kernel), List.mem_of_getElem? (i := 187) (by decide +kernel), List.mem_of_getElem? (i := 188) (by decide +kernel)⟩
theorem lw_p3 : lw_okq (⟨"NeedlePairs$Tries", "growTrees", "(LNeedlePairs$Board;)V"⟩, 6) := ⟨⟨by decide +kernel, by decide +kernel⟩, List.mem_of_getElem? (i := 60) (by decide +kernel), List.mem_of_getElem? (i := 191) (by decide +kernel), List.mem_of_getElem? (i := 192) (by decide +kernel)⟩
theorem lw_p4 : lw_okq (⟨"NeedlePairs$Tries", "joinNextPair", "(LNeedlePairs$Board;)Z"⟩, 6) := ⟨⟨by decide +kernel, by decide +kernel⟩, List.mem_of_getElem? (i := 60) (by decide +kernel), List.mem_of_getElem? (i := 195) (by decide +kernel), List.mem_of_getElem? (i := 196) (by decide +kernel)⟩
theorem lw_p5 : lw_okq (⟨"NeedlePairs$Board", "distance", "(II)I"⟩, 7) := ⟨⟨by decide +kernel, by decide +kernel⟩, List.mem_of_getElem? (i := 19) (by decide +kernel), List.mem_of_getElem? (i := 199) (by decide +kernel), List.mem_of_getElem? (i := 200) (by decide +kernel)⟩
theorem lw_p6 : lw_okq (⟨"NeedlePairs$Tries", "mergeGroups", "(II)V"⟩, 6) := ⟨⟨by decide +kernel, by decide +kernel⟩, List.mem_of_getElem? (i := 60) (by decide +kernel), List.mem_of_getElem? (i := 203) (by decide +kernel), List.mem_of_getElem? (i := 204) (by decide +kernel)⟩
theorem lw_p7 : lw_okq (⟨"NeedlePairs$Tries", "addTrees", "(LNeedlePairs$Board;)V"⟩, 6) := ⟨⟨by decide +kernel, by decide +kernel⟩, List.mem_of_getElem? (i := 60) (by decide +kernel), List.mem_of_getElem? (i := 207) (by decide +kernel), List.mem_of_getElem? (i := 208) (by decide +kernel)⟩
theorem lw_p8 : lw_okq (⟨"NeedlePairs$Tries", "addTry", "(LNeedlePairs$Board;II)V"⟩, 6) := ⟨⟨by decide +kernel, by decide +kernel⟩, List.mem_of_getElem? (i := 60) (by decide +kernel), List.mem_of_getElem? (i := 214) (by decide +kernel), List.mem_of_getElem? (i := 215) (by decide +kernel)⟩
theorem lw_p9 : lw_okq (⟨"NeedlePairs$Board", "isLeftOf", "(II)Z"⟩, 7) := ⟨⟨by decide +kernel, by decide +kernel⟩, List.mem_of_getElem? (i := 19) (by decide +kernel), List.mem_of_getElem? (i := 218) (by decide +kernel), List.mem_of_getElem? (i := 219) (by decide +kernel)⟩
theorem lw_p10 : lw_okq (⟨"NeedlePairs$Tries", "addNeighbours", "(LNeedlePairs$Board;)V"⟩, 6) := ⟨⟨by decide +kernel, by decide +kernel⟩, List.mem_of_getElem? (i := 60) (by decide +kernel), List.mem_of_getElem? (i := 222) (by decide +kernel), List.mem_of_getElem? (i := 223) (by decide +kernel)⟩
theorem lw_p11 : lw_okq (⟨"NeedlePairs$Tries", "addNearestPair", "(LNeedlePairs$Board;II)V"⟩, 6) := ⟨⟨by decide +kernel, by decide +kernel⟩, List.mem_of_getElem? (i := 60) (by decide +kernel), List.mem_of_getElem? (i := 230) (by decide +kernel), List.mem_of_getElem? (i := 231) (by decide +kernel)⟩
theorem lw_p12 : lw_okq (⟨"NeedlePairs$Needles", "measure", "(LNeedlePairs$Board;LNeedlePairs$Tries;)V"⟩, 6) := ⟨⟨by decide +kernel, by decide +kernel⟩, List.mem_of_getElem? (i := 92) (by decide +kernel), List.mem_of_getElem? (i := 234) (by decide +kernel), List.mem_of_getElem? (i := 235) (by decide +kernel)⟩
theorem lw_p13 : lw_okq (⟨"NeedlePairs$Board", "removeLastPoint", "()V"⟩, 7) := ⟨⟨by decide +kernel, by decide +kernel⟩, List.mem_of_getElem? (i := 19) (by decide +kernel), List.mem_of_getElem? (i := 254) (by decide +kernel), List.mem_of_getElem? (i := 255) (by decide +kernel)⟩
theorem lw_p14 : lw_okq (⟨"NeedlePairs$Board", "hasPoint", "(I)Z"⟩, 7) := ⟨⟨by decide +kernel, by decide +kernel⟩, List.mem_of_getElem? (i := 19) (by decide +kernel), List.mem_of_getElem? (i := 265) (by decide +kernel), List.mem_of_getElem? (i := 266) (by decide +kernel)⟩
theorem lw_p15 : lw_okq (⟨"NeedlePairs$Tries", "hasTry", "(I)Z"⟩, 6) := ⟨⟨by decide +kernel, by decide +kernel⟩, List.mem_of_getElem? (i := 60) (by decide +kernel), List.mem_of_getElem? (i := 290) (by decide +kernel), List.mem_of_getElem? (i := 291) (by decide +kernel)⟩
def lw_privs_1 : List (MethodName × Nat) := [(⟨"NeedlePairs$Board", "addPoint", "(III)I"⟩, 7), (⟨"NeedlePairs", "layTriesAnew", "()V"⟩, 6), (⟨"NeedlePairs$Tries", "layOut", "(LNeedlePairs$Board;)V"⟩, 6), (⟨"NeedlePairs$Tries", "growTrees", "(LNeedlePairs$Board;)V"⟩, 6), (⟨"NeedlePairs$Tries", "joinNextPair", "(LNeedlePairs$Board;)Z"⟩, 6), (⟨"NeedlePairs$Board", "distance", "(II)I"⟩, 7), (⟨"NeedlePairs$Tries", "mergeGroups", "(II)V"⟩, 6), (⟨"NeedlePairs$Tries", "addTrees", "(LNeedlePairs$Board;)V"⟩, 6), (⟨"NeedlePairs$Tries", "addTry", "(LNeedlePairs$Board;II)V"⟩, 6), (⟨"NeedlePairs$Board", "isLeftOf", "(II)Z"⟩, 7), (⟨"NeedlePairs$Tries", "addNeighbours", "(LNeedlePairs$Board;)V"⟩, 6), (⟨"NeedlePairs$Tries", "addNearestPair", "(LNeedlePairs$Board;II)V"⟩, 6), (⟨"NeedlePairs$Needles", "measure", "(LNeedlePairs$Board;LNeedlePairs$Tries;)V"⟩, 6), (⟨"NeedlePairs$Board", "removeLastPoint", "()V"⟩, 7), (⟨"NeedlePairs$Board", "hasPoint", "(I)Z"⟩, 7), (⟨"NeedlePairs$Tries", "hasTry", "(I)Z"⟩, 6)]
theorem lw_r1 : ∀ q ∈ lw_privs_1, lw_okq q := List.forall_mem_cons.mpr ⟨lw_p0, List.forall_mem_cons.mpr ⟨lw_p1, List.forall_mem_cons.mpr ⟨lw_p2, List.forall_mem_cons.mpr ⟨lw_p3, List.forall_mem_cons.mpr ⟨lw_p4, List.forall_mem_cons.mpr ⟨lw_p5, List.forall_mem_cons.mpr ⟨lw_p6, List.forall_mem_cons.mpr ⟨lw_p7, List.forall_mem_cons.mpr ⟨lw_p8, List.forall_mem_cons.mpr ⟨lw_p9, List.forall_mem_cons.mpr ⟨lw_p10, List.forall_mem_cons.mpr ⟨lw_p11, List.forall_mem_cons.mpr ⟨lw_p12, List.forall_mem_cons.mpr ⟨lw_p13, List.forall_mem_cons.mpr ⟨lw_p14, List.forall_mem_cons.mpr ⟨lw_p15, fun _ h => absurd h List.not_mem_nil⟩⟩⟩⟩⟩⟩⟩⟩⟩⟩⟩⟩⟩⟩⟩⟩
theorem lw_p16 : lw_okq (⟨"NeedlePairs$Tries", "isOfNeighbours", "(I)Z"⟩, 6) := ⟨⟨by decide +kernel, by decide +kernel⟩, List.mem_of_getElem? (i := 60) (by decide +kernel), List.mem_of_getElem? (i := 294) (by decide +kernel), List.mem_of_getElem? (i := 295) (by decide +kernel)⟩
theorem lw_p17 : lw_okq (⟨"NeedlePairs$Tries", "conducts", "(LNeedlePairs$Board;III)Z"⟩, 6) := ⟨⟨by decide +kernel, by decide +kernel⟩, List.mem_of_getElem? (i := 60) (by decide +kernel), List.mem_of_getElem? (i := 298) (by decide +kernel), List.mem_of_getElem? (i := 299) (by decide +kernel)⟩
theorem lw_p18 : lw_okq (⟨"NeedlePairs", "seenNow", "()I"⟩, 6) := ⟨⟨by decide +kernel, by decide +kernel⟩, List.mem_of_getElem? (i := 11) (by decide +kernel), List.mem_of_getElem? (i := 307) (by decide +kernel), List.mem_of_getElem? (i := 308) (by decide +kernel)⟩
theorem lw_p19 : lw_okq (⟨"NeedlePairs$Tries", "seenSet", "(LNeedlePairs$Board;II)I"⟩, 6) := ⟨⟨by decide +kernel, by decide +kernel⟩, List.mem_of_getElem? (i := 60) (by decide +kernel), List.mem_of_getElem? (i := 311) (by decide +kernel), List.mem_of_getElem? (i := 312) (by decide +kernel)⟩
theorem lw_p20 : lw_okq (⟨"NeedlePairs$Needles", "leap", "(II)I"⟩, 6) := ⟨⟨by decide +kernel, by decide +kernel⟩, List.mem_of_getElem? (i := 92) (by decide +kernel), List.mem_of_getElem? (i := 321) (by decide +kernel), List.mem_of_getElem? (i := 322) (by decide +kernel)⟩
theorem lw_p21 : lw_okq (⟨"NeedlePairs$Pad", "write", "(I)V"⟩, 2) := ⟨⟨by decide +kernel, by decide +kernel⟩, List.mem_of_getElem? (i := 135) (by decide +kernel), List.mem_of_getElem? (i := 329) (by decide +kernel), List.mem_of_getElem? (i := 330) (by decide +kernel)⟩
theorem lw_p22 : lw_okq (⟨"NeedlePairs$Pad", "tellsOrderOf", "(I)Z"⟩, 2) := ⟨⟨by decide +kernel, by decide +kernel⟩, List.mem_of_getElem? (i := 135) (by decide +kernel), List.mem_of_getElem? (i := 341) (by decide +kernel), List.mem_of_getElem? (i := 342) (by decide +kernel)⟩
theorem lw_p23 : lw_okq (⟨"NeedlePairs$Pad", "tryAt", "(I)I"⟩, 2) := ⟨⟨by decide +kernel, by decide +kernel⟩, List.mem_of_getElem? (i := 135) (by decide +kernel), List.mem_of_getElem? (i := 345) (by decide +kernel), List.mem_of_getElem? (i := 346) (by decide +kernel)⟩
theorem lw_p24 : lw_okq (⟨"NeedlePairs$Needles", "planBest", "()V"⟩, 6) := ⟨⟨by decide +kernel, by decide +kernel⟩, List.mem_of_getElem? (i := 92) (by decide +kernel), List.mem_of_getElem? (i := 355) (by decide +kernel), List.mem_of_getElem? (i := 356) (by decide +kernel)⟩
theorem lw_p25 : lw_okq (⟨"NeedlePairs$Needles", "weighOnward", "()V"⟩, 6) := ⟨⟨by decide +kernel, by decide +kernel⟩, List.mem_of_getElem? (i := 92) (by decide +kernel), List.mem_of_getElem? (i := 359) (by decide +kernel), List.mem_of_getElem? (i := 360) (by decide +kernel)⟩
theorem lw_p26 : lw_okq (⟨"NeedlePairs$Needles", "allTries", "()I"⟩, 6) := ⟨⟨by decide +kernel, by decide +kernel⟩, List.mem_of_getElem? (i := 92) (by decide +kernel), List.mem_of_getElem? (i := 363) (by decide +kernel), List.mem_of_getElem? (i := 364) (by decide +kernel)⟩
theorem lw_p27 : lw_okq (⟨"NeedlePairs$Needles", "leastThrough", "(II)I"⟩, 6) := ⟨⟨by decide +kernel, by decide +kernel⟩, List.mem_of_getElem? (i := 92) (by decide +kernel), List.mem_of_getElem? (i := 368) (by decide +kernel), List.mem_of_getElem? (i := 369) (by decide +kernel)⟩
theorem lw_p28 : lw_okq (⟨"NeedlePairs$Needles", "plan", "(LNeedlePairs$Order;Z)V"⟩, 6) := ⟨⟨by decide +kernel, by decide +kernel⟩, List.mem_of_getElem? (i := 92) (by decide +kernel), List.mem_of_getElem? (i := 373) (by decide +kernel), List.mem_of_getElem? (i := 374) (by decide +kernel)⟩
theorem lw_p29 : lw_okq (⟨"NeedlePairs$Order", "clear", "()V"⟩, 3) := ⟨⟨by decide +kernel, by decide +kernel⟩, List.mem_of_getElem? (i := 98) (by decide +kernel), List.mem_of_getElem? (i := 377) (by decide +kernel), List.mem_of_getElem? (i := 378) (by decide +kernel)⟩
theorem lw_p30 : lw_okq (⟨"NeedlePairs$Needles", "firstOfBest", "(II)I"⟩, 6) := ⟨⟨by decide +kernel, by decide +kernel⟩, List.mem_of_getElem? (i := 92) (by decide +kernel), List.mem_of_getElem? (i := 381) (by decide +kernel), List.mem_of_getElem? (i := 382) (by decide +kernel)⟩
theorem lw_p31 : lw_okq (⟨"NeedlePairs$Needles", "nearestOf", "(II)I"⟩, 6) := ⟨⟨by decide +kernel, by decide +kernel⟩, List.mem_of_getElem? (i := 92) (by decide +kernel), List.mem_of_getElem? (i := 386) (by decide +kernel), List.mem_of_getElem? (i := 387) (by decide +kernel)⟩
def lw_privs_2 : List (MethodName × Nat) := [(⟨"NeedlePairs$Tries", "isOfNeighbours", "(I)Z"⟩, 6), (⟨"NeedlePairs$Tries", "conducts", "(LNeedlePairs$Board;III)Z"⟩, 6), (⟨"NeedlePairs", "seenNow", "()I"⟩, 6), (⟨"NeedlePairs$Tries", "seenSet", "(LNeedlePairs$Board;II)I"⟩, 6), (⟨"NeedlePairs$Needles", "leap", "(II)I"⟩, 6), (⟨"NeedlePairs$Pad", "write", "(I)V"⟩, 2), (⟨"NeedlePairs$Pad", "tellsOrderOf", "(I)Z"⟩, 2), (⟨"NeedlePairs$Pad", "tryAt", "(I)I"⟩, 2), (⟨"NeedlePairs$Needles", "planBest", "()V"⟩, 6), (⟨"NeedlePairs$Needles", "weighOnward", "()V"⟩, 6), (⟨"NeedlePairs$Needles", "allTries", "()I"⟩, 6), (⟨"NeedlePairs$Needles", "leastThrough", "(II)I"⟩, 6), (⟨"NeedlePairs$Needles", "plan", "(LNeedlePairs$Order;Z)V"⟩, 6), (⟨"NeedlePairs$Order", "clear", "()V"⟩, 3), (⟨"NeedlePairs$Needles", "firstOfBest", "(II)I"⟩, 6), (⟨"NeedlePairs$Needles", "nearestOf", "(II)I"⟩, 6)]
theorem lw_r2 : ∀ q ∈ lw_privs_2, lw_okq q := List.forall_mem_cons.mpr ⟨lw_p16, List.forall_mem_cons.mpr ⟨lw_p17, List.forall_mem_cons.mpr ⟨lw_p18, List.forall_mem_cons.mpr ⟨lw_p19, List.forall_mem_cons.mpr ⟨lw_p20, List.forall_mem_cons.mpr ⟨lw_p21, List.forall_mem_cons.mpr ⟨lw_p22, List.forall_mem_cons.mpr ⟨lw_p23, List.forall_mem_cons.mpr ⟨lw_p24, List.forall_mem_cons.mpr ⟨lw_p25, List.forall_mem_cons.mpr ⟨lw_p26, List.forall_mem_cons.mpr ⟨lw_p27, List.forall_mem_cons.mpr ⟨lw_p28, List.forall_mem_cons.mpr ⟨lw_p29, List.forall_mem_cons.mpr ⟨lw_p30, List.forall_mem_cons.mpr ⟨lw_p31, fun _ h => absurd h List.not_mem_nil⟩⟩⟩⟩⟩⟩⟩⟩⟩⟩⟩⟩⟩⟩⟩⟩
theorem lw_p32 : lw_okq (⟨"NeedlePairs$Order", "append", "(II)V"⟩, 3) := ⟨⟨by decide +kernel, by decide +kernel⟩, List.mem_of_getElem? (i := 98) (by decide +kernel), List.mem_of_getElem? (i := 390) (by decide +kernel), List.mem_of_getElem? (i := 391) (by decide +kernel)⟩
theorem lw_p33 : lw_okq (⟨"NeedlePairs$Order", "tell", "(I)I"⟩, 3) := ⟨⟨by decide +kernel, by decide +kernel⟩, List.mem_of_getElem? (i := 98) (by decide +kernel), List.mem_of_getElem? (i := 394) (by decide +kernel), List.mem_of_getElem? (i := 395) (by decide +kernel)⟩
theorem lw_p34 : lw_okq (⟨"NeedlePairs$Needles", "planNearest", "()V"⟩, 6) := ⟨⟨by decide +kernel, by decide +kernel⟩, List.mem_of_getElem? (i := 92) (by decide +kernel), List.mem_of_getElem? (i := 402) (by decide +kernel), List.mem_of_getElem? (i := 403) (by decide +kernel)⟩
theorem lw_p35 : lw_okq (⟨"NeedlePairs", "flawSeenAs", "(II)I"⟩, 6) := ⟨⟨by decide +kernel, by decide +kernel⟩, List.mem_of_getElem? (i := 11) (by decide +kernel), List.mem_of_getElem? (i := 439) (by decide +kernel), List.mem_of_getElem? (i := 440) (by decide +kernel)⟩
theorem lw_p36 : lw_okq (⟨"NeedlePairs", "isFlaw", "(I)Z"⟩, 6) := ⟨⟨by decide +kernel, by decide +kernel⟩, List.mem_of_getElem? (i := 11) (by decide +kernel), List.mem_of_getElem? (i := 443) (by decide +kernel), List.mem_of_getElem? (i := 444) (by decide +kernel)⟩
theorem lw_p37 : lw_okq (⟨"NeedlePairs", "seenOfFlaw", "(I)I"⟩, 6) := ⟨⟨by decide +kernel, by decide +kernel⟩, List.mem_of_getElem? (i := 11) (by decide +kernel), List.mem_of_getElem? (i := 447) (by decide +kernel), List.mem_of_getElem? (i := 448) (by decide +kernel)⟩
theorem lw_p38 : lw_okq (⟨"NeedlePairs$Board", "copyFrom", "(LNeedlePairs$Board;)V"⟩, 7) := ⟨⟨by decide +kernel, by decide +kernel⟩, List.mem_of_getElem? (i := 19) (by decide +kernel), List.mem_of_getElem? (i := 473) (by decide +kernel), List.mem_of_getElem? (i := 474) (by decide +kernel)⟩
theorem lw_p39 : lw_okq (⟨"NeedlePairs$Board", "countNetsWithPoints", "()I"⟩, 7) := ⟨⟨by decide +kernel, by decide +kernel⟩, List.mem_of_getElem? (i := 19) (by decide +kernel), List.mem_of_getElem? (i := 485) (by decide +kernel), List.mem_of_getElem? (i := 486) (by decide +kernel)⟩
theorem lw_p40 : lw_okq (⟨"NeedlePairsModel", "isPoint", "(I)Z"⟩, 16) := ⟨⟨by decide +kernel, by decide +kernel⟩, List.mem_of_getElem? (i := 490) (by decide +kernel), List.mem_of_getElem? (i := 567) (by decide +kernel), List.mem_of_getElem? (i := 568) (by decide +kernel)⟩
theorem lw_p41 : lw_okq (⟨"NeedlePairsModel", "farOf", "(II)I"⟩, 16) := ⟨⟨by decide +kernel, by decide +kernel⟩, List.mem_of_getElem? (i := 490) (by decide +kernel), List.mem_of_getElem? (i := 583) (by decide +kernel), List.mem_of_getElem? (i := 584) (by decide +kernel)⟩
theorem lw_p42 : lw_okq (⟨"NeedlePairsModel", "layTries", "()V"⟩, 16) := ⟨⟨by decide +kernel, by decide +kernel⟩, List.mem_of_getElem? (i := 490) (by decide +kernel), List.mem_of_getElem? (i := 591) (by decide +kernel), List.mem_of_getElem? (i := 592) (by decide +kernel)⟩
theorem lw_p43 : lw_okq (⟨"NeedlePairsModel", "layTree", "(I)V"⟩, 16) := ⟨⟨by decide +kernel, by decide +kernel⟩, List.mem_of_getElem? (i := 490) (by decide +kernel), List.mem_of_getElem? (i := 595) (by decide +kernel), List.mem_of_getElem? (i := 596) (by decide +kernel)⟩
theorem lw_p44 : lw_okq (⟨"NeedlePairsModel", "nextPair", "(I)I"⟩, 16) := ⟨⟨by decide +kernel, by decide +kernel⟩, List.mem_of_getElem? (i := 490) (by decide +kernel), List.mem_of_getElem? (i := 599) (by decide +kernel), List.mem_of_getElem? (i := 600) (by decide +kernel)⟩
theorem lw_p45 : lw_okq (⟨"NeedlePairsModel", "canJoin", "(III)Z"⟩, 16) := ⟨⟨by decide +kernel, by decide +kernel⟩, List.mem_of_getElem? (i := 490) (by decide +kernel), List.mem_of_getElem? (i := 603) (by decide +kernel), List.mem_of_getElem? (i := 604) (by decide +kernel)⟩
theorem lw_p46 : lw_okq (⟨"NeedlePairsModel", "join", "(II)V"⟩, 16) := ⟨⟨by decide +kernel, by decide +kernel⟩, List.mem_of_getElem? (i := 490) (by decide +kernel), List.mem_of_getElem? (i := 607) (by decide +kernel), List.mem_of_getElem? (i := 608) (by decide +kernel)⟩
theorem lw_p47 : lw_okq (⟨"NeedlePairsModel", "addTry", "(IIZ)V"⟩, 16) := ⟨⟨by decide +kernel, by decide +kernel⟩, List.mem_of_getElem? (i := 490) (by decide +kernel), List.mem_of_getElem? (i := 611) (by decide +kernel), List.mem_of_getElem? (i := 612) (by decide +kernel)⟩
def lw_privs_3 : List (MethodName × Nat) := [(⟨"NeedlePairs$Order", "append", "(II)V"⟩, 3), (⟨"NeedlePairs$Order", "tell", "(I)I"⟩, 3), (⟨"NeedlePairs$Needles", "planNearest", "()V"⟩, 6), (⟨"NeedlePairs", "flawSeenAs", "(II)I"⟩, 6), (⟨"NeedlePairs", "isFlaw", "(I)Z"⟩, 6), (⟨"NeedlePairs", "seenOfFlaw", "(I)I"⟩, 6), (⟨"NeedlePairs$Board", "copyFrom", "(LNeedlePairs$Board;)V"⟩, 7), (⟨"NeedlePairs$Board", "countNetsWithPoints", "()I"⟩, 7), (⟨"NeedlePairsModel", "isPoint", "(I)Z"⟩, 16), (⟨"NeedlePairsModel", "farOf", "(II)I"⟩, 16), (⟨"NeedlePairsModel", "layTries", "()V"⟩, 16), (⟨"NeedlePairsModel", "layTree", "(I)V"⟩, 16), (⟨"NeedlePairsModel", "nextPair", "(I)I"⟩, 16), (⟨"NeedlePairsModel", "canJoin", "(III)Z"⟩, 16), (⟨"NeedlePairsModel", "join", "(II)V"⟩, 16), (⟨"NeedlePairsModel", "addTry", "(IIZ)V"⟩, 16)]
theorem lw_r3 : ∀ q ∈ lw_privs_3, lw_okq q := List.forall_mem_cons.mpr ⟨lw_p32, List.forall_mem_cons.mpr ⟨lw_p33, List.forall_mem_cons.mpr ⟨lw_p34, List.forall_mem_cons.mpr ⟨lw_p35, List.forall_mem_cons.mpr ⟨lw_p36, List.forall_mem_cons.mpr ⟨lw_p37, List.forall_mem_cons.mpr ⟨lw_p38, List.forall_mem_cons.mpr ⟨lw_p39, List.forall_mem_cons.mpr ⟨lw_p40, List.forall_mem_cons.mpr ⟨lw_p41, List.forall_mem_cons.mpr ⟨lw_p42, List.forall_mem_cons.mpr ⟨lw_p43, List.forall_mem_cons.mpr ⟨lw_p44, List.forall_mem_cons.mpr ⟨lw_p45, List.forall_mem_cons.mpr ⟨lw_p46, List.forall_mem_cons.mpr ⟨lw_p47, fun _ h => absurd h List.not_mem_nil⟩⟩⟩⟩⟩⟩⟩⟩⟩⟩⟩⟩⟩⟩⟩⟩
theorem lw_p48 : lw_okq (⟨"NeedlePairsModel", "layNeighbours", "(II)V"⟩, 16) := ⟨⟨by decide +kernel, by decide +kernel⟩, List.mem_of_getElem? (i := 490) (by decide +kernel), List.mem_of_getElem? (i := 615) (by decide +kernel), List.mem_of_getElem? (i := 616) (by decide +kernel)⟩
theorem lw_p49 : lw_okq (⟨"NeedlePairsModel", "isTry", "(I)Z"⟩, 16) := ⟨⟨by decide +kernel, by decide +kernel⟩, List.mem_of_getElem? (i := 490) (by decide +kernel), List.mem_of_getElem? (i := 619) (by decide +kernel), List.mem_of_getElem? (i := 620) (by decide +kernel)⟩
theorem lw_p50 : lw_okq (⟨"NeedlePairsModel", "seen", "()I"⟩, 16) := ⟨⟨by decide +kernel, by decide +kernel⟩, List.mem_of_getElem? (i := 490) (by decide +kernel), List.mem_of_getElem? (i := 623) (by decide +kernel), List.mem_of_getElem? (i := 624) (by decide +kernel)⟩
theorem lw_p51 : lw_okq (⟨"NeedlePairsModel", "layOnes", "()V"⟩, 16) := ⟨⟨by decide +kernel, by decide +kernel⟩, List.mem_of_getElem? (i := 490) (by decide +kernel), List.mem_of_getElem? (i := 627) (by decide +kernel), List.mem_of_getElem? (i := 628) (by decide +kernel)⟩
theorem lw_p52 : lw_okq (⟨"NeedlePairsModel", "conducts", "(I)Z"⟩, 16) := ⟨⟨by decide +kernel, by decide +kernel⟩, List.mem_of_getElem? (i := 490) (by decide +kernel), List.mem_of_getElem? (i := 634) (by decide +kernel), List.mem_of_getElem? (i := 635) (by decide +kernel)⟩
theorem lw_p53 : lw_okq (⟨"NeedlePairsModel", "timeOf", "(II)I"⟩, 16) := ⟨⟨by decide +kernel, by decide +kernel⟩, List.mem_of_getElem? (i := 490) (by decide +kernel), List.mem_of_getElem? (i := 642) (by decide +kernel), List.mem_of_getElem? (i := 643) (by decide +kernel)⟩
theorem lw_p54 : lw_okq (⟨"NeedlePairsModel", "timeOfOrder", "()I"⟩, 16) := ⟨⟨by decide +kernel, by decide +kernel⟩, List.mem_of_getElem? (i := 490) (by decide +kernel), List.mem_of_getElem? (i := 664) (by decide +kernel), List.mem_of_getElem? (i := 665) (by decide +kernel)⟩
theorem lw_p55 : lw_okq (⟨"NeedlePairsModel", "layBest", "()V"⟩, 16) := ⟨⟨by decide +kernel, by decide +kernel⟩, List.mem_of_getElem? (i := 490) (by decide +kernel), List.mem_of_getElem? (i := 672) (by decide +kernel), List.mem_of_getElem? (i := 673) (by decide +kernel)⟩
theorem lw_p56 : lw_okq (⟨"NeedlePairsModel", "layRest", "()V"⟩, 16) := ⟨⟨by decide +kernel, by decide +kernel⟩, List.mem_of_getElem? (i := 490) (by decide +kernel), List.mem_of_getElem? (i := 676) (by decide +kernel), List.mem_of_getElem? (i := 677) (by decide +kernel)⟩
theorem lw_p57 : lw_okq (⟨"NeedlePairsModel", "restFrom", "(II)I"⟩, 16) := ⟨⟨by decide +kernel, by decide +kernel⟩, List.mem_of_getElem? (i := 490) (by decide +kernel), List.mem_of_getElem? (i := 680) (by decide +kernel), List.mem_of_getElem? (i := 681) (by decide +kernel)⟩
theorem lw_p58 : lw_okq (⟨"NeedlePairsModel", "orderAt", "(I)I"⟩, 16) := ⟨⟨by decide +kernel, by decide +kernel⟩, List.mem_of_getElem? (i := 490) (by decide +kernel), List.mem_of_getElem? (i := 684) (by decide +kernel), List.mem_of_getElem? (i := 685) (by decide +kernel)⟩
theorem lw_p59 : lw_okq (⟨"NeedlePairsModel", "looseMany", "()I"⟩, 16) := ⟨⟨by decide +kernel, by decide +kernel⟩, List.mem_of_getElem? (i := 490) (by decide +kernel), List.mem_of_getElem? (i := 696) (by decide +kernel), List.mem_of_getElem? (i := 697) (by decide +kernel)⟩
theorem lw_p60 : lw_okq (⟨"NeedlePairsModel", "shortMany", "()I"⟩, 16) := ⟨⟨by decide +kernel, by decide +kernel⟩, List.mem_of_getElem? (i := 490) (by decide +kernel), List.mem_of_getElem? (i := 704) (by decide +kernel), List.mem_of_getElem? (i := 705) (by decide +kernel)⟩
theorem lw_p61 : lw_okq (⟨"NeedlePairsModel", "isSingle", "(I)Z"⟩, 16) := ⟨⟨by decide +kernel, by decide +kernel⟩, List.mem_of_getElem? (i := 490) (by decide +kernel), List.mem_of_getElem? (i := 716) (by decide +kernel), List.mem_of_getElem? (i := 717) (by decide +kernel)⟩
theorem lw_p62 : lw_okq (⟨"NeedlePairsModel", "seenBy", "(I)I"⟩, 16) := ⟨⟨by decide +kernel, by decide +kernel⟩, List.mem_of_getElem? (i := 490) (by decide +kernel), List.mem_of_getElem? (i := 720) (by decide +kernel), List.mem_of_getElem? (i := 721) (by decide +kernel)⟩
theorem lw_p63 : lw_okq (⟨"NeedlePairsModel", "isAnyOne", "(III)Z"⟩, 16) := ⟨⟨by decide +kernel, by decide +kernel⟩, List.mem_of_getElem? (i := 490) (by decide +kernel), List.mem_of_getElem? (i := 732) (by decide +kernel), List.mem_of_getElem? (i := 733) (by decide +kernel)⟩
def lw_privs_4 : List (MethodName × Nat) := [(⟨"NeedlePairsModel", "layNeighbours", "(II)V"⟩, 16), (⟨"NeedlePairsModel", "isTry", "(I)Z"⟩, 16), (⟨"NeedlePairsModel", "seen", "()I"⟩, 16), (⟨"NeedlePairsModel", "layOnes", "()V"⟩, 16), (⟨"NeedlePairsModel", "conducts", "(I)Z"⟩, 16), (⟨"NeedlePairsModel", "timeOf", "(II)I"⟩, 16), (⟨"NeedlePairsModel", "timeOfOrder", "()I"⟩, 16), (⟨"NeedlePairsModel", "layBest", "()V"⟩, 16), (⟨"NeedlePairsModel", "layRest", "()V"⟩, 16), (⟨"NeedlePairsModel", "restFrom", "(II)I"⟩, 16), (⟨"NeedlePairsModel", "orderAt", "(I)I"⟩, 16), (⟨"NeedlePairsModel", "looseMany", "()I"⟩, 16), (⟨"NeedlePairsModel", "shortMany", "()I"⟩, 16), (⟨"NeedlePairsModel", "isSingle", "(I)Z"⟩, 16), (⟨"NeedlePairsModel", "seenBy", "(I)I"⟩, 16), (⟨"NeedlePairsModel", "isAnyOne", "(III)Z"⟩, 16)]
theorem lw_r4 : ∀ q ∈ lw_privs_4, lw_okq q := List.forall_mem_cons.mpr ⟨lw_p48, List.forall_mem_cons.mpr ⟨lw_p49, List.forall_mem_cons.mpr ⟨lw_p50, List.forall_mem_cons.mpr ⟨lw_p51, List.forall_mem_cons.mpr ⟨lw_p52, List.forall_mem_cons.mpr ⟨lw_p53, List.forall_mem_cons.mpr ⟨lw_p54, List.forall_mem_cons.mpr ⟨lw_p55, List.forall_mem_cons.mpr ⟨lw_p56, List.forall_mem_cons.mpr ⟨lw_p57, List.forall_mem_cons.mpr ⟨lw_p58, List.forall_mem_cons.mpr ⟨lw_p59, List.forall_mem_cons.mpr ⟨lw_p60, List.forall_mem_cons.mpr ⟨lw_p61, List.forall_mem_cons.mpr ⟨lw_p62, List.forall_mem_cons.mpr ⟨lw_p63, fun _ h => absurd h List.not_mem_nil⟩⟩⟩⟩⟩⟩⟩⟩⟩⟩⟩⟩⟩⟩⟩⟩
theorem lw_p64 : lw_okq (⟨"NeedlePairsModel", "apartMany", "()I"⟩, 16) := ⟨⟨by decide +kernel, by decide +kernel⟩, List.mem_of_getElem? (i := 490) (by decide +kernel), List.mem_of_getElem? (i := 748) (by decide +kernel), List.mem_of_getElem? (i := 749) (by decide +kernel)⟩
theorem lw_p65 : lw_okq (⟨"NeedlePairsModel", "netsUsed", "()I"⟩, 16) := ⟨⟨by decide +kernel, by decide +kernel⟩, List.mem_of_getElem? (i := 490) (by decide +kernel), List.mem_of_getElem? (i := 752) (by decide +kernel), List.mem_of_getElem? (i := 753) (by decide +kernel)⟩
def lw_privs_5 : List (MethodName × Nat) := [(⟨"NeedlePairsModel", "apartMany", "()I"⟩, 16), (⟨"NeedlePairsModel", "netsUsed", "()I"⟩, 16)]
theorem lw_r5 : ∀ q ∈ lw_privs_5, lw_okq q := List.forall_mem_cons.mpr ⟨lw_p64, List.forall_mem_cons.mpr ⟨lw_p65, fun _ h => absurd h List.not_mem_nil⟩⟩
def lw_privs : List (MethodName × Nat) := lw_privs_1 ++ (lw_privs_2 ++ (lw_privs_3 ++ (lw_privs_4 ++ (lw_privs_5))))
def lw_tbl : List Cond := k2_sels lw_privs ++ tables_1
theorem lw_privs_ok : ∀ q ∈ lw_privs, lw_okq q := by
  show ∀ q ∈ lw_privs_1 ++ (lw_privs_2 ++ (lw_privs_3 ++ (lw_privs_4 ++ (lw_privs_5)))), lw_okq q
  exact List.forall_mem_append.mpr ⟨lw_r1, List.forall_mem_append.mpr ⟨lw_r2, List.forall_mem_append.mpr ⟨lw_r3, List.forall_mem_append.mpr ⟨lw_r4, lw_r5⟩⟩⟩⟩
end
section
theorem goodIn_r {big : List Cond} (ws : List Cond) (ps : List Nat) (hp : ws = ps.filterMap (fun i => big[i]?)) (h : ws.all goodWord = true) : GoodIn big ws := by
  intro w hw
  have h1 := List.all_eq_true.mp h w hw
  rw [hp] at hw
  obtain ⟨i, -, hi⟩ := List.mem_filterMap.mp hw
  have hm : w ∈ big := by first | exact List.mem_of_getElem? hi | exact List.getElem?_mem hi
  exact ⟨hm, good_of_word h1⟩
theorem goodIn_app {big a b : List Cond} (ha : GoodIn big a) (hb : GoodIn big b) : GoodIn big (a ++ b) := fun w h => (List.mem_append.mp h).elim (ha w) (hb w)
theorem goodIn_ca {big a b : List Cond} {c : Cond} (ha : GoodIn big (c :: a)) (hb : GoodIn big b) : GoodIn big (c :: (a ++ b)) := fun w h => (List.mem_cons.mp h).elim (fun e => ha w (List.mem_cons.mpr (Or.inl e))) (fun h => (List.mem_append.mp h).elim (fun h => ha w (List.mem_cons.mpr (Or.inr h))) (hb w))
theorem goodIn_sub {big ws : List Cond} (hm : ∀ w ∈ ws, w ∈ big) (h : ws.all goodWord = true) : GoodIn big ws := fun w hw => ⟨hm w hw, good_of_word (List.all_eq_true.mp h w hw)⟩
def RX0 : String := "NeedlePairs$Board"
def TX0 : u_T := fun k => match k with
  | 0 => ("NeedlePairs$Board", "nets", "[I", true)
  | 1 => ("NeedlePairs$Board", "xs", "[I", true)
  | 2 => ("NeedlePairs$Board", "ys", "[I", true)
  | 3 => ("NeedlePairs$Board", "points", "I", false)
  | 4 => ("NeedlePairs$Board", "nearness", "I", false)
  | 5 => ("NeedlePairs$Board", "looseSet", "I", false)
  | _ => ("NeedlePairs$Board", "shortSet", "I", false)
def tyX0 : Nat → FieldType := fun k => match k with
  | 0 => .array .int
  | 1 => .array .int
  | 2 => .array .int
  | 3 => .int
  | 4 => .int
  | 5 => .int
  | _ => .int
abbrev wsX00 : List Cond := u_ws RX0 TX0 7
theorem nmX0 : ∀ a, a < 7 → ∀ b, b < 7 → a ≠ b → (TX0 a).2.1 ≠ (TX0 b).2.1 := by decide +kernel
theorem tyX0_ok : ∀ k, k < 7 → parseFieldDescriptor (TX0 k).2.2.1 = some (tyX0 k) := by decide +kernel
abbrev cX0_init : ByteArray := prog_2_method_1_code
def yX0_init : MethodName := ⟨RX0, "<init>", "()V"⟩
abbrev cX0_copyFrom : ByteArray := prog_2_method_2_code
def yX0_copyFrom : MethodName := ⟨RX0, "copyFrom", "(LNeedlePairs$Board;)V"⟩
abbrev cX0_hasPoint : ByteArray := prog_2_method_3_code
def yX0_hasPoint : MethodName := ⟨RX0, "hasPoint", "(I)Z"⟩
abbrev cX0_addPoint : ByteArray := prog_2_method_4_code
def yX0_addPoint : MethodName := ⟨RX0, "addPoint", "(III)I"⟩
abbrev cX0_removeLastPoint : ByteArray := prog_2_method_5_code
def yX0_removeLastPoint : MethodName := ⟨RX0, "removeLastPoint", "()V"⟩
abbrev cX0_distance : ByteArray := prog_2_method_6_code
def yX0_distance : MethodName := ⟨RX0, "distance", "(II)I"⟩
abbrev cX0_isLeftOf : ByteArray := prog_2_method_7_code
def yX0_isLeftOf : MethodName := ⟨RX0, "isLeftOf", "(II)Z"⟩
abbrev cX0_countNetsWithPoints : ByteArray := prog_2_method_8_code
def yX0_countNetsWithPoints : MethodName := ⟨RX0, "countNetsWithPoints", "()I"⟩
def RX1 : String := "NeedlePairs$Needles"
def TX1 : u_T := fun k => match k with
  | 0 => ("NeedlePairs$Needles", "total", "I", false)
  | 1 => ("NeedlePairs$Needles", "leaps", "[I", true)
  | 2 => ("NeedlePairs$Needles", "onward", "[I", true)
  | 3 => ("NeedlePairs$Needles", "bestOrder", "LNeedlePairs$Order;", true)
  | 4 => ("NeedlePairs$Needles", "nearestOrder", "LNeedlePairs$Order;", true)
  | _ => ("NeedlePairs$Needles", "bestIsPlanned", "Z", false)
def tyX1 : Nat → FieldType := fun k => match k with
  | 0 => .int
  | 1 => .array .int
  | 2 => .array .int
  | 3 => .object "NeedlePairs$Order"
  | 4 => .object "NeedlePairs$Order"
  | _ => .boolean
abbrev wsX10 : List Cond := u_ws RX1 TX1 6
theorem nmX1 : ∀ a, a < 6 → ∀ b, b < 6 → a ≠ b → (TX1 a).2.1 ≠ (TX1 b).2.1 := by decide +kernel
theorem tyX1_ok : ∀ k, k < 6 → parseFieldDescriptor (TX1 k).2.2.1 = some (tyX1 k) := by decide +kernel
abbrev cX1_init : ByteArray := prog_3_method_1_code
def yX1_init : MethodName := ⟨RX1, "<init>", "()V"⟩
abbrev cX1_measure : ByteArray := prog_3_method_2_code
def yX1_measure : MethodName := ⟨RX1, "measure", "(LNeedlePairs$Board;LNeedlePairs$Tries;)V"⟩
abbrev cX1_way : ByteArray := prog_3_method_3_code
def yX1_way : MethodName := ⟨RX1, "way", "(LNeedlePairs$Board;II)I"⟩
abbrev cX1_longer : ByteArray := prog_3_method_4_code
def yX1_longer : MethodName := ⟨RX1, "longer", "(II)I"⟩
abbrev cX1_leap : ByteArray := prog_3_method_5_code
def yX1_leap : MethodName := ⟨RX1, "leap", "(II)I"⟩
abbrev cX1_allTries : ByteArray := prog_3_method_6_code
def yX1_allTries : MethodName := ⟨RX1, "allTries", "()I"⟩
abbrev cX1_planNearest : ByteArray := prog_3_method_7_code
def yX1_planNearest : MethodName := ⟨RX1, "planNearest", "()V"⟩
abbrev cX1_planBest : ByteArray := prog_3_method_8_code
def yX1_planBest : MethodName := ⟨RX1, "planBest", "()V"⟩
abbrev cX1_plan : ByteArray := prog_3_method_9_code
def yX1_plan : MethodName := ⟨RX1, "plan", "(LNeedlePairs$Order;Z)V"⟩
abbrev cX1_nearestOf : ByteArray := prog_3_method_10_code
def yX1_nearestOf : MethodName := ⟨RX1, "nearestOf", "(II)I"⟩
abbrev cX1_weighOnward : ByteArray := prog_3_method_11_code
def yX1_weighOnward : MethodName := ⟨RX1, "weighOnward", "()V"⟩
abbrev cX1_leastThrough : ByteArray := prog_3_method_12_code
def yX1_leastThrough : MethodName := ⟨RX1, "leastThrough", "(II)I"⟩
abbrev cX1_firstOfBest : ByteArray := prog_3_method_13_code
def yX1_firstOfBest : MethodName := ⟨RX1, "firstOfBest", "(II)I"⟩
def RX2 : String := "NeedlePairs$Order"
def TX2 : u_T := fun k => match k with
  | 0 => ("NeedlePairs$Order", "tries", "[I", true)
  | 1 => ("NeedlePairs$Order", "length", "I", false)
  | _ => ("NeedlePairs$Order", "sum", "I", false)
def tyX2 : Nat → FieldType := fun k => match k with
  | 0 => .array .int
  | 1 => .int
  | _ => .int
abbrev wsX20 : List Cond := u_ws RX2 TX2 3
theorem nmX2 : ∀ a, a < 3 → ∀ b, b < 3 → a ≠ b → (TX2 a).2.1 ≠ (TX2 b).2.1 := by decide +kernel
theorem tyX2_ok : ∀ k, k < 3 → parseFieldDescriptor (TX2 k).2.2.1 = some (tyX2 k) := by decide +kernel
abbrev cX2_init : ByteArray := prog_4_method_1_code
def yX2_init : MethodName := ⟨RX2, "<init>", "()V"⟩
abbrev cX2_clear : ByteArray := prog_4_method_2_code
def yX2_clear : MethodName := ⟨RX2, "clear", "()V"⟩
abbrev cX2_append : ByteArray := prog_4_method_3_code
def yX2_append : MethodName := ⟨RX2, "append", "(II)V"⟩
abbrev cX2_tell : ByteArray := prog_4_method_4_code
def yX2_tell : MethodName := ⟨RX2, "tell", "(I)I"⟩
def RX3 : String := "NeedlePairs$Pad"
def TX3 : u_T := fun k => match k with
  | 0 => ("NeedlePairs$Pad", "signs", "[I", true)
  | _ => ("NeedlePairs$Pad", "length", "I", false)
def tyX3 : Nat → FieldType := fun k => match k with
  | 0 => .array .int
  | _ => .int
abbrev wsX30 : List Cond := u_ws RX3 TX3 2
theorem nmX3 : ∀ a, a < 2 → ∀ b, b < 2 → a ≠ b → (TX3 a).2.1 ≠ (TX3 b).2.1 := by decide +kernel
theorem tyX3_ok : ∀ k, k < 2 → parseFieldDescriptor (TX3 k).2.2.1 = some (tyX3 k) := by decide +kernel
abbrev cX3_init : ByteArray := prog_5_method_1_code
def yX3_init : MethodName := ⟨RX3, "<init>", "()V"⟩
abbrev cX3_write : ByteArray := prog_5_method_2_code
def yX3_write : MethodName := ⟨RX3, "write", "(I)V"⟩
abbrev cX3_tryAt : ByteArray := prog_5_method_3_code
def yX3_tryAt : MethodName := ⟨RX3, "tryAt", "(I)I"⟩
abbrev cX3_tellsOrderOf : ByteArray := prog_5_method_4_code
def yX3_tellsOrderOf : MethodName := ⟨RX3, "tellsOrderOf", "(I)Z"⟩
def RX4 : String := "NeedlePairs$Tries"
def TX4 : u_T := fun k => match k with
  | 0 => ("NeedlePairs$Tries", "left", "[I", true)
  | 1 => ("NeedlePairs$Tries", "right", "[I", true)
  | 2 => ("NeedlePairs$Tries", "total", "I", false)
  | 3 => ("NeedlePairs$Tries", "ofTrees", "I", false)
  | 4 => ("NeedlePairs$Tries", "group", "[I", true)
  | _ => ("NeedlePairs$Tries", "paired", "[I", true)
def tyX4 : Nat → FieldType := fun k => match k with
  | 0 => .array .int
  | 1 => .array .int
  | 2 => .int
  | 3 => .int
  | 4 => .array .int
  | _ => .array .int
abbrev wsX40 : List Cond := u_ws RX4 TX4 6
theorem nmX4 : ∀ a, a < 6 → ∀ b, b < 6 → a ≠ b → (TX4 a).2.1 ≠ (TX4 b).2.1 := by decide +kernel
theorem tyX4_ok : ∀ k, k < 6 → parseFieldDescriptor (TX4 k).2.2.1 = some (tyX4 k) := by decide +kernel
abbrev cX4_init : ByteArray := prog_6_method_1_code
def yX4_init : MethodName := ⟨RX4, "<init>", "()V"⟩
abbrev cX4_layOut : ByteArray := prog_6_method_2_code
def yX4_layOut : MethodName := ⟨RX4, "layOut", "(LNeedlePairs$Board;)V"⟩
abbrev cX4_hasTry : ByteArray := prog_6_method_3_code
def yX4_hasTry : MethodName := ⟨RX4, "hasTry", "(I)Z"⟩
abbrev cX4_isOfNeighbours : ByteArray := prog_6_method_4_code
def yX4_isOfNeighbours : MethodName := ⟨RX4, "isOfNeighbours", "(I)Z"⟩
abbrev cX4_growTrees : ByteArray := prog_6_method_5_code
def yX4_growTrees : MethodName := ⟨RX4, "growTrees", "(LNeedlePairs$Board;)V"⟩
abbrev cX4_joinNextPair : ByteArray := prog_6_method_6_code
def yX4_joinNextPair : MethodName := ⟨RX4, "joinNextPair", "(LNeedlePairs$Board;)Z"⟩
abbrev cX4_mergeGroups : ByteArray := prog_6_method_7_code
def yX4_mergeGroups : MethodName := ⟨RX4, "mergeGroups", "(II)V"⟩
abbrev cX4_addTrees : ByteArray := prog_6_method_8_code
def yX4_addTrees : MethodName := ⟨RX4, "addTrees", "(LNeedlePairs$Board;)V"⟩
abbrev cX4_addNeighbours : ByteArray := prog_6_method_9_code
def yX4_addNeighbours : MethodName := ⟨RX4, "addNeighbours", "(LNeedlePairs$Board;)V"⟩
abbrev cX4_addNearestPair : ByteArray := prog_6_method_10_code
def yX4_addNearestPair : MethodName := ⟨RX4, "addNearestPair", "(LNeedlePairs$Board;II)V"⟩
abbrev cX4_addTry : ByteArray := prog_6_method_11_code
def yX4_addTry : MethodName := ⟨RX4, "addTry", "(LNeedlePairs$Board;II)V"⟩
abbrev cX4_conducts : ByteArray := prog_6_method_12_code
def yX4_conducts : MethodName := ⟨RX4, "conducts", "(LNeedlePairs$Board;III)Z"⟩
abbrev cX4_seenSet : ByteArray := prog_6_method_13_code
def yX4_seenSet : MethodName := ⟨RX4, "seenSet", "(LNeedlePairs$Board;II)I"⟩
def RX5 : String := "NeedlePairs"
def TX5 : u_T := fun k => match k with
  | 0 => ("NeedlePairs", "board", "LNeedlePairs$Board;", true)
  | 1 => ("NeedlePairs", "tries", "LNeedlePairs$Tries;", true)
  | 2 => ("NeedlePairs", "needles", "LNeedlePairs$Needles;", true)
  | 3 => ("NeedlePairs", "pad", "LNeedlePairs$Pad;", true)
  | 4 => ("NeedlePairs", "images", "[LNeedlePairs$Board;", true)
  | _ => ("NeedlePairs", "keptImages", "I", false)
def tyX5 : Nat → FieldType := fun k => match k with
  | 0 => .object "NeedlePairs$Board"
  | 1 => .object "NeedlePairs$Tries"
  | 2 => .object "NeedlePairs$Needles"
  | 3 => .object "NeedlePairs$Pad"
  | 4 => .array (.object "NeedlePairs$Board")
  | _ => .int
abbrev wsX50 : List Cond := u_ws RX5 TX5 6
theorem nmX5 : ∀ a, a < 6 → ∀ b, b < 6 → a ≠ b → (TX5 a).2.1 ≠ (TX5 b).2.1 := by decide +kernel
theorem tyX5_ok : ∀ k, k < 6 → parseFieldDescriptor (TX5 k).2.2.1 = some (tyX5 k) := by decide +kernel
abbrev cX5_init : ByteArray := prog_1_method_1_code
def yX5_init : MethodName := ⟨RX5, "<init>", "()V"⟩
abbrev cX5_point : ByteArray := prog_1_method_2_code
def yX5_point : MethodName := ⟨RX5, "point", "(III)I"⟩
abbrev cX5_pop : ByteArray := prog_1_method_3_code
def yX5_pop : MethodName := ⟨RX5, "pop", "()I"⟩
abbrev cX5_move : ByteArray := prog_1_method_4_code
def yX5_move : MethodName := ⟨RX5, "move", "(III)I"⟩
abbrev cX5_near : ByteArray := prog_1_method_5_code
def yX5_near : MethodName := ⟨RX5, "near", "(I)I"⟩
abbrev cX5_of : ByteArray := prog_1_method_6_code
def yX5_of : MethodName := ⟨RX5, "of", "(II)I"⟩
abbrev cX5_far : ByteArray := prog_1_method_7_code
def yX5_far : MethodName := ⟨RX5, "far", "(II)I"⟩
abbrev cX5_attempt : ByteArray := prog_1_method_8_code
def yX5_attempt : MethodName := ⟨RX5, "attempt", "(II)I"⟩
abbrev cX5_time : ByteArray := prog_1_method_9_code
def yX5_time : MethodName := ⟨RX5, "time", "(II)I"⟩
abbrev cX5_say : ByteArray := prog_1_method_10_code
def yX5_say : MethodName := ⟨RX5, "say", "(I)I"⟩
abbrev cX5_wipe : ByteArray := prog_1_method_11_code
def yX5_wipe : MethodName := ⟨RX5, "wipe", "()I"⟩
abbrev cX5_told : ByteArray := prog_1_method_12_code
def yX5_told : MethodName := ⟨RX5, "told", "()I"⟩
abbrev cX5_best : ByteArray := prog_1_method_13_code
def yX5_best : MethodName := ⟨RX5, "best", "(I)I"⟩
abbrev cX5_nearest : ByteArray := prog_1_method_14_code
def yX5_nearest : MethodName := ⟨RX5, "nearest", "(I)I"⟩
abbrev cX5_loosen : ByteArray := prog_1_method_15_code
def yX5_loosen : MethodName := ⟨RX5, "loosen", "(II)I"⟩
abbrev cX5_join : ByteArray := prog_1_method_16_code
def yX5_join : MethodName := ⟨RX5, "join", "(III)I"⟩
abbrev cX5_sees : ByteArray := prog_1_method_17_code
def yX5_sees : MethodName := ⟨RX5, "sees", "()I"⟩
abbrev cX5_fits : ByteArray := prog_1_method_18_code
def yX5_fits : MethodName := ⟨RX5, "fits", "(I)I"⟩
abbrev cX5_hidden : ByteArray := prog_1_method_19_code
def yX5_hidden : MethodName := ⟨RX5, "hidden", "(I)I"⟩
abbrev cX5_halves : ByteArray := prog_1_method_20_code
def yX5_halves : MethodName := ⟨RX5, "halves", "(II)I"⟩
abbrev cX5_image : ByteArray := prog_1_method_21_code
def yX5_image : MethodName := ⟨RX5, "image", "(I)I"⟩
abbrev cX5_restore : ByteArray := prog_1_method_22_code
def yX5_restore : MethodName := ⟨RX5, "restore", "(I)I"⟩
abbrev cX5_count : ByteArray := prog_1_method_23_code
def yX5_count : MethodName := ⟨RX5, "count", "(I)I"⟩
abbrev cX5_layTriesAnew : ByteArray := prog_1_method_24_code
def yX5_layTriesAnew : MethodName := ⟨RX5, "layTriesAnew", "()V"⟩
abbrev cX5_seenNow : ByteArray := prog_1_method_25_code
def yX5_seenNow : MethodName := ⟨RX5, "seenNow", "()I"⟩
abbrev cX5_flawSeenAs : ByteArray := prog_1_method_26_code
def yX5_flawSeenAs : MethodName := ⟨RX5, "flawSeenAs", "(II)I"⟩
abbrev cX5_isFlaw : ByteArray := prog_1_method_27_code
def yX5_isFlaw : MethodName := ⟨RX5, "isFlaw", "(I)Z"⟩
abbrev cX5_seenOfFlaw : ByteArray := prog_1_method_28_code
def yX5_seenOfFlaw : MethodName := ⟨RX5, "seenOfFlaw", "(I)I"⟩
abbrev cX5_isNet : ByteArray := prog_1_method_29_code
def yX5_isNet : MethodName := ⟨RX5, "isNet", "(I)Z"⟩
abbrev cX5_isOnBoard : ByteArray := prog_1_method_30_code
def yX5_isOnBoard : MethodName := ⟨RX5, "isOnBoard", "(II)Z"⟩
abbrev cX5_isImage : ByteArray := prog_1_method_31_code
def yX5_isImage : MethodName := ⟨RX5, "isImage", "(I)Z"⟩
abbrev cX5_isSwitch : ByteArray := prog_1_method_32_code
def yX5_isSwitch : MethodName := ⟨RX5, "isSwitch", "(I)Z"⟩
abbrev cX5_isIn : ByteArray := prog_1_method_33_code
def yX5_isIn : MethodName := ⟨RX5, "isIn", "(II)Z"⟩
abbrev cX5_withMember : ByteArray := prog_1_method_34_code
def yX5_withMember : MethodName := ⟨RX5, "withMember", "(III)I"⟩
abbrev cX5_asNumber : ByteArray := prog_1_method_35_code
def yX5_asNumber : MethodName := ⟨RX5, "asNumber", "(Z)I"⟩
abbrev cX5_leastMembers : ByteArray := prog_1_method_36_code
def yX5_leastMembers : MethodName := ⟨RX5, "leastMembers", "(II)I"⟩
abbrev cX5_leastNet : ByteArray := prog_1_method_37_code
def yX5_leastNet : MethodName := ⟨RX5, "leastNet", "(I)I"⟩
abbrev cX5_pairOfNets : ByteArray := prog_1_method_38_code
def yX5_pairOfNets : MethodName := ⟨RX5, "pairOfNets", "(II)I"⟩
abbrev cX5_netsOneWith : ByteArray := prog_1_method_39_code
def yX5_netsOneWith : MethodName := ⟨RX5, "netsOneWith", "(II)I"⟩
def RX6 : String := "NeedlePairsModel"
def TX6 : u_T := fun k => match k with
  | 0 => ("NeedlePairsModel", "state", "[I", true)
  | 1 => ("NeedlePairsModel", "images", "[I", true)
  | 2 => ("NeedlePairsModel", "isKept", "[Z", true)
  | 3 => ("NeedlePairsModel", "pad", "[I", true)
  | 4 => ("NeedlePairsModel", "said", "I", false)
  | 5 => ("NeedlePairsModel", "leftOf", "[I", true)
  | 6 => ("NeedlePairsModel", "rightOf", "[I", true)
  | 7 => ("NeedlePairsModel", "isApart", "[Z", true)
  | 8 => ("NeedlePairsModel", "tries", "I", false)
  | 9 => ("NeedlePairsModel", "group", "[I", true)
  | 10 => ("NeedlePairsModel", "isPair", "[Z", true)
  | 11 => ("NeedlePairsModel", "isOne", "[Z", true)
  | 12 => ("NeedlePairsModel", "order", "[I", true)
  | 13 => ("NeedlePairsModel", "rest", "[I", true)
  | 14 => ("NeedlePairsModel", "aside", "[I", true)
  | _ => ("NeedlePairsModel", "others", "[I", true)
def tyX6 : Nat → FieldType := fun k => match k with
  | 0 => .array .int
  | 1 => .array .int
  | 2 => .array .boolean
  | 3 => .array .int
  | 4 => .int
  | 5 => .array .int
  | 6 => .array .int
  | 7 => .array .boolean
  | 8 => .int
  | 9 => .array .int
  | 10 => .array .boolean
  | 11 => .array .boolean
  | 12 => .array .int
  | 13 => .array .int
  | 14 => .array .int
  | _ => .array .int
abbrev wsX60 : List Cond := u_ws RX6 TX6 16
theorem nmX6 : ∀ a, a < 16 → ∀ b, b < 16 → a ≠ b → (TX6 a).2.1 ≠ (TX6 b).2.1 := by decide +kernel
theorem tyX6_ok : ∀ k, k < 16 → parseFieldDescriptor (TX6 k).2.2.1 = some (tyX6 k) := by decide +kernel
abbrev cX6_init : ByteArray := prog_8_method_1_code
def yX6_init : MethodName := ⟨RX6, "<init>", "()V"⟩
abbrev cX6_in : ByteArray := prog_8_method_2_code
def yX6_in : MethodName := ⟨RX6, "in", "(III)Z"⟩
abbrev cX6_isNet : ByteArray := prog_8_method_3_code
def yX6_isNet : MethodName := ⟨RX6, "isNet", "(I)Z"⟩
abbrev cX6_isPoint : ByteArray := prog_8_method_4_code
def yX6_isPoint : MethodName := ⟨RX6, "isPoint", "(I)Z"⟩
abbrev cX6_isHere : ByteArray := prog_8_method_5_code
def yX6_isHere : MethodName := ⟨RX6, "isHere", "(II)Z"⟩
abbrev cX6_point : ByteArray := prog_8_method_6_code
def yX6_point : MethodName := ⟨RX6, "point", "(III)I"⟩
abbrev cX6_pop : ByteArray := prog_8_method_7_code
def yX6_pop : MethodName := ⟨RX6, "pop", "()I"⟩
abbrev cX6_move : ByteArray := prog_8_method_8_code
def yX6_move : MethodName := ⟨RX6, "move", "(III)I"⟩
abbrev cX6_near : ByteArray := prog_8_method_9_code
def yX6_near : MethodName := ⟨RX6, "near", "(I)I"⟩
abbrev cX6_of : ByteArray := prog_8_method_10_code
def yX6_of : MethodName := ⟨RX6, "of", "(II)I"⟩
abbrev cX6_farOf : ByteArray := prog_8_method_11_code
def yX6_farOf : MethodName := ⟨RX6, "farOf", "(II)I"⟩
abbrev cX6_far : ByteArray := prog_8_method_12_code
def yX6_far : MethodName := ⟨RX6, "far", "(II)I"⟩
abbrev cX6_addTry : ByteArray := prog_8_method_13_code
def yX6_addTry : MethodName := ⟨RX6, "addTry", "(IIZ)V"⟩
abbrev cX6_canJoin : ByteArray := prog_8_method_14_code
def yX6_canJoin : MethodName := ⟨RX6, "canJoin", "(III)Z"⟩
abbrev cX6_nextPair : ByteArray := prog_8_method_15_code
def yX6_nextPair : MethodName := ⟨RX6, "nextPair", "(I)I"⟩
abbrev cX6_join : ByteArray := prog_8_method_16_code
def yX6_join : MethodName := ⟨RX6, "join", "(II)V"⟩
abbrev cX6_layTree : ByteArray := prog_8_method_17_code
def yX6_layTree : MethodName := ⟨RX6, "layTree", "(I)V"⟩
abbrev cX6_layNeighbours : ByteArray := prog_8_method_18_code
def yX6_layNeighbours : MethodName := ⟨RX6, "layNeighbours", "(II)V"⟩
abbrev cX6_layTries : ByteArray := prog_8_method_19_code
def yX6_layTries : MethodName := ⟨RX6, "layTries", "()V"⟩
abbrev cX6_isTry : ByteArray := prog_8_method_20_code
def yX6_isTry : MethodName := ⟨RX6, "isTry", "(I)Z"⟩
abbrev cX6_pairOf : ByteArray := prog_8_method_21_code
def yX6_pairOf : MethodName := ⟨RX6, "pairOf", "(II)I"⟩
abbrev cX6_layOnes : ByteArray := prog_8_method_22_code
def yX6_layOnes : MethodName := ⟨RX6, "layOnes", "()V"⟩
abbrev cX6_conducts : ByteArray := prog_8_method_23_code
def yX6_conducts : MethodName := ⟨RX6, "conducts", "(I)Z"⟩
abbrev cX6_seen : ByteArray := prog_8_method_24_code
def yX6_seen : MethodName := ⟨RX6, "seen", "()I"⟩
abbrev cX6_attempt : ByteArray := prog_8_method_25_code
def yX6_attempt : MethodName := ⟨RX6, "attempt", "(II)I"⟩
abbrev cX6_size : ByteArray := prog_8_method_26_code
def yX6_size : MethodName := ⟨RX6, "size", "(I)I"⟩
abbrev cX6_greater : ByteArray := prog_8_method_27_code
def yX6_greater : MethodName := ⟨RX6, "greater", "(II)I"⟩
abbrev cX6_timeOf : ByteArray := prog_8_method_28_code
def yX6_timeOf : MethodName := ⟨RX6, "timeOf", "(II)I"⟩
abbrev cX6_time : ByteArray := prog_8_method_29_code
def yX6_time : MethodName := ⟨RX6, "time", "(II)I"⟩
abbrev cX6_say : ByteArray := prog_8_method_30_code
def yX6_say : MethodName := ⟨RX6, "say", "(I)I"⟩
abbrev cX6_wipe : ByteArray := prog_8_method_31_code
def yX6_wipe : MethodName := ⟨RX6, "wipe", "()I"⟩
abbrev cX6_timeOfOrder : ByteArray := prog_8_method_32_code
def yX6_timeOfOrder : MethodName := ⟨RX6, "timeOfOrder", "()I"⟩
abbrev cX6_told : ByteArray := prog_8_method_33_code
def yX6_told : MethodName := ⟨RX6, "told", "()I"⟩
abbrev cX6_restFrom : ByteArray := prog_8_method_34_code
def yX6_restFrom : MethodName := ⟨RX6, "restFrom", "(II)I"⟩
abbrev cX6_layRest : ByteArray := prog_8_method_35_code
def yX6_layRest : MethodName := ⟨RX6, "layRest", "()V"⟩
abbrev cX6_layBest : ByteArray := prog_8_method_36_code
def yX6_layBest : MethodName := ⟨RX6, "layBest", "()V"⟩
abbrev cX6_orderAt : ByteArray := prog_8_method_37_code
def yX6_orderAt : MethodName := ⟨RX6, "orderAt", "(I)I"⟩
abbrev cX6_best : ByteArray := prog_8_method_38_code
def yX6_best : MethodName := ⟨RX6, "best", "(I)I"⟩
abbrev cX6_nearest : ByteArray := prog_8_method_39_code
def yX6_nearest : MethodName := ⟨RX6, "nearest", "(I)I"⟩
abbrev cX6_looseMany : ByteArray := prog_8_method_40_code
def yX6_looseMany : MethodName := ⟨RX6, "looseMany", "()I"⟩
abbrev cX6_loosen : ByteArray := prog_8_method_41_code
def yX6_loosen : MethodName := ⟨RX6, "loosen", "(II)I"⟩
abbrev cX6_shortMany : ByteArray := prog_8_method_42_code
def yX6_shortMany : MethodName := ⟨RX6, "shortMany", "()I"⟩
abbrev cX6_join_ : ByteArray := prog_8_method_43_code
def yX6_join_ : MethodName := ⟨RX6, "join", "(III)I"⟩
abbrev cX6_sees : ByteArray := prog_8_method_44_code
def yX6_sees : MethodName := ⟨RX6, "sees", "()I"⟩
abbrev cX6_isSingle : ByteArray := prog_8_method_45_code
def yX6_isSingle : MethodName := ⟨RX6, "isSingle", "(I)Z"⟩
abbrev cX6_seenBy : ByteArray := prog_8_method_46_code
def yX6_seenBy : MethodName := ⟨RX6, "seenBy", "(I)I"⟩
abbrev cX6_fits : ByteArray := prog_8_method_47_code
def yX6_fits : MethodName := ⟨RX6, "fits", "(I)I"⟩
abbrev cX6_hidden : ByteArray := prog_8_method_48_code
def yX6_hidden : MethodName := ⟨RX6, "hidden", "(I)I"⟩
abbrev cX6_isAnyOne : ByteArray := prog_8_method_49_code
def yX6_isAnyOne : MethodName := ⟨RX6, "isAnyOne", "(III)Z"⟩
abbrev cX6_halves : ByteArray := prog_8_method_50_code
def yX6_halves : MethodName := ⟨RX6, "halves", "(II)I"⟩
abbrev cX6_image : ByteArray := prog_8_method_51_code
def yX6_image : MethodName := ⟨RX6, "image", "(I)I"⟩
abbrev cX6_restore : ByteArray := prog_8_method_52_code
def yX6_restore : MethodName := ⟨RX6, "restore", "(I)I"⟩
abbrev cX6_apartMany : ByteArray := prog_8_method_53_code
def yX6_apartMany : MethodName := ⟨RX6, "apartMany", "()I"⟩
abbrev cX6_netsUsed : ByteArray := prog_8_method_54_code
def yX6_netsUsed : MethodName := ⟨RX6, "netsUsed", "()I"⟩
abbrev cX6_count : ByteArray := prog_8_method_55_code
def yX6_count : MethodName := ⟨RX6, "count", "(I)I"⟩
def RJ6 : String := "java/lang/Integer"
def TJ6 : u_T := fun k => match k with
  | _ => ("", "", "", false)
def tyJ6 : Nat → FieldType := fun k => match k with
  | _ => .int
abbrev wsJ60 : List Cond := u_ws RJ6 TJ6 0
theorem nmJ6 : ∀ a, a < 0 → ∀ b, b < 0 → a ≠ b → (TJ6 a).2.1 ≠ (TJ6 b).2.1 := by decide +kernel
theorem tyJ6_ok : ∀ k, k < 0 → parseFieldDescriptor (TJ6 k).2.2.1 = some (tyJ6 k) := by decide +kernel
abbrev cJ6_bitCount_0f7a4 : ByteArray := prog_9_method_49_code
def yJ6_bitCount_0f7a4 : MethodName := ⟨RJ6, "bitCount", "(I)I"⟩
def RJ9 : String := "java/lang/Math"
def TJ9 : u_T := fun k => match k with
  | _ => ("", "", "", false)
def tyJ9 : Nat → FieldType := fun k => match k with
  | _ => .int
abbrev wsJ90 : List Cond := u_ws RJ9 TJ9 0
theorem nmJ9 : ∀ a, a < 0 → ∀ b, b < 0 → a ≠ b → (TJ9 a).2.1 ≠ (TJ9 b).2.1 := by decide +kernel
theorem tyJ9_ok : ∀ k, k < 0 → parseFieldDescriptor (TJ9 k).2.2.1 = some (tyJ9 k) := by decide +kernel
abbrev cJ9_abs_0f7a4 : ByteArray := prog_10_method_59_code
def yJ9_abs_0f7a4 : MethodName := ⟨RJ9, "abs", "(I)I"⟩
abbrev cJ9_max_7cf53 : ByteArray := prog_10_method_65_code
def yJ9_max_7cf53 : MethodName := ⟨RJ9, "max", "(II)I"⟩
abbrev cJ9_min_7cf53 : ByteArray := prog_10_method_69_code
def yJ9_min_7cf53 : MethodName := ⟨RJ9, "min", "(II)I"⟩
def RL : String := "NeedlePairsLaw"
abbrev cL_law : ByteArray := code
def yL_law : MethodName := ⟨RL, "law", "([I)Z"⟩
abbrev vwCl : List vw_C := [(RX0, TX0, 7), (RX1, TX1, 6), (RX2, TX2, 3), (RX3, TX3, 2), (RX4, TX4, 6), (RX5, TX5, 6), (RX6, TX6, 16)]
end
section
/-- the words that every contract takes: those of the tables that hold at every state -/
def wG : List Cond := lw_tbl.filter goodWord
theorem wG_mk {w : Cond} (i : Nat) (h : lw_tbl[i]? = some w) (g : goodWord w = true) : w ∈ wG := List.mem_filter.mpr ⟨List.mem_of_getElem? h, g⟩
theorem wG_good : GoodIn wG wG := fun _ h => ⟨h, good_of_word (List.mem_filter.mp h).2⟩
set_option maxRecDepth 100000 in
theorem sel_X0_addPoint : Cond.selects RX0 yX0_addPoint yX0_addPoint ∈ wG := wG_mk 0 rfl rfl
set_option maxRecDepth 100000 in
theorem sel_X5_layTriesAnew : Cond.selects RX5 yX5_layTriesAnew yX5_layTriesAnew ∈ wG := wG_mk 1 rfl rfl
set_option maxRecDepth 100000 in
theorem sel_X4_layOut : Cond.selects RX4 yX4_layOut yX4_layOut ∈ wG := wG_mk 2 rfl rfl
set_option maxRecDepth 100000 in
theorem sel_X4_growTrees : Cond.selects RX4 yX4_growTrees yX4_growTrees ∈ wG := wG_mk 3 rfl rfl
set_option maxRecDepth 100000 in
theorem sel_X4_joinNextPair : Cond.selects RX4 yX4_joinNextPair yX4_joinNextPair ∈ wG := wG_mk 4 rfl rfl
set_option maxRecDepth 100000 in
theorem sel_X0_distance : Cond.selects RX0 yX0_distance yX0_distance ∈ wG := wG_mk 5 rfl rfl
set_option maxRecDepth 100000 in
theorem sel_X4_mergeGroups : Cond.selects RX4 yX4_mergeGroups yX4_mergeGroups ∈ wG := wG_mk 6 rfl rfl
set_option maxRecDepth 100000 in
theorem sel_X4_addTrees : Cond.selects RX4 yX4_addTrees yX4_addTrees ∈ wG := wG_mk 7 rfl rfl
set_option maxRecDepth 100000 in
theorem sel_X4_addTry : Cond.selects RX4 yX4_addTry yX4_addTry ∈ wG := wG_mk 8 rfl rfl
set_option maxRecDepth 100000 in
theorem sel_X0_isLeftOf : Cond.selects RX0 yX0_isLeftOf yX0_isLeftOf ∈ wG := wG_mk 9 rfl rfl
set_option maxRecDepth 100000 in
theorem sel_X4_addNeighbours : Cond.selects RX4 yX4_addNeighbours yX4_addNeighbours ∈ wG := wG_mk 10 rfl rfl
set_option maxRecDepth 100000 in
theorem sel_X4_addNearestPair : Cond.selects RX4 yX4_addNearestPair yX4_addNearestPair ∈ wG := wG_mk 11 rfl rfl
set_option maxRecDepth 100000 in
theorem sel_X1_measure : Cond.selects RX1 yX1_measure yX1_measure ∈ wG := wG_mk 12 rfl rfl
set_option maxRecDepth 100000 in
theorem sel_X0_removeLastPoint : Cond.selects RX0 yX0_removeLastPoint yX0_removeLastPoint ∈ wG := wG_mk 13 rfl rfl
set_option maxRecDepth 100000 in
theorem sel_X0_hasPoint : Cond.selects RX0 yX0_hasPoint yX0_hasPoint ∈ wG := wG_mk 14 rfl rfl
set_option maxRecDepth 100000 in
theorem sel_X4_hasTry : Cond.selects RX4 yX4_hasTry yX4_hasTry ∈ wG := wG_mk 15 rfl rfl
set_option maxRecDepth 100000 in
theorem sel_X4_isOfNeighbours : Cond.selects RX4 yX4_isOfNeighbours yX4_isOfNeighbours ∈ wG := wG_mk 16 rfl rfl
set_option maxRecDepth 100000 in
theorem sel_X4_conducts : Cond.selects RX4 yX4_conducts yX4_conducts ∈ wG := wG_mk 17 rfl rfl
set_option maxRecDepth 100000 in
theorem sel_X5_seenNow : Cond.selects RX5 yX5_seenNow yX5_seenNow ∈ wG := wG_mk 18 rfl rfl
set_option maxRecDepth 100000 in
theorem sel_X4_seenSet : Cond.selects RX4 yX4_seenSet yX4_seenSet ∈ wG := wG_mk 19 rfl rfl
set_option maxRecDepth 100000 in
theorem sel_X1_leap : Cond.selects RX1 yX1_leap yX1_leap ∈ wG := wG_mk 20 rfl rfl
set_option maxRecDepth 100000 in
theorem sel_X3_write : Cond.selects RX3 yX3_write yX3_write ∈ wG := wG_mk 21 rfl rfl
set_option maxRecDepth 100000 in
theorem sel_X3_tellsOrderOf : Cond.selects RX3 yX3_tellsOrderOf yX3_tellsOrderOf ∈ wG := wG_mk 22 rfl rfl
set_option maxRecDepth 100000 in
theorem sel_X3_tryAt : Cond.selects RX3 yX3_tryAt yX3_tryAt ∈ wG := wG_mk 23 rfl rfl
set_option maxRecDepth 100000 in
theorem sel_X1_planBest : Cond.selects RX1 yX1_planBest yX1_planBest ∈ wG := wG_mk 24 rfl rfl
set_option maxRecDepth 100000 in
theorem sel_X1_weighOnward : Cond.selects RX1 yX1_weighOnward yX1_weighOnward ∈ wG := wG_mk 25 rfl rfl
set_option maxRecDepth 100000 in
theorem sel_X1_allTries : Cond.selects RX1 yX1_allTries yX1_allTries ∈ wG := wG_mk 26 rfl rfl
set_option maxRecDepth 100000 in
theorem sel_X1_leastThrough : Cond.selects RX1 yX1_leastThrough yX1_leastThrough ∈ wG := wG_mk 27 rfl rfl
set_option maxRecDepth 100000 in
theorem sel_X1_plan : Cond.selects RX1 yX1_plan yX1_plan ∈ wG := wG_mk 28 rfl rfl
set_option maxRecDepth 100000 in
theorem sel_X2_clear : Cond.selects RX2 yX2_clear yX2_clear ∈ wG := wG_mk 29 rfl rfl
set_option maxRecDepth 100000 in
theorem sel_X1_firstOfBest : Cond.selects RX1 yX1_firstOfBest yX1_firstOfBest ∈ wG := wG_mk 30 rfl rfl
set_option maxRecDepth 100000 in
theorem sel_X1_nearestOf : Cond.selects RX1 yX1_nearestOf yX1_nearestOf ∈ wG := wG_mk 31 rfl rfl
set_option maxRecDepth 100000 in
theorem sel_X2_append : Cond.selects RX2 yX2_append yX2_append ∈ wG := wG_mk 32 rfl rfl
set_option maxRecDepth 100000 in
theorem sel_X2_tell : Cond.selects RX2 yX2_tell yX2_tell ∈ wG := wG_mk 33 rfl rfl
set_option maxRecDepth 100000 in
theorem sel_X1_planNearest : Cond.selects RX1 yX1_planNearest yX1_planNearest ∈ wG := wG_mk 34 rfl rfl
set_option maxRecDepth 100000 in
theorem sel_X5_flawSeenAs : Cond.selects RX5 yX5_flawSeenAs yX5_flawSeenAs ∈ wG := wG_mk 35 rfl rfl
set_option maxRecDepth 100000 in
theorem sel_X5_isFlaw : Cond.selects RX5 yX5_isFlaw yX5_isFlaw ∈ wG := wG_mk 36 rfl rfl
set_option maxRecDepth 100000 in
theorem sel_X5_seenOfFlaw : Cond.selects RX5 yX5_seenOfFlaw yX5_seenOfFlaw ∈ wG := wG_mk 37 rfl rfl
set_option maxRecDepth 100000 in
theorem sel_X0_copyFrom : Cond.selects RX0 yX0_copyFrom yX0_copyFrom ∈ wG := wG_mk 38 rfl rfl
set_option maxRecDepth 100000 in
theorem sel_X0_countNetsWithPoints : Cond.selects RX0 yX0_countNetsWithPoints yX0_countNetsWithPoints ∈ wG := wG_mk 39 rfl rfl
set_option maxRecDepth 100000 in
theorem sel_X6_isPoint : Cond.selects RX6 yX6_isPoint yX6_isPoint ∈ wG := wG_mk 40 rfl rfl
set_option maxRecDepth 100000 in
theorem sel_X6_farOf : Cond.selects RX6 yX6_farOf yX6_farOf ∈ wG := wG_mk 41 rfl rfl
set_option maxRecDepth 100000 in
theorem sel_X6_layTries : Cond.selects RX6 yX6_layTries yX6_layTries ∈ wG := wG_mk 42 rfl rfl
set_option maxRecDepth 100000 in
theorem sel_X6_layTree : Cond.selects RX6 yX6_layTree yX6_layTree ∈ wG := wG_mk 43 rfl rfl
set_option maxRecDepth 100000 in
theorem sel_X6_nextPair : Cond.selects RX6 yX6_nextPair yX6_nextPair ∈ wG := wG_mk 44 rfl rfl
set_option maxRecDepth 100000 in
theorem sel_X6_canJoin : Cond.selects RX6 yX6_canJoin yX6_canJoin ∈ wG := wG_mk 45 rfl rfl
set_option maxRecDepth 100000 in
theorem sel_X6_join : Cond.selects RX6 yX6_join yX6_join ∈ wG := wG_mk 46 rfl rfl
set_option maxRecDepth 100000 in
theorem sel_X6_addTry : Cond.selects RX6 yX6_addTry yX6_addTry ∈ wG := wG_mk 47 rfl rfl
set_option maxRecDepth 100000 in
theorem sel_X6_layNeighbours : Cond.selects RX6 yX6_layNeighbours yX6_layNeighbours ∈ wG := wG_mk 48 rfl rfl
set_option maxRecDepth 100000 in
theorem sel_X6_isTry : Cond.selects RX6 yX6_isTry yX6_isTry ∈ wG := wG_mk 49 rfl rfl
set_option maxRecDepth 100000 in
theorem sel_X6_seen : Cond.selects RX6 yX6_seen yX6_seen ∈ wG := wG_mk 50 rfl rfl
set_option maxRecDepth 100000 in
theorem sel_X6_layOnes : Cond.selects RX6 yX6_layOnes yX6_layOnes ∈ wG := wG_mk 51 rfl rfl
set_option maxRecDepth 100000 in
theorem sel_X6_conducts : Cond.selects RX6 yX6_conducts yX6_conducts ∈ wG := wG_mk 52 rfl rfl
set_option maxRecDepth 100000 in
theorem sel_X6_timeOf : Cond.selects RX6 yX6_timeOf yX6_timeOf ∈ wG := wG_mk 53 rfl rfl
set_option maxRecDepth 100000 in
theorem sel_X6_timeOfOrder : Cond.selects RX6 yX6_timeOfOrder yX6_timeOfOrder ∈ wG := wG_mk 54 rfl rfl
set_option maxRecDepth 100000 in
theorem sel_X6_layBest : Cond.selects RX6 yX6_layBest yX6_layBest ∈ wG := wG_mk 55 rfl rfl
set_option maxRecDepth 100000 in
theorem sel_X6_layRest : Cond.selects RX6 yX6_layRest yX6_layRest ∈ wG := wG_mk 56 rfl rfl
set_option maxRecDepth 100000 in
theorem sel_X6_restFrom : Cond.selects RX6 yX6_restFrom yX6_restFrom ∈ wG := wG_mk 57 rfl rfl
set_option maxRecDepth 100000 in
theorem sel_X6_orderAt : Cond.selects RX6 yX6_orderAt yX6_orderAt ∈ wG := wG_mk 58 rfl rfl
set_option maxRecDepth 100000 in
theorem sel_X6_looseMany : Cond.selects RX6 yX6_looseMany yX6_looseMany ∈ wG := wG_mk 59 rfl rfl
set_option maxRecDepth 100000 in
theorem sel_X6_shortMany : Cond.selects RX6 yX6_shortMany yX6_shortMany ∈ wG := wG_mk 60 rfl rfl
set_option maxRecDepth 100000 in
theorem sel_X6_isSingle : Cond.selects RX6 yX6_isSingle yX6_isSingle ∈ wG := wG_mk 61 rfl rfl
set_option maxRecDepth 100000 in
theorem sel_X6_seenBy : Cond.selects RX6 yX6_seenBy yX6_seenBy ∈ wG := wG_mk 62 rfl rfl
set_option maxRecDepth 100000 in
theorem sel_X6_isAnyOne : Cond.selects RX6 yX6_isAnyOne yX6_isAnyOne ∈ wG := wG_mk 63 rfl rfl
set_option maxRecDepth 100000 in
theorem sel_X6_apartMany : Cond.selects RX6 yX6_apartMany yX6_apartMany ∈ wG := wG_mk 64 rfl rfl
set_option maxRecDepth 100000 in
theorem sel_X6_netsUsed : Cond.selects RX6 yX6_netsUsed yX6_netsUsed ∈ wG := wG_mk 65 rfl rfl
set_option maxRecDepth 100000 in
theorem ini_L : Cond.initialized RL ∈ wG := wG_mk 66 rfl rfl
set_option maxRecDepth 100000 in
theorem ini_X5 : Cond.initialized RX5 ∈ wG := wG_mk 67 rfl rfl
set_option maxRecDepth 100000 in
theorem ini_X0 : Cond.initialized RX0 ∈ wG := wG_mk 68 rfl rfl
set_option maxRecDepth 100000 in
theorem ini_X4 : Cond.initialized RX4 ∈ wG := wG_mk 69 rfl rfl
set_option maxRecDepth 100000 in
theorem ini_X1 : Cond.initialized RX1 ∈ wG := wG_mk 70 rfl rfl
set_option maxRecDepth 100000 in
theorem ini_X2 : Cond.initialized RX2 ∈ wG := wG_mk 71 rfl rfl
set_option maxRecDepth 100000 in
theorem ini_X3 : Cond.initialized RX3 ∈ wG := wG_mk 72 rfl rfl
set_option maxRecDepth 100000 in
theorem ini_X6 : Cond.initialized RX6 ∈ wG := wG_mk 73 rfl rfl
set_option maxRecDepth 100000 in
theorem ini_J9 : Cond.initialized "java/lang/Math" ∈ wG := wG_mk 74 rfl rfl
set_option maxRecDepth 100000 in
theorem ini_J6 : Cond.initialized RJ6 ∈ wG := wG_mk 75 rfl rfl
set_option maxRecDepth 100000 in
theorem cl_L_7 : Cond.classLink RL 7 RX5 ∈ wG := wG_mk 76 rfl rfl
set_option maxRecDepth 100000 in
theorem ins_X5 : Cond.instantiable RX5 6 ∈ wG := wG_mk 77 rfl rfl
set_option maxRecDepth 100000 in
theorem ml_L_9 : Cond.methodLink RL 9 yX5_init ∈ wG := wG_mk 78 rfl rfl
set_option maxRecDepth 100000 in
theorem im_X5_init : Cond.instanceMethod yX5_init ∈ wG := wG_mk 79 rfl rfl
set_option maxRecDepth 100000 in
theorem cod_X5_init : Cond.code yX5_init cX5_init 2 none ∈ wG := wG_mk 80 rfl rfl
set_option maxRecDepth 100000 in
theorem ml_X5_3 : Cond.methodLink RX5 3 objectInit ∈ wG := wG_mk 81 rfl rfl
set_option maxRecDepth 100000 in
theorem im_objectInit : Cond.instanceMethod objectInit ∈ wG := wG_mk 82 rfl rfl
set_option maxRecDepth 100000 in
theorem cod_objectInit : Cond.code objectInit ⟨#[0xb1]⟩ 1 none ∈ wG := wG_mk 83 rfl rfl
set_option maxRecDepth 100000 in
theorem cl_X5_9 : Cond.classLink RX5 9 RX0 ∈ wG := wG_mk 84 rfl rfl
set_option maxRecDepth 100000 in
theorem ins_X0 : Cond.instantiable RX0 7 ∈ wG := wG_mk 85 rfl rfl
set_option maxRecDepth 100000 in
theorem im_X0_init : Cond.instanceMethod yX0_init ∈ wG := wG_mk 87 rfl rfl
set_option maxRecDepth 100000 in
theorem cod_X0_init : Cond.code yX0_init cX0_init 1 none ∈ wG := wG_mk 88 rfl rfl
set_option maxRecDepth 100000 in
theorem ml_X0_3 : Cond.methodLink RX0 3 objectInit ∈ wG := wG_mk 89 rfl rfl
set_option maxRecDepth 100000 in
theorem fl_X0_9 : Cond.fieldLink RX0 9 "NeedlePairs$Board" "nets" "[I" ∈ wG := wG_mk 90 rfl rfl
set_option maxRecDepth 100000 in
theorem fl_X0_15 : Cond.fieldLink RX0 15 "NeedlePairs$Board" "xs" "[I" ∈ wG := wG_mk 93 rfl rfl
set_option maxRecDepth 100000 in
theorem fl_X0_18 : Cond.fieldLink RX0 18 "NeedlePairs$Board" "ys" "[I" ∈ wG := wG_mk 96 rfl rfl
set_option maxRecDepth 100000 in
theorem fl_X0_21 : Cond.fieldLink RX0 21 "NeedlePairs$Board" "points" "I" ∈ wG := wG_mk 99 rfl rfl
set_option maxRecDepth 100000 in
theorem fl_X0_25 : Cond.fieldLink RX0 25 "NeedlePairs$Board" "nearness" "I" ∈ wG := wG_mk 102 rfl rfl
set_option maxRecDepth 100000 in
theorem fl_X0_28 : Cond.fieldLink RX0 28 "NeedlePairs$Board" "looseSet" "I" ∈ wG := wG_mk 105 rfl rfl
set_option maxRecDepth 100000 in
theorem fl_X0_31 : Cond.fieldLink RX0 31 "NeedlePairs$Board" "shortSet" "I" ∈ wG := wG_mk 107 rfl rfl
set_option maxRecDepth 100000 in
theorem arr_int : Cond.arrayClass .int ∈ wG := wG_mk 124 rfl rfl
set_option maxRecDepth 100000 in
theorem cl_X5_16 : Cond.classLink RX5 16 RX4 ∈ wG := wG_mk 125 rfl rfl
set_option maxRecDepth 100000 in
theorem ins_X4 : Cond.instantiable RX4 6 ∈ wG := wG_mk 126 rfl rfl
set_option maxRecDepth 100000 in
theorem im_X4_init : Cond.instanceMethod yX4_init ∈ wG := wG_mk 128 rfl rfl
set_option maxRecDepth 100000 in
theorem cod_X4_init : Cond.code yX4_init cX4_init 1 none ∈ wG := wG_mk 129 rfl rfl
set_option maxRecDepth 100000 in
theorem ml_X4_3 : Cond.methodLink RX4 3 objectInit ∈ wG := wG_mk 130 rfl rfl
set_option maxRecDepth 100000 in
theorem fl_X4_9 : Cond.fieldLink RX4 9 "NeedlePairs$Tries" "left" "[I" ∈ wG := wG_mk 131 rfl rfl
set_option maxRecDepth 100000 in
theorem fl_X4_15 : Cond.fieldLink RX4 15 "NeedlePairs$Tries" "right" "[I" ∈ wG := wG_mk 134 rfl rfl
set_option maxRecDepth 100000 in
theorem fl_X4_18 : Cond.fieldLink RX4 18 "NeedlePairs$Tries" "total" "I" ∈ wG := wG_mk 137 rfl rfl
set_option maxRecDepth 100000 in
theorem fl_X4_22 : Cond.fieldLink RX4 22 "NeedlePairs$Tries" "ofTrees" "I" ∈ wG := wG_mk 140 rfl rfl
set_option maxRecDepth 100000 in
theorem fl_X4_25 : Cond.fieldLink RX4 25 "NeedlePairs$Tries" "group" "[I" ∈ wG := wG_mk 142 rfl rfl
set_option maxRecDepth 100000 in
theorem fl_X4_28 : Cond.fieldLink RX4 28 "NeedlePairs$Tries" "paired" "[I" ∈ wG := wG_mk 143 rfl rfl
set_option maxRecDepth 100000 in
theorem cl_X5_23 : Cond.classLink RX5 23 RX1 ∈ wG := wG_mk 157 rfl rfl
set_option maxRecDepth 100000 in
theorem ins_X1 : Cond.instantiable RX1 6 ∈ wG := wG_mk 158 rfl rfl
set_option maxRecDepth 100000 in
theorem im_X1_init : Cond.instanceMethod yX1_init ∈ wG := wG_mk 160 rfl rfl
set_option maxRecDepth 100000 in
theorem cod_X1_init : Cond.code yX1_init cX1_init 1 none ∈ wG := wG_mk 161 rfl rfl
set_option maxRecDepth 100000 in
theorem ml_X1_3 : Cond.methodLink RX1 3 objectInit ∈ wG := wG_mk 162 rfl rfl
set_option maxRecDepth 100000 in
theorem cl_X1_22 : Cond.classLink RX1 22 RX2 ∈ wG := wG_mk 163 rfl rfl
set_option maxRecDepth 100000 in
theorem ins_X2 : Cond.instantiable RX2 3 ∈ wG := wG_mk 164 rfl rfl
set_option maxRecDepth 100000 in
theorem im_X2_init : Cond.instanceMethod yX2_init ∈ wG := wG_mk 166 rfl rfl
set_option maxRecDepth 100000 in
theorem cod_X2_init : Cond.code yX2_init cX2_init 1 none ∈ wG := wG_mk 167 rfl rfl
set_option maxRecDepth 100000 in
theorem ml_X2_3 : Cond.methodLink RX2 3 objectInit ∈ wG := wG_mk 168 rfl rfl
set_option maxRecDepth 100000 in
theorem fl_X2_9 : Cond.fieldLink RX2 9 "NeedlePairs$Order" "tries" "[I" ∈ wG := wG_mk 169 rfl rfl
set_option maxRecDepth 100000 in
theorem fl_X2_15 : Cond.fieldLink RX2 15 "NeedlePairs$Order" "length" "I" ∈ wG := wG_mk 170 rfl rfl
set_option maxRecDepth 100000 in
theorem fl_X2_19 : Cond.fieldLink RX2 19 "NeedlePairs$Order" "sum" "I" ∈ wG := wG_mk 171 rfl rfl
set_option maxRecDepth 100000 in
theorem fl_X1_9 : Cond.fieldLink RX1 9 "NeedlePairs$Needles" "total" "I" ∈ wG := wG_mk 179 rfl rfl
set_option maxRecDepth 100000 in
theorem fl_X1_15 : Cond.fieldLink RX1 15 "NeedlePairs$Needles" "leaps" "[I" ∈ wG := wG_mk 180 rfl rfl
set_option maxRecDepth 100000 in
theorem fl_X1_19 : Cond.fieldLink RX1 19 "NeedlePairs$Needles" "onward" "[I" ∈ wG := wG_mk 181 rfl rfl
set_option maxRecDepth 100000 in
theorem fl_X1_25 : Cond.fieldLink RX1 25 "NeedlePairs$Needles" "bestOrder" "LNeedlePairs$Order;" ∈ wG := wG_mk 182 rfl rfl
set_option maxRecDepth 100000 in
theorem fl_X1_29 : Cond.fieldLink RX1 29 "NeedlePairs$Needles" "nearestOrder" "LNeedlePairs$Order;" ∈ wG := wG_mk 184 rfl rfl
set_option maxRecDepth 100000 in
theorem fl_X1_32 : Cond.fieldLink RX1 32 "NeedlePairs$Needles" "bestIsPlanned" "Z" ∈ wG := wG_mk 186 rfl rfl
set_option maxRecDepth 100000 in
theorem cl_X5_30 : Cond.classLink RX5 30 RX3 ∈ wG := wG_mk 200 rfl rfl
set_option maxRecDepth 100000 in
theorem ins_X3 : Cond.instantiable RX3 2 ∈ wG := wG_mk 201 rfl rfl
set_option maxRecDepth 100000 in
theorem im_X3_init : Cond.instanceMethod yX3_init ∈ wG := wG_mk 203 rfl rfl
set_option maxRecDepth 100000 in
theorem cod_X3_init : Cond.code yX3_init cX3_init 1 none ∈ wG := wG_mk 204 rfl rfl
set_option maxRecDepth 100000 in
theorem ml_X3_3 : Cond.methodLink RX3 3 objectInit ∈ wG := wG_mk 205 rfl rfl
set_option maxRecDepth 100000 in
theorem fl_X3_9 : Cond.fieldLink RX3 9 "NeedlePairs$Pad" "signs" "[I" ∈ wG := wG_mk 206 rfl rfl
set_option maxRecDepth 100000 in
theorem fl_X3_15 : Cond.fieldLink RX3 15 "NeedlePairs$Pad" "length" "I" ∈ wG := wG_mk 207 rfl rfl
set_option maxRecDepth 100000 in
theorem fl_X5_12 : Cond.fieldLink RX5 12 "NeedlePairs" "board" "LNeedlePairs$Board;" ∈ wG := wG_mk 215 rfl rfl
set_option maxRecDepth 100000 in
theorem fl_X5_19 : Cond.fieldLink RX5 19 "NeedlePairs" "tries" "LNeedlePairs$Tries;" ∈ wG := wG_mk 216 rfl rfl
set_option maxRecDepth 100000 in
theorem fl_X5_26 : Cond.fieldLink RX5 26 "NeedlePairs" "needles" "LNeedlePairs$Needles;" ∈ wG := wG_mk 217 rfl rfl
set_option maxRecDepth 100000 in
theorem fl_X5_33 : Cond.fieldLink RX5 33 "NeedlePairs" "pad" "LNeedlePairs$Pad;" ∈ wG := wG_mk 218 rfl rfl
set_option maxRecDepth 100000 in
theorem fl_X5_37 : Cond.fieldLink RX5 37 "NeedlePairs" "images" "[LNeedlePairs$Board;" ∈ wG := wG_mk 219 rfl rfl
set_option maxRecDepth 100000 in
theorem fl_X5_41 : Cond.fieldLink RX5 41 "NeedlePairs" "keptImages" "I" ∈ wG := wG_mk 220 rfl rfl
set_option maxRecDepth 100000 in
theorem ml_L_13 : Cond.methodLink RL 13 yX5_point ∈ wG := wG_mk 234 rfl rfl
set_option maxRecDepth 100000 in
theorem im_X5_point : Cond.instanceMethod yX5_point ∈ wG := wG_mk 235 rfl rfl
set_option maxRecDepth 100000 in
theorem sel_X5_point : Cond.selects RX5 yX5_point yX5_point ∈ wG := wG_mk 236 rfl rfl
set_option maxRecDepth 100000 in
theorem cod_X5_point : Cond.code yX5_point cX5_point 5 (some .int) ∈ wG := wG_mk 237 rfl rfl
set_option maxRecDepth 100000 in
theorem ml_X5_45 : Cond.methodLink RX5 45 yX5_isNet ∈ wG := wG_mk 238 rfl rfl
set_option maxRecDepth 100000 in
theorem stt_X5_isNet : Cond.static yX5_isNet ∈ wG := wG_mk 239 rfl rfl
set_option maxRecDepth 100000 in
theorem cod_X5_isNet : Cond.code yX5_isNet cX5_isNet 1 (some .boolean) ∈ wG := wG_mk 240 rfl rfl
set_option maxRecDepth 100000 in
theorem ml_X5_49 : Cond.methodLink RX5 49 yX5_isOnBoard ∈ wG := wG_mk 241 rfl rfl
set_option maxRecDepth 100000 in
theorem stt_X5_isOnBoard : Cond.static yX5_isOnBoard ∈ wG := wG_mk 242 rfl rfl
set_option maxRecDepth 100000 in
theorem cod_X5_isOnBoard : Cond.code yX5_isOnBoard cX5_isOnBoard 2 (some .boolean) ∈ wG := wG_mk 243 rfl rfl
set_option maxRecDepth 100000 in
theorem im_X0_addPoint : Cond.instanceMethod yX0_addPoint ∈ wG := wG_mk 246 rfl rfl
set_option maxRecDepth 100000 in
theorem cod_X0_addPoint : Cond.code yX0_addPoint cX0_addPoint 5 (some .int) ∈ wG := wG_mk 247 rfl rfl
set_option maxRecDepth 100000 in
theorem ml_X5_60 : Cond.methodLink RX5 60 yX5_layTriesAnew ∈ wG := wG_mk 248 rfl rfl
set_option maxRecDepth 100000 in
theorem im_X5_layTriesAnew : Cond.instanceMethod yX5_layTriesAnew ∈ wG := wG_mk 250 rfl rfl
set_option maxRecDepth 100000 in
theorem cod_X5_layTriesAnew : Cond.code yX5_layTriesAnew cX5_layTriesAnew 1 none ∈ wG := wG_mk 251 rfl rfl
set_option maxRecDepth 100000 in
theorem im_X4_layOut : Cond.instanceMethod yX4_layOut ∈ wG := wG_mk 254 rfl rfl
set_option maxRecDepth 100000 in
theorem cod_X4_layOut : Cond.code yX4_layOut cX4_layOut 2 none ∈ wG := wG_mk 255 rfl rfl
set_option maxRecDepth 100000 in
theorem ml_X4_31 : Cond.methodLink RX4 31 yX4_growTrees ∈ wG := wG_mk 256 rfl rfl
set_option maxRecDepth 100000 in
theorem im_X4_growTrees : Cond.instanceMethod yX4_growTrees ∈ wG := wG_mk 258 rfl rfl
set_option maxRecDepth 100000 in
theorem cod_X4_growTrees : Cond.code yX4_growTrees cX4_growTrees 4 none ∈ wG := wG_mk 259 rfl rfl
set_option maxRecDepth 100000 in
theorem ml_X4_46 : Cond.methodLink RX4 46 yX4_joinNextPair ∈ wG := wG_mk 260 rfl rfl
set_option maxRecDepth 100000 in
theorem im_X4_joinNextPair : Cond.instanceMethod yX4_joinNextPair ∈ wG := wG_mk 262 rfl rfl
set_option maxRecDepth 100000 in
theorem cod_X4_joinNextPair : Cond.code yX4_joinNextPair cX4_joinNextPair 8 (some .boolean) ∈ wG := wG_mk 263 rfl rfl
set_option maxRecDepth 100000 in
theorem im_X0_distance : Cond.instanceMethod yX0_distance ∈ wG := wG_mk 266 rfl rfl
set_option maxRecDepth 100000 in
theorem cod_X0_distance : Cond.code yX0_distance cX0_distance 5 (some .int) ∈ wG := wG_mk 267 rfl rfl
set_option maxRecDepth 100000 in
theorem ml_X4_57 : Cond.methodLink RX4 57 yX4_mergeGroups ∈ wG := wG_mk 268 rfl rfl
set_option maxRecDepth 100000 in
theorem im_X4_mergeGroups : Cond.instanceMethod yX4_mergeGroups ∈ wG := wG_mk 270 rfl rfl
set_option maxRecDepth 100000 in
theorem cod_X4_mergeGroups : Cond.code yX4_mergeGroups cX4_mergeGroups 4 none ∈ wG := wG_mk 271 rfl rfl
set_option maxRecDepth 100000 in
theorem ml_X4_35 : Cond.methodLink RX4 35 yX4_addTrees ∈ wG := wG_mk 272 rfl rfl
set_option maxRecDepth 100000 in
theorem im_X4_addTrees : Cond.instanceMethod yX4_addTrees ∈ wG := wG_mk 274 rfl rfl
set_option maxRecDepth 100000 in
theorem cod_X4_addTrees : Cond.code yX4_addTrees cX4_addTrees 5 none ∈ wG := wG_mk 275 rfl rfl
set_option maxRecDepth 100000 in
theorem stt_X5_isIn : Cond.static yX5_isIn ∈ wG := wG_mk 277 rfl rfl
set_option maxRecDepth 100000 in
theorem cod_X5_isIn : Cond.code yX5_isIn cX5_isIn 2 (some .boolean) ∈ wG := wG_mk 278 rfl rfl
set_option maxRecDepth 100000 in
theorem ml_X4_65 : Cond.methodLink RX4 65 yX4_addTry ∈ wG := wG_mk 279 rfl rfl
set_option maxRecDepth 100000 in
theorem im_X4_addTry : Cond.instanceMethod yX4_addTry ∈ wG := wG_mk 281 rfl rfl
set_option maxRecDepth 100000 in
theorem cod_X4_addTry : Cond.code yX4_addTry cX4_addTry 5 none ∈ wG := wG_mk 282 rfl rfl
set_option maxRecDepth 100000 in
theorem im_X0_isLeftOf : Cond.instanceMethod yX0_isLeftOf ∈ wG := wG_mk 285 rfl rfl
set_option maxRecDepth 100000 in
theorem cod_X0_isLeftOf : Cond.code yX0_isLeftOf cX0_isLeftOf 3 (some .boolean) ∈ wG := wG_mk 286 rfl rfl
set_option maxRecDepth 100000 in
theorem ml_X4_38 : Cond.methodLink RX4 38 yX4_addNeighbours ∈ wG := wG_mk 287 rfl rfl
set_option maxRecDepth 100000 in
theorem im_X4_addNeighbours : Cond.instanceMethod yX4_addNeighbours ∈ wG := wG_mk 289 rfl rfl
set_option maxRecDepth 100000 in
theorem cod_X4_addNeighbours : Cond.code yX4_addNeighbours cX4_addNeighbours 3 none ∈ wG := wG_mk 290 rfl rfl
set_option maxRecDepth 100000 in
theorem ml_X4_75 : Cond.methodLink RX4 75 yX4_addNearestPair ∈ wG := wG_mk 295 rfl rfl
set_option maxRecDepth 100000 in
theorem im_X4_addNearestPair : Cond.instanceMethod yX4_addNearestPair ∈ wG := wG_mk 297 rfl rfl
set_option maxRecDepth 100000 in
theorem cod_X4_addNearestPair : Cond.code yX4_addNearestPair cX4_addNearestPair 10 none ∈ wG := wG_mk 298 rfl rfl
set_option maxRecDepth 100000 in
theorem im_X1_measure : Cond.instanceMethod yX1_measure ∈ wG := wG_mk 301 rfl rfl
set_option maxRecDepth 100000 in
theorem cod_X1_measure : Cond.code yX1_measure cX1_measure 7 none ∈ wG := wG_mk 302 rfl rfl
set_option maxRecDepth 100000 in
theorem ml_X1_53 : Cond.methodLink RX1 53 yX1_longer ∈ wG := wG_mk 303 rfl rfl
set_option maxRecDepth 100000 in
theorem stt_X1_longer : Cond.static yX1_longer ∈ wG := wG_mk 304 rfl rfl
set_option maxRecDepth 100000 in
theorem cod_X1_longer : Cond.code yX1_longer cX1_longer 2 (some .int) ∈ wG := wG_mk 305 rfl rfl
set_option maxRecDepth 100000 in
theorem ml_X1_66 : Cond.methodLink RX1 66 Lib.Math.abs.name ∈ wG := wG_mk 306 rfl rfl
set_option maxRecDepth 100000 in
theorem stt_Math_abs : Cond.static Lib.Math.abs.name ∈ wG := wG_mk 307 rfl rfl
set_option maxRecDepth 100000 in
theorem cod_Math_abs : Cond.code Lib.Math.abs.name Lib.Math.abs.code 1 (some .int) ∈ wG := wG_mk 308 rfl rfl
set_option maxRecDepth 100000 in
theorem ml_X1_57 : Cond.methodLink RX1 57 Lib.Math.max.name ∈ wG := wG_mk 309 rfl rfl
set_option maxRecDepth 100000 in
theorem stt_Math_max : Cond.static Lib.Math.max.name ∈ wG := wG_mk 310 rfl rfl
set_option maxRecDepth 100000 in
theorem cod_Math_max : Cond.code Lib.Math.max.name Lib.Math.max.code 2 (some .int) ∈ wG := wG_mk 311 rfl rfl
set_option maxRecDepth 100000 in
theorem ml_X1_62 : Cond.methodLink RX1 62 yX1_way ∈ wG := wG_mk 312 rfl rfl
set_option maxRecDepth 100000 in
theorem stt_X1_way : Cond.static yX1_way ∈ wG := wG_mk 313 rfl rfl
set_option maxRecDepth 100000 in
theorem cod_X1_way : Cond.code yX1_way cX1_way 3 (some .int) ∈ wG := wG_mk 314 rfl rfl
set_option maxRecDepth 100000 in
theorem ml_L_18 : Cond.methodLink RL 18 yX5_pop ∈ wG := wG_mk 315 rfl rfl
set_option maxRecDepth 100000 in
theorem im_X5_pop : Cond.instanceMethod yX5_pop ∈ wG := wG_mk 316 rfl rfl
set_option maxRecDepth 100000 in
theorem sel_X5_pop : Cond.selects RX5 yX5_pop yX5_pop ∈ wG := wG_mk 317 rfl rfl
set_option maxRecDepth 100000 in
theorem cod_X5_pop : Cond.code yX5_pop cX5_pop 1 (some .int) ∈ wG := wG_mk 318 rfl rfl
set_option maxRecDepth 100000 in
theorem im_X0_removeLastPoint : Cond.instanceMethod yX0_removeLastPoint ∈ wG := wG_mk 321 rfl rfl
set_option maxRecDepth 100000 in
theorem cod_X0_removeLastPoint : Cond.code yX0_removeLastPoint cX0_removeLastPoint 1 none ∈ wG := wG_mk 322 rfl rfl
set_option maxRecDepth 100000 in
theorem stt_X5_withMember : Cond.static yX5_withMember ∈ wG := wG_mk 324 rfl rfl
set_option maxRecDepth 100000 in
theorem cod_X5_withMember : Cond.code yX5_withMember cX5_withMember 3 (some .int) ∈ wG := wG_mk 325 rfl rfl
set_option maxRecDepth 100000 in
theorem ml_L_23 : Cond.methodLink RL 23 yX5_move ∈ wG := wG_mk 326 rfl rfl
set_option maxRecDepth 100000 in
theorem im_X5_move : Cond.instanceMethod yX5_move ∈ wG := wG_mk 327 rfl rfl
set_option maxRecDepth 100000 in
theorem sel_X5_move : Cond.selects RX5 yX5_move yX5_move ∈ wG := wG_mk 328 rfl rfl
set_option maxRecDepth 100000 in
theorem cod_X5_move : Cond.code yX5_move cX5_move 5 (some .int) ∈ wG := wG_mk 329 rfl rfl
set_option maxRecDepth 100000 in
theorem im_X0_hasPoint : Cond.instanceMethod yX0_hasPoint ∈ wG := wG_mk 332 rfl rfl
set_option maxRecDepth 100000 in
theorem cod_X0_hasPoint : Cond.code yX0_hasPoint cX0_hasPoint 2 (some .boolean) ∈ wG := wG_mk 333 rfl rfl
set_option maxRecDepth 100000 in
theorem ml_L_27 : Cond.methodLink RL 27 yX5_near ∈ wG := wG_mk 334 rfl rfl
set_option maxRecDepth 100000 in
theorem im_X5_near : Cond.instanceMethod yX5_near ∈ wG := wG_mk 335 rfl rfl
set_option maxRecDepth 100000 in
theorem sel_X5_near : Cond.selects RX5 yX5_near yX5_near ∈ wG := wG_mk 336 rfl rfl
set_option maxRecDepth 100000 in
theorem cod_X5_near : Cond.code yX5_near cX5_near 3 (some .int) ∈ wG := wG_mk 337 rfl rfl
set_option maxRecDepth 100000 in
theorem ml_L_32 : Cond.methodLink RL 32 yX5_of ∈ wG := wG_mk 338 rfl rfl
set_option maxRecDepth 100000 in
theorem im_X5_of : Cond.instanceMethod yX5_of ∈ wG := wG_mk 339 rfl rfl
set_option maxRecDepth 100000 in
theorem sel_X5_of : Cond.selects RX5 yX5_of yX5_of ∈ wG := wG_mk 340 rfl rfl
set_option maxRecDepth 100000 in
theorem cod_X5_of : Cond.code yX5_of cX5_of 3 (some .int) ∈ wG := wG_mk 341 rfl rfl
set_option maxRecDepth 100000 in
theorem ml_X5_85 : Cond.methodLink RX5 85 yX5_isIn ∈ wG := wG_mk 342 rfl rfl
set_option maxRecDepth 100000 in
theorem ml_X5_88 : Cond.methodLink RX5 88 yX5_asNumber ∈ wG := wG_mk 343 rfl rfl
set_option maxRecDepth 100000 in
theorem stt_X5_asNumber : Cond.static yX5_asNumber ∈ wG := wG_mk 344 rfl rfl
set_option maxRecDepth 100000 in
theorem cod_X5_asNumber : Cond.code yX5_asNumber cX5_asNumber 1 (some .int) ∈ wG := wG_mk 345 rfl rfl
set_option maxRecDepth 100000 in
theorem ml_L_37 : Cond.methodLink RL 37 yX5_far ∈ wG := wG_mk 346 rfl rfl
set_option maxRecDepth 100000 in
theorem im_X5_far : Cond.instanceMethod yX5_far ∈ wG := wG_mk 347 rfl rfl
set_option maxRecDepth 100000 in
theorem sel_X5_far : Cond.selects RX5 yX5_far yX5_far ∈ wG := wG_mk 348 rfl rfl
set_option maxRecDepth 100000 in
theorem cod_X5_far : Cond.code yX5_far cX5_far 3 (some .int) ∈ wG := wG_mk 349 rfl rfl
set_option maxRecDepth 100000 in
theorem ml_L_41 : Cond.methodLink RL 41 yX5_attempt ∈ wG := wG_mk 351 rfl rfl
set_option maxRecDepth 100000 in
theorem im_X5_attempt : Cond.instanceMethod yX5_attempt ∈ wG := wG_mk 352 rfl rfl
set_option maxRecDepth 100000 in
theorem sel_X5_attempt : Cond.selects RX5 yX5_attempt yX5_attempt ∈ wG := wG_mk 353 rfl rfl
set_option maxRecDepth 100000 in
theorem cod_X5_attempt : Cond.code yX5_attempt cX5_attempt 3 (some .int) ∈ wG := wG_mk 354 rfl rfl
set_option maxRecDepth 100000 in
theorem im_X4_hasTry : Cond.instanceMethod yX4_hasTry ∈ wG := wG_mk 357 rfl rfl
set_option maxRecDepth 100000 in
theorem cod_X4_hasTry : Cond.code yX4_hasTry cX4_hasTry 2 (some .boolean) ∈ wG := wG_mk 358 rfl rfl
set_option maxRecDepth 100000 in
theorem im_X4_isOfNeighbours : Cond.instanceMethod yX4_isOfNeighbours ∈ wG := wG_mk 361 rfl rfl
set_option maxRecDepth 100000 in
theorem cod_X4_isOfNeighbours : Cond.code yX4_isOfNeighbours cX4_isOfNeighbours 2 (some .boolean) ∈ wG := wG_mk 362 rfl rfl
set_option maxRecDepth 100000 in
theorem im_X4_conducts : Cond.instanceMethod yX4_conducts ∈ wG := wG_mk 365 rfl rfl
set_option maxRecDepth 100000 in
theorem cod_X4_conducts : Cond.code yX4_conducts cX4_conducts 7 (some .boolean) ∈ wG := wG_mk 366 rfl rfl
set_option maxRecDepth 100000 in
theorem stt_X5_netsOneWith : Cond.static yX5_netsOneWith ∈ wG := wG_mk 368 rfl rfl
set_option maxRecDepth 100000 in
theorem cod_X5_netsOneWith : Cond.code yX5_netsOneWith cX5_netsOneWith 6 (some .int) ∈ wG := wG_mk 369 rfl rfl
set_option maxRecDepth 100000 in
theorem fl_X5_221 : Cond.fieldLink RX5 221 "NeedlePairs" "LESSER_NET" "[I" ∈ wG := wG_mk 370 rfl rfl
set_option maxRecDepth 100000 in
theorem fl_X5_224 : Cond.fieldLink RX5 224 "NeedlePairs" "GREATER_NET" "[I" ∈ wG := wG_mk 371 rfl rfl
set_option maxRecDepth 100000 in
theorem ml_X5_115 : Cond.methodLink RX5 115 yX5_seenNow ∈ wG := wG_mk 372 rfl rfl
set_option maxRecDepth 100000 in
theorem im_X5_seenNow : Cond.instanceMethod yX5_seenNow ∈ wG := wG_mk 374 rfl rfl
set_option maxRecDepth 100000 in
theorem cod_X5_seenNow : Cond.code yX5_seenNow cX5_seenNow 1 (some .int) ∈ wG := wG_mk 375 rfl rfl
set_option maxRecDepth 100000 in
theorem im_X4_seenSet : Cond.instanceMethod yX4_seenSet ∈ wG := wG_mk 378 rfl rfl
set_option maxRecDepth 100000 in
theorem cod_X4_seenSet : Cond.code yX4_seenSet cX4_seenSet 6 (some .int) ∈ wG := wG_mk 379 rfl rfl
set_option maxRecDepth 100000 in
theorem ml_X4_87 : Cond.methodLink RX4 87 yX4_conducts ∈ wG := wG_mk 380 rfl rfl
set_option maxRecDepth 100000 in
theorem ml_X4_91 : Cond.methodLink RX4 91 yX4_isOfNeighbours ∈ wG := wG_mk 381 rfl rfl
set_option maxRecDepth 100000 in
theorem ml_L_45 : Cond.methodLink RL 45 yX5_time ∈ wG := wG_mk 382 rfl rfl
set_option maxRecDepth 100000 in
theorem im_X5_time : Cond.instanceMethod yX5_time ∈ wG := wG_mk 383 rfl rfl
set_option maxRecDepth 100000 in
theorem sel_X5_time : Cond.selects RX5 yX5_time yX5_time ∈ wG := wG_mk 384 rfl rfl
set_option maxRecDepth 100000 in
theorem cod_X5_time : Cond.code yX5_time cX5_time 3 (some .int) ∈ wG := wG_mk 385 rfl rfl
set_option maxRecDepth 100000 in
theorem im_X1_leap : Cond.instanceMethod yX1_leap ∈ wG := wG_mk 388 rfl rfl
set_option maxRecDepth 100000 in
theorem cod_X1_leap : Cond.code yX1_leap cX1_leap 3 (some .int) ∈ wG := wG_mk 389 rfl rfl
set_option maxRecDepth 100000 in
theorem ml_L_49 : Cond.methodLink RL 49 yX5_say ∈ wG := wG_mk 390 rfl rfl
set_option maxRecDepth 100000 in
theorem im_X5_say : Cond.instanceMethod yX5_say ∈ wG := wG_mk 391 rfl rfl
set_option maxRecDepth 100000 in
theorem sel_X5_say : Cond.selects RX5 yX5_say yX5_say ∈ wG := wG_mk 392 rfl rfl
set_option maxRecDepth 100000 in
theorem cod_X5_say : Cond.code yX5_say cX5_say 2 (some .int) ∈ wG := wG_mk 393 rfl rfl
set_option maxRecDepth 100000 in
theorem im_X3_write : Cond.instanceMethod yX3_write ∈ wG := wG_mk 396 rfl rfl
set_option maxRecDepth 100000 in
theorem cod_X3_write : Cond.code yX3_write cX3_write 2 none ∈ wG := wG_mk 397 rfl rfl
set_option maxRecDepth 100000 in
theorem ml_L_53 : Cond.methodLink RL 53 yX5_wipe ∈ wG := wG_mk 398 rfl rfl
set_option maxRecDepth 100000 in
theorem im_X5_wipe : Cond.instanceMethod yX5_wipe ∈ wG := wG_mk 399 rfl rfl
set_option maxRecDepth 100000 in
theorem sel_X5_wipe : Cond.selects RX5 yX5_wipe yX5_wipe ∈ wG := wG_mk 400 rfl rfl
set_option maxRecDepth 100000 in
theorem cod_X5_wipe : Cond.code yX5_wipe cX5_wipe 2 (some .int) ∈ wG := wG_mk 401 rfl rfl
set_option maxRecDepth 100000 in
theorem ml_L_57 : Cond.methodLink RL 57 yX5_told ∈ wG := wG_mk 402 rfl rfl
set_option maxRecDepth 100000 in
theorem im_X5_told : Cond.instanceMethod yX5_told ∈ wG := wG_mk 403 rfl rfl
set_option maxRecDepth 100000 in
theorem sel_X5_told : Cond.selects RX5 yX5_told yX5_told ∈ wG := wG_mk 404 rfl rfl
set_option maxRecDepth 100000 in
theorem cod_X5_told : Cond.code yX5_told cX5_told 5 (some .int) ∈ wG := wG_mk 405 rfl rfl
set_option maxRecDepth 100000 in
theorem im_X3_tellsOrderOf : Cond.instanceMethod yX3_tellsOrderOf ∈ wG := wG_mk 408 rfl rfl
set_option maxRecDepth 100000 in
theorem cod_X3_tellsOrderOf : Cond.code yX3_tellsOrderOf cX3_tellsOrderOf 5 (some .boolean) ∈ wG := wG_mk 409 rfl rfl
set_option maxRecDepth 100000 in
theorem ml_X3_19 : Cond.methodLink RX3 19 yX3_tryAt ∈ wG := wG_mk 410 rfl rfl
set_option maxRecDepth 100000 in
theorem im_X3_tryAt : Cond.instanceMethod yX3_tryAt ∈ wG := wG_mk 412 rfl rfl
set_option maxRecDepth 100000 in
theorem cod_X3_tryAt : Cond.code yX3_tryAt cX3_tryAt 2 (some .int) ∈ wG := wG_mk 413 rfl rfl
set_option maxRecDepth 100000 in
theorem ml_L_61 : Cond.methodLink RL 61 yX5_best ∈ wG := wG_mk 416 rfl rfl
set_option maxRecDepth 100000 in
theorem im_X5_best : Cond.instanceMethod yX5_best ∈ wG := wG_mk 417 rfl rfl
set_option maxRecDepth 100000 in
theorem sel_X5_best : Cond.selects RX5 yX5_best yX5_best ∈ wG := wG_mk 418 rfl rfl
set_option maxRecDepth 100000 in
theorem cod_X5_best : Cond.code yX5_best cX5_best 2 (some .int) ∈ wG := wG_mk 419 rfl rfl
set_option maxRecDepth 100000 in
theorem im_X1_planBest : Cond.instanceMethod yX1_planBest ∈ wG := wG_mk 422 rfl rfl
set_option maxRecDepth 100000 in
theorem cod_X1_planBest : Cond.code yX1_planBest cX1_planBest 1 none ∈ wG := wG_mk 423 rfl rfl
set_option maxRecDepth 100000 in
theorem ml_X1_74 : Cond.methodLink RX1 74 yX1_weighOnward ∈ wG := wG_mk 424 rfl rfl
set_option maxRecDepth 100000 in
theorem im_X1_weighOnward : Cond.instanceMethod yX1_weighOnward ∈ wG := wG_mk 426 rfl rfl
set_option maxRecDepth 100000 in
theorem cod_X1_weighOnward : Cond.code yX1_weighOnward cX1_weighOnward 3 none ∈ wG := wG_mk 427 rfl rfl
set_option maxRecDepth 100000 in
theorem ml_X1_80 : Cond.methodLink RX1 80 yX1_allTries ∈ wG := wG_mk 428 rfl rfl
set_option maxRecDepth 100000 in
theorem im_X1_allTries : Cond.instanceMethod yX1_allTries ∈ wG := wG_mk 430 rfl rfl
set_option maxRecDepth 100000 in
theorem cod_X1_allTries : Cond.code yX1_allTries cX1_allTries 1 (some .int) ∈ wG := wG_mk 431 rfl rfl
set_option maxRecDepth 100000 in
theorem ml_X1_104 : Cond.methodLink RX1 104 yX1_leastThrough ∈ wG := wG_mk 433 rfl rfl
set_option maxRecDepth 100000 in
theorem im_X1_leastThrough : Cond.instanceMethod yX1_leastThrough ∈ wG := wG_mk 435 rfl rfl
set_option maxRecDepth 100000 in
theorem cod_X1_leastThrough : Cond.code yX1_leastThrough cX1_leastThrough 7 (some .int) ∈ wG := wG_mk 436 rfl rfl
set_option maxRecDepth 100000 in
theorem cst_X1_99 : Cond.constant RX1 99 2147483647 ∈ wG := wG_mk 437 rfl rfl
set_option maxRecDepth 100000 in
theorem ml_X1_70 : Cond.methodLink RX1 70 yX1_plan ∈ wG := wG_mk 438 rfl rfl
set_option maxRecDepth 100000 in
theorem im_X1_plan : Cond.instanceMethod yX1_plan ∈ wG := wG_mk 440 rfl rfl
set_option maxRecDepth 100000 in
theorem cod_X1_plan : Cond.code yX1_plan cX1_plan 7 none ∈ wG := wG_mk 441 rfl rfl
set_option maxRecDepth 100000 in
theorem im_X2_clear : Cond.instanceMethod yX2_clear ∈ wG := wG_mk 444 rfl rfl
set_option maxRecDepth 100000 in
theorem cod_X2_clear : Cond.code yX2_clear cX2_clear 1 none ∈ wG := wG_mk 445 rfl rfl
set_option maxRecDepth 100000 in
theorem ml_X1_84 : Cond.methodLink RX1 84 yX1_firstOfBest ∈ wG := wG_mk 446 rfl rfl
set_option maxRecDepth 100000 in
theorem im_X1_firstOfBest : Cond.instanceMethod yX1_firstOfBest ∈ wG := wG_mk 448 rfl rfl
set_option maxRecDepth 100000 in
theorem cod_X1_firstOfBest : Cond.code yX1_firstOfBest cX1_firstOfBest 7 (some .int) ∈ wG := wG_mk 449 rfl rfl
set_option maxRecDepth 100000 in
theorem ml_X1_90 : Cond.methodLink RX1 90 yX1_leap ∈ wG := wG_mk 450 rfl rfl
set_option maxRecDepth 100000 in
theorem ml_X1_87 : Cond.methodLink RX1 87 yX1_nearestOf ∈ wG := wG_mk 451 rfl rfl
set_option maxRecDepth 100000 in
theorem im_X1_nearestOf : Cond.instanceMethod yX1_nearestOf ∈ wG := wG_mk 453 rfl rfl
set_option maxRecDepth 100000 in
theorem cod_X1_nearestOf : Cond.code yX1_nearestOf cX1_nearestOf 6 (some .int) ∈ wG := wG_mk 454 rfl rfl
set_option maxRecDepth 100000 in
theorem im_X2_append : Cond.instanceMethod yX2_append ∈ wG := wG_mk 457 rfl rfl
set_option maxRecDepth 100000 in
theorem cod_X2_append : Cond.code yX2_append cX2_append 3 none ∈ wG := wG_mk 458 rfl rfl
set_option maxRecDepth 100000 in
theorem im_X2_tell : Cond.instanceMethod yX2_tell ∈ wG := wG_mk 461 rfl rfl
set_option maxRecDepth 100000 in
theorem cod_X2_tell : Cond.code yX2_tell cX2_tell 2 (some .int) ∈ wG := wG_mk 462 rfl rfl
set_option maxRecDepth 100000 in
theorem ml_L_65 : Cond.methodLink RL 65 yX5_nearest ∈ wG := wG_mk 463 rfl rfl
set_option maxRecDepth 100000 in
theorem im_X5_nearest : Cond.instanceMethod yX5_nearest ∈ wG := wG_mk 464 rfl rfl
set_option maxRecDepth 100000 in
theorem sel_X5_nearest : Cond.selects RX5 yX5_nearest yX5_nearest ∈ wG := wG_mk 465 rfl rfl
set_option maxRecDepth 100000 in
theorem cod_X5_nearest : Cond.code yX5_nearest cX5_nearest 2 (some .int) ∈ wG := wG_mk 466 rfl rfl
set_option maxRecDepth 100000 in
theorem im_X1_planNearest : Cond.instanceMethod yX1_planNearest ∈ wG := wG_mk 469 rfl rfl
set_option maxRecDepth 100000 in
theorem cod_X1_planNearest : Cond.code yX1_planNearest cX1_planNearest 1 none ∈ wG := wG_mk 470 rfl rfl
set_option maxRecDepth 100000 in
theorem ml_L_69 : Cond.methodLink RL 69 yX5_loosen ∈ wG := wG_mk 471 rfl rfl
set_option maxRecDepth 100000 in
theorem im_X5_loosen : Cond.instanceMethod yX5_loosen ∈ wG := wG_mk 472 rfl rfl
set_option maxRecDepth 100000 in
theorem sel_X5_loosen : Cond.selects RX5 yX5_loosen yX5_loosen ∈ wG := wG_mk 473 rfl rfl
set_option maxRecDepth 100000 in
theorem cod_X5_loosen : Cond.code yX5_loosen cX5_loosen 3 (some .int) ∈ wG := wG_mk 474 rfl rfl
set_option maxRecDepth 100000 in
theorem ml_X5_157 : Cond.methodLink RX5 157 yX5_isSwitch ∈ wG := wG_mk 475 rfl rfl
set_option maxRecDepth 100000 in
theorem stt_X5_isSwitch : Cond.static yX5_isSwitch ∈ wG := wG_mk 476 rfl rfl
set_option maxRecDepth 100000 in
theorem cod_X5_isSwitch : Cond.code yX5_isSwitch cX5_isSwitch 1 (some .boolean) ∈ wG := wG_mk 477 rfl rfl
set_option maxRecDepth 100000 in
theorem ml_X5_160 : Cond.methodLink RX5 160 yX5_withMember ∈ wG := wG_mk 478 rfl rfl
set_option maxRecDepth 100000 in
theorem ml_X5_163 : Cond.methodLink RX5 163 yJ6_bitCount_0f7a4 ∈ wG := wG_mk 479 rfl rfl
set_option maxRecDepth 100000 in
theorem stt_J6_bitCount_0f7a4 : Cond.static yJ6_bitCount_0f7a4 ∈ wG := wG_mk 480 rfl rfl
set_option maxRecDepth 100000 in
theorem cod_J6_bitCount_0f7a4 : Cond.code yJ6_bitCount_0f7a4 cJ6_bitCount_0f7a4 1 (some .int) ∈ wG := wG_mk 481 rfl rfl
set_option maxRecDepth 100000 in
theorem cst_J6_265 : Cond.constant RJ6 265 1431655765 ∈ wG := wG_mk 482 rfl rfl
set_option maxRecDepth 100000 in
theorem cst_J6_266 : Cond.constant RJ6 266 858993459 ∈ wG := wG_mk 483 rfl rfl
set_option maxRecDepth 100000 in
theorem cst_J6_267 : Cond.constant RJ6 267 252645135 ∈ wG := wG_mk 484 rfl rfl
set_option maxRecDepth 100000 in
theorem ml_L_73 : Cond.methodLink RL 73 yX5_join ∈ wG := wG_mk 485 rfl rfl
set_option maxRecDepth 100000 in
theorem im_X5_join : Cond.instanceMethod yX5_join ∈ wG := wG_mk 486 rfl rfl
set_option maxRecDepth 100000 in
theorem sel_X5_join : Cond.selects RX5 yX5_join yX5_join ∈ wG := wG_mk 487 rfl rfl
set_option maxRecDepth 100000 in
theorem cod_X5_join : Cond.code yX5_join cX5_join 4 (some .int) ∈ wG := wG_mk 488 rfl rfl
set_option maxRecDepth 100000 in
theorem ml_X5_168 : Cond.methodLink RX5 168 yX5_pairOfNets ∈ wG := wG_mk 489 rfl rfl
set_option maxRecDepth 100000 in
theorem stt_X5_pairOfNets : Cond.static yX5_pairOfNets ∈ wG := wG_mk 490 rfl rfl
set_option maxRecDepth 100000 in
theorem cod_X5_pairOfNets : Cond.code yX5_pairOfNets cX5_pairOfNets 6 (some .int) ∈ wG := wG_mk 491 rfl rfl
set_option maxRecDepth 100000 in
theorem ml_X5_213 : Cond.methodLink RX5 213 Lib.Math.min.name ∈ wG := wG_mk 492 rfl rfl
set_option maxRecDepth 100000 in
theorem stt_Math_min : Cond.static Lib.Math.min.name ∈ wG := wG_mk 493 rfl rfl
set_option maxRecDepth 100000 in
theorem cod_Math_min : Cond.code Lib.Math.min.name Lib.Math.min.code 2 (some .int) ∈ wG := wG_mk 494 rfl rfl
set_option maxRecDepth 100000 in
theorem ml_X5_218 : Cond.methodLink RX5 218 Lib.Math.max.name ∈ wG := wG_mk 495 rfl rfl
set_option maxRecDepth 100000 in
theorem ml_L_77 : Cond.methodLink RL 77 yX5_sees ∈ wG := wG_mk 496 rfl rfl
set_option maxRecDepth 100000 in
theorem im_X5_sees : Cond.instanceMethod yX5_sees ∈ wG := wG_mk 497 rfl rfl
set_option maxRecDepth 100000 in
theorem sel_X5_sees : Cond.selects RX5 yX5_sees yX5_sees ∈ wG := wG_mk 498 rfl rfl
set_option maxRecDepth 100000 in
theorem cod_X5_sees : Cond.code yX5_sees cX5_sees 1 (some .int) ∈ wG := wG_mk 499 rfl rfl
set_option maxRecDepth 100000 in
theorem ml_L_81 : Cond.methodLink RL 81 yX5_fits ∈ wG := wG_mk 500 rfl rfl
set_option maxRecDepth 100000 in
theorem im_X5_fits : Cond.instanceMethod yX5_fits ∈ wG := wG_mk 501 rfl rfl
set_option maxRecDepth 100000 in
theorem sel_X5_fits : Cond.selects RX5 yX5_fits yX5_fits ∈ wG := wG_mk 502 rfl rfl
set_option maxRecDepth 100000 in
theorem cod_X5_fits : Cond.code yX5_fits cX5_fits 2 (some .int) ∈ wG := wG_mk 503 rfl rfl
set_option maxRecDepth 100000 in
theorem ml_X5_171 : Cond.methodLink RX5 171 yX5_flawSeenAs ∈ wG := wG_mk 504 rfl rfl
set_option maxRecDepth 100000 in
theorem im_X5_flawSeenAs : Cond.instanceMethod yX5_flawSeenAs ∈ wG := wG_mk 506 rfl rfl
set_option maxRecDepth 100000 in
theorem cod_X5_flawSeenAs : Cond.code yX5_flawSeenAs cX5_flawSeenAs 5 (some .int) ∈ wG := wG_mk 507 rfl rfl
set_option maxRecDepth 100000 in
theorem ml_X5_207 : Cond.methodLink RX5 207 yX5_isFlaw ∈ wG := wG_mk 508 rfl rfl
set_option maxRecDepth 100000 in
theorem im_X5_isFlaw : Cond.instanceMethod yX5_isFlaw ∈ wG := wG_mk 510 rfl rfl
set_option maxRecDepth 100000 in
theorem cod_X5_isFlaw : Cond.code yX5_isFlaw cX5_isFlaw 2 (some .boolean) ∈ wG := wG_mk 511 rfl rfl
set_option maxRecDepth 100000 in
theorem ml_X5_210 : Cond.methodLink RX5 210 yX5_seenOfFlaw ∈ wG := wG_mk 512 rfl rfl
set_option maxRecDepth 100000 in
theorem im_X5_seenOfFlaw : Cond.instanceMethod yX5_seenOfFlaw ∈ wG := wG_mk 514 rfl rfl
set_option maxRecDepth 100000 in
theorem cod_X5_seenOfFlaw : Cond.code yX5_seenOfFlaw cX5_seenOfFlaw 2 (some .int) ∈ wG := wG_mk 515 rfl rfl
set_option maxRecDepth 100000 in
theorem ml_L_85 : Cond.methodLink RL 85 yX5_hidden ∈ wG := wG_mk 516 rfl rfl
set_option maxRecDepth 100000 in
theorem im_X5_hidden : Cond.instanceMethod yX5_hidden ∈ wG := wG_mk 517 rfl rfl
set_option maxRecDepth 100000 in
theorem sel_X5_hidden : Cond.selects RX5 yX5_hidden yX5_hidden ∈ wG := wG_mk 518 rfl rfl
set_option maxRecDepth 100000 in
theorem cod_X5_hidden : Cond.code yX5_hidden cX5_hidden 2 (some .int) ∈ wG := wG_mk 519 rfl rfl
set_option maxRecDepth 100000 in
theorem ml_L_89 : Cond.methodLink RL 89 yX5_halves ∈ wG := wG_mk 520 rfl rfl
set_option maxRecDepth 100000 in
theorem im_X5_halves : Cond.instanceMethod yX5_halves ∈ wG := wG_mk 521 rfl rfl
set_option maxRecDepth 100000 in
theorem sel_X5_halves : Cond.selects RX5 yX5_halves yX5_halves ∈ wG := wG_mk 522 rfl rfl
set_option maxRecDepth 100000 in
theorem cod_X5_halves : Cond.code yX5_halves cX5_halves 8 (some .int) ∈ wG := wG_mk 523 rfl rfl
set_option maxRecDepth 100000 in
theorem ml_X5_174 : Cond.methodLink RX5 174 yX5_netsOneWith ∈ wG := wG_mk 524 rfl rfl
set_option maxRecDepth 100000 in
theorem ml_X5_177 : Cond.methodLink RX5 177 yX5_leastMembers ∈ wG := wG_mk 525 rfl rfl
set_option maxRecDepth 100000 in
theorem stt_X5_leastMembers : Cond.static yX5_leastMembers ∈ wG := wG_mk 526 rfl rfl
set_option maxRecDepth 100000 in
theorem cod_X5_leastMembers : Cond.code yX5_leastMembers cX5_leastMembers 4 (some .int) ∈ wG := wG_mk 527 rfl rfl
set_option maxRecDepth 100000 in
theorem ml_X5_180 : Cond.methodLink RX5 180 yX5_leastNet ∈ wG := wG_mk 528 rfl rfl
set_option maxRecDepth 100000 in
theorem stt_X5_leastNet : Cond.static yX5_leastNet ∈ wG := wG_mk 529 rfl rfl
set_option maxRecDepth 100000 in
theorem cod_X5_leastNet : Cond.code yX5_leastNet cX5_leastNet 2 (some .int) ∈ wG := wG_mk 530 rfl rfl
set_option maxRecDepth 100000 in
theorem ml_L_93 : Cond.methodLink RL 93 yX5_image ∈ wG := wG_mk 531 rfl rfl
set_option maxRecDepth 100000 in
theorem im_X5_image : Cond.instanceMethod yX5_image ∈ wG := wG_mk 532 rfl rfl
set_option maxRecDepth 100000 in
theorem sel_X5_image : Cond.selects RX5 yX5_image yX5_image ∈ wG := wG_mk 533 rfl rfl
set_option maxRecDepth 100000 in
theorem cod_X5_image : Cond.code yX5_image cX5_image 2 (some .int) ∈ wG := wG_mk 534 rfl rfl
set_option maxRecDepth 100000 in
theorem ml_X5_183 : Cond.methodLink RX5 183 yX5_isImage ∈ wG := wG_mk 535 rfl rfl
set_option maxRecDepth 100000 in
theorem stt_X5_isImage : Cond.static yX5_isImage ∈ wG := wG_mk 536 rfl rfl
set_option maxRecDepth 100000 in
theorem cod_X5_isImage : Cond.code yX5_isImage cX5_isImage 1 (some .boolean) ∈ wG := wG_mk 537 rfl rfl
set_option maxRecDepth 100000 in
theorem im_X0_copyFrom : Cond.instanceMethod yX0_copyFrom ∈ wG := wG_mk 540 rfl rfl
set_option maxRecDepth 100000 in
theorem cod_X0_copyFrom : Cond.code yX0_copyFrom cX0_copyFrom 3 none ∈ wG := wG_mk 541 rfl rfl
set_option maxRecDepth 100000 in
theorem ml_L_97 : Cond.methodLink RL 97 yX5_restore ∈ wG := wG_mk 542 rfl rfl
set_option maxRecDepth 100000 in
theorem im_X5_restore : Cond.instanceMethod yX5_restore ∈ wG := wG_mk 543 rfl rfl
set_option maxRecDepth 100000 in
theorem sel_X5_restore : Cond.selects RX5 yX5_restore yX5_restore ∈ wG := wG_mk 544 rfl rfl
set_option maxRecDepth 100000 in
theorem cod_X5_restore : Cond.code yX5_restore cX5_restore 2 (some .int) ∈ wG := wG_mk 545 rfl rfl
set_option maxRecDepth 100000 in
theorem ml_L_101 : Cond.methodLink RL 101 yX5_count ∈ wG := wG_mk 546 rfl rfl
set_option maxRecDepth 100000 in
theorem im_X5_count : Cond.instanceMethod yX5_count ∈ wG := wG_mk 547 rfl rfl
set_option maxRecDepth 100000 in
theorem sel_X5_count : Cond.selects RX5 yX5_count yX5_count ∈ wG := wG_mk 548 rfl rfl
set_option maxRecDepth 100000 in
theorem cod_X5_count : Cond.code yX5_count cX5_count 2 (some .int) ∈ wG := wG_mk 549 rfl rfl
set_option maxRecDepth 100000 in
theorem im_X0_countNetsWithPoints : Cond.instanceMethod yX0_countNetsWithPoints ∈ wG := wG_mk 552 rfl rfl
set_option maxRecDepth 100000 in
theorem cod_X0_countNetsWithPoints : Cond.code yX0_countNetsWithPoints cX0_countNetsWithPoints 3 (some .int) ∈ wG := wG_mk 553 rfl rfl
set_option maxRecDepth 100000 in
theorem ml_X0_38 : Cond.methodLink RX0 38 yJ6_bitCount_0f7a4 ∈ wG := wG_mk 554 rfl rfl
set_option maxRecDepth 100000 in
theorem cl_L_10 : Cond.classLink RL 10 RX6 ∈ wG := wG_mk 555 rfl rfl
set_option maxRecDepth 100000 in
theorem ins_X6 : Cond.instantiable RX6 16 ∈ wG := wG_mk 556 rfl rfl
set_option maxRecDepth 100000 in
theorem ml_L_12 : Cond.methodLink RL 12 yX6_init ∈ wG := wG_mk 557 rfl rfl
set_option maxRecDepth 100000 in
theorem im_X6_init : Cond.instanceMethod yX6_init ∈ wG := wG_mk 558 rfl rfl
set_option maxRecDepth 100000 in
theorem cod_X6_init : Cond.code yX6_init cX6_init 1 none ∈ wG := wG_mk 559 rfl rfl
set_option maxRecDepth 100000 in
theorem ml_X6_1 : Cond.methodLink RX6 1 objectInit ∈ wG := wG_mk 560 rfl rfl
set_option maxRecDepth 100000 in
theorem fl_X6_7 : Cond.fieldLink RX6 7 "NeedlePairsModel" "state" "[I" ∈ wG := wG_mk 561 rfl rfl
set_option maxRecDepth 100000 in
theorem fl_X6_13 : Cond.fieldLink RX6 13 "NeedlePairsModel" "images" "[I" ∈ wG := wG_mk 562 rfl rfl
set_option maxRecDepth 100000 in
theorem fl_X6_16 : Cond.fieldLink RX6 16 "NeedlePairsModel" "isKept" "[Z" ∈ wG := wG_mk 563 rfl rfl
set_option maxRecDepth 100000 in
theorem fl_X6_20 : Cond.fieldLink RX6 20 "NeedlePairsModel" "pad" "[I" ∈ wG := wG_mk 564 rfl rfl
set_option maxRecDepth 100000 in
theorem fl_X6_126 : Cond.fieldLink RX6 126 "NeedlePairsModel" "said" "I" ∈ wG := wG_mk 565 rfl rfl
set_option maxRecDepth 100000 in
theorem fl_X6_23 : Cond.fieldLink RX6 23 "NeedlePairsModel" "leftOf" "[I" ∈ wG := wG_mk 566 rfl rfl
set_option maxRecDepth 100000 in
theorem fl_X6_26 : Cond.fieldLink RX6 26 "NeedlePairsModel" "rightOf" "[I" ∈ wG := wG_mk 567 rfl rfl
set_option maxRecDepth 100000 in
theorem fl_X6_29 : Cond.fieldLink RX6 29 "NeedlePairsModel" "isApart" "[Z" ∈ wG := wG_mk 568 rfl rfl
set_option maxRecDepth 100000 in
theorem fl_X6_72 : Cond.fieldLink RX6 72 "NeedlePairsModel" "tries" "I" ∈ wG := wG_mk 569 rfl rfl
set_option maxRecDepth 100000 in
theorem fl_X6_32 : Cond.fieldLink RX6 32 "NeedlePairsModel" "group" "[I" ∈ wG := wG_mk 570 rfl rfl
set_option maxRecDepth 100000 in
theorem fl_X6_35 : Cond.fieldLink RX6 35 "NeedlePairsModel" "isPair" "[Z" ∈ wG := wG_mk 571 rfl rfl
set_option maxRecDepth 100000 in
theorem fl_X6_38 : Cond.fieldLink RX6 38 "NeedlePairsModel" "isOne" "[Z" ∈ wG := wG_mk 572 rfl rfl
set_option maxRecDepth 100000 in
theorem fl_X6_41 : Cond.fieldLink RX6 41 "NeedlePairsModel" "order" "[I" ∈ wG := wG_mk 573 rfl rfl
set_option maxRecDepth 100000 in
theorem fl_X6_44 : Cond.fieldLink RX6 44 "NeedlePairsModel" "rest" "[I" ∈ wG := wG_mk 574 rfl rfl
set_option maxRecDepth 100000 in
theorem fl_X6_47 : Cond.fieldLink RX6 47 "NeedlePairsModel" "aside" "[I" ∈ wG := wG_mk 575 rfl rfl
set_option maxRecDepth 100000 in
theorem fl_X6_50 : Cond.fieldLink RX6 50 "NeedlePairsModel" "others" "[I" ∈ wG := wG_mk 576 rfl rfl
set_option maxRecDepth 100000 in
theorem arr_boolean : Cond.arrayClass .boolean ∈ wG := wG_mk 610 rfl rfl
set_option maxRecDepth 100000 in
theorem ml_L_17 : Cond.methodLink RL 17 yX6_point ∈ wG := wG_mk 611 rfl rfl
set_option maxRecDepth 100000 in
theorem im_X6_point : Cond.instanceMethod yX6_point ∈ wG := wG_mk 612 rfl rfl
set_option maxRecDepth 100000 in
theorem sel_X6_point : Cond.selects RX6 yX6_point yX6_point ∈ wG := wG_mk 613 rfl rfl
set_option maxRecDepth 100000 in
theorem cod_X6_point : Cond.code yX6_point cX6_point 5 (some .int) ∈ wG := wG_mk 614 rfl rfl
set_option maxRecDepth 100000 in
theorem ml_X6_57 : Cond.methodLink RX6 57 yX6_isNet ∈ wG := wG_mk 615 rfl rfl
set_option maxRecDepth 100000 in
theorem stt_X6_isNet : Cond.static yX6_isNet ∈ wG := wG_mk 616 rfl rfl
set_option maxRecDepth 100000 in
theorem cod_X6_isNet : Cond.code yX6_isNet cX6_isNet 1 (some .boolean) ∈ wG := wG_mk 617 rfl rfl
set_option maxRecDepth 100000 in
theorem ml_X6_53 : Cond.methodLink RX6 53 yX6_in ∈ wG := wG_mk 618 rfl rfl
set_option maxRecDepth 100000 in
theorem stt_X6_in : Cond.static yX6_in ∈ wG := wG_mk 619 rfl rfl
set_option maxRecDepth 100000 in
theorem cod_X6_in : Cond.code yX6_in cX6_in 3 (some .boolean) ∈ wG := wG_mk 620 rfl rfl
set_option maxRecDepth 100000 in
theorem ml_X6_61 : Cond.methodLink RX6 61 yX6_isHere ∈ wG := wG_mk 621 rfl rfl
set_option maxRecDepth 100000 in
theorem stt_X6_isHere : Cond.static yX6_isHere ∈ wG := wG_mk 622 rfl rfl
set_option maxRecDepth 100000 in
theorem cod_X6_isHere : Cond.code yX6_isHere cX6_isHere 2 (some .boolean) ∈ wG := wG_mk 623 rfl rfl
set_option maxRecDepth 100000 in
theorem ml_L_22 : Cond.methodLink RL 22 yX6_pop ∈ wG := wG_mk 624 rfl rfl
set_option maxRecDepth 100000 in
theorem im_X6_pop : Cond.instanceMethod yX6_pop ∈ wG := wG_mk 625 rfl rfl
set_option maxRecDepth 100000 in
theorem sel_X6_pop : Cond.selects RX6 yX6_pop yX6_pop ∈ wG := wG_mk 626 rfl rfl
set_option maxRecDepth 100000 in
theorem cod_X6_pop : Cond.code yX6_pop cX6_pop 1 (some .int) ∈ wG := wG_mk 627 rfl rfl
set_option maxRecDepth 100000 in
theorem ml_L_26 : Cond.methodLink RL 26 yX6_move ∈ wG := wG_mk 628 rfl rfl
set_option maxRecDepth 100000 in
theorem im_X6_move : Cond.instanceMethod yX6_move ∈ wG := wG_mk 629 rfl rfl
set_option maxRecDepth 100000 in
theorem sel_X6_move : Cond.selects RX6 yX6_move yX6_move ∈ wG := wG_mk 630 rfl rfl
set_option maxRecDepth 100000 in
theorem cod_X6_move : Cond.code yX6_move cX6_move 5 (some .int) ∈ wG := wG_mk 631 rfl rfl
set_option maxRecDepth 100000 in
theorem ml_X6_65 : Cond.methodLink RX6 65 yX6_isPoint ∈ wG := wG_mk 632 rfl rfl
set_option maxRecDepth 100000 in
theorem im_X6_isPoint : Cond.instanceMethod yX6_isPoint ∈ wG := wG_mk 634 rfl rfl
set_option maxRecDepth 100000 in
theorem cod_X6_isPoint : Cond.code yX6_isPoint cX6_isPoint 2 (some .boolean) ∈ wG := wG_mk 635 rfl rfl
set_option maxRecDepth 100000 in
theorem ml_L_31 : Cond.methodLink RL 31 yX6_near ∈ wG := wG_mk 636 rfl rfl
set_option maxRecDepth 100000 in
theorem im_X6_near : Cond.instanceMethod yX6_near ∈ wG := wG_mk 637 rfl rfl
set_option maxRecDepth 100000 in
theorem sel_X6_near : Cond.selects RX6 yX6_near yX6_near ∈ wG := wG_mk 638 rfl rfl
set_option maxRecDepth 100000 in
theorem cod_X6_near : Cond.code yX6_near cX6_near 3 (some .int) ∈ wG := wG_mk 639 rfl rfl
set_option maxRecDepth 100000 in
theorem ml_L_36 : Cond.methodLink RL 36 yX6_of ∈ wG := wG_mk 640 rfl rfl
set_option maxRecDepth 100000 in
theorem im_X6_of : Cond.instanceMethod yX6_of ∈ wG := wG_mk 641 rfl rfl
set_option maxRecDepth 100000 in
theorem sel_X6_of : Cond.selects RX6 yX6_of yX6_of ∈ wG := wG_mk 642 rfl rfl
set_option maxRecDepth 100000 in
theorem cod_X6_of : Cond.code yX6_of cX6_of 3 (some .int) ∈ wG := wG_mk 643 rfl rfl
set_option maxRecDepth 100000 in
theorem ml_L_40 : Cond.methodLink RL 40 yX6_far ∈ wG := wG_mk 644 rfl rfl
set_option maxRecDepth 100000 in
theorem im_X6_far : Cond.instanceMethod yX6_far ∈ wG := wG_mk 645 rfl rfl
set_option maxRecDepth 100000 in
theorem sel_X6_far : Cond.selects RX6 yX6_far yX6_far ∈ wG := wG_mk 646 rfl rfl
set_option maxRecDepth 100000 in
theorem cod_X6_far : Cond.code yX6_far cX6_far 3 (some .int) ∈ wG := wG_mk 647 rfl rfl
set_option maxRecDepth 100000 in
theorem ml_X6_68 : Cond.methodLink RX6 68 yX6_farOf ∈ wG := wG_mk 648 rfl rfl
set_option maxRecDepth 100000 in
theorem im_X6_farOf : Cond.instanceMethod yX6_farOf ∈ wG := wG_mk 650 rfl rfl
set_option maxRecDepth 100000 in
theorem cod_X6_farOf : Cond.code yX6_farOf cX6_farOf 5 (some .int) ∈ wG := wG_mk 651 rfl rfl
set_option maxRecDepth 100000 in
theorem ml_L_44 : Cond.methodLink RL 44 yX6_attempt ∈ wG := wG_mk 652 rfl rfl
set_option maxRecDepth 100000 in
theorem im_X6_attempt : Cond.instanceMethod yX6_attempt ∈ wG := wG_mk 653 rfl rfl
set_option maxRecDepth 100000 in
theorem sel_X6_attempt : Cond.selects RX6 yX6_attempt yX6_attempt ∈ wG := wG_mk 654 rfl rfl
set_option maxRecDepth 100000 in
theorem cod_X6_attempt : Cond.code yX6_attempt cX6_attempt 4 (some .int) ∈ wG := wG_mk 655 rfl rfl
set_option maxRecDepth 100000 in
theorem ml_X6_107 : Cond.methodLink RX6 107 yX6_layTries ∈ wG := wG_mk 656 rfl rfl
set_option maxRecDepth 100000 in
theorem im_X6_layTries : Cond.instanceMethod yX6_layTries ∈ wG := wG_mk 658 rfl rfl
set_option maxRecDepth 100000 in
theorem cod_X6_layTries : Cond.code yX6_layTries cX6_layTries 3 none ∈ wG := wG_mk 659 rfl rfl
set_option maxRecDepth 100000 in
theorem ml_X6_91 : Cond.methodLink RX6 91 yX6_layTree ∈ wG := wG_mk 660 rfl rfl
set_option maxRecDepth 100000 in
theorem im_X6_layTree : Cond.instanceMethod yX6_layTree ∈ wG := wG_mk 662 rfl rfl
set_option maxRecDepth 100000 in
theorem cod_X6_layTree : Cond.code yX6_layTree cX6_layTree 4 none ∈ wG := wG_mk 663 rfl rfl
set_option maxRecDepth 100000 in
theorem ml_X6_79 : Cond.methodLink RX6 79 yX6_nextPair ∈ wG := wG_mk 664 rfl rfl
set_option maxRecDepth 100000 in
theorem im_X6_nextPair : Cond.instanceMethod yX6_nextPair ∈ wG := wG_mk 666 rfl rfl
set_option maxRecDepth 100000 in
theorem cod_X6_nextPair : Cond.code yX6_nextPair cX6_nextPair 5 (some .int) ∈ wG := wG_mk 667 rfl rfl
set_option maxRecDepth 100000 in
theorem ml_X6_76 : Cond.methodLink RX6 76 yX6_canJoin ∈ wG := wG_mk 668 rfl rfl
set_option maxRecDepth 100000 in
theorem im_X6_canJoin : Cond.instanceMethod yX6_canJoin ∈ wG := wG_mk 670 rfl rfl
set_option maxRecDepth 100000 in
theorem cod_X6_canJoin : Cond.code yX6_canJoin cX6_canJoin 4 (some .boolean) ∈ wG := wG_mk 671 rfl rfl
set_option maxRecDepth 100000 in
theorem ml_X6_83 : Cond.methodLink RX6 83 yX6_join ∈ wG := wG_mk 672 rfl rfl
set_option maxRecDepth 100000 in
theorem im_X6_join : Cond.instanceMethod yX6_join ∈ wG := wG_mk 674 rfl rfl
set_option maxRecDepth 100000 in
theorem cod_X6_join : Cond.code yX6_join cX6_join 5 none ∈ wG := wG_mk 675 rfl rfl
set_option maxRecDepth 100000 in
theorem ml_X6_87 : Cond.methodLink RX6 87 yX6_addTry ∈ wG := wG_mk 676 rfl rfl
set_option maxRecDepth 100000 in
theorem im_X6_addTry : Cond.instanceMethod yX6_addTry ∈ wG := wG_mk 678 rfl rfl
set_option maxRecDepth 100000 in
theorem cod_X6_addTry : Cond.code yX6_addTry cX6_addTry 5 none ∈ wG := wG_mk 679 rfl rfl
set_option maxRecDepth 100000 in
theorem ml_X6_95 : Cond.methodLink RX6 95 yX6_layNeighbours ∈ wG := wG_mk 680 rfl rfl
set_option maxRecDepth 100000 in
theorem im_X6_layNeighbours : Cond.instanceMethod yX6_layNeighbours ∈ wG := wG_mk 682 rfl rfl
set_option maxRecDepth 100000 in
theorem cod_X6_layNeighbours : Cond.code yX6_layNeighbours cX6_layNeighbours 7 none ∈ wG := wG_mk 683 rfl rfl
set_option maxRecDepth 100000 in
theorem ml_X6_110 : Cond.methodLink RX6 110 yX6_isTry ∈ wG := wG_mk 684 rfl rfl
set_option maxRecDepth 100000 in
theorem im_X6_isTry : Cond.instanceMethod yX6_isTry ∈ wG := wG_mk 686 rfl rfl
set_option maxRecDepth 100000 in
theorem cod_X6_isTry : Cond.code yX6_isTry cX6_isTry 2 (some .boolean) ∈ wG := wG_mk 687 rfl rfl
set_option maxRecDepth 100000 in
theorem ml_X6_113 : Cond.methodLink RX6 113 yX6_seen ∈ wG := wG_mk 688 rfl rfl
set_option maxRecDepth 100000 in
theorem im_X6_seen : Cond.instanceMethod yX6_seen ∈ wG := wG_mk 690 rfl rfl
set_option maxRecDepth 100000 in
theorem cod_X6_seen : Cond.code yX6_seen cX6_seen 3 (some .int) ∈ wG := wG_mk 691 rfl rfl
set_option maxRecDepth 100000 in
theorem ml_X6_101 : Cond.methodLink RX6 101 yX6_layOnes ∈ wG := wG_mk 692 rfl rfl
set_option maxRecDepth 100000 in
theorem im_X6_layOnes : Cond.instanceMethod yX6_layOnes ∈ wG := wG_mk 694 rfl rfl
set_option maxRecDepth 100000 in
theorem cod_X6_layOnes : Cond.code yX6_layOnes cX6_layOnes 3 none ∈ wG := wG_mk 695 rfl rfl
set_option maxRecDepth 100000 in
theorem ml_X6_98 : Cond.methodLink RX6 98 yX6_pairOf ∈ wG := wG_mk 696 rfl rfl
set_option maxRecDepth 100000 in
theorem stt_X6_pairOf : Cond.static yX6_pairOf ∈ wG := wG_mk 697 rfl rfl
set_option maxRecDepth 100000 in
theorem cod_X6_pairOf : Cond.code yX6_pairOf cX6_pairOf 4 (some .int) ∈ wG := wG_mk 698 rfl rfl
set_option maxRecDepth 100000 in
theorem ml_X6_104 : Cond.methodLink RX6 104 yX6_conducts ∈ wG := wG_mk 699 rfl rfl
set_option maxRecDepth 100000 in
theorem im_X6_conducts : Cond.instanceMethod yX6_conducts ∈ wG := wG_mk 701 rfl rfl
set_option maxRecDepth 100000 in
theorem cod_X6_conducts : Cond.code yX6_conducts cX6_conducts 4 (some .boolean) ∈ wG := wG_mk 702 rfl rfl
set_option maxRecDepth 100000 in
theorem ml_L_48 : Cond.methodLink RL 48 yX6_time ∈ wG := wG_mk 703 rfl rfl
set_option maxRecDepth 100000 in
theorem im_X6_time : Cond.instanceMethod yX6_time ∈ wG := wG_mk 704 rfl rfl
set_option maxRecDepth 100000 in
theorem sel_X6_time : Cond.selects RX6 yX6_time yX6_time ∈ wG := wG_mk 705 rfl rfl
set_option maxRecDepth 100000 in
theorem cod_X6_time : Cond.code yX6_time cX6_time 3 (some .int) ∈ wG := wG_mk 706 rfl rfl
set_option maxRecDepth 100000 in
theorem ml_X6_123 : Cond.methodLink RX6 123 yX6_timeOf ∈ wG := wG_mk 707 rfl rfl
set_option maxRecDepth 100000 in
theorem im_X6_timeOf : Cond.instanceMethod yX6_timeOf ∈ wG := wG_mk 709 rfl rfl
set_option maxRecDepth 100000 in
theorem cod_X6_timeOf : Cond.code yX6_timeOf cX6_timeOf 9 (some .int) ∈ wG := wG_mk 710 rfl rfl
set_option maxRecDepth 100000 in
theorem ml_X6_117 : Cond.methodLink RX6 117 yX6_size ∈ wG := wG_mk 711 rfl rfl
set_option maxRecDepth 100000 in
theorem stt_X6_size : Cond.static yX6_size ∈ wG := wG_mk 712 rfl rfl
set_option maxRecDepth 100000 in
theorem cod_X6_size : Cond.code yX6_size cX6_size 1 (some .int) ∈ wG := wG_mk 713 rfl rfl
set_option maxRecDepth 100000 in
theorem ml_X6_120 : Cond.methodLink RX6 120 yX6_greater ∈ wG := wG_mk 714 rfl rfl
set_option maxRecDepth 100000 in
theorem stt_X6_greater : Cond.static yX6_greater ∈ wG := wG_mk 715 rfl rfl
set_option maxRecDepth 100000 in
theorem cod_X6_greater : Cond.code yX6_greater cX6_greater 2 (some .int) ∈ wG := wG_mk 716 rfl rfl
set_option maxRecDepth 100000 in
theorem ml_L_52 : Cond.methodLink RL 52 yX6_say ∈ wG := wG_mk 717 rfl rfl
set_option maxRecDepth 100000 in
theorem im_X6_say : Cond.instanceMethod yX6_say ∈ wG := wG_mk 718 rfl rfl
set_option maxRecDepth 100000 in
theorem sel_X6_say : Cond.selects RX6 yX6_say yX6_say ∈ wG := wG_mk 719 rfl rfl
set_option maxRecDepth 100000 in
theorem cod_X6_say : Cond.code yX6_say cX6_say 2 (some .int) ∈ wG := wG_mk 720 rfl rfl
set_option maxRecDepth 100000 in
theorem ml_L_56 : Cond.methodLink RL 56 yX6_wipe ∈ wG := wG_mk 721 rfl rfl
set_option maxRecDepth 100000 in
theorem im_X6_wipe : Cond.instanceMethod yX6_wipe ∈ wG := wG_mk 722 rfl rfl
set_option maxRecDepth 100000 in
theorem sel_X6_wipe : Cond.selects RX6 yX6_wipe yX6_wipe ∈ wG := wG_mk 723 rfl rfl
set_option maxRecDepth 100000 in
theorem cod_X6_wipe : Cond.code yX6_wipe cX6_wipe 2 (some .int) ∈ wG := wG_mk 724 rfl rfl
set_option maxRecDepth 100000 in
theorem ml_L_60 : Cond.methodLink RL 60 yX6_told ∈ wG := wG_mk 725 rfl rfl
set_option maxRecDepth 100000 in
theorem im_X6_told : Cond.instanceMethod yX6_told ∈ wG := wG_mk 726 rfl rfl
set_option maxRecDepth 100000 in
theorem sel_X6_told : Cond.selects RX6 yX6_told yX6_told ∈ wG := wG_mk 727 rfl rfl
set_option maxRecDepth 100000 in
theorem cod_X6_told : Cond.code yX6_told cX6_told 3 (some .int) ∈ wG := wG_mk 728 rfl rfl
set_option maxRecDepth 100000 in
theorem ml_X6_129 : Cond.methodLink RX6 129 yX6_timeOfOrder ∈ wG := wG_mk 729 rfl rfl
set_option maxRecDepth 100000 in
theorem im_X6_timeOfOrder : Cond.instanceMethod yX6_timeOfOrder ∈ wG := wG_mk 731 rfl rfl
set_option maxRecDepth 100000 in
theorem cod_X6_timeOfOrder : Cond.code yX6_timeOfOrder cX6_timeOfOrder 3 (some .int) ∈ wG := wG_mk 732 rfl rfl
set_option maxRecDepth 100000 in
theorem ml_L_64 : Cond.methodLink RL 64 yX6_best ∈ wG := wG_mk 733 rfl rfl
set_option maxRecDepth 100000 in
theorem im_X6_best : Cond.instanceMethod yX6_best ∈ wG := wG_mk 734 rfl rfl
set_option maxRecDepth 100000 in
theorem sel_X6_best : Cond.selects RX6 yX6_best yX6_best ∈ wG := wG_mk 735 rfl rfl
set_option maxRecDepth 100000 in
theorem cod_X6_best : Cond.code yX6_best cX6_best 2 (some .int) ∈ wG := wG_mk 736 rfl rfl
set_option maxRecDepth 100000 in
theorem ml_X6_138 : Cond.methodLink RX6 138 yX6_layBest ∈ wG := wG_mk 737 rfl rfl
set_option maxRecDepth 100000 in
theorem im_X6_layBest : Cond.instanceMethod yX6_layBest ∈ wG := wG_mk 739 rfl rfl
set_option maxRecDepth 100000 in
theorem cod_X6_layBest : Cond.code yX6_layBest cX6_layBest 7 none ∈ wG := wG_mk 740 rfl rfl
set_option maxRecDepth 100000 in
theorem ml_X6_135 : Cond.methodLink RX6 135 yX6_layRest ∈ wG := wG_mk 741 rfl rfl
set_option maxRecDepth 100000 in
theorem im_X6_layRest : Cond.instanceMethod yX6_layRest ∈ wG := wG_mk 743 rfl rfl
set_option maxRecDepth 100000 in
theorem cod_X6_layRest : Cond.code yX6_layRest cX6_layRest 4 none ∈ wG := wG_mk 744 rfl rfl
set_option maxRecDepth 100000 in
theorem ml_X6_132 : Cond.methodLink RX6 132 yX6_restFrom ∈ wG := wG_mk 745 rfl rfl
set_option maxRecDepth 100000 in
theorem im_X6_restFrom : Cond.instanceMethod yX6_restFrom ∈ wG := wG_mk 747 rfl rfl
set_option maxRecDepth 100000 in
theorem cod_X6_restFrom : Cond.code yX6_restFrom cX6_restFrom 6 (some .int) ∈ wG := wG_mk 748 rfl rfl
set_option maxRecDepth 100000 in
theorem ml_X6_141 : Cond.methodLink RX6 141 yX6_orderAt ∈ wG := wG_mk 749 rfl rfl
set_option maxRecDepth 100000 in
theorem im_X6_orderAt : Cond.instanceMethod yX6_orderAt ∈ wG := wG_mk 751 rfl rfl
set_option maxRecDepth 100000 in
theorem cod_X6_orderAt : Cond.code yX6_orderAt cX6_orderAt 2 (some .int) ∈ wG := wG_mk 752 rfl rfl
set_option maxRecDepth 100000 in
theorem ml_L_68 : Cond.methodLink RL 68 yX6_nearest ∈ wG := wG_mk 753 rfl rfl
set_option maxRecDepth 100000 in
theorem im_X6_nearest : Cond.instanceMethod yX6_nearest ∈ wG := wG_mk 754 rfl rfl
set_option maxRecDepth 100000 in
theorem sel_X6_nearest : Cond.selects RX6 yX6_nearest yX6_nearest ∈ wG := wG_mk 755 rfl rfl
set_option maxRecDepth 100000 in
theorem cod_X6_nearest : Cond.code yX6_nearest cX6_nearest 8 (some .int) ∈ wG := wG_mk 756 rfl rfl
set_option maxRecDepth 100000 in
theorem ml_L_72 : Cond.methodLink RL 72 yX6_loosen ∈ wG := wG_mk 757 rfl rfl
set_option maxRecDepth 100000 in
theorem im_X6_loosen : Cond.instanceMethod yX6_loosen ∈ wG := wG_mk 758 rfl rfl
set_option maxRecDepth 100000 in
theorem sel_X6_loosen : Cond.selects RX6 yX6_loosen yX6_loosen ∈ wG := wG_mk 759 rfl rfl
set_option maxRecDepth 100000 in
theorem cod_X6_loosen : Cond.code yX6_loosen cX6_loosen 3 (some .int) ∈ wG := wG_mk 760 rfl rfl
set_option maxRecDepth 100000 in
theorem ml_X6_144 : Cond.methodLink RX6 144 yX6_looseMany ∈ wG := wG_mk 761 rfl rfl
set_option maxRecDepth 100000 in
theorem im_X6_looseMany : Cond.instanceMethod yX6_looseMany ∈ wG := wG_mk 763 rfl rfl
set_option maxRecDepth 100000 in
theorem cod_X6_looseMany : Cond.code yX6_looseMany cX6_looseMany 3 (some .int) ∈ wG := wG_mk 764 rfl rfl
set_option maxRecDepth 100000 in
theorem ml_L_76 : Cond.methodLink RL 76 yX6_join_ ∈ wG := wG_mk 765 rfl rfl
set_option maxRecDepth 100000 in
theorem im_X6_join_ : Cond.instanceMethod yX6_join_ ∈ wG := wG_mk 766 rfl rfl
set_option maxRecDepth 100000 in
theorem sel_X6_join_ : Cond.selects RX6 yX6_join_ yX6_join_ ∈ wG := wG_mk 767 rfl rfl
set_option maxRecDepth 100000 in
theorem cod_X6_join_ : Cond.code yX6_join_ cX6_join_ 4 (some .int) ∈ wG := wG_mk 768 rfl rfl
set_option maxRecDepth 100000 in
theorem ml_X6_147 : Cond.methodLink RX6 147 yX6_shortMany ∈ wG := wG_mk 769 rfl rfl
set_option maxRecDepth 100000 in
theorem im_X6_shortMany : Cond.instanceMethod yX6_shortMany ∈ wG := wG_mk 771 rfl rfl
set_option maxRecDepth 100000 in
theorem cod_X6_shortMany : Cond.code yX6_shortMany cX6_shortMany 3 (some .int) ∈ wG := wG_mk 772 rfl rfl
set_option maxRecDepth 100000 in
theorem ml_L_80 : Cond.methodLink RL 80 yX6_sees ∈ wG := wG_mk 773 rfl rfl
set_option maxRecDepth 100000 in
theorem im_X6_sees : Cond.instanceMethod yX6_sees ∈ wG := wG_mk 774 rfl rfl
set_option maxRecDepth 100000 in
theorem sel_X6_sees : Cond.selects RX6 yX6_sees yX6_sees ∈ wG := wG_mk 775 rfl rfl
set_option maxRecDepth 100000 in
theorem cod_X6_sees : Cond.code yX6_sees cX6_sees 1 (some .int) ∈ wG := wG_mk 776 rfl rfl
set_option maxRecDepth 100000 in
theorem ml_L_84 : Cond.methodLink RL 84 yX6_fits ∈ wG := wG_mk 777 rfl rfl
set_option maxRecDepth 100000 in
theorem im_X6_fits : Cond.instanceMethod yX6_fits ∈ wG := wG_mk 778 rfl rfl
set_option maxRecDepth 100000 in
theorem sel_X6_fits : Cond.selects RX6 yX6_fits yX6_fits ∈ wG := wG_mk 779 rfl rfl
set_option maxRecDepth 100000 in
theorem cod_X6_fits : Cond.code yX6_fits cX6_fits 5 (some .int) ∈ wG := wG_mk 780 rfl rfl
set_option maxRecDepth 100000 in
theorem ml_X6_150 : Cond.methodLink RX6 150 yX6_isSingle ∈ wG := wG_mk 781 rfl rfl
set_option maxRecDepth 100000 in
theorem im_X6_isSingle : Cond.instanceMethod yX6_isSingle ∈ wG := wG_mk 783 rfl rfl
set_option maxRecDepth 100000 in
theorem cod_X6_isSingle : Cond.code yX6_isSingle cX6_isSingle 2 (some .boolean) ∈ wG := wG_mk 784 rfl rfl
set_option maxRecDepth 100000 in
theorem ml_X6_153 : Cond.methodLink RX6 153 yX6_seenBy ∈ wG := wG_mk 785 rfl rfl
set_option maxRecDepth 100000 in
theorem im_X6_seenBy : Cond.instanceMethod yX6_seenBy ∈ wG := wG_mk 787 rfl rfl
set_option maxRecDepth 100000 in
theorem cod_X6_seenBy : Cond.code yX6_seenBy cX6_seenBy 4 (some .int) ∈ wG := wG_mk 788 rfl rfl
set_option maxRecDepth 100000 in
theorem ml_L_88 : Cond.methodLink RL 88 yX6_hidden ∈ wG := wG_mk 789 rfl rfl
set_option maxRecDepth 100000 in
theorem im_X6_hidden : Cond.instanceMethod yX6_hidden ∈ wG := wG_mk 790 rfl rfl
set_option maxRecDepth 100000 in
theorem sel_X6_hidden : Cond.selects RX6 yX6_hidden yX6_hidden ∈ wG := wG_mk 791 rfl rfl
set_option maxRecDepth 100000 in
theorem cod_X6_hidden : Cond.code yX6_hidden cX6_hidden 5 (some .int) ∈ wG := wG_mk 792 rfl rfl
set_option maxRecDepth 100000 in
theorem ml_L_92 : Cond.methodLink RL 92 yX6_halves ∈ wG := wG_mk 793 rfl rfl
set_option maxRecDepth 100000 in
theorem im_X6_halves : Cond.instanceMethod yX6_halves ∈ wG := wG_mk 794 rfl rfl
set_option maxRecDepth 100000 in
theorem sel_X6_halves : Cond.selects RX6 yX6_halves yX6_halves ∈ wG := wG_mk 795 rfl rfl
set_option maxRecDepth 100000 in
theorem cod_X6_halves : Cond.code yX6_halves cX6_halves 7 (some .int) ∈ wG := wG_mk 796 rfl rfl
set_option maxRecDepth 100000 in
theorem ml_X6_156 : Cond.methodLink RX6 156 yX6_isAnyOne ∈ wG := wG_mk 797 rfl rfl
set_option maxRecDepth 100000 in
theorem im_X6_isAnyOne : Cond.instanceMethod yX6_isAnyOne ∈ wG := wG_mk 799 rfl rfl
set_option maxRecDepth 100000 in
theorem cod_X6_isAnyOne : Cond.code yX6_isAnyOne cX6_isAnyOne 6 (some .boolean) ∈ wG := wG_mk 800 rfl rfl
set_option maxRecDepth 100000 in
theorem ml_L_96 : Cond.methodLink RL 96 yX6_image ∈ wG := wG_mk 801 rfl rfl
set_option maxRecDepth 100000 in
theorem im_X6_image : Cond.instanceMethod yX6_image ∈ wG := wG_mk 802 rfl rfl
set_option maxRecDepth 100000 in
theorem sel_X6_image : Cond.selects RX6 yX6_image yX6_image ∈ wG := wG_mk 803 rfl rfl
set_option maxRecDepth 100000 in
theorem cod_X6_image : Cond.code yX6_image cX6_image 3 (some .int) ∈ wG := wG_mk 804 rfl rfl
set_option maxRecDepth 100000 in
theorem ml_L_100 : Cond.methodLink RL 100 yX6_restore ∈ wG := wG_mk 805 rfl rfl
set_option maxRecDepth 100000 in
theorem im_X6_restore : Cond.instanceMethod yX6_restore ∈ wG := wG_mk 806 rfl rfl
set_option maxRecDepth 100000 in
theorem sel_X6_restore : Cond.selects RX6 yX6_restore yX6_restore ∈ wG := wG_mk 807 rfl rfl
set_option maxRecDepth 100000 in
theorem cod_X6_restore : Cond.code yX6_restore cX6_restore 3 (some .int) ∈ wG := wG_mk 808 rfl rfl
set_option maxRecDepth 100000 in
theorem ml_L_104 : Cond.methodLink RL 104 yX6_count ∈ wG := wG_mk 809 rfl rfl
set_option maxRecDepth 100000 in
theorem im_X6_count : Cond.instanceMethod yX6_count ∈ wG := wG_mk 810 rfl rfl
set_option maxRecDepth 100000 in
theorem sel_X6_count : Cond.selects RX6 yX6_count yX6_count ∈ wG := wG_mk 811 rfl rfl
set_option maxRecDepth 100000 in
theorem cod_X6_count : Cond.code yX6_count cX6_count 2 (some .int) ∈ wG := wG_mk 812 rfl rfl
set_option maxRecDepth 100000 in
theorem ml_X6_159 : Cond.methodLink RX6 159 yX6_apartMany ∈ wG := wG_mk 813 rfl rfl
set_option maxRecDepth 100000 in
theorem im_X6_apartMany : Cond.instanceMethod yX6_apartMany ∈ wG := wG_mk 815 rfl rfl
set_option maxRecDepth 100000 in
theorem cod_X6_apartMany : Cond.code yX6_apartMany cX6_apartMany 3 (some .int) ∈ wG := wG_mk 816 rfl rfl
set_option maxRecDepth 100000 in
theorem ml_X6_162 : Cond.methodLink RX6 162 yX6_netsUsed ∈ wG := wG_mk 817 rfl rfl
set_option maxRecDepth 100000 in
theorem im_X6_netsUsed : Cond.instanceMethod yX6_netsUsed ∈ wG := wG_mk 819 rfl rfl
set_option maxRecDepth 100000 in
theorem cod_X6_netsUsed : Cond.code yX6_netsUsed cX6_netsUsed 3 (some .int) ∈ wG := wG_mk 820 rfl rfl
set_option maxRecDepth 100000 in
theorem lay_X0_0 : u_lay RX0 TX0 0 ∈ wG := wG_mk 109 rfl rfl
set_option maxRecDepth 100000 in
theorem lay_X0_1 : u_lay RX0 TX0 1 ∈ wG := wG_mk 111 rfl rfl
set_option maxRecDepth 100000 in
theorem lay_X0_2 : u_lay RX0 TX0 2 ∈ wG := wG_mk 113 rfl rfl
set_option maxRecDepth 100000 in
theorem lay_X0_3 : u_lay RX0 TX0 3 ∈ wG := wG_mk 115 rfl rfl
set_option maxRecDepth 100000 in
theorem lay_X0_4 : u_lay RX0 TX0 4 ∈ wG := wG_mk 117 rfl rfl
set_option maxRecDepth 100000 in
theorem lay_X0_5 : u_lay RX0 TX0 5 ∈ wG := wG_mk 119 rfl rfl
set_option maxRecDepth 100000 in
theorem lay_X0_6 : u_lay RX0 TX0 6 ∈ wG := wG_mk 121 rfl rfl
theorem inlX0 : ∀ w ∈ u_ws RX0 TX0 7, w ∈ wG := List.forall_mem_cons.mpr ⟨lay_X0_0, List.forall_mem_cons.mpr ⟨lay_X0_1, List.forall_mem_cons.mpr ⟨lay_X0_2, List.forall_mem_cons.mpr ⟨lay_X0_3, List.forall_mem_cons.mpr ⟨lay_X0_4, List.forall_mem_cons.mpr ⟨lay_X0_5, List.forall_mem_cons.mpr ⟨lay_X0_6, fun _ h => absurd h List.not_mem_nil⟩⟩⟩⟩⟩⟩⟩
set_option maxRecDepth 100000 in
theorem lay_X1_0 : u_lay RX1 TX1 0 ∈ wG := wG_mk 187 rfl rfl
set_option maxRecDepth 100000 in
theorem lay_X1_1 : u_lay RX1 TX1 1 ∈ wG := wG_mk 189 rfl rfl
set_option maxRecDepth 100000 in
theorem lay_X1_2 : u_lay RX1 TX1 2 ∈ wG := wG_mk 191 rfl rfl
set_option maxRecDepth 100000 in
theorem lay_X1_3 : u_lay RX1 TX1 3 ∈ wG := wG_mk 193 rfl rfl
set_option maxRecDepth 100000 in
theorem lay_X1_4 : u_lay RX1 TX1 4 ∈ wG := wG_mk 195 rfl rfl
set_option maxRecDepth 100000 in
theorem lay_X1_5 : u_lay RX1 TX1 5 ∈ wG := wG_mk 197 rfl rfl
theorem inlX1 : ∀ w ∈ u_ws RX1 TX1 6, w ∈ wG := List.forall_mem_cons.mpr ⟨lay_X1_0, List.forall_mem_cons.mpr ⟨lay_X1_1, List.forall_mem_cons.mpr ⟨lay_X1_2, List.forall_mem_cons.mpr ⟨lay_X1_3, List.forall_mem_cons.mpr ⟨lay_X1_4, List.forall_mem_cons.mpr ⟨lay_X1_5, fun _ h => absurd h List.not_mem_nil⟩⟩⟩⟩⟩⟩
set_option maxRecDepth 100000 in
theorem lay_X2_0 : u_lay RX2 TX2 0 ∈ wG := wG_mk 172 rfl rfl
set_option maxRecDepth 100000 in
theorem lay_X2_1 : u_lay RX2 TX2 1 ∈ wG := wG_mk 174 rfl rfl
set_option maxRecDepth 100000 in
theorem lay_X2_2 : u_lay RX2 TX2 2 ∈ wG := wG_mk 176 rfl rfl
theorem inlX2 : ∀ w ∈ u_ws RX2 TX2 3, w ∈ wG := List.forall_mem_cons.mpr ⟨lay_X2_0, List.forall_mem_cons.mpr ⟨lay_X2_1, List.forall_mem_cons.mpr ⟨lay_X2_2, fun _ h => absurd h List.not_mem_nil⟩⟩⟩
set_option maxRecDepth 100000 in
theorem lay_X3_0 : u_lay RX3 TX3 0 ∈ wG := wG_mk 209 rfl rfl
set_option maxRecDepth 100000 in
theorem lay_X3_1 : u_lay RX3 TX3 1 ∈ wG := wG_mk 211 rfl rfl
theorem inlX3 : ∀ w ∈ u_ws RX3 TX3 2, w ∈ wG := List.forall_mem_cons.mpr ⟨lay_X3_0, List.forall_mem_cons.mpr ⟨lay_X3_1, fun _ h => absurd h List.not_mem_nil⟩⟩
set_option maxRecDepth 100000 in
theorem lay_X4_0 : u_lay RX4 TX4 0 ∈ wG := wG_mk 144 rfl rfl
set_option maxRecDepth 100000 in
theorem lay_X4_1 : u_lay RX4 TX4 1 ∈ wG := wG_mk 146 rfl rfl
set_option maxRecDepth 100000 in
theorem lay_X4_2 : u_lay RX4 TX4 2 ∈ wG := wG_mk 148 rfl rfl
set_option maxRecDepth 100000 in
theorem lay_X4_3 : u_lay RX4 TX4 3 ∈ wG := wG_mk 150 rfl rfl
set_option maxRecDepth 100000 in
theorem lay_X4_4 : u_lay RX4 TX4 4 ∈ wG := wG_mk 152 rfl rfl
set_option maxRecDepth 100000 in
theorem lay_X4_5 : u_lay RX4 TX4 5 ∈ wG := wG_mk 154 rfl rfl
theorem inlX4 : ∀ w ∈ u_ws RX4 TX4 6, w ∈ wG := List.forall_mem_cons.mpr ⟨lay_X4_0, List.forall_mem_cons.mpr ⟨lay_X4_1, List.forall_mem_cons.mpr ⟨lay_X4_2, List.forall_mem_cons.mpr ⟨lay_X4_3, List.forall_mem_cons.mpr ⟨lay_X4_4, List.forall_mem_cons.mpr ⟨lay_X4_5, fun _ h => absurd h List.not_mem_nil⟩⟩⟩⟩⟩⟩
set_option maxRecDepth 100000 in
theorem lay_X5_0 : u_lay RX5 TX5 0 ∈ wG := wG_mk 221 rfl rfl
set_option maxRecDepth 100000 in
theorem lay_X5_1 : u_lay RX5 TX5 1 ∈ wG := wG_mk 223 rfl rfl
set_option maxRecDepth 100000 in
theorem lay_X5_2 : u_lay RX5 TX5 2 ∈ wG := wG_mk 225 rfl rfl
set_option maxRecDepth 100000 in
theorem lay_X5_3 : u_lay RX5 TX5 3 ∈ wG := wG_mk 227 rfl rfl
set_option maxRecDepth 100000 in
theorem lay_X5_4 : u_lay RX5 TX5 4 ∈ wG := wG_mk 229 rfl rfl
set_option maxRecDepth 100000 in
theorem lay_X5_5 : u_lay RX5 TX5 5 ∈ wG := wG_mk 231 rfl rfl
theorem inlX5 : ∀ w ∈ u_ws RX5 TX5 6, w ∈ wG := List.forall_mem_cons.mpr ⟨lay_X5_0, List.forall_mem_cons.mpr ⟨lay_X5_1, List.forall_mem_cons.mpr ⟨lay_X5_2, List.forall_mem_cons.mpr ⟨lay_X5_3, List.forall_mem_cons.mpr ⟨lay_X5_4, List.forall_mem_cons.mpr ⟨lay_X5_5, fun _ h => absurd h List.not_mem_nil⟩⟩⟩⟩⟩⟩
set_option maxRecDepth 100000 in
theorem lay_X6_0 : u_lay RX6 TX6 0 ∈ wG := wG_mk 577 rfl rfl
set_option maxRecDepth 100000 in
theorem lay_X6_1 : u_lay RX6 TX6 1 ∈ wG := wG_mk 579 rfl rfl
set_option maxRecDepth 100000 in
theorem lay_X6_2 : u_lay RX6 TX6 2 ∈ wG := wG_mk 581 rfl rfl
set_option maxRecDepth 100000 in
theorem lay_X6_3 : u_lay RX6 TX6 3 ∈ wG := wG_mk 583 rfl rfl
set_option maxRecDepth 100000 in
theorem lay_X6_4 : u_lay RX6 TX6 4 ∈ wG := wG_mk 585 rfl rfl
set_option maxRecDepth 100000 in
theorem lay_X6_5 : u_lay RX6 TX6 5 ∈ wG := wG_mk 587 rfl rfl
set_option maxRecDepth 100000 in
theorem lay_X6_6 : u_lay RX6 TX6 6 ∈ wG := wG_mk 589 rfl rfl
set_option maxRecDepth 100000 in
theorem lay_X6_7 : u_lay RX6 TX6 7 ∈ wG := wG_mk 591 rfl rfl
set_option maxRecDepth 100000 in
theorem lay_X6_8 : u_lay RX6 TX6 8 ∈ wG := wG_mk 593 rfl rfl
set_option maxRecDepth 100000 in
theorem lay_X6_9 : u_lay RX6 TX6 9 ∈ wG := wG_mk 595 rfl rfl
set_option maxRecDepth 100000 in
theorem lay_X6_10 : u_lay RX6 TX6 10 ∈ wG := wG_mk 597 rfl rfl
set_option maxRecDepth 100000 in
theorem lay_X6_11 : u_lay RX6 TX6 11 ∈ wG := wG_mk 599 rfl rfl
set_option maxRecDepth 100000 in
theorem lay_X6_12 : u_lay RX6 TX6 12 ∈ wG := wG_mk 601 rfl rfl
set_option maxRecDepth 100000 in
theorem lay_X6_13 : u_lay RX6 TX6 13 ∈ wG := wG_mk 603 rfl rfl
set_option maxRecDepth 100000 in
theorem lay_X6_14 : u_lay RX6 TX6 14 ∈ wG := wG_mk 605 rfl rfl
set_option maxRecDepth 100000 in
theorem lay_X6_15 : u_lay RX6 TX6 15 ∈ wG := wG_mk 607 rfl rfl
theorem inlX6 : ∀ w ∈ u_ws RX6 TX6 16, w ∈ wG := List.forall_mem_cons.mpr ⟨lay_X6_0, List.forall_mem_cons.mpr ⟨lay_X6_1, List.forall_mem_cons.mpr ⟨lay_X6_2, List.forall_mem_cons.mpr ⟨lay_X6_3, List.forall_mem_cons.mpr ⟨lay_X6_4, List.forall_mem_cons.mpr ⟨lay_X6_5, List.forall_mem_cons.mpr ⟨lay_X6_6, List.forall_mem_cons.mpr ⟨lay_X6_7, List.forall_mem_cons.mpr ⟨lay_X6_8, List.forall_mem_cons.mpr ⟨lay_X6_9, List.forall_mem_cons.mpr ⟨lay_X6_10, List.forall_mem_cons.mpr ⟨lay_X6_11, List.forall_mem_cons.mpr ⟨lay_X6_12, List.forall_mem_cons.mpr ⟨lay_X6_13, List.forall_mem_cons.mpr ⟨lay_X6_14, List.forall_mem_cons.mpr ⟨lay_X6_15, fun _ h => absurd h List.not_mem_nil⟩⟩⟩⟩⟩⟩⟩⟩⟩⟩⟩⟩⟩⟩⟩⟩
def nestFs : List (String × Nat × String × String × String) := [(RX4, 50, "NeedlePairs$Board", "nets", "[I"), (RX5, 79, "NeedlePairs$Board", "nets", "[I"), (RX1, 45, "NeedlePairs$Board", "xs", "[I"), (RX5, 69, "NeedlePairs$Board", "xs", "[I"), (RX1, 50, "NeedlePairs$Board", "ys", "[I"), (RX5, 73, "NeedlePairs$Board", "ys", "[I"), (RX5, 53, "NeedlePairs$Board", "points", "I"), (RX4, 41, "NeedlePairs$Board", "points", "I"), (RX5, 76, "NeedlePairs$Board", "nearness", "I"), (RX4, 78, "NeedlePairs$Board", "nearness", "I"), (RX5, 82, "NeedlePairs$Board", "looseSet", "I"), (RX5, 108, "NeedlePairs$Board", "shortSet", "I"), (RX1, 39, "NeedlePairs$Tries", "left", "[I"), (RX5, 99, "NeedlePairs$Tries", "left", "[I"), (RX1, 42, "NeedlePairs$Tries", "right", "[I"), (RX5, 102, "NeedlePairs$Tries", "right", "[I"), (RX1, 36, "NeedlePairs$Tries", "total", "I"), (RX5, 129, "NeedlePairs$Tries", "total", "I"), (RX5, 190, "NeedlePairs$Tries", "ofTrees", "I"), (RX5, 142, "NeedlePairs$Needles", "bestOrder", "LNeedlePairs$Order;"), (RX5, 154, "NeedlePairs$Needles", "nearestOrder", "LNeedlePairs$Order;"), (RX5, 122, "NeedlePairs$Pad", "length", "I"), (RX4, 69, "NeedlePairs", "LESSER_NET", "[I"), (RX4, 72, "NeedlePairs", "GREATER_NET", "[I")]
def nestMs : List (String × Nat × MethodName) := [(RX5, 11, yX0_init), (RX5, 18, yX4_init), (RX5, 25, yX1_init), (RX1, 24, yX2_init), (RX5, 32, yX3_init), (RX5, 56, yX0_addPoint), (RX5, 196, yX4_layOut), (RX4, 53, yX0_distance), (RX4, 61, yX5_isIn), (RX4, 81, yX0_isLeftOf), (RX5, 199, yX1_measure), (RX5, 63, yX0_removeLastPoint), (RX0, 34, yX5_withMember), (RX5, 66, yX0_hasPoint), (RX5, 92, yX0_distance), (RX5, 96, yX4_hasTry), (RX5, 105, yX4_isOfNeighbours), (RX5, 111, yX4_conducts), (RX4, 84, yX5_netsOneWith), (RX5, 203, yX4_seenSet), (RX5, 119, yX1_leap), (RX5, 125, yX3_write), (RX5, 132, yX3_tellsOrderOf), (RX3, 23, yX5_isIn), (RX5, 135, yX3_tryAt), (RX5, 139, yX1_planBest), (RX1, 100, yX5_isIn), (RX1, 77, yX2_clear), (RX1, 93, yX2_append), (RX5, 146, yX2_tell), (RX5, 151, yX1_planNearest), (RX5, 186, yX0_copyFrom), (RX5, 193, yX0_countNetsWithPoints)]
theorem nf_X4_50 : (RX4, 50, "NeedlePairs$Board", "nets", "[I") ∈ nestFs := List.mem_of_getElem? (i := 0) rfl
theorem nf_X5_79 : (RX5, 79, "NeedlePairs$Board", "nets", "[I") ∈ nestFs := List.mem_of_getElem? (i := 1) rfl
theorem nf_X1_45 : (RX1, 45, "NeedlePairs$Board", "xs", "[I") ∈ nestFs := List.mem_of_getElem? (i := 2) rfl
theorem nf_X5_69 : (RX5, 69, "NeedlePairs$Board", "xs", "[I") ∈ nestFs := List.mem_of_getElem? (i := 3) rfl
theorem nf_X1_50 : (RX1, 50, "NeedlePairs$Board", "ys", "[I") ∈ nestFs := List.mem_of_getElem? (i := 4) rfl
theorem nf_X5_73 : (RX5, 73, "NeedlePairs$Board", "ys", "[I") ∈ nestFs := List.mem_of_getElem? (i := 5) rfl
theorem nf_X5_53 : (RX5, 53, "NeedlePairs$Board", "points", "I") ∈ nestFs := List.mem_of_getElem? (i := 6) rfl
theorem nf_X4_41 : (RX4, 41, "NeedlePairs$Board", "points", "I") ∈ nestFs := List.mem_of_getElem? (i := 7) rfl
theorem nf_X5_76 : (RX5, 76, "NeedlePairs$Board", "nearness", "I") ∈ nestFs := List.mem_of_getElem? (i := 8) rfl
theorem nf_X4_78 : (RX4, 78, "NeedlePairs$Board", "nearness", "I") ∈ nestFs := List.mem_of_getElem? (i := 9) rfl
theorem nf_X5_82 : (RX5, 82, "NeedlePairs$Board", "looseSet", "I") ∈ nestFs := List.mem_of_getElem? (i := 10) rfl
theorem nf_X5_108 : (RX5, 108, "NeedlePairs$Board", "shortSet", "I") ∈ nestFs := List.mem_of_getElem? (i := 11) rfl
theorem nf_X1_39 : (RX1, 39, "NeedlePairs$Tries", "left", "[I") ∈ nestFs := List.mem_of_getElem? (i := 12) rfl
theorem nf_X5_99 : (RX5, 99, "NeedlePairs$Tries", "left", "[I") ∈ nestFs := List.mem_of_getElem? (i := 13) rfl
theorem nf_X1_42 : (RX1, 42, "NeedlePairs$Tries", "right", "[I") ∈ nestFs := List.mem_of_getElem? (i := 14) rfl
theorem nf_X5_102 : (RX5, 102, "NeedlePairs$Tries", "right", "[I") ∈ nestFs := List.mem_of_getElem? (i := 15) rfl
theorem nf_X1_36 : (RX1, 36, "NeedlePairs$Tries", "total", "I") ∈ nestFs := List.mem_of_getElem? (i := 16) rfl
theorem nf_X5_129 : (RX5, 129, "NeedlePairs$Tries", "total", "I") ∈ nestFs := List.mem_of_getElem? (i := 17) rfl
theorem nf_X5_190 : (RX5, 190, "NeedlePairs$Tries", "ofTrees", "I") ∈ nestFs := List.mem_of_getElem? (i := 18) rfl
theorem nf_X5_142 : (RX5, 142, "NeedlePairs$Needles", "bestOrder", "LNeedlePairs$Order;") ∈ nestFs := List.mem_of_getElem? (i := 19) rfl
theorem nf_X5_154 : (RX5, 154, "NeedlePairs$Needles", "nearestOrder", "LNeedlePairs$Order;") ∈ nestFs := List.mem_of_getElem? (i := 20) rfl
theorem nf_X5_122 : (RX5, 122, "NeedlePairs$Pad", "length", "I") ∈ nestFs := List.mem_of_getElem? (i := 21) rfl
theorem nf_X4_69 : (RX4, 69, "NeedlePairs", "LESSER_NET", "[I") ∈ nestFs := List.mem_of_getElem? (i := 22) rfl
theorem nf_X4_72 : (RX4, 72, "NeedlePairs", "GREATER_NET", "[I") ∈ nestFs := List.mem_of_getElem? (i := 23) rfl
theorem nm_X5_11 : (RX5, 11, yX0_init) ∈ nestMs := List.mem_of_getElem? (i := 0) rfl
theorem nm_X5_18 : (RX5, 18, yX4_init) ∈ nestMs := List.mem_of_getElem? (i := 1) rfl
theorem nm_X5_25 : (RX5, 25, yX1_init) ∈ nestMs := List.mem_of_getElem? (i := 2) rfl
theorem nm_X1_24 : (RX1, 24, yX2_init) ∈ nestMs := List.mem_of_getElem? (i := 3) rfl
theorem nm_X5_32 : (RX5, 32, yX3_init) ∈ nestMs := List.mem_of_getElem? (i := 4) rfl
theorem nm_X5_56 : (RX5, 56, yX0_addPoint) ∈ nestMs := List.mem_of_getElem? (i := 5) rfl
theorem nm_X5_196 : (RX5, 196, yX4_layOut) ∈ nestMs := List.mem_of_getElem? (i := 6) rfl
theorem nm_X4_53 : (RX4, 53, yX0_distance) ∈ nestMs := List.mem_of_getElem? (i := 7) rfl
theorem nm_X4_61 : (RX4, 61, yX5_isIn) ∈ nestMs := List.mem_of_getElem? (i := 8) rfl
theorem nm_X4_81 : (RX4, 81, yX0_isLeftOf) ∈ nestMs := List.mem_of_getElem? (i := 9) rfl
theorem nm_X5_199 : (RX5, 199, yX1_measure) ∈ nestMs := List.mem_of_getElem? (i := 10) rfl
theorem nm_X5_63 : (RX5, 63, yX0_removeLastPoint) ∈ nestMs := List.mem_of_getElem? (i := 11) rfl
theorem nm_X0_34 : (RX0, 34, yX5_withMember) ∈ nestMs := List.mem_of_getElem? (i := 12) rfl
theorem nm_X5_66 : (RX5, 66, yX0_hasPoint) ∈ nestMs := List.mem_of_getElem? (i := 13) rfl
theorem nm_X5_92 : (RX5, 92, yX0_distance) ∈ nestMs := List.mem_of_getElem? (i := 14) rfl
theorem nm_X5_96 : (RX5, 96, yX4_hasTry) ∈ nestMs := List.mem_of_getElem? (i := 15) rfl
theorem nm_X5_105 : (RX5, 105, yX4_isOfNeighbours) ∈ nestMs := List.mem_of_getElem? (i := 16) rfl
theorem nm_X5_111 : (RX5, 111, yX4_conducts) ∈ nestMs := List.mem_of_getElem? (i := 17) rfl
theorem nm_X4_84 : (RX4, 84, yX5_netsOneWith) ∈ nestMs := List.mem_of_getElem? (i := 18) rfl
theorem nm_X5_203 : (RX5, 203, yX4_seenSet) ∈ nestMs := List.mem_of_getElem? (i := 19) rfl
theorem nm_X5_119 : (RX5, 119, yX1_leap) ∈ nestMs := List.mem_of_getElem? (i := 20) rfl
theorem nm_X5_125 : (RX5, 125, yX3_write) ∈ nestMs := List.mem_of_getElem? (i := 21) rfl
theorem nm_X5_132 : (RX5, 132, yX3_tellsOrderOf) ∈ nestMs := List.mem_of_getElem? (i := 22) rfl
theorem nm_X3_23 : (RX3, 23, yX5_isIn) ∈ nestMs := List.mem_of_getElem? (i := 23) rfl
theorem nm_X5_135 : (RX5, 135, yX3_tryAt) ∈ nestMs := List.mem_of_getElem? (i := 24) rfl
theorem nm_X5_139 : (RX5, 139, yX1_planBest) ∈ nestMs := List.mem_of_getElem? (i := 25) rfl
theorem nm_X1_100 : (RX1, 100, yX5_isIn) ∈ nestMs := List.mem_of_getElem? (i := 26) rfl
theorem nm_X1_77 : (RX1, 77, yX2_clear) ∈ nestMs := List.mem_of_getElem? (i := 27) rfl
theorem nm_X1_93 : (RX1, 93, yX2_append) ∈ nestMs := List.mem_of_getElem? (i := 28) rfl
theorem nm_X5_146 : (RX5, 146, yX2_tell) ∈ nestMs := List.mem_of_getElem? (i := 29) rfl
theorem nm_X5_151 : (RX5, 151, yX1_planNearest) ∈ nestMs := List.mem_of_getElem? (i := 30) rfl
theorem nm_X5_186 : (RX5, 186, yX0_copyFrom) ∈ nestMs := List.mem_of_getElem? (i := 31) rfl
theorem nm_X5_193 : (RX5, 193, yX0_countNetsWithPoints) ∈ nestMs := List.mem_of_getElem? (i := 32) rfl
theorem ki_X5_init : Cond.instanceMethod yX5_init ∈ wG ∧ Cond.initialized (yX5_init).cls ∈ wG ∧ Cond.code yX5_init cX5_init 2 none ∈ wG := ⟨im_X5_init, ini_X5, cod_X5_init⟩
theorem ki_X0_init : Cond.instanceMethod yX0_init ∈ wG ∧ Cond.initialized (yX0_init).cls ∈ wG ∧ Cond.code yX0_init cX0_init 1 none ∈ wG := ⟨im_X0_init, ini_X0, cod_X0_init⟩
theorem ki_X4_init : Cond.instanceMethod yX4_init ∈ wG ∧ Cond.initialized (yX4_init).cls ∈ wG ∧ Cond.code yX4_init cX4_init 1 none ∈ wG := ⟨im_X4_init, ini_X4, cod_X4_init⟩
theorem ki_X1_init : Cond.instanceMethod yX1_init ∈ wG ∧ Cond.initialized (yX1_init).cls ∈ wG ∧ Cond.code yX1_init cX1_init 1 none ∈ wG := ⟨im_X1_init, ini_X1, cod_X1_init⟩
theorem ki_X2_init : Cond.instanceMethod yX2_init ∈ wG ∧ Cond.initialized (yX2_init).cls ∈ wG ∧ Cond.code yX2_init cX2_init 1 none ∈ wG := ⟨im_X2_init, ini_X2, cod_X2_init⟩
theorem ki_X3_init : Cond.instanceMethod yX3_init ∈ wG ∧ Cond.initialized (yX3_init).cls ∈ wG ∧ Cond.code yX3_init cX3_init 1 none ∈ wG := ⟨im_X3_init, ini_X3, cod_X3_init⟩
theorem kv_X5_point : Cond.instanceMethod yX5_point ∈ wG ∧ Cond.selects (yX5_point).cls yX5_point yX5_point ∈ wG ∧ Cond.initialized (yX5_point).cls ∈ wG ∧ Cond.code yX5_point cX5_point 5 (some .int) ∈ wG := ⟨im_X5_point, sel_X5_point, ini_X5, cod_X5_point⟩
theorem ks_X5_isNet : Cond.static yX5_isNet ∈ wG ∧ Cond.initialized (yX5_isNet).cls ∈ wG ∧ Cond.code yX5_isNet cX5_isNet 1 (some .boolean) ∈ wG := ⟨stt_X5_isNet, ini_X5, cod_X5_isNet⟩
theorem ks_X5_isOnBoard : Cond.static yX5_isOnBoard ∈ wG ∧ Cond.initialized (yX5_isOnBoard).cls ∈ wG ∧ Cond.code yX5_isOnBoard cX5_isOnBoard 2 (some .boolean) ∈ wG := ⟨stt_X5_isOnBoard, ini_X5, cod_X5_isOnBoard⟩
theorem kv_X0_addPoint : Cond.instanceMethod yX0_addPoint ∈ wG ∧ Cond.selects (yX0_addPoint).cls yX0_addPoint yX0_addPoint ∈ wG ∧ Cond.initialized (yX0_addPoint).cls ∈ wG ∧ Cond.code yX0_addPoint cX0_addPoint 5 (some .int) ∈ wG := ⟨im_X0_addPoint, sel_X0_addPoint, ini_X0, cod_X0_addPoint⟩
theorem kv_X5_layTriesAnew : Cond.instanceMethod yX5_layTriesAnew ∈ wG ∧ Cond.selects (yX5_layTriesAnew).cls yX5_layTriesAnew yX5_layTriesAnew ∈ wG ∧ Cond.initialized (yX5_layTriesAnew).cls ∈ wG ∧ Cond.code yX5_layTriesAnew cX5_layTriesAnew 1 none ∈ wG := ⟨im_X5_layTriesAnew, sel_X5_layTriesAnew, ini_X5, cod_X5_layTriesAnew⟩
theorem kv_X4_layOut : Cond.instanceMethod yX4_layOut ∈ wG ∧ Cond.selects (yX4_layOut).cls yX4_layOut yX4_layOut ∈ wG ∧ Cond.initialized (yX4_layOut).cls ∈ wG ∧ Cond.code yX4_layOut cX4_layOut 2 none ∈ wG := ⟨im_X4_layOut, sel_X4_layOut, ini_X4, cod_X4_layOut⟩
theorem kv_X4_growTrees : Cond.instanceMethod yX4_growTrees ∈ wG ∧ Cond.selects (yX4_growTrees).cls yX4_growTrees yX4_growTrees ∈ wG ∧ Cond.initialized (yX4_growTrees).cls ∈ wG ∧ Cond.code yX4_growTrees cX4_growTrees 4 none ∈ wG := ⟨im_X4_growTrees, sel_X4_growTrees, ini_X4, cod_X4_growTrees⟩
theorem kv_X4_joinNextPair : Cond.instanceMethod yX4_joinNextPair ∈ wG ∧ Cond.selects (yX4_joinNextPair).cls yX4_joinNextPair yX4_joinNextPair ∈ wG ∧ Cond.initialized (yX4_joinNextPair).cls ∈ wG ∧ Cond.code yX4_joinNextPair cX4_joinNextPair 8 (some .boolean) ∈ wG := ⟨im_X4_joinNextPair, sel_X4_joinNextPair, ini_X4, cod_X4_joinNextPair⟩
theorem kv_X0_distance : Cond.instanceMethod yX0_distance ∈ wG ∧ Cond.selects (yX0_distance).cls yX0_distance yX0_distance ∈ wG ∧ Cond.initialized (yX0_distance).cls ∈ wG ∧ Cond.code yX0_distance cX0_distance 5 (some .int) ∈ wG := ⟨im_X0_distance, sel_X0_distance, ini_X0, cod_X0_distance⟩
theorem kv_X4_mergeGroups : Cond.instanceMethod yX4_mergeGroups ∈ wG ∧ Cond.selects (yX4_mergeGroups).cls yX4_mergeGroups yX4_mergeGroups ∈ wG ∧ Cond.initialized (yX4_mergeGroups).cls ∈ wG ∧ Cond.code yX4_mergeGroups cX4_mergeGroups 4 none ∈ wG := ⟨im_X4_mergeGroups, sel_X4_mergeGroups, ini_X4, cod_X4_mergeGroups⟩
theorem kv_X4_addTrees : Cond.instanceMethod yX4_addTrees ∈ wG ∧ Cond.selects (yX4_addTrees).cls yX4_addTrees yX4_addTrees ∈ wG ∧ Cond.initialized (yX4_addTrees).cls ∈ wG ∧ Cond.code yX4_addTrees cX4_addTrees 5 none ∈ wG := ⟨im_X4_addTrees, sel_X4_addTrees, ini_X4, cod_X4_addTrees⟩
theorem ks_X5_isIn : Cond.static yX5_isIn ∈ wG ∧ Cond.initialized (yX5_isIn).cls ∈ wG ∧ Cond.code yX5_isIn cX5_isIn 2 (some .boolean) ∈ wG := ⟨stt_X5_isIn, ini_X5, cod_X5_isIn⟩
theorem kv_X4_addTry : Cond.instanceMethod yX4_addTry ∈ wG ∧ Cond.selects (yX4_addTry).cls yX4_addTry yX4_addTry ∈ wG ∧ Cond.initialized (yX4_addTry).cls ∈ wG ∧ Cond.code yX4_addTry cX4_addTry 5 none ∈ wG := ⟨im_X4_addTry, sel_X4_addTry, ini_X4, cod_X4_addTry⟩
theorem kv_X0_isLeftOf : Cond.instanceMethod yX0_isLeftOf ∈ wG ∧ Cond.selects (yX0_isLeftOf).cls yX0_isLeftOf yX0_isLeftOf ∈ wG ∧ Cond.initialized (yX0_isLeftOf).cls ∈ wG ∧ Cond.code yX0_isLeftOf cX0_isLeftOf 3 (some .boolean) ∈ wG := ⟨im_X0_isLeftOf, sel_X0_isLeftOf, ini_X0, cod_X0_isLeftOf⟩
theorem kv_X4_addNeighbours : Cond.instanceMethod yX4_addNeighbours ∈ wG ∧ Cond.selects (yX4_addNeighbours).cls yX4_addNeighbours yX4_addNeighbours ∈ wG ∧ Cond.initialized (yX4_addNeighbours).cls ∈ wG ∧ Cond.code yX4_addNeighbours cX4_addNeighbours 3 none ∈ wG := ⟨im_X4_addNeighbours, sel_X4_addNeighbours, ini_X4, cod_X4_addNeighbours⟩
theorem kv_X4_addNearestPair : Cond.instanceMethod yX4_addNearestPair ∈ wG ∧ Cond.selects (yX4_addNearestPair).cls yX4_addNearestPair yX4_addNearestPair ∈ wG ∧ Cond.initialized (yX4_addNearestPair).cls ∈ wG ∧ Cond.code yX4_addNearestPair cX4_addNearestPair 10 none ∈ wG := ⟨im_X4_addNearestPair, sel_X4_addNearestPair, ini_X4, cod_X4_addNearestPair⟩
theorem kv_X1_measure : Cond.instanceMethod yX1_measure ∈ wG ∧ Cond.selects (yX1_measure).cls yX1_measure yX1_measure ∈ wG ∧ Cond.initialized (yX1_measure).cls ∈ wG ∧ Cond.code yX1_measure cX1_measure 7 none ∈ wG := ⟨im_X1_measure, sel_X1_measure, ini_X1, cod_X1_measure⟩
theorem ks_X1_longer : Cond.static yX1_longer ∈ wG ∧ Cond.initialized (yX1_longer).cls ∈ wG ∧ Cond.code yX1_longer cX1_longer 2 (some .int) ∈ wG := ⟨stt_X1_longer, ini_X1, cod_X1_longer⟩
theorem ks_Math_abs : Cond.static Lib.Math.abs.name ∈ wG ∧ Cond.initialized "java/lang/Math" ∈ wG ∧ Cond.code Lib.Math.abs.name Lib.Math.abs.code 1 (some .int) ∈ wG := ⟨stt_Math_abs, ini_J9, cod_Math_abs⟩
theorem ks_Math_max : Cond.static Lib.Math.max.name ∈ wG ∧ Cond.initialized "java/lang/Math" ∈ wG ∧ Cond.code Lib.Math.max.name Lib.Math.max.code 2 (some .int) ∈ wG := ⟨stt_Math_max, ini_J9, cod_Math_max⟩
theorem ks_X1_way : Cond.static yX1_way ∈ wG ∧ Cond.initialized (yX1_way).cls ∈ wG ∧ Cond.code yX1_way cX1_way 3 (some .int) ∈ wG := ⟨stt_X1_way, ini_X1, cod_X1_way⟩
theorem kv_X5_pop : Cond.instanceMethod yX5_pop ∈ wG ∧ Cond.selects (yX5_pop).cls yX5_pop yX5_pop ∈ wG ∧ Cond.initialized (yX5_pop).cls ∈ wG ∧ Cond.code yX5_pop cX5_pop 1 (some .int) ∈ wG := ⟨im_X5_pop, sel_X5_pop, ini_X5, cod_X5_pop⟩
theorem kv_X0_removeLastPoint : Cond.instanceMethod yX0_removeLastPoint ∈ wG ∧ Cond.selects (yX0_removeLastPoint).cls yX0_removeLastPoint yX0_removeLastPoint ∈ wG ∧ Cond.initialized (yX0_removeLastPoint).cls ∈ wG ∧ Cond.code yX0_removeLastPoint cX0_removeLastPoint 1 none ∈ wG := ⟨im_X0_removeLastPoint, sel_X0_removeLastPoint, ini_X0, cod_X0_removeLastPoint⟩
theorem ks_X5_withMember : Cond.static yX5_withMember ∈ wG ∧ Cond.initialized (yX5_withMember).cls ∈ wG ∧ Cond.code yX5_withMember cX5_withMember 3 (some .int) ∈ wG := ⟨stt_X5_withMember, ini_X5, cod_X5_withMember⟩
theorem kv_X5_move : Cond.instanceMethod yX5_move ∈ wG ∧ Cond.selects (yX5_move).cls yX5_move yX5_move ∈ wG ∧ Cond.initialized (yX5_move).cls ∈ wG ∧ Cond.code yX5_move cX5_move 5 (some .int) ∈ wG := ⟨im_X5_move, sel_X5_move, ini_X5, cod_X5_move⟩
theorem kv_X0_hasPoint : Cond.instanceMethod yX0_hasPoint ∈ wG ∧ Cond.selects (yX0_hasPoint).cls yX0_hasPoint yX0_hasPoint ∈ wG ∧ Cond.initialized (yX0_hasPoint).cls ∈ wG ∧ Cond.code yX0_hasPoint cX0_hasPoint 2 (some .boolean) ∈ wG := ⟨im_X0_hasPoint, sel_X0_hasPoint, ini_X0, cod_X0_hasPoint⟩
theorem kv_X5_near : Cond.instanceMethod yX5_near ∈ wG ∧ Cond.selects (yX5_near).cls yX5_near yX5_near ∈ wG ∧ Cond.initialized (yX5_near).cls ∈ wG ∧ Cond.code yX5_near cX5_near 3 (some .int) ∈ wG := ⟨im_X5_near, sel_X5_near, ini_X5, cod_X5_near⟩
theorem kv_X5_of : Cond.instanceMethod yX5_of ∈ wG ∧ Cond.selects (yX5_of).cls yX5_of yX5_of ∈ wG ∧ Cond.initialized (yX5_of).cls ∈ wG ∧ Cond.code yX5_of cX5_of 3 (some .int) ∈ wG := ⟨im_X5_of, sel_X5_of, ini_X5, cod_X5_of⟩
theorem ks_X5_asNumber : Cond.static yX5_asNumber ∈ wG ∧ Cond.initialized (yX5_asNumber).cls ∈ wG ∧ Cond.code yX5_asNumber cX5_asNumber 1 (some .int) ∈ wG := ⟨stt_X5_asNumber, ini_X5, cod_X5_asNumber⟩
theorem kv_X5_far : Cond.instanceMethod yX5_far ∈ wG ∧ Cond.selects (yX5_far).cls yX5_far yX5_far ∈ wG ∧ Cond.initialized (yX5_far).cls ∈ wG ∧ Cond.code yX5_far cX5_far 3 (some .int) ∈ wG := ⟨im_X5_far, sel_X5_far, ini_X5, cod_X5_far⟩
theorem kv_X5_attempt : Cond.instanceMethod yX5_attempt ∈ wG ∧ Cond.selects (yX5_attempt).cls yX5_attempt yX5_attempt ∈ wG ∧ Cond.initialized (yX5_attempt).cls ∈ wG ∧ Cond.code yX5_attempt cX5_attempt 3 (some .int) ∈ wG := ⟨im_X5_attempt, sel_X5_attempt, ini_X5, cod_X5_attempt⟩
theorem kv_X4_hasTry : Cond.instanceMethod yX4_hasTry ∈ wG ∧ Cond.selects (yX4_hasTry).cls yX4_hasTry yX4_hasTry ∈ wG ∧ Cond.initialized (yX4_hasTry).cls ∈ wG ∧ Cond.code yX4_hasTry cX4_hasTry 2 (some .boolean) ∈ wG := ⟨im_X4_hasTry, sel_X4_hasTry, ini_X4, cod_X4_hasTry⟩
theorem kv_X4_isOfNeighbours : Cond.instanceMethod yX4_isOfNeighbours ∈ wG ∧ Cond.selects (yX4_isOfNeighbours).cls yX4_isOfNeighbours yX4_isOfNeighbours ∈ wG ∧ Cond.initialized (yX4_isOfNeighbours).cls ∈ wG ∧ Cond.code yX4_isOfNeighbours cX4_isOfNeighbours 2 (some .boolean) ∈ wG := ⟨im_X4_isOfNeighbours, sel_X4_isOfNeighbours, ini_X4, cod_X4_isOfNeighbours⟩
theorem kv_X4_conducts : Cond.instanceMethod yX4_conducts ∈ wG ∧ Cond.selects (yX4_conducts).cls yX4_conducts yX4_conducts ∈ wG ∧ Cond.initialized (yX4_conducts).cls ∈ wG ∧ Cond.code yX4_conducts cX4_conducts 7 (some .boolean) ∈ wG := ⟨im_X4_conducts, sel_X4_conducts, ini_X4, cod_X4_conducts⟩
theorem ks_X5_netsOneWith : Cond.static yX5_netsOneWith ∈ wG ∧ Cond.initialized (yX5_netsOneWith).cls ∈ wG ∧ Cond.code yX5_netsOneWith cX5_netsOneWith 6 (some .int) ∈ wG := ⟨stt_X5_netsOneWith, ini_X5, cod_X5_netsOneWith⟩
theorem kv_X5_seenNow : Cond.instanceMethod yX5_seenNow ∈ wG ∧ Cond.selects (yX5_seenNow).cls yX5_seenNow yX5_seenNow ∈ wG ∧ Cond.initialized (yX5_seenNow).cls ∈ wG ∧ Cond.code yX5_seenNow cX5_seenNow 1 (some .int) ∈ wG := ⟨im_X5_seenNow, sel_X5_seenNow, ini_X5, cod_X5_seenNow⟩
theorem kv_X4_seenSet : Cond.instanceMethod yX4_seenSet ∈ wG ∧ Cond.selects (yX4_seenSet).cls yX4_seenSet yX4_seenSet ∈ wG ∧ Cond.initialized (yX4_seenSet).cls ∈ wG ∧ Cond.code yX4_seenSet cX4_seenSet 6 (some .int) ∈ wG := ⟨im_X4_seenSet, sel_X4_seenSet, ini_X4, cod_X4_seenSet⟩
theorem kv_X5_time : Cond.instanceMethod yX5_time ∈ wG ∧ Cond.selects (yX5_time).cls yX5_time yX5_time ∈ wG ∧ Cond.initialized (yX5_time).cls ∈ wG ∧ Cond.code yX5_time cX5_time 3 (some .int) ∈ wG := ⟨im_X5_time, sel_X5_time, ini_X5, cod_X5_time⟩
theorem kv_X1_leap : Cond.instanceMethod yX1_leap ∈ wG ∧ Cond.selects (yX1_leap).cls yX1_leap yX1_leap ∈ wG ∧ Cond.initialized (yX1_leap).cls ∈ wG ∧ Cond.code yX1_leap cX1_leap 3 (some .int) ∈ wG := ⟨im_X1_leap, sel_X1_leap, ini_X1, cod_X1_leap⟩
theorem kv_X5_say : Cond.instanceMethod yX5_say ∈ wG ∧ Cond.selects (yX5_say).cls yX5_say yX5_say ∈ wG ∧ Cond.initialized (yX5_say).cls ∈ wG ∧ Cond.code yX5_say cX5_say 2 (some .int) ∈ wG := ⟨im_X5_say, sel_X5_say, ini_X5, cod_X5_say⟩
theorem kv_X3_write : Cond.instanceMethod yX3_write ∈ wG ∧ Cond.selects (yX3_write).cls yX3_write yX3_write ∈ wG ∧ Cond.initialized (yX3_write).cls ∈ wG ∧ Cond.code yX3_write cX3_write 2 none ∈ wG := ⟨im_X3_write, sel_X3_write, ini_X3, cod_X3_write⟩
theorem kv_X5_wipe : Cond.instanceMethod yX5_wipe ∈ wG ∧ Cond.selects (yX5_wipe).cls yX5_wipe yX5_wipe ∈ wG ∧ Cond.initialized (yX5_wipe).cls ∈ wG ∧ Cond.code yX5_wipe cX5_wipe 2 (some .int) ∈ wG := ⟨im_X5_wipe, sel_X5_wipe, ini_X5, cod_X5_wipe⟩
theorem kv_X5_told : Cond.instanceMethod yX5_told ∈ wG ∧ Cond.selects (yX5_told).cls yX5_told yX5_told ∈ wG ∧ Cond.initialized (yX5_told).cls ∈ wG ∧ Cond.code yX5_told cX5_told 5 (some .int) ∈ wG := ⟨im_X5_told, sel_X5_told, ini_X5, cod_X5_told⟩
theorem kv_X3_tellsOrderOf : Cond.instanceMethod yX3_tellsOrderOf ∈ wG ∧ Cond.selects (yX3_tellsOrderOf).cls yX3_tellsOrderOf yX3_tellsOrderOf ∈ wG ∧ Cond.initialized (yX3_tellsOrderOf).cls ∈ wG ∧ Cond.code yX3_tellsOrderOf cX3_tellsOrderOf 5 (some .boolean) ∈ wG := ⟨im_X3_tellsOrderOf, sel_X3_tellsOrderOf, ini_X3, cod_X3_tellsOrderOf⟩
theorem kv_X3_tryAt : Cond.instanceMethod yX3_tryAt ∈ wG ∧ Cond.selects (yX3_tryAt).cls yX3_tryAt yX3_tryAt ∈ wG ∧ Cond.initialized (yX3_tryAt).cls ∈ wG ∧ Cond.code yX3_tryAt cX3_tryAt 2 (some .int) ∈ wG := ⟨im_X3_tryAt, sel_X3_tryAt, ini_X3, cod_X3_tryAt⟩
theorem kv_X5_best : Cond.instanceMethod yX5_best ∈ wG ∧ Cond.selects (yX5_best).cls yX5_best yX5_best ∈ wG ∧ Cond.initialized (yX5_best).cls ∈ wG ∧ Cond.code yX5_best cX5_best 2 (some .int) ∈ wG := ⟨im_X5_best, sel_X5_best, ini_X5, cod_X5_best⟩
theorem kv_X1_planBest : Cond.instanceMethod yX1_planBest ∈ wG ∧ Cond.selects (yX1_planBest).cls yX1_planBest yX1_planBest ∈ wG ∧ Cond.initialized (yX1_planBest).cls ∈ wG ∧ Cond.code yX1_planBest cX1_planBest 1 none ∈ wG := ⟨im_X1_planBest, sel_X1_planBest, ini_X1, cod_X1_planBest⟩
theorem kv_X1_weighOnward : Cond.instanceMethod yX1_weighOnward ∈ wG ∧ Cond.selects (yX1_weighOnward).cls yX1_weighOnward yX1_weighOnward ∈ wG ∧ Cond.initialized (yX1_weighOnward).cls ∈ wG ∧ Cond.code yX1_weighOnward cX1_weighOnward 3 none ∈ wG := ⟨im_X1_weighOnward, sel_X1_weighOnward, ini_X1, cod_X1_weighOnward⟩
theorem kv_X1_allTries : Cond.instanceMethod yX1_allTries ∈ wG ∧ Cond.selects (yX1_allTries).cls yX1_allTries yX1_allTries ∈ wG ∧ Cond.initialized (yX1_allTries).cls ∈ wG ∧ Cond.code yX1_allTries cX1_allTries 1 (some .int) ∈ wG := ⟨im_X1_allTries, sel_X1_allTries, ini_X1, cod_X1_allTries⟩
theorem kv_X1_leastThrough : Cond.instanceMethod yX1_leastThrough ∈ wG ∧ Cond.selects (yX1_leastThrough).cls yX1_leastThrough yX1_leastThrough ∈ wG ∧ Cond.initialized (yX1_leastThrough).cls ∈ wG ∧ Cond.code yX1_leastThrough cX1_leastThrough 7 (some .int) ∈ wG := ⟨im_X1_leastThrough, sel_X1_leastThrough, ini_X1, cod_X1_leastThrough⟩
theorem kv_X1_plan : Cond.instanceMethod yX1_plan ∈ wG ∧ Cond.selects (yX1_plan).cls yX1_plan yX1_plan ∈ wG ∧ Cond.initialized (yX1_plan).cls ∈ wG ∧ Cond.code yX1_plan cX1_plan 7 none ∈ wG := ⟨im_X1_plan, sel_X1_plan, ini_X1, cod_X1_plan⟩
theorem kv_X2_clear : Cond.instanceMethod yX2_clear ∈ wG ∧ Cond.selects (yX2_clear).cls yX2_clear yX2_clear ∈ wG ∧ Cond.initialized (yX2_clear).cls ∈ wG ∧ Cond.code yX2_clear cX2_clear 1 none ∈ wG := ⟨im_X2_clear, sel_X2_clear, ini_X2, cod_X2_clear⟩
theorem kv_X1_firstOfBest : Cond.instanceMethod yX1_firstOfBest ∈ wG ∧ Cond.selects (yX1_firstOfBest).cls yX1_firstOfBest yX1_firstOfBest ∈ wG ∧ Cond.initialized (yX1_firstOfBest).cls ∈ wG ∧ Cond.code yX1_firstOfBest cX1_firstOfBest 7 (some .int) ∈ wG := ⟨im_X1_firstOfBest, sel_X1_firstOfBest, ini_X1, cod_X1_firstOfBest⟩
theorem kv_X1_nearestOf : Cond.instanceMethod yX1_nearestOf ∈ wG ∧ Cond.selects (yX1_nearestOf).cls yX1_nearestOf yX1_nearestOf ∈ wG ∧ Cond.initialized (yX1_nearestOf).cls ∈ wG ∧ Cond.code yX1_nearestOf cX1_nearestOf 6 (some .int) ∈ wG := ⟨im_X1_nearestOf, sel_X1_nearestOf, ini_X1, cod_X1_nearestOf⟩
theorem kv_X2_append : Cond.instanceMethod yX2_append ∈ wG ∧ Cond.selects (yX2_append).cls yX2_append yX2_append ∈ wG ∧ Cond.initialized (yX2_append).cls ∈ wG ∧ Cond.code yX2_append cX2_append 3 none ∈ wG := ⟨im_X2_append, sel_X2_append, ini_X2, cod_X2_append⟩
theorem kv_X2_tell : Cond.instanceMethod yX2_tell ∈ wG ∧ Cond.selects (yX2_tell).cls yX2_tell yX2_tell ∈ wG ∧ Cond.initialized (yX2_tell).cls ∈ wG ∧ Cond.code yX2_tell cX2_tell 2 (some .int) ∈ wG := ⟨im_X2_tell, sel_X2_tell, ini_X2, cod_X2_tell⟩
theorem kv_X5_nearest : Cond.instanceMethod yX5_nearest ∈ wG ∧ Cond.selects (yX5_nearest).cls yX5_nearest yX5_nearest ∈ wG ∧ Cond.initialized (yX5_nearest).cls ∈ wG ∧ Cond.code yX5_nearest cX5_nearest 2 (some .int) ∈ wG := ⟨im_X5_nearest, sel_X5_nearest, ini_X5, cod_X5_nearest⟩
theorem kv_X1_planNearest : Cond.instanceMethod yX1_planNearest ∈ wG ∧ Cond.selects (yX1_planNearest).cls yX1_planNearest yX1_planNearest ∈ wG ∧ Cond.initialized (yX1_planNearest).cls ∈ wG ∧ Cond.code yX1_planNearest cX1_planNearest 1 none ∈ wG := ⟨im_X1_planNearest, sel_X1_planNearest, ini_X1, cod_X1_planNearest⟩
theorem kv_X5_loosen : Cond.instanceMethod yX5_loosen ∈ wG ∧ Cond.selects (yX5_loosen).cls yX5_loosen yX5_loosen ∈ wG ∧ Cond.initialized (yX5_loosen).cls ∈ wG ∧ Cond.code yX5_loosen cX5_loosen 3 (some .int) ∈ wG := ⟨im_X5_loosen, sel_X5_loosen, ini_X5, cod_X5_loosen⟩
theorem ks_X5_isSwitch : Cond.static yX5_isSwitch ∈ wG ∧ Cond.initialized (yX5_isSwitch).cls ∈ wG ∧ Cond.code yX5_isSwitch cX5_isSwitch 1 (some .boolean) ∈ wG := ⟨stt_X5_isSwitch, ini_X5, cod_X5_isSwitch⟩
theorem ks_J6_bitCount_0f7a4 : Cond.static yJ6_bitCount_0f7a4 ∈ wG ∧ Cond.initialized (yJ6_bitCount_0f7a4).cls ∈ wG ∧ Cond.code yJ6_bitCount_0f7a4 cJ6_bitCount_0f7a4 1 (some .int) ∈ wG := ⟨stt_J6_bitCount_0f7a4, ini_J6, cod_J6_bitCount_0f7a4⟩
theorem kv_X5_join : Cond.instanceMethod yX5_join ∈ wG ∧ Cond.selects (yX5_join).cls yX5_join yX5_join ∈ wG ∧ Cond.initialized (yX5_join).cls ∈ wG ∧ Cond.code yX5_join cX5_join 4 (some .int) ∈ wG := ⟨im_X5_join, sel_X5_join, ini_X5, cod_X5_join⟩
theorem ks_X5_pairOfNets : Cond.static yX5_pairOfNets ∈ wG ∧ Cond.initialized (yX5_pairOfNets).cls ∈ wG ∧ Cond.code yX5_pairOfNets cX5_pairOfNets 6 (some .int) ∈ wG := ⟨stt_X5_pairOfNets, ini_X5, cod_X5_pairOfNets⟩
theorem ks_Math_min : Cond.static Lib.Math.min.name ∈ wG ∧ Cond.initialized "java/lang/Math" ∈ wG ∧ Cond.code Lib.Math.min.name Lib.Math.min.code 2 (some .int) ∈ wG := ⟨stt_Math_min, ini_J9, cod_Math_min⟩
theorem kv_X5_sees : Cond.instanceMethod yX5_sees ∈ wG ∧ Cond.selects (yX5_sees).cls yX5_sees yX5_sees ∈ wG ∧ Cond.initialized (yX5_sees).cls ∈ wG ∧ Cond.code yX5_sees cX5_sees 1 (some .int) ∈ wG := ⟨im_X5_sees, sel_X5_sees, ini_X5, cod_X5_sees⟩
theorem kv_X5_fits : Cond.instanceMethod yX5_fits ∈ wG ∧ Cond.selects (yX5_fits).cls yX5_fits yX5_fits ∈ wG ∧ Cond.initialized (yX5_fits).cls ∈ wG ∧ Cond.code yX5_fits cX5_fits 2 (some .int) ∈ wG := ⟨im_X5_fits, sel_X5_fits, ini_X5, cod_X5_fits⟩
theorem kv_X5_flawSeenAs : Cond.instanceMethod yX5_flawSeenAs ∈ wG ∧ Cond.selects (yX5_flawSeenAs).cls yX5_flawSeenAs yX5_flawSeenAs ∈ wG ∧ Cond.initialized (yX5_flawSeenAs).cls ∈ wG ∧ Cond.code yX5_flawSeenAs cX5_flawSeenAs 5 (some .int) ∈ wG := ⟨im_X5_flawSeenAs, sel_X5_flawSeenAs, ini_X5, cod_X5_flawSeenAs⟩
theorem kv_X5_isFlaw : Cond.instanceMethod yX5_isFlaw ∈ wG ∧ Cond.selects (yX5_isFlaw).cls yX5_isFlaw yX5_isFlaw ∈ wG ∧ Cond.initialized (yX5_isFlaw).cls ∈ wG ∧ Cond.code yX5_isFlaw cX5_isFlaw 2 (some .boolean) ∈ wG := ⟨im_X5_isFlaw, sel_X5_isFlaw, ini_X5, cod_X5_isFlaw⟩
theorem kv_X5_seenOfFlaw : Cond.instanceMethod yX5_seenOfFlaw ∈ wG ∧ Cond.selects (yX5_seenOfFlaw).cls yX5_seenOfFlaw yX5_seenOfFlaw ∈ wG ∧ Cond.initialized (yX5_seenOfFlaw).cls ∈ wG ∧ Cond.code yX5_seenOfFlaw cX5_seenOfFlaw 2 (some .int) ∈ wG := ⟨im_X5_seenOfFlaw, sel_X5_seenOfFlaw, ini_X5, cod_X5_seenOfFlaw⟩
theorem kv_X5_hidden : Cond.instanceMethod yX5_hidden ∈ wG ∧ Cond.selects (yX5_hidden).cls yX5_hidden yX5_hidden ∈ wG ∧ Cond.initialized (yX5_hidden).cls ∈ wG ∧ Cond.code yX5_hidden cX5_hidden 2 (some .int) ∈ wG := ⟨im_X5_hidden, sel_X5_hidden, ini_X5, cod_X5_hidden⟩
theorem kv_X5_halves : Cond.instanceMethod yX5_halves ∈ wG ∧ Cond.selects (yX5_halves).cls yX5_halves yX5_halves ∈ wG ∧ Cond.initialized (yX5_halves).cls ∈ wG ∧ Cond.code yX5_halves cX5_halves 8 (some .int) ∈ wG := ⟨im_X5_halves, sel_X5_halves, ini_X5, cod_X5_halves⟩
theorem ks_X5_leastMembers : Cond.static yX5_leastMembers ∈ wG ∧ Cond.initialized (yX5_leastMembers).cls ∈ wG ∧ Cond.code yX5_leastMembers cX5_leastMembers 4 (some .int) ∈ wG := ⟨stt_X5_leastMembers, ini_X5, cod_X5_leastMembers⟩
theorem ks_X5_leastNet : Cond.static yX5_leastNet ∈ wG ∧ Cond.initialized (yX5_leastNet).cls ∈ wG ∧ Cond.code yX5_leastNet cX5_leastNet 2 (some .int) ∈ wG := ⟨stt_X5_leastNet, ini_X5, cod_X5_leastNet⟩
theorem kv_X5_image : Cond.instanceMethod yX5_image ∈ wG ∧ Cond.selects (yX5_image).cls yX5_image yX5_image ∈ wG ∧ Cond.initialized (yX5_image).cls ∈ wG ∧ Cond.code yX5_image cX5_image 2 (some .int) ∈ wG := ⟨im_X5_image, sel_X5_image, ini_X5, cod_X5_image⟩
theorem ks_X5_isImage : Cond.static yX5_isImage ∈ wG ∧ Cond.initialized (yX5_isImage).cls ∈ wG ∧ Cond.code yX5_isImage cX5_isImage 1 (some .boolean) ∈ wG := ⟨stt_X5_isImage, ini_X5, cod_X5_isImage⟩
theorem kv_X0_copyFrom : Cond.instanceMethod yX0_copyFrom ∈ wG ∧ Cond.selects (yX0_copyFrom).cls yX0_copyFrom yX0_copyFrom ∈ wG ∧ Cond.initialized (yX0_copyFrom).cls ∈ wG ∧ Cond.code yX0_copyFrom cX0_copyFrom 3 none ∈ wG := ⟨im_X0_copyFrom, sel_X0_copyFrom, ini_X0, cod_X0_copyFrom⟩
theorem kv_X5_restore : Cond.instanceMethod yX5_restore ∈ wG ∧ Cond.selects (yX5_restore).cls yX5_restore yX5_restore ∈ wG ∧ Cond.initialized (yX5_restore).cls ∈ wG ∧ Cond.code yX5_restore cX5_restore 2 (some .int) ∈ wG := ⟨im_X5_restore, sel_X5_restore, ini_X5, cod_X5_restore⟩
theorem kv_X5_count : Cond.instanceMethod yX5_count ∈ wG ∧ Cond.selects (yX5_count).cls yX5_count yX5_count ∈ wG ∧ Cond.initialized (yX5_count).cls ∈ wG ∧ Cond.code yX5_count cX5_count 2 (some .int) ∈ wG := ⟨im_X5_count, sel_X5_count, ini_X5, cod_X5_count⟩
theorem kv_X0_countNetsWithPoints : Cond.instanceMethod yX0_countNetsWithPoints ∈ wG ∧ Cond.selects (yX0_countNetsWithPoints).cls yX0_countNetsWithPoints yX0_countNetsWithPoints ∈ wG ∧ Cond.initialized (yX0_countNetsWithPoints).cls ∈ wG ∧ Cond.code yX0_countNetsWithPoints cX0_countNetsWithPoints 3 (some .int) ∈ wG := ⟨im_X0_countNetsWithPoints, sel_X0_countNetsWithPoints, ini_X0, cod_X0_countNetsWithPoints⟩
theorem ki_X6_init : Cond.instanceMethod yX6_init ∈ wG ∧ Cond.initialized (yX6_init).cls ∈ wG ∧ Cond.code yX6_init cX6_init 1 none ∈ wG := ⟨im_X6_init, ini_X6, cod_X6_init⟩
theorem kv_X6_point : Cond.instanceMethod yX6_point ∈ wG ∧ Cond.selects (yX6_point).cls yX6_point yX6_point ∈ wG ∧ Cond.initialized (yX6_point).cls ∈ wG ∧ Cond.code yX6_point cX6_point 5 (some .int) ∈ wG := ⟨im_X6_point, sel_X6_point, ini_X6, cod_X6_point⟩
theorem ks_X6_isNet : Cond.static yX6_isNet ∈ wG ∧ Cond.initialized (yX6_isNet).cls ∈ wG ∧ Cond.code yX6_isNet cX6_isNet 1 (some .boolean) ∈ wG := ⟨stt_X6_isNet, ini_X6, cod_X6_isNet⟩
theorem ks_X6_in : Cond.static yX6_in ∈ wG ∧ Cond.initialized (yX6_in).cls ∈ wG ∧ Cond.code yX6_in cX6_in 3 (some .boolean) ∈ wG := ⟨stt_X6_in, ini_X6, cod_X6_in⟩
theorem ks_X6_isHere : Cond.static yX6_isHere ∈ wG ∧ Cond.initialized (yX6_isHere).cls ∈ wG ∧ Cond.code yX6_isHere cX6_isHere 2 (some .boolean) ∈ wG := ⟨stt_X6_isHere, ini_X6, cod_X6_isHere⟩
theorem kv_X6_pop : Cond.instanceMethod yX6_pop ∈ wG ∧ Cond.selects (yX6_pop).cls yX6_pop yX6_pop ∈ wG ∧ Cond.initialized (yX6_pop).cls ∈ wG ∧ Cond.code yX6_pop cX6_pop 1 (some .int) ∈ wG := ⟨im_X6_pop, sel_X6_pop, ini_X6, cod_X6_pop⟩
theorem kv_X6_move : Cond.instanceMethod yX6_move ∈ wG ∧ Cond.selects (yX6_move).cls yX6_move yX6_move ∈ wG ∧ Cond.initialized (yX6_move).cls ∈ wG ∧ Cond.code yX6_move cX6_move 5 (some .int) ∈ wG := ⟨im_X6_move, sel_X6_move, ini_X6, cod_X6_move⟩
theorem kv_X6_isPoint : Cond.instanceMethod yX6_isPoint ∈ wG ∧ Cond.selects (yX6_isPoint).cls yX6_isPoint yX6_isPoint ∈ wG ∧ Cond.initialized (yX6_isPoint).cls ∈ wG ∧ Cond.code yX6_isPoint cX6_isPoint 2 (some .boolean) ∈ wG := ⟨im_X6_isPoint, sel_X6_isPoint, ini_X6, cod_X6_isPoint⟩
theorem kv_X6_near : Cond.instanceMethod yX6_near ∈ wG ∧ Cond.selects (yX6_near).cls yX6_near yX6_near ∈ wG ∧ Cond.initialized (yX6_near).cls ∈ wG ∧ Cond.code yX6_near cX6_near 3 (some .int) ∈ wG := ⟨im_X6_near, sel_X6_near, ini_X6, cod_X6_near⟩
theorem kv_X6_of : Cond.instanceMethod yX6_of ∈ wG ∧ Cond.selects (yX6_of).cls yX6_of yX6_of ∈ wG ∧ Cond.initialized (yX6_of).cls ∈ wG ∧ Cond.code yX6_of cX6_of 3 (some .int) ∈ wG := ⟨im_X6_of, sel_X6_of, ini_X6, cod_X6_of⟩
theorem kv_X6_far : Cond.instanceMethod yX6_far ∈ wG ∧ Cond.selects (yX6_far).cls yX6_far yX6_far ∈ wG ∧ Cond.initialized (yX6_far).cls ∈ wG ∧ Cond.code yX6_far cX6_far 3 (some .int) ∈ wG := ⟨im_X6_far, sel_X6_far, ini_X6, cod_X6_far⟩
theorem kv_X6_farOf : Cond.instanceMethod yX6_farOf ∈ wG ∧ Cond.selects (yX6_farOf).cls yX6_farOf yX6_farOf ∈ wG ∧ Cond.initialized (yX6_farOf).cls ∈ wG ∧ Cond.code yX6_farOf cX6_farOf 5 (some .int) ∈ wG := ⟨im_X6_farOf, sel_X6_farOf, ini_X6, cod_X6_farOf⟩
theorem kv_X6_attempt : Cond.instanceMethod yX6_attempt ∈ wG ∧ Cond.selects (yX6_attempt).cls yX6_attempt yX6_attempt ∈ wG ∧ Cond.initialized (yX6_attempt).cls ∈ wG ∧ Cond.code yX6_attempt cX6_attempt 4 (some .int) ∈ wG := ⟨im_X6_attempt, sel_X6_attempt, ini_X6, cod_X6_attempt⟩
theorem kv_X6_layTries : Cond.instanceMethod yX6_layTries ∈ wG ∧ Cond.selects (yX6_layTries).cls yX6_layTries yX6_layTries ∈ wG ∧ Cond.initialized (yX6_layTries).cls ∈ wG ∧ Cond.code yX6_layTries cX6_layTries 3 none ∈ wG := ⟨im_X6_layTries, sel_X6_layTries, ini_X6, cod_X6_layTries⟩
theorem kv_X6_layTree : Cond.instanceMethod yX6_layTree ∈ wG ∧ Cond.selects (yX6_layTree).cls yX6_layTree yX6_layTree ∈ wG ∧ Cond.initialized (yX6_layTree).cls ∈ wG ∧ Cond.code yX6_layTree cX6_layTree 4 none ∈ wG := ⟨im_X6_layTree, sel_X6_layTree, ini_X6, cod_X6_layTree⟩
theorem kv_X6_nextPair : Cond.instanceMethod yX6_nextPair ∈ wG ∧ Cond.selects (yX6_nextPair).cls yX6_nextPair yX6_nextPair ∈ wG ∧ Cond.initialized (yX6_nextPair).cls ∈ wG ∧ Cond.code yX6_nextPair cX6_nextPair 5 (some .int) ∈ wG := ⟨im_X6_nextPair, sel_X6_nextPair, ini_X6, cod_X6_nextPair⟩
theorem kv_X6_canJoin : Cond.instanceMethod yX6_canJoin ∈ wG ∧ Cond.selects (yX6_canJoin).cls yX6_canJoin yX6_canJoin ∈ wG ∧ Cond.initialized (yX6_canJoin).cls ∈ wG ∧ Cond.code yX6_canJoin cX6_canJoin 4 (some .boolean) ∈ wG := ⟨im_X6_canJoin, sel_X6_canJoin, ini_X6, cod_X6_canJoin⟩
theorem kv_X6_join : Cond.instanceMethod yX6_join ∈ wG ∧ Cond.selects (yX6_join).cls yX6_join yX6_join ∈ wG ∧ Cond.initialized (yX6_join).cls ∈ wG ∧ Cond.code yX6_join cX6_join 5 none ∈ wG := ⟨im_X6_join, sel_X6_join, ini_X6, cod_X6_join⟩
theorem kv_X6_addTry : Cond.instanceMethod yX6_addTry ∈ wG ∧ Cond.selects (yX6_addTry).cls yX6_addTry yX6_addTry ∈ wG ∧ Cond.initialized (yX6_addTry).cls ∈ wG ∧ Cond.code yX6_addTry cX6_addTry 5 none ∈ wG := ⟨im_X6_addTry, sel_X6_addTry, ini_X6, cod_X6_addTry⟩
theorem kv_X6_layNeighbours : Cond.instanceMethod yX6_layNeighbours ∈ wG ∧ Cond.selects (yX6_layNeighbours).cls yX6_layNeighbours yX6_layNeighbours ∈ wG ∧ Cond.initialized (yX6_layNeighbours).cls ∈ wG ∧ Cond.code yX6_layNeighbours cX6_layNeighbours 7 none ∈ wG := ⟨im_X6_layNeighbours, sel_X6_layNeighbours, ini_X6, cod_X6_layNeighbours⟩
theorem kv_X6_isTry : Cond.instanceMethod yX6_isTry ∈ wG ∧ Cond.selects (yX6_isTry).cls yX6_isTry yX6_isTry ∈ wG ∧ Cond.initialized (yX6_isTry).cls ∈ wG ∧ Cond.code yX6_isTry cX6_isTry 2 (some .boolean) ∈ wG := ⟨im_X6_isTry, sel_X6_isTry, ini_X6, cod_X6_isTry⟩
theorem kv_X6_seen : Cond.instanceMethod yX6_seen ∈ wG ∧ Cond.selects (yX6_seen).cls yX6_seen yX6_seen ∈ wG ∧ Cond.initialized (yX6_seen).cls ∈ wG ∧ Cond.code yX6_seen cX6_seen 3 (some .int) ∈ wG := ⟨im_X6_seen, sel_X6_seen, ini_X6, cod_X6_seen⟩
theorem kv_X6_layOnes : Cond.instanceMethod yX6_layOnes ∈ wG ∧ Cond.selects (yX6_layOnes).cls yX6_layOnes yX6_layOnes ∈ wG ∧ Cond.initialized (yX6_layOnes).cls ∈ wG ∧ Cond.code yX6_layOnes cX6_layOnes 3 none ∈ wG := ⟨im_X6_layOnes, sel_X6_layOnes, ini_X6, cod_X6_layOnes⟩
theorem ks_X6_pairOf : Cond.static yX6_pairOf ∈ wG ∧ Cond.initialized (yX6_pairOf).cls ∈ wG ∧ Cond.code yX6_pairOf cX6_pairOf 4 (some .int) ∈ wG := ⟨stt_X6_pairOf, ini_X6, cod_X6_pairOf⟩
theorem kv_X6_conducts : Cond.instanceMethod yX6_conducts ∈ wG ∧ Cond.selects (yX6_conducts).cls yX6_conducts yX6_conducts ∈ wG ∧ Cond.initialized (yX6_conducts).cls ∈ wG ∧ Cond.code yX6_conducts cX6_conducts 4 (some .boolean) ∈ wG := ⟨im_X6_conducts, sel_X6_conducts, ini_X6, cod_X6_conducts⟩
theorem kv_X6_time : Cond.instanceMethod yX6_time ∈ wG ∧ Cond.selects (yX6_time).cls yX6_time yX6_time ∈ wG ∧ Cond.initialized (yX6_time).cls ∈ wG ∧ Cond.code yX6_time cX6_time 3 (some .int) ∈ wG := ⟨im_X6_time, sel_X6_time, ini_X6, cod_X6_time⟩
theorem kv_X6_timeOf : Cond.instanceMethod yX6_timeOf ∈ wG ∧ Cond.selects (yX6_timeOf).cls yX6_timeOf yX6_timeOf ∈ wG ∧ Cond.initialized (yX6_timeOf).cls ∈ wG ∧ Cond.code yX6_timeOf cX6_timeOf 9 (some .int) ∈ wG := ⟨im_X6_timeOf, sel_X6_timeOf, ini_X6, cod_X6_timeOf⟩
theorem ks_X6_size : Cond.static yX6_size ∈ wG ∧ Cond.initialized (yX6_size).cls ∈ wG ∧ Cond.code yX6_size cX6_size 1 (some .int) ∈ wG := ⟨stt_X6_size, ini_X6, cod_X6_size⟩
theorem ks_X6_greater : Cond.static yX6_greater ∈ wG ∧ Cond.initialized (yX6_greater).cls ∈ wG ∧ Cond.code yX6_greater cX6_greater 2 (some .int) ∈ wG := ⟨stt_X6_greater, ini_X6, cod_X6_greater⟩
theorem kv_X6_say : Cond.instanceMethod yX6_say ∈ wG ∧ Cond.selects (yX6_say).cls yX6_say yX6_say ∈ wG ∧ Cond.initialized (yX6_say).cls ∈ wG ∧ Cond.code yX6_say cX6_say 2 (some .int) ∈ wG := ⟨im_X6_say, sel_X6_say, ini_X6, cod_X6_say⟩
theorem kv_X6_wipe : Cond.instanceMethod yX6_wipe ∈ wG ∧ Cond.selects (yX6_wipe).cls yX6_wipe yX6_wipe ∈ wG ∧ Cond.initialized (yX6_wipe).cls ∈ wG ∧ Cond.code yX6_wipe cX6_wipe 2 (some .int) ∈ wG := ⟨im_X6_wipe, sel_X6_wipe, ini_X6, cod_X6_wipe⟩
theorem kv_X6_told : Cond.instanceMethod yX6_told ∈ wG ∧ Cond.selects (yX6_told).cls yX6_told yX6_told ∈ wG ∧ Cond.initialized (yX6_told).cls ∈ wG ∧ Cond.code yX6_told cX6_told 3 (some .int) ∈ wG := ⟨im_X6_told, sel_X6_told, ini_X6, cod_X6_told⟩
theorem kv_X6_timeOfOrder : Cond.instanceMethod yX6_timeOfOrder ∈ wG ∧ Cond.selects (yX6_timeOfOrder).cls yX6_timeOfOrder yX6_timeOfOrder ∈ wG ∧ Cond.initialized (yX6_timeOfOrder).cls ∈ wG ∧ Cond.code yX6_timeOfOrder cX6_timeOfOrder 3 (some .int) ∈ wG := ⟨im_X6_timeOfOrder, sel_X6_timeOfOrder, ini_X6, cod_X6_timeOfOrder⟩
theorem kv_X6_best : Cond.instanceMethod yX6_best ∈ wG ∧ Cond.selects (yX6_best).cls yX6_best yX6_best ∈ wG ∧ Cond.initialized (yX6_best).cls ∈ wG ∧ Cond.code yX6_best cX6_best 2 (some .int) ∈ wG := ⟨im_X6_best, sel_X6_best, ini_X6, cod_X6_best⟩
theorem kv_X6_layBest : Cond.instanceMethod yX6_layBest ∈ wG ∧ Cond.selects (yX6_layBest).cls yX6_layBest yX6_layBest ∈ wG ∧ Cond.initialized (yX6_layBest).cls ∈ wG ∧ Cond.code yX6_layBest cX6_layBest 7 none ∈ wG := ⟨im_X6_layBest, sel_X6_layBest, ini_X6, cod_X6_layBest⟩
theorem kv_X6_layRest : Cond.instanceMethod yX6_layRest ∈ wG ∧ Cond.selects (yX6_layRest).cls yX6_layRest yX6_layRest ∈ wG ∧ Cond.initialized (yX6_layRest).cls ∈ wG ∧ Cond.code yX6_layRest cX6_layRest 4 none ∈ wG := ⟨im_X6_layRest, sel_X6_layRest, ini_X6, cod_X6_layRest⟩
theorem kv_X6_restFrom : Cond.instanceMethod yX6_restFrom ∈ wG ∧ Cond.selects (yX6_restFrom).cls yX6_restFrom yX6_restFrom ∈ wG ∧ Cond.initialized (yX6_restFrom).cls ∈ wG ∧ Cond.code yX6_restFrom cX6_restFrom 6 (some .int) ∈ wG := ⟨im_X6_restFrom, sel_X6_restFrom, ini_X6, cod_X6_restFrom⟩
theorem kv_X6_orderAt : Cond.instanceMethod yX6_orderAt ∈ wG ∧ Cond.selects (yX6_orderAt).cls yX6_orderAt yX6_orderAt ∈ wG ∧ Cond.initialized (yX6_orderAt).cls ∈ wG ∧ Cond.code yX6_orderAt cX6_orderAt 2 (some .int) ∈ wG := ⟨im_X6_orderAt, sel_X6_orderAt, ini_X6, cod_X6_orderAt⟩
theorem kv_X6_nearest : Cond.instanceMethod yX6_nearest ∈ wG ∧ Cond.selects (yX6_nearest).cls yX6_nearest yX6_nearest ∈ wG ∧ Cond.initialized (yX6_nearest).cls ∈ wG ∧ Cond.code yX6_nearest cX6_nearest 8 (some .int) ∈ wG := ⟨im_X6_nearest, sel_X6_nearest, ini_X6, cod_X6_nearest⟩
theorem kv_X6_loosen : Cond.instanceMethod yX6_loosen ∈ wG ∧ Cond.selects (yX6_loosen).cls yX6_loosen yX6_loosen ∈ wG ∧ Cond.initialized (yX6_loosen).cls ∈ wG ∧ Cond.code yX6_loosen cX6_loosen 3 (some .int) ∈ wG := ⟨im_X6_loosen, sel_X6_loosen, ini_X6, cod_X6_loosen⟩
theorem kv_X6_looseMany : Cond.instanceMethod yX6_looseMany ∈ wG ∧ Cond.selects (yX6_looseMany).cls yX6_looseMany yX6_looseMany ∈ wG ∧ Cond.initialized (yX6_looseMany).cls ∈ wG ∧ Cond.code yX6_looseMany cX6_looseMany 3 (some .int) ∈ wG := ⟨im_X6_looseMany, sel_X6_looseMany, ini_X6, cod_X6_looseMany⟩
theorem kv_X6_join_ : Cond.instanceMethod yX6_join_ ∈ wG ∧ Cond.selects (yX6_join_).cls yX6_join_ yX6_join_ ∈ wG ∧ Cond.initialized (yX6_join_).cls ∈ wG ∧ Cond.code yX6_join_ cX6_join_ 4 (some .int) ∈ wG := ⟨im_X6_join_, sel_X6_join_, ini_X6, cod_X6_join_⟩
theorem kv_X6_shortMany : Cond.instanceMethod yX6_shortMany ∈ wG ∧ Cond.selects (yX6_shortMany).cls yX6_shortMany yX6_shortMany ∈ wG ∧ Cond.initialized (yX6_shortMany).cls ∈ wG ∧ Cond.code yX6_shortMany cX6_shortMany 3 (some .int) ∈ wG := ⟨im_X6_shortMany, sel_X6_shortMany, ini_X6, cod_X6_shortMany⟩
theorem kv_X6_sees : Cond.instanceMethod yX6_sees ∈ wG ∧ Cond.selects (yX6_sees).cls yX6_sees yX6_sees ∈ wG ∧ Cond.initialized (yX6_sees).cls ∈ wG ∧ Cond.code yX6_sees cX6_sees 1 (some .int) ∈ wG := ⟨im_X6_sees, sel_X6_sees, ini_X6, cod_X6_sees⟩
theorem kv_X6_fits : Cond.instanceMethod yX6_fits ∈ wG ∧ Cond.selects (yX6_fits).cls yX6_fits yX6_fits ∈ wG ∧ Cond.initialized (yX6_fits).cls ∈ wG ∧ Cond.code yX6_fits cX6_fits 5 (some .int) ∈ wG := ⟨im_X6_fits, sel_X6_fits, ini_X6, cod_X6_fits⟩
theorem kv_X6_isSingle : Cond.instanceMethod yX6_isSingle ∈ wG ∧ Cond.selects (yX6_isSingle).cls yX6_isSingle yX6_isSingle ∈ wG ∧ Cond.initialized (yX6_isSingle).cls ∈ wG ∧ Cond.code yX6_isSingle cX6_isSingle 2 (some .boolean) ∈ wG := ⟨im_X6_isSingle, sel_X6_isSingle, ini_X6, cod_X6_isSingle⟩
theorem kv_X6_seenBy : Cond.instanceMethod yX6_seenBy ∈ wG ∧ Cond.selects (yX6_seenBy).cls yX6_seenBy yX6_seenBy ∈ wG ∧ Cond.initialized (yX6_seenBy).cls ∈ wG ∧ Cond.code yX6_seenBy cX6_seenBy 4 (some .int) ∈ wG := ⟨im_X6_seenBy, sel_X6_seenBy, ini_X6, cod_X6_seenBy⟩
theorem kv_X6_hidden : Cond.instanceMethod yX6_hidden ∈ wG ∧ Cond.selects (yX6_hidden).cls yX6_hidden yX6_hidden ∈ wG ∧ Cond.initialized (yX6_hidden).cls ∈ wG ∧ Cond.code yX6_hidden cX6_hidden 5 (some .int) ∈ wG := ⟨im_X6_hidden, sel_X6_hidden, ini_X6, cod_X6_hidden⟩
theorem kv_X6_halves : Cond.instanceMethod yX6_halves ∈ wG ∧ Cond.selects (yX6_halves).cls yX6_halves yX6_halves ∈ wG ∧ Cond.initialized (yX6_halves).cls ∈ wG ∧ Cond.code yX6_halves cX6_halves 7 (some .int) ∈ wG := ⟨im_X6_halves, sel_X6_halves, ini_X6, cod_X6_halves⟩
theorem kv_X6_isAnyOne : Cond.instanceMethod yX6_isAnyOne ∈ wG ∧ Cond.selects (yX6_isAnyOne).cls yX6_isAnyOne yX6_isAnyOne ∈ wG ∧ Cond.initialized (yX6_isAnyOne).cls ∈ wG ∧ Cond.code yX6_isAnyOne cX6_isAnyOne 6 (some .boolean) ∈ wG := ⟨im_X6_isAnyOne, sel_X6_isAnyOne, ini_X6, cod_X6_isAnyOne⟩
theorem kv_X6_image : Cond.instanceMethod yX6_image ∈ wG ∧ Cond.selects (yX6_image).cls yX6_image yX6_image ∈ wG ∧ Cond.initialized (yX6_image).cls ∈ wG ∧ Cond.code yX6_image cX6_image 3 (some .int) ∈ wG := ⟨im_X6_image, sel_X6_image, ini_X6, cod_X6_image⟩
theorem kv_X6_restore : Cond.instanceMethod yX6_restore ∈ wG ∧ Cond.selects (yX6_restore).cls yX6_restore yX6_restore ∈ wG ∧ Cond.initialized (yX6_restore).cls ∈ wG ∧ Cond.code yX6_restore cX6_restore 3 (some .int) ∈ wG := ⟨im_X6_restore, sel_X6_restore, ini_X6, cod_X6_restore⟩
theorem kv_X6_count : Cond.instanceMethod yX6_count ∈ wG ∧ Cond.selects (yX6_count).cls yX6_count yX6_count ∈ wG ∧ Cond.initialized (yX6_count).cls ∈ wG ∧ Cond.code yX6_count cX6_count 2 (some .int) ∈ wG := ⟨im_X6_count, sel_X6_count, ini_X6, cod_X6_count⟩
theorem kv_X6_apartMany : Cond.instanceMethod yX6_apartMany ∈ wG ∧ Cond.selects (yX6_apartMany).cls yX6_apartMany yX6_apartMany ∈ wG ∧ Cond.initialized (yX6_apartMany).cls ∈ wG ∧ Cond.code yX6_apartMany cX6_apartMany 3 (some .int) ∈ wG := ⟨im_X6_apartMany, sel_X6_apartMany, ini_X6, cod_X6_apartMany⟩
theorem kv_X6_netsUsed : Cond.instanceMethod yX6_netsUsed ∈ wG ∧ Cond.selects (yX6_netsUsed).cls yX6_netsUsed yX6_netsUsed ∈ wG ∧ Cond.initialized (yX6_netsUsed).cls ∈ wG ∧ Cond.code yX6_netsUsed cX6_netsUsed 3 (some .int) ∈ wG := ⟨im_X6_netsUsed, sel_X6_netsUsed, ini_X6, cod_X6_netsUsed⟩
end
section
/-! my own judgement PT: from a place of a method, with locals lv, stack st and world Wd, the machine comes to Q -/
abbrev Ec : Type := ClassId × ClassId × ClassId
abbrev En : Type := Launch × va_G × Ec
abbrev Cxt : Type := En × Program × Env × State × MethodId × Array Value × List Frame × Method × Code × (Nat → Prop)
abbrev Ar : Type := Nat → Int32
abbrev tyL (k : Ec) : List (ClassId × FieldType) := [(k.1, .int), (k.2.1, .boolean), (k.2.2, .object "NeedlePairs$Board")]
def LNf : Nat → Int32 := fun j => match j with
  | 0 => 0 | 1 => 0 | 2 => 0 | 3 => 1 | 4 => 1 | _ => 2
def GNf : Nat → Int32 := fun j => match j with
  | 0 => 1 | 1 => 2 | 2 => 3 | 3 => 2 | 4 => 3 | _ => 3
def ST (A : Nat → Prop) (U : State) (H : Heap) : Prop := ∃ t1 t2 : Nat, va_Z "NeedlePairs" "LESSER_NET" "[I" (.ref t1) A U H ∧ va_T .int t1 6 (fun j => .int (LNf j)) A U H ∧ va_Z "NeedlePairs" "GREATER_NET" "[I" (.ref t2) A U H ∧ va_T .int t2 6 (fun j => .int (GNf j)) A U H
theorem ST.moved {A : Nat → Prop} {u U : State} {H : Heap} (hvm : u.vm.Alike U.vm) (h : ST A u H) : ST A U H := by
  obtain ⟨t1, t2, a, b, c, d⟩ := h
  exact ⟨t1, t2, a.moved hvm, b.moved hvm, c.moved hvm, d.moved hvm⟩
theorem ST.kept {A : Nat → Prop} {U : State} {H H1 : Heap} (h : ST A U H) (hq : ∀ a : Nat, a < H.size → ¬ A a → H1[a]? = H[a]?) : ST A U H1 := by
  obtain ⟨t1, t2, a, b, c, d⟩ := h
  exact ⟨t1, t2, a.kept hq, b.kept hq, c.kept hq, d.kept hq⟩
theorem ST.narrow {A B : Nat → Prop} {U : State} {H : Heap} (h : ST A U H) (hAB : ∀ q, B q → A q) : ST B U H := by
  obtain ⟨t1, t2, a, b, c, d⟩ := h
  exact ⟨t1, t2, a.narrow hAB, b.narrow hAB, c.narrow hAB, d.narrow hAB⟩
/-- the links among nest mates -/
def NW (U : State) : Prop := (∀ q ∈ nestFs, va_Nw (.fieldLinkNest q.1 q.2.1 q.2.2.1 q.2.2.2.1 q.2.2.2.2 "NeedlePairs") U) ∧ (∀ q ∈ nestMs, va_Nw (.methodLinkNest q.1 q.2.1 q.2.2 "NeedlePairs") U)
theorem NW.warm {s U : State} (hW : s.WarmedH U.vm) (h : NW s) : NW U := ⟨fun q hq => va_Nw.warmF hW (h.1 q hq), fun q hq => va_Nw.warmM hW (h.2 q hq)⟩
theorem NW.same {u U : State} (hv : u.vm = U.vm) (h : NW u) : NW U := ⟨fun q hq => va_Nw.same rfl hv (h.1 q hq), fun q hq => va_Nw.same rfl hv (h.2 q hq)⟩
def HW (D : va_G) (A : Nat → Prop) (s : State) (Wd : va_W) (H : Heap) (locs : List Loc) : Prop := va_P D vwCl Wd H ∧ va_D A Wd ∧ va_S A s.heap H locs
def CX (own : String) (cc : ByteArray) (nL : Nat) (ret : Option FieldType) (x : Cxt) : Prop :=
  match x with
  | ((_, D, k), p, _, s, m, args, _, meth, c, A) => p.tables.exec = Jvm.exec ∧ c.code = cc ∧ c.maxLocals = nL ∧ s.vm.findClass own = some m.cls ∧ (∀ w ∈ wG, w.before args s = true) ∧ meth.sig.returnType = ret ∧ meth.locks = false ∧ va_K D vwCl (tyL k) s ∧ (∀ q, s.heap.size ≤ q → A q) ∧ NW s ∧ ST A s s.heap
def PT (R : Room) (nL : Nat) (x : Cxt) (pc : Nat) (lv : List (Nat × Value)) (st : List Value) (Wd : va_W) (cl sl : Nat) (Q : State → Prop) : Prop :=
  match x with
  | ((l, D, _), p, e, s, m, args, below, meth, c, A) => ∀ (H : Heap) (locs : List Loc) (ls : Array Slot), HW D A s Wd H locs → lv_has ls nL lv → W p l e R s m args below meth c H locs cl sl Q (F0 m pc ls st)
/-- pure parts of a meaning: a guard, a binding, a loop with fuel -/
def gI (i : Int32) (n : Nat) : Bool := decide (0 ≤ i.toInt) && decide (i.toInt < n)
theorem gI_in {i : Int32} {n : Nat} (h : gI i n = true) : vp_in i n := by
  rw [vp_in_iff]
  simpa [gI] using h
def grd {α : Type} (b : Bool) (k : Option α) : Option α := if b = true then k else none
theorem grd_of {α : Type} {b : Bool} {k : Option α} {r : α} (h : grd b k = some r) : b = true ∧ k = some r := by
  unfold grd at h
  split at h
  · exact ⟨by assumption, h⟩
  · cases h
def bd1 {α β : Type} (o : Option α) (f : α → Option β) : Option β := o.bind f
def bd2 {α1 α2 β : Type} (o : Option (α1 × α2)) (f : α1 → α2 → Option β) : Option β := o.bind (fun q => f q.1 q.2)
def bd3 {α1 α2 α3 β : Type} (o : Option (α1 × α2 × α3)) (f : α1 → α2 → α3 → Option β) : Option β := o.bind (fun q => f q.1 q.2.1 q.2.2)
def bd4 {α1 α2 α3 α4 β : Type} (o : Option (α1 × α2 × α3 × α4)) (f : α1 → α2 → α3 → α4 → Option β) : Option β := o.bind (fun q => f q.1 q.2.1 q.2.2.1 q.2.2.2)
def bd5 {α1 α2 α3 α4 α5 β : Type} (o : Option (α1 × α2 × α3 × α4 × α5)) (f : α1 → α2 → α3 → α4 → α5 → Option β) : Option β := o.bind (fun q => f q.1 q.2.1 q.2.2.1 q.2.2.2.1 q.2.2.2.2)
def bd6 {α1 α2 α3 α4 α5 α6 β : Type} (o : Option (α1 × α2 × α3 × α4 × α5 × α6)) (f : α1 → α2 → α3 → α4 → α5 → α6 → Option β) : Option β := o.bind (fun q => f q.1 q.2.1 q.2.2.1 q.2.2.2.1 q.2.2.2.2.1 q.2.2.2.2.2)
def bd7 {α1 α2 α3 α4 α5 α6 α7 β : Type} (o : Option (α1 × α2 × α3 × α4 × α5 × α6 × α7)) (f : α1 → α2 → α3 → α4 → α5 → α6 → α7 → Option β) : Option β := o.bind (fun q => f q.1 q.2.1 q.2.2.1 q.2.2.2.1 q.2.2.2.2.1 q.2.2.2.2.2.1 q.2.2.2.2.2.2)
def bd8 {α1 α2 α3 α4 α5 α6 α7 α8 β : Type} (o : Option (α1 × α2 × α3 × α4 × α5 × α6 × α7 × α8)) (f : α1 → α2 → α3 → α4 → α5 → α6 → α7 → α8 → Option β) : Option β := o.bind (fun q => f q.1 q.2.1 q.2.2.1 q.2.2.2.1 q.2.2.2.2.1 q.2.2.2.2.2.1 q.2.2.2.2.2.2.1 q.2.2.2.2.2.2.2)
def bd9 {α1 α2 α3 α4 α5 α6 α7 α8 α9 β : Type} (o : Option (α1 × α2 × α3 × α4 × α5 × α6 × α7 × α8 × α9)) (f : α1 → α2 → α3 → α4 → α5 → α6 → α7 → α8 → α9 → Option β) : Option β := o.bind (fun q => f q.1 q.2.1 q.2.2.1 q.2.2.2.1 q.2.2.2.2.1 q.2.2.2.2.2.1 q.2.2.2.2.2.2.1 q.2.2.2.2.2.2.2.1 q.2.2.2.2.2.2.2.2)
theorem bd1_of {α β : Type} {o : Option α} {f : α → Option β} {r : β} (h : bd1 o f = some r) : ∃ a, o = some a ∧ f a = some r := by
  unfold bd1 at h
  cases o with
  | none => cases h
  | some a => exact ⟨a, rfl, h⟩
theorem bd2_of {α1 α2 β : Type} {o : Option (α1 × α2)} {f : α1 → α2 → Option β} {r : β} (h : bd2 o f = some r) : ∃ a1 a2, o = some (a1, a2) ∧ f a1 a2 = some r := by
  unfold bd2 at h
  cases o with
  | none => cases h
  | some a => exact ⟨_, _, rfl, h⟩
theorem bd3_of {α1 α2 α3 β : Type} {o : Option (α1 × α2 × α3)} {f : α1 → α2 → α3 → Option β} {r : β} (h : bd3 o f = some r) : ∃ a1 a2 a3, o = some (a1, a2, a3) ∧ f a1 a2 a3 = some r := by
  unfold bd3 at h
  cases o with
  | none => cases h
  | some a => exact ⟨_, _, _, rfl, h⟩
theorem bd4_of {α1 α2 α3 α4 β : Type} {o : Option (α1 × α2 × α3 × α4)} {f : α1 → α2 → α3 → α4 → Option β} {r : β} (h : bd4 o f = some r) : ∃ a1 a2 a3 a4, o = some (a1, a2, a3, a4) ∧ f a1 a2 a3 a4 = some r := by
  unfold bd4 at h
  cases o with
  | none => cases h
  | some a => exact ⟨_, _, _, _, rfl, h⟩
theorem bd5_of {α1 α2 α3 α4 α5 β : Type} {o : Option (α1 × α2 × α3 × α4 × α5)} {f : α1 → α2 → α3 → α4 → α5 → Option β} {r : β} (h : bd5 o f = some r) : ∃ a1 a2 a3 a4 a5, o = some (a1, a2, a3, a4, a5) ∧ f a1 a2 a3 a4 a5 = some r := by
  unfold bd5 at h
  cases o with
  | none => cases h
  | some a => exact ⟨_, _, _, _, _, rfl, h⟩
theorem bd6_of {α1 α2 α3 α4 α5 α6 β : Type} {o : Option (α1 × α2 × α3 × α4 × α5 × α6)} {f : α1 → α2 → α3 → α4 → α5 → α6 → Option β} {r : β} (h : bd6 o f = some r) : ∃ a1 a2 a3 a4 a5 a6, o = some (a1, a2, a3, a4, a5, a6) ∧ f a1 a2 a3 a4 a5 a6 = some r := by
  unfold bd6 at h
  cases o with
  | none => cases h
  | some a => exact ⟨_, _, _, _, _, _, rfl, h⟩
theorem bd7_of {α1 α2 α3 α4 α5 α6 α7 β : Type} {o : Option (α1 × α2 × α3 × α4 × α5 × α6 × α7)} {f : α1 → α2 → α3 → α4 → α5 → α6 → α7 → Option β} {r : β} (h : bd7 o f = some r) : ∃ a1 a2 a3 a4 a5 a6 a7, o = some (a1, a2, a3, a4, a5, a6, a7) ∧ f a1 a2 a3 a4 a5 a6 a7 = some r := by
  unfold bd7 at h
  cases o with
  | none => cases h
  | some a => exact ⟨_, _, _, _, _, _, _, rfl, h⟩
theorem bd8_of {α1 α2 α3 α4 α5 α6 α7 α8 β : Type} {o : Option (α1 × α2 × α3 × α4 × α5 × α6 × α7 × α8)} {f : α1 → α2 → α3 → α4 → α5 → α6 → α7 → α8 → Option β} {r : β} (h : bd8 o f = some r) : ∃ a1 a2 a3 a4 a5 a6 a7 a8, o = some (a1, a2, a3, a4, a5, a6, a7, a8) ∧ f a1 a2 a3 a4 a5 a6 a7 a8 = some r := by
  unfold bd8 at h
  cases o with
  | none => cases h
  | some a => exact ⟨_, _, _, _, _, _, _, _, rfl, h⟩
theorem bd9_of {α1 α2 α3 α4 α5 α6 α7 α8 α9 β : Type} {o : Option (α1 × α2 × α3 × α4 × α5 × α6 × α7 × α8 × α9)} {f : α1 → α2 → α3 → α4 → α5 → α6 → α7 → α8 → α9 → Option β} {r : β} (h : bd9 o f = some r) : ∃ a1 a2 a3 a4 a5 a6 a7 a8 a9, o = some (a1, a2, a3, a4, a5, a6, a7, a8, a9) ∧ f a1 a2 a3 a4 a5 a6 a7 a8 a9 = some r := by
  unfold bd9 at h
  cases o with
  | none => cases h
  | some a => exact ⟨_, _, _, _, _, _, _, _, _, rfl, h⟩
def lpG {T : Type} (bot : T) (B : T → T) : Nat → T
  | 0 => bot
  | n + 1 => B (lpG bot B n)
theorem if_t {α : Type} {c : Prop} [Decidable c] {a b r : α} (hc : c) (h : (if c then a else b) = r) : a = r := by rw [if_pos hc] at h; exact h
theorem if_f {α : Type} {c : Prop} [Decidable c] {a b r : α} (hc : ¬ c) (h : (if c then a else b) = r) : b = r := by rw [if_neg hc] at h; exact h
/-- contracts -/
abbrev RM (f lo : Nat) : Room := { frames := f, cells := 0, slots := 0, locals := lo }
def wU (y : MethodName) (cc : ByteArray) (nL : Nat) (ret : Option FieldType) : List Cond := .code y cc nL ret :: wG
def PreC (E : En) (As : List Value) (Wd : va_W) (sz : Nat) : Array Value → State → Prop := va_Pc As (fun U => U.heap.size = sz ∧ va_P E.2.1 vwCl Wd U.heap ∧ va_K E.2.1 vwCl (tyL E.2.2) U ∧ va_D (fun _ => True) Wd ∧ NW U ∧ ST (va_A Wd sz) U U.heap)
def Ci (E : En) (y : MethodName) (ws : List Cond) (rm : Room) (As : List Value) (Wd Wd' : va_W) (r : Int32) : Prop := ∀ sz : Nat, Met E.1 y ws rm (PreC E As Wd sz) (va_Qi (fun v (_ : Unit) => v = r) (fun _ t => va_P E.2.1 vwCl Wd' t.heap) (va_A Wd sz)) 0 0 (va_A Wd sz)
def Cv (E : En) (y : MethodName) (ws : List Cond) (rm : Room) (As : List Value) (Wd Wd' : va_W) : Prop := ∀ sz : Nat, Met E.1 y ws rm (PreC E As Wd sz) (va_Qv (fun (_ : Unit) => True) (fun _ t => va_P E.2.1 vwCl Wd' t.heap) (va_A Wd sz)) 0 0 (va_A Wd sz)
def QI (x : Cxt) (r : Int32) (Wd' : va_W) : State → Prop :=
  match x with
  | ((_, D, _), _, _, s, _, args, below, _, _, A) => MQ below (va_Qi (fun v (_ : Unit) => v = r) (fun _ t => va_P D vwCl Wd' t.heap) A) args s 0 0 A
def QV (x : Cxt) (Wd' : va_W) : State → Prop :=
  match x with
  | ((_, D, _), _, _, s, _, args, below, _, _, A) => MQ below (va_Qv (fun (_ : Unit) => True) (fun _ t => va_P D vwCl Wd' t.heap) A) args s 0 0 A
theorem PreC.blind (E : En) (As : List Value) (Wd : va_W) (sz : Nat) : FrameBlind (PreC E As Wd sz) := by
  intro a U g mk q
  obtain ⟨q0, q1, qP, qK, qD, qN, qS⟩ := q
  exact ⟨q0, q1, qP, va_K.moved (u := U) (U := U.calling g mk a) (Vm.Alike.refl U.vm) qK, qD, NW.same rfl qN, ST.moved (u := U) (U := U.calling g mk a) (Vm.Alike.refl U.vm) qS⟩
theorem enter {E : En} {y : MethodName} {cc : ByteArray} {nL : Nat} {ret : Option FieldType} {rm : Room} {As : List Value} {Wd : va_W} {Qc : Nat → Array Value → State → Outcome → State → Prop} {mc ms : Nat}
    (hy : plainName y.cls = true) (hL : (lg_sl As).length ≤ nL)
    (body : ∀ (p : Program) (e : Env) (s : State) (m : MethodId) (args : Array Value) (below : List Frame) (meth : Method) (c : Code), CX y.cls cc nL ret (E, p, e, s, m, args, below, meth, c, va_A Wd s.heap.size) → meth.name = y.name → PT rm nL (E, p, e, s, m, args, below, meth, c, va_A Wd s.heap.size) 0 (lv_args 0 As) [] Wd 0 0 (MQ below (Qc s.heap.size) args s mc ms (va_A Wd s.heap.size))) (sz : Nat) :
    Met E.1 y (wU y cc nL ret) rm (PreC E As Wd sz) (Qc sz) mc ms (va_A Wd sz) := by
  refine Met.ofW (cc := cc) (maxL := nL) (ret := ret) hy rfl ?_
  intro p e s m args below meth c s₁ B hml hv
  obtain ⟨rfl, hsz, hP, hK, hD0, hN, hS⟩ := hv
  subst hsz
  have hts := atoms_spec (ws := wU y cc nL ret) B.pre
  have h1 := body p e s m As.toArray below meth c ⟨B.exec, B.bytes, hml, findClass_of_methodNamed B.named, fun w hw => hts w (List.mem_cons_of_mem _ hw), B.returns, B.notSynchronized, hK, fun q h => Or.inr h, hN, hS⟩ (name_of_methodNamed B.named B.method).1
  have hl := lv_entry As (n := nL) hL
  rw [lg_entry_eq]
  exact h1 s.heap [] _ ⟨hP, hD0.self, va_S.rf⟩ hl
theorem Ci.of {E : En} {y : MethodName} {cc : ByteArray} {nL : Nat} {ret : Option FieldType} {rm : Room} {As : List Value} {Wd Wd' : va_W} {r : Int32} (hy : plainName y.cls = true) (hL : (lg_sl As).length ≤ nL)
    (body : ∀ x : Cxt, x.1 = E → CX y.cls cc nL ret x → PT rm nL x 0 (lv_args 0 As) [] Wd 0 0 (QI x r Wd')) : Ci E y (wU y cc nL ret) rm As Wd Wd' r :=
  fun sz => enter (Qc := fun sz => va_Qi (fun v (_ : Unit) => v = r) (fun _ t => va_P E.2.1 vwCl Wd' t.heap) (va_A Wd sz)) hy hL (fun p e s m args below meth c C _ => body (E, p, e, s, m, args, below, meth, c, va_A Wd s.heap.size) rfl C) sz
theorem Cv.of {E : En} {y : MethodName} {cc : ByteArray} {nL : Nat} {ret : Option FieldType} {rm : Room} {As : List Value} {Wd Wd' : va_W} (hy : plainName y.cls = true) (hL : (lg_sl As).length ≤ nL)
    (body : ∀ x : Cxt, x.1 = E → CX y.cls cc nL ret x → PT rm nL x 0 (lv_args 0 As) [] Wd 0 0 (QV x Wd')) : Cv E y (wU y cc nL ret) rm As Wd Wd' :=
  fun sz => enter (Qc := fun sz => va_Qv (fun (_ : Unit) => True) (fun _ t => va_P E.2.1 vwCl Wd' t.heap) (va_A Wd sz)) hy hL (fun p e s m args below meth c C _ => body (E, p, e, s, m, args, below, meth, c, va_A Wd s.heap.size) rfl C) sz
end
section
section RW
variable {own : String} {cc : ByteArray} {nL : Nat} {ret : Option FieldType} {R : Room} {x : Cxt} {pc pc' : Nat} {lv lv' : List (Nat × Value)} {st : List Value} {Wd Wd' : va_W} {cl sl : Nat} {Q : State → Prop}
theorem p_iconst (C : CX own cc nL ret x) {n : Int} {v : Int32} (hd : decode cc pc = .ok (.iconst n, 1)) (hp : pc + 1 = pc') (hv : Int32.ofInt n = v) (k : PT R nL x pc' lv (.int v :: st) Wd cl sl Q) : PT R nL x pc lv st Wd cl sl Q := by
  obtain ⟨⟨l, D, k0⟩, p, e, s, m, args, below, meth, c, A⟩ := x
  obtain ⟨hx, hb, hml, hown, hts, hr, hlk, hK, hA, hN, hS0⟩ := C
  subst hp
  intro H locs ls hH hl
  exact lv_iconst hx hb hd hv (k H locs ls hH hl)
theorem p_bipush (C : CX own cc nL ret x) {n : Int} {v : Int32} (hd : decode cc pc = .ok (.bipush n, 2)) (hp : pc + 2 = pc') (hv : (Int8.ofInt n).toInt32 = v) (k : PT R nL x pc' lv (.int v :: st) Wd cl sl Q) : PT R nL x pc lv st Wd cl sl Q := by
  obtain ⟨⟨l, D, k0⟩, p, e, s, m, args, below, meth, c, A⟩ := x
  obtain ⟨hx, hb, hml, hown, hts, hr, hlk, hK, hA, hN, hS0⟩ := C
  subst hp
  intro H locs ls hH hl
  exact lv_bipush hx hb hd hv (k H locs ls hH hl)
theorem p_sipush (C : CX own cc nL ret x) {n : Int} {v : Int32} (hd : decode cc pc = .ok (.sipush n, 3)) (hp : pc + 3 = pc') (hv : (Int16.ofInt n).toInt32 = v) (k : PT R nL x pc' lv (.int v :: st) Wd cl sl Q) : PT R nL x pc lv st Wd cl sl Q := by
  obtain ⟨⟨l, D, k0⟩, p, e, s, m, args, below, meth, c, A⟩ := x
  obtain ⟨hx, hb, hml, hown, hts, hr, hlk, hK, hA, hN, hS0⟩ := C
  subst hp
  intro H locs ls hH hl
  exact lv_sipush hx hb hd hv (k H locs ls hH hl)
theorem p_ldc (C : CX own cc nL ret x) {index : Nat} {v : Int32} (hd : decode cc pc = .ok (.ldc index, 2)) (hp : pc + 2 = pc') (hw : Cond.constant own index v ∈ wG) (k : PT R nL x pc' lv (.int v :: st) Wd cl sl Q) : PT R nL x pc lv st Wd cl sl Q := by
  obtain ⟨⟨l, D, k0⟩, p, e, s, m, args, below, meth, c, A⟩ := x
  obtain ⟨hx, hb, hml, hown, hts, hr, hlk, hK, hA, hN, hS0⟩ := C
  subst hp
  intro H locs ls hH hl
  exact lv_ldc hx hb hown (hts _ hw) hd (k H locs ls hH hl)
theorem p_ldcw (C : CX own cc nL ret x) {index : Nat} {v : Int32} (hd : decode cc pc = .ok (.ldc_w index, 3)) (hp : pc + 3 = pc') (hw : Cond.constant own index v ∈ wG) (k : PT R nL x pc' lv (.int v :: st) Wd cl sl Q) : PT R nL x pc lv st Wd cl sl Q := by
  obtain ⟨⟨l, D, k0⟩, p, e, s, m, args, below, meth, c, A⟩ := x
  obtain ⟨hx, hb, hml, hown, hts, hr, hlk, hK, hA, hN, hS0⟩ := C
  subst hp
  intro H locs ls hH hl
  exact lv_ldcw hx hb hown (hts _ hw) hd (k H locs ls hH hl)
theorem p_iload_n (C : CX own cc nL ret x) {i : Fin 4} {v : Int32} (hd : decode cc pc = .ok (.iload_n i, 1)) (hp : pc + 1 = pc') (j : Nat) (hj : lv[j]? = some ((i : Nat), .int v)) (k : PT R nL x pc' lv (.int v :: st) Wd cl sl Q) : PT R nL x pc lv st Wd cl sl Q := by
  obtain ⟨⟨l, D, k0⟩, p, e, s, m, args, below, meth, c, A⟩ := x
  obtain ⟨hx, hb, hml, hown, hts, hr, hlk, hK, hA, hN, hS0⟩ := C
  subst hp
  intro H locs ls hH hl
  exact lv_iload_n hx hb hd rfl (lv_at hl j hj) (k H locs ls hH hl)
theorem p_iload (C : CX own cc nL ret x) {i : Nat} {v : Int32} (hd : decode cc pc = .ok (.iload i, 2)) (hp : pc + 2 = pc') (j : Nat) (hj : lv[j]? = some (i, .int v)) (k : PT R nL x pc' lv (.int v :: st) Wd cl sl Q) : PT R nL x pc lv st Wd cl sl Q := by
  obtain ⟨⟨l, D, k0⟩, p, e, s, m, args, below, meth, c, A⟩ := x
  obtain ⟨hx, hb, hml, hown, hts, hr, hlk, hK, hA, hN, hS0⟩ := C
  subst hp
  intro H locs ls hH hl
  exact lv_iload hx hb hd (lv_at hl j hj) (k H locs ls hH hl)
theorem p_aload_n (C : CX own cc nL ret x) {i : Fin 4} {v : Nat} (hd : decode cc pc = .ok (.aload_n i, 1)) (hp : pc + 1 = pc') (j : Nat) (hj : lv[j]? = some ((i : Nat), .ref v)) (k : PT R nL x pc' lv (.ref v :: st) Wd cl sl Q) : PT R nL x pc lv st Wd cl sl Q := by
  obtain ⟨⟨l, D, k0⟩, p, e, s, m, args, below, meth, c, A⟩ := x
  obtain ⟨hx, hb, hml, hown, hts, hr, hlk, hK, hA, hN, hS0⟩ := C
  subst hp
  intro H locs ls hH hl
  exact lv_aload_n hx hb hd rfl (lv_at hl j hj) (k H locs ls hH hl)
theorem p_aload (C : CX own cc nL ret x) {i : Nat} {v : Nat} (hd : decode cc pc = .ok (.aload i, 2)) (hp : pc + 2 = pc') (j : Nat) (hj : lv[j]? = some (i, .ref v)) (k : PT R nL x pc' lv (.ref v :: st) Wd cl sl Q) : PT R nL x pc lv st Wd cl sl Q := by
  obtain ⟨⟨l, D, k0⟩, p, e, s, m, args, below, meth, c, A⟩ := x
  obtain ⟨hx, hb, hml, hown, hts, hr, hlk, hK, hA, hN, hS0⟩ := C
  subst hp
  intro H locs ls hH hl
  exact lv_aload hx hb hd (lv_at hl j hj) (k H locs ls hH hl)
theorem p_istore_n (C : CX own cc nL ret x) {i : Fin 4} {v : Int32} (hd : decode cc pc = .ok (.istore_n i, 1)) (hp : pc + 1 = pc') (hn : (i : Nat) < nL) (hv : ((i : Nat), Value.int v) :: lv.filter (fun q => !(q.1 == (i : Nat)) && !(q.1 + 1 == (i : Nat) && q.2.category == 2)) = lv') (k : PT R nL x pc' lv' st Wd cl sl Q) : PT R nL x pc lv (.int v :: st) Wd cl sl Q := by
  obtain ⟨⟨l, D, k0⟩, p, e, s, m, args, below, meth, c, A⟩ := x
  obtain ⟨hx, hb, hml, hown, hts, hr, hlk, hK, hA, hN, hS0⟩ := C
  subst hp
  intro H locs ls hH hl
  exact lv_istore_n hx hb hd rfl hl hn hv (fun ls' hl' => k H locs ls' hH hl')
theorem p_istore (C : CX own cc nL ret x) {i : Nat} {v : Int32} (hd : decode cc pc = .ok (.istore i, 2)) (hp : pc + 2 = pc') (hn : i < nL) (hv : (i, Value.int v) :: lv.filter (fun q => !(q.1 == i) && !(q.1 + 1 == i && q.2.category == 2)) = lv') (k : PT R nL x pc' lv' st Wd cl sl Q) : PT R nL x pc lv (.int v :: st) Wd cl sl Q := by
  obtain ⟨⟨l, D, k0⟩, p, e, s, m, args, below, meth, c, A⟩ := x
  obtain ⟨hx, hb, hml, hown, hts, hr, hlk, hK, hA, hN, hS0⟩ := C
  subst hp
  intro H locs ls hH hl
  exact lv_istore hx hb hd hl hn hv (fun ls' hl' => k H locs ls' hH hl')
theorem p_astore_n (C : CX own cc nL ret x) {i : Fin 4} {v : Nat} (hd : decode cc pc = .ok (.astore_n i, 1)) (hp : pc + 1 = pc') (hn : (i : Nat) < nL) (hv : ((i : Nat), Value.ref v) :: lv.filter (fun q => !(q.1 == (i : Nat)) && !(q.1 + 1 == (i : Nat) && q.2.category == 2)) = lv') (k : PT R nL x pc' lv' st Wd cl sl Q) : PT R nL x pc lv (.ref v :: st) Wd cl sl Q := by
  obtain ⟨⟨l, D, k0⟩, p, e, s, m, args, below, meth, c, A⟩ := x
  obtain ⟨hx, hb, hml, hown, hts, hr, hlk, hK, hA, hN, hS0⟩ := C
  subst hp
  intro H locs ls hH hl
  exact lv_astore_n hx hb hd rfl hl hn hv (fun ls' hl' => k H locs ls' hH hl')
theorem p_iinc (C : CX own cc nL ret x) {i : Nat} {n : Int} {v w : Int32} (hd : decode cc pc = .ok (.iinc i n, 3)) (hp : pc + 3 = pc') (j : Nat) (hj : lv[j]? = some (i, .int v)) (hw : v + Int32.ofInt n = w) (hn : i < nL) (hv : (i, Value.int w) :: lv.filter (fun q => !(q.1 == i) && !(q.1 + 1 == i && q.2.category == 2)) = lv') (k : PT R nL x pc' lv' st Wd cl sl Q) : PT R nL x pc lv st Wd cl sl Q := by
  obtain ⟨⟨l, D, k0⟩, p, e, s, m, args, below, meth, c, A⟩ := x
  obtain ⟨hx, hb, hml, hown, hts, hr, hlk, hK, hA, hN, hS0⟩ := C
  subst hp
  intro H locs ls hH hl
  exact lv_iinc hx hb hd hl hj hw hn hv (fun ls' hl' => k H locs ls' hH hl')
theorem p_locals (is : List Nat) (h : lv_pick lv is = lv') (k : PT R nL x pc lv' st Wd cl sl Q) : PT R nL x pc lv st Wd cl sl Q := by
  obtain ⟨⟨l, D, k0⟩, p, e, s, m, args, below, meth, c, A⟩ := x
  intro H locs ls hH hl
  exact k H locs ls hH (lv_sub hl is h)
theorem p_iadd (C : CX own cc nL ret x) {v w : Int32} (hd : decode cc pc = .ok (.iadd, 1)) (hp : pc + 1 = pc') (k : PT R nL x pc' lv (.int (v + w) :: st) Wd cl sl Q) : PT R nL x pc lv (.int w :: .int v :: st) Wd cl sl Q := by
  obtain ⟨⟨l, D, k0⟩, p, e, s, m, args, below, meth, c, A⟩ := x
  obtain ⟨hx, hb, hml, hown, hts, hr, hlk, hK, hA, hN, hS0⟩ := C
  subst hp
  intro H locs ls hH hl
  exact lv_iadd hx hb hd (k H locs ls hH hl)
theorem p_isub (C : CX own cc nL ret x) {v w : Int32} (hd : decode cc pc = .ok (.isub, 1)) (hp : pc + 1 = pc') (k : PT R nL x pc' lv (.int (v - w) :: st) Wd cl sl Q) : PT R nL x pc lv (.int w :: .int v :: st) Wd cl sl Q := by
  obtain ⟨⟨l, D, k0⟩, p, e, s, m, args, below, meth, c, A⟩ := x
  obtain ⟨hx, hb, hml, hown, hts, hr, hlk, hK, hA, hN, hS0⟩ := C
  subst hp
  intro H locs ls hH hl
  exact lv_isub hx hb hd (k H locs ls hH hl)
theorem p_imul (C : CX own cc nL ret x) {v w : Int32} (hd : decode cc pc = .ok (.imul, 1)) (hp : pc + 1 = pc') (k : PT R nL x pc' lv (.int (v * w) :: st) Wd cl sl Q) : PT R nL x pc lv (.int w :: .int v :: st) Wd cl sl Q := by
  obtain ⟨⟨l, D, k0⟩, p, e, s, m, args, below, meth, c, A⟩ := x
  obtain ⟨hx, hb, hml, hown, hts, hr, hlk, hK, hA, hN, hS0⟩ := C
  subst hp
  intro H locs ls hH hl
  exact lv_imul hx hb hd (k H locs ls hH hl)
theorem p_iand (C : CX own cc nL ret x) {v w : Int32} (hd : decode cc pc = .ok (.iand, 1)) (hp : pc + 1 = pc') (k : PT R nL x pc' lv (.int (v &&& w) :: st) Wd cl sl Q) : PT R nL x pc lv (.int w :: .int v :: st) Wd cl sl Q := by
  obtain ⟨⟨l, D, k0⟩, p, e, s, m, args, below, meth, c, A⟩ := x
  obtain ⟨hx, hb, hml, hown, hts, hr, hlk, hK, hA, hN, hS0⟩ := C
  subst hp
  intro H locs ls hH hl
  exact lv_iand hx hb hd (k H locs ls hH hl)
theorem p_ior (C : CX own cc nL ret x) {v w : Int32} (hd : decode cc pc = .ok (.ior, 1)) (hp : pc + 1 = pc') (k : PT R nL x pc' lv (.int (v ||| w) :: st) Wd cl sl Q) : PT R nL x pc lv (.int w :: .int v :: st) Wd cl sl Q := by
  obtain ⟨⟨l, D, k0⟩, p, e, s, m, args, below, meth, c, A⟩ := x
  obtain ⟨hx, hb, hml, hown, hts, hr, hlk, hK, hA, hN, hS0⟩ := C
  subst hp
  intro H locs ls hH hl
  exact lv_ior hx hb hd (k H locs ls hH hl)
theorem p_ixor (C : CX own cc nL ret x) {v w : Int32} (hd : decode cc pc = .ok (.ixor, 1)) (hp : pc + 1 = pc') (k : PT R nL x pc' lv (.int (v ^^^ w) :: st) Wd cl sl Q) : PT R nL x pc lv (.int w :: .int v :: st) Wd cl sl Q := by
  obtain ⟨⟨l, D, k0⟩, p, e, s, m, args, below, meth, c, A⟩ := x
  obtain ⟨hx, hb, hml, hown, hts, hr, hlk, hK, hA, hN, hS0⟩ := C
  subst hp
  intro H locs ls hH hl
  exact lv_ixor hx hb hd (k H locs ls hH hl)
theorem p_ishl (C : CX own cc nL ret x) {v w : Int32} (hd : decode cc pc = .ok (.ishl, 1)) (hp : pc + 1 = pc') (k : PT R nL x pc' lv (.int (v <<< (w &&& 31)) :: st) Wd cl sl Q) : PT R nL x pc lv (.int w :: .int v :: st) Wd cl sl Q := by
  obtain ⟨⟨l, D, k0⟩, p, e, s, m, args, below, meth, c, A⟩ := x
  obtain ⟨hx, hb, hml, hown, hts, hr, hlk, hK, hA, hN, hS0⟩ := C
  subst hp
  intro H locs ls hH hl
  exact lv_ishl hx hb hd (k H locs ls hH hl)
theorem p_ishr (C : CX own cc nL ret x) {v w : Int32} (hd : decode cc pc = .ok (.ishr, 1)) (hp : pc + 1 = pc') (k : PT R nL x pc' lv (.int (v >>> (w &&& 31)) :: st) Wd cl sl Q) : PT R nL x pc lv (.int w :: .int v :: st) Wd cl sl Q := by
  obtain ⟨⟨l, D, k0⟩, p, e, s, m, args, below, meth, c, A⟩ := x
  obtain ⟨hx, hb, hml, hown, hts, hr, hlk, hK, hA, hN, hS0⟩ := C
  subst hp
  intro H locs ls hH hl
  exact lv_ishr hx hb hd (k H locs ls hH hl)
def ushr (v w : Int32) : Int32 := (v.toUInt32 >>> (w.toUInt32 &&& Int32.toUInt32 31)).toInt32
theorem p_iushr (C : CX own cc nL ret x) {v w : Int32} (hd : decode cc pc = .ok (.iushr, 1)) (hp : pc + 1 = pc') (k : PT R nL x pc' lv (.int (ushr v w) :: st) Wd cl sl Q) : PT R nL x pc lv (.int w :: .int v :: st) Wd cl sl Q := by
  obtain ⟨⟨l, D, k0⟩, p, e, s, m, args, below, meth, c, A⟩ := x
  obtain ⟨hx, hb, hml, hown, hts, hr, hlk, hK, hA, hN, hS0⟩ := C
  subst hp
  intro H locs ls hH hl
  exact lv_iushr hx hb hd rfl (k H locs ls hH hl)
theorem p_idiv (C : CX own cc nL ret x) {v w : Int32} (hd : decode cc pc = .ok (.idiv, 1)) (hp : pc + 1 = pc') (h0 : ¬ w = 0) (k : PT R nL x pc' lv (.int (v / w) :: st) Wd cl sl Q) : PT R nL x pc lv (.int w :: .int v :: st) Wd cl sl Q := by
  obtain ⟨⟨l, D, k0⟩, p, e, s, m, args, below, meth, c, A⟩ := x
  obtain ⟨hx, hb, hml, hown, hts, hr, hlk, hK, hA, hN, hS0⟩ := C
  subst hp
  intro H locs ls hH hl
  exact lv_idiv hx hb hd h0 (k H locs ls hH hl)
theorem p_irem (C : CX own cc nL ret x) {v w : Int32} (hd : decode cc pc = .ok (.irem, 1)) (hp : pc + 1 = pc') (h0 : ¬ w = 0) (k : PT R nL x pc' lv (.int (v - v / w * w) :: st) Wd cl sl Q) : PT R nL x pc lv (.int w :: .int v :: st) Wd cl sl Q := by
  obtain ⟨⟨l, D, k0⟩, p, e, s, m, args, below, meth, c, A⟩ := x
  obtain ⟨hx, hb, hml, hown, hts, hr, hlk, hK, hA, hN, hS0⟩ := C
  subst hp
  intro H locs ls hH hl
  exact lv_irem hx hb hd h0 (k H locs ls hH hl)
theorem p_ineg (C : CX own cc nL ret x) {v : Int32} (hd : decode cc pc = .ok (.ineg, 1)) (hp : pc + 1 = pc') (k : PT R nL x pc' lv (.int (-v) :: st) Wd cl sl Q) : PT R nL x pc lv (.int v :: st) Wd cl sl Q := by
  obtain ⟨⟨l, D, k0⟩, p, e, s, m, args, below, meth, c, A⟩ := x
  obtain ⟨hx, hb, hml, hown, hts, hr, hlk, hK, hA, hN, hS0⟩ := C
  subst hp
  intro H locs ls hH hl
  exact lv_ineg hx hb hd (k H locs ls hH hl)
theorem p_dup (C : CX own cc nL ret x) {v : Value} (hd : decode cc pc = .ok (.dup, 1)) (hp : pc + 1 = pc') (hc : v.category = 1) (k : PT R nL x pc' lv (v :: v :: st) Wd cl sl Q) : PT R nL x pc lv (v :: st) Wd cl sl Q := by
  obtain ⟨⟨l, D, k0⟩, p, e, s, m, args, below, meth, c, A⟩ := x
  obtain ⟨hx, hb, hml, hown, hts, hr, hlk, hK, hA, hN, hS0⟩ := C
  subst hp
  intro H locs ls hH hl
  exact lv_dup hx hb hd hc (k H locs ls hH hl)
theorem p_dup2 (C : CX own cc nL ret x) {v w : Value} (hd : decode cc pc = .ok (.dup2, 1)) (hp : pc + 1 = pc') (hc : v.category = 1) (hc2 : w.category = 1) (k : PT R nL x pc' lv (v :: w :: v :: w :: st) Wd cl sl Q) : PT R nL x pc lv (v :: w :: st) Wd cl sl Q := by
  obtain ⟨⟨l, D, k0⟩, p, e, s, m, args, below, meth, c, A⟩ := x
  obtain ⟨hx, hb, hml, hown, hts, hr, hlk, hK, hA, hN, hS0⟩ := C
  subst hp
  intro H locs ls hH hl
  exact lv_dup2_11 hx hb hd hc hc2 (k H locs ls hH hl)
theorem p_goto (C : CX own cc nL ret x) {off : Int} (hd : decode cc pc = .ok (.goto off, 3)) (hp : (pc : Int) + off = (pc' : Int)) (k : PT R nL x pc' lv st Wd cl sl Q) : PT R nL x pc lv st Wd cl sl Q := by
  obtain ⟨⟨l, D, k0⟩, p, e, s, m, args, below, meth, c, A⟩ := x
  obtain ⟨hx, hb, hml, hown, hts, hr, hlk, hK, hA, hN, hS0⟩ := C
  intro H locs ls hH hl
  exact lv_goto hx hb hd hp (k H locs ls hH hl)
theorem p_if_eq (C : CX own cc nL ret x) {off : Int} {v : Int32} (hd : decode cc pc = .ok (.ifCond .eq off, 3)) {tgt : Nat} (ht : (pc : Int) + off = (tgt : Int)) (hp : pc + 3 = pc') (kt : v = 0 → PT R nL x tgt lv st Wd cl sl Q) (kf : ¬ v = 0 → PT R nL x pc' lv st Wd cl sl Q) : PT R nL x pc lv (.int v :: st) Wd cl sl Q := by
  obtain ⟨⟨l, D, k0⟩, p, e, s, m, args, below, meth, c, A⟩ := x
  obtain ⟨hx, hb, hml, hown, hts, hr, hlk, hK, hA, hN, hS0⟩ := C
  subst hp
  intro H locs ls hH hl
  exact lv_if_eq hx hb hd ht (fun h => kt h H locs ls hH hl) (fun h => kf h H locs ls hH hl)
theorem p_icmp_eq (C : CX own cc nL ret x) {off : Int} {v w : Int32} (hd : decode cc pc = .ok (.if_icmp .eq off, 3)) {tgt : Nat} (ht : (pc : Int) + off = (tgt : Int)) (hp : pc + 3 = pc') (kt : v = w → PT R nL x tgt lv st Wd cl sl Q) (kf : ¬ v = w → PT R nL x pc' lv st Wd cl sl Q) : PT R nL x pc lv (.int w :: .int v :: st) Wd cl sl Q := by
  obtain ⟨⟨l, D, k0⟩, p, e, s, m, args, below, meth, c, A⟩ := x
  obtain ⟨hx, hb, hml, hown, hts, hr, hlk, hK, hA, hN, hS0⟩ := C
  subst hp
  intro H locs ls hH hl
  exact lv_icmp_eq hx hb hd ht (fun h => kt h H locs ls hH hl) (fun h => kf h H locs ls hH hl)
theorem p_if_ne (C : CX own cc nL ret x) {off : Int} {v : Int32} (hd : decode cc pc = .ok (.ifCond .ne off, 3)) {tgt : Nat} (ht : (pc : Int) + off = (tgt : Int)) (hp : pc + 3 = pc') (kt : ¬ v = 0 → PT R nL x tgt lv st Wd cl sl Q) (kf : v = 0 → PT R nL x pc' lv st Wd cl sl Q) : PT R nL x pc lv (.int v :: st) Wd cl sl Q := by
  obtain ⟨⟨l, D, k0⟩, p, e, s, m, args, below, meth, c, A⟩ := x
  obtain ⟨hx, hb, hml, hown, hts, hr, hlk, hK, hA, hN, hS0⟩ := C
  subst hp
  intro H locs ls hH hl
  exact lv_if_ne hx hb hd ht (fun h => kt h H locs ls hH hl) (fun h => kf h H locs ls hH hl)
theorem p_icmp_ne (C : CX own cc nL ret x) {off : Int} {v w : Int32} (hd : decode cc pc = .ok (.if_icmp .ne off, 3)) {tgt : Nat} (ht : (pc : Int) + off = (tgt : Int)) (hp : pc + 3 = pc') (kt : ¬ v = w → PT R nL x tgt lv st Wd cl sl Q) (kf : v = w → PT R nL x pc' lv st Wd cl sl Q) : PT R nL x pc lv (.int w :: .int v :: st) Wd cl sl Q := by
  obtain ⟨⟨l, D, k0⟩, p, e, s, m, args, below, meth, c, A⟩ := x
  obtain ⟨hx, hb, hml, hown, hts, hr, hlk, hK, hA, hN, hS0⟩ := C
  subst hp
  intro H locs ls hH hl
  exact lv_icmp_ne hx hb hd ht (fun h => kt h H locs ls hH hl) (fun h => kf h H locs ls hH hl)
theorem p_if_lt (C : CX own cc nL ret x) {off : Int} {v : Int32} (hd : decode cc pc = .ok (.ifCond .lt off, 3)) {tgt : Nat} (ht : (pc : Int) + off = (tgt : Int)) (hp : pc + 3 = pc') (kt : v < 0 → PT R nL x tgt lv st Wd cl sl Q) (kf : ¬ v < 0 → PT R nL x pc' lv st Wd cl sl Q) : PT R nL x pc lv (.int v :: st) Wd cl sl Q := by
  obtain ⟨⟨l, D, k0⟩, p, e, s, m, args, below, meth, c, A⟩ := x
  obtain ⟨hx, hb, hml, hown, hts, hr, hlk, hK, hA, hN, hS0⟩ := C
  subst hp
  intro H locs ls hH hl
  exact lv_if_lt hx hb hd ht (fun h => kt h H locs ls hH hl) (fun h => kf h H locs ls hH hl)
theorem p_icmp_lt (C : CX own cc nL ret x) {off : Int} {v w : Int32} (hd : decode cc pc = .ok (.if_icmp .lt off, 3)) {tgt : Nat} (ht : (pc : Int) + off = (tgt : Int)) (hp : pc + 3 = pc') (kt : v < w → PT R nL x tgt lv st Wd cl sl Q) (kf : ¬ v < w → PT R nL x pc' lv st Wd cl sl Q) : PT R nL x pc lv (.int w :: .int v :: st) Wd cl sl Q := by
  obtain ⟨⟨l, D, k0⟩, p, e, s, m, args, below, meth, c, A⟩ := x
  obtain ⟨hx, hb, hml, hown, hts, hr, hlk, hK, hA, hN, hS0⟩ := C
  subst hp
  intro H locs ls hH hl
  exact lv_icmp_lt hx hb hd ht (fun h => kt h H locs ls hH hl) (fun h => kf h H locs ls hH hl)
theorem p_if_ge (C : CX own cc nL ret x) {off : Int} {v : Int32} (hd : decode cc pc = .ok (.ifCond .ge off, 3)) {tgt : Nat} (ht : (pc : Int) + off = (tgt : Int)) (hp : pc + 3 = pc') (kt : 0 ≤ v → PT R nL x tgt lv st Wd cl sl Q) (kf : ¬ 0 ≤ v → PT R nL x pc' lv st Wd cl sl Q) : PT R nL x pc lv (.int v :: st) Wd cl sl Q := by
  obtain ⟨⟨l, D, k0⟩, p, e, s, m, args, below, meth, c, A⟩ := x
  obtain ⟨hx, hb, hml, hown, hts, hr, hlk, hK, hA, hN, hS0⟩ := C
  subst hp
  intro H locs ls hH hl
  exact lv_if_ge hx hb hd ht (fun h => kt h H locs ls hH hl) (fun h => kf h H locs ls hH hl)
theorem p_icmp_ge (C : CX own cc nL ret x) {off : Int} {v w : Int32} (hd : decode cc pc = .ok (.if_icmp .ge off, 3)) {tgt : Nat} (ht : (pc : Int) + off = (tgt : Int)) (hp : pc + 3 = pc') (kt : w ≤ v → PT R nL x tgt lv st Wd cl sl Q) (kf : ¬ w ≤ v → PT R nL x pc' lv st Wd cl sl Q) : PT R nL x pc lv (.int w :: .int v :: st) Wd cl sl Q := by
  obtain ⟨⟨l, D, k0⟩, p, e, s, m, args, below, meth, c, A⟩ := x
  obtain ⟨hx, hb, hml, hown, hts, hr, hlk, hK, hA, hN, hS0⟩ := C
  subst hp
  intro H locs ls hH hl
  exact lv_icmp_ge hx hb hd ht (fun h => kt h H locs ls hH hl) (fun h => kf h H locs ls hH hl)
theorem p_if_gt (C : CX own cc nL ret x) {off : Int} {v : Int32} (hd : decode cc pc = .ok (.ifCond .gt off, 3)) {tgt : Nat} (ht : (pc : Int) + off = (tgt : Int)) (hp : pc + 3 = pc') (kt : 0 < v → PT R nL x tgt lv st Wd cl sl Q) (kf : ¬ 0 < v → PT R nL x pc' lv st Wd cl sl Q) : PT R nL x pc lv (.int v :: st) Wd cl sl Q := by
  obtain ⟨⟨l, D, k0⟩, p, e, s, m, args, below, meth, c, A⟩ := x
  obtain ⟨hx, hb, hml, hown, hts, hr, hlk, hK, hA, hN, hS0⟩ := C
  subst hp
  intro H locs ls hH hl
  exact lv_if_gt hx hb hd ht (fun h => kt h H locs ls hH hl) (fun h => kf h H locs ls hH hl)
theorem p_icmp_gt (C : CX own cc nL ret x) {off : Int} {v w : Int32} (hd : decode cc pc = .ok (.if_icmp .gt off, 3)) {tgt : Nat} (ht : (pc : Int) + off = (tgt : Int)) (hp : pc + 3 = pc') (kt : w < v → PT R nL x tgt lv st Wd cl sl Q) (kf : ¬ w < v → PT R nL x pc' lv st Wd cl sl Q) : PT R nL x pc lv (.int w :: .int v :: st) Wd cl sl Q := by
  obtain ⟨⟨l, D, k0⟩, p, e, s, m, args, below, meth, c, A⟩ := x
  obtain ⟨hx, hb, hml, hown, hts, hr, hlk, hK, hA, hN, hS0⟩ := C
  subst hp
  intro H locs ls hH hl
  exact lv_icmp_gt hx hb hd ht (fun h => kt h H locs ls hH hl) (fun h => kf h H locs ls hH hl)
theorem p_if_le (C : CX own cc nL ret x) {off : Int} {v : Int32} (hd : decode cc pc = .ok (.ifCond .le off, 3)) {tgt : Nat} (ht : (pc : Int) + off = (tgt : Int)) (hp : pc + 3 = pc') (kt : v ≤ 0 → PT R nL x tgt lv st Wd cl sl Q) (kf : ¬ v ≤ 0 → PT R nL x pc' lv st Wd cl sl Q) : PT R nL x pc lv (.int v :: st) Wd cl sl Q := by
  obtain ⟨⟨l, D, k0⟩, p, e, s, m, args, below, meth, c, A⟩ := x
  obtain ⟨hx, hb, hml, hown, hts, hr, hlk, hK, hA, hN, hS0⟩ := C
  subst hp
  intro H locs ls hH hl
  exact lv_if_le hx hb hd ht (fun h => kt h H locs ls hH hl) (fun h => kf h H locs ls hH hl)
theorem p_icmp_le (C : CX own cc nL ret x) {off : Int} {v w : Int32} (hd : decode cc pc = .ok (.if_icmp .le off, 3)) {tgt : Nat} (ht : (pc : Int) + off = (tgt : Int)) (hp : pc + 3 = pc') (kt : v ≤ w → PT R nL x tgt lv st Wd cl sl Q) (kf : ¬ v ≤ w → PT R nL x pc' lv st Wd cl sl Q) : PT R nL x pc lv (.int w :: .int v :: st) Wd cl sl Q := by
  obtain ⟨⟨l, D, k0⟩, p, e, s, m, args, below, meth, c, A⟩ := x
  obtain ⟨hx, hb, hml, hown, hts, hr, hlk, hK, hA, hN, hS0⟩ := C
  subst hp
  intro H locs ls hH hl
  exact lv_icmp_le hx hb hd ht (fun h => kt h H locs ls hH hl) (fun h => kf h H locs ls hH hl)
theorem p_get (C : CX own cc nL ret x) {Cn ref : String} {T : u_T} {N ci index a : Nat} {fs : List Value} {v : Value} (hd : decode cc pc = .ok (.getfield index, 3)) (hp : pc + 3 = pc') (q0 k0 : Nat) (hin : ∀ w ∈ u_ws Cn T N, w ∈ wG) (hw : Cond.fieldLink own index ref (T k0).2.1 (T k0).2.2.1 ∈ wG) (he : Wd[q0]? = some (a, .inr (ci, fs))) (hc : vwCl[ci]? = some (Cn, T, N)) (hk : k0 < N) (href : (T k0).1 = ref) (hv : fs[k0]? = some v)
    (k : PT R nL x pc' lv (v :: st) Wd cl sl Q) : PT R nL x pc lv (.ref a :: st) Wd cl sl Q := by
  obtain ⟨⟨l, D, k1⟩, p, e, s, m, args, below, meth, c, A⟩ := x
  obtain ⟨hx, hb, hml, hown, hts, hr, hlk, hK, hA, hN, hS0⟩ := C
  subst hp
  subst href
  intro H locs ls hH hl
  exact va_get hx hb hts hin hown hK hH.1 q0 he hc k0 hk (hts _ hw) (fun _ h9 => h9) hv hd (k H locs ls hH hl)
theorem p_getN (C : CX own cc nL ret x) {Cn ref : String} {T : u_T} {N ci index a : Nat} {fs : List Value} {v : Value} (hd : decode cc pc = .ok (.getfield index, 3)) (hp : pc + 3 = pc') (q0 k0 : Nat) (hin : ∀ w ∈ u_ws Cn T N, w ∈ wG) (hw : (own, index, ref, (T k0).2.1, (T k0).2.2.1) ∈ nestFs) (he : Wd[q0]? = some (a, .inr (ci, fs))) (hc : vwCl[ci]? = some (Cn, T, N)) (hk : k0 < N) (href : (T k0).1 = ref) (hv : fs[k0]? = some v)
    (k : PT R nL x pc' lv (v :: st) Wd cl sl Q) : PT R nL x pc lv (.ref a :: st) Wd cl sl Q := by
  obtain ⟨⟨l, D, k1⟩, p, e, s, m, args, below, meth, c, A⟩ := x
  obtain ⟨hx, hb, hml, hown, hts, hr, hlk, hK, hA, hN, hS0⟩ := C
  subst hp
  subst href
  intro H locs ls hH hl
  exact va_getN hx hb hts hin hown hK hH.1 q0 he hc k0 hk (va_Nw.use rfl (hN.1 _ hw)) (fun _ h9 => h9) hv hd (k H locs ls hH hl)
theorem p_put (C : CX own cc nL ret x) {Cn ref : String} {T : u_T} {N ci index a : Nat} {fs : List Value} {v : Value} {ty : FieldType} (hd : decode cc pc = .ok (.putfield index, 3)) (hp : pc + 3 = pc') (q0 k0 : Nat) (hin : ∀ w ∈ u_ws Cn T N, w ∈ wG) (ty0 : Nat → FieldType) (hty : ∀ k, k < N → parseFieldDescriptor (T k).2.2.1 = some (ty0 k)) (hnm : ∀ a, a < N → ∀ b, b < N → a ≠ b → (T a).2.1 ≠ (T b).2.1) (hw : Cond.fieldLink own index ref (T k0).2.1 (T k0).2.2.1 ∈ wG) (he : Wd[q0]? = some (a, .inr (ci, fs))) (hc : vwCl[ci]? = some (Cn, T, N)) (hk : k0 < N) (href : (T k0).1 = ref) (hfin : (T k0).2.2.2 = false) (hdc : parseFieldDescriptor (T k0).2.2.1 = some ty) (hn : narrow ty v = v) (hfit : fits ty v = true) (hlen : k0 < fs.length) (hW : Wd.set q0 (a, .inr (ci, fs.set k0 v)) = Wd')
    (k : PT R nL x pc' lv st Wd' cl sl Q) : PT R nL x pc lv (v :: .ref a :: st) Wd cl sl Q := by
  obtain ⟨⟨l, D, k1⟩, p, e, s, m, args, below, meth, c, A⟩ := x
  obtain ⟨hx, hb, hml, hown, hts, hr, hlk, hK, hA, hN, hS0⟩ := C
  subst hp
  subst href
  subst hW
  intro H locs ls hH hl
  exact va_put hx hb hts hin ty0 hty hnm hown hK hH.1 hH.2.1 hH.2.2 q0 he hc k0 hk (hts _ hw) (fun _ h9 => h9) hfin hdc hn hfit hlen hd (fun H1 locs1 hP hD hS => k H1 locs1 ls ⟨hP, hD, hS⟩ hl)
theorem p_putN (C : CX own cc nL ret x) {Cn ref : String} {T : u_T} {N ci index a : Nat} {fs : List Value} {v : Value} {ty : FieldType} (hd : decode cc pc = .ok (.putfield index, 3)) (hp : pc + 3 = pc') (q0 k0 : Nat) (hin : ∀ w ∈ u_ws Cn T N, w ∈ wG) (ty0 : Nat → FieldType) (hty : ∀ k, k < N → parseFieldDescriptor (T k).2.2.1 = some (ty0 k)) (hnm : ∀ a, a < N → ∀ b, b < N → a ≠ b → (T a).2.1 ≠ (T b).2.1) (hw : (own, index, ref, (T k0).2.1, (T k0).2.2.1) ∈ nestFs) (he : Wd[q0]? = some (a, .inr (ci, fs))) (hc : vwCl[ci]? = some (Cn, T, N)) (hk : k0 < N) (href : (T k0).1 = ref) (hfin : (T k0).2.2.2 = false) (hdc : parseFieldDescriptor (T k0).2.2.1 = some ty) (hn : narrow ty v = v) (hfit : fits ty v = true) (hlen : k0 < fs.length) (hW : Wd.set q0 (a, .inr (ci, fs.set k0 v)) = Wd')
    (k : PT R nL x pc' lv st Wd' cl sl Q) : PT R nL x pc lv (v :: .ref a :: st) Wd cl sl Q := by
  obtain ⟨⟨l, D, k1⟩, p, e, s, m, args, below, meth, c, A⟩ := x
  obtain ⟨hx, hb, hml, hown, hts, hr, hlk, hK, hA, hN, hS0⟩ := C
  subst hp
  subst href
  subst hW
  intro H locs ls hH hl
  exact va_putN hx hb hts hin ty0 hty hnm hown hK hH.1 hH.2.1 hH.2.2 q0 he hc k0 hk (va_Nw.use rfl (hN.1 _ hw)) (fun _ h9 => h9) hfin hdc hn hfit hlen hd (fun H1 locs1 hP hD hS => k H1 locs1 ls ⟨hP, hD, hS⟩ hl)
theorem p_iald (C : CX own cc nL ret x) {a n : Nat} {f : Ar} {i : Int32} (hd : decode cc pc = .ok (.iaload, 1)) (hp : pc + 1 = pc') (q0 : Nat) (ha : Wd[q0]? = some (a, .inl (x.1.2.2.1, n, .inl f))) (hg : gI i n = true)
    (k : PT R nL x pc' lv (.int (f i.toNatClampNeg) :: st) Wd cl sl Q) : PT R nL x pc lv (.int i :: .ref a :: st) Wd cl sl Q := by
  obtain ⟨⟨l, D, k1⟩, p, e, s, m, args, below, meth, c, A⟩ := x
  obtain ⟨hx, hb, hml, hown, hts, hr, hlk, hK, hA, hN, hS0⟩ := C
  subst hp
  intro H locs ls hH hl
  exact va_iald hx hb hK hH.1 q0 0 ha rfl (gI_in hg) hd (k H locs ls hH hl)
theorem p_zald (C : CX own cc nL ret x) {a n : Nat} {f : Ar} {i : Int32} (hd : decode cc pc = .ok (.baload, 1)) (hp : pc + 1 = pc') (q0 : Nat) (ha : Wd[q0]? = some (a, .inl (x.1.2.2.2.1, n, .inl f))) (hg : gI i n = true)
    (k : PT R nL x pc' lv (.int (f i.toNatClampNeg) :: st) Wd cl sl Q) : PT R nL x pc lv (.int i :: .ref a :: st) Wd cl sl Q := by
  obtain ⟨⟨l, D, k1⟩, p, e, s, m, args, below, meth, c, A⟩ := x
  obtain ⟨hx, hb, hml, hown, hts, hr, hlk, hK, hA, hN, hS0⟩ := C
  subst hp
  intro H locs ls hH hl
  exact va_zald hx hb hK hH.1 q0 1 ha rfl (gI_in hg) hd (k H locs ls hH hl)
theorem p_iast (C : CX own cc nL ret x) {a n : Nat} {f : Ar} {i v : Int32} (hd : decode cc pc = .ok (.iastore, 1)) (hp : pc + 1 = pc') (q0 : Nat) (ha : Wd[q0]? = some (a, .inl (x.1.2.2.1, n, .inl f))) (hg : gI i n = true) (hW : Wd.set q0 (a, .inl (x.1.2.2.1, n, .inl (upd f i.toNatClampNeg v))) = Wd')
    (k : PT R nL x pc' lv st Wd' cl sl Q) : PT R nL x pc lv (.int v :: .int i :: .ref a :: st) Wd cl sl Q := by
  obtain ⟨⟨l, D, k1⟩, p, e, s, m, args, below, meth, c, A⟩ := x
  obtain ⟨hx, hb, hml, hown, hts, hr, hlk, hK, hA, hN, hS0⟩ := C
  subst hp
  subst hW
  intro H locs ls hH hl
  exact va_iast hx hb hK hH.1 hH.2.1 hH.2.2 q0 0 ha rfl (gI_in hg) hd (fun H1 locs1 hP hD hS => k H1 locs1 ls ⟨hP, hD, hS⟩ hl)
theorem p_zast (C : CX own cc nL ret x) {a n : Nat} {f : Ar} {i v : Int32} (hd : decode cc pc = .ok (.bastore, 1)) (hp : pc + 1 = pc') (q0 : Nat) (ha : Wd[q0]? = some (a, .inl (x.1.2.2.2.1, n, .inl f))) (hg : gI i n = true) (hW : Wd.set q0 (a, .inl (x.1.2.2.2.1, n, .inl (upd f i.toNatClampNeg (vp_nar .boolean v)))) = Wd')
    (k : PT R nL x pc' lv st Wd' cl sl Q) : PT R nL x pc lv (.int v :: .int i :: .ref a :: st) Wd cl sl Q := by
  obtain ⟨⟨l, D, k1⟩, p, e, s, m, args, below, meth, c, A⟩ := x
  obtain ⟨hx, hb, hml, hown, hts, hr, hlk, hK, hA, hN, hS0⟩ := C
  subst hp
  subst hW
  intro H locs ls hH hl
  exact va_zast hx hb hK hH.1 hH.2.1 hH.2.2 q0 1 ha rfl (gI_in hg) hd (fun H1 locs1 hP hD hS => k H1 locs1 ls ⟨hP, hD, hS⟩ hl)
theorem p_aald (C : CX own cc nL ret x) {a n b : Nat} {f : Nat → Option Nat} {i : Int32} (hd : decode cc pc = .ok (.aaload, 1)) (hp : pc + 1 = pc') (q0 : Nat) (ha : Wd[q0]? = some (a, .inl (x.1.2.2.2.2, n, .inr (.inr (.inr (.inr f)))))) (hg : gI i n = true) (hv : f i.toNatClampNeg = some b)
    (k : PT R nL x pc' lv (.ref b :: st) Wd cl sl Q) : PT R nL x pc lv (.int i :: .ref a :: st) Wd cl sl Q := by
  obtain ⟨⟨l, D, k1⟩, p, e, s, m, args, below, meth, c, A⟩ := x
  obtain ⟨hx, hb, hml, hown, hts, hr, hlk, hK, hA, hN, hS0⟩ := C
  subst hp
  intro H locs ls hH hl
  refine va_aldq hx hb hK hH.1 q0 2 ha rfl (gI_in hg) hd ?_
  rw [hv]
  exact k H locs ls hH hl
def TT (x : Cxt) (t : Nat) (f : Nat → Int32) : Prop := va_T .int t 6 (fun j => .int (f j)) x.2.2.2.2.2.2.2.2.2 x.2.2.2.1 x.2.2.2.1.heap
theorem p_getsL (C : CX own cc nL ret x) {index : Nat} (hd : decode cc pc = .ok (.getstatic index, 3)) (hp : pc + 3 = pc') (hw : Cond.fieldLink own index "NeedlePairs" "LESSER_NET" "[I" ∈ wG) (k : ∀ t, TT x t LNf → PT R nL x pc' lv (.ref t :: st) Wd cl sl Q) : PT R nL x pc lv st Wd cl sl Q := by
  obtain ⟨⟨l, D, k1⟩, p, e, s, m, args, below, meth, c, A⟩ := x
  obtain ⟨hx, hb, hml, hown, hts, hr, hlk, hK, hA, hN, t1, t2, z1, y1, z2, y2⟩ := C
  subst hp
  intro H locs ls hH hl
  exact va_gets hx hb z1 hH.2.2 hown (hts _ hw) (fun _ h9 => h9) hd (k t1 y1 H locs ls hH hl)
theorem p_getsG (C : CX own cc nL ret x) {index : Nat} (hd : decode cc pc = .ok (.getstatic index, 3)) (hp : pc + 3 = pc') (hw : Cond.fieldLink own index "NeedlePairs" "GREATER_NET" "[I" ∈ wG) (k : ∀ t, TT x t GNf → PT R nL x pc' lv (.ref t :: st) Wd cl sl Q) : PT R nL x pc lv st Wd cl sl Q := by
  obtain ⟨⟨l, D, k1⟩, p, e, s, m, args, below, meth, c, A⟩ := x
  obtain ⟨hx, hb, hml, hown, hts, hr, hlk, hK, hA, hN, t1, t2, z1, y1, z2, y2⟩ := C
  subst hp
  intro H locs ls hH hl
  exact va_gets hx hb z2 hH.2.2 hown (hts _ hw) (fun _ h9 => h9) hd (k t2 y2 H locs ls hH hl)
theorem p_getsLN (C : CX own cc nL ret x) {index : Nat} (hd : decode cc pc = .ok (.getstatic index, 3)) (hp : pc + 3 = pc') (hw : (own, index, "NeedlePairs", "LESSER_NET", "[I") ∈ nestFs) (k : ∀ t, TT x t LNf → PT R nL x pc' lv (.ref t :: st) Wd cl sl Q) : PT R nL x pc lv st Wd cl sl Q := by
  obtain ⟨⟨l, D, k1⟩, p, e, s, m, args, below, meth, c, A⟩ := x
  obtain ⟨hx, hb, hml, hown, hts, hr, hlk, hK, hA, hN, t1, t2, z1, y1, z2, y2⟩ := C
  subst hp
  intro H locs ls hH hl
  exact va_getsN hx hb z1 hH.2.2 hown (va_Nw.use rfl (hN.1 _ hw)) (fun _ h9 => h9) hd (k t1 y1 H locs ls hH hl)
theorem p_getsGN (C : CX own cc nL ret x) {index : Nat} (hd : decode cc pc = .ok (.getstatic index, 3)) (hp : pc + 3 = pc') (hw : (own, index, "NeedlePairs", "GREATER_NET", "[I") ∈ nestFs) (k : ∀ t, TT x t GNf → PT R nL x pc' lv (.ref t :: st) Wd cl sl Q) : PT R nL x pc lv st Wd cl sl Q := by
  obtain ⟨⟨l, D, k1⟩, p, e, s, m, args, below, meth, c, A⟩ := x
  obtain ⟨hx, hb, hml, hown, hts, hr, hlk, hK, hA, hN, t1, t2, z1, y1, z2, y2⟩ := C
  subst hp
  intro H locs ls hH hl
  exact va_getsN hx hb z2 hH.2.2 hown (va_Nw.use rfl (hN.1 _ hw)) (fun _ h9 => h9) hd (k t2 y2 H locs ls hH hl)
theorem p_tald (C : CX own cc nL ret x) {t : Nat} {f : Nat → Int32} {i : Int32} (hT : TT x t f) (hd : decode cc pc = .ok (.iaload, 1)) (hp : pc + 1 = pc') (hg : gI i 6 = true)
    (k : PT R nL x pc' lv (.int (f i.toNatClampNeg) :: st) Wd cl sl Q) : PT R nL x pc lv (.int i :: .ref t :: st) Wd cl sl Q := by
  obtain ⟨⟨l, D, k1⟩, p, e, s, m, args, below, meth, c, A⟩ := x
  obtain ⟨hx, hb, hml, hown, hts, hr, hlk, hK, hA, hN, hS0⟩ := C
  subst hp
  intro H locs ls hH hl
  exact va_ti hx hb hT hH.2.2 (gI_in hg) rfl hd (k H locs ls hH hl)
theorem p_mmax (C : CX own cc nL ret x) {index : Nat} {v w : Int32} (hd : decode cc pc = .ok (.invokestatic index, 3)) (hp : pc + 3 = pc') (hw : Cond.methodLink own index Lib.Math.max.name ∈ wG) (h2 : Cond.static Lib.Math.max.name ∈ wG ∧ Cond.initialized "java/lang/Math" ∈ wG ∧ Cond.code Lib.Math.max.name Lib.Math.max.code 2 (some .int) ∈ wG) (hR : 1 ≤ R.frames ∧ (st.map fun v => v.category).sum + 13 ≤ R.locals) (hC : cl ≤ R.cells ∧ sl ≤ R.slots)
    (k : PT R nL x pc' lv (.int (if v < w then w else v) :: st) Wd cl sl Q) : PT R nL x pc lv (.int w :: .int v :: st) Wd cl sl Q := by
  obtain ⟨⟨l, D, k1⟩, p, e, s, m, args, below, meth, c, A⟩ := x
  obtain ⟨hx, hb, hml, hown, hts, hr, hlk, hK, hA, hN, hS0⟩ := C
  subst hp
  intro H locs ls hH hl
  exact va_mmax hx hb (by rw [hml]; exact hl.1.symm) hown (hts _ hw) (hts _ h2.1) (hts _ h2.2.1) (hts _ h2.2.2) hR.1 hR.2 hC.1 hC.2 hd (k H locs ls hH hl)
theorem p_mmin (C : CX own cc nL ret x) {index : Nat} {v w : Int32} (hd : decode cc pc = .ok (.invokestatic index, 3)) (hp : pc + 3 = pc') (hw : Cond.methodLink own index Lib.Math.min.name ∈ wG) (h2 : Cond.static Lib.Math.min.name ∈ wG ∧ Cond.initialized "java/lang/Math" ∈ wG ∧ Cond.code Lib.Math.min.name Lib.Math.min.code 2 (some .int) ∈ wG) (hR : 1 ≤ R.frames ∧ (st.map fun v => v.category).sum + 13 ≤ R.locals) (hC : cl ≤ R.cells ∧ sl ≤ R.slots)
    (k : PT R nL x pc' lv (.int (if w < v then w else v) :: st) Wd cl sl Q) : PT R nL x pc lv (.int w :: .int v :: st) Wd cl sl Q := by
  obtain ⟨⟨l, D, k1⟩, p, e, s, m, args, below, meth, c, A⟩ := x
  obtain ⟨hx, hb, hml, hown, hts, hr, hlk, hK, hA, hN, hS0⟩ := C
  subst hp
  intro H locs ls hH hl
  exact va_mmin hx hb (by rw [hml]; exact hl.1.symm) hown (hts _ hw) (hts _ h2.1) (hts _ h2.2.1) (hts _ h2.2.2) hR.1 hR.2 hC.1 hC.2 hd (k H locs ls hH hl)
theorem p_mabs (C : CX own cc nL ret x) {index : Nat} {v : Int32} (hd : decode cc pc = .ok (.invokestatic index, 3)) (hp : pc + 3 = pc') (hw : Cond.methodLink own index Lib.Math.abs.name ∈ wG) (h2 : Cond.static Lib.Math.abs.name ∈ wG ∧ Cond.initialized "java/lang/Math" ∈ wG ∧ Cond.code Lib.Math.abs.name Lib.Math.abs.code 1 (some .int) ∈ wG) (hR : 1 ≤ R.frames ∧ (st.map fun v => v.category).sum + 13 ≤ R.locals) (hC : cl ≤ R.cells ∧ sl ≤ R.slots)
    (k : PT R nL x pc' lv (.int (if 0 ≤ v then v else 0 - v) :: st) Wd cl sl Q) : PT R nL x pc lv (.int v :: st) Wd cl sl Q := by
  obtain ⟨⟨l, D, k1⟩, p, e, s, m, args, below, meth, c, A⟩ := x
  obtain ⟨hx, hb, hml, hown, hts, hr, hlk, hK, hA, hN, hS0⟩ := C
  subst hp
  intro H locs ls hH hl
  exact va_mabs hx hb (by rw [hml]; exact hl.1.symm) hown (hts _ hw) (hts _ h2.1) (hts _ h2.2.1) (hts _ h2.2.2) hR.1 hR.2 hC.1 hC.2 hd (k H locs ls hH hl)
/-- returns -/
theorem p_iret (C : CX own cc nL (some .int) x) {v : Int32} (hd : decode cc pc = .ok (.ireturn, 1)) : PT R nL x pc lv [.int v] Wd 0 0 (QI x v Wd) := by
  obtain ⟨⟨l, D, k1⟩, p, e, s, m, args, below, meth, c, A⟩ := x
  obtain ⟨hx, hb, hml, hown, hts, hr, hlk, hK, hA, hN, hS0⟩ := C
  intro H locs ls hH hl
  exact W.iret (v := v) hx hb hr (fun t ht hW => ⟨⟨v, (), rfl, rfl, by show va_P D vwCl Wd t.heap; rw [ht]; exact hH.1⟩, hH.2.2.F ht⟩) hH.2.2.2.2 hd
theorem p_zret (C : CX own cc nL (some .boolean) x) {v : Int32} (hd : decode cc pc = .ok (.ireturn, 1)) (hn : narrow .boolean (.int v) = .int v) : PT R nL x pc lv [.int v] Wd 0 0 (QI x v Wd) := by
  obtain ⟨⟨l, D, k1⟩, p, e, s, m, args, below, meth, c, A⟩ := x
  obtain ⟨hx, hb, hml, hown, hts, hr, hlk, hK, hA, hN, hS0⟩ := C
  intro H locs ls hH hl
  exact W.zret (v := v) hx hb hr hn (fun t ht hW => ⟨⟨v, (), rfl, rfl, by show va_P D vwCl Wd t.heap; rw [ht]; exact hH.1⟩, hH.2.2.F ht⟩) hH.2.2.2.2 hd
theorem p_vret (C : CX own cc nL none x) (hd : decode cc pc = .ok (.return_, 1)) : PT R nL x pc lv [] Wd 0 0 (QV x Wd) := by
  obtain ⟨⟨l, D, k1⟩, p, e, s, m, args, below, meth, c, A⟩ := x
  obtain ⟨hx, hb, hml, hown, hts, hr, hlk, hK, hA, hN, hS0⟩ := C
  intro H locs ls hH hl
  exact W.vret hx hb hr (fun t ht hW => ⟨⟨(), rfl, trivial, by show va_P D vwCl Wd t.heap; rw [ht]; exact hH.1⟩, hH.2.2.F ht⟩) hH.2.2.2.2 hd
end RW
end
section
def wput : va_W → List Nat → va_W → va_W
  | Wd, i :: is, c :: cs => wput (Wd.set i c) is cs
  | Wd, _, _ => Wd
theorem wput_ok {D : va_G} {cl : List vw_C} {A : Nat → Prop} {H1 : Heap} : ∀ (is : List Nat) (cs : va_W) (Wd : va_W), (∀ (k : Nat) (q : Nat × va_E), Wd[k]? = some q → k ∉ is → va_at D cl q H1) → (∀ (j i : Nat) (c : Nat × va_E), is[j]? = some i → cs[j]? = some c → ∃ q, Wd[i]? = some q ∧ q.1 = c.1) → (∀ (j : Nat) (c : Nat × va_E), cs[j]? = some c → va_at D cl c H1) → is.length = cs.length → va_D A Wd → va_P D cl (wput Wd is cs) H1 ∧ va_D A (wput Wd is cs) := by
  intro is
  induction is with
  | nil =>
    intro cs Wd h1 h2 h3 h4 h5
    cases cs with
    | nil => exact ⟨fun k q hk => h1 k q hk (by simp), h5⟩
    | cons c cs => simp at h4
  | cons i is ih =>
    intro cs Wd h1 h2 h3 h4 h5
    cases cs with
    | nil => simp at h4
    | cons c cs =>
      obtain ⟨q, hq, he⟩ := h2 0 i c rfl rfl
      have hset : Wd.set i c = Wd.set i (q.1, c.2) := by rw [he]
      refine ih cs (Wd.set i c) ?_ ?_ (fun j c' hj => h3 (j + 1) c' (by simpa using hj)) (by simpa using h4) (by rw [hset]; exact h5.set (e0 := q.2) hq)
      · intro k q' hk hn
        by_cases hki : k = i
        · subst hki
          rw [List.getElem?_set] at hk
          split at hk
          · split at hk
            · cases hk
              exact h3 0 c rfl
            · cases hk
          · rename_i hne
            exact absurd rfl hne
        · rw [List.getElem?_set_ne (Ne.symm hki)] at hk
          exact h1 k q' hk (by simp [hki, hn])
      · intro j i' c' hj hc
        obtain ⟨q2, hq2, he2⟩ := h2 (j + 1) i' c' (by simpa using hj) (by simpa using hc)
        by_cases hii : i' = i
        · subst hii
          refine ⟨c, ?_, ?_⟩
          · have hlt : i' < Wd.length := by
              rcases Nat.lt_or_ge i' Wd.length with h | h
              · exact h
              · rw [List.getElem?_eq_none h] at hq2; cases hq2
            rw [List.getElem?_set_self hlt]
          · rw [hq] at hq2
            cases hq2
            rw [← he, he2]
        · exact ⟨q2, by rw [List.getElem?_set_ne (Ne.symm hii)]; exact hq2, he2⟩
theorem hC_at {Wd Wc : va_W} {isC : List Nat} (hC : isC.map (fun i => Wd[i]?) = Wc.map some) {j : Nat} {c : Nat × va_E} (hc : Wc[j]? = some c) : ∃ i, isC[j]? = some i ∧ Wd[i]? = some c := by
  have h1 : (isC.map (fun i => Wd[i]?))[j]? = some (some c) := by rw [hC, List.getElem?_map, hc]; rfl
  rw [List.getElem?_map] at h1
  cases hi : isC[j]? with
  | none => rw [hi] at h1; cases h1
  | some i => rw [hi] at h1; exact ⟨i, rfl, Option.some.inj h1⟩
theorem hC_P {D : va_G} {cl : List vw_C} {Wd Wc : va_W} {isC : List Nat} {H : Heap} (hC : isC.map (fun i => Wd[i]?) = Wc.map some) (hP : va_P D cl Wd H) : va_P D cl Wc H := by
  intro k q hk
  obtain ⟨i, -, hi⟩ := hC_at hC hk
  exact hP i q hi
theorem call_ok {D : va_G} {cl : List vw_C} {A : Nat → Prop} {Wd Wc Wc' : va_W} {isC : List Nat} {H H1 : Heap} (hP : va_P D cl Wd H) (hD : va_D A Wd) (hC : isC.map (fun i => Wd[i]?) = Wc.map some) (hF : Wc'.map Prod.fst = Wc.map Prod.fst) (hP1 : va_P D cl Wc' H1) (hk1 : ∀ q : Nat, q < H.size → ¬ va_A Wc H.size q → H1[q]? = H[q]?) : va_P D cl (wput Wd isC Wc') H1 ∧ va_D A (wput Wd isC Wc') := by
  have hl1 : isC.length = Wc.length := by simpa using congrArg List.length hC
  have hl2 : Wc'.length = Wc.length := by simpa using congrArg List.length hF
  refine wput_ok isC Wc' Wd ?_ ?_ (fun j c hj => hP1 j c hj) (by omega) hD
  · intro k q hk hn
    have h0 := hP k q hk
    refine h0.kept (hk1 q.1 h0.lt ?_)
    intro hA
    rcases hA with ⟨j, e, hj⟩ | hA
    · obtain ⟨i, hi, hw⟩ := hC_at hC hj
      have := hD.1 k i q (q.1, e) hk hw rfl
      subst this
      exact hn (List.mem_of_getElem? hi)
    · exact absurd h0.lt (Nat.not_lt.mpr hA)
  · intro j i c hj hc
    have hj2 : j < Wc.length := by
      rcases Nat.lt_or_ge j Wc.length with h | h
      · exact h
      · rw [List.getElem?_eq_none (by omega)] at hj; cases hj
    have hcj : Wc[j]? = some (Wc[j]'hj2) := List.getElem?_eq_getElem hj2
    obtain ⟨i2, hi2, hw⟩ := hC_at hC hcj
    rw [hj] at hi2
    cases hi2
    refine ⟨_, hw, ?_⟩
    have h9 : (Wc'.map Prod.fst)[j]? = (Wc.map Prod.fst)[j]? := by rw [hF]
    rw [List.getElem?_map, List.getElem?_map, hc, hcj] at h9
    exact (Option.some.inj h9).symm
theorem wU_good {y : MethodName} {cc : ByteArray} {nL : Nat} {ret : Option FieldType} (h : Cond.code y cc nL ret ∈ wG) : GoodIn wG (wU y cc nL ret) := fun w hw => (List.mem_cons.mp hw).elim (fun e => e ▸ wG_good _ h) (wG_good w)
section CL
variable {own : String} {cc : ByteArray} {nL : Nat} {ret : Option FieldType} {R : Room} {x : Cxt} {pc pc' : Nat} {lv lv' : List (Nat × Value)} {st st' : List Value} {Wd Wd' : va_W} {cl sl : Nat} {Q : State → Prop} {y : MethodName} {cc' : ByteArray} {nL' : Nat} {ret' : Option FieldType} {rm' : Room} {As : List Value} {Wc Wc' : va_W} {r : Int32} {index b : Nat}
theorem p_callVi (C : CX own cc nL ret x) (hM : Ci x.1 y (wU y cc' nL' ret') rm' (.ref b :: As) Wc Wc' r) (hd : decode cc pc = .ok (.invokevirtual index, 3)) (hp : pc + 3 = pc') (hl0 : Cond.methodLink own index y ∈ wG) (hv : Cond.instanceMethod y ∈ wG ∧ Cond.selects y.cls y y ∈ wG ∧ Cond.initialized y.cls ∈ wG ∧ Cond.code y cc' nL' ret' ∈ wG) (hdsc : y.cls ≠ "java/lang/invoke/MethodHandle" ∧ y.cls ≠ "java/lang/invoke/VarHandle" ∧ (parseMethodDescriptor y.desc).map (fun d => d.parameters.length) = some As.length) (hR : rm'.cells = 0 ∧ rm'.slots = 0 ∧ rm'.frames + 1 ≤ R.frames ∧ 8 + (nL' + 11) + rm'.locals ≤ R.locals) {ci N : Nat} {T : u_T} {fs : List Value} (q0 : Nat) (hrc : Wc[q0]? = some (b, .inr (ci, fs))) (hvc : vwCl[ci]? = some (y.cls, T, N)) (isC : List Nat) (hC : isC.map (fun i => Wd[i]?) = Wc.map some) (hnd : va_nd isC = true) (hF : Wc'.map Prod.fst = Wc.map Prod.fst) (hst : st = As.reverse ++ .ref b :: st') (hcat : (st'.map fun v => v.category).sum ≤ 8) (hcs : cl + 0 ≤ R.cells ∧ sl + 0 ≤ R.slots) (hW : wput Wd isC Wc' = Wd')
    (k : PT R nL x pc' lv (.int r :: st') Wd' cl sl Q) : PT R nL x pc lv st Wd cl sl Q := by
  obtain ⟨⟨l, D, k0⟩, p, e, s, m, args, below, meth, c, A⟩ := x
  obtain ⟨hx, hb, hml, hown, hts, hr, hlk, hK, hA, hN, hS0⟩ := C
  subst hp
  subst hst
  subst hW
  intro H locs ls hH hl
  obtain ⟨hP, hD, hS⟩ := hH
  have hPc : va_P D vwCl Wc H := hC_P hC hP
  have hDc : va_D (fun _ => True) Wc := (hD.sub isC hnd hC).weaken (fun _ _ _ _ => trivial)
  have hFc : ∀ q, va_A Wc H.size q → A q := va_free (wc := Wc) hD hS hA isC hC
  refine va_calli (va_runV (As := As) (rest := st') ⟨hx, hb, hml, hown, hts⟩ (hM H.size) ⟨callB_of As.length hts (wU_good hv.2.2.2) rfl hR.1 hR.2.1 (hts _ hv.2.2.1) (hts _ hl0) hdsc hR.2.2, hts _ hv.1, hts _ hv.2.1⟩ ⟨PreC.blind _ _ _ _, va_recv hK hPc hvc hrc, fun U hU hW => ⟨rfl, by rw [hU], by rw [hU]; exact hPc, va_K.moved hW.alike hK, hDc, NW.warm hW hN, by rw [hU]; exact ((hS0.kept hS.2.1).narrow hFc).moved hW.alike⟩⟩ rfl rfl hl.1 rfl (lv_room hcat) hd hcs) hS (fun q _ h => hFc q h) hFc (fun r1 u t H1 locs1 ht hvm hw hB hz1 hk1 hS1 => ?_)
  have hB : va_P D vwCl Wc' t.heap := hB
  rw [ht] at hB
  have hJ := call_ok hP hD hC hF hB hk1
  subst hw
  exact k H1 locs1 ls ⟨hJ.1, hJ.2, hS1⟩ hl
theorem p_callVv (C : CX own cc nL ret x) (hM : Cv x.1 y (wU y cc' nL' ret') rm' (.ref b :: As) Wc Wc') (hd : decode cc pc = .ok (.invokevirtual index, 3)) (hp : pc + 3 = pc') (hl0 : Cond.methodLink own index y ∈ wG) (hv : Cond.instanceMethod y ∈ wG ∧ Cond.selects y.cls y y ∈ wG ∧ Cond.initialized y.cls ∈ wG ∧ Cond.code y cc' nL' ret' ∈ wG) (hdsc : y.cls ≠ "java/lang/invoke/MethodHandle" ∧ y.cls ≠ "java/lang/invoke/VarHandle" ∧ (parseMethodDescriptor y.desc).map (fun d => d.parameters.length) = some As.length) (hR : rm'.cells = 0 ∧ rm'.slots = 0 ∧ rm'.frames + 1 ≤ R.frames ∧ 8 + (nL' + 11) + rm'.locals ≤ R.locals) {ci N : Nat} {T : u_T} {fs : List Value} (q0 : Nat) (hrc : Wc[q0]? = some (b, .inr (ci, fs))) (hvc : vwCl[ci]? = some (y.cls, T, N)) (isC : List Nat) (hC : isC.map (fun i => Wd[i]?) = Wc.map some) (hnd : va_nd isC = true) (hF : Wc'.map Prod.fst = Wc.map Prod.fst) (hst : st = As.reverse ++ .ref b :: st') (hcat : (st'.map fun v => v.category).sum ≤ 8) (hcs : cl + 0 ≤ R.cells ∧ sl + 0 ≤ R.slots) (hW : wput Wd isC Wc' = Wd')
    (k : PT R nL x pc' lv st' Wd' cl sl Q) : PT R nL x pc lv st Wd cl sl Q := by
  obtain ⟨⟨l, D, k0⟩, p, e, s, m, args, below, meth, c, A⟩ := x
  obtain ⟨hx, hb, hml, hown, hts, hr, hlk, hK, hA, hN, hS0⟩ := C
  subst hp
  subst hst
  subst hW
  intro H locs ls hH hl
  obtain ⟨hP, hD, hS⟩ := hH
  have hPc : va_P D vwCl Wc H := hC_P hC hP
  have hDc : va_D (fun _ => True) Wc := (hD.sub isC hnd hC).weaken (fun _ _ _ _ => trivial)
  have hFc : ∀ q, va_A Wc H.size q → A q := va_free (wc := Wc) hD hS hA isC hC
  refine va_callv (va_runV (As := As) (rest := st') ⟨hx, hb, hml, hown, hts⟩ (hM H.size) ⟨callB_of As.length hts (wU_good hv.2.2.2) rfl hR.1 hR.2.1 (hts _ hv.2.2.1) (hts _ hl0) hdsc hR.2.2, hts _ hv.1, hts _ hv.2.1⟩ ⟨PreC.blind _ _ _ _, va_recv hK hPc hvc hrc, fun U hU hW => ⟨rfl, by rw [hU], by rw [hU]; exact hPc, va_K.moved hW.alike hK, hDc, NW.warm hW hN, by rw [hU]; exact ((hS0.kept hS.2.1).narrow hFc).moved hW.alike⟩⟩ rfl rfl hl.1 rfl (lv_room hcat) hd hcs) hS (fun q _ h => hFc q h) hFc (fun u t H1 locs1 ht hvm hw hB hz1 hk1 hS1 => ?_)
  have hB : va_P D vwCl Wc' t.heap := hB
  rw [ht] at hB
  have hJ := call_ok hP hD hC hF hB hk1
  skip
  exact k H1 locs1 ls ⟨hJ.1, hJ.2, hS1⟩ hl
theorem p_callVNi (C : CX own cc nL ret x) (hM : Ci x.1 y (wU y cc' nL' ret') rm' (.ref b :: As) Wc Wc' r) (hd : decode cc pc = .ok (.invokevirtual index, 3)) (hp : pc + 3 = pc') (hl0 : (own, index, y) ∈ nestMs) (hv : Cond.instanceMethod y ∈ wG ∧ Cond.selects y.cls y y ∈ wG ∧ Cond.initialized y.cls ∈ wG ∧ Cond.code y cc' nL' ret' ∈ wG) (hdsc : y.cls ≠ "java/lang/invoke/MethodHandle" ∧ y.cls ≠ "java/lang/invoke/VarHandle" ∧ (parseMethodDescriptor y.desc).map (fun d => d.parameters.length) = some As.length) (hR : rm'.cells = 0 ∧ rm'.slots = 0 ∧ rm'.frames + 1 ≤ R.frames ∧ 8 + (nL' + 11) + rm'.locals ≤ R.locals) {ci N : Nat} {T : u_T} {fs : List Value} (q0 : Nat) (hrc : Wc[q0]? = some (b, .inr (ci, fs))) (hvc : vwCl[ci]? = some (y.cls, T, N)) (isC : List Nat) (hC : isC.map (fun i => Wd[i]?) = Wc.map some) (hnd : va_nd isC = true) (hF : Wc'.map Prod.fst = Wc.map Prod.fst) (hst : st = As.reverse ++ .ref b :: st') (hcat : (st'.map fun v => v.category).sum ≤ 8) (hcs : cl + 0 ≤ R.cells ∧ sl + 0 ≤ R.slots) (hW : wput Wd isC Wc' = Wd')
    (k : PT R nL x pc' lv (.int r :: st') Wd' cl sl Q) : PT R nL x pc lv st Wd cl sl Q := by
  obtain ⟨⟨l, D, k0⟩, p, e, s, m, args, below, meth, c, A⟩ := x
  obtain ⟨hx, hb, hml, hown, hts, hr, hlk, hK, hA, hN, hS0⟩ := C
  subst hp
  subst hst
  subst hW
  intro H locs ls hH hl
  obtain ⟨hP, hD, hS⟩ := hH
  have hPc : va_P D vwCl Wc H := hC_P hC hP
  have hDc : va_D (fun _ => True) Wc := (hD.sub isC hnd hC).weaken (fun _ _ _ _ => trivial)
  have hFc : ∀ q, va_A Wc H.size q → A q := va_free (wc := Wc) hD hS hA isC hC
  refine va_calli (va_runVN (As := As) (rest := st') ⟨hx, hb, hml, hown, hts⟩ (hM H.size) ⟨va_cnB As.length hts (wU_good hv.2.2.2) rfl hR.1 hR.2.1 (hN.2 _ hl0) (hts _ hv.2.2.1) hdsc hR.2.2, hts _ hv.1, hts _ hv.2.1⟩ ⟨PreC.blind _ _ _ _, va_recv hK hPc hvc hrc, fun U hU hW => ⟨rfl, by rw [hU], by rw [hU]; exact hPc, va_K.moved hW.alike hK, hDc, NW.warm hW hN, by rw [hU]; exact ((hS0.kept hS.2.1).narrow hFc).moved hW.alike⟩⟩ rfl rfl hl.1 rfl (lv_room hcat) hd hcs) hS (fun q _ h => hFc q h) hFc (fun r1 u t H1 locs1 ht hvm hw hB hz1 hk1 hS1 => ?_)
  have hB : va_P D vwCl Wc' t.heap := hB
  rw [ht] at hB
  have hJ := call_ok hP hD hC hF hB hk1
  subst hw
  exact k H1 locs1 ls ⟨hJ.1, hJ.2, hS1⟩ hl
theorem p_callVNv (C : CX own cc nL ret x) (hM : Cv x.1 y (wU y cc' nL' ret') rm' (.ref b :: As) Wc Wc') (hd : decode cc pc = .ok (.invokevirtual index, 3)) (hp : pc + 3 = pc') (hl0 : (own, index, y) ∈ nestMs) (hv : Cond.instanceMethod y ∈ wG ∧ Cond.selects y.cls y y ∈ wG ∧ Cond.initialized y.cls ∈ wG ∧ Cond.code y cc' nL' ret' ∈ wG) (hdsc : y.cls ≠ "java/lang/invoke/MethodHandle" ∧ y.cls ≠ "java/lang/invoke/VarHandle" ∧ (parseMethodDescriptor y.desc).map (fun d => d.parameters.length) = some As.length) (hR : rm'.cells = 0 ∧ rm'.slots = 0 ∧ rm'.frames + 1 ≤ R.frames ∧ 8 + (nL' + 11) + rm'.locals ≤ R.locals) {ci N : Nat} {T : u_T} {fs : List Value} (q0 : Nat) (hrc : Wc[q0]? = some (b, .inr (ci, fs))) (hvc : vwCl[ci]? = some (y.cls, T, N)) (isC : List Nat) (hC : isC.map (fun i => Wd[i]?) = Wc.map some) (hnd : va_nd isC = true) (hF : Wc'.map Prod.fst = Wc.map Prod.fst) (hst : st = As.reverse ++ .ref b :: st') (hcat : (st'.map fun v => v.category).sum ≤ 8) (hcs : cl + 0 ≤ R.cells ∧ sl + 0 ≤ R.slots) (hW : wput Wd isC Wc' = Wd')
    (k : PT R nL x pc' lv st' Wd' cl sl Q) : PT R nL x pc lv st Wd cl sl Q := by
  obtain ⟨⟨l, D, k0⟩, p, e, s, m, args, below, meth, c, A⟩ := x
  obtain ⟨hx, hb, hml, hown, hts, hr, hlk, hK, hA, hN, hS0⟩ := C
  subst hp
  subst hst
  subst hW
  intro H locs ls hH hl
  obtain ⟨hP, hD, hS⟩ := hH
  have hPc : va_P D vwCl Wc H := hC_P hC hP
  have hDc : va_D (fun _ => True) Wc := (hD.sub isC hnd hC).weaken (fun _ _ _ _ => trivial)
  have hFc : ∀ q, va_A Wc H.size q → A q := va_free (wc := Wc) hD hS hA isC hC
  refine va_callv (va_runVN (As := As) (rest := st') ⟨hx, hb, hml, hown, hts⟩ (hM H.size) ⟨va_cnB As.length hts (wU_good hv.2.2.2) rfl hR.1 hR.2.1 (hN.2 _ hl0) (hts _ hv.2.2.1) hdsc hR.2.2, hts _ hv.1, hts _ hv.2.1⟩ ⟨PreC.blind _ _ _ _, va_recv hK hPc hvc hrc, fun U hU hW => ⟨rfl, by rw [hU], by rw [hU]; exact hPc, va_K.moved hW.alike hK, hDc, NW.warm hW hN, by rw [hU]; exact ((hS0.kept hS.2.1).narrow hFc).moved hW.alike⟩⟩ rfl rfl hl.1 rfl (lv_room hcat) hd hcs) hS (fun q _ h => hFc q h) hFc (fun u t H1 locs1 ht hvm hw hB hz1 hk1 hS1 => ?_)
  have hB : va_P D vwCl Wc' t.heap := hB
  rw [ht] at hB
  have hJ := call_ok hP hD hC hF hB hk1
  skip
  exact k H1 locs1 ls ⟨hJ.1, hJ.2, hS1⟩ hl
theorem p_callSi (C : CX own cc nL ret x) (hM : Ci x.1 y (wU y cc' nL' ret') rm' As Wc Wc' r) (hd : decode cc pc = .ok (.invokestatic index, 3)) (hp : pc + 3 = pc') (hl0 : Cond.methodLink own index y ∈ wG) (hv : Cond.static y ∈ wG ∧ Cond.initialized y.cls ∈ wG ∧ Cond.code y cc' nL' ret' ∈ wG) (hdsc : y.cls ≠ "java/lang/invoke/MethodHandle" ∧ y.cls ≠ "java/lang/invoke/VarHandle" ∧ (parseMethodDescriptor y.desc).map (fun d => d.parameters.length) = some As.length) (hR : rm'.cells = 0 ∧ rm'.slots = 0 ∧ rm'.frames + 1 ≤ R.frames ∧ 8 + (nL' + 11) + rm'.locals ≤ R.locals) (isC : List Nat) (hC : isC.map (fun i => Wd[i]?) = Wc.map some) (hnd : va_nd isC = true) (hF : Wc'.map Prod.fst = Wc.map Prod.fst) (hst : st = As.reverse ++ st') (hcat : (st'.map fun v => v.category).sum ≤ 8) (hcs : cl + 0 ≤ R.cells ∧ sl + 0 ≤ R.slots) (hW : wput Wd isC Wc' = Wd')
    (k : PT R nL x pc' lv (.int r :: st') Wd' cl sl Q) : PT R nL x pc lv st Wd cl sl Q := by
  obtain ⟨⟨l, D, k0⟩, p, e, s, m, args, below, meth, c, A⟩ := x
  obtain ⟨hx, hb, hml, hown, hts, hr, hlk, hK, hA, hN, hS0⟩ := C
  subst hp
  subst hst
  subst hW
  intro H locs ls hH hl
  obtain ⟨hP, hD, hS⟩ := hH
  have hPc : va_P D vwCl Wc H := hC_P hC hP
  have hDc : va_D (fun _ => True) Wc := (hD.sub isC hnd hC).weaken (fun _ _ _ _ => trivial)
  have hFc : ∀ q, va_A Wc H.size q → A q := va_free (wc := Wc) hD hS hA isC hC
  refine va_calli (va_runS (As := As) (rest := st') ⟨hx, hb, hml, hown, hts⟩ (hM H.size) ⟨callB_of As.length hts (wU_good hv.2.2) rfl hR.1 hR.2.1 (hts _ hv.2.1) (hts _ hl0) hdsc hR.2.2, hts _ hv.1⟩ ⟨PreC.blind _ _ _ _, fun U hU hW => ⟨rfl, by rw [hU], by rw [hU]; exact hPc, va_K.moved hW.alike hK, hDc, NW.warm hW hN, by rw [hU]; exact ((hS0.kept hS.2.1).narrow hFc).moved hW.alike⟩⟩ rfl rfl hl.1 rfl (lv_room hcat) hd hcs) hS (fun q _ h => hFc q h) hFc (fun r1 u t H1 locs1 ht hvm hw hB hz1 hk1 hS1 => ?_)
  have hB : va_P D vwCl Wc' t.heap := hB
  rw [ht] at hB
  have hJ := call_ok hP hD hC hF hB hk1
  subst hw
  exact k H1 locs1 ls ⟨hJ.1, hJ.2, hS1⟩ hl
theorem p_callSv (C : CX own cc nL ret x) (hM : Cv x.1 y (wU y cc' nL' ret') rm' As Wc Wc') (hd : decode cc pc = .ok (.invokestatic index, 3)) (hp : pc + 3 = pc') (hl0 : Cond.methodLink own index y ∈ wG) (hv : Cond.static y ∈ wG ∧ Cond.initialized y.cls ∈ wG ∧ Cond.code y cc' nL' ret' ∈ wG) (hdsc : y.cls ≠ "java/lang/invoke/MethodHandle" ∧ y.cls ≠ "java/lang/invoke/VarHandle" ∧ (parseMethodDescriptor y.desc).map (fun d => d.parameters.length) = some As.length) (hR : rm'.cells = 0 ∧ rm'.slots = 0 ∧ rm'.frames + 1 ≤ R.frames ∧ 8 + (nL' + 11) + rm'.locals ≤ R.locals) (isC : List Nat) (hC : isC.map (fun i => Wd[i]?) = Wc.map some) (hnd : va_nd isC = true) (hF : Wc'.map Prod.fst = Wc.map Prod.fst) (hst : st = As.reverse ++ st') (hcat : (st'.map fun v => v.category).sum ≤ 8) (hcs : cl + 0 ≤ R.cells ∧ sl + 0 ≤ R.slots) (hW : wput Wd isC Wc' = Wd')
    (k : PT R nL x pc' lv st' Wd' cl sl Q) : PT R nL x pc lv st Wd cl sl Q := by
  obtain ⟨⟨l, D, k0⟩, p, e, s, m, args, below, meth, c, A⟩ := x
  obtain ⟨hx, hb, hml, hown, hts, hr, hlk, hK, hA, hN, hS0⟩ := C
  subst hp
  subst hst
  subst hW
  intro H locs ls hH hl
  obtain ⟨hP, hD, hS⟩ := hH
  have hPc : va_P D vwCl Wc H := hC_P hC hP
  have hDc : va_D (fun _ => True) Wc := (hD.sub isC hnd hC).weaken (fun _ _ _ _ => trivial)
  have hFc : ∀ q, va_A Wc H.size q → A q := va_free (wc := Wc) hD hS hA isC hC
  refine va_callv (va_runS (As := As) (rest := st') ⟨hx, hb, hml, hown, hts⟩ (hM H.size) ⟨callB_of As.length hts (wU_good hv.2.2) rfl hR.1 hR.2.1 (hts _ hv.2.1) (hts _ hl0) hdsc hR.2.2, hts _ hv.1⟩ ⟨PreC.blind _ _ _ _, fun U hU hW => ⟨rfl, by rw [hU], by rw [hU]; exact hPc, va_K.moved hW.alike hK, hDc, NW.warm hW hN, by rw [hU]; exact ((hS0.kept hS.2.1).narrow hFc).moved hW.alike⟩⟩ rfl rfl hl.1 rfl (lv_room hcat) hd hcs) hS (fun q _ h => hFc q h) hFc (fun u t H1 locs1 ht hvm hw hB hz1 hk1 hS1 => ?_)
  have hB : va_P D vwCl Wc' t.heap := hB
  rw [ht] at hB
  have hJ := call_ok hP hD hC hF hB hk1
  skip
  exact k H1 locs1 ls ⟨hJ.1, hJ.2, hS1⟩ hl
theorem p_callSNi (C : CX own cc nL ret x) (hM : Ci x.1 y (wU y cc' nL' ret') rm' As Wc Wc' r) (hd : decode cc pc = .ok (.invokestatic index, 3)) (hp : pc + 3 = pc') (hl0 : (own, index, y) ∈ nestMs) (hv : Cond.static y ∈ wG ∧ Cond.initialized y.cls ∈ wG ∧ Cond.code y cc' nL' ret' ∈ wG) (hdsc : y.cls ≠ "java/lang/invoke/MethodHandle" ∧ y.cls ≠ "java/lang/invoke/VarHandle" ∧ (parseMethodDescriptor y.desc).map (fun d => d.parameters.length) = some As.length) (hR : rm'.cells = 0 ∧ rm'.slots = 0 ∧ rm'.frames + 1 ≤ R.frames ∧ 8 + (nL' + 11) + rm'.locals ≤ R.locals) (isC : List Nat) (hC : isC.map (fun i => Wd[i]?) = Wc.map some) (hnd : va_nd isC = true) (hF : Wc'.map Prod.fst = Wc.map Prod.fst) (hst : st = As.reverse ++ st') (hcat : (st'.map fun v => v.category).sum ≤ 8) (hcs : cl + 0 ≤ R.cells ∧ sl + 0 ≤ R.slots) (hW : wput Wd isC Wc' = Wd')
    (k : PT R nL x pc' lv (.int r :: st') Wd' cl sl Q) : PT R nL x pc lv st Wd cl sl Q := by
  obtain ⟨⟨l, D, k0⟩, p, e, s, m, args, below, meth, c, A⟩ := x
  obtain ⟨hx, hb, hml, hown, hts, hr, hlk, hK, hA, hN, hS0⟩ := C
  subst hp
  subst hst
  subst hW
  intro H locs ls hH hl
  obtain ⟨hP, hD, hS⟩ := hH
  have hPc : va_P D vwCl Wc H := hC_P hC hP
  have hDc : va_D (fun _ => True) Wc := (hD.sub isC hnd hC).weaken (fun _ _ _ _ => trivial)
  have hFc : ∀ q, va_A Wc H.size q → A q := va_free (wc := Wc) hD hS hA isC hC
  refine va_calli (va_runSN (As := As) (rest := st') ⟨hx, hb, hml, hown, hts⟩ (hM H.size) ⟨va_cnB As.length hts (wU_good hv.2.2) rfl hR.1 hR.2.1 (hN.2 _ hl0) (hts _ hv.2.1) hdsc hR.2.2, hts _ hv.1, trivial⟩ ⟨PreC.blind _ _ _ _, fun U hU hW => ⟨rfl, by rw [hU], by rw [hU]; exact hPc, va_K.moved hW.alike hK, hDc, NW.warm hW hN, by rw [hU]; exact ((hS0.kept hS.2.1).narrow hFc).moved hW.alike⟩⟩ rfl rfl hl.1 rfl (lv_room hcat) hd hcs) hS (fun q _ h => hFc q h) hFc (fun r1 u t H1 locs1 ht hvm hw hB hz1 hk1 hS1 => ?_)
  have hB : va_P D vwCl Wc' t.heap := hB
  rw [ht] at hB
  have hJ := call_ok hP hD hC hF hB hk1
  subst hw
  exact k H1 locs1 ls ⟨hJ.1, hJ.2, hS1⟩ hl
theorem p_callSNv (C : CX own cc nL ret x) (hM : Cv x.1 y (wU y cc' nL' ret') rm' As Wc Wc') (hd : decode cc pc = .ok (.invokestatic index, 3)) (hp : pc + 3 = pc') (hl0 : (own, index, y) ∈ nestMs) (hv : Cond.static y ∈ wG ∧ Cond.initialized y.cls ∈ wG ∧ Cond.code y cc' nL' ret' ∈ wG) (hdsc : y.cls ≠ "java/lang/invoke/MethodHandle" ∧ y.cls ≠ "java/lang/invoke/VarHandle" ∧ (parseMethodDescriptor y.desc).map (fun d => d.parameters.length) = some As.length) (hR : rm'.cells = 0 ∧ rm'.slots = 0 ∧ rm'.frames + 1 ≤ R.frames ∧ 8 + (nL' + 11) + rm'.locals ≤ R.locals) (isC : List Nat) (hC : isC.map (fun i => Wd[i]?) = Wc.map some) (hnd : va_nd isC = true) (hF : Wc'.map Prod.fst = Wc.map Prod.fst) (hst : st = As.reverse ++ st') (hcat : (st'.map fun v => v.category).sum ≤ 8) (hcs : cl + 0 ≤ R.cells ∧ sl + 0 ≤ R.slots) (hW : wput Wd isC Wc' = Wd')
    (k : PT R nL x pc' lv st' Wd' cl sl Q) : PT R nL x pc lv st Wd cl sl Q := by
  obtain ⟨⟨l, D, k0⟩, p, e, s, m, args, below, meth, c, A⟩ := x
  obtain ⟨hx, hb, hml, hown, hts, hr, hlk, hK, hA, hN, hS0⟩ := C
  subst hp
  subst hst
  subst hW
  intro H locs ls hH hl
  obtain ⟨hP, hD, hS⟩ := hH
  have hPc : va_P D vwCl Wc H := hC_P hC hP
  have hDc : va_D (fun _ => True) Wc := (hD.sub isC hnd hC).weaken (fun _ _ _ _ => trivial)
  have hFc : ∀ q, va_A Wc H.size q → A q := va_free (wc := Wc) hD hS hA isC hC
  refine va_callv (va_runSN (As := As) (rest := st') ⟨hx, hb, hml, hown, hts⟩ (hM H.size) ⟨va_cnB As.length hts (wU_good hv.2.2) rfl hR.1 hR.2.1 (hN.2 _ hl0) (hts _ hv.2.1) hdsc hR.2.2, hts _ hv.1, trivial⟩ ⟨PreC.blind _ _ _ _, fun U hU hW => ⟨rfl, by rw [hU], by rw [hU]; exact hPc, va_K.moved hW.alike hK, hDc, NW.warm hW hN, by rw [hU]; exact ((hS0.kept hS.2.1).narrow hFc).moved hW.alike⟩⟩ rfl rfl hl.1 rfl (lv_room hcat) hd hcs) hS (fun q _ h => hFc q h) hFc (fun u t H1 locs1 ht hvm hw hB hz1 hk1 hS1 => ?_)
  have hB : va_P D vwCl Wc' t.heap := hB
  rw [ht] at hB
  have hJ := call_ok hP hD hC hF hB hk1
  skip
  exact k H1 locs1 ls ⟨hJ.1, hJ.2, hS1⟩ hl
theorem p_tabIn (C : CX own cc nL ret x) {dflt lo hi off : Int} {offs : Array Int} {len : Nat} {v w : Int32} (hd : decode cc pc = .ok (.tableswitch dflt lo hi offs, len)) (hv : v = w) (h1 : ¬ w.toInt < lo) (h2 : ¬ hi < w.toInt) (ho : offs[(w.toInt - lo).toNat]? = some off) (ht : (pc : Int) + off = (pc' : Int)) (k : PT R nL x pc' lv st Wd cl sl Q) : PT R nL x pc lv (.int v :: st) Wd cl sl Q := by
  obtain ⟨⟨l, D, k0⟩, p, e, s, m, args, below, meth, c, A⟩ := x
  obtain ⟨hx, hb, hml, hown, hts, hr, hlk, hK, hA, hN, hS0⟩ := C
  subst hv
  intro H locs ls hH hl
  exact lv_tableIn hx hb hd h1 h2 ho ht (k H locs ls hH hl)
theorem tab_out {v : Int32} {n : Nat} (hn : n < 2 ^ 31) (h : ∀ k, k < n → ¬ v = nI k) : v.toInt < 0 ∨ (n : Int) - 1 < v.toInt := by
  rcases Int.lt_or_le v.toInt 0 with h0 | h0
  · exact Or.inl h0
  · rcases Int.lt_or_le ((n : Int) - 1) v.toInt with h1 | h1
    · exact Or.inr h1
    · exfalso
      obtain ⟨j, hj, he⟩ := vp_in_of (n := n) (vp_in_iff.mpr ⟨h0, by omega⟩) hn
      exact h j hj he
theorem p_tabOut (C : CX own cc nL ret x) {dflt hi : Int} {offs : Array Int} {len n : Nat} {v : Int32} (hd : decode cc pc = .ok (.tableswitch dflt 0 hi offs, len)) (hn : n < 2 ^ 31) (hhi : hi = (n : Int) - 1) (h : ∀ k, k < n → ¬ v = nI k) (ht : (pc : Int) + dflt = (pc' : Int)) (k : PT R nL x pc' lv st Wd cl sl Q) : PT R nL x pc lv (.int v :: st) Wd cl sl Q := by
  obtain ⟨⟨l, D, k0⟩, p, e, s, m, args, below, meth, c, A⟩ := x
  obtain ⟨hx, hb, hml, hown, hts, hr, hlk, hK, hA, hN, hS0⟩ := C
  subst hhi
  intro H locs ls hH hl
  exact lv_tableOut hx hb hd (tab_out hn h) ht (k H locs ls hH hl)
end CL
end
