section
-- ===== PART A: goes FIRST, ahead of the names: the tables' words, and 'selects' of the private methods out of them =====
/-- a private method of a class that the tables say can be made, by its rows of tables_1 -/
def lw_okq (q : MethodName × Nat) : Prop := (q.1.cls ≠ "java/lang/invoke/MethodHandle" ∧ q.1.cls ≠ "java/lang/invoke/VarHandle") ∧ Cond.instantiable q.1.cls q.2 ∈ tables_1 ∧ Cond.privateMethod q.1 ∈ tables_1 ∧ Cond.instanceMethod q.1 ∈ tables_1
theorem lw_p0 : lw_okq (⟨"NeedlePairs$Board", "addPoint", "(III)I"⟩, 7) := ⟨⟨by decide +kernel, by decide +kernel⟩, List.mem_of_getElem? (i := 19) (by decide +kernel), List.mem_of_getElem? (i := 179) (by decide +kernel), List.mem_of_getElem? (i := 180) (by decide +kernel)⟩
theorem lw_p1 : lw_okq (⟨"NeedlePairs", "layTriesAnew", "()V"⟩, 6) := ⟨⟨by decide +kernel, by decide +kernel⟩, List.mem_of_getElem? (i := 11) (by decide +kernel), List.mem_of_getElem? (i := 183) (by decide +kernel), List.mem_of_getElem? (i := 184) (by decide +kernel)⟩
theorem lw_p2 : lw_okq (⟨"NeedlePairs$Tries", "layOut", "(LNeedlePairs$Board;)V"⟩, 6) := ⟨⟨by decide +kernel, by decide +kernel⟩, List.mem_of_getElem? (i := 60) (by decide +kernel), List.mem_of_getElem? (i := 187) (by decide +kernel), List.mem_of_getElem? (i := 188) (by decide +kernel)⟩
theorem lw_p3 : lw_okq (⟨"NeedlePairs$Tries", "growTrees", "(LNeedlePairs$Board;)V"⟩, 6) := ⟨⟨by decide +kernel, by decide +kernel⟩, List.mem_of_getElem? (i := 60) (by decide +kernel), List.mem_of_getElem? (i := 191) (by decide +kernel), List.mem_of_getElem? (i := 192) (by decide +kernel)⟩
theorem lw_p4 : lw_okq (⟨"NeedlePairs$Tries", "joinNextPair", "(LNeedlePairs$Board;)Z"⟩, 6) := ⟨⟨by decide +kernel, by decide +kernel⟩, List.mem_of_getElem? (i := 60) (by decide +kernel), List.mem_of_getElem? (i := 195) (by decide +kernel), List.mem_of_getElem? (i := 196) (by decide +kernel)⟩
theorem lw_p5 : lw_okq (⟨"NeedlePairs$Board", "distance", "(II)I"⟩, 7) := ⟨⟨by decide +kernel, by decide +kernel⟩, List.mem_of_getElem? (i := 19) (by decide +kernel), List.mem_of_getElem? (i := 199) (by decide +kernel), List.mem_of_getElem? (i := 200) (by decide +kernel)⟩
theorem lw_p6 : lw_okq (⟨"NeedlePairs$Tries", "mergeGroups", "(II)V"⟩, 6) := ⟨⟨by decide +kernel, by decide +kernel⟩, List.mem_of_getElem? (i := 60) (by decide +kernel), List.mem_of_getElem? (i := 203) (by decide +kernel), List.mem_of_getElem? (i := 204) (by decide +kernel)⟩
theorem lw_p7 : lw_okq (⟨"NeedlePairs$Tries", "addTrees", "(LNeedlePairs$Board;)V"⟩, 6) := ⟨⟨by decide +kernel, by decide +kernel⟩, List.mem_of_getElem? (i := 60) (by decide +kernel), List.mem_of_getElem? (i := 207) (by decide +kernel), List.mem_of_getElem? (i := 208) (by decide +kernel)⟩
theorem lw_p8 : lw_okq (⟨"NeedlePairs$Tries", "addTry", "(LNeedlePairs$Board;II)V"⟩, 6) := ⟨⟨by decide +kernel, by decide +kernel⟩, List.mem_of_getElem? (i := 60) (by decide +kernel), List.mem_of_getElem? (i := 214) (by decide +kernel), List.mem_of_getElem? (i := 215) (by decide +kernel)⟩
theorem lw_p9 : lw_okq (⟨"NeedlePairs$Board", "isLeftOf", "(II)Z"⟩, 7) := ⟨⟨by decide +kernel, by decide +kernel⟩, List.mem_of_getElem? (i := 19) (by decide +kernel), List.mem_of_getElem? (i := 218) (by decide +kernel), List.mem_of_getElem? (i := 219) (by decide +kernel)⟩
theorem lw_p10 : lw_okq (⟨"NeedlePairs$Tries", "addNeighbours", "(LNeedlePairs$Board;)V"⟩, 6) := ⟨⟨by decide +kernel, by decide +kernel⟩, List.mem_of_getElem? (i := 60) (by decide +kernel), List.mem_of_getElem? (i := 222) (by decide +kernel), List.mem_of_getElem? (i := 223) (by decide +kernel)⟩
theorem lw_p11 : lw_okq (⟨"NeedlePairs$Tries", "addNearestPair", "(LNeedlePairs$Board;II)V"⟩, 6) := ⟨⟨by decide +kernel, by decide +kernel⟩, List.mem_of_getElem? (i := 60) (by decide +kernel), List.mem_of_getElem? (i := 230) (by decide +kernel), List.mem_of_getElem? (i := 231) (by decide +kernel)⟩
theorem lw_p12 : lw_okq (⟨"NeedlePairs$Needles", "measure", "(LNeedlePairs$Board;LNeedlePairs$Tries;)V"⟩, 6) := ⟨⟨by decide +kernel, by decide +kernel⟩, List.mem_of_getElem? (i := 92) (by decide +kernel), List.mem_of_getElem? (i := 234) (by decide +kernel), List.mem_of_getElem? (i := 235) (by decide +kernel)⟩
theorem lw_p13 : lw_okq (⟨"NeedlePairs$Board", "removeLastPoint", "()V"⟩, 7) := ⟨⟨by decide +kernel, by decide +kernel⟩, List.mem_of_getElem? (i := 19) (by decide +kernel), List.mem_of_getElem? (i := 254) (by decide +kernel), List.mem_of_getElem? (i := 255) (by decide +kernel)⟩
theorem lw_p14 : lw_okq (⟨"NeedlePairs$Board", "hasPoint", "(I)Z"⟩, 7) := ⟨⟨by decide +kernel, by decide +kernel⟩, List.mem_of_getElem? (i := 19) (by decide +kernel), List.mem_of_getElem? (i := 265) (by decide +kernel), List.mem_of_getElem? (i := 266) (by decide +kernel)⟩
theorem lw_p15 : lw_okq (⟨"NeedlePairs$Tries", "hasTry", "(I)Z"⟩, 6) := ⟨⟨by decide +kernel, by decide +kernel⟩, List.mem_of_getElem? (i := 60) (by decide +kernel), List.mem_of_getElem? (i := 290) (by decide +kernel), List.mem_of_getElem? (i := 291) (by decide +kernel)⟩
def lw_privs_1 : List (MethodName × Nat) := [(⟨"NeedlePairs$Board", "addPoint", "(III)I"⟩, 7), (⟨"NeedlePairs", "layTriesAnew", "()V"⟩, 6), (⟨"NeedlePairs$Tries", "layOut", "(LNeedlePairs$Board;)V"⟩, 6), (⟨"NeedlePairs$Tries", "growTrees", "(LNeedlePairs$Board;)V"⟩, 6), (⟨"NeedlePairs$Tries", "joinNextPair", "(LNeedlePairs$Board;)Z"⟩, 6), (⟨"NeedlePairs$Board", "distance", "(II)I"⟩, 7), (⟨"NeedlePairs$Tries", "mergeGroups", "(II)V"⟩, 6), (⟨"NeedlePairs$Tries", "addTrees", "(LNeedlePairs$Board;)V"⟩, 6), (⟨"NeedlePairs$Tries", "addTry", "(LNeedlePairs$Board;II)V"⟩, 6), (⟨"NeedlePairs$Board", "isLeftOf", "(II)Z"⟩, 7), (⟨"NeedlePairs$Tries", "addNeighbours", "(LNeedlePairs$Board;)V"⟩, 6), (⟨"NeedlePairs$Tries", "addNearestPair", "(LNeedlePairs$Board;II)V"⟩, 6), (⟨"NeedlePairs$Needles", "measure", "(LNeedlePairs$Board;LNeedlePairs$Tries;)V"⟩, 6), (⟨"NeedlePairs$Board", "removeLastPoint", "()V"⟩, 7), (⟨"NeedlePairs$Board", "hasPoint", "(I)Z"⟩, 7), (⟨"NeedlePairs$Tries", "hasTry", "(I)Z"⟩, 6)]
theorem lw_r1 : ∀ q ∈ lw_privs_1, lw_okq q := List.forall_mem_cons.mpr ⟨lw_p0, List.forall_mem_cons.mpr ⟨lw_p1, List.forall_mem_cons.mpr ⟨lw_p2, List.forall_mem_cons.mpr ⟨lw_p3, List.forall_mem_cons.mpr ⟨lw_p4, List.forall_mem_cons.mpr ⟨lw_p5, List.forall_mem_cons.mpr ⟨lw_p6, List.forall_mem_cons.mpr ⟨lw_p7, List.forall_mem_cons.mpr ⟨lw_p8, List.forall_mem_cons.mpr ⟨lw_p9, List.forall_mem_cons.mpr ⟨lw_p10, List.forall_mem_cons.mpr ⟨lw_p11, List.forall_mem_cons.mpr ⟨lw_p12, List.forall_mem_cons.mpr ⟨lw_p13, List.forall_mem_cons.mpr ⟨lw_p14, List.forall_mem_cons.mpr ⟨lw_p15, fun _ h => absurd h List.not_mem_nil⟩⟩⟩⟩⟩⟩⟩⟩⟩⟩⟩⟩⟩⟩⟩⟩
theorem lw_p16 : lw_okq (⟨"NeedlePairs$Tries", "isOfNeighbours", "(I)Z"⟩, 6) := ⟨⟨by decide +kernel, by decide +kernel⟩, List.mem_of_getElem? (i := 60) (by decide +kernel), List.mem_of_getElem? (i := 294) (by decide +kernel), List.mem_of_getElem? (i := 295) (by decide +kernel)⟩
theorem lw_p17 : lw_okq (⟨"NeedlePairs$Tries", "conducts", "(LNeedlePairs$Board;III)Z"⟩, 6) := ⟨⟨by decide +kernel, by decide +kernel⟩, List.mem_of_getElem? (i := 60) (by decide +kernel), List.mem_of_getElem? (i := 298) (by decide +kernel), List.mem_of_getElem? (i := 299) (by decide +kernel)⟩
theorem lw_p18 : lw_okq (⟨"NeedlePairs", "seenNow", "()I"⟩, 6) := ⟨⟨by decide +kernel, by decide +kernel⟩, List.mem_of_getElem? (i := 11) (by decide +kernel), List.mem_of_getElem? (i := 307) (by decide +kernel), List.mem_of_getElem? (i := 308) (by decide +kernel)⟩
theorem lw_p19 : lw_okq (⟨"NeedlePairs$Tries", "seenSet", "(LNeedlePairs$Board;II)I"⟩, 6) := ⟨⟨by decide +kernel, by decide +kernel⟩, List.mem_of_getElem? (i := 60) (by decide +kernel), List.mem_of_getElem? (i := 311) (by decide +kernel), List.mem_of_getElem? (i := 312) (by decide +kernel)⟩
theorem lw_p20 : lw_okq (⟨"NeedlePairs$Needles", "leap", "(II)I"⟩, 6) := ⟨⟨by decide +kernel, by decide +kernel⟩, List.mem_of_getElem? (i := 92) (by decide +kernel), List.mem_of_getElem? (i := 321) (by decide +kernel), List.mem_of_getElem? (i := 322) (by decide +kernel)⟩
theorem lw_p21 : lw_okq (⟨"NeedlePairs$Pad", "write", "(I)V"⟩, 2) := ⟨⟨by decide +kernel, by decide +kernel⟩, List.mem_of_getElem? (i := 135) (by decide +kernel), List.mem_of_getElem? (i := 329) (by decide +kernel), List.mem_of_getElem? (i := 330) (by decide +kernel)⟩
theorem lw_p22 : lw_okq (⟨"NeedlePairs$Pad", "tellsOrderOf", "(I)Z"⟩, 2) := ⟨⟨by decide +kernel, by decide +kernel⟩, List.mem_of_getElem? (i := 135) (by decide +kernel), List.mem_of_getElem? (i := 341) (by decide +kernel), List.mem_of_getElem? (i := 342) (by decide +kernel)⟩
theorem lw_p23 : lw_okq (⟨"NeedlePairs$Pad", "tryAt", "(I)I"⟩, 2) := ⟨⟨by decide +kernel, by decide +kernel⟩, List.mem_of_getElem? (i := 135) (by decide +kernel), List.mem_of_getElem? (i := 345) (by decide +kernel), List.mem_of_getElem? (i := 346) (by decide +kernel)⟩
theorem lw_p24 : lw_okq (⟨"NeedlePairs$Needles", "planBest", "()V"⟩, 6) := ⟨⟨by decide +kernel, by decide +kernel⟩, List.mem_of_getElem? (i := 92) (by decide +kernel), List.mem_of_getElem? (i := 355) (by decide +kernel), List.mem_of_getElem? (i := 356) (by decide +kernel)⟩
theorem lw_p25 : lw_okq (⟨"NeedlePairs$Needles", "weighOnward", "()V"⟩, 6) := ⟨⟨by decide +kernel, by decide +kernel⟩, List.mem_of_getElem? (i := 92) (by decide +kernel), List.mem_of_getElem? (i := 359) (by decide +kernel), List.mem_of_getElem? (i := 360) (by decide +kernel)⟩
theorem lw_p26 : lw_okq (⟨"NeedlePairs$Needles", "allTries", "()I"⟩, 6) := ⟨⟨by decide +kernel, by decide +kernel⟩, List.mem_of_getElem? (i := 92) (by decide +kernel), List.mem_of_getElem? (i := 363) (by decide +kernel), List.mem_of_getElem? (i := 364) (by decide +kernel)⟩
theorem lw_p27 : lw_okq (⟨"NeedlePairs$Needles", "leastThrough", "(II)I"⟩, 6) := ⟨⟨by decide +kernel, by decide +kernel⟩, List.mem_of_getElem? (i := 92) (by decide +kernel), List.mem_of_getElem? (i := 368) (by decide +kernel), List.mem_of_getElem? (i := 369) (by decide +kernel)⟩
theorem lw_p28 : lw_okq (⟨"NeedlePairs$Needles", "plan", "(LNeedlePairs$Order;Z)V"⟩, 6) := ⟨⟨by decide +kernel, by decide +kernel⟩, List.mem_of_getElem? (i := 92) (by decide +kernel), List.mem_of_getElem? (i := 373) (by decide +kernel), List.mem_of_getElem? (i := 374) (by decide +kernel)⟩
theorem lw_p29 : lw_okq (⟨"NeedlePairs$Order", "clear", "()V"⟩, 3) := ⟨⟨by decide +kernel, by decide +kernel⟩, List.mem_of_getElem? (i := 98) (by decide +kernel), List.mem_of_getElem? (i := 377) (by decide +kernel), List.mem_of_getElem? (i := 378) (by decide +kernel)⟩
theorem lw_p30 : lw_okq (⟨"NeedlePairs$Needles", "firstOfBest", "(II)I"⟩, 6) := ⟨⟨by decide +kernel, by decide +kernel⟩, List.mem_of_getElem? (i := 92) (by decide +kernel), List.mem_of_getElem? (i := 381) (by decide +kernel), List.mem_of_getElem? (i := 382) (by decide +kernel)⟩
theorem lw_p31 : lw_okq (⟨"NeedlePairs$Needles", "nearestOf", "(II)I"⟩, 6) := ⟨⟨by decide +kernel, by decide +kernel⟩, List.mem_of_getElem? (i := 92) (by decide +kernel), List.mem_of_getElem? (i := 386) (by decide +kernel), List.mem_of_getElem? (i := 387) (by decide +kernel)⟩
def lw_privs_2 : List (MethodName × Nat) := [(⟨"NeedlePairs$Tries", "isOfNeighbours", "(I)Z"⟩, 6), (⟨"NeedlePairs$Tries", "conducts", "(LNeedlePairs$Board;III)Z"⟩, 6), (⟨"NeedlePairs", "seenNow", "()I"⟩, 6), (⟨"NeedlePairs$Tries", "seenSet", "(LNeedlePairs$Board;II)I"⟩, 6), (⟨"NeedlePairs$Needles", "leap", "(II)I"⟩, 6), (⟨"NeedlePairs$Pad", "write", "(I)V"⟩, 2), (⟨"NeedlePairs$Pad", "tellsOrderOf", "(I)Z"⟩, 2), (⟨"NeedlePairs$Pad", "tryAt", "(I)I"⟩, 2), (⟨"NeedlePairs$Needles", "planBest", "()V"⟩, 6), (⟨"NeedlePairs$Needles", "weighOnward", "()V"⟩, 6), (⟨"NeedlePairs$Needles", "allTries", "()I"⟩, 6), (⟨"NeedlePairs$Needles", "leastThrough", "(II)I"⟩, 6), (⟨"NeedlePairs$Needles", "plan", "(LNeedlePairs$Order;Z)V"⟩, 6), (⟨"NeedlePairs$Order", "clear", "()V"⟩, 3), (⟨"NeedlePairs$Needles", "firstOfBest", "(II)I"⟩, 6), (⟨"NeedlePairs$Needles", "nearestOf", "(II)I"⟩, 6)]
theorem lw_r2 : ∀ q ∈ lw_privs_2, lw_okq q := List.forall_mem_cons.mpr ⟨lw_p16, List.forall_mem_cons.mpr ⟨lw_p17, List.forall_mem_cons.mpr ⟨lw_p18, List.forall_mem_cons.mpr ⟨lw_p19, List.forall_mem_cons.mpr ⟨lw_p20, List.forall_mem_cons.mpr ⟨lw_p21, List.forall_mem_cons.mpr ⟨lw_p22, List.forall_mem_cons.mpr ⟨lw_p23, List.forall_mem_cons.mpr ⟨lw_p24, List.forall_mem_cons.mpr ⟨lw_p25, List.forall_mem_cons.mpr ⟨lw_p26, List.forall_mem_cons.mpr ⟨lw_p27, List.forall_mem_cons.mpr ⟨lw_p28, List.forall_mem_cons.mpr ⟨lw_p29, List.forall_mem_cons.mpr ⟨lw_p30, List.forall_mem_cons.mpr ⟨lw_p31, fun _ h => absurd h List.not_mem_nil⟩⟩⟩⟩⟩⟩⟩⟩⟩⟩⟩⟩⟩⟩⟩⟩
theorem lw_p32 : lw_okq (⟨"NeedlePairs$Order", "append", "(II)V"⟩, 3) := ⟨⟨by decide +kernel, by decide +kernel⟩, List.mem_of_getElem? (i := 98) (by decide +kernel), List.mem_of_getElem? (i := 390) (by decide +kernel), List.mem_of_getElem? (i := 391) (by decide +kernel)⟩
theorem lw_p33 : lw_okq (⟨"NeedlePairs$Order", "tell", "(I)I"⟩, 3) := ⟨⟨by decide +kernel, by decide +kernel⟩, List.mem_of_getElem? (i := 98) (by decide +kernel), List.mem_of_getElem? (i := 394) (by decide +kernel), List.mem_of_getElem? (i := 395) (by decide +kernel)⟩
theorem lw_p34 : lw_okq (⟨"NeedlePairs$Needles", "planNearest", "()V"⟩, 6) := ⟨⟨by decide +kernel, by decide +kernel⟩, List.mem_of_getElem? (i := 92) (by decide +kernel), List.mem_of_getElem? (i := 402) (by decide +kernel), List.mem_of_getElem? (i := 403) (by decide +kernel)⟩
theorem lw_p35 : lw_okq (⟨"NeedlePairs", "flawSeenAs", "(II)I"⟩, 6) := ⟨⟨by decide +kernel, by decide +kernel⟩, List.mem_of_getElem? (i := 11) (by decide +kernel), List.mem_of_getElem? (i := 439) (by decide +kernel), List.mem_of_getElem? (i := 440) (by decide +kernel)⟩
theorem lw_p36 : lw_okq (⟨"NeedlePairs", "isFlaw", "(I)Z"⟩, 6) := ⟨⟨by decide +kernel, by decide +kernel⟩, List.mem_of_getElem? (i := 11) (by decide +kernel), List.mem_of_getElem? (i := 443) (by decide +kernel), List.mem_of_getElem? (i := 444) (by decide +kernel)⟩
theorem lw_p37 : lw_okq (⟨"NeedlePairs", "seenOfFlaw", "(I)I"⟩, 6) := ⟨⟨by decide +kernel, by decide +kernel⟩, List.mem_of_getElem? (i := 11) (by decide +kernel), List.mem_of_getElem? (i := 447) (by decide +kernel), List.mem_of_getElem? (i := 448) (by decide +kernel)⟩
theorem lw_p38 : lw_okq (⟨"NeedlePairs$Board", "copyFrom", "(LNeedlePairs$Board;)V"⟩, 7) := ⟨⟨by decide +kernel, by decide +kernel⟩, List.mem_of_getElem? (i := 19) (by decide +kernel), List.mem_of_getElem? (i := 473) (by decide +kernel), List.mem_of_getElem? (i := 474) (by decide +kernel)⟩
theorem lw_p39 : lw_okq (⟨"NeedlePairs$Board", "countNetsWithPoints", "()I"⟩, 7) := ⟨⟨by decide +kernel, by decide +kernel⟩, List.mem_of_getElem? (i := 19) (by decide +kernel), List.mem_of_getElem? (i := 485) (by decide +kernel), List.mem_of_getElem? (i := 486) (by decide +kernel)⟩
theorem lw_p40 : lw_okq (⟨"NeedlePairsModel", "isPoint", "(I)Z"⟩, 16) := ⟨⟨by decide +kernel, by decide +kernel⟩, List.mem_of_getElem? (i := 490) (by decide +kernel), List.mem_of_getElem? (i := 567) (by decide +kernel), List.mem_of_getElem? (i := 568) (by decide +kernel)⟩
theorem lw_p41 : lw_okq (⟨"NeedlePairsModel", "farOf", "(II)I"⟩, 16) := ⟨⟨by decide +kernel, by decide +kernel⟩, List.mem_of_getElem? (i := 490) (by decide +kernel), List.mem_of_getElem? (i := 583) (by decide +kernel), List.mem_of_getElem? (i := 584) (by decide +kernel)⟩
theorem lw_p42 : lw_okq (⟨"NeedlePairsModel", "layTries", "()V"⟩, 16) := ⟨⟨by decide +kernel, by decide +kernel⟩, List.mem_of_getElem? (i := 490) (by decide +kernel), List.mem_of_getElem? (i := 591) (by decide +kernel), List.mem_of_getElem? (i := 592) (by decide +kernel)⟩
theorem lw_p43 : lw_okq (⟨"NeedlePairsModel", "layTree", "(I)V"⟩, 16) := ⟨⟨by decide +kernel, by decide +kernel⟩, List.mem_of_getElem? (i := 490) (by decide +kernel), List.mem_of_getElem? (i := 595) (by decide +kernel), List.mem_of_getElem? (i := 596) (by decide +kernel)⟩
theorem lw_p44 : lw_okq (⟨"NeedlePairsModel", "nextPair", "(I)I"⟩, 16) := ⟨⟨by decide +kernel, by decide +kernel⟩, List.mem_of_getElem? (i := 490) (by decide +kernel), List.mem_of_getElem? (i := 599) (by decide +kernel), List.mem_of_getElem? (i := 600) (by decide +kernel)⟩
theorem lw_p45 : lw_okq (⟨"NeedlePairsModel", "canJoin", "(III)Z"⟩, 16) := ⟨⟨by decide +kernel, by decide +kernel⟩, List.mem_of_getElem? (i := 490) (by decide +kernel), List.mem_of_getElem? (i := 603) (by decide +kernel), List.mem_of_getElem? (i := 604) (by decide +kernel)⟩
theorem lw_p46 : lw_okq (⟨"NeedlePairsModel", "join", "(II)V"⟩, 16) := ⟨⟨by decide +kernel, by decide +kernel⟩, List.mem_of_getElem? (i := 490) (by decide +kernel), List.mem_of_getElem? (i := 607) (by decide +kernel), List.mem_of_getElem? (i := 608) (by decide +kernel)⟩
theorem lw_p47 : lw_okq (⟨"NeedlePairsModel", "addTry", "(IIZ)V"⟩, 16) := ⟨⟨by decide +kernel, by decide +kernel⟩, List.mem_of_getElem? (i := 490) (by decide +kernel), List.mem_of_getElem? (i := 611) (by decide +kernel), List.mem_of_getElem? (i := 612) (by decide +kernel)⟩
def lw_privs_3 : List (MethodName × Nat) := [(⟨"NeedlePairs$Order", "append", "(II)V"⟩, 3), (⟨"NeedlePairs$Order", "tell", "(I)I"⟩, 3), (⟨"NeedlePairs$Needles", "planNearest", "()V"⟩, 6), (⟨"NeedlePairs", "flawSeenAs", "(II)I"⟩, 6), (⟨"NeedlePairs", "isFlaw", "(I)Z"⟩, 6), (⟨"NeedlePairs", "seenOfFlaw", "(I)I"⟩, 6), (⟨"NeedlePairs$Board", "copyFrom", "(LNeedlePairs$Board;)V"⟩, 7), (⟨"NeedlePairs$Board", "countNetsWithPoints", "()I"⟩, 7), (⟨"NeedlePairsModel", "isPoint", "(I)Z"⟩, 16), (⟨"NeedlePairsModel", "farOf", "(II)I"⟩, 16), (⟨"NeedlePairsModel", "layTries", "()V"⟩, 16), (⟨"NeedlePairsModel", "layTree", "(I)V"⟩, 16), (⟨"NeedlePairsModel", "nextPair", "(I)I"⟩, 16), (⟨"NeedlePairsModel", "canJoin", "(III)Z"⟩, 16), (⟨"NeedlePairsModel", "join", "(II)V"⟩, 16), (⟨"NeedlePairsModel", "addTry", "(IIZ)V"⟩, 16)]
theorem lw_r3 : ∀ q ∈ lw_privs_3, lw_okq q := List.forall_mem_cons.mpr ⟨lw_p32, List.forall_mem_cons.mpr ⟨lw_p33, List.forall_mem_cons.mpr ⟨lw_p34, List.forall_mem_cons.mpr ⟨lw_p35, List.forall_mem_cons.mpr ⟨lw_p36, List.forall_mem_cons.mpr ⟨lw_p37, List.forall_mem_cons.mpr ⟨lw_p38, List.forall_mem_cons.mpr ⟨lw_p39, List.forall_mem_cons.mpr ⟨lw_p40, List.forall_mem_cons.mpr ⟨lw_p41, List.forall_mem_cons.mpr ⟨lw_p42, List.forall_mem_cons.mpr ⟨lw_p43, List.forall_mem_cons.mpr ⟨lw_p44, List.forall_mem_cons.mpr ⟨lw_p45, List.forall_mem_cons.mpr ⟨lw_p46, List.forall_mem_cons.mpr ⟨lw_p47, fun _ h => absurd h List.not_mem_nil⟩⟩⟩⟩⟩⟩⟩⟩⟩⟩⟩⟩⟩⟩⟩⟩
theorem lw_p48 : lw_okq (⟨"NeedlePairsModel", "layNeighbours", "(II)V"⟩, 16) := ⟨⟨by decide +kernel, by decide +kernel⟩, List.mem_of_getElem? (i := 490) (by decide +kernel), List.mem_of_getElem? (i := 615) (by decide +kernel), List.mem_of_getElem? (i := 616) (by decide +kernel)⟩
theorem lw_p49 : lw_okq (⟨"NeedlePairsModel", "isTry", "(I)Z"⟩, 16) := ⟨⟨by decide +kernel, by decide +kernel⟩, List.mem_of_getElem? (i := 490) (by decide +kernel), List.mem_of_getElem? (i := 619) (by decide +kernel), List.mem_of_getElem? (i := 620) (by decide +kernel)⟩
theorem lw_p50 : lw_okq (⟨"NeedlePairsModel", "seen", "()I"⟩, 16) := ⟨⟨by decide +kernel, by decide +kernel⟩, List.mem_of_getElem? (i := 490) (by decide +kernel), List.mem_of_getElem? (i := 623) (by decide +kernel), List.mem_of_getElem? (i := 624) (by decide +kernel)⟩
theorem lw_p51 : lw_okq (⟨"NeedlePairsModel", "layOnes", "()V"⟩, 16) := ⟨⟨by decide +kernel, by decide +kernel⟩, List.mem_of_getElem? (i := 490) (by decide +kernel), List.mem_of_getElem? (i := 627) (by decide +kernel), List.mem_of_getElem? (i := 628) (by decide +kernel)⟩
theorem lw_p52 : lw_okq (⟨"NeedlePairsModel", "conducts", "(I)Z"⟩, 16) := ⟨⟨by decide +kernel, by decide +kernel⟩, List.mem_of_getElem? (i := 490) (by decide +kernel), List.mem_of_getElem? (i := 634) (by decide +kernel), List.mem_of_getElem? (i := 635) (by decide +kernel)⟩
theorem lw_p53 : lw_okq (⟨"NeedlePairsModel", "timeOf", "(II)I"⟩, 16) := ⟨⟨by decide +kernel, by decide +kernel⟩, List.mem_of_getElem? (i := 490) (by decide +kernel), List.mem_of_getElem? (i := 642) (by decide +kernel), List.mem_of_getElem? (i := 643) (by decide +kernel)⟩
theorem lw_p54 : lw_okq (⟨"NeedlePairsModel", "timeOfOrder", "()I"⟩, 16) := ⟨⟨by decide +kernel, by decide +kernel⟩, List.mem_of_getElem? (i := 490) (by decide +kernel), List.mem_of_getElem? (i := 664) (by decide +kernel), List.mem_of_getElem? (i := 665) (by decide +kernel)⟩
theorem lw_p55 : lw_okq (⟨"NeedlePairsModel", "layBest", "()V"⟩, 16) := ⟨⟨by decide +kernel, by decide +kernel⟩, List.mem_of_getElem? (i := 490) (by decide +kernel), List.mem_of_getElem? (i := 672) (by decide +kernel), List.mem_of_getElem? (i := 673) (by decide +kernel)⟩
theorem lw_p56 : lw_okq (⟨"NeedlePairsModel", "layRest", "()V"⟩, 16) := ⟨⟨by decide +kernel, by decide +kernel⟩, List.mem_of_getElem? (i := 490) (by decide +kernel), List.mem_of_getElem? (i := 676) (by decide +kernel), List.mem_of_getElem? (i := 677) (by decide +kernel)⟩
theorem lw_p57 : lw_okq (⟨"NeedlePairsModel", "restFrom", "(II)I"⟩, 16) := ⟨⟨by decide +kernel, by decide +kernel⟩, List.mem_of_getElem? (i := 490) (by decide +kernel), List.mem_of_getElem? (i := 680) (by decide +kernel), List.mem_of_getElem? (i := 681) (by decide +kernel)⟩
theorem lw_p58 : lw_okq (⟨"NeedlePairsModel", "orderAt", "(I)I"⟩, 16) := ⟨⟨by decide +kernel, by decide +kernel⟩, List.mem_of_getElem? (i := 490) (by decide +kernel), List.mem_of_getElem? (i := 684) (by decide +kernel), List.mem_of_getElem? (i := 685) (by decide +kernel)⟩
theorem lw_p59 : lw_okq (⟨"NeedlePairsModel", "looseMany", "()I"⟩, 16) := ⟨⟨by decide +kernel, by decide +kernel⟩, List.mem_of_getElem? (i := 490) (by decide +kernel), List.mem_of_getElem? (i := 696) (by decide +kernel), List.mem_of_getElem? (i := 697) (by decide +kernel)⟩
theorem lw_p60 : lw_okq (⟨"NeedlePairsModel", "shortMany", "()I"⟩, 16) := ⟨⟨by decide +kernel, by decide +kernel⟩, List.mem_of_getElem? (i := 490) (by decide +kernel), List.mem_of_getElem? (i := 704) (by decide +kernel), List.mem_of_getElem? (i := 705) (by decide +kernel)⟩
theorem lw_p61 : lw_okq (⟨"NeedlePairsModel", "isSingle", "(I)Z"⟩, 16) := ⟨⟨by decide +kernel, by decide +kernel⟩, List.mem_of_getElem? (i := 490) (by decide +kernel), List.mem_of_getElem? (i := 716) (by decide +kernel), List.mem_of_getElem? (i := 717) (by decide +kernel)⟩
theorem lw_p62 : lw_okq (⟨"NeedlePairsModel", "seenBy", "(I)I"⟩, 16) := ⟨⟨by decide +kernel, by decide +kernel⟩, List.mem_of_getElem? (i := 490) (by decide +kernel), List.mem_of_getElem? (i := 720) (by decide +kernel), List.mem_of_getElem? (i := 721) (by decide +kernel)⟩
theorem lw_p63 : lw_okq (⟨"NeedlePairsModel", "isAnyOne", "(III)Z"⟩, 16) := ⟨⟨by decide +kernel, by decide +kernel⟩, List.mem_of_getElem? (i := 490) (by decide +kernel), List.mem_of_getElem? (i := 732) (by decide +kernel), List.mem_of_getElem? (i := 733) (by decide +kernel)⟩
def lw_privs_4 : List (MethodName × Nat) := [(⟨"NeedlePairsModel", "layNeighbours", "(II)V"⟩, 16), (⟨"NeedlePairsModel", "isTry", "(I)Z"⟩, 16), (⟨"NeedlePairsModel", "seen", "()I"⟩, 16), (⟨"NeedlePairsModel", "layOnes", "()V"⟩, 16), (⟨"NeedlePairsModel", "conducts", "(I)Z"⟩, 16), (⟨"NeedlePairsModel", "timeOf", "(II)I"⟩, 16), (⟨"NeedlePairsModel", "timeOfOrder", "()I"⟩, 16), (⟨"NeedlePairsModel", "layBest", "()V"⟩, 16), (⟨"NeedlePairsModel", "layRest", "()V"⟩, 16), (⟨"NeedlePairsModel", "restFrom", "(II)I"⟩, 16), (⟨"NeedlePairsModel", "orderAt", "(I)I"⟩, 16), (⟨"NeedlePairsModel", "looseMany", "()I"⟩, 16), (⟨"NeedlePairsModel", "shortMany", "()I"⟩, 16), (⟨"NeedlePairsModel", "isSingle", "(I)Z"⟩, 16), (⟨"NeedlePairsModel", "seenBy", "(I)I"⟩, 16), (⟨"NeedlePairsModel", "isAnyOne", "(III)Z"⟩, 16)]
theorem lw_r4 : ∀ q ∈ lw_privs_4, lw_okq q := List.forall_mem_cons.mpr ⟨lw_p48, List.forall_mem_cons.mpr ⟨lw_p49, List.forall_mem_cons.mpr ⟨lw_p50, List.forall_mem_cons.mpr ⟨lw_p51, List.forall_mem_cons.mpr ⟨lw_p52, List.forall_mem_cons.mpr ⟨lw_p53, List.forall_mem_cons.mpr ⟨lw_p54, List.forall_mem_cons.mpr ⟨lw_p55, List.forall_mem_cons.mpr ⟨lw_p56, List.forall_mem_cons.mpr ⟨lw_p57, List.forall_mem_cons.mpr ⟨lw_p58, List.forall_mem_cons.mpr ⟨lw_p59, List.forall_mem_cons.mpr ⟨lw_p60, List.forall_mem_cons.mpr ⟨lw_p61, List.forall_mem_cons.mpr ⟨lw_p62, List.forall_mem_cons.mpr ⟨lw_p63, fun _ h => absurd h List.not_mem_nil⟩⟩⟩⟩⟩⟩⟩⟩⟩⟩⟩⟩⟩⟩⟩⟩
theorem lw_p64 : lw_okq (⟨"NeedlePairsModel", "apartMany", "()I"⟩, 16) := ⟨⟨by decide +kernel, by decide +kernel⟩, List.mem_of_getElem? (i := 490) (by decide +kernel), List.mem_of_getElem? (i := 748) (by decide +kernel), List.mem_of_getElem? (i := 749) (by decide +kernel)⟩
theorem lw_p65 : lw_okq (⟨"NeedlePairsModel", "netsUsed", "()I"⟩, 16) := ⟨⟨by decide +kernel, by decide +kernel⟩, List.mem_of_getElem? (i := 490) (by decide +kernel), List.mem_of_getElem? (i := 752) (by decide +kernel), List.mem_of_getElem? (i := 753) (by decide +kernel)⟩
def lw_privs_5 : List (MethodName × Nat) := [(⟨"NeedlePairsModel", "apartMany", "()I"⟩, 16), (⟨"NeedlePairsModel", "netsUsed", "()I"⟩, 16)]
theorem lw_r5 : ∀ q ∈ lw_privs_5, lw_okq q := List.forall_mem_cons.mpr ⟨lw_p64, List.forall_mem_cons.mpr ⟨lw_p65, fun _ h => absurd h List.not_mem_nil⟩⟩
def lw_privs : List (MethodName × Nat) := lw_privs_1 ++ (lw_privs_2 ++ (lw_privs_3 ++ (lw_privs_4 ++ (lw_privs_5))))
def lw_tbl : List Cond := k2_sels lw_privs ++ tables_1
theorem lw_privs_ok : ∀ q ∈ lw_privs, lw_okq q := by
  show ∀ q ∈ lw_privs_1 ++ (lw_privs_2 ++ (lw_privs_3 ++ (lw_privs_4 ++ (lw_privs_5)))), lw_okq q
  exact List.forall_mem_append.mpr ⟨lw_r1, List.forall_mem_append.mpr ⟨lw_r2, List.forall_mem_append.mpr ⟨lw_r3, List.forall_mem_append.mpr ⟨lw_r4, lw_r5⟩⟩⟩⟩
end
section
theorem goodIn_r {big : List Cond} (ws : List Cond) (ps : List Nat) (hp : ws = ps.filterMap (fun i => big[i]?)) (h : ws.all goodWord = true) : GoodIn big ws := by
  intro w hw
  have h1 := List.all_eq_true.mp h w hw
  rw [hp] at hw
  obtain ⟨i, -, hi⟩ := List.mem_filterMap.mp hw
  have hm : w ∈ big := by first | exact List.mem_of_getElem? hi | exact List.getElem?_mem hi
  exact ⟨hm, good_of_word h1⟩
theorem goodIn_app {big a b : List Cond} (ha : GoodIn big a) (hb : GoodIn big b) : GoodIn big (a ++ b) := fun w h => (List.mem_append.mp h).elim (ha w) (hb w)
theorem goodIn_ca {big a b : List Cond} {c : Cond} (ha : GoodIn big (c :: a)) (hb : GoodIn big b) : GoodIn big (c :: (a ++ b)) := fun w h => (List.mem_cons.mp h).elim (fun e => ha w (List.mem_cons.mpr (Or.inl e))) (fun h => (List.mem_append.mp h).elim (fun h => ha w (List.mem_cons.mpr (Or.inr h))) (hb w))
theorem goodIn_sub {big ws : List Cond} (hm : ∀ w ∈ ws, w ∈ big) (h : ws.all goodWord = true) : GoodIn big ws := fun w hw => ⟨hm w hw, good_of_word (List.all_eq_true.mp h w hw)⟩
def RX0 : String := "NeedlePairs$Board"
def TX0 : u_T := fun k => match k with
  | 0 => ("NeedlePairs$Board", "nets", "[I", true)
  | 1 => ("NeedlePairs$Board", "xs", "[I", true)
  | 2 => ("NeedlePairs$Board", "ys", "[I", true)
  | 3 => ("NeedlePairs$Board", "points", "I", false)
  | 4 => ("NeedlePairs$Board", "nearness", "I", false)
  | 5 => ("NeedlePairs$Board", "looseSet", "I", false)
  | _ => ("NeedlePairs$Board", "shortSet", "I", false)
def tyX0 : Nat → FieldType := fun k => match k with
  | 0 => .array .int
  | 1 => .array .int
  | 2 => .array .int
  | 3 => .int
  | 4 => .int
  | 5 => .int
  | _ => .int
abbrev wsX00 : List Cond := u_ws RX0 TX0 7
theorem nmX0 : ∀ a, a < 7 → ∀ b, b < 7 → a ≠ b → (TX0 a).2.1 ≠ (TX0 b).2.1 := by decide +kernel
theorem tyX0_ok : ∀ k, k < 7 → parseFieldDescriptor (TX0 k).2.2.1 = some (tyX0 k) := by decide +kernel
abbrev cX0_init : ByteArray := prog_2_method_1_code
def yX0_init : MethodName := ⟨RX0, "<init>", "()V"⟩
abbrev cX0_copyFrom : ByteArray := prog_2_method_2_code
def yX0_copyFrom : MethodName := ⟨RX0, "copyFrom", "(LNeedlePairs$Board;)V"⟩
abbrev cX0_hasPoint : ByteArray := prog_2_method_3_code
def yX0_hasPoint : MethodName := ⟨RX0, "hasPoint", "(I)Z"⟩
abbrev cX0_addPoint : ByteArray := prog_2_method_4_code
def yX0_addPoint : MethodName := ⟨RX0, "addPoint", "(III)I"⟩
abbrev cX0_removeLastPoint : ByteArray := prog_2_method_5_code
def yX0_removeLastPoint : MethodName := ⟨RX0, "removeLastPoint", "()V"⟩
abbrev cX0_distance : ByteArray := prog_2_method_6_code
def yX0_distance : MethodName := ⟨RX0, "distance", "(II)I"⟩
abbrev cX0_isLeftOf : ByteArray := prog_2_method_7_code
def yX0_isLeftOf : MethodName := ⟨RX0, "isLeftOf", "(II)Z"⟩
abbrev cX0_countNetsWithPoints : ByteArray := prog_2_method_8_code
def yX0_countNetsWithPoints : MethodName := ⟨RX0, "countNetsWithPoints", "()I"⟩
def RX1 : String := "NeedlePairs$Needles"
def TX1 : u_T := fun k => match k with
  | 0 => ("NeedlePairs$Needles", "total", "I", false)
  | 1 => ("NeedlePairs$Needles", "leaps", "[I", true)
  | 2 => ("NeedlePairs$Needles", "onward", "[I", true)
  | 3 => ("NeedlePairs$Needles", "bestOrder", "LNeedlePairs$Order;", true)
  | 4 => ("NeedlePairs$Needles", "nearestOrder", "LNeedlePairs$Order;", true)
  | _ => ("NeedlePairs$Needles", "bestIsPlanned", "Z", false)
def tyX1 : Nat → FieldType := fun k => match k with
  | 0 => .int
  | 1 => .array .int
  | 2 => .array .int
  | 3 => .object "NeedlePairs$Order"
  | 4 => .object "NeedlePairs$Order"
  | _ => .boolean
abbrev wsX10 : List Cond := u_ws RX1 TX1 6
theorem nmX1 : ∀ a, a < 6 → ∀ b, b < 6 → a ≠ b → (TX1 a).2.1 ≠ (TX1 b).2.1 := by decide +kernel
theorem tyX1_ok : ∀ k, k < 6 → parseFieldDescriptor (TX1 k).2.2.1 = some (tyX1 k) := by decide +kernel
abbrev cX1_init : ByteArray := prog_3_method_1_code
def yX1_init : MethodName := ⟨RX1, "<init>", "()V"⟩
abbrev cX1_measure : ByteArray := prog_3_method_2_code
def yX1_measure : MethodName := ⟨RX1, "measure", "(LNeedlePairs$Board;LNeedlePairs$Tries;)V"⟩
abbrev cX1_way : ByteArray := prog_3_method_3_code
def yX1_way : MethodName := ⟨RX1, "way", "(LNeedlePairs$Board;II)I"⟩
abbrev cX1_longer : ByteArray := prog_3_method_4_code
def yX1_longer : MethodName := ⟨RX1, "longer", "(II)I"⟩
abbrev cX1_leap : ByteArray := prog_3_method_5_code
def yX1_leap : MethodName := ⟨RX1, "leap", "(II)I"⟩
abbrev cX1_allTries : ByteArray := prog_3_method_6_code
def yX1_allTries : MethodName := ⟨RX1, "allTries", "()I"⟩
abbrev cX1_planNearest : ByteArray := prog_3_method_7_code
def yX1_planNearest : MethodName := ⟨RX1, "planNearest", "()V"⟩
abbrev cX1_planBest : ByteArray := prog_3_method_8_code
def yX1_planBest : MethodName := ⟨RX1, "planBest", "()V"⟩
abbrev cX1_plan : ByteArray := prog_3_method_9_code
def yX1_plan : MethodName := ⟨RX1, "plan", "(LNeedlePairs$Order;Z)V"⟩
abbrev cX1_nearestOf : ByteArray := prog_3_method_10_code
def yX1_nearestOf : MethodName := ⟨RX1, "nearestOf", "(II)I"⟩
abbrev cX1_weighOnward : ByteArray := prog_3_method_11_code
def yX1_weighOnward : MethodName := ⟨RX1, "weighOnward", "()V"⟩
abbrev cX1_leastThrough : ByteArray := prog_3_method_12_code
def yX1_leastThrough : MethodName := ⟨RX1, "leastThrough", "(II)I"⟩
abbrev cX1_firstOfBest : ByteArray := prog_3_method_13_code
def yX1_firstOfBest : MethodName := ⟨RX1, "firstOfBest", "(II)I"⟩
def RX2 : String := "NeedlePairs$Order"
def TX2 : u_T := fun k => match k with
  | 0 => ("NeedlePairs$Order", "tries", "[I", true)
  | 1 => ("NeedlePairs$Order", "length", "I", false)
  | _ => ("NeedlePairs$Order", "sum", "I", false)
def tyX2 : Nat → FieldType := fun k => match k with
  | 0 => .array .int
  | 1 => .int
  | _ => .int
abbrev wsX20 : List Cond := u_ws RX2 TX2 3
theorem nmX2 : ∀ a, a < 3 → ∀ b, b < 3 → a ≠ b → (TX2 a).2.1 ≠ (TX2 b).2.1 := by decide +kernel
theorem tyX2_ok : ∀ k, k < 3 → parseFieldDescriptor (TX2 k).2.2.1 = some (tyX2 k) := by decide +kernel
abbrev cX2_init : ByteArray := prog_4_method_1_code
def yX2_init : MethodName := ⟨RX2, "<init>", "()V"⟩
abbrev cX2_clear : ByteArray := prog_4_method_2_code
def yX2_clear : MethodName := ⟨RX2, "clear", "()V"⟩
abbrev cX2_append : ByteArray := prog_4_method_3_code
def yX2_append : MethodName := ⟨RX2, "append", "(II)V"⟩
abbrev cX2_tell : ByteArray := prog_4_method_4_code
def yX2_tell : MethodName := ⟨RX2, "tell", "(I)I"⟩
def RX3 : String := "NeedlePairs$Pad"
def TX3 : u_T := fun k => match k with
  | 0 => ("NeedlePairs$Pad", "signs", "[I", true)
  | _ => ("NeedlePairs$Pad", "length", "I", false)
def tyX3 : Nat → FieldType := fun k => match k with
  | 0 => .array .int
  | _ => .int
abbrev wsX30 : List Cond := u_ws RX3 TX3 2
theorem nmX3 : ∀ a, a < 2 → ∀ b, b < 2 → a ≠ b → (TX3 a).2.1 ≠ (TX3 b).2.1 := by decide +kernel
theorem tyX3_ok : ∀ k, k < 2 → parseFieldDescriptor (TX3 k).2.2.1 = some (tyX3 k) := by decide +kernel
abbrev cX3_init : ByteArray := prog_5_method_1_code
def yX3_init : MethodName := ⟨RX3, "<init>", "()V"⟩
abbrev cX3_write : ByteArray := prog_5_method_2_code
def yX3_write : MethodName := ⟨RX3, "write", "(I)V"⟩
abbrev cX3_tryAt : ByteArray := prog_5_method_3_code
def yX3_tryAt : MethodName := ⟨RX3, "tryAt", "(I)I"⟩
abbrev cX3_tellsOrderOf : ByteArray := prog_5_method_4_code
def yX3_tellsOrderOf : MethodName := ⟨RX3, "tellsOrderOf", "(I)Z"⟩
def RX4 : String := "NeedlePairs$Tries"
def TX4 : u_T := fun k => match k with
  | 0 => ("NeedlePairs$Tries", "left", "[I", true)
  | 1 => ("NeedlePairs$Tries", "right", "[I", true)
  | 2 => ("NeedlePairs$Tries", "total", "I", false)
  | 3 => ("NeedlePairs$Tries", "ofTrees", "I", false)
  | 4 => ("NeedlePairs$Tries", "group", "[I", true)
  | _ => ("NeedlePairs$Tries", "paired", "[I", true)
def tyX4 : Nat → FieldType := fun k => match k with
  | 0 => .array .int
  | 1 => .array .int
  | 2 => .int
  | 3 => .int
  | 4 => .array .int
  | _ => .array .int
abbrev wsX40 : List Cond := u_ws RX4 TX4 6
theorem nmX4 : ∀ a, a < 6 → ∀ b, b < 6 → a ≠ b → (TX4 a).2.1 ≠ (TX4 b).2.1 := by decide +kernel
theorem tyX4_ok : ∀ k, k < 6 → parseFieldDescriptor (TX4 k).2.2.1 = some (tyX4 k) := by decide +kernel
abbrev cX4_init : ByteArray := prog_6_method_1_code
def yX4_init : MethodName := ⟨RX4, "<init>", "()V"⟩
abbrev cX4_layOut : ByteArray := prog_6_method_2_code
def yX4_layOut : MethodName := ⟨RX4, "layOut", "(LNeedlePairs$Board;)V"⟩
abbrev cX4_hasTry : ByteArray := prog_6_method_3_code
def yX4_hasTry : MethodName := ⟨RX4, "hasTry", "(I)Z"⟩
abbrev cX4_isOfNeighbours : ByteArray := prog_6_method_4_code
def yX4_isOfNeighbours : MethodName := ⟨RX4, "isOfNeighbours", "(I)Z"⟩
abbrev cX4_growTrees : ByteArray := prog_6_method_5_code
def yX4_growTrees : MethodName := ⟨RX4, "growTrees", "(LNeedlePairs$Board;)V"⟩
abbrev cX4_joinNextPair : ByteArray := prog_6_method_6_code
def yX4_joinNextPair : MethodName := ⟨RX4, "joinNextPair", "(LNeedlePairs$Board;)Z"⟩
abbrev cX4_mergeGroups : ByteArray := prog_6_method_7_code
def yX4_mergeGroups : MethodName := ⟨RX4, "mergeGroups", "(II)V"⟩
abbrev cX4_addTrees : ByteArray := prog_6_method_8_code
def yX4_addTrees : MethodName := ⟨RX4, "addTrees", "(LNeedlePairs$Board;)V"⟩
abbrev cX4_addNeighbours : ByteArray := prog_6_method_9_code
def yX4_addNeighbours : MethodName := ⟨RX4, "addNeighbours", "(LNeedlePairs$Board;)V"⟩
abbrev cX4_addNearestPair : ByteArray := prog_6_method_10_code
def yX4_addNearestPair : MethodName := ⟨RX4, "addNearestPair", "(LNeedlePairs$Board;II)V"⟩
abbrev cX4_addTry : ByteArray := prog_6_method_11_code
def yX4_addTry : MethodName := ⟨RX4, "addTry", "(LNeedlePairs$Board;II)V"⟩
abbrev cX4_conducts : ByteArray := prog_6_method_12_code
def yX4_conducts : MethodName := ⟨RX4, "conducts", "(LNeedlePairs$Board;III)Z"⟩
abbrev cX4_seenSet : ByteArray := prog_6_method_13_code
def yX4_seenSet : MethodName := ⟨RX4, "seenSet", "(LNeedlePairs$Board;II)I"⟩
def RX5 : String := "NeedlePairs"
def TX5 : u_T := fun k => match k with
  | 0 => ("NeedlePairs", "board", "LNeedlePairs$Board;", true)
  | 1 => ("NeedlePairs", "tries", "LNeedlePairs$Tries;", true)
  | 2 => ("NeedlePairs", "needles", "LNeedlePairs$Needles;", true)
  | 3 => ("NeedlePairs", "pad", "LNeedlePairs$Pad;", true)
  | 4 => ("NeedlePairs", "images", "[LNeedlePairs$Board;", true)
  | _ => ("NeedlePairs", "keptImages", "I", false)
def tyX5 : Nat → FieldType := fun k => match k with
  | 0 => .object "NeedlePairs$Board"
  | 1 => .object "NeedlePairs$Tries"
  | 2 => .object "NeedlePairs$Needles"
  | 3 => .object "NeedlePairs$Pad"
  | 4 => .array (.object "NeedlePairs$Board")
  | _ => .int
abbrev wsX50 : List Cond := u_ws RX5 TX5 6
theorem nmX5 : ∀ a, a < 6 → ∀ b, b < 6 → a ≠ b → (TX5 a).2.1 ≠ (TX5 b).2.1 := by decide +kernel
theorem tyX5_ok : ∀ k, k < 6 → parseFieldDescriptor (TX5 k).2.2.1 = some (tyX5 k) := by decide +kernel
abbrev cX5_init : ByteArray := prog_1_method_1_code
def yX5_init : MethodName := ⟨RX5, "<init>", "()V"⟩
abbrev cX5_point : ByteArray := prog_1_method_2_code
def yX5_point : MethodName := ⟨RX5, "point", "(III)I"⟩
abbrev cX5_pop : ByteArray := prog_1_method_3_code
def yX5_pop : MethodName := ⟨RX5, "pop", "()I"⟩
abbrev cX5_move : ByteArray := prog_1_method_4_code
def yX5_move : MethodName := ⟨RX5, "move", "(III)I"⟩
abbrev cX5_near : ByteArray := prog_1_method_5_code
def yX5_near : MethodName := ⟨RX5, "near", "(I)I"⟩
abbrev cX5_of : ByteArray := prog_1_method_6_code
def yX5_of : MethodName := ⟨RX5, "of", "(II)I"⟩
abbrev cX5_far : ByteArray := prog_1_method_7_code
def yX5_far : MethodName := ⟨RX5, "far", "(II)I"⟩
abbrev cX5_attempt : ByteArray := prog_1_method_8_code
def yX5_attempt : MethodName := ⟨RX5, "attempt", "(II)I"⟩
abbrev cX5_time : ByteArray := prog_1_method_9_code
def yX5_time : MethodName := ⟨RX5, "time", "(II)I"⟩
abbrev cX5_say : ByteArray := prog_1_method_10_code
def yX5_say : MethodName := ⟨RX5, "say", "(I)I"⟩
abbrev cX5_wipe : ByteArray := prog_1_method_11_code
def yX5_wipe : MethodName := ⟨RX5, "wipe", "()I"⟩
abbrev cX5_told : ByteArray := prog_1_method_12_code
def yX5_told : MethodName := ⟨RX5, "told", "()I"⟩
abbrev cX5_best : ByteArray := prog_1_method_13_code
def yX5_best : MethodName := ⟨RX5, "best", "(I)I"⟩
abbrev cX5_nearest : ByteArray := prog_1_method_14_code
def yX5_nearest : MethodName := ⟨RX5, "nearest", "(I)I"⟩
abbrev cX5_loosen : ByteArray := prog_1_method_15_code
def yX5_loosen : MethodName := ⟨RX5, "loosen", "(II)I"⟩
abbrev cX5_join : ByteArray := prog_1_method_16_code
def yX5_join : MethodName := ⟨RX5, "join", "(III)I"⟩
abbrev cX5_sees : ByteArray := prog_1_method_17_code
def yX5_sees : MethodName := ⟨RX5, "sees", "()I"⟩
abbrev cX5_fits : ByteArray := prog_1_method_18_code
def yX5_fits : MethodName := ⟨RX5, "fits", "(I)I"⟩
abbrev cX5_hidden : ByteArray := prog_1_method_19_code
def yX5_hidden : MethodName := ⟨RX5, "hidden", "(I)I"⟩
abbrev cX5_halves : ByteArray := prog_1_method_20_code
def yX5_halves : MethodName := ⟨RX5, "halves", "(II)I"⟩
abbrev cX5_image : ByteArray := prog_1_method_21_code
def yX5_image : MethodName := ⟨RX5, "image", "(I)I"⟩
abbrev cX5_restore : ByteArray := prog_1_method_22_code
def yX5_restore : MethodName := ⟨RX5, "restore", "(I)I"⟩
abbrev cX5_count : ByteArray := prog_1_method_23_code
def yX5_count : MethodName := ⟨RX5, "count", "(I)I"⟩
abbrev cX5_layTriesAnew : ByteArray := prog_1_method_24_code
def yX5_layTriesAnew : MethodName := ⟨RX5, "layTriesAnew", "()V"⟩
abbrev cX5_seenNow : ByteArray := prog_1_method_25_code
def yX5_seenNow : MethodName := ⟨RX5, "seenNow", "()I"⟩
abbrev cX5_flawSeenAs : ByteArray := prog_1_method_26_code
def yX5_flawSeenAs : MethodName := ⟨RX5, "flawSeenAs", "(II)I"⟩
abbrev cX5_isFlaw : ByteArray := prog_1_method_27_code
def yX5_isFlaw : MethodName := ⟨RX5, "isFlaw", "(I)Z"⟩
abbrev cX5_seenOfFlaw : ByteArray := prog_1_method_28_code
def yX5_seenOfFlaw : MethodName := ⟨RX5, "seenOfFlaw", "(I)I"⟩
abbrev cX5_isNet : ByteArray := prog_1_method_29_code
def yX5_isNet : MethodName := ⟨RX5, "isNet", "(I)Z"⟩
abbrev cX5_isOnBoard : ByteArray := prog_1_method_30_code
def yX5_isOnBoard : MethodName := ⟨RX5, "isOnBoard", "(II)Z"⟩
abbrev cX5_isImage : ByteArray := prog_1_method_31_code
def yX5_isImage : MethodName := ⟨RX5, "isImage", "(I)Z"⟩
abbrev cX5_isSwitch : ByteArray := prog_1_method_32_code
def yX5_isSwitch : MethodName := ⟨RX5, "isSwitch", "(I)Z"⟩
abbrev cX5_isIn : ByteArray := prog_1_method_33_code
def yX5_isIn : MethodName := ⟨RX5, "isIn", "(II)Z"⟩
abbrev cX5_withMember : ByteArray := prog_1_method_34_code
def yX5_withMember : MethodName := ⟨RX5, "withMember", "(III)I"⟩
abbrev cX5_asNumber : ByteArray := prog_1_method_35_code
def yX5_asNumber : MethodName := ⟨RX5, "asNumber", "(Z)I"⟩
abbrev cX5_leastMembers : ByteArray := prog_1_method_36_code
def yX5_leastMembers : MethodName := ⟨RX5, "leastMembers", "(II)I"⟩
abbrev cX5_leastNet : ByteArray := prog_1_method_37_code
def yX5_leastNet : MethodName := ⟨RX5, "leastNet", "(I)I"⟩
abbrev cX5_pairOfNets : ByteArray := prog_1_method_38_code
def yX5_pairOfNets : MethodName := ⟨RX5, "pairOfNets", "(II)I"⟩
abbrev cX5_netsOneWith : ByteArray := prog_1_method_39_code
def yX5_netsOneWith : MethodName := ⟨RX5, "netsOneWith", "(II)I"⟩
def RX6 : String := "NeedlePairsModel"
def TX6 : u_T := fun k => match k with
  | 0 => ("NeedlePairsModel", "state", "[I", true)
  | 1 => ("NeedlePairsModel", "images", "[I", true)
  | 2 => ("NeedlePairsModel", "isKept", "[Z", true)
  | 3 => ("NeedlePairsModel", "pad", "[I", true)
  | 4 => ("NeedlePairsModel", "said", "I", false)
  | 5 => ("NeedlePairsModel", "leftOf", "[I", true)
  | 6 => ("NeedlePairsModel", "rightOf", "[I", true)
  | 7 => ("NeedlePairsModel", "isApart", "[Z", true)
  | 8 => ("NeedlePairsModel", "tries", "I", false)
  | 9 => ("NeedlePairsModel", "group", "[I", true)
  | 10 => ("NeedlePairsModel", "isPair", "[Z", true)
  | 11 => ("NeedlePairsModel", "isOne", "[Z", true)
  | 12 => ("NeedlePairsModel", "order", "[I", true)
  | 13 => ("NeedlePairsModel", "rest", "[I", true)
  | 14 => ("NeedlePairsModel", "aside", "[I", true)
  | _ => ("NeedlePairsModel", "others", "[I", true)
def tyX6 : Nat → FieldType := fun k => match k with
  | 0 => .array .int
  | 1 => .array .int
  | 2 => .array .boolean
  | 3 => .array .int
  | 4 => .int
  | 5 => .array .int
  | 6 => .array .int
  | 7 => .array .boolean
  | 8 => .int
  | 9 => .array .int
  | 10 => .array .boolean
  | 11 => .array .boolean
  | 12 => .array .int
  | 13 => .array .int
  | 14 => .array .int
  | _ => .array .int
abbrev wsX60 : List Cond := u_ws RX6 TX6 16
theorem nmX6 : ∀ a, a < 16 → ∀ b, b < 16 → a ≠ b → (TX6 a).2.1 ≠ (TX6 b).2.1 := by decide +kernel
theorem tyX6_ok : ∀ k, k < 16 → parseFieldDescriptor (TX6 k).2.2.1 = some (tyX6 k) := by decide +kernel
abbrev cX6_init : ByteArray := prog_8_method_1_code
def yX6_init : MethodName := ⟨RX6, "<init>", "()V"⟩
abbrev cX6_in : ByteArray := prog_8_method_2_code
def yX6_in : MethodName := ⟨RX6, "in", "(III)Z"⟩
abbrev cX6_isNet : ByteArray := prog_8_method_3_code
def yX6_isNet : MethodName := ⟨RX6, "isNet", "(I)Z"⟩
abbrev cX6_isPoint : ByteArray := prog_8_method_4_code
def yX6_isPoint : MethodName := ⟨RX6, "isPoint", "(I)Z"⟩
abbrev cX6_isHere : ByteArray := prog_8_method_5_code
def yX6_isHere : MethodName := ⟨RX6, "isHere", "(II)Z"⟩
abbrev cX6_point : ByteArray := prog_8_method_6_code
def yX6_point : MethodName := ⟨RX6, "point", "(III)I"⟩
abbrev cX6_pop : ByteArray := prog_8_method_7_code
def yX6_pop : MethodName := ⟨RX6, "pop", "()I"⟩
abbrev cX6_move : ByteArray := prog_8_method_8_code
def yX6_move : MethodName := ⟨RX6, "move", "(III)I"⟩
abbrev cX6_near : ByteArray := prog_8_method_9_code
def yX6_near : MethodName := ⟨RX6, "near", "(I)I"⟩
abbrev cX6_of : ByteArray := prog_8_method_10_code
def yX6_of : MethodName := ⟨RX6, "of", "(II)I"⟩
abbrev cX6_farOf : ByteArray := prog_8_method_11_code
def yX6_farOf : MethodName := ⟨RX6, "farOf", "(II)I"⟩
abbrev cX6_far : ByteArray := prog_8_method_12_code
def yX6_far : MethodName := ⟨RX6, "far", "(II)I"⟩
abbrev cX6_addTry : ByteArray := prog_8_method_13_code
def yX6_addTry : MethodName := ⟨RX6, "addTry", "(IIZ)V"⟩
abbrev cX6_canJoin : ByteArray := prog_8_method_14_code
def yX6_canJoin : MethodName := ⟨RX6, "canJoin", "(III)Z"⟩
abbrev cX6_nextPair : ByteArray := prog_8_method_15_code
def yX6_nextPair : MethodName := ⟨RX6, "nextPair", "(I)I"⟩
abbrev cX6_join : ByteArray := prog_8_method_16_code
def yX6_join : MethodName := ⟨RX6, "join", "(II)V"⟩
abbrev cX6_layTree : ByteArray := prog_8_method_17_code
def yX6_layTree : MethodName := ⟨RX6, "layTree", "(I)V"⟩
abbrev cX6_layNeighbours : ByteArray := prog_8_method_18_code
def yX6_layNeighbours : MethodName := ⟨RX6, "layNeighbours", "(II)V"⟩
abbrev cX6_layTries : ByteArray := prog_8_method_19_code
def yX6_layTries : MethodName := ⟨RX6, "layTries", "()V"⟩
abbrev cX6_isTry : ByteArray := prog_8_method_20_code
def yX6_isTry : MethodName := ⟨RX6, "isTry", "(I)Z"⟩
abbrev cX6_pairOf : ByteArray := prog_8_method_21_code
def yX6_pairOf : MethodName := ⟨RX6, "pairOf", "(II)I"⟩
abbrev cX6_layOnes : ByteArray := prog_8_method_22_code
def yX6_layOnes : MethodName := ⟨RX6, "layOnes", "()V"⟩
abbrev cX6_conducts : ByteArray := prog_8_method_23_code
def yX6_conducts : MethodName := ⟨RX6, "conducts", "(I)Z"⟩
abbrev cX6_seen : ByteArray := prog_8_method_24_code
def yX6_seen : MethodName := ⟨RX6, "seen", "()I"⟩
abbrev cX6_attempt : ByteArray := prog_8_method_25_code
def yX6_attempt : MethodName := ⟨RX6, "attempt", "(II)I"⟩
abbrev cX6_size : ByteArray := prog_8_method_26_code
def yX6_size : MethodName := ⟨RX6, "size", "(I)I"⟩
abbrev cX6_greater : ByteArray := prog_8_method_27_code
def yX6_greater : MethodName := ⟨RX6, "greater", "(II)I"⟩
abbrev cX6_timeOf : ByteArray := prog_8_method_28_code
def yX6_timeOf : MethodName := ⟨RX6, "timeOf", "(II)I"⟩
abbrev cX6_time : ByteArray := prog_8_method_29_code
def yX6_time : MethodName := ⟨RX6, "time", "(II)I"⟩
abbrev cX6_say : ByteArray := prog_8_method_30_code
def yX6_say : MethodName := ⟨RX6, "say", "(I)I"⟩
abbrev cX6_wipe : ByteArray := prog_8_method_31_code
def yX6_wipe : MethodName := ⟨RX6, "wipe", "()I"⟩
abbrev cX6_timeOfOrder : ByteArray := prog_8_method_32_code
def yX6_timeOfOrder : MethodName := ⟨RX6, "timeOfOrder", "()I"⟩
abbrev cX6_told : ByteArray := prog_8_method_33_code
def yX6_told : MethodName := ⟨RX6, "told", "()I"⟩
abbrev cX6_restFrom : ByteArray := prog_8_method_34_code
def yX6_restFrom : MethodName := ⟨RX6, "restFrom", "(II)I"⟩
abbrev cX6_layRest : ByteArray := prog_8_method_35_code
def yX6_layRest : MethodName := ⟨RX6, "layRest", "()V"⟩
abbrev cX6_layBest : ByteArray := prog_8_method_36_code
def yX6_layBest : MethodName := ⟨RX6, "layBest", "()V"⟩
abbrev cX6_orderAt : ByteArray := prog_8_method_37_code
def yX6_orderAt : MethodName := ⟨RX6, "orderAt", "(I)I"⟩
abbrev cX6_best : ByteArray := prog_8_method_38_code
def yX6_best : MethodName := ⟨RX6, "best", "(I)I"⟩
abbrev cX6_nearest : ByteArray := prog_8_method_39_code
def yX6_nearest : MethodName := ⟨RX6, "nearest", "(I)I"⟩
abbrev cX6_looseMany : ByteArray := prog_8_method_40_code
def yX6_looseMany : MethodName := ⟨RX6, "looseMany", "()I"⟩
abbrev cX6_loosen : ByteArray := prog_8_method_41_code
def yX6_loosen : MethodName := ⟨RX6, "loosen", "(II)I"⟩
abbrev cX6_shortMany : ByteArray := prog_8_method_42_code
def yX6_shortMany : MethodName := ⟨RX6, "shortMany", "()I"⟩
abbrev cX6_join_ : ByteArray := prog_8_method_43_code
def yX6_join_ : MethodName := ⟨RX6, "join", "(III)I"⟩
abbrev cX6_sees : ByteArray := prog_8_method_44_code
def yX6_sees : MethodName := ⟨RX6, "sees", "()I"⟩
abbrev cX6_isSingle : ByteArray := prog_8_method_45_code
def yX6_isSingle : MethodName := ⟨RX6, "isSingle", "(I)Z"⟩
abbrev cX6_seenBy : ByteArray := prog_8_method_46_code
def yX6_seenBy : MethodName := ⟨RX6, "seenBy", "(I)I"⟩
abbrev cX6_fits : ByteArray := prog_8_method_47_code
def yX6_fits : MethodName := ⟨RX6, "fits", "(I)I"⟩
abbrev cX6_hidden : ByteArray := prog_8_method_48_code
def yX6_hidden : MethodName := ⟨RX6, "hidden", "(I)I"⟩
abbrev cX6_isAnyOne : ByteArray := prog_8_method_49_code
def yX6_isAnyOne : MethodName := ⟨RX6, "isAnyOne", "(III)Z"⟩
abbrev cX6_halves : ByteArray := prog_8_method_50_code
def yX6_halves : MethodName := ⟨RX6, "halves", "(II)I"⟩
abbrev cX6_image : ByteArray := prog_8_method_51_code
def yX6_image : MethodName := ⟨RX6, "image", "(I)I"⟩
abbrev cX6_restore : ByteArray := prog_8_method_52_code
def yX6_restore : MethodName := ⟨RX6, "restore", "(I)I"⟩
abbrev cX6_apartMany : ByteArray := prog_8_method_53_code
def yX6_apartMany : MethodName := ⟨RX6, "apartMany", "()I"⟩
abbrev cX6_netsUsed : ByteArray := prog_8_method_54_code
def yX6_netsUsed : MethodName := ⟨RX6, "netsUsed", "()I"⟩
abbrev cX6_count : ByteArray := prog_8_method_55_code
def yX6_count : MethodName := ⟨RX6, "count", "(I)I"⟩
def RJ6 : String := "java/lang/Integer"
def TJ6 : u_T := fun k => match k with
  | _ => ("", "", "", false)
def tyJ6 : Nat → FieldType := fun k => match k with
  | _ => .int
abbrev wsJ60 : List Cond := u_ws RJ6 TJ6 0
theorem nmJ6 : ∀ a, a < 0 → ∀ b, b < 0 → a ≠ b → (TJ6 a).2.1 ≠ (TJ6 b).2.1 := by decide +kernel
theorem tyJ6_ok : ∀ k, k < 0 → parseFieldDescriptor (TJ6 k).2.2.1 = some (tyJ6 k) := by decide +kernel
abbrev cJ6_bitCount_0f7a4 : ByteArray := prog_9_method_49_code
def yJ6_bitCount_0f7a4 : MethodName := ⟨RJ6, "bitCount", "(I)I"⟩
def RJ9 : String := "java/lang/Math"
def TJ9 : u_T := fun k => match k with
  | _ => ("", "", "", false)
def tyJ9 : Nat → FieldType := fun k => match k with
  | _ => .int
abbrev wsJ90 : List Cond := u_ws RJ9 TJ9 0
theorem nmJ9 : ∀ a, a < 0 → ∀ b, b < 0 → a ≠ b → (TJ9 a).2.1 ≠ (TJ9 b).2.1 := by decide +kernel
theorem tyJ9_ok : ∀ k, k < 0 → parseFieldDescriptor (TJ9 k).2.2.1 = some (tyJ9 k) := by decide +kernel
abbrev cJ9_abs_0f7a4 : ByteArray := prog_10_method_59_code
def yJ9_abs_0f7a4 : MethodName := ⟨RJ9, "abs", "(I)I"⟩
abbrev cJ9_max_7cf53 : ByteArray := prog_10_method_65_code
def yJ9_max_7cf53 : MethodName := ⟨RJ9, "max", "(II)I"⟩
abbrev cJ9_min_7cf53 : ByteArray := prog_10_method_69_code
def yJ9_min_7cf53 : MethodName := ⟨RJ9, "min", "(II)I"⟩
def RL : String := "NeedlePairsLaw"
abbrev cL_law : ByteArray := code
def yL_law : MethodName := ⟨RL, "law", "([I)Z"⟩
abbrev vwCl : List vw_C := [(RX0, TX0, 7), (RX1, TX1, 6), (RX2, TX2, 3), (RX3, TX3, 2), (RX4, TX4, 6), (RX5, TX5, 6), (RX6, TX6, 16)]
end
section
/-- the words that every contract takes: those of the tables that hold at every state -/
def wG : List Cond := lw_tbl.filter goodWord
theorem wG_mk {w : Cond} (i : Nat) (h : lw_tbl[i]? = some w) (g : goodWord w = true) : w ∈ wG := List.mem_filter.mpr ⟨List.mem_of_getElem? h, g⟩
theorem wG_good : GoodIn wG wG := fun _ h => ⟨h, good_of_word (List.mem_filter.mp h).2⟩
set_option maxRecDepth 100000 in
theorem sel_X0_addPoint : Cond.selects RX0 yX0_addPoint yX0_addPoint ∈ wG := wG_mk 0 rfl rfl
set_option maxRecDepth 100000 in
theorem sel_X5_layTriesAnew : Cond.selects RX5 yX5_layTriesAnew yX5_layTriesAnew ∈ wG := wG_mk 1 rfl rfl
set_option maxRecDepth 100000 in
theorem sel_X4_layOut : Cond.selects RX4 yX4_layOut yX4_layOut ∈ wG := wG_mk 2 rfl rfl
set_option maxRecDepth 100000 in
theorem sel_X4_growTrees : Cond.selects RX4 yX4_growTrees yX4_growTrees ∈ wG := wG_mk 3 rfl rfl
set_option maxRecDepth 100000 in
theorem sel_X4_joinNextPair : Cond.selects RX4 yX4_joinNextPair yX4_joinNextPair ∈ wG := wG_mk 4 rfl rfl
set_option maxRecDepth 100000 in
theorem sel_X0_distance : Cond.selects RX0 yX0_distance yX0_distance ∈ wG := wG_mk 5 rfl rfl
set_option maxRecDepth 100000 in
theorem sel_X4_mergeGroups : Cond.selects RX4 yX4_mergeGroups yX4_mergeGroups ∈ wG := wG_mk 6 rfl rfl
set_option maxRecDepth 100000 in
theorem sel_X4_addTrees : Cond.selects RX4 yX4_addTrees yX4_addTrees ∈ wG := wG_mk 7 rfl rfl
set_option maxRecDepth 100000 in
theorem sel_X4_addTry : Cond.selects RX4 yX4_addTry yX4_addTry ∈ wG := wG_mk 8 rfl rfl
set_option maxRecDepth 100000 in
theorem sel_X0_isLeftOf : Cond.selects RX0 yX0_isLeftOf yX0_isLeftOf ∈ wG := wG_mk 9 rfl rfl
set_option maxRecDepth 100000 in
theorem sel_X4_addNeighbours : Cond.selects RX4 yX4_addNeighbours yX4_addNeighbours ∈ wG := wG_mk 10 rfl rfl
set_option maxRecDepth 100000 in
theorem sel_X4_addNearestPair : Cond.selects RX4 yX4_addNearestPair yX4_addNearestPair ∈ wG := wG_mk 11 rfl rfl
set_option maxRecDepth 100000 in
theorem sel_X1_measure : Cond.selects RX1 yX1_measure yX1_measure ∈ wG := wG_mk 12 rfl rfl
set_option maxRecDepth 100000 in
theorem sel_X0_removeLastPoint : Cond.selects RX0 yX0_removeLastPoint yX0_removeLastPoint ∈ wG := wG_mk 13 rfl rfl
set_option maxRecDepth 100000 in
theorem sel_X0_hasPoint : Cond.selects RX0 yX0_hasPoint yX0_hasPoint ∈ wG := wG_mk 14 rfl rfl
set_option maxRecDepth 100000 in
theorem sel_X4_hasTry : Cond.selects RX4 yX4_hasTry yX4_hasTry ∈ wG := wG_mk 15 rfl rfl
set_option maxRecDepth 100000 in
theorem sel_X4_isOfNeighbours : Cond.selects RX4 yX4_isOfNeighbours yX4_isOfNeighbours ∈ wG := wG_mk 16 rfl rfl
set_option maxRecDepth 100000 in
theorem sel_X4_conducts : Cond.selects RX4 yX4_conducts yX4_conducts ∈ wG := wG_mk 17 rfl rfl
set_option maxRecDepth 100000 in
theorem sel_X5_seenNow : Cond.selects RX5 yX5_seenNow yX5_seenNow ∈ wG := wG_mk 18 rfl rfl
set_option maxRecDepth 100000 in
theorem sel_X4_seenSet : Cond.selects RX4 yX4_seenSet yX4_seenSet ∈ wG := wG_mk 19 rfl rfl
set_option maxRecDepth 100000 in
theorem sel_X1_leap : Cond.selects RX1 yX1_leap yX1_leap ∈ wG := wG_mk 20 rfl rfl
set_option maxRecDepth 100000 in
theorem sel_X3_write : Cond.selects RX3 yX3_write yX3_write ∈ wG := wG_mk 21 rfl rfl
set_option maxRecDepth 100000 in
theorem sel_X3_tellsOrderOf : Cond.selects RX3 yX3_tellsOrderOf yX3_tellsOrderOf ∈ wG := wG_mk 22 rfl rfl
set_option maxRecDepth 100000 in
theorem sel_X3_tryAt : Cond.selects RX3 yX3_tryAt yX3_tryAt ∈ wG := wG_mk 23 rfl rfl
set_option maxRecDepth 100000 in
theorem sel_X1_planBest : Cond.selects RX1 yX1_planBest yX1_planBest ∈ wG := wG_mk 24 rfl rfl
set_option maxRecDepth 100000 in
theorem sel_X1_weighOnward : Cond.selects RX1 yX1_weighOnward yX1_weighOnward ∈ wG := wG_mk 25 rfl rfl
set_option maxRecDepth 100000 in
theorem sel_X1_allTries : Cond.selects RX1 yX1_allTries yX1_allTries ∈ wG := wG_mk 26 rfl rfl
set_option maxRecDepth 100000 in
theorem sel_X1_leastThrough : Cond.selects RX1 yX1_leastThrough yX1_leastThrough ∈ wG := wG_mk 27 rfl rfl
set_option maxRecDepth 100000 in
theorem sel_X1_plan : Cond.selects RX1 yX1_plan yX1_plan ∈ wG := wG_mk 28 rfl rfl
set_option maxRecDepth 100000 in
theorem sel_X2_clear : Cond.selects RX2 yX2_clear yX2_clear ∈ wG := wG_mk 29 rfl rfl
set_option maxRecDepth 100000 in
theorem sel_X1_firstOfBest : Cond.selects RX1 yX1_firstOfBest yX1_firstOfBest ∈ wG := wG_mk 30 rfl rfl
set_option maxRecDepth 100000 in
theorem sel_X1_nearestOf : Cond.selects RX1 yX1_nearestOf yX1_nearestOf ∈ wG := wG_mk 31 rfl rfl
set_option maxRecDepth 100000 in
theorem sel_X2_append : Cond.selects RX2 yX2_append yX2_append ∈ wG := wG_mk 32 rfl rfl
set_option maxRecDepth 100000 in
theorem sel_X2_tell : Cond.selects RX2 yX2_tell yX2_tell ∈ wG := wG_mk 33 rfl rfl
set_option maxRecDepth 100000 in
theorem sel_X1_planNearest : Cond.selects RX1 yX1_planNearest yX1_planNearest ∈ wG := wG_mk 34 rfl rfl
set_option maxRecDepth 100000 in
theorem sel_X5_flawSeenAs : Cond.selects RX5 yX5_flawSeenAs yX5_flawSeenAs ∈ wG := wG_mk 35 rfl rfl
set_option maxRecDepth 100000 in
theorem sel_X5_isFlaw : Cond.selects RX5 yX5_isFlaw yX5_isFlaw ∈ wG := wG_mk 36 rfl rfl
set_option maxRecDepth 100000 in
theorem sel_X5_seenOfFlaw : Cond.selects RX5 yX5_seenOfFlaw yX5_seenOfFlaw ∈ wG := wG_mk 37 rfl rfl
set_option maxRecDepth 100000 in
theorem sel_X0_copyFrom : Cond.selects RX0 yX0_copyFrom yX0_copyFrom ∈ wG := wG_mk 38 rfl rfl
set_option maxRecDepth 100000 in
theorem sel_X0_countNetsWithPoints : Cond.selects RX0 yX0_countNetsWithPoints yX0_countNetsWithPoints ∈ wG := wG_mk 39 rfl rfl
set_option maxRecDepth 100000 in
theorem sel_X6_isPoint : Cond.selects RX6 yX6_isPoint yX6_isPoint ∈ wG := wG_mk 40 rfl rfl
set_option maxRecDepth 100000 in
theorem sel_X6_farOf : Cond.selects RX6 yX6_farOf yX6_farOf ∈ wG := wG_mk 41 rfl rfl
set_option maxRecDepth 100000 in
theorem sel_X6_layTries : Cond.selects RX6 yX6_layTries yX6_layTries ∈ wG := wG_mk 42 rfl rfl
set_option maxRecDepth 100000 in
theorem sel_X6_layTree : Cond.selects RX6 yX6_layTree yX6_layTree ∈ wG := wG_mk 43 rfl rfl
set_option maxRecDepth 100000 in
theorem sel_X6_nextPair : Cond.selects RX6 yX6_nextPair yX6_nextPair ∈ wG := wG_mk 44 rfl rfl
set_option maxRecDepth 100000 in
theorem sel_X6_canJoin : Cond.selects RX6 yX6_canJoin yX6_canJoin ∈ wG := wG_mk 45 rfl rfl
set_option maxRecDepth 100000 in
theorem sel_X6_join : Cond.selects RX6 yX6_join yX6_join ∈ wG := wG_mk 46 rfl rfl
set_option maxRecDepth 100000 in
theorem sel_X6_addTry : Cond.selects RX6 yX6_addTry yX6_addTry ∈ wG := wG_mk 47 rfl rfl
set_option maxRecDepth 100000 in
theorem sel_X6_layNeighbours : Cond.selects RX6 yX6_layNeighbours yX6_layNeighbours ∈ wG := wG_mk 48 rfl rfl
set_option maxRecDepth 100000 in
theorem sel_X6_isTry : Cond.selects RX6 yX6_isTry yX6_isTry ∈ wG := wG_mk 49 rfl rfl
set_option maxRecDepth 100000 in
theorem sel_X6_seen : Cond.selects RX6 yX6_seen yX6_seen ∈ wG := wG_mk 50 rfl rfl
set_option maxRecDepth 100000 in
theorem sel_X6_layOnes : Cond.selects RX6 yX6_layOnes yX6_layOnes ∈ wG := wG_mk 51 rfl rfl
set_option maxRecDepth 100000 in
theorem sel_X6_conducts : Cond.selects RX6 yX6_conducts yX6_conducts ∈ wG := wG_mk 52 rfl rfl
set_option maxRecDepth 100000 in
theorem sel_X6_timeOf : Cond.selects RX6 yX6_timeOf yX6_timeOf ∈ wG := wG_mk 53 rfl rfl
set_option maxRecDepth 100000 in
theorem sel_X6_timeOfOrder : Cond.selects RX6 yX6_timeOfOrder yX6_timeOfOrder ∈ wG := wG_mk 54 rfl rfl
set_option maxRecDepth 100000 in
theorem sel_X6_layBest : Cond.selects RX6 yX6_layBest yX6_layBest ∈ wG := wG_mk 55 rfl rfl
set_option maxRecDepth 100000 in
theorem sel_X6_layRest : Cond.selects RX6 yX6_layRest yX6_layRest ∈ wG := wG_mk 56 rfl rfl
set_option maxRecDepth 100000 in
theorem sel_X6_restFrom : Cond.selects RX6 yX6_restFrom yX6_restFrom ∈ wG := wG_mk 57 rfl rfl
set_option maxRecDepth 100000 in
theorem sel_X6_orderAt : Cond.selects RX6 yX6_orderAt yX6_orderAt ∈ wG := wG_mk 58 rfl rfl
set_option maxRecDepth 100000 in
theorem sel_X6_looseMany : Cond.selects RX6 yX6_looseMany yX6_looseMany ∈ wG := wG_mk 59 rfl rfl
set_option maxRecDepth 100000 in
theorem sel_X6_shortMany : Cond.selects RX6 yX6_shortMany yX6_shortMany ∈ wG := wG_mk 60 rfl rfl
set_option maxRecDepth 100000 in
theorem sel_X6_isSingle : Cond.selects RX6 yX6_isSingle yX6_isSingle ∈ wG := wG_mk 61 rfl rfl
set_option maxRecDepth 100000 in
theorem sel_X6_seenBy : Cond.selects RX6 yX6_seenBy yX6_seenBy ∈ wG := wG_mk 62 rfl rfl
set_option maxRecDepth 100000 in
theorem sel_X6_isAnyOne : Cond.selects RX6 yX6_isAnyOne yX6_isAnyOne ∈ wG := wG_mk 63 rfl rfl
set_option maxRecDepth 100000 in
theorem sel_X6_apartMany : Cond.selects RX6 yX6_apartMany yX6_apartMany ∈ wG := wG_mk 64 rfl rfl
set_option maxRecDepth 100000 in
theorem sel_X6_netsUsed : Cond.selects RX6 yX6_netsUsed yX6_netsUsed ∈ wG := wG_mk 65 rfl rfl
set_option maxRecDepth 100000 in
theorem ini_L : Cond.initialized RL ∈ wG := wG_mk 66 rfl rfl
set_option maxRecDepth 100000 in
theorem ini_X5 : Cond.initialized RX5 ∈ wG := wG_mk 67 rfl rfl
set_option maxRecDepth 100000 in
theorem ini_X0 : Cond.initialized RX0 ∈ wG := wG_mk 68 rfl rfl
set_option maxRecDepth 100000 in
theorem ini_X4 : Cond.initialized RX4 ∈ wG := wG_mk 69 rfl rfl
set_option maxRecDepth 100000 in
theorem ini_X1 : Cond.initialized RX1 ∈ wG := wG_mk 70 rfl rfl
set_option maxRecDepth 100000 in
theorem ini_X2 : Cond.initialized RX2 ∈ wG := wG_mk 71 rfl rfl
set_option maxRecDepth 100000 in
theorem ini_X3 : Cond.initialized RX3 ∈ wG := wG_mk 72 rfl rfl
set_option maxRecDepth 100000 in
theorem ini_X6 : Cond.initialized RX6 ∈ wG := wG_mk 73 rfl rfl
set_option maxRecDepth 100000 in
theorem ini_J9 : Cond.initialized "java/lang/Math" ∈ wG := wG_mk 74 rfl rfl
set_option maxRecDepth 100000 in
theorem ini_J6 : Cond.initialized RJ6 ∈ wG := wG_mk 75 rfl rfl
set_option maxRecDepth 100000 in
theorem cl_L_7 : Cond.classLink RL 7 RX5 ∈ wG := wG_mk 76 rfl rfl
set_option maxRecDepth 100000 in
theorem ins_X5 : Cond.instantiable RX5 6 ∈ wG := wG_mk 77 rfl rfl
set_option maxRecDepth 100000 in
theorem ml_L_9 : Cond.methodLink RL 9 yX5_init ∈ wG := wG_mk 78 rfl rfl
set_option maxRecDepth 100000 in
theorem im_X5_init : Cond.instanceMethod yX5_init ∈ wG := wG_mk 79 rfl rfl
set_option maxRecDepth 100000 in
theorem cod_X5_init : Cond.code yX5_init cX5_init 2 none ∈ wG := wG_mk 80 rfl rfl
set_option maxRecDepth 100000 in
theorem ml_X5_3 : Cond.methodLink RX5 3 objectInit ∈ wG := wG_mk 81 rfl rfl
set_option maxRecDepth 100000 in
theorem im_objectInit : Cond.instanceMethod objectInit ∈ wG := wG_mk 82 rfl rfl
set_option maxRecDepth 100000 in
theorem cod_objectInit : Cond.code objectInit ⟨#[0xb1]⟩ 1 none ∈ wG := wG_mk 83 rfl rfl
set_option maxRecDepth 100000 in
theorem cl_X5_9 : Cond.classLink RX5 9 RX0 ∈ wG := wG_mk 84 rfl rfl
set_option maxRecDepth 100000 in
theorem ins_X0 : Cond.instantiable RX0 7 ∈ wG := wG_mk 85 rfl rfl
set_option maxRecDepth 100000 in
theorem im_X0_init : Cond.instanceMethod yX0_init ∈ wG := wG_mk 87 rfl rfl
set_option maxRecDepth 100000 in
theorem cod_X0_init : Cond.code yX0_init cX0_init 1 none ∈ wG := wG_mk 88 rfl rfl
set_option maxRecDepth 100000 in
theorem ml_X0_3 : Cond.methodLink RX0 3 objectInit ∈ wG := wG_mk 89 rfl rfl
set_option maxRecDepth 100000 in
theorem fl_X0_9 : Cond.fieldLink RX0 9 "NeedlePairs$Board" "nets" "[I" ∈ wG := wG_mk 90 rfl rfl
set_option maxRecDepth 100000 in
theorem fl_X0_15 : Cond.fieldLink RX0 15 "NeedlePairs$Board" "xs" "[I" ∈ wG := wG_mk 93 rfl rfl
set_option maxRecDepth 100000 in
theorem fl_X0_18 : Cond.fieldLink RX0 18 "NeedlePairs$Board" "ys" "[I" ∈ wG := wG_mk 96 rfl rfl
set_option maxRecDepth 100000 in
theorem fl_X0_21 : Cond.fieldLink RX0 21 "NeedlePairs$Board" "points" "I" ∈ wG := wG_mk 99 rfl rfl
set_option maxRecDepth 100000 in
theorem fl_X0_25 : Cond.fieldLink RX0 25 "NeedlePairs$Board" "nearness" "I" ∈ wG := wG_mk 102 rfl rfl
set_option maxRecDepth 100000 in
theorem fl_X0_28 : Cond.fieldLink RX0 28 "NeedlePairs$Board" "looseSet" "I" ∈ wG := wG_mk 105 rfl rfl
set_option maxRecDepth 100000 in
theorem fl_X0_31 : Cond.fieldLink RX0 31 "NeedlePairs$Board" "shortSet" "I" ∈ wG := wG_mk 107 rfl rfl
set_option maxRecDepth 100000 in
theorem arr_int : Cond.arrayClass .int ∈ wG := wG_mk 124 rfl rfl
set_option maxRecDepth 100000 in
theorem cl_X5_16 : Cond.classLink RX5 16 RX4 ∈ wG := wG_mk 125 rfl rfl
set_option maxRecDepth 100000 in
theorem ins_X4 : Cond.instantiable RX4 6 ∈ wG := wG_mk 126 rfl rfl
set_option maxRecDepth 100000 in
theorem im_X4_init : Cond.instanceMethod yX4_init ∈ wG := wG_mk 128 rfl rfl
set_option maxRecDepth 100000 in
theorem cod_X4_init : Cond.code yX4_init cX4_init 1 none ∈ wG := wG_mk 129 rfl rfl
set_option maxRecDepth 100000 in
theorem ml_X4_3 : Cond.methodLink RX4 3 objectInit ∈ wG := wG_mk 130 rfl rfl
set_option maxRecDepth 100000 in
theorem fl_X4_9 : Cond.fieldLink RX4 9 "NeedlePairs$Tries" "left" "[I" ∈ wG := wG_mk 131 rfl rfl
set_option maxRecDepth 100000 in
theorem fl_X4_15 : Cond.fieldLink RX4 15 "NeedlePairs$Tries" "right" "[I" ∈ wG := wG_mk 134 rfl rfl
set_option maxRecDepth 100000 in
theorem fl_X4_18 : Cond.fieldLink RX4 18 "NeedlePairs$Tries" "total" "I" ∈ wG := wG_mk 137 rfl rfl
set_option maxRecDepth 100000 in
theorem fl_X4_22 : Cond.fieldLink RX4 22 "NeedlePairs$Tries" "ofTrees" "I" ∈ wG := wG_mk 140 rfl rfl
set_option maxRecDepth 100000 in
theorem fl_X4_25 : Cond.fieldLink RX4 25 "NeedlePairs$Tries" "group" "[I" ∈ wG := wG_mk 142 rfl rfl
set_option maxRecDepth 100000 in
theorem fl_X4_28 : Cond.fieldLink RX4 28 "NeedlePairs$Tries" "paired" "[I" ∈ wG := wG_mk 143 rfl rfl
set_option maxRecDepth 100000 in
theorem cl_X5_23 : Cond.classLink RX5 23 RX1 ∈ wG := wG_mk 157 rfl rfl
set_option maxRecDepth 100000 in
theorem ins_X1 : Cond.instantiable RX1 6 ∈ wG := wG_mk 158 rfl rfl
set_option maxRecDepth 100000 in
theorem im_X1_init : Cond.instanceMethod yX1_init ∈ wG := wG_mk 160 rfl rfl
set_option maxRecDepth 100000 in
theorem cod_X1_init : Cond.code yX1_init cX1_init 1 none ∈ wG := wG_mk 161 rfl rfl
set_option maxRecDepth 100000 in
theorem ml_X1_3 : Cond.methodLink RX1 3 objectInit ∈ wG := wG_mk 162 rfl rfl
set_option maxRecDepth 100000 in
theorem cl_X1_22 : Cond.classLink RX1 22 RX2 ∈ wG := wG_mk 163 rfl rfl
set_option maxRecDepth 100000 in
theorem ins_X2 : Cond.instantiable RX2 3 ∈ wG := wG_mk 164 rfl rfl
set_option maxRecDepth 100000 in
theorem im_X2_init : Cond.instanceMethod yX2_init ∈ wG := wG_mk 166 rfl rfl
set_option maxRecDepth 100000 in
theorem cod_X2_init : Cond.code yX2_init cX2_init 1 none ∈ wG := wG_mk 167 rfl rfl
set_option maxRecDepth 100000 in
theorem ml_X2_3 : Cond.methodLink RX2 3 objectInit ∈ wG := wG_mk 168 rfl rfl
set_option maxRecDepth 100000 in
theorem fl_X2_9 : Cond.fieldLink RX2 9 "NeedlePairs$Order" "tries" "[I" ∈ wG := wG_mk 169 rfl rfl
set_option maxRecDepth 100000 in
theorem fl_X2_15 : Cond.fieldLink RX2 15 "NeedlePairs$Order" "length" "I" ∈ wG := wG_mk 170 rfl rfl
set_option maxRecDepth 100000 in
theorem fl_X2_19 : Cond.fieldLink RX2 19 "NeedlePairs$Order" "sum" "I" ∈ wG := wG_mk 171 rfl rfl
set_option maxRecDepth 100000 in
theorem fl_X1_9 : Cond.fieldLink RX1 9 "NeedlePairs$Needles" "total" "I" ∈ wG := wG_mk 179 rfl rfl
set_option maxRecDepth 100000 in
theorem fl_X1_15 : Cond.fieldLink RX1 15 "NeedlePairs$Needles" "leaps" "[I" ∈ wG := wG_mk 180 rfl rfl
set_option maxRecDepth 100000 in
theorem fl_X1_19 : Cond.fieldLink RX1 19 "NeedlePairs$Needles" "onward" "[I" ∈ wG := wG_mk 181 rfl rfl
set_option maxRecDepth 100000 in
theorem fl_X1_25 : Cond.fieldLink RX1 25 "NeedlePairs$Needles" "bestOrder" "LNeedlePairs$Order;" ∈ wG := wG_mk 182 rfl rfl
set_option maxRecDepth 100000 in
theorem fl_X1_29 : Cond.fieldLink RX1 29 "NeedlePairs$Needles" "nearestOrder" "LNeedlePairs$Order;" ∈ wG := wG_mk 184 rfl rfl
set_option maxRecDepth 100000 in
theorem fl_X1_32 : Cond.fieldLink RX1 32 "NeedlePairs$Needles" "bestIsPlanned" "Z" ∈ wG := wG_mk 186 rfl rfl
set_option maxRecDepth 100000 in
theorem cl_X5_30 : Cond.classLink RX5 30 RX3 ∈ wG := wG_mk 200 rfl rfl
set_option maxRecDepth 100000 in
theorem ins_X3 : Cond.instantiable RX3 2 ∈ wG := wG_mk 201 rfl rfl
set_option maxRecDepth 100000 in
theorem im_X3_init : Cond.instanceMethod yX3_init ∈ wG := wG_mk 203 rfl rfl
set_option maxRecDepth 100000 in
theorem cod_X3_init : Cond.code yX3_init cX3_init 1 none ∈ wG := wG_mk 204 rfl rfl
set_option maxRecDepth 100000 in
theorem ml_X3_3 : Cond.methodLink RX3 3 objectInit ∈ wG := wG_mk 205 rfl rfl
set_option maxRecDepth 100000 in
theorem fl_X3_9 : Cond.fieldLink RX3 9 "NeedlePairs$Pad" "signs" "[I" ∈ wG := wG_mk 206 rfl rfl
set_option maxRecDepth 100000 in
theorem fl_X3_15 : Cond.fieldLink RX3 15 "NeedlePairs$Pad" "length" "I" ∈ wG := wG_mk 207 rfl rfl
set_option maxRecDepth 100000 in
theorem fl_X5_12 : Cond.fieldLink RX5 12 "NeedlePairs" "board" "LNeedlePairs$Board;" ∈ wG := wG_mk 215 rfl rfl
set_option maxRecDepth 100000 in
theorem fl_X5_19 : Cond.fieldLink RX5 19 "NeedlePairs" "tries" "LNeedlePairs$Tries;" ∈ wG := wG_mk 216 rfl rfl
set_option maxRecDepth 100000 in
theorem fl_X5_26 : Cond.fieldLink RX5 26 "NeedlePairs" "needles" "LNeedlePairs$Needles;" ∈ wG := wG_mk 217 rfl rfl
set_option maxRecDepth 100000 in
theorem fl_X5_33 : Cond.fieldLink RX5 33 "NeedlePairs" "pad" "LNeedlePairs$Pad;" ∈ wG := wG_mk 218 rfl rfl
set_option maxRecDepth 100000 in
theorem fl_X5_37 : Cond.fieldLink RX5 37 "NeedlePairs" "images" "[LNeedlePairs$Board;" ∈ wG := wG_mk 219 rfl rfl
set_option maxRecDepth 100000 in
theorem fl_X5_41 : Cond.fieldLink RX5 41 "NeedlePairs" "keptImages" "I" ∈ wG := wG_mk 220 rfl rfl
set_option maxRecDepth 100000 in
theorem ml_L_13 : Cond.methodLink RL 13 yX5_point ∈ wG := wG_mk 234 rfl rfl
set_option maxRecDepth 100000 in
theorem im_X5_point : Cond.instanceMethod yX5_point ∈ wG := wG_mk 235 rfl rfl
set_option maxRecDepth 100000 in
theorem sel_X5_point : Cond.selects RX5 yX5_point yX5_point ∈ wG := wG_mk 236 rfl rfl
set_option maxRecDepth 100000 in
theorem cod_X5_point : Cond.code yX5_point cX5_point 5 (some .int) ∈ wG := wG_mk 237 rfl rfl
set_option maxRecDepth 100000 in
theorem ml_X5_45 : Cond.methodLink RX5 45 yX5_isNet ∈ wG := wG_mk 238 rfl rfl
set_option maxRecDepth 100000 in
theorem stt_X5_isNet : Cond.static yX5_isNet ∈ wG := wG_mk 239 rfl rfl
set_option maxRecDepth 100000 in
theorem cod_X5_isNet : Cond.code yX5_isNet cX5_isNet 1 (some .boolean) ∈ wG := wG_mk 240 rfl rfl
set_option maxRecDepth 100000 in
theorem ml_X5_49 : Cond.methodLink RX5 49 yX5_isOnBoard ∈ wG := wG_mk 241 rfl rfl
set_option maxRecDepth 100000 in
theorem stt_X5_isOnBoard : Cond.static yX5_isOnBoard ∈ wG := wG_mk 242 rfl rfl
set_option maxRecDepth 100000 in
theorem cod_X5_isOnBoard : Cond.code yX5_isOnBoard cX5_isOnBoard 2 (some .boolean) ∈ wG := wG_mk 243 rfl rfl
set_option maxRecDepth 100000 in
theorem im_X0_addPoint : Cond.instanceMethod yX0_addPoint ∈ wG := wG_mk 246 rfl rfl
set_option maxRecDepth 100000 in
theorem cod_X0_addPoint : Cond.code yX0_addPoint cX0_addPoint 5 (some .int) ∈ wG := wG_mk 247 rfl rfl
set_option maxRecDepth 100000 in
theorem ml_X5_60 : Cond.methodLink RX5 60 yX5_layTriesAnew ∈ wG := wG_mk 248 rfl rfl
set_option maxRecDepth 100000 in
theorem im_X5_layTriesAnew : Cond.instanceMethod yX5_layTriesAnew ∈ wG := wG_mk 250 rfl rfl
set_option maxRecDepth 100000 in
theorem cod_X5_layTriesAnew : Cond.code yX5_layTriesAnew cX5_layTriesAnew 1 none ∈ wG := wG_mk 251 rfl rfl
set_option maxRecDepth 100000 in
theorem im_X4_layOut : Cond.instanceMethod yX4_layOut ∈ wG := wG_mk 254 rfl rfl
set_option maxRecDepth 100000 in
theorem cod_X4_layOut : Cond.code yX4_layOut cX4_layOut 2 none ∈ wG := wG_mk 255 rfl rfl
set_option maxRecDepth 100000 in
theorem ml_X4_31 : Cond.methodLink RX4 31 yX4_growTrees ∈ wG := wG_mk 256 rfl rfl
set_option maxRecDepth 100000 in
theorem im_X4_growTrees : Cond.instanceMethod yX4_growTrees ∈ wG := wG_mk 258 rfl rfl
set_option maxRecDepth 100000 in
theorem cod_X4_growTrees : Cond.code yX4_growTrees cX4_growTrees 4 none ∈ wG := wG_mk 259 rfl rfl
set_option maxRecDepth 100000 in
theorem ml_X4_46 : Cond.methodLink RX4 46 yX4_joinNextPair ∈ wG := wG_mk 260 rfl rfl
set_option maxRecDepth 100000 in
theorem im_X4_joinNextPair : Cond.instanceMethod yX4_joinNextPair ∈ wG := wG_mk 262 rfl rfl
set_option maxRecDepth 100000 in
theorem cod_X4_joinNextPair : Cond.code yX4_joinNextPair cX4_joinNextPair 8 (some .boolean) ∈ wG := wG_mk 263 rfl rfl
set_option maxRecDepth 100000 in
theorem im_X0_distance : Cond.instanceMethod yX0_distance ∈ wG := wG_mk 266 rfl rfl
set_option maxRecDepth 100000 in
theorem cod_X0_distance : Cond.code yX0_distance cX0_distance 5 (some .int) ∈ wG := wG_mk 267 rfl rfl
set_option maxRecDepth 100000 in
theorem ml_X4_57 : Cond.methodLink RX4 57 yX4_mergeGroups ∈ wG := wG_mk 268 rfl rfl
set_option maxRecDepth 100000 in
theorem im_X4_mergeGroups : Cond.instanceMethod yX4_mergeGroups ∈ wG := wG_mk 270 rfl rfl
set_option maxRecDepth 100000 in
theorem cod_X4_mergeGroups : Cond.code yX4_mergeGroups cX4_mergeGroups 4 none ∈ wG := wG_mk 271 rfl rfl
set_option maxRecDepth 100000 in
theorem ml_X4_35 : Cond.methodLink RX4 35 yX4_addTrees ∈ wG := wG_mk 272 rfl rfl
set_option maxRecDepth 100000 in
theorem im_X4_addTrees : Cond.instanceMethod yX4_addTrees ∈ wG := wG_mk 274 rfl rfl
set_option maxRecDepth 100000 in
theorem cod_X4_addTrees : Cond.code yX4_addTrees cX4_addTrees 5 none ∈ wG := wG_mk 275 rfl rfl
set_option maxRecDepth 100000 in
theorem stt_X5_isIn : Cond.static yX5_isIn ∈ wG := wG_mk 277 rfl rfl
set_option maxRecDepth 100000 in
theorem cod_X5_isIn : Cond.code yX5_isIn cX5_isIn 2 (some .boolean) ∈ wG := wG_mk 278 rfl rfl
set_option maxRecDepth 100000 in
theorem ml_X4_65 : Cond.methodLink RX4 65 yX4_addTry ∈ wG := wG_mk 279 rfl rfl
set_option maxRecDepth 100000 in
theorem im_X4_addTry : Cond.instanceMethod yX4_addTry ∈ wG := wG_mk 281 rfl rfl
set_option maxRecDepth 100000 in
theorem cod_X4_addTry : Cond.code yX4_addTry cX4_addTry 5 none ∈ wG := wG_mk 282 rfl rfl
set_option maxRecDepth 100000 in
theorem im_X0_isLeftOf : Cond.instanceMethod yX0_isLeftOf ∈ wG := wG_mk 285 rfl rfl
set_option maxRecDepth 100000 in
theorem cod_X0_isLeftOf : Cond.code yX0_isLeftOf cX0_isLeftOf 3 (some .boolean) ∈ wG := wG_mk 286 rfl rfl
set_option maxRecDepth 100000 in
theorem ml_X4_38 : Cond.methodLink RX4 38 yX4_addNeighbours ∈ wG := wG_mk 287 rfl rfl
set_option maxRecDepth 100000 in
theorem im_X4_addNeighbours : Cond.instanceMethod yX4_addNeighbours ∈ wG := wG_mk 289 rfl rfl
set_option maxRecDepth 100000 in
theorem cod_X4_addNeighbours : Cond.code yX4_addNeighbours cX4_addNeighbours 3 none ∈ wG := wG_mk 290 rfl rfl
set_option maxRecDepth 100000 in
theorem ml_X4_75 : Cond.methodLink RX4 75 yX4_addNearestPair ∈ wG := wG_mk 295 rfl rfl
set_option maxRecDepth 100000 in
theorem im_X4_addNearestPair : Cond.instanceMethod yX4_addNearestPair ∈ wG := wG_mk 297 rfl rfl
set_option maxRecDepth 100000 in
theorem cod_X4_addNearestPair : Cond.code yX4_addNearestPair cX4_addNearestPair 10 none ∈ wG := wG_mk 298 rfl rfl
set_option maxRecDepth 100000 in
theorem im_X1_measure : Cond.instanceMethod yX1_measure ∈ wG := wG_mk 301 rfl rfl
set_option maxRecDepth 100000 in
theorem cod_X1_measure : Cond.code yX1_measure cX1_measure 7 none ∈ wG := wG_mk 302 rfl rfl
set_option maxRecDepth 100000 in
theorem ml_X1_53 : Cond.methodLink RX1 53 yX1_longer ∈ wG := wG_mk 303 rfl rfl
set_option maxRecDepth 100000 in
theorem stt_X1_longer : Cond.static yX1_longer ∈ wG := wG_mk 304 rfl rfl
set_option maxRecDepth 100000 in
theorem cod_X1_longer : Cond.code yX1_longer cX1_longer 2 (some .int) ∈ wG := wG_mk 305 rfl rfl
set_option maxRecDepth 100000 in
theorem ml_X1_66 : Cond.methodLink RX1 66 Lib.Math.abs.name ∈ wG := wG_mk 306 rfl rfl
set_option maxRecDepth 100000 in
theorem stt_Math_abs : Cond.static Lib.Math.abs.name ∈ wG := wG_mk 307 rfl rfl
set_option maxRecDepth 100000 in
theorem cod_Math_abs : Cond.code Lib.Math.abs.name Lib.Math.abs.code 1 (some .int) ∈ wG := wG_mk 308 rfl rfl
set_option maxRecDepth 100000 in
theorem ml_X1_57 : Cond.methodLink RX1 57 Lib.Math.max.name ∈ wG := wG_mk 309 rfl rfl
set_option maxRecDepth 100000 in
theorem stt_Math_max : Cond.static Lib.Math.max.name ∈ wG := wG_mk 310 rfl rfl
set_option maxRecDepth 100000 in
theorem cod_Math_max : Cond.code Lib.Math.max.name Lib.Math.max.code 2 (some .int) ∈ wG := wG_mk 311 rfl rfl
set_option maxRecDepth 100000 in
theorem ml_X1_62 : Cond.methodLink RX1 62 yX1_way ∈ wG := wG_mk 312 rfl rfl
set_option maxRecDepth 100000 in
theorem stt_X1_way : Cond.static yX1_way ∈ wG := wG_mk 313 rfl rfl
set_option maxRecDepth 100000 in
theorem cod_X1_way : Cond.code yX1_way cX1_way 3 (some .int) ∈ wG := wG_mk 314 rfl rfl
set_option maxRecDepth 100000 in
theorem ml_L_18 : Cond.methodLink RL 18 yX5_pop ∈ wG := wG_mk 315 rfl rfl
set_option maxRecDepth 100000 in
theorem im_X5_pop : Cond.instanceMethod yX5_pop ∈ wG := wG_mk 316 rfl rfl
set_option maxRecDepth 100000 in
theorem sel_X5_pop : Cond.selects RX5 yX5_pop yX5_pop ∈ wG := wG_mk 317 rfl rfl
set_option maxRecDepth 100000 in
theorem cod_X5_pop : Cond.code yX5_pop cX5_pop 1 (some .int) ∈ wG := wG_mk 318 rfl rfl
set_option maxRecDepth 100000 in
theorem im_X0_removeLastPoint : Cond.instanceMethod yX0_removeLastPoint ∈ wG := wG_mk 321 rfl rfl
set_option maxRecDepth 100000 in
theorem cod_X0_removeLastPoint : Cond.code yX0_removeLastPoint cX0_removeLastPoint 1 none ∈ wG := wG_mk 322 rfl rfl
set_option maxRecDepth 100000 in
theorem stt_X5_withMember : Cond.static yX5_withMember ∈ wG := wG_mk 324 rfl rfl
set_option maxRecDepth 100000 in
theorem cod_X5_withMember : Cond.code yX5_withMember cX5_withMember 3 (some .int) ∈ wG := wG_mk 325 rfl rfl
set_option maxRecDepth 100000 in
theorem ml_L_23 : Cond.methodLink RL 23 yX5_move ∈ wG := wG_mk 326 rfl rfl
set_option maxRecDepth 100000 in
theorem im_X5_move : Cond.instanceMethod yX5_move ∈ wG := wG_mk 327 rfl rfl
set_option maxRecDepth 100000 in
theorem sel_X5_move : Cond.selects RX5 yX5_move yX5_move ∈ wG := wG_mk 328 rfl rfl
set_option maxRecDepth 100000 in
theorem cod_X5_move : Cond.code yX5_move cX5_move 5 (some .int) ∈ wG := wG_mk 329 rfl rfl
set_option maxRecDepth 100000 in
theorem im_X0_hasPoint : Cond.instanceMethod yX0_hasPoint ∈ wG := wG_mk 332 rfl rfl
set_option maxRecDepth 100000 in
theorem cod_X0_hasPoint : Cond.code yX0_hasPoint cX0_hasPoint 2 (some .boolean) ∈ wG := wG_mk 333 rfl rfl
set_option maxRecDepth 100000 in
theorem ml_L_27 : Cond.methodLink RL 27 yX5_near ∈ wG := wG_mk 334 rfl rfl
set_option maxRecDepth 100000 in
theorem im_X5_near : Cond.instanceMethod yX5_near ∈ wG := wG_mk 335 rfl rfl
set_option maxRecDepth 100000 in
theorem sel_X5_near : Cond.selects RX5 yX5_near yX5_near ∈ wG := wG_mk 336 rfl rfl
set_option maxRecDepth 100000 in
theorem cod_X5_near : Cond.code yX5_near cX5_near 3 (some .int) ∈ wG := wG_mk 337 rfl rfl
set_option maxRecDepth 100000 in
theorem ml_L_32 : Cond.methodLink RL 32 yX5_of ∈ wG := wG_mk 338 rfl rfl
set_option maxRecDepth 100000 in
theorem im_X5_of : Cond.instanceMethod yX5_of ∈ wG := wG_mk 339 rfl rfl
set_option maxRecDepth 100000 in
theorem sel_X5_of : Cond.selects RX5 yX5_of yX5_of ∈ wG := wG_mk 340 rfl rfl
set_option maxRecDepth 100000 in
theorem cod_X5_of : Cond.code yX5_of cX5_of 3 (some .int) ∈ wG := wG_mk 341 rfl rfl
set_option maxRecDepth 100000 in
theorem ml_X5_85 : Cond.methodLink RX5 85 yX5_isIn ∈ wG := wG_mk 342 rfl rfl
set_option maxRecDepth 100000 in
theorem ml_X5_88 : Cond.methodLink RX5 88 yX5_asNumber ∈ wG := wG_mk 343 rfl rfl
set_option maxRecDepth 100000 in
theorem stt_X5_asNumber : Cond.static yX5_asNumber ∈ wG := wG_mk 344 rfl rfl
set_option maxRecDepth 100000 in
theorem cod_X5_asNumber : Cond.code yX5_asNumber cX5_asNumber 1 (some .int) ∈ wG := wG_mk 345 rfl rfl
set_option maxRecDepth 100000 in
theorem ml_L_37 : Cond.methodLink RL 37 yX5_far ∈ wG := wG_mk 346 rfl rfl
set_option maxRecDepth 100000 in
theorem im_X5_far : Cond.instanceMethod yX5_far ∈ wG := wG_mk 347 rfl rfl
set_option maxRecDepth 100000 in
theorem sel_X5_far : Cond.selects RX5 yX5_far yX5_far ∈ wG := wG_mk 348 rfl rfl
set_option maxRecDepth 100000 in
theorem cod_X5_far : Cond.code yX5_far cX5_far 3 (some .int) ∈ wG := wG_mk 349 rfl rfl
set_option maxRecDepth 100000 in
theorem ml_L_41 : Cond.methodLink RL 41 yX5_attempt ∈ wG := wG_mk 351 rfl rfl
set_option maxRecDepth 100000 in
theorem im_X5_attempt : Cond.instanceMethod yX5_attempt ∈ wG := wG_mk 352 rfl rfl
set_option maxRecDepth 100000 in
theorem sel_X5_attempt : Cond.selects RX5 yX5_attempt yX5_attempt ∈ wG := wG_mk 353 rfl rfl
set_option maxRecDepth 100000 in
theorem cod_X5_attempt : Cond.code yX5_attempt cX5_attempt 3 (some .int) ∈ wG := wG_mk 354 rfl rfl
set_option maxRecDepth 100000 in
theorem im_X4_hasTry : Cond.instanceMethod yX4_hasTry ∈ wG := wG_mk 357 rfl rfl
set_option maxRecDepth 100000 in
theorem cod_X4_hasTry : Cond.code yX4_hasTry cX4_hasTry 2 (some .boolean) ∈ wG := wG_mk 358 rfl rfl
set_option maxRecDepth 100000 in
theorem im_X4_isOfNeighbours : Cond.instanceMethod yX4_isOfNeighbours ∈ wG := wG_mk 361 rfl rfl
set_option maxRecDepth 100000 in
theorem cod_X4_isOfNeighbours : Cond.code yX4_isOfNeighbours cX4_isOfNeighbours 2 (some .boolean) ∈ wG := wG_mk 362 rfl rfl
set_option maxRecDepth 100000 in
theorem im_X4_conducts : Cond.instanceMethod yX4_conducts ∈ wG := wG_mk 365 rfl rfl
set_option maxRecDepth 100000 in
theorem cod_X4_conducts : Cond.code yX4_conducts cX4_conducts 7 (some .boolean) ∈ wG := wG_mk 366 rfl rfl
set_option maxRecDepth 100000 in
theorem stt_X5_netsOneWith : Cond.static yX5_netsOneWith ∈ wG := wG_mk 368 rfl rfl
set_option maxRecDepth 100000 in
theorem cod_X5_netsOneWith : Cond.code yX5_netsOneWith cX5_netsOneWith 6 (some .int) ∈ wG := wG_mk 369 rfl rfl
set_option maxRecDepth 100000 in
theorem fl_X5_221 : Cond.fieldLink RX5 221 "NeedlePairs" "LESSER_NET" "[I" ∈ wG := wG_mk 370 rfl rfl
set_option maxRecDepth 100000 in
theorem fl_X5_224 : Cond.fieldLink RX5 224 "NeedlePairs" "GREATER_NET" "[I" ∈ wG := wG_mk 371 rfl rfl
set_option maxRecDepth 100000 in
theorem ml_X5_115 : Cond.methodLink RX5 115 yX5_seenNow ∈ wG := wG_mk 372 rfl rfl
set_option maxRecDepth 100000 in
theorem im_X5_seenNow : Cond.instanceMethod yX5_seenNow ∈ wG := wG_mk 374 rfl rfl
set_option maxRecDepth 100000 in
theorem cod_X5_seenNow : Cond.code yX5_seenNow cX5_seenNow 1 (some .int) ∈ wG := wG_mk 375 rfl rfl
set_option maxRecDepth 100000 in
theorem im_X4_seenSet : Cond.instanceMethod yX4_seenSet ∈ wG := wG_mk 378 rfl rfl
set_option maxRecDepth 100000 in
theorem cod_X4_seenSet : Cond.code yX4_seenSet cX4_seenSet 6 (some .int) ∈ wG := wG_mk 379 rfl rfl
set_option maxRecDepth 100000 in
theorem ml_X4_87 : Cond.methodLink RX4 87 yX4_conducts ∈ wG := wG_mk 380 rfl rfl
set_option maxRecDepth 100000 in
theorem ml_X4_91 : Cond.methodLink RX4 91 yX4_isOfNeighbours ∈ wG := wG_mk 381 rfl rfl
set_option maxRecDepth 100000 in
theorem ml_L_45 : Cond.methodLink RL 45 yX5_time ∈ wG := wG_mk 382 rfl rfl
set_option maxRecDepth 100000 in
theorem im_X5_time : Cond.instanceMethod yX5_time ∈ wG := wG_mk 383 rfl rfl
set_option maxRecDepth 100000 in
theorem sel_X5_time : Cond.selects RX5 yX5_time yX5_time ∈ wG := wG_mk 384 rfl rfl
set_option maxRecDepth 100000 in
theorem cod_X5_time : Cond.code yX5_time cX5_time 3 (some .int) ∈ wG := wG_mk 385 rfl rfl
set_option maxRecDepth 100000 in
theorem im_X1_leap : Cond.instanceMethod yX1_leap ∈ wG := wG_mk 388 rfl rfl
set_option maxRecDepth 100000 in
theorem cod_X1_leap : Cond.code yX1_leap cX1_leap 3 (some .int) ∈ wG := wG_mk 389 rfl rfl
set_option maxRecDepth 100000 in
theorem ml_L_49 : Cond.methodLink RL 49 yX5_say ∈ wG := wG_mk 390 rfl rfl
set_option maxRecDepth 100000 in
theorem im_X5_say : Cond.instanceMethod yX5_say ∈ wG := wG_mk 391 rfl rfl
set_option maxRecDepth 100000 in
theorem sel_X5_say : Cond.selects RX5 yX5_say yX5_say ∈ wG := wG_mk 392 rfl rfl
set_option maxRecDepth 100000 in
theorem cod_X5_say : Cond.code yX5_say cX5_say 2 (some .int) ∈ wG := wG_mk 393 rfl rfl
set_option maxRecDepth 100000 in
theorem im_X3_write : Cond.instanceMethod yX3_write ∈ wG := wG_mk 396 rfl rfl
set_option maxRecDepth 100000 in
theorem cod_X3_write : Cond.code yX3_write cX3_write 2 none ∈ wG := wG_mk 397 rfl rfl
set_option maxRecDepth 100000 in
theorem ml_L_53 : Cond.methodLink RL 53 yX5_wipe ∈ wG := wG_mk 398 rfl rfl
set_option maxRecDepth 100000 in
theorem im_X5_wipe : Cond.instanceMethod yX5_wipe ∈ wG := wG_mk 399 rfl rfl
set_option maxRecDepth 100000 in
theorem sel_X5_wipe : Cond.selects RX5 yX5_wipe yX5_wipe ∈ wG := wG_mk 400 rfl rfl
set_option maxRecDepth 100000 in
theorem cod_X5_wipe : Cond.code yX5_wipe cX5_wipe 2 (some .int) ∈ wG := wG_mk 401 rfl rfl
set_option maxRecDepth 100000 in
theorem ml_L_57 : Cond.methodLink RL 57 yX5_told ∈ wG := wG_mk 402 rfl rfl
set_option maxRecDepth 100000 in
theorem im_X5_told : Cond.instanceMethod yX5_told ∈ wG := wG_mk 403 rfl rfl
set_option maxRecDepth 100000 in
theorem sel_X5_told : Cond.selects RX5 yX5_told yX5_told ∈ wG := wG_mk 404 rfl rfl
set_option maxRecDepth 100000 in
theorem cod_X5_told : Cond.code yX5_told cX5_told 5 (some .int) ∈ wG := wG_mk 405 rfl rfl
set_option maxRecDepth 100000 in
theorem im_X3_tellsOrderOf : Cond.instanceMethod yX3_tellsOrderOf ∈ wG := wG_mk 408 rfl rfl
set_option maxRecDepth 100000 in
theorem cod_X3_tellsOrderOf : Cond.code yX3_tellsOrderOf cX3_tellsOrderOf 5 (some .boolean) ∈ wG := wG_mk 409 rfl rfl
set_option maxRecDepth 100000 in
theorem ml_X3_19 : Cond.methodLink RX3 19 yX3_tryAt ∈ wG := wG_mk 410 rfl rfl
set_option maxRecDepth 100000 in
theorem im_X3_tryAt : Cond.instanceMethod yX3_tryAt ∈ wG := wG_mk 412 rfl rfl
set_option maxRecDepth 100000 in
theorem cod_X3_tryAt : Cond.code yX3_tryAt cX3_tryAt 2 (some .int) ∈ wG := wG_mk 413 rfl rfl
set_option maxRecDepth 100000 in
theorem ml_L_61 : Cond.methodLink RL 61 yX5_best ∈ wG := wG_mk 416 rfl rfl
set_option maxRecDepth 100000 in
theorem im_X5_best : Cond.instanceMethod yX5_best ∈ wG := wG_mk 417 rfl rfl
set_option maxRecDepth 100000 in
theorem sel_X5_best : Cond.selects RX5 yX5_best yX5_best ∈ wG := wG_mk 418 rfl rfl
set_option maxRecDepth 100000 in
theorem cod_X5_best : Cond.code yX5_best cX5_best 2 (some .int) ∈ wG := wG_mk 419 rfl rfl
set_option maxRecDepth 100000 in
theorem im_X1_planBest : Cond.instanceMethod yX1_planBest ∈ wG := wG_mk 422 rfl rfl
set_option maxRecDepth 100000 in
theorem cod_X1_planBest : Cond.code yX1_planBest cX1_planBest 1 none ∈ wG := wG_mk 423 rfl rfl
set_option maxRecDepth 100000 in
theorem ml_X1_74 : Cond.methodLink RX1 74 yX1_weighOnward ∈ wG := wG_mk 424 rfl rfl
set_option maxRecDepth 100000 in
theorem im_X1_weighOnward : Cond.instanceMethod yX1_weighOnward ∈ wG := wG_mk 426 rfl rfl
set_option maxRecDepth 100000 in
theorem cod_X1_weighOnward : Cond.code yX1_weighOnward cX1_weighOnward 3 none ∈ wG := wG_mk 427 rfl rfl
set_option maxRecDepth 100000 in
theorem ml_X1_80 : Cond.methodLink RX1 80 yX1_allTries ∈ wG := wG_mk 428 rfl rfl
set_option maxRecDepth 100000 in
theorem im_X1_allTries : Cond.instanceMethod yX1_allTries ∈ wG := wG_mk 430 rfl rfl
set_option maxRecDepth 100000 in
theorem cod_X1_allTries : Cond.code yX1_allTries cX1_allTries 1 (some .int) ∈ wG := wG_mk 431 rfl rfl
set_option maxRecDepth 100000 in
theorem ml_X1_104 : Cond.methodLink RX1 104 yX1_leastThrough ∈ wG := wG_mk 433 rfl rfl
set_option maxRecDepth 100000 in
theorem im_X1_leastThrough : Cond.instanceMethod yX1_leastThrough ∈ wG := wG_mk 435 rfl rfl
set_option maxRecDepth 100000 in
theorem cod_X1_leastThrough : Cond.code yX1_leastThrough cX1_leastThrough 7 (some .int) ∈ wG := wG_mk 436 rfl rfl
set_option maxRecDepth 100000 in
theorem cst_X1_99 : Cond.constant RX1 99 2147483647 ∈ wG := wG_mk 437 rfl rfl
set_option maxRecDepth 100000 in
theorem ml_X1_70 : Cond.methodLink RX1 70 yX1_plan ∈ wG := wG_mk 438 rfl rfl
set_option maxRecDepth 100000 in
theorem im_X1_plan : Cond.instanceMethod yX1_plan ∈ wG := wG_mk 440 rfl rfl
set_option maxRecDepth 100000 in
theorem cod_X1_plan : Cond.code yX1_plan cX1_plan 7 none ∈ wG := wG_mk 441 rfl rfl
set_option maxRecDepth 100000 in
theorem im_X2_clear : Cond.instanceMethod yX2_clear ∈ wG := wG_mk 444 rfl rfl
set_option maxRecDepth 100000 in
theorem cod_X2_clear : Cond.code yX2_clear cX2_clear 1 none ∈ wG := wG_mk 445 rfl rfl
set_option maxRecDepth 100000 in
theorem ml_X1_84 : Cond.methodLink RX1 84 yX1_firstOfBest ∈ wG := wG_mk 446 rfl rfl
set_option maxRecDepth 100000 in
theorem im_X1_firstOfBest : Cond.instanceMethod yX1_firstOfBest ∈ wG := wG_mk 448 rfl rfl
set_option maxRecDepth 100000 in
theorem cod_X1_firstOfBest : Cond.code yX1_firstOfBest cX1_firstOfBest 7 (some .int) ∈ wG := wG_mk 449 rfl rfl
set_option maxRecDepth 100000 in
theorem ml_X1_90 : Cond.methodLink RX1 90 yX1_leap ∈ wG := wG_mk 450 rfl rfl
set_option maxRecDepth 100000 in
theorem ml_X1_87 : Cond.methodLink RX1 87 yX1_nearestOf ∈ wG := wG_mk 451 rfl rfl
set_option maxRecDepth 100000 in
theorem im_X1_nearestOf : Cond.instanceMethod yX1_nearestOf ∈ wG := wG_mk 453 rfl rfl
set_option maxRecDepth 100000 in
theorem cod_X1_nearestOf : Cond.code yX1_nearestOf cX1_nearestOf 6 (some .int) ∈ wG := wG_mk 454 rfl rfl
set_option maxRecDepth 100000 in
theorem im_X2_append : Cond.instanceMethod yX2_append ∈ wG := wG_mk 457 rfl rfl
set_option maxRecDepth 100000 in
theorem cod_X2_append : Cond.code yX2_append cX2_append 3 none ∈ wG := wG_mk 458 rfl rfl
set_option maxRecDepth 100000 in
theorem im_X2_tell : Cond.instanceMethod yX2_tell ∈ wG := wG_mk 461 rfl rfl
set_option maxRecDepth 100000 in
theorem cod_X2_tell : Cond.code yX2_tell cX2_tell 2 (some .int) ∈ wG := wG_mk 462 rfl rfl
set_option maxRecDepth 100000 in
theorem ml_L_65 : Cond.methodLink RL 65 yX5_nearest ∈ wG := wG_mk 463 rfl rfl
set_option maxRecDepth 100000 in
theorem im_X5_nearest : Cond.instanceMethod yX5_nearest ∈ wG := wG_mk 464 rfl rfl
set_option maxRecDepth 100000 in
theorem sel_X5_nearest : Cond.selects RX5 yX5_nearest yX5_nearest ∈ wG := wG_mk 465 rfl rfl
set_option maxRecDepth 100000 in
theorem cod_X5_nearest : Cond.code yX5_nearest cX5_nearest 2 (some .int) ∈ wG := wG_mk 466 rfl rfl
set_option maxRecDepth 100000 in
theorem im_X1_planNearest : Cond.instanceMethod yX1_planNearest ∈ wG := wG_mk 469 rfl rfl
set_option maxRecDepth 100000 in
theorem cod_X1_planNearest : Cond.code yX1_planNearest cX1_planNearest 1 none ∈ wG := wG_mk 470 rfl rfl
set_option maxRecDepth 100000 in
theorem ml_L_69 : Cond.methodLink RL 69 yX5_loosen ∈ wG := wG_mk 471 rfl rfl
set_option maxRecDepth 100000 in
theorem im_X5_loosen : Cond.instanceMethod yX5_loosen ∈ wG := wG_mk 472 rfl rfl
set_option maxRecDepth 100000 in
theorem sel_X5_loosen : Cond.selects RX5 yX5_loosen yX5_loosen ∈ wG := wG_mk 473 rfl rfl
set_option maxRecDepth 100000 in
theorem cod_X5_loosen : Cond.code yX5_loosen cX5_loosen 3 (some .int) ∈ wG := wG_mk 474 rfl rfl
set_option maxRecDepth 100000 in
theorem ml_X5_157 : Cond.methodLink RX5 157 yX5_isSwitch ∈ wG := wG_mk 475 rfl rfl
set_option maxRecDepth 100000 in
theorem stt_X5_isSwitch : Cond.static yX5_isSwitch ∈ wG := wG_mk 476 rfl rfl
set_option maxRecDepth 100000 in
theorem cod_X5_isSwitch : Cond.code yX5_isSwitch cX5_isSwitch 1 (some .boolean) ∈ wG := wG_mk 477 rfl rfl
set_option maxRecDepth 100000 in
theorem ml_X5_160 : Cond.methodLink RX5 160 yX5_withMember ∈ wG := wG_mk 478 rfl rfl
set_option maxRecDepth 100000 in
theorem ml_X5_163 : Cond.methodLink RX5 163 yJ6_bitCount_0f7a4 ∈ wG := wG_mk 479 rfl rfl
set_option maxRecDepth 100000 in
theorem stt_J6_bitCount_0f7a4 : Cond.static yJ6_bitCount_0f7a4 ∈ wG := wG_mk 480 rfl rfl
set_option maxRecDepth 100000 in
theorem cod_J6_bitCount_0f7a4 : Cond.code yJ6_bitCount_0f7a4 cJ6_bitCount_0f7a4 1 (some .int) ∈ wG := wG_mk 481 rfl rfl
set_option maxRecDepth 100000 in
theorem cst_J6_265 : Cond.constant RJ6 265 1431655765 ∈ wG := wG_mk 482 rfl rfl
set_option maxRecDepth 100000 in
theorem cst_J6_266 : Cond.constant RJ6 266 858993459 ∈ wG := wG_mk 483 rfl rfl
set_option maxRecDepth 100000 in
theorem cst_J6_267 : Cond.constant RJ6 267 252645135 ∈ wG := wG_mk 484 rfl rfl
set_option maxRecDepth 100000 in
theorem ml_L_73 : Cond.methodLink RL 73 yX5_join ∈ wG := wG_mk 485 rfl rfl
set_option maxRecDepth 100000 in
theorem im_X5_join : Cond.instanceMethod yX5_join ∈ wG := wG_mk 486 rfl rfl
set_option maxRecDepth 100000 in
theorem sel_X5_join : Cond.selects RX5 yX5_join yX5_join ∈ wG := wG_mk 487 rfl rfl
set_option maxRecDepth 100000 in
theorem cod_X5_join : Cond.code yX5_join cX5_join 4 (some .int) ∈ wG := wG_mk 488 rfl rfl
set_option maxRecDepth 100000 in
theorem ml_X5_168 : Cond.methodLink RX5 168 yX5_pairOfNets ∈ wG := wG_mk 489 rfl rfl
set_option maxRecDepth 100000 in
theorem stt_X5_pairOfNets : Cond.static yX5_pairOfNets ∈ wG := wG_mk 490 rfl rfl
set_option maxRecDepth 100000 in
theorem cod_X5_pairOfNets : Cond.code yX5_pairOfNets cX5_pairOfNets 6 (some .int) ∈ wG := wG_mk 491 rfl rfl
set_option maxRecDepth 100000 in
theorem ml_X5_213 : Cond.methodLink RX5 213 Lib.Math.min.name ∈ wG := wG_mk 492 rfl rfl
set_option maxRecDepth 100000 in
theorem stt_Math_min : Cond.static Lib.Math.min.name ∈ wG := wG_mk 493 rfl rfl
set_option maxRecDepth 100000 in
theorem cod_Math_min : Cond.code Lib.Math.min.name Lib.Math.min.code 2 (some .int) ∈ wG := wG_mk 494 rfl rfl
set_option maxRecDepth 100000 in
theorem ml_X5_218 : Cond.methodLink RX5 218 Lib.Math.max.name ∈ wG := wG_mk 495 rfl rfl
set_option maxRecDepth 100000 in
theorem ml_L_77 : Cond.methodLink RL 77 yX5_sees ∈ wG := wG_mk 496 rfl rfl
set_option maxRecDepth 100000 in
theorem im_X5_sees : Cond.instanceMethod yX5_sees ∈ wG := wG_mk 497 rfl rfl
set_option maxRecDepth 100000 in
theorem sel_X5_sees : Cond.selects RX5 yX5_sees yX5_sees ∈ wG := wG_mk 498 rfl rfl
set_option maxRecDepth 100000 in
theorem cod_X5_sees : Cond.code yX5_sees cX5_sees 1 (some .int) ∈ wG := wG_mk 499 rfl rfl
set_option maxRecDepth 100000 in
theorem ml_L_81 : Cond.methodLink RL 81 yX5_fits ∈ wG := wG_mk 500 rfl rfl
set_option maxRecDepth 100000 in
theorem im_X5_fits : Cond.instanceMethod yX5_fits ∈ wG := wG_mk 501 rfl rfl
set_option maxRecDepth 100000 in
theorem sel_X5_fits : Cond.selects RX5 yX5_fits yX5_fits ∈ wG := wG_mk 502 rfl rfl
set_option maxRecDepth 100000 in
theorem cod_X5_fits : Cond.code yX5_fits cX5_fits 2 (some .int) ∈ wG := wG_mk 503 rfl rfl
set_option maxRecDepth 100000 in
theorem ml_X5_171 : Cond.methodLink RX5 171 yX5_flawSeenAs ∈ wG := wG_mk 504 rfl rfl
set_option maxRecDepth 100000 in
theorem im_X5_flawSeenAs : Cond.instanceMethod yX5_flawSeenAs ∈ wG := wG_mk 506 rfl rfl
set_option maxRecDepth 100000 in
theorem cod_X5_flawSeenAs : Cond.code yX5_flawSeenAs cX5_flawSeenAs 5 (some .int) ∈ wG := wG_mk 507 rfl rfl
set_option maxRecDepth 100000 in
theorem ml_X5_207 : Cond.methodLink RX5 207 yX5_isFlaw ∈ wG := wG_mk 508 rfl rfl
set_option maxRecDepth 100000 in
theorem im_X5_isFlaw : Cond.instanceMethod yX5_isFlaw ∈ wG := wG_mk 510 rfl rfl
set_option maxRecDepth 100000 in
theorem cod_X5_isFlaw : Cond.code yX5_isFlaw cX5_isFlaw 2 (some .boolean) ∈ wG := wG_mk 511 rfl rfl
set_option maxRecDepth 100000 in
theorem ml_X5_210 : Cond.methodLink RX5 210 yX5_seenOfFlaw ∈ wG := wG_mk 512 rfl rfl
set_option maxRecDepth 100000 in
theorem im_X5_seenOfFlaw : Cond.instanceMethod yX5_seenOfFlaw ∈ wG := wG_mk 514 rfl rfl
set_option maxRecDepth 100000 in
theorem cod_X5_seenOfFlaw : Cond.code yX5_seenOfFlaw cX5_seenOfFlaw 2 (some .int) ∈ wG := wG_mk 515 rfl rfl
set_option maxRecDepth 100000 in
theorem ml_L_85 : Cond.methodLink RL 85 yX5_hidden ∈ wG := wG_mk 516 rfl rfl
set_option maxRecDepth 100000 in
theorem im_X5_hidden : Cond.instanceMethod yX5_hidden ∈ wG := wG_mk 517 rfl rfl
set_option maxRecDepth 100000 in
theorem sel_X5_hidden : Cond.selects RX5 yX5_hidden yX5_hidden ∈ wG := wG_mk 518 rfl rfl
set_option maxRecDepth 100000 in
theorem cod_X5_hidden : Cond.code yX5_hidden cX5_hidden 2 (some .int) ∈ wG := wG_mk 519 rfl rfl
set_option maxRecDepth 100000 in
theorem ml_L_89 : Cond.methodLink RL 89 yX5_halves ∈ wG := wG_mk 520 rfl rfl
set_option maxRecDepth 100000 in
theorem im_X5_halves : Cond.instanceMethod yX5_halves ∈ wG := wG_mk 521 rfl rfl
set_option maxRecDepth 100000 in
theorem sel_X5_halves : Cond.selects RX5 yX5_halves yX5_halves ∈ wG := wG_mk 522 rfl rfl
set_option maxRecDepth 100000 in
theorem cod_X5_halves : Cond.code yX5_halves cX5_halves 8 (some .int) ∈ wG := wG_mk 523 rfl rfl
set_option maxRecDepth 100000 in
theorem ml_X5_174 : Cond.methodLink RX5 174 yX5_netsOneWith ∈ wG := wG_mk 524 rfl rfl
set_option maxRecDepth 100000 in
theorem ml_X5_177 : Cond.methodLink RX5 177 yX5_leastMembers ∈ wG := wG_mk 525 rfl rfl
set_option maxRecDepth 100000 in
theorem stt_X5_leastMembers : Cond.static yX5_leastMembers ∈ wG := wG_mk 526 rfl rfl
set_option maxRecDepth 100000 in
theorem cod_X5_leastMembers : Cond.code yX5_leastMembers cX5_leastMembers 4 (some .int) ∈ wG := wG_mk 527 rfl rfl
set_option maxRecDepth 100000 in
theorem ml_X5_180 : Cond.methodLink RX5 180 yX5_leastNet ∈ wG := wG_mk 528 rfl rfl
set_option maxRecDepth 100000 in
theorem stt_X5_leastNet : Cond.static yX5_leastNet ∈ wG := wG_mk 529 rfl rfl
set_option maxRecDepth 100000 in
theorem cod_X5_leastNet : Cond.code yX5_leastNet cX5_leastNet 2 (some .int) ∈ wG := wG_mk 530 rfl rfl
set_option maxRecDepth 100000 in
theorem ml_L_93 : Cond.methodLink RL 93 yX5_image ∈ wG := wG_mk 531 rfl rfl
set_option maxRecDepth 100000 in
theorem im_X5_image : Cond.instanceMethod yX5_image ∈ wG := wG_mk 532 rfl rfl
set_option maxRecDepth 100000 in
theorem sel_X5_image : Cond.selects RX5 yX5_image yX5_image ∈ wG := wG_mk 533 rfl rfl
set_option maxRecDepth 100000 in
theorem cod_X5_image : Cond.code yX5_image cX5_image 2 (some .int) ∈ wG := wG_mk 534 rfl rfl
set_option maxRecDepth 100000 in
theorem ml_X5_183 : Cond.methodLink RX5 183 yX5_isImage ∈ wG := wG_mk 535 rfl rfl
set_option maxRecDepth 100000 in
theorem stt_X5_isImage : Cond.static yX5_isImage ∈ wG := wG_mk 536 rfl rfl
set_option maxRecDepth 100000 in
theorem cod_X5_isImage : Cond.code yX5_isImage cX5_isImage 1 (some .boolean) ∈ wG := wG_mk 537 rfl rfl
set_option maxRecDepth 100000 in
theorem im_X0_copyFrom : Cond.instanceMethod yX0_copyFrom ∈ wG := wG_mk 540 rfl rfl
set_option maxRecDepth 100000 in
theorem cod_X0_copyFrom : Cond.code yX0_copyFrom cX0_copyFrom 3 none ∈ wG := wG_mk 541 rfl rfl
set_option maxRecDepth 100000 in
theorem ml_L_97 : Cond.methodLink RL 97 yX5_restore ∈ wG := wG_mk 542 rfl rfl
set_option maxRecDepth 100000 in
theorem im_X5_restore : Cond.instanceMethod yX5_restore ∈ wG := wG_mk 543 rfl rfl
set_option maxRecDepth 100000 in
theorem sel_X5_restore : Cond.selects RX5 yX5_restore yX5_restore ∈ wG := wG_mk 544 rfl rfl
set_option maxRecDepth 100000 in
theorem cod_X5_restore : Cond.code yX5_restore cX5_restore 2 (some .int) ∈ wG := wG_mk 545 rfl rfl
set_option maxRecDepth 100000 in
theorem ml_L_101 : Cond.methodLink RL 101 yX5_count ∈ wG := wG_mk 546 rfl rfl
set_option maxRecDepth 100000 in
theorem im_X5_count : Cond.instanceMethod yX5_count ∈ wG := wG_mk 547 rfl rfl
set_option maxRecDepth 100000 in
theorem sel_X5_count : Cond.selects RX5 yX5_count yX5_count ∈ wG := wG_mk 548 rfl rfl
set_option maxRecDepth 100000 in
theorem cod_X5_count : Cond.code yX5_count cX5_count 2 (some .int) ∈ wG := wG_mk 549 rfl rfl
set_option maxRecDepth 100000 in
theorem im_X0_countNetsWithPoints : Cond.instanceMethod yX0_countNetsWithPoints ∈ wG := wG_mk 552 rfl rfl
set_option maxRecDepth 100000 in
theorem cod_X0_countNetsWithPoints : Cond.code yX0_countNetsWithPoints cX0_countNetsWithPoints 3 (some .int) ∈ wG := wG_mk 553 rfl rfl
set_option maxRecDepth 100000 in
theorem ml_X0_38 : Cond.methodLink RX0 38 yJ6_bitCount_0f7a4 ∈ wG := wG_mk 554 rfl rfl
set_option maxRecDepth 100000 in
theorem cl_L_10 : Cond.classLink RL 10 RX6 ∈ wG := wG_mk 555 rfl rfl
set_option maxRecDepth 100000 in
theorem ins_X6 : Cond.instantiable RX6 16 ∈ wG := wG_mk 556 rfl rfl
set_option maxRecDepth 100000 in
theorem ml_L_12 : Cond.methodLink RL 12 yX6_init ∈ wG := wG_mk 557 rfl rfl
set_option maxRecDepth 100000 in
theorem im_X6_init : Cond.instanceMethod yX6_init ∈ wG := wG_mk 558 rfl rfl
set_option maxRecDepth 100000 in
theorem cod_X6_init : Cond.code yX6_init cX6_init 1 none ∈ wG := wG_mk 559 rfl rfl
set_option maxRecDepth 100000 in
theorem ml_X6_1 : Cond.methodLink RX6 1 objectInit ∈ wG := wG_mk 560 rfl rfl
set_option maxRecDepth 100000 in
theorem fl_X6_7 : Cond.fieldLink RX6 7 "NeedlePairsModel" "state" "[I" ∈ wG := wG_mk 561 rfl rfl
set_option maxRecDepth 100000 in
theorem fl_X6_13 : Cond.fieldLink RX6 13 "NeedlePairsModel" "images" "[I" ∈ wG := wG_mk 562 rfl rfl
set_option maxRecDepth 100000 in
theorem fl_X6_16 : Cond.fieldLink RX6 16 "NeedlePairsModel" "isKept" "[Z" ∈ wG := wG_mk 563 rfl rfl
set_option maxRecDepth 100000 in
theorem fl_X6_20 : Cond.fieldLink RX6 20 "NeedlePairsModel" "pad" "[I" ∈ wG := wG_mk 564 rfl rfl
set_option maxRecDepth 100000 in
theorem fl_X6_126 : Cond.fieldLink RX6 126 "NeedlePairsModel" "said" "I" ∈ wG := wG_mk 565 rfl rfl
set_option maxRecDepth 100000 in
theorem fl_X6_23 : Cond.fieldLink RX6 23 "NeedlePairsModel" "leftOf" "[I" ∈ wG := wG_mk 566 rfl rfl
set_option maxRecDepth 100000 in
theorem fl_X6_26 : Cond.fieldLink RX6 26 "NeedlePairsModel" "rightOf" "[I" ∈ wG := wG_mk 567 rfl rfl
set_option maxRecDepth 100000 in
theorem fl_X6_29 : Cond.fieldLink RX6 29 "NeedlePairsModel" "isApart" "[Z" ∈ wG := wG_mk 568 rfl rfl
set_option maxRecDepth 100000 in
theorem fl_X6_72 : Cond.fieldLink RX6 72 "NeedlePairsModel" "tries" "I" ∈ wG := wG_mk 569 rfl rfl
set_option maxRecDepth 100000 in
theorem fl_X6_32 : Cond.fieldLink RX6 32 "NeedlePairsModel" "group" "[I" ∈ wG := wG_mk 570 rfl rfl
set_option maxRecDepth 100000 in
theorem fl_X6_35 : Cond.fieldLink RX6 35 "NeedlePairsModel" "isPair" "[Z" ∈ wG := wG_mk 571 rfl rfl
set_option maxRecDepth 100000 in
theorem fl_X6_38 : Cond.fieldLink RX6 38 "NeedlePairsModel" "isOne" "[Z" ∈ wG := wG_mk 572 rfl rfl
set_option maxRecDepth 100000 in
theorem fl_X6_41 : Cond.fieldLink RX6 41 "NeedlePairsModel" "order" "[I" ∈ wG := wG_mk 573 rfl rfl
set_option maxRecDepth 100000 in
theorem fl_X6_44 : Cond.fieldLink RX6 44 "NeedlePairsModel" "rest" "[I" ∈ wG := wG_mk 574 rfl rfl
set_option maxRecDepth 100000 in
theorem fl_X6_47 : Cond.fieldLink RX6 47 "NeedlePairsModel" "aside" "[I" ∈ wG := wG_mk 575 rfl rfl
set_option maxRecDepth 100000 in
theorem fl_X6_50 : Cond.fieldLink RX6 50 "NeedlePairsModel" "others" "[I" ∈ wG := wG_mk 576 rfl rfl
set_option maxRecDepth 100000 in
theorem arr_boolean : Cond.arrayClass .boolean ∈ wG := wG_mk 610 rfl rfl
set_option maxRecDepth 100000 in
theorem ml_L_17 : Cond.methodLink RL 17 yX6_point ∈ wG := wG_mk 611 rfl rfl
set_option maxRecDepth 100000 in
theorem im_X6_point : Cond.instanceMethod yX6_point ∈ wG := wG_mk 612 rfl rfl
set_option maxRecDepth 100000 in
theorem sel_X6_point : Cond.selects RX6 yX6_point yX6_point ∈ wG := wG_mk 613 rfl rfl
set_option maxRecDepth 100000 in
theorem cod_X6_point : Cond.code yX6_point cX6_point 5 (some .int) ∈ wG := wG_mk 614 rfl rfl
set_option maxRecDepth 100000 in
theorem ml_X6_57 : Cond.methodLink RX6 57 yX6_isNet ∈ wG := wG_mk 615 rfl rfl
set_option maxRecDepth 100000 in
theorem stt_X6_isNet : Cond.static yX6_isNet ∈ wG := wG_mk 616 rfl rfl
set_option maxRecDepth 100000 in
theorem cod_X6_isNet : Cond.code yX6_isNet cX6_isNet 1 (some .boolean) ∈ wG := wG_mk 617 rfl rfl
set_option maxRecDepth 100000 in
theorem ml_X6_53 : Cond.methodLink RX6 53 yX6_in ∈ wG := wG_mk 618 rfl rfl
set_option maxRecDepth 100000 in
theorem stt_X6_in : Cond.static yX6_in ∈ wG := wG_mk 619 rfl rfl
set_option maxRecDepth 100000 in
theorem cod_X6_in : Cond.code yX6_in cX6_in 3 (some .boolean) ∈ wG := wG_mk 620 rfl rfl
set_option maxRecDepth 100000 in
theorem ml_X6_61 : Cond.methodLink RX6 61 yX6_isHere ∈ wG := wG_mk 621 rfl rfl
set_option maxRecDepth 100000 in
theorem stt_X6_isHere : Cond.static yX6_isHere ∈ wG := wG_mk 622 rfl rfl
set_option maxRecDepth 100000 in
theorem cod_X6_isHere : Cond.code yX6_isHere cX6_isHere 2 (some .boolean) ∈ wG := wG_mk 623 rfl rfl
set_option maxRecDepth 100000 in
theorem ml_L_22 : Cond.methodLink RL 22 yX6_pop ∈ wG := wG_mk 624 rfl rfl
set_option maxRecDepth 100000 in
theorem im_X6_pop : Cond.instanceMethod yX6_pop ∈ wG := wG_mk 625 rfl rfl
set_option maxRecDepth 100000 in
theorem sel_X6_pop : Cond.selects RX6 yX6_pop yX6_pop ∈ wG := wG_mk 626 rfl rfl
set_option maxRecDepth 100000 in
theorem cod_X6_pop : Cond.code yX6_pop cX6_pop 1 (some .int) ∈ wG := wG_mk 627 rfl rfl
set_option maxRecDepth 100000 in
theorem ml_L_26 : Cond.methodLink RL 26 yX6_move ∈ wG := wG_mk 628 rfl rfl
set_option maxRecDepth 100000 in
theorem im_X6_move : Cond.instanceMethod yX6_move ∈ wG := wG_mk 629 rfl rfl
set_option maxRecDepth 100000 in
theorem sel_X6_move : Cond.selects RX6 yX6_move yX6_move ∈ wG := wG_mk 630 rfl rfl
set_option maxRecDepth 100000 in
theorem cod_X6_move : Cond.code yX6_move cX6_move 5 (some .int) ∈ wG := wG_mk 631 rfl rfl
set_option maxRecDepth 100000 in
theorem ml_X6_65 : Cond.methodLink RX6 65 yX6_isPoint ∈ wG := wG_mk 632 rfl rfl
set_option maxRecDepth 100000 in
theorem im_X6_isPoint : Cond.instanceMethod yX6_isPoint ∈ wG := wG_mk 634 rfl rfl
set_option maxRecDepth 100000 in
theorem cod_X6_isPoint : Cond.code yX6_isPoint cX6_isPoint 2 (some .boolean) ∈ wG := wG_mk 635 rfl rfl
set_option maxRecDepth 100000 in
theorem ml_L_31 : Cond.methodLink RL 31 yX6_near ∈ wG := wG_mk 636 rfl rfl
set_option maxRecDepth 100000 in
theorem im_X6_near : Cond.instanceMethod yX6_near ∈ wG := wG_mk 637 rfl rfl
set_option maxRecDepth 100000 in
theorem sel_X6_near : Cond.selects RX6 yX6_near yX6_near ∈ wG := wG_mk 638 rfl rfl
set_option maxRecDepth 100000 in
theorem cod_X6_near : Cond.code yX6_near cX6_near 3 (some .int) ∈ wG := wG_mk 639 rfl rfl
set_option maxRecDepth 100000 in
theorem ml_L_36 : Cond.methodLink RL 36 yX6_of ∈ wG := wG_mk 640 rfl rfl
set_option maxRecDepth 100000 in
theorem im_X6_of : Cond.instanceMethod yX6_of ∈ wG := wG_mk 641 rfl rfl
set_option maxRecDepth 100000 in
theorem sel_X6_of : Cond.selects RX6 yX6_of yX6_of ∈ wG := wG_mk 642 rfl rfl
set_option maxRecDepth 100000 in
theorem cod_X6_of : Cond.code yX6_of cX6_of 3 (some .int) ∈ wG := wG_mk 643 rfl rfl
set_option maxRecDepth 100000 in
theorem ml_L_40 : Cond.methodLink RL 40 yX6_far ∈ wG := wG_mk 644 rfl rfl
set_option maxRecDepth 100000 in
theorem im_X6_far : Cond.instanceMethod yX6_far ∈ wG := wG_mk 645 rfl rfl
set_option maxRecDepth 100000 in
theorem sel_X6_far : Cond.selects RX6 yX6_far yX6_far ∈ wG := wG_mk 646 rfl rfl
set_option maxRecDepth 100000 in
theorem cod_X6_far : Cond.code yX6_far cX6_far 3 (some .int) ∈ wG := wG_mk 647 rfl rfl
set_option maxRecDepth 100000 in
theorem ml_X6_68 : Cond.methodLink RX6 68 yX6_farOf ∈ wG := wG_mk 648 rfl rfl
set_option maxRecDepth 100000 in
theorem im_X6_farOf : Cond.instanceMethod yX6_farOf ∈ wG := wG_mk 650 rfl rfl
set_option maxRecDepth 100000 in
theorem cod_X6_farOf : Cond.code yX6_farOf cX6_farOf 5 (some .int) ∈ wG := wG_mk 651 rfl rfl
set_option maxRecDepth 100000 in
theorem ml_L_44 : Cond.methodLink RL 44 yX6_attempt ∈ wG := wG_mk 652 rfl rfl
set_option maxRecDepth 100000 in
theorem im_X6_attempt : Cond.instanceMethod yX6_attempt ∈ wG := wG_mk 653 rfl rfl
set_option maxRecDepth 100000 in
theorem sel_X6_attempt : Cond.selects RX6 yX6_attempt yX6_attempt ∈ wG := wG_mk 654 rfl rfl
set_option maxRecDepth 100000 in
theorem cod_X6_attempt : Cond.code yX6_attempt cX6_attempt 4 (some .int) ∈ wG := wG_mk 655 rfl rfl
set_option maxRecDepth 100000 in
theorem ml_X6_107 : Cond.methodLink RX6 107 yX6_layTries ∈ wG := wG_mk 656 rfl rfl
set_option maxRecDepth 100000 in
theorem im_X6_layTries : Cond.instanceMethod yX6_layTries ∈ wG := wG_mk 658 rfl rfl
set_option maxRecDepth 100000 in
theorem cod_X6_layTries : Cond.code yX6_layTries cX6_layTries 3 none ∈ wG := wG_mk 659 rfl rfl
set_option maxRecDepth 100000 in
theorem ml_X6_91 : Cond.methodLink RX6 91 yX6_layTree ∈ wG := wG_mk 660 rfl rfl
set_option maxRecDepth 100000 in
theorem im_X6_layTree : Cond.instanceMethod yX6_layTree ∈ wG := wG_mk 662 rfl rfl
set_option maxRecDepth 100000 in
theorem cod_X6_layTree : Cond.code yX6_layTree cX6_layTree 4 none ∈ wG := wG_mk 663 rfl rfl
set_option maxRecDepth 100000 in
theorem ml_X6_79 : Cond.methodLink RX6 79 yX6_nextPair ∈ wG := wG_mk 664 rfl rfl
set_option maxRecDepth 100000 in
theorem im_X6_nextPair : Cond.instanceMethod yX6_nextPair ∈ wG := wG_mk 666 rfl rfl
set_option maxRecDepth 100000 in
theorem cod_X6_nextPair : Cond.code yX6_nextPair cX6_nextPair 5 (some .int) ∈ wG := wG_mk 667 rfl rfl
set_option maxRecDepth 100000 in
theorem ml_X6_76 : Cond.methodLink RX6 76 yX6_canJoin ∈ wG := wG_mk 668 rfl rfl
set_option maxRecDepth 100000 in
theorem im_X6_canJoin : Cond.instanceMethod yX6_canJoin ∈ wG := wG_mk 670 rfl rfl
set_option maxRecDepth 100000 in
theorem cod_X6_canJoin : Cond.code yX6_canJoin cX6_canJoin 4 (some .boolean) ∈ wG := wG_mk 671 rfl rfl
set_option maxRecDepth 100000 in
theorem ml_X6_83 : Cond.methodLink RX6 83 yX6_join ∈ wG := wG_mk 672 rfl rfl
set_option maxRecDepth 100000 in
theorem im_X6_join : Cond.instanceMethod yX6_join ∈ wG := wG_mk 674 rfl rfl
set_option maxRecDepth 100000 in
theorem cod_X6_join : Cond.code yX6_join cX6_join 5 none ∈ wG := wG_mk 675 rfl rfl
set_option maxRecDepth 100000 in
theorem ml_X6_87 : Cond.methodLink RX6 87 yX6_addTry ∈ wG := wG_mk 676 rfl rfl
set_option maxRecDepth 100000 in
theorem im_X6_addTry : Cond.instanceMethod yX6_addTry ∈ wG := wG_mk 678 rfl rfl
set_option maxRecDepth 100000 in
theorem cod_X6_addTry : Cond.code yX6_addTry cX6_addTry 5 none ∈ wG := wG_mk 679 rfl rfl
set_option maxRecDepth 100000 in
theorem ml_X6_95 : Cond.methodLink RX6 95 yX6_layNeighbours ∈ wG := wG_mk 680 rfl rfl
set_option maxRecDepth 100000 in
theorem im_X6_layNeighbours : Cond.instanceMethod yX6_layNeighbours ∈ wG := wG_mk 682 rfl rfl
set_option maxRecDepth 100000 in
theorem cod_X6_layNeighbours : Cond.code yX6_layNeighbours cX6_layNeighbours 7 none ∈ wG := wG_mk 683 rfl rfl
set_option maxRecDepth 100000 in
theorem ml_X6_110 : Cond.methodLink RX6 110 yX6_isTry ∈ wG := wG_mk 684 rfl rfl
set_option maxRecDepth 100000 in
theorem im_X6_isTry : Cond.instanceMethod yX6_isTry ∈ wG := wG_mk 686 rfl rfl
set_option maxRecDepth 100000 in
theorem cod_X6_isTry : Cond.code yX6_isTry cX6_isTry 2 (some .boolean) ∈ wG := wG_mk 687 rfl rfl
set_option maxRecDepth 100000 in
theorem ml_X6_113 : Cond.methodLink RX6 113 yX6_seen ∈ wG := wG_mk 688 rfl rfl
set_option maxRecDepth 100000 in
theorem im_X6_seen : Cond.instanceMethod yX6_seen ∈ wG := wG_mk 690 rfl rfl
set_option maxRecDepth 100000 in
theorem cod_X6_seen : Cond.code yX6_seen cX6_seen 3 (some .int) ∈ wG := wG_mk 691 rfl rfl
set_option maxRecDepth 100000 in
theorem ml_X6_101 : Cond.methodLink RX6 101 yX6_layOnes ∈ wG := wG_mk 692 rfl rfl
set_option maxRecDepth 100000 in
theorem im_X6_layOnes : Cond.instanceMethod yX6_layOnes ∈ wG := wG_mk 694 rfl rfl
set_option maxRecDepth 100000 in
theorem cod_X6_layOnes : Cond.code yX6_layOnes cX6_layOnes 3 none ∈ wG := wG_mk 695 rfl rfl
set_option maxRecDepth 100000 in
theorem ml_X6_98 : Cond.methodLink RX6 98 yX6_pairOf ∈ wG := wG_mk 696 rfl rfl
set_option maxRecDepth 100000 in
theorem stt_X6_pairOf : Cond.static yX6_pairOf ∈ wG := wG_mk 697 rfl rfl
set_option maxRecDepth 100000 in
theorem cod_X6_pairOf : Cond.code yX6_pairOf cX6_pairOf 4 (some .int) ∈ wG := wG_mk 698 rfl rfl
set_option maxRecDepth 100000 in
theorem ml_X6_104 : Cond.methodLink RX6 104 yX6_conducts ∈ wG := wG_mk 699 rfl rfl
set_option maxRecDepth 100000 in
theorem im_X6_conducts : Cond.instanceMethod yX6_conducts ∈ wG := wG_mk 701 rfl rfl
set_option maxRecDepth 100000 in
theorem cod_X6_conducts : Cond.code yX6_conducts cX6_conducts 4 (some .boolean) ∈ wG := wG_mk 702 rfl rfl
set_option maxRecDepth 100000 in
theorem ml_L_48 : Cond.methodLink RL 48 yX6_time ∈ wG := wG_mk 703 rfl rfl
set_option maxRecDepth 100000 in
theorem im_X6_time : Cond.instanceMethod yX6_time ∈ wG := wG_mk 704 rfl rfl
set_option maxRecDepth 100000 in
theorem sel_X6_time : Cond.selects RX6 yX6_time yX6_time ∈ wG := wG_mk 705 rfl rfl
set_option maxRecDepth 100000 in
theorem cod_X6_time : Cond.code yX6_time cX6_time 3 (some .int) ∈ wG := wG_mk 706 rfl rfl
set_option maxRecDepth 100000 in
theorem ml_X6_123 : Cond.methodLink RX6 123 yX6_timeOf ∈ wG := wG_mk 707 rfl rfl
set_option maxRecDepth 100000 in
theorem im_X6_timeOf : Cond.instanceMethod yX6_timeOf ∈ wG := wG_mk 709 rfl rfl
set_option maxRecDepth 100000 in
theorem cod_X6_timeOf : Cond.code yX6_timeOf cX6_timeOf 9 (some .int) ∈ wG := wG_mk 710 rfl rfl
set_option maxRecDepth 100000 in
theorem ml_X6_117 : Cond.methodLink RX6 117 yX6_size ∈ wG := wG_mk 711 rfl rfl
set_option maxRecDepth 100000 in
theorem stt_X6_size : Cond.static yX6_size ∈ wG := wG_mk 712 rfl rfl
set_option maxRecDepth 100000 in
theorem cod_X6_size : Cond.code yX6_size cX6_size 1 (some .int) ∈ wG := wG_mk 713 rfl rfl
set_option maxRecDepth 100000 in
theorem ml_X6_120 : Cond.methodLink RX6 120 yX6_greater ∈ wG := wG_mk 714 rfl rfl
set_option maxRecDepth 100000 in
theorem stt_X6_greater : Cond.static yX6_greater ∈ wG := wG_mk 715 rfl rfl
set_option maxRecDepth 100000 in
theorem cod_X6_greater : Cond.code yX6_greater cX6_greater 2 (some .int) ∈ wG := wG_mk 716 rfl rfl
set_option maxRecDepth 100000 in
theorem ml_L_52 : Cond.methodLink RL 52 yX6_say ∈ wG := wG_mk 717 rfl rfl
set_option maxRecDepth 100000 in
theorem im_X6_say : Cond.instanceMethod yX6_say ∈ wG := wG_mk 718 rfl rfl
set_option maxRecDepth 100000 in
theorem sel_X6_say : Cond.selects RX6 yX6_say yX6_say ∈ wG := wG_mk 719 rfl rfl
set_option maxRecDepth 100000 in
theorem cod_X6_say : Cond.code yX6_say cX6_say 2 (some .int) ∈ wG := wG_mk 720 rfl rfl
set_option maxRecDepth 100000 in
theorem ml_L_56 : Cond.methodLink RL 56 yX6_wipe ∈ wG := wG_mk 721 rfl rfl
set_option maxRecDepth 100000 in
theorem im_X6_wipe : Cond.instanceMethod yX6_wipe ∈ wG := wG_mk 722 rfl rfl
set_option maxRecDepth 100000 in
theorem sel_X6_wipe : Cond.selects RX6 yX6_wipe yX6_wipe ∈ wG := wG_mk 723 rfl rfl
set_option maxRecDepth 100000 in
theorem cod_X6_wipe : Cond.code yX6_wipe cX6_wipe 2 (some .int) ∈ wG := wG_mk 724 rfl rfl
set_option maxRecDepth 100000 in
theorem ml_L_60 : Cond.methodLink RL 60 yX6_told ∈ wG := wG_mk 725 rfl rfl
set_option maxRecDepth 100000 in
theorem im_X6_told : Cond.instanceMethod yX6_told ∈ wG := wG_mk 726 rfl rfl
set_option maxRecDepth 100000 in
theorem sel_X6_told : Cond.selects RX6 yX6_told yX6_told ∈ wG := wG_mk 727 rfl rfl
set_option maxRecDepth 100000 in
theorem cod_X6_told : Cond.code yX6_told cX6_told 3 (some .int) ∈ wG := wG_mk 728 rfl rfl
set_option maxRecDepth 100000 in
theorem ml_X6_129 : Cond.methodLink RX6 129 yX6_timeOfOrder ∈ wG := wG_mk 729 rfl rfl
set_option maxRecDepth 100000 in
theorem im_X6_timeOfOrder : Cond.instanceMethod yX6_timeOfOrder ∈ wG := wG_mk 731 rfl rfl
set_option maxRecDepth 100000 in
theorem cod_X6_timeOfOrder : Cond.code yX6_timeOfOrder cX6_timeOfOrder 3 (some .int) ∈ wG := wG_mk 732 rfl rfl
set_option maxRecDepth 100000 in
theorem ml_L_64 : Cond.methodLink RL 64 yX6_best ∈ wG := wG_mk 733 rfl rfl
set_option maxRecDepth 100000 in
theorem im_X6_best : Cond.instanceMethod yX6_best ∈ wG := wG_mk 734 rfl rfl
set_option maxRecDepth 100000 in
theorem sel_X6_best : Cond.selects RX6 yX6_best yX6_best ∈ wG := wG_mk 735 rfl rfl
set_option maxRecDepth 100000 in
theorem cod_X6_best : Cond.code yX6_best cX6_best 2 (some .int) ∈ wG := wG_mk 736 rfl rfl
set_option maxRecDepth 100000 in
theorem ml_X6_138 : Cond.methodLink RX6 138 yX6_layBest ∈ wG := wG_mk 737 rfl rfl
set_option maxRecDepth 100000 in
theorem im_X6_layBest : Cond.instanceMethod yX6_layBest ∈ wG := wG_mk 739 rfl rfl
set_option maxRecDepth 100000 in
theorem cod_X6_layBest : Cond.code yX6_layBest cX6_layBest 7 none ∈ wG := wG_mk 740 rfl rfl
set_option maxRecDepth 100000 in
theorem ml_X6_135 : Cond.methodLink RX6 135 yX6_layRest ∈ wG := wG_mk 741 rfl rfl
set_option maxRecDepth 100000 in
theorem im_X6_layRest : Cond.instanceMethod yX6_layRest ∈ wG := wG_mk 743 rfl rfl
set_option maxRecDepth 100000 in
theorem cod_X6_layRest : Cond.code yX6_layRest cX6_layRest 4 none ∈ wG := wG_mk 744 rfl rfl
set_option maxRecDepth 100000 in
theorem ml_X6_132 : Cond.methodLink RX6 132 yX6_restFrom ∈ wG := wG_mk 745 rfl rfl
set_option maxRecDepth 100000 in
theorem im_X6_restFrom : Cond.instanceMethod yX6_restFrom ∈ wG := wG_mk 747 rfl rfl
set_option maxRecDepth 100000 in
theorem cod_X6_restFrom : Cond.code yX6_restFrom cX6_restFrom 6 (some .int) ∈ wG := wG_mk 748 rfl rfl
set_option maxRecDepth 100000 in
theorem ml_X6_141 : Cond.methodLink RX6 141 yX6_orderAt ∈ wG := wG_mk 749 rfl rfl
set_option maxRecDepth 100000 in
theorem im_X6_orderAt : Cond.instanceMethod yX6_orderAt ∈ wG := wG_mk 751 rfl rfl
set_option maxRecDepth 100000 in
theorem cod_X6_orderAt : Cond.code yX6_orderAt cX6_orderAt 2 (some .int) ∈ wG := wG_mk 752 rfl rfl
set_option maxRecDepth 100000 in
theorem ml_L_68 : Cond.methodLink RL 68 yX6_nearest ∈ wG := wG_mk 753 rfl rfl
set_option maxRecDepth 100000 in
theorem im_X6_nearest : Cond.instanceMethod yX6_nearest ∈ wG := wG_mk 754 rfl rfl
set_option maxRecDepth 100000 in
theorem sel_X6_nearest : Cond.selects RX6 yX6_nearest yX6_nearest ∈ wG := wG_mk 755 rfl rfl
set_option maxRecDepth 100000 in
theorem cod_X6_nearest : Cond.code yX6_nearest cX6_nearest 8 (some .int) ∈ wG := wG_mk 756 rfl rfl
set_option maxRecDepth 100000 in
theorem ml_L_72 : Cond.methodLink RL 72 yX6_loosen ∈ wG := wG_mk 757 rfl rfl
set_option maxRecDepth 100000 in
theorem im_X6_loosen : Cond.instanceMethod yX6_loosen ∈ wG := wG_mk 758 rfl rfl
set_option maxRecDepth 100000 in
theorem sel_X6_loosen : Cond.selects RX6 yX6_loosen yX6_loosen ∈ wG := wG_mk 759 rfl rfl
set_option maxRecDepth 100000 in
theorem cod_X6_loosen : Cond.code yX6_loosen cX6_loosen 3 (some .int) ∈ wG := wG_mk 760 rfl rfl
set_option maxRecDepth 100000 in
theorem ml_X6_144 : Cond.methodLink RX6 144 yX6_looseMany ∈ wG := wG_mk 761 rfl rfl
set_option maxRecDepth 100000 in
theorem im_X6_looseMany : Cond.instanceMethod yX6_looseMany ∈ wG := wG_mk 763 rfl rfl
set_option maxRecDepth 100000 in
theorem cod_X6_looseMany : Cond.code yX6_looseMany cX6_looseMany 3 (some .int) ∈ wG := wG_mk 764 rfl rfl
set_option maxRecDepth 100000 in
theorem ml_L_76 : Cond.methodLink RL 76 yX6_join_ ∈ wG := wG_mk 765 rfl rfl
set_option maxRecDepth 100000 in
theorem im_X6_join_ : Cond.instanceMethod yX6_join_ ∈ wG := wG_mk 766 rfl rfl
set_option maxRecDepth 100000 in
theorem sel_X6_join_ : Cond.selects RX6 yX6_join_ yX6_join_ ∈ wG := wG_mk 767 rfl rfl
set_option maxRecDepth 100000 in
theorem cod_X6_join_ : Cond.code yX6_join_ cX6_join_ 4 (some .int) ∈ wG := wG_mk 768 rfl rfl
set_option maxRecDepth 100000 in
theorem ml_X6_147 : Cond.methodLink RX6 147 yX6_shortMany ∈ wG := wG_mk 769 rfl rfl
set_option maxRecDepth 100000 in
theorem im_X6_shortMany : Cond.instanceMethod yX6_shortMany ∈ wG := wG_mk 771 rfl rfl
set_option maxRecDepth 100000 in
theorem cod_X6_shortMany : Cond.code yX6_shortMany cX6_shortMany 3 (some .int) ∈ wG := wG_mk 772 rfl rfl
set_option maxRecDepth 100000 in
theorem ml_L_80 : Cond.methodLink RL 80 yX6_sees ∈ wG := wG_mk 773 rfl rfl
set_option maxRecDepth 100000 in
theorem im_X6_sees : Cond.instanceMethod yX6_sees ∈ wG := wG_mk 774 rfl rfl
set_option maxRecDepth 100000 in
theorem sel_X6_sees : Cond.selects RX6 yX6_sees yX6_sees ∈ wG := wG_mk 775 rfl rfl
set_option maxRecDepth 100000 in
theorem cod_X6_sees : Cond.code yX6_sees cX6_sees 1 (some .int) ∈ wG := wG_mk 776 rfl rfl
set_option maxRecDepth 100000 in
theorem ml_L_84 : Cond.methodLink RL 84 yX6_fits ∈ wG := wG_mk 777 rfl rfl
set_option maxRecDepth 100000 in
theorem im_X6_fits : Cond.instanceMethod yX6_fits ∈ wG := wG_mk 778 rfl rfl
set_option maxRecDepth 100000 in
theorem sel_X6_fits : Cond.selects RX6 yX6_fits yX6_fits ∈ wG := wG_mk 779 rfl rfl
set_option maxRecDepth 100000 in
theorem cod_X6_fits : Cond.code yX6_fits cX6_fits 5 (some .int) ∈ wG := wG_mk 780 rfl rfl
set_option maxRecDepth 100000 in
theorem ml_X6_150 : Cond.methodLink RX6 150 yX6_isSingle ∈ wG := wG_mk 781 rfl rfl
set_option maxRecDepth 100000 in
theorem im_X6_isSingle : Cond.instanceMethod yX6_isSingle ∈ wG := wG_mk 783 rfl rfl
set_option maxRecDepth 100000 in
theorem cod_X6_isSingle : Cond.code yX6_isSingle cX6_isSingle 2 (some .boolean) ∈ wG := wG_mk 784 rfl rfl
set_option maxRecDepth 100000 in
theorem ml_X6_153 : Cond.methodLink RX6 153 yX6_seenBy ∈ wG := wG_mk 785 rfl rfl
set_option maxRecDepth 100000 in
theorem im_X6_seenBy : Cond.instanceMethod yX6_seenBy ∈ wG := wG_mk 787 rfl rfl
set_option maxRecDepth 100000 in
theorem cod_X6_seenBy : Cond.code yX6_seenBy cX6_seenBy 4 (some .int) ∈ wG := wG_mk 788 rfl rfl
set_option maxRecDepth 100000 in
theorem ml_L_88 : Cond.methodLink RL 88 yX6_hidden ∈ wG := wG_mk 789 rfl rfl
set_option maxRecDepth 100000 in
theorem im_X6_hidden : Cond.instanceMethod yX6_hidden ∈ wG := wG_mk 790 rfl rfl
set_option maxRecDepth 100000 in
theorem sel_X6_hidden : Cond.selects RX6 yX6_hidden yX6_hidden ∈ wG := wG_mk 791 rfl rfl
set_option maxRecDepth 100000 in
theorem cod_X6_hidden : Cond.code yX6_hidden cX6_hidden 5 (some .int) ∈ wG := wG_mk 792 rfl rfl
set_option maxRecDepth 100000 in
theorem ml_L_92 : Cond.methodLink RL 92 yX6_halves ∈ wG := wG_mk 793 rfl rfl
set_option maxRecDepth 100000 in
theorem im_X6_halves : Cond.instanceMethod yX6_halves ∈ wG := wG_mk 794 rfl rfl
set_option maxRecDepth 100000 in
theorem sel_X6_halves : Cond.selects RX6 yX6_halves yX6_halves ∈ wG := wG_mk 795 rfl rfl
set_option maxRecDepth 100000 in
theorem cod_X6_halves : Cond.code yX6_halves cX6_halves 7 (some .int) ∈ wG := wG_mk 796 rfl rfl
set_option maxRecDepth 100000 in
theorem ml_X6_156 : Cond.methodLink RX6 156 yX6_isAnyOne ∈ wG := wG_mk 797 rfl rfl
set_option maxRecDepth 100000 in
theorem im_X6_isAnyOne : Cond.instanceMethod yX6_isAnyOne ∈ wG := wG_mk 799 rfl rfl
set_option maxRecDepth 100000 in
theorem cod_X6_isAnyOne : Cond.code yX6_isAnyOne cX6_isAnyOne 6 (some .boolean) ∈ wG := wG_mk 800 rfl rfl
set_option maxRecDepth 100000 in
theorem ml_L_96 : Cond.methodLink RL 96 yX6_image ∈ wG := wG_mk 801 rfl rfl
set_option maxRecDepth 100000 in
theorem im_X6_image : Cond.instanceMethod yX6_image ∈ wG := wG_mk 802 rfl rfl
set_option maxRecDepth 100000 in
theorem sel_X6_image : Cond.selects RX6 yX6_image yX6_image ∈ wG := wG_mk 803 rfl rfl
set_option maxRecDepth 100000 in
theorem cod_X6_image : Cond.code yX6_image cX6_image 3 (some .int) ∈ wG := wG_mk 804 rfl rfl
set_option maxRecDepth 100000 in
theorem ml_L_100 : Cond.methodLink RL 100 yX6_restore ∈ wG := wG_mk 805 rfl rfl
set_option maxRecDepth 100000 in
theorem im_X6_restore : Cond.instanceMethod yX6_restore ∈ wG := wG_mk 806 rfl rfl
set_option maxRecDepth 100000 in
theorem sel_X6_restore : Cond.selects RX6 yX6_restore yX6_restore ∈ wG := wG_mk 807 rfl rfl
set_option maxRecDepth 100000 in
theorem cod_X6_restore : Cond.code yX6_restore cX6_restore 3 (some .int) ∈ wG := wG_mk 808 rfl rfl
set_option maxRecDepth 100000 in
theorem ml_L_104 : Cond.methodLink RL 104 yX6_count ∈ wG := wG_mk 809 rfl rfl
set_option maxRecDepth 100000 in
theorem im_X6_count : Cond.instanceMethod yX6_count ∈ wG := wG_mk 810 rfl rfl
set_option maxRecDepth 100000 in
theorem sel_X6_count : Cond.selects RX6 yX6_count yX6_count ∈ wG := wG_mk 811 rfl rfl
set_option maxRecDepth 100000 in
theorem cod_X6_count : Cond.code yX6_count cX6_count 2 (some .int) ∈ wG := wG_mk 812 rfl rfl
set_option maxRecDepth 100000 in
theorem ml_X6_159 : Cond.methodLink RX6 159 yX6_apartMany ∈ wG := wG_mk 813 rfl rfl
set_option maxRecDepth 100000 in
theorem im_X6_apartMany : Cond.instanceMethod yX6_apartMany ∈ wG := wG_mk 815 rfl rfl
set_option maxRecDepth 100000 in
theorem cod_X6_apartMany : Cond.code yX6_apartMany cX6_apartMany 3 (some .int) ∈ wG := wG_mk 816 rfl rfl
set_option maxRecDepth 100000 in
theorem ml_X6_162 : Cond.methodLink RX6 162 yX6_netsUsed ∈ wG := wG_mk 817 rfl rfl
set_option maxRecDepth 100000 in
theorem im_X6_netsUsed : Cond.instanceMethod yX6_netsUsed ∈ wG := wG_mk 819 rfl rfl
set_option maxRecDepth 100000 in
theorem cod_X6_netsUsed : Cond.code yX6_netsUsed cX6_netsUsed 3 (some .int) ∈ wG := wG_mk 820 rfl rfl
set_option maxRecDepth 100000 in
theorem lay_X0_0 : u_lay RX0 TX0 0 ∈ wG := wG_mk 109 rfl rfl
set_option maxRecDepth 100000 in
theorem lay_X0_1 : u_lay RX0 TX0 1 ∈ wG := wG_mk 111 rfl rfl
set_option maxRecDepth 100000 in
theorem lay_X0_2 : u_lay RX0 TX0 2 ∈ wG := wG_mk 113 rfl rfl
set_option maxRecDepth 100000 in
theorem lay_X0_3 : u_lay RX0 TX0 3 ∈ wG := wG_mk 115 rfl rfl
set_option maxRecDepth 100000 in
theorem lay_X0_4 : u_lay RX0 TX0 4 ∈ wG := wG_mk 117 rfl rfl
set_option maxRecDepth 100000 in
theorem lay_X0_5 : u_lay RX0 TX0 5 ∈ wG := wG_mk 119 rfl rfl
set_option maxRecDepth 100000 in
theorem lay_X0_6 : u_lay RX0 TX0 6 ∈ wG := wG_mk 121 rfl rfl
theorem inlX0 : ∀ w ∈ u_ws RX0 TX0 7, w ∈ wG := List.forall_mem_cons.mpr ⟨lay_X0_0, List.forall_mem_cons.mpr ⟨lay_X0_1, List.forall_mem_cons.mpr ⟨lay_X0_2, List.forall_mem_cons.mpr ⟨lay_X0_3, List.forall_mem_cons.mpr ⟨lay_X0_4, List.forall_mem_cons.mpr ⟨lay_X0_5, List.forall_mem_cons.mpr ⟨lay_X0_6, fun _ h => absurd h List.not_mem_nil⟩⟩⟩⟩⟩⟩⟩
set_option maxRecDepth 100000 in
theorem lay_X1_0 : u_lay RX1 TX1 0 ∈ wG := wG_mk 187 rfl rfl
set_option maxRecDepth 100000 in
theorem lay_X1_1 : u_lay RX1 TX1 1 ∈ wG := wG_mk 189 rfl rfl
set_option maxRecDepth 100000 in
theorem lay_X1_2 : u_lay RX1 TX1 2 ∈ wG := wG_mk 191 rfl rfl
set_option maxRecDepth 100000 in
theorem lay_X1_3 : u_lay RX1 TX1 3 ∈ wG := wG_mk 193 rfl rfl
set_option maxRecDepth 100000 in
theorem lay_X1_4 : u_lay RX1 TX1 4 ∈ wG := wG_mk 195 rfl rfl
set_option maxRecDepth 100000 in
theorem lay_X1_5 : u_lay RX1 TX1 5 ∈ wG := wG_mk 197 rfl rfl
theorem inlX1 : ∀ w ∈ u_ws RX1 TX1 6, w ∈ wG := List.forall_mem_cons.mpr ⟨lay_X1_0, List.forall_mem_cons.mpr ⟨lay_X1_1, List.forall_mem_cons.mpr ⟨lay_X1_2, List.forall_mem_cons.mpr ⟨lay_X1_3, List.forall_mem_cons.mpr ⟨lay_X1_4, List.forall_mem_cons.mpr ⟨lay_X1_5, fun _ h => absurd h List.not_mem_nil⟩⟩⟩⟩⟩⟩
set_option maxRecDepth 100000 in
theorem lay_X2_0 : u_lay RX2 TX2 0 ∈ wG := wG_mk 172 rfl rfl
set_option maxRecDepth 100000 in
theorem lay_X2_1 : u_lay RX2 TX2 1 ∈ wG := wG_mk 174 rfl rfl
set_option maxRecDepth 100000 in
theorem lay_X2_2 : u_lay RX2 TX2 2 ∈ wG := wG_mk 176 rfl rfl
theorem inlX2 : ∀ w ∈ u_ws RX2 TX2 3, w ∈ wG := List.forall_mem_cons.mpr ⟨lay_X2_0, List.forall_mem_cons.mpr ⟨lay_X2_1, List.forall_mem_cons.mpr ⟨lay_X2_2, fun _ h => absurd h List.not_mem_nil⟩⟩⟩
set_option maxRecDepth 100000 in
theorem lay_X3_0 : u_lay RX3 TX3 0 ∈ wG := wG_mk 209 rfl rfl
set_option maxRecDepth 100000 in
theorem lay_X3_1 : u_lay RX3 TX3 1 ∈ wG := wG_mk 211 rfl rfl
theorem inlX3 : ∀ w ∈ u_ws RX3 TX3 2, w ∈ wG := List.forall_mem_cons.mpr ⟨lay_X3_0, List.forall_mem_cons.mpr ⟨lay_X3_1, fun _ h => absurd h List.not_mem_nil⟩⟩
set_option maxRecDepth 100000 in
theorem lay_X4_0 : u_lay RX4 TX4 0 ∈ wG := wG_mk 144 rfl rfl
set_option maxRecDepth 100000 in
theorem lay_X4_1 : u_lay RX4 TX4 1 ∈ wG := wG_mk 146 rfl rfl
set_option maxRecDepth 100000 in
theorem lay_X4_2 : u_lay RX4 TX4 2 ∈ wG := wG_mk 148 rfl rfl
set_option maxRecDepth 100000 in
theorem lay_X4_3 : u_lay RX4 TX4 3 ∈ wG := wG_mk 150 rfl rfl
set_option maxRecDepth 100000 in
theorem lay_X4_4 : u_lay RX4 TX4 4 ∈ wG := wG_mk 152 rfl rfl
set_option maxRecDepth 100000 in
theorem lay_X4_5 : u_lay RX4 TX4 5 ∈ wG := wG_mk 154 rfl rfl
theorem inlX4 : ∀ w ∈ u_ws RX4 TX4 6, w ∈ wG := List.forall_mem_cons.mpr ⟨lay_X4_0, List.forall_mem_cons.mpr ⟨lay_X4_1, List.forall_mem_cons.mpr ⟨lay_X4_2, List.forall_mem_cons.mpr ⟨lay_X4_3, List.forall_mem_cons.mpr ⟨lay_X4_4, List.forall_mem_cons.mpr ⟨lay_X4_5, fun _ h => absurd h List.not_mem_nil⟩⟩⟩⟩⟩⟩
set_option maxRecDepth 100000 in
theorem lay_X5_0 : u_lay RX5 TX5 0 ∈ wG := wG_mk 221 rfl rfl
set_option maxRecDepth 100000 in
theorem lay_X5_1 : u_lay RX5 TX5 1 ∈ wG := wG_mk 223 rfl rfl
set_option maxRecDepth 100000 in
theorem lay_X5_2 : u_lay RX5 TX5 2 ∈ wG := wG_mk 225 rfl rfl
set_option maxRecDepth 100000 in
theorem lay_X5_3 : u_lay RX5 TX5 3 ∈ wG := wG_mk 227 rfl rfl
set_option maxRecDepth 100000 in
theorem lay_X5_4 : u_lay RX5 TX5 4 ∈ wG := wG_mk 229 rfl rfl
set_option maxRecDepth 100000 in
theorem lay_X5_5 : u_lay RX5 TX5 5 ∈ wG := wG_mk 231 rfl rfl
theorem inlX5 : ∀ w ∈ u_ws RX5 TX5 6, w ∈ wG := List.forall_mem_cons.mpr ⟨lay_X5_0, List.forall_mem_cons.mpr ⟨lay_X5_1, List.forall_mem_cons.mpr ⟨lay_X5_2, List.forall_mem_cons.mpr ⟨lay_X5_3, List.forall_mem_cons.mpr ⟨lay_X5_4, List.forall_mem_cons.mpr ⟨lay_X5_5, fun _ h => absurd h List.not_mem_nil⟩⟩⟩⟩⟩⟩
set_option maxRecDepth 100000 in
theorem lay_X6_0 : u_lay RX6 TX6 0 ∈ wG := wG_mk 577 rfl rfl
set_option maxRecDepth 100000 in
theorem lay_X6_1 : u_lay RX6 TX6 1 ∈ wG := wG_mk 579 rfl rfl
set_option maxRecDepth 100000 in
theorem lay_X6_2 : u_lay RX6 TX6 2 ∈ wG := wG_mk 581 rfl rfl
set_option maxRecDepth 100000 in
theorem lay_X6_3 : u_lay RX6 TX6 3 ∈ wG := wG_mk 583 rfl rfl
set_option maxRecDepth 100000 in
theorem lay_X6_4 : u_lay RX6 TX6 4 ∈ wG := wG_mk 585 rfl rfl
set_option maxRecDepth 100000 in
theorem lay_X6_5 : u_lay RX6 TX6 5 ∈ wG := wG_mk 587 rfl rfl
set_option maxRecDepth 100000 in
theorem lay_X6_6 : u_lay RX6 TX6 6 ∈ wG := wG_mk 589 rfl rfl
set_option maxRecDepth 100000 in
theorem lay_X6_7 : u_lay RX6 TX6 7 ∈ wG := wG_mk 591 rfl rfl
set_option maxRecDepth 100000 in
theorem lay_X6_8 : u_lay RX6 TX6 8 ∈ wG := wG_mk 593 rfl rfl
set_option maxRecDepth 100000 in
theorem lay_X6_9 : u_lay RX6 TX6 9 ∈ wG := wG_mk 595 rfl rfl
set_option maxRecDepth 100000 in
theorem lay_X6_10 : u_lay RX6 TX6 10 ∈ wG := wG_mk 597 rfl rfl
set_option maxRecDepth 100000 in
theorem lay_X6_11 : u_lay RX6 TX6 11 ∈ wG := wG_mk 599 rfl rfl
set_option maxRecDepth 100000 in
theorem lay_X6_12 : u_lay RX6 TX6 12 ∈ wG := wG_mk 601 rfl rfl
set_option maxRecDepth 100000 in
theorem lay_X6_13 : u_lay RX6 TX6 13 ∈ wG := wG_mk 603 rfl rfl
set_option maxRecDepth 100000 in
theorem lay_X6_14 : u_lay RX6 TX6 14 ∈ wG := wG_mk 605 rfl rfl
set_option maxRecDepth 100000 in
theorem lay_X6_15 : u_lay RX6 TX6 15 ∈ wG := wG_mk 607 rfl rfl
theorem inlX6 : ∀ w ∈ u_ws RX6 TX6 16, w ∈ wG := List.forall_mem_cons.mpr ⟨lay_X6_0, List.forall_mem_cons.mpr ⟨lay_X6_1, List.forall_mem_cons.mpr ⟨lay_X6_2, List.forall_mem_cons.mpr ⟨lay_X6_3, List.forall_mem_cons.mpr ⟨lay_X6_4, List.forall_mem_cons.mpr ⟨lay_X6_5, List.forall_mem_cons.mpr ⟨lay_X6_6, List.forall_mem_cons.mpr ⟨lay_X6_7, List.forall_mem_cons.mpr ⟨lay_X6_8, List.forall_mem_cons.mpr ⟨lay_X6_9, List.forall_mem_cons.mpr ⟨lay_X6_10, List.forall_mem_cons.mpr ⟨lay_X6_11, List.forall_mem_cons.mpr ⟨lay_X6_12, List.forall_mem_cons.mpr ⟨lay_X6_13, List.forall_mem_cons.mpr ⟨lay_X6_14, List.forall_mem_cons.mpr ⟨lay_X6_15, fun _ h => absurd h List.not_mem_nil⟩⟩⟩⟩⟩⟩⟩⟩⟩⟩⟩⟩⟩⟩⟩⟩
def nestFs : List (String × Nat × String × String × String) := [(RX4, 50, "NeedlePairs$Board", "nets", "[I"), (RX5, 79, "NeedlePairs$Board", "nets", "[I"), (RX1, 45, "NeedlePairs$Board", "xs", "[I"), (RX5, 69, "NeedlePairs$Board", "xs", "[I"), (RX1, 50, "NeedlePairs$Board", "ys", "[I"), (RX5, 73, "NeedlePairs$Board", "ys", "[I"), (RX5, 53, "NeedlePairs$Board", "points", "I"), (RX4, 41, "NeedlePairs$Board", "points", "I"), (RX5, 76, "NeedlePairs$Board", "nearness", "I"), (RX4, 78, "NeedlePairs$Board", "nearness", "I"), (RX5, 82, "NeedlePairs$Board", "looseSet", "I"), (RX5, 108, "NeedlePairs$Board", "shortSet", "I"), (RX1, 39, "NeedlePairs$Tries", "left", "[I"), (RX5, 99, "NeedlePairs$Tries", "left", "[I"), (RX1, 42, "NeedlePairs$Tries", "right", "[I"), (RX5, 102, "NeedlePairs$Tries", "right", "[I"), (RX1, 36, "NeedlePairs$Tries", "total", "I"), (RX5, 129, "NeedlePairs$Tries", "total", "I"), (RX5, 190, "NeedlePairs$Tries", "ofTrees", "I"), (RX5, 142, "NeedlePairs$Needles", "bestOrder", "LNeedlePairs$Order;"), (RX5, 154, "NeedlePairs$Needles", "nearestOrder", "LNeedlePairs$Order;"), (RX5, 122, "NeedlePairs$Pad", "length", "I"), (RX4, 69, "NeedlePairs", "LESSER_NET", "[I"), (RX4, 72, "NeedlePairs", "GREATER_NET", "[I")]
def nestMs : List (String × Nat × MethodName) := [(RX5, 11, yX0_init), (RX5, 18, yX4_init), (RX5, 25, yX1_init), (RX1, 24, yX2_init), (RX5, 32, yX3_init), (RX5, 56, yX0_addPoint), (RX5, 196, yX4_layOut), (RX4, 53, yX0_distance), (RX4, 61, yX5_isIn), (RX4, 81, yX0_isLeftOf), (RX5, 199, yX1_measure), (RX5, 63, yX0_removeLastPoint), (RX0, 34, yX5_withMember), (RX5, 66, yX0_hasPoint), (RX5, 92, yX0_distance), (RX5, 96, yX4_hasTry), (RX5, 105, yX4_isOfNeighbours), (RX5, 111, yX4_conducts), (RX4, 84, yX5_netsOneWith), (RX5, 203, yX4_seenSet), (RX5, 119, yX1_leap), (RX5, 125, yX3_write), (RX5, 132, yX3_tellsOrderOf), (RX3, 23, yX5_isIn), (RX5, 135, yX3_tryAt), (RX5, 139, yX1_planBest), (RX1, 100, yX5_isIn), (RX1, 77, yX2_clear), (RX1, 93, yX2_append), (RX5, 146, yX2_tell), (RX5, 151, yX1_planNearest), (RX5, 186, yX0_copyFrom), (RX5, 193, yX0_countNetsWithPoints)]
theorem nf_X4_50 : (RX4, 50, "NeedlePairs$Board", "nets", "[I") ∈ nestFs := List.mem_of_getElem? (i := 0) rfl
theorem nf_X5_79 : (RX5, 79, "NeedlePairs$Board", "nets", "[I") ∈ nestFs := List.mem_of_getElem? (i := 1) rfl
theorem nf_X1_45 : (RX1, 45, "NeedlePairs$Board", "xs", "[I") ∈ nestFs := List.mem_of_getElem? (i := 2) rfl
theorem nf_X5_69 : (RX5, 69, "NeedlePairs$Board", "xs", "[I") ∈ nestFs := List.mem_of_getElem? (i := 3) rfl
theorem nf_X1_50 : (RX1, 50, "NeedlePairs$Board", "ys", "[I") ∈ nestFs := List.mem_of_getElem? (i := 4) rfl
theorem nf_X5_73 : (RX5, 73, "NeedlePairs$Board", "ys", "[I") ∈ nestFs := List.mem_of_getElem? (i := 5) rfl
theorem nf_X5_53 : (RX5, 53, "NeedlePairs$Board", "points", "I") ∈ nestFs := List.mem_of_getElem? (i := 6) rfl
theorem nf_X4_41 : (RX4, 41, "NeedlePairs$Board", "points", "I") ∈ nestFs := List.mem_of_getElem? (i := 7) rfl
theorem nf_X5_76 : (RX5, 76, "NeedlePairs$Board", "nearness", "I") ∈ nestFs := List.mem_of_getElem? (i := 8) rfl
theorem nf_X4_78 : (RX4, 78, "NeedlePairs$Board", "nearness", "I") ∈ nestFs := List.mem_of_getElem? (i := 9) rfl
theorem nf_X5_82 : (RX5, 82, "NeedlePairs$Board", "looseSet", "I") ∈ nestFs := List.mem_of_getElem? (i := 10) rfl
theorem nf_X5_108 : (RX5, 108, "NeedlePairs$Board", "shortSet", "I") ∈ nestFs := List.mem_of_getElem? (i := 11) rfl
theorem nf_X1_39 : (RX1, 39, "NeedlePairs$Tries", "left", "[I") ∈ nestFs := List.mem_of_getElem? (i := 12) rfl
theorem nf_X5_99 : (RX5, 99, "NeedlePairs$Tries", "left", "[I") ∈ nestFs := List.mem_of_getElem? (i := 13) rfl
theorem nf_X1_42 : (RX1, 42, "NeedlePairs$Tries", "right", "[I") ∈ nestFs := List.mem_of_getElem? (i := 14) rfl
theorem nf_X5_102 : (RX5, 102, "NeedlePairs$Tries", "right", "[I") ∈ nestFs := List.mem_of_getElem? (i := 15) rfl
theorem nf_X1_36 : (RX1, 36, "NeedlePairs$Tries", "total", "I") ∈ nestFs := List.mem_of_getElem? (i := 16) rfl
theorem nf_X5_129 : (RX5, 129, "NeedlePairs$Tries", "total", "I") ∈ nestFs := List.mem_of_getElem? (i := 17) rfl
theorem nf_X5_190 : (RX5, 190, "NeedlePairs$Tries", "ofTrees", "I") ∈ nestFs := List.mem_of_getElem? (i := 18) rfl
theorem nf_X5_142 : (RX5, 142, "NeedlePairs$Needles", "bestOrder", "LNeedlePairs$Order;") ∈ nestFs := List.mem_of_getElem? (i := 19) rfl
theorem nf_X5_154 : (RX5, 154, "NeedlePairs$Needles", "nearestOrder", "LNeedlePairs$Order;") ∈ nestFs := List.mem_of_getElem? (i := 20) rfl
theorem nf_X5_122 : (RX5, 122, "NeedlePairs$Pad", "length", "I") ∈ nestFs := List.mem_of_getElem? (i := 21) rfl
theorem nf_X4_69 : (RX4, 69, "NeedlePairs", "LESSER_NET", "[I") ∈ nestFs := List.mem_of_getElem? (i := 22) rfl
theorem nf_X4_72 : (RX4, 72, "NeedlePairs", "GREATER_NET", "[I") ∈ nestFs := List.mem_of_getElem? (i := 23) rfl
theorem nm_X5_11 : (RX5, 11, yX0_init) ∈ nestMs := List.mem_of_getElem? (i := 0) rfl
theorem nm_X5_18 : (RX5, 18, yX4_init) ∈ nestMs := List.mem_of_getElem? (i := 1) rfl
theorem nm_X5_25 : (RX5, 25, yX1_init) ∈ nestMs := List.mem_of_getElem? (i := 2) rfl
theorem nm_X1_24 : (RX1, 24, yX2_init) ∈ nestMs := List.mem_of_getElem? (i := 3) rfl
theorem nm_X5_32 : (RX5, 32, yX3_init) ∈ nestMs := List.mem_of_getElem? (i := 4) rfl
theorem nm_X5_56 : (RX5, 56, yX0_addPoint) ∈ nestMs := List.mem_of_getElem? (i := 5) rfl
theorem nm_X5_196 : (RX5, 196, yX4_layOut) ∈ nestMs := List.mem_of_getElem? (i := 6) rfl
theorem nm_X4_53 : (RX4, 53, yX0_distance) ∈ nestMs := List.mem_of_getElem? (i := 7) rfl
theorem nm_X4_61 : (RX4, 61, yX5_isIn) ∈ nestMs := List.mem_of_getElem? (i := 8) rfl
theorem nm_X4_81 : (RX4, 81, yX0_isLeftOf) ∈ nestMs := List.mem_of_getElem? (i := 9) rfl
theorem nm_X5_199 : (RX5, 199, yX1_measure) ∈ nestMs := List.mem_of_getElem? (i := 10) rfl
theorem nm_X5_63 : (RX5, 63, yX0_removeLastPoint) ∈ nestMs := List.mem_of_getElem? (i := 11) rfl
theorem nm_X0_34 : (RX0, 34, yX5_withMember) ∈ nestMs := List.mem_of_getElem? (i := 12) rfl
theorem nm_X5_66 : (RX5, 66, yX0_hasPoint) ∈ nestMs := List.mem_of_getElem? (i := 13) rfl
theorem nm_X5_92 : (RX5, 92, yX0_distance) ∈ nestMs := List.mem_of_getElem? (i := 14) rfl
theorem nm_X5_96 : (RX5, 96, yX4_hasTry) ∈ nestMs := List.mem_of_getElem? (i := 15) rfl
theorem nm_X5_105 : (RX5, 105, yX4_isOfNeighbours) ∈ nestMs := List.mem_of_getElem? (i := 16) rfl
theorem nm_X5_111 : (RX5, 111, yX4_conducts) ∈ nestMs := List.mem_of_getElem? (i := 17) rfl
theorem nm_X4_84 : (RX4, 84, yX5_netsOneWith) ∈ nestMs := List.mem_of_getElem? (i := 18) rfl
theorem nm_X5_203 : (RX5, 203, yX4_seenSet) ∈ nestMs := List.mem_of_getElem? (i := 19) rfl
theorem nm_X5_119 : (RX5, 119, yX1_leap) ∈ nestMs := List.mem_of_getElem? (i := 20) rfl
theorem nm_X5_125 : (RX5, 125, yX3_write) ∈ nestMs := List.mem_of_getElem? (i := 21) rfl
theorem nm_X5_132 : (RX5, 132, yX3_tellsOrderOf) ∈ nestMs := List.mem_of_getElem? (i := 22) rfl
theorem nm_X3_23 : (RX3, 23, yX5_isIn) ∈ nestMs := List.mem_of_getElem? (i := 23) rfl
theorem nm_X5_135 : (RX5, 135, yX3_tryAt) ∈ nestMs := List.mem_of_getElem? (i := 24) rfl
theorem nm_X5_139 : (RX5, 139, yX1_planBest) ∈ nestMs := List.mem_of_getElem? (i := 25) rfl
theorem nm_X1_100 : (RX1, 100, yX5_isIn) ∈ nestMs := List.mem_of_getElem? (i := 26) rfl
theorem nm_X1_77 : (RX1, 77, yX2_clear) ∈ nestMs := List.mem_of_getElem? (i := 27) rfl
theorem nm_X1_93 : (RX1, 93, yX2_append) ∈ nestMs := List.mem_of_getElem? (i := 28) rfl
theorem nm_X5_146 : (RX5, 146, yX2_tell) ∈ nestMs := List.mem_of_getElem? (i := 29) rfl
theorem nm_X5_151 : (RX5, 151, yX1_planNearest) ∈ nestMs := List.mem_of_getElem? (i := 30) rfl
theorem nm_X5_186 : (RX5, 186, yX0_copyFrom) ∈ nestMs := List.mem_of_getElem? (i := 31) rfl
theorem nm_X5_193 : (RX5, 193, yX0_countNetsWithPoints) ∈ nestMs := List.mem_of_getElem? (i := 32) rfl
theorem ki_X5_init : Cond.instanceMethod yX5_init ∈ wG ∧ Cond.initialized (yX5_init).cls ∈ wG ∧ Cond.code yX5_init cX5_init 2 none ∈ wG := ⟨im_X5_init, ini_X5, cod_X5_init⟩
theorem ki_X0_init : Cond.instanceMethod yX0_init ∈ wG ∧ Cond.initialized (yX0_init).cls ∈ wG ∧ Cond.code yX0_init cX0_init 1 none ∈ wG := ⟨im_X0_init, ini_X0, cod_X0_init⟩
theorem ki_X4_init : Cond.instanceMethod yX4_init ∈ wG ∧ Cond.initialized (yX4_init).cls ∈ wG ∧ Cond.code yX4_init cX4_init 1 none ∈ wG := ⟨im_X4_init, ini_X4, cod_X4_init⟩
theorem ki_X1_init : Cond.instanceMethod yX1_init ∈ wG ∧ Cond.initialized (yX1_init).cls ∈ wG ∧ Cond.code yX1_init cX1_init 1 none ∈ wG := ⟨im_X1_init, ini_X1, cod_X1_init⟩
theorem ki_X2_init : Cond.instanceMethod yX2_init ∈ wG ∧ Cond.initialized (yX2_init).cls ∈ wG ∧ Cond.code yX2_init cX2_init 1 none ∈ wG := ⟨im_X2_init, ini_X2, cod_X2_init⟩
theorem ki_X3_init : Cond.instanceMethod yX3_init ∈ wG ∧ Cond.initialized (yX3_init).cls ∈ wG ∧ Cond.code yX3_init cX3_init 1 none ∈ wG := ⟨im_X3_init, ini_X3, cod_X3_init⟩
theorem kv_X5_point : Cond.instanceMethod yX5_point ∈ wG ∧ Cond.selects (yX5_point).cls yX5_point yX5_point ∈ wG ∧ Cond.initialized (yX5_point).cls ∈ wG ∧ Cond.code yX5_point cX5_point 5 (some .int) ∈ wG := ⟨im_X5_point, sel_X5_point, ini_X5, cod_X5_point⟩
theorem ks_X5_isNet : Cond.static yX5_isNet ∈ wG ∧ Cond.initialized (yX5_isNet).cls ∈ wG ∧ Cond.code yX5_isNet cX5_isNet 1 (some .boolean) ∈ wG := ⟨stt_X5_isNet, ini_X5, cod_X5_isNet⟩
theorem ks_X5_isOnBoard : Cond.static yX5_isOnBoard ∈ wG ∧ Cond.initialized (yX5_isOnBoard).cls ∈ wG ∧ Cond.code yX5_isOnBoard cX5_isOnBoard 2 (some .boolean) ∈ wG := ⟨stt_X5_isOnBoard, ini_X5, cod_X5_isOnBoard⟩
theorem kv_X0_addPoint : Cond.instanceMethod yX0_addPoint ∈ wG ∧ Cond.selects (yX0_addPoint).cls yX0_addPoint yX0_addPoint ∈ wG ∧ Cond.initialized (yX0_addPoint).cls ∈ wG ∧ Cond.code yX0_addPoint cX0_addPoint 5 (some .int) ∈ wG := ⟨im_X0_addPoint, sel_X0_addPoint, ini_X0, cod_X0_addPoint⟩
theorem kv_X5_layTriesAnew : Cond.instanceMethod yX5_layTriesAnew ∈ wG ∧ Cond.selects (yX5_layTriesAnew).cls yX5_layTriesAnew yX5_layTriesAnew ∈ wG ∧ Cond.initialized (yX5_layTriesAnew).cls ∈ wG ∧ Cond.code yX5_layTriesAnew cX5_layTriesAnew 1 none ∈ wG := ⟨im_X5_layTriesAnew, sel_X5_layTriesAnew, ini_X5, cod_X5_layTriesAnew⟩
theorem kv_X4_layOut : Cond.instanceMethod yX4_layOut ∈ wG ∧ Cond.selects (yX4_layOut).cls yX4_layOut yX4_layOut ∈ wG ∧ Cond.initialized (yX4_layOut).cls ∈ wG ∧ Cond.code yX4_layOut cX4_layOut 2 none ∈ wG := ⟨im_X4_layOut, sel_X4_layOut, ini_X4, cod_X4_layOut⟩
theorem kv_X4_growTrees : Cond.instanceMethod yX4_growTrees ∈ wG ∧ Cond.selects (yX4_growTrees).cls yX4_growTrees yX4_growTrees ∈ wG ∧ Cond.initialized (yX4_growTrees).cls ∈ wG ∧ Cond.code yX4_growTrees cX4_growTrees 4 none ∈ wG := ⟨im_X4_growTrees, sel_X4_growTrees, ini_X4, cod_X4_growTrees⟩
theorem kv_X4_joinNextPair : Cond.instanceMethod yX4_joinNextPair ∈ wG ∧ Cond.selects (yX4_joinNextPair).cls yX4_joinNextPair yX4_joinNextPair ∈ wG ∧ Cond.initialized (yX4_joinNextPair).cls ∈ wG ∧ Cond.code yX4_joinNextPair cX4_joinNextPair 8 (some .boolean) ∈ wG := ⟨im_X4_joinNextPair, sel_X4_joinNextPair, ini_X4, cod_X4_joinNextPair⟩
theorem kv_X0_distance : Cond.instanceMethod yX0_distance ∈ wG ∧ Cond.selects (yX0_distance).cls yX0_distance yX0_distance ∈ wG ∧ Cond.initialized (yX0_distance).cls ∈ wG ∧ Cond.code yX0_distance cX0_distance 5 (some .int) ∈ wG := ⟨im_X0_distance, sel_X0_distance, ini_X0, cod_X0_distance⟩
theorem kv_X4_mergeGroups : Cond.instanceMethod yX4_mergeGroups ∈ wG ∧ Cond.selects (yX4_mergeGroups).cls yX4_mergeGroups yX4_mergeGroups ∈ wG ∧ Cond.initialized (yX4_mergeGroups).cls ∈ wG ∧ Cond.code yX4_mergeGroups cX4_mergeGroups 4 none ∈ wG := ⟨im_X4_mergeGroups, sel_X4_mergeGroups, ini_X4, cod_X4_mergeGroups⟩
theorem kv_X4_addTrees : Cond.instanceMethod yX4_addTrees ∈ wG ∧ Cond.selects (yX4_addTrees).cls yX4_addTrees yX4_addTrees ∈ wG ∧ Cond.initialized (yX4_addTrees).cls ∈ wG ∧ Cond.code yX4_addTrees cX4_addTrees 5 none ∈ wG := ⟨im_X4_addTrees, sel_X4_addTrees, ini_X4, cod_X4_addTrees⟩
theorem ks_X5_isIn : Cond.static yX5_isIn ∈ wG ∧ Cond.initialized (yX5_isIn).cls ∈ wG ∧ Cond.code yX5_isIn cX5_isIn 2 (some .boolean) ∈ wG := ⟨stt_X5_isIn, ini_X5, cod_X5_isIn⟩
theorem kv_X4_addTry : Cond.instanceMethod yX4_addTry ∈ wG ∧ Cond.selects (yX4_addTry).cls yX4_addTry yX4_addTry ∈ wG ∧ Cond.initialized (yX4_addTry).cls ∈ wG ∧ Cond.code yX4_addTry cX4_addTry 5 none ∈ wG := ⟨im_X4_addTry, sel_X4_addTry, ini_X4, cod_X4_addTry⟩
theorem kv_X0_isLeftOf : Cond.instanceMethod yX0_isLeftOf ∈ wG ∧ Cond.selects (yX0_isLeftOf).cls yX0_isLeftOf yX0_isLeftOf ∈ wG ∧ Cond.initialized (yX0_isLeftOf).cls ∈ wG ∧ Cond.code yX0_isLeftOf cX0_isLeftOf 3 (some .boolean) ∈ wG := ⟨im_X0_isLeftOf, sel_X0_isLeftOf, ini_X0, cod_X0_isLeftOf⟩
theorem kv_X4_addNeighbours : Cond.instanceMethod yX4_addNeighbours ∈ wG ∧ Cond.selects (yX4_addNeighbours).cls yX4_addNeighbours yX4_addNeighbours ∈ wG ∧ Cond.initialized (yX4_addNeighbours).cls ∈ wG ∧ Cond.code yX4_addNeighbours cX4_addNeighbours 3 none ∈ wG := ⟨im_X4_addNeighbours, sel_X4_addNeighbours, ini_X4, cod_X4_addNeighbours⟩
theorem kv_X4_addNearestPair : Cond.instanceMethod yX4_addNearestPair ∈ wG ∧ Cond.selects (yX4_addNearestPair).cls yX4_addNearestPair yX4_addNearestPair ∈ wG ∧ Cond.initialized (yX4_addNearestPair).cls ∈ wG ∧ Cond.code yX4_addNearestPair cX4_addNearestPair 10 none ∈ wG := ⟨im_X4_addNearestPair, sel_X4_addNearestPair, ini_X4, cod_X4_addNearestPair⟩
theorem kv_X1_measure : Cond.instanceMethod yX1_measure ∈ wG ∧ Cond.selects (yX1_measure).cls yX1_measure yX1_measure ∈ wG ∧ Cond.initialized (yX1_measure).cls ∈ wG ∧ Cond.code yX1_measure cX1_measure 7 none ∈ wG := ⟨im_X1_measure, sel_X1_measure, ini_X1, cod_X1_measure⟩
theorem ks_X1_longer : Cond.static yX1_longer ∈ wG ∧ Cond.initialized (yX1_longer).cls ∈ wG ∧ Cond.code yX1_longer cX1_longer 2 (some .int) ∈ wG := ⟨stt_X1_longer, ini_X1, cod_X1_longer⟩
theorem ks_Math_abs : Cond.static Lib.Math.abs.name ∈ wG ∧ Cond.initialized "java/lang/Math" ∈ wG ∧ Cond.code Lib.Math.abs.name Lib.Math.abs.code 1 (some .int) ∈ wG := ⟨stt_Math_abs, ini_J9, cod_Math_abs⟩
theorem ks_Math_max : Cond.static Lib.Math.max.name ∈ wG ∧ Cond.initialized "java/lang/Math" ∈ wG ∧ Cond.code Lib.Math.max.name Lib.Math.max.code 2 (some .int) ∈ wG := ⟨stt_Math_max, ini_J9, cod_Math_max⟩
theorem ks_X1_way : Cond.static yX1_way ∈ wG ∧ Cond.initialized (yX1_way).cls ∈ wG ∧ Cond.code yX1_way cX1_way 3 (some .int) ∈ wG := ⟨stt_X1_way, ini_X1, cod_X1_way⟩
theorem kv_X5_pop : Cond.instanceMethod yX5_pop ∈ wG ∧ Cond.selects (yX5_pop).cls yX5_pop yX5_pop ∈ wG ∧ Cond.initialized (yX5_pop).cls ∈ wG ∧ Cond.code yX5_pop cX5_pop 1 (some .int) ∈ wG := ⟨im_X5_pop, sel_X5_pop, ini_X5, cod_X5_pop⟩
theorem kv_X0_removeLastPoint : Cond.instanceMethod yX0_removeLastPoint ∈ wG ∧ Cond.selects (yX0_removeLastPoint).cls yX0_removeLastPoint yX0_removeLastPoint ∈ wG ∧ Cond.initialized (yX0_removeLastPoint).cls ∈ wG ∧ Cond.code yX0_removeLastPoint cX0_removeLastPoint 1 none ∈ wG := ⟨im_X0_removeLastPoint, sel_X0_removeLastPoint, ini_X0, cod_X0_removeLastPoint⟩
theorem ks_X5_withMember : Cond.static yX5_withMember ∈ wG ∧ Cond.initialized (yX5_withMember).cls ∈ wG ∧ Cond.code yX5_withMember cX5_withMember 3 (some .int) ∈ wG := ⟨stt_X5_withMember, ini_X5, cod_X5_withMember⟩
theorem kv_X5_move : Cond.instanceMethod yX5_move ∈ wG ∧ Cond.selects (yX5_move).cls yX5_move yX5_move ∈ wG ∧ Cond.initialized (yX5_move).cls ∈ wG ∧ Cond.code yX5_move cX5_move 5 (some .int) ∈ wG := ⟨im_X5_move, sel_X5_move, ini_X5, cod_X5_move⟩
theorem kv_X0_hasPoint : Cond.instanceMethod yX0_hasPoint ∈ wG ∧ Cond.selects (yX0_hasPoint).cls yX0_hasPoint yX0_hasPoint ∈ wG ∧ Cond.initialized (yX0_hasPoint).cls ∈ wG ∧ Cond.code yX0_hasPoint cX0_hasPoint 2 (some .boolean) ∈ wG := ⟨im_X0_hasPoint, sel_X0_hasPoint, ini_X0, cod_X0_hasPoint⟩
theorem kv_X5_near : Cond.instanceMethod yX5_near ∈ wG ∧ Cond.selects (yX5_near).cls yX5_near yX5_near ∈ wG ∧ Cond.initialized (yX5_near).cls ∈ wG ∧ Cond.code yX5_near cX5_near 3 (some .int) ∈ wG := ⟨im_X5_near, sel_X5_near, ini_X5, cod_X5_near⟩
theorem kv_X5_of : Cond.instanceMethod yX5_of ∈ wG ∧ Cond.selects (yX5_of).cls yX5_of yX5_of ∈ wG ∧ Cond.initialized (yX5_of).cls ∈ wG ∧ Cond.code yX5_of cX5_of 3 (some .int) ∈ wG := ⟨im_X5_of, sel_X5_of, ini_X5, cod_X5_of⟩
theorem ks_X5_asNumber : Cond.static yX5_asNumber ∈ wG ∧ Cond.initialized (yX5_asNumber).cls ∈ wG ∧ Cond.code yX5_asNumber cX5_asNumber 1 (some .int) ∈ wG := ⟨stt_X5_asNumber, ini_X5, cod_X5_asNumber⟩
theorem kv_X5_far : Cond.instanceMethod yX5_far ∈ wG ∧ Cond.selects (yX5_far).cls yX5_far yX5_far ∈ wG ∧ Cond.initialized (yX5_far).cls ∈ wG ∧ Cond.code yX5_far cX5_far 3 (some .int) ∈ wG := ⟨im_X5_far, sel_X5_far, ini_X5, cod_X5_far⟩
theorem kv_X5_attempt : Cond.instanceMethod yX5_attempt ∈ wG ∧ Cond.selects (yX5_attempt).cls yX5_attempt yX5_attempt ∈ wG ∧ Cond.initialized (yX5_attempt).cls ∈ wG ∧ Cond.code yX5_attempt cX5_attempt 3 (some .int) ∈ wG := ⟨im_X5_attempt, sel_X5_attempt, ini_X5, cod_X5_attempt⟩
theorem kv_X4_hasTry : Cond.instanceMethod yX4_hasTry ∈ wG ∧ Cond.selects (yX4_hasTry).cls yX4_hasTry yX4_hasTry ∈ wG ∧ Cond.initialized (yX4_hasTry).cls ∈ wG ∧ Cond.code yX4_hasTry cX4_hasTry 2 (some .boolean) ∈ wG := ⟨im_X4_hasTry, sel_X4_hasTry, ini_X4, cod_X4_hasTry⟩
theorem kv_X4_isOfNeighbours : Cond.instanceMethod yX4_isOfNeighbours ∈ wG ∧ Cond.selects (yX4_isOfNeighbours).cls yX4_isOfNeighbours yX4_isOfNeighbours ∈ wG ∧ Cond.initialized (yX4_isOfNeighbours).cls ∈ wG ∧ Cond.code yX4_isOfNeighbours cX4_isOfNeighbours 2 (some .boolean) ∈ wG := ⟨im_X4_isOfNeighbours, sel_X4_isOfNeighbours, ini_X4, cod_X4_isOfNeighbours⟩
theorem kv_X4_conducts : Cond.instanceMethod yX4_conducts ∈ wG ∧ Cond.selects (yX4_conducts).cls yX4_conducts yX4_conducts ∈ wG ∧ Cond.initialized (yX4_conducts).cls ∈ wG ∧ Cond.code yX4_conducts cX4_conducts 7 (some .boolean) ∈ wG := ⟨im_X4_conducts, sel_X4_conducts, ini_X4, cod_X4_conducts⟩
theorem ks_X5_netsOneWith : Cond.static yX5_netsOneWith ∈ wG ∧ Cond.initialized (yX5_netsOneWith).cls ∈ wG ∧ Cond.code yX5_netsOneWith cX5_netsOneWith 6 (some .int) ∈ wG := ⟨stt_X5_netsOneWith, ini_X5, cod_X5_netsOneWith⟩
theorem kv_X5_seenNow : Cond.instanceMethod yX5_seenNow ∈ wG ∧ Cond.selects (yX5_seenNow).cls yX5_seenNow yX5_seenNow ∈ wG ∧ Cond.initialized (yX5_seenNow).cls ∈ wG ∧ Cond.code yX5_seenNow cX5_seenNow 1 (some .int) ∈ wG := ⟨im_X5_seenNow, sel_X5_seenNow, ini_X5, cod_X5_seenNow⟩
theorem kv_X4_seenSet : Cond.instanceMethod yX4_seenSet ∈ wG ∧ Cond.selects (yX4_seenSet).cls yX4_seenSet yX4_seenSet ∈ wG ∧ Cond.initialized (yX4_seenSet).cls ∈ wG ∧ Cond.code yX4_seenSet cX4_seenSet 6 (some .int) ∈ wG := ⟨im_X4_seenSet, sel_X4_seenSet, ini_X4, cod_X4_seenSet⟩
theorem kv_X5_time : Cond.instanceMethod yX5_time ∈ wG ∧ Cond.selects (yX5_time).cls yX5_time yX5_time ∈ wG ∧ Cond.initialized (yX5_time).cls ∈ wG ∧ Cond.code yX5_time cX5_time 3 (some .int) ∈ wG := ⟨im_X5_time, sel_X5_time, ini_X5, cod_X5_time⟩
theorem kv_X1_leap : Cond.instanceMethod yX1_leap ∈ wG ∧ Cond.selects (yX1_leap).cls yX1_leap yX1_leap ∈ wG ∧ Cond.initialized (yX1_leap).cls ∈ wG ∧ Cond.code yX1_leap cX1_leap 3 (some .int) ∈ wG := ⟨im_X1_leap, sel_X1_leap, ini_X1, cod_X1_leap⟩
theorem kv_X5_say : Cond.instanceMethod yX5_say ∈ wG ∧ Cond.selects (yX5_say).cls yX5_say yX5_say ∈ wG ∧ Cond.initialized (yX5_say).cls ∈ wG ∧ Cond.code yX5_say cX5_say 2 (some .int) ∈ wG := ⟨im_X5_say, sel_X5_say, ini_X5, cod_X5_say⟩
theorem kv_X3_write : Cond.instanceMethod yX3_write ∈ wG ∧ Cond.selects (yX3_write).cls yX3_write yX3_write ∈ wG ∧ Cond.initialized (yX3_write).cls ∈ wG ∧ Cond.code yX3_write cX3_write 2 none ∈ wG := ⟨im_X3_write, sel_X3_write, ini_X3, cod_X3_write⟩
theorem kv_X5_wipe : Cond.instanceMethod yX5_wipe ∈ wG ∧ Cond.selects (yX5_wipe).cls yX5_wipe yX5_wipe ∈ wG ∧ Cond.initialized (yX5_wipe).cls ∈ wG ∧ Cond.code yX5_wipe cX5_wipe 2 (some .int) ∈ wG := ⟨im_X5_wipe, sel_X5_wipe, ini_X5, cod_X5_wipe⟩
theorem kv_X5_told : Cond.instanceMethod yX5_told ∈ wG ∧ Cond.selects (yX5_told).cls yX5_told yX5_told ∈ wG ∧ Cond.initialized (yX5_told).cls ∈ wG ∧ Cond.code yX5_told cX5_told 5 (some .int) ∈ wG := ⟨im_X5_told, sel_X5_told, ini_X5, cod_X5_told⟩
theorem kv_X3_tellsOrderOf : Cond.instanceMethod yX3_tellsOrderOf ∈ wG ∧ Cond.selects (yX3_tellsOrderOf).cls yX3_tellsOrderOf yX3_tellsOrderOf ∈ wG ∧ Cond.initialized (yX3_tellsOrderOf).cls ∈ wG ∧ Cond.code yX3_tellsOrderOf cX3_tellsOrderOf 5 (some .boolean) ∈ wG := ⟨im_X3_tellsOrderOf, sel_X3_tellsOrderOf, ini_X3, cod_X3_tellsOrderOf⟩
theorem kv_X3_tryAt : Cond.instanceMethod yX3_tryAt ∈ wG ∧ Cond.selects (yX3_tryAt).cls yX3_tryAt yX3_tryAt ∈ wG ∧ Cond.initialized (yX3_tryAt).cls ∈ wG ∧ Cond.code yX3_tryAt cX3_tryAt 2 (some .int) ∈ wG := ⟨im_X3_tryAt, sel_X3_tryAt, ini_X3, cod_X3_tryAt⟩
theorem kv_X5_best : Cond.instanceMethod yX5_best ∈ wG ∧ Cond.selects (yX5_best).cls yX5_best yX5_best ∈ wG ∧ Cond.initialized (yX5_best).cls ∈ wG ∧ Cond.code yX5_best cX5_best 2 (some .int) ∈ wG := ⟨im_X5_best, sel_X5_best, ini_X5, cod_X5_best⟩
theorem kv_X1_planBest : Cond.instanceMethod yX1_planBest ∈ wG ∧ Cond.selects (yX1_planBest).cls yX1_planBest yX1_planBest ∈ wG ∧ Cond.initialized (yX1_planBest).cls ∈ wG ∧ Cond.code yX1_planBest cX1_planBest 1 none ∈ wG := ⟨im_X1_planBest, sel_X1_planBest, ini_X1, cod_X1_planBest⟩
theorem kv_X1_weighOnward : Cond.instanceMethod yX1_weighOnward ∈ wG ∧ Cond.selects (yX1_weighOnward).cls yX1_weighOnward yX1_weighOnward ∈ wG ∧ Cond.initialized (yX1_weighOnward).cls ∈ wG ∧ Cond.code yX1_weighOnward cX1_weighOnward 3 none ∈ wG := ⟨im_X1_weighOnward, sel_X1_weighOnward, ini_X1, cod_X1_weighOnward⟩
theorem kv_X1_allTries : Cond.instanceMethod yX1_allTries ∈ wG ∧ Cond.selects (yX1_allTries).cls yX1_allTries yX1_allTries ∈ wG ∧ Cond.initialized (yX1_allTries).cls ∈ wG ∧ Cond.code yX1_allTries cX1_allTries 1 (some .int) ∈ wG := ⟨im_X1_allTries, sel_X1_allTries, ini_X1, cod_X1_allTries⟩
theorem kv_X1_leastThrough : Cond.instanceMethod yX1_leastThrough ∈ wG ∧ Cond.selects (yX1_leastThrough).cls yX1_leastThrough yX1_leastThrough ∈ wG ∧ Cond.initialized (yX1_leastThrough).cls ∈ wG ∧ Cond.code yX1_leastThrough cX1_leastThrough 7 (some .int) ∈ wG := ⟨im_X1_leastThrough, sel_X1_leastThrough, ini_X1, cod_X1_leastThrough⟩
theorem kv_X1_plan : Cond.instanceMethod yX1_plan ∈ wG ∧ Cond.selects (yX1_plan).cls yX1_plan yX1_plan ∈ wG ∧ Cond.initialized (yX1_plan).cls ∈ wG ∧ Cond.code yX1_plan cX1_plan 7 none ∈ wG := ⟨im_X1_plan, sel_X1_plan, ini_X1, cod_X1_plan⟩
theorem kv_X2_clear : Cond.instanceMethod yX2_clear ∈ wG ∧ Cond.selects (yX2_clear).cls yX2_clear yX2_clear ∈ wG ∧ Cond.initialized (yX2_clear).cls ∈ wG ∧ Cond.code yX2_clear cX2_clear 1 none ∈ wG := ⟨im_X2_clear, sel_X2_clear, ini_X2, cod_X2_clear⟩
theorem kv_X1_firstOfBest : Cond.instanceMethod yX1_firstOfBest ∈ wG ∧ Cond.selects (yX1_firstOfBest).cls yX1_firstOfBest yX1_firstOfBest ∈ wG ∧ Cond.initialized (yX1_firstOfBest).cls ∈ wG ∧ Cond.code yX1_firstOfBest cX1_firstOfBest 7 (some .int) ∈ wG := ⟨im_X1_firstOfBest, sel_X1_firstOfBest, ini_X1, cod_X1_firstOfBest⟩
theorem kv_X1_nearestOf : Cond.instanceMethod yX1_nearestOf ∈ wG ∧ Cond.selects (yX1_nearestOf).cls yX1_nearestOf yX1_nearestOf ∈ wG ∧ Cond.initialized (yX1_nearestOf).cls ∈ wG ∧ Cond.code yX1_nearestOf cX1_nearestOf 6 (some .int) ∈ wG := ⟨im_X1_nearestOf, sel_X1_nearestOf, ini_X1, cod_X1_nearestOf⟩
theorem kv_X2_append : Cond.instanceMethod yX2_append ∈ wG ∧ Cond.selects (yX2_append).cls yX2_append yX2_append ∈ wG ∧ Cond.initialized (yX2_append).cls ∈ wG ∧ Cond.code yX2_append cX2_append 3 none ∈ wG := ⟨im_X2_append, sel_X2_append, ini_X2, cod_X2_append⟩
theorem kv_X2_tell : Cond.instanceMethod yX2_tell ∈ wG ∧ Cond.selects (yX2_tell).cls yX2_tell yX2_tell ∈ wG ∧ Cond.initialized (yX2_tell).cls ∈ wG ∧ Cond.code yX2_tell cX2_tell 2 (some .int) ∈ wG := ⟨im_X2_tell, sel_X2_tell, ini_X2, cod_X2_tell⟩
theorem kv_X5_nearest : Cond.instanceMethod yX5_nearest ∈ wG ∧ Cond.selects (yX5_nearest).cls yX5_nearest yX5_nearest ∈ wG ∧ Cond.initialized (yX5_nearest).cls ∈ wG ∧ Cond.code yX5_nearest cX5_nearest 2 (some .int) ∈ wG := ⟨im_X5_nearest, sel_X5_nearest, ini_X5, cod_X5_nearest⟩
theorem kv_X1_planNearest : Cond.instanceMethod yX1_planNearest ∈ wG ∧ Cond.selects (yX1_planNearest).cls yX1_planNearest yX1_planNearest ∈ wG ∧ Cond.initialized (yX1_planNearest).cls ∈ wG ∧ Cond.code yX1_planNearest cX1_planNearest 1 none ∈ wG := ⟨im_X1_planNearest, sel_X1_planNearest, ini_X1, cod_X1_planNearest⟩
theorem kv_X5_loosen : Cond.instanceMethod yX5_loosen ∈ wG ∧ Cond.selects (yX5_loosen).cls yX5_loosen yX5_loosen ∈ wG ∧ Cond.initialized (yX5_loosen).cls ∈ wG ∧ Cond.code yX5_loosen cX5_loosen 3 (some .int) ∈ wG := ⟨im_X5_loosen, sel_X5_loosen, ini_X5, cod_X5_loosen⟩
theorem ks_X5_isSwitch : Cond.static yX5_isSwitch ∈ wG ∧ Cond.initialized (yX5_isSwitch).cls ∈ wG ∧ Cond.code yX5_isSwitch cX5_isSwitch 1 (some .boolean) ∈ wG := ⟨stt_X5_isSwitch, ini_X5, cod_X5_isSwitch⟩
theorem ks_J6_bitCount_0f7a4 : Cond.static yJ6_bitCount_0f7a4 ∈ wG ∧ Cond.initialized (yJ6_bitCount_0f7a4).cls ∈ wG ∧ Cond.code yJ6_bitCount_0f7a4 cJ6_bitCount_0f7a4 1 (some .int) ∈ wG := ⟨stt_J6_bitCount_0f7a4, ini_J6, cod_J6_bitCount_0f7a4⟩
theorem kv_X5_join : Cond.instanceMethod yX5_join ∈ wG ∧ Cond.selects (yX5_join).cls yX5_join yX5_join ∈ wG ∧ Cond.initialized (yX5_join).cls ∈ wG ∧ Cond.code yX5_join cX5_join 4 (some .int) ∈ wG := ⟨im_X5_join, sel_X5_join, ini_X5, cod_X5_join⟩
theorem ks_X5_pairOfNets : Cond.static yX5_pairOfNets ∈ wG ∧ Cond.initialized (yX5_pairOfNets).cls ∈ wG ∧ Cond.code yX5_pairOfNets cX5_pairOfNets 6 (some .int) ∈ wG := ⟨stt_X5_pairOfNets, ini_X5, cod_X5_pairOfNets⟩
theorem ks_Math_min : Cond.static Lib.Math.min.name ∈ wG ∧ Cond.initialized "java/lang/Math" ∈ wG ∧ Cond.code Lib.Math.min.name Lib.Math.min.code 2 (some .int) ∈ wG := ⟨stt_Math_min, ini_J9, cod_Math_min⟩
theorem kv_X5_sees : Cond.instanceMethod yX5_sees ∈ wG ∧ Cond.selects (yX5_sees).cls yX5_sees yX5_sees ∈ wG ∧ Cond.initialized (yX5_sees).cls ∈ wG ∧ Cond.code yX5_sees cX5_sees 1 (some .int) ∈ wG := ⟨im_X5_sees, sel_X5_sees, ini_X5, cod_X5_sees⟩
theorem kv_X5_fits : Cond.instanceMethod yX5_fits ∈ wG ∧ Cond.selects (yX5_fits).cls yX5_fits yX5_fits ∈ wG ∧ Cond.initialized (yX5_fits).cls ∈ wG ∧ Cond.code yX5_fits cX5_fits 2 (some .int) ∈ wG := ⟨im_X5_fits, sel_X5_fits, ini_X5, cod_X5_fits⟩
theorem kv_X5_flawSeenAs : Cond.instanceMethod yX5_flawSeenAs ∈ wG ∧ Cond.selects (yX5_flawSeenAs).cls yX5_flawSeenAs yX5_flawSeenAs ∈ wG ∧ Cond.initialized (yX5_flawSeenAs).cls ∈ wG ∧ Cond.code yX5_flawSeenAs cX5_flawSeenAs 5 (some .int) ∈ wG := ⟨im_X5_flawSeenAs, sel_X5_flawSeenAs, ini_X5, cod_X5_flawSeenAs⟩
theorem kv_X5_isFlaw : Cond.instanceMethod yX5_isFlaw ∈ wG ∧ Cond.selects (yX5_isFlaw).cls yX5_isFlaw yX5_isFlaw ∈ wG ∧ Cond.initialized (yX5_isFlaw).cls ∈ wG ∧ Cond.code yX5_isFlaw cX5_isFlaw 2 (some .boolean) ∈ wG := ⟨im_X5_isFlaw, sel_X5_isFlaw, ini_X5, cod_X5_isFlaw⟩
theorem kv_X5_seenOfFlaw : Cond.instanceMethod yX5_seenOfFlaw ∈ wG ∧ Cond.selects (yX5_seenOfFlaw).cls yX5_seenOfFlaw yX5_seenOfFlaw ∈ wG ∧ Cond.initialized (yX5_seenOfFlaw).cls ∈ wG ∧ Cond.code yX5_seenOfFlaw cX5_seenOfFlaw 2 (some .int) ∈ wG := ⟨im_X5_seenOfFlaw, sel_X5_seenOfFlaw, ini_X5, cod_X5_seenOfFlaw⟩
theorem kv_X5_hidden : Cond.instanceMethod yX5_hidden ∈ wG ∧ Cond.selects (yX5_hidden).cls yX5_hidden yX5_hidden ∈ wG ∧ Cond.initialized (yX5_hidden).cls ∈ wG ∧ Cond.code yX5_hidden cX5_hidden 2 (some .int) ∈ wG := ⟨im_X5_hidden, sel_X5_hidden, ini_X5, cod_X5_hidden⟩
theorem kv_X5_halves : Cond.instanceMethod yX5_halves ∈ wG ∧ Cond.selects (yX5_halves).cls yX5_halves yX5_halves ∈ wG ∧ Cond.initialized (yX5_halves).cls ∈ wG ∧ Cond.code yX5_halves cX5_halves 8 (some .int) ∈ wG := ⟨im_X5_halves, sel_X5_halves, ini_X5, cod_X5_halves⟩
theorem ks_X5_leastMembers : Cond.static yX5_leastMembers ∈ wG ∧ Cond.initialized (yX5_leastMembers).cls ∈ wG ∧ Cond.code yX5_leastMembers cX5_leastMembers 4 (some .int) ∈ wG := ⟨stt_X5_leastMembers, ini_X5, cod_X5_leastMembers⟩
theorem ks_X5_leastNet : Cond.static yX5_leastNet ∈ wG ∧ Cond.initialized (yX5_leastNet).cls ∈ wG ∧ Cond.code yX5_leastNet cX5_leastNet 2 (some .int) ∈ wG := ⟨stt_X5_leastNet, ini_X5, cod_X5_leastNet⟩
theorem kv_X5_image : Cond.instanceMethod yX5_image ∈ wG ∧ Cond.selects (yX5_image).cls yX5_image yX5_image ∈ wG ∧ Cond.initialized (yX5_image).cls ∈ wG ∧ Cond.code yX5_image cX5_image 2 (some .int) ∈ wG := ⟨im_X5_image, sel_X5_image, ini_X5, cod_X5_image⟩
theorem ks_X5_isImage : Cond.static yX5_isImage ∈ wG ∧ Cond.initialized (yX5_isImage).cls ∈ wG ∧ Cond.code yX5_isImage cX5_isImage 1 (some .boolean) ∈ wG := ⟨stt_X5_isImage, ini_X5, cod_X5_isImage⟩
theorem kv_X0_copyFrom : Cond.instanceMethod yX0_copyFrom ∈ wG ∧ Cond.selects (yX0_copyFrom).cls yX0_copyFrom yX0_copyFrom ∈ wG ∧ Cond.initialized (yX0_copyFrom).cls ∈ wG ∧ Cond.code yX0_copyFrom cX0_copyFrom 3 none ∈ wG := ⟨im_X0_copyFrom, sel_X0_copyFrom, ini_X0, cod_X0_copyFrom⟩
theorem kv_X5_restore : Cond.instanceMethod yX5_restore ∈ wG ∧ Cond.selects (yX5_restore).cls yX5_restore yX5_restore ∈ wG ∧ Cond.initialized (yX5_restore).cls ∈ wG ∧ Cond.code yX5_restore cX5_restore 2 (some .int) ∈ wG := ⟨im_X5_restore, sel_X5_restore, ini_X5, cod_X5_restore⟩
theorem kv_X5_count : Cond.instanceMethod yX5_count ∈ wG ∧ Cond.selects (yX5_count).cls yX5_count yX5_count ∈ wG ∧ Cond.initialized (yX5_count).cls ∈ wG ∧ Cond.code yX5_count cX5_count 2 (some .int) ∈ wG := ⟨im_X5_count, sel_X5_count, ini_X5, cod_X5_count⟩
theorem kv_X0_countNetsWithPoints : Cond.instanceMethod yX0_countNetsWithPoints ∈ wG ∧ Cond.selects (yX0_countNetsWithPoints).cls yX0_countNetsWithPoints yX0_countNetsWithPoints ∈ wG ∧ Cond.initialized (yX0_countNetsWithPoints).cls ∈ wG ∧ Cond.code yX0_countNetsWithPoints cX0_countNetsWithPoints 3 (some .int) ∈ wG := ⟨im_X0_countNetsWithPoints, sel_X0_countNetsWithPoints, ini_X0, cod_X0_countNetsWithPoints⟩
theorem ki_X6_init : Cond.instanceMethod yX6_init ∈ wG ∧ Cond.initialized (yX6_init).cls ∈ wG ∧ Cond.code yX6_init cX6_init 1 none ∈ wG := ⟨im_X6_init, ini_X6, cod_X6_init⟩
theorem kv_X6_point : Cond.instanceMethod yX6_point ∈ wG ∧ Cond.selects (yX6_point).cls yX6_point yX6_point ∈ wG ∧ Cond.initialized (yX6_point).cls ∈ wG ∧ Cond.code yX6_point cX6_point 5 (some .int) ∈ wG := ⟨im_X6_point, sel_X6_point, ini_X6, cod_X6_point⟩
theorem ks_X6_isNet : Cond.static yX6_isNet ∈ wG ∧ Cond.initialized (yX6_isNet).cls ∈ wG ∧ Cond.code yX6_isNet cX6_isNet 1 (some .boolean) ∈ wG := ⟨stt_X6_isNet, ini_X6, cod_X6_isNet⟩
theorem ks_X6_in : Cond.static yX6_in ∈ wG ∧ Cond.initialized (yX6_in).cls ∈ wG ∧ Cond.code yX6_in cX6_in 3 (some .boolean) ∈ wG := ⟨stt_X6_in, ini_X6, cod_X6_in⟩
theorem ks_X6_isHere : Cond.static yX6_isHere ∈ wG ∧ Cond.initialized (yX6_isHere).cls ∈ wG ∧ Cond.code yX6_isHere cX6_isHere 2 (some .boolean) ∈ wG := ⟨stt_X6_isHere, ini_X6, cod_X6_isHere⟩
theorem kv_X6_pop : Cond.instanceMethod yX6_pop ∈ wG ∧ Cond.selects (yX6_pop).cls yX6_pop yX6_pop ∈ wG ∧ Cond.initialized (yX6_pop).cls ∈ wG ∧ Cond.code yX6_pop cX6_pop 1 (some .int) ∈ wG := ⟨im_X6_pop, sel_X6_pop, ini_X6, cod_X6_pop⟩
theorem kv_X6_move : Cond.instanceMethod yX6_move ∈ wG ∧ Cond.selects (yX6_move).cls yX6_move yX6_move ∈ wG ∧ Cond.initialized (yX6_move).cls ∈ wG ∧ Cond.code yX6_move cX6_move 5 (some .int) ∈ wG := ⟨im_X6_move, sel_X6_move, ini_X6, cod_X6_move⟩
theorem kv_X6_isPoint : Cond.instanceMethod yX6_isPoint ∈ wG ∧ Cond.selects (yX6_isPoint).cls yX6_isPoint yX6_isPoint ∈ wG ∧ Cond.initialized (yX6_isPoint).cls ∈ wG ∧ Cond.code yX6_isPoint cX6_isPoint 2 (some .boolean) ∈ wG := ⟨im_X6_isPoint, sel_X6_isPoint, ini_X6, cod_X6_isPoint⟩
theorem kv_X6_near : Cond.instanceMethod yX6_near ∈ wG ∧ Cond.selects (yX6_near).cls yX6_near yX6_near ∈ wG ∧ Cond.initialized (yX6_near).cls ∈ wG ∧ Cond.code yX6_near cX6_near 3 (some .int) ∈ wG := ⟨im_X6_near, sel_X6_near, ini_X6, cod_X6_near⟩
theorem kv_X6_of : Cond.instanceMethod yX6_of ∈ wG ∧ Cond.selects (yX6_of).cls yX6_of yX6_of ∈ wG ∧ Cond.initialized (yX6_of).cls ∈ wG ∧ Cond.code yX6_of cX6_of 3 (some .int) ∈ wG := ⟨im_X6_of, sel_X6_of, ini_X6, cod_X6_of⟩
theorem kv_X6_far : Cond.instanceMethod yX6_far ∈ wG ∧ Cond.selects (yX6_far).cls yX6_far yX6_far ∈ wG ∧ Cond.initialized (yX6_far).cls ∈ wG ∧ Cond.code yX6_far cX6_far 3 (some .int) ∈ wG := ⟨im_X6_far, sel_X6_far, ini_X6, cod_X6_far⟩
theorem kv_X6_farOf : Cond.instanceMethod yX6_farOf ∈ wG ∧ Cond.selects (yX6_farOf).cls yX6_farOf yX6_farOf ∈ wG ∧ Cond.initialized (yX6_farOf).cls ∈ wG ∧ Cond.code yX6_farOf cX6_farOf 5 (some .int) ∈ wG := ⟨im_X6_farOf, sel_X6_farOf, ini_X6, cod_X6_farOf⟩
theorem kv_X6_attempt : Cond.instanceMethod yX6_attempt ∈ wG ∧ Cond.selects (yX6_attempt).cls yX6_attempt yX6_attempt ∈ wG ∧ Cond.initialized (yX6_attempt).cls ∈ wG ∧ Cond.code yX6_attempt cX6_attempt 4 (some .int) ∈ wG := ⟨im_X6_attempt, sel_X6_attempt, ini_X6, cod_X6_attempt⟩
theorem kv_X6_layTries : Cond.instanceMethod yX6_layTries ∈ wG ∧ Cond.selects (yX6_layTries).cls yX6_layTries yX6_layTries ∈ wG ∧ Cond.initialized (yX6_layTries).cls ∈ wG ∧ Cond.code yX6_layTries cX6_layTries 3 none ∈ wG := ⟨im_X6_layTries, sel_X6_layTries, ini_X6, cod_X6_layTries⟩
theorem kv_X6_layTree : Cond.instanceMethod yX6_layTree ∈ wG ∧ Cond.selects (yX6_layTree).cls yX6_layTree yX6_layTree ∈ wG ∧ Cond.initialized (yX6_layTree).cls ∈ wG ∧ Cond.code yX6_layTree cX6_layTree 4 none ∈ wG := ⟨im_X6_layTree, sel_X6_layTree, ini_X6, cod_X6_layTree⟩
theorem kv_X6_nextPair : Cond.instanceMethod yX6_nextPair ∈ wG ∧ Cond.selects (yX6_nextPair).cls yX6_nextPair yX6_nextPair ∈ wG ∧ Cond.initialized (yX6_nextPair).cls ∈ wG ∧ Cond.code yX6_nextPair cX6_nextPair 5 (some .int) ∈ wG := ⟨im_X6_nextPair, sel_X6_nextPair, ini_X6, cod_X6_nextPair⟩
theorem kv_X6_canJoin : Cond.instanceMethod yX6_canJoin ∈ wG ∧ Cond.selects (yX6_canJoin).cls yX6_canJoin yX6_canJoin ∈ wG ∧ Cond.initialized (yX6_canJoin).cls ∈ wG ∧ Cond.code yX6_canJoin cX6_canJoin 4 (some .boolean) ∈ wG := ⟨im_X6_canJoin, sel_X6_canJoin, ini_X6, cod_X6_canJoin⟩
theorem kv_X6_join : Cond.instanceMethod yX6_join ∈ wG ∧ Cond.selects (yX6_join).cls yX6_join yX6_join ∈ wG ∧ Cond.initialized (yX6_join).cls ∈ wG ∧ Cond.code yX6_join cX6_join 5 none ∈ wG := ⟨im_X6_join, sel_X6_join, ini_X6, cod_X6_join⟩
theorem kv_X6_addTry : Cond.instanceMethod yX6_addTry ∈ wG ∧ Cond.selects (yX6_addTry).cls yX6_addTry yX6_addTry ∈ wG ∧ Cond.initialized (yX6_addTry).cls ∈ wG ∧ Cond.code yX6_addTry cX6_addTry 5 none ∈ wG := ⟨im_X6_addTry, sel_X6_addTry, ini_X6, cod_X6_addTry⟩
theorem kv_X6_layNeighbours : Cond.instanceMethod yX6_layNeighbours ∈ wG ∧ Cond.selects (yX6_layNeighbours).cls yX6_layNeighbours yX6_layNeighbours ∈ wG ∧ Cond.initialized (yX6_layNeighbours).cls ∈ wG ∧ Cond.code yX6_layNeighbours cX6_layNeighbours 7 none ∈ wG := ⟨im_X6_layNeighbours, sel_X6_layNeighbours, ini_X6, cod_X6_layNeighbours⟩
theorem kv_X6_isTry : Cond.instanceMethod yX6_isTry ∈ wG ∧ Cond.selects (yX6_isTry).cls yX6_isTry yX6_isTry ∈ wG ∧ Cond.initialized (yX6_isTry).cls ∈ wG ∧ Cond.code yX6_isTry cX6_isTry 2 (some .boolean) ∈ wG := ⟨im_X6_isTry, sel_X6_isTry, ini_X6, cod_X6_isTry⟩
theorem kv_X6_seen : Cond.instanceMethod yX6_seen ∈ wG ∧ Cond.selects (yX6_seen).cls yX6_seen yX6_seen ∈ wG ∧ Cond.initialized (yX6_seen).cls ∈ wG ∧ Cond.code yX6_seen cX6_seen 3 (some .int) ∈ wG := ⟨im_X6_seen, sel_X6_seen, ini_X6, cod_X6_seen⟩
theorem kv_X6_layOnes : Cond.instanceMethod yX6_layOnes ∈ wG ∧ Cond.selects (yX6_layOnes).cls yX6_layOnes yX6_layOnes ∈ wG ∧ Cond.initialized (yX6_layOnes).cls ∈ wG ∧ Cond.code yX6_layOnes cX6_layOnes 3 none ∈ wG := ⟨im_X6_layOnes, sel_X6_layOnes, ini_X6, cod_X6_layOnes⟩
theorem ks_X6_pairOf : Cond.static yX6_pairOf ∈ wG ∧ Cond.initialized (yX6_pairOf).cls ∈ wG ∧ Cond.code yX6_pairOf cX6_pairOf 4 (some .int) ∈ wG := ⟨stt_X6_pairOf, ini_X6, cod_X6_pairOf⟩
theorem kv_X6_conducts : Cond.instanceMethod yX6_conducts ∈ wG ∧ Cond.selects (yX6_conducts).cls yX6_conducts yX6_conducts ∈ wG ∧ Cond.initialized (yX6_conducts).cls ∈ wG ∧ Cond.code yX6_conducts cX6_conducts 4 (some .boolean) ∈ wG := ⟨im_X6_conducts, sel_X6_conducts, ini_X6, cod_X6_conducts⟩
theorem kv_X6_time : Cond.instanceMethod yX6_time ∈ wG ∧ Cond.selects (yX6_time).cls yX6_time yX6_time ∈ wG ∧ Cond.initialized (yX6_time).cls ∈ wG ∧ Cond.code yX6_time cX6_time 3 (some .int) ∈ wG := ⟨im_X6_time, sel_X6_time, ini_X6, cod_X6_time⟩
theorem kv_X6_timeOf : Cond.instanceMethod yX6_timeOf ∈ wG ∧ Cond.selects (yX6_timeOf).cls yX6_timeOf yX6_timeOf ∈ wG ∧ Cond.initialized (yX6_timeOf).cls ∈ wG ∧ Cond.code yX6_timeOf cX6_timeOf 9 (some .int) ∈ wG := ⟨im_X6_timeOf, sel_X6_timeOf, ini_X6, cod_X6_timeOf⟩
theorem ks_X6_size : Cond.static yX6_size ∈ wG ∧ Cond.initialized (yX6_size).cls ∈ wG ∧ Cond.code yX6_size cX6_size 1 (some .int) ∈ wG := ⟨stt_X6_size, ini_X6, cod_X6_size⟩
theorem ks_X6_greater : Cond.static yX6_greater ∈ wG ∧ Cond.initialized (yX6_greater).cls ∈ wG ∧ Cond.code yX6_greater cX6_greater 2 (some .int) ∈ wG := ⟨stt_X6_greater, ini_X6, cod_X6_greater⟩
theorem kv_X6_say : Cond.instanceMethod yX6_say ∈ wG ∧ Cond.selects (yX6_say).cls yX6_say yX6_say ∈ wG ∧ Cond.initialized (yX6_say).cls ∈ wG ∧ Cond.code yX6_say cX6_say 2 (some .int) ∈ wG := ⟨im_X6_say, sel_X6_say, ini_X6, cod_X6_say⟩
theorem kv_X6_wipe : Cond.instanceMethod yX6_wipe ∈ wG ∧ Cond.selects (yX6_wipe).cls yX6_wipe yX6_wipe ∈ wG ∧ Cond.initialized (yX6_wipe).cls ∈ wG ∧ Cond.code yX6_wipe cX6_wipe 2 (some .int) ∈ wG := ⟨im_X6_wipe, sel_X6_wipe, ini_X6, cod_X6_wipe⟩
theorem kv_X6_told : Cond.instanceMethod yX6_told ∈ wG ∧ Cond.selects (yX6_told).cls yX6_told yX6_told ∈ wG ∧ Cond.initialized (yX6_told).cls ∈ wG ∧ Cond.code yX6_told cX6_told 3 (some .int) ∈ wG := ⟨im_X6_told, sel_X6_told, ini_X6, cod_X6_told⟩
theorem kv_X6_timeOfOrder : Cond.instanceMethod yX6_timeOfOrder ∈ wG ∧ Cond.selects (yX6_timeOfOrder).cls yX6_timeOfOrder yX6_timeOfOrder ∈ wG ∧ Cond.initialized (yX6_timeOfOrder).cls ∈ wG ∧ Cond.code yX6_timeOfOrder cX6_timeOfOrder 3 (some .int) ∈ wG := ⟨im_X6_timeOfOrder, sel_X6_timeOfOrder, ini_X6, cod_X6_timeOfOrder⟩
theorem kv_X6_best : Cond.instanceMethod yX6_best ∈ wG ∧ Cond.selects (yX6_best).cls yX6_best yX6_best ∈ wG ∧ Cond.initialized (yX6_best).cls ∈ wG ∧ Cond.code yX6_best cX6_best 2 (some .int) ∈ wG := ⟨im_X6_best, sel_X6_best, ini_X6, cod_X6_best⟩
theorem kv_X6_layBest : Cond.instanceMethod yX6_layBest ∈ wG ∧ Cond.selects (yX6_layBest).cls yX6_layBest yX6_layBest ∈ wG ∧ Cond.initialized (yX6_layBest).cls ∈ wG ∧ Cond.code yX6_layBest cX6_layBest 7 none ∈ wG := ⟨im_X6_layBest, sel_X6_layBest, ini_X6, cod_X6_layBest⟩
theorem kv_X6_layRest : Cond.instanceMethod yX6_layRest ∈ wG ∧ Cond.selects (yX6_layRest).cls yX6_layRest yX6_layRest ∈ wG ∧ Cond.initialized (yX6_layRest).cls ∈ wG ∧ Cond.code yX6_layRest cX6_layRest 4 none ∈ wG := ⟨im_X6_layRest, sel_X6_layRest, ini_X6, cod_X6_layRest⟩
theorem kv_X6_restFrom : Cond.instanceMethod yX6_restFrom ∈ wG ∧ Cond.selects (yX6_restFrom).cls yX6_restFrom yX6_restFrom ∈ wG ∧ Cond.initialized (yX6_restFrom).cls ∈ wG ∧ Cond.code yX6_restFrom cX6_restFrom 6 (some .int) ∈ wG := ⟨im_X6_restFrom, sel_X6_restFrom, ini_X6, cod_X6_restFrom⟩
theorem kv_X6_orderAt : Cond.instanceMethod yX6_orderAt ∈ wG ∧ Cond.selects (yX6_orderAt).cls yX6_orderAt yX6_orderAt ∈ wG ∧ Cond.initialized (yX6_orderAt).cls ∈ wG ∧ Cond.code yX6_orderAt cX6_orderAt 2 (some .int) ∈ wG := ⟨im_X6_orderAt, sel_X6_orderAt, ini_X6, cod_X6_orderAt⟩
theorem kv_X6_nearest : Cond.instanceMethod yX6_nearest ∈ wG ∧ Cond.selects (yX6_nearest).cls yX6_nearest yX6_nearest ∈ wG ∧ Cond.initialized (yX6_nearest).cls ∈ wG ∧ Cond.code yX6_nearest cX6_nearest 8 (some .int) ∈ wG := ⟨im_X6_nearest, sel_X6_nearest, ini_X6, cod_X6_nearest⟩
theorem kv_X6_loosen : Cond.instanceMethod yX6_loosen ∈ wG ∧ Cond.selects (yX6_loosen).cls yX6_loosen yX6_loosen ∈ wG ∧ Cond.initialized (yX6_loosen).cls ∈ wG ∧ Cond.code yX6_loosen cX6_loosen 3 (some .int) ∈ wG := ⟨im_X6_loosen, sel_X6_loosen, ini_X6, cod_X6_loosen⟩
theorem kv_X6_looseMany : Cond.instanceMethod yX6_looseMany ∈ wG ∧ Cond.selects (yX6_looseMany).cls yX6_looseMany yX6_looseMany ∈ wG ∧ Cond.initialized (yX6_looseMany).cls ∈ wG ∧ Cond.code yX6_looseMany cX6_looseMany 3 (some .int) ∈ wG := ⟨im_X6_looseMany, sel_X6_looseMany, ini_X6, cod_X6_looseMany⟩
theorem kv_X6_join_ : Cond.instanceMethod yX6_join_ ∈ wG ∧ Cond.selects (yX6_join_).cls yX6_join_ yX6_join_ ∈ wG ∧ Cond.initialized (yX6_join_).cls ∈ wG ∧ Cond.code yX6_join_ cX6_join_ 4 (some .int) ∈ wG := ⟨im_X6_join_, sel_X6_join_, ini_X6, cod_X6_join_⟩
theorem kv_X6_shortMany : Cond.instanceMethod yX6_shortMany ∈ wG ∧ Cond.selects (yX6_shortMany).cls yX6_shortMany yX6_shortMany ∈ wG ∧ Cond.initialized (yX6_shortMany).cls ∈ wG ∧ Cond.code yX6_shortMany cX6_shortMany 3 (some .int) ∈ wG := ⟨im_X6_shortMany, sel_X6_shortMany, ini_X6, cod_X6_shortMany⟩
theorem kv_X6_sees : Cond.instanceMethod yX6_sees ∈ wG ∧ Cond.selects (yX6_sees).cls yX6_sees yX6_sees ∈ wG ∧ Cond.initialized (yX6_sees).cls ∈ wG ∧ Cond.code yX6_sees cX6_sees 1 (some .int) ∈ wG := ⟨im_X6_sees, sel_X6_sees, ini_X6, cod_X6_sees⟩
theorem kv_X6_fits : Cond.instanceMethod yX6_fits ∈ wG ∧ Cond.selects (yX6_fits).cls yX6_fits yX6_fits ∈ wG ∧ Cond.initialized (yX6_fits).cls ∈ wG ∧ Cond.code yX6_fits cX6_fits 5 (some .int) ∈ wG := ⟨im_X6_fits, sel_X6_fits, ini_X6, cod_X6_fits⟩
theorem kv_X6_isSingle : Cond.instanceMethod yX6_isSingle ∈ wG ∧ Cond.selects (yX6_isSingle).cls yX6_isSingle yX6_isSingle ∈ wG ∧ Cond.initialized (yX6_isSingle).cls ∈ wG ∧ Cond.code yX6_isSingle cX6_isSingle 2 (some .boolean) ∈ wG := ⟨im_X6_isSingle, sel_X6_isSingle, ini_X6, cod_X6_isSingle⟩
theorem kv_X6_seenBy : Cond.instanceMethod yX6_seenBy ∈ wG ∧ Cond.selects (yX6_seenBy).cls yX6_seenBy yX6_seenBy ∈ wG ∧ Cond.initialized (yX6_seenBy).cls ∈ wG ∧ Cond.code yX6_seenBy cX6_seenBy 4 (some .int) ∈ wG := ⟨im_X6_seenBy, sel_X6_seenBy, ini_X6, cod_X6_seenBy⟩
theorem kv_X6_hidden : Cond.instanceMethod yX6_hidden ∈ wG ∧ Cond.selects (yX6_hidden).cls yX6_hidden yX6_hidden ∈ wG ∧ Cond.initialized (yX6_hidden).cls ∈ wG ∧ Cond.code yX6_hidden cX6_hidden 5 (some .int) ∈ wG := ⟨im_X6_hidden, sel_X6_hidden, ini_X6, cod_X6_hidden⟩
theorem kv_X6_halves : Cond.instanceMethod yX6_halves ∈ wG ∧ Cond.selects (yX6_halves).cls yX6_halves yX6_halves ∈ wG ∧ Cond.initialized (yX6_halves).cls ∈ wG ∧ Cond.code yX6_halves cX6_halves 7 (some .int) ∈ wG := ⟨im_X6_halves, sel_X6_halves, ini_X6, cod_X6_halves⟩
theorem kv_X6_isAnyOne : Cond.instanceMethod yX6_isAnyOne ∈ wG ∧ Cond.selects (yX6_isAnyOne).cls yX6_isAnyOne yX6_isAnyOne ∈ wG ∧ Cond.initialized (yX6_isAnyOne).cls ∈ wG ∧ Cond.code yX6_isAnyOne cX6_isAnyOne 6 (some .boolean) ∈ wG := ⟨im_X6_isAnyOne, sel_X6_isAnyOne, ini_X6, cod_X6_isAnyOne⟩
theorem kv_X6_image : Cond.instanceMethod yX6_image ∈ wG ∧ Cond.selects (yX6_image).cls yX6_image yX6_image ∈ wG ∧ Cond.initialized (yX6_image).cls ∈ wG ∧ Cond.code yX6_image cX6_image 3 (some .int) ∈ wG := ⟨im_X6_image, sel_X6_image, ini_X6, cod_X6_image⟩
theorem kv_X6_restore : Cond.instanceMethod yX6_restore ∈ wG ∧ Cond.selects (yX6_restore).cls yX6_restore yX6_restore ∈ wG ∧ Cond.initialized (yX6_restore).cls ∈ wG ∧ Cond.code yX6_restore cX6_restore 3 (some .int) ∈ wG := ⟨im_X6_restore, sel_X6_restore, ini_X6, cod_X6_restore⟩
theorem kv_X6_count : Cond.instanceMethod yX6_count ∈ wG ∧ Cond.selects (yX6_count).cls yX6_count yX6_count ∈ wG ∧ Cond.initialized (yX6_count).cls ∈ wG ∧ Cond.code yX6_count cX6_count 2 (some .int) ∈ wG := ⟨im_X6_count, sel_X6_count, ini_X6, cod_X6_count⟩
theorem kv_X6_apartMany : Cond.instanceMethod yX6_apartMany ∈ wG ∧ Cond.selects (yX6_apartMany).cls yX6_apartMany yX6_apartMany ∈ wG ∧ Cond.initialized (yX6_apartMany).cls ∈ wG ∧ Cond.code yX6_apartMany cX6_apartMany 3 (some .int) ∈ wG := ⟨im_X6_apartMany, sel_X6_apartMany, ini_X6, cod_X6_apartMany⟩
theorem kv_X6_netsUsed : Cond.instanceMethod yX6_netsUsed ∈ wG ∧ Cond.selects (yX6_netsUsed).cls yX6_netsUsed yX6_netsUsed ∈ wG ∧ Cond.initialized (yX6_netsUsed).cls ∈ wG ∧ Cond.code yX6_netsUsed cX6_netsUsed 3 (some .int) ∈ wG := ⟨im_X6_netsUsed, sel_X6_netsUsed, ini_X6, cod_X6_netsUsed⟩
end
section
theorem dX0_init_0 : decode cX0_init 0 = .ok (.aload_n 0, 1) := by decide +kernel
theorem dX0_init_1 : decode cX0_init 1 = .ok (.invokespecial 3, 3) := by decide +kernel
theorem dX0_init_4 : decode cX0_init 4 = .ok (.aload_n 0, 1) := by decide +kernel
theorem dX0_init_5 : decode cX0_init 5 = .ok (.bipush 8, 2) := by decide +kernel
theorem dX0_init_7 : decode cX0_init 7 = .ok (.newarray .int, 2) := by decide +kernel
theorem dX0_init_9 : decode cX0_init 9 = .ok (.putfield 9, 3) := by decide +kernel
theorem dX0_init_12 : decode cX0_init 12 = .ok (.aload_n 0, 1) := by decide +kernel
theorem dX0_init_13 : decode cX0_init 13 = .ok (.bipush 8, 2) := by decide +kernel
theorem dX0_init_15 : decode cX0_init 15 = .ok (.newarray .int, 2) := by decide +kernel
theorem dX0_init_17 : decode cX0_init 17 = .ok (.putfield 15, 3) := by decide +kernel
theorem dX0_init_20 : decode cX0_init 20 = .ok (.aload_n 0, 1) := by decide +kernel
theorem dX0_init_21 : decode cX0_init 21 = .ok (.bipush 8, 2) := by decide +kernel
theorem dX0_init_23 : decode cX0_init 23 = .ok (.newarray .int, 2) := by decide +kernel
theorem dX0_init_25 : decode cX0_init 25 = .ok (.putfield 18, 3) := by decide +kernel
theorem dX0_init_28 : decode cX0_init 28 = .ok (.aload_n 0, 1) := by decide +kernel
theorem dX0_init_29 : decode cX0_init 29 = .ok (.iconst 0, 1) := by decide +kernel
theorem dX0_init_30 : decode cX0_init 30 = .ok (.putfield 21, 3) := by decide +kernel
theorem dX0_init_33 : decode cX0_init 33 = .ok (.aload_n 0, 1) := by decide +kernel
theorem dX0_init_34 : decode cX0_init 34 = .ok (.bipush 50, 2) := by decide +kernel
theorem dX0_init_36 : decode cX0_init 36 = .ok (.putfield 25, 3) := by decide +kernel
theorem dX0_init_39 : decode cX0_init 39 = .ok (.aload_n 0, 1) := by decide +kernel
theorem dX0_init_40 : decode cX0_init 40 = .ok (.iconst 0, 1) := by decide +kernel
theorem dX0_init_41 : decode cX0_init 41 = .ok (.putfield 28, 3) := by decide +kernel
theorem dX0_init_44 : decode cX0_init 44 = .ok (.aload_n 0, 1) := by decide +kernel
theorem dX0_init_45 : decode cX0_init 45 = .ok (.iconst 0, 1) := by decide +kernel
theorem dX0_init_46 : decode cX0_init 46 = .ok (.putfield 31, 3) := by decide +kernel
theorem dX0_init_49 : decode cX0_init 49 = .ok (.return_, 1) := by decide +kernel
theorem dX0_copyFrom_0 : decode cX0_copyFrom 0 = .ok (.iconst 0, 1) := by decide +kernel
theorem dX0_copyFrom_1 : decode cX0_copyFrom 1 = .ok (.istore_n 2, 1) := by decide +kernel
theorem dX0_copyFrom_2 : decode cX0_copyFrom 2 = .ok (.iload_n 2, 1) := by decide +kernel
theorem dX0_copyFrom_3 : decode cX0_copyFrom 3 = .ok (.bipush 8, 2) := by decide +kernel
theorem dX0_copyFrom_5 : decode cX0_copyFrom 5 = .ok (.if_icmp .ge 45, 3) := by decide +kernel
theorem dX0_copyFrom_8 : decode cX0_copyFrom 8 = .ok (.aload_n 0, 1) := by decide +kernel
theorem dX0_copyFrom_9 : decode cX0_copyFrom 9 = .ok (.getfield 9, 3) := by decide +kernel
theorem dX0_copyFrom_12 : decode cX0_copyFrom 12 = .ok (.iload_n 2, 1) := by decide +kernel
theorem dX0_copyFrom_13 : decode cX0_copyFrom 13 = .ok (.aload_n 1, 1) := by decide +kernel
theorem dX0_copyFrom_14 : decode cX0_copyFrom 14 = .ok (.getfield 9, 3) := by decide +kernel
theorem dX0_copyFrom_17 : decode cX0_copyFrom 17 = .ok (.iload_n 2, 1) := by decide +kernel
theorem dX0_copyFrom_18 : decode cX0_copyFrom 18 = .ok (.iaload, 1) := by decide +kernel
theorem dX0_copyFrom_19 : decode cX0_copyFrom 19 = .ok (.iastore, 1) := by decide +kernel
theorem dX0_copyFrom_20 : decode cX0_copyFrom 20 = .ok (.aload_n 0, 1) := by decide +kernel
theorem dX0_copyFrom_21 : decode cX0_copyFrom 21 = .ok (.getfield 15, 3) := by decide +kernel
theorem dX0_copyFrom_24 : decode cX0_copyFrom 24 = .ok (.iload_n 2, 1) := by decide +kernel
theorem dX0_copyFrom_25 : decode cX0_copyFrom 25 = .ok (.aload_n 1, 1) := by decide +kernel
theorem dX0_copyFrom_26 : decode cX0_copyFrom 26 = .ok (.getfield 15, 3) := by decide +kernel
theorem dX0_copyFrom_29 : decode cX0_copyFrom 29 = .ok (.iload_n 2, 1) := by decide +kernel
theorem dX0_copyFrom_30 : decode cX0_copyFrom 30 = .ok (.iaload, 1) := by decide +kernel
theorem dX0_copyFrom_31 : decode cX0_copyFrom 31 = .ok (.iastore, 1) := by decide +kernel
theorem dX0_copyFrom_32 : decode cX0_copyFrom 32 = .ok (.aload_n 0, 1) := by decide +kernel
theorem dX0_copyFrom_33 : decode cX0_copyFrom 33 = .ok (.getfield 18, 3) := by decide +kernel
theorem dX0_copyFrom_36 : decode cX0_copyFrom 36 = .ok (.iload_n 2, 1) := by decide +kernel
theorem dX0_copyFrom_37 : decode cX0_copyFrom 37 = .ok (.aload_n 1, 1) := by decide +kernel
theorem dX0_copyFrom_38 : decode cX0_copyFrom 38 = .ok (.getfield 18, 3) := by decide +kernel
theorem dX0_copyFrom_41 : decode cX0_copyFrom 41 = .ok (.iload_n 2, 1) := by decide +kernel
theorem dX0_copyFrom_42 : decode cX0_copyFrom 42 = .ok (.iaload, 1) := by decide +kernel
theorem dX0_copyFrom_43 : decode cX0_copyFrom 43 = .ok (.iastore, 1) := by decide +kernel
theorem dX0_copyFrom_44 : decode cX0_copyFrom 44 = .ok (.iinc 2 1, 3) := by decide +kernel
theorem dX0_copyFrom_47 : decode cX0_copyFrom 47 = .ok (.goto (-45), 3) := by decide +kernel
theorem dX0_copyFrom_50 : decode cX0_copyFrom 50 = .ok (.aload_n 0, 1) := by decide +kernel
theorem dX0_copyFrom_51 : decode cX0_copyFrom 51 = .ok (.aload_n 1, 1) := by decide +kernel
theorem dX0_copyFrom_52 : decode cX0_copyFrom 52 = .ok (.getfield 21, 3) := by decide +kernel
theorem dX0_copyFrom_55 : decode cX0_copyFrom 55 = .ok (.putfield 21, 3) := by decide +kernel
theorem dX0_copyFrom_58 : decode cX0_copyFrom 58 = .ok (.aload_n 0, 1) := by decide +kernel
theorem dX0_copyFrom_59 : decode cX0_copyFrom 59 = .ok (.aload_n 1, 1) := by decide +kernel
theorem dX0_copyFrom_60 : decode cX0_copyFrom 60 = .ok (.getfield 25, 3) := by decide +kernel
theorem dX0_copyFrom_63 : decode cX0_copyFrom 63 = .ok (.putfield 25, 3) := by decide +kernel
theorem dX0_copyFrom_66 : decode cX0_copyFrom 66 = .ok (.aload_n 0, 1) := by decide +kernel
theorem dX0_copyFrom_67 : decode cX0_copyFrom 67 = .ok (.aload_n 1, 1) := by decide +kernel
theorem dX0_copyFrom_68 : decode cX0_copyFrom 68 = .ok (.getfield 28, 3) := by decide +kernel
theorem dX0_copyFrom_71 : decode cX0_copyFrom 71 = .ok (.putfield 28, 3) := by decide +kernel
theorem dX0_copyFrom_74 : decode cX0_copyFrom 74 = .ok (.aload_n 0, 1) := by decide +kernel
theorem dX0_copyFrom_75 : decode cX0_copyFrom 75 = .ok (.aload_n 1, 1) := by decide +kernel
theorem dX0_copyFrom_76 : decode cX0_copyFrom 76 = .ok (.getfield 31, 3) := by decide +kernel
theorem dX0_copyFrom_79 : decode cX0_copyFrom 79 = .ok (.putfield 31, 3) := by decide +kernel
theorem dX0_copyFrom_82 : decode cX0_copyFrom 82 = .ok (.return_, 1) := by decide +kernel
theorem dX0_hasPoint_0 : decode cX0_hasPoint 0 = .ok (.iload_n 1, 1) := by decide +kernel
theorem dX0_hasPoint_1 : decode cX0_hasPoint 1 = .ok (.ifCond .lt 15, 3) := by decide +kernel
theorem dX0_hasPoint_4 : decode cX0_hasPoint 4 = .ok (.iload_n 1, 1) := by decide +kernel
theorem dX0_hasPoint_5 : decode cX0_hasPoint 5 = .ok (.aload_n 0, 1) := by decide +kernel
theorem dX0_hasPoint_6 : decode cX0_hasPoint 6 = .ok (.getfield 21, 3) := by decide +kernel
theorem dX0_hasPoint_9 : decode cX0_hasPoint 9 = .ok (.if_icmp .ge 7, 3) := by decide +kernel
theorem dX0_hasPoint_12 : decode cX0_hasPoint 12 = .ok (.iconst 1, 1) := by decide +kernel
theorem dX0_hasPoint_13 : decode cX0_hasPoint 13 = .ok (.goto 4, 3) := by decide +kernel
theorem dX0_hasPoint_16 : decode cX0_hasPoint 16 = .ok (.iconst 0, 1) := by decide +kernel
theorem dX0_hasPoint_17 : decode cX0_hasPoint 17 = .ok (.ireturn, 1) := by decide +kernel
theorem dX0_addPoint_0 : decode cX0_addPoint 0 = .ok (.aload_n 0, 1) := by decide +kernel
theorem dX0_addPoint_1 : decode cX0_addPoint 1 = .ok (.getfield 21, 3) := by decide +kernel
theorem dX0_addPoint_4 : decode cX0_addPoint 4 = .ok (.istore 4, 2) := by decide +kernel
theorem dX0_addPoint_6 : decode cX0_addPoint 6 = .ok (.aload_n 0, 1) := by decide +kernel
theorem dX0_addPoint_7 : decode cX0_addPoint 7 = .ok (.getfield 9, 3) := by decide +kernel
theorem dX0_addPoint_10 : decode cX0_addPoint 10 = .ok (.iload 4, 2) := by decide +kernel
theorem dX0_addPoint_12 : decode cX0_addPoint 12 = .ok (.iload_n 1, 1) := by decide +kernel
theorem dX0_addPoint_13 : decode cX0_addPoint 13 = .ok (.iastore, 1) := by decide +kernel
theorem dX0_addPoint_14 : decode cX0_addPoint 14 = .ok (.aload_n 0, 1) := by decide +kernel
theorem dX0_addPoint_15 : decode cX0_addPoint 15 = .ok (.getfield 15, 3) := by decide +kernel
theorem dX0_addPoint_18 : decode cX0_addPoint 18 = .ok (.iload 4, 2) := by decide +kernel
theorem dX0_addPoint_20 : decode cX0_addPoint 20 = .ok (.iload_n 2, 1) := by decide +kernel
theorem dX0_addPoint_21 : decode cX0_addPoint 21 = .ok (.iastore, 1) := by decide +kernel
theorem dX0_addPoint_22 : decode cX0_addPoint 22 = .ok (.aload_n 0, 1) := by decide +kernel
theorem dX0_addPoint_23 : decode cX0_addPoint 23 = .ok (.getfield 18, 3) := by decide +kernel
theorem dX0_addPoint_26 : decode cX0_addPoint 26 = .ok (.iload 4, 2) := by decide +kernel
theorem dX0_addPoint_28 : decode cX0_addPoint 28 = .ok (.iload_n 3, 1) := by decide +kernel
theorem dX0_addPoint_29 : decode cX0_addPoint 29 = .ok (.iastore, 1) := by decide +kernel
theorem dX0_addPoint_30 : decode cX0_addPoint 30 = .ok (.aload_n 0, 1) := by decide +kernel
theorem dX0_addPoint_31 : decode cX0_addPoint 31 = .ok (.dup, 1) := by decide +kernel
theorem dX0_addPoint_32 : decode cX0_addPoint 32 = .ok (.getfield 21, 3) := by decide +kernel
theorem dX0_addPoint_35 : decode cX0_addPoint 35 = .ok (.iconst 1, 1) := by decide +kernel
theorem dX0_addPoint_36 : decode cX0_addPoint 36 = .ok (.iadd, 1) := by decide +kernel
theorem dX0_addPoint_37 : decode cX0_addPoint 37 = .ok (.putfield 21, 3) := by decide +kernel
theorem dX0_addPoint_40 : decode cX0_addPoint 40 = .ok (.iload 4, 2) := by decide +kernel
theorem dX0_addPoint_42 : decode cX0_addPoint 42 = .ok (.ireturn, 1) := by decide +kernel
theorem dX0_removeLastPoint_0 : decode cX0_removeLastPoint 0 = .ok (.aload_n 0, 1) := by decide +kernel
theorem dX0_removeLastPoint_1 : decode cX0_removeLastPoint 1 = .ok (.dup, 1) := by decide +kernel
theorem dX0_removeLastPoint_2 : decode cX0_removeLastPoint 2 = .ok (.getfield 21, 3) := by decide +kernel
theorem dX0_removeLastPoint_5 : decode cX0_removeLastPoint 5 = .ok (.iconst 1, 1) := by decide +kernel
theorem dX0_removeLastPoint_6 : decode cX0_removeLastPoint 6 = .ok (.isub, 1) := by decide +kernel
theorem dX0_removeLastPoint_7 : decode cX0_removeLastPoint 7 = .ok (.putfield 21, 3) := by decide +kernel
theorem dX0_removeLastPoint_10 : decode cX0_removeLastPoint 10 = .ok (.aload_n 0, 1) := by decide +kernel
theorem dX0_removeLastPoint_11 : decode cX0_removeLastPoint 11 = .ok (.aload_n 0, 1) := by decide +kernel
theorem dX0_removeLastPoint_12 : decode cX0_removeLastPoint 12 = .ok (.getfield 28, 3) := by decide +kernel
theorem dX0_removeLastPoint_15 : decode cX0_removeLastPoint 15 = .ok (.aload_n 0, 1) := by decide +kernel
theorem dX0_removeLastPoint_16 : decode cX0_removeLastPoint 16 = .ok (.getfield 21, 3) := by decide +kernel
theorem dX0_removeLastPoint_19 : decode cX0_removeLastPoint 19 = .ok (.iconst 0, 1) := by decide +kernel
theorem dX0_removeLastPoint_20 : decode cX0_removeLastPoint 20 = .ok (.invokestatic 34, 3) := by decide +kernel
theorem dX0_removeLastPoint_23 : decode cX0_removeLastPoint 23 = .ok (.putfield 28, 3) := by decide +kernel
theorem dX0_removeLastPoint_26 : decode cX0_removeLastPoint 26 = .ok (.return_, 1) := by decide +kernel
theorem dX0_distance_0 : decode cX0_distance 0 = .ok (.aload_n 0, 1) := by decide +kernel
theorem dX0_distance_1 : decode cX0_distance 1 = .ok (.getfield 15, 3) := by decide +kernel
theorem dX0_distance_4 : decode cX0_distance 4 = .ok (.iload_n 1, 1) := by decide +kernel
theorem dX0_distance_5 : decode cX0_distance 5 = .ok (.iaload, 1) := by decide +kernel
theorem dX0_distance_6 : decode cX0_distance 6 = .ok (.aload_n 0, 1) := by decide +kernel
theorem dX0_distance_7 : decode cX0_distance 7 = .ok (.getfield 15, 3) := by decide +kernel
theorem dX0_distance_10 : decode cX0_distance 10 = .ok (.iload_n 2, 1) := by decide +kernel
theorem dX0_distance_11 : decode cX0_distance 11 = .ok (.iaload, 1) := by decide +kernel
theorem dX0_distance_12 : decode cX0_distance 12 = .ok (.isub, 1) := by decide +kernel
theorem dX0_distance_13 : decode cX0_distance 13 = .ok (.istore_n 3, 1) := by decide +kernel
theorem dX0_distance_14 : decode cX0_distance 14 = .ok (.aload_n 0, 1) := by decide +kernel
theorem dX0_distance_15 : decode cX0_distance 15 = .ok (.getfield 18, 3) := by decide +kernel
theorem dX0_distance_18 : decode cX0_distance 18 = .ok (.iload_n 1, 1) := by decide +kernel
theorem dX0_distance_19 : decode cX0_distance 19 = .ok (.iaload, 1) := by decide +kernel
theorem dX0_distance_20 : decode cX0_distance 20 = .ok (.aload_n 0, 1) := by decide +kernel
theorem dX0_distance_21 : decode cX0_distance 21 = .ok (.getfield 18, 3) := by decide +kernel
theorem dX0_distance_24 : decode cX0_distance 24 = .ok (.iload_n 2, 1) := by decide +kernel
theorem dX0_distance_25 : decode cX0_distance 25 = .ok (.iaload, 1) := by decide +kernel
theorem dX0_distance_26 : decode cX0_distance 26 = .ok (.isub, 1) := by decide +kernel
theorem dX0_distance_27 : decode cX0_distance 27 = .ok (.istore 4, 2) := by decide +kernel
theorem dX0_distance_29 : decode cX0_distance 29 = .ok (.iload_n 3, 1) := by decide +kernel
theorem dX0_distance_30 : decode cX0_distance 30 = .ok (.iload_n 3, 1) := by decide +kernel
theorem dX0_distance_31 : decode cX0_distance 31 = .ok (.imul, 1) := by decide +kernel
theorem dX0_distance_32 : decode cX0_distance 32 = .ok (.iload 4, 2) := by decide +kernel
theorem dX0_distance_34 : decode cX0_distance 34 = .ok (.iload 4, 2) := by decide +kernel
theorem dX0_distance_36 : decode cX0_distance 36 = .ok (.imul, 1) := by decide +kernel
theorem dX0_distance_37 : decode cX0_distance 37 = .ok (.iadd, 1) := by decide +kernel
theorem dX0_distance_38 : decode cX0_distance 38 = .ok (.ireturn, 1) := by decide +kernel
theorem dX0_isLeftOf_0 : decode cX0_isLeftOf 0 = .ok (.aload_n 0, 1) := by decide +kernel
theorem dX0_isLeftOf_1 : decode cX0_isLeftOf 1 = .ok (.getfield 15, 3) := by decide +kernel
theorem dX0_isLeftOf_4 : decode cX0_isLeftOf 4 = .ok (.iload_n 1, 1) := by decide +kernel
theorem dX0_isLeftOf_5 : decode cX0_isLeftOf 5 = .ok (.iaload, 1) := by decide +kernel
theorem dX0_isLeftOf_6 : decode cX0_isLeftOf 6 = .ok (.aload_n 0, 1) := by decide +kernel
theorem dX0_isLeftOf_7 : decode cX0_isLeftOf 7 = .ok (.getfield 15, 3) := by decide +kernel
theorem dX0_isLeftOf_10 : decode cX0_isLeftOf 10 = .ok (.iload_n 2, 1) := by decide +kernel
theorem dX0_isLeftOf_11 : decode cX0_isLeftOf 11 = .ok (.iaload, 1) := by decide +kernel
theorem dX0_isLeftOf_12 : decode cX0_isLeftOf 12 = .ok (.if_icmp .lt 23, 3) := by decide +kernel
theorem dX0_isLeftOf_15 : decode cX0_isLeftOf 15 = .ok (.aload_n 0, 1) := by decide +kernel
theorem dX0_isLeftOf_16 : decode cX0_isLeftOf 16 = .ok (.getfield 15, 3) := by decide +kernel
theorem dX0_isLeftOf_19 : decode cX0_isLeftOf 19 = .ok (.iload_n 1, 1) := by decide +kernel
theorem dX0_isLeftOf_20 : decode cX0_isLeftOf 20 = .ok (.iaload, 1) := by decide +kernel
theorem dX0_isLeftOf_21 : decode cX0_isLeftOf 21 = .ok (.aload_n 0, 1) := by decide +kernel
theorem dX0_isLeftOf_22 : decode cX0_isLeftOf 22 = .ok (.getfield 15, 3) := by decide +kernel
theorem dX0_isLeftOf_25 : decode cX0_isLeftOf 25 = .ok (.iload_n 2, 1) := by decide +kernel
theorem dX0_isLeftOf_26 : decode cX0_isLeftOf 26 = .ok (.iaload, 1) := by decide +kernel
theorem dX0_isLeftOf_27 : decode cX0_isLeftOf 27 = .ok (.if_icmp .ne 12, 3) := by decide +kernel
theorem dX0_isLeftOf_30 : decode cX0_isLeftOf 30 = .ok (.iload_n 1, 1) := by decide +kernel
theorem dX0_isLeftOf_31 : decode cX0_isLeftOf 31 = .ok (.iload_n 2, 1) := by decide +kernel
theorem dX0_isLeftOf_32 : decode cX0_isLeftOf 32 = .ok (.if_icmp .ge 7, 3) := by decide +kernel
theorem dX0_isLeftOf_35 : decode cX0_isLeftOf 35 = .ok (.iconst 1, 1) := by decide +kernel
theorem dX0_isLeftOf_36 : decode cX0_isLeftOf 36 = .ok (.goto 4, 3) := by decide +kernel
theorem dX0_isLeftOf_39 : decode cX0_isLeftOf 39 = .ok (.iconst 0, 1) := by decide +kernel
theorem dX0_isLeftOf_40 : decode cX0_isLeftOf 40 = .ok (.ireturn, 1) := by decide +kernel
theorem dX0_countNetsWithPoints_0 : decode cX0_countNetsWithPoints 0 = .ok (.iconst 0, 1) := by decide +kernel
theorem dX0_countNetsWithPoints_1 : decode cX0_countNetsWithPoints 1 = .ok (.istore_n 1, 1) := by decide +kernel
theorem dX0_countNetsWithPoints_2 : decode cX0_countNetsWithPoints 2 = .ok (.iconst 0, 1) := by decide +kernel
theorem dX0_countNetsWithPoints_3 : decode cX0_countNetsWithPoints 3 = .ok (.istore_n 2, 1) := by decide +kernel
theorem dX0_countNetsWithPoints_4 : decode cX0_countNetsWithPoints 4 = .ok (.iload_n 2, 1) := by decide +kernel
theorem dX0_countNetsWithPoints_5 : decode cX0_countNetsWithPoints 5 = .ok (.aload_n 0, 1) := by decide +kernel
theorem dX0_countNetsWithPoints_6 : decode cX0_countNetsWithPoints 6 = .ok (.getfield 21, 3) := by decide +kernel
theorem dX0_countNetsWithPoints_9 : decode cX0_countNetsWithPoints 9 = .ok (.if_icmp .ge 20, 3) := by decide +kernel
theorem dX0_countNetsWithPoints_12 : decode cX0_countNetsWithPoints 12 = .ok (.iload_n 1, 1) := by decide +kernel
theorem dX0_countNetsWithPoints_13 : decode cX0_countNetsWithPoints 13 = .ok (.iconst 1, 1) := by decide +kernel
theorem dX0_countNetsWithPoints_14 : decode cX0_countNetsWithPoints 14 = .ok (.aload_n 0, 1) := by decide +kernel
theorem dX0_countNetsWithPoints_15 : decode cX0_countNetsWithPoints 15 = .ok (.getfield 9, 3) := by decide +kernel
theorem dX0_countNetsWithPoints_18 : decode cX0_countNetsWithPoints 18 = .ok (.iload_n 2, 1) := by decide +kernel
theorem dX0_countNetsWithPoints_19 : decode cX0_countNetsWithPoints 19 = .ok (.iaload, 1) := by decide +kernel
theorem dX0_countNetsWithPoints_20 : decode cX0_countNetsWithPoints 20 = .ok (.ishl, 1) := by decide +kernel
theorem dX0_countNetsWithPoints_21 : decode cX0_countNetsWithPoints 21 = .ok (.ior, 1) := by decide +kernel
theorem dX0_countNetsWithPoints_22 : decode cX0_countNetsWithPoints 22 = .ok (.istore_n 1, 1) := by decide +kernel
theorem dX0_countNetsWithPoints_23 : decode cX0_countNetsWithPoints 23 = .ok (.iinc 2 1, 3) := by decide +kernel
theorem dX0_countNetsWithPoints_26 : decode cX0_countNetsWithPoints 26 = .ok (.goto (-22), 3) := by decide +kernel
theorem dX0_countNetsWithPoints_29 : decode cX0_countNetsWithPoints 29 = .ok (.iload_n 1, 1) := by decide +kernel
theorem dX0_countNetsWithPoints_30 : decode cX0_countNetsWithPoints 30 = .ok (.invokestatic 38, 3) := by decide +kernel
theorem dX0_countNetsWithPoints_33 : decode cX0_countNetsWithPoints 33 = .ok (.ireturn, 1) := by decide +kernel
theorem dX1_init_0 : decode cX1_init 0 = .ok (.aload_n 0, 1) := by decide +kernel
theorem dX1_init_1 : decode cX1_init 1 = .ok (.invokespecial 3, 3) := by decide +kernel
theorem dX1_init_4 : decode cX1_init 4 = .ok (.aload_n 0, 1) := by decide +kernel
theorem dX1_init_5 : decode cX1_init 5 = .ok (.iconst 0, 1) := by decide +kernel
theorem dX1_init_6 : decode cX1_init 6 = .ok (.putfield 9, 3) := by decide +kernel
theorem dX1_init_9 : decode cX1_init 9 = .ok (.aload_n 0, 1) := by decide +kernel
theorem dX1_init_10 : decode cX1_init 10 = .ok (.bipush 110, 2) := by decide +kernel
theorem dX1_init_12 : decode cX1_init 12 = .ok (.newarray .int, 2) := by decide +kernel
theorem dX1_init_14 : decode cX1_init 14 = .ok (.putfield 15, 3) := by decide +kernel
theorem dX1_init_17 : decode cX1_init 17 = .ok (.aload_n 0, 1) := by decide +kernel
theorem dX1_init_18 : decode cX1_init 18 = .ok (.sipush 10240, 3) := by decide +kernel
theorem dX1_init_21 : decode cX1_init 21 = .ok (.newarray .int, 2) := by decide +kernel
theorem dX1_init_23 : decode cX1_init 23 = .ok (.putfield 19, 3) := by decide +kernel
theorem dX1_init_26 : decode cX1_init 26 = .ok (.aload_n 0, 1) := by decide +kernel
theorem dX1_init_27 : decode cX1_init 27 = .ok (.new 22, 3) := by decide +kernel
theorem dX1_init_30 : decode cX1_init 30 = .ok (.dup, 1) := by decide +kernel
theorem dX1_init_31 : decode cX1_init 31 = .ok (.invokespecial 24, 3) := by decide +kernel
theorem dX1_init_34 : decode cX1_init 34 = .ok (.putfield 25, 3) := by decide +kernel
theorem dX1_init_37 : decode cX1_init 37 = .ok (.aload_n 0, 1) := by decide +kernel
theorem dX1_init_38 : decode cX1_init 38 = .ok (.new 22, 3) := by decide +kernel
theorem dX1_init_41 : decode cX1_init 41 = .ok (.dup, 1) := by decide +kernel
theorem dX1_init_42 : decode cX1_init 42 = .ok (.invokespecial 24, 3) := by decide +kernel
theorem dX1_init_45 : decode cX1_init 45 = .ok (.putfield 29, 3) := by decide +kernel
theorem dX1_init_48 : decode cX1_init 48 = .ok (.aload_n 0, 1) := by decide +kernel
theorem dX1_init_49 : decode cX1_init 49 = .ok (.iconst 0, 1) := by decide +kernel
theorem dX1_init_50 : decode cX1_init 50 = .ok (.putfield 32, 3) := by decide +kernel
theorem dX1_init_53 : decode cX1_init 53 = .ok (.return_, 1) := by decide +kernel
theorem dX1_measure_0 : decode cX1_measure 0 = .ok (.aload_n 0, 1) := by decide +kernel
theorem dX1_measure_1 : decode cX1_measure 1 = .ok (.aload_n 2, 1) := by decide +kernel
theorem dX1_measure_2 : decode cX1_measure 2 = .ok (.getfield 36, 3) := by decide +kernel
theorem dX1_measure_5 : decode cX1_measure 5 = .ok (.putfield 9, 3) := by decide +kernel
theorem dX1_measure_8 : decode cX1_measure 8 = .ok (.aload_n 0, 1) := by decide +kernel
theorem dX1_measure_9 : decode cX1_measure 9 = .ok (.iconst 0, 1) := by decide +kernel
theorem dX1_measure_10 : decode cX1_measure 10 = .ok (.putfield 32, 3) := by decide +kernel
theorem dX1_measure_13 : decode cX1_measure 13 = .ok (.iconst 0, 1) := by decide +kernel
theorem dX1_measure_14 : decode cX1_measure 14 = .ok (.istore_n 3, 1) := by decide +kernel
theorem dX1_measure_15 : decode cX1_measure 15 = .ok (.iload_n 3, 1) := by decide +kernel
theorem dX1_measure_16 : decode cX1_measure 16 = .ok (.aload_n 0, 1) := by decide +kernel
theorem dX1_measure_17 : decode cX1_measure 17 = .ok (.getfield 9, 3) := by decide +kernel
theorem dX1_measure_20 : decode cX1_measure 20 = .ok (.if_icmp .ge 132, 3) := by decide +kernel
theorem dX1_measure_23 : decode cX1_measure 23 = .ok (.aload_n 2, 1) := by decide +kernel
theorem dX1_measure_24 : decode cX1_measure 24 = .ok (.getfield 39, 3) := by decide +kernel
theorem dX1_measure_27 : decode cX1_measure 27 = .ok (.iload_n 3, 1) := by decide +kernel
theorem dX1_measure_28 : decode cX1_measure 28 = .ok (.iaload, 1) := by decide +kernel
theorem dX1_measure_29 : decode cX1_measure 29 = .ok (.istore 4, 2) := by decide +kernel
theorem dX1_measure_31 : decode cX1_measure 31 = .ok (.aload_n 2, 1) := by decide +kernel
theorem dX1_measure_32 : decode cX1_measure 32 = .ok (.getfield 42, 3) := by decide +kernel
theorem dX1_measure_35 : decode cX1_measure 35 = .ok (.iload_n 3, 1) := by decide +kernel
theorem dX1_measure_36 : decode cX1_measure 36 = .ok (.iaload, 1) := by decide +kernel
theorem dX1_measure_37 : decode cX1_measure 37 = .ok (.istore 5, 2) := by decide +kernel
theorem dX1_measure_39 : decode cX1_measure 39 = .ok (.aload_n 0, 1) := by decide +kernel
theorem dX1_measure_40 : decode cX1_measure 40 = .ok (.getfield 15, 3) := by decide +kernel
theorem dX1_measure_43 : decode cX1_measure 43 = .ok (.iload_n 3, 1) := by decide +kernel
theorem dX1_measure_44 : decode cX1_measure 44 = .ok (.aload_n 1, 1) := by decide +kernel
theorem dX1_measure_45 : decode cX1_measure 45 = .ok (.getfield 45, 3) := by decide +kernel
theorem dX1_measure_48 : decode cX1_measure 48 = .ok (.iload 4, 2) := by decide +kernel
theorem dX1_measure_50 : decode cX1_measure 50 = .ok (.iaload, 1) := by decide +kernel
theorem dX1_measure_51 : decode cX1_measure 51 = .ok (.aload_n 1, 1) := by decide +kernel
theorem dX1_measure_52 : decode cX1_measure 52 = .ok (.getfield 50, 3) := by decide +kernel
theorem dX1_measure_55 : decode cX1_measure 55 = .ok (.iload 4, 2) := by decide +kernel
theorem dX1_measure_57 : decode cX1_measure 57 = .ok (.iaload, 1) := by decide +kernel
theorem dX1_measure_58 : decode cX1_measure 58 = .ok (.invokestatic 53, 3) := by decide +kernel
theorem dX1_measure_61 : decode cX1_measure 61 = .ok (.aload_n 1, 1) := by decide +kernel
theorem dX1_measure_62 : decode cX1_measure 62 = .ok (.getfield 45, 3) := by decide +kernel
theorem dX1_measure_65 : decode cX1_measure 65 = .ok (.iload 5, 2) := by decide +kernel
theorem dX1_measure_67 : decode cX1_measure 67 = .ok (.iaload, 1) := by decide +kernel
theorem dX1_measure_68 : decode cX1_measure 68 = .ok (.bipush 20, 2) := by decide +kernel
theorem dX1_measure_70 : decode cX1_measure 70 = .ok (.isub, 1) := by decide +kernel
theorem dX1_measure_71 : decode cX1_measure 71 = .ok (.aload_n 1, 1) := by decide +kernel
theorem dX1_measure_72 : decode cX1_measure 72 = .ok (.getfield 50, 3) := by decide +kernel
theorem dX1_measure_75 : decode cX1_measure 75 = .ok (.iload 5, 2) := by decide +kernel
theorem dX1_measure_77 : decode cX1_measure 77 = .ok (.iaload, 1) := by decide +kernel
theorem dX1_measure_78 : decode cX1_measure 78 = .ok (.invokestatic 53, 3) := by decide +kernel
theorem dX1_measure_81 : decode cX1_measure 81 = .ok (.invokestatic 57, 3) := by decide +kernel
theorem dX1_measure_84 : decode cX1_measure 84 = .ok (.iastore, 1) := by decide +kernel
theorem dX1_measure_85 : decode cX1_measure 85 = .ok (.iconst 0, 1) := by decide +kernel
theorem dX1_measure_86 : decode cX1_measure 86 = .ok (.istore 6, 2) := by decide +kernel
theorem dX1_measure_88 : decode cX1_measure 88 = .ok (.iload 6, 2) := by decide +kernel
theorem dX1_measure_90 : decode cX1_measure 90 = .ok (.aload_n 0, 1) := by decide +kernel
theorem dX1_measure_91 : decode cX1_measure 91 = .ok (.getfield 9, 3) := by decide +kernel
theorem dX1_measure_94 : decode cX1_measure 94 = .ok (.if_icmp .ge 52, 3) := by decide +kernel
theorem dX1_measure_97 : decode cX1_measure 97 = .ok (.aload_n 0, 1) := by decide +kernel
theorem dX1_measure_98 : decode cX1_measure 98 = .ok (.getfield 15, 3) := by decide +kernel
theorem dX1_measure_101 : decode cX1_measure 101 = .ok (.iload 6, 2) := by decide +kernel
theorem dX1_measure_103 : decode cX1_measure 103 = .ok (.iconst 1, 1) := by decide +kernel
theorem dX1_measure_104 : decode cX1_measure 104 = .ok (.iadd, 1) := by decide +kernel
theorem dX1_measure_105 : decode cX1_measure 105 = .ok (.bipush 10, 2) := by decide +kernel
theorem dX1_measure_107 : decode cX1_measure 107 = .ok (.imul, 1) := by decide +kernel
theorem dX1_measure_108 : decode cX1_measure 108 = .ok (.iload_n 3, 1) := by decide +kernel
theorem dX1_measure_109 : decode cX1_measure 109 = .ok (.iadd, 1) := by decide +kernel
theorem dX1_measure_110 : decode cX1_measure 110 = .ok (.aload_n 1, 1) := by decide +kernel
theorem dX1_measure_111 : decode cX1_measure 111 = .ok (.aload_n 2, 1) := by decide +kernel
theorem dX1_measure_112 : decode cX1_measure 112 = .ok (.getfield 39, 3) := by decide +kernel
theorem dX1_measure_115 : decode cX1_measure 115 = .ok (.iload 6, 2) := by decide +kernel
theorem dX1_measure_117 : decode cX1_measure 117 = .ok (.iaload, 1) := by decide +kernel
theorem dX1_measure_118 : decode cX1_measure 118 = .ok (.iload 4, 2) := by decide +kernel
theorem dX1_measure_120 : decode cX1_measure 120 = .ok (.invokestatic 62, 3) := by decide +kernel
theorem dX1_measure_123 : decode cX1_measure 123 = .ok (.aload_n 1, 1) := by decide +kernel
theorem dX1_measure_124 : decode cX1_measure 124 = .ok (.aload_n 2, 1) := by decide +kernel
theorem dX1_measure_125 : decode cX1_measure 125 = .ok (.getfield 42, 3) := by decide +kernel
theorem dX1_measure_128 : decode cX1_measure 128 = .ok (.iload 6, 2) := by decide +kernel
theorem dX1_measure_130 : decode cX1_measure 130 = .ok (.iaload, 1) := by decide +kernel
theorem dX1_measure_131 : decode cX1_measure 131 = .ok (.iload 5, 2) := by decide +kernel
theorem dX1_measure_133 : decode cX1_measure 133 = .ok (.invokestatic 62, 3) := by decide +kernel
theorem dX1_measure_136 : decode cX1_measure 136 = .ok (.invokestatic 57, 3) := by decide +kernel
theorem dX1_measure_139 : decode cX1_measure 139 = .ok (.iastore, 1) := by decide +kernel
theorem dX1_measure_140 : decode cX1_measure 140 = .ok (.iinc 6 1, 3) := by decide +kernel
theorem dX1_measure_143 : decode cX1_measure 143 = .ok (.goto (-55), 3) := by decide +kernel
theorem dX1_measure_146 : decode cX1_measure 146 = .ok (.iinc 3 1, 3) := by decide +kernel
theorem dX1_measure_149 : decode cX1_measure 149 = .ok (.goto (-134), 3) := by decide +kernel
theorem dX1_measure_152 : decode cX1_measure 152 = .ok (.return_, 1) := by decide +kernel
theorem dX1_way_0 : decode cX1_way 0 = .ok (.aload_n 0, 1) := by decide +kernel
theorem dX1_way_1 : decode cX1_way 1 = .ok (.getfield 45, 3) := by decide +kernel
theorem dX1_way_4 : decode cX1_way 4 = .ok (.iload_n 2, 1) := by decide +kernel
theorem dX1_way_5 : decode cX1_way 5 = .ok (.iaload, 1) := by decide +kernel
theorem dX1_way_6 : decode cX1_way 6 = .ok (.aload_n 0, 1) := by decide +kernel
theorem dX1_way_7 : decode cX1_way 7 = .ok (.getfield 45, 3) := by decide +kernel
theorem dX1_way_10 : decode cX1_way 10 = .ok (.iload_n 1, 1) := by decide +kernel
theorem dX1_way_11 : decode cX1_way 11 = .ok (.iaload, 1) := by decide +kernel
theorem dX1_way_12 : decode cX1_way 12 = .ok (.isub, 1) := by decide +kernel
theorem dX1_way_13 : decode cX1_way 13 = .ok (.aload_n 0, 1) := by decide +kernel
theorem dX1_way_14 : decode cX1_way 14 = .ok (.getfield 50, 3) := by decide +kernel
theorem dX1_way_17 : decode cX1_way 17 = .ok (.iload_n 2, 1) := by decide +kernel
theorem dX1_way_18 : decode cX1_way 18 = .ok (.iaload, 1) := by decide +kernel
theorem dX1_way_19 : decode cX1_way 19 = .ok (.aload_n 0, 1) := by decide +kernel
theorem dX1_way_20 : decode cX1_way 20 = .ok (.getfield 50, 3) := by decide +kernel
theorem dX1_way_23 : decode cX1_way 23 = .ok (.iload_n 1, 1) := by decide +kernel
theorem dX1_way_24 : decode cX1_way 24 = .ok (.iaload, 1) := by decide +kernel
theorem dX1_way_25 : decode cX1_way 25 = .ok (.isub, 1) := by decide +kernel
theorem dX1_way_26 : decode cX1_way 26 = .ok (.invokestatic 53, 3) := by decide +kernel
theorem dX1_way_29 : decode cX1_way 29 = .ok (.ireturn, 1) := by decide +kernel
theorem dX1_longer_0 : decode cX1_longer 0 = .ok (.iload_n 0, 1) := by decide +kernel
theorem dX1_longer_1 : decode cX1_longer 1 = .ok (.invokestatic 66, 3) := by decide +kernel
theorem dX1_longer_4 : decode cX1_longer 4 = .ok (.iload_n 1, 1) := by decide +kernel
theorem dX1_longer_5 : decode cX1_longer 5 = .ok (.invokestatic 66, 3) := by decide +kernel
theorem dX1_longer_8 : decode cX1_longer 8 = .ok (.invokestatic 57, 3) := by decide +kernel
theorem dX1_longer_11 : decode cX1_longer 11 = .ok (.ireturn, 1) := by decide +kernel
theorem dX1_leap_0 : decode cX1_leap 0 = .ok (.aload_n 0, 1) := by decide +kernel
theorem dX1_leap_1 : decode cX1_leap 1 = .ok (.getfield 15, 3) := by decide +kernel
theorem dX1_leap_4 : decode cX1_leap 4 = .ok (.iload_n 1, 1) := by decide +kernel
theorem dX1_leap_5 : decode cX1_leap 5 = .ok (.bipush 10, 2) := by decide +kernel
theorem dX1_leap_7 : decode cX1_leap 7 = .ok (.imul, 1) := by decide +kernel
theorem dX1_leap_8 : decode cX1_leap 8 = .ok (.iload_n 2, 1) := by decide +kernel
theorem dX1_leap_9 : decode cX1_leap 9 = .ok (.iadd, 1) := by decide +kernel
theorem dX1_leap_10 : decode cX1_leap 10 = .ok (.iaload, 1) := by decide +kernel
theorem dX1_leap_11 : decode cX1_leap 11 = .ok (.ireturn, 1) := by decide +kernel
theorem dX1_allTries_0 : decode cX1_allTries 0 = .ok (.iconst 1, 1) := by decide +kernel
theorem dX1_allTries_1 : decode cX1_allTries 1 = .ok (.aload_n 0, 1) := by decide +kernel
theorem dX1_allTries_2 : decode cX1_allTries 2 = .ok (.getfield 9, 3) := by decide +kernel
theorem dX1_allTries_5 : decode cX1_allTries 5 = .ok (.ishl, 1) := by decide +kernel
theorem dX1_allTries_6 : decode cX1_allTries 6 = .ok (.iconst 1, 1) := by decide +kernel
theorem dX1_allTries_7 : decode cX1_allTries 7 = .ok (.isub, 1) := by decide +kernel
theorem dX1_allTries_8 : decode cX1_allTries 8 = .ok (.ireturn, 1) := by decide +kernel
theorem dX1_planNearest_0 : decode cX1_planNearest 0 = .ok (.aload_n 0, 1) := by decide +kernel
theorem dX1_planNearest_1 : decode cX1_planNearest 1 = .ok (.aload_n 0, 1) := by decide +kernel
theorem dX1_planNearest_2 : decode cX1_planNearest 2 = .ok (.getfield 29, 3) := by decide +kernel
theorem dX1_planNearest_5 : decode cX1_planNearest 5 = .ok (.iconst 0, 1) := by decide +kernel
theorem dX1_planNearest_6 : decode cX1_planNearest 6 = .ok (.invokevirtual 70, 3) := by decide +kernel
theorem dX1_planNearest_9 : decode cX1_planNearest 9 = .ok (.return_, 1) := by decide +kernel
theorem dX1_planBest_0 : decode cX1_planBest 0 = .ok (.aload_n 0, 1) := by decide +kernel
theorem dX1_planBest_1 : decode cX1_planBest 1 = .ok (.getfield 32, 3) := by decide +kernel
theorem dX1_planBest_4 : decode cX1_planBest 4 = .ok (.ifCond .ne 21, 3) := by decide +kernel
theorem dX1_planBest_7 : decode cX1_planBest 7 = .ok (.aload_n 0, 1) := by decide +kernel
theorem dX1_planBest_8 : decode cX1_planBest 8 = .ok (.invokevirtual 74, 3) := by decide +kernel
theorem dX1_planBest_11 : decode cX1_planBest 11 = .ok (.aload_n 0, 1) := by decide +kernel
theorem dX1_planBest_12 : decode cX1_planBest 12 = .ok (.aload_n 0, 1) := by decide +kernel
theorem dX1_planBest_13 : decode cX1_planBest 13 = .ok (.getfield 25, 3) := by decide +kernel
theorem dX1_planBest_16 : decode cX1_planBest 16 = .ok (.iconst 1, 1) := by decide +kernel
theorem dX1_planBest_17 : decode cX1_planBest 17 = .ok (.invokevirtual 70, 3) := by decide +kernel
theorem dX1_planBest_20 : decode cX1_planBest 20 = .ok (.aload_n 0, 1) := by decide +kernel
theorem dX1_planBest_21 : decode cX1_planBest 21 = .ok (.iconst 1, 1) := by decide +kernel
theorem dX1_planBest_22 : decode cX1_planBest 22 = .ok (.putfield 32, 3) := by decide +kernel
theorem dX1_planBest_25 : decode cX1_planBest 25 = .ok (.return_, 1) := by decide +kernel
theorem dX1_plan_0 : decode cX1_plan 0 = .ok (.aload_n 1, 1) := by decide +kernel
theorem dX1_plan_1 : decode cX1_plan 1 = .ok (.invokevirtual 77, 3) := by decide +kernel
theorem dX1_plan_4 : decode cX1_plan 4 = .ok (.iconst 0, 1) := by decide +kernel
theorem dX1_plan_5 : decode cX1_plan 5 = .ok (.istore_n 3, 1) := by decide +kernel
theorem dX1_plan_6 : decode cX1_plan 6 = .ok (.aload_n 0, 1) := by decide +kernel
theorem dX1_plan_7 : decode cX1_plan 7 = .ok (.invokevirtual 80, 3) := by decide +kernel
theorem dX1_plan_10 : decode cX1_plan 10 = .ok (.istore 4, 2) := by decide +kernel
theorem dX1_plan_12 : decode cX1_plan 12 = .ok (.iconst 0, 1) := by decide +kernel
theorem dX1_plan_13 : decode cX1_plan 13 = .ok (.istore 5, 2) := by decide +kernel
theorem dX1_plan_15 : decode cX1_plan 15 = .ok (.iload 5, 2) := by decide +kernel
theorem dX1_plan_17 : decode cX1_plan 17 = .ok (.aload_n 0, 1) := by decide +kernel
theorem dX1_plan_18 : decode cX1_plan 18 = .ok (.getfield 9, 3) := by decide +kernel
theorem dX1_plan_21 : decode cX1_plan 21 = .ok (.if_icmp .ge 61, 3) := by decide +kernel
theorem dX1_plan_24 : decode cX1_plan 24 = .ok (.iload_n 2, 1) := by decide +kernel
theorem dX1_plan_25 : decode cX1_plan 25 = .ok (.ifCond .eq 13, 3) := by decide +kernel
theorem dX1_plan_28 : decode cX1_plan 28 = .ok (.aload_n 0, 1) := by decide +kernel
theorem dX1_plan_29 : decode cX1_plan 29 = .ok (.iload_n 3, 1) := by decide +kernel
theorem dX1_plan_30 : decode cX1_plan 30 = .ok (.iload 4, 2) := by decide +kernel
theorem dX1_plan_32 : decode cX1_plan 32 = .ok (.invokevirtual 84, 3) := by decide +kernel
theorem dX1_plan_35 : decode cX1_plan 35 = .ok (.goto 10, 3) := by decide +kernel
theorem dX1_plan_38 : decode cX1_plan 38 = .ok (.aload_n 0, 1) := by decide +kernel
theorem dX1_plan_39 : decode cX1_plan 39 = .ok (.iload_n 3, 1) := by decide +kernel
theorem dX1_plan_40 : decode cX1_plan 40 = .ok (.iload 4, 2) := by decide +kernel
theorem dX1_plan_42 : decode cX1_plan 42 = .ok (.invokevirtual 87, 3) := by decide +kernel
theorem dX1_plan_45 : decode cX1_plan 45 = .ok (.istore 6, 2) := by decide +kernel
theorem dX1_plan_47 : decode cX1_plan 47 = .ok (.aload_n 1, 1) := by decide +kernel
theorem dX1_plan_48 : decode cX1_plan 48 = .ok (.iload 6, 2) := by decide +kernel
theorem dX1_plan_50 : decode cX1_plan 50 = .ok (.aload_n 0, 1) := by decide +kernel
theorem dX1_plan_51 : decode cX1_plan 51 = .ok (.iload_n 3, 1) := by decide +kernel
theorem dX1_plan_52 : decode cX1_plan 52 = .ok (.iload 6, 2) := by decide +kernel
theorem dX1_plan_54 : decode cX1_plan 54 = .ok (.invokevirtual 90, 3) := by decide +kernel
theorem dX1_plan_57 : decode cX1_plan 57 = .ok (.invokevirtual 93, 3) := by decide +kernel
theorem dX1_plan_60 : decode cX1_plan 60 = .ok (.iload 4, 2) := by decide +kernel
theorem dX1_plan_62 : decode cX1_plan 62 = .ok (.iconst 1, 1) := by decide +kernel
theorem dX1_plan_63 : decode cX1_plan 63 = .ok (.iload 6, 2) := by decide +kernel
theorem dX1_plan_65 : decode cX1_plan 65 = .ok (.ishl, 1) := by decide +kernel
theorem dX1_plan_66 : decode cX1_plan 66 = .ok (.iconst (-1), 1) := by decide +kernel
theorem dX1_plan_67 : decode cX1_plan 67 = .ok (.ixor, 1) := by decide +kernel
theorem dX1_plan_68 : decode cX1_plan 68 = .ok (.iand, 1) := by decide +kernel
theorem dX1_plan_69 : decode cX1_plan 69 = .ok (.istore 4, 2) := by decide +kernel
theorem dX1_plan_71 : decode cX1_plan 71 = .ok (.iload 6, 2) := by decide +kernel
theorem dX1_plan_73 : decode cX1_plan 73 = .ok (.iconst 1, 1) := by decide +kernel
theorem dX1_plan_74 : decode cX1_plan 74 = .ok (.iadd, 1) := by decide +kernel
theorem dX1_plan_75 : decode cX1_plan 75 = .ok (.istore_n 3, 1) := by decide +kernel
theorem dX1_plan_76 : decode cX1_plan 76 = .ok (.iinc 5 1, 3) := by decide +kernel
theorem dX1_plan_79 : decode cX1_plan 79 = .ok (.goto (-64), 3) := by decide +kernel
theorem dX1_plan_82 : decode cX1_plan 82 = .ok (.return_, 1) := by decide +kernel
theorem dX1_nearestOf_0 : decode cX1_nearestOf 0 = .ok (.iconst 0, 1) := by decide +kernel
theorem dX1_nearestOf_1 : decode cX1_nearestOf 1 = .ok (.istore_n 3, 1) := by decide +kernel
theorem dX1_nearestOf_2 : decode cX1_nearestOf 2 = .ok (.ldc 99, 2) := by decide +kernel
theorem dX1_nearestOf_4 : decode cX1_nearestOf 4 = .ok (.istore 4, 2) := by decide +kernel
theorem dX1_nearestOf_6 : decode cX1_nearestOf 6 = .ok (.iconst 0, 1) := by decide +kernel
theorem dX1_nearestOf_7 : decode cX1_nearestOf 7 = .ok (.istore 5, 2) := by decide +kernel
theorem dX1_nearestOf_9 : decode cX1_nearestOf 9 = .ok (.iload 5, 2) := by decide +kernel
theorem dX1_nearestOf_11 : decode cX1_nearestOf 11 = .ok (.aload_n 0, 1) := by decide +kernel
theorem dX1_nearestOf_12 : decode cX1_nearestOf 12 = .ok (.getfield 9, 3) := by decide +kernel
theorem dX1_nearestOf_15 : decode cX1_nearestOf 15 = .ok (.if_icmp .ge 42, 3) := by decide +kernel
theorem dX1_nearestOf_18 : decode cX1_nearestOf 18 = .ok (.iload_n 2, 1) := by decide +kernel
theorem dX1_nearestOf_19 : decode cX1_nearestOf 19 = .ok (.iload 5, 2) := by decide +kernel
theorem dX1_nearestOf_21 : decode cX1_nearestOf 21 = .ok (.invokestatic 100, 3) := by decide +kernel
theorem dX1_nearestOf_24 : decode cX1_nearestOf 24 = .ok (.ifCond .eq 27, 3) := by decide +kernel
theorem dX1_nearestOf_27 : decode cX1_nearestOf 27 = .ok (.aload_n 0, 1) := by decide +kernel
theorem dX1_nearestOf_28 : decode cX1_nearestOf 28 = .ok (.iload_n 1, 1) := by decide +kernel
theorem dX1_nearestOf_29 : decode cX1_nearestOf 29 = .ok (.iload 5, 2) := by decide +kernel
theorem dX1_nearestOf_31 : decode cX1_nearestOf 31 = .ok (.invokevirtual 90, 3) := by decide +kernel
theorem dX1_nearestOf_34 : decode cX1_nearestOf 34 = .ok (.iload 4, 2) := by decide +kernel
theorem dX1_nearestOf_36 : decode cX1_nearestOf 36 = .ok (.if_icmp .ge 15, 3) := by decide +kernel
theorem dX1_nearestOf_39 : decode cX1_nearestOf 39 = .ok (.iload 5, 2) := by decide +kernel
theorem dX1_nearestOf_41 : decode cX1_nearestOf 41 = .ok (.istore_n 3, 1) := by decide +kernel
theorem dX1_nearestOf_42 : decode cX1_nearestOf 42 = .ok (.aload_n 0, 1) := by decide +kernel
theorem dX1_nearestOf_43 : decode cX1_nearestOf 43 = .ok (.iload_n 1, 1) := by decide +kernel
theorem dX1_nearestOf_44 : decode cX1_nearestOf 44 = .ok (.iload 5, 2) := by decide +kernel
theorem dX1_nearestOf_46 : decode cX1_nearestOf 46 = .ok (.invokevirtual 90, 3) := by decide +kernel
theorem dX1_nearestOf_49 : decode cX1_nearestOf 49 = .ok (.istore 4, 2) := by decide +kernel
theorem dX1_nearestOf_51 : decode cX1_nearestOf 51 = .ok (.iinc 5 1, 3) := by decide +kernel
theorem dX1_nearestOf_54 : decode cX1_nearestOf 54 = .ok (.goto (-45), 3) := by decide +kernel
theorem dX1_nearestOf_57 : decode cX1_nearestOf 57 = .ok (.iload_n 3, 1) := by decide +kernel
theorem dX1_nearestOf_58 : decode cX1_nearestOf 58 = .ok (.ireturn, 1) := by decide +kernel
theorem dX1_weighOnward_0 : decode cX1_weighOnward 0 = .ok (.iconst 1, 1) := by decide +kernel
theorem dX1_weighOnward_1 : decode cX1_weighOnward 1 = .ok (.istore_n 1, 1) := by decide +kernel
theorem dX1_weighOnward_2 : decode cX1_weighOnward 2 = .ok (.iload_n 1, 1) := by decide +kernel
theorem dX1_weighOnward_3 : decode cX1_weighOnward 3 = .ok (.aload_n 0, 1) := by decide +kernel
theorem dX1_weighOnward_4 : decode cX1_weighOnward 4 = .ok (.invokevirtual 80, 3) := by decide +kernel
theorem dX1_weighOnward_7 : decode cX1_weighOnward 7 = .ok (.if_icmp .gt 52, 3) := by decide +kernel
theorem dX1_weighOnward_10 : decode cX1_weighOnward 10 = .ok (.iconst 0, 1) := by decide +kernel
theorem dX1_weighOnward_11 : decode cX1_weighOnward 11 = .ok (.istore_n 2, 1) := by decide +kernel
theorem dX1_weighOnward_12 : decode cX1_weighOnward 12 = .ok (.iload_n 2, 1) := by decide +kernel
theorem dX1_weighOnward_13 : decode cX1_weighOnward 13 = .ok (.aload_n 0, 1) := by decide +kernel
theorem dX1_weighOnward_14 : decode cX1_weighOnward 14 = .ok (.getfield 9, 3) := by decide +kernel
theorem dX1_weighOnward_17 : decode cX1_weighOnward 17 = .ok (.if_icmp .ge 36, 3) := by decide +kernel
theorem dX1_weighOnward_20 : decode cX1_weighOnward 20 = .ok (.iload_n 1, 1) := by decide +kernel
theorem dX1_weighOnward_21 : decode cX1_weighOnward 21 = .ok (.iload_n 2, 1) := by decide +kernel
theorem dX1_weighOnward_22 : decode cX1_weighOnward 22 = .ok (.invokestatic 100, 3) := by decide +kernel
theorem dX1_weighOnward_25 : decode cX1_weighOnward 25 = .ok (.ifCond .ne 22, 3) := by decide +kernel
theorem dX1_weighOnward_28 : decode cX1_weighOnward 28 = .ok (.aload_n 0, 1) := by decide +kernel
theorem dX1_weighOnward_29 : decode cX1_weighOnward 29 = .ok (.getfield 19, 3) := by decide +kernel
theorem dX1_weighOnward_32 : decode cX1_weighOnward 32 = .ok (.iload_n 1, 1) := by decide +kernel
theorem dX1_weighOnward_33 : decode cX1_weighOnward 33 = .ok (.bipush 10, 2) := by decide +kernel
theorem dX1_weighOnward_35 : decode cX1_weighOnward 35 = .ok (.imul, 1) := by decide +kernel
theorem dX1_weighOnward_36 : decode cX1_weighOnward 36 = .ok (.iload_n 2, 1) := by decide +kernel
theorem dX1_weighOnward_37 : decode cX1_weighOnward 37 = .ok (.iadd, 1) := by decide +kernel
theorem dX1_weighOnward_38 : decode cX1_weighOnward 38 = .ok (.aload_n 0, 1) := by decide +kernel
theorem dX1_weighOnward_39 : decode cX1_weighOnward 39 = .ok (.iload_n 2, 1) := by decide +kernel
theorem dX1_weighOnward_40 : decode cX1_weighOnward 40 = .ok (.iconst 1, 1) := by decide +kernel
theorem dX1_weighOnward_41 : decode cX1_weighOnward 41 = .ok (.iadd, 1) := by decide +kernel
theorem dX1_weighOnward_42 : decode cX1_weighOnward 42 = .ok (.iload_n 1, 1) := by decide +kernel
theorem dX1_weighOnward_43 : decode cX1_weighOnward 43 = .ok (.invokevirtual 104, 3) := by decide +kernel
theorem dX1_weighOnward_46 : decode cX1_weighOnward 46 = .ok (.iastore, 1) := by decide +kernel
theorem dX1_weighOnward_47 : decode cX1_weighOnward 47 = .ok (.iinc 2 1, 3) := by decide +kernel
theorem dX1_weighOnward_50 : decode cX1_weighOnward 50 = .ok (.goto (-38), 3) := by decide +kernel
theorem dX1_weighOnward_53 : decode cX1_weighOnward 53 = .ok (.iinc 1 1, 3) := by decide +kernel
theorem dX1_weighOnward_56 : decode cX1_weighOnward 56 = .ok (.goto (-54), 3) := by decide +kernel
theorem dX1_weighOnward_59 : decode cX1_weighOnward 59 = .ok (.return_, 1) := by decide +kernel
theorem dX1_leastThrough_0 : decode cX1_leastThrough 0 = .ok (.ldc 99, 2) := by decide +kernel
theorem dX1_leastThrough_2 : decode cX1_leastThrough 2 = .ok (.istore_n 3, 1) := by decide +kernel
theorem dX1_leastThrough_3 : decode cX1_leastThrough 3 = .ok (.iconst 0, 1) := by decide +kernel
theorem dX1_leastThrough_4 : decode cX1_leastThrough 4 = .ok (.istore 4, 2) := by decide +kernel
theorem dX1_leastThrough_6 : decode cX1_leastThrough 6 = .ok (.iload 4, 2) := by decide +kernel
theorem dX1_leastThrough_8 : decode cX1_leastThrough 8 = .ok (.aload_n 0, 1) := by decide +kernel
theorem dX1_leastThrough_9 : decode cX1_leastThrough 9 = .ok (.getfield 9, 3) := by decide +kernel
theorem dX1_leastThrough_12 : decode cX1_leastThrough 12 = .ok (.if_icmp .ge 61, 3) := by decide +kernel
theorem dX1_leastThrough_15 : decode cX1_leastThrough 15 = .ok (.iconst 1, 1) := by decide +kernel
theorem dX1_leastThrough_16 : decode cX1_leastThrough 16 = .ok (.iload 4, 2) := by decide +kernel
theorem dX1_leastThrough_18 : decode cX1_leastThrough 18 = .ok (.ishl, 1) := by decide +kernel
theorem dX1_leastThrough_19 : decode cX1_leastThrough 19 = .ok (.istore 5, 2) := by decide +kernel
theorem dX1_leastThrough_21 : decode cX1_leastThrough 21 = .ok (.iload_n 2, 1) := by decide +kernel
theorem dX1_leastThrough_22 : decode cX1_leastThrough 22 = .ok (.iload 5, 2) := by decide +kernel
theorem dX1_leastThrough_24 : decode cX1_leastThrough 24 = .ok (.iand, 1) := by decide +kernel
theorem dX1_leastThrough_25 : decode cX1_leastThrough 25 = .ok (.ifCond .eq 42, 3) := by decide +kernel
theorem dX1_leastThrough_28 : decode cX1_leastThrough 28 = .ok (.aload_n 0, 1) := by decide +kernel
theorem dX1_leastThrough_29 : decode cX1_leastThrough 29 = .ok (.getfield 15, 3) := by decide +kernel
theorem dX1_leastThrough_32 : decode cX1_leastThrough 32 = .ok (.iload_n 1, 1) := by decide +kernel
theorem dX1_leastThrough_33 : decode cX1_leastThrough 33 = .ok (.bipush 10, 2) := by decide +kernel
theorem dX1_leastThrough_35 : decode cX1_leastThrough 35 = .ok (.imul, 1) := by decide +kernel
theorem dX1_leastThrough_36 : decode cX1_leastThrough 36 = .ok (.iload 4, 2) := by decide +kernel
theorem dX1_leastThrough_38 : decode cX1_leastThrough 38 = .ok (.iadd, 1) := by decide +kernel
theorem dX1_leastThrough_39 : decode cX1_leastThrough 39 = .ok (.iaload, 1) := by decide +kernel
theorem dX1_leastThrough_40 : decode cX1_leastThrough 40 = .ok (.aload_n 0, 1) := by decide +kernel
theorem dX1_leastThrough_41 : decode cX1_leastThrough 41 = .ok (.getfield 19, 3) := by decide +kernel
theorem dX1_leastThrough_44 : decode cX1_leastThrough 44 = .ok (.iload_n 2, 1) := by decide +kernel
theorem dX1_leastThrough_45 : decode cX1_leastThrough 45 = .ok (.iload 5, 2) := by decide +kernel
theorem dX1_leastThrough_47 : decode cX1_leastThrough 47 = .ok (.ixor, 1) := by decide +kernel
theorem dX1_leastThrough_48 : decode cX1_leastThrough 48 = .ok (.bipush 10, 2) := by decide +kernel
theorem dX1_leastThrough_50 : decode cX1_leastThrough 50 = .ok (.imul, 1) := by decide +kernel
theorem dX1_leastThrough_51 : decode cX1_leastThrough 51 = .ok (.iload 4, 2) := by decide +kernel
theorem dX1_leastThrough_53 : decode cX1_leastThrough 53 = .ok (.iadd, 1) := by decide +kernel
theorem dX1_leastThrough_54 : decode cX1_leastThrough 54 = .ok (.iaload, 1) := by decide +kernel
theorem dX1_leastThrough_55 : decode cX1_leastThrough 55 = .ok (.iadd, 1) := by decide +kernel
theorem dX1_leastThrough_56 : decode cX1_leastThrough 56 = .ok (.istore 6, 2) := by decide +kernel
theorem dX1_leastThrough_58 : decode cX1_leastThrough 58 = .ok (.iload 6, 2) := by decide +kernel
theorem dX1_leastThrough_60 : decode cX1_leastThrough 60 = .ok (.iload_n 3, 1) := by decide +kernel
theorem dX1_leastThrough_61 : decode cX1_leastThrough 61 = .ok (.if_icmp .ge 6, 3) := by decide +kernel
theorem dX1_leastThrough_64 : decode cX1_leastThrough 64 = .ok (.iload 6, 2) := by decide +kernel
theorem dX1_leastThrough_66 : decode cX1_leastThrough 66 = .ok (.istore_n 3, 1) := by decide +kernel
theorem dX1_leastThrough_67 : decode cX1_leastThrough 67 = .ok (.iinc 4 1, 3) := by decide +kernel
theorem dX1_leastThrough_70 : decode cX1_leastThrough 70 = .ok (.goto (-64), 3) := by decide +kernel
theorem dX1_leastThrough_73 : decode cX1_leastThrough 73 = .ok (.iload_n 3, 1) := by decide +kernel
theorem dX1_leastThrough_74 : decode cX1_leastThrough 74 = .ok (.ireturn, 1) := by decide +kernel
theorem dX1_firstOfBest_0 : decode cX1_firstOfBest 0 = .ok (.aload_n 0, 1) := by decide +kernel
theorem dX1_firstOfBest_1 : decode cX1_firstOfBest 1 = .ok (.iload_n 1, 1) := by decide +kernel
theorem dX1_firstOfBest_2 : decode cX1_firstOfBest 2 = .ok (.iload_n 2, 1) := by decide +kernel
theorem dX1_firstOfBest_3 : decode cX1_firstOfBest 3 = .ok (.invokevirtual 104, 3) := by decide +kernel
theorem dX1_firstOfBest_6 : decode cX1_firstOfBest 6 = .ok (.istore_n 3, 1) := by decide +kernel
theorem dX1_firstOfBest_7 : decode cX1_firstOfBest 7 = .ok (.iconst 0, 1) := by decide +kernel
theorem dX1_firstOfBest_8 : decode cX1_firstOfBest 8 = .ok (.istore 4, 2) := by decide +kernel
theorem dX1_firstOfBest_10 : decode cX1_firstOfBest 10 = .ok (.aload_n 0, 1) := by decide +kernel
theorem dX1_firstOfBest_11 : decode cX1_firstOfBest 11 = .ok (.getfield 9, 3) := by decide +kernel
theorem dX1_firstOfBest_14 : decode cX1_firstOfBest 14 = .ok (.iconst 1, 1) := by decide +kernel
theorem dX1_firstOfBest_15 : decode cX1_firstOfBest 15 = .ok (.isub, 1) := by decide +kernel
theorem dX1_firstOfBest_16 : decode cX1_firstOfBest 16 = .ok (.istore 5, 2) := by decide +kernel
theorem dX1_firstOfBest_18 : decode cX1_firstOfBest 18 = .ok (.iload 5, 2) := by decide +kernel
theorem dX1_firstOfBest_20 : decode cX1_firstOfBest 20 = .ok (.ifCond .lt 54, 3) := by decide +kernel
theorem dX1_firstOfBest_23 : decode cX1_firstOfBest 23 = .ok (.iload_n 2, 1) := by decide +kernel
theorem dX1_firstOfBest_24 : decode cX1_firstOfBest 24 = .ok (.iconst 1, 1) := by decide +kernel
theorem dX1_firstOfBest_25 : decode cX1_firstOfBest 25 = .ok (.iload 5, 2) := by decide +kernel
theorem dX1_firstOfBest_27 : decode cX1_firstOfBest 27 = .ok (.ishl, 1) := by decide +kernel
theorem dX1_firstOfBest_28 : decode cX1_firstOfBest 28 = .ok (.iconst (-1), 1) := by decide +kernel
theorem dX1_firstOfBest_29 : decode cX1_firstOfBest 29 = .ok (.ixor, 1) := by decide +kernel
theorem dX1_firstOfBest_30 : decode cX1_firstOfBest 30 = .ok (.iand, 1) := by decide +kernel
theorem dX1_firstOfBest_31 : decode cX1_firstOfBest 31 = .ok (.istore 6, 2) := by decide +kernel
theorem dX1_firstOfBest_33 : decode cX1_firstOfBest 33 = .ok (.iload 6, 2) := by decide +kernel
theorem dX1_firstOfBest_35 : decode cX1_firstOfBest 35 = .ok (.iload_n 2, 1) := by decide +kernel
theorem dX1_firstOfBest_36 : decode cX1_firstOfBest 36 = .ok (.if_icmp .eq 32, 3) := by decide +kernel
theorem dX1_firstOfBest_39 : decode cX1_firstOfBest 39 = .ok (.aload_n 0, 1) := by decide +kernel
theorem dX1_firstOfBest_40 : decode cX1_firstOfBest 40 = .ok (.iload_n 1, 1) := by decide +kernel
theorem dX1_firstOfBest_41 : decode cX1_firstOfBest 41 = .ok (.iload 5, 2) := by decide +kernel
theorem dX1_firstOfBest_43 : decode cX1_firstOfBest 43 = .ok (.invokevirtual 90, 3) := by decide +kernel
theorem dX1_firstOfBest_46 : decode cX1_firstOfBest 46 = .ok (.aload_n 0, 1) := by decide +kernel
theorem dX1_firstOfBest_47 : decode cX1_firstOfBest 47 = .ok (.getfield 19, 3) := by decide +kernel
theorem dX1_firstOfBest_50 : decode cX1_firstOfBest 50 = .ok (.iload 6, 2) := by decide +kernel
theorem dX1_firstOfBest_52 : decode cX1_firstOfBest 52 = .ok (.bipush 10, 2) := by decide +kernel
theorem dX1_firstOfBest_54 : decode cX1_firstOfBest 54 = .ok (.imul, 1) := by decide +kernel
theorem dX1_firstOfBest_55 : decode cX1_firstOfBest 55 = .ok (.iload 5, 2) := by decide +kernel
theorem dX1_firstOfBest_57 : decode cX1_firstOfBest 57 = .ok (.iadd, 1) := by decide +kernel
theorem dX1_firstOfBest_58 : decode cX1_firstOfBest 58 = .ok (.iaload, 1) := by decide +kernel
theorem dX1_firstOfBest_59 : decode cX1_firstOfBest 59 = .ok (.iadd, 1) := by decide +kernel
theorem dX1_firstOfBest_60 : decode cX1_firstOfBest 60 = .ok (.iload_n 3, 1) := by decide +kernel
theorem dX1_firstOfBest_61 : decode cX1_firstOfBest 61 = .ok (.if_icmp .ne 7, 3) := by decide +kernel
theorem dX1_firstOfBest_64 : decode cX1_firstOfBest 64 = .ok (.iload 5, 2) := by decide +kernel
theorem dX1_firstOfBest_66 : decode cX1_firstOfBest 66 = .ok (.istore 4, 2) := by decide +kernel
theorem dX1_firstOfBest_68 : decode cX1_firstOfBest 68 = .ok (.iinc 5 (-1), 3) := by decide +kernel
theorem dX1_firstOfBest_71 : decode cX1_firstOfBest 71 = .ok (.goto (-53), 3) := by decide +kernel
theorem dX1_firstOfBest_74 : decode cX1_firstOfBest 74 = .ok (.iload 4, 2) := by decide +kernel
theorem dX1_firstOfBest_76 : decode cX1_firstOfBest 76 = .ok (.ireturn, 1) := by decide +kernel
theorem dX2_init_0 : decode cX2_init 0 = .ok (.aload_n 0, 1) := by decide +kernel
theorem dX2_init_1 : decode cX2_init 1 = .ok (.invokespecial 3, 3) := by decide +kernel
theorem dX2_init_4 : decode cX2_init 4 = .ok (.aload_n 0, 1) := by decide +kernel
theorem dX2_init_5 : decode cX2_init 5 = .ok (.bipush 10, 2) := by decide +kernel
theorem dX2_init_7 : decode cX2_init 7 = .ok (.newarray .int, 2) := by decide +kernel
theorem dX2_init_9 : decode cX2_init 9 = .ok (.putfield 9, 3) := by decide +kernel
theorem dX2_init_12 : decode cX2_init 12 = .ok (.aload_n 0, 1) := by decide +kernel
theorem dX2_init_13 : decode cX2_init 13 = .ok (.iconst 0, 1) := by decide +kernel
theorem dX2_init_14 : decode cX2_init 14 = .ok (.putfield 15, 3) := by decide +kernel
theorem dX2_init_17 : decode cX2_init 17 = .ok (.aload_n 0, 1) := by decide +kernel
theorem dX2_init_18 : decode cX2_init 18 = .ok (.iconst 0, 1) := by decide +kernel
theorem dX2_init_19 : decode cX2_init 19 = .ok (.putfield 19, 3) := by decide +kernel
theorem dX2_init_22 : decode cX2_init 22 = .ok (.return_, 1) := by decide +kernel
theorem dX2_clear_0 : decode cX2_clear 0 = .ok (.aload_n 0, 1) := by decide +kernel
theorem dX2_clear_1 : decode cX2_clear 1 = .ok (.iconst 0, 1) := by decide +kernel
theorem dX2_clear_2 : decode cX2_clear 2 = .ok (.putfield 15, 3) := by decide +kernel
theorem dX2_clear_5 : decode cX2_clear 5 = .ok (.aload_n 0, 1) := by decide +kernel
theorem dX2_clear_6 : decode cX2_clear 6 = .ok (.iconst 0, 1) := by decide +kernel
theorem dX2_clear_7 : decode cX2_clear 7 = .ok (.putfield 19, 3) := by decide +kernel
theorem dX2_clear_10 : decode cX2_clear 10 = .ok (.return_, 1) := by decide +kernel
theorem dX2_append_0 : decode cX2_append 0 = .ok (.aload_n 0, 1) := by decide +kernel
theorem dX2_append_1 : decode cX2_append 1 = .ok (.getfield 15, 3) := by decide +kernel
theorem dX2_append_4 : decode cX2_append 4 = .ok (.bipush 10, 2) := by decide +kernel
theorem dX2_append_6 : decode cX2_append 6 = .ok (.if_icmp .lt 4, 3) := by decide +kernel
theorem dX2_append_9 : decode cX2_append 9 = .ok (.return_, 1) := by decide +kernel
theorem dX2_append_10 : decode cX2_append 10 = .ok (.aload_n 0, 1) := by decide +kernel
theorem dX2_append_11 : decode cX2_append 11 = .ok (.getfield 9, 3) := by decide +kernel
theorem dX2_append_14 : decode cX2_append 14 = .ok (.aload_n 0, 1) := by decide +kernel
theorem dX2_append_15 : decode cX2_append 15 = .ok (.getfield 15, 3) := by decide +kernel
theorem dX2_append_18 : decode cX2_append 18 = .ok (.iload_n 1, 1) := by decide +kernel
theorem dX2_append_19 : decode cX2_append 19 = .ok (.iastore, 1) := by decide +kernel
theorem dX2_append_20 : decode cX2_append 20 = .ok (.aload_n 0, 1) := by decide +kernel
theorem dX2_append_21 : decode cX2_append 21 = .ok (.dup, 1) := by decide +kernel
theorem dX2_append_22 : decode cX2_append 22 = .ok (.getfield 15, 3) := by decide +kernel
theorem dX2_append_25 : decode cX2_append 25 = .ok (.iconst 1, 1) := by decide +kernel
theorem dX2_append_26 : decode cX2_append 26 = .ok (.iadd, 1) := by decide +kernel
theorem dX2_append_27 : decode cX2_append 27 = .ok (.putfield 15, 3) := by decide +kernel
theorem dX2_append_30 : decode cX2_append 30 = .ok (.aload_n 0, 1) := by decide +kernel
theorem dX2_append_31 : decode cX2_append 31 = .ok (.dup, 1) := by decide +kernel
theorem dX2_append_32 : decode cX2_append 32 = .ok (.getfield 19, 3) := by decide +kernel
theorem dX2_append_35 : decode cX2_append 35 = .ok (.iload_n 2, 1) := by decide +kernel
theorem dX2_append_36 : decode cX2_append 36 = .ok (.iadd, 1) := by decide +kernel
theorem dX2_append_37 : decode cX2_append 37 = .ok (.putfield 19, 3) := by decide +kernel
theorem dX2_append_40 : decode cX2_append 40 = .ok (.return_, 1) := by decide +kernel
theorem dX2_tell_0 : decode cX2_tell 0 = .ok (.iload_n 1, 1) := by decide +kernel
theorem dX2_tell_1 : decode cX2_tell 1 = .ok (.iconst (-1), 1) := by decide +kernel
theorem dX2_tell_2 : decode cX2_tell 2 = .ok (.if_icmp .ne 8, 3) := by decide +kernel
theorem dX2_tell_5 : decode cX2_tell 5 = .ok (.aload_n 0, 1) := by decide +kernel
theorem dX2_tell_6 : decode cX2_tell 6 = .ok (.getfield 19, 3) := by decide +kernel
theorem dX2_tell_9 : decode cX2_tell 9 = .ok (.ireturn, 1) := by decide +kernel
theorem dX2_tell_10 : decode cX2_tell 10 = .ok (.iload_n 1, 1) := by decide +kernel
theorem dX2_tell_11 : decode cX2_tell 11 = .ok (.ifCond .lt 20, 3) := by decide +kernel
theorem dX2_tell_14 : decode cX2_tell 14 = .ok (.iload_n 1, 1) := by decide +kernel
theorem dX2_tell_15 : decode cX2_tell 15 = .ok (.aload_n 0, 1) := by decide +kernel
theorem dX2_tell_16 : decode cX2_tell 16 = .ok (.getfield 15, 3) := by decide +kernel
theorem dX2_tell_19 : decode cX2_tell 19 = .ok (.if_icmp .ge 12, 3) := by decide +kernel
theorem dX2_tell_22 : decode cX2_tell 22 = .ok (.aload_n 0, 1) := by decide +kernel
theorem dX2_tell_23 : decode cX2_tell 23 = .ok (.getfield 9, 3) := by decide +kernel
theorem dX2_tell_26 : decode cX2_tell 26 = .ok (.iload_n 1, 1) := by decide +kernel
theorem dX2_tell_27 : decode cX2_tell 27 = .ok (.iaload, 1) := by decide +kernel
theorem dX2_tell_28 : decode cX2_tell 28 = .ok (.goto 5, 3) := by decide +kernel
theorem dX2_tell_31 : decode cX2_tell 31 = .ok (.bipush (-6), 2) := by decide +kernel
theorem dX2_tell_33 : decode cX2_tell 33 = .ok (.ireturn, 1) := by decide +kernel
theorem dX3_init_0 : decode cX3_init 0 = .ok (.aload_n 0, 1) := by decide +kernel
theorem dX3_init_1 : decode cX3_init 1 = .ok (.invokespecial 3, 3) := by decide +kernel
theorem dX3_init_4 : decode cX3_init 4 = .ok (.aload_n 0, 1) := by decide +kernel
theorem dX3_init_5 : decode cX3_init 5 = .ok (.bipush 24, 2) := by decide +kernel
theorem dX3_init_7 : decode cX3_init 7 = .ok (.newarray .int, 2) := by decide +kernel
theorem dX3_init_9 : decode cX3_init 9 = .ok (.putfield 9, 3) := by decide +kernel
theorem dX3_init_12 : decode cX3_init 12 = .ok (.aload_n 0, 1) := by decide +kernel
theorem dX3_init_13 : decode cX3_init 13 = .ok (.iconst 0, 1) := by decide +kernel
theorem dX3_init_14 : decode cX3_init 14 = .ok (.putfield 15, 3) := by decide +kernel
theorem dX3_init_17 : decode cX3_init 17 = .ok (.return_, 1) := by decide +kernel
theorem dX3_write_0 : decode cX3_write 0 = .ok (.aload_n 0, 1) := by decide +kernel
theorem dX3_write_1 : decode cX3_write 1 = .ok (.getfield 9, 3) := by decide +kernel
theorem dX3_write_4 : decode cX3_write 4 = .ok (.aload_n 0, 1) := by decide +kernel
theorem dX3_write_5 : decode cX3_write 5 = .ok (.getfield 15, 3) := by decide +kernel
theorem dX3_write_8 : decode cX3_write 8 = .ok (.iload_n 1, 1) := by decide +kernel
theorem dX3_write_9 : decode cX3_write 9 = .ok (.iastore, 1) := by decide +kernel
theorem dX3_write_10 : decode cX3_write 10 = .ok (.aload_n 0, 1) := by decide +kernel
theorem dX3_write_11 : decode cX3_write 11 = .ok (.dup, 1) := by decide +kernel
theorem dX3_write_12 : decode cX3_write 12 = .ok (.getfield 15, 3) := by decide +kernel
theorem dX3_write_15 : decode cX3_write 15 = .ok (.iconst 1, 1) := by decide +kernel
theorem dX3_write_16 : decode cX3_write 16 = .ok (.iadd, 1) := by decide +kernel
theorem dX3_write_17 : decode cX3_write 17 = .ok (.putfield 15, 3) := by decide +kernel
theorem dX3_write_20 : decode cX3_write 20 = .ok (.return_, 1) := by decide +kernel
theorem dX3_tryAt_0 : decode cX3_tryAt 0 = .ok (.aload_n 0, 1) := by decide +kernel
theorem dX3_tryAt_1 : decode cX3_tryAt 1 = .ok (.getfield 9, 3) := by decide +kernel
theorem dX3_tryAt_4 : decode cX3_tryAt 4 = .ok (.iload_n 1, 1) := by decide +kernel
theorem dX3_tryAt_5 : decode cX3_tryAt 5 = .ok (.iaload, 1) := by decide +kernel
theorem dX3_tryAt_6 : decode cX3_tryAt 6 = .ok (.bipush 97, 2) := by decide +kernel
theorem dX3_tryAt_8 : decode cX3_tryAt 8 = .ok (.isub, 1) := by decide +kernel
theorem dX3_tryAt_9 : decode cX3_tryAt 9 = .ok (.ireturn, 1) := by decide +kernel
theorem dX3_tellsOrderOf_0 : decode cX3_tellsOrderOf 0 = .ok (.aload_n 0, 1) := by decide +kernel
theorem dX3_tellsOrderOf_1 : decode cX3_tellsOrderOf 1 = .ok (.getfield 15, 3) := by decide +kernel
theorem dX3_tellsOrderOf_4 : decode cX3_tellsOrderOf 4 = .ok (.iload_n 1, 1) := by decide +kernel
theorem dX3_tellsOrderOf_5 : decode cX3_tellsOrderOf 5 = .ok (.if_icmp .eq 5, 3) := by decide +kernel
theorem dX3_tellsOrderOf_8 : decode cX3_tellsOrderOf 8 = .ok (.iconst 0, 1) := by decide +kernel
theorem dX3_tellsOrderOf_9 : decode cX3_tellsOrderOf 9 = .ok (.ireturn, 1) := by decide +kernel
theorem dX3_tellsOrderOf_10 : decode cX3_tellsOrderOf 10 = .ok (.iconst 0, 1) := by decide +kernel
theorem dX3_tellsOrderOf_11 : decode cX3_tellsOrderOf 11 = .ok (.istore_n 2, 1) := by decide +kernel
theorem dX3_tellsOrderOf_12 : decode cX3_tellsOrderOf 12 = .ok (.iconst 0, 1) := by decide +kernel
theorem dX3_tellsOrderOf_13 : decode cX3_tellsOrderOf 13 = .ok (.istore_n 3, 1) := by decide +kernel
theorem dX3_tellsOrderOf_14 : decode cX3_tellsOrderOf 14 = .ok (.iload_n 3, 1) := by decide +kernel
theorem dX3_tellsOrderOf_15 : decode cX3_tellsOrderOf 15 = .ok (.aload_n 0, 1) := by decide +kernel
theorem dX3_tellsOrderOf_16 : decode cX3_tellsOrderOf 16 = .ok (.getfield 15, 3) := by decide +kernel
theorem dX3_tellsOrderOf_19 : decode cX3_tellsOrderOf 19 = .ok (.if_icmp .ge 45, 3) := by decide +kernel
theorem dX3_tellsOrderOf_22 : decode cX3_tellsOrderOf 22 = .ok (.aload_n 0, 1) := by decide +kernel
theorem dX3_tellsOrderOf_23 : decode cX3_tellsOrderOf 23 = .ok (.iload_n 3, 1) := by decide +kernel
theorem dX3_tellsOrderOf_24 : decode cX3_tellsOrderOf 24 = .ok (.invokevirtual 19, 3) := by decide +kernel
theorem dX3_tellsOrderOf_27 : decode cX3_tellsOrderOf 27 = .ok (.istore 4, 2) := by decide +kernel
theorem dX3_tellsOrderOf_29 : decode cX3_tellsOrderOf 29 = .ok (.iload 4, 2) := by decide +kernel
theorem dX3_tellsOrderOf_31 : decode cX3_tellsOrderOf 31 = .ok (.ifCond .lt 18, 3) := by decide +kernel
theorem dX3_tellsOrderOf_34 : decode cX3_tellsOrderOf 34 = .ok (.iload 4, 2) := by decide +kernel
theorem dX3_tellsOrderOf_36 : decode cX3_tellsOrderOf 36 = .ok (.iload_n 1, 1) := by decide +kernel
theorem dX3_tellsOrderOf_37 : decode cX3_tellsOrderOf 37 = .ok (.if_icmp .ge 12, 3) := by decide +kernel
theorem dX3_tellsOrderOf_40 : decode cX3_tellsOrderOf 40 = .ok (.iload_n 2, 1) := by decide +kernel
theorem dX3_tellsOrderOf_41 : decode cX3_tellsOrderOf 41 = .ok (.iload 4, 2) := by decide +kernel
theorem dX3_tellsOrderOf_43 : decode cX3_tellsOrderOf 43 = .ok (.invokestatic 23, 3) := by decide +kernel
theorem dX3_tellsOrderOf_46 : decode cX3_tellsOrderOf 46 = .ok (.ifCond .eq 5, 3) := by decide +kernel
theorem dX3_tellsOrderOf_49 : decode cX3_tellsOrderOf 49 = .ok (.iconst 0, 1) := by decide +kernel
theorem dX3_tellsOrderOf_50 : decode cX3_tellsOrderOf 50 = .ok (.ireturn, 1) := by decide +kernel
theorem dX3_tellsOrderOf_51 : decode cX3_tellsOrderOf 51 = .ok (.iload_n 2, 1) := by decide +kernel
theorem dX3_tellsOrderOf_52 : decode cX3_tellsOrderOf 52 = .ok (.iconst 1, 1) := by decide +kernel
theorem dX3_tellsOrderOf_53 : decode cX3_tellsOrderOf 53 = .ok (.iload 4, 2) := by decide +kernel
theorem dX3_tellsOrderOf_55 : decode cX3_tellsOrderOf 55 = .ok (.ishl, 1) := by decide +kernel
theorem dX3_tellsOrderOf_56 : decode cX3_tellsOrderOf 56 = .ok (.ior, 1) := by decide +kernel
theorem dX3_tellsOrderOf_57 : decode cX3_tellsOrderOf 57 = .ok (.istore_n 2, 1) := by decide +kernel
theorem dX3_tellsOrderOf_58 : decode cX3_tellsOrderOf 58 = .ok (.iinc 3 1, 3) := by decide +kernel
theorem dX3_tellsOrderOf_61 : decode cX3_tellsOrderOf 61 = .ok (.goto (-47), 3) := by decide +kernel
theorem dX3_tellsOrderOf_64 : decode cX3_tellsOrderOf 64 = .ok (.iconst 1, 1) := by decide +kernel
theorem dX3_tellsOrderOf_65 : decode cX3_tellsOrderOf 65 = .ok (.ireturn, 1) := by decide +kernel
theorem dX4_init_0 : decode cX4_init 0 = .ok (.aload_n 0, 1) := by decide +kernel
theorem dX4_init_1 : decode cX4_init 1 = .ok (.invokespecial 3, 3) := by decide +kernel
theorem dX4_init_4 : decode cX4_init 4 = .ok (.aload_n 0, 1) := by decide +kernel
theorem dX4_init_5 : decode cX4_init 5 = .ok (.bipush 10, 2) := by decide +kernel
theorem dX4_init_7 : decode cX4_init 7 = .ok (.newarray .int, 2) := by decide +kernel
theorem dX4_init_9 : decode cX4_init 9 = .ok (.putfield 9, 3) := by decide +kernel
theorem dX4_init_12 : decode cX4_init 12 = .ok (.aload_n 0, 1) := by decide +kernel
theorem dX4_init_13 : decode cX4_init 13 = .ok (.bipush 10, 2) := by decide +kernel
theorem dX4_init_15 : decode cX4_init 15 = .ok (.newarray .int, 2) := by decide +kernel
theorem dX4_init_17 : decode cX4_init 17 = .ok (.putfield 15, 3) := by decide +kernel
theorem dX4_init_20 : decode cX4_init 20 = .ok (.aload_n 0, 1) := by decide +kernel
theorem dX4_init_21 : decode cX4_init 21 = .ok (.iconst 0, 1) := by decide +kernel
theorem dX4_init_22 : decode cX4_init 22 = .ok (.putfield 18, 3) := by decide +kernel
theorem dX4_init_25 : decode cX4_init 25 = .ok (.aload_n 0, 1) := by decide +kernel
theorem dX4_init_26 : decode cX4_init 26 = .ok (.iconst 0, 1) := by decide +kernel
theorem dX4_init_27 : decode cX4_init 27 = .ok (.putfield 22, 3) := by decide +kernel
theorem dX4_init_30 : decode cX4_init 30 = .ok (.aload_n 0, 1) := by decide +kernel
theorem dX4_init_31 : decode cX4_init 31 = .ok (.bipush 8, 2) := by decide +kernel
theorem dX4_init_33 : decode cX4_init 33 = .ok (.newarray .int, 2) := by decide +kernel
theorem dX4_init_35 : decode cX4_init 35 = .ok (.putfield 25, 3) := by decide +kernel
theorem dX4_init_38 : decode cX4_init 38 = .ok (.aload_n 0, 1) := by decide +kernel
theorem dX4_init_39 : decode cX4_init 39 = .ok (.bipush 8, 2) := by decide +kernel
theorem dX4_init_41 : decode cX4_init 41 = .ok (.newarray .int, 2) := by decide +kernel
theorem dX4_init_43 : decode cX4_init 43 = .ok (.putfield 28, 3) := by decide +kernel
theorem dX4_init_46 : decode cX4_init 46 = .ok (.return_, 1) := by decide +kernel
theorem dX4_layOut_0 : decode cX4_layOut 0 = .ok (.aload_n 0, 1) := by decide +kernel
theorem dX4_layOut_1 : decode cX4_layOut 1 = .ok (.iconst 0, 1) := by decide +kernel
theorem dX4_layOut_2 : decode cX4_layOut 2 = .ok (.putfield 18, 3) := by decide +kernel
theorem dX4_layOut_5 : decode cX4_layOut 5 = .ok (.aload_n 0, 1) := by decide +kernel
theorem dX4_layOut_6 : decode cX4_layOut 6 = .ok (.aload_n 1, 1) := by decide +kernel
theorem dX4_layOut_7 : decode cX4_layOut 7 = .ok (.invokevirtual 31, 3) := by decide +kernel
theorem dX4_layOut_10 : decode cX4_layOut 10 = .ok (.aload_n 0, 1) := by decide +kernel
theorem dX4_layOut_11 : decode cX4_layOut 11 = .ok (.aload_n 1, 1) := by decide +kernel
theorem dX4_layOut_12 : decode cX4_layOut 12 = .ok (.invokevirtual 35, 3) := by decide +kernel
theorem dX4_layOut_15 : decode cX4_layOut 15 = .ok (.aload_n 0, 1) := by decide +kernel
theorem dX4_layOut_16 : decode cX4_layOut 16 = .ok (.aload_n 0, 1) := by decide +kernel
theorem dX4_layOut_17 : decode cX4_layOut 17 = .ok (.getfield 18, 3) := by decide +kernel
theorem dX4_layOut_20 : decode cX4_layOut 20 = .ok (.putfield 22, 3) := by decide +kernel
theorem dX4_layOut_23 : decode cX4_layOut 23 = .ok (.aload_n 0, 1) := by decide +kernel
theorem dX4_layOut_24 : decode cX4_layOut 24 = .ok (.aload_n 1, 1) := by decide +kernel
theorem dX4_layOut_25 : decode cX4_layOut 25 = .ok (.invokevirtual 38, 3) := by decide +kernel
theorem dX4_layOut_28 : decode cX4_layOut 28 = .ok (.return_, 1) := by decide +kernel
theorem dX4_hasTry_0 : decode cX4_hasTry 0 = .ok (.iload_n 1, 1) := by decide +kernel
theorem dX4_hasTry_1 : decode cX4_hasTry 1 = .ok (.ifCond .lt 15, 3) := by decide +kernel
theorem dX4_hasTry_4 : decode cX4_hasTry 4 = .ok (.iload_n 1, 1) := by decide +kernel
theorem dX4_hasTry_5 : decode cX4_hasTry 5 = .ok (.aload_n 0, 1) := by decide +kernel
theorem dX4_hasTry_6 : decode cX4_hasTry 6 = .ok (.getfield 18, 3) := by decide +kernel
theorem dX4_hasTry_9 : decode cX4_hasTry 9 = .ok (.if_icmp .ge 7, 3) := by decide +kernel
theorem dX4_hasTry_12 : decode cX4_hasTry 12 = .ok (.iconst 1, 1) := by decide +kernel
theorem dX4_hasTry_13 : decode cX4_hasTry 13 = .ok (.goto 4, 3) := by decide +kernel
theorem dX4_hasTry_16 : decode cX4_hasTry 16 = .ok (.iconst 0, 1) := by decide +kernel
theorem dX4_hasTry_17 : decode cX4_hasTry 17 = .ok (.ireturn, 1) := by decide +kernel
theorem dX4_isOfNeighbours_0 : decode cX4_isOfNeighbours 0 = .ok (.iload_n 1, 1) := by decide +kernel
theorem dX4_isOfNeighbours_1 : decode cX4_isOfNeighbours 1 = .ok (.aload_n 0, 1) := by decide +kernel
theorem dX4_isOfNeighbours_2 : decode cX4_isOfNeighbours 2 = .ok (.getfield 22, 3) := by decide +kernel
theorem dX4_isOfNeighbours_5 : decode cX4_isOfNeighbours 5 = .ok (.if_icmp .lt 7, 3) := by decide +kernel
theorem dX4_isOfNeighbours_8 : decode cX4_isOfNeighbours 8 = .ok (.iconst 1, 1) := by decide +kernel
theorem dX4_isOfNeighbours_9 : decode cX4_isOfNeighbours 9 = .ok (.goto 4, 3) := by decide +kernel
theorem dX4_isOfNeighbours_12 : decode cX4_isOfNeighbours 12 = .ok (.iconst 0, 1) := by decide +kernel
theorem dX4_isOfNeighbours_13 : decode cX4_isOfNeighbours 13 = .ok (.ireturn, 1) := by decide +kernel
theorem dX4_growTrees_0 : decode cX4_growTrees 0 = .ok (.iconst 0, 1) := by decide +kernel
theorem dX4_growTrees_1 : decode cX4_growTrees 1 = .ok (.istore_n 2, 1) := by decide +kernel
theorem dX4_growTrees_2 : decode cX4_growTrees 2 = .ok (.iload_n 2, 1) := by decide +kernel
theorem dX4_growTrees_3 : decode cX4_growTrees 3 = .ok (.bipush 8, 2) := by decide +kernel
theorem dX4_growTrees_5 : decode cX4_growTrees 5 = .ok (.if_icmp .ge 23, 3) := by decide +kernel
theorem dX4_growTrees_8 : decode cX4_growTrees 8 = .ok (.aload_n 0, 1) := by decide +kernel
theorem dX4_growTrees_9 : decode cX4_growTrees 9 = .ok (.getfield 25, 3) := by decide +kernel
theorem dX4_growTrees_12 : decode cX4_growTrees 12 = .ok (.iload_n 2, 1) := by decide +kernel
theorem dX4_growTrees_13 : decode cX4_growTrees 13 = .ok (.iload_n 2, 1) := by decide +kernel
theorem dX4_growTrees_14 : decode cX4_growTrees 14 = .ok (.iastore, 1) := by decide +kernel
theorem dX4_growTrees_15 : decode cX4_growTrees 15 = .ok (.aload_n 0, 1) := by decide +kernel
theorem dX4_growTrees_16 : decode cX4_growTrees 16 = .ok (.getfield 28, 3) := by decide +kernel
theorem dX4_growTrees_19 : decode cX4_growTrees 19 = .ok (.iload_n 2, 1) := by decide +kernel
theorem dX4_growTrees_20 : decode cX4_growTrees 20 = .ok (.iconst 0, 1) := by decide +kernel
theorem dX4_growTrees_21 : decode cX4_growTrees 21 = .ok (.iastore, 1) := by decide +kernel
theorem dX4_growTrees_22 : decode cX4_growTrees 22 = .ok (.iinc 2 1, 3) := by decide +kernel
theorem dX4_growTrees_25 : decode cX4_growTrees 25 = .ok (.goto (-23), 3) := by decide +kernel
theorem dX4_growTrees_28 : decode cX4_growTrees 28 = .ok (.iconst 1, 1) := by decide +kernel
theorem dX4_growTrees_29 : decode cX4_growTrees 29 = .ok (.istore_n 2, 1) := by decide +kernel
theorem dX4_growTrees_30 : decode cX4_growTrees 30 = .ok (.iconst 1, 1) := by decide +kernel
theorem dX4_growTrees_31 : decode cX4_growTrees 31 = .ok (.istore_n 3, 1) := by decide +kernel
theorem dX4_growTrees_32 : decode cX4_growTrees 32 = .ok (.iload_n 3, 1) := by decide +kernel
theorem dX4_growTrees_33 : decode cX4_growTrees 33 = .ok (.aload_n 1, 1) := by decide +kernel
theorem dX4_growTrees_34 : decode cX4_growTrees 34 = .ok (.getfield 41, 3) := by decide +kernel
theorem dX4_growTrees_37 : decode cX4_growTrees 37 = .ok (.if_icmp .ge 19, 3) := by decide +kernel
theorem dX4_growTrees_40 : decode cX4_growTrees 40 = .ok (.iload_n 2, 1) := by decide +kernel
theorem dX4_growTrees_41 : decode cX4_growTrees 41 = .ok (.ifCond .eq 15, 3) := by decide +kernel
theorem dX4_growTrees_44 : decode cX4_growTrees 44 = .ok (.aload_n 0, 1) := by decide +kernel
theorem dX4_growTrees_45 : decode cX4_growTrees 45 = .ok (.aload_n 1, 1) := by decide +kernel
theorem dX4_growTrees_46 : decode cX4_growTrees 46 = .ok (.invokevirtual 46, 3) := by decide +kernel
end
section
theorem dX4_growTrees_49 : decode cX4_growTrees 49 = .ok (.istore_n 2, 1) := by decide +kernel
theorem dX4_growTrees_50 : decode cX4_growTrees 50 = .ok (.iinc 3 1, 3) := by decide +kernel
theorem dX4_growTrees_53 : decode cX4_growTrees 53 = .ok (.goto (-21), 3) := by decide +kernel
theorem dX4_growTrees_56 : decode cX4_growTrees 56 = .ok (.return_, 1) := by decide +kernel
theorem dX4_joinNextPair_0 : decode cX4_joinNextPair 0 = .ok (.iconst (-1), 1) := by decide +kernel
theorem dX4_joinNextPair_1 : decode cX4_joinNextPair 1 = .ok (.istore_n 2, 1) := by decide +kernel
theorem dX4_joinNextPair_2 : decode cX4_joinNextPair 2 = .ok (.iconst (-1), 1) := by decide +kernel
theorem dX4_joinNextPair_3 : decode cX4_joinNextPair 3 = .ok (.istore_n 3, 1) := by decide +kernel
theorem dX4_joinNextPair_4 : decode cX4_joinNextPair 4 = .ok (.iconst 0, 1) := by decide +kernel
theorem dX4_joinNextPair_5 : decode cX4_joinNextPair 5 = .ok (.istore 4, 2) := by decide +kernel
theorem dX4_joinNextPair_7 : decode cX4_joinNextPair 7 = .ok (.iconst 0, 1) := by decide +kernel
theorem dX4_joinNextPair_8 : decode cX4_joinNextPair 8 = .ok (.istore 5, 2) := by decide +kernel
theorem dX4_joinNextPair_10 : decode cX4_joinNextPair 10 = .ok (.iload 5, 2) := by decide +kernel
theorem dX4_joinNextPair_12 : decode cX4_joinNextPair 12 = .ok (.aload_n 1, 1) := by decide +kernel
theorem dX4_joinNextPair_13 : decode cX4_joinNextPair 13 = .ok (.getfield 41, 3) := by decide +kernel
theorem dX4_joinNextPair_16 : decode cX4_joinNextPair 16 = .ok (.if_icmp .ge 95, 3) := by decide +kernel
theorem dX4_joinNextPair_19 : decode cX4_joinNextPair 19 = .ok (.iload 5, 2) := by decide +kernel
theorem dX4_joinNextPair_21 : decode cX4_joinNextPair 21 = .ok (.iconst 1, 1) := by decide +kernel
theorem dX4_joinNextPair_22 : decode cX4_joinNextPair 22 = .ok (.iadd, 1) := by decide +kernel
theorem dX4_joinNextPair_23 : decode cX4_joinNextPair 23 = .ok (.istore 6, 2) := by decide +kernel
theorem dX4_joinNextPair_25 : decode cX4_joinNextPair 25 = .ok (.iload 6, 2) := by decide +kernel
theorem dX4_joinNextPair_27 : decode cX4_joinNextPair 27 = .ok (.aload_n 1, 1) := by decide +kernel
theorem dX4_joinNextPair_28 : decode cX4_joinNextPair 28 = .ok (.getfield 41, 3) := by decide +kernel
theorem dX4_joinNextPair_31 : decode cX4_joinNextPair 31 = .ok (.if_icmp .ge 74, 3) := by decide +kernel
theorem dX4_joinNextPair_34 : decode cX4_joinNextPair 34 = .ok (.aload_n 1, 1) := by decide +kernel
theorem dX4_joinNextPair_35 : decode cX4_joinNextPair 35 = .ok (.getfield 50, 3) := by decide +kernel
theorem dX4_joinNextPair_38 : decode cX4_joinNextPair 38 = .ok (.iload 5, 2) := by decide +kernel
theorem dX4_joinNextPair_40 : decode cX4_joinNextPair 40 = .ok (.iaload, 1) := by decide +kernel
theorem dX4_joinNextPair_41 : decode cX4_joinNextPair 41 = .ok (.aload_n 1, 1) := by decide +kernel
theorem dX4_joinNextPair_42 : decode cX4_joinNextPair 42 = .ok (.getfield 50, 3) := by decide +kernel
theorem dX4_joinNextPair_45 : decode cX4_joinNextPair 45 = .ok (.iload 6, 2) := by decide +kernel
theorem dX4_joinNextPair_47 : decode cX4_joinNextPair 47 = .ok (.iaload, 1) := by decide +kernel
theorem dX4_joinNextPair_48 : decode cX4_joinNextPair 48 = .ok (.if_icmp .ne 51, 3) := by decide +kernel
theorem dX4_joinNextPair_51 : decode cX4_joinNextPair 51 = .ok (.aload_n 0, 1) := by decide +kernel
theorem dX4_joinNextPair_52 : decode cX4_joinNextPair 52 = .ok (.getfield 25, 3) := by decide +kernel
theorem dX4_joinNextPair_55 : decode cX4_joinNextPair 55 = .ok (.iload 5, 2) := by decide +kernel
theorem dX4_joinNextPair_57 : decode cX4_joinNextPair 57 = .ok (.iaload, 1) := by decide +kernel
theorem dX4_joinNextPair_58 : decode cX4_joinNextPair 58 = .ok (.aload_n 0, 1) := by decide +kernel
theorem dX4_joinNextPair_59 : decode cX4_joinNextPair 59 = .ok (.getfield 25, 3) := by decide +kernel
theorem dX4_joinNextPair_62 : decode cX4_joinNextPair 62 = .ok (.iload 6, 2) := by decide +kernel
theorem dX4_joinNextPair_64 : decode cX4_joinNextPair 64 = .ok (.iaload, 1) := by decide +kernel
theorem dX4_joinNextPair_65 : decode cX4_joinNextPair 65 = .ok (.if_icmp .eq 34, 3) := by decide +kernel
theorem dX4_joinNextPair_68 : decode cX4_joinNextPair 68 = .ok (.aload_n 1, 1) := by decide +kernel
theorem dX4_joinNextPair_69 : decode cX4_joinNextPair 69 = .ok (.iload 5, 2) := by decide +kernel
theorem dX4_joinNextPair_71 : decode cX4_joinNextPair 71 = .ok (.iload 6, 2) := by decide +kernel
theorem dX4_joinNextPair_73 : decode cX4_joinNextPair 73 = .ok (.invokevirtual 53, 3) := by decide +kernel
theorem dX4_joinNextPair_76 : decode cX4_joinNextPair 76 = .ok (.istore 7, 2) := by decide +kernel
theorem dX4_joinNextPair_78 : decode cX4_joinNextPair 78 = .ok (.iload_n 2, 1) := by decide +kernel
theorem dX4_joinNextPair_79 : decode cX4_joinNextPair 79 = .ok (.ifCond .lt 10, 3) := by decide +kernel
theorem dX4_joinNextPair_82 : decode cX4_joinNextPair 82 = .ok (.iload 7, 2) := by decide +kernel
theorem dX4_joinNextPair_84 : decode cX4_joinNextPair 84 = .ok (.iload 4, 2) := by decide +kernel
theorem dX4_joinNextPair_86 : decode cX4_joinNextPair 86 = .ok (.if_icmp .ge 13, 3) := by decide +kernel
theorem dX4_joinNextPair_89 : decode cX4_joinNextPair 89 = .ok (.iload 5, 2) := by decide +kernel
theorem dX4_joinNextPair_91 : decode cX4_joinNextPair 91 = .ok (.istore_n 2, 1) := by decide +kernel
theorem dX4_joinNextPair_92 : decode cX4_joinNextPair 92 = .ok (.iload 6, 2) := by decide +kernel
theorem dX4_joinNextPair_94 : decode cX4_joinNextPair 94 = .ok (.istore_n 3, 1) := by decide +kernel
theorem dX4_joinNextPair_95 : decode cX4_joinNextPair 95 = .ok (.iload 7, 2) := by decide +kernel
theorem dX4_joinNextPair_97 : decode cX4_joinNextPair 97 = .ok (.istore 4, 2) := by decide +kernel
theorem dX4_joinNextPair_99 : decode cX4_joinNextPair 99 = .ok (.iinc 6 1, 3) := by decide +kernel
theorem dX4_joinNextPair_102 : decode cX4_joinNextPair 102 = .ok (.goto (-77), 3) := by decide +kernel
theorem dX4_joinNextPair_105 : decode cX4_joinNextPair 105 = .ok (.iinc 5 1, 3) := by decide +kernel
theorem dX4_joinNextPair_108 : decode cX4_joinNextPair 108 = .ok (.goto (-98), 3) := by decide +kernel
theorem dX4_joinNextPair_111 : decode cX4_joinNextPair 111 = .ok (.iload_n 2, 1) := by decide +kernel
theorem dX4_joinNextPair_112 : decode cX4_joinNextPair 112 = .ok (.ifCond .ge 5, 3) := by decide +kernel
theorem dX4_joinNextPair_115 : decode cX4_joinNextPair 115 = .ok (.iconst 0, 1) := by decide +kernel
theorem dX4_joinNextPair_116 : decode cX4_joinNextPair 116 = .ok (.ireturn, 1) := by decide +kernel
theorem dX4_joinNextPair_117 : decode cX4_joinNextPair 117 = .ok (.aload_n 0, 1) := by decide +kernel
theorem dX4_joinNextPair_118 : decode cX4_joinNextPair 118 = .ok (.getfield 28, 3) := by decide +kernel
theorem dX4_joinNextPair_121 : decode cX4_joinNextPair 121 = .ok (.iload_n 2, 1) := by decide +kernel
theorem dX4_joinNextPair_122 : decode cX4_joinNextPair 122 = .ok (.dup2, 1) := by decide +kernel
theorem dX4_joinNextPair_123 : decode cX4_joinNextPair 123 = .ok (.iaload, 1) := by decide +kernel
theorem dX4_joinNextPair_124 : decode cX4_joinNextPair 124 = .ok (.iconst 1, 1) := by decide +kernel
theorem dX4_joinNextPair_125 : decode cX4_joinNextPair 125 = .ok (.iload_n 3, 1) := by decide +kernel
theorem dX4_joinNextPair_126 : decode cX4_joinNextPair 126 = .ok (.ishl, 1) := by decide +kernel
theorem dX4_joinNextPair_127 : decode cX4_joinNextPair 127 = .ok (.ior, 1) := by decide +kernel
theorem dX4_joinNextPair_128 : decode cX4_joinNextPair 128 = .ok (.iastore, 1) := by decide +kernel
theorem dX4_joinNextPair_129 : decode cX4_joinNextPair 129 = .ok (.aload_n 0, 1) := by decide +kernel
theorem dX4_joinNextPair_130 : decode cX4_joinNextPair 130 = .ok (.aload_n 0, 1) := by decide +kernel
theorem dX4_joinNextPair_131 : decode cX4_joinNextPair 131 = .ok (.getfield 25, 3) := by decide +kernel
theorem dX4_joinNextPair_134 : decode cX4_joinNextPair 134 = .ok (.iload_n 2, 1) := by decide +kernel
theorem dX4_joinNextPair_135 : decode cX4_joinNextPair 135 = .ok (.iaload, 1) := by decide +kernel
theorem dX4_joinNextPair_136 : decode cX4_joinNextPair 136 = .ok (.aload_n 0, 1) := by decide +kernel
theorem dX4_joinNextPair_137 : decode cX4_joinNextPair 137 = .ok (.getfield 25, 3) := by decide +kernel
theorem dX4_joinNextPair_140 : decode cX4_joinNextPair 140 = .ok (.iload_n 3, 1) := by decide +kernel
theorem dX4_joinNextPair_141 : decode cX4_joinNextPair 141 = .ok (.iaload, 1) := by decide +kernel
theorem dX4_joinNextPair_142 : decode cX4_joinNextPair 142 = .ok (.invokevirtual 57, 3) := by decide +kernel
theorem dX4_joinNextPair_145 : decode cX4_joinNextPair 145 = .ok (.iconst 1, 1) := by decide +kernel
theorem dX4_joinNextPair_146 : decode cX4_joinNextPair 146 = .ok (.ireturn, 1) := by decide +kernel
theorem dX4_mergeGroups_0 : decode cX4_mergeGroups 0 = .ok (.iconst 0, 1) := by decide +kernel
theorem dX4_mergeGroups_1 : decode cX4_mergeGroups 1 = .ok (.istore_n 3, 1) := by decide +kernel
theorem dX4_mergeGroups_2 : decode cX4_mergeGroups 2 = .ok (.iload_n 3, 1) := by decide +kernel
theorem dX4_mergeGroups_3 : decode cX4_mergeGroups 3 = .ok (.bipush 8, 2) := by decide +kernel
theorem dX4_mergeGroups_5 : decode cX4_mergeGroups 5 = .ok (.if_icmp .ge 26, 3) := by decide +kernel
theorem dX4_mergeGroups_8 : decode cX4_mergeGroups 8 = .ok (.aload_n 0, 1) := by decide +kernel
theorem dX4_mergeGroups_9 : decode cX4_mergeGroups 9 = .ok (.getfield 25, 3) := by decide +kernel
theorem dX4_mergeGroups_12 : decode cX4_mergeGroups 12 = .ok (.iload_n 3, 1) := by decide +kernel
theorem dX4_mergeGroups_13 : decode cX4_mergeGroups 13 = .ok (.iaload, 1) := by decide +kernel
theorem dX4_mergeGroups_14 : decode cX4_mergeGroups 14 = .ok (.iload_n 2, 1) := by decide +kernel
theorem dX4_mergeGroups_15 : decode cX4_mergeGroups 15 = .ok (.if_icmp .ne 10, 3) := by decide +kernel
theorem dX4_mergeGroups_18 : decode cX4_mergeGroups 18 = .ok (.aload_n 0, 1) := by decide +kernel
theorem dX4_mergeGroups_19 : decode cX4_mergeGroups 19 = .ok (.getfield 25, 3) := by decide +kernel
theorem dX4_mergeGroups_22 : decode cX4_mergeGroups 22 = .ok (.iload_n 3, 1) := by decide +kernel
theorem dX4_mergeGroups_23 : decode cX4_mergeGroups 23 = .ok (.iload_n 1, 1) := by decide +kernel
theorem dX4_mergeGroups_24 : decode cX4_mergeGroups 24 = .ok (.iastore, 1) := by decide +kernel
theorem dX4_mergeGroups_25 : decode cX4_mergeGroups 25 = .ok (.iinc 3 1, 3) := by decide +kernel
theorem dX4_mergeGroups_28 : decode cX4_mergeGroups 28 = .ok (.goto (-26), 3) := by decide +kernel
theorem dX4_mergeGroups_31 : decode cX4_mergeGroups 31 = .ok (.return_, 1) := by decide +kernel
theorem dX4_addTrees_0 : decode cX4_addTrees 0 = .ok (.iconst 0, 1) := by decide +kernel
theorem dX4_addTrees_1 : decode cX4_addTrees 1 = .ok (.istore_n 2, 1) := by decide +kernel
theorem dX4_addTrees_2 : decode cX4_addTrees 2 = .ok (.iload_n 2, 1) := by decide +kernel
theorem dX4_addTrees_3 : decode cX4_addTrees 3 = .ok (.iconst 4, 1) := by decide +kernel
theorem dX4_addTrees_4 : decode cX4_addTrees 4 = .ok (.if_icmp .ge 77, 3) := by decide +kernel
theorem dX4_addTrees_7 : decode cX4_addTrees 7 = .ok (.iconst 0, 1) := by decide +kernel
theorem dX4_addTrees_8 : decode cX4_addTrees 8 = .ok (.istore_n 3, 1) := by decide +kernel
theorem dX4_addTrees_9 : decode cX4_addTrees 9 = .ok (.iload_n 3, 1) := by decide +kernel
theorem dX4_addTrees_10 : decode cX4_addTrees 10 = .ok (.aload_n 1, 1) := by decide +kernel
theorem dX4_addTrees_11 : decode cX4_addTrees 11 = .ok (.getfield 41, 3) := by decide +kernel
theorem dX4_addTrees_14 : decode cX4_addTrees 14 = .ok (.if_icmp .ge 61, 3) := by decide +kernel
theorem dX4_addTrees_17 : decode cX4_addTrees 17 = .ok (.iload_n 3, 1) := by decide +kernel
theorem dX4_addTrees_18 : decode cX4_addTrees 18 = .ok (.iconst 1, 1) := by decide +kernel
theorem dX4_addTrees_19 : decode cX4_addTrees 19 = .ok (.iadd, 1) := by decide +kernel
theorem dX4_addTrees_20 : decode cX4_addTrees 20 = .ok (.istore 4, 2) := by decide +kernel
theorem dX4_addTrees_22 : decode cX4_addTrees 22 = .ok (.iload 4, 2) := by decide +kernel
theorem dX4_addTrees_24 : decode cX4_addTrees 24 = .ok (.aload_n 1, 1) := by decide +kernel
theorem dX4_addTrees_25 : decode cX4_addTrees 25 = .ok (.getfield 41, 3) := by decide +kernel
theorem dX4_addTrees_28 : decode cX4_addTrees 28 = .ok (.if_icmp .ge 41, 3) := by decide +kernel
theorem dX4_addTrees_31 : decode cX4_addTrees 31 = .ok (.aload_n 1, 1) := by decide +kernel
theorem dX4_addTrees_32 : decode cX4_addTrees 32 = .ok (.getfield 50, 3) := by decide +kernel
theorem dX4_addTrees_35 : decode cX4_addTrees 35 = .ok (.iload_n 3, 1) := by decide +kernel
theorem dX4_addTrees_36 : decode cX4_addTrees 36 = .ok (.iaload, 1) := by decide +kernel
theorem dX4_addTrees_37 : decode cX4_addTrees 37 = .ok (.iload_n 2, 1) := by decide +kernel
theorem dX4_addTrees_38 : decode cX4_addTrees 38 = .ok (.if_icmp .ne 25, 3) := by decide +kernel
theorem dX4_addTrees_41 : decode cX4_addTrees 41 = .ok (.aload_n 0, 1) := by decide +kernel
theorem dX4_addTrees_42 : decode cX4_addTrees 42 = .ok (.getfield 28, 3) := by decide +kernel
theorem dX4_addTrees_45 : decode cX4_addTrees 45 = .ok (.iload_n 3, 1) := by decide +kernel
theorem dX4_addTrees_46 : decode cX4_addTrees 46 = .ok (.iaload, 1) := by decide +kernel
theorem dX4_addTrees_47 : decode cX4_addTrees 47 = .ok (.iload 4, 2) := by decide +kernel
theorem dX4_addTrees_49 : decode cX4_addTrees 49 = .ok (.invokestatic 61, 3) := by decide +kernel
theorem dX4_addTrees_52 : decode cX4_addTrees 52 = .ok (.ifCond .eq 11, 3) := by decide +kernel
theorem dX4_addTrees_55 : decode cX4_addTrees 55 = .ok (.aload_n 0, 1) := by decide +kernel
theorem dX4_addTrees_56 : decode cX4_addTrees 56 = .ok (.aload_n 1, 1) := by decide +kernel
theorem dX4_addTrees_57 : decode cX4_addTrees 57 = .ok (.iload_n 3, 1) := by decide +kernel
theorem dX4_addTrees_58 : decode cX4_addTrees 58 = .ok (.iload 4, 2) := by decide +kernel
theorem dX4_addTrees_60 : decode cX4_addTrees 60 = .ok (.invokevirtual 65, 3) := by decide +kernel
theorem dX4_addTrees_63 : decode cX4_addTrees 63 = .ok (.iinc 4 1, 3) := by decide +kernel
theorem dX4_addTrees_66 : decode cX4_addTrees 66 = .ok (.goto (-44), 3) := by decide +kernel
theorem dX4_addTrees_69 : decode cX4_addTrees 69 = .ok (.iinc 3 1, 3) := by decide +kernel
theorem dX4_addTrees_72 : decode cX4_addTrees 72 = .ok (.goto (-63), 3) := by decide +kernel
theorem dX4_addTrees_75 : decode cX4_addTrees 75 = .ok (.iinc 2 1, 3) := by decide +kernel
theorem dX4_addTrees_78 : decode cX4_addTrees 78 = .ok (.goto (-76), 3) := by decide +kernel
theorem dX4_addTrees_81 : decode cX4_addTrees 81 = .ok (.return_, 1) := by decide +kernel
theorem dX4_addNeighbours_0 : decode cX4_addNeighbours 0 = .ok (.iconst 0, 1) := by decide +kernel
theorem dX4_addNeighbours_1 : decode cX4_addNeighbours 1 = .ok (.istore_n 2, 1) := by decide +kernel
theorem dX4_addNeighbours_2 : decode cX4_addNeighbours 2 = .ok (.iload_n 2, 1) := by decide +kernel
theorem dX4_addNeighbours_3 : decode cX4_addNeighbours 3 = .ok (.bipush 6, 2) := by decide +kernel
theorem dX4_addNeighbours_5 : decode cX4_addNeighbours 5 = .ok (.if_icmp .ge 24, 3) := by decide +kernel
theorem dX4_addNeighbours_8 : decode cX4_addNeighbours 8 = .ok (.aload_n 0, 1) := by decide +kernel
theorem dX4_addNeighbours_9 : decode cX4_addNeighbours 9 = .ok (.aload_n 1, 1) := by decide +kernel
theorem dX4_addNeighbours_10 : decode cX4_addNeighbours 10 = .ok (.getstatic 69, 3) := by decide +kernel
theorem dX4_addNeighbours_13 : decode cX4_addNeighbours 13 = .ok (.iload_n 2, 1) := by decide +kernel
theorem dX4_addNeighbours_14 : decode cX4_addNeighbours 14 = .ok (.iaload, 1) := by decide +kernel
theorem dX4_addNeighbours_15 : decode cX4_addNeighbours 15 = .ok (.getstatic 72, 3) := by decide +kernel
theorem dX4_addNeighbours_18 : decode cX4_addNeighbours 18 = .ok (.iload_n 2, 1) := by decide +kernel
theorem dX4_addNeighbours_19 : decode cX4_addNeighbours 19 = .ok (.iaload, 1) := by decide +kernel
theorem dX4_addNeighbours_20 : decode cX4_addNeighbours 20 = .ok (.invokevirtual 75, 3) := by decide +kernel
theorem dX4_addNeighbours_23 : decode cX4_addNeighbours 23 = .ok (.iinc 2 1, 3) := by decide +kernel
theorem dX4_addNeighbours_26 : decode cX4_addNeighbours 26 = .ok (.goto (-24), 3) := by decide +kernel
theorem dX4_addNeighbours_29 : decode cX4_addNeighbours 29 = .ok (.return_, 1) := by decide +kernel
theorem dX4_addNearestPair_0 : decode cX4_addNearestPair 0 = .ok (.iconst (-1), 1) := by decide +kernel
theorem dX4_addNearestPair_1 : decode cX4_addNearestPair 1 = .ok (.istore 4, 2) := by decide +kernel
theorem dX4_addNearestPair_3 : decode cX4_addNearestPair 3 = .ok (.iconst (-1), 1) := by decide +kernel
theorem dX4_addNearestPair_4 : decode cX4_addNearestPair 4 = .ok (.istore 5, 2) := by decide +kernel
theorem dX4_addNearestPair_6 : decode cX4_addNearestPair 6 = .ok (.iconst 0, 1) := by decide +kernel
theorem dX4_addNearestPair_7 : decode cX4_addNearestPair 7 = .ok (.istore 6, 2) := by decide +kernel
theorem dX4_addNearestPair_9 : decode cX4_addNearestPair 9 = .ok (.iconst 0, 1) := by decide +kernel
theorem dX4_addNearestPair_10 : decode cX4_addNearestPair 10 = .ok (.istore 7, 2) := by decide +kernel
theorem dX4_addNearestPair_12 : decode cX4_addNearestPair 12 = .ok (.iload 7, 2) := by decide +kernel
theorem dX4_addNearestPair_14 : decode cX4_addNearestPair 14 = .ok (.aload_n 1, 1) := by decide +kernel
theorem dX4_addNearestPair_15 : decode cX4_addNearestPair 15 = .ok (.getfield 41, 3) := by decide +kernel
theorem dX4_addNearestPair_18 : decode cX4_addNearestPair 18 = .ok (.if_icmp .ge 92, 3) := by decide +kernel
theorem dX4_addNearestPair_21 : decode cX4_addNearestPair 21 = .ok (.iconst 0, 1) := by decide +kernel
theorem dX4_addNearestPair_22 : decode cX4_addNearestPair 22 = .ok (.istore 8, 2) := by decide +kernel
theorem dX4_addNearestPair_24 : decode cX4_addNearestPair 24 = .ok (.iload 8, 2) := by decide +kernel
theorem dX4_addNearestPair_26 : decode cX4_addNearestPair 26 = .ok (.aload_n 1, 1) := by decide +kernel
theorem dX4_addNearestPair_27 : decode cX4_addNearestPair 27 = .ok (.getfield 41, 3) := by decide +kernel
theorem dX4_addNearestPair_30 : decode cX4_addNearestPair 30 = .ok (.if_icmp .ge 74, 3) := by decide +kernel
theorem dX4_addNearestPair_33 : decode cX4_addNearestPair 33 = .ok (.aload_n 1, 1) := by decide +kernel
theorem dX4_addNearestPair_34 : decode cX4_addNearestPair 34 = .ok (.getfield 50, 3) := by decide +kernel
theorem dX4_addNearestPair_37 : decode cX4_addNearestPair 37 = .ok (.iload 7, 2) := by decide +kernel
theorem dX4_addNearestPair_39 : decode cX4_addNearestPair 39 = .ok (.iaload, 1) := by decide +kernel
theorem dX4_addNearestPair_40 : decode cX4_addNearestPair 40 = .ok (.iload_n 2, 1) := by decide +kernel
theorem dX4_addNearestPair_41 : decode cX4_addNearestPair 41 = .ok (.if_icmp .ne 57, 3) := by decide +kernel
theorem dX4_addNearestPair_44 : decode cX4_addNearestPair 44 = .ok (.aload_n 1, 1) := by decide +kernel
theorem dX4_addNearestPair_45 : decode cX4_addNearestPair 45 = .ok (.getfield 50, 3) := by decide +kernel
theorem dX4_addNearestPair_48 : decode cX4_addNearestPair 48 = .ok (.iload 8, 2) := by decide +kernel
theorem dX4_addNearestPair_50 : decode cX4_addNearestPair 50 = .ok (.iaload, 1) := by decide +kernel
theorem dX4_addNearestPair_51 : decode cX4_addNearestPair 51 = .ok (.iload_n 3, 1) := by decide +kernel
theorem dX4_addNearestPair_52 : decode cX4_addNearestPair 52 = .ok (.if_icmp .ne 46, 3) := by decide +kernel
theorem dX4_addNearestPair_55 : decode cX4_addNearestPair 55 = .ok (.aload_n 1, 1) := by decide +kernel
theorem dX4_addNearestPair_56 : decode cX4_addNearestPair 56 = .ok (.iload 7, 2) := by decide +kernel
theorem dX4_addNearestPair_58 : decode cX4_addNearestPair 58 = .ok (.iload 8, 2) := by decide +kernel
theorem dX4_addNearestPair_60 : decode cX4_addNearestPair 60 = .ok (.invokevirtual 53, 3) := by decide +kernel
theorem dX4_addNearestPair_63 : decode cX4_addNearestPair 63 = .ok (.istore 9, 2) := by decide +kernel
theorem dX4_addNearestPair_65 : decode cX4_addNearestPair 65 = .ok (.iload 9, 2) := by decide +kernel
theorem dX4_addNearestPair_67 : decode cX4_addNearestPair 67 = .ok (.aload_n 1, 1) := by decide +kernel
theorem dX4_addNearestPair_68 : decode cX4_addNearestPair 68 = .ok (.getfield 78, 3) := by decide +kernel
theorem dX4_addNearestPair_71 : decode cX4_addNearestPair 71 = .ok (.if_icmp .gt 27, 3) := by decide +kernel
theorem dX4_addNearestPair_74 : decode cX4_addNearestPair 74 = .ok (.iload 4, 2) := by decide +kernel
theorem dX4_addNearestPair_76 : decode cX4_addNearestPair 76 = .ok (.ifCond .lt 10, 3) := by decide +kernel
theorem dX4_addNearestPair_79 : decode cX4_addNearestPair 79 = .ok (.iload 9, 2) := by decide +kernel
theorem dX4_addNearestPair_81 : decode cX4_addNearestPair 81 = .ok (.iload 6, 2) := by decide +kernel
theorem dX4_addNearestPair_83 : decode cX4_addNearestPair 83 = .ok (.if_icmp .ge 15, 3) := by decide +kernel
theorem dX4_addNearestPair_86 : decode cX4_addNearestPair 86 = .ok (.iload 7, 2) := by decide +kernel
theorem dX4_addNearestPair_88 : decode cX4_addNearestPair 88 = .ok (.istore 4, 2) := by decide +kernel
theorem dX4_addNearestPair_90 : decode cX4_addNearestPair 90 = .ok (.iload 8, 2) := by decide +kernel
theorem dX4_addNearestPair_92 : decode cX4_addNearestPair 92 = .ok (.istore 5, 2) := by decide +kernel
theorem dX4_addNearestPair_94 : decode cX4_addNearestPair 94 = .ok (.iload 9, 2) := by decide +kernel
theorem dX4_addNearestPair_96 : decode cX4_addNearestPair 96 = .ok (.istore 6, 2) := by decide +kernel
theorem dX4_addNearestPair_98 : decode cX4_addNearestPair 98 = .ok (.iinc 8 1, 3) := by decide +kernel
theorem dX4_addNearestPair_101 : decode cX4_addNearestPair 101 = .ok (.goto (-77), 3) := by decide +kernel
theorem dX4_addNearestPair_104 : decode cX4_addNearestPair 104 = .ok (.iinc 7 1, 3) := by decide +kernel
theorem dX4_addNearestPair_107 : decode cX4_addNearestPair 107 = .ok (.goto (-95), 3) := by decide +kernel
theorem dX4_addNearestPair_110 : decode cX4_addNearestPair 110 = .ok (.iload 4, 2) := by decide +kernel
theorem dX4_addNearestPair_112 : decode cX4_addNearestPair 112 = .ok (.ifCond .lt 12, 3) := by decide +kernel
theorem dX4_addNearestPair_115 : decode cX4_addNearestPair 115 = .ok (.aload_n 0, 1) := by decide +kernel
theorem dX4_addNearestPair_116 : decode cX4_addNearestPair 116 = .ok (.aload_n 1, 1) := by decide +kernel
theorem dX4_addNearestPair_117 : decode cX4_addNearestPair 117 = .ok (.iload 4, 2) := by decide +kernel
theorem dX4_addNearestPair_119 : decode cX4_addNearestPair 119 = .ok (.iload 5, 2) := by decide +kernel
theorem dX4_addNearestPair_121 : decode cX4_addNearestPair 121 = .ok (.invokevirtual 65, 3) := by decide +kernel
theorem dX4_addNearestPair_124 : decode cX4_addNearestPair 124 = .ok (.return_, 1) := by decide +kernel
theorem dX4_addTry_0 : decode cX4_addTry 0 = .ok (.aload_n 0, 1) := by decide +kernel
theorem dX4_addTry_1 : decode cX4_addTry 1 = .ok (.getfield 18, 3) := by decide +kernel
theorem dX4_addTry_4 : decode cX4_addTry 4 = .ok (.bipush 10, 2) := by decide +kernel
theorem dX4_addTry_6 : decode cX4_addTry 6 = .ok (.if_icmp .lt 4, 3) := by decide +kernel
theorem dX4_addTry_9 : decode cX4_addTry 9 = .ok (.return_, 1) := by decide +kernel
theorem dX4_addTry_10 : decode cX4_addTry 10 = .ok (.aload_n 1, 1) := by decide +kernel
theorem dX4_addTry_11 : decode cX4_addTry 11 = .ok (.iload_n 2, 1) := by decide +kernel
theorem dX4_addTry_12 : decode cX4_addTry 12 = .ok (.iload_n 3, 1) := by decide +kernel
theorem dX4_addTry_13 : decode cX4_addTry 13 = .ok (.invokevirtual 81, 3) := by decide +kernel
theorem dX4_addTry_16 : decode cX4_addTry 16 = .ok (.istore 4, 2) := by decide +kernel
theorem dX4_addTry_18 : decode cX4_addTry 18 = .ok (.aload_n 0, 1) := by decide +kernel
theorem dX4_addTry_19 : decode cX4_addTry 19 = .ok (.getfield 9, 3) := by decide +kernel
theorem dX4_addTry_22 : decode cX4_addTry 22 = .ok (.aload_n 0, 1) := by decide +kernel
theorem dX4_addTry_23 : decode cX4_addTry 23 = .ok (.getfield 18, 3) := by decide +kernel
theorem dX4_addTry_26 : decode cX4_addTry 26 = .ok (.iload 4, 2) := by decide +kernel
theorem dX4_addTry_28 : decode cX4_addTry 28 = .ok (.ifCond .eq 7, 3) := by decide +kernel
theorem dX4_addTry_31 : decode cX4_addTry 31 = .ok (.iload_n 2, 1) := by decide +kernel
theorem dX4_addTry_32 : decode cX4_addTry 32 = .ok (.goto 4, 3) := by decide +kernel
theorem dX4_addTry_35 : decode cX4_addTry 35 = .ok (.iload_n 3, 1) := by decide +kernel
theorem dX4_addTry_36 : decode cX4_addTry 36 = .ok (.iastore, 1) := by decide +kernel
theorem dX4_addTry_37 : decode cX4_addTry 37 = .ok (.aload_n 0, 1) := by decide +kernel
theorem dX4_addTry_38 : decode cX4_addTry 38 = .ok (.getfield 15, 3) := by decide +kernel
theorem dX4_addTry_41 : decode cX4_addTry 41 = .ok (.aload_n 0, 1) := by decide +kernel
theorem dX4_addTry_42 : decode cX4_addTry 42 = .ok (.getfield 18, 3) := by decide +kernel
theorem dX4_addTry_45 : decode cX4_addTry 45 = .ok (.iload 4, 2) := by decide +kernel
theorem dX4_addTry_47 : decode cX4_addTry 47 = .ok (.ifCond .eq 7, 3) := by decide +kernel
theorem dX4_addTry_50 : decode cX4_addTry 50 = .ok (.iload_n 3, 1) := by decide +kernel
theorem dX4_addTry_51 : decode cX4_addTry 51 = .ok (.goto 4, 3) := by decide +kernel
theorem dX4_addTry_54 : decode cX4_addTry 54 = .ok (.iload_n 2, 1) := by decide +kernel
theorem dX4_addTry_55 : decode cX4_addTry 55 = .ok (.iastore, 1) := by decide +kernel
theorem dX4_addTry_56 : decode cX4_addTry 56 = .ok (.aload_n 0, 1) := by decide +kernel
theorem dX4_addTry_57 : decode cX4_addTry 57 = .ok (.dup, 1) := by decide +kernel
theorem dX4_addTry_58 : decode cX4_addTry 58 = .ok (.getfield 18, 3) := by decide +kernel
theorem dX4_addTry_61 : decode cX4_addTry 61 = .ok (.iconst 1, 1) := by decide +kernel
theorem dX4_addTry_62 : decode cX4_addTry 62 = .ok (.iadd, 1) := by decide +kernel
theorem dX4_addTry_63 : decode cX4_addTry 63 = .ok (.putfield 18, 3) := by decide +kernel
theorem dX4_addTry_66 : decode cX4_addTry 66 = .ok (.return_, 1) := by decide +kernel
theorem dX4_conducts_0 : decode cX4_conducts 0 = .ok (.aload_n 0, 1) := by decide +kernel
theorem dX4_conducts_1 : decode cX4_conducts 1 = .ok (.getfield 9, 3) := by decide +kernel
theorem dX4_conducts_4 : decode cX4_conducts 4 = .ok (.iload_n 2, 1) := by decide +kernel
theorem dX4_conducts_5 : decode cX4_conducts 5 = .ok (.iaload, 1) := by decide +kernel
theorem dX4_conducts_6 : decode cX4_conducts 6 = .ok (.istore 5, 2) := by decide +kernel
theorem dX4_conducts_8 : decode cX4_conducts 8 = .ok (.aload_n 0, 1) := by decide +kernel
theorem dX4_conducts_9 : decode cX4_conducts 9 = .ok (.getfield 15, 3) := by decide +kernel
theorem dX4_conducts_12 : decode cX4_conducts 12 = .ok (.iload_n 2, 1) := by decide +kernel
theorem dX4_conducts_13 : decode cX4_conducts 13 = .ok (.iaload, 1) := by decide +kernel
theorem dX4_conducts_14 : decode cX4_conducts 14 = .ok (.istore 6, 2) := by decide +kernel
theorem dX4_conducts_16 : decode cX4_conducts 16 = .ok (.iload_n 3, 1) := by decide +kernel
theorem dX4_conducts_17 : decode cX4_conducts 17 = .ok (.iload 5, 2) := by decide +kernel
theorem dX4_conducts_19 : decode cX4_conducts 19 = .ok (.invokestatic 61, 3) := by decide +kernel
theorem dX4_conducts_22 : decode cX4_conducts 22 = .ok (.ifCond .ne 12, 3) := by decide +kernel
theorem dX4_conducts_25 : decode cX4_conducts 25 = .ok (.iload_n 3, 1) := by decide +kernel
theorem dX4_conducts_26 : decode cX4_conducts 26 = .ok (.iload 6, 2) := by decide +kernel
theorem dX4_conducts_28 : decode cX4_conducts 28 = .ok (.invokestatic 61, 3) := by decide +kernel
theorem dX4_conducts_31 : decode cX4_conducts 31 = .ok (.ifCond .eq 5, 3) := by decide +kernel
theorem dX4_conducts_34 : decode cX4_conducts 34 = .ok (.iconst 0, 1) := by decide +kernel
theorem dX4_conducts_35 : decode cX4_conducts 35 = .ok (.ireturn, 1) := by decide +kernel
theorem dX4_conducts_36 : decode cX4_conducts 36 = .ok (.aload_n 1, 1) := by decide +kernel
theorem dX4_conducts_37 : decode cX4_conducts 37 = .ok (.getfield 50, 3) := by decide +kernel
theorem dX4_conducts_40 : decode cX4_conducts 40 = .ok (.iload 5, 2) := by decide +kernel
theorem dX4_conducts_42 : decode cX4_conducts 42 = .ok (.iaload, 1) := by decide +kernel
theorem dX4_conducts_43 : decode cX4_conducts 43 = .ok (.iload 4, 2) := by decide +kernel
theorem dX4_conducts_45 : decode cX4_conducts 45 = .ok (.invokestatic 84, 3) := by decide +kernel
theorem dX4_conducts_48 : decode cX4_conducts 48 = .ok (.aload_n 1, 1) := by decide +kernel
theorem dX4_conducts_49 : decode cX4_conducts 49 = .ok (.getfield 50, 3) := by decide +kernel
theorem dX4_conducts_52 : decode cX4_conducts 52 = .ok (.iload 6, 2) := by decide +kernel
theorem dX4_conducts_54 : decode cX4_conducts 54 = .ok (.iaload, 1) := by decide +kernel
theorem dX4_conducts_55 : decode cX4_conducts 55 = .ok (.invokestatic 61, 3) := by decide +kernel
theorem dX4_conducts_58 : decode cX4_conducts 58 = .ok (.ireturn, 1) := by decide +kernel
theorem dX4_seenSet_0 : decode cX4_seenSet 0 = .ok (.iconst 0, 1) := by decide +kernel
theorem dX4_seenSet_1 : decode cX4_seenSet 1 = .ok (.istore 4, 2) := by decide +kernel
theorem dX4_seenSet_3 : decode cX4_seenSet 3 = .ok (.iconst 0, 1) := by decide +kernel
theorem dX4_seenSet_4 : decode cX4_seenSet 4 = .ok (.istore 5, 2) := by decide +kernel
theorem dX4_seenSet_6 : decode cX4_seenSet 6 = .ok (.iload 5, 2) := by decide +kernel
theorem dX4_seenSet_8 : decode cX4_seenSet 8 = .ok (.aload_n 0, 1) := by decide +kernel
theorem dX4_seenSet_9 : decode cX4_seenSet 9 = .ok (.getfield 18, 3) := by decide +kernel
theorem dX4_seenSet_12 : decode cX4_seenSet 12 = .ok (.if_icmp .ge 36, 3) := by decide +kernel
theorem dX4_seenSet_15 : decode cX4_seenSet 15 = .ok (.aload_n 0, 1) := by decide +kernel
theorem dX4_seenSet_16 : decode cX4_seenSet 16 = .ok (.aload_n 1, 1) := by decide +kernel
theorem dX4_seenSet_17 : decode cX4_seenSet 17 = .ok (.iload 5, 2) := by decide +kernel
theorem dX4_seenSet_19 : decode cX4_seenSet 19 = .ok (.iload_n 2, 1) := by decide +kernel
theorem dX4_seenSet_20 : decode cX4_seenSet 20 = .ok (.iload_n 3, 1) := by decide +kernel
theorem dX4_seenSet_21 : decode cX4_seenSet 21 = .ok (.invokevirtual 87, 3) := by decide +kernel
theorem dX4_seenSet_24 : decode cX4_seenSet 24 = .ok (.aload_n 0, 1) := by decide +kernel
theorem dX4_seenSet_25 : decode cX4_seenSet 25 = .ok (.iload 5, 2) := by decide +kernel
theorem dX4_seenSet_27 : decode cX4_seenSet 27 = .ok (.invokevirtual 91, 3) := by decide +kernel
theorem dX4_seenSet_30 : decode cX4_seenSet 30 = .ok (.if_icmp .ne 12, 3) := by decide +kernel
theorem dX4_seenSet_33 : decode cX4_seenSet 33 = .ok (.iload 4, 2) := by decide +kernel
theorem dX4_seenSet_35 : decode cX4_seenSet 35 = .ok (.iconst 1, 1) := by decide +kernel
theorem dX4_seenSet_36 : decode cX4_seenSet 36 = .ok (.iload 5, 2) := by decide +kernel
theorem dX4_seenSet_38 : decode cX4_seenSet 38 = .ok (.ishl, 1) := by decide +kernel
theorem dX4_seenSet_39 : decode cX4_seenSet 39 = .ok (.ior, 1) := by decide +kernel
theorem dX4_seenSet_40 : decode cX4_seenSet 40 = .ok (.istore 4, 2) := by decide +kernel
theorem dX4_seenSet_42 : decode cX4_seenSet 42 = .ok (.iinc 5 1, 3) := by decide +kernel
theorem dX4_seenSet_45 : decode cX4_seenSet 45 = .ok (.goto (-39), 3) := by decide +kernel
theorem dX4_seenSet_48 : decode cX4_seenSet 48 = .ok (.iload 4, 2) := by decide +kernel
theorem dX4_seenSet_50 : decode cX4_seenSet 50 = .ok (.ireturn, 1) := by decide +kernel
theorem dX5_init_0 : decode cX5_init 0 = .ok (.aload_n 0, 1) := by decide +kernel
theorem dX5_init_1 : decode cX5_init 1 = .ok (.invokespecial 3, 3) := by decide +kernel
theorem dX5_init_4 : decode cX5_init 4 = .ok (.aload_n 0, 1) := by decide +kernel
theorem dX5_init_5 : decode cX5_init 5 = .ok (.new 9, 3) := by decide +kernel
theorem dX5_init_8 : decode cX5_init 8 = .ok (.dup, 1) := by decide +kernel
theorem dX5_init_9 : decode cX5_init 9 = .ok (.invokespecial 11, 3) := by decide +kernel
theorem dX5_init_12 : decode cX5_init 12 = .ok (.putfield 12, 3) := by decide +kernel
theorem dX5_init_15 : decode cX5_init 15 = .ok (.aload_n 0, 1) := by decide +kernel
theorem dX5_init_16 : decode cX5_init 16 = .ok (.new 16, 3) := by decide +kernel
theorem dX5_init_19 : decode cX5_init 19 = .ok (.dup, 1) := by decide +kernel
theorem dX5_init_20 : decode cX5_init 20 = .ok (.invokespecial 18, 3) := by decide +kernel
theorem dX5_init_23 : decode cX5_init 23 = .ok (.putfield 19, 3) := by decide +kernel
theorem dX5_init_26 : decode cX5_init 26 = .ok (.aload_n 0, 1) := by decide +kernel
theorem dX5_init_27 : decode cX5_init 27 = .ok (.new 23, 3) := by decide +kernel
theorem dX5_init_30 : decode cX5_init 30 = .ok (.dup, 1) := by decide +kernel
theorem dX5_init_31 : decode cX5_init 31 = .ok (.invokespecial 25, 3) := by decide +kernel
theorem dX5_init_34 : decode cX5_init 34 = .ok (.putfield 26, 3) := by decide +kernel
theorem dX5_init_37 : decode cX5_init 37 = .ok (.aload_n 0, 1) := by decide +kernel
theorem dX5_init_38 : decode cX5_init 38 = .ok (.new 30, 3) := by decide +kernel
theorem dX5_init_41 : decode cX5_init 41 = .ok (.dup, 1) := by decide +kernel
theorem dX5_init_42 : decode cX5_init 42 = .ok (.invokespecial 32, 3) := by decide +kernel
theorem dX5_init_45 : decode cX5_init 45 = .ok (.putfield 33, 3) := by decide +kernel
theorem dX5_init_48 : decode cX5_init 48 = .ok (.aload_n 0, 1) := by decide +kernel
theorem dX5_init_49 : decode cX5_init 49 = .ok (.iconst 2, 1) := by decide +kernel
theorem dX5_init_50 : decode cX5_init 50 = .ok (.anewarray 9, 3) := by decide +kernel
theorem dX5_init_53 : decode cX5_init 53 = .ok (.putfield 37, 3) := by decide +kernel
theorem dX5_init_56 : decode cX5_init 56 = .ok (.iconst 0, 1) := by decide +kernel
theorem dX5_init_57 : decode cX5_init 57 = .ok (.istore_n 1, 1) := by decide +kernel
theorem dX5_init_58 : decode cX5_init 58 = .ok (.iload_n 1, 1) := by decide +kernel
theorem dX5_init_59 : decode cX5_init 59 = .ok (.iconst 2, 1) := by decide +kernel
theorem dX5_init_60 : decode cX5_init 60 = .ok (.if_icmp .ge 22, 3) := by decide +kernel
theorem dX5_init_63 : decode cX5_init 63 = .ok (.aload_n 0, 1) := by decide +kernel
theorem dX5_init_64 : decode cX5_init 64 = .ok (.getfield 37, 3) := by decide +kernel
theorem dX5_init_67 : decode cX5_init 67 = .ok (.iload_n 1, 1) := by decide +kernel
theorem dX5_init_68 : decode cX5_init 68 = .ok (.new 9, 3) := by decide +kernel
theorem dX5_init_71 : decode cX5_init 71 = .ok (.dup, 1) := by decide +kernel
theorem dX5_init_72 : decode cX5_init 72 = .ok (.invokespecial 11, 3) := by decide +kernel
theorem dX5_init_75 : decode cX5_init 75 = .ok (.aastore, 1) := by decide +kernel
theorem dX5_init_76 : decode cX5_init 76 = .ok (.iinc 1 1, 3) := by decide +kernel
theorem dX5_init_79 : decode cX5_init 79 = .ok (.goto (-21), 3) := by decide +kernel
theorem dX5_init_82 : decode cX5_init 82 = .ok (.aload_n 0, 1) := by decide +kernel
theorem dX5_init_83 : decode cX5_init 83 = .ok (.iconst 0, 1) := by decide +kernel
theorem dX5_init_84 : decode cX5_init 84 = .ok (.putfield 41, 3) := by decide +kernel
theorem dX5_init_87 : decode cX5_init 87 = .ok (.return_, 1) := by decide +kernel
theorem dX5_point_0 : decode cX5_point 0 = .ok (.iload_n 1, 1) := by decide +kernel
theorem dX5_point_1 : decode cX5_point 1 = .ok (.invokestatic 45, 3) := by decide +kernel
theorem dX5_point_4 : decode cX5_point 4 = .ok (.ifCond .ne 5, 3) := by decide +kernel
theorem dX5_point_7 : decode cX5_point 7 = .ok (.iconst (-1), 1) := by decide +kernel
theorem dX5_point_8 : decode cX5_point 8 = .ok (.ireturn, 1) := by decide +kernel
theorem dX5_point_9 : decode cX5_point 9 = .ok (.iload_n 2, 1) := by decide +kernel
theorem dX5_point_10 : decode cX5_point 10 = .ok (.iload_n 3, 1) := by decide +kernel
theorem dX5_point_11 : decode cX5_point 11 = .ok (.invokestatic 49, 3) := by decide +kernel
theorem dX5_point_14 : decode cX5_point 14 = .ok (.ifCond .ne 6, 3) := by decide +kernel
theorem dX5_point_17 : decode cX5_point 17 = .ok (.bipush (-2), 2) := by decide +kernel
theorem dX5_point_19 : decode cX5_point 19 = .ok (.ireturn, 1) := by decide +kernel
theorem dX5_point_20 : decode cX5_point 20 = .ok (.aload_n 0, 1) := by decide +kernel
theorem dX5_point_21 : decode cX5_point 21 = .ok (.getfield 12, 3) := by decide +kernel
theorem dX5_point_24 : decode cX5_point 24 = .ok (.getfield 53, 3) := by decide +kernel
theorem dX5_point_27 : decode cX5_point 27 = .ok (.bipush 8, 2) := by decide +kernel
theorem dX5_point_29 : decode cX5_point 29 = .ok (.if_icmp .lt 6, 3) := by decide +kernel
theorem dX5_point_32 : decode cX5_point 32 = .ok (.bipush (-4), 2) := by decide +kernel
theorem dX5_point_34 : decode cX5_point 34 = .ok (.ireturn, 1) := by decide +kernel
theorem dX5_point_35 : decode cX5_point 35 = .ok (.aload_n 0, 1) := by decide +kernel
theorem dX5_point_36 : decode cX5_point 36 = .ok (.getfield 12, 3) := by decide +kernel
theorem dX5_point_39 : decode cX5_point 39 = .ok (.iload_n 1, 1) := by decide +kernel
theorem dX5_point_40 : decode cX5_point 40 = .ok (.iload_n 2, 1) := by decide +kernel
theorem dX5_point_41 : decode cX5_point 41 = .ok (.iload_n 3, 1) := by decide +kernel
theorem dX5_point_42 : decode cX5_point 42 = .ok (.invokevirtual 56, 3) := by decide +kernel
theorem dX5_point_45 : decode cX5_point 45 = .ok (.istore 4, 2) := by decide +kernel
theorem dX5_point_47 : decode cX5_point 47 = .ok (.aload_n 0, 1) := by decide +kernel
theorem dX5_point_48 : decode cX5_point 48 = .ok (.invokevirtual 60, 3) := by decide +kernel
theorem dX5_point_51 : decode cX5_point 51 = .ok (.iload 4, 2) := by decide +kernel
theorem dX5_point_53 : decode cX5_point 53 = .ok (.ireturn, 1) := by decide +kernel
theorem dX5_pop_0 : decode cX5_pop 0 = .ok (.aload_n 0, 1) := by decide +kernel
theorem dX5_pop_1 : decode cX5_pop 1 = .ok (.getfield 12, 3) := by decide +kernel
theorem dX5_pop_4 : decode cX5_pop 4 = .ok (.getfield 53, 3) := by decide +kernel
theorem dX5_pop_7 : decode cX5_pop 7 = .ok (.ifCond .gt 6, 3) := by decide +kernel
theorem dX5_pop_10 : decode cX5_pop 10 = .ok (.bipush (-3), 2) := by decide +kernel
theorem dX5_pop_12 : decode cX5_pop 12 = .ok (.ireturn, 1) := by decide +kernel
theorem dX5_pop_13 : decode cX5_pop 13 = .ok (.aload_n 0, 1) := by decide +kernel
theorem dX5_pop_14 : decode cX5_pop 14 = .ok (.getfield 12, 3) := by decide +kernel
theorem dX5_pop_17 : decode cX5_pop 17 = .ok (.invokevirtual 63, 3) := by decide +kernel
theorem dX5_pop_20 : decode cX5_pop 20 = .ok (.aload_n 0, 1) := by decide +kernel
theorem dX5_pop_21 : decode cX5_pop 21 = .ok (.invokevirtual 60, 3) := by decide +kernel
theorem dX5_pop_24 : decode cX5_pop 24 = .ok (.aload_n 0, 1) := by decide +kernel
theorem dX5_pop_25 : decode cX5_pop 25 = .ok (.getfield 12, 3) := by decide +kernel
theorem dX5_pop_28 : decode cX5_pop 28 = .ok (.getfield 53, 3) := by decide +kernel
theorem dX5_pop_31 : decode cX5_pop 31 = .ok (.ireturn, 1) := by decide +kernel
theorem dX5_move_0 : decode cX5_move 0 = .ok (.aload_n 0, 1) := by decide +kernel
theorem dX5_move_1 : decode cX5_move 1 = .ok (.getfield 12, 3) := by decide +kernel
theorem dX5_move_4 : decode cX5_move 4 = .ok (.iload_n 1, 1) := by decide +kernel
theorem dX5_move_5 : decode cX5_move 5 = .ok (.invokevirtual 66, 3) := by decide +kernel
theorem dX5_move_8 : decode cX5_move 8 = .ok (.ifCond .ne 5, 3) := by decide +kernel
theorem dX5_move_11 : decode cX5_move 11 = .ok (.iconst (-1), 1) := by decide +kernel
theorem dX5_move_12 : decode cX5_move 12 = .ok (.ireturn, 1) := by decide +kernel
theorem dX5_move_13 : decode cX5_move 13 = .ok (.iload_n 2, 1) := by decide +kernel
theorem dX5_move_14 : decode cX5_move 14 = .ok (.iload_n 3, 1) := by decide +kernel
theorem dX5_move_15 : decode cX5_move 15 = .ok (.invokestatic 49, 3) := by decide +kernel
theorem dX5_move_18 : decode cX5_move 18 = .ok (.ifCond .ne 6, 3) := by decide +kernel
theorem dX5_move_21 : decode cX5_move 21 = .ok (.bipush (-2), 2) := by decide +kernel
theorem dX5_move_23 : decode cX5_move 23 = .ok (.ireturn, 1) := by decide +kernel
theorem dX5_move_24 : decode cX5_move 24 = .ok (.bipush 21, 2) := by decide +kernel
theorem dX5_move_26 : decode cX5_move 26 = .ok (.aload_n 0, 1) := by decide +kernel
theorem dX5_move_27 : decode cX5_move 27 = .ok (.getfield 12, 3) := by decide +kernel
theorem dX5_move_30 : decode cX5_move 30 = .ok (.getfield 69, 3) := by decide +kernel
theorem dX5_move_33 : decode cX5_move 33 = .ok (.iload_n 1, 1) := by decide +kernel
theorem dX5_move_34 : decode cX5_move 34 = .ok (.iaload, 1) := by decide +kernel
theorem dX5_move_35 : decode cX5_move 35 = .ok (.imul, 1) := by decide +kernel
theorem dX5_move_36 : decode cX5_move 36 = .ok (.aload_n 0, 1) := by decide +kernel
theorem dX5_move_37 : decode cX5_move 37 = .ok (.getfield 12, 3) := by decide +kernel
theorem dX5_move_40 : decode cX5_move 40 = .ok (.getfield 73, 3) := by decide +kernel
theorem dX5_move_43 : decode cX5_move 43 = .ok (.iload_n 1, 1) := by decide +kernel
theorem dX5_move_44 : decode cX5_move 44 = .ok (.iaload, 1) := by decide +kernel
theorem dX5_move_45 : decode cX5_move 45 = .ok (.iadd, 1) := by decide +kernel
theorem dX5_move_46 : decode cX5_move 46 = .ok (.istore 4, 2) := by decide +kernel
theorem dX5_move_48 : decode cX5_move 48 = .ok (.aload_n 0, 1) := by decide +kernel
theorem dX5_move_49 : decode cX5_move 49 = .ok (.getfield 12, 3) := by decide +kernel
theorem dX5_move_52 : decode cX5_move 52 = .ok (.getfield 69, 3) := by decide +kernel
theorem dX5_move_55 : decode cX5_move 55 = .ok (.iload_n 1, 1) := by decide +kernel
theorem dX5_move_56 : decode cX5_move 56 = .ok (.iload_n 2, 1) := by decide +kernel
theorem dX5_move_57 : decode cX5_move 57 = .ok (.iastore, 1) := by decide +kernel
theorem dX5_move_58 : decode cX5_move 58 = .ok (.aload_n 0, 1) := by decide +kernel
theorem dX5_move_59 : decode cX5_move 59 = .ok (.getfield 12, 3) := by decide +kernel
theorem dX5_move_62 : decode cX5_move 62 = .ok (.getfield 73, 3) := by decide +kernel
theorem dX5_move_65 : decode cX5_move 65 = .ok (.iload_n 1, 1) := by decide +kernel
theorem dX5_move_66 : decode cX5_move 66 = .ok (.iload_n 3, 1) := by decide +kernel
theorem dX5_move_67 : decode cX5_move 67 = .ok (.iastore, 1) := by decide +kernel
theorem dX5_move_68 : decode cX5_move 68 = .ok (.aload_n 0, 1) := by decide +kernel
theorem dX5_move_69 : decode cX5_move 69 = .ok (.invokevirtual 60, 3) := by decide +kernel
theorem dX5_move_72 : decode cX5_move 72 = .ok (.iload 4, 2) := by decide +kernel
theorem dX5_move_74 : decode cX5_move 74 = .ok (.ireturn, 1) := by decide +kernel
theorem dX5_near_0 : decode cX5_near 0 = .ok (.iload_n 1, 1) := by decide +kernel
theorem dX5_near_1 : decode cX5_near 1 = .ok (.ifCond .lt 10, 3) := by decide +kernel
theorem dX5_near_4 : decode cX5_near 4 = .ok (.iload_n 1, 1) := by decide +kernel
theorem dX5_near_5 : decode cX5_near 5 = .ok (.sipush 800, 3) := by decide +kernel
theorem dX5_near_8 : decode cX5_near 8 = .ok (.if_icmp .le 6, 3) := by decide +kernel
theorem dX5_near_11 : decode cX5_near 11 = .ok (.bipush (-2), 2) := by decide +kernel
theorem dX5_near_13 : decode cX5_near 13 = .ok (.ireturn, 1) := by decide +kernel
theorem dX5_near_14 : decode cX5_near 14 = .ok (.aload_n 0, 1) := by decide +kernel
theorem dX5_near_15 : decode cX5_near 15 = .ok (.getfield 12, 3) := by decide +kernel
theorem dX5_near_18 : decode cX5_near 18 = .ok (.getfield 76, 3) := by decide +kernel
theorem dX5_near_21 : decode cX5_near 21 = .ok (.istore_n 2, 1) := by decide +kernel
theorem dX5_near_22 : decode cX5_near 22 = .ok (.aload_n 0, 1) := by decide +kernel
theorem dX5_near_23 : decode cX5_near 23 = .ok (.getfield 12, 3) := by decide +kernel
theorem dX5_near_26 : decode cX5_near 26 = .ok (.iload_n 1, 1) := by decide +kernel
theorem dX5_near_27 : decode cX5_near 27 = .ok (.putfield 76, 3) := by decide +kernel
theorem dX5_near_30 : decode cX5_near 30 = .ok (.aload_n 0, 1) := by decide +kernel
theorem dX5_near_31 : decode cX5_near 31 = .ok (.invokevirtual 60, 3) := by decide +kernel
theorem dX5_near_34 : decode cX5_near 34 = .ok (.iload_n 2, 1) := by decide +kernel
theorem dX5_near_35 : decode cX5_near 35 = .ok (.ireturn, 1) := by decide +kernel
theorem dX5_of_0 : decode cX5_of 0 = .ok (.aload_n 0, 1) := by decide +kernel
theorem dX5_of_1 : decode cX5_of 1 = .ok (.getfield 12, 3) := by decide +kernel
theorem dX5_of_4 : decode cX5_of 4 = .ok (.iload_n 1, 1) := by decide +kernel
theorem dX5_of_5 : decode cX5_of 5 = .ok (.invokevirtual 66, 3) := by decide +kernel
theorem dX5_of_8 : decode cX5_of 8 = .ok (.ifCond .ne 5, 3) := by decide +kernel
theorem dX5_of_11 : decode cX5_of 11 = .ok (.iconst (-1), 1) := by decide +kernel
theorem dX5_of_12 : decode cX5_of 12 = .ok (.ireturn, 1) := by decide +kernel
theorem dX5_of_13 : decode cX5_of 13 = .ok (.iload_n 2, 1) := by decide +kernel
theorem dX5_of_14 : decode cX5_of 14 = .ok (.tableswitch 75 0 3 #[30, 40, 50, 60], 30) := by decide +kernel
theorem dX5_of_44 : decode cX5_of 44 = .ok (.aload_n 0, 1) := by decide +kernel
theorem dX5_of_45 : decode cX5_of 45 = .ok (.getfield 12, 3) := by decide +kernel
theorem dX5_of_48 : decode cX5_of 48 = .ok (.getfield 79, 3) := by decide +kernel
theorem dX5_of_51 : decode cX5_of 51 = .ok (.iload_n 1, 1) := by decide +kernel
theorem dX5_of_52 : decode cX5_of 52 = .ok (.iaload, 1) := by decide +kernel
theorem dX5_of_53 : decode cX5_of 53 = .ok (.ireturn, 1) := by decide +kernel
theorem dX5_of_54 : decode cX5_of 54 = .ok (.aload_n 0, 1) := by decide +kernel
theorem dX5_of_55 : decode cX5_of 55 = .ok (.getfield 12, 3) := by decide +kernel
theorem dX5_of_58 : decode cX5_of 58 = .ok (.getfield 69, 3) := by decide +kernel
theorem dX5_of_61 : decode cX5_of 61 = .ok (.iload_n 1, 1) := by decide +kernel
theorem dX5_of_62 : decode cX5_of 62 = .ok (.iaload, 1) := by decide +kernel
theorem dX5_of_63 : decode cX5_of 63 = .ok (.ireturn, 1) := by decide +kernel
theorem dX5_of_64 : decode cX5_of 64 = .ok (.aload_n 0, 1) := by decide +kernel
theorem dX5_of_65 : decode cX5_of 65 = .ok (.getfield 12, 3) := by decide +kernel
theorem dX5_of_68 : decode cX5_of 68 = .ok (.getfield 73, 3) := by decide +kernel
theorem dX5_of_71 : decode cX5_of 71 = .ok (.iload_n 1, 1) := by decide +kernel
theorem dX5_of_72 : decode cX5_of 72 = .ok (.iaload, 1) := by decide +kernel
theorem dX5_of_73 : decode cX5_of 73 = .ok (.ireturn, 1) := by decide +kernel
theorem dX5_of_74 : decode cX5_of 74 = .ok (.aload_n 0, 1) := by decide +kernel
theorem dX5_of_75 : decode cX5_of 75 = .ok (.getfield 12, 3) := by decide +kernel
theorem dX5_of_78 : decode cX5_of 78 = .ok (.getfield 82, 3) := by decide +kernel
theorem dX5_of_81 : decode cX5_of 81 = .ok (.iload_n 1, 1) := by decide +kernel
theorem dX5_of_82 : decode cX5_of 82 = .ok (.invokestatic 85, 3) := by decide +kernel
theorem dX5_of_85 : decode cX5_of 85 = .ok (.invokestatic 88, 3) := by decide +kernel
theorem dX5_of_88 : decode cX5_of 88 = .ok (.ireturn, 1) := by decide +kernel
theorem dX5_of_89 : decode cX5_of 89 = .ok (.bipush (-2), 2) := by decide +kernel
theorem dX5_of_91 : decode cX5_of 91 = .ok (.ireturn, 1) := by decide +kernel
theorem dX5_far_0 : decode cX5_far 0 = .ok (.aload_n 0, 1) := by decide +kernel
theorem dX5_far_1 : decode cX5_far 1 = .ok (.getfield 12, 3) := by decide +kernel
theorem dX5_far_4 : decode cX5_far 4 = .ok (.iload_n 1, 1) := by decide +kernel
theorem dX5_far_5 : decode cX5_far 5 = .ok (.invokevirtual 66, 3) := by decide +kernel
theorem dX5_far_8 : decode cX5_far 8 = .ok (.ifCond .eq 14, 3) := by decide +kernel
theorem dX5_far_11 : decode cX5_far 11 = .ok (.aload_n 0, 1) := by decide +kernel
theorem dX5_far_12 : decode cX5_far 12 = .ok (.getfield 12, 3) := by decide +kernel
theorem dX5_far_15 : decode cX5_far 15 = .ok (.iload_n 2, 1) := by decide +kernel
theorem dX5_far_16 : decode cX5_far 16 = .ok (.invokevirtual 66, 3) := by decide +kernel
theorem dX5_far_19 : decode cX5_far 19 = .ok (.ifCond .ne 5, 3) := by decide +kernel
theorem dX5_far_22 : decode cX5_far 22 = .ok (.iconst (-1), 1) := by decide +kernel
theorem dX5_far_23 : decode cX5_far 23 = .ok (.ireturn, 1) := by decide +kernel
theorem dX5_far_24 : decode cX5_far 24 = .ok (.aload_n 0, 1) := by decide +kernel
theorem dX5_far_25 : decode cX5_far 25 = .ok (.getfield 12, 3) := by decide +kernel
theorem dX5_far_28 : decode cX5_far 28 = .ok (.iload_n 1, 1) := by decide +kernel
theorem dX5_far_29 : decode cX5_far 29 = .ok (.iload_n 2, 1) := by decide +kernel
theorem dX5_far_30 : decode cX5_far 30 = .ok (.invokevirtual 92, 3) := by decide +kernel
theorem dX5_far_33 : decode cX5_far 33 = .ok (.ireturn, 1) := by decide +kernel
theorem dX5_attempt_0 : decode cX5_attempt 0 = .ok (.aload_n 0, 1) := by decide +kernel
theorem dX5_attempt_1 : decode cX5_attempt 1 = .ok (.getfield 19, 3) := by decide +kernel
theorem dX5_attempt_4 : decode cX5_attempt 4 = .ok (.iload_n 1, 1) := by decide +kernel
theorem dX5_attempt_5 : decode cX5_attempt 5 = .ok (.invokevirtual 96, 3) := by decide +kernel
theorem dX5_attempt_8 : decode cX5_attempt 8 = .ok (.ifCond .ne 5, 3) := by decide +kernel
theorem dX5_attempt_11 : decode cX5_attempt 11 = .ok (.iconst (-1), 1) := by decide +kernel
theorem dX5_attempt_12 : decode cX5_attempt 12 = .ok (.ireturn, 1) := by decide +kernel
theorem dX5_attempt_13 : decode cX5_attempt 13 = .ok (.iload_n 2, 1) := by decide +kernel
theorem dX5_attempt_14 : decode cX5_attempt 14 = .ok (.tableswitch 108 0 4 #[34, 44, 54, 66, 96], 34) := by decide +kernel
theorem dX5_attempt_48 : decode cX5_attempt 48 = .ok (.aload_n 0, 1) := by decide +kernel
theorem dX5_attempt_49 : decode cX5_attempt 49 = .ok (.getfield 19, 3) := by decide +kernel
theorem dX5_attempt_52 : decode cX5_attempt 52 = .ok (.getfield 99, 3) := by decide +kernel
theorem dX5_attempt_55 : decode cX5_attempt 55 = .ok (.iload_n 1, 1) := by decide +kernel
theorem dX5_attempt_56 : decode cX5_attempt 56 = .ok (.iaload, 1) := by decide +kernel
theorem dX5_attempt_57 : decode cX5_attempt 57 = .ok (.ireturn, 1) := by decide +kernel
theorem dX5_attempt_58 : decode cX5_attempt 58 = .ok (.aload_n 0, 1) := by decide +kernel
theorem dX5_attempt_59 : decode cX5_attempt 59 = .ok (.getfield 19, 3) := by decide +kernel
theorem dX5_attempt_62 : decode cX5_attempt 62 = .ok (.getfield 102, 3) := by decide +kernel
theorem dX5_attempt_65 : decode cX5_attempt 65 = .ok (.iload_n 1, 1) := by decide +kernel
theorem dX5_attempt_66 : decode cX5_attempt 66 = .ok (.iaload, 1) := by decide +kernel
theorem dX5_attempt_67 : decode cX5_attempt 67 = .ok (.ireturn, 1) := by decide +kernel
theorem dX5_attempt_68 : decode cX5_attempt 68 = .ok (.aload_n 0, 1) := by decide +kernel
theorem dX5_attempt_69 : decode cX5_attempt 69 = .ok (.getfield 19, 3) := by decide +kernel
theorem dX5_attempt_72 : decode cX5_attempt 72 = .ok (.iload_n 1, 1) := by decide +kernel
theorem dX5_attempt_73 : decode cX5_attempt 73 = .ok (.invokevirtual 105, 3) := by decide +kernel
theorem dX5_attempt_76 : decode cX5_attempt 76 = .ok (.invokestatic 88, 3) := by decide +kernel
theorem dX5_attempt_79 : decode cX5_attempt 79 = .ok (.ireturn, 1) := by decide +kernel
theorem dX5_attempt_80 : decode cX5_attempt 80 = .ok (.aload_n 0, 1) := by decide +kernel
theorem dX5_attempt_81 : decode cX5_attempt 81 = .ok (.getfield 19, 3) := by decide +kernel
theorem dX5_attempt_84 : decode cX5_attempt 84 = .ok (.aload_n 0, 1) := by decide +kernel
theorem dX5_attempt_85 : decode cX5_attempt 85 = .ok (.getfield 12, 3) := by decide +kernel
theorem dX5_attempt_88 : decode cX5_attempt 88 = .ok (.iload_n 1, 1) := by decide +kernel
theorem dX5_attempt_89 : decode cX5_attempt 89 = .ok (.aload_n 0, 1) := by decide +kernel
theorem dX5_attempt_90 : decode cX5_attempt 90 = .ok (.getfield 12, 3) := by decide +kernel
theorem dX5_attempt_93 : decode cX5_attempt 93 = .ok (.getfield 82, 3) := by decide +kernel
theorem dX5_attempt_96 : decode cX5_attempt 96 = .ok (.aload_n 0, 1) := by decide +kernel
theorem dX5_attempt_97 : decode cX5_attempt 97 = .ok (.getfield 12, 3) := by decide +kernel
theorem dX5_attempt_100 : decode cX5_attempt 100 = .ok (.getfield 108, 3) := by decide +kernel
theorem dX5_attempt_103 : decode cX5_attempt 103 = .ok (.invokevirtual 111, 3) := by decide +kernel
theorem dX5_attempt_106 : decode cX5_attempt 106 = .ok (.invokestatic 88, 3) := by decide +kernel
theorem dX5_attempt_109 : decode cX5_attempt 109 = .ok (.ireturn, 1) := by decide +kernel
theorem dX5_attempt_110 : decode cX5_attempt 110 = .ok (.aload_n 0, 1) := by decide +kernel
theorem dX5_attempt_111 : decode cX5_attempt 111 = .ok (.invokevirtual 115, 3) := by decide +kernel
theorem dX5_attempt_114 : decode cX5_attempt 114 = .ok (.iload_n 1, 1) := by decide +kernel
theorem dX5_attempt_115 : decode cX5_attempt 115 = .ok (.invokestatic 85, 3) := by decide +kernel
theorem dX5_attempt_118 : decode cX5_attempt 118 = .ok (.invokestatic 88, 3) := by decide +kernel
theorem dX5_attempt_121 : decode cX5_attempt 121 = .ok (.ireturn, 1) := by decide +kernel
theorem dX5_attempt_122 : decode cX5_attempt 122 = .ok (.bipush (-2), 2) := by decide +kernel
theorem dX5_attempt_124 : decode cX5_attempt 124 = .ok (.ireturn, 1) := by decide +kernel
theorem dX5_time_0 : decode cX5_time 0 = .ok (.iload_n 1, 1) := by decide +kernel
theorem dX5_time_1 : decode cX5_time 1 = .ok (.iconst (-1), 1) := by decide +kernel
theorem dX5_time_2 : decode cX5_time 2 = .ok (.if_icmp .eq 16, 3) := by decide +kernel
theorem dX5_time_5 : decode cX5_time 5 = .ok (.aload_n 0, 1) := by decide +kernel
theorem dX5_time_6 : decode cX5_time 6 = .ok (.getfield 19, 3) := by decide +kernel
theorem dX5_time_9 : decode cX5_time 9 = .ok (.iload_n 1, 1) := by decide +kernel
theorem dX5_time_10 : decode cX5_time 10 = .ok (.invokevirtual 96, 3) := by decide +kernel
theorem dX5_time_13 : decode cX5_time 13 = .ok (.ifCond .ne 5, 3) := by decide +kernel
theorem dX5_time_16 : decode cX5_time 16 = .ok (.iconst (-1), 1) := by decide +kernel
theorem dX5_time_17 : decode cX5_time 17 = .ok (.ireturn, 1) := by decide +kernel
theorem dX5_time_18 : decode cX5_time 18 = .ok (.aload_n 0, 1) := by decide +kernel
theorem dX5_time_19 : decode cX5_time 19 = .ok (.getfield 19, 3) := by decide +kernel
theorem dX5_time_22 : decode cX5_time 22 = .ok (.iload_n 2, 1) := by decide +kernel
theorem dX5_time_23 : decode cX5_time 23 = .ok (.invokevirtual 96, 3) := by decide +kernel
theorem dX5_time_26 : decode cX5_time 26 = .ok (.ifCond .ne 5, 3) := by decide +kernel
theorem dX5_time_29 : decode cX5_time 29 = .ok (.iconst (-1), 1) := by decide +kernel
theorem dX5_time_30 : decode cX5_time 30 = .ok (.ireturn, 1) := by decide +kernel
theorem dX5_time_31 : decode cX5_time 31 = .ok (.aload_n 0, 1) := by decide +kernel
theorem dX5_time_32 : decode cX5_time 32 = .ok (.getfield 26, 3) := by decide +kernel
theorem dX5_time_35 : decode cX5_time 35 = .ok (.iload_n 1, 1) := by decide +kernel
theorem dX5_time_36 : decode cX5_time 36 = .ok (.iconst 1, 1) := by decide +kernel
theorem dX5_time_37 : decode cX5_time 37 = .ok (.iadd, 1) := by decide +kernel
theorem dX5_time_38 : decode cX5_time 38 = .ok (.iload_n 2, 1) := by decide +kernel
theorem dX5_time_39 : decode cX5_time 39 = .ok (.invokevirtual 119, 3) := by decide +kernel
theorem dX5_time_42 : decode cX5_time 42 = .ok (.ireturn, 1) := by decide +kernel
theorem dX5_say_0 : decode cX5_say 0 = .ok (.iload_n 1, 1) := by decide +kernel
theorem dX5_say_1 : decode cX5_say 1 = .ok (.bipush 33, 2) := by decide +kernel
theorem dX5_say_3 : decode cX5_say 3 = .ok (.if_icmp .lt 9, 3) := by decide +kernel
theorem dX5_say_6 : decode cX5_say 6 = .ok (.iload_n 1, 1) := by decide +kernel
theorem dX5_say_7 : decode cX5_say 7 = .ok (.bipush 126, 2) := by decide +kernel
theorem dX5_say_9 : decode cX5_say 9 = .ok (.if_icmp .le 6, 3) := by decide +kernel
theorem dX5_say_12 : decode cX5_say 12 = .ok (.bipush (-2), 2) := by decide +kernel
theorem dX5_say_14 : decode cX5_say 14 = .ok (.ireturn, 1) := by decide +kernel
theorem dX5_say_15 : decode cX5_say 15 = .ok (.aload_n 0, 1) := by decide +kernel
theorem dX5_say_16 : decode cX5_say 16 = .ok (.getfield 33, 3) := by decide +kernel
theorem dX5_say_19 : decode cX5_say 19 = .ok (.getfield 122, 3) := by decide +kernel
theorem dX5_say_22 : decode cX5_say 22 = .ok (.bipush 24, 2) := by decide +kernel
theorem dX5_say_24 : decode cX5_say 24 = .ok (.if_icmp .lt 6, 3) := by decide +kernel
theorem dX5_say_27 : decode cX5_say 27 = .ok (.bipush (-4), 2) := by decide +kernel
theorem dX5_say_29 : decode cX5_say 29 = .ok (.ireturn, 1) := by decide +kernel
theorem dX5_say_30 : decode cX5_say 30 = .ok (.aload_n 0, 1) := by decide +kernel
theorem dX5_say_31 : decode cX5_say 31 = .ok (.getfield 33, 3) := by decide +kernel
theorem dX5_say_34 : decode cX5_say 34 = .ok (.iload_n 1, 1) := by decide +kernel
theorem dX5_say_35 : decode cX5_say 35 = .ok (.invokevirtual 125, 3) := by decide +kernel
theorem dX5_say_38 : decode cX5_say 38 = .ok (.aload_n 0, 1) := by decide +kernel
theorem dX5_say_39 : decode cX5_say 39 = .ok (.getfield 33, 3) := by decide +kernel
theorem dX5_say_42 : decode cX5_say 42 = .ok (.getfield 122, 3) := by decide +kernel
theorem dX5_say_45 : decode cX5_say 45 = .ok (.ireturn, 1) := by decide +kernel
theorem dX5_wipe_0 : decode cX5_wipe 0 = .ok (.aload_n 0, 1) := by decide +kernel
theorem dX5_wipe_1 : decode cX5_wipe 1 = .ok (.getfield 33, 3) := by decide +kernel
theorem dX5_wipe_4 : decode cX5_wipe 4 = .ok (.getfield 122, 3) := by decide +kernel
theorem dX5_wipe_7 : decode cX5_wipe 7 = .ok (.istore_n 1, 1) := by decide +kernel
theorem dX5_wipe_8 : decode cX5_wipe 8 = .ok (.aload_n 0, 1) := by decide +kernel
theorem dX5_wipe_9 : decode cX5_wipe 9 = .ok (.getfield 33, 3) := by decide +kernel
theorem dX5_wipe_12 : decode cX5_wipe 12 = .ok (.iconst 0, 1) := by decide +kernel
theorem dX5_wipe_13 : decode cX5_wipe 13 = .ok (.putfield 122, 3) := by decide +kernel
theorem dX5_wipe_16 : decode cX5_wipe 16 = .ok (.iload_n 1, 1) := by decide +kernel
theorem dX5_wipe_17 : decode cX5_wipe 17 = .ok (.ireturn, 1) := by decide +kernel
theorem dX5_told_0 : decode cX5_told 0 = .ok (.aload_n 0, 1) := by decide +kernel
theorem dX5_told_1 : decode cX5_told 1 = .ok (.getfield 33, 3) := by decide +kernel
theorem dX5_told_4 : decode cX5_told 4 = .ok (.aload_n 0, 1) := by decide +kernel
theorem dX5_told_5 : decode cX5_told 5 = .ok (.getfield 19, 3) := by decide +kernel
theorem dX5_told_8 : decode cX5_told 8 = .ok (.getfield 129, 3) := by decide +kernel
theorem dX5_told_11 : decode cX5_told 11 = .ok (.invokevirtual 132, 3) := by decide +kernel
theorem dX5_told_14 : decode cX5_told 14 = .ok (.ifCond .ne 6, 3) := by decide +kernel
theorem dX5_told_17 : decode cX5_told 17 = .ok (.bipush (-7), 2) := by decide +kernel
theorem dX5_told_19 : decode cX5_told 19 = .ok (.ireturn, 1) := by decide +kernel
theorem dX5_told_20 : decode cX5_told 20 = .ok (.iconst 0, 1) := by decide +kernel
theorem dX5_told_21 : decode cX5_told 21 = .ok (.istore_n 1, 1) := by decide +kernel
theorem dX5_told_22 : decode cX5_told 22 = .ok (.iconst 0, 1) := by decide +kernel
theorem dX5_told_23 : decode cX5_told 23 = .ok (.istore_n 2, 1) := by decide +kernel
theorem dX5_told_24 : decode cX5_told 24 = .ok (.iconst 0, 1) := by decide +kernel
theorem dX5_told_25 : decode cX5_told 25 = .ok (.istore_n 3, 1) := by decide +kernel
theorem dX5_told_26 : decode cX5_told 26 = .ok (.iload_n 3, 1) := by decide +kernel
theorem dX5_told_27 : decode cX5_told 27 = .ok (.aload_n 0, 1) := by decide +kernel
theorem dX5_told_28 : decode cX5_told 28 = .ok (.getfield 33, 3) := by decide +kernel
theorem dX5_told_31 : decode cX5_told 31 = .ok (.getfield 122, 3) := by decide +kernel
theorem dX5_told_34 : decode cX5_told 34 = .ok (.if_icmp .ge 37, 3) := by decide +kernel
theorem dX5_told_37 : decode cX5_told 37 = .ok (.aload_n 0, 1) := by decide +kernel
theorem dX5_told_38 : decode cX5_told 38 = .ok (.getfield 33, 3) := by decide +kernel
theorem dX5_told_41 : decode cX5_told 41 = .ok (.iload_n 3, 1) := by decide +kernel
theorem dX5_told_42 : decode cX5_told 42 = .ok (.invokevirtual 135, 3) := by decide +kernel
theorem dX5_told_45 : decode cX5_told 45 = .ok (.istore 4, 2) := by decide +kernel
theorem dX5_told_47 : decode cX5_told 47 = .ok (.iload_n 1, 1) := by decide +kernel
theorem dX5_told_48 : decode cX5_told 48 = .ok (.aload_n 0, 1) := by decide +kernel
theorem dX5_told_49 : decode cX5_told 49 = .ok (.getfield 26, 3) := by decide +kernel
theorem dX5_told_52 : decode cX5_told 52 = .ok (.iload_n 2, 1) := by decide +kernel
theorem dX5_told_53 : decode cX5_told 53 = .ok (.iload 4, 2) := by decide +kernel
theorem dX5_told_55 : decode cX5_told 55 = .ok (.invokevirtual 119, 3) := by decide +kernel
theorem dX5_told_58 : decode cX5_told 58 = .ok (.iadd, 1) := by decide +kernel
theorem dX5_told_59 : decode cX5_told 59 = .ok (.istore_n 1, 1) := by decide +kernel
theorem dX5_told_60 : decode cX5_told 60 = .ok (.iload 4, 2) := by decide +kernel
theorem dX5_told_62 : decode cX5_told 62 = .ok (.iconst 1, 1) := by decide +kernel
theorem dX5_told_63 : decode cX5_told 63 = .ok (.iadd, 1) := by decide +kernel
theorem dX5_told_64 : decode cX5_told 64 = .ok (.istore_n 2, 1) := by decide +kernel
theorem dX5_told_65 : decode cX5_told 65 = .ok (.iinc 3 1, 3) := by decide +kernel
theorem dX5_told_68 : decode cX5_told 68 = .ok (.goto (-42), 3) := by decide +kernel
theorem dX5_told_71 : decode cX5_told 71 = .ok (.iload_n 1, 1) := by decide +kernel
theorem dX5_told_72 : decode cX5_told 72 = .ok (.ireturn, 1) := by decide +kernel
theorem dX5_best_0 : decode cX5_best 0 = .ok (.iload_n 1, 1) := by decide +kernel
theorem dX5_best_1 : decode cX5_best 1 = .ok (.iconst (-1), 1) := by decide +kernel
theorem dX5_best_2 : decode cX5_best 2 = .ok (.if_icmp .ge 6, 3) := by decide +kernel
theorem dX5_best_5 : decode cX5_best 5 = .ok (.bipush (-2), 2) := by decide +kernel
theorem dX5_best_7 : decode cX5_best 7 = .ok (.ireturn, 1) := by decide +kernel
theorem dX5_best_8 : decode cX5_best 8 = .ok (.aload_n 0, 1) := by decide +kernel
theorem dX5_best_9 : decode cX5_best 9 = .ok (.getfield 26, 3) := by decide +kernel
theorem dX5_best_12 : decode cX5_best 12 = .ok (.invokevirtual 139, 3) := by decide +kernel
theorem dX5_best_15 : decode cX5_best 15 = .ok (.aload_n 0, 1) := by decide +kernel
theorem dX5_best_16 : decode cX5_best 16 = .ok (.getfield 26, 3) := by decide +kernel
theorem dX5_best_19 : decode cX5_best 19 = .ok (.getfield 142, 3) := by decide +kernel
theorem dX5_best_22 : decode cX5_best 22 = .ok (.iload_n 1, 1) := by decide +kernel
theorem dX5_best_23 : decode cX5_best 23 = .ok (.invokevirtual 146, 3) := by decide +kernel
theorem dX5_best_26 : decode cX5_best 26 = .ok (.ireturn, 1) := by decide +kernel
theorem dX5_nearest_0 : decode cX5_nearest 0 = .ok (.iload_n 1, 1) := by decide +kernel
theorem dX5_nearest_1 : decode cX5_nearest 1 = .ok (.iconst (-1), 1) := by decide +kernel
theorem dX5_nearest_2 : decode cX5_nearest 2 = .ok (.if_icmp .ge 6, 3) := by decide +kernel
theorem dX5_nearest_5 : decode cX5_nearest 5 = .ok (.bipush (-2), 2) := by decide +kernel
theorem dX5_nearest_7 : decode cX5_nearest 7 = .ok (.ireturn, 1) := by decide +kernel
theorem dX5_nearest_8 : decode cX5_nearest 8 = .ok (.aload_n 0, 1) := by decide +kernel
theorem dX5_nearest_9 : decode cX5_nearest 9 = .ok (.getfield 26, 3) := by decide +kernel
theorem dX5_nearest_12 : decode cX5_nearest 12 = .ok (.invokevirtual 151, 3) := by decide +kernel
theorem dX5_nearest_15 : decode cX5_nearest 15 = .ok (.aload_n 0, 1) := by decide +kernel
theorem dX5_nearest_16 : decode cX5_nearest 16 = .ok (.getfield 26, 3) := by decide +kernel
theorem dX5_nearest_19 : decode cX5_nearest 19 = .ok (.getfield 154, 3) := by decide +kernel
theorem dX5_nearest_22 : decode cX5_nearest 22 = .ok (.iload_n 1, 1) := by decide +kernel
theorem dX5_nearest_23 : decode cX5_nearest 23 = .ok (.invokevirtual 146, 3) := by decide +kernel
theorem dX5_nearest_26 : decode cX5_nearest 26 = .ok (.ireturn, 1) := by decide +kernel
theorem dX5_loosen_0 : decode cX5_loosen 0 = .ok (.aload_n 0, 1) := by decide +kernel
theorem dX5_loosen_1 : decode cX5_loosen 1 = .ok (.getfield 12, 3) := by decide +kernel
theorem dX5_loosen_4 : decode cX5_loosen 4 = .ok (.iload_n 1, 1) := by decide +kernel
theorem dX5_loosen_5 : decode cX5_loosen 5 = .ok (.invokevirtual 66, 3) := by decide +kernel
theorem dX5_loosen_8 : decode cX5_loosen 8 = .ok (.ifCond .ne 5, 3) := by decide +kernel
theorem dX5_loosen_11 : decode cX5_loosen 11 = .ok (.iconst (-1), 1) := by decide +kernel
theorem dX5_loosen_12 : decode cX5_loosen 12 = .ok (.ireturn, 1) := by decide +kernel
theorem dX5_loosen_13 : decode cX5_loosen 13 = .ok (.iload_n 2, 1) := by decide +kernel
theorem dX5_loosen_14 : decode cX5_loosen 14 = .ok (.invokestatic 157, 3) := by decide +kernel
theorem dX5_loosen_17 : decode cX5_loosen 17 = .ok (.ifCond .ne 6, 3) := by decide +kernel
theorem dX5_loosen_20 : decode cX5_loosen 20 = .ok (.bipush (-2), 2) := by decide +kernel
theorem dX5_loosen_22 : decode cX5_loosen 22 = .ok (.ireturn, 1) := by decide +kernel
theorem dX5_loosen_23 : decode cX5_loosen 23 = .ok (.aload_n 0, 1) := by decide +kernel
theorem dX5_loosen_24 : decode cX5_loosen 24 = .ok (.getfield 12, 3) := by decide +kernel
theorem dX5_loosen_27 : decode cX5_loosen 27 = .ok (.aload_n 0, 1) := by decide +kernel
theorem dX5_loosen_28 : decode cX5_loosen 28 = .ok (.getfield 12, 3) := by decide +kernel
theorem dX5_loosen_31 : decode cX5_loosen 31 = .ok (.getfield 82, 3) := by decide +kernel
theorem dX5_loosen_34 : decode cX5_loosen 34 = .ok (.iload_n 1, 1) := by decide +kernel
theorem dX5_loosen_35 : decode cX5_loosen 35 = .ok (.iload_n 2, 1) := by decide +kernel
theorem dX5_loosen_36 : decode cX5_loosen 36 = .ok (.invokestatic 160, 3) := by decide +kernel
theorem dX5_loosen_39 : decode cX5_loosen 39 = .ok (.putfield 82, 3) := by decide +kernel
theorem dX5_loosen_42 : decode cX5_loosen 42 = .ok (.aload_n 0, 1) := by decide +kernel
theorem dX5_loosen_43 : decode cX5_loosen 43 = .ok (.getfield 12, 3) := by decide +kernel
theorem dX5_loosen_46 : decode cX5_loosen 46 = .ok (.getfield 82, 3) := by decide +kernel
theorem dX5_loosen_49 : decode cX5_loosen 49 = .ok (.invokestatic 163, 3) := by decide +kernel
theorem dX5_loosen_52 : decode cX5_loosen 52 = .ok (.ireturn, 1) := by decide +kernel
theorem dX5_join_0 : decode cX5_join 0 = .ok (.iload_n 1, 1) := by decide +kernel
theorem dX5_join_1 : decode cX5_join 1 = .ok (.invokestatic 45, 3) := by decide +kernel
theorem dX5_join_4 : decode cX5_join 4 = .ok (.ifCond .eq 10, 3) := by decide +kernel
theorem dX5_join_7 : decode cX5_join 7 = .ok (.iload_n 2, 1) := by decide +kernel
theorem dX5_join_8 : decode cX5_join 8 = .ok (.invokestatic 45, 3) := by decide +kernel
theorem dX5_join_11 : decode cX5_join 11 = .ok (.ifCond .ne 5, 3) := by decide +kernel
theorem dX5_join_14 : decode cX5_join 14 = .ok (.iconst (-1), 1) := by decide +kernel
theorem dX5_join_15 : decode cX5_join 15 = .ok (.ireturn, 1) := by decide +kernel
theorem dX5_join_16 : decode cX5_join 16 = .ok (.iload_n 1, 1) := by decide +kernel
theorem dX5_join_17 : decode cX5_join 17 = .ok (.iload_n 2, 1) := by decide +kernel
theorem dX5_join_18 : decode cX5_join 18 = .ok (.if_icmp .eq 10, 3) := by decide +kernel
theorem dX5_join_21 : decode cX5_join 21 = .ok (.iload_n 3, 1) := by decide +kernel
theorem dX5_join_22 : decode cX5_join 22 = .ok (.invokestatic 157, 3) := by decide +kernel
theorem dX5_join_25 : decode cX5_join 25 = .ok (.ifCond .ne 6, 3) := by decide +kernel
theorem dX5_join_28 : decode cX5_join 28 = .ok (.bipush (-2), 2) := by decide +kernel
theorem dX5_join_30 : decode cX5_join 30 = .ok (.ireturn, 1) := by decide +kernel
theorem dX5_join_31 : decode cX5_join 31 = .ok (.aload_n 0, 1) := by decide +kernel
theorem dX5_join_32 : decode cX5_join 32 = .ok (.getfield 12, 3) := by decide +kernel
theorem dX5_join_35 : decode cX5_join 35 = .ok (.aload_n 0, 1) := by decide +kernel
theorem dX5_join_36 : decode cX5_join 36 = .ok (.getfield 12, 3) := by decide +kernel
theorem dX5_join_39 : decode cX5_join 39 = .ok (.getfield 108, 3) := by decide +kernel
theorem dX5_join_42 : decode cX5_join 42 = .ok (.iload_n 1, 1) := by decide +kernel
theorem dX5_join_43 : decode cX5_join 43 = .ok (.iload_n 2, 1) := by decide +kernel
theorem dX5_join_44 : decode cX5_join 44 = .ok (.invokestatic 168, 3) := by decide +kernel
theorem dX5_join_47 : decode cX5_join 47 = .ok (.iload_n 3, 1) := by decide +kernel
theorem dX5_join_48 : decode cX5_join 48 = .ok (.invokestatic 160, 3) := by decide +kernel
theorem dX5_join_51 : decode cX5_join 51 = .ok (.putfield 108, 3) := by decide +kernel
theorem dX5_join_54 : decode cX5_join 54 = .ok (.aload_n 0, 1) := by decide +kernel
theorem dX5_join_55 : decode cX5_join 55 = .ok (.getfield 12, 3) := by decide +kernel
theorem dX5_join_58 : decode cX5_join 58 = .ok (.getfield 108, 3) := by decide +kernel
theorem dX5_join_61 : decode cX5_join 61 = .ok (.invokestatic 163, 3) := by decide +kernel
theorem dX5_join_64 : decode cX5_join 64 = .ok (.ireturn, 1) := by decide +kernel
theorem dX5_sees_0 : decode cX5_sees 0 = .ok (.aload_n 0, 1) := by decide +kernel
theorem dX5_sees_1 : decode cX5_sees 1 = .ok (.invokevirtual 115, 3) := by decide +kernel
theorem dX5_sees_4 : decode cX5_sees 4 = .ok (.ireturn, 1) := by decide +kernel
theorem dX5_fits_0 : decode cX5_fits 0 = .ok (.aload_n 0, 1) := by decide +kernel
theorem dX5_fits_1 : decode cX5_fits 1 = .ok (.aload_n 0, 1) := by decide +kernel
theorem dX5_fits_2 : decode cX5_fits 2 = .ok (.invokevirtual 115, 3) := by decide +kernel
theorem dX5_fits_5 : decode cX5_fits 5 = .ok (.iload_n 1, 1) := by decide +kernel
theorem dX5_fits_6 : decode cX5_fits 6 = .ok (.invokevirtual 171, 3) := by decide +kernel
theorem dX5_fits_9 : decode cX5_fits 9 = .ok (.ireturn, 1) := by decide +kernel
theorem dX5_hidden_0 : decode cX5_hidden 0 = .ok (.iload_n 1, 1) := by decide +kernel
theorem dX5_hidden_1 : decode cX5_hidden 1 = .ok (.invokestatic 157, 3) := by decide +kernel
theorem dX5_hidden_4 : decode cX5_hidden 4 = .ok (.ifCond .ne 6, 3) := by decide +kernel
theorem dX5_hidden_7 : decode cX5_hidden 7 = .ok (.bipush (-2), 2) := by decide +kernel
theorem dX5_hidden_9 : decode cX5_hidden 9 = .ok (.ireturn, 1) := by decide +kernel
theorem dX5_hidden_10 : decode cX5_hidden 10 = .ok (.iload_n 1, 1) := by decide +kernel
theorem dX5_hidden_11 : decode cX5_hidden 11 = .ok (.ifCond .ne 12, 3) := by decide +kernel
theorem dX5_hidden_14 : decode cX5_hidden 14 = .ok (.aload_n 0, 1) := by decide +kernel
theorem dX5_hidden_15 : decode cX5_hidden 15 = .ok (.iconst 0, 1) := by decide +kernel
theorem dX5_hidden_16 : decode cX5_hidden 16 = .ok (.iconst (-1), 1) := by decide +kernel
theorem dX5_hidden_17 : decode cX5_hidden 17 = .ok (.invokevirtual 171, 3) := by decide +kernel
theorem dX5_hidden_20 : decode cX5_hidden 20 = .ok (.goto 9, 3) := by decide +kernel
theorem dX5_hidden_23 : decode cX5_hidden 23 = .ok (.aload_n 0, 1) := by decide +kernel
theorem dX5_hidden_24 : decode cX5_hidden 24 = .ok (.iconst 0, 1) := by decide +kernel
theorem dX5_hidden_25 : decode cX5_hidden 25 = .ok (.iconst 0, 1) := by decide +kernel
theorem dX5_hidden_26 : decode cX5_hidden 26 = .ok (.invokevirtual 171, 3) := by decide +kernel
theorem dX5_hidden_29 : decode cX5_hidden 29 = .ok (.ireturn, 1) := by decide +kernel
theorem dX5_halves_0 : decode cX5_halves 0 = .ok (.iload_n 1, 1) := by decide +kernel
theorem dX5_halves_1 : decode cX5_halves 1 = .ok (.invokestatic 45, 3) := by decide +kernel
theorem dX5_halves_4 : decode cX5_halves 4 = .ok (.ifCond .ne 5, 3) := by decide +kernel
theorem dX5_halves_7 : decode cX5_halves 7 = .ok (.iconst (-1), 1) := by decide +kernel
theorem dX5_halves_8 : decode cX5_halves 8 = .ok (.ireturn, 1) := by decide +kernel
theorem dX5_halves_9 : decode cX5_halves 9 = .ok (.iload_n 2, 1) := by decide +kernel
theorem dX5_halves_10 : decode cX5_halves 10 = .ok (.invokestatic 157, 3) := by decide +kernel
theorem dX5_halves_13 : decode cX5_halves 13 = .ok (.ifCond .ne 6, 3) := by decide +kernel
theorem dX5_halves_16 : decode cX5_halves 16 = .ok (.bipush (-2), 2) := by decide +kernel
end
section
theorem dX5_halves_18 : decode cX5_halves 18 = .ok (.ireturn, 1) := by decide +kernel
theorem dX5_halves_19 : decode cX5_halves 19 = .ok (.iload_n 1, 1) := by decide +kernel
theorem dX5_halves_20 : decode cX5_halves 20 = .ok (.aload_n 0, 1) := by decide +kernel
theorem dX5_halves_21 : decode cX5_halves 21 = .ok (.getfield 12, 3) := by decide +kernel
theorem dX5_halves_24 : decode cX5_halves 24 = .ok (.getfield 108, 3) := by decide +kernel
theorem dX5_halves_27 : decode cX5_halves 27 = .ok (.invokestatic 174, 3) := by decide +kernel
theorem dX5_halves_30 : decode cX5_halves 30 = .ok (.istore_n 3, 1) := by decide +kernel
theorem dX5_halves_31 : decode cX5_halves 31 = .ok (.bipush 15, 2) := by decide +kernel
theorem dX5_halves_33 : decode cX5_halves 33 = .ok (.iconst 1, 1) := by decide +kernel
theorem dX5_halves_34 : decode cX5_halves 34 = .ok (.iload_n 1, 1) := by decide +kernel
theorem dX5_halves_35 : decode cX5_halves 35 = .ok (.ishl, 1) := by decide +kernel
theorem dX5_halves_36 : decode cX5_halves 36 = .ok (.iconst (-1), 1) := by decide +kernel
theorem dX5_halves_37 : decode cX5_halves 37 = .ok (.ixor, 1) := by decide +kernel
theorem dX5_halves_38 : decode cX5_halves 38 = .ok (.iand, 1) := by decide +kernel
theorem dX5_halves_39 : decode cX5_halves 39 = .ok (.istore 4, 2) := by decide +kernel
theorem dX5_halves_41 : decode cX5_halves 41 = .ok (.iconst 0, 1) := by decide +kernel
theorem dX5_halves_42 : decode cX5_halves 42 = .ok (.istore 5, 2) := by decide +kernel
theorem dX5_halves_44 : decode cX5_halves 44 = .ok (.iconst 0, 1) := by decide +kernel
theorem dX5_halves_45 : decode cX5_halves 45 = .ok (.istore 6, 2) := by decide +kernel
theorem dX5_halves_47 : decode cX5_halves 47 = .ok (.iload 6, 2) := by decide +kernel
theorem dX5_halves_49 : decode cX5_halves 49 = .ok (.iconst 4, 1) := by decide +kernel
theorem dX5_halves_50 : decode cX5_halves 50 = .ok (.if_icmp .ge 56, 3) := by decide +kernel
theorem dX5_halves_53 : decode cX5_halves 53 = .ok (.iload 4, 2) := by decide +kernel
theorem dX5_halves_55 : decode cX5_halves 55 = .ok (.invokestatic 163, 3) := by decide +kernel
theorem dX5_halves_58 : decode cX5_halves 58 = .ok (.iconst 2, 1) := by decide +kernel
theorem dX5_halves_59 : decode cX5_halves 59 = .ok (.if_icmp .lt 47, 3) := by decide +kernel
theorem dX5_halves_62 : decode cX5_halves 62 = .ok (.iload 4, 2) := by decide +kernel
theorem dX5_halves_64 : decode cX5_halves 64 = .ok (.iload 4, 2) := by decide +kernel
theorem dX5_halves_66 : decode cX5_halves 66 = .ok (.invokestatic 163, 3) := by decide +kernel
theorem dX5_halves_69 : decode cX5_halves 69 = .ok (.iconst 2, 1) := by decide +kernel
theorem dX5_halves_70 : decode cX5_halves 70 = .ok (.idiv, 1) := by decide +kernel
theorem dX5_halves_71 : decode cX5_halves 71 = .ok (.invokestatic 177, 3) := by decide +kernel
theorem dX5_halves_74 : decode cX5_halves 74 = .ok (.istore 7, 2) := by decide +kernel
theorem dX5_halves_76 : decode cX5_halves 76 = .ok (.iload 7, 2) := by decide +kernel
theorem dX5_halves_78 : decode cX5_halves 78 = .ok (.iload_n 3, 1) := by decide +kernel
theorem dX5_halves_79 : decode cX5_halves 79 = .ok (.iand, 1) := by decide +kernel
theorem dX5_halves_80 : decode cX5_halves 80 = .ok (.ifCond .eq 8, 3) := by decide +kernel
theorem dX5_halves_83 : decode cX5_halves 83 = .ok (.iload 7, 2) := by decide +kernel
theorem dX5_halves_85 : decode cX5_halves 85 = .ok (.goto 10, 3) := by decide +kernel
theorem dX5_halves_88 : decode cX5_halves 88 = .ok (.iload 4, 2) := by decide +kernel
theorem dX5_halves_90 : decode cX5_halves 90 = .ok (.iload 7, 2) := by decide +kernel
theorem dX5_halves_92 : decode cX5_halves 92 = .ok (.iconst (-1), 1) := by decide +kernel
theorem dX5_halves_93 : decode cX5_halves 93 = .ok (.ixor, 1) := by decide +kernel
theorem dX5_halves_94 : decode cX5_halves 94 = .ok (.iand, 1) := by decide +kernel
theorem dX5_halves_95 : decode cX5_halves 95 = .ok (.istore 4, 2) := by decide +kernel
theorem dX5_halves_97 : decode cX5_halves 97 = .ok (.iinc 5 1, 3) := by decide +kernel
theorem dX5_halves_100 : decode cX5_halves 100 = .ok (.iinc 6 1, 3) := by decide +kernel
theorem dX5_halves_103 : decode cX5_halves 103 = .ok (.goto (-56), 3) := by decide +kernel
theorem dX5_halves_106 : decode cX5_halves 106 = .ok (.iinc 5 1, 3) := by decide +kernel
theorem dX5_halves_109 : decode cX5_halves 109 = .ok (.iload_n 2, 1) := by decide +kernel
theorem dX5_halves_110 : decode cX5_halves 110 = .ok (.ifCond .ne 6, 3) := by decide +kernel
theorem dX5_halves_113 : decode cX5_halves 113 = .ok (.iload 5, 2) := by decide +kernel
theorem dX5_halves_115 : decode cX5_halves 115 = .ok (.ireturn, 1) := by decide +kernel
theorem dX5_halves_116 : decode cX5_halves 116 = .ok (.iload 4, 2) := by decide +kernel
theorem dX5_halves_118 : decode cX5_halves 118 = .ok (.iload_n 3, 1) := by decide +kernel
theorem dX5_halves_119 : decode cX5_halves 119 = .ok (.iand, 1) := by decide +kernel
theorem dX5_halves_120 : decode cX5_halves 120 = .ok (.invokestatic 180, 3) := by decide +kernel
theorem dX5_halves_123 : decode cX5_halves 123 = .ok (.ireturn, 1) := by decide +kernel
theorem dX5_image_0 : decode cX5_image 0 = .ok (.iload_n 1, 1) := by decide +kernel
theorem dX5_image_1 : decode cX5_image 1 = .ok (.invokestatic 183, 3) := by decide +kernel
theorem dX5_image_4 : decode cX5_image 4 = .ok (.ifCond .ne 6, 3) := by decide +kernel
theorem dX5_image_7 : decode cX5_image 7 = .ok (.bipush (-2), 2) := by decide +kernel
theorem dX5_image_9 : decode cX5_image 9 = .ok (.ireturn, 1) := by decide +kernel
theorem dX5_image_10 : decode cX5_image 10 = .ok (.aload_n 0, 1) := by decide +kernel
theorem dX5_image_11 : decode cX5_image 11 = .ok (.getfield 37, 3) := by decide +kernel
theorem dX5_image_14 : decode cX5_image 14 = .ok (.iload_n 1, 1) := by decide +kernel
theorem dX5_image_15 : decode cX5_image 15 = .ok (.aaload, 1) := by decide +kernel
theorem dX5_image_16 : decode cX5_image 16 = .ok (.aload_n 0, 1) := by decide +kernel
theorem dX5_image_17 : decode cX5_image 17 = .ok (.getfield 12, 3) := by decide +kernel
theorem dX5_image_20 : decode cX5_image 20 = .ok (.invokevirtual 186, 3) := by decide +kernel
theorem dX5_image_23 : decode cX5_image 23 = .ok (.aload_n 0, 1) := by decide +kernel
theorem dX5_image_24 : decode cX5_image 24 = .ok (.dup, 1) := by decide +kernel
theorem dX5_image_25 : decode cX5_image 25 = .ok (.getfield 41, 3) := by decide +kernel
theorem dX5_image_28 : decode cX5_image 28 = .ok (.iconst 1, 1) := by decide +kernel
theorem dX5_image_29 : decode cX5_image 29 = .ok (.iload_n 1, 1) := by decide +kernel
theorem dX5_image_30 : decode cX5_image 30 = .ok (.ishl, 1) := by decide +kernel
theorem dX5_image_31 : decode cX5_image 31 = .ok (.ior, 1) := by decide +kernel
theorem dX5_image_32 : decode cX5_image 32 = .ok (.putfield 41, 3) := by decide +kernel
theorem dX5_image_35 : decode cX5_image 35 = .ok (.iconst 1, 1) := by decide +kernel
theorem dX5_image_36 : decode cX5_image 36 = .ok (.ireturn, 1) := by decide +kernel
theorem dX5_restore_0 : decode cX5_restore 0 = .ok (.iload_n 1, 1) := by decide +kernel
theorem dX5_restore_1 : decode cX5_restore 1 = .ok (.invokestatic 183, 3) := by decide +kernel
theorem dX5_restore_4 : decode cX5_restore 4 = .ok (.ifCond .ne 6, 3) := by decide +kernel
theorem dX5_restore_7 : decode cX5_restore 7 = .ok (.bipush (-2), 2) := by decide +kernel
theorem dX5_restore_9 : decode cX5_restore 9 = .ok (.ireturn, 1) := by decide +kernel
theorem dX5_restore_10 : decode cX5_restore 10 = .ok (.aload_n 0, 1) := by decide +kernel
theorem dX5_restore_11 : decode cX5_restore 11 = .ok (.getfield 41, 3) := by decide +kernel
theorem dX5_restore_14 : decode cX5_restore 14 = .ok (.iload_n 1, 1) := by decide +kernel
theorem dX5_restore_15 : decode cX5_restore 15 = .ok (.invokestatic 85, 3) := by decide +kernel
theorem dX5_restore_18 : decode cX5_restore 18 = .ok (.ifCond .ne 6, 3) := by decide +kernel
theorem dX5_restore_21 : decode cX5_restore 21 = .ok (.bipush (-3), 2) := by decide +kernel
theorem dX5_restore_23 : decode cX5_restore 23 = .ok (.ireturn, 1) := by decide +kernel
theorem dX5_restore_24 : decode cX5_restore 24 = .ok (.aload_n 0, 1) := by decide +kernel
theorem dX5_restore_25 : decode cX5_restore 25 = .ok (.getfield 12, 3) := by decide +kernel
theorem dX5_restore_28 : decode cX5_restore 28 = .ok (.aload_n 0, 1) := by decide +kernel
theorem dX5_restore_29 : decode cX5_restore 29 = .ok (.getfield 37, 3) := by decide +kernel
theorem dX5_restore_32 : decode cX5_restore 32 = .ok (.iload_n 1, 1) := by decide +kernel
theorem dX5_restore_33 : decode cX5_restore 33 = .ok (.aaload, 1) := by decide +kernel
theorem dX5_restore_34 : decode cX5_restore 34 = .ok (.invokevirtual 186, 3) := by decide +kernel
theorem dX5_restore_37 : decode cX5_restore 37 = .ok (.aload_n 0, 1) := by decide +kernel
theorem dX5_restore_38 : decode cX5_restore 38 = .ok (.invokevirtual 60, 3) := by decide +kernel
theorem dX5_restore_41 : decode cX5_restore 41 = .ok (.iconst 1, 1) := by decide +kernel
theorem dX5_restore_42 : decode cX5_restore 42 = .ok (.ireturn, 1) := by decide +kernel
theorem dX5_count_0 : decode cX5_count 0 = .ok (.iload_n 1, 1) := by decide +kernel
theorem dX5_count_1 : decode cX5_count 1 = .ok (.tableswitch 134 0 8 #[51, 59, 67, 83, 91, 102, 113, 121, 129], 51) := by decide +kernel
theorem dX5_count_52 : decode cX5_count 52 = .ok (.aload_n 0, 1) := by decide +kernel
theorem dX5_count_53 : decode cX5_count 53 = .ok (.getfield 12, 3) := by decide +kernel
theorem dX5_count_56 : decode cX5_count 56 = .ok (.getfield 53, 3) := by decide +kernel
theorem dX5_count_59 : decode cX5_count 59 = .ok (.ireturn, 1) := by decide +kernel
theorem dX5_count_60 : decode cX5_count 60 = .ok (.aload_n 0, 1) := by decide +kernel
theorem dX5_count_61 : decode cX5_count 61 = .ok (.getfield 19, 3) := by decide +kernel
theorem dX5_count_64 : decode cX5_count 64 = .ok (.getfield 129, 3) := by decide +kernel
theorem dX5_count_67 : decode cX5_count 67 = .ok (.ireturn, 1) := by decide +kernel
theorem dX5_count_68 : decode cX5_count 68 = .ok (.aload_n 0, 1) := by decide +kernel
theorem dX5_count_69 : decode cX5_count 69 = .ok (.getfield 19, 3) := by decide +kernel
theorem dX5_count_72 : decode cX5_count 72 = .ok (.getfield 129, 3) := by decide +kernel
theorem dX5_count_75 : decode cX5_count 75 = .ok (.aload_n 0, 1) := by decide +kernel
theorem dX5_count_76 : decode cX5_count 76 = .ok (.getfield 19, 3) := by decide +kernel
theorem dX5_count_79 : decode cX5_count 79 = .ok (.getfield 190, 3) := by decide +kernel
theorem dX5_count_82 : decode cX5_count 82 = .ok (.isub, 1) := by decide +kernel
theorem dX5_count_83 : decode cX5_count 83 = .ok (.ireturn, 1) := by decide +kernel
theorem dX5_count_84 : decode cX5_count 84 = .ok (.aload_n 0, 1) := by decide +kernel
theorem dX5_count_85 : decode cX5_count 85 = .ok (.getfield 12, 3) := by decide +kernel
theorem dX5_count_88 : decode cX5_count 88 = .ok (.invokevirtual 193, 3) := by decide +kernel
theorem dX5_count_91 : decode cX5_count 91 = .ok (.ireturn, 1) := by decide +kernel
theorem dX5_count_92 : decode cX5_count 92 = .ok (.aload_n 0, 1) := by decide +kernel
theorem dX5_count_93 : decode cX5_count 93 = .ok (.getfield 12, 3) := by decide +kernel
theorem dX5_count_96 : decode cX5_count 96 = .ok (.getfield 82, 3) := by decide +kernel
theorem dX5_count_99 : decode cX5_count 99 = .ok (.invokestatic 163, 3) := by decide +kernel
theorem dX5_count_102 : decode cX5_count 102 = .ok (.ireturn, 1) := by decide +kernel
theorem dX5_count_103 : decode cX5_count 103 = .ok (.aload_n 0, 1) := by decide +kernel
theorem dX5_count_104 : decode cX5_count 104 = .ok (.getfield 12, 3) := by decide +kernel
theorem dX5_count_107 : decode cX5_count 107 = .ok (.getfield 108, 3) := by decide +kernel
theorem dX5_count_110 : decode cX5_count 110 = .ok (.invokestatic 163, 3) := by decide +kernel
theorem dX5_count_113 : decode cX5_count 113 = .ok (.ireturn, 1) := by decide +kernel
theorem dX5_count_114 : decode cX5_count 114 = .ok (.aload_n 0, 1) := by decide +kernel
theorem dX5_count_115 : decode cX5_count 115 = .ok (.getfield 12, 3) := by decide +kernel
theorem dX5_count_118 : decode cX5_count 118 = .ok (.getfield 76, 3) := by decide +kernel
theorem dX5_count_121 : decode cX5_count 121 = .ok (.ireturn, 1) := by decide +kernel
theorem dX5_count_122 : decode cX5_count 122 = .ok (.aload_n 0, 1) := by decide +kernel
theorem dX5_count_123 : decode cX5_count 123 = .ok (.getfield 33, 3) := by decide +kernel
theorem dX5_count_126 : decode cX5_count 126 = .ok (.getfield 122, 3) := by decide +kernel
theorem dX5_count_129 : decode cX5_count 129 = .ok (.ireturn, 1) := by decide +kernel
theorem dX5_count_130 : decode cX5_count 130 = .ok (.aload_n 0, 1) := by decide +kernel
theorem dX5_count_131 : decode cX5_count 131 = .ok (.getfield 41, 3) := by decide +kernel
theorem dX5_count_134 : decode cX5_count 134 = .ok (.ireturn, 1) := by decide +kernel
theorem dX5_count_135 : decode cX5_count 135 = .ok (.bipush (-2), 2) := by decide +kernel
theorem dX5_count_137 : decode cX5_count 137 = .ok (.ireturn, 1) := by decide +kernel
theorem dX5_layTriesAnew_0 : decode cX5_layTriesAnew 0 = .ok (.aload_n 0, 1) := by decide +kernel
theorem dX5_layTriesAnew_1 : decode cX5_layTriesAnew 1 = .ok (.getfield 19, 3) := by decide +kernel
theorem dX5_layTriesAnew_4 : decode cX5_layTriesAnew 4 = .ok (.aload_n 0, 1) := by decide +kernel
theorem dX5_layTriesAnew_5 : decode cX5_layTriesAnew 5 = .ok (.getfield 12, 3) := by decide +kernel
theorem dX5_layTriesAnew_8 : decode cX5_layTriesAnew 8 = .ok (.invokevirtual 196, 3) := by decide +kernel
theorem dX5_layTriesAnew_11 : decode cX5_layTriesAnew 11 = .ok (.aload_n 0, 1) := by decide +kernel
theorem dX5_layTriesAnew_12 : decode cX5_layTriesAnew 12 = .ok (.getfield 26, 3) := by decide +kernel
theorem dX5_layTriesAnew_15 : decode cX5_layTriesAnew 15 = .ok (.aload_n 0, 1) := by decide +kernel
theorem dX5_layTriesAnew_16 : decode cX5_layTriesAnew 16 = .ok (.getfield 12, 3) := by decide +kernel
theorem dX5_layTriesAnew_19 : decode cX5_layTriesAnew 19 = .ok (.aload_n 0, 1) := by decide +kernel
theorem dX5_layTriesAnew_20 : decode cX5_layTriesAnew 20 = .ok (.getfield 19, 3) := by decide +kernel
theorem dX5_layTriesAnew_23 : decode cX5_layTriesAnew 23 = .ok (.invokevirtual 199, 3) := by decide +kernel
theorem dX5_layTriesAnew_26 : decode cX5_layTriesAnew 26 = .ok (.return_, 1) := by decide +kernel
theorem dX5_seenNow_0 : decode cX5_seenNow 0 = .ok (.aload_n 0, 1) := by decide +kernel
theorem dX5_seenNow_1 : decode cX5_seenNow 1 = .ok (.getfield 19, 3) := by decide +kernel
theorem dX5_seenNow_4 : decode cX5_seenNow 4 = .ok (.aload_n 0, 1) := by decide +kernel
theorem dX5_seenNow_5 : decode cX5_seenNow 5 = .ok (.getfield 12, 3) := by decide +kernel
theorem dX5_seenNow_8 : decode cX5_seenNow 8 = .ok (.aload_n 0, 1) := by decide +kernel
theorem dX5_seenNow_9 : decode cX5_seenNow 9 = .ok (.getfield 12, 3) := by decide +kernel
theorem dX5_seenNow_12 : decode cX5_seenNow 12 = .ok (.getfield 82, 3) := by decide +kernel
theorem dX5_seenNow_15 : decode cX5_seenNow 15 = .ok (.aload_n 0, 1) := by decide +kernel
theorem dX5_seenNow_16 : decode cX5_seenNow 16 = .ok (.getfield 12, 3) := by decide +kernel
theorem dX5_seenNow_19 : decode cX5_seenNow 19 = .ok (.getfield 108, 3) := by decide +kernel
theorem dX5_seenNow_22 : decode cX5_seenNow 22 = .ok (.invokevirtual 203, 3) := by decide +kernel
theorem dX5_seenNow_25 : decode cX5_seenNow 25 = .ok (.ireturn, 1) := by decide +kernel
theorem dX5_flawSeenAs_0 : decode cX5_flawSeenAs 0 = .ok (.iconst 0, 1) := by decide +kernel
theorem dX5_flawSeenAs_1 : decode cX5_flawSeenAs 1 = .ok (.istore_n 3, 1) := by decide +kernel
theorem dX5_flawSeenAs_2 : decode cX5_flawSeenAs 2 = .ok (.iconst 0, 1) := by decide +kernel
theorem dX5_flawSeenAs_3 : decode cX5_flawSeenAs 3 = .ok (.istore 4, 2) := by decide +kernel
theorem dX5_flawSeenAs_5 : decode cX5_flawSeenAs 5 = .ok (.iload 4, 2) := by decide +kernel
theorem dX5_flawSeenAs_7 : decode cX5_flawSeenAs 7 = .ok (.bipush 26, 2) := by decide +kernel
theorem dX5_flawSeenAs_9 : decode cX5_flawSeenAs 9 = .ok (.if_icmp .ge 39, 3) := by decide +kernel
theorem dX5_flawSeenAs_12 : decode cX5_flawSeenAs 12 = .ok (.aload_n 0, 1) := by decide +kernel
theorem dX5_flawSeenAs_13 : decode cX5_flawSeenAs 13 = .ok (.iload 4, 2) := by decide +kernel
theorem dX5_flawSeenAs_15 : decode cX5_flawSeenAs 15 = .ok (.invokevirtual 207, 3) := by decide +kernel
theorem dX5_flawSeenAs_18 : decode cX5_flawSeenAs 18 = .ok (.ifCond .eq 24, 3) := by decide +kernel
theorem dX5_flawSeenAs_21 : decode cX5_flawSeenAs 21 = .ok (.aload_n 0, 1) := by decide +kernel
theorem dX5_flawSeenAs_22 : decode cX5_flawSeenAs 22 = .ok (.iload 4, 2) := by decide +kernel
theorem dX5_flawSeenAs_24 : decode cX5_flawSeenAs 24 = .ok (.invokevirtual 210, 3) := by decide +kernel
theorem dX5_flawSeenAs_27 : decode cX5_flawSeenAs 27 = .ok (.iload_n 1, 1) := by decide +kernel
theorem dX5_flawSeenAs_28 : decode cX5_flawSeenAs 28 = .ok (.if_icmp .ne 14, 3) := by decide +kernel
theorem dX5_flawSeenAs_31 : decode cX5_flawSeenAs 31 = .ok (.iload_n 3, 1) := by decide +kernel
theorem dX5_flawSeenAs_32 : decode cX5_flawSeenAs 32 = .ok (.iload_n 2, 1) := by decide +kernel
theorem dX5_flawSeenAs_33 : decode cX5_flawSeenAs 33 = .ok (.if_icmp .ne 6, 3) := by decide +kernel
theorem dX5_flawSeenAs_36 : decode cX5_flawSeenAs 36 = .ok (.iload 4, 2) := by decide +kernel
theorem dX5_flawSeenAs_38 : decode cX5_flawSeenAs 38 = .ok (.ireturn, 1) := by decide +kernel
theorem dX5_flawSeenAs_39 : decode cX5_flawSeenAs 39 = .ok (.iinc 3 1, 3) := by decide +kernel
theorem dX5_flawSeenAs_42 : decode cX5_flawSeenAs 42 = .ok (.iinc 4 1, 3) := by decide +kernel
theorem dX5_flawSeenAs_45 : decode cX5_flawSeenAs 45 = .ok (.goto (-40), 3) := by decide +kernel
theorem dX5_flawSeenAs_48 : decode cX5_flawSeenAs 48 = .ok (.iload_n 2, 1) := by decide +kernel
theorem dX5_flawSeenAs_49 : decode cX5_flawSeenAs 49 = .ok (.iconst (-1), 1) := by decide +kernel
theorem dX5_flawSeenAs_50 : decode cX5_flawSeenAs 50 = .ok (.if_icmp .ne 7, 3) := by decide +kernel
theorem dX5_flawSeenAs_53 : decode cX5_flawSeenAs 53 = .ok (.iload_n 3, 1) := by decide +kernel
theorem dX5_flawSeenAs_54 : decode cX5_flawSeenAs 54 = .ok (.goto 5, 3) := by decide +kernel
theorem dX5_flawSeenAs_57 : decode cX5_flawSeenAs 57 = .ok (.bipush (-6), 2) := by decide +kernel
theorem dX5_flawSeenAs_59 : decode cX5_flawSeenAs 59 = .ok (.ireturn, 1) := by decide +kernel
theorem dX5_isFlaw_0 : decode cX5_isFlaw 0 = .ok (.aload_n 0, 1) := by decide +kernel
theorem dX5_isFlaw_1 : decode cX5_isFlaw 1 = .ok (.getfield 12, 3) := by decide +kernel
theorem dX5_isFlaw_4 : decode cX5_isFlaw 4 = .ok (.iload_n 1, 1) := by decide +kernel
theorem dX5_isFlaw_5 : decode cX5_isFlaw 5 = .ok (.invokevirtual 66, 3) := by decide +kernel
theorem dX5_isFlaw_8 : decode cX5_isFlaw 8 = .ok (.ifCond .ne 9, 3) := by decide +kernel
theorem dX5_isFlaw_11 : decode cX5_isFlaw 11 = .ok (.iload_n 1, 1) := by decide +kernel
theorem dX5_isFlaw_12 : decode cX5_isFlaw 12 = .ok (.bipush 20, 2) := by decide +kernel
theorem dX5_isFlaw_14 : decode cX5_isFlaw 14 = .ok (.if_icmp .lt 7, 3) := by decide +kernel
theorem dX5_isFlaw_17 : decode cX5_isFlaw 17 = .ok (.iconst 1, 1) := by decide +kernel
theorem dX5_isFlaw_18 : decode cX5_isFlaw 18 = .ok (.goto 4, 3) := by decide +kernel
theorem dX5_isFlaw_21 : decode cX5_isFlaw 21 = .ok (.iconst 0, 1) := by decide +kernel
theorem dX5_isFlaw_22 : decode cX5_isFlaw 22 = .ok (.ireturn, 1) := by decide +kernel
theorem dX5_seenOfFlaw_0 : decode cX5_seenOfFlaw 0 = .ok (.iload_n 1, 1) := by decide +kernel
theorem dX5_seenOfFlaw_1 : decode cX5_seenOfFlaw 1 = .ok (.bipush 20, 2) := by decide +kernel
theorem dX5_seenOfFlaw_3 : decode cX5_seenOfFlaw 3 = .ok (.if_icmp .lt 22, 3) := by decide +kernel
theorem dX5_seenOfFlaw_6 : decode cX5_seenOfFlaw 6 = .ok (.aload_n 0, 1) := by decide +kernel
theorem dX5_seenOfFlaw_7 : decode cX5_seenOfFlaw 7 = .ok (.getfield 19, 3) := by decide +kernel
theorem dX5_seenOfFlaw_10 : decode cX5_seenOfFlaw 10 = .ok (.aload_n 0, 1) := by decide +kernel
theorem dX5_seenOfFlaw_11 : decode cX5_seenOfFlaw 11 = .ok (.getfield 12, 3) := by decide +kernel
theorem dX5_seenOfFlaw_14 : decode cX5_seenOfFlaw 14 = .ok (.iconst 0, 1) := by decide +kernel
theorem dX5_seenOfFlaw_15 : decode cX5_seenOfFlaw 15 = .ok (.iconst 1, 1) := by decide +kernel
theorem dX5_seenOfFlaw_16 : decode cX5_seenOfFlaw 16 = .ok (.iload_n 1, 1) := by decide +kernel
theorem dX5_seenOfFlaw_17 : decode cX5_seenOfFlaw 17 = .ok (.bipush 20, 2) := by decide +kernel
theorem dX5_seenOfFlaw_19 : decode cX5_seenOfFlaw 19 = .ok (.isub, 1) := by decide +kernel
theorem dX5_seenOfFlaw_20 : decode cX5_seenOfFlaw 20 = .ok (.ishl, 1) := by decide +kernel
theorem dX5_seenOfFlaw_21 : decode cX5_seenOfFlaw 21 = .ok (.invokevirtual 203, 3) := by decide +kernel
theorem dX5_seenOfFlaw_24 : decode cX5_seenOfFlaw 24 = .ok (.ireturn, 1) := by decide +kernel
theorem dX5_seenOfFlaw_25 : decode cX5_seenOfFlaw 25 = .ok (.aload_n 0, 1) := by decide +kernel
theorem dX5_seenOfFlaw_26 : decode cX5_seenOfFlaw 26 = .ok (.getfield 19, 3) := by decide +kernel
theorem dX5_seenOfFlaw_29 : decode cX5_seenOfFlaw 29 = .ok (.aload_n 0, 1) := by decide +kernel
theorem dX5_seenOfFlaw_30 : decode cX5_seenOfFlaw 30 = .ok (.getfield 12, 3) := by decide +kernel
theorem dX5_seenOfFlaw_33 : decode cX5_seenOfFlaw 33 = .ok (.iconst 1, 1) := by decide +kernel
theorem dX5_seenOfFlaw_34 : decode cX5_seenOfFlaw 34 = .ok (.iload_n 1, 1) := by decide +kernel
theorem dX5_seenOfFlaw_35 : decode cX5_seenOfFlaw 35 = .ok (.ishl, 1) := by decide +kernel
theorem dX5_seenOfFlaw_36 : decode cX5_seenOfFlaw 36 = .ok (.iconst 0, 1) := by decide +kernel
theorem dX5_seenOfFlaw_37 : decode cX5_seenOfFlaw 37 = .ok (.invokevirtual 203, 3) := by decide +kernel
theorem dX5_seenOfFlaw_40 : decode cX5_seenOfFlaw 40 = .ok (.ireturn, 1) := by decide +kernel
theorem dX5_isNet_0 : decode cX5_isNet 0 = .ok (.iload_n 0, 1) := by decide +kernel
theorem dX5_isNet_1 : decode cX5_isNet 1 = .ok (.ifCond .lt 12, 3) := by decide +kernel
theorem dX5_isNet_4 : decode cX5_isNet 4 = .ok (.iload_n 0, 1) := by decide +kernel
theorem dX5_isNet_5 : decode cX5_isNet 5 = .ok (.iconst 4, 1) := by decide +kernel
theorem dX5_isNet_6 : decode cX5_isNet 6 = .ok (.if_icmp .ge 7, 3) := by decide +kernel
theorem dX5_isNet_9 : decode cX5_isNet 9 = .ok (.iconst 1, 1) := by decide +kernel
theorem dX5_isNet_10 : decode cX5_isNet 10 = .ok (.goto 4, 3) := by decide +kernel
theorem dX5_isNet_13 : decode cX5_isNet 13 = .ok (.iconst 0, 1) := by decide +kernel
theorem dX5_isNet_14 : decode cX5_isNet 14 = .ok (.ireturn, 1) := by decide +kernel
theorem dX5_isOnBoard_0 : decode cX5_isOnBoard 0 = .ok (.iload_n 0, 1) := by decide +kernel
theorem dX5_isOnBoard_1 : decode cX5_isOnBoard 1 = .ok (.ifCond .lt 23, 3) := by decide +kernel
theorem dX5_isOnBoard_4 : decode cX5_isOnBoard 4 = .ok (.iload_n 0, 1) := by decide +kernel
theorem dX5_isOnBoard_5 : decode cX5_isOnBoard 5 = .ok (.bipush 20, 2) := by decide +kernel
theorem dX5_isOnBoard_7 : decode cX5_isOnBoard 7 = .ok (.if_icmp .gt 17, 3) := by decide +kernel
theorem dX5_isOnBoard_10 : decode cX5_isOnBoard 10 = .ok (.iload_n 1, 1) := by decide +kernel
theorem dX5_isOnBoard_11 : decode cX5_isOnBoard 11 = .ok (.ifCond .lt 13, 3) := by decide +kernel
theorem dX5_isOnBoard_14 : decode cX5_isOnBoard 14 = .ok (.iload_n 1, 1) := by decide +kernel
theorem dX5_isOnBoard_15 : decode cX5_isOnBoard 15 = .ok (.bipush 20, 2) := by decide +kernel
theorem dX5_isOnBoard_17 : decode cX5_isOnBoard 17 = .ok (.if_icmp .gt 7, 3) := by decide +kernel
theorem dX5_isOnBoard_20 : decode cX5_isOnBoard 20 = .ok (.iconst 1, 1) := by decide +kernel
theorem dX5_isOnBoard_21 : decode cX5_isOnBoard 21 = .ok (.goto 4, 3) := by decide +kernel
theorem dX5_isOnBoard_24 : decode cX5_isOnBoard 24 = .ok (.iconst 0, 1) := by decide +kernel
theorem dX5_isOnBoard_25 : decode cX5_isOnBoard 25 = .ok (.ireturn, 1) := by decide +kernel
theorem dX5_isImage_0 : decode cX5_isImage 0 = .ok (.iload_n 0, 1) := by decide +kernel
theorem dX5_isImage_1 : decode cX5_isImage 1 = .ok (.ifCond .lt 12, 3) := by decide +kernel
theorem dX5_isImage_4 : decode cX5_isImage 4 = .ok (.iload_n 0, 1) := by decide +kernel
theorem dX5_isImage_5 : decode cX5_isImage 5 = .ok (.iconst 2, 1) := by decide +kernel
theorem dX5_isImage_6 : decode cX5_isImage 6 = .ok (.if_icmp .ge 7, 3) := by decide +kernel
theorem dX5_isImage_9 : decode cX5_isImage 9 = .ok (.iconst 1, 1) := by decide +kernel
theorem dX5_isImage_10 : decode cX5_isImage 10 = .ok (.goto 4, 3) := by decide +kernel
theorem dX5_isImage_13 : decode cX5_isImage 13 = .ok (.iconst 0, 1) := by decide +kernel
theorem dX5_isImage_14 : decode cX5_isImage 14 = .ok (.ireturn, 1) := by decide +kernel
theorem dX5_isSwitch_0 : decode cX5_isSwitch 0 = .ok (.iload_n 0, 1) := by decide +kernel
theorem dX5_isSwitch_1 : decode cX5_isSwitch 1 = .ok (.ifCond .eq 8, 3) := by decide +kernel
theorem dX5_isSwitch_4 : decode cX5_isSwitch 4 = .ok (.iload_n 0, 1) := by decide +kernel
theorem dX5_isSwitch_5 : decode cX5_isSwitch 5 = .ok (.iconst 1, 1) := by decide +kernel
theorem dX5_isSwitch_6 : decode cX5_isSwitch 6 = .ok (.if_icmp .ne 7, 3) := by decide +kernel
theorem dX5_isSwitch_9 : decode cX5_isSwitch 9 = .ok (.iconst 1, 1) := by decide +kernel
theorem dX5_isSwitch_10 : decode cX5_isSwitch 10 = .ok (.goto 4, 3) := by decide +kernel
theorem dX5_isSwitch_13 : decode cX5_isSwitch 13 = .ok (.iconst 0, 1) := by decide +kernel
theorem dX5_isSwitch_14 : decode cX5_isSwitch 14 = .ok (.ireturn, 1) := by decide +kernel
theorem dX5_isIn_0 : decode cX5_isIn 0 = .ok (.iload_n 0, 1) := by decide +kernel
theorem dX5_isIn_1 : decode cX5_isIn 1 = .ok (.iload_n 1, 1) := by decide +kernel
theorem dX5_isIn_2 : decode cX5_isIn 2 = .ok (.ishr, 1) := by decide +kernel
theorem dX5_isIn_3 : decode cX5_isIn 3 = .ok (.iconst 1, 1) := by decide +kernel
theorem dX5_isIn_4 : decode cX5_isIn 4 = .ok (.iand, 1) := by decide +kernel
theorem dX5_isIn_5 : decode cX5_isIn 5 = .ok (.iconst 1, 1) := by decide +kernel
theorem dX5_isIn_6 : decode cX5_isIn 6 = .ok (.if_icmp .ne 7, 3) := by decide +kernel
theorem dX5_isIn_9 : decode cX5_isIn 9 = .ok (.iconst 1, 1) := by decide +kernel
theorem dX5_isIn_10 : decode cX5_isIn 10 = .ok (.goto 4, 3) := by decide +kernel
theorem dX5_isIn_13 : decode cX5_isIn 13 = .ok (.iconst 0, 1) := by decide +kernel
theorem dX5_isIn_14 : decode cX5_isIn 14 = .ok (.ireturn, 1) := by decide +kernel
theorem dX5_withMember_0 : decode cX5_withMember 0 = .ok (.iload_n 2, 1) := by decide +kernel
theorem dX5_withMember_1 : decode cX5_withMember 1 = .ok (.iconst 1, 1) := by decide +kernel
theorem dX5_withMember_2 : decode cX5_withMember 2 = .ok (.if_icmp .ne 11, 3) := by decide +kernel
theorem dX5_withMember_5 : decode cX5_withMember 5 = .ok (.iload_n 0, 1) := by decide +kernel
theorem dX5_withMember_6 : decode cX5_withMember 6 = .ok (.iconst 1, 1) := by decide +kernel
theorem dX5_withMember_7 : decode cX5_withMember 7 = .ok (.iload_n 1, 1) := by decide +kernel
theorem dX5_withMember_8 : decode cX5_withMember 8 = .ok (.ishl, 1) := by decide +kernel
theorem dX5_withMember_9 : decode cX5_withMember 9 = .ok (.ior, 1) := by decide +kernel
theorem dX5_withMember_10 : decode cX5_withMember 10 = .ok (.goto 10, 3) := by decide +kernel
theorem dX5_withMember_13 : decode cX5_withMember 13 = .ok (.iload_n 0, 1) := by decide +kernel
theorem dX5_withMember_14 : decode cX5_withMember 14 = .ok (.iconst 1, 1) := by decide +kernel
theorem dX5_withMember_15 : decode cX5_withMember 15 = .ok (.iload_n 1, 1) := by decide +kernel
theorem dX5_withMember_16 : decode cX5_withMember 16 = .ok (.ishl, 1) := by decide +kernel
theorem dX5_withMember_17 : decode cX5_withMember 17 = .ok (.iconst (-1), 1) := by decide +kernel
theorem dX5_withMember_18 : decode cX5_withMember 18 = .ok (.ixor, 1) := by decide +kernel
theorem dX5_withMember_19 : decode cX5_withMember 19 = .ok (.iand, 1) := by decide +kernel
theorem dX5_withMember_20 : decode cX5_withMember 20 = .ok (.ireturn, 1) := by decide +kernel
theorem dX5_asNumber_0 : decode cX5_asNumber 0 = .ok (.iload_n 0, 1) := by decide +kernel
theorem dX5_asNumber_1 : decode cX5_asNumber 1 = .ok (.ifCond .eq 7, 3) := by decide +kernel
theorem dX5_asNumber_4 : decode cX5_asNumber 4 = .ok (.iconst 1, 1) := by decide +kernel
theorem dX5_asNumber_5 : decode cX5_asNumber 5 = .ok (.goto 4, 3) := by decide +kernel
theorem dX5_asNumber_8 : decode cX5_asNumber 8 = .ok (.iconst 0, 1) := by decide +kernel
theorem dX5_asNumber_9 : decode cX5_asNumber 9 = .ok (.ireturn, 1) := by decide +kernel
theorem dX5_leastMembers_0 : decode cX5_leastMembers 0 = .ok (.iconst 0, 1) := by decide +kernel
theorem dX5_leastMembers_1 : decode cX5_leastMembers 1 = .ok (.istore_n 2, 1) := by decide +kernel
theorem dX5_leastMembers_2 : decode cX5_leastMembers 2 = .ok (.iconst 0, 1) := by decide +kernel
theorem dX5_leastMembers_3 : decode cX5_leastMembers 3 = .ok (.istore_n 3, 1) := by decide +kernel
theorem dX5_leastMembers_4 : decode cX5_leastMembers 4 = .ok (.iload_n 3, 1) := by decide +kernel
theorem dX5_leastMembers_5 : decode cX5_leastMembers 5 = .ok (.iconst 4, 1) := by decide +kernel
theorem dX5_leastMembers_6 : decode cX5_leastMembers 6 = .ok (.if_icmp .ge 31, 3) := by decide +kernel
theorem dX5_leastMembers_9 : decode cX5_leastMembers 9 = .ok (.iload_n 0, 1) := by decide +kernel
theorem dX5_leastMembers_10 : decode cX5_leastMembers 10 = .ok (.iload_n 3, 1) := by decide +kernel
theorem dX5_leastMembers_11 : decode cX5_leastMembers 11 = .ok (.invokestatic 85, 3) := by decide +kernel
theorem dX5_leastMembers_14 : decode cX5_leastMembers 14 = .ok (.ifCond .eq 17, 3) := by decide +kernel
theorem dX5_leastMembers_17 : decode cX5_leastMembers 17 = .ok (.iload_n 2, 1) := by decide +kernel
theorem dX5_leastMembers_18 : decode cX5_leastMembers 18 = .ok (.invokestatic 163, 3) := by decide +kernel
theorem dX5_leastMembers_21 : decode cX5_leastMembers 21 = .ok (.iload_n 1, 1) := by decide +kernel
theorem dX5_leastMembers_22 : decode cX5_leastMembers 22 = .ok (.if_icmp .ge 9, 3) := by decide +kernel
theorem dX5_leastMembers_25 : decode cX5_leastMembers 25 = .ok (.iload_n 2, 1) := by decide +kernel
theorem dX5_leastMembers_26 : decode cX5_leastMembers 26 = .ok (.iconst 1, 1) := by decide +kernel
theorem dX5_leastMembers_27 : decode cX5_leastMembers 27 = .ok (.iload_n 3, 1) := by decide +kernel
theorem dX5_leastMembers_28 : decode cX5_leastMembers 28 = .ok (.ishl, 1) := by decide +kernel
theorem dX5_leastMembers_29 : decode cX5_leastMembers 29 = .ok (.ior, 1) := by decide +kernel
theorem dX5_leastMembers_30 : decode cX5_leastMembers 30 = .ok (.istore_n 2, 1) := by decide +kernel
theorem dX5_leastMembers_31 : decode cX5_leastMembers 31 = .ok (.iinc 3 1, 3) := by decide +kernel
theorem dX5_leastMembers_34 : decode cX5_leastMembers 34 = .ok (.goto (-30), 3) := by decide +kernel
theorem dX5_leastMembers_37 : decode cX5_leastMembers 37 = .ok (.iload_n 2, 1) := by decide +kernel
theorem dX5_leastMembers_38 : decode cX5_leastMembers 38 = .ok (.ireturn, 1) := by decide +kernel
theorem dX5_leastNet_0 : decode cX5_leastNet 0 = .ok (.iconst 0, 1) := by decide +kernel
theorem dX5_leastNet_1 : decode cX5_leastNet 1 = .ok (.istore_n 1, 1) := by decide +kernel
theorem dX5_leastNet_2 : decode cX5_leastNet 2 = .ok (.iload_n 1, 1) := by decide +kernel
theorem dX5_leastNet_3 : decode cX5_leastNet 3 = .ok (.iconst 4, 1) := by decide +kernel
theorem dX5_leastNet_4 : decode cX5_leastNet 4 = .ok (.if_icmp .ge 19, 3) := by decide +kernel
theorem dX5_leastNet_7 : decode cX5_leastNet 7 = .ok (.iload_n 0, 1) := by decide +kernel
theorem dX5_leastNet_8 : decode cX5_leastNet 8 = .ok (.iload_n 1, 1) := by decide +kernel
theorem dX5_leastNet_9 : decode cX5_leastNet 9 = .ok (.invokestatic 85, 3) := by decide +kernel
theorem dX5_leastNet_12 : decode cX5_leastNet 12 = .ok (.ifCond .eq 5, 3) := by decide +kernel
theorem dX5_leastNet_15 : decode cX5_leastNet 15 = .ok (.iload_n 1, 1) := by decide +kernel
theorem dX5_leastNet_16 : decode cX5_leastNet 16 = .ok (.ireturn, 1) := by decide +kernel
theorem dX5_leastNet_17 : decode cX5_leastNet 17 = .ok (.iinc 1 1, 3) := by decide +kernel
theorem dX5_leastNet_20 : decode cX5_leastNet 20 = .ok (.goto (-18), 3) := by decide +kernel
theorem dX5_leastNet_23 : decode cX5_leastNet 23 = .ok (.bipush (-6), 2) := by decide +kernel
theorem dX5_leastNet_25 : decode cX5_leastNet 25 = .ok (.ireturn, 1) := by decide +kernel
theorem dX5_pairOfNets_0 : decode cX5_pairOfNets 0 = .ok (.iload_n 0, 1) := by decide +kernel
theorem dX5_pairOfNets_1 : decode cX5_pairOfNets 1 = .ok (.iload_n 1, 1) := by decide +kernel
theorem dX5_pairOfNets_2 : decode cX5_pairOfNets 2 = .ok (.invokestatic 213, 3) := by decide +kernel
theorem dX5_pairOfNets_5 : decode cX5_pairOfNets 5 = .ok (.istore_n 2, 1) := by decide +kernel
theorem dX5_pairOfNets_6 : decode cX5_pairOfNets 6 = .ok (.iload_n 0, 1) := by decide +kernel
theorem dX5_pairOfNets_7 : decode cX5_pairOfNets 7 = .ok (.iload_n 1, 1) := by decide +kernel
theorem dX5_pairOfNets_8 : decode cX5_pairOfNets 8 = .ok (.invokestatic 218, 3) := by decide +kernel
theorem dX5_pairOfNets_11 : decode cX5_pairOfNets 11 = .ok (.istore_n 3, 1) := by decide +kernel
theorem dX5_pairOfNets_12 : decode cX5_pairOfNets 12 = .ok (.iconst 0, 1) := by decide +kernel
theorem dX5_pairOfNets_13 : decode cX5_pairOfNets 13 = .ok (.istore 4, 2) := by decide +kernel
theorem dX5_pairOfNets_15 : decode cX5_pairOfNets 15 = .ok (.iconst 0, 1) := by decide +kernel
theorem dX5_pairOfNets_16 : decode cX5_pairOfNets 16 = .ok (.istore 5, 2) := by decide +kernel
theorem dX5_pairOfNets_18 : decode cX5_pairOfNets 18 = .ok (.iload 5, 2) := by decide +kernel
theorem dX5_pairOfNets_20 : decode cX5_pairOfNets 20 = .ok (.bipush 6, 2) := by decide +kernel
theorem dX5_pairOfNets_22 : decode cX5_pairOfNets 22 = .ok (.if_icmp .ge 33, 3) := by decide +kernel
theorem dX5_pairOfNets_25 : decode cX5_pairOfNets 25 = .ok (.getstatic 221, 3) := by decide +kernel
theorem dX5_pairOfNets_28 : decode cX5_pairOfNets 28 = .ok (.iload 5, 2) := by decide +kernel
theorem dX5_pairOfNets_30 : decode cX5_pairOfNets 30 = .ok (.iaload, 1) := by decide +kernel
theorem dX5_pairOfNets_31 : decode cX5_pairOfNets 31 = .ok (.iload_n 2, 1) := by decide +kernel
theorem dX5_pairOfNets_32 : decode cX5_pairOfNets 32 = .ok (.if_icmp .ne 17, 3) := by decide +kernel
theorem dX5_pairOfNets_35 : decode cX5_pairOfNets 35 = .ok (.getstatic 224, 3) := by decide +kernel
theorem dX5_pairOfNets_38 : decode cX5_pairOfNets 38 = .ok (.iload 5, 2) := by decide +kernel
theorem dX5_pairOfNets_40 : decode cX5_pairOfNets 40 = .ok (.iaload, 1) := by decide +kernel
theorem dX5_pairOfNets_41 : decode cX5_pairOfNets 41 = .ok (.iload_n 3, 1) := by decide +kernel
theorem dX5_pairOfNets_42 : decode cX5_pairOfNets 42 = .ok (.if_icmp .ne 7, 3) := by decide +kernel
theorem dX5_pairOfNets_45 : decode cX5_pairOfNets 45 = .ok (.iload 5, 2) := by decide +kernel
theorem dX5_pairOfNets_47 : decode cX5_pairOfNets 47 = .ok (.istore 4, 2) := by decide +kernel
theorem dX5_pairOfNets_49 : decode cX5_pairOfNets 49 = .ok (.iinc 5 1, 3) := by decide +kernel
theorem dX5_pairOfNets_52 : decode cX5_pairOfNets 52 = .ok (.goto (-34), 3) := by decide +kernel
theorem dX5_pairOfNets_55 : decode cX5_pairOfNets 55 = .ok (.iload 4, 2) := by decide +kernel
theorem dX5_pairOfNets_57 : decode cX5_pairOfNets 57 = .ok (.ireturn, 1) := by decide +kernel
theorem dX5_netsOneWith_0 : decode cX5_netsOneWith 0 = .ok (.iconst 1, 1) := by decide +kernel
theorem dX5_netsOneWith_1 : decode cX5_netsOneWith 1 = .ok (.iload_n 0, 1) := by decide +kernel
theorem dX5_netsOneWith_2 : decode cX5_netsOneWith 2 = .ok (.ishl, 1) := by decide +kernel
theorem dX5_netsOneWith_3 : decode cX5_netsOneWith 3 = .ok (.istore_n 2, 1) := by decide +kernel
theorem dX5_netsOneWith_4 : decode cX5_netsOneWith 4 = .ok (.iconst 1, 1) := by decide +kernel
theorem dX5_netsOneWith_5 : decode cX5_netsOneWith 5 = .ok (.istore_n 3, 1) := by decide +kernel
theorem dX5_netsOneWith_6 : decode cX5_netsOneWith 6 = .ok (.iload_n 3, 1) := by decide +kernel
theorem dX5_netsOneWith_7 : decode cX5_netsOneWith 7 = .ok (.iconst 4, 1) := by decide +kernel
theorem dX5_netsOneWith_8 : decode cX5_netsOneWith 8 = .ok (.if_icmp .ge 65, 3) := by decide +kernel
theorem dX5_netsOneWith_11 : decode cX5_netsOneWith 11 = .ok (.iconst 0, 1) := by decide +kernel
theorem dX5_netsOneWith_12 : decode cX5_netsOneWith 12 = .ok (.istore 4, 2) := by decide +kernel
theorem dX5_netsOneWith_14 : decode cX5_netsOneWith 14 = .ok (.iload 4, 2) := by decide +kernel
theorem dX5_netsOneWith_16 : decode cX5_netsOneWith 16 = .ok (.bipush 6, 2) := by decide +kernel
theorem dX5_netsOneWith_18 : decode cX5_netsOneWith 18 = .ok (.if_icmp .ge 49, 3) := by decide +kernel
theorem dX5_netsOneWith_21 : decode cX5_netsOneWith 21 = .ok (.iconst 1, 1) := by decide +kernel
theorem dX5_netsOneWith_22 : decode cX5_netsOneWith 22 = .ok (.getstatic 221, 3) := by decide +kernel
theorem dX5_netsOneWith_25 : decode cX5_netsOneWith 25 = .ok (.iload 4, 2) := by decide +kernel
theorem dX5_netsOneWith_27 : decode cX5_netsOneWith 27 = .ok (.iaload, 1) := by decide +kernel
theorem dX5_netsOneWith_28 : decode cX5_netsOneWith 28 = .ok (.ishl, 1) := by decide +kernel
theorem dX5_netsOneWith_29 : decode cX5_netsOneWith 29 = .ok (.iconst 1, 1) := by decide +kernel
theorem dX5_netsOneWith_30 : decode cX5_netsOneWith 30 = .ok (.getstatic 224, 3) := by decide +kernel
theorem dX5_netsOneWith_33 : decode cX5_netsOneWith 33 = .ok (.iload 4, 2) := by decide +kernel
theorem dX5_netsOneWith_35 : decode cX5_netsOneWith 35 = .ok (.iaload, 1) := by decide +kernel
theorem dX5_netsOneWith_36 : decode cX5_netsOneWith 36 = .ok (.ishl, 1) := by decide +kernel
theorem dX5_netsOneWith_37 : decode cX5_netsOneWith 37 = .ok (.ior, 1) := by decide +kernel
theorem dX5_netsOneWith_38 : decode cX5_netsOneWith 38 = .ok (.istore 5, 2) := by decide +kernel
theorem dX5_netsOneWith_40 : decode cX5_netsOneWith 40 = .ok (.iload_n 1, 1) := by decide +kernel
theorem dX5_netsOneWith_41 : decode cX5_netsOneWith 41 = .ok (.iload 4, 2) := by decide +kernel
theorem dX5_netsOneWith_43 : decode cX5_netsOneWith 43 = .ok (.invokestatic 85, 3) := by decide +kernel
theorem dX5_netsOneWith_46 : decode cX5_netsOneWith 46 = .ok (.ifCond .eq 15, 3) := by decide +kernel
theorem dX5_netsOneWith_49 : decode cX5_netsOneWith 49 = .ok (.iload_n 2, 1) := by decide +kernel
theorem dX5_netsOneWith_50 : decode cX5_netsOneWith 50 = .ok (.iload 5, 2) := by decide +kernel
theorem dX5_netsOneWith_52 : decode cX5_netsOneWith 52 = .ok (.iand, 1) := by decide +kernel
theorem dX5_netsOneWith_53 : decode cX5_netsOneWith 53 = .ok (.ifCond .eq 8, 3) := by decide +kernel
theorem dX5_netsOneWith_56 : decode cX5_netsOneWith 56 = .ok (.iload_n 2, 1) := by decide +kernel
theorem dX5_netsOneWith_57 : decode cX5_netsOneWith 57 = .ok (.iload 5, 2) := by decide +kernel
theorem dX5_netsOneWith_59 : decode cX5_netsOneWith 59 = .ok (.ior, 1) := by decide +kernel
theorem dX5_netsOneWith_60 : decode cX5_netsOneWith 60 = .ok (.istore_n 2, 1) := by decide +kernel
theorem dX5_netsOneWith_61 : decode cX5_netsOneWith 61 = .ok (.iinc 4 1, 3) := by decide +kernel
theorem dX5_netsOneWith_64 : decode cX5_netsOneWith 64 = .ok (.goto (-50), 3) := by decide +kernel
theorem dX5_netsOneWith_67 : decode cX5_netsOneWith 67 = .ok (.iinc 3 1, 3) := by decide +kernel
theorem dX5_netsOneWith_70 : decode cX5_netsOneWith 70 = .ok (.goto (-64), 3) := by decide +kernel
theorem dX5_netsOneWith_73 : decode cX5_netsOneWith 73 = .ok (.iload_n 2, 1) := by decide +kernel
theorem dX5_netsOneWith_74 : decode cX5_netsOneWith 74 = .ok (.ireturn, 1) := by decide +kernel
theorem dX6_init_0 : decode cX6_init 0 = .ok (.aload_n 0, 1) := by decide +kernel
theorem dX6_init_1 : decode cX6_init 1 = .ok (.invokespecial 1, 3) := by decide +kernel
theorem dX6_init_4 : decode cX6_init 4 = .ok (.aload_n 0, 1) := by decide +kernel
theorem dX6_init_5 : decode cX6_init 5 = .ok (.bipush 40, 2) := by decide +kernel
theorem dX6_init_7 : decode cX6_init 7 = .ok (.newarray .int, 2) := by decide +kernel
theorem dX6_init_9 : decode cX6_init 9 = .ok (.putfield 7, 3) := by decide +kernel
theorem dX6_init_12 : decode cX6_init 12 = .ok (.aload_n 0, 1) := by decide +kernel
theorem dX6_init_13 : decode cX6_init 13 = .ok (.bipush 80, 2) := by decide +kernel
theorem dX6_init_15 : decode cX6_init 15 = .ok (.newarray .int, 2) := by decide +kernel
theorem dX6_init_17 : decode cX6_init 17 = .ok (.putfield 13, 3) := by decide +kernel
theorem dX6_init_20 : decode cX6_init 20 = .ok (.aload_n 0, 1) := by decide +kernel
theorem dX6_init_21 : decode cX6_init 21 = .ok (.iconst 2, 1) := by decide +kernel
theorem dX6_init_22 : decode cX6_init 22 = .ok (.newarray .boolean, 2) := by decide +kernel
theorem dX6_init_24 : decode cX6_init 24 = .ok (.putfield 16, 3) := by decide +kernel
theorem dX6_init_27 : decode cX6_init 27 = .ok (.aload_n 0, 1) := by decide +kernel
theorem dX6_init_28 : decode cX6_init 28 = .ok (.bipush 24, 2) := by decide +kernel
theorem dX6_init_30 : decode cX6_init 30 = .ok (.newarray .int, 2) := by decide +kernel
theorem dX6_init_32 : decode cX6_init 32 = .ok (.putfield 20, 3) := by decide +kernel
theorem dX6_init_35 : decode cX6_init 35 = .ok (.aload_n 0, 1) := by decide +kernel
theorem dX6_init_36 : decode cX6_init 36 = .ok (.bipush 16, 2) := by decide +kernel
theorem dX6_init_38 : decode cX6_init 38 = .ok (.newarray .int, 2) := by decide +kernel
theorem dX6_init_40 : decode cX6_init 40 = .ok (.putfield 23, 3) := by decide +kernel
theorem dX6_init_43 : decode cX6_init 43 = .ok (.aload_n 0, 1) := by decide +kernel
theorem dX6_init_44 : decode cX6_init 44 = .ok (.bipush 16, 2) := by decide +kernel
theorem dX6_init_46 : decode cX6_init 46 = .ok (.newarray .int, 2) := by decide +kernel
theorem dX6_init_48 : decode cX6_init 48 = .ok (.putfield 26, 3) := by decide +kernel
theorem dX6_init_51 : decode cX6_init 51 = .ok (.aload_n 0, 1) := by decide +kernel
theorem dX6_init_52 : decode cX6_init 52 = .ok (.bipush 16, 2) := by decide +kernel
theorem dX6_init_54 : decode cX6_init 54 = .ok (.newarray .boolean, 2) := by decide +kernel
theorem dX6_init_56 : decode cX6_init 56 = .ok (.putfield 29, 3) := by decide +kernel
theorem dX6_init_59 : decode cX6_init 59 = .ok (.aload_n 0, 1) := by decide +kernel
theorem dX6_init_60 : decode cX6_init 60 = .ok (.bipush 8, 2) := by decide +kernel
theorem dX6_init_62 : decode cX6_init 62 = .ok (.newarray .int, 2) := by decide +kernel
theorem dX6_init_64 : decode cX6_init 64 = .ok (.putfield 32, 3) := by decide +kernel
theorem dX6_init_67 : decode cX6_init 67 = .ok (.aload_n 0, 1) := by decide +kernel
theorem dX6_init_68 : decode cX6_init 68 = .ok (.bipush 64, 2) := by decide +kernel
theorem dX6_init_70 : decode cX6_init 70 = .ok (.newarray .boolean, 2) := by decide +kernel
theorem dX6_init_72 : decode cX6_init 72 = .ok (.putfield 35, 3) := by decide +kernel
theorem dX6_init_75 : decode cX6_init 75 = .ok (.aload_n 0, 1) := by decide +kernel
theorem dX6_init_76 : decode cX6_init 76 = .ok (.bipush 16, 2) := by decide +kernel
theorem dX6_init_78 : decode cX6_init 78 = .ok (.newarray .boolean, 2) := by decide +kernel
theorem dX6_init_80 : decode cX6_init 80 = .ok (.putfield 38, 3) := by decide +kernel
theorem dX6_init_83 : decode cX6_init 83 = .ok (.aload_n 0, 1) := by decide +kernel
theorem dX6_init_84 : decode cX6_init 84 = .ok (.bipush 16, 2) := by decide +kernel
theorem dX6_init_86 : decode cX6_init 86 = .ok (.newarray .int, 2) := by decide +kernel
theorem dX6_init_88 : decode cX6_init 88 = .ok (.putfield 41, 3) := by decide +kernel
theorem dX6_init_91 : decode cX6_init 91 = .ok (.aload_n 0, 1) := by decide +kernel
theorem dX6_init_92 : decode cX6_init 92 = .ok (.sipush 11264, 3) := by decide +kernel
theorem dX6_init_95 : decode cX6_init 95 = .ok (.newarray .int, 2) := by decide +kernel
theorem dX6_init_97 : decode cX6_init 97 = .ok (.putfield 44, 3) := by decide +kernel
theorem dX6_init_100 : decode cX6_init 100 = .ok (.aload_n 0, 1) := by decide +kernel
theorem dX6_init_101 : decode cX6_init 101 = .ok (.bipush 40, 2) := by decide +kernel
theorem dX6_init_103 : decode cX6_init 103 = .ok (.newarray .int, 2) := by decide +kernel
theorem dX6_init_105 : decode cX6_init 105 = .ok (.putfield 47, 3) := by decide +kernel
theorem dX6_init_108 : decode cX6_init 108 = .ok (.aload_n 0, 1) := by decide +kernel
theorem dX6_init_109 : decode cX6_init 109 = .ok (.iconst 3, 1) := by decide +kernel
theorem dX6_init_110 : decode cX6_init 110 = .ok (.newarray .int, 2) := by decide +kernel
theorem dX6_init_112 : decode cX6_init 112 = .ok (.putfield 50, 3) := by decide +kernel
theorem dX6_init_115 : decode cX6_init 115 = .ok (.aload_n 0, 1) := by decide +kernel
theorem dX6_init_116 : decode cX6_init 116 = .ok (.getfield 7, 3) := by decide +kernel
theorem dX6_init_119 : decode cX6_init 119 = .ok (.bipush 33, 2) := by decide +kernel
theorem dX6_init_121 : decode cX6_init 121 = .ok (.bipush 50, 2) := by decide +kernel
theorem dX6_init_123 : decode cX6_init 123 = .ok (.iastore, 1) := by decide +kernel
theorem dX6_init_124 : decode cX6_init 124 = .ok (.return_, 1) := by decide +kernel
theorem dX6_in_0 : decode cX6_in 0 = .ok (.iload_n 0, 1) := by decide +kernel
theorem dX6_in_1 : decode cX6_in 1 = .ok (.iload_n 1, 1) := by decide +kernel
theorem dX6_in_2 : decode cX6_in 2 = .ok (.if_icmp .lt 12, 3) := by decide +kernel
theorem dX6_in_5 : decode cX6_in 5 = .ok (.iload_n 0, 1) := by decide +kernel
theorem dX6_in_6 : decode cX6_in 6 = .ok (.iload_n 2, 1) := by decide +kernel
theorem dX6_in_7 : decode cX6_in 7 = .ok (.if_icmp .gt 7, 3) := by decide +kernel
theorem dX6_in_10 : decode cX6_in 10 = .ok (.iconst 1, 1) := by decide +kernel
theorem dX6_in_11 : decode cX6_in 11 = .ok (.goto 4, 3) := by decide +kernel
theorem dX6_in_14 : decode cX6_in 14 = .ok (.iconst 0, 1) := by decide +kernel
theorem dX6_in_15 : decode cX6_in 15 = .ok (.ireturn, 1) := by decide +kernel
theorem dX6_isNet_0 : decode cX6_isNet 0 = .ok (.iload_n 0, 1) := by decide +kernel
theorem dX6_isNet_1 : decode cX6_isNet 1 = .ok (.iconst 0, 1) := by decide +kernel
theorem dX6_isNet_2 : decode cX6_isNet 2 = .ok (.iconst 3, 1) := by decide +kernel
theorem dX6_isNet_3 : decode cX6_isNet 3 = .ok (.invokestatic 53, 3) := by decide +kernel
theorem dX6_isNet_6 : decode cX6_isNet 6 = .ok (.ireturn, 1) := by decide +kernel
theorem dX6_isPoint_0 : decode cX6_isPoint 0 = .ok (.iload_n 1, 1) := by decide +kernel
theorem dX6_isPoint_1 : decode cX6_isPoint 1 = .ok (.iconst 0, 1) := by decide +kernel
theorem dX6_isPoint_2 : decode cX6_isPoint 2 = .ok (.aload_n 0, 1) := by decide +kernel
theorem dX6_isPoint_3 : decode cX6_isPoint 3 = .ok (.getfield 7, 3) := by decide +kernel
theorem dX6_isPoint_6 : decode cX6_isPoint 6 = .ok (.iconst 0, 1) := by decide +kernel
theorem dX6_isPoint_7 : decode cX6_isPoint 7 = .ok (.iaload, 1) := by decide +kernel
theorem dX6_isPoint_8 : decode cX6_isPoint 8 = .ok (.iconst 1, 1) := by decide +kernel
theorem dX6_isPoint_9 : decode cX6_isPoint 9 = .ok (.isub, 1) := by decide +kernel
theorem dX6_isPoint_10 : decode cX6_isPoint 10 = .ok (.invokestatic 53, 3) := by decide +kernel
theorem dX6_isPoint_13 : decode cX6_isPoint 13 = .ok (.ireturn, 1) := by decide +kernel
theorem dX6_isHere_0 : decode cX6_isHere 0 = .ok (.iload_n 0, 1) := by decide +kernel
theorem dX6_isHere_1 : decode cX6_isHere 1 = .ok (.iconst 0, 1) := by decide +kernel
theorem dX6_isHere_2 : decode cX6_isHere 2 = .ok (.bipush 20, 2) := by decide +kernel
theorem dX6_isHere_4 : decode cX6_isHere 4 = .ok (.invokestatic 53, 3) := by decide +kernel
theorem dX6_isHere_7 : decode cX6_isHere 7 = .ok (.ifCond .eq 17, 3) := by decide +kernel
theorem dX6_isHere_10 : decode cX6_isHere 10 = .ok (.iload_n 1, 1) := by decide +kernel
theorem dX6_isHere_11 : decode cX6_isHere 11 = .ok (.iconst 0, 1) := by decide +kernel
theorem dX6_isHere_12 : decode cX6_isHere 12 = .ok (.bipush 20, 2) := by decide +kernel
theorem dX6_isHere_14 : decode cX6_isHere 14 = .ok (.invokestatic 53, 3) := by decide +kernel
theorem dX6_isHere_17 : decode cX6_isHere 17 = .ok (.ifCond .eq 7, 3) := by decide +kernel
theorem dX6_isHere_20 : decode cX6_isHere 20 = .ok (.iconst 1, 1) := by decide +kernel
theorem dX6_isHere_21 : decode cX6_isHere 21 = .ok (.goto 4, 3) := by decide +kernel
theorem dX6_isHere_24 : decode cX6_isHere 24 = .ok (.iconst 0, 1) := by decide +kernel
theorem dX6_isHere_25 : decode cX6_isHere 25 = .ok (.ireturn, 1) := by decide +kernel
theorem dX6_point_0 : decode cX6_point 0 = .ok (.iload_n 1, 1) := by decide +kernel
theorem dX6_point_1 : decode cX6_point 1 = .ok (.invokestatic 57, 3) := by decide +kernel
theorem dX6_point_4 : decode cX6_point 4 = .ok (.ifCond .ne 5, 3) := by decide +kernel
theorem dX6_point_7 : decode cX6_point 7 = .ok (.iconst (-1), 1) := by decide +kernel
theorem dX6_point_8 : decode cX6_point 8 = .ok (.ireturn, 1) := by decide +kernel
theorem dX6_point_9 : decode cX6_point 9 = .ok (.iload_n 2, 1) := by decide +kernel
theorem dX6_point_10 : decode cX6_point 10 = .ok (.iload_n 3, 1) := by decide +kernel
theorem dX6_point_11 : decode cX6_point 11 = .ok (.invokestatic 61, 3) := by decide +kernel
theorem dX6_point_14 : decode cX6_point 14 = .ok (.ifCond .ne 6, 3) := by decide +kernel
theorem dX6_point_17 : decode cX6_point 17 = .ok (.bipush (-2), 2) := by decide +kernel
theorem dX6_point_19 : decode cX6_point 19 = .ok (.ireturn, 1) := by decide +kernel
theorem dX6_point_20 : decode cX6_point 20 = .ok (.aload_n 0, 1) := by decide +kernel
theorem dX6_point_21 : decode cX6_point 21 = .ok (.getfield 7, 3) := by decide +kernel
theorem dX6_point_24 : decode cX6_point 24 = .ok (.iconst 0, 1) := by decide +kernel
theorem dX6_point_25 : decode cX6_point 25 = .ok (.iaload, 1) := by decide +kernel
theorem dX6_point_26 : decode cX6_point 26 = .ok (.istore 4, 2) := by decide +kernel
theorem dX6_point_28 : decode cX6_point 28 = .ok (.iload 4, 2) := by decide +kernel
theorem dX6_point_30 : decode cX6_point 30 = .ok (.bipush 8, 2) := by decide +kernel
theorem dX6_point_32 : decode cX6_point 32 = .ok (.if_icmp .ne 6, 3) := by decide +kernel
theorem dX6_point_35 : decode cX6_point 35 = .ok (.bipush (-4), 2) := by decide +kernel
theorem dX6_point_37 : decode cX6_point 37 = .ok (.ireturn, 1) := by decide +kernel
theorem dX6_point_38 : decode cX6_point 38 = .ok (.aload_n 0, 1) := by decide +kernel
theorem dX6_point_39 : decode cX6_point 39 = .ok (.getfield 7, 3) := by decide +kernel
theorem dX6_point_42 : decode cX6_point 42 = .ok (.iconst 1, 1) := by decide +kernel
theorem dX6_point_43 : decode cX6_point 43 = .ok (.iload 4, 2) := by decide +kernel
theorem dX6_point_45 : decode cX6_point 45 = .ok (.iadd, 1) := by decide +kernel
theorem dX6_point_46 : decode cX6_point 46 = .ok (.iload_n 1, 1) := by decide +kernel
theorem dX6_point_47 : decode cX6_point 47 = .ok (.iastore, 1) := by decide +kernel
theorem dX6_point_48 : decode cX6_point 48 = .ok (.aload_n 0, 1) := by decide +kernel
theorem dX6_point_49 : decode cX6_point 49 = .ok (.getfield 7, 3) := by decide +kernel
theorem dX6_point_52 : decode cX6_point 52 = .ok (.bipush 9, 2) := by decide +kernel
theorem dX6_point_54 : decode cX6_point 54 = .ok (.iload 4, 2) := by decide +kernel
theorem dX6_point_56 : decode cX6_point 56 = .ok (.iadd, 1) := by decide +kernel
theorem dX6_point_57 : decode cX6_point 57 = .ok (.iload_n 2, 1) := by decide +kernel
theorem dX6_point_58 : decode cX6_point 58 = .ok (.iastore, 1) := by decide +kernel
theorem dX6_point_59 : decode cX6_point 59 = .ok (.aload_n 0, 1) := by decide +kernel
theorem dX6_point_60 : decode cX6_point 60 = .ok (.getfield 7, 3) := by decide +kernel
theorem dX6_point_63 : decode cX6_point 63 = .ok (.bipush 17, 2) := by decide +kernel
theorem dX6_point_65 : decode cX6_point 65 = .ok (.iload 4, 2) := by decide +kernel
theorem dX6_point_67 : decode cX6_point 67 = .ok (.iadd, 1) := by decide +kernel
theorem dX6_point_68 : decode cX6_point 68 = .ok (.iload_n 3, 1) := by decide +kernel
theorem dX6_point_69 : decode cX6_point 69 = .ok (.iastore, 1) := by decide +kernel
theorem dX6_point_70 : decode cX6_point 70 = .ok (.aload_n 0, 1) := by decide +kernel
theorem dX6_point_71 : decode cX6_point 71 = .ok (.getfield 7, 3) := by decide +kernel
theorem dX6_point_74 : decode cX6_point 74 = .ok (.bipush 25, 2) := by decide +kernel
theorem dX6_point_76 : decode cX6_point 76 = .ok (.iload 4, 2) := by decide +kernel
theorem dX6_point_78 : decode cX6_point 78 = .ok (.iadd, 1) := by decide +kernel
theorem dX6_point_79 : decode cX6_point 79 = .ok (.iconst 0, 1) := by decide +kernel
theorem dX6_point_80 : decode cX6_point 80 = .ok (.iastore, 1) := by decide +kernel
theorem dX6_point_81 : decode cX6_point 81 = .ok (.aload_n 0, 1) := by decide +kernel
theorem dX6_point_82 : decode cX6_point 82 = .ok (.getfield 7, 3) := by decide +kernel
theorem dX6_point_85 : decode cX6_point 85 = .ok (.iconst 0, 1) := by decide +kernel
theorem dX6_point_86 : decode cX6_point 86 = .ok (.dup2, 1) := by decide +kernel
theorem dX6_point_87 : decode cX6_point 87 = .ok (.iaload, 1) := by decide +kernel
theorem dX6_point_88 : decode cX6_point 88 = .ok (.iconst 1, 1) := by decide +kernel
theorem dX6_point_89 : decode cX6_point 89 = .ok (.iadd, 1) := by decide +kernel
theorem dX6_point_90 : decode cX6_point 90 = .ok (.iastore, 1) := by decide +kernel
theorem dX6_point_91 : decode cX6_point 91 = .ok (.iload 4, 2) := by decide +kernel
theorem dX6_point_93 : decode cX6_point 93 = .ok (.ireturn, 1) := by decide +kernel
theorem dX6_pop_0 : decode cX6_pop 0 = .ok (.aload_n 0, 1) := by decide +kernel
theorem dX6_pop_1 : decode cX6_pop 1 = .ok (.getfield 7, 3) := by decide +kernel
theorem dX6_pop_4 : decode cX6_pop 4 = .ok (.iconst 0, 1) := by decide +kernel
theorem dX6_pop_5 : decode cX6_pop 5 = .ok (.iaload, 1) := by decide +kernel
theorem dX6_pop_6 : decode cX6_pop 6 = .ok (.ifCond .ne 6, 3) := by decide +kernel
theorem dX6_pop_9 : decode cX6_pop 9 = .ok (.bipush (-3), 2) := by decide +kernel
theorem dX6_pop_11 : decode cX6_pop 11 = .ok (.ireturn, 1) := by decide +kernel
theorem dX6_pop_12 : decode cX6_pop 12 = .ok (.aload_n 0, 1) := by decide +kernel
theorem dX6_pop_13 : decode cX6_pop 13 = .ok (.getfield 7, 3) := by decide +kernel
theorem dX6_pop_16 : decode cX6_pop 16 = .ok (.iconst 0, 1) := by decide +kernel
theorem dX6_pop_17 : decode cX6_pop 17 = .ok (.dup2, 1) := by decide +kernel
theorem dX6_pop_18 : decode cX6_pop 18 = .ok (.iaload, 1) := by decide +kernel
theorem dX6_pop_19 : decode cX6_pop 19 = .ok (.iconst 1, 1) := by decide +kernel
theorem dX6_pop_20 : decode cX6_pop 20 = .ok (.isub, 1) := by decide +kernel
theorem dX6_pop_21 : decode cX6_pop 21 = .ok (.iastore, 1) := by decide +kernel
theorem dX6_pop_22 : decode cX6_pop 22 = .ok (.aload_n 0, 1) := by decide +kernel
theorem dX6_pop_23 : decode cX6_pop 23 = .ok (.getfield 7, 3) := by decide +kernel
theorem dX6_pop_26 : decode cX6_pop 26 = .ok (.iconst 0, 1) := by decide +kernel
theorem dX6_pop_27 : decode cX6_pop 27 = .ok (.iaload, 1) := by decide +kernel
theorem dX6_pop_28 : decode cX6_pop 28 = .ok (.ireturn, 1) := by decide +kernel
theorem dX6_move_0 : decode cX6_move 0 = .ok (.aload_n 0, 1) := by decide +kernel
theorem dX6_move_1 : decode cX6_move 1 = .ok (.iload_n 1, 1) := by decide +kernel
theorem dX6_move_2 : decode cX6_move 2 = .ok (.invokevirtual 65, 3) := by decide +kernel
theorem dX6_move_5 : decode cX6_move 5 = .ok (.ifCond .ne 5, 3) := by decide +kernel
theorem dX6_move_8 : decode cX6_move 8 = .ok (.iconst (-1), 1) := by decide +kernel
theorem dX6_move_9 : decode cX6_move 9 = .ok (.ireturn, 1) := by decide +kernel
theorem dX6_move_10 : decode cX6_move 10 = .ok (.iload_n 2, 1) := by decide +kernel
theorem dX6_move_11 : decode cX6_move 11 = .ok (.iload_n 3, 1) := by decide +kernel
theorem dX6_move_12 : decode cX6_move 12 = .ok (.invokestatic 61, 3) := by decide +kernel
theorem dX6_move_15 : decode cX6_move 15 = .ok (.ifCond .ne 6, 3) := by decide +kernel
theorem dX6_move_18 : decode cX6_move 18 = .ok (.bipush (-2), 2) := by decide +kernel
theorem dX6_move_20 : decode cX6_move 20 = .ok (.ireturn, 1) := by decide +kernel
theorem dX6_move_21 : decode cX6_move 21 = .ok (.bipush 21, 2) := by decide +kernel
theorem dX6_move_23 : decode cX6_move 23 = .ok (.aload_n 0, 1) := by decide +kernel
theorem dX6_move_24 : decode cX6_move 24 = .ok (.getfield 7, 3) := by decide +kernel
theorem dX6_move_27 : decode cX6_move 27 = .ok (.bipush 9, 2) := by decide +kernel
theorem dX6_move_29 : decode cX6_move 29 = .ok (.iload_n 1, 1) := by decide +kernel
theorem dX6_move_30 : decode cX6_move 30 = .ok (.iadd, 1) := by decide +kernel
theorem dX6_move_31 : decode cX6_move 31 = .ok (.iaload, 1) := by decide +kernel
theorem dX6_move_32 : decode cX6_move 32 = .ok (.imul, 1) := by decide +kernel
theorem dX6_move_33 : decode cX6_move 33 = .ok (.aload_n 0, 1) := by decide +kernel
theorem dX6_move_34 : decode cX6_move 34 = .ok (.getfield 7, 3) := by decide +kernel
theorem dX6_move_37 : decode cX6_move 37 = .ok (.bipush 17, 2) := by decide +kernel
theorem dX6_move_39 : decode cX6_move 39 = .ok (.iload_n 1, 1) := by decide +kernel
theorem dX6_move_40 : decode cX6_move 40 = .ok (.iadd, 1) := by decide +kernel
theorem dX6_move_41 : decode cX6_move 41 = .ok (.iaload, 1) := by decide +kernel
theorem dX6_move_42 : decode cX6_move 42 = .ok (.iadd, 1) := by decide +kernel
theorem dX6_move_43 : decode cX6_move 43 = .ok (.istore 4, 2) := by decide +kernel
theorem dX6_move_45 : decode cX6_move 45 = .ok (.aload_n 0, 1) := by decide +kernel
theorem dX6_move_46 : decode cX6_move 46 = .ok (.getfield 7, 3) := by decide +kernel
theorem dX6_move_49 : decode cX6_move 49 = .ok (.bipush 9, 2) := by decide +kernel
theorem dX6_move_51 : decode cX6_move 51 = .ok (.iload_n 1, 1) := by decide +kernel
theorem dX6_move_52 : decode cX6_move 52 = .ok (.iadd, 1) := by decide +kernel
theorem dX6_move_53 : decode cX6_move 53 = .ok (.iload_n 2, 1) := by decide +kernel
theorem dX6_move_54 : decode cX6_move 54 = .ok (.iastore, 1) := by decide +kernel
theorem dX6_move_55 : decode cX6_move 55 = .ok (.aload_n 0, 1) := by decide +kernel
theorem dX6_move_56 : decode cX6_move 56 = .ok (.getfield 7, 3) := by decide +kernel
theorem dX6_move_59 : decode cX6_move 59 = .ok (.bipush 17, 2) := by decide +kernel
theorem dX6_move_61 : decode cX6_move 61 = .ok (.iload_n 1, 1) := by decide +kernel
theorem dX6_move_62 : decode cX6_move 62 = .ok (.iadd, 1) := by decide +kernel
theorem dX6_move_63 : decode cX6_move 63 = .ok (.iload_n 3, 1) := by decide +kernel
theorem dX6_move_64 : decode cX6_move 64 = .ok (.iastore, 1) := by decide +kernel
theorem dX6_move_65 : decode cX6_move 65 = .ok (.iload 4, 2) := by decide +kernel
theorem dX6_move_67 : decode cX6_move 67 = .ok (.ireturn, 1) := by decide +kernel
theorem dX6_near_0 : decode cX6_near 0 = .ok (.iload_n 1, 1) := by decide +kernel
theorem dX6_near_1 : decode cX6_near 1 = .ok (.iconst 0, 1) := by decide +kernel
theorem dX6_near_2 : decode cX6_near 2 = .ok (.sipush 800, 3) := by decide +kernel
theorem dX6_near_5 : decode cX6_near 5 = .ok (.invokestatic 53, 3) := by decide +kernel
theorem dX6_near_8 : decode cX6_near 8 = .ok (.ifCond .ne 6, 3) := by decide +kernel
theorem dX6_near_11 : decode cX6_near 11 = .ok (.bipush (-2), 2) := by decide +kernel
theorem dX6_near_13 : decode cX6_near 13 = .ok (.ireturn, 1) := by decide +kernel
theorem dX6_near_14 : decode cX6_near 14 = .ok (.aload_n 0, 1) := by decide +kernel
theorem dX6_near_15 : decode cX6_near 15 = .ok (.getfield 7, 3) := by decide +kernel
theorem dX6_near_18 : decode cX6_near 18 = .ok (.bipush 33, 2) := by decide +kernel
theorem dX6_near_20 : decode cX6_near 20 = .ok (.iaload, 1) := by decide +kernel
theorem dX6_near_21 : decode cX6_near 21 = .ok (.istore_n 2, 1) := by decide +kernel
theorem dX6_near_22 : decode cX6_near 22 = .ok (.aload_n 0, 1) := by decide +kernel
theorem dX6_near_23 : decode cX6_near 23 = .ok (.getfield 7, 3) := by decide +kernel
theorem dX6_near_26 : decode cX6_near 26 = .ok (.bipush 33, 2) := by decide +kernel
theorem dX6_near_28 : decode cX6_near 28 = .ok (.iload_n 1, 1) := by decide +kernel
theorem dX6_near_29 : decode cX6_near 29 = .ok (.iastore, 1) := by decide +kernel
theorem dX6_near_30 : decode cX6_near 30 = .ok (.iload_n 2, 1) := by decide +kernel
theorem dX6_near_31 : decode cX6_near 31 = .ok (.ireturn, 1) := by decide +kernel
theorem dX6_of_0 : decode cX6_of 0 = .ok (.aload_n 0, 1) := by decide +kernel
theorem dX6_of_1 : decode cX6_of 1 = .ok (.iload_n 1, 1) := by decide +kernel
theorem dX6_of_2 : decode cX6_of 2 = .ok (.invokevirtual 65, 3) := by decide +kernel
theorem dX6_of_5 : decode cX6_of 5 = .ok (.ifCond .ne 5, 3) := by decide +kernel
theorem dX6_of_8 : decode cX6_of 8 = .ok (.iconst (-1), 1) := by decide +kernel
theorem dX6_of_9 : decode cX6_of 9 = .ok (.ireturn, 1) := by decide +kernel
theorem dX6_of_10 : decode cX6_of 10 = .ok (.iload_n 2, 1) := by decide +kernel
theorem dX6_of_11 : decode cX6_of 11 = .ok (.iconst 0, 1) := by decide +kernel
theorem dX6_of_12 : decode cX6_of 12 = .ok (.iconst 3, 1) := by decide +kernel
theorem dX6_of_13 : decode cX6_of 13 = .ok (.invokestatic 53, 3) := by decide +kernel
theorem dX6_of_16 : decode cX6_of 16 = .ok (.ifCond .eq 19, 3) := by decide +kernel
theorem dX6_of_19 : decode cX6_of 19 = .ok (.aload_n 0, 1) := by decide +kernel
theorem dX6_of_20 : decode cX6_of 20 = .ok (.getfield 7, 3) := by decide +kernel
theorem dX6_of_23 : decode cX6_of 23 = .ok (.iconst 1, 1) := by decide +kernel
theorem dX6_of_24 : decode cX6_of 24 = .ok (.bipush 8, 2) := by decide +kernel
theorem dX6_of_26 : decode cX6_of 26 = .ok (.iload_n 2, 1) := by decide +kernel
theorem dX6_of_27 : decode cX6_of 27 = .ok (.imul, 1) := by decide +kernel
theorem dX6_of_28 : decode cX6_of 28 = .ok (.iadd, 1) := by decide +kernel
theorem dX6_of_29 : decode cX6_of 29 = .ok (.iload_n 1, 1) := by decide +kernel
theorem dX6_of_30 : decode cX6_of 30 = .ok (.iadd, 1) := by decide +kernel
theorem dX6_of_31 : decode cX6_of 31 = .ok (.iaload, 1) := by decide +kernel
theorem dX6_of_32 : decode cX6_of 32 = .ok (.goto 5, 3) := by decide +kernel
theorem dX6_of_35 : decode cX6_of 35 = .ok (.bipush (-2), 2) := by decide +kernel
theorem dX6_of_37 : decode cX6_of 37 = .ok (.ireturn, 1) := by decide +kernel
theorem dX6_farOf_0 : decode cX6_farOf 0 = .ok (.aload_n 0, 1) := by decide +kernel
theorem dX6_farOf_1 : decode cX6_farOf 1 = .ok (.getfield 7, 3) := by decide +kernel
theorem dX6_farOf_4 : decode cX6_farOf 4 = .ok (.bipush 9, 2) := by decide +kernel
theorem dX6_farOf_6 : decode cX6_farOf 6 = .ok (.iload_n 1, 1) := by decide +kernel
theorem dX6_farOf_7 : decode cX6_farOf 7 = .ok (.iadd, 1) := by decide +kernel
theorem dX6_farOf_8 : decode cX6_farOf 8 = .ok (.iaload, 1) := by decide +kernel
theorem dX6_farOf_9 : decode cX6_farOf 9 = .ok (.aload_n 0, 1) := by decide +kernel
theorem dX6_farOf_10 : decode cX6_farOf 10 = .ok (.getfield 7, 3) := by decide +kernel
theorem dX6_farOf_13 : decode cX6_farOf 13 = .ok (.bipush 9, 2) := by decide +kernel
theorem dX6_farOf_15 : decode cX6_farOf 15 = .ok (.iload_n 2, 1) := by decide +kernel
theorem dX6_farOf_16 : decode cX6_farOf 16 = .ok (.iadd, 1) := by decide +kernel
theorem dX6_farOf_17 : decode cX6_farOf 17 = .ok (.iaload, 1) := by decide +kernel
theorem dX6_farOf_18 : decode cX6_farOf 18 = .ok (.isub, 1) := by decide +kernel
theorem dX6_farOf_19 : decode cX6_farOf 19 = .ok (.istore_n 3, 1) := by decide +kernel
theorem dX6_farOf_20 : decode cX6_farOf 20 = .ok (.aload_n 0, 1) := by decide +kernel
theorem dX6_farOf_21 : decode cX6_farOf 21 = .ok (.getfield 7, 3) := by decide +kernel
theorem dX6_farOf_24 : decode cX6_farOf 24 = .ok (.bipush 17, 2) := by decide +kernel
theorem dX6_farOf_26 : decode cX6_farOf 26 = .ok (.iload_n 1, 1) := by decide +kernel
theorem dX6_farOf_27 : decode cX6_farOf 27 = .ok (.iadd, 1) := by decide +kernel
theorem dX6_farOf_28 : decode cX6_farOf 28 = .ok (.iaload, 1) := by decide +kernel
theorem dX6_farOf_29 : decode cX6_farOf 29 = .ok (.aload_n 0, 1) := by decide +kernel
theorem dX6_farOf_30 : decode cX6_farOf 30 = .ok (.getfield 7, 3) := by decide +kernel
theorem dX6_farOf_33 : decode cX6_farOf 33 = .ok (.bipush 17, 2) := by decide +kernel
theorem dX6_farOf_35 : decode cX6_farOf 35 = .ok (.iload_n 2, 1) := by decide +kernel
theorem dX6_farOf_36 : decode cX6_farOf 36 = .ok (.iadd, 1) := by decide +kernel
theorem dX6_farOf_37 : decode cX6_farOf 37 = .ok (.iaload, 1) := by decide +kernel
theorem dX6_farOf_38 : decode cX6_farOf 38 = .ok (.isub, 1) := by decide +kernel
theorem dX6_farOf_39 : decode cX6_farOf 39 = .ok (.istore 4, 2) := by decide +kernel
theorem dX6_farOf_41 : decode cX6_farOf 41 = .ok (.iload_n 3, 1) := by decide +kernel
theorem dX6_farOf_42 : decode cX6_farOf 42 = .ok (.iload_n 3, 1) := by decide +kernel
theorem dX6_farOf_43 : decode cX6_farOf 43 = .ok (.imul, 1) := by decide +kernel
theorem dX6_farOf_44 : decode cX6_farOf 44 = .ok (.iload 4, 2) := by decide +kernel
theorem dX6_farOf_46 : decode cX6_farOf 46 = .ok (.iload 4, 2) := by decide +kernel
theorem dX6_farOf_48 : decode cX6_farOf 48 = .ok (.imul, 1) := by decide +kernel
theorem dX6_farOf_49 : decode cX6_farOf 49 = .ok (.iadd, 1) := by decide +kernel
theorem dX6_farOf_50 : decode cX6_farOf 50 = .ok (.ireturn, 1) := by decide +kernel
theorem dX6_far_0 : decode cX6_far 0 = .ok (.aload_n 0, 1) := by decide +kernel
theorem dX6_far_1 : decode cX6_far 1 = .ok (.iload_n 1, 1) := by decide +kernel
theorem dX6_far_2 : decode cX6_far 2 = .ok (.invokevirtual 65, 3) := by decide +kernel
theorem dX6_far_5 : decode cX6_far 5 = .ok (.ifCond .eq 20, 3) := by decide +kernel
theorem dX6_far_8 : decode cX6_far 8 = .ok (.aload_n 0, 1) := by decide +kernel
theorem dX6_far_9 : decode cX6_far 9 = .ok (.iload_n 2, 1) := by decide +kernel
theorem dX6_far_10 : decode cX6_far 10 = .ok (.invokevirtual 65, 3) := by decide +kernel
theorem dX6_far_13 : decode cX6_far 13 = .ok (.ifCond .eq 12, 3) := by decide +kernel
theorem dX6_far_16 : decode cX6_far 16 = .ok (.aload_n 0, 1) := by decide +kernel
theorem dX6_far_17 : decode cX6_far 17 = .ok (.iload_n 1, 1) := by decide +kernel
theorem dX6_far_18 : decode cX6_far 18 = .ok (.iload_n 2, 1) := by decide +kernel
theorem dX6_far_19 : decode cX6_far 19 = .ok (.invokevirtual 68, 3) := by decide +kernel
theorem dX6_far_22 : decode cX6_far 22 = .ok (.goto 4, 3) := by decide +kernel
theorem dX6_far_25 : decode cX6_far 25 = .ok (.iconst (-1), 1) := by decide +kernel
theorem dX6_far_26 : decode cX6_far 26 = .ok (.ireturn, 1) := by decide +kernel
theorem dX6_addTry_0 : decode cX6_addTry 0 = .ok (.aload_n 0, 1) := by decide +kernel
theorem dX6_addTry_1 : decode cX6_addTry 1 = .ok (.getfield 7, 3) := by decide +kernel
theorem dX6_addTry_4 : decode cX6_addTry 4 = .ok (.bipush 9, 2) := by decide +kernel
theorem dX6_addTry_6 : decode cX6_addTry 6 = .ok (.iload_n 1, 1) := by decide +kernel
theorem dX6_addTry_7 : decode cX6_addTry 7 = .ok (.iadd, 1) := by decide +kernel
theorem dX6_addTry_8 : decode cX6_addTry 8 = .ok (.iaload, 1) := by decide +kernel
theorem dX6_addTry_9 : decode cX6_addTry 9 = .ok (.aload_n 0, 1) := by decide +kernel
theorem dX6_addTry_10 : decode cX6_addTry 10 = .ok (.getfield 7, 3) := by decide +kernel
theorem dX6_addTry_13 : decode cX6_addTry 13 = .ok (.bipush 9, 2) := by decide +kernel
theorem dX6_addTry_15 : decode cX6_addTry 15 = .ok (.iload_n 2, 1) := by decide +kernel
theorem dX6_addTry_16 : decode cX6_addTry 16 = .ok (.iadd, 1) := by decide +kernel
theorem dX6_addTry_17 : decode cX6_addTry 17 = .ok (.iaload, 1) := by decide +kernel
theorem dX6_addTry_18 : decode cX6_addTry 18 = .ok (.if_icmp .lt 29, 3) := by decide +kernel
theorem dX6_addTry_21 : decode cX6_addTry 21 = .ok (.aload_n 0, 1) := by decide +kernel
theorem dX6_addTry_22 : decode cX6_addTry 22 = .ok (.getfield 7, 3) := by decide +kernel
theorem dX6_addTry_25 : decode cX6_addTry 25 = .ok (.bipush 9, 2) := by decide +kernel
theorem dX6_addTry_27 : decode cX6_addTry 27 = .ok (.iload_n 1, 1) := by decide +kernel
theorem dX6_addTry_28 : decode cX6_addTry 28 = .ok (.iadd, 1) := by decide +kernel
theorem dX6_addTry_29 : decode cX6_addTry 29 = .ok (.iaload, 1) := by decide +kernel
theorem dX6_addTry_30 : decode cX6_addTry 30 = .ok (.aload_n 0, 1) := by decide +kernel
theorem dX6_addTry_31 : decode cX6_addTry 31 = .ok (.getfield 7, 3) := by decide +kernel
theorem dX6_addTry_34 : decode cX6_addTry 34 = .ok (.bipush 9, 2) := by decide +kernel
theorem dX6_addTry_36 : decode cX6_addTry 36 = .ok (.iload_n 2, 1) := by decide +kernel
theorem dX6_addTry_37 : decode cX6_addTry 37 = .ok (.iadd, 1) := by decide +kernel
theorem dX6_addTry_38 : decode cX6_addTry 38 = .ok (.iaload, 1) := by decide +kernel
theorem dX6_addTry_39 : decode cX6_addTry 39 = .ok (.if_icmp .ne 12, 3) := by decide +kernel
theorem dX6_addTry_42 : decode cX6_addTry 42 = .ok (.iload_n 1, 1) := by decide +kernel
theorem dX6_addTry_43 : decode cX6_addTry 43 = .ok (.iload_n 2, 1) := by decide +kernel
theorem dX6_addTry_44 : decode cX6_addTry 44 = .ok (.if_icmp .ge 7, 3) := by decide +kernel
theorem dX6_addTry_47 : decode cX6_addTry 47 = .ok (.iconst 1, 1) := by decide +kernel
theorem dX6_addTry_48 : decode cX6_addTry 48 = .ok (.goto 4, 3) := by decide +kernel
theorem dX6_addTry_51 : decode cX6_addTry 51 = .ok (.iconst 0, 1) := by decide +kernel
theorem dX6_addTry_52 : decode cX6_addTry 52 = .ok (.istore 4, 2) := by decide +kernel
theorem dX6_addTry_54 : decode cX6_addTry 54 = .ok (.aload_n 0, 1) := by decide +kernel
theorem dX6_addTry_55 : decode cX6_addTry 55 = .ok (.getfield 23, 3) := by decide +kernel
theorem dX6_addTry_58 : decode cX6_addTry 58 = .ok (.aload_n 0, 1) := by decide +kernel
theorem dX6_addTry_59 : decode cX6_addTry 59 = .ok (.getfield 72, 3) := by decide +kernel
theorem dX6_addTry_62 : decode cX6_addTry 62 = .ok (.iload 4, 2) := by decide +kernel
theorem dX6_addTry_64 : decode cX6_addTry 64 = .ok (.ifCond .eq 7, 3) := by decide +kernel
theorem dX6_addTry_67 : decode cX6_addTry 67 = .ok (.iload_n 1, 1) := by decide +kernel
theorem dX6_addTry_68 : decode cX6_addTry 68 = .ok (.goto 4, 3) := by decide +kernel
theorem dX6_addTry_71 : decode cX6_addTry 71 = .ok (.iload_n 2, 1) := by decide +kernel
theorem dX6_addTry_72 : decode cX6_addTry 72 = .ok (.iastore, 1) := by decide +kernel
theorem dX6_addTry_73 : decode cX6_addTry 73 = .ok (.aload_n 0, 1) := by decide +kernel
theorem dX6_addTry_74 : decode cX6_addTry 74 = .ok (.getfield 26, 3) := by decide +kernel
theorem dX6_addTry_77 : decode cX6_addTry 77 = .ok (.aload_n 0, 1) := by decide +kernel
theorem dX6_addTry_78 : decode cX6_addTry 78 = .ok (.getfield 72, 3) := by decide +kernel
theorem dX6_addTry_81 : decode cX6_addTry 81 = .ok (.iload 4, 2) := by decide +kernel
theorem dX6_addTry_83 : decode cX6_addTry 83 = .ok (.ifCond .eq 7, 3) := by decide +kernel
end
section
theorem dX6_addTry_86 : decode cX6_addTry 86 = .ok (.iload_n 2, 1) := by decide +kernel
theorem dX6_addTry_87 : decode cX6_addTry 87 = .ok (.goto 4, 3) := by decide +kernel
theorem dX6_addTry_90 : decode cX6_addTry 90 = .ok (.iload_n 1, 1) := by decide +kernel
theorem dX6_addTry_91 : decode cX6_addTry 91 = .ok (.iastore, 1) := by decide +kernel
theorem dX6_addTry_92 : decode cX6_addTry 92 = .ok (.aload_n 0, 1) := by decide +kernel
theorem dX6_addTry_93 : decode cX6_addTry 93 = .ok (.getfield 29, 3) := by decide +kernel
theorem dX6_addTry_96 : decode cX6_addTry 96 = .ok (.aload_n 0, 1) := by decide +kernel
theorem dX6_addTry_97 : decode cX6_addTry 97 = .ok (.getfield 72, 3) := by decide +kernel
theorem dX6_addTry_100 : decode cX6_addTry 100 = .ok (.iload_n 3, 1) := by decide +kernel
theorem dX6_addTry_101 : decode cX6_addTry 101 = .ok (.bastore, 1) := by decide +kernel
theorem dX6_addTry_102 : decode cX6_addTry 102 = .ok (.aload_n 0, 1) := by decide +kernel
theorem dX6_addTry_103 : decode cX6_addTry 103 = .ok (.dup, 1) := by decide +kernel
theorem dX6_addTry_104 : decode cX6_addTry 104 = .ok (.getfield 72, 3) := by decide +kernel
theorem dX6_addTry_107 : decode cX6_addTry 107 = .ok (.iconst 1, 1) := by decide +kernel
theorem dX6_addTry_108 : decode cX6_addTry 108 = .ok (.iadd, 1) := by decide +kernel
theorem dX6_addTry_109 : decode cX6_addTry 109 = .ok (.putfield 72, 3) := by decide +kernel
theorem dX6_addTry_112 : decode cX6_addTry 112 = .ok (.return_, 1) := by decide +kernel
theorem dX6_canJoin_0 : decode cX6_canJoin 0 = .ok (.aload_n 0, 1) := by decide +kernel
theorem dX6_canJoin_1 : decode cX6_canJoin 1 = .ok (.getfield 7, 3) := by decide +kernel
theorem dX6_canJoin_4 : decode cX6_canJoin 4 = .ok (.iconst 1, 1) := by decide +kernel
theorem dX6_canJoin_5 : decode cX6_canJoin 5 = .ok (.iload_n 1, 1) := by decide +kernel
theorem dX6_canJoin_6 : decode cX6_canJoin 6 = .ok (.iadd, 1) := by decide +kernel
theorem dX6_canJoin_7 : decode cX6_canJoin 7 = .ok (.iaload, 1) := by decide +kernel
theorem dX6_canJoin_8 : decode cX6_canJoin 8 = .ok (.iload_n 3, 1) := by decide +kernel
theorem dX6_canJoin_9 : decode cX6_canJoin 9 = .ok (.if_icmp .ne 34, 3) := by decide +kernel
theorem dX6_canJoin_12 : decode cX6_canJoin 12 = .ok (.aload_n 0, 1) := by decide +kernel
theorem dX6_canJoin_13 : decode cX6_canJoin 13 = .ok (.getfield 7, 3) := by decide +kernel
theorem dX6_canJoin_16 : decode cX6_canJoin 16 = .ok (.iconst 1, 1) := by decide +kernel
theorem dX6_canJoin_17 : decode cX6_canJoin 17 = .ok (.iload_n 2, 1) := by decide +kernel
theorem dX6_canJoin_18 : decode cX6_canJoin 18 = .ok (.iadd, 1) := by decide +kernel
theorem dX6_canJoin_19 : decode cX6_canJoin 19 = .ok (.iaload, 1) := by decide +kernel
theorem dX6_canJoin_20 : decode cX6_canJoin 20 = .ok (.iload_n 3, 1) := by decide +kernel
theorem dX6_canJoin_21 : decode cX6_canJoin 21 = .ok (.if_icmp .ne 22, 3) := by decide +kernel
theorem dX6_canJoin_24 : decode cX6_canJoin 24 = .ok (.aload_n 0, 1) := by decide +kernel
theorem dX6_canJoin_25 : decode cX6_canJoin 25 = .ok (.getfield 32, 3) := by decide +kernel
theorem dX6_canJoin_28 : decode cX6_canJoin 28 = .ok (.iload_n 1, 1) := by decide +kernel
theorem dX6_canJoin_29 : decode cX6_canJoin 29 = .ok (.iaload, 1) := by decide +kernel
theorem dX6_canJoin_30 : decode cX6_canJoin 30 = .ok (.aload_n 0, 1) := by decide +kernel
theorem dX6_canJoin_31 : decode cX6_canJoin 31 = .ok (.getfield 32, 3) := by decide +kernel
theorem dX6_canJoin_34 : decode cX6_canJoin 34 = .ok (.iload_n 2, 1) := by decide +kernel
theorem dX6_canJoin_35 : decode cX6_canJoin 35 = .ok (.iaload, 1) := by decide +kernel
theorem dX6_canJoin_36 : decode cX6_canJoin 36 = .ok (.if_icmp .eq 7, 3) := by decide +kernel
theorem dX6_canJoin_39 : decode cX6_canJoin 39 = .ok (.iconst 1, 1) := by decide +kernel
theorem dX6_canJoin_40 : decode cX6_canJoin 40 = .ok (.goto 4, 3) := by decide +kernel
theorem dX6_canJoin_43 : decode cX6_canJoin 43 = .ok (.iconst 0, 1) := by decide +kernel
theorem dX6_canJoin_44 : decode cX6_canJoin 44 = .ok (.ireturn, 1) := by decide +kernel
theorem dX6_nextPair_0 : decode cX6_nextPair 0 = .ok (.bipush (-6), 2) := by decide +kernel
theorem dX6_nextPair_2 : decode cX6_nextPair 2 = .ok (.istore_n 2, 1) := by decide +kernel
theorem dX6_nextPair_3 : decode cX6_nextPair 3 = .ok (.iconst 0, 1) := by decide +kernel
theorem dX6_nextPair_4 : decode cX6_nextPair 4 = .ok (.istore_n 3, 1) := by decide +kernel
theorem dX6_nextPair_5 : decode cX6_nextPair 5 = .ok (.iload_n 3, 1) := by decide +kernel
theorem dX6_nextPair_6 : decode cX6_nextPair 6 = .ok (.aload_n 0, 1) := by decide +kernel
theorem dX6_nextPair_7 : decode cX6_nextPair 7 = .ok (.getfield 7, 3) := by decide +kernel
theorem dX6_nextPair_10 : decode cX6_nextPair 10 = .ok (.iconst 0, 1) := by decide +kernel
theorem dX6_nextPair_11 : decode cX6_nextPair 11 = .ok (.iaload, 1) := by decide +kernel
theorem dX6_nextPair_12 : decode cX6_nextPair 12 = .ok (.if_icmp .ge 76, 3) := by decide +kernel
theorem dX6_nextPair_15 : decode cX6_nextPair 15 = .ok (.iload_n 3, 1) := by decide +kernel
theorem dX6_nextPair_16 : decode cX6_nextPair 16 = .ok (.iconst 1, 1) := by decide +kernel
theorem dX6_nextPair_17 : decode cX6_nextPair 17 = .ok (.iadd, 1) := by decide +kernel
theorem dX6_nextPair_18 : decode cX6_nextPair 18 = .ok (.istore 4, 2) := by decide +kernel
theorem dX6_nextPair_20 : decode cX6_nextPair 20 = .ok (.iload 4, 2) := by decide +kernel
theorem dX6_nextPair_22 : decode cX6_nextPair 22 = .ok (.aload_n 0, 1) := by decide +kernel
theorem dX6_nextPair_23 : decode cX6_nextPair 23 = .ok (.getfield 7, 3) := by decide +kernel
theorem dX6_nextPair_26 : decode cX6_nextPair 26 = .ok (.iconst 0, 1) := by decide +kernel
theorem dX6_nextPair_27 : decode cX6_nextPair 27 = .ok (.iaload, 1) := by decide +kernel
theorem dX6_nextPair_28 : decode cX6_nextPair 28 = .ok (.if_icmp .ge 54, 3) := by decide +kernel
theorem dX6_nextPair_31 : decode cX6_nextPair 31 = .ok (.aload_n 0, 1) := by decide +kernel
theorem dX6_nextPair_32 : decode cX6_nextPair 32 = .ok (.iload_n 3, 1) := by decide +kernel
theorem dX6_nextPair_33 : decode cX6_nextPair 33 = .ok (.iload 4, 2) := by decide +kernel
theorem dX6_nextPair_35 : decode cX6_nextPair 35 = .ok (.iload_n 1, 1) := by decide +kernel
theorem dX6_nextPair_36 : decode cX6_nextPair 36 = .ok (.invokevirtual 76, 3) := by decide +kernel
theorem dX6_nextPair_39 : decode cX6_nextPair 39 = .ok (.ifCond .eq 37, 3) := by decide +kernel
theorem dX6_nextPair_42 : decode cX6_nextPair 42 = .ok (.iload_n 2, 1) := by decide +kernel
theorem dX6_nextPair_43 : decode cX6_nextPair 43 = .ok (.ifCond .lt 25, 3) := by decide +kernel
theorem dX6_nextPair_46 : decode cX6_nextPair 46 = .ok (.aload_n 0, 1) := by decide +kernel
theorem dX6_nextPair_47 : decode cX6_nextPair 47 = .ok (.iload_n 3, 1) := by decide +kernel
theorem dX6_nextPair_48 : decode cX6_nextPair 48 = .ok (.iload 4, 2) := by decide +kernel
theorem dX6_nextPair_50 : decode cX6_nextPair 50 = .ok (.invokevirtual 68, 3) := by decide +kernel
theorem dX6_nextPair_53 : decode cX6_nextPair 53 = .ok (.aload_n 0, 1) := by decide +kernel
theorem dX6_nextPair_54 : decode cX6_nextPair 54 = .ok (.iload_n 2, 1) := by decide +kernel
theorem dX6_nextPair_55 : decode cX6_nextPair 55 = .ok (.bipush 8, 2) := by decide +kernel
theorem dX6_nextPair_57 : decode cX6_nextPair 57 = .ok (.idiv, 1) := by decide +kernel
theorem dX6_nextPair_58 : decode cX6_nextPair 58 = .ok (.iload_n 2, 1) := by decide +kernel
theorem dX6_nextPair_59 : decode cX6_nextPair 59 = .ok (.bipush 8, 2) := by decide +kernel
theorem dX6_nextPair_61 : decode cX6_nextPair 61 = .ok (.irem, 1) := by decide +kernel
theorem dX6_nextPair_62 : decode cX6_nextPair 62 = .ok (.invokevirtual 68, 3) := by decide +kernel
theorem dX6_nextPair_65 : decode cX6_nextPair 65 = .ok (.if_icmp .ge 11, 3) := by decide +kernel
theorem dX6_nextPair_68 : decode cX6_nextPair 68 = .ok (.bipush 8, 2) := by decide +kernel
theorem dX6_nextPair_70 : decode cX6_nextPair 70 = .ok (.iload_n 3, 1) := by decide +kernel
theorem dX6_nextPair_71 : decode cX6_nextPair 71 = .ok (.imul, 1) := by decide +kernel
theorem dX6_nextPair_72 : decode cX6_nextPair 72 = .ok (.iload 4, 2) := by decide +kernel
theorem dX6_nextPair_74 : decode cX6_nextPair 74 = .ok (.iadd, 1) := by decide +kernel
theorem dX6_nextPair_75 : decode cX6_nextPair 75 = .ok (.istore_n 2, 1) := by decide +kernel
theorem dX6_nextPair_76 : decode cX6_nextPair 76 = .ok (.iinc 4 1, 3) := by decide +kernel
theorem dX6_nextPair_79 : decode cX6_nextPair 79 = .ok (.goto (-59), 3) := by decide +kernel
theorem dX6_nextPair_82 : decode cX6_nextPair 82 = .ok (.iinc 3 1, 3) := by decide +kernel
theorem dX6_nextPair_85 : decode cX6_nextPair 85 = .ok (.goto (-80), 3) := by decide +kernel
theorem dX6_nextPair_88 : decode cX6_nextPair 88 = .ok (.iload_n 2, 1) := by decide +kernel
theorem dX6_nextPair_89 : decode cX6_nextPair 89 = .ok (.ireturn, 1) := by decide +kernel
theorem dX6_join_0 : decode cX6_join 0 = .ok (.aload_n 0, 1) := by decide +kernel
theorem dX6_join_1 : decode cX6_join 1 = .ok (.getfield 32, 3) := by decide +kernel
theorem dX6_join_4 : decode cX6_join 4 = .ok (.iload_n 2, 1) := by decide +kernel
theorem dX6_join_5 : decode cX6_join 5 = .ok (.iaload, 1) := by decide +kernel
theorem dX6_join_6 : decode cX6_join 6 = .ok (.istore_n 3, 1) := by decide +kernel
theorem dX6_join_7 : decode cX6_join 7 = .ok (.iconst 0, 1) := by decide +kernel
theorem dX6_join_8 : decode cX6_join 8 = .ok (.istore 4, 2) := by decide +kernel
theorem dX6_join_10 : decode cX6_join 10 = .ok (.iload 4, 2) := by decide +kernel
theorem dX6_join_12 : decode cX6_join 12 = .ok (.aload_n 0, 1) := by decide +kernel
theorem dX6_join_13 : decode cX6_join 13 = .ok (.getfield 7, 3) := by decide +kernel
theorem dX6_join_16 : decode cX6_join 16 = .ok (.iconst 0, 1) := by decide +kernel
theorem dX6_join_17 : decode cX6_join 17 = .ok (.iaload, 1) := by decide +kernel
theorem dX6_join_18 : decode cX6_join 18 = .ok (.if_icmp .ge 43, 3) := by decide +kernel
theorem dX6_join_21 : decode cX6_join 21 = .ok (.aload_n 0, 1) := by decide +kernel
theorem dX6_join_22 : decode cX6_join 22 = .ok (.getfield 32, 3) := by decide +kernel
theorem dX6_join_25 : decode cX6_join 25 = .ok (.iload 4, 2) := by decide +kernel
theorem dX6_join_27 : decode cX6_join 27 = .ok (.aload_n 0, 1) := by decide +kernel
theorem dX6_join_28 : decode cX6_join 28 = .ok (.getfield 32, 3) := by decide +kernel
theorem dX6_join_31 : decode cX6_join 31 = .ok (.iload 4, 2) := by decide +kernel
theorem dX6_join_33 : decode cX6_join 33 = .ok (.iaload, 1) := by decide +kernel
theorem dX6_join_34 : decode cX6_join 34 = .ok (.iload_n 3, 1) := by decide +kernel
theorem dX6_join_35 : decode cX6_join 35 = .ok (.if_icmp .ne 12, 3) := by decide +kernel
theorem dX6_join_38 : decode cX6_join 38 = .ok (.aload_n 0, 1) := by decide +kernel
theorem dX6_join_39 : decode cX6_join 39 = .ok (.getfield 32, 3) := by decide +kernel
theorem dX6_join_42 : decode cX6_join 42 = .ok (.iload_n 1, 1) := by decide +kernel
theorem dX6_join_43 : decode cX6_join 43 = .ok (.iaload, 1) := by decide +kernel
theorem dX6_join_44 : decode cX6_join 44 = .ok (.goto 10, 3) := by decide +kernel
theorem dX6_join_47 : decode cX6_join 47 = .ok (.aload_n 0, 1) := by decide +kernel
theorem dX6_join_48 : decode cX6_join 48 = .ok (.getfield 32, 3) := by decide +kernel
theorem dX6_join_51 : decode cX6_join 51 = .ok (.iload 4, 2) := by decide +kernel
theorem dX6_join_53 : decode cX6_join 53 = .ok (.iaload, 1) := by decide +kernel
theorem dX6_join_54 : decode cX6_join 54 = .ok (.iastore, 1) := by decide +kernel
theorem dX6_join_55 : decode cX6_join 55 = .ok (.iinc 4 1, 3) := by decide +kernel
theorem dX6_join_58 : decode cX6_join 58 = .ok (.goto (-48), 3) := by decide +kernel
theorem dX6_join_61 : decode cX6_join 61 = .ok (.return_, 1) := by decide +kernel
theorem dX6_layTree_0 : decode cX6_layTree 0 = .ok (.aload_n 0, 1) := by decide +kernel
theorem dX6_layTree_1 : decode cX6_layTree 1 = .ok (.iload_n 1, 1) := by decide +kernel
theorem dX6_layTree_2 : decode cX6_layTree 2 = .ok (.invokevirtual 79, 3) := by decide +kernel
theorem dX6_layTree_5 : decode cX6_layTree 5 = .ok (.istore_n 2, 1) := by decide +kernel
theorem dX6_layTree_6 : decode cX6_layTree 6 = .ok (.iload_n 2, 1) := by decide +kernel
theorem dX6_layTree_7 : decode cX6_layTree 7 = .ok (.ifCond .lt 31, 3) := by decide +kernel
theorem dX6_layTree_10 : decode cX6_layTree 10 = .ok (.aload_n 0, 1) := by decide +kernel
theorem dX6_layTree_11 : decode cX6_layTree 11 = .ok (.getfield 35, 3) := by decide +kernel
theorem dX6_layTree_14 : decode cX6_layTree 14 = .ok (.iload_n 2, 1) := by decide +kernel
theorem dX6_layTree_15 : decode cX6_layTree 15 = .ok (.iconst 1, 1) := by decide +kernel
theorem dX6_layTree_16 : decode cX6_layTree 16 = .ok (.bastore, 1) := by decide +kernel
theorem dX6_layTree_17 : decode cX6_layTree 17 = .ok (.aload_n 0, 1) := by decide +kernel
theorem dX6_layTree_18 : decode cX6_layTree 18 = .ok (.iload_n 2, 1) := by decide +kernel
theorem dX6_layTree_19 : decode cX6_layTree 19 = .ok (.bipush 8, 2) := by decide +kernel
theorem dX6_layTree_21 : decode cX6_layTree 21 = .ok (.idiv, 1) := by decide +kernel
theorem dX6_layTree_22 : decode cX6_layTree 22 = .ok (.iload_n 2, 1) := by decide +kernel
theorem dX6_layTree_23 : decode cX6_layTree 23 = .ok (.bipush 8, 2) := by decide +kernel
theorem dX6_layTree_25 : decode cX6_layTree 25 = .ok (.irem, 1) := by decide +kernel
theorem dX6_layTree_26 : decode cX6_layTree 26 = .ok (.invokevirtual 83, 3) := by decide +kernel
theorem dX6_layTree_29 : decode cX6_layTree 29 = .ok (.aload_n 0, 1) := by decide +kernel
theorem dX6_layTree_30 : decode cX6_layTree 30 = .ok (.iload_n 1, 1) := by decide +kernel
theorem dX6_layTree_31 : decode cX6_layTree 31 = .ok (.invokevirtual 79, 3) := by decide +kernel
theorem dX6_layTree_34 : decode cX6_layTree 34 = .ok (.istore_n 2, 1) := by decide +kernel
theorem dX6_layTree_35 : decode cX6_layTree 35 = .ok (.goto (-29), 3) := by decide +kernel
theorem dX6_layTree_38 : decode cX6_layTree 38 = .ok (.iconst 0, 1) := by decide +kernel
theorem dX6_layTree_39 : decode cX6_layTree 39 = .ok (.istore_n 3, 1) := by decide +kernel
theorem dX6_layTree_40 : decode cX6_layTree 40 = .ok (.iload_n 3, 1) := by decide +kernel
theorem dX6_layTree_41 : decode cX6_layTree 41 = .ok (.bipush 64, 2) := by decide +kernel
theorem dX6_layTree_43 : decode cX6_layTree 43 = .ok (.if_icmp .ge 46, 3) := by decide +kernel
theorem dX6_layTree_46 : decode cX6_layTree 46 = .ok (.aload_n 0, 1) := by decide +kernel
theorem dX6_layTree_47 : decode cX6_layTree 47 = .ok (.getfield 35, 3) := by decide +kernel
theorem dX6_layTree_50 : decode cX6_layTree 50 = .ok (.iload_n 3, 1) := by decide +kernel
theorem dX6_layTree_51 : decode cX6_layTree 51 = .ok (.baload, 1) := by decide +kernel
theorem dX6_layTree_52 : decode cX6_layTree 52 = .ok (.ifCond .eq 31, 3) := by decide +kernel
theorem dX6_layTree_55 : decode cX6_layTree 55 = .ok (.aload_n 0, 1) := by decide +kernel
theorem dX6_layTree_56 : decode cX6_layTree 56 = .ok (.getfield 7, 3) := by decide +kernel
theorem dX6_layTree_59 : decode cX6_layTree 59 = .ok (.iconst 1, 1) := by decide +kernel
theorem dX6_layTree_60 : decode cX6_layTree 60 = .ok (.iload_n 3, 1) := by decide +kernel
theorem dX6_layTree_61 : decode cX6_layTree 61 = .ok (.bipush 8, 2) := by decide +kernel
theorem dX6_layTree_63 : decode cX6_layTree 63 = .ok (.idiv, 1) := by decide +kernel
theorem dX6_layTree_64 : decode cX6_layTree 64 = .ok (.iadd, 1) := by decide +kernel
theorem dX6_layTree_65 : decode cX6_layTree 65 = .ok (.iaload, 1) := by decide +kernel
theorem dX6_layTree_66 : decode cX6_layTree 66 = .ok (.iload_n 1, 1) := by decide +kernel
theorem dX6_layTree_67 : decode cX6_layTree 67 = .ok (.if_icmp .ne 16, 3) := by decide +kernel
theorem dX6_layTree_70 : decode cX6_layTree 70 = .ok (.aload_n 0, 1) := by decide +kernel
theorem dX6_layTree_71 : decode cX6_layTree 71 = .ok (.iload_n 3, 1) := by decide +kernel
theorem dX6_layTree_72 : decode cX6_layTree 72 = .ok (.bipush 8, 2) := by decide +kernel
theorem dX6_layTree_74 : decode cX6_layTree 74 = .ok (.idiv, 1) := by decide +kernel
theorem dX6_layTree_75 : decode cX6_layTree 75 = .ok (.iload_n 3, 1) := by decide +kernel
theorem dX6_layTree_76 : decode cX6_layTree 76 = .ok (.bipush 8, 2) := by decide +kernel
theorem dX6_layTree_78 : decode cX6_layTree 78 = .ok (.irem, 1) := by decide +kernel
theorem dX6_layTree_79 : decode cX6_layTree 79 = .ok (.iconst 0, 1) := by decide +kernel
theorem dX6_layTree_80 : decode cX6_layTree 80 = .ok (.invokevirtual 87, 3) := by decide +kernel
theorem dX6_layTree_83 : decode cX6_layTree 83 = .ok (.iinc 3 1, 3) := by decide +kernel
theorem dX6_layTree_86 : decode cX6_layTree 86 = .ok (.goto (-46), 3) := by decide +kernel
theorem dX6_layTree_89 : decode cX6_layTree 89 = .ok (.return_, 1) := by decide +kernel
theorem dX6_layNeighbours_0 : decode cX6_layNeighbours 0 = .ok (.bipush (-6), 2) := by decide +kernel
theorem dX6_layNeighbours_2 : decode cX6_layNeighbours 2 = .ok (.istore_n 3, 1) := by decide +kernel
theorem dX6_layNeighbours_3 : decode cX6_layNeighbours 3 = .ok (.iconst 0, 1) := by decide +kernel
theorem dX6_layNeighbours_4 : decode cX6_layNeighbours 4 = .ok (.istore 4, 2) := by decide +kernel
theorem dX6_layNeighbours_6 : decode cX6_layNeighbours 6 = .ok (.iload 4, 2) := by decide +kernel
theorem dX6_layNeighbours_8 : decode cX6_layNeighbours 8 = .ok (.aload_n 0, 1) := by decide +kernel
theorem dX6_layNeighbours_9 : decode cX6_layNeighbours 9 = .ok (.getfield 7, 3) := by decide +kernel
theorem dX6_layNeighbours_12 : decode cX6_layNeighbours 12 = .ok (.iconst 0, 1) := by decide +kernel
theorem dX6_layNeighbours_13 : decode cX6_layNeighbours 13 = .ok (.iaload, 1) := by decide +kernel
theorem dX6_layNeighbours_14 : decode cX6_layNeighbours 14 = .ok (.if_icmp .ge 103, 3) := by decide +kernel
theorem dX6_layNeighbours_17 : decode cX6_layNeighbours 17 = .ok (.iconst 0, 1) := by decide +kernel
theorem dX6_layNeighbours_18 : decode cX6_layNeighbours 18 = .ok (.istore 5, 2) := by decide +kernel
theorem dX6_layNeighbours_20 : decode cX6_layNeighbours 20 = .ok (.iload 5, 2) := by decide +kernel
theorem dX6_layNeighbours_22 : decode cX6_layNeighbours 22 = .ok (.aload_n 0, 1) := by decide +kernel
theorem dX6_layNeighbours_23 : decode cX6_layNeighbours 23 = .ok (.getfield 7, 3) := by decide +kernel
theorem dX6_layNeighbours_26 : decode cX6_layNeighbours 26 = .ok (.iconst 0, 1) := by decide +kernel
theorem dX6_layNeighbours_27 : decode cX6_layNeighbours 27 = .ok (.iaload, 1) := by decide +kernel
theorem dX6_layNeighbours_28 : decode cX6_layNeighbours 28 = .ok (.if_icmp .ge 83, 3) := by decide +kernel
theorem dX6_layNeighbours_31 : decode cX6_layNeighbours 31 = .ok (.aload_n 0, 1) := by decide +kernel
theorem dX6_layNeighbours_32 : decode cX6_layNeighbours 32 = .ok (.getfield 7, 3) := by decide +kernel
theorem dX6_layNeighbours_35 : decode cX6_layNeighbours 35 = .ok (.iconst 1, 1) := by decide +kernel
theorem dX6_layNeighbours_36 : decode cX6_layNeighbours 36 = .ok (.iload 4, 2) := by decide +kernel
theorem dX6_layNeighbours_38 : decode cX6_layNeighbours 38 = .ok (.iadd, 1) := by decide +kernel
theorem dX6_layNeighbours_39 : decode cX6_layNeighbours 39 = .ok (.iaload, 1) := by decide +kernel
theorem dX6_layNeighbours_40 : decode cX6_layNeighbours 40 = .ok (.iload_n 1, 1) := by decide +kernel
theorem dX6_layNeighbours_41 : decode cX6_layNeighbours 41 = .ok (.if_icmp .ne 20, 3) := by decide +kernel
theorem dX6_layNeighbours_44 : decode cX6_layNeighbours 44 = .ok (.aload_n 0, 1) := by decide +kernel
theorem dX6_layNeighbours_45 : decode cX6_layNeighbours 45 = .ok (.getfield 7, 3) := by decide +kernel
theorem dX6_layNeighbours_48 : decode cX6_layNeighbours 48 = .ok (.iconst 1, 1) := by decide +kernel
theorem dX6_layNeighbours_49 : decode cX6_layNeighbours 49 = .ok (.iload 5, 2) := by decide +kernel
theorem dX6_layNeighbours_51 : decode cX6_layNeighbours 51 = .ok (.iadd, 1) := by decide +kernel
theorem dX6_layNeighbours_52 : decode cX6_layNeighbours 52 = .ok (.iaload, 1) := by decide +kernel
theorem dX6_layNeighbours_53 : decode cX6_layNeighbours 53 = .ok (.iload_n 2, 1) := by decide +kernel
theorem dX6_layNeighbours_54 : decode cX6_layNeighbours 54 = .ok (.if_icmp .ne 7, 3) := by decide +kernel
theorem dX6_layNeighbours_57 : decode cX6_layNeighbours 57 = .ok (.iconst 1, 1) := by decide +kernel
theorem dX6_layNeighbours_58 : decode cX6_layNeighbours 58 = .ok (.goto 4, 3) := by decide +kernel
theorem dX6_layNeighbours_61 : decode cX6_layNeighbours 61 = .ok (.iconst 0, 1) := by decide +kernel
theorem dX6_layNeighbours_62 : decode cX6_layNeighbours 62 = .ok (.istore 6, 2) := by decide +kernel
theorem dX6_layNeighbours_64 : decode cX6_layNeighbours 64 = .ok (.iload 6, 2) := by decide +kernel
theorem dX6_layNeighbours_66 : decode cX6_layNeighbours 66 = .ok (.ifCond .eq 39, 3) := by decide +kernel
theorem dX6_layNeighbours_69 : decode cX6_layNeighbours 69 = .ok (.iload_n 3, 1) := by decide +kernel
theorem dX6_layNeighbours_70 : decode cX6_layNeighbours 70 = .ok (.ifCond .lt 26, 3) := by decide +kernel
theorem dX6_layNeighbours_73 : decode cX6_layNeighbours 73 = .ok (.aload_n 0, 1) := by decide +kernel
theorem dX6_layNeighbours_74 : decode cX6_layNeighbours 74 = .ok (.iload 4, 2) := by decide +kernel
theorem dX6_layNeighbours_76 : decode cX6_layNeighbours 76 = .ok (.iload 5, 2) := by decide +kernel
theorem dX6_layNeighbours_78 : decode cX6_layNeighbours 78 = .ok (.invokevirtual 68, 3) := by decide +kernel
theorem dX6_layNeighbours_81 : decode cX6_layNeighbours 81 = .ok (.aload_n 0, 1) := by decide +kernel
theorem dX6_layNeighbours_82 : decode cX6_layNeighbours 82 = .ok (.iload_n 3, 1) := by decide +kernel
theorem dX6_layNeighbours_83 : decode cX6_layNeighbours 83 = .ok (.bipush 8, 2) := by decide +kernel
theorem dX6_layNeighbours_85 : decode cX6_layNeighbours 85 = .ok (.idiv, 1) := by decide +kernel
theorem dX6_layNeighbours_86 : decode cX6_layNeighbours 86 = .ok (.iload_n 3, 1) := by decide +kernel
theorem dX6_layNeighbours_87 : decode cX6_layNeighbours 87 = .ok (.bipush 8, 2) := by decide +kernel
theorem dX6_layNeighbours_89 : decode cX6_layNeighbours 89 = .ok (.irem, 1) := by decide +kernel
theorem dX6_layNeighbours_90 : decode cX6_layNeighbours 90 = .ok (.invokevirtual 68, 3) := by decide +kernel
theorem dX6_layNeighbours_93 : decode cX6_layNeighbours 93 = .ok (.if_icmp .ge 12, 3) := by decide +kernel
theorem dX6_layNeighbours_96 : decode cX6_layNeighbours 96 = .ok (.bipush 8, 2) := by decide +kernel
theorem dX6_layNeighbours_98 : decode cX6_layNeighbours 98 = .ok (.iload 4, 2) := by decide +kernel
theorem dX6_layNeighbours_100 : decode cX6_layNeighbours 100 = .ok (.imul, 1) := by decide +kernel
theorem dX6_layNeighbours_101 : decode cX6_layNeighbours 101 = .ok (.iload 5, 2) := by decide +kernel
theorem dX6_layNeighbours_103 : decode cX6_layNeighbours 103 = .ok (.iadd, 1) := by decide +kernel
theorem dX6_layNeighbours_104 : decode cX6_layNeighbours 104 = .ok (.istore_n 3, 1) := by decide +kernel
theorem dX6_layNeighbours_105 : decode cX6_layNeighbours 105 = .ok (.iinc 5 1, 3) := by decide +kernel
theorem dX6_layNeighbours_108 : decode cX6_layNeighbours 108 = .ok (.goto (-88), 3) := by decide +kernel
theorem dX6_layNeighbours_111 : decode cX6_layNeighbours 111 = .ok (.iinc 4 1, 3) := by decide +kernel
theorem dX6_layNeighbours_114 : decode cX6_layNeighbours 114 = .ok (.goto (-108), 3) := by decide +kernel
theorem dX6_layNeighbours_117 : decode cX6_layNeighbours 117 = .ok (.iload_n 3, 1) := by decide +kernel
theorem dX6_layNeighbours_118 : decode cX6_layNeighbours 118 = .ok (.ifCond .lt 38, 3) := by decide +kernel
theorem dX6_layNeighbours_121 : decode cX6_layNeighbours 121 = .ok (.aload_n 0, 1) := by decide +kernel
theorem dX6_layNeighbours_122 : decode cX6_layNeighbours 122 = .ok (.iload_n 3, 1) := by decide +kernel
theorem dX6_layNeighbours_123 : decode cX6_layNeighbours 123 = .ok (.bipush 8, 2) := by decide +kernel
theorem dX6_layNeighbours_125 : decode cX6_layNeighbours 125 = .ok (.idiv, 1) := by decide +kernel
theorem dX6_layNeighbours_126 : decode cX6_layNeighbours 126 = .ok (.iload_n 3, 1) := by decide +kernel
theorem dX6_layNeighbours_127 : decode cX6_layNeighbours 127 = .ok (.bipush 8, 2) := by decide +kernel
theorem dX6_layNeighbours_129 : decode cX6_layNeighbours 129 = .ok (.irem, 1) := by decide +kernel
theorem dX6_layNeighbours_130 : decode cX6_layNeighbours 130 = .ok (.invokevirtual 68, 3) := by decide +kernel
theorem dX6_layNeighbours_133 : decode cX6_layNeighbours 133 = .ok (.aload_n 0, 1) := by decide +kernel
theorem dX6_layNeighbours_134 : decode cX6_layNeighbours 134 = .ok (.getfield 7, 3) := by decide +kernel
theorem dX6_layNeighbours_137 : decode cX6_layNeighbours 137 = .ok (.bipush 33, 2) := by decide +kernel
theorem dX6_layNeighbours_139 : decode cX6_layNeighbours 139 = .ok (.iaload, 1) := by decide +kernel
theorem dX6_layNeighbours_140 : decode cX6_layNeighbours 140 = .ok (.if_icmp .gt 16, 3) := by decide +kernel
theorem dX6_layNeighbours_143 : decode cX6_layNeighbours 143 = .ok (.aload_n 0, 1) := by decide +kernel
theorem dX6_layNeighbours_144 : decode cX6_layNeighbours 144 = .ok (.iload_n 3, 1) := by decide +kernel
theorem dX6_layNeighbours_145 : decode cX6_layNeighbours 145 = .ok (.bipush 8, 2) := by decide +kernel
theorem dX6_layNeighbours_147 : decode cX6_layNeighbours 147 = .ok (.idiv, 1) := by decide +kernel
theorem dX6_layNeighbours_148 : decode cX6_layNeighbours 148 = .ok (.iload_n 3, 1) := by decide +kernel
theorem dX6_layNeighbours_149 : decode cX6_layNeighbours 149 = .ok (.bipush 8, 2) := by decide +kernel
theorem dX6_layNeighbours_151 : decode cX6_layNeighbours 151 = .ok (.irem, 1) := by decide +kernel
theorem dX6_layNeighbours_152 : decode cX6_layNeighbours 152 = .ok (.iconst 1, 1) := by decide +kernel
theorem dX6_layNeighbours_153 : decode cX6_layNeighbours 153 = .ok (.invokevirtual 87, 3) := by decide +kernel
theorem dX6_layNeighbours_156 : decode cX6_layNeighbours 156 = .ok (.return_, 1) := by decide +kernel
theorem dX6_layTries_0 : decode cX6_layTries 0 = .ok (.aload_n 0, 1) := by decide +kernel
theorem dX6_layTries_1 : decode cX6_layTries 1 = .ok (.iconst 0, 1) := by decide +kernel
theorem dX6_layTries_2 : decode cX6_layTries 2 = .ok (.putfield 72, 3) := by decide +kernel
theorem dX6_layTries_5 : decode cX6_layTries 5 = .ok (.iconst 0, 1) := by decide +kernel
theorem dX6_layTries_6 : decode cX6_layTries 6 = .ok (.istore_n 1, 1) := by decide +kernel
theorem dX6_layTries_7 : decode cX6_layTries 7 = .ok (.iload_n 1, 1) := by decide +kernel
theorem dX6_layTries_8 : decode cX6_layTries 8 = .ok (.bipush 8, 2) := by decide +kernel
theorem dX6_layTries_10 : decode cX6_layTries 10 = .ok (.if_icmp .ge 16, 3) := by decide +kernel
theorem dX6_layTries_13 : decode cX6_layTries 13 = .ok (.aload_n 0, 1) := by decide +kernel
theorem dX6_layTries_14 : decode cX6_layTries 14 = .ok (.getfield 32, 3) := by decide +kernel
theorem dX6_layTries_17 : decode cX6_layTries 17 = .ok (.iload_n 1, 1) := by decide +kernel
theorem dX6_layTries_18 : decode cX6_layTries 18 = .ok (.iload_n 1, 1) := by decide +kernel
theorem dX6_layTries_19 : decode cX6_layTries 19 = .ok (.iastore, 1) := by decide +kernel
theorem dX6_layTries_20 : decode cX6_layTries 20 = .ok (.iinc 1 1, 3) := by decide +kernel
theorem dX6_layTries_23 : decode cX6_layTries 23 = .ok (.goto (-16), 3) := by decide +kernel
theorem dX6_layTries_26 : decode cX6_layTries 26 = .ok (.iconst 0, 1) := by decide +kernel
theorem dX6_layTries_27 : decode cX6_layTries 27 = .ok (.istore_n 1, 1) := by decide +kernel
theorem dX6_layTries_28 : decode cX6_layTries 28 = .ok (.iload_n 1, 1) := by decide +kernel
theorem dX6_layTries_29 : decode cX6_layTries 29 = .ok (.bipush 64, 2) := by decide +kernel
theorem dX6_layTries_31 : decode cX6_layTries 31 = .ok (.if_icmp .ge 16, 3) := by decide +kernel
theorem dX6_layTries_34 : decode cX6_layTries 34 = .ok (.aload_n 0, 1) := by decide +kernel
theorem dX6_layTries_35 : decode cX6_layTries 35 = .ok (.getfield 35, 3) := by decide +kernel
theorem dX6_layTries_38 : decode cX6_layTries 38 = .ok (.iload_n 1, 1) := by decide +kernel
theorem dX6_layTries_39 : decode cX6_layTries 39 = .ok (.iconst 0, 1) := by decide +kernel
theorem dX6_layTries_40 : decode cX6_layTries 40 = .ok (.bastore, 1) := by decide +kernel
theorem dX6_layTries_41 : decode cX6_layTries 41 = .ok (.iinc 1 1, 3) := by decide +kernel
theorem dX6_layTries_44 : decode cX6_layTries 44 = .ok (.goto (-16), 3) := by decide +kernel
theorem dX6_layTries_47 : decode cX6_layTries 47 = .ok (.iconst 0, 1) := by decide +kernel
theorem dX6_layTries_48 : decode cX6_layTries 48 = .ok (.istore_n 1, 1) := by decide +kernel
theorem dX6_layTries_49 : decode cX6_layTries 49 = .ok (.iload_n 1, 1) := by decide +kernel
theorem dX6_layTries_50 : decode cX6_layTries 50 = .ok (.iconst 4, 1) := by decide +kernel
theorem dX6_layTries_51 : decode cX6_layTries 51 = .ok (.if_icmp .ge 14, 3) := by decide +kernel
theorem dX6_layTries_54 : decode cX6_layTries 54 = .ok (.aload_n 0, 1) := by decide +kernel
theorem dX6_layTries_55 : decode cX6_layTries 55 = .ok (.iload_n 1, 1) := by decide +kernel
theorem dX6_layTries_56 : decode cX6_layTries 56 = .ok (.invokevirtual 91, 3) := by decide +kernel
theorem dX6_layTries_59 : decode cX6_layTries 59 = .ok (.iinc 1 1, 3) := by decide +kernel
theorem dX6_layTries_62 : decode cX6_layTries 62 = .ok (.goto (-13), 3) := by decide +kernel
theorem dX6_layTries_65 : decode cX6_layTries 65 = .ok (.iconst 0, 1) := by decide +kernel
theorem dX6_layTries_66 : decode cX6_layTries 66 = .ok (.istore_n 1, 1) := by decide +kernel
theorem dX6_layTries_67 : decode cX6_layTries 67 = .ok (.iload_n 1, 1) := by decide +kernel
theorem dX6_layTries_68 : decode cX6_layTries 68 = .ok (.iconst 4, 1) := by decide +kernel
theorem dX6_layTries_69 : decode cX6_layTries 69 = .ok (.if_icmp .ge 30, 3) := by decide +kernel
theorem dX6_layTries_72 : decode cX6_layTries 72 = .ok (.iload_n 1, 1) := by decide +kernel
theorem dX6_layTries_73 : decode cX6_layTries 73 = .ok (.iconst 1, 1) := by decide +kernel
theorem dX6_layTries_74 : decode cX6_layTries 74 = .ok (.iadd, 1) := by decide +kernel
theorem dX6_layTries_75 : decode cX6_layTries 75 = .ok (.istore_n 2, 1) := by decide +kernel
theorem dX6_layTries_76 : decode cX6_layTries 76 = .ok (.iload_n 2, 1) := by decide +kernel
theorem dX6_layTries_77 : decode cX6_layTries 77 = .ok (.iconst 4, 1) := by decide +kernel
theorem dX6_layTries_78 : decode cX6_layTries 78 = .ok (.if_icmp .ge 15, 3) := by decide +kernel
theorem dX6_layTries_81 : decode cX6_layTries 81 = .ok (.aload_n 0, 1) := by decide +kernel
theorem dX6_layTries_82 : decode cX6_layTries 82 = .ok (.iload_n 1, 1) := by decide +kernel
theorem dX6_layTries_83 : decode cX6_layTries 83 = .ok (.iload_n 2, 1) := by decide +kernel
theorem dX6_layTries_84 : decode cX6_layTries 84 = .ok (.invokevirtual 95, 3) := by decide +kernel
theorem dX6_layTries_87 : decode cX6_layTries 87 = .ok (.iinc 2 1, 3) := by decide +kernel
theorem dX6_layTries_90 : decode cX6_layTries 90 = .ok (.goto (-14), 3) := by decide +kernel
theorem dX6_layTries_93 : decode cX6_layTries 93 = .ok (.iinc 1 1, 3) := by decide +kernel
theorem dX6_layTries_96 : decode cX6_layTries 96 = .ok (.goto (-29), 3) := by decide +kernel
theorem dX6_layTries_99 : decode cX6_layTries 99 = .ok (.return_, 1) := by decide +kernel
theorem dX6_isTry_0 : decode cX6_isTry 0 = .ok (.iload_n 1, 1) := by decide +kernel
theorem dX6_isTry_1 : decode cX6_isTry 1 = .ok (.iconst 0, 1) := by decide +kernel
theorem dX6_isTry_2 : decode cX6_isTry 2 = .ok (.aload_n 0, 1) := by decide +kernel
theorem dX6_isTry_3 : decode cX6_isTry 3 = .ok (.getfield 72, 3) := by decide +kernel
theorem dX6_isTry_6 : decode cX6_isTry 6 = .ok (.iconst 1, 1) := by decide +kernel
theorem dX6_isTry_7 : decode cX6_isTry 7 = .ok (.isub, 1) := by decide +kernel
theorem dX6_isTry_8 : decode cX6_isTry 8 = .ok (.invokestatic 53, 3) := by decide +kernel
theorem dX6_isTry_11 : decode cX6_isTry 11 = .ok (.ireturn, 1) := by decide +kernel
theorem dX6_pairOf_0 : decode cX6_pairOf 0 = .ok (.iload_n 0, 1) := by decide +kernel
theorem dX6_pairOf_1 : decode cX6_pairOf 1 = .ok (.iload_n 1, 1) := by decide +kernel
theorem dX6_pairOf_2 : decode cX6_pairOf 2 = .ok (.if_icmp .ge 7, 3) := by decide +kernel
theorem dX6_pairOf_5 : decode cX6_pairOf 5 = .ok (.iload_n 0, 1) := by decide +kernel
theorem dX6_pairOf_6 : decode cX6_pairOf 6 = .ok (.goto 4, 3) := by decide +kernel
theorem dX6_pairOf_9 : decode cX6_pairOf 9 = .ok (.iload_n 1, 1) := by decide +kernel
theorem dX6_pairOf_10 : decode cX6_pairOf 10 = .ok (.istore_n 2, 1) := by decide +kernel
theorem dX6_pairOf_11 : decode cX6_pairOf 11 = .ok (.iload_n 0, 1) := by decide +kernel
theorem dX6_pairOf_12 : decode cX6_pairOf 12 = .ok (.iload_n 1, 1) := by decide +kernel
theorem dX6_pairOf_13 : decode cX6_pairOf 13 = .ok (.if_icmp .ge 7, 3) := by decide +kernel
theorem dX6_pairOf_16 : decode cX6_pairOf 16 = .ok (.iload_n 1, 1) := by decide +kernel
theorem dX6_pairOf_17 : decode cX6_pairOf 17 = .ok (.goto 4, 3) := by decide +kernel
theorem dX6_pairOf_20 : decode cX6_pairOf 20 = .ok (.iload_n 0, 1) := by decide +kernel
theorem dX6_pairOf_21 : decode cX6_pairOf 21 = .ok (.istore_n 3, 1) := by decide +kernel
theorem dX6_pairOf_22 : decode cX6_pairOf 22 = .ok (.iload_n 2, 1) := by decide +kernel
theorem dX6_pairOf_23 : decode cX6_pairOf 23 = .ok (.ifCond .ne 9, 3) := by decide +kernel
theorem dX6_pairOf_26 : decode cX6_pairOf 26 = .ok (.iload_n 3, 1) := by decide +kernel
theorem dX6_pairOf_27 : decode cX6_pairOf 27 = .ok (.iconst 1, 1) := by decide +kernel
theorem dX6_pairOf_28 : decode cX6_pairOf 28 = .ok (.isub, 1) := by decide +kernel
theorem dX6_pairOf_29 : decode cX6_pairOf 29 = .ok (.goto 6, 3) := by decide +kernel
theorem dX6_pairOf_32 : decode cX6_pairOf 32 = .ok (.iload_n 2, 1) := by decide +kernel
theorem dX6_pairOf_33 : decode cX6_pairOf 33 = .ok (.iload_n 3, 1) := by decide +kernel
theorem dX6_pairOf_34 : decode cX6_pairOf 34 = .ok (.iadd, 1) := by decide +kernel
theorem dX6_pairOf_35 : decode cX6_pairOf 35 = .ok (.ireturn, 1) := by decide +kernel
theorem dX6_layOnes_0 : decode cX6_layOnes 0 = .ok (.iconst 0, 1) := by decide +kernel
theorem dX6_layOnes_1 : decode cX6_layOnes 1 = .ok (.istore_n 1, 1) := by decide +kernel
theorem dX6_layOnes_2 : decode cX6_layOnes 2 = .ok (.iload_n 1, 1) := by decide +kernel
theorem dX6_layOnes_3 : decode cX6_layOnes 3 = .ok (.bipush 16, 2) := by decide +kernel
theorem dX6_layOnes_5 : decode cX6_layOnes 5 = .ok (.if_icmp .ge 50, 3) := by decide +kernel
theorem dX6_layOnes_8 : decode cX6_layOnes 8 = .ok (.aload_n 0, 1) := by decide +kernel
theorem dX6_layOnes_9 : decode cX6_layOnes 9 = .ok (.getfield 38, 3) := by decide +kernel
theorem dX6_layOnes_12 : decode cX6_layOnes 12 = .ok (.iload_n 1, 1) := by decide +kernel
theorem dX6_layOnes_13 : decode cX6_layOnes 13 = .ok (.iload_n 1, 1) := by decide +kernel
theorem dX6_layOnes_14 : decode cX6_layOnes 14 = .ok (.iconst 4, 1) := by decide +kernel
theorem dX6_layOnes_15 : decode cX6_layOnes 15 = .ok (.idiv, 1) := by decide +kernel
theorem dX6_layOnes_16 : decode cX6_layOnes 16 = .ok (.iload_n 1, 1) := by decide +kernel
theorem dX6_layOnes_17 : decode cX6_layOnes 17 = .ok (.iconst 4, 1) := by decide +kernel
theorem dX6_layOnes_18 : decode cX6_layOnes 18 = .ok (.irem, 1) := by decide +kernel
theorem dX6_layOnes_19 : decode cX6_layOnes 19 = .ok (.if_icmp .eq 24, 3) := by decide +kernel
theorem dX6_layOnes_22 : decode cX6_layOnes 22 = .ok (.aload_n 0, 1) := by decide +kernel
theorem dX6_layOnes_23 : decode cX6_layOnes 23 = .ok (.getfield 7, 3) := by decide +kernel
theorem dX6_layOnes_26 : decode cX6_layOnes 26 = .ok (.bipush 34, 2) := by decide +kernel
theorem dX6_layOnes_28 : decode cX6_layOnes 28 = .ok (.iload_n 1, 1) := by decide +kernel
theorem dX6_layOnes_29 : decode cX6_layOnes 29 = .ok (.iconst 4, 1) := by decide +kernel
theorem dX6_layOnes_30 : decode cX6_layOnes 30 = .ok (.idiv, 1) := by decide +kernel
theorem dX6_layOnes_31 : decode cX6_layOnes 31 = .ok (.iload_n 1, 1) := by decide +kernel
theorem dX6_layOnes_32 : decode cX6_layOnes 32 = .ok (.iconst 4, 1) := by decide +kernel
theorem dX6_layOnes_33 : decode cX6_layOnes 33 = .ok (.irem, 1) := by decide +kernel
theorem dX6_layOnes_34 : decode cX6_layOnes 34 = .ok (.invokestatic 98, 3) := by decide +kernel
theorem dX6_layOnes_37 : decode cX6_layOnes 37 = .ok (.iadd, 1) := by decide +kernel
theorem dX6_layOnes_38 : decode cX6_layOnes 38 = .ok (.iaload, 1) := by decide +kernel
theorem dX6_layOnes_39 : decode cX6_layOnes 39 = .ok (.iconst 1, 1) := by decide +kernel
theorem dX6_layOnes_40 : decode cX6_layOnes 40 = .ok (.if_icmp .ne 7, 3) := by decide +kernel
theorem dX6_layOnes_43 : decode cX6_layOnes 43 = .ok (.iconst 1, 1) := by decide +kernel
theorem dX6_layOnes_44 : decode cX6_layOnes 44 = .ok (.goto 4, 3) := by decide +kernel
theorem dX6_layOnes_47 : decode cX6_layOnes 47 = .ok (.iconst 0, 1) := by decide +kernel
theorem dX6_layOnes_48 : decode cX6_layOnes 48 = .ok (.bastore, 1) := by decide +kernel
theorem dX6_layOnes_49 : decode cX6_layOnes 49 = .ok (.iinc 1 1, 3) := by decide +kernel
theorem dX6_layOnes_52 : decode cX6_layOnes 52 = .ok (.goto (-50), 3) := by decide +kernel
theorem dX6_layOnes_55 : decode cX6_layOnes 55 = .ok (.iconst 0, 1) := by decide +kernel
theorem dX6_layOnes_56 : decode cX6_layOnes 56 = .ok (.istore_n 1, 1) := by decide +kernel
theorem dX6_layOnes_57 : decode cX6_layOnes 57 = .ok (.iload_n 1, 1) := by decide +kernel
theorem dX6_layOnes_58 : decode cX6_layOnes 58 = .ok (.iconst 4, 1) := by decide +kernel
theorem dX6_layOnes_59 : decode cX6_layOnes 59 = .ok (.if_icmp .ge 73, 3) := by decide +kernel
theorem dX6_layOnes_62 : decode cX6_layOnes 62 = .ok (.iconst 0, 1) := by decide +kernel
theorem dX6_layOnes_63 : decode cX6_layOnes 63 = .ok (.istore_n 2, 1) := by decide +kernel
theorem dX6_layOnes_64 : decode cX6_layOnes 64 = .ok (.iload_n 2, 1) := by decide +kernel
theorem dX6_layOnes_65 : decode cX6_layOnes 65 = .ok (.bipush 16, 2) := by decide +kernel
theorem dX6_layOnes_67 : decode cX6_layOnes 67 = .ok (.if_icmp .ge 59, 3) := by decide +kernel
theorem dX6_layOnes_70 : decode cX6_layOnes 70 = .ok (.aload_n 0, 1) := by decide +kernel
theorem dX6_layOnes_71 : decode cX6_layOnes 71 = .ok (.getfield 38, 3) := by decide +kernel
theorem dX6_layOnes_74 : decode cX6_layOnes 74 = .ok (.iload_n 2, 1) := by decide +kernel
theorem dX6_layOnes_75 : decode cX6_layOnes 75 = .ok (.aload_n 0, 1) := by decide +kernel
theorem dX6_layOnes_76 : decode cX6_layOnes 76 = .ok (.getfield 38, 3) := by decide +kernel
theorem dX6_layOnes_79 : decode cX6_layOnes 79 = .ok (.iload_n 2, 1) := by decide +kernel
theorem dX6_layOnes_80 : decode cX6_layOnes 80 = .ok (.baload, 1) := by decide +kernel
theorem dX6_layOnes_81 : decode cX6_layOnes 81 = .ok (.ifCond .ne 33, 3) := by decide +kernel
theorem dX6_layOnes_84 : decode cX6_layOnes 84 = .ok (.aload_n 0, 1) := by decide +kernel
theorem dX6_layOnes_85 : decode cX6_layOnes 85 = .ok (.getfield 38, 3) := by decide +kernel
theorem dX6_layOnes_88 : decode cX6_layOnes 88 = .ok (.iconst 4, 1) := by decide +kernel
theorem dX6_layOnes_89 : decode cX6_layOnes 89 = .ok (.iload_n 2, 1) := by decide +kernel
theorem dX6_layOnes_90 : decode cX6_layOnes 90 = .ok (.iconst 4, 1) := by decide +kernel
theorem dX6_layOnes_91 : decode cX6_layOnes 91 = .ok (.idiv, 1) := by decide +kernel
theorem dX6_layOnes_92 : decode cX6_layOnes 92 = .ok (.imul, 1) := by decide +kernel
theorem dX6_layOnes_93 : decode cX6_layOnes 93 = .ok (.iload_n 1, 1) := by decide +kernel
theorem dX6_layOnes_94 : decode cX6_layOnes 94 = .ok (.iadd, 1) := by decide +kernel
theorem dX6_layOnes_95 : decode cX6_layOnes 95 = .ok (.baload, 1) := by decide +kernel
theorem dX6_layOnes_96 : decode cX6_layOnes 96 = .ok (.ifCond .eq 22, 3) := by decide +kernel
theorem dX6_layOnes_99 : decode cX6_layOnes 99 = .ok (.aload_n 0, 1) := by decide +kernel
theorem dX6_layOnes_100 : decode cX6_layOnes 100 = .ok (.getfield 38, 3) := by decide +kernel
theorem dX6_layOnes_103 : decode cX6_layOnes 103 = .ok (.iconst 4, 1) := by decide +kernel
theorem dX6_layOnes_104 : decode cX6_layOnes 104 = .ok (.iload_n 1, 1) := by decide +kernel
theorem dX6_layOnes_105 : decode cX6_layOnes 105 = .ok (.imul, 1) := by decide +kernel
theorem dX6_layOnes_106 : decode cX6_layOnes 106 = .ok (.iload_n 2, 1) := by decide +kernel
theorem dX6_layOnes_107 : decode cX6_layOnes 107 = .ok (.iconst 4, 1) := by decide +kernel
theorem dX6_layOnes_108 : decode cX6_layOnes 108 = .ok (.irem, 1) := by decide +kernel
theorem dX6_layOnes_109 : decode cX6_layOnes 109 = .ok (.iadd, 1) := by decide +kernel
theorem dX6_layOnes_110 : decode cX6_layOnes 110 = .ok (.baload, 1) := by decide +kernel
theorem dX6_layOnes_111 : decode cX6_layOnes 111 = .ok (.ifCond .eq 7, 3) := by decide +kernel
theorem dX6_layOnes_114 : decode cX6_layOnes 114 = .ok (.iconst 1, 1) := by decide +kernel
theorem dX6_layOnes_115 : decode cX6_layOnes 115 = .ok (.goto 4, 3) := by decide +kernel
theorem dX6_layOnes_118 : decode cX6_layOnes 118 = .ok (.iconst 0, 1) := by decide +kernel
theorem dX6_layOnes_119 : decode cX6_layOnes 119 = .ok (.bastore, 1) := by decide +kernel
theorem dX6_layOnes_120 : decode cX6_layOnes 120 = .ok (.iinc 2 1, 3) := by decide +kernel
theorem dX6_layOnes_123 : decode cX6_layOnes 123 = .ok (.goto (-59), 3) := by decide +kernel
theorem dX6_layOnes_126 : decode cX6_layOnes 126 = .ok (.iinc 1 1, 3) := by decide +kernel
theorem dX6_layOnes_129 : decode cX6_layOnes 129 = .ok (.goto (-72), 3) := by decide +kernel
theorem dX6_layOnes_132 : decode cX6_layOnes 132 = .ok (.return_, 1) := by decide +kernel
theorem dX6_conducts_0 : decode cX6_conducts 0 = .ok (.aload_n 0, 1) := by decide +kernel
theorem dX6_conducts_1 : decode cX6_conducts 1 = .ok (.getfield 23, 3) := by decide +kernel
theorem dX6_conducts_4 : decode cX6_conducts 4 = .ok (.iload_n 1, 1) := by decide +kernel
theorem dX6_conducts_5 : decode cX6_conducts 5 = .ok (.iaload, 1) := by decide +kernel
theorem dX6_conducts_6 : decode cX6_conducts 6 = .ok (.istore_n 2, 1) := by decide +kernel
theorem dX6_conducts_7 : decode cX6_conducts 7 = .ok (.aload_n 0, 1) := by decide +kernel
theorem dX6_conducts_8 : decode cX6_conducts 8 = .ok (.getfield 26, 3) := by decide +kernel
theorem dX6_conducts_11 : decode cX6_conducts 11 = .ok (.iload_n 1, 1) := by decide +kernel
theorem dX6_conducts_12 : decode cX6_conducts 12 = .ok (.iaload, 1) := by decide +kernel
theorem dX6_conducts_13 : decode cX6_conducts 13 = .ok (.istore_n 3, 1) := by decide +kernel
theorem dX6_conducts_14 : decode cX6_conducts 14 = .ok (.aload_n 0, 1) := by decide +kernel
theorem dX6_conducts_15 : decode cX6_conducts 15 = .ok (.getfield 7, 3) := by decide +kernel
theorem dX6_conducts_18 : decode cX6_conducts 18 = .ok (.bipush 25, 2) := by decide +kernel
theorem dX6_conducts_20 : decode cX6_conducts 20 = .ok (.iload_n 2, 1) := by decide +kernel
theorem dX6_conducts_21 : decode cX6_conducts 21 = .ok (.iadd, 1) := by decide +kernel
theorem dX6_conducts_22 : decode cX6_conducts 22 = .ok (.iaload, 1) := by decide +kernel
theorem dX6_conducts_23 : decode cX6_conducts 23 = .ok (.ifCond .ne 46, 3) := by decide +kernel
theorem dX6_conducts_26 : decode cX6_conducts 26 = .ok (.aload_n 0, 1) := by decide +kernel
theorem dX6_conducts_27 : decode cX6_conducts 27 = .ok (.getfield 7, 3) := by decide +kernel
theorem dX6_conducts_30 : decode cX6_conducts 30 = .ok (.bipush 25, 2) := by decide +kernel
theorem dX6_conducts_32 : decode cX6_conducts 32 = .ok (.iload_n 3, 1) := by decide +kernel
theorem dX6_conducts_33 : decode cX6_conducts 33 = .ok (.iadd, 1) := by decide +kernel
theorem dX6_conducts_34 : decode cX6_conducts 34 = .ok (.iaload, 1) := by decide +kernel
theorem dX6_conducts_35 : decode cX6_conducts 35 = .ok (.ifCond .ne 34, 3) := by decide +kernel
theorem dX6_conducts_38 : decode cX6_conducts 38 = .ok (.aload_n 0, 1) := by decide +kernel
theorem dX6_conducts_39 : decode cX6_conducts 39 = .ok (.getfield 38, 3) := by decide +kernel
theorem dX6_conducts_42 : decode cX6_conducts 42 = .ok (.iconst 4, 1) := by decide +kernel
theorem dX6_conducts_43 : decode cX6_conducts 43 = .ok (.aload_n 0, 1) := by decide +kernel
theorem dX6_conducts_44 : decode cX6_conducts 44 = .ok (.getfield 7, 3) := by decide +kernel
theorem dX6_conducts_47 : decode cX6_conducts 47 = .ok (.iconst 1, 1) := by decide +kernel
theorem dX6_conducts_48 : decode cX6_conducts 48 = .ok (.iload_n 2, 1) := by decide +kernel
theorem dX6_conducts_49 : decode cX6_conducts 49 = .ok (.iadd, 1) := by decide +kernel
theorem dX6_conducts_50 : decode cX6_conducts 50 = .ok (.iaload, 1) := by decide +kernel
theorem dX6_conducts_51 : decode cX6_conducts 51 = .ok (.imul, 1) := by decide +kernel
theorem dX6_conducts_52 : decode cX6_conducts 52 = .ok (.aload_n 0, 1) := by decide +kernel
theorem dX6_conducts_53 : decode cX6_conducts 53 = .ok (.getfield 7, 3) := by decide +kernel
theorem dX6_conducts_56 : decode cX6_conducts 56 = .ok (.iconst 1, 1) := by decide +kernel
theorem dX6_conducts_57 : decode cX6_conducts 57 = .ok (.iload_n 3, 1) := by decide +kernel
theorem dX6_conducts_58 : decode cX6_conducts 58 = .ok (.iadd, 1) := by decide +kernel
theorem dX6_conducts_59 : decode cX6_conducts 59 = .ok (.iaload, 1) := by decide +kernel
theorem dX6_conducts_60 : decode cX6_conducts 60 = .ok (.iadd, 1) := by decide +kernel
theorem dX6_conducts_61 : decode cX6_conducts 61 = .ok (.baload, 1) := by decide +kernel
theorem dX6_conducts_62 : decode cX6_conducts 62 = .ok (.ifCond .eq 7, 3) := by decide +kernel
theorem dX6_conducts_65 : decode cX6_conducts 65 = .ok (.iconst 1, 1) := by decide +kernel
theorem dX6_conducts_66 : decode cX6_conducts 66 = .ok (.goto 4, 3) := by decide +kernel
theorem dX6_conducts_69 : decode cX6_conducts 69 = .ok (.iconst 0, 1) := by decide +kernel
theorem dX6_conducts_70 : decode cX6_conducts 70 = .ok (.ireturn, 1) := by decide +kernel
theorem dX6_seen_0 : decode cX6_seen 0 = .ok (.aload_n 0, 1) := by decide +kernel
theorem dX6_seen_1 : decode cX6_seen 1 = .ok (.invokevirtual 101, 3) := by decide +kernel
theorem dX6_seen_4 : decode cX6_seen 4 = .ok (.iconst 0, 1) := by decide +kernel
theorem dX6_seen_5 : decode cX6_seen 5 = .ok (.istore_n 1, 1) := by decide +kernel
theorem dX6_seen_6 : decode cX6_seen 6 = .ok (.iconst 0, 1) := by decide +kernel
theorem dX6_seen_7 : decode cX6_seen 7 = .ok (.istore_n 2, 1) := by decide +kernel
theorem dX6_seen_8 : decode cX6_seen 8 = .ok (.iload_n 2, 1) := by decide +kernel
theorem dX6_seen_9 : decode cX6_seen 9 = .ok (.aload_n 0, 1) := by decide +kernel
theorem dX6_seen_10 : decode cX6_seen 10 = .ok (.getfield 72, 3) := by decide +kernel
theorem dX6_seen_13 : decode cX6_seen 13 = .ok (.if_icmp .ge 33, 3) := by decide +kernel
theorem dX6_seen_16 : decode cX6_seen 16 = .ok (.iload_n 1, 1) := by decide +kernel
theorem dX6_seen_17 : decode cX6_seen 17 = .ok (.aload_n 0, 1) := by decide +kernel
theorem dX6_seen_18 : decode cX6_seen 18 = .ok (.iload_n 2, 1) := by decide +kernel
theorem dX6_seen_19 : decode cX6_seen 19 = .ok (.invokevirtual 104, 3) := by decide +kernel
theorem dX6_seen_22 : decode cX6_seen 22 = .ok (.aload_n 0, 1) := by decide +kernel
theorem dX6_seen_23 : decode cX6_seen 23 = .ok (.getfield 29, 3) := by decide +kernel
theorem dX6_seen_26 : decode cX6_seen 26 = .ok (.iload_n 2, 1) := by decide +kernel
theorem dX6_seen_27 : decode cX6_seen 27 = .ok (.baload, 1) := by decide +kernel
theorem dX6_seen_28 : decode cX6_seen 28 = .ok (.if_icmp .ne 9, 3) := by decide +kernel
theorem dX6_seen_31 : decode cX6_seen 31 = .ok (.iconst 1, 1) := by decide +kernel
theorem dX6_seen_32 : decode cX6_seen 32 = .ok (.iload_n 2, 1) := by decide +kernel
theorem dX6_seen_33 : decode cX6_seen 33 = .ok (.ishl, 1) := by decide +kernel
theorem dX6_seen_34 : decode cX6_seen 34 = .ok (.goto 4, 3) := by decide +kernel
theorem dX6_seen_37 : decode cX6_seen 37 = .ok (.iconst 0, 1) := by decide +kernel
theorem dX6_seen_38 : decode cX6_seen 38 = .ok (.ior, 1) := by decide +kernel
theorem dX6_seen_39 : decode cX6_seen 39 = .ok (.istore_n 1, 1) := by decide +kernel
theorem dX6_seen_40 : decode cX6_seen 40 = .ok (.iinc 2 1, 3) := by decide +kernel
theorem dX6_seen_43 : decode cX6_seen 43 = .ok (.goto (-35), 3) := by decide +kernel
theorem dX6_seen_46 : decode cX6_seen 46 = .ok (.iload_n 1, 1) := by decide +kernel
theorem dX6_seen_47 : decode cX6_seen 47 = .ok (.ireturn, 1) := by decide +kernel
theorem dX6_attempt_0 : decode cX6_attempt 0 = .ok (.aload_n 0, 1) := by decide +kernel
theorem dX6_attempt_1 : decode cX6_attempt 1 = .ok (.invokevirtual 107, 3) := by decide +kernel
theorem dX6_attempt_4 : decode cX6_attempt 4 = .ok (.aload_n 0, 1) := by decide +kernel
theorem dX6_attempt_5 : decode cX6_attempt 5 = .ok (.iload_n 1, 1) := by decide +kernel
theorem dX6_attempt_6 : decode cX6_attempt 6 = .ok (.invokevirtual 110, 3) := by decide +kernel
theorem dX6_attempt_9 : decode cX6_attempt 9 = .ok (.ifCond .ne 5, 3) := by decide +kernel
theorem dX6_attempt_12 : decode cX6_attempt 12 = .ok (.iconst (-1), 1) := by decide +kernel
theorem dX6_attempt_13 : decode cX6_attempt 13 = .ok (.ireturn, 1) := by decide +kernel
theorem dX6_attempt_14 : decode cX6_attempt 14 = .ok (.aload_n 0, 1) := by decide +kernel
theorem dX6_attempt_15 : decode cX6_attempt 15 = .ok (.invokevirtual 113, 3) := by decide +kernel
theorem dX6_attempt_18 : decode cX6_attempt 18 = .ok (.istore_n 3, 1) := by decide +kernel
theorem dX6_attempt_19 : decode cX6_attempt 19 = .ok (.iload_n 2, 1) := by decide +kernel
theorem dX6_attempt_20 : decode cX6_attempt 20 = .ok (.tableswitch 85 0 4 #[36, 43, 50, 65, 79], 36) := by decide +kernel
theorem dX6_attempt_56 : decode cX6_attempt 56 = .ok (.aload_n 0, 1) := by decide +kernel
theorem dX6_attempt_57 : decode cX6_attempt 57 = .ok (.getfield 23, 3) := by decide +kernel
theorem dX6_attempt_60 : decode cX6_attempt 60 = .ok (.iload_n 1, 1) := by decide +kernel
theorem dX6_attempt_61 : decode cX6_attempt 61 = .ok (.iaload, 1) := by decide +kernel
theorem dX6_attempt_62 : decode cX6_attempt 62 = .ok (.ireturn, 1) := by decide +kernel
theorem dX6_attempt_63 : decode cX6_attempt 63 = .ok (.aload_n 0, 1) := by decide +kernel
theorem dX6_attempt_64 : decode cX6_attempt 64 = .ok (.getfield 26, 3) := by decide +kernel
theorem dX6_attempt_67 : decode cX6_attempt 67 = .ok (.iload_n 1, 1) := by decide +kernel
theorem dX6_attempt_68 : decode cX6_attempt 68 = .ok (.iaload, 1) := by decide +kernel
theorem dX6_attempt_69 : decode cX6_attempt 69 = .ok (.ireturn, 1) := by decide +kernel
theorem dX6_attempt_70 : decode cX6_attempt 70 = .ok (.aload_n 0, 1) := by decide +kernel
theorem dX6_attempt_71 : decode cX6_attempt 71 = .ok (.getfield 29, 3) := by decide +kernel
theorem dX6_attempt_74 : decode cX6_attempt 74 = .ok (.iload_n 1, 1) := by decide +kernel
theorem dX6_attempt_75 : decode cX6_attempt 75 = .ok (.baload, 1) := by decide +kernel
theorem dX6_attempt_76 : decode cX6_attempt 76 = .ok (.ifCond .eq 7, 3) := by decide +kernel
theorem dX6_attempt_79 : decode cX6_attempt 79 = .ok (.iconst 1, 1) := by decide +kernel
theorem dX6_attempt_80 : decode cX6_attempt 80 = .ok (.goto 4, 3) := by decide +kernel
theorem dX6_attempt_83 : decode cX6_attempt 83 = .ok (.iconst 0, 1) := by decide +kernel
theorem dX6_attempt_84 : decode cX6_attempt 84 = .ok (.ireturn, 1) := by decide +kernel
theorem dX6_attempt_85 : decode cX6_attempt 85 = .ok (.aload_n 0, 1) := by decide +kernel
theorem dX6_attempt_86 : decode cX6_attempt 86 = .ok (.iload_n 1, 1) := by decide +kernel
theorem dX6_attempt_87 : decode cX6_attempt 87 = .ok (.invokevirtual 104, 3) := by decide +kernel
theorem dX6_attempt_90 : decode cX6_attempt 90 = .ok (.ifCond .eq 7, 3) := by decide +kernel
theorem dX6_attempt_93 : decode cX6_attempt 93 = .ok (.iconst 1, 1) := by decide +kernel
theorem dX6_attempt_94 : decode cX6_attempt 94 = .ok (.goto 4, 3) := by decide +kernel
theorem dX6_attempt_97 : decode cX6_attempt 97 = .ok (.iconst 0, 1) := by decide +kernel
theorem dX6_attempt_98 : decode cX6_attempt 98 = .ok (.ireturn, 1) := by decide +kernel
theorem dX6_attempt_99 : decode cX6_attempt 99 = .ok (.iload_n 3, 1) := by decide +kernel
theorem dX6_attempt_100 : decode cX6_attempt 100 = .ok (.iload_n 1, 1) := by decide +kernel
theorem dX6_attempt_101 : decode cX6_attempt 101 = .ok (.ishr, 1) := by decide +kernel
theorem dX6_attempt_102 : decode cX6_attempt 102 = .ok (.iconst 1, 1) := by decide +kernel
theorem dX6_attempt_103 : decode cX6_attempt 103 = .ok (.iand, 1) := by decide +kernel
theorem dX6_attempt_104 : decode cX6_attempt 104 = .ok (.ireturn, 1) := by decide +kernel
theorem dX6_attempt_105 : decode cX6_attempt 105 = .ok (.bipush (-2), 2) := by decide +kernel
theorem dX6_attempt_107 : decode cX6_attempt 107 = .ok (.ireturn, 1) := by decide +kernel
theorem dX6_size_0 : decode cX6_size 0 = .ok (.iload_n 0, 1) := by decide +kernel
theorem dX6_size_1 : decode cX6_size 1 = .ok (.ifCond .ge 8, 3) := by decide +kernel
theorem dX6_size_4 : decode cX6_size 4 = .ok (.iload_n 0, 1) := by decide +kernel
theorem dX6_size_5 : decode cX6_size 5 = .ok (.ineg, 1) := by decide +kernel
theorem dX6_size_6 : decode cX6_size 6 = .ok (.goto 4, 3) := by decide +kernel
theorem dX6_size_9 : decode cX6_size 9 = .ok (.iload_n 0, 1) := by decide +kernel
theorem dX6_size_10 : decode cX6_size 10 = .ok (.ireturn, 1) := by decide +kernel
theorem dX6_greater_0 : decode cX6_greater 0 = .ok (.iload_n 0, 1) := by decide +kernel
theorem dX6_greater_1 : decode cX6_greater 1 = .ok (.iload_n 1, 1) := by decide +kernel
theorem dX6_greater_2 : decode cX6_greater 2 = .ok (.if_icmp .le 7, 3) := by decide +kernel
theorem dX6_greater_5 : decode cX6_greater 5 = .ok (.iload_n 0, 1) := by decide +kernel
theorem dX6_greater_6 : decode cX6_greater 6 = .ok (.goto 4, 3) := by decide +kernel
theorem dX6_greater_9 : decode cX6_greater 9 = .ok (.iload_n 1, 1) := by decide +kernel
theorem dX6_greater_10 : decode cX6_greater 10 = .ok (.ireturn, 1) := by decide +kernel
theorem dX6_timeOf_0 : decode cX6_timeOf 0 = .ok (.iload_n 1, 1) := by decide +kernel
theorem dX6_timeOf_1 : decode cX6_timeOf 1 = .ok (.ifCond .ge 7, 3) := by decide +kernel
theorem dX6_timeOf_4 : decode cX6_timeOf 4 = .ok (.iconst 0, 1) := by decide +kernel
theorem dX6_timeOf_5 : decode cX6_timeOf 5 = .ok (.goto 17, 3) := by decide +kernel
theorem dX6_timeOf_8 : decode cX6_timeOf 8 = .ok (.aload_n 0, 1) := by decide +kernel
theorem dX6_timeOf_9 : decode cX6_timeOf 9 = .ok (.getfield 7, 3) := by decide +kernel
theorem dX6_timeOf_12 : decode cX6_timeOf 12 = .ok (.bipush 9, 2) := by decide +kernel
theorem dX6_timeOf_14 : decode cX6_timeOf 14 = .ok (.aload_n 0, 1) := by decide +kernel
theorem dX6_timeOf_15 : decode cX6_timeOf 15 = .ok (.getfield 23, 3) := by decide +kernel
theorem dX6_timeOf_18 : decode cX6_timeOf 18 = .ok (.iload_n 1, 1) := by decide +kernel
theorem dX6_timeOf_19 : decode cX6_timeOf 19 = .ok (.iaload, 1) := by decide +kernel
theorem dX6_timeOf_20 : decode cX6_timeOf 20 = .ok (.iadd, 1) := by decide +kernel
theorem dX6_timeOf_21 : decode cX6_timeOf 21 = .ok (.iaload, 1) := by decide +kernel
theorem dX6_timeOf_22 : decode cX6_timeOf 22 = .ok (.istore_n 3, 1) := by decide +kernel
theorem dX6_timeOf_23 : decode cX6_timeOf 23 = .ok (.iload_n 1, 1) := by decide +kernel
theorem dX6_timeOf_24 : decode cX6_timeOf 24 = .ok (.ifCond .ge 7, 3) := by decide +kernel
theorem dX6_timeOf_27 : decode cX6_timeOf 27 = .ok (.iconst 0, 1) := by decide +kernel
theorem dX6_timeOf_28 : decode cX6_timeOf 28 = .ok (.goto 17, 3) := by decide +kernel
theorem dX6_timeOf_31 : decode cX6_timeOf 31 = .ok (.aload_n 0, 1) := by decide +kernel
theorem dX6_timeOf_32 : decode cX6_timeOf 32 = .ok (.getfield 7, 3) := by decide +kernel
theorem dX6_timeOf_35 : decode cX6_timeOf 35 = .ok (.bipush 17, 2) := by decide +kernel
theorem dX6_timeOf_37 : decode cX6_timeOf 37 = .ok (.aload_n 0, 1) := by decide +kernel
theorem dX6_timeOf_38 : decode cX6_timeOf 38 = .ok (.getfield 23, 3) := by decide +kernel
theorem dX6_timeOf_41 : decode cX6_timeOf 41 = .ok (.iload_n 1, 1) := by decide +kernel
theorem dX6_timeOf_42 : decode cX6_timeOf 42 = .ok (.iaload, 1) := by decide +kernel
theorem dX6_timeOf_43 : decode cX6_timeOf 43 = .ok (.iadd, 1) := by decide +kernel
theorem dX6_timeOf_44 : decode cX6_timeOf 44 = .ok (.iaload, 1) := by decide +kernel
theorem dX6_timeOf_45 : decode cX6_timeOf 45 = .ok (.istore 4, 2) := by decide +kernel
theorem dX6_timeOf_47 : decode cX6_timeOf 47 = .ok (.iload_n 1, 1) := by decide +kernel
theorem dX6_timeOf_48 : decode cX6_timeOf 48 = .ok (.ifCond .ge 8, 3) := by decide +kernel
theorem dX6_timeOf_51 : decode cX6_timeOf 51 = .ok (.bipush 20, 2) := by decide +kernel
theorem dX6_timeOf_53 : decode cX6_timeOf 53 = .ok (.goto 17, 3) := by decide +kernel
theorem dX6_timeOf_56 : decode cX6_timeOf 56 = .ok (.aload_n 0, 1) := by decide +kernel
theorem dX6_timeOf_57 : decode cX6_timeOf 57 = .ok (.getfield 7, 3) := by decide +kernel
theorem dX6_timeOf_60 : decode cX6_timeOf 60 = .ok (.bipush 9, 2) := by decide +kernel
theorem dX6_timeOf_62 : decode cX6_timeOf 62 = .ok (.aload_n 0, 1) := by decide +kernel
theorem dX6_timeOf_63 : decode cX6_timeOf 63 = .ok (.getfield 26, 3) := by decide +kernel
theorem dX6_timeOf_66 : decode cX6_timeOf 66 = .ok (.iload_n 1, 1) := by decide +kernel
theorem dX6_timeOf_67 : decode cX6_timeOf 67 = .ok (.iaload, 1) := by decide +kernel
theorem dX6_timeOf_68 : decode cX6_timeOf 68 = .ok (.iadd, 1) := by decide +kernel
theorem dX6_timeOf_69 : decode cX6_timeOf 69 = .ok (.iaload, 1) := by decide +kernel
theorem dX6_timeOf_70 : decode cX6_timeOf 70 = .ok (.istore 5, 2) := by decide +kernel
theorem dX6_timeOf_72 : decode cX6_timeOf 72 = .ok (.iload_n 1, 1) := by decide +kernel
theorem dX6_timeOf_73 : decode cX6_timeOf 73 = .ok (.ifCond .ge 7, 3) := by decide +kernel
theorem dX6_timeOf_76 : decode cX6_timeOf 76 = .ok (.iconst 0, 1) := by decide +kernel
theorem dX6_timeOf_77 : decode cX6_timeOf 77 = .ok (.goto 17, 3) := by decide +kernel
theorem dX6_timeOf_80 : decode cX6_timeOf 80 = .ok (.aload_n 0, 1) := by decide +kernel
theorem dX6_timeOf_81 : decode cX6_timeOf 81 = .ok (.getfield 7, 3) := by decide +kernel
theorem dX6_timeOf_84 : decode cX6_timeOf 84 = .ok (.bipush 17, 2) := by decide +kernel
theorem dX6_timeOf_86 : decode cX6_timeOf 86 = .ok (.aload_n 0, 1) := by decide +kernel
theorem dX6_timeOf_87 : decode cX6_timeOf 87 = .ok (.getfield 26, 3) := by decide +kernel
theorem dX6_timeOf_90 : decode cX6_timeOf 90 = .ok (.iload_n 1, 1) := by decide +kernel
theorem dX6_timeOf_91 : decode cX6_timeOf 91 = .ok (.iaload, 1) := by decide +kernel
theorem dX6_timeOf_92 : decode cX6_timeOf 92 = .ok (.iadd, 1) := by decide +kernel
theorem dX6_timeOf_93 : decode cX6_timeOf 93 = .ok (.iaload, 1) := by decide +kernel
theorem dX6_timeOf_94 : decode cX6_timeOf 94 = .ok (.istore 6, 2) := by decide +kernel
theorem dX6_timeOf_96 : decode cX6_timeOf 96 = .ok (.aload_n 0, 1) := by decide +kernel
theorem dX6_timeOf_97 : decode cX6_timeOf 97 = .ok (.getfield 7, 3) := by decide +kernel
theorem dX6_timeOf_100 : decode cX6_timeOf 100 = .ok (.bipush 9, 2) := by decide +kernel
theorem dX6_timeOf_102 : decode cX6_timeOf 102 = .ok (.aload_n 0, 1) := by decide +kernel
theorem dX6_timeOf_103 : decode cX6_timeOf 103 = .ok (.getfield 23, 3) := by decide +kernel
theorem dX6_timeOf_106 : decode cX6_timeOf 106 = .ok (.iload_n 2, 1) := by decide +kernel
theorem dX6_timeOf_107 : decode cX6_timeOf 107 = .ok (.iaload, 1) := by decide +kernel
theorem dX6_timeOf_108 : decode cX6_timeOf 108 = .ok (.iadd, 1) := by decide +kernel
theorem dX6_timeOf_109 : decode cX6_timeOf 109 = .ok (.iaload, 1) := by decide +kernel
theorem dX6_timeOf_110 : decode cX6_timeOf 110 = .ok (.iload_n 3, 1) := by decide +kernel
theorem dX6_timeOf_111 : decode cX6_timeOf 111 = .ok (.isub, 1) := by decide +kernel
theorem dX6_timeOf_112 : decode cX6_timeOf 112 = .ok (.invokestatic 117, 3) := by decide +kernel
theorem dX6_timeOf_115 : decode cX6_timeOf 115 = .ok (.aload_n 0, 1) := by decide +kernel
theorem dX6_timeOf_116 : decode cX6_timeOf 116 = .ok (.getfield 7, 3) := by decide +kernel
theorem dX6_timeOf_119 : decode cX6_timeOf 119 = .ok (.bipush 17, 2) := by decide +kernel
theorem dX6_timeOf_121 : decode cX6_timeOf 121 = .ok (.aload_n 0, 1) := by decide +kernel
theorem dX6_timeOf_122 : decode cX6_timeOf 122 = .ok (.getfield 23, 3) := by decide +kernel
theorem dX6_timeOf_125 : decode cX6_timeOf 125 = .ok (.iload_n 2, 1) := by decide +kernel
theorem dX6_timeOf_126 : decode cX6_timeOf 126 = .ok (.iaload, 1) := by decide +kernel
theorem dX6_timeOf_127 : decode cX6_timeOf 127 = .ok (.iadd, 1) := by decide +kernel
theorem dX6_timeOf_128 : decode cX6_timeOf 128 = .ok (.iaload, 1) := by decide +kernel
theorem dX6_timeOf_129 : decode cX6_timeOf 129 = .ok (.iload 4, 2) := by decide +kernel
theorem dX6_timeOf_131 : decode cX6_timeOf 131 = .ok (.isub, 1) := by decide +kernel
theorem dX6_timeOf_132 : decode cX6_timeOf 132 = .ok (.invokestatic 117, 3) := by decide +kernel
theorem dX6_timeOf_135 : decode cX6_timeOf 135 = .ok (.invokestatic 120, 3) := by decide +kernel
theorem dX6_timeOf_138 : decode cX6_timeOf 138 = .ok (.istore 7, 2) := by decide +kernel
theorem dX6_timeOf_140 : decode cX6_timeOf 140 = .ok (.aload_n 0, 1) := by decide +kernel
theorem dX6_timeOf_141 : decode cX6_timeOf 141 = .ok (.getfield 7, 3) := by decide +kernel
theorem dX6_timeOf_144 : decode cX6_timeOf 144 = .ok (.bipush 9, 2) := by decide +kernel
theorem dX6_timeOf_146 : decode cX6_timeOf 146 = .ok (.aload_n 0, 1) := by decide +kernel
theorem dX6_timeOf_147 : decode cX6_timeOf 147 = .ok (.getfield 26, 3) := by decide +kernel
theorem dX6_timeOf_150 : decode cX6_timeOf 150 = .ok (.iload_n 2, 1) := by decide +kernel
theorem dX6_timeOf_151 : decode cX6_timeOf 151 = .ok (.iaload, 1) := by decide +kernel
theorem dX6_timeOf_152 : decode cX6_timeOf 152 = .ok (.iadd, 1) := by decide +kernel
theorem dX6_timeOf_153 : decode cX6_timeOf 153 = .ok (.iaload, 1) := by decide +kernel
theorem dX6_timeOf_154 : decode cX6_timeOf 154 = .ok (.iload 5, 2) := by decide +kernel
theorem dX6_timeOf_156 : decode cX6_timeOf 156 = .ok (.isub, 1) := by decide +kernel
theorem dX6_timeOf_157 : decode cX6_timeOf 157 = .ok (.invokestatic 117, 3) := by decide +kernel
theorem dX6_timeOf_160 : decode cX6_timeOf 160 = .ok (.aload_n 0, 1) := by decide +kernel
theorem dX6_timeOf_161 : decode cX6_timeOf 161 = .ok (.getfield 7, 3) := by decide +kernel
theorem dX6_timeOf_164 : decode cX6_timeOf 164 = .ok (.bipush 17, 2) := by decide +kernel
theorem dX6_timeOf_166 : decode cX6_timeOf 166 = .ok (.aload_n 0, 1) := by decide +kernel
theorem dX6_timeOf_167 : decode cX6_timeOf 167 = .ok (.getfield 26, 3) := by decide +kernel
theorem dX6_timeOf_170 : decode cX6_timeOf 170 = .ok (.iload_n 2, 1) := by decide +kernel
theorem dX6_timeOf_171 : decode cX6_timeOf 171 = .ok (.iaload, 1) := by decide +kernel
theorem dX6_timeOf_172 : decode cX6_timeOf 172 = .ok (.iadd, 1) := by decide +kernel
theorem dX6_timeOf_173 : decode cX6_timeOf 173 = .ok (.iaload, 1) := by decide +kernel
theorem dX6_timeOf_174 : decode cX6_timeOf 174 = .ok (.iload 6, 2) := by decide +kernel
theorem dX6_timeOf_176 : decode cX6_timeOf 176 = .ok (.isub, 1) := by decide +kernel
theorem dX6_timeOf_177 : decode cX6_timeOf 177 = .ok (.invokestatic 117, 3) := by decide +kernel
theorem dX6_timeOf_180 : decode cX6_timeOf 180 = .ok (.invokestatic 120, 3) := by decide +kernel
theorem dX6_timeOf_183 : decode cX6_timeOf 183 = .ok (.istore 8, 2) := by decide +kernel
theorem dX6_timeOf_185 : decode cX6_timeOf 185 = .ok (.iload 7, 2) := by decide +kernel
theorem dX6_timeOf_187 : decode cX6_timeOf 187 = .ok (.iload 8, 2) := by decide +kernel
theorem dX6_timeOf_189 : decode cX6_timeOf 189 = .ok (.invokestatic 120, 3) := by decide +kernel
theorem dX6_timeOf_192 : decode cX6_timeOf 192 = .ok (.ireturn, 1) := by decide +kernel
theorem dX6_time_0 : decode cX6_time 0 = .ok (.aload_n 0, 1) := by decide +kernel
theorem dX6_time_1 : decode cX6_time 1 = .ok (.invokevirtual 107, 3) := by decide +kernel
theorem dX6_time_4 : decode cX6_time 4 = .ok (.iload_n 1, 1) := by decide +kernel
theorem dX6_time_5 : decode cX6_time 5 = .ok (.iconst (-1), 1) := by decide +kernel
theorem dX6_time_6 : decode cX6_time 6 = .ok (.if_icmp .eq 11, 3) := by decide +kernel
theorem dX6_time_9 : decode cX6_time 9 = .ok (.aload_n 0, 1) := by decide +kernel
theorem dX6_time_10 : decode cX6_time 10 = .ok (.iload_n 1, 1) := by decide +kernel
theorem dX6_time_11 : decode cX6_time 11 = .ok (.invokevirtual 110, 3) := by decide +kernel
theorem dX6_time_14 : decode cX6_time 14 = .ok (.ifCond .eq 11, 3) := by decide +kernel
theorem dX6_time_17 : decode cX6_time 17 = .ok (.aload_n 0, 1) := by decide +kernel
theorem dX6_time_18 : decode cX6_time 18 = .ok (.iload_n 2, 1) := by decide +kernel
theorem dX6_time_19 : decode cX6_time 19 = .ok (.invokevirtual 110, 3) := by decide +kernel
theorem dX6_time_22 : decode cX6_time 22 = .ok (.ifCond .ne 5, 3) := by decide +kernel
theorem dX6_time_25 : decode cX6_time 25 = .ok (.iconst (-1), 1) := by decide +kernel
theorem dX6_time_26 : decode cX6_time 26 = .ok (.ireturn, 1) := by decide +kernel
theorem dX6_time_27 : decode cX6_time 27 = .ok (.aload_n 0, 1) := by decide +kernel
theorem dX6_time_28 : decode cX6_time 28 = .ok (.iload_n 1, 1) := by decide +kernel
theorem dX6_time_29 : decode cX6_time 29 = .ok (.iload_n 2, 1) := by decide +kernel
theorem dX6_time_30 : decode cX6_time 30 = .ok (.invokevirtual 123, 3) := by decide +kernel
theorem dX6_time_33 : decode cX6_time 33 = .ok (.ireturn, 1) := by decide +kernel
theorem dX6_say_0 : decode cX6_say 0 = .ok (.iload_n 1, 1) := by decide +kernel
theorem dX6_say_1 : decode cX6_say 1 = .ok (.bipush 33, 2) := by decide +kernel
theorem dX6_say_3 : decode cX6_say 3 = .ok (.bipush 126, 2) := by decide +kernel
theorem dX6_say_5 : decode cX6_say 5 = .ok (.invokestatic 53, 3) := by decide +kernel
theorem dX6_say_8 : decode cX6_say 8 = .ok (.ifCond .ne 6, 3) := by decide +kernel
theorem dX6_say_11 : decode cX6_say 11 = .ok (.bipush (-2), 2) := by decide +kernel
theorem dX6_say_13 : decode cX6_say 13 = .ok (.ireturn, 1) := by decide +kernel
theorem dX6_say_14 : decode cX6_say 14 = .ok (.aload_n 0, 1) := by decide +kernel
theorem dX6_say_15 : decode cX6_say 15 = .ok (.getfield 126, 3) := by decide +kernel
theorem dX6_say_18 : decode cX6_say 18 = .ok (.bipush 24, 2) := by decide +kernel
theorem dX6_say_20 : decode cX6_say 20 = .ok (.if_icmp .ne 6, 3) := by decide +kernel
theorem dX6_say_23 : decode cX6_say 23 = .ok (.bipush (-4), 2) := by decide +kernel
theorem dX6_say_25 : decode cX6_say 25 = .ok (.ireturn, 1) := by decide +kernel
theorem dX6_say_26 : decode cX6_say 26 = .ok (.aload_n 0, 1) := by decide +kernel
theorem dX6_say_27 : decode cX6_say 27 = .ok (.getfield 20, 3) := by decide +kernel
theorem dX6_say_30 : decode cX6_say 30 = .ok (.aload_n 0, 1) := by decide +kernel
theorem dX6_say_31 : decode cX6_say 31 = .ok (.getfield 126, 3) := by decide +kernel
theorem dX6_say_34 : decode cX6_say 34 = .ok (.iload_n 1, 1) := by decide +kernel
theorem dX6_say_35 : decode cX6_say 35 = .ok (.iastore, 1) := by decide +kernel
theorem dX6_say_36 : decode cX6_say 36 = .ok (.aload_n 0, 1) := by decide +kernel
theorem dX6_say_37 : decode cX6_say 37 = .ok (.dup, 1) := by decide +kernel
theorem dX6_say_38 : decode cX6_say 38 = .ok (.getfield 126, 3) := by decide +kernel
theorem dX6_say_41 : decode cX6_say 41 = .ok (.iconst 1, 1) := by decide +kernel
theorem dX6_say_42 : decode cX6_say 42 = .ok (.iadd, 1) := by decide +kernel
theorem dX6_say_43 : decode cX6_say 43 = .ok (.putfield 126, 3) := by decide +kernel
theorem dX6_say_46 : decode cX6_say 46 = .ok (.aload_n 0, 1) := by decide +kernel
theorem dX6_say_47 : decode cX6_say 47 = .ok (.getfield 126, 3) := by decide +kernel
theorem dX6_say_50 : decode cX6_say 50 = .ok (.ireturn, 1) := by decide +kernel
theorem dX6_wipe_0 : decode cX6_wipe 0 = .ok (.aload_n 0, 1) := by decide +kernel
theorem dX6_wipe_1 : decode cX6_wipe 1 = .ok (.getfield 126, 3) := by decide +kernel
theorem dX6_wipe_4 : decode cX6_wipe 4 = .ok (.istore_n 1, 1) := by decide +kernel
theorem dX6_wipe_5 : decode cX6_wipe 5 = .ok (.aload_n 0, 1) := by decide +kernel
theorem dX6_wipe_6 : decode cX6_wipe 6 = .ok (.iconst 0, 1) := by decide +kernel
theorem dX6_wipe_7 : decode cX6_wipe 7 = .ok (.putfield 126, 3) := by decide +kernel
theorem dX6_wipe_10 : decode cX6_wipe 10 = .ok (.iload_n 1, 1) := by decide +kernel
theorem dX6_wipe_11 : decode cX6_wipe 11 = .ok (.ireturn, 1) := by decide +kernel
theorem dX6_timeOfOrder_0 : decode cX6_timeOfOrder 0 = .ok (.iconst 0, 1) := by decide +kernel
theorem dX6_timeOfOrder_1 : decode cX6_timeOfOrder 1 = .ok (.istore_n 1, 1) := by decide +kernel
theorem dX6_timeOfOrder_2 : decode cX6_timeOfOrder 2 = .ok (.iconst 0, 1) := by decide +kernel
theorem dX6_timeOfOrder_3 : decode cX6_timeOfOrder 3 = .ok (.istore_n 2, 1) := by decide +kernel
theorem dX6_timeOfOrder_4 : decode cX6_timeOfOrder 4 = .ok (.iload_n 2, 1) := by decide +kernel
theorem dX6_timeOfOrder_5 : decode cX6_timeOfOrder 5 = .ok (.aload_n 0, 1) := by decide +kernel
theorem dX6_timeOfOrder_6 : decode cX6_timeOfOrder 6 = .ok (.getfield 72, 3) := by decide +kernel
theorem dX6_timeOfOrder_9 : decode cX6_timeOfOrder 9 = .ok (.if_icmp .ge 38, 3) := by decide +kernel
theorem dX6_timeOfOrder_12 : decode cX6_timeOfOrder 12 = .ok (.iload_n 1, 1) := by decide +kernel
theorem dX6_timeOfOrder_13 : decode cX6_timeOfOrder 13 = .ok (.aload_n 0, 1) := by decide +kernel
theorem dX6_timeOfOrder_14 : decode cX6_timeOfOrder 14 = .ok (.iload_n 2, 1) := by decide +kernel
theorem dX6_timeOfOrder_15 : decode cX6_timeOfOrder 15 = .ok (.ifCond .ne 7, 3) := by decide +kernel
theorem dX6_timeOfOrder_18 : decode cX6_timeOfOrder 18 = .ok (.iconst (-1), 1) := by decide +kernel
theorem dX6_timeOfOrder_19 : decode cX6_timeOfOrder 19 = .ok (.goto 11, 3) := by decide +kernel
theorem dX6_timeOfOrder_22 : decode cX6_timeOfOrder 22 = .ok (.aload_n 0, 1) := by decide +kernel
theorem dX6_timeOfOrder_23 : decode cX6_timeOfOrder 23 = .ok (.getfield 41, 3) := by decide +kernel
theorem dX6_timeOfOrder_26 : decode cX6_timeOfOrder 26 = .ok (.iload_n 2, 1) := by decide +kernel
theorem dX6_timeOfOrder_27 : decode cX6_timeOfOrder 27 = .ok (.iconst 1, 1) := by decide +kernel
theorem dX6_timeOfOrder_28 : decode cX6_timeOfOrder 28 = .ok (.isub, 1) := by decide +kernel
theorem dX6_timeOfOrder_29 : decode cX6_timeOfOrder 29 = .ok (.iaload, 1) := by decide +kernel
theorem dX6_timeOfOrder_30 : decode cX6_timeOfOrder 30 = .ok (.aload_n 0, 1) := by decide +kernel
theorem dX6_timeOfOrder_31 : decode cX6_timeOfOrder 31 = .ok (.getfield 41, 3) := by decide +kernel
theorem dX6_timeOfOrder_34 : decode cX6_timeOfOrder 34 = .ok (.iload_n 2, 1) := by decide +kernel
theorem dX6_timeOfOrder_35 : decode cX6_timeOfOrder 35 = .ok (.iaload, 1) := by decide +kernel
theorem dX6_timeOfOrder_36 : decode cX6_timeOfOrder 36 = .ok (.invokevirtual 123, 3) := by decide +kernel
theorem dX6_timeOfOrder_39 : decode cX6_timeOfOrder 39 = .ok (.iadd, 1) := by decide +kernel
theorem dX6_timeOfOrder_40 : decode cX6_timeOfOrder 40 = .ok (.istore_n 1, 1) := by decide +kernel
theorem dX6_timeOfOrder_41 : decode cX6_timeOfOrder 41 = .ok (.iinc 2 1, 3) := by decide +kernel
theorem dX6_timeOfOrder_44 : decode cX6_timeOfOrder 44 = .ok (.goto (-40), 3) := by decide +kernel
theorem dX6_timeOfOrder_47 : decode cX6_timeOfOrder 47 = .ok (.iload_n 1, 1) := by decide +kernel
theorem dX6_timeOfOrder_48 : decode cX6_timeOfOrder 48 = .ok (.ireturn, 1) := by decide +kernel
theorem dX6_told_0 : decode cX6_told 0 = .ok (.aload_n 0, 1) := by decide +kernel
theorem dX6_told_1 : decode cX6_told 1 = .ok (.invokevirtual 107, 3) := by decide +kernel
theorem dX6_told_4 : decode cX6_told 4 = .ok (.aload_n 0, 1) := by decide +kernel
theorem dX6_told_5 : decode cX6_told 5 = .ok (.getfield 126, 3) := by decide +kernel
theorem dX6_told_8 : decode cX6_told 8 = .ok (.aload_n 0, 1) := by decide +kernel
theorem dX6_told_9 : decode cX6_told 9 = .ok (.getfield 72, 3) := by decide +kernel
theorem dX6_told_12 : decode cX6_told 12 = .ok (.if_icmp .eq 6, 3) := by decide +kernel
theorem dX6_told_15 : decode cX6_told 15 = .ok (.bipush (-7), 2) := by decide +kernel
end
section
theorem dX6_told_17 : decode cX6_told 17 = .ok (.ireturn, 1) := by decide +kernel
theorem dX6_told_18 : decode cX6_told 18 = .ok (.iconst 0, 1) := by decide +kernel
theorem dX6_told_19 : decode cX6_told 19 = .ok (.istore_n 1, 1) := by decide +kernel
theorem dX6_told_20 : decode cX6_told 20 = .ok (.iconst 0, 1) := by decide +kernel
theorem dX6_told_21 : decode cX6_told 21 = .ok (.istore_n 2, 1) := by decide +kernel
theorem dX6_told_22 : decode cX6_told 22 = .ok (.iload_n 2, 1) := by decide +kernel
theorem dX6_told_23 : decode cX6_told 23 = .ok (.aload_n 0, 1) := by decide +kernel
theorem dX6_told_24 : decode cX6_told 24 = .ok (.getfield 126, 3) := by decide +kernel
theorem dX6_told_27 : decode cX6_told 27 = .ok (.if_icmp .ge 65, 3) := by decide +kernel
theorem dX6_told_30 : decode cX6_told 30 = .ok (.aload_n 0, 1) := by decide +kernel
theorem dX6_told_31 : decode cX6_told 31 = .ok (.getfield 41, 3) := by decide +kernel
theorem dX6_told_34 : decode cX6_told 34 = .ok (.iload_n 2, 1) := by decide +kernel
theorem dX6_told_35 : decode cX6_told 35 = .ok (.aload_n 0, 1) := by decide +kernel
theorem dX6_told_36 : decode cX6_told 36 = .ok (.getfield 20, 3) := by decide +kernel
theorem dX6_told_39 : decode cX6_told 39 = .ok (.iload_n 2, 1) := by decide +kernel
theorem dX6_told_40 : decode cX6_told 40 = .ok (.iaload, 1) := by decide +kernel
theorem dX6_told_41 : decode cX6_told 41 = .ok (.bipush 97, 2) := by decide +kernel
theorem dX6_told_43 : decode cX6_told 43 = .ok (.isub, 1) := by decide +kernel
theorem dX6_told_44 : decode cX6_told 44 = .ok (.iastore, 1) := by decide +kernel
theorem dX6_told_45 : decode cX6_told 45 = .ok (.aload_n 0, 1) := by decide +kernel
theorem dX6_told_46 : decode cX6_told 46 = .ok (.aload_n 0, 1) := by decide +kernel
theorem dX6_told_47 : decode cX6_told 47 = .ok (.getfield 41, 3) := by decide +kernel
theorem dX6_told_50 : decode cX6_told 50 = .ok (.iload_n 2, 1) := by decide +kernel
theorem dX6_told_51 : decode cX6_told 51 = .ok (.iaload, 1) := by decide +kernel
theorem dX6_told_52 : decode cX6_told 52 = .ok (.invokevirtual 110, 3) := by decide +kernel
theorem dX6_told_55 : decode cX6_told 55 = .ok (.ifCond .eq 17, 3) := by decide +kernel
theorem dX6_told_58 : decode cX6_told 58 = .ok (.iload_n 1, 1) := by decide +kernel
theorem dX6_told_59 : decode cX6_told 59 = .ok (.aload_n 0, 1) := by decide +kernel
theorem dX6_told_60 : decode cX6_told 60 = .ok (.getfield 41, 3) := by decide +kernel
theorem dX6_told_63 : decode cX6_told 63 = .ok (.iload_n 2, 1) := by decide +kernel
theorem dX6_told_64 : decode cX6_told 64 = .ok (.iaload, 1) := by decide +kernel
theorem dX6_told_65 : decode cX6_told 65 = .ok (.ishr, 1) := by decide +kernel
theorem dX6_told_66 : decode cX6_told 66 = .ok (.iconst 1, 1) := by decide +kernel
theorem dX6_told_67 : decode cX6_told 67 = .ok (.iand, 1) := by decide +kernel
theorem dX6_told_68 : decode cX6_told 68 = .ok (.iconst 1, 1) := by decide +kernel
theorem dX6_told_69 : decode cX6_told 69 = .ok (.if_icmp .ne 6, 3) := by decide +kernel
theorem dX6_told_72 : decode cX6_told 72 = .ok (.bipush (-7), 2) := by decide +kernel
theorem dX6_told_74 : decode cX6_told 74 = .ok (.ireturn, 1) := by decide +kernel
theorem dX6_told_75 : decode cX6_told 75 = .ok (.iload_n 1, 1) := by decide +kernel
theorem dX6_told_76 : decode cX6_told 76 = .ok (.iconst 1, 1) := by decide +kernel
theorem dX6_told_77 : decode cX6_told 77 = .ok (.aload_n 0, 1) := by decide +kernel
theorem dX6_told_78 : decode cX6_told 78 = .ok (.getfield 41, 3) := by decide +kernel
theorem dX6_told_81 : decode cX6_told 81 = .ok (.iload_n 2, 1) := by decide +kernel
theorem dX6_told_82 : decode cX6_told 82 = .ok (.iaload, 1) := by decide +kernel
theorem dX6_told_83 : decode cX6_told 83 = .ok (.ishl, 1) := by decide +kernel
theorem dX6_told_84 : decode cX6_told 84 = .ok (.ior, 1) := by decide +kernel
theorem dX6_told_85 : decode cX6_told 85 = .ok (.istore_n 1, 1) := by decide +kernel
theorem dX6_told_86 : decode cX6_told 86 = .ok (.iinc 2 1, 3) := by decide +kernel
theorem dX6_told_89 : decode cX6_told 89 = .ok (.goto (-67), 3) := by decide +kernel
theorem dX6_told_92 : decode cX6_told 92 = .ok (.aload_n 0, 1) := by decide +kernel
theorem dX6_told_93 : decode cX6_told 93 = .ok (.invokevirtual 129, 3) := by decide +kernel
theorem dX6_told_96 : decode cX6_told 96 = .ok (.ireturn, 1) := by decide +kernel
theorem dX6_restFrom_0 : decode cX6_restFrom 0 = .ok (.bipush (-6), 2) := by decide +kernel
theorem dX6_restFrom_2 : decode cX6_restFrom 2 = .ok (.istore_n 3, 1) := by decide +kernel
theorem dX6_restFrom_3 : decode cX6_restFrom 3 = .ok (.iconst 0, 1) := by decide +kernel
theorem dX6_restFrom_4 : decode cX6_restFrom 4 = .ok (.istore 4, 2) := by decide +kernel
theorem dX6_restFrom_6 : decode cX6_restFrom 6 = .ok (.iload 4, 2) := by decide +kernel
theorem dX6_restFrom_8 : decode cX6_restFrom 8 = .ok (.aload_n 0, 1) := by decide +kernel
theorem dX6_restFrom_9 : decode cX6_restFrom 9 = .ok (.getfield 72, 3) := by decide +kernel
theorem dX6_restFrom_12 : decode cX6_restFrom 12 = .ok (.if_icmp .ge 72, 3) := by decide +kernel
theorem dX6_restFrom_15 : decode cX6_restFrom 15 = .ok (.iload_n 1, 1) := by decide +kernel
theorem dX6_restFrom_16 : decode cX6_restFrom 16 = .ok (.iload 4, 2) := by decide +kernel
theorem dX6_restFrom_18 : decode cX6_restFrom 18 = .ok (.ishr, 1) := by decide +kernel
theorem dX6_restFrom_19 : decode cX6_restFrom 19 = .ok (.iconst 1, 1) := by decide +kernel
theorem dX6_restFrom_20 : decode cX6_restFrom 20 = .ok (.iand, 1) := by decide +kernel
theorem dX6_restFrom_21 : decode cX6_restFrom 21 = .ok (.ifCond .ne 57, 3) := by decide +kernel
theorem dX6_restFrom_24 : decode cX6_restFrom 24 = .ok (.aload_n 0, 1) := by decide +kernel
theorem dX6_restFrom_25 : decode cX6_restFrom 25 = .ok (.iload_n 2, 1) := by decide +kernel
theorem dX6_restFrom_26 : decode cX6_restFrom 26 = .ok (.bipush 10, 2) := by decide +kernel
theorem dX6_restFrom_28 : decode cX6_restFrom 28 = .ok (.if_icmp .ne 7, 3) := by decide +kernel
theorem dX6_restFrom_31 : decode cX6_restFrom 31 = .ok (.iconst (-1), 1) := by decide +kernel
theorem dX6_restFrom_32 : decode cX6_restFrom 32 = .ok (.goto 4, 3) := by decide +kernel
theorem dX6_restFrom_35 : decode cX6_restFrom 35 = .ok (.iload_n 2, 1) := by decide +kernel
theorem dX6_restFrom_36 : decode cX6_restFrom 36 = .ok (.iload 4, 2) := by decide +kernel
theorem dX6_restFrom_38 : decode cX6_restFrom 38 = .ok (.invokevirtual 123, 3) := by decide +kernel
theorem dX6_restFrom_41 : decode cX6_restFrom 41 = .ok (.aload_n 0, 1) := by decide +kernel
theorem dX6_restFrom_42 : decode cX6_restFrom 42 = .ok (.getfield 44, 3) := by decide +kernel
theorem dX6_restFrom_45 : decode cX6_restFrom 45 = .ok (.bipush 11, 2) := by decide +kernel
theorem dX6_restFrom_47 : decode cX6_restFrom 47 = .ok (.iload_n 1, 1) := by decide +kernel
theorem dX6_restFrom_48 : decode cX6_restFrom 48 = .ok (.iconst 1, 1) := by decide +kernel
theorem dX6_restFrom_49 : decode cX6_restFrom 49 = .ok (.iload 4, 2) := by decide +kernel
theorem dX6_restFrom_51 : decode cX6_restFrom 51 = .ok (.ishl, 1) := by decide +kernel
theorem dX6_restFrom_52 : decode cX6_restFrom 52 = .ok (.ior, 1) := by decide +kernel
theorem dX6_restFrom_53 : decode cX6_restFrom 53 = .ok (.imul, 1) := by decide +kernel
theorem dX6_restFrom_54 : decode cX6_restFrom 54 = .ok (.iload 4, 2) := by decide +kernel
theorem dX6_restFrom_56 : decode cX6_restFrom 56 = .ok (.iadd, 1) := by decide +kernel
theorem dX6_restFrom_57 : decode cX6_restFrom 57 = .ok (.iaload, 1) := by decide +kernel
theorem dX6_restFrom_58 : decode cX6_restFrom 58 = .ok (.iadd, 1) := by decide +kernel
theorem dX6_restFrom_59 : decode cX6_restFrom 59 = .ok (.istore 5, 2) := by decide +kernel
theorem dX6_restFrom_61 : decode cX6_restFrom 61 = .ok (.iload_n 3, 1) := by decide +kernel
theorem dX6_restFrom_62 : decode cX6_restFrom 62 = .ok (.ifCond .lt 9, 3) := by decide +kernel
theorem dX6_restFrom_65 : decode cX6_restFrom 65 = .ok (.iload 5, 2) := by decide +kernel
theorem dX6_restFrom_67 : decode cX6_restFrom 67 = .ok (.iload_n 3, 1) := by decide +kernel
theorem dX6_restFrom_68 : decode cX6_restFrom 68 = .ok (.if_icmp .ge 8, 3) := by decide +kernel
theorem dX6_restFrom_71 : decode cX6_restFrom 71 = .ok (.iload 5, 2) := by decide +kernel
theorem dX6_restFrom_73 : decode cX6_restFrom 73 = .ok (.goto 4, 3) := by decide +kernel
theorem dX6_restFrom_76 : decode cX6_restFrom 76 = .ok (.iload_n 3, 1) := by decide +kernel
theorem dX6_restFrom_77 : decode cX6_restFrom 77 = .ok (.istore_n 3, 1) := by decide +kernel
theorem dX6_restFrom_78 : decode cX6_restFrom 78 = .ok (.iinc 4 1, 3) := by decide +kernel
theorem dX6_restFrom_81 : decode cX6_restFrom 81 = .ok (.goto (-75), 3) := by decide +kernel
theorem dX6_restFrom_84 : decode cX6_restFrom 84 = .ok (.iload_n 3, 1) := by decide +kernel
theorem dX6_restFrom_85 : decode cX6_restFrom 85 = .ok (.ifCond .ge 7, 3) := by decide +kernel
theorem dX6_restFrom_88 : decode cX6_restFrom 88 = .ok (.iconst 0, 1) := by decide +kernel
theorem dX6_restFrom_89 : decode cX6_restFrom 89 = .ok (.goto 4, 3) := by decide +kernel
theorem dX6_restFrom_92 : decode cX6_restFrom 92 = .ok (.iload_n 3, 1) := by decide +kernel
theorem dX6_restFrom_93 : decode cX6_restFrom 93 = .ok (.ireturn, 1) := by decide +kernel
theorem dX6_layRest_0 : decode cX6_layRest 0 = .ok (.iconst 1, 1) := by decide +kernel
theorem dX6_layRest_1 : decode cX6_layRest 1 = .ok (.aload_n 0, 1) := by decide +kernel
theorem dX6_layRest_2 : decode cX6_layRest 2 = .ok (.getfield 72, 3) := by decide +kernel
theorem dX6_layRest_5 : decode cX6_layRest 5 = .ok (.ishl, 1) := by decide +kernel
theorem dX6_layRest_6 : decode cX6_layRest 6 = .ok (.iconst 1, 1) := by decide +kernel
theorem dX6_layRest_7 : decode cX6_layRest 7 = .ok (.isub, 1) := by decide +kernel
theorem dX6_layRest_8 : decode cX6_layRest 8 = .ok (.istore_n 1, 1) := by decide +kernel
theorem dX6_layRest_9 : decode cX6_layRest 9 = .ok (.iload_n 1, 1) := by decide +kernel
theorem dX6_layRest_10 : decode cX6_layRest 10 = .ok (.ifCond .lt 77, 3) := by decide +kernel
theorem dX6_layRest_13 : decode cX6_layRest 13 = .ok (.iconst 0, 1) := by decide +kernel
theorem dX6_layRest_14 : decode cX6_layRest 14 = .ok (.istore_n 2, 1) := by decide +kernel
theorem dX6_layRest_15 : decode cX6_layRest 15 = .ok (.iload_n 2, 1) := by decide +kernel
theorem dX6_layRest_16 : decode cX6_layRest 16 = .ok (.bipush 11, 2) := by decide +kernel
theorem dX6_layRest_18 : decode cX6_layRest 18 = .ok (.if_icmp .ge 63, 3) := by decide +kernel
theorem dX6_layRest_21 : decode cX6_layRest 21 = .ok (.iload_n 2, 1) := by decide +kernel
theorem dX6_layRest_22 : decode cX6_layRest 22 = .ok (.bipush 10, 2) := by decide +kernel
theorem dX6_layRest_24 : decode cX6_layRest 24 = .ok (.if_icmp .ne 15, 3) := by decide +kernel
theorem dX6_layRest_27 : decode cX6_layRest 27 = .ok (.iload_n 1, 1) := by decide +kernel
theorem dX6_layRest_28 : decode cX6_layRest 28 = .ok (.ifCond .ne 7, 3) := by decide +kernel
theorem dX6_layRest_31 : decode cX6_layRest 31 = .ok (.iconst 1, 1) := by decide +kernel
theorem dX6_layRest_32 : decode cX6_layRest 32 = .ok (.goto 21, 3) := by decide +kernel
theorem dX6_layRest_35 : decode cX6_layRest 35 = .ok (.iconst 0, 1) := by decide +kernel
theorem dX6_layRest_36 : decode cX6_layRest 36 = .ok (.goto 17, 3) := by decide +kernel
theorem dX6_layRest_39 : decode cX6_layRest 39 = .ok (.iload_n 1, 1) := by decide +kernel
theorem dX6_layRest_40 : decode cX6_layRest 40 = .ok (.iload_n 2, 1) := by decide +kernel
theorem dX6_layRest_41 : decode cX6_layRest 41 = .ok (.ishr, 1) := by decide +kernel
theorem dX6_layRest_42 : decode cX6_layRest 42 = .ok (.iconst 1, 1) := by decide +kernel
theorem dX6_layRest_43 : decode cX6_layRest 43 = .ok (.iand, 1) := by decide +kernel
theorem dX6_layRest_44 : decode cX6_layRest 44 = .ok (.iconst 1, 1) := by decide +kernel
theorem dX6_layRest_45 : decode cX6_layRest 45 = .ok (.if_icmp .ne 7, 3) := by decide +kernel
theorem dX6_layRest_48 : decode cX6_layRest 48 = .ok (.iconst 1, 1) := by decide +kernel
theorem dX6_layRest_49 : decode cX6_layRest 49 = .ok (.goto 4, 3) := by decide +kernel
theorem dX6_layRest_52 : decode cX6_layRest 52 = .ok (.iconst 0, 1) := by decide +kernel
theorem dX6_layRest_53 : decode cX6_layRest 53 = .ok (.istore_n 3, 1) := by decide +kernel
theorem dX6_layRest_54 : decode cX6_layRest 54 = .ok (.iload_n 3, 1) := by decide +kernel
theorem dX6_layRest_55 : decode cX6_layRest 55 = .ok (.ifCond .eq 20, 3) := by decide +kernel
theorem dX6_layRest_58 : decode cX6_layRest 58 = .ok (.aload_n 0, 1) := by decide +kernel
theorem dX6_layRest_59 : decode cX6_layRest 59 = .ok (.getfield 44, 3) := by decide +kernel
theorem dX6_layRest_62 : decode cX6_layRest 62 = .ok (.bipush 11, 2) := by decide +kernel
theorem dX6_layRest_64 : decode cX6_layRest 64 = .ok (.iload_n 1, 1) := by decide +kernel
theorem dX6_layRest_65 : decode cX6_layRest 65 = .ok (.imul, 1) := by decide +kernel
theorem dX6_layRest_66 : decode cX6_layRest 66 = .ok (.iload_n 2, 1) := by decide +kernel
theorem dX6_layRest_67 : decode cX6_layRest 67 = .ok (.iadd, 1) := by decide +kernel
theorem dX6_layRest_68 : decode cX6_layRest 68 = .ok (.aload_n 0, 1) := by decide +kernel
theorem dX6_layRest_69 : decode cX6_layRest 69 = .ok (.iload_n 1, 1) := by decide +kernel
theorem dX6_layRest_70 : decode cX6_layRest 70 = .ok (.iload_n 2, 1) := by decide +kernel
theorem dX6_layRest_71 : decode cX6_layRest 71 = .ok (.invokevirtual 132, 3) := by decide +kernel
theorem dX6_layRest_74 : decode cX6_layRest 74 = .ok (.iastore, 1) := by decide +kernel
theorem dX6_layRest_75 : decode cX6_layRest 75 = .ok (.iinc 2 1, 3) := by decide +kernel
theorem dX6_layRest_78 : decode cX6_layRest 78 = .ok (.goto (-63), 3) := by decide +kernel
theorem dX6_layRest_81 : decode cX6_layRest 81 = .ok (.iinc 1 (-1), 3) := by decide +kernel
theorem dX6_layRest_84 : decode cX6_layRest 84 = .ok (.goto (-75), 3) := by decide +kernel
theorem dX6_layRest_87 : decode cX6_layRest 87 = .ok (.return_, 1) := by decide +kernel
theorem dX6_layBest_0 : decode cX6_layBest 0 = .ok (.aload_n 0, 1) := by decide +kernel
theorem dX6_layBest_1 : decode cX6_layBest 1 = .ok (.invokevirtual 135, 3) := by decide +kernel
theorem dX6_layBest_4 : decode cX6_layBest 4 = .ok (.iconst 0, 1) := by decide +kernel
theorem dX6_layBest_5 : decode cX6_layBest 5 = .ok (.istore_n 1, 1) := by decide +kernel
theorem dX6_layBest_6 : decode cX6_layBest 6 = .ok (.bipush 10, 2) := by decide +kernel
theorem dX6_layBest_8 : decode cX6_layBest 8 = .ok (.istore_n 2, 1) := by decide +kernel
theorem dX6_layBest_9 : decode cX6_layBest 9 = .ok (.iconst 0, 1) := by decide +kernel
theorem dX6_layBest_10 : decode cX6_layBest 10 = .ok (.istore_n 3, 1) := by decide +kernel
theorem dX6_layBest_11 : decode cX6_layBest 11 = .ok (.iload_n 3, 1) := by decide +kernel
theorem dX6_layBest_12 : decode cX6_layBest 12 = .ok (.aload_n 0, 1) := by decide +kernel
theorem dX6_layBest_13 : decode cX6_layBest 13 = .ok (.getfield 72, 3) := by decide +kernel
theorem dX6_layBest_16 : decode cX6_layBest 16 = .ok (.if_icmp .ge 129, 3) := by decide +kernel
theorem dX6_layBest_19 : decode cX6_layBest 19 = .ok (.bipush (-6), 2) := by decide +kernel
theorem dX6_layBest_21 : decode cX6_layBest 21 = .ok (.istore 4, 2) := by decide +kernel
theorem dX6_layBest_23 : decode cX6_layBest 23 = .ok (.aload_n 0, 1) := by decide +kernel
theorem dX6_layBest_24 : decode cX6_layBest 24 = .ok (.getfield 72, 3) := by decide +kernel
theorem dX6_layBest_27 : decode cX6_layBest 27 = .ok (.iconst 1, 1) := by decide +kernel
theorem dX6_layBest_28 : decode cX6_layBest 28 = .ok (.isub, 1) := by decide +kernel
theorem dX6_layBest_29 : decode cX6_layBest 29 = .ok (.istore 5, 2) := by decide +kernel
theorem dX6_layBest_31 : decode cX6_layBest 31 = .ok (.iload 5, 2) := by decide +kernel
theorem dX6_layBest_33 : decode cX6_layBest 33 = .ok (.ifCond .lt 88, 3) := by decide +kernel
theorem dX6_layBest_36 : decode cX6_layBest 36 = .ok (.iload_n 1, 1) := by decide +kernel
theorem dX6_layBest_37 : decode cX6_layBest 37 = .ok (.iload 5, 2) := by decide +kernel
theorem dX6_layBest_39 : decode cX6_layBest 39 = .ok (.ishr, 1) := by decide +kernel
theorem dX6_layBest_40 : decode cX6_layBest 40 = .ok (.iconst 1, 1) := by decide +kernel
theorem dX6_layBest_41 : decode cX6_layBest 41 = .ok (.iand, 1) := by decide +kernel
theorem dX6_layBest_42 : decode cX6_layBest 42 = .ok (.ifCond .ne 56, 3) := by decide +kernel
theorem dX6_layBest_45 : decode cX6_layBest 45 = .ok (.aload_n 0, 1) := by decide +kernel
theorem dX6_layBest_46 : decode cX6_layBest 46 = .ok (.iload_n 2, 1) := by decide +kernel
theorem dX6_layBest_47 : decode cX6_layBest 47 = .ok (.bipush 10, 2) := by decide +kernel
theorem dX6_layBest_49 : decode cX6_layBest 49 = .ok (.if_icmp .ne 7, 3) := by decide +kernel
theorem dX6_layBest_52 : decode cX6_layBest 52 = .ok (.iconst (-1), 1) := by decide +kernel
theorem dX6_layBest_53 : decode cX6_layBest 53 = .ok (.goto 4, 3) := by decide +kernel
theorem dX6_layBest_56 : decode cX6_layBest 56 = .ok (.iload_n 2, 1) := by decide +kernel
theorem dX6_layBest_57 : decode cX6_layBest 57 = .ok (.iload 5, 2) := by decide +kernel
theorem dX6_layBest_59 : decode cX6_layBest 59 = .ok (.invokevirtual 123, 3) := by decide +kernel
theorem dX6_layBest_62 : decode cX6_layBest 62 = .ok (.aload_n 0, 1) := by decide +kernel
theorem dX6_layBest_63 : decode cX6_layBest 63 = .ok (.getfield 44, 3) := by decide +kernel
theorem dX6_layBest_66 : decode cX6_layBest 66 = .ok (.bipush 11, 2) := by decide +kernel
theorem dX6_layBest_68 : decode cX6_layBest 68 = .ok (.iload_n 1, 1) := by decide +kernel
theorem dX6_layBest_69 : decode cX6_layBest 69 = .ok (.iconst 1, 1) := by decide +kernel
theorem dX6_layBest_70 : decode cX6_layBest 70 = .ok (.iload 5, 2) := by decide +kernel
theorem dX6_layBest_72 : decode cX6_layBest 72 = .ok (.ishl, 1) := by decide +kernel
theorem dX6_layBest_73 : decode cX6_layBest 73 = .ok (.ior, 1) := by decide +kernel
theorem dX6_layBest_74 : decode cX6_layBest 74 = .ok (.imul, 1) := by decide +kernel
theorem dX6_layBest_75 : decode cX6_layBest 75 = .ok (.iload 5, 2) := by decide +kernel
theorem dX6_layBest_77 : decode cX6_layBest 77 = .ok (.iadd, 1) := by decide +kernel
theorem dX6_layBest_78 : decode cX6_layBest 78 = .ok (.iaload, 1) := by decide +kernel
theorem dX6_layBest_79 : decode cX6_layBest 79 = .ok (.iadd, 1) := by decide +kernel
theorem dX6_layBest_80 : decode cX6_layBest 80 = .ok (.aload_n 0, 1) := by decide +kernel
theorem dX6_layBest_81 : decode cX6_layBest 81 = .ok (.getfield 44, 3) := by decide +kernel
theorem dX6_layBest_84 : decode cX6_layBest 84 = .ok (.bipush 11, 2) := by decide +kernel
theorem dX6_layBest_86 : decode cX6_layBest 86 = .ok (.iload_n 1, 1) := by decide +kernel
theorem dX6_layBest_87 : decode cX6_layBest 87 = .ok (.imul, 1) := by decide +kernel
theorem dX6_layBest_88 : decode cX6_layBest 88 = .ok (.iload_n 2, 1) := by decide +kernel
theorem dX6_layBest_89 : decode cX6_layBest 89 = .ok (.iadd, 1) := by decide +kernel
theorem dX6_layBest_90 : decode cX6_layBest 90 = .ok (.iaload, 1) := by decide +kernel
theorem dX6_layBest_91 : decode cX6_layBest 91 = .ok (.if_icmp .ne 7, 3) := by decide +kernel
theorem dX6_layBest_94 : decode cX6_layBest 94 = .ok (.iconst 1, 1) := by decide +kernel
theorem dX6_layBest_95 : decode cX6_layBest 95 = .ok (.goto 4, 3) := by decide +kernel
theorem dX6_layBest_98 : decode cX6_layBest 98 = .ok (.iconst 0, 1) := by decide +kernel
theorem dX6_layBest_99 : decode cX6_layBest 99 = .ok (.istore 6, 2) := by decide +kernel
theorem dX6_layBest_101 : decode cX6_layBest 101 = .ok (.iload 6, 2) := by decide +kernel
theorem dX6_layBest_103 : decode cX6_layBest 103 = .ok (.ifCond .eq 8, 3) := by decide +kernel
theorem dX6_layBest_106 : decode cX6_layBest 106 = .ok (.iload 5, 2) := by decide +kernel
theorem dX6_layBest_108 : decode cX6_layBest 108 = .ok (.goto 5, 3) := by decide +kernel
theorem dX6_layBest_111 : decode cX6_layBest 111 = .ok (.iload 4, 2) := by decide +kernel
theorem dX6_layBest_113 : decode cX6_layBest 113 = .ok (.istore 4, 2) := by decide +kernel
theorem dX6_layBest_115 : decode cX6_layBest 115 = .ok (.iinc 5 (-1), 3) := by decide +kernel
theorem dX6_layBest_118 : decode cX6_layBest 118 = .ok (.goto (-87), 3) := by decide +kernel
theorem dX6_layBest_121 : decode cX6_layBest 121 = .ok (.aload_n 0, 1) := by decide +kernel
theorem dX6_layBest_122 : decode cX6_layBest 122 = .ok (.getfield 41, 3) := by decide +kernel
theorem dX6_layBest_125 : decode cX6_layBest 125 = .ok (.iload_n 3, 1) := by decide +kernel
theorem dX6_layBest_126 : decode cX6_layBest 126 = .ok (.iload 4, 2) := by decide +kernel
theorem dX6_layBest_128 : decode cX6_layBest 128 = .ok (.iastore, 1) := by decide +kernel
theorem dX6_layBest_129 : decode cX6_layBest 129 = .ok (.iload_n 1, 1) := by decide +kernel
theorem dX6_layBest_130 : decode cX6_layBest 130 = .ok (.iconst 1, 1) := by decide +kernel
theorem dX6_layBest_131 : decode cX6_layBest 131 = .ok (.iload 4, 2) := by decide +kernel
theorem dX6_layBest_133 : decode cX6_layBest 133 = .ok (.ishl, 1) := by decide +kernel
theorem dX6_layBest_134 : decode cX6_layBest 134 = .ok (.ior, 1) := by decide +kernel
theorem dX6_layBest_135 : decode cX6_layBest 135 = .ok (.istore_n 1, 1) := by decide +kernel
theorem dX6_layBest_136 : decode cX6_layBest 136 = .ok (.iload 4, 2) := by decide +kernel
theorem dX6_layBest_138 : decode cX6_layBest 138 = .ok (.istore_n 2, 1) := by decide +kernel
theorem dX6_layBest_139 : decode cX6_layBest 139 = .ok (.iinc 3 1, 3) := by decide +kernel
theorem dX6_layBest_142 : decode cX6_layBest 142 = .ok (.goto (-131), 3) := by decide +kernel
theorem dX6_layBest_145 : decode cX6_layBest 145 = .ok (.return_, 1) := by decide +kernel
theorem dX6_orderAt_0 : decode cX6_orderAt 0 = .ok (.iload_n 1, 1) := by decide +kernel
theorem dX6_orderAt_1 : decode cX6_orderAt 1 = .ok (.iconst (-1), 1) := by decide +kernel
theorem dX6_orderAt_2 : decode cX6_orderAt 2 = .ok (.if_icmp .ne 10, 3) := by decide +kernel
theorem dX6_orderAt_5 : decode cX6_orderAt 5 = .ok (.aload_n 0, 1) := by decide +kernel
theorem dX6_orderAt_6 : decode cX6_orderAt 6 = .ok (.invokevirtual 129, 3) := by decide +kernel
theorem dX6_orderAt_9 : decode cX6_orderAt 9 = .ok (.goto 22, 3) := by decide +kernel
theorem dX6_orderAt_12 : decode cX6_orderAt 12 = .ok (.iload_n 1, 1) := by decide +kernel
theorem dX6_orderAt_13 : decode cX6_orderAt 13 = .ok (.aload_n 0, 1) := by decide +kernel
theorem dX6_orderAt_14 : decode cX6_orderAt 14 = .ok (.getfield 72, 3) := by decide +kernel
theorem dX6_orderAt_17 : decode cX6_orderAt 17 = .ok (.if_icmp .ge 12, 3) := by decide +kernel
theorem dX6_orderAt_20 : decode cX6_orderAt 20 = .ok (.aload_n 0, 1) := by decide +kernel
theorem dX6_orderAt_21 : decode cX6_orderAt 21 = .ok (.getfield 41, 3) := by decide +kernel
theorem dX6_orderAt_24 : decode cX6_orderAt 24 = .ok (.iload_n 1, 1) := by decide +kernel
theorem dX6_orderAt_25 : decode cX6_orderAt 25 = .ok (.iaload, 1) := by decide +kernel
theorem dX6_orderAt_26 : decode cX6_orderAt 26 = .ok (.goto 5, 3) := by decide +kernel
theorem dX6_orderAt_29 : decode cX6_orderAt 29 = .ok (.bipush (-6), 2) := by decide +kernel
theorem dX6_orderAt_31 : decode cX6_orderAt 31 = .ok (.ireturn, 1) := by decide +kernel
theorem dX6_best_0 : decode cX6_best 0 = .ok (.iload_n 1, 1) := by decide +kernel
theorem dX6_best_1 : decode cX6_best 1 = .ok (.iconst (-1), 1) := by decide +kernel
theorem dX6_best_2 : decode cX6_best 2 = .ok (.if_icmp .ge 6, 3) := by decide +kernel
theorem dX6_best_5 : decode cX6_best 5 = .ok (.bipush (-2), 2) := by decide +kernel
theorem dX6_best_7 : decode cX6_best 7 = .ok (.ireturn, 1) := by decide +kernel
theorem dX6_best_8 : decode cX6_best 8 = .ok (.aload_n 0, 1) := by decide +kernel
theorem dX6_best_9 : decode cX6_best 9 = .ok (.invokevirtual 107, 3) := by decide +kernel
theorem dX6_best_12 : decode cX6_best 12 = .ok (.aload_n 0, 1) := by decide +kernel
theorem dX6_best_13 : decode cX6_best 13 = .ok (.invokevirtual 138, 3) := by decide +kernel
theorem dX6_best_16 : decode cX6_best 16 = .ok (.aload_n 0, 1) := by decide +kernel
theorem dX6_best_17 : decode cX6_best 17 = .ok (.iload_n 1, 1) := by decide +kernel
theorem dX6_best_18 : decode cX6_best 18 = .ok (.invokevirtual 141, 3) := by decide +kernel
theorem dX6_best_21 : decode cX6_best 21 = .ok (.ireturn, 1) := by decide +kernel
theorem dX6_nearest_0 : decode cX6_nearest 0 = .ok (.iload_n 1, 1) := by decide +kernel
theorem dX6_nearest_1 : decode cX6_nearest 1 = .ok (.iconst (-1), 1) := by decide +kernel
theorem dX6_nearest_2 : decode cX6_nearest 2 = .ok (.if_icmp .ge 6, 3) := by decide +kernel
theorem dX6_nearest_5 : decode cX6_nearest 5 = .ok (.bipush (-2), 2) := by decide +kernel
theorem dX6_nearest_7 : decode cX6_nearest 7 = .ok (.ireturn, 1) := by decide +kernel
theorem dX6_nearest_8 : decode cX6_nearest 8 = .ok (.aload_n 0, 1) := by decide +kernel
theorem dX6_nearest_9 : decode cX6_nearest 9 = .ok (.invokevirtual 107, 3) := by decide +kernel
theorem dX6_nearest_12 : decode cX6_nearest 12 = .ok (.iconst 0, 1) := by decide +kernel
theorem dX6_nearest_13 : decode cX6_nearest 13 = .ok (.istore_n 2, 1) := by decide +kernel
theorem dX6_nearest_14 : decode cX6_nearest 14 = .ok (.iconst 0, 1) := by decide +kernel
theorem dX6_nearest_15 : decode cX6_nearest 15 = .ok (.istore_n 3, 1) := by decide +kernel
theorem dX6_nearest_16 : decode cX6_nearest 16 = .ok (.iload_n 3, 1) := by decide +kernel
theorem dX6_nearest_17 : decode cX6_nearest 17 = .ok (.aload_n 0, 1) := by decide +kernel
theorem dX6_nearest_18 : decode cX6_nearest 18 = .ok (.getfield 72, 3) := by decide +kernel
theorem dX6_nearest_21 : decode cX6_nearest 21 = .ok (.if_icmp .ge 118, 3) := by decide +kernel
theorem dX6_nearest_24 : decode cX6_nearest 24 = .ok (.iload_n 3, 1) := by decide +kernel
theorem dX6_nearest_25 : decode cX6_nearest 25 = .ok (.ifCond .ne 7, 3) := by decide +kernel
theorem dX6_nearest_28 : decode cX6_nearest 28 = .ok (.iconst (-1), 1) := by decide +kernel
theorem dX6_nearest_29 : decode cX6_nearest 29 = .ok (.goto 11, 3) := by decide +kernel
theorem dX6_nearest_32 : decode cX6_nearest 32 = .ok (.aload_n 0, 1) := by decide +kernel
theorem dX6_nearest_33 : decode cX6_nearest 33 = .ok (.getfield 41, 3) := by decide +kernel
theorem dX6_nearest_36 : decode cX6_nearest 36 = .ok (.iload_n 3, 1) := by decide +kernel
theorem dX6_nearest_37 : decode cX6_nearest 37 = .ok (.iconst 1, 1) := by decide +kernel
theorem dX6_nearest_38 : decode cX6_nearest 38 = .ok (.isub, 1) := by decide +kernel
theorem dX6_nearest_39 : decode cX6_nearest 39 = .ok (.iaload, 1) := by decide +kernel
theorem dX6_nearest_40 : decode cX6_nearest 40 = .ok (.istore 4, 2) := by decide +kernel
theorem dX6_nearest_42 : decode cX6_nearest 42 = .ok (.bipush (-6), 2) := by decide +kernel
theorem dX6_nearest_44 : decode cX6_nearest 44 = .ok (.istore 5, 2) := by decide +kernel
theorem dX6_nearest_46 : decode cX6_nearest 46 = .ok (.iconst 0, 1) := by decide +kernel
theorem dX6_nearest_47 : decode cX6_nearest 47 = .ok (.istore 6, 2) := by decide +kernel
theorem dX6_nearest_49 : decode cX6_nearest 49 = .ok (.iload 6, 2) := by decide +kernel
theorem dX6_nearest_51 : decode cX6_nearest 51 = .ok (.aload_n 0, 1) := by decide +kernel
theorem dX6_nearest_52 : decode cX6_nearest 52 = .ok (.getfield 72, 3) := by decide +kernel
theorem dX6_nearest_55 : decode cX6_nearest 55 = .ok (.if_icmp .ge 63, 3) := by decide +kernel
theorem dX6_nearest_58 : decode cX6_nearest 58 = .ok (.iload_n 2, 1) := by decide +kernel
theorem dX6_nearest_59 : decode cX6_nearest 59 = .ok (.iload 6, 2) := by decide +kernel
theorem dX6_nearest_61 : decode cX6_nearest 61 = .ok (.ishr, 1) := by decide +kernel
theorem dX6_nearest_62 : decode cX6_nearest 62 = .ok (.iconst 1, 1) := by decide +kernel
theorem dX6_nearest_63 : decode cX6_nearest 63 = .ok (.iand, 1) := by decide +kernel
theorem dX6_nearest_64 : decode cX6_nearest 64 = .ok (.ifCond .ne 31, 3) := by decide +kernel
theorem dX6_nearest_67 : decode cX6_nearest 67 = .ok (.iload 5, 2) := by decide +kernel
theorem dX6_nearest_69 : decode cX6_nearest 69 = .ok (.ifCond .lt 22, 3) := by decide +kernel
theorem dX6_nearest_72 : decode cX6_nearest 72 = .ok (.aload_n 0, 1) := by decide +kernel
theorem dX6_nearest_73 : decode cX6_nearest 73 = .ok (.iload 4, 2) := by decide +kernel
theorem dX6_nearest_75 : decode cX6_nearest 75 = .ok (.iload 6, 2) := by decide +kernel
theorem dX6_nearest_77 : decode cX6_nearest 77 = .ok (.invokevirtual 123, 3) := by decide +kernel
theorem dX6_nearest_80 : decode cX6_nearest 80 = .ok (.aload_n 0, 1) := by decide +kernel
theorem dX6_nearest_81 : decode cX6_nearest 81 = .ok (.iload 4, 2) := by decide +kernel
theorem dX6_nearest_83 : decode cX6_nearest 83 = .ok (.iload 5, 2) := by decide +kernel
theorem dX6_nearest_85 : decode cX6_nearest 85 = .ok (.invokevirtual 123, 3) := by decide +kernel
theorem dX6_nearest_88 : decode cX6_nearest 88 = .ok (.if_icmp .ge 7, 3) := by decide +kernel
theorem dX6_nearest_91 : decode cX6_nearest 91 = .ok (.iconst 1, 1) := by decide +kernel
theorem dX6_nearest_92 : decode cX6_nearest 92 = .ok (.goto 4, 3) := by decide +kernel
theorem dX6_nearest_95 : decode cX6_nearest 95 = .ok (.iconst 0, 1) := by decide +kernel
theorem dX6_nearest_96 : decode cX6_nearest 96 = .ok (.istore 7, 2) := by decide +kernel
theorem dX6_nearest_98 : decode cX6_nearest 98 = .ok (.iload 7, 2) := by decide +kernel
theorem dX6_nearest_100 : decode cX6_nearest 100 = .ok (.ifCond .eq 8, 3) := by decide +kernel
theorem dX6_nearest_103 : decode cX6_nearest 103 = .ok (.iload 6, 2) := by decide +kernel
theorem dX6_nearest_105 : decode cX6_nearest 105 = .ok (.goto 5, 3) := by decide +kernel
theorem dX6_nearest_108 : decode cX6_nearest 108 = .ok (.iload 5, 2) := by decide +kernel
theorem dX6_nearest_110 : decode cX6_nearest 110 = .ok (.istore 5, 2) := by decide +kernel
theorem dX6_nearest_112 : decode cX6_nearest 112 = .ok (.iinc 6 1, 3) := by decide +kernel
theorem dX6_nearest_115 : decode cX6_nearest 115 = .ok (.goto (-66), 3) := by decide +kernel
theorem dX6_nearest_118 : decode cX6_nearest 118 = .ok (.aload_n 0, 1) := by decide +kernel
theorem dX6_nearest_119 : decode cX6_nearest 119 = .ok (.getfield 41, 3) := by decide +kernel
theorem dX6_nearest_122 : decode cX6_nearest 122 = .ok (.iload_n 3, 1) := by decide +kernel
theorem dX6_nearest_123 : decode cX6_nearest 123 = .ok (.iload 5, 2) := by decide +kernel
theorem dX6_nearest_125 : decode cX6_nearest 125 = .ok (.iastore, 1) := by decide +kernel
theorem dX6_nearest_126 : decode cX6_nearest 126 = .ok (.iload_n 2, 1) := by decide +kernel
theorem dX6_nearest_127 : decode cX6_nearest 127 = .ok (.iconst 1, 1) := by decide +kernel
theorem dX6_nearest_128 : decode cX6_nearest 128 = .ok (.iload 5, 2) := by decide +kernel
theorem dX6_nearest_130 : decode cX6_nearest 130 = .ok (.ishl, 1) := by decide +kernel
theorem dX6_nearest_131 : decode cX6_nearest 131 = .ok (.ior, 1) := by decide +kernel
theorem dX6_nearest_132 : decode cX6_nearest 132 = .ok (.istore_n 2, 1) := by decide +kernel
theorem dX6_nearest_133 : decode cX6_nearest 133 = .ok (.iinc 3 1, 3) := by decide +kernel
theorem dX6_nearest_136 : decode cX6_nearest 136 = .ok (.goto (-120), 3) := by decide +kernel
theorem dX6_nearest_139 : decode cX6_nearest 139 = .ok (.aload_n 0, 1) := by decide +kernel
theorem dX6_nearest_140 : decode cX6_nearest 140 = .ok (.iload_n 1, 1) := by decide +kernel
theorem dX6_nearest_141 : decode cX6_nearest 141 = .ok (.invokevirtual 141, 3) := by decide +kernel
theorem dX6_nearest_144 : decode cX6_nearest 144 = .ok (.ireturn, 1) := by decide +kernel
theorem dX6_looseMany_0 : decode cX6_looseMany 0 = .ok (.iconst 0, 1) := by decide +kernel
theorem dX6_looseMany_1 : decode cX6_looseMany 1 = .ok (.istore_n 1, 1) := by decide +kernel
theorem dX6_looseMany_2 : decode cX6_looseMany 2 = .ok (.iconst 0, 1) := by decide +kernel
theorem dX6_looseMany_3 : decode cX6_looseMany 3 = .ok (.istore_n 2, 1) := by decide +kernel
theorem dX6_looseMany_4 : decode cX6_looseMany 4 = .ok (.iload_n 2, 1) := by decide +kernel
theorem dX6_looseMany_5 : decode cX6_looseMany 5 = .ok (.aload_n 0, 1) := by decide +kernel
theorem dX6_looseMany_6 : decode cX6_looseMany 6 = .ok (.getfield 7, 3) := by decide +kernel
theorem dX6_looseMany_9 : decode cX6_looseMany 9 = .ok (.iconst 0, 1) := by decide +kernel
theorem dX6_looseMany_10 : decode cX6_looseMany 10 = .ok (.iaload, 1) := by decide +kernel
theorem dX6_looseMany_11 : decode cX6_looseMany 11 = .ok (.if_icmp .ge 21, 3) := by decide +kernel
theorem dX6_looseMany_14 : decode cX6_looseMany 14 = .ok (.iload_n 1, 1) := by decide +kernel
theorem dX6_looseMany_15 : decode cX6_looseMany 15 = .ok (.aload_n 0, 1) := by decide +kernel
theorem dX6_looseMany_16 : decode cX6_looseMany 16 = .ok (.getfield 7, 3) := by decide +kernel
theorem dX6_looseMany_19 : decode cX6_looseMany 19 = .ok (.bipush 25, 2) := by decide +kernel
theorem dX6_looseMany_21 : decode cX6_looseMany 21 = .ok (.iload_n 2, 1) := by decide +kernel
theorem dX6_looseMany_22 : decode cX6_looseMany 22 = .ok (.iadd, 1) := by decide +kernel
theorem dX6_looseMany_23 : decode cX6_looseMany 23 = .ok (.iaload, 1) := by decide +kernel
theorem dX6_looseMany_24 : decode cX6_looseMany 24 = .ok (.iadd, 1) := by decide +kernel
theorem dX6_looseMany_25 : decode cX6_looseMany 25 = .ok (.istore_n 1, 1) := by decide +kernel
theorem dX6_looseMany_26 : decode cX6_looseMany 26 = .ok (.iinc 2 1, 3) := by decide +kernel
theorem dX6_looseMany_29 : decode cX6_looseMany 29 = .ok (.goto (-25), 3) := by decide +kernel
theorem dX6_looseMany_32 : decode cX6_looseMany 32 = .ok (.iload_n 1, 1) := by decide +kernel
theorem dX6_looseMany_33 : decode cX6_looseMany 33 = .ok (.ireturn, 1) := by decide +kernel
theorem dX6_loosen_0 : decode cX6_loosen 0 = .ok (.aload_n 0, 1) := by decide +kernel
theorem dX6_loosen_1 : decode cX6_loosen 1 = .ok (.iload_n 1, 1) := by decide +kernel
theorem dX6_loosen_2 : decode cX6_loosen 2 = .ok (.invokevirtual 65, 3) := by decide +kernel
theorem dX6_loosen_5 : decode cX6_loosen 5 = .ok (.ifCond .ne 5, 3) := by decide +kernel
theorem dX6_loosen_8 : decode cX6_loosen 8 = .ok (.iconst (-1), 1) := by decide +kernel
theorem dX6_loosen_9 : decode cX6_loosen 9 = .ok (.ireturn, 1) := by decide +kernel
theorem dX6_loosen_10 : decode cX6_loosen 10 = .ok (.iload_n 2, 1) := by decide +kernel
theorem dX6_loosen_11 : decode cX6_loosen 11 = .ok (.iconst 0, 1) := by decide +kernel
theorem dX6_loosen_12 : decode cX6_loosen 12 = .ok (.iconst 1, 1) := by decide +kernel
theorem dX6_loosen_13 : decode cX6_loosen 13 = .ok (.invokestatic 53, 3) := by decide +kernel
theorem dX6_loosen_16 : decode cX6_loosen 16 = .ok (.ifCond .ne 6, 3) := by decide +kernel
theorem dX6_loosen_19 : decode cX6_loosen 19 = .ok (.bipush (-2), 2) := by decide +kernel
theorem dX6_loosen_21 : decode cX6_loosen 21 = .ok (.ireturn, 1) := by decide +kernel
theorem dX6_loosen_22 : decode cX6_loosen 22 = .ok (.aload_n 0, 1) := by decide +kernel
theorem dX6_loosen_23 : decode cX6_loosen 23 = .ok (.getfield 7, 3) := by decide +kernel
theorem dX6_loosen_26 : decode cX6_loosen 26 = .ok (.bipush 25, 2) := by decide +kernel
theorem dX6_loosen_28 : decode cX6_loosen 28 = .ok (.iload_n 1, 1) := by decide +kernel
theorem dX6_loosen_29 : decode cX6_loosen 29 = .ok (.iadd, 1) := by decide +kernel
theorem dX6_loosen_30 : decode cX6_loosen 30 = .ok (.iload_n 2, 1) := by decide +kernel
theorem dX6_loosen_31 : decode cX6_loosen 31 = .ok (.iastore, 1) := by decide +kernel
theorem dX6_loosen_32 : decode cX6_loosen 32 = .ok (.aload_n 0, 1) := by decide +kernel
theorem dX6_loosen_33 : decode cX6_loosen 33 = .ok (.invokevirtual 144, 3) := by decide +kernel
theorem dX6_loosen_36 : decode cX6_loosen 36 = .ok (.ireturn, 1) := by decide +kernel
theorem dX6_shortMany_0 : decode cX6_shortMany 0 = .ok (.iconst 0, 1) := by decide +kernel
theorem dX6_shortMany_1 : decode cX6_shortMany 1 = .ok (.istore_n 1, 1) := by decide +kernel
theorem dX6_shortMany_2 : decode cX6_shortMany 2 = .ok (.iconst 0, 1) := by decide +kernel
theorem dX6_shortMany_3 : decode cX6_shortMany 3 = .ok (.istore_n 2, 1) := by decide +kernel
theorem dX6_shortMany_4 : decode cX6_shortMany 4 = .ok (.iload_n 2, 1) := by decide +kernel
theorem dX6_shortMany_5 : decode cX6_shortMany 5 = .ok (.bipush 6, 2) := by decide +kernel
theorem dX6_shortMany_7 : decode cX6_shortMany 7 = .ok (.if_icmp .ge 21, 3) := by decide +kernel
theorem dX6_shortMany_10 : decode cX6_shortMany 10 = .ok (.iload_n 1, 1) := by decide +kernel
theorem dX6_shortMany_11 : decode cX6_shortMany 11 = .ok (.aload_n 0, 1) := by decide +kernel
theorem dX6_shortMany_12 : decode cX6_shortMany 12 = .ok (.getfield 7, 3) := by decide +kernel
theorem dX6_shortMany_15 : decode cX6_shortMany 15 = .ok (.bipush 34, 2) := by decide +kernel
theorem dX6_shortMany_17 : decode cX6_shortMany 17 = .ok (.iload_n 2, 1) := by decide +kernel
theorem dX6_shortMany_18 : decode cX6_shortMany 18 = .ok (.iadd, 1) := by decide +kernel
theorem dX6_shortMany_19 : decode cX6_shortMany 19 = .ok (.iaload, 1) := by decide +kernel
theorem dX6_shortMany_20 : decode cX6_shortMany 20 = .ok (.iadd, 1) := by decide +kernel
theorem dX6_shortMany_21 : decode cX6_shortMany 21 = .ok (.istore_n 1, 1) := by decide +kernel
theorem dX6_shortMany_22 : decode cX6_shortMany 22 = .ok (.iinc 2 1, 3) := by decide +kernel
theorem dX6_shortMany_25 : decode cX6_shortMany 25 = .ok (.goto (-21), 3) := by decide +kernel
theorem dX6_shortMany_28 : decode cX6_shortMany 28 = .ok (.iload_n 1, 1) := by decide +kernel
theorem dX6_shortMany_29 : decode cX6_shortMany 29 = .ok (.ireturn, 1) := by decide +kernel
theorem dX6_join__0 : decode cX6_join_ 0 = .ok (.iload_n 1, 1) := by decide +kernel
theorem dX6_join__1 : decode cX6_join_ 1 = .ok (.invokestatic 57, 3) := by decide +kernel
theorem dX6_join__4 : decode cX6_join_ 4 = .ok (.ifCond .eq 10, 3) := by decide +kernel
theorem dX6_join__7 : decode cX6_join_ 7 = .ok (.iload_n 2, 1) := by decide +kernel
theorem dX6_join__8 : decode cX6_join_ 8 = .ok (.invokestatic 57, 3) := by decide +kernel
theorem dX6_join__11 : decode cX6_join_ 11 = .ok (.ifCond .ne 5, 3) := by decide +kernel
theorem dX6_join__14 : decode cX6_join_ 14 = .ok (.iconst (-1), 1) := by decide +kernel
theorem dX6_join__15 : decode cX6_join_ 15 = .ok (.ireturn, 1) := by decide +kernel
theorem dX6_join__16 : decode cX6_join_ 16 = .ok (.iload_n 1, 1) := by decide +kernel
theorem dX6_join__17 : decode cX6_join_ 17 = .ok (.iload_n 2, 1) := by decide +kernel
theorem dX6_join__18 : decode cX6_join_ 18 = .ok (.if_icmp .eq 12, 3) := by decide +kernel
theorem dX6_join__21 : decode cX6_join_ 21 = .ok (.iload_n 3, 1) := by decide +kernel
theorem dX6_join__22 : decode cX6_join_ 22 = .ok (.iconst 0, 1) := by decide +kernel
theorem dX6_join__23 : decode cX6_join_ 23 = .ok (.iconst 1, 1) := by decide +kernel
theorem dX6_join__24 : decode cX6_join_ 24 = .ok (.invokestatic 53, 3) := by decide +kernel
theorem dX6_join__27 : decode cX6_join_ 27 = .ok (.ifCond .ne 6, 3) := by decide +kernel
theorem dX6_join__30 : decode cX6_join_ 30 = .ok (.bipush (-2), 2) := by decide +kernel
theorem dX6_join__32 : decode cX6_join_ 32 = .ok (.ireturn, 1) := by decide +kernel
theorem dX6_join__33 : decode cX6_join_ 33 = .ok (.aload_n 0, 1) := by decide +kernel
theorem dX6_join__34 : decode cX6_join_ 34 = .ok (.getfield 7, 3) := by decide +kernel
theorem dX6_join__37 : decode cX6_join_ 37 = .ok (.bipush 34, 2) := by decide +kernel
theorem dX6_join__39 : decode cX6_join_ 39 = .ok (.iload_n 1, 1) := by decide +kernel
theorem dX6_join__40 : decode cX6_join_ 40 = .ok (.iload_n 2, 1) := by decide +kernel
theorem dX6_join__41 : decode cX6_join_ 41 = .ok (.invokestatic 98, 3) := by decide +kernel
theorem dX6_join__44 : decode cX6_join_ 44 = .ok (.iadd, 1) := by decide +kernel
theorem dX6_join__45 : decode cX6_join_ 45 = .ok (.iload_n 3, 1) := by decide +kernel
theorem dX6_join__46 : decode cX6_join_ 46 = .ok (.iastore, 1) := by decide +kernel
theorem dX6_join__47 : decode cX6_join_ 47 = .ok (.aload_n 0, 1) := by decide +kernel
theorem dX6_join__48 : decode cX6_join_ 48 = .ok (.invokevirtual 147, 3) := by decide +kernel
theorem dX6_join__51 : decode cX6_join_ 51 = .ok (.ireturn, 1) := by decide +kernel
theorem dX6_sees_0 : decode cX6_sees 0 = .ok (.aload_n 0, 1) := by decide +kernel
theorem dX6_sees_1 : decode cX6_sees 1 = .ok (.invokevirtual 107, 3) := by decide +kernel
theorem dX6_sees_4 : decode cX6_sees 4 = .ok (.aload_n 0, 1) := by decide +kernel
theorem dX6_sees_5 : decode cX6_sees 5 = .ok (.invokevirtual 113, 3) := by decide +kernel
theorem dX6_sees_8 : decode cX6_sees 8 = .ok (.ireturn, 1) := by decide +kernel
theorem dX6_isSingle_0 : decode cX6_isSingle 0 = .ok (.aload_n 0, 1) := by decide +kernel
theorem dX6_isSingle_1 : decode cX6_isSingle 1 = .ok (.iload_n 1, 1) := by decide +kernel
theorem dX6_isSingle_2 : decode cX6_isSingle 2 = .ok (.invokevirtual 65, 3) := by decide +kernel
theorem dX6_isSingle_5 : decode cX6_isSingle 5 = .ok (.ifCond .ne 14, 3) := by decide +kernel
theorem dX6_isSingle_8 : decode cX6_isSingle 8 = .ok (.iload_n 1, 1) := by decide +kernel
theorem dX6_isSingle_9 : decode cX6_isSingle 9 = .ok (.bipush 20, 2) := by decide +kernel
theorem dX6_isSingle_11 : decode cX6_isSingle 11 = .ok (.bipush 25, 2) := by decide +kernel
theorem dX6_isSingle_13 : decode cX6_isSingle 13 = .ok (.invokestatic 53, 3) := by decide +kernel
theorem dX6_isSingle_16 : decode cX6_isSingle 16 = .ok (.ifCond .eq 7, 3) := by decide +kernel
theorem dX6_isSingle_19 : decode cX6_isSingle 19 = .ok (.iconst 1, 1) := by decide +kernel
theorem dX6_isSingle_20 : decode cX6_isSingle 20 = .ok (.goto 4, 3) := by decide +kernel
theorem dX6_isSingle_23 : decode cX6_isSingle 23 = .ok (.iconst 0, 1) := by decide +kernel
theorem dX6_isSingle_24 : decode cX6_isSingle 24 = .ok (.ireturn, 1) := by decide +kernel
theorem dX6_seenBy_0 : decode cX6_seenBy 0 = .ok (.iconst 0, 1) := by decide +kernel
theorem dX6_seenBy_1 : decode cX6_seenBy 1 = .ok (.istore_n 2, 1) := by decide +kernel
theorem dX6_seenBy_2 : decode cX6_seenBy 2 = .ok (.iload_n 2, 1) := by decide +kernel
theorem dX6_seenBy_3 : decode cX6_seenBy 3 = .ok (.bipush 40, 2) := by decide +kernel
theorem dX6_seenBy_5 : decode cX6_seenBy 5 = .ok (.if_icmp .ge 21, 3) := by decide +kernel
theorem dX6_seenBy_8 : decode cX6_seenBy 8 = .ok (.aload_n 0, 1) := by decide +kernel
theorem dX6_seenBy_9 : decode cX6_seenBy 9 = .ok (.getfield 47, 3) := by decide +kernel
theorem dX6_seenBy_12 : decode cX6_seenBy 12 = .ok (.iload_n 2, 1) := by decide +kernel
theorem dX6_seenBy_13 : decode cX6_seenBy 13 = .ok (.aload_n 0, 1) := by decide +kernel
theorem dX6_seenBy_14 : decode cX6_seenBy 14 = .ok (.getfield 7, 3) := by decide +kernel
theorem dX6_seenBy_17 : decode cX6_seenBy 17 = .ok (.iload_n 2, 1) := by decide +kernel
theorem dX6_seenBy_18 : decode cX6_seenBy 18 = .ok (.iaload, 1) := by decide +kernel
theorem dX6_seenBy_19 : decode cX6_seenBy 19 = .ok (.iastore, 1) := by decide +kernel
theorem dX6_seenBy_20 : decode cX6_seenBy 20 = .ok (.iinc 2 1, 3) := by decide +kernel
theorem dX6_seenBy_23 : decode cX6_seenBy 23 = .ok (.goto (-21), 3) := by decide +kernel
theorem dX6_seenBy_26 : decode cX6_seenBy 26 = .ok (.iconst 0, 1) := by decide +kernel
theorem dX6_seenBy_27 : decode cX6_seenBy 27 = .ok (.istore_n 2, 1) := by decide +kernel
theorem dX6_seenBy_28 : decode cX6_seenBy 28 = .ok (.iload_n 2, 1) := by decide +kernel
theorem dX6_seenBy_29 : decode cX6_seenBy 29 = .ok (.bipush 8, 2) := by decide +kernel
theorem dX6_seenBy_31 : decode cX6_seenBy 31 = .ok (.if_icmp .ge 28, 3) := by decide +kernel
theorem dX6_seenBy_34 : decode cX6_seenBy 34 = .ok (.aload_n 0, 1) := by decide +kernel
theorem dX6_seenBy_35 : decode cX6_seenBy 35 = .ok (.getfield 7, 3) := by decide +kernel
theorem dX6_seenBy_38 : decode cX6_seenBy 38 = .ok (.bipush 25, 2) := by decide +kernel
theorem dX6_seenBy_40 : decode cX6_seenBy 40 = .ok (.iload_n 2, 1) := by decide +kernel
theorem dX6_seenBy_41 : decode cX6_seenBy 41 = .ok (.iadd, 1) := by decide +kernel
theorem dX6_seenBy_42 : decode cX6_seenBy 42 = .ok (.iload_n 1, 1) := by decide +kernel
theorem dX6_seenBy_43 : decode cX6_seenBy 43 = .ok (.iload_n 2, 1) := by decide +kernel
theorem dX6_seenBy_44 : decode cX6_seenBy 44 = .ok (.if_icmp .ne 7, 3) := by decide +kernel
theorem dX6_seenBy_47 : decode cX6_seenBy 47 = .ok (.iconst 1, 1) := by decide +kernel
theorem dX6_seenBy_48 : decode cX6_seenBy 48 = .ok (.goto 4, 3) := by decide +kernel
theorem dX6_seenBy_51 : decode cX6_seenBy 51 = .ok (.iconst 0, 1) := by decide +kernel
theorem dX6_seenBy_52 : decode cX6_seenBy 52 = .ok (.iastore, 1) := by decide +kernel
theorem dX6_seenBy_53 : decode cX6_seenBy 53 = .ok (.iinc 2 1, 3) := by decide +kernel
theorem dX6_seenBy_56 : decode cX6_seenBy 56 = .ok (.goto (-28), 3) := by decide +kernel
theorem dX6_seenBy_59 : decode cX6_seenBy 59 = .ok (.iconst 0, 1) := by decide +kernel
theorem dX6_seenBy_60 : decode cX6_seenBy 60 = .ok (.istore_n 2, 1) := by decide +kernel
theorem dX6_seenBy_61 : decode cX6_seenBy 61 = .ok (.iload_n 2, 1) := by decide +kernel
theorem dX6_seenBy_62 : decode cX6_seenBy 62 = .ok (.bipush 6, 2) := by decide +kernel
theorem dX6_seenBy_64 : decode cX6_seenBy 64 = .ok (.if_icmp .ge 31, 3) := by decide +kernel
theorem dX6_seenBy_67 : decode cX6_seenBy 67 = .ok (.aload_n 0, 1) := by decide +kernel
theorem dX6_seenBy_68 : decode cX6_seenBy 68 = .ok (.getfield 7, 3) := by decide +kernel
theorem dX6_seenBy_71 : decode cX6_seenBy 71 = .ok (.bipush 34, 2) := by decide +kernel
theorem dX6_seenBy_73 : decode cX6_seenBy 73 = .ok (.iload_n 2, 1) := by decide +kernel
theorem dX6_seenBy_74 : decode cX6_seenBy 74 = .ok (.iadd, 1) := by decide +kernel
theorem dX6_seenBy_75 : decode cX6_seenBy 75 = .ok (.iload_n 1, 1) := by decide +kernel
theorem dX6_seenBy_76 : decode cX6_seenBy 76 = .ok (.bipush 20, 2) := by decide +kernel
theorem dX6_seenBy_78 : decode cX6_seenBy 78 = .ok (.iload_n 2, 1) := by decide +kernel
theorem dX6_seenBy_79 : decode cX6_seenBy 79 = .ok (.iadd, 1) := by decide +kernel
theorem dX6_seenBy_80 : decode cX6_seenBy 80 = .ok (.if_icmp .ne 7, 3) := by decide +kernel
theorem dX6_seenBy_83 : decode cX6_seenBy 83 = .ok (.iconst 1, 1) := by decide +kernel
theorem dX6_seenBy_84 : decode cX6_seenBy 84 = .ok (.goto 4, 3) := by decide +kernel
theorem dX6_seenBy_87 : decode cX6_seenBy 87 = .ok (.iconst 0, 1) := by decide +kernel
theorem dX6_seenBy_88 : decode cX6_seenBy 88 = .ok (.iastore, 1) := by decide +kernel
theorem dX6_seenBy_89 : decode cX6_seenBy 89 = .ok (.iinc 2 1, 3) := by decide +kernel
theorem dX6_seenBy_92 : decode cX6_seenBy 92 = .ok (.goto (-31), 3) := by decide +kernel
theorem dX6_seenBy_95 : decode cX6_seenBy 95 = .ok (.aload_n 0, 1) := by decide +kernel
theorem dX6_seenBy_96 : decode cX6_seenBy 96 = .ok (.invokevirtual 113, 3) := by decide +kernel
theorem dX6_seenBy_99 : decode cX6_seenBy 99 = .ok (.istore_n 2, 1) := by decide +kernel
theorem dX6_seenBy_100 : decode cX6_seenBy 100 = .ok (.iconst 0, 1) := by decide +kernel
theorem dX6_seenBy_101 : decode cX6_seenBy 101 = .ok (.istore_n 3, 1) := by decide +kernel
theorem dX6_seenBy_102 : decode cX6_seenBy 102 = .ok (.iload_n 3, 1) := by decide +kernel
theorem dX6_seenBy_103 : decode cX6_seenBy 103 = .ok (.bipush 40, 2) := by decide +kernel
theorem dX6_seenBy_105 : decode cX6_seenBy 105 = .ok (.if_icmp .ge 21, 3) := by decide +kernel
theorem dX6_seenBy_108 : decode cX6_seenBy 108 = .ok (.aload_n 0, 1) := by decide +kernel
theorem dX6_seenBy_109 : decode cX6_seenBy 109 = .ok (.getfield 7, 3) := by decide +kernel
theorem dX6_seenBy_112 : decode cX6_seenBy 112 = .ok (.iload_n 3, 1) := by decide +kernel
theorem dX6_seenBy_113 : decode cX6_seenBy 113 = .ok (.aload_n 0, 1) := by decide +kernel
theorem dX6_seenBy_114 : decode cX6_seenBy 114 = .ok (.getfield 47, 3) := by decide +kernel
theorem dX6_seenBy_117 : decode cX6_seenBy 117 = .ok (.iload_n 3, 1) := by decide +kernel
theorem dX6_seenBy_118 : decode cX6_seenBy 118 = .ok (.iaload, 1) := by decide +kernel
theorem dX6_seenBy_119 : decode cX6_seenBy 119 = .ok (.iastore, 1) := by decide +kernel
theorem dX6_seenBy_120 : decode cX6_seenBy 120 = .ok (.iinc 3 1, 3) := by decide +kernel
theorem dX6_seenBy_123 : decode cX6_seenBy 123 = .ok (.goto (-21), 3) := by decide +kernel
theorem dX6_seenBy_126 : decode cX6_seenBy 126 = .ok (.iload_n 2, 1) := by decide +kernel
theorem dX6_seenBy_127 : decode cX6_seenBy 127 = .ok (.ireturn, 1) := by decide +kernel
theorem dX6_fits_0 : decode cX6_fits 0 = .ok (.aload_n 0, 1) := by decide +kernel
theorem dX6_fits_1 : decode cX6_fits 1 = .ok (.invokevirtual 107, 3) := by decide +kernel
theorem dX6_fits_4 : decode cX6_fits 4 = .ok (.aload_n 0, 1) := by decide +kernel
theorem dX6_fits_5 : decode cX6_fits 5 = .ok (.invokevirtual 113, 3) := by decide +kernel
theorem dX6_fits_8 : decode cX6_fits 8 = .ok (.istore_n 2, 1) := by decide +kernel
theorem dX6_fits_9 : decode cX6_fits 9 = .ok (.iconst 0, 1) := by decide +kernel
theorem dX6_fits_10 : decode cX6_fits 10 = .ok (.istore_n 3, 1) := by decide +kernel
theorem dX6_fits_11 : decode cX6_fits 11 = .ok (.iconst 0, 1) := by decide +kernel
theorem dX6_fits_12 : decode cX6_fits 12 = .ok (.istore 4, 2) := by decide +kernel
theorem dX6_fits_14 : decode cX6_fits 14 = .ok (.iload 4, 2) := by decide +kernel
theorem dX6_fits_16 : decode cX6_fits 16 = .ok (.bipush 26, 2) := by decide +kernel
theorem dX6_fits_18 : decode cX6_fits 18 = .ok (.if_icmp .ge 39, 3) := by decide +kernel
theorem dX6_fits_21 : decode cX6_fits 21 = .ok (.aload_n 0, 1) := by decide +kernel
theorem dX6_fits_22 : decode cX6_fits 22 = .ok (.iload 4, 2) := by decide +kernel
theorem dX6_fits_24 : decode cX6_fits 24 = .ok (.invokevirtual 150, 3) := by decide +kernel
theorem dX6_fits_27 : decode cX6_fits 27 = .ok (.ifCond .eq 24, 3) := by decide +kernel
theorem dX6_fits_30 : decode cX6_fits 30 = .ok (.aload_n 0, 1) := by decide +kernel
theorem dX6_fits_31 : decode cX6_fits 31 = .ok (.iload 4, 2) := by decide +kernel
theorem dX6_fits_33 : decode cX6_fits 33 = .ok (.invokevirtual 153, 3) := by decide +kernel
theorem dX6_fits_36 : decode cX6_fits 36 = .ok (.iload_n 2, 1) := by decide +kernel
theorem dX6_fits_37 : decode cX6_fits 37 = .ok (.if_icmp .ne 14, 3) := by decide +kernel
theorem dX6_fits_40 : decode cX6_fits 40 = .ok (.iload_n 3, 1) := by decide +kernel
theorem dX6_fits_41 : decode cX6_fits 41 = .ok (.iload_n 1, 1) := by decide +kernel
theorem dX6_fits_42 : decode cX6_fits 42 = .ok (.if_icmp .ne 6, 3) := by decide +kernel
theorem dX6_fits_45 : decode cX6_fits 45 = .ok (.iload 4, 2) := by decide +kernel
theorem dX6_fits_47 : decode cX6_fits 47 = .ok (.ireturn, 1) := by decide +kernel
theorem dX6_fits_48 : decode cX6_fits 48 = .ok (.iinc 3 1, 3) := by decide +kernel
theorem dX6_fits_51 : decode cX6_fits 51 = .ok (.iinc 4 1, 3) := by decide +kernel
theorem dX6_fits_54 : decode cX6_fits 54 = .ok (.goto (-40), 3) := by decide +kernel
theorem dX6_fits_57 : decode cX6_fits 57 = .ok (.iload_n 1, 1) := by decide +kernel
theorem dX6_fits_58 : decode cX6_fits 58 = .ok (.iconst (-1), 1) := by decide +kernel
theorem dX6_fits_59 : decode cX6_fits 59 = .ok (.if_icmp .ne 7, 3) := by decide +kernel
theorem dX6_fits_62 : decode cX6_fits 62 = .ok (.iload_n 3, 1) := by decide +kernel
theorem dX6_fits_63 : decode cX6_fits 63 = .ok (.goto 5, 3) := by decide +kernel
theorem dX6_fits_66 : decode cX6_fits 66 = .ok (.bipush (-6), 2) := by decide +kernel
theorem dX6_fits_68 : decode cX6_fits 68 = .ok (.ireturn, 1) := by decide +kernel
theorem dX6_hidden_0 : decode cX6_hidden 0 = .ok (.iload_n 1, 1) := by decide +kernel
theorem dX6_hidden_1 : decode cX6_hidden 1 = .ok (.iconst 0, 1) := by decide +kernel
theorem dX6_hidden_2 : decode cX6_hidden 2 = .ok (.iconst 1, 1) := by decide +kernel
theorem dX6_hidden_3 : decode cX6_hidden 3 = .ok (.invokestatic 53, 3) := by decide +kernel
theorem dX6_hidden_6 : decode cX6_hidden 6 = .ok (.ifCond .ne 6, 3) := by decide +kernel
theorem dX6_hidden_9 : decode cX6_hidden 9 = .ok (.bipush (-2), 2) := by decide +kernel
theorem dX6_hidden_11 : decode cX6_hidden 11 = .ok (.ireturn, 1) := by decide +kernel
theorem dX6_hidden_12 : decode cX6_hidden 12 = .ok (.aload_n 0, 1) := by decide +kernel
theorem dX6_hidden_13 : decode cX6_hidden 13 = .ok (.invokevirtual 107, 3) := by decide +kernel
theorem dX6_hidden_16 : decode cX6_hidden 16 = .ok (.iconst 0, 1) := by decide +kernel
theorem dX6_hidden_17 : decode cX6_hidden 17 = .ok (.istore_n 2, 1) := by decide +kernel
theorem dX6_hidden_18 : decode cX6_hidden 18 = .ok (.bipush (-6), 2) := by decide +kernel
theorem dX6_hidden_20 : decode cX6_hidden 20 = .ok (.istore_n 3, 1) := by decide +kernel
theorem dX6_hidden_21 : decode cX6_hidden 21 = .ok (.bipush 25, 2) := by decide +kernel
theorem dX6_hidden_23 : decode cX6_hidden 23 = .ok (.istore 4, 2) := by decide +kernel
theorem dX6_hidden_25 : decode cX6_hidden 25 = .ok (.iload 4, 2) := by decide +kernel
theorem dX6_hidden_27 : decode cX6_hidden 27 = .ok (.ifCond .lt 33, 3) := by decide +kernel
theorem dX6_hidden_30 : decode cX6_hidden 30 = .ok (.aload_n 0, 1) := by decide +kernel
theorem dX6_hidden_31 : decode cX6_hidden 31 = .ok (.iload 4, 2) := by decide +kernel
theorem dX6_hidden_33 : decode cX6_hidden 33 = .ok (.invokevirtual 150, 3) := by decide +kernel
theorem dX6_hidden_36 : decode cX6_hidden 36 = .ok (.ifCond .eq 18, 3) := by decide +kernel
theorem dX6_hidden_39 : decode cX6_hidden 39 = .ok (.aload_n 0, 1) := by decide +kernel
theorem dX6_hidden_40 : decode cX6_hidden 40 = .ok (.iload 4, 2) := by decide +kernel
theorem dX6_hidden_42 : decode cX6_hidden 42 = .ok (.invokevirtual 153, 3) := by decide +kernel
theorem dX6_hidden_45 : decode cX6_hidden 45 = .ok (.ifCond .ne 9, 3) := by decide +kernel
theorem dX6_hidden_48 : decode cX6_hidden 48 = .ok (.iinc 2 1, 3) := by decide +kernel
theorem dX6_hidden_51 : decode cX6_hidden 51 = .ok (.iload 4, 2) := by decide +kernel
theorem dX6_hidden_53 : decode cX6_hidden 53 = .ok (.istore_n 3, 1) := by decide +kernel
theorem dX6_hidden_54 : decode cX6_hidden 54 = .ok (.iinc 4 (-1), 3) := by decide +kernel
theorem dX6_hidden_57 : decode cX6_hidden 57 = .ok (.goto (-32), 3) := by decide +kernel
theorem dX6_hidden_60 : decode cX6_hidden 60 = .ok (.iload_n 1, 1) := by decide +kernel
theorem dX6_hidden_61 : decode cX6_hidden 61 = .ok (.ifCond .ne 7, 3) := by decide +kernel
theorem dX6_hidden_64 : decode cX6_hidden 64 = .ok (.iload_n 2, 1) := by decide +kernel
theorem dX6_hidden_65 : decode cX6_hidden 65 = .ok (.goto 4, 3) := by decide +kernel
theorem dX6_hidden_68 : decode cX6_hidden 68 = .ok (.iload_n 3, 1) := by decide +kernel
theorem dX6_hidden_69 : decode cX6_hidden 69 = .ok (.ireturn, 1) := by decide +kernel
theorem dX6_isAnyOne_0 : decode cX6_isAnyOne 0 = .ok (.iconst 0, 1) := by decide +kernel
theorem dX6_isAnyOne_1 : decode cX6_isAnyOne 1 = .ok (.istore 4, 2) := by decide +kernel
theorem dX6_isAnyOne_3 : decode cX6_isAnyOne 3 = .ok (.iload_n 2, 1) := by decide +kernel
theorem dX6_isAnyOne_4 : decode cX6_isAnyOne 4 = .ok (.istore 5, 2) := by decide +kernel
theorem dX6_isAnyOne_6 : decode cX6_isAnyOne 6 = .ok (.iload 5, 2) := by decide +kernel
theorem dX6_isAnyOne_8 : decode cX6_isAnyOne 8 = .ok (.iload_n 3, 1) := by decide +kernel
theorem dX6_isAnyOne_9 : decode cX6_isAnyOne 9 = .ok (.if_icmp .ge 40, 3) := by decide +kernel
theorem dX6_isAnyOne_12 : decode cX6_isAnyOne 12 = .ok (.iload 4, 2) := by decide +kernel
theorem dX6_isAnyOne_14 : decode cX6_isAnyOne 14 = .ok (.ifCond .ne 22, 3) := by decide +kernel
theorem dX6_isAnyOne_17 : decode cX6_isAnyOne 17 = .ok (.aload_n 0, 1) := by decide +kernel
theorem dX6_isAnyOne_18 : decode cX6_isAnyOne 18 = .ok (.getfield 38, 3) := by decide +kernel
theorem dX6_isAnyOne_21 : decode cX6_isAnyOne 21 = .ok (.iconst 4, 1) := by decide +kernel
theorem dX6_isAnyOne_22 : decode cX6_isAnyOne 22 = .ok (.iload_n 1, 1) := by decide +kernel
theorem dX6_isAnyOne_23 : decode cX6_isAnyOne 23 = .ok (.imul, 1) := by decide +kernel
theorem dX6_isAnyOne_24 : decode cX6_isAnyOne 24 = .ok (.aload_n 0, 1) := by decide +kernel
theorem dX6_isAnyOne_25 : decode cX6_isAnyOne 25 = .ok (.getfield 50, 3) := by decide +kernel
theorem dX6_isAnyOne_28 : decode cX6_isAnyOne 28 = .ok (.iload 5, 2) := by decide +kernel
theorem dX6_isAnyOne_30 : decode cX6_isAnyOne 30 = .ok (.iaload, 1) := by decide +kernel
theorem dX6_isAnyOne_31 : decode cX6_isAnyOne 31 = .ok (.iadd, 1) := by decide +kernel
theorem dX6_isAnyOne_32 : decode cX6_isAnyOne 32 = .ok (.baload, 1) := by decide +kernel
theorem dX6_isAnyOne_33 : decode cX6_isAnyOne 33 = .ok (.ifCond .eq 7, 3) := by decide +kernel
theorem dX6_isAnyOne_36 : decode cX6_isAnyOne 36 = .ok (.iconst 1, 1) := by decide +kernel
theorem dX6_isAnyOne_37 : decode cX6_isAnyOne 37 = .ok (.goto 4, 3) := by decide +kernel
theorem dX6_isAnyOne_40 : decode cX6_isAnyOne 40 = .ok (.iconst 0, 1) := by decide +kernel
theorem dX6_isAnyOne_41 : decode cX6_isAnyOne 41 = .ok (.istore 4, 2) := by decide +kernel
theorem dX6_isAnyOne_43 : decode cX6_isAnyOne 43 = .ok (.iinc 5 1, 3) := by decide +kernel
theorem dX6_isAnyOne_46 : decode cX6_isAnyOne 46 = .ok (.goto (-40), 3) := by decide +kernel
theorem dX6_isAnyOne_49 : decode cX6_isAnyOne 49 = .ok (.iload 4, 2) := by decide +kernel
theorem dX6_isAnyOne_51 : decode cX6_isAnyOne 51 = .ok (.ireturn, 1) := by decide +kernel
theorem dX6_halves_0 : decode cX6_halves 0 = .ok (.iload_n 1, 1) := by decide +kernel
theorem dX6_halves_1 : decode cX6_halves 1 = .ok (.invokestatic 57, 3) := by decide +kernel
theorem dX6_halves_4 : decode cX6_halves 4 = .ok (.ifCond .ne 5, 3) := by decide +kernel
theorem dX6_halves_7 : decode cX6_halves 7 = .ok (.iconst (-1), 1) := by decide +kernel
theorem dX6_halves_8 : decode cX6_halves 8 = .ok (.ireturn, 1) := by decide +kernel
theorem dX6_halves_9 : decode cX6_halves 9 = .ok (.iload_n 2, 1) := by decide +kernel
theorem dX6_halves_10 : decode cX6_halves 10 = .ok (.iconst 0, 1) := by decide +kernel
theorem dX6_halves_11 : decode cX6_halves 11 = .ok (.iconst 1, 1) := by decide +kernel
theorem dX6_halves_12 : decode cX6_halves 12 = .ok (.invokestatic 53, 3) := by decide +kernel
theorem dX6_halves_15 : decode cX6_halves 15 = .ok (.ifCond .ne 6, 3) := by decide +kernel
theorem dX6_halves_18 : decode cX6_halves 18 = .ok (.bipush (-2), 2) := by decide +kernel
theorem dX6_halves_20 : decode cX6_halves 20 = .ok (.ireturn, 1) := by decide +kernel
theorem dX6_halves_21 : decode cX6_halves 21 = .ok (.aload_n 0, 1) := by decide +kernel
theorem dX6_halves_22 : decode cX6_halves 22 = .ok (.invokevirtual 101, 3) := by decide +kernel
theorem dX6_halves_25 : decode cX6_halves 25 = .ok (.iconst 0, 1) := by decide +kernel
theorem dX6_halves_26 : decode cX6_halves 26 = .ok (.istore_n 3, 1) := by decide +kernel
theorem dX6_halves_27 : decode cX6_halves 27 = .ok (.iload_n 3, 1) := by decide +kernel
theorem dX6_halves_28 : decode cX6_halves 28 = .ok (.iconst 3, 1) := by decide +kernel
theorem dX6_halves_29 : decode cX6_halves 29 = .ok (.if_icmp .ge 27, 3) := by decide +kernel
theorem dX6_halves_32 : decode cX6_halves 32 = .ok (.aload_n 0, 1) := by decide +kernel
theorem dX6_halves_33 : decode cX6_halves 33 = .ok (.getfield 50, 3) := by decide +kernel
theorem dX6_halves_36 : decode cX6_halves 36 = .ok (.iload_n 3, 1) := by decide +kernel
theorem dX6_halves_37 : decode cX6_halves 37 = .ok (.iload_n 3, 1) := by decide +kernel
theorem dX6_halves_38 : decode cX6_halves 38 = .ok (.iload_n 1, 1) := by decide +kernel
theorem dX6_halves_39 : decode cX6_halves 39 = .ok (.if_icmp .ge 7, 3) := by decide +kernel
theorem dX6_halves_42 : decode cX6_halves 42 = .ok (.iload_n 3, 1) := by decide +kernel
theorem dX6_halves_43 : decode cX6_halves 43 = .ok (.goto 6, 3) := by decide +kernel
theorem dX6_halves_46 : decode cX6_halves 46 = .ok (.iload_n 3, 1) := by decide +kernel
theorem dX6_halves_47 : decode cX6_halves 47 = .ok (.iconst 1, 1) := by decide +kernel
theorem dX6_halves_48 : decode cX6_halves 48 = .ok (.iadd, 1) := by decide +kernel
theorem dX6_halves_49 : decode cX6_halves 49 = .ok (.iastore, 1) := by decide +kernel
theorem dX6_halves_50 : decode cX6_halves 50 = .ok (.iinc 3 1, 3) := by decide +kernel
theorem dX6_halves_53 : decode cX6_halves 53 = .ok (.goto (-26), 3) := by decide +kernel
theorem dX6_halves_56 : decode cX6_halves 56 = .ok (.iconst 0, 1) := by decide +kernel
theorem dX6_halves_57 : decode cX6_halves 57 = .ok (.istore_n 3, 1) := by decide +kernel
theorem dX6_halves_58 : decode cX6_halves 58 = .ok (.iconst 3, 1) := by decide +kernel
theorem dX6_halves_59 : decode cX6_halves 59 = .ok (.istore 4, 2) := by decide +kernel
theorem dX6_halves_61 : decode cX6_halves 61 = .ok (.iconst 0, 1) := by decide +kernel
theorem dX6_halves_62 : decode cX6_halves 62 = .ok (.istore 5, 2) := by decide +kernel
theorem dX6_halves_64 : decode cX6_halves 64 = .ok (.iload 4, 2) := by decide +kernel
theorem dX6_halves_66 : decode cX6_halves 66 = .ok (.iload_n 3, 1) := by decide +kernel
theorem dX6_halves_67 : decode cX6_halves 67 = .ok (.isub, 1) := by decide +kernel
theorem dX6_halves_68 : decode cX6_halves 68 = .ok (.iconst 1, 1) := by decide +kernel
theorem dX6_halves_69 : decode cX6_halves 69 = .ok (.if_icmp .le 40, 3) := by decide +kernel
theorem dX6_halves_72 : decode cX6_halves 72 = .ok (.iload_n 3, 1) := by decide +kernel
theorem dX6_halves_73 : decode cX6_halves 73 = .ok (.iload 4, 2) := by decide +kernel
theorem dX6_halves_75 : decode cX6_halves 75 = .ok (.iload_n 3, 1) := by decide +kernel
theorem dX6_halves_76 : decode cX6_halves 76 = .ok (.isub, 1) := by decide +kernel
theorem dX6_halves_77 : decode cX6_halves 77 = .ok (.iconst 2, 1) := by decide +kernel
theorem dX6_halves_78 : decode cX6_halves 78 = .ok (.idiv, 1) := by decide +kernel
theorem dX6_halves_79 : decode cX6_halves 79 = .ok (.iadd, 1) := by decide +kernel
theorem dX6_halves_80 : decode cX6_halves 80 = .ok (.istore 6, 2) := by decide +kernel
theorem dX6_halves_82 : decode cX6_halves 82 = .ok (.iinc 5 1, 3) := by decide +kernel
theorem dX6_halves_85 : decode cX6_halves 85 = .ok (.aload_n 0, 1) := by decide +kernel
theorem dX6_halves_86 : decode cX6_halves 86 = .ok (.iload_n 1, 1) := by decide +kernel
theorem dX6_halves_87 : decode cX6_halves 87 = .ok (.iload_n 3, 1) := by decide +kernel
theorem dX6_halves_88 : decode cX6_halves 88 = .ok (.iload 6, 2) := by decide +kernel
theorem dX6_halves_90 : decode cX6_halves 90 = .ok (.invokevirtual 156, 3) := by decide +kernel
theorem dX6_halves_93 : decode cX6_halves 93 = .ok (.ifCond .eq 10, 3) := by decide +kernel
theorem dX6_halves_96 : decode cX6_halves 96 = .ok (.iload 6, 2) := by decide +kernel
theorem dX6_halves_98 : decode cX6_halves 98 = .ok (.istore 4, 2) := by decide +kernel
theorem dX6_halves_100 : decode cX6_halves 100 = .ok (.goto 6, 3) := by decide +kernel
theorem dX6_halves_103 : decode cX6_halves 103 = .ok (.iload 6, 2) := by decide +kernel
theorem dX6_halves_105 : decode cX6_halves 105 = .ok (.istore_n 3, 1) := by decide +kernel
theorem dX6_halves_106 : decode cX6_halves 106 = .ok (.goto (-42), 3) := by decide +kernel
theorem dX6_halves_109 : decode cX6_halves 109 = .ok (.iinc 5 1, 3) := by decide +kernel
theorem dX6_halves_112 : decode cX6_halves 112 = .ok (.iload_n 2, 1) := by decide +kernel
theorem dX6_halves_113 : decode cX6_halves 113 = .ok (.ifCond .ne 8, 3) := by decide +kernel
theorem dX6_halves_116 : decode cX6_halves 116 = .ok (.iload 5, 2) := by decide +kernel
theorem dX6_halves_118 : decode cX6_halves 118 = .ok (.goto 32, 3) := by decide +kernel
theorem dX6_halves_121 : decode cX6_halves 121 = .ok (.aload_n 0, 1) := by decide +kernel
theorem dX6_halves_122 : decode cX6_halves 122 = .ok (.getfield 38, 3) := by decide +kernel
theorem dX6_halves_125 : decode cX6_halves 125 = .ok (.iconst 4, 1) := by decide +kernel
theorem dX6_halves_126 : decode cX6_halves 126 = .ok (.iload_n 1, 1) := by decide +kernel
theorem dX6_halves_127 : decode cX6_halves 127 = .ok (.imul, 1) := by decide +kernel
theorem dX6_halves_128 : decode cX6_halves 128 = .ok (.aload_n 0, 1) := by decide +kernel
theorem dX6_halves_129 : decode cX6_halves 129 = .ok (.getfield 50, 3) := by decide +kernel
theorem dX6_halves_132 : decode cX6_halves 132 = .ok (.iload_n 3, 1) := by decide +kernel
theorem dX6_halves_133 : decode cX6_halves 133 = .ok (.iaload, 1) := by decide +kernel
theorem dX6_halves_134 : decode cX6_halves 134 = .ok (.iadd, 1) := by decide +kernel
theorem dX6_halves_135 : decode cX6_halves 135 = .ok (.baload, 1) := by decide +kernel
theorem dX6_halves_136 : decode cX6_halves 136 = .ok (.ifCond .eq 12, 3) := by decide +kernel
theorem dX6_halves_139 : decode cX6_halves 139 = .ok (.aload_n 0, 1) := by decide +kernel
theorem dX6_halves_140 : decode cX6_halves 140 = .ok (.getfield 50, 3) := by decide +kernel
theorem dX6_halves_143 : decode cX6_halves 143 = .ok (.iload_n 3, 1) := by decide +kernel
theorem dX6_halves_144 : decode cX6_halves 144 = .ok (.iaload, 1) := by decide +kernel
theorem dX6_halves_145 : decode cX6_halves 145 = .ok (.goto 5, 3) := by decide +kernel
theorem dX6_halves_148 : decode cX6_halves 148 = .ok (.bipush (-6), 2) := by decide +kernel
theorem dX6_halves_150 : decode cX6_halves 150 = .ok (.ireturn, 1) := by decide +kernel
theorem dX6_image_0 : decode cX6_image 0 = .ok (.iload_n 1, 1) := by decide +kernel
theorem dX6_image_1 : decode cX6_image 1 = .ok (.iconst 0, 1) := by decide +kernel
theorem dX6_image_2 : decode cX6_image 2 = .ok (.iconst 1, 1) := by decide +kernel
theorem dX6_image_3 : decode cX6_image 3 = .ok (.invokestatic 53, 3) := by decide +kernel
theorem dX6_image_6 : decode cX6_image 6 = .ok (.ifCond .ne 6, 3) := by decide +kernel
theorem dX6_image_9 : decode cX6_image 9 = .ok (.bipush (-2), 2) := by decide +kernel
theorem dX6_image_11 : decode cX6_image 11 = .ok (.ireturn, 1) := by decide +kernel
theorem dX6_image_12 : decode cX6_image 12 = .ok (.iconst 0, 1) := by decide +kernel
theorem dX6_image_13 : decode cX6_image 13 = .ok (.istore_n 2, 1) := by decide +kernel
theorem dX6_image_14 : decode cX6_image 14 = .ok (.iload_n 2, 1) := by decide +kernel
theorem dX6_image_15 : decode cX6_image 15 = .ok (.bipush 40, 2) := by decide +kernel
theorem dX6_image_17 : decode cX6_image 17 = .ok (.if_icmp .ge 26, 3) := by decide +kernel
theorem dX6_image_20 : decode cX6_image 20 = .ok (.aload_n 0, 1) := by decide +kernel
theorem dX6_image_21 : decode cX6_image 21 = .ok (.getfield 13, 3) := by decide +kernel
theorem dX6_image_24 : decode cX6_image 24 = .ok (.bipush 40, 2) := by decide +kernel
theorem dX6_image_26 : decode cX6_image 26 = .ok (.iload_n 1, 1) := by decide +kernel
theorem dX6_image_27 : decode cX6_image 27 = .ok (.imul, 1) := by decide +kernel
theorem dX6_image_28 : decode cX6_image 28 = .ok (.iload_n 2, 1) := by decide +kernel
theorem dX6_image_29 : decode cX6_image 29 = .ok (.iadd, 1) := by decide +kernel
theorem dX6_image_30 : decode cX6_image 30 = .ok (.aload_n 0, 1) := by decide +kernel
theorem dX6_image_31 : decode cX6_image 31 = .ok (.getfield 7, 3) := by decide +kernel
theorem dX6_image_34 : decode cX6_image 34 = .ok (.iload_n 2, 1) := by decide +kernel
theorem dX6_image_35 : decode cX6_image 35 = .ok (.iaload, 1) := by decide +kernel
theorem dX6_image_36 : decode cX6_image 36 = .ok (.iastore, 1) := by decide +kernel
theorem dX6_image_37 : decode cX6_image 37 = .ok (.iinc 2 1, 3) := by decide +kernel
theorem dX6_image_40 : decode cX6_image 40 = .ok (.goto (-26), 3) := by decide +kernel
theorem dX6_image_43 : decode cX6_image 43 = .ok (.aload_n 0, 1) := by decide +kernel
theorem dX6_image_44 : decode cX6_image 44 = .ok (.getfield 16, 3) := by decide +kernel
theorem dX6_image_47 : decode cX6_image 47 = .ok (.iload_n 1, 1) := by decide +kernel
theorem dX6_image_48 : decode cX6_image 48 = .ok (.iconst 1, 1) := by decide +kernel
theorem dX6_image_49 : decode cX6_image 49 = .ok (.bastore, 1) := by decide +kernel
theorem dX6_image_50 : decode cX6_image 50 = .ok (.iconst 1, 1) := by decide +kernel
theorem dX6_image_51 : decode cX6_image 51 = .ok (.ireturn, 1) := by decide +kernel
theorem dX6_restore_0 : decode cX6_restore 0 = .ok (.iload_n 1, 1) := by decide +kernel
theorem dX6_restore_1 : decode cX6_restore 1 = .ok (.iconst 0, 1) := by decide +kernel
theorem dX6_restore_2 : decode cX6_restore 2 = .ok (.iconst 1, 1) := by decide +kernel
theorem dX6_restore_3 : decode cX6_restore 3 = .ok (.invokestatic 53, 3) := by decide +kernel
theorem dX6_restore_6 : decode cX6_restore 6 = .ok (.ifCond .ne 6, 3) := by decide +kernel
theorem dX6_restore_9 : decode cX6_restore 9 = .ok (.bipush (-2), 2) := by decide +kernel
theorem dX6_restore_11 : decode cX6_restore 11 = .ok (.ireturn, 1) := by decide +kernel
theorem dX6_restore_12 : decode cX6_restore 12 = .ok (.aload_n 0, 1) := by decide +kernel
theorem dX6_restore_13 : decode cX6_restore 13 = .ok (.getfield 16, 3) := by decide +kernel
theorem dX6_restore_16 : decode cX6_restore 16 = .ok (.iload_n 1, 1) := by decide +kernel
theorem dX6_restore_17 : decode cX6_restore 17 = .ok (.baload, 1) := by decide +kernel
theorem dX6_restore_18 : decode cX6_restore 18 = .ok (.ifCond .ne 6, 3) := by decide +kernel
theorem dX6_restore_21 : decode cX6_restore 21 = .ok (.bipush (-3), 2) := by decide +kernel
theorem dX6_restore_23 : decode cX6_restore 23 = .ok (.ireturn, 1) := by decide +kernel
theorem dX6_restore_24 : decode cX6_restore 24 = .ok (.iconst 0, 1) := by decide +kernel
theorem dX6_restore_25 : decode cX6_restore 25 = .ok (.istore_n 2, 1) := by decide +kernel
theorem dX6_restore_26 : decode cX6_restore 26 = .ok (.iload_n 2, 1) := by decide +kernel
theorem dX6_restore_27 : decode cX6_restore 27 = .ok (.bipush 40, 2) := by decide +kernel
theorem dX6_restore_29 : decode cX6_restore 29 = .ok (.if_icmp .ge 26, 3) := by decide +kernel
theorem dX6_restore_32 : decode cX6_restore 32 = .ok (.aload_n 0, 1) := by decide +kernel
theorem dX6_restore_33 : decode cX6_restore 33 = .ok (.getfield 7, 3) := by decide +kernel
theorem dX6_restore_36 : decode cX6_restore 36 = .ok (.iload_n 2, 1) := by decide +kernel
theorem dX6_restore_37 : decode cX6_restore 37 = .ok (.aload_n 0, 1) := by decide +kernel
theorem dX6_restore_38 : decode cX6_restore 38 = .ok (.getfield 13, 3) := by decide +kernel
theorem dX6_restore_41 : decode cX6_restore 41 = .ok (.bipush 40, 2) := by decide +kernel
theorem dX6_restore_43 : decode cX6_restore 43 = .ok (.iload_n 1, 1) := by decide +kernel
theorem dX6_restore_44 : decode cX6_restore 44 = .ok (.imul, 1) := by decide +kernel
theorem dX6_restore_45 : decode cX6_restore 45 = .ok (.iload_n 2, 1) := by decide +kernel
theorem dX6_restore_46 : decode cX6_restore 46 = .ok (.iadd, 1) := by decide +kernel
theorem dX6_restore_47 : decode cX6_restore 47 = .ok (.iaload, 1) := by decide +kernel
theorem dX6_restore_48 : decode cX6_restore 48 = .ok (.iastore, 1) := by decide +kernel
theorem dX6_restore_49 : decode cX6_restore 49 = .ok (.iinc 2 1, 3) := by decide +kernel
theorem dX6_restore_52 : decode cX6_restore 52 = .ok (.goto (-26), 3) := by decide +kernel
end
section
theorem dX6_restore_55 : decode cX6_restore 55 = .ok (.iconst 1, 1) := by decide +kernel
theorem dX6_restore_56 : decode cX6_restore 56 = .ok (.ireturn, 1) := by decide +kernel
theorem dX6_apartMany_0 : decode cX6_apartMany 0 = .ok (.iconst 0, 1) := by decide +kernel
theorem dX6_apartMany_1 : decode cX6_apartMany 1 = .ok (.istore_n 1, 1) := by decide +kernel
theorem dX6_apartMany_2 : decode cX6_apartMany 2 = .ok (.iconst 0, 1) := by decide +kernel
theorem dX6_apartMany_3 : decode cX6_apartMany 3 = .ok (.istore_n 2, 1) := by decide +kernel
theorem dX6_apartMany_4 : decode cX6_apartMany 4 = .ok (.iload_n 2, 1) := by decide +kernel
theorem dX6_apartMany_5 : decode cX6_apartMany 5 = .ok (.aload_n 0, 1) := by decide +kernel
theorem dX6_apartMany_6 : decode cX6_apartMany 6 = .ok (.getfield 72, 3) := by decide +kernel
theorem dX6_apartMany_9 : decode cX6_apartMany 9 = .ok (.if_icmp .ge 26, 3) := by decide +kernel
theorem dX6_apartMany_12 : decode cX6_apartMany 12 = .ok (.iload_n 1, 1) := by decide +kernel
theorem dX6_apartMany_13 : decode cX6_apartMany 13 = .ok (.aload_n 0, 1) := by decide +kernel
theorem dX6_apartMany_14 : decode cX6_apartMany 14 = .ok (.getfield 29, 3) := by decide +kernel
theorem dX6_apartMany_17 : decode cX6_apartMany 17 = .ok (.iload_n 2, 1) := by decide +kernel
theorem dX6_apartMany_18 : decode cX6_apartMany 18 = .ok (.baload, 1) := by decide +kernel
theorem dX6_apartMany_19 : decode cX6_apartMany 19 = .ok (.ifCond .eq 7, 3) := by decide +kernel
theorem dX6_apartMany_22 : decode cX6_apartMany 22 = .ok (.iconst 1, 1) := by decide +kernel
theorem dX6_apartMany_23 : decode cX6_apartMany 23 = .ok (.goto 4, 3) := by decide +kernel
theorem dX6_apartMany_26 : decode cX6_apartMany 26 = .ok (.iconst 0, 1) := by decide +kernel
theorem dX6_apartMany_27 : decode cX6_apartMany 27 = .ok (.iadd, 1) := by decide +kernel
theorem dX6_apartMany_28 : decode cX6_apartMany 28 = .ok (.istore_n 1, 1) := by decide +kernel
theorem dX6_apartMany_29 : decode cX6_apartMany 29 = .ok (.iinc 2 1, 3) := by decide +kernel
theorem dX6_apartMany_32 : decode cX6_apartMany 32 = .ok (.goto (-28), 3) := by decide +kernel
theorem dX6_apartMany_35 : decode cX6_apartMany 35 = .ok (.iload_n 1, 1) := by decide +kernel
theorem dX6_apartMany_36 : decode cX6_apartMany 36 = .ok (.ireturn, 1) := by decide +kernel
theorem dX6_netsUsed_0 : decode cX6_netsUsed 0 = .ok (.iconst 0, 1) := by decide +kernel
theorem dX6_netsUsed_1 : decode cX6_netsUsed 1 = .ok (.istore_n 1, 1) := by decide +kernel
theorem dX6_netsUsed_2 : decode cX6_netsUsed 2 = .ok (.iconst 0, 1) := by decide +kernel
theorem dX6_netsUsed_3 : decode cX6_netsUsed 3 = .ok (.istore_n 2, 1) := by decide +kernel
theorem dX6_netsUsed_4 : decode cX6_netsUsed 4 = .ok (.iload_n 2, 1) := by decide +kernel
theorem dX6_netsUsed_5 : decode cX6_netsUsed 5 = .ok (.aload_n 0, 1) := by decide +kernel
theorem dX6_netsUsed_6 : decode cX6_netsUsed 6 = .ok (.getfield 7, 3) := by decide +kernel
theorem dX6_netsUsed_9 : decode cX6_netsUsed 9 = .ok (.iconst 0, 1) := by decide +kernel
theorem dX6_netsUsed_10 : decode cX6_netsUsed 10 = .ok (.iaload, 1) := by decide +kernel
theorem dX6_netsUsed_11 : decode cX6_netsUsed 11 = .ok (.if_icmp .ge 22, 3) := by decide +kernel
theorem dX6_netsUsed_14 : decode cX6_netsUsed 14 = .ok (.iload_n 1, 1) := by decide +kernel
theorem dX6_netsUsed_15 : decode cX6_netsUsed 15 = .ok (.iconst 1, 1) := by decide +kernel
theorem dX6_netsUsed_16 : decode cX6_netsUsed 16 = .ok (.aload_n 0, 1) := by decide +kernel
theorem dX6_netsUsed_17 : decode cX6_netsUsed 17 = .ok (.getfield 7, 3) := by decide +kernel
theorem dX6_netsUsed_20 : decode cX6_netsUsed 20 = .ok (.iconst 1, 1) := by decide +kernel
theorem dX6_netsUsed_21 : decode cX6_netsUsed 21 = .ok (.iload_n 2, 1) := by decide +kernel
theorem dX6_netsUsed_22 : decode cX6_netsUsed 22 = .ok (.iadd, 1) := by decide +kernel
theorem dX6_netsUsed_23 : decode cX6_netsUsed 23 = .ok (.iaload, 1) := by decide +kernel
theorem dX6_netsUsed_24 : decode cX6_netsUsed 24 = .ok (.ishl, 1) := by decide +kernel
theorem dX6_netsUsed_25 : decode cX6_netsUsed 25 = .ok (.ior, 1) := by decide +kernel
theorem dX6_netsUsed_26 : decode cX6_netsUsed 26 = .ok (.istore_n 1, 1) := by decide +kernel
theorem dX6_netsUsed_27 : decode cX6_netsUsed 27 = .ok (.iinc 2 1, 3) := by decide +kernel
theorem dX6_netsUsed_30 : decode cX6_netsUsed 30 = .ok (.goto (-26), 3) := by decide +kernel
theorem dX6_netsUsed_33 : decode cX6_netsUsed 33 = .ok (.iload_n 1, 1) := by decide +kernel
theorem dX6_netsUsed_34 : decode cX6_netsUsed 34 = .ok (.iconst 1, 1) := by decide +kernel
theorem dX6_netsUsed_35 : decode cX6_netsUsed 35 = .ok (.iand, 1) := by decide +kernel
theorem dX6_netsUsed_36 : decode cX6_netsUsed 36 = .ok (.iload_n 1, 1) := by decide +kernel
theorem dX6_netsUsed_37 : decode cX6_netsUsed 37 = .ok (.iconst 1, 1) := by decide +kernel
theorem dX6_netsUsed_38 : decode cX6_netsUsed 38 = .ok (.ishr, 1) := by decide +kernel
theorem dX6_netsUsed_39 : decode cX6_netsUsed 39 = .ok (.iconst 1, 1) := by decide +kernel
theorem dX6_netsUsed_40 : decode cX6_netsUsed 40 = .ok (.iand, 1) := by decide +kernel
theorem dX6_netsUsed_41 : decode cX6_netsUsed 41 = .ok (.iadd, 1) := by decide +kernel
theorem dX6_netsUsed_42 : decode cX6_netsUsed 42 = .ok (.iload_n 1, 1) := by decide +kernel
theorem dX6_netsUsed_43 : decode cX6_netsUsed 43 = .ok (.iconst 2, 1) := by decide +kernel
theorem dX6_netsUsed_44 : decode cX6_netsUsed 44 = .ok (.ishr, 1) := by decide +kernel
theorem dX6_netsUsed_45 : decode cX6_netsUsed 45 = .ok (.iconst 1, 1) := by decide +kernel
theorem dX6_netsUsed_46 : decode cX6_netsUsed 46 = .ok (.iand, 1) := by decide +kernel
theorem dX6_netsUsed_47 : decode cX6_netsUsed 47 = .ok (.iadd, 1) := by decide +kernel
theorem dX6_netsUsed_48 : decode cX6_netsUsed 48 = .ok (.iload_n 1, 1) := by decide +kernel
theorem dX6_netsUsed_49 : decode cX6_netsUsed 49 = .ok (.iconst 3, 1) := by decide +kernel
theorem dX6_netsUsed_50 : decode cX6_netsUsed 50 = .ok (.ishr, 1) := by decide +kernel
theorem dX6_netsUsed_51 : decode cX6_netsUsed 51 = .ok (.iconst 1, 1) := by decide +kernel
theorem dX6_netsUsed_52 : decode cX6_netsUsed 52 = .ok (.iand, 1) := by decide +kernel
theorem dX6_netsUsed_53 : decode cX6_netsUsed 53 = .ok (.iadd, 1) := by decide +kernel
theorem dX6_netsUsed_54 : decode cX6_netsUsed 54 = .ok (.ireturn, 1) := by decide +kernel
theorem dX6_count_0 : decode cX6_count 0 = .ok (.aload_n 0, 1) := by decide +kernel
theorem dX6_count_1 : decode cX6_count 1 = .ok (.invokevirtual 107, 3) := by decide +kernel
theorem dX6_count_4 : decode cX6_count 4 = .ok (.iload_n 1, 1) := by decide +kernel
theorem dX6_count_5 : decode cX6_count 5 = .ok (.tableswitch 126 0 8 #[51, 58, 63, 68, 73, 78, 83, 91, 96], 51) := by decide +kernel
theorem dX6_count_56 : decode cX6_count 56 = .ok (.aload_n 0, 1) := by decide +kernel
theorem dX6_count_57 : decode cX6_count 57 = .ok (.getfield 7, 3) := by decide +kernel
theorem dX6_count_60 : decode cX6_count 60 = .ok (.iconst 0, 1) := by decide +kernel
theorem dX6_count_61 : decode cX6_count 61 = .ok (.iaload, 1) := by decide +kernel
theorem dX6_count_62 : decode cX6_count 62 = .ok (.ireturn, 1) := by decide +kernel
theorem dX6_count_63 : decode cX6_count 63 = .ok (.aload_n 0, 1) := by decide +kernel
theorem dX6_count_64 : decode cX6_count 64 = .ok (.getfield 72, 3) := by decide +kernel
theorem dX6_count_67 : decode cX6_count 67 = .ok (.ireturn, 1) := by decide +kernel
theorem dX6_count_68 : decode cX6_count 68 = .ok (.aload_n 0, 1) := by decide +kernel
theorem dX6_count_69 : decode cX6_count 69 = .ok (.invokevirtual 159, 3) := by decide +kernel
theorem dX6_count_72 : decode cX6_count 72 = .ok (.ireturn, 1) := by decide +kernel
theorem dX6_count_73 : decode cX6_count 73 = .ok (.aload_n 0, 1) := by decide +kernel
theorem dX6_count_74 : decode cX6_count 74 = .ok (.invokevirtual 162, 3) := by decide +kernel
theorem dX6_count_77 : decode cX6_count 77 = .ok (.ireturn, 1) := by decide +kernel
theorem dX6_count_78 : decode cX6_count 78 = .ok (.aload_n 0, 1) := by decide +kernel
theorem dX6_count_79 : decode cX6_count 79 = .ok (.invokevirtual 144, 3) := by decide +kernel
theorem dX6_count_82 : decode cX6_count 82 = .ok (.ireturn, 1) := by decide +kernel
theorem dX6_count_83 : decode cX6_count 83 = .ok (.aload_n 0, 1) := by decide +kernel
theorem dX6_count_84 : decode cX6_count 84 = .ok (.invokevirtual 147, 3) := by decide +kernel
theorem dX6_count_87 : decode cX6_count 87 = .ok (.ireturn, 1) := by decide +kernel
theorem dX6_count_88 : decode cX6_count 88 = .ok (.aload_n 0, 1) := by decide +kernel
theorem dX6_count_89 : decode cX6_count 89 = .ok (.getfield 7, 3) := by decide +kernel
theorem dX6_count_92 : decode cX6_count 92 = .ok (.bipush 33, 2) := by decide +kernel
theorem dX6_count_94 : decode cX6_count 94 = .ok (.iaload, 1) := by decide +kernel
theorem dX6_count_95 : decode cX6_count 95 = .ok (.ireturn, 1) := by decide +kernel
theorem dX6_count_96 : decode cX6_count 96 = .ok (.aload_n 0, 1) := by decide +kernel
theorem dX6_count_97 : decode cX6_count 97 = .ok (.getfield 126, 3) := by decide +kernel
theorem dX6_count_100 : decode cX6_count 100 = .ok (.ireturn, 1) := by decide +kernel
theorem dX6_count_101 : decode cX6_count 101 = .ok (.aload_n 0, 1) := by decide +kernel
theorem dX6_count_102 : decode cX6_count 102 = .ok (.getfield 16, 3) := by decide +kernel
theorem dX6_count_105 : decode cX6_count 105 = .ok (.iconst 0, 1) := by decide +kernel
theorem dX6_count_106 : decode cX6_count 106 = .ok (.baload, 1) := by decide +kernel
theorem dX6_count_107 : decode cX6_count 107 = .ok (.ifCond .eq 7, 3) := by decide +kernel
theorem dX6_count_110 : decode cX6_count 110 = .ok (.iconst 1, 1) := by decide +kernel
theorem dX6_count_111 : decode cX6_count 111 = .ok (.goto 4, 3) := by decide +kernel
theorem dX6_count_114 : decode cX6_count 114 = .ok (.iconst 0, 1) := by decide +kernel
theorem dX6_count_115 : decode cX6_count 115 = .ok (.aload_n 0, 1) := by decide +kernel
theorem dX6_count_116 : decode cX6_count 116 = .ok (.getfield 16, 3) := by decide +kernel
theorem dX6_count_119 : decode cX6_count 119 = .ok (.iconst 1, 1) := by decide +kernel
theorem dX6_count_120 : decode cX6_count 120 = .ok (.baload, 1) := by decide +kernel
theorem dX6_count_121 : decode cX6_count 121 = .ok (.ifCond .eq 7, 3) := by decide +kernel
theorem dX6_count_124 : decode cX6_count 124 = .ok (.iconst 2, 1) := by decide +kernel
theorem dX6_count_125 : decode cX6_count 125 = .ok (.goto 4, 3) := by decide +kernel
theorem dX6_count_128 : decode cX6_count 128 = .ok (.iconst 0, 1) := by decide +kernel
theorem dX6_count_129 : decode cX6_count 129 = .ok (.iadd, 1) := by decide +kernel
theorem dX6_count_130 : decode cX6_count 130 = .ok (.ireturn, 1) := by decide +kernel
theorem dX6_count_131 : decode cX6_count 131 = .ok (.bipush (-2), 2) := by decide +kernel
theorem dX6_count_133 : decode cX6_count 133 = .ok (.ireturn, 1) := by decide +kernel
theorem dJ6_bitCount_0f7a4_0 : decode cJ6_bitCount_0f7a4 0 = .ok (.iload_n 0, 1) := by decide +kernel
theorem dJ6_bitCount_0f7a4_1 : decode cJ6_bitCount_0f7a4 1 = .ok (.iload_n 0, 1) := by decide +kernel
theorem dJ6_bitCount_0f7a4_2 : decode cJ6_bitCount_0f7a4 2 = .ok (.iconst 1, 1) := by decide +kernel
theorem dJ6_bitCount_0f7a4_3 : decode cJ6_bitCount_0f7a4 3 = .ok (.iushr, 1) := by decide +kernel
theorem dJ6_bitCount_0f7a4_4 : decode cJ6_bitCount_0f7a4 4 = .ok (.ldc_w 265, 3) := by decide +kernel
theorem dJ6_bitCount_0f7a4_7 : decode cJ6_bitCount_0f7a4 7 = .ok (.iand, 1) := by decide +kernel
theorem dJ6_bitCount_0f7a4_8 : decode cJ6_bitCount_0f7a4 8 = .ok (.isub, 1) := by decide +kernel
theorem dJ6_bitCount_0f7a4_9 : decode cJ6_bitCount_0f7a4 9 = .ok (.istore_n 0, 1) := by decide +kernel
theorem dJ6_bitCount_0f7a4_10 : decode cJ6_bitCount_0f7a4 10 = .ok (.iload_n 0, 1) := by decide +kernel
theorem dJ6_bitCount_0f7a4_11 : decode cJ6_bitCount_0f7a4 11 = .ok (.ldc_w 266, 3) := by decide +kernel
theorem dJ6_bitCount_0f7a4_14 : decode cJ6_bitCount_0f7a4 14 = .ok (.iand, 1) := by decide +kernel
theorem dJ6_bitCount_0f7a4_15 : decode cJ6_bitCount_0f7a4 15 = .ok (.iload_n 0, 1) := by decide +kernel
theorem dJ6_bitCount_0f7a4_16 : decode cJ6_bitCount_0f7a4 16 = .ok (.iconst 2, 1) := by decide +kernel
theorem dJ6_bitCount_0f7a4_17 : decode cJ6_bitCount_0f7a4 17 = .ok (.iushr, 1) := by decide +kernel
theorem dJ6_bitCount_0f7a4_18 : decode cJ6_bitCount_0f7a4 18 = .ok (.ldc_w 266, 3) := by decide +kernel
theorem dJ6_bitCount_0f7a4_21 : decode cJ6_bitCount_0f7a4 21 = .ok (.iand, 1) := by decide +kernel
theorem dJ6_bitCount_0f7a4_22 : decode cJ6_bitCount_0f7a4 22 = .ok (.iadd, 1) := by decide +kernel
theorem dJ6_bitCount_0f7a4_23 : decode cJ6_bitCount_0f7a4 23 = .ok (.istore_n 0, 1) := by decide +kernel
theorem dJ6_bitCount_0f7a4_24 : decode cJ6_bitCount_0f7a4 24 = .ok (.iload_n 0, 1) := by decide +kernel
theorem dJ6_bitCount_0f7a4_25 : decode cJ6_bitCount_0f7a4 25 = .ok (.iload_n 0, 1) := by decide +kernel
theorem dJ6_bitCount_0f7a4_26 : decode cJ6_bitCount_0f7a4 26 = .ok (.iconst 4, 1) := by decide +kernel
theorem dJ6_bitCount_0f7a4_27 : decode cJ6_bitCount_0f7a4 27 = .ok (.iushr, 1) := by decide +kernel
theorem dJ6_bitCount_0f7a4_28 : decode cJ6_bitCount_0f7a4 28 = .ok (.iadd, 1) := by decide +kernel
theorem dJ6_bitCount_0f7a4_29 : decode cJ6_bitCount_0f7a4 29 = .ok (.ldc_w 267, 3) := by decide +kernel
theorem dJ6_bitCount_0f7a4_32 : decode cJ6_bitCount_0f7a4 32 = .ok (.iand, 1) := by decide +kernel
theorem dJ6_bitCount_0f7a4_33 : decode cJ6_bitCount_0f7a4 33 = .ok (.istore_n 0, 1) := by decide +kernel
theorem dJ6_bitCount_0f7a4_34 : decode cJ6_bitCount_0f7a4 34 = .ok (.iload_n 0, 1) := by decide +kernel
theorem dJ6_bitCount_0f7a4_35 : decode cJ6_bitCount_0f7a4 35 = .ok (.iload_n 0, 1) := by decide +kernel
theorem dJ6_bitCount_0f7a4_36 : decode cJ6_bitCount_0f7a4 36 = .ok (.bipush 8, 2) := by decide +kernel
theorem dJ6_bitCount_0f7a4_38 : decode cJ6_bitCount_0f7a4 38 = .ok (.iushr, 1) := by decide +kernel
theorem dJ6_bitCount_0f7a4_39 : decode cJ6_bitCount_0f7a4 39 = .ok (.iadd, 1) := by decide +kernel
theorem dJ6_bitCount_0f7a4_40 : decode cJ6_bitCount_0f7a4 40 = .ok (.istore_n 0, 1) := by decide +kernel
theorem dJ6_bitCount_0f7a4_41 : decode cJ6_bitCount_0f7a4 41 = .ok (.iload_n 0, 1) := by decide +kernel
theorem dJ6_bitCount_0f7a4_42 : decode cJ6_bitCount_0f7a4 42 = .ok (.iload_n 0, 1) := by decide +kernel
theorem dJ6_bitCount_0f7a4_43 : decode cJ6_bitCount_0f7a4 43 = .ok (.bipush 16, 2) := by decide +kernel
theorem dJ6_bitCount_0f7a4_45 : decode cJ6_bitCount_0f7a4 45 = .ok (.iushr, 1) := by decide +kernel
theorem dJ6_bitCount_0f7a4_46 : decode cJ6_bitCount_0f7a4 46 = .ok (.iadd, 1) := by decide +kernel
theorem dJ6_bitCount_0f7a4_47 : decode cJ6_bitCount_0f7a4 47 = .ok (.istore_n 0, 1) := by decide +kernel
theorem dJ6_bitCount_0f7a4_48 : decode cJ6_bitCount_0f7a4 48 = .ok (.iload_n 0, 1) := by decide +kernel
theorem dJ6_bitCount_0f7a4_49 : decode cJ6_bitCount_0f7a4 49 = .ok (.bipush 63, 2) := by decide +kernel
theorem dJ6_bitCount_0f7a4_51 : decode cJ6_bitCount_0f7a4 51 = .ok (.iand, 1) := by decide +kernel
theorem dJ6_bitCount_0f7a4_52 : decode cJ6_bitCount_0f7a4 52 = .ok (.ireturn, 1) := by decide +kernel
theorem dJ9_abs_0f7a4_0 : decode cJ9_abs_0f7a4 0 = .ok (.iload_n 0, 1) := by decide +kernel
theorem dJ9_abs_0f7a4_1 : decode cJ9_abs_0f7a4 1 = .ok (.ifCond .ge 8, 3) := by decide +kernel
theorem dJ9_abs_0f7a4_4 : decode cJ9_abs_0f7a4 4 = .ok (.iload_n 0, 1) := by decide +kernel
theorem dJ9_abs_0f7a4_5 : decode cJ9_abs_0f7a4 5 = .ok (.ineg, 1) := by decide +kernel
theorem dJ9_abs_0f7a4_6 : decode cJ9_abs_0f7a4 6 = .ok (.goto 4, 3) := by decide +kernel
theorem dJ9_abs_0f7a4_9 : decode cJ9_abs_0f7a4 9 = .ok (.iload_n 0, 1) := by decide +kernel
theorem dJ9_abs_0f7a4_10 : decode cJ9_abs_0f7a4 10 = .ok (.ireturn, 1) := by decide +kernel
theorem dJ9_max_7cf53_0 : decode cJ9_max_7cf53 0 = .ok (.iload_n 0, 1) := by decide +kernel
theorem dJ9_max_7cf53_1 : decode cJ9_max_7cf53 1 = .ok (.iload_n 1, 1) := by decide +kernel
theorem dJ9_max_7cf53_2 : decode cJ9_max_7cf53 2 = .ok (.if_icmp .lt 7, 3) := by decide +kernel
theorem dJ9_max_7cf53_5 : decode cJ9_max_7cf53 5 = .ok (.iload_n 0, 1) := by decide +kernel
theorem dJ9_max_7cf53_6 : decode cJ9_max_7cf53 6 = .ok (.goto 4, 3) := by decide +kernel
theorem dJ9_max_7cf53_9 : decode cJ9_max_7cf53 9 = .ok (.iload_n 1, 1) := by decide +kernel
theorem dJ9_max_7cf53_10 : decode cJ9_max_7cf53 10 = .ok (.ireturn, 1) := by decide +kernel
theorem dJ9_min_7cf53_0 : decode cJ9_min_7cf53 0 = .ok (.iload_n 0, 1) := by decide +kernel
theorem dJ9_min_7cf53_1 : decode cJ9_min_7cf53 1 = .ok (.iload_n 1, 1) := by decide +kernel
theorem dJ9_min_7cf53_2 : decode cJ9_min_7cf53 2 = .ok (.if_icmp .gt 7, 3) := by decide +kernel
theorem dJ9_min_7cf53_5 : decode cJ9_min_7cf53 5 = .ok (.iload_n 0, 1) := by decide +kernel
theorem dJ9_min_7cf53_6 : decode cJ9_min_7cf53 6 = .ok (.goto 4, 3) := by decide +kernel
theorem dJ9_min_7cf53_9 : decode cJ9_min_7cf53 9 = .ok (.iload_n 1, 1) := by decide +kernel
theorem dJ9_min_7cf53_10 : decode cJ9_min_7cf53 10 = .ok (.ireturn, 1) := by decide +kernel
theorem dL_law_0 : decode cL_law 0 = .ok (.new 7, 3) := by decide +kernel
theorem dL_law_3 : decode cL_law 3 = .ok (.dup, 1) := by decide +kernel
theorem dL_law_4 : decode cL_law 4 = .ok (.invokespecial 9, 3) := by decide +kernel
theorem dL_law_7 : decode cL_law 7 = .ok (.astore_n 1, 1) := by decide +kernel
theorem dL_law_8 : decode cL_law 8 = .ok (.new 10, 3) := by decide +kernel
theorem dL_law_11 : decode cL_law 11 = .ok (.dup, 1) := by decide +kernel
theorem dL_law_12 : decode cL_law 12 = .ok (.invokespecial 12, 3) := by decide +kernel
theorem dL_law_15 : decode cL_law 15 = .ok (.astore_n 2, 1) := by decide +kernel
theorem dL_law_16 : decode cL_law 16 = .ok (.iconst 0, 1) := by decide +kernel
theorem dL_law_17 : decode cL_law 17 = .ok (.istore_n 3, 1) := by decide +kernel
theorem dL_law_18 : decode cL_law 18 = .ok (.iload_n 3, 1) := by decide +kernel
theorem dL_law_19 : decode cL_law 19 = .ok (.aload_n 0, 1) := by decide +kernel
theorem dL_law_20 : decode cL_law 20 = .ok (.arraylength, 1) := by decide +kernel
theorem dL_law_21 : decode cL_law 21 = .ok (.iconst 4, 1) := by decide +kernel
theorem dL_law_22 : decode cL_law 22 = .ok (.isub, 1) := by decide +kernel
theorem dL_law_23 : decode cL_law 23 = .ok (.if_icmp .gt 705, 3) := by decide +kernel
theorem dL_law_26 : decode cL_law 26 = .ok (.aload_n 0, 1) := by decide +kernel
theorem dL_law_27 : decode cL_law 27 = .ok (.iload_n 3, 1) := by decide +kernel
theorem dL_law_28 : decode cL_law 28 = .ok (.iaload, 1) := by decide +kernel
theorem dL_law_29 : decode cL_law 29 = .ok (.bipush 31, 2) := by decide +kernel
theorem dL_law_31 : decode cL_law 31 = .ok (.iand, 1) := by decide +kernel
theorem dL_law_32 : decode cL_law 32 = .ok (.tableswitch 690 0 21 #[104, 147, 160, 203, 226, 259, 292, 325, 358, 381, 394, 407, 430, 453, 486, 529, 542, 565, 588, 621, 644, 667], 104) := by decide +kernel
theorem dL_law_136 : decode cL_law 136 = .ok (.aload_n 1, 1) := by decide +kernel
theorem dL_law_137 : decode cL_law 137 = .ok (.aload_n 0, 1) := by decide +kernel
theorem dL_law_138 : decode cL_law 138 = .ok (.iload_n 3, 1) := by decide +kernel
theorem dL_law_139 : decode cL_law 139 = .ok (.iconst 1, 1) := by decide +kernel
theorem dL_law_140 : decode cL_law 140 = .ok (.iadd, 1) := by decide +kernel
theorem dL_law_141 : decode cL_law 141 = .ok (.iaload, 1) := by decide +kernel
theorem dL_law_142 : decode cL_law 142 = .ok (.aload_n 0, 1) := by decide +kernel
theorem dL_law_143 : decode cL_law 143 = .ok (.iload_n 3, 1) := by decide +kernel
theorem dL_law_144 : decode cL_law 144 = .ok (.iconst 2, 1) := by decide +kernel
theorem dL_law_145 : decode cL_law 145 = .ok (.iadd, 1) := by decide +kernel
theorem dL_law_146 : decode cL_law 146 = .ok (.iaload, 1) := by decide +kernel
theorem dL_law_147 : decode cL_law 147 = .ok (.aload_n 0, 1) := by decide +kernel
theorem dL_law_148 : decode cL_law 148 = .ok (.iload_n 3, 1) := by decide +kernel
theorem dL_law_149 : decode cL_law 149 = .ok (.iconst 3, 1) := by decide +kernel
theorem dL_law_150 : decode cL_law 150 = .ok (.iadd, 1) := by decide +kernel
theorem dL_law_151 : decode cL_law 151 = .ok (.iaload, 1) := by decide +kernel
theorem dL_law_152 : decode cL_law 152 = .ok (.invokevirtual 13, 3) := by decide +kernel
theorem dL_law_155 : decode cL_law 155 = .ok (.aload_n 2, 1) := by decide +kernel
theorem dL_law_156 : decode cL_law 156 = .ok (.aload_n 0, 1) := by decide +kernel
theorem dL_law_157 : decode cL_law 157 = .ok (.iload_n 3, 1) := by decide +kernel
theorem dL_law_158 : decode cL_law 158 = .ok (.iconst 1, 1) := by decide +kernel
theorem dL_law_159 : decode cL_law 159 = .ok (.iadd, 1) := by decide +kernel
theorem dL_law_160 : decode cL_law 160 = .ok (.iaload, 1) := by decide +kernel
theorem dL_law_161 : decode cL_law 161 = .ok (.aload_n 0, 1) := by decide +kernel
theorem dL_law_162 : decode cL_law 162 = .ok (.iload_n 3, 1) := by decide +kernel
theorem dL_law_163 : decode cL_law 163 = .ok (.iconst 2, 1) := by decide +kernel
theorem dL_law_164 : decode cL_law 164 = .ok (.iadd, 1) := by decide +kernel
theorem dL_law_165 : decode cL_law 165 = .ok (.iaload, 1) := by decide +kernel
theorem dL_law_166 : decode cL_law 166 = .ok (.aload_n 0, 1) := by decide +kernel
theorem dL_law_167 : decode cL_law 167 = .ok (.iload_n 3, 1) := by decide +kernel
theorem dL_law_168 : decode cL_law 168 = .ok (.iconst 3, 1) := by decide +kernel
theorem dL_law_169 : decode cL_law 169 = .ok (.iadd, 1) := by decide +kernel
theorem dL_law_170 : decode cL_law 170 = .ok (.iaload, 1) := by decide +kernel
theorem dL_law_171 : decode cL_law 171 = .ok (.invokevirtual 17, 3) := by decide +kernel
theorem dL_law_174 : decode cL_law 174 = .ok (.if_icmp .eq 548, 3) := by decide +kernel
theorem dL_law_177 : decode cL_law 177 = .ok (.iconst 0, 1) := by decide +kernel
theorem dL_law_178 : decode cL_law 178 = .ok (.ireturn, 1) := by decide +kernel
theorem dL_law_179 : decode cL_law 179 = .ok (.aload_n 1, 1) := by decide +kernel
theorem dL_law_180 : decode cL_law 180 = .ok (.invokevirtual 18, 3) := by decide +kernel
theorem dL_law_183 : decode cL_law 183 = .ok (.aload_n 2, 1) := by decide +kernel
theorem dL_law_184 : decode cL_law 184 = .ok (.invokevirtual 22, 3) := by decide +kernel
theorem dL_law_187 : decode cL_law 187 = .ok (.if_icmp .eq 535, 3) := by decide +kernel
theorem dL_law_190 : decode cL_law 190 = .ok (.iconst 0, 1) := by decide +kernel
theorem dL_law_191 : decode cL_law 191 = .ok (.ireturn, 1) := by decide +kernel
theorem dL_law_192 : decode cL_law 192 = .ok (.aload_n 1, 1) := by decide +kernel
theorem dL_law_193 : decode cL_law 193 = .ok (.aload_n 0, 1) := by decide +kernel
theorem dL_law_194 : decode cL_law 194 = .ok (.iload_n 3, 1) := by decide +kernel
theorem dL_law_195 : decode cL_law 195 = .ok (.iconst 1, 1) := by decide +kernel
theorem dL_law_196 : decode cL_law 196 = .ok (.iadd, 1) := by decide +kernel
theorem dL_law_197 : decode cL_law 197 = .ok (.iaload, 1) := by decide +kernel
theorem dL_law_198 : decode cL_law 198 = .ok (.aload_n 0, 1) := by decide +kernel
theorem dL_law_199 : decode cL_law 199 = .ok (.iload_n 3, 1) := by decide +kernel
theorem dL_law_200 : decode cL_law 200 = .ok (.iconst 2, 1) := by decide +kernel
theorem dL_law_201 : decode cL_law 201 = .ok (.iadd, 1) := by decide +kernel
theorem dL_law_202 : decode cL_law 202 = .ok (.iaload, 1) := by decide +kernel
theorem dL_law_203 : decode cL_law 203 = .ok (.aload_n 0, 1) := by decide +kernel
theorem dL_law_204 : decode cL_law 204 = .ok (.iload_n 3, 1) := by decide +kernel
theorem dL_law_205 : decode cL_law 205 = .ok (.iconst 3, 1) := by decide +kernel
theorem dL_law_206 : decode cL_law 206 = .ok (.iadd, 1) := by decide +kernel
theorem dL_law_207 : decode cL_law 207 = .ok (.iaload, 1) := by decide +kernel
theorem dL_law_208 : decode cL_law 208 = .ok (.invokevirtual 23, 3) := by decide +kernel
theorem dL_law_211 : decode cL_law 211 = .ok (.aload_n 2, 1) := by decide +kernel
theorem dL_law_212 : decode cL_law 212 = .ok (.aload_n 0, 1) := by decide +kernel
theorem dL_law_213 : decode cL_law 213 = .ok (.iload_n 3, 1) := by decide +kernel
theorem dL_law_214 : decode cL_law 214 = .ok (.iconst 1, 1) := by decide +kernel
theorem dL_law_215 : decode cL_law 215 = .ok (.iadd, 1) := by decide +kernel
theorem dL_law_216 : decode cL_law 216 = .ok (.iaload, 1) := by decide +kernel
theorem dL_law_217 : decode cL_law 217 = .ok (.aload_n 0, 1) := by decide +kernel
theorem dL_law_218 : decode cL_law 218 = .ok (.iload_n 3, 1) := by decide +kernel
theorem dL_law_219 : decode cL_law 219 = .ok (.iconst 2, 1) := by decide +kernel
theorem dL_law_220 : decode cL_law 220 = .ok (.iadd, 1) := by decide +kernel
theorem dL_law_221 : decode cL_law 221 = .ok (.iaload, 1) := by decide +kernel
theorem dL_law_222 : decode cL_law 222 = .ok (.aload_n 0, 1) := by decide +kernel
theorem dL_law_223 : decode cL_law 223 = .ok (.iload_n 3, 1) := by decide +kernel
theorem dL_law_224 : decode cL_law 224 = .ok (.iconst 3, 1) := by decide +kernel
theorem dL_law_225 : decode cL_law 225 = .ok (.iadd, 1) := by decide +kernel
theorem dL_law_226 : decode cL_law 226 = .ok (.iaload, 1) := by decide +kernel
theorem dL_law_227 : decode cL_law 227 = .ok (.invokevirtual 26, 3) := by decide +kernel
theorem dL_law_230 : decode cL_law 230 = .ok (.if_icmp .eq 492, 3) := by decide +kernel
theorem dL_law_233 : decode cL_law 233 = .ok (.iconst 0, 1) := by decide +kernel
theorem dL_law_234 : decode cL_law 234 = .ok (.ireturn, 1) := by decide +kernel
theorem dL_law_235 : decode cL_law 235 = .ok (.aload_n 1, 1) := by decide +kernel
theorem dL_law_236 : decode cL_law 236 = .ok (.aload_n 0, 1) := by decide +kernel
theorem dL_law_237 : decode cL_law 237 = .ok (.iload_n 3, 1) := by decide +kernel
theorem dL_law_238 : decode cL_law 238 = .ok (.iconst 1, 1) := by decide +kernel
theorem dL_law_239 : decode cL_law 239 = .ok (.iadd, 1) := by decide +kernel
theorem dL_law_240 : decode cL_law 240 = .ok (.iaload, 1) := by decide +kernel
theorem dL_law_241 : decode cL_law 241 = .ok (.invokevirtual 27, 3) := by decide +kernel
theorem dL_law_244 : decode cL_law 244 = .ok (.aload_n 2, 1) := by decide +kernel
theorem dL_law_245 : decode cL_law 245 = .ok (.aload_n 0, 1) := by decide +kernel
theorem dL_law_246 : decode cL_law 246 = .ok (.iload_n 3, 1) := by decide +kernel
theorem dL_law_247 : decode cL_law 247 = .ok (.iconst 1, 1) := by decide +kernel
theorem dL_law_248 : decode cL_law 248 = .ok (.iadd, 1) := by decide +kernel
theorem dL_law_249 : decode cL_law 249 = .ok (.iaload, 1) := by decide +kernel
theorem dL_law_250 : decode cL_law 250 = .ok (.invokevirtual 31, 3) := by decide +kernel
theorem dL_law_253 : decode cL_law 253 = .ok (.if_icmp .eq 469, 3) := by decide +kernel
theorem dL_law_256 : decode cL_law 256 = .ok (.iconst 0, 1) := by decide +kernel
theorem dL_law_257 : decode cL_law 257 = .ok (.ireturn, 1) := by decide +kernel
theorem dL_law_258 : decode cL_law 258 = .ok (.aload_n 1, 1) := by decide +kernel
theorem dL_law_259 : decode cL_law 259 = .ok (.aload_n 0, 1) := by decide +kernel
theorem dL_law_260 : decode cL_law 260 = .ok (.iload_n 3, 1) := by decide +kernel
theorem dL_law_261 : decode cL_law 261 = .ok (.iconst 1, 1) := by decide +kernel
theorem dL_law_262 : decode cL_law 262 = .ok (.iadd, 1) := by decide +kernel
theorem dL_law_263 : decode cL_law 263 = .ok (.iaload, 1) := by decide +kernel
theorem dL_law_264 : decode cL_law 264 = .ok (.aload_n 0, 1) := by decide +kernel
theorem dL_law_265 : decode cL_law 265 = .ok (.iload_n 3, 1) := by decide +kernel
theorem dL_law_266 : decode cL_law 266 = .ok (.iconst 2, 1) := by decide +kernel
theorem dL_law_267 : decode cL_law 267 = .ok (.iadd, 1) := by decide +kernel
theorem dL_law_268 : decode cL_law 268 = .ok (.iaload, 1) := by decide +kernel
theorem dL_law_269 : decode cL_law 269 = .ok (.invokevirtual 32, 3) := by decide +kernel
theorem dL_law_272 : decode cL_law 272 = .ok (.aload_n 2, 1) := by decide +kernel
theorem dL_law_273 : decode cL_law 273 = .ok (.aload_n 0, 1) := by decide +kernel
theorem dL_law_274 : decode cL_law 274 = .ok (.iload_n 3, 1) := by decide +kernel
theorem dL_law_275 : decode cL_law 275 = .ok (.iconst 1, 1) := by decide +kernel
theorem dL_law_276 : decode cL_law 276 = .ok (.iadd, 1) := by decide +kernel
theorem dL_law_277 : decode cL_law 277 = .ok (.iaload, 1) := by decide +kernel
theorem dL_law_278 : decode cL_law 278 = .ok (.aload_n 0, 1) := by decide +kernel
theorem dL_law_279 : decode cL_law 279 = .ok (.iload_n 3, 1) := by decide +kernel
theorem dL_law_280 : decode cL_law 280 = .ok (.iconst 2, 1) := by decide +kernel
theorem dL_law_281 : decode cL_law 281 = .ok (.iadd, 1) := by decide +kernel
theorem dL_law_282 : decode cL_law 282 = .ok (.iaload, 1) := by decide +kernel
theorem dL_law_283 : decode cL_law 283 = .ok (.invokevirtual 36, 3) := by decide +kernel
theorem dL_law_286 : decode cL_law 286 = .ok (.if_icmp .eq 436, 3) := by decide +kernel
theorem dL_law_289 : decode cL_law 289 = .ok (.iconst 0, 1) := by decide +kernel
theorem dL_law_290 : decode cL_law 290 = .ok (.ireturn, 1) := by decide +kernel
theorem dL_law_291 : decode cL_law 291 = .ok (.aload_n 1, 1) := by decide +kernel
theorem dL_law_292 : decode cL_law 292 = .ok (.aload_n 0, 1) := by decide +kernel
theorem dL_law_293 : decode cL_law 293 = .ok (.iload_n 3, 1) := by decide +kernel
theorem dL_law_294 : decode cL_law 294 = .ok (.iconst 1, 1) := by decide +kernel
theorem dL_law_295 : decode cL_law 295 = .ok (.iadd, 1) := by decide +kernel
theorem dL_law_296 : decode cL_law 296 = .ok (.iaload, 1) := by decide +kernel
theorem dL_law_297 : decode cL_law 297 = .ok (.aload_n 0, 1) := by decide +kernel
theorem dL_law_298 : decode cL_law 298 = .ok (.iload_n 3, 1) := by decide +kernel
theorem dL_law_299 : decode cL_law 299 = .ok (.iconst 2, 1) := by decide +kernel
theorem dL_law_300 : decode cL_law 300 = .ok (.iadd, 1) := by decide +kernel
theorem dL_law_301 : decode cL_law 301 = .ok (.iaload, 1) := by decide +kernel
theorem dL_law_302 : decode cL_law 302 = .ok (.invokevirtual 37, 3) := by decide +kernel
theorem dL_law_305 : decode cL_law 305 = .ok (.aload_n 2, 1) := by decide +kernel
theorem dL_law_306 : decode cL_law 306 = .ok (.aload_n 0, 1) := by decide +kernel
theorem dL_law_307 : decode cL_law 307 = .ok (.iload_n 3, 1) := by decide +kernel
theorem dL_law_308 : decode cL_law 308 = .ok (.iconst 1, 1) := by decide +kernel
theorem dL_law_309 : decode cL_law 309 = .ok (.iadd, 1) := by decide +kernel
theorem dL_law_310 : decode cL_law 310 = .ok (.iaload, 1) := by decide +kernel
theorem dL_law_311 : decode cL_law 311 = .ok (.aload_n 0, 1) := by decide +kernel
theorem dL_law_312 : decode cL_law 312 = .ok (.iload_n 3, 1) := by decide +kernel
theorem dL_law_313 : decode cL_law 313 = .ok (.iconst 2, 1) := by decide +kernel
theorem dL_law_314 : decode cL_law 314 = .ok (.iadd, 1) := by decide +kernel
theorem dL_law_315 : decode cL_law 315 = .ok (.iaload, 1) := by decide +kernel
theorem dL_law_316 : decode cL_law 316 = .ok (.invokevirtual 40, 3) := by decide +kernel
theorem dL_law_319 : decode cL_law 319 = .ok (.if_icmp .eq 403, 3) := by decide +kernel
theorem dL_law_322 : decode cL_law 322 = .ok (.iconst 0, 1) := by decide +kernel
theorem dL_law_323 : decode cL_law 323 = .ok (.ireturn, 1) := by decide +kernel
theorem dL_law_324 : decode cL_law 324 = .ok (.aload_n 1, 1) := by decide +kernel
theorem dL_law_325 : decode cL_law 325 = .ok (.aload_n 0, 1) := by decide +kernel
theorem dL_law_326 : decode cL_law 326 = .ok (.iload_n 3, 1) := by decide +kernel
theorem dL_law_327 : decode cL_law 327 = .ok (.iconst 1, 1) := by decide +kernel
theorem dL_law_328 : decode cL_law 328 = .ok (.iadd, 1) := by decide +kernel
theorem dL_law_329 : decode cL_law 329 = .ok (.iaload, 1) := by decide +kernel
theorem dL_law_330 : decode cL_law 330 = .ok (.aload_n 0, 1) := by decide +kernel
theorem dL_law_331 : decode cL_law 331 = .ok (.iload_n 3, 1) := by decide +kernel
theorem dL_law_332 : decode cL_law 332 = .ok (.iconst 2, 1) := by decide +kernel
theorem dL_law_333 : decode cL_law 333 = .ok (.iadd, 1) := by decide +kernel
theorem dL_law_334 : decode cL_law 334 = .ok (.iaload, 1) := by decide +kernel
theorem dL_law_335 : decode cL_law 335 = .ok (.invokevirtual 41, 3) := by decide +kernel
theorem dL_law_338 : decode cL_law 338 = .ok (.aload_n 2, 1) := by decide +kernel
theorem dL_law_339 : decode cL_law 339 = .ok (.aload_n 0, 1) := by decide +kernel
theorem dL_law_340 : decode cL_law 340 = .ok (.iload_n 3, 1) := by decide +kernel
theorem dL_law_341 : decode cL_law 341 = .ok (.iconst 1, 1) := by decide +kernel
theorem dL_law_342 : decode cL_law 342 = .ok (.iadd, 1) := by decide +kernel
theorem dL_law_343 : decode cL_law 343 = .ok (.iaload, 1) := by decide +kernel
theorem dL_law_344 : decode cL_law 344 = .ok (.aload_n 0, 1) := by decide +kernel
theorem dL_law_345 : decode cL_law 345 = .ok (.iload_n 3, 1) := by decide +kernel
theorem dL_law_346 : decode cL_law 346 = .ok (.iconst 2, 1) := by decide +kernel
theorem dL_law_347 : decode cL_law 347 = .ok (.iadd, 1) := by decide +kernel
theorem dL_law_348 : decode cL_law 348 = .ok (.iaload, 1) := by decide +kernel
theorem dL_law_349 : decode cL_law 349 = .ok (.invokevirtual 44, 3) := by decide +kernel
theorem dL_law_352 : decode cL_law 352 = .ok (.if_icmp .eq 370, 3) := by decide +kernel
theorem dL_law_355 : decode cL_law 355 = .ok (.iconst 0, 1) := by decide +kernel
theorem dL_law_356 : decode cL_law 356 = .ok (.ireturn, 1) := by decide +kernel
theorem dL_law_357 : decode cL_law 357 = .ok (.aload_n 1, 1) := by decide +kernel
theorem dL_law_358 : decode cL_law 358 = .ok (.aload_n 0, 1) := by decide +kernel
theorem dL_law_359 : decode cL_law 359 = .ok (.iload_n 3, 1) := by decide +kernel
theorem dL_law_360 : decode cL_law 360 = .ok (.iconst 1, 1) := by decide +kernel
theorem dL_law_361 : decode cL_law 361 = .ok (.iadd, 1) := by decide +kernel
theorem dL_law_362 : decode cL_law 362 = .ok (.iaload, 1) := by decide +kernel
theorem dL_law_363 : decode cL_law 363 = .ok (.aload_n 0, 1) := by decide +kernel
theorem dL_law_364 : decode cL_law 364 = .ok (.iload_n 3, 1) := by decide +kernel
theorem dL_law_365 : decode cL_law 365 = .ok (.iconst 2, 1) := by decide +kernel
theorem dL_law_366 : decode cL_law 366 = .ok (.iadd, 1) := by decide +kernel
theorem dL_law_367 : decode cL_law 367 = .ok (.iaload, 1) := by decide +kernel
theorem dL_law_368 : decode cL_law 368 = .ok (.invokevirtual 45, 3) := by decide +kernel
theorem dL_law_371 : decode cL_law 371 = .ok (.aload_n 2, 1) := by decide +kernel
theorem dL_law_372 : decode cL_law 372 = .ok (.aload_n 0, 1) := by decide +kernel
theorem dL_law_373 : decode cL_law 373 = .ok (.iload_n 3, 1) := by decide +kernel
theorem dL_law_374 : decode cL_law 374 = .ok (.iconst 1, 1) := by decide +kernel
theorem dL_law_375 : decode cL_law 375 = .ok (.iadd, 1) := by decide +kernel
theorem dL_law_376 : decode cL_law 376 = .ok (.iaload, 1) := by decide +kernel
theorem dL_law_377 : decode cL_law 377 = .ok (.aload_n 0, 1) := by decide +kernel
theorem dL_law_378 : decode cL_law 378 = .ok (.iload_n 3, 1) := by decide +kernel
theorem dL_law_379 : decode cL_law 379 = .ok (.iconst 2, 1) := by decide +kernel
theorem dL_law_380 : decode cL_law 380 = .ok (.iadd, 1) := by decide +kernel
theorem dL_law_381 : decode cL_law 381 = .ok (.iaload, 1) := by decide +kernel
theorem dL_law_382 : decode cL_law 382 = .ok (.invokevirtual 48, 3) := by decide +kernel
theorem dL_law_385 : decode cL_law 385 = .ok (.if_icmp .eq 337, 3) := by decide +kernel
theorem dL_law_388 : decode cL_law 388 = .ok (.iconst 0, 1) := by decide +kernel
theorem dL_law_389 : decode cL_law 389 = .ok (.ireturn, 1) := by decide +kernel
theorem dL_law_390 : decode cL_law 390 = .ok (.aload_n 1, 1) := by decide +kernel
theorem dL_law_391 : decode cL_law 391 = .ok (.aload_n 0, 1) := by decide +kernel
theorem dL_law_392 : decode cL_law 392 = .ok (.iload_n 3, 1) := by decide +kernel
theorem dL_law_393 : decode cL_law 393 = .ok (.iconst 1, 1) := by decide +kernel
theorem dL_law_394 : decode cL_law 394 = .ok (.iadd, 1) := by decide +kernel
theorem dL_law_395 : decode cL_law 395 = .ok (.iaload, 1) := by decide +kernel
theorem dL_law_396 : decode cL_law 396 = .ok (.invokevirtual 49, 3) := by decide +kernel
theorem dL_law_399 : decode cL_law 399 = .ok (.aload_n 2, 1) := by decide +kernel
theorem dL_law_400 : decode cL_law 400 = .ok (.aload_n 0, 1) := by decide +kernel
theorem dL_law_401 : decode cL_law 401 = .ok (.iload_n 3, 1) := by decide +kernel
theorem dL_law_402 : decode cL_law 402 = .ok (.iconst 1, 1) := by decide +kernel
theorem dL_law_403 : decode cL_law 403 = .ok (.iadd, 1) := by decide +kernel
theorem dL_law_404 : decode cL_law 404 = .ok (.iaload, 1) := by decide +kernel
theorem dL_law_405 : decode cL_law 405 = .ok (.invokevirtual 52, 3) := by decide +kernel
theorem dL_law_408 : decode cL_law 408 = .ok (.if_icmp .eq 314, 3) := by decide +kernel
theorem dL_law_411 : decode cL_law 411 = .ok (.iconst 0, 1) := by decide +kernel
theorem dL_law_412 : decode cL_law 412 = .ok (.ireturn, 1) := by decide +kernel
theorem dL_law_413 : decode cL_law 413 = .ok (.aload_n 1, 1) := by decide +kernel
theorem dL_law_414 : decode cL_law 414 = .ok (.invokevirtual 53, 3) := by decide +kernel
theorem dL_law_417 : decode cL_law 417 = .ok (.aload_n 2, 1) := by decide +kernel
theorem dL_law_418 : decode cL_law 418 = .ok (.invokevirtual 56, 3) := by decide +kernel
theorem dL_law_421 : decode cL_law 421 = .ok (.if_icmp .eq 301, 3) := by decide +kernel
theorem dL_law_424 : decode cL_law 424 = .ok (.iconst 0, 1) := by decide +kernel
theorem dL_law_425 : decode cL_law 425 = .ok (.ireturn, 1) := by decide +kernel
theorem dL_law_426 : decode cL_law 426 = .ok (.aload_n 1, 1) := by decide +kernel
theorem dL_law_427 : decode cL_law 427 = .ok (.invokevirtual 57, 3) := by decide +kernel
theorem dL_law_430 : decode cL_law 430 = .ok (.aload_n 2, 1) := by decide +kernel
theorem dL_law_431 : decode cL_law 431 = .ok (.invokevirtual 60, 3) := by decide +kernel
theorem dL_law_434 : decode cL_law 434 = .ok (.if_icmp .eq 288, 3) := by decide +kernel
theorem dL_law_437 : decode cL_law 437 = .ok (.iconst 0, 1) := by decide +kernel
theorem dL_law_438 : decode cL_law 438 = .ok (.ireturn, 1) := by decide +kernel
theorem dL_law_439 : decode cL_law 439 = .ok (.aload_n 1, 1) := by decide +kernel
theorem dL_law_440 : decode cL_law 440 = .ok (.aload_n 0, 1) := by decide +kernel
theorem dL_law_441 : decode cL_law 441 = .ok (.iload_n 3, 1) := by decide +kernel
theorem dL_law_442 : decode cL_law 442 = .ok (.iconst 1, 1) := by decide +kernel
theorem dL_law_443 : decode cL_law 443 = .ok (.iadd, 1) := by decide +kernel
theorem dL_law_444 : decode cL_law 444 = .ok (.iaload, 1) := by decide +kernel
theorem dL_law_445 : decode cL_law 445 = .ok (.invokevirtual 61, 3) := by decide +kernel
theorem dL_law_448 : decode cL_law 448 = .ok (.aload_n 2, 1) := by decide +kernel
theorem dL_law_449 : decode cL_law 449 = .ok (.aload_n 0, 1) := by decide +kernel
theorem dL_law_450 : decode cL_law 450 = .ok (.iload_n 3, 1) := by decide +kernel
theorem dL_law_451 : decode cL_law 451 = .ok (.iconst 1, 1) := by decide +kernel
theorem dL_law_452 : decode cL_law 452 = .ok (.iadd, 1) := by decide +kernel
theorem dL_law_453 : decode cL_law 453 = .ok (.iaload, 1) := by decide +kernel
theorem dL_law_454 : decode cL_law 454 = .ok (.invokevirtual 64, 3) := by decide +kernel
theorem dL_law_457 : decode cL_law 457 = .ok (.if_icmp .eq 265, 3) := by decide +kernel
theorem dL_law_460 : decode cL_law 460 = .ok (.iconst 0, 1) := by decide +kernel
theorem dL_law_461 : decode cL_law 461 = .ok (.ireturn, 1) := by decide +kernel
theorem dL_law_462 : decode cL_law 462 = .ok (.aload_n 1, 1) := by decide +kernel
theorem dL_law_463 : decode cL_law 463 = .ok (.aload_n 0, 1) := by decide +kernel
theorem dL_law_464 : decode cL_law 464 = .ok (.iload_n 3, 1) := by decide +kernel
theorem dL_law_465 : decode cL_law 465 = .ok (.iconst 1, 1) := by decide +kernel
theorem dL_law_466 : decode cL_law 466 = .ok (.iadd, 1) := by decide +kernel
theorem dL_law_467 : decode cL_law 467 = .ok (.iaload, 1) := by decide +kernel
theorem dL_law_468 : decode cL_law 468 = .ok (.invokevirtual 65, 3) := by decide +kernel
theorem dL_law_471 : decode cL_law 471 = .ok (.aload_n 2, 1) := by decide +kernel
theorem dL_law_472 : decode cL_law 472 = .ok (.aload_n 0, 1) := by decide +kernel
theorem dL_law_473 : decode cL_law 473 = .ok (.iload_n 3, 1) := by decide +kernel
theorem dL_law_474 : decode cL_law 474 = .ok (.iconst 1, 1) := by decide +kernel
theorem dL_law_475 : decode cL_law 475 = .ok (.iadd, 1) := by decide +kernel
theorem dL_law_476 : decode cL_law 476 = .ok (.iaload, 1) := by decide +kernel
theorem dL_law_477 : decode cL_law 477 = .ok (.invokevirtual 68, 3) := by decide +kernel
theorem dL_law_480 : decode cL_law 480 = .ok (.if_icmp .eq 242, 3) := by decide +kernel
theorem dL_law_483 : decode cL_law 483 = .ok (.iconst 0, 1) := by decide +kernel
theorem dL_law_484 : decode cL_law 484 = .ok (.ireturn, 1) := by decide +kernel
theorem dL_law_485 : decode cL_law 485 = .ok (.aload_n 1, 1) := by decide +kernel
theorem dL_law_486 : decode cL_law 486 = .ok (.aload_n 0, 1) := by decide +kernel
theorem dL_law_487 : decode cL_law 487 = .ok (.iload_n 3, 1) := by decide +kernel
theorem dL_law_488 : decode cL_law 488 = .ok (.iconst 1, 1) := by decide +kernel
theorem dL_law_489 : decode cL_law 489 = .ok (.iadd, 1) := by decide +kernel
theorem dL_law_490 : decode cL_law 490 = .ok (.iaload, 1) := by decide +kernel
theorem dL_law_491 : decode cL_law 491 = .ok (.aload_n 0, 1) := by decide +kernel
theorem dL_law_492 : decode cL_law 492 = .ok (.iload_n 3, 1) := by decide +kernel
theorem dL_law_493 : decode cL_law 493 = .ok (.iconst 2, 1) := by decide +kernel
theorem dL_law_494 : decode cL_law 494 = .ok (.iadd, 1) := by decide +kernel
theorem dL_law_495 : decode cL_law 495 = .ok (.iaload, 1) := by decide +kernel
theorem dL_law_496 : decode cL_law 496 = .ok (.invokevirtual 69, 3) := by decide +kernel
theorem dL_law_499 : decode cL_law 499 = .ok (.aload_n 2, 1) := by decide +kernel
theorem dL_law_500 : decode cL_law 500 = .ok (.aload_n 0, 1) := by decide +kernel
theorem dL_law_501 : decode cL_law 501 = .ok (.iload_n 3, 1) := by decide +kernel
theorem dL_law_502 : decode cL_law 502 = .ok (.iconst 1, 1) := by decide +kernel
theorem dL_law_503 : decode cL_law 503 = .ok (.iadd, 1) := by decide +kernel
theorem dL_law_504 : decode cL_law 504 = .ok (.iaload, 1) := by decide +kernel
theorem dL_law_505 : decode cL_law 505 = .ok (.aload_n 0, 1) := by decide +kernel
theorem dL_law_506 : decode cL_law 506 = .ok (.iload_n 3, 1) := by decide +kernel
theorem dL_law_507 : decode cL_law 507 = .ok (.iconst 2, 1) := by decide +kernel
theorem dL_law_508 : decode cL_law 508 = .ok (.iadd, 1) := by decide +kernel
theorem dL_law_509 : decode cL_law 509 = .ok (.iaload, 1) := by decide +kernel
theorem dL_law_510 : decode cL_law 510 = .ok (.invokevirtual 72, 3) := by decide +kernel
theorem dL_law_513 : decode cL_law 513 = .ok (.if_icmp .eq 209, 3) := by decide +kernel
theorem dL_law_516 : decode cL_law 516 = .ok (.iconst 0, 1) := by decide +kernel
theorem dL_law_517 : decode cL_law 517 = .ok (.ireturn, 1) := by decide +kernel
theorem dL_law_518 : decode cL_law 518 = .ok (.aload_n 1, 1) := by decide +kernel
theorem dL_law_519 : decode cL_law 519 = .ok (.aload_n 0, 1) := by decide +kernel
theorem dL_law_520 : decode cL_law 520 = .ok (.iload_n 3, 1) := by decide +kernel
theorem dL_law_521 : decode cL_law 521 = .ok (.iconst 1, 1) := by decide +kernel
theorem dL_law_522 : decode cL_law 522 = .ok (.iadd, 1) := by decide +kernel
theorem dL_law_523 : decode cL_law 523 = .ok (.iaload, 1) := by decide +kernel
theorem dL_law_524 : decode cL_law 524 = .ok (.aload_n 0, 1) := by decide +kernel
theorem dL_law_525 : decode cL_law 525 = .ok (.iload_n 3, 1) := by decide +kernel
theorem dL_law_526 : decode cL_law 526 = .ok (.iconst 2, 1) := by decide +kernel
theorem dL_law_527 : decode cL_law 527 = .ok (.iadd, 1) := by decide +kernel
theorem dL_law_528 : decode cL_law 528 = .ok (.iaload, 1) := by decide +kernel
theorem dL_law_529 : decode cL_law 529 = .ok (.aload_n 0, 1) := by decide +kernel
theorem dL_law_530 : decode cL_law 530 = .ok (.iload_n 3, 1) := by decide +kernel
theorem dL_law_531 : decode cL_law 531 = .ok (.iconst 3, 1) := by decide +kernel
theorem dL_law_532 : decode cL_law 532 = .ok (.iadd, 1) := by decide +kernel
theorem dL_law_533 : decode cL_law 533 = .ok (.iaload, 1) := by decide +kernel
theorem dL_law_534 : decode cL_law 534 = .ok (.invokevirtual 73, 3) := by decide +kernel
theorem dL_law_537 : decode cL_law 537 = .ok (.aload_n 2, 1) := by decide +kernel
theorem dL_law_538 : decode cL_law 538 = .ok (.aload_n 0, 1) := by decide +kernel
theorem dL_law_539 : decode cL_law 539 = .ok (.iload_n 3, 1) := by decide +kernel
theorem dL_law_540 : decode cL_law 540 = .ok (.iconst 1, 1) := by decide +kernel
theorem dL_law_541 : decode cL_law 541 = .ok (.iadd, 1) := by decide +kernel
theorem dL_law_542 : decode cL_law 542 = .ok (.iaload, 1) := by decide +kernel
theorem dL_law_543 : decode cL_law 543 = .ok (.aload_n 0, 1) := by decide +kernel
theorem dL_law_544 : decode cL_law 544 = .ok (.iload_n 3, 1) := by decide +kernel
theorem dL_law_545 : decode cL_law 545 = .ok (.iconst 2, 1) := by decide +kernel
theorem dL_law_546 : decode cL_law 546 = .ok (.iadd, 1) := by decide +kernel
theorem dL_law_547 : decode cL_law 547 = .ok (.iaload, 1) := by decide +kernel
theorem dL_law_548 : decode cL_law 548 = .ok (.aload_n 0, 1) := by decide +kernel
theorem dL_law_549 : decode cL_law 549 = .ok (.iload_n 3, 1) := by decide +kernel
theorem dL_law_550 : decode cL_law 550 = .ok (.iconst 3, 1) := by decide +kernel
theorem dL_law_551 : decode cL_law 551 = .ok (.iadd, 1) := by decide +kernel
theorem dL_law_552 : decode cL_law 552 = .ok (.iaload, 1) := by decide +kernel
theorem dL_law_553 : decode cL_law 553 = .ok (.invokevirtual 76, 3) := by decide +kernel
theorem dL_law_556 : decode cL_law 556 = .ok (.if_icmp .eq 166, 3) := by decide +kernel
theorem dL_law_559 : decode cL_law 559 = .ok (.iconst 0, 1) := by decide +kernel
theorem dL_law_560 : decode cL_law 560 = .ok (.ireturn, 1) := by decide +kernel
theorem dL_law_561 : decode cL_law 561 = .ok (.aload_n 1, 1) := by decide +kernel
theorem dL_law_562 : decode cL_law 562 = .ok (.invokevirtual 77, 3) := by decide +kernel
theorem dL_law_565 : decode cL_law 565 = .ok (.aload_n 2, 1) := by decide +kernel
theorem dL_law_566 : decode cL_law 566 = .ok (.invokevirtual 80, 3) := by decide +kernel
theorem dL_law_569 : decode cL_law 569 = .ok (.if_icmp .eq 153, 3) := by decide +kernel
theorem dL_law_572 : decode cL_law 572 = .ok (.iconst 0, 1) := by decide +kernel
theorem dL_law_573 : decode cL_law 573 = .ok (.ireturn, 1) := by decide +kernel
theorem dL_law_574 : decode cL_law 574 = .ok (.aload_n 1, 1) := by decide +kernel
theorem dL_law_575 : decode cL_law 575 = .ok (.aload_n 0, 1) := by decide +kernel
theorem dL_law_576 : decode cL_law 576 = .ok (.iload_n 3, 1) := by decide +kernel
theorem dL_law_577 : decode cL_law 577 = .ok (.iconst 1, 1) := by decide +kernel
theorem dL_law_578 : decode cL_law 578 = .ok (.iadd, 1) := by decide +kernel
theorem dL_law_579 : decode cL_law 579 = .ok (.iaload, 1) := by decide +kernel
theorem dL_law_580 : decode cL_law 580 = .ok (.invokevirtual 81, 3) := by decide +kernel
theorem dL_law_583 : decode cL_law 583 = .ok (.aload_n 2, 1) := by decide +kernel
theorem dL_law_584 : decode cL_law 584 = .ok (.aload_n 0, 1) := by decide +kernel
theorem dL_law_585 : decode cL_law 585 = .ok (.iload_n 3, 1) := by decide +kernel
theorem dL_law_586 : decode cL_law 586 = .ok (.iconst 1, 1) := by decide +kernel
theorem dL_law_587 : decode cL_law 587 = .ok (.iadd, 1) := by decide +kernel
theorem dL_law_588 : decode cL_law 588 = .ok (.iaload, 1) := by decide +kernel
theorem dL_law_589 : decode cL_law 589 = .ok (.invokevirtual 84, 3) := by decide +kernel
theorem dL_law_592 : decode cL_law 592 = .ok (.if_icmp .eq 130, 3) := by decide +kernel
theorem dL_law_595 : decode cL_law 595 = .ok (.iconst 0, 1) := by decide +kernel
theorem dL_law_596 : decode cL_law 596 = .ok (.ireturn, 1) := by decide +kernel
theorem dL_law_597 : decode cL_law 597 = .ok (.aload_n 1, 1) := by decide +kernel
theorem dL_law_598 : decode cL_law 598 = .ok (.aload_n 0, 1) := by decide +kernel
theorem dL_law_599 : decode cL_law 599 = .ok (.iload_n 3, 1) := by decide +kernel
theorem dL_law_600 : decode cL_law 600 = .ok (.iconst 1, 1) := by decide +kernel
theorem dL_law_601 : decode cL_law 601 = .ok (.iadd, 1) := by decide +kernel
theorem dL_law_602 : decode cL_law 602 = .ok (.iaload, 1) := by decide +kernel
theorem dL_law_603 : decode cL_law 603 = .ok (.invokevirtual 85, 3) := by decide +kernel
theorem dL_law_606 : decode cL_law 606 = .ok (.aload_n 2, 1) := by decide +kernel
theorem dL_law_607 : decode cL_law 607 = .ok (.aload_n 0, 1) := by decide +kernel
theorem dL_law_608 : decode cL_law 608 = .ok (.iload_n 3, 1) := by decide +kernel
theorem dL_law_609 : decode cL_law 609 = .ok (.iconst 1, 1) := by decide +kernel
theorem dL_law_610 : decode cL_law 610 = .ok (.iadd, 1) := by decide +kernel
theorem dL_law_611 : decode cL_law 611 = .ok (.iaload, 1) := by decide +kernel
theorem dL_law_612 : decode cL_law 612 = .ok (.invokevirtual 88, 3) := by decide +kernel
theorem dL_law_615 : decode cL_law 615 = .ok (.if_icmp .eq 107, 3) := by decide +kernel
theorem dL_law_618 : decode cL_law 618 = .ok (.iconst 0, 1) := by decide +kernel
theorem dL_law_619 : decode cL_law 619 = .ok (.ireturn, 1) := by decide +kernel
theorem dL_law_620 : decode cL_law 620 = .ok (.aload_n 1, 1) := by decide +kernel
theorem dL_law_621 : decode cL_law 621 = .ok (.aload_n 0, 1) := by decide +kernel
theorem dL_law_622 : decode cL_law 622 = .ok (.iload_n 3, 1) := by decide +kernel
theorem dL_law_623 : decode cL_law 623 = .ok (.iconst 1, 1) := by decide +kernel
theorem dL_law_624 : decode cL_law 624 = .ok (.iadd, 1) := by decide +kernel
theorem dL_law_625 : decode cL_law 625 = .ok (.iaload, 1) := by decide +kernel
theorem dL_law_626 : decode cL_law 626 = .ok (.aload_n 0, 1) := by decide +kernel
theorem dL_law_627 : decode cL_law 627 = .ok (.iload_n 3, 1) := by decide +kernel
theorem dL_law_628 : decode cL_law 628 = .ok (.iconst 2, 1) := by decide +kernel
theorem dL_law_629 : decode cL_law 629 = .ok (.iadd, 1) := by decide +kernel
theorem dL_law_630 : decode cL_law 630 = .ok (.iaload, 1) := by decide +kernel
theorem dL_law_631 : decode cL_law 631 = .ok (.invokevirtual 89, 3) := by decide +kernel
theorem dL_law_634 : decode cL_law 634 = .ok (.aload_n 2, 1) := by decide +kernel
theorem dL_law_635 : decode cL_law 635 = .ok (.aload_n 0, 1) := by decide +kernel
theorem dL_law_636 : decode cL_law 636 = .ok (.iload_n 3, 1) := by decide +kernel
theorem dL_law_637 : decode cL_law 637 = .ok (.iconst 1, 1) := by decide +kernel
theorem dL_law_638 : decode cL_law 638 = .ok (.iadd, 1) := by decide +kernel
theorem dL_law_639 : decode cL_law 639 = .ok (.iaload, 1) := by decide +kernel
theorem dL_law_640 : decode cL_law 640 = .ok (.aload_n 0, 1) := by decide +kernel
theorem dL_law_641 : decode cL_law 641 = .ok (.iload_n 3, 1) := by decide +kernel
theorem dL_law_642 : decode cL_law 642 = .ok (.iconst 2, 1) := by decide +kernel
theorem dL_law_643 : decode cL_law 643 = .ok (.iadd, 1) := by decide +kernel
theorem dL_law_644 : decode cL_law 644 = .ok (.iaload, 1) := by decide +kernel
theorem dL_law_645 : decode cL_law 645 = .ok (.invokevirtual 92, 3) := by decide +kernel
theorem dL_law_648 : decode cL_law 648 = .ok (.if_icmp .eq 74, 3) := by decide +kernel
theorem dL_law_651 : decode cL_law 651 = .ok (.iconst 0, 1) := by decide +kernel
theorem dL_law_652 : decode cL_law 652 = .ok (.ireturn, 1) := by decide +kernel
theorem dL_law_653 : decode cL_law 653 = .ok (.aload_n 1, 1) := by decide +kernel
theorem dL_law_654 : decode cL_law 654 = .ok (.aload_n 0, 1) := by decide +kernel
theorem dL_law_655 : decode cL_law 655 = .ok (.iload_n 3, 1) := by decide +kernel
theorem dL_law_656 : decode cL_law 656 = .ok (.iconst 1, 1) := by decide +kernel
theorem dL_law_657 : decode cL_law 657 = .ok (.iadd, 1) := by decide +kernel
theorem dL_law_658 : decode cL_law 658 = .ok (.iaload, 1) := by decide +kernel
theorem dL_law_659 : decode cL_law 659 = .ok (.invokevirtual 93, 3) := by decide +kernel
theorem dL_law_662 : decode cL_law 662 = .ok (.aload_n 2, 1) := by decide +kernel
theorem dL_law_663 : decode cL_law 663 = .ok (.aload_n 0, 1) := by decide +kernel
theorem dL_law_664 : decode cL_law 664 = .ok (.iload_n 3, 1) := by decide +kernel
theorem dL_law_665 : decode cL_law 665 = .ok (.iconst 1, 1) := by decide +kernel
theorem dL_law_666 : decode cL_law 666 = .ok (.iadd, 1) := by decide +kernel
theorem dL_law_667 : decode cL_law 667 = .ok (.iaload, 1) := by decide +kernel
theorem dL_law_668 : decode cL_law 668 = .ok (.invokevirtual 96, 3) := by decide +kernel
theorem dL_law_671 : decode cL_law 671 = .ok (.if_icmp .eq 51, 3) := by decide +kernel
theorem dL_law_674 : decode cL_law 674 = .ok (.iconst 0, 1) := by decide +kernel
theorem dL_law_675 : decode cL_law 675 = .ok (.ireturn, 1) := by decide +kernel
theorem dL_law_676 : decode cL_law 676 = .ok (.aload_n 1, 1) := by decide +kernel
theorem dL_law_677 : decode cL_law 677 = .ok (.aload_n 0, 1) := by decide +kernel
theorem dL_law_678 : decode cL_law 678 = .ok (.iload_n 3, 1) := by decide +kernel
theorem dL_law_679 : decode cL_law 679 = .ok (.iconst 1, 1) := by decide +kernel
theorem dL_law_680 : decode cL_law 680 = .ok (.iadd, 1) := by decide +kernel
theorem dL_law_681 : decode cL_law 681 = .ok (.iaload, 1) := by decide +kernel
theorem dL_law_682 : decode cL_law 682 = .ok (.invokevirtual 97, 3) := by decide +kernel
theorem dL_law_685 : decode cL_law 685 = .ok (.aload_n 2, 1) := by decide +kernel
theorem dL_law_686 : decode cL_law 686 = .ok (.aload_n 0, 1) := by decide +kernel
theorem dL_law_687 : decode cL_law 687 = .ok (.iload_n 3, 1) := by decide +kernel
theorem dL_law_688 : decode cL_law 688 = .ok (.iconst 1, 1) := by decide +kernel
theorem dL_law_689 : decode cL_law 689 = .ok (.iadd, 1) := by decide +kernel
theorem dL_law_690 : decode cL_law 690 = .ok (.iaload, 1) := by decide +kernel
theorem dL_law_691 : decode cL_law 691 = .ok (.invokevirtual 100, 3) := by decide +kernel
theorem dL_law_694 : decode cL_law 694 = .ok (.if_icmp .eq 28, 3) := by decide +kernel
theorem dL_law_697 : decode cL_law 697 = .ok (.iconst 0, 1) := by decide +kernel
theorem dL_law_698 : decode cL_law 698 = .ok (.ireturn, 1) := by decide +kernel
theorem dL_law_699 : decode cL_law 699 = .ok (.aload_n 1, 1) := by decide +kernel
theorem dL_law_700 : decode cL_law 700 = .ok (.aload_n 0, 1) := by decide +kernel
theorem dL_law_701 : decode cL_law 701 = .ok (.iload_n 3, 1) := by decide +kernel
theorem dL_law_702 : decode cL_law 702 = .ok (.iconst 1, 1) := by decide +kernel
theorem dL_law_703 : decode cL_law 703 = .ok (.iadd, 1) := by decide +kernel
theorem dL_law_704 : decode cL_law 704 = .ok (.iaload, 1) := by decide +kernel
theorem dL_law_705 : decode cL_law 705 = .ok (.invokevirtual 101, 3) := by decide +kernel
theorem dL_law_708 : decode cL_law 708 = .ok (.aload_n 2, 1) := by decide +kernel
theorem dL_law_709 : decode cL_law 709 = .ok (.aload_n 0, 1) := by decide +kernel
theorem dL_law_710 : decode cL_law 710 = .ok (.iload_n 3, 1) := by decide +kernel
theorem dL_law_711 : decode cL_law 711 = .ok (.iconst 1, 1) := by decide +kernel
theorem dL_law_712 : decode cL_law 712 = .ok (.iadd, 1) := by decide +kernel
theorem dL_law_713 : decode cL_law 713 = .ok (.iaload, 1) := by decide +kernel
theorem dL_law_714 : decode cL_law 714 = .ok (.invokevirtual 104, 3) := by decide +kernel
theorem dL_law_717 : decode cL_law 717 = .ok (.if_icmp .eq 5, 3) := by decide +kernel
theorem dL_law_720 : decode cL_law 720 = .ok (.iconst 0, 1) := by decide +kernel
theorem dL_law_721 : decode cL_law 721 = .ok (.ireturn, 1) := by decide +kernel
theorem dL_law_722 : decode cL_law 722 = .ok (.iinc 3 4, 3) := by decide +kernel
theorem dL_law_725 : decode cL_law 725 = .ok (.goto (-707), 3) := by decide +kernel
theorem dL_law_728 : decode cL_law 728 = .ok (.iconst 1, 1) := by decide +kernel
theorem dL_law_729 : decode cL_law 729 = .ok (.ireturn, 1) := by decide +kernel
end
section
/-! my own judgement PT: from a place of a method, with locals lv, stack st and world Wd, the machine comes to Q -/
abbrev Ec : Type := ClassId × ClassId × ClassId
abbrev En : Type := Launch × va_G × Ec
abbrev Cxt : Type := En × Program × Env × State × MethodId × Array Value × List Frame × Method × Code × (Nat → Prop)
abbrev Ar : Type := Nat → Int32
abbrev tyL (k : Ec) : List (ClassId × FieldType) := [(k.1, .int), (k.2.1, .boolean), (k.2.2, .object "NeedlePairs$Board")]
def LNf : Nat → Int32 := fun j => match j with
  | 0 => 0 | 1 => 0 | 2 => 0 | 3 => 1 | 4 => 1 | _ => 2
def GNf : Nat → Int32 := fun j => match j with
  | 0 => 1 | 1 => 2 | 2 => 3 | 3 => 2 | 4 => 3 | _ => 3
def ST (A : Nat → Prop) (U : State) (H : Heap) : Prop := ∃ t1 t2 : Nat, va_Z "NeedlePairs" "LESSER_NET" "[I" (.ref t1) A U H ∧ va_T .int t1 6 (fun j => .int (LNf j)) A U H ∧ va_Z "NeedlePairs" "GREATER_NET" "[I" (.ref t2) A U H ∧ va_T .int t2 6 (fun j => .int (GNf j)) A U H
theorem ST.moved {A : Nat → Prop} {u U : State} {H : Heap} (hvm : u.vm.Alike U.vm) (h : ST A u H) : ST A U H := by
  obtain ⟨t1, t2, a, b, c, d⟩ := h
  exact ⟨t1, t2, a.moved hvm, b.moved hvm, c.moved hvm, d.moved hvm⟩
theorem ST.kept {A : Nat → Prop} {U : State} {H H1 : Heap} (h : ST A U H) (hq : ∀ a : Nat, a < H.size → ¬ A a → H1[a]? = H[a]?) : ST A U H1 := by
  obtain ⟨t1, t2, a, b, c, d⟩ := h
  exact ⟨t1, t2, a.kept hq, b.kept hq, c.kept hq, d.kept hq⟩
theorem ST.narrow {A B : Nat → Prop} {U : State} {H : Heap} (h : ST A U H) (hAB : ∀ q, B q → A q) : ST B U H := by
  obtain ⟨t1, t2, a, b, c, d⟩ := h
  exact ⟨t1, t2, a.narrow hAB, b.narrow hAB, c.narrow hAB, d.narrow hAB⟩
/-- the links among nest mates -/
def NW (U : State) : Prop := (∀ q ∈ nestFs, va_Nw (.fieldLinkNest q.1 q.2.1 q.2.2.1 q.2.2.2.1 q.2.2.2.2 "NeedlePairs") U) ∧ (∀ q ∈ nestMs, va_Nw (.methodLinkNest q.1 q.2.1 q.2.2 "NeedlePairs") U)
theorem NW.warm {s U : State} (hW : s.WarmedH U.vm) (h : NW s) : NW U := ⟨fun q hq => va_Nw.warmF hW (h.1 q hq), fun q hq => va_Nw.warmM hW (h.2 q hq)⟩
theorem NW.same {u U : State} (hv : u.vm = U.vm) (h : NW u) : NW U := ⟨fun q hq => va_Nw.same rfl hv (h.1 q hq), fun q hq => va_Nw.same rfl hv (h.2 q hq)⟩
def HW (D : va_G) (A : Nat → Prop) (s : State) (Wd : va_W) (H : Heap) (locs : List Loc) : Prop := va_P D vwCl Wd H ∧ va_D A Wd ∧ va_S A s.heap H locs
def CX (own : String) (cc : ByteArray) (nL : Nat) (ret : Option FieldType) (x : Cxt) : Prop :=
  match x with
  | ((_, D, k), p, _, s, m, args, _, meth, c, A) => p.tables.exec = Jvm.exec ∧ c.code = cc ∧ c.maxLocals = nL ∧ s.vm.findClass own = some m.cls ∧ (∀ w ∈ wG, w.before args s = true) ∧ meth.sig.returnType = ret ∧ meth.locks = false ∧ va_K D vwCl (tyL k) s ∧ (∀ q, s.heap.size ≤ q → A q) ∧ NW s ∧ ST A s s.heap
def PT (R : Room) (nL : Nat) (x : Cxt) (pc : Nat) (lv : List (Nat × Value)) (st : List Value) (Wd : va_W) (cl sl : Nat) (Q : State → Prop) : Prop :=
  match x with
  | ((l, D, _), p, e, s, m, args, below, meth, c, A) => ∀ (H : Heap) (locs : List Loc) (ls : Array Slot), HW D A s Wd H locs → lv_has ls nL lv → W p l e R s m args below meth c H locs cl sl Q (F0 m pc ls st)
/-- pure parts of a meaning: a guard, a binding, a loop with fuel -/
def gI (i : Int32) (n : Nat) : Bool := decide (0 ≤ i.toInt) && decide (i.toInt < n)
theorem gI_in {i : Int32} {n : Nat} (h : gI i n = true) : vp_in i n := by
  rw [vp_in_iff]
  simpa [gI] using h
def grd {α : Type} (b : Bool) (k : Option α) : Option α := if b = true then k else none
theorem grd_of {α : Type} {b : Bool} {k : Option α} {r : α} (h : grd b k = some r) : b = true ∧ k = some r := by
  unfold grd at h
  split at h
  · exact ⟨by assumption, h⟩
  · cases h
def bd1 {α β : Type} (o : Option α) (f : α → Option β) : Option β := o.bind f
def bd2 {α1 α2 β : Type} (o : Option (α1 × α2)) (f : α1 → α2 → Option β) : Option β := o.bind (fun q => f q.1 q.2)
def bd3 {α1 α2 α3 β : Type} (o : Option (α1 × α2 × α3)) (f : α1 → α2 → α3 → Option β) : Option β := o.bind (fun q => f q.1 q.2.1 q.2.2)
def bd4 {α1 α2 α3 α4 β : Type} (o : Option (α1 × α2 × α3 × α4)) (f : α1 → α2 → α3 → α4 → Option β) : Option β := o.bind (fun q => f q.1 q.2.1 q.2.2.1 q.2.2.2)
def bd5 {α1 α2 α3 α4 α5 β : Type} (o : Option (α1 × α2 × α3 × α4 × α5)) (f : α1 → α2 → α3 → α4 → α5 → Option β) : Option β := o.bind (fun q => f q.1 q.2.1 q.2.2.1 q.2.2.2.1 q.2.2.2.2)
def bd6 {α1 α2 α3 α4 α5 α6 β : Type} (o : Option (α1 × α2 × α3 × α4 × α5 × α6)) (f : α1 → α2 → α3 → α4 → α5 → α6 → Option β) : Option β := o.bind (fun q => f q.1 q.2.1 q.2.2.1 q.2.2.2.1 q.2.2.2.2.1 q.2.2.2.2.2)
def bd7 {α1 α2 α3 α4 α5 α6 α7 β : Type} (o : Option (α1 × α2 × α3 × α4 × α5 × α6 × α7)) (f : α1 → α2 → α3 → α4 → α5 → α6 → α7 → Option β) : Option β := o.bind (fun q => f q.1 q.2.1 q.2.2.1 q.2.2.2.1 q.2.2.2.2.1 q.2.2.2.2.2.1 q.2.2.2.2.2.2)
def bd8 {α1 α2 α3 α4 α5 α6 α7 α8 β : Type} (o : Option (α1 × α2 × α3 × α4 × α5 × α6 × α7 × α8)) (f : α1 → α2 → α3 → α4 → α5 → α6 → α7 → α8 → Option β) : Option β := o.bind (fun q => f q.1 q.2.1 q.2.2.1 q.2.2.2.1 q.2.2.2.2.1 q.2.2.2.2.2.1 q.2.2.2.2.2.2.1 q.2.2.2.2.2.2.2)
def bd9 {α1 α2 α3 α4 α5 α6 α7 α8 α9 β : Type} (o : Option (α1 × α2 × α3 × α4 × α5 × α6 × α7 × α8 × α9)) (f : α1 → α2 → α3 → α4 → α5 → α6 → α7 → α8 → α9 → Option β) : Option β := o.bind (fun q => f q.1 q.2.1 q.2.2.1 q.2.2.2.1 q.2.2.2.2.1 q.2.2.2.2.2.1 q.2.2.2.2.2.2.1 q.2.2.2.2.2.2.2.1 q.2.2.2.2.2.2.2.2)
theorem bd1_of {α β : Type} {o : Option α} {f : α → Option β} {r : β} (h : bd1 o f = some r) : ∃ a, o = some a ∧ f a = some r := by
  unfold bd1 at h
  cases o with
  | none => cases h
  | some a => exact ⟨a, rfl, h⟩
theorem bd2_of {α1 α2 β : Type} {o : Option (α1 × α2)} {f : α1 → α2 → Option β} {r : β} (h : bd2 o f = some r) : ∃ a1 a2, o = some (a1, a2) ∧ f a1 a2 = some r := by
  unfold bd2 at h
  cases o with
  | none => cases h
  | some a => exact ⟨_, _, rfl, h⟩
theorem bd3_of {α1 α2 α3 β : Type} {o : Option (α1 × α2 × α3)} {f : α1 → α2 → α3 → Option β} {r : β} (h : bd3 o f = some r) : ∃ a1 a2 a3, o = some (a1, a2, a3) ∧ f a1 a2 a3 = some r := by
  unfold bd3 at h
  cases o with
  | none => cases h
  | some a => exact ⟨_, _, _, rfl, h⟩
theorem bd4_of {α1 α2 α3 α4 β : Type} {o : Option (α1 × α2 × α3 × α4)} {f : α1 → α2 → α3 → α4 → Option β} {r : β} (h : bd4 o f = some r) : ∃ a1 a2 a3 a4, o = some (a1, a2, a3, a4) ∧ f a1 a2 a3 a4 = some r := by
  unfold bd4 at h
  cases o with
  | none => cases h
  | some a => exact ⟨_, _, _, _, rfl, h⟩
theorem bd5_of {α1 α2 α3 α4 α5 β : Type} {o : Option (α1 × α2 × α3 × α4 × α5)} {f : α1 → α2 → α3 → α4 → α5 → Option β} {r : β} (h : bd5 o f = some r) : ∃ a1 a2 a3 a4 a5, o = some (a1, a2, a3, a4, a5) ∧ f a1 a2 a3 a4 a5 = some r := by
  unfold bd5 at h
  cases o with
  | none => cases h
  | some a => exact ⟨_, _, _, _, _, rfl, h⟩
theorem bd6_of {α1 α2 α3 α4 α5 α6 β : Type} {o : Option (α1 × α2 × α3 × α4 × α5 × α6)} {f : α1 → α2 → α3 → α4 → α5 → α6 → Option β} {r : β} (h : bd6 o f = some r) : ∃ a1 a2 a3 a4 a5 a6, o = some (a1, a2, a3, a4, a5, a6) ∧ f a1 a2 a3 a4 a5 a6 = some r := by
  unfold bd6 at h
  cases o with
  | none => cases h
  | some a => exact ⟨_, _, _, _, _, _, rfl, h⟩
theorem bd7_of {α1 α2 α3 α4 α5 α6 α7 β : Type} {o : Option (α1 × α2 × α3 × α4 × α5 × α6 × α7)} {f : α1 → α2 → α3 → α4 → α5 → α6 → α7 → Option β} {r : β} (h : bd7 o f = some r) : ∃ a1 a2 a3 a4 a5 a6 a7, o = some (a1, a2, a3, a4, a5, a6, a7) ∧ f a1 a2 a3 a4 a5 a6 a7 = some r := by
  unfold bd7 at h
  cases o with
  | none => cases h
  | some a => exact ⟨_, _, _, _, _, _, _, rfl, h⟩
theorem bd8_of {α1 α2 α3 α4 α5 α6 α7 α8 β : Type} {o : Option (α1 × α2 × α3 × α4 × α5 × α6 × α7 × α8)} {f : α1 → α2 → α3 → α4 → α5 → α6 → α7 → α8 → Option β} {r : β} (h : bd8 o f = some r) : ∃ a1 a2 a3 a4 a5 a6 a7 a8, o = some (a1, a2, a3, a4, a5, a6, a7, a8) ∧ f a1 a2 a3 a4 a5 a6 a7 a8 = some r := by
  unfold bd8 at h
  cases o with
  | none => cases h
  | some a => exact ⟨_, _, _, _, _, _, _, _, rfl, h⟩
theorem bd9_of {α1 α2 α3 α4 α5 α6 α7 α8 α9 β : Type} {o : Option (α1 × α2 × α3 × α4 × α5 × α6 × α7 × α8 × α9)} {f : α1 → α2 → α3 → α4 → α5 → α6 → α7 → α8 → α9 → Option β} {r : β} (h : bd9 o f = some r) : ∃ a1 a2 a3 a4 a5 a6 a7 a8 a9, o = some (a1, a2, a3, a4, a5, a6, a7, a8, a9) ∧ f a1 a2 a3 a4 a5 a6 a7 a8 a9 = some r := by
  unfold bd9 at h
  cases o with
  | none => cases h
  | some a => exact ⟨_, _, _, _, _, _, _, _, _, rfl, h⟩
def lpG {T : Type} (bot : T) (B : T → T) : Nat → T
  | 0 => bot
  | n + 1 => B (lpG bot B n)
theorem if_t {α : Type} {c : Prop} [Decidable c] {a b r : α} (hc : c) (h : (if c then a else b) = r) : a = r := by rw [if_pos hc] at h; exact h
theorem if_f {α : Type} {c : Prop} [Decidable c] {a b r : α} (hc : ¬ c) (h : (if c then a else b) = r) : b = r := by rw [if_neg hc] at h; exact h
/-- contracts -/
abbrev RM (f lo : Nat) : Room := { frames := f, cells := 0, slots := 0, locals := lo }
def wU (y : MethodName) (cc : ByteArray) (nL : Nat) (ret : Option FieldType) : List Cond := .code y cc nL ret :: wG
def PreC (E : En) (As : List Value) (Wd : va_W) (sz : Nat) : Array Value → State → Prop := va_Pc As (fun U => U.heap.size = sz ∧ va_P E.2.1 vwCl Wd U.heap ∧ va_K E.2.1 vwCl (tyL E.2.2) U ∧ va_D (fun _ => True) Wd ∧ NW U ∧ ST (va_A Wd sz) U U.heap)
def Ci (E : En) (y : MethodName) (ws : List Cond) (rm : Room) (As : List Value) (Wd Wd' : va_W) (r : Int32) : Prop := ∀ sz : Nat, Met E.1 y ws rm (PreC E As Wd sz) (va_Qi (fun v (_ : Unit) => v = r) (fun _ t => va_P E.2.1 vwCl Wd' t.heap) (va_A Wd sz)) 0 0 (va_A Wd sz)
def Cv (E : En) (y : MethodName) (ws : List Cond) (rm : Room) (As : List Value) (Wd Wd' : va_W) : Prop := ∀ sz : Nat, Met E.1 y ws rm (PreC E As Wd sz) (va_Qv (fun (_ : Unit) => True) (fun _ t => va_P E.2.1 vwCl Wd' t.heap) (va_A Wd sz)) 0 0 (va_A Wd sz)
def QI (x : Cxt) (r : Int32) (Wd' : va_W) : State → Prop :=
  match x with
  | ((_, D, _), _, _, s, _, args, below, _, _, A) => MQ below (va_Qi (fun v (_ : Unit) => v = r) (fun _ t => va_P D vwCl Wd' t.heap) A) args s 0 0 A
def QV (x : Cxt) (Wd' : va_W) : State → Prop :=
  match x with
  | ((_, D, _), _, _, s, _, args, below, _, _, A) => MQ below (va_Qv (fun (_ : Unit) => True) (fun _ t => va_P D vwCl Wd' t.heap) A) args s 0 0 A
theorem PreC.blind (E : En) (As : List Value) (Wd : va_W) (sz : Nat) : FrameBlind (PreC E As Wd sz) := by
  intro a U g mk q
  obtain ⟨q0, q1, qP, qK, qD, qN, qS⟩ := q
  exact ⟨q0, q1, qP, va_K.moved (u := U) (U := U.calling g mk a) (Vm.Alike.refl U.vm) qK, qD, NW.same rfl qN, ST.moved (u := U) (U := U.calling g mk a) (Vm.Alike.refl U.vm) qS⟩
theorem enter {E : En} {y : MethodName} {cc : ByteArray} {nL : Nat} {ret : Option FieldType} {rm : Room} {As : List Value} {Wd : va_W} {Qc : Nat → Array Value → State → Outcome → State → Prop} {mc ms : Nat}
    (hy : plainName y.cls = true) (hL : (lg_sl As).length ≤ nL)
    (body : ∀ (p : Program) (e : Env) (s : State) (m : MethodId) (args : Array Value) (below : List Frame) (meth : Method) (c : Code), CX y.cls cc nL ret (E, p, e, s, m, args, below, meth, c, va_A Wd s.heap.size) → meth.name = y.name → PT rm nL (E, p, e, s, m, args, below, meth, c, va_A Wd s.heap.size) 0 (lv_args 0 As) [] Wd 0 0 (MQ below (Qc s.heap.size) args s mc ms (va_A Wd s.heap.size))) (sz : Nat) :
    Met E.1 y (wU y cc nL ret) rm (PreC E As Wd sz) (Qc sz) mc ms (va_A Wd sz) := by
  refine Met.ofW (cc := cc) (maxL := nL) (ret := ret) hy rfl ?_
  intro p e s m args below meth c s₁ B hml hv
  obtain ⟨rfl, hsz, hP, hK, hD0, hN, hS⟩ := hv
  subst hsz
  have hts := atoms_spec (ws := wU y cc nL ret) B.pre
  have h1 := body p e s m As.toArray below meth c ⟨B.exec, B.bytes, hml, findClass_of_methodNamed B.named, fun w hw => hts w (List.mem_cons_of_mem _ hw), B.returns, B.notSynchronized, hK, fun q h => Or.inr h, hN, hS⟩ (name_of_methodNamed B.named B.method).1
  have hl := lv_entry As (n := nL) hL
  rw [lg_entry_eq]
  exact h1 s.heap [] _ ⟨hP, hD0.self, va_S.rf⟩ hl
theorem Ci.of {E : En} {y : MethodName} {cc : ByteArray} {nL : Nat} {ret : Option FieldType} {rm : Room} {As : List Value} {Wd Wd' : va_W} {r : Int32} (hy : plainName y.cls = true) (hL : (lg_sl As).length ≤ nL)
    (body : ∀ x : Cxt, x.1 = E → CX y.cls cc nL ret x → PT rm nL x 0 (lv_args 0 As) [] Wd 0 0 (QI x r Wd')) : Ci E y (wU y cc nL ret) rm As Wd Wd' r :=
  fun sz => enter (Qc := fun sz => va_Qi (fun v (_ : Unit) => v = r) (fun _ t => va_P E.2.1 vwCl Wd' t.heap) (va_A Wd sz)) hy hL (fun p e s m args below meth c C _ => body (E, p, e, s, m, args, below, meth, c, va_A Wd s.heap.size) rfl C) sz
theorem Cv.of {E : En} {y : MethodName} {cc : ByteArray} {nL : Nat} {ret : Option FieldType} {rm : Room} {As : List Value} {Wd Wd' : va_W} (hy : plainName y.cls = true) (hL : (lg_sl As).length ≤ nL)
    (body : ∀ x : Cxt, x.1 = E → CX y.cls cc nL ret x → PT rm nL x 0 (lv_args 0 As) [] Wd 0 0 (QV x Wd')) : Cv E y (wU y cc nL ret) rm As Wd Wd' :=
  fun sz => enter (Qc := fun sz => va_Qv (fun (_ : Unit) => True) (fun _ t => va_P E.2.1 vwCl Wd' t.heap) (va_A Wd sz)) hy hL (fun p e s m args below meth c C _ => body (E, p, e, s, m, args, below, meth, c, va_A Wd s.heap.size) rfl C) sz
end
section
section RW
variable {own : String} {cc : ByteArray} {nL : Nat} {ret : Option FieldType} {R : Room} {x : Cxt} {pc pc' : Nat} {lv lv' : List (Nat × Value)} {st : List Value} {Wd Wd' : va_W} {cl sl : Nat} {Q : State → Prop}
theorem p_iconst (C : CX own cc nL ret x) {n : Int} {v : Int32} (hd : decode cc pc = .ok (.iconst n, 1)) (hp : pc + 1 = pc') (hv : Int32.ofInt n = v) (k : PT R nL x pc' lv (.int v :: st) Wd cl sl Q) : PT R nL x pc lv st Wd cl sl Q := by
  obtain ⟨⟨l, D, k0⟩, p, e, s, m, args, below, meth, c, A⟩ := x
  obtain ⟨hx, hb, hml, hown, hts, hr, hlk, hK, hA, hN, hS0⟩ := C
  subst hp
  intro H locs ls hH hl
  exact lv_iconst hx hb hd hv (k H locs ls hH hl)
theorem p_bipush (C : CX own cc nL ret x) {n : Int} {v : Int32} (hd : decode cc pc = .ok (.bipush n, 2)) (hp : pc + 2 = pc') (hv : (Int8.ofInt n).toInt32 = v) (k : PT R nL x pc' lv (.int v :: st) Wd cl sl Q) : PT R nL x pc lv st Wd cl sl Q := by
  obtain ⟨⟨l, D, k0⟩, p, e, s, m, args, below, meth, c, A⟩ := x
  obtain ⟨hx, hb, hml, hown, hts, hr, hlk, hK, hA, hN, hS0⟩ := C
  subst hp
  intro H locs ls hH hl
  exact lv_bipush hx hb hd hv (k H locs ls hH hl)
theorem p_sipush (C : CX own cc nL ret x) {n : Int} {v : Int32} (hd : decode cc pc = .ok (.sipush n, 3)) (hp : pc + 3 = pc') (hv : (Int16.ofInt n).toInt32 = v) (k : PT R nL x pc' lv (.int v :: st) Wd cl sl Q) : PT R nL x pc lv st Wd cl sl Q := by
  obtain ⟨⟨l, D, k0⟩, p, e, s, m, args, below, meth, c, A⟩ := x
  obtain ⟨hx, hb, hml, hown, hts, hr, hlk, hK, hA, hN, hS0⟩ := C
  subst hp
  intro H locs ls hH hl
  exact lv_sipush hx hb hd hv (k H locs ls hH hl)
theorem p_ldc (C : CX own cc nL ret x) {index : Nat} {v : Int32} (hd : decode cc pc = .ok (.ldc index, 2)) (hp : pc + 2 = pc') (hw : Cond.constant own index v ∈ wG) (k : PT R nL x pc' lv (.int v :: st) Wd cl sl Q) : PT R nL x pc lv st Wd cl sl Q := by
  obtain ⟨⟨l, D, k0⟩, p, e, s, m, args, below, meth, c, A⟩ := x
  obtain ⟨hx, hb, hml, hown, hts, hr, hlk, hK, hA, hN, hS0⟩ := C
  subst hp
  intro H locs ls hH hl
  exact lv_ldc hx hb hown (hts _ hw) hd (k H locs ls hH hl)
theorem p_ldcw (C : CX own cc nL ret x) {index : Nat} {v : Int32} (hd : decode cc pc = .ok (.ldc_w index, 3)) (hp : pc + 3 = pc') (hw : Cond.constant own index v ∈ wG) (k : PT R nL x pc' lv (.int v :: st) Wd cl sl Q) : PT R nL x pc lv st Wd cl sl Q := by
  obtain ⟨⟨l, D, k0⟩, p, e, s, m, args, below, meth, c, A⟩ := x
  obtain ⟨hx, hb, hml, hown, hts, hr, hlk, hK, hA, hN, hS0⟩ := C
  subst hp
  intro H locs ls hH hl
  exact lv_ldcw hx hb hown (hts _ hw) hd (k H locs ls hH hl)
theorem p_iload_n (C : CX own cc nL ret x) {i : Fin 4} {v : Int32} (hd : decode cc pc = .ok (.iload_n i, 1)) (hp : pc + 1 = pc') (j : Nat) (hj : lv[j]? = some ((i : Nat), .int v)) (k : PT R nL x pc' lv (.int v :: st) Wd cl sl Q) : PT R nL x pc lv st Wd cl sl Q := by
  obtain ⟨⟨l, D, k0⟩, p, e, s, m, args, below, meth, c, A⟩ := x
  obtain ⟨hx, hb, hml, hown, hts, hr, hlk, hK, hA, hN, hS0⟩ := C
  subst hp
  intro H locs ls hH hl
  exact lv_iload_n hx hb hd rfl (lv_at hl j hj) (k H locs ls hH hl)
theorem p_iload (C : CX own cc nL ret x) {i : Nat} {v : Int32} (hd : decode cc pc = .ok (.iload i, 2)) (hp : pc + 2 = pc') (j : Nat) (hj : lv[j]? = some (i, .int v)) (k : PT R nL x pc' lv (.int v :: st) Wd cl sl Q) : PT R nL x pc lv st Wd cl sl Q := by
  obtain ⟨⟨l, D, k0⟩, p, e, s, m, args, below, meth, c, A⟩ := x
  obtain ⟨hx, hb, hml, hown, hts, hr, hlk, hK, hA, hN, hS0⟩ := C
  subst hp
  intro H locs ls hH hl
  exact lv_iload hx hb hd (lv_at hl j hj) (k H locs ls hH hl)
theorem p_aload_n (C : CX own cc nL ret x) {i : Fin 4} {v : Nat} (hd : decode cc pc = .ok (.aload_n i, 1)) (hp : pc + 1 = pc') (j : Nat) (hj : lv[j]? = some ((i : Nat), .ref v)) (k : PT R nL x pc' lv (.ref v :: st) Wd cl sl Q) : PT R nL x pc lv st Wd cl sl Q := by
  obtain ⟨⟨l, D, k0⟩, p, e, s, m, args, below, meth, c, A⟩ := x
  obtain ⟨hx, hb, hml, hown, hts, hr, hlk, hK, hA, hN, hS0⟩ := C
  subst hp
  intro H locs ls hH hl
  exact lv_aload_n hx hb hd rfl (lv_at hl j hj) (k H locs ls hH hl)
theorem p_aload (C : CX own cc nL ret x) {i : Nat} {v : Nat} (hd : decode cc pc = .ok (.aload i, 2)) (hp : pc + 2 = pc') (j : Nat) (hj : lv[j]? = some (i, .ref v)) (k : PT R nL x pc' lv (.ref v :: st) Wd cl sl Q) : PT R nL x pc lv st Wd cl sl Q := by
  obtain ⟨⟨l, D, k0⟩, p, e, s, m, args, below, meth, c, A⟩ := x
  obtain ⟨hx, hb, hml, hown, hts, hr, hlk, hK, hA, hN, hS0⟩ := C
  subst hp
  intro H locs ls hH hl
  exact lv_aload hx hb hd (lv_at hl j hj) (k H locs ls hH hl)
theorem p_istore_n (C : CX own cc nL ret x) {i : Fin 4} {v : Int32} (hd : decode cc pc = .ok (.istore_n i, 1)) (hp : pc + 1 = pc') (hn : (i : Nat) < nL) (hv : ((i : Nat), Value.int v) :: lv.filter (fun q => !(q.1 == (i : Nat)) && !(q.1 + 1 == (i : Nat) && q.2.category == 2)) = lv') (k : PT R nL x pc' lv' st Wd cl sl Q) : PT R nL x pc lv (.int v :: st) Wd cl sl Q := by
  obtain ⟨⟨l, D, k0⟩, p, e, s, m, args, below, meth, c, A⟩ := x
  obtain ⟨hx, hb, hml, hown, hts, hr, hlk, hK, hA, hN, hS0⟩ := C
  subst hp
  intro H locs ls hH hl
  exact lv_istore_n hx hb hd rfl hl hn hv (fun ls' hl' => k H locs ls' hH hl')
theorem p_istore (C : CX own cc nL ret x) {i : Nat} {v : Int32} (hd : decode cc pc = .ok (.istore i, 2)) (hp : pc + 2 = pc') (hn : i < nL) (hv : (i, Value.int v) :: lv.filter (fun q => !(q.1 == i) && !(q.1 + 1 == i && q.2.category == 2)) = lv') (k : PT R nL x pc' lv' st Wd cl sl Q) : PT R nL x pc lv (.int v :: st) Wd cl sl Q := by
  obtain ⟨⟨l, D, k0⟩, p, e, s, m, args, below, meth, c, A⟩ := x
  obtain ⟨hx, hb, hml, hown, hts, hr, hlk, hK, hA, hN, hS0⟩ := C
  subst hp
  intro H locs ls hH hl
  exact lv_istore hx hb hd hl hn hv (fun ls' hl' => k H locs ls' hH hl')
theorem p_astore_n (C : CX own cc nL ret x) {i : Fin 4} {v : Nat} (hd : decode cc pc = .ok (.astore_n i, 1)) (hp : pc + 1 = pc') (hn : (i : Nat) < nL) (hv : ((i : Nat), Value.ref v) :: lv.filter (fun q => !(q.1 == (i : Nat)) && !(q.1 + 1 == (i : Nat) && q.2.category == 2)) = lv') (k : PT R nL x pc' lv' st Wd cl sl Q) : PT R nL x pc lv (.ref v :: st) Wd cl sl Q := by
  obtain ⟨⟨l, D, k0⟩, p, e, s, m, args, below, meth, c, A⟩ := x
  obtain ⟨hx, hb, hml, hown, hts, hr, hlk, hK, hA, hN, hS0⟩ := C
  subst hp
  intro H locs ls hH hl
  exact lv_astore_n hx hb hd rfl hl hn hv (fun ls' hl' => k H locs ls' hH hl')
theorem p_iinc (C : CX own cc nL ret x) {i : Nat} {n : Int} {v w : Int32} (hd : decode cc pc = .ok (.iinc i n, 3)) (hp : pc + 3 = pc') (j : Nat) (hj : lv[j]? = some (i, .int v)) (hw : v + Int32.ofInt n = w) (hn : i < nL) (hv : (i, Value.int w) :: lv.filter (fun q => !(q.1 == i) && !(q.1 + 1 == i && q.2.category == 2)) = lv') (k : PT R nL x pc' lv' st Wd cl sl Q) : PT R nL x pc lv st Wd cl sl Q := by
  obtain ⟨⟨l, D, k0⟩, p, e, s, m, args, below, meth, c, A⟩ := x
  obtain ⟨hx, hb, hml, hown, hts, hr, hlk, hK, hA, hN, hS0⟩ := C
  subst hp
  intro H locs ls hH hl
  exact lv_iinc hx hb hd hl hj hw hn hv (fun ls' hl' => k H locs ls' hH hl')
theorem p_locals (is : List Nat) (h : lv_pick lv is = lv') (k : PT R nL x pc lv' st Wd cl sl Q) : PT R nL x pc lv st Wd cl sl Q := by
  obtain ⟨⟨l, D, k0⟩, p, e, s, m, args, below, meth, c, A⟩ := x
  intro H locs ls hH hl
  exact k H locs ls hH (lv_sub hl is h)
theorem p_iadd (C : CX own cc nL ret x) {v w : Int32} (hd : decode cc pc = .ok (.iadd, 1)) (hp : pc + 1 = pc') (k : PT R nL x pc' lv (.int (v + w) :: st) Wd cl sl Q) : PT R nL x pc lv (.int w :: .int v :: st) Wd cl sl Q := by
  obtain ⟨⟨l, D, k0⟩, p, e, s, m, args, below, meth, c, A⟩ := x
  obtain ⟨hx, hb, hml, hown, hts, hr, hlk, hK, hA, hN, hS0⟩ := C
  subst hp
  intro H locs ls hH hl
  exact lv_iadd hx hb hd (k H locs ls hH hl)
theorem p_isub (C : CX own cc nL ret x) {v w : Int32} (hd : decode cc pc = .ok (.isub, 1)) (hp : pc + 1 = pc') (k : PT R nL x pc' lv (.int (v - w) :: st) Wd cl sl Q) : PT R nL x pc lv (.int w :: .int v :: st) Wd cl sl Q := by
  obtain ⟨⟨l, D, k0⟩, p, e, s, m, args, below, meth, c, A⟩ := x
  obtain ⟨hx, hb, hml, hown, hts, hr, hlk, hK, hA, hN, hS0⟩ := C
  subst hp
  intro H locs ls hH hl
  exact lv_isub hx hb hd (k H locs ls hH hl)
theorem p_imul (C : CX own cc nL ret x) {v w : Int32} (hd : decode cc pc = .ok (.imul, 1)) (hp : pc + 1 = pc') (k : PT R nL x pc' lv (.int (v * w) :: st) Wd cl sl Q) : PT R nL x pc lv (.int w :: .int v :: st) Wd cl sl Q := by
  obtain ⟨⟨l, D, k0⟩, p, e, s, m, args, below, meth, c, A⟩ := x
  obtain ⟨hx, hb, hml, hown, hts, hr, hlk, hK, hA, hN, hS0⟩ := C
  subst hp
  intro H locs ls hH hl
  exact lv_imul hx hb hd (k H locs ls hH hl)
theorem p_iand (C : CX own cc nL ret x) {v w : Int32} (hd : decode cc pc = .ok (.iand, 1)) (hp : pc + 1 = pc') (k : PT R nL x pc' lv (.int (v &&& w) :: st) Wd cl sl Q) : PT R nL x pc lv (.int w :: .int v :: st) Wd cl sl Q := by
  obtain ⟨⟨l, D, k0⟩, p, e, s, m, args, below, meth, c, A⟩ := x
  obtain ⟨hx, hb, hml, hown, hts, hr, hlk, hK, hA, hN, hS0⟩ := C
  subst hp
  intro H locs ls hH hl
  exact lv_iand hx hb hd (k H locs ls hH hl)
theorem p_ior (C : CX own cc nL ret x) {v w : Int32} (hd : decode cc pc = .ok (.ior, 1)) (hp : pc + 1 = pc') (k : PT R nL x pc' lv (.int (v ||| w) :: st) Wd cl sl Q) : PT R nL x pc lv (.int w :: .int v :: st) Wd cl sl Q := by
  obtain ⟨⟨l, D, k0⟩, p, e, s, m, args, below, meth, c, A⟩ := x
  obtain ⟨hx, hb, hml, hown, hts, hr, hlk, hK, hA, hN, hS0⟩ := C
  subst hp
  intro H locs ls hH hl
  exact lv_ior hx hb hd (k H locs ls hH hl)
theorem p_ixor (C : CX own cc nL ret x) {v w : Int32} (hd : decode cc pc = .ok (.ixor, 1)) (hp : pc + 1 = pc') (k : PT R nL x pc' lv (.int (v ^^^ w) :: st) Wd cl sl Q) : PT R nL x pc lv (.int w :: .int v :: st) Wd cl sl Q := by
  obtain ⟨⟨l, D, k0⟩, p, e, s, m, args, below, meth, c, A⟩ := x
  obtain ⟨hx, hb, hml, hown, hts, hr, hlk, hK, hA, hN, hS0⟩ := C
  subst hp
  intro H locs ls hH hl
  exact lv_ixor hx hb hd (k H locs ls hH hl)
theorem p_ishl (C : CX own cc nL ret x) {v w : Int32} (hd : decode cc pc = .ok (.ishl, 1)) (hp : pc + 1 = pc') (k : PT R nL x pc' lv (.int (v <<< (w &&& 31)) :: st) Wd cl sl Q) : PT R nL x pc lv (.int w :: .int v :: st) Wd cl sl Q := by
  obtain ⟨⟨l, D, k0⟩, p, e, s, m, args, below, meth, c, A⟩ := x
  obtain ⟨hx, hb, hml, hown, hts, hr, hlk, hK, hA, hN, hS0⟩ := C
  subst hp
  intro H locs ls hH hl
  exact lv_ishl hx hb hd (k H locs ls hH hl)
theorem p_ishr (C : CX own cc nL ret x) {v w : Int32} (hd : decode cc pc = .ok (.ishr, 1)) (hp : pc + 1 = pc') (k : PT R nL x pc' lv (.int (v >>> (w &&& 31)) :: st) Wd cl sl Q) : PT R nL x pc lv (.int w :: .int v :: st) Wd cl sl Q := by
  obtain ⟨⟨l, D, k0⟩, p, e, s, m, args, below, meth, c, A⟩ := x
  obtain ⟨hx, hb, hml, hown, hts, hr, hlk, hK, hA, hN, hS0⟩ := C
  subst hp
  intro H locs ls hH hl
  exact lv_ishr hx hb hd (k H locs ls hH hl)
def ushr (v w : Int32) : Int32 := (v.toUInt32 >>> (w.toUInt32 &&& Int32.toUInt32 31)).toInt32
theorem p_iushr (C : CX own cc nL ret x) {v w : Int32} (hd : decode cc pc = .ok (.iushr, 1)) (hp : pc + 1 = pc') (k : PT R nL x pc' lv (.int (ushr v w) :: st) Wd cl sl Q) : PT R nL x pc lv (.int w :: .int v :: st) Wd cl sl Q := by
  obtain ⟨⟨l, D, k0⟩, p, e, s, m, args, below, meth, c, A⟩ := x
  obtain ⟨hx, hb, hml, hown, hts, hr, hlk, hK, hA, hN, hS0⟩ := C
  subst hp
  intro H locs ls hH hl
  exact lv_iushr hx hb hd rfl (k H locs ls hH hl)
theorem p_idiv (C : CX own cc nL ret x) {v w : Int32} (hd : decode cc pc = .ok (.idiv, 1)) (hp : pc + 1 = pc') (h0 : ¬ w = 0) (k : PT R nL x pc' lv (.int (v / w) :: st) Wd cl sl Q) : PT R nL x pc lv (.int w :: .int v :: st) Wd cl sl Q := by
  obtain ⟨⟨l, D, k0⟩, p, e, s, m, args, below, meth, c, A⟩ := x
  obtain ⟨hx, hb, hml, hown, hts, hr, hlk, hK, hA, hN, hS0⟩ := C
  subst hp
  intro H locs ls hH hl
  exact lv_idiv hx hb hd h0 (k H locs ls hH hl)
theorem p_irem (C : CX own cc nL ret x) {v w : Int32} (hd : decode cc pc = .ok (.irem, 1)) (hp : pc + 1 = pc') (h0 : ¬ w = 0) (k : PT R nL x pc' lv (.int (v - v / w * w) :: st) Wd cl sl Q) : PT R nL x pc lv (.int w :: .int v :: st) Wd cl sl Q := by
  obtain ⟨⟨l, D, k0⟩, p, e, s, m, args, below, meth, c, A⟩ := x
  obtain ⟨hx, hb, hml, hown, hts, hr, hlk, hK, hA, hN, hS0⟩ := C
  subst hp
  intro H locs ls hH hl
  exact lv_irem hx hb hd h0 (k H locs ls hH hl)
theorem p_ineg (C : CX own cc nL ret x) {v : Int32} (hd : decode cc pc = .ok (.ineg, 1)) (hp : pc + 1 = pc') (k : PT R nL x pc' lv (.int (-v) :: st) Wd cl sl Q) : PT R nL x pc lv (.int v :: st) Wd cl sl Q := by
  obtain ⟨⟨l, D, k0⟩, p, e, s, m, args, below, meth, c, A⟩ := x
  obtain ⟨hx, hb, hml, hown, hts, hr, hlk, hK, hA, hN, hS0⟩ := C
  subst hp
  intro H locs ls hH hl
  exact lv_ineg hx hb hd (k H locs ls hH hl)
theorem p_dup (C : CX own cc nL ret x) {v : Value} (hd : decode cc pc = .ok (.dup, 1)) (hp : pc + 1 = pc') (hc : v.category = 1) (k : PT R nL x pc' lv (v :: v :: st) Wd cl sl Q) : PT R nL x pc lv (v :: st) Wd cl sl Q := by
  obtain ⟨⟨l, D, k0⟩, p, e, s, m, args, below, meth, c, A⟩ := x
  obtain ⟨hx, hb, hml, hown, hts, hr, hlk, hK, hA, hN, hS0⟩ := C
  subst hp
  intro H locs ls hH hl
  exact lv_dup hx hb hd hc (k H locs ls hH hl)
theorem p_dup2 (C : CX own cc nL ret x) {v w : Value} (hd : decode cc pc = .ok (.dup2, 1)) (hp : pc + 1 = pc') (hc : v.category = 1) (hc2 : w.category = 1) (k : PT R nL x pc' lv (v :: w :: v :: w :: st) Wd cl sl Q) : PT R nL x pc lv (v :: w :: st) Wd cl sl Q := by
  obtain ⟨⟨l, D, k0⟩, p, e, s, m, args, below, meth, c, A⟩ := x
  obtain ⟨hx, hb, hml, hown, hts, hr, hlk, hK, hA, hN, hS0⟩ := C
  subst hp
  intro H locs ls hH hl
  exact lv_dup2_11 hx hb hd hc hc2 (k H locs ls hH hl)
theorem p_goto (C : CX own cc nL ret x) {off : Int} (hd : decode cc pc = .ok (.goto off, 3)) (hp : (pc : Int) + off = (pc' : Int)) (k : PT R nL x pc' lv st Wd cl sl Q) : PT R nL x pc lv st Wd cl sl Q := by
  obtain ⟨⟨l, D, k0⟩, p, e, s, m, args, below, meth, c, A⟩ := x
  obtain ⟨hx, hb, hml, hown, hts, hr, hlk, hK, hA, hN, hS0⟩ := C
  intro H locs ls hH hl
  exact lv_goto hx hb hd hp (k H locs ls hH hl)
theorem p_if_eq (C : CX own cc nL ret x) {off : Int} {v : Int32} (hd : decode cc pc = .ok (.ifCond .eq off, 3)) {tgt : Nat} (ht : (pc : Int) + off = (tgt : Int)) (hp : pc + 3 = pc') (kt : v = 0 → PT R nL x tgt lv st Wd cl sl Q) (kf : ¬ v = 0 → PT R nL x pc' lv st Wd cl sl Q) : PT R nL x pc lv (.int v :: st) Wd cl sl Q := by
  obtain ⟨⟨l, D, k0⟩, p, e, s, m, args, below, meth, c, A⟩ := x
  obtain ⟨hx, hb, hml, hown, hts, hr, hlk, hK, hA, hN, hS0⟩ := C
  subst hp
  intro H locs ls hH hl
  exact lv_if_eq hx hb hd ht (fun h => kt h H locs ls hH hl) (fun h => kf h H locs ls hH hl)
theorem p_icmp_eq (C : CX own cc nL ret x) {off : Int} {v w : Int32} (hd : decode cc pc = .ok (.if_icmp .eq off, 3)) {tgt : Nat} (ht : (pc : Int) + off = (tgt : Int)) (hp : pc + 3 = pc') (kt : v = w → PT R nL x tgt lv st Wd cl sl Q) (kf : ¬ v = w → PT R nL x pc' lv st Wd cl sl Q) : PT R nL x pc lv (.int w :: .int v :: st) Wd cl sl Q := by
  obtain ⟨⟨l, D, k0⟩, p, e, s, m, args, below, meth, c, A⟩ := x
  obtain ⟨hx, hb, hml, hown, hts, hr, hlk, hK, hA, hN, hS0⟩ := C
  subst hp
  intro H locs ls hH hl
  exact lv_icmp_eq hx hb hd ht (fun h => kt h H locs ls hH hl) (fun h => kf h H locs ls hH hl)
theorem p_if_ne (C : CX own cc nL ret x) {off : Int} {v : Int32} (hd : decode cc pc = .ok (.ifCond .ne off, 3)) {tgt : Nat} (ht : (pc : Int) + off = (tgt : Int)) (hp : pc + 3 = pc') (kt : ¬ v = 0 → PT R nL x tgt lv st Wd cl sl Q) (kf : v = 0 → PT R nL x pc' lv st Wd cl sl Q) : PT R nL x pc lv (.int v :: st) Wd cl sl Q := by
  obtain ⟨⟨l, D, k0⟩, p, e, s, m, args, below, meth, c, A⟩ := x
  obtain ⟨hx, hb, hml, hown, hts, hr, hlk, hK, hA, hN, hS0⟩ := C
  subst hp
  intro H locs ls hH hl
  exact lv_if_ne hx hb hd ht (fun h => kt h H locs ls hH hl) (fun h => kf h H locs ls hH hl)
theorem p_icmp_ne (C : CX own cc nL ret x) {off : Int} {v w : Int32} (hd : decode cc pc = .ok (.if_icmp .ne off, 3)) {tgt : Nat} (ht : (pc : Int) + off = (tgt : Int)) (hp : pc + 3 = pc') (kt : ¬ v = w → PT R nL x tgt lv st Wd cl sl Q) (kf : v = w → PT R nL x pc' lv st Wd cl sl Q) : PT R nL x pc lv (.int w :: .int v :: st) Wd cl sl Q := by
  obtain ⟨⟨l, D, k0⟩, p, e, s, m, args, below, meth, c, A⟩ := x
  obtain ⟨hx, hb, hml, hown, hts, hr, hlk, hK, hA, hN, hS0⟩ := C
  subst hp
  intro H locs ls hH hl
  exact lv_icmp_ne hx hb hd ht (fun h => kt h H locs ls hH hl) (fun h => kf h H locs ls hH hl)
theorem p_if_lt (C : CX own cc nL ret x) {off : Int} {v : Int32} (hd : decode cc pc = .ok (.ifCond .lt off, 3)) {tgt : Nat} (ht : (pc : Int) + off = (tgt : Int)) (hp : pc + 3 = pc') (kt : v < 0 → PT R nL x tgt lv st Wd cl sl Q) (kf : ¬ v < 0 → PT R nL x pc' lv st Wd cl sl Q) : PT R nL x pc lv (.int v :: st) Wd cl sl Q := by
  obtain ⟨⟨l, D, k0⟩, p, e, s, m, args, below, meth, c, A⟩ := x
  obtain ⟨hx, hb, hml, hown, hts, hr, hlk, hK, hA, hN, hS0⟩ := C
  subst hp
  intro H locs ls hH hl
  exact lv_if_lt hx hb hd ht (fun h => kt h H locs ls hH hl) (fun h => kf h H locs ls hH hl)
theorem p_icmp_lt (C : CX own cc nL ret x) {off : Int} {v w : Int32} (hd : decode cc pc = .ok (.if_icmp .lt off, 3)) {tgt : Nat} (ht : (pc : Int) + off = (tgt : Int)) (hp : pc + 3 = pc') (kt : v < w → PT R nL x tgt lv st Wd cl sl Q) (kf : ¬ v < w → PT R nL x pc' lv st Wd cl sl Q) : PT R nL x pc lv (.int w :: .int v :: st) Wd cl sl Q := by
  obtain ⟨⟨l, D, k0⟩, p, e, s, m, args, below, meth, c, A⟩ := x
  obtain ⟨hx, hb, hml, hown, hts, hr, hlk, hK, hA, hN, hS0⟩ := C
  subst hp
  intro H locs ls hH hl
  exact lv_icmp_lt hx hb hd ht (fun h => kt h H locs ls hH hl) (fun h => kf h H locs ls hH hl)
theorem p_if_ge (C : CX own cc nL ret x) {off : Int} {v : Int32} (hd : decode cc pc = .ok (.ifCond .ge off, 3)) {tgt : Nat} (ht : (pc : Int) + off = (tgt : Int)) (hp : pc + 3 = pc') (kt : 0 ≤ v → PT R nL x tgt lv st Wd cl sl Q) (kf : ¬ 0 ≤ v → PT R nL x pc' lv st Wd cl sl Q) : PT R nL x pc lv (.int v :: st) Wd cl sl Q := by
  obtain ⟨⟨l, D, k0⟩, p, e, s, m, args, below, meth, c, A⟩ := x
  obtain ⟨hx, hb, hml, hown, hts, hr, hlk, hK, hA, hN, hS0⟩ := C
  subst hp
  intro H locs ls hH hl
  exact lv_if_ge hx hb hd ht (fun h => kt h H locs ls hH hl) (fun h => kf h H locs ls hH hl)
theorem p_icmp_ge (C : CX own cc nL ret x) {off : Int} {v w : Int32} (hd : decode cc pc = .ok (.if_icmp .ge off, 3)) {tgt : Nat} (ht : (pc : Int) + off = (tgt : Int)) (hp : pc + 3 = pc') (kt : w ≤ v → PT R nL x tgt lv st Wd cl sl Q) (kf : ¬ w ≤ v → PT R nL x pc' lv st Wd cl sl Q) : PT R nL x pc lv (.int w :: .int v :: st) Wd cl sl Q := by
  obtain ⟨⟨l, D, k0⟩, p, e, s, m, args, below, meth, c, A⟩ := x
  obtain ⟨hx, hb, hml, hown, hts, hr, hlk, hK, hA, hN, hS0⟩ := C
  subst hp
  intro H locs ls hH hl
  exact lv_icmp_ge hx hb hd ht (fun h => kt h H locs ls hH hl) (fun h => kf h H locs ls hH hl)
theorem p_if_gt (C : CX own cc nL ret x) {off : Int} {v : Int32} (hd : decode cc pc = .ok (.ifCond .gt off, 3)) {tgt : Nat} (ht : (pc : Int) + off = (tgt : Int)) (hp : pc + 3 = pc') (kt : 0 < v → PT R nL x tgt lv st Wd cl sl Q) (kf : ¬ 0 < v → PT R nL x pc' lv st Wd cl sl Q) : PT R nL x pc lv (.int v :: st) Wd cl sl Q := by
  obtain ⟨⟨l, D, k0⟩, p, e, s, m, args, below, meth, c, A⟩ := x
  obtain ⟨hx, hb, hml, hown, hts, hr, hlk, hK, hA, hN, hS0⟩ := C
  subst hp
  intro H locs ls hH hl
  exact lv_if_gt hx hb hd ht (fun h => kt h H locs ls hH hl) (fun h => kf h H locs ls hH hl)
theorem p_icmp_gt (C : CX own cc nL ret x) {off : Int} {v w : Int32} (hd : decode cc pc = .ok (.if_icmp .gt off, 3)) {tgt : Nat} (ht : (pc : Int) + off = (tgt : Int)) (hp : pc + 3 = pc') (kt : w < v → PT R nL x tgt lv st Wd cl sl Q) (kf : ¬ w < v → PT R nL x pc' lv st Wd cl sl Q) : PT R nL x pc lv (.int w :: .int v :: st) Wd cl sl Q := by
  obtain ⟨⟨l, D, k0⟩, p, e, s, m, args, below, meth, c, A⟩ := x
  obtain ⟨hx, hb, hml, hown, hts, hr, hlk, hK, hA, hN, hS0⟩ := C
  subst hp
  intro H locs ls hH hl
  exact lv_icmp_gt hx hb hd ht (fun h => kt h H locs ls hH hl) (fun h => kf h H locs ls hH hl)
theorem p_if_le (C : CX own cc nL ret x) {off : Int} {v : Int32} (hd : decode cc pc = .ok (.ifCond .le off, 3)) {tgt : Nat} (ht : (pc : Int) + off = (tgt : Int)) (hp : pc + 3 = pc') (kt : v ≤ 0 → PT R nL x tgt lv st Wd cl sl Q) (kf : ¬ v ≤ 0 → PT R nL x pc' lv st Wd cl sl Q) : PT R nL x pc lv (.int v :: st) Wd cl sl Q := by
  obtain ⟨⟨l, D, k0⟩, p, e, s, m, args, below, meth, c, A⟩ := x
  obtain ⟨hx, hb, hml, hown, hts, hr, hlk, hK, hA, hN, hS0⟩ := C
  subst hp
  intro H locs ls hH hl
  exact lv_if_le hx hb hd ht (fun h => kt h H locs ls hH hl) (fun h => kf h H locs ls hH hl)
theorem p_icmp_le (C : CX own cc nL ret x) {off : Int} {v w : Int32} (hd : decode cc pc = .ok (.if_icmp .le off, 3)) {tgt : Nat} (ht : (pc : Int) + off = (tgt : Int)) (hp : pc + 3 = pc') (kt : v ≤ w → PT R nL x tgt lv st Wd cl sl Q) (kf : ¬ v ≤ w → PT R nL x pc' lv st Wd cl sl Q) : PT R nL x pc lv (.int w :: .int v :: st) Wd cl sl Q := by
  obtain ⟨⟨l, D, k0⟩, p, e, s, m, args, below, meth, c, A⟩ := x
  obtain ⟨hx, hb, hml, hown, hts, hr, hlk, hK, hA, hN, hS0⟩ := C
  subst hp
  intro H locs ls hH hl
  exact lv_icmp_le hx hb hd ht (fun h => kt h H locs ls hH hl) (fun h => kf h H locs ls hH hl)
theorem p_get (C : CX own cc nL ret x) {Cn ref : String} {T : u_T} {N ci index a : Nat} {fs : List Value} {v : Value} (hd : decode cc pc = .ok (.getfield index, 3)) (hp : pc + 3 = pc') (q0 k0 : Nat) (hin : ∀ w ∈ u_ws Cn T N, w ∈ wG) (hw : Cond.fieldLink own index ref (T k0).2.1 (T k0).2.2.1 ∈ wG) (he : Wd[q0]? = some (a, .inr (ci, fs))) (hc : vwCl[ci]? = some (Cn, T, N)) (hk : k0 < N) (href : (T k0).1 = ref) (hv : fs[k0]? = some v)
    (k : PT R nL x pc' lv (v :: st) Wd cl sl Q) : PT R nL x pc lv (.ref a :: st) Wd cl sl Q := by
  obtain ⟨⟨l, D, k1⟩, p, e, s, m, args, below, meth, c, A⟩ := x
  obtain ⟨hx, hb, hml, hown, hts, hr, hlk, hK, hA, hN, hS0⟩ := C
  subst hp
  subst href
  intro H locs ls hH hl
  exact va_get hx hb hts hin hown hK hH.1 q0 he hc k0 hk (hts _ hw) (fun _ h9 => h9) hv hd (k H locs ls hH hl)
theorem p_getN (C : CX own cc nL ret x) {Cn ref : String} {T : u_T} {N ci index a : Nat} {fs : List Value} {v : Value} (hd : decode cc pc = .ok (.getfield index, 3)) (hp : pc + 3 = pc') (q0 k0 : Nat) (hin : ∀ w ∈ u_ws Cn T N, w ∈ wG) (hw : (own, index, ref, (T k0).2.1, (T k0).2.2.1) ∈ nestFs) (he : Wd[q0]? = some (a, .inr (ci, fs))) (hc : vwCl[ci]? = some (Cn, T, N)) (hk : k0 < N) (href : (T k0).1 = ref) (hv : fs[k0]? = some v)
    (k : PT R nL x pc' lv (v :: st) Wd cl sl Q) : PT R nL x pc lv (.ref a :: st) Wd cl sl Q := by
  obtain ⟨⟨l, D, k1⟩, p, e, s, m, args, below, meth, c, A⟩ := x
  obtain ⟨hx, hb, hml, hown, hts, hr, hlk, hK, hA, hN, hS0⟩ := C
  subst hp
  subst href
  intro H locs ls hH hl
  exact va_getN hx hb hts hin hown hK hH.1 q0 he hc k0 hk (va_Nw.use rfl (hN.1 _ hw)) (fun _ h9 => h9) hv hd (k H locs ls hH hl)
theorem p_put (C : CX own cc nL ret x) {Cn ref : String} {T : u_T} {N ci index a : Nat} {fs : List Value} {v : Value} {ty : FieldType} (hd : decode cc pc = .ok (.putfield index, 3)) (hp : pc + 3 = pc') (q0 k0 : Nat) (hin : ∀ w ∈ u_ws Cn T N, w ∈ wG) (ty0 : Nat → FieldType) (hty : ∀ k, k < N → parseFieldDescriptor (T k).2.2.1 = some (ty0 k)) (hnm : ∀ a, a < N → ∀ b, b < N → a ≠ b → (T a).2.1 ≠ (T b).2.1) (hw : Cond.fieldLink own index ref (T k0).2.1 (T k0).2.2.1 ∈ wG) (he : Wd[q0]? = some (a, .inr (ci, fs))) (hc : vwCl[ci]? = some (Cn, T, N)) (hk : k0 < N) (href : (T k0).1 = ref) (hfin : (T k0).2.2.2 = false) (hdc : parseFieldDescriptor (T k0).2.2.1 = some ty) (hn : narrow ty v = v) (hfit : fits ty v = true) (hlen : k0 < fs.length) (hW : Wd.set q0 (a, .inr (ci, fs.set k0 v)) = Wd')
    (k : PT R nL x pc' lv st Wd' cl sl Q) : PT R nL x pc lv (v :: .ref a :: st) Wd cl sl Q := by
  obtain ⟨⟨l, D, k1⟩, p, e, s, m, args, below, meth, c, A⟩ := x
  obtain ⟨hx, hb, hml, hown, hts, hr, hlk, hK, hA, hN, hS0⟩ := C
  subst hp
  subst href
  subst hW
  intro H locs ls hH hl
  exact va_put hx hb hts hin ty0 hty hnm hown hK hH.1 hH.2.1 hH.2.2 q0 he hc k0 hk (hts _ hw) (fun _ h9 => h9) hfin hdc hn hfit hlen hd (fun H1 locs1 hP hD hS => k H1 locs1 ls ⟨hP, hD, hS⟩ hl)
theorem p_putN (C : CX own cc nL ret x) {Cn ref : String} {T : u_T} {N ci index a : Nat} {fs : List Value} {v : Value} {ty : FieldType} (hd : decode cc pc = .ok (.putfield index, 3)) (hp : pc + 3 = pc') (q0 k0 : Nat) (hin : ∀ w ∈ u_ws Cn T N, w ∈ wG) (ty0 : Nat → FieldType) (hty : ∀ k, k < N → parseFieldDescriptor (T k).2.2.1 = some (ty0 k)) (hnm : ∀ a, a < N → ∀ b, b < N → a ≠ b → (T a).2.1 ≠ (T b).2.1) (hw : (own, index, ref, (T k0).2.1, (T k0).2.2.1) ∈ nestFs) (he : Wd[q0]? = some (a, .inr (ci, fs))) (hc : vwCl[ci]? = some (Cn, T, N)) (hk : k0 < N) (href : (T k0).1 = ref) (hfin : (T k0).2.2.2 = false) (hdc : parseFieldDescriptor (T k0).2.2.1 = some ty) (hn : narrow ty v = v) (hfit : fits ty v = true) (hlen : k0 < fs.length) (hW : Wd.set q0 (a, .inr (ci, fs.set k0 v)) = Wd')
    (k : PT R nL x pc' lv st Wd' cl sl Q) : PT R nL x pc lv (v :: .ref a :: st) Wd cl sl Q := by
  obtain ⟨⟨l, D, k1⟩, p, e, s, m, args, below, meth, c, A⟩ := x
  obtain ⟨hx, hb, hml, hown, hts, hr, hlk, hK, hA, hN, hS0⟩ := C
  subst hp
  subst href
  subst hW
  intro H locs ls hH hl
  exact va_putN hx hb hts hin ty0 hty hnm hown hK hH.1 hH.2.1 hH.2.2 q0 he hc k0 hk (va_Nw.use rfl (hN.1 _ hw)) (fun _ h9 => h9) hfin hdc hn hfit hlen hd (fun H1 locs1 hP hD hS => k H1 locs1 ls ⟨hP, hD, hS⟩ hl)
theorem p_iald (C : CX own cc nL ret x) {a n : Nat} {f : Ar} {i : Int32} (hd : decode cc pc = .ok (.iaload, 1)) (hp : pc + 1 = pc') (q0 : Nat) (ha : Wd[q0]? = some (a, .inl (x.1.2.2.1, n, .inl f))) (hg : gI i n = true)
    (k : PT R nL x pc' lv (.int (f i.toNatClampNeg) :: st) Wd cl sl Q) : PT R nL x pc lv (.int i :: .ref a :: st) Wd cl sl Q := by
  obtain ⟨⟨l, D, k1⟩, p, e, s, m, args, below, meth, c, A⟩ := x
  obtain ⟨hx, hb, hml, hown, hts, hr, hlk, hK, hA, hN, hS0⟩ := C
  subst hp
  intro H locs ls hH hl
  exact va_iald hx hb hK hH.1 q0 0 ha rfl (gI_in hg) hd (k H locs ls hH hl)
theorem p_zald (C : CX own cc nL ret x) {a n : Nat} {f : Ar} {i : Int32} (hd : decode cc pc = .ok (.baload, 1)) (hp : pc + 1 = pc') (q0 : Nat) (ha : Wd[q0]? = some (a, .inl (x.1.2.2.2.1, n, .inl f))) (hg : gI i n = true)
    (k : PT R nL x pc' lv (.int (f i.toNatClampNeg) :: st) Wd cl sl Q) : PT R nL x pc lv (.int i :: .ref a :: st) Wd cl sl Q := by
  obtain ⟨⟨l, D, k1⟩, p, e, s, m, args, below, meth, c, A⟩ := x
  obtain ⟨hx, hb, hml, hown, hts, hr, hlk, hK, hA, hN, hS0⟩ := C
  subst hp
  intro H locs ls hH hl
  exact va_zald hx hb hK hH.1 q0 1 ha rfl (gI_in hg) hd (k H locs ls hH hl)
theorem p_iast (C : CX own cc nL ret x) {a n : Nat} {f : Ar} {i v : Int32} (hd : decode cc pc = .ok (.iastore, 1)) (hp : pc + 1 = pc') (q0 : Nat) (ha : Wd[q0]? = some (a, .inl (x.1.2.2.1, n, .inl f))) (hg : gI i n = true) (hW : Wd.set q0 (a, .inl (x.1.2.2.1, n, .inl (upd f i.toNatClampNeg v))) = Wd')
    (k : PT R nL x pc' lv st Wd' cl sl Q) : PT R nL x pc lv (.int v :: .int i :: .ref a :: st) Wd cl sl Q := by
  obtain ⟨⟨l, D, k1⟩, p, e, s, m, args, below, meth, c, A⟩ := x
  obtain ⟨hx, hb, hml, hown, hts, hr, hlk, hK, hA, hN, hS0⟩ := C
  subst hp
  subst hW
  intro H locs ls hH hl
  exact va_iast hx hb hK hH.1 hH.2.1 hH.2.2 q0 0 ha rfl (gI_in hg) hd (fun H1 locs1 hP hD hS => k H1 locs1 ls ⟨hP, hD, hS⟩ hl)
theorem p_zast (C : CX own cc nL ret x) {a n : Nat} {f : Ar} {i v : Int32} (hd : decode cc pc = .ok (.bastore, 1)) (hp : pc + 1 = pc') (q0 : Nat) (ha : Wd[q0]? = some (a, .inl (x.1.2.2.2.1, n, .inl f))) (hg : gI i n = true) (hW : Wd.set q0 (a, .inl (x.1.2.2.2.1, n, .inl (upd f i.toNatClampNeg (vp_nar .boolean v)))) = Wd')
    (k : PT R nL x pc' lv st Wd' cl sl Q) : PT R nL x pc lv (.int v :: .int i :: .ref a :: st) Wd cl sl Q := by
  obtain ⟨⟨l, D, k1⟩, p, e, s, m, args, below, meth, c, A⟩ := x
  obtain ⟨hx, hb, hml, hown, hts, hr, hlk, hK, hA, hN, hS0⟩ := C
  subst hp
  subst hW
  intro H locs ls hH hl
  exact va_zast hx hb hK hH.1 hH.2.1 hH.2.2 q0 1 ha rfl (gI_in hg) hd (fun H1 locs1 hP hD hS => k H1 locs1 ls ⟨hP, hD, hS⟩ hl)
theorem p_aald (C : CX own cc nL ret x) {a n b : Nat} {f : Nat → Option Nat} {i : Int32} (hd : decode cc pc = .ok (.aaload, 1)) (hp : pc + 1 = pc') (q0 : Nat) (ha : Wd[q0]? = some (a, .inl (x.1.2.2.2.2, n, .inr (.inr (.inr (.inr f)))))) (hg : gI i n = true) (hv : f i.toNatClampNeg = some b)
    (k : PT R nL x pc' lv (.ref b :: st) Wd cl sl Q) : PT R nL x pc lv (.int i :: .ref a :: st) Wd cl sl Q := by
  obtain ⟨⟨l, D, k1⟩, p, e, s, m, args, below, meth, c, A⟩ := x
  obtain ⟨hx, hb, hml, hown, hts, hr, hlk, hK, hA, hN, hS0⟩ := C
  subst hp
  intro H locs ls hH hl
  refine va_aldq hx hb hK hH.1 q0 2 ha rfl (gI_in hg) hd ?_
  rw [hv]
  exact k H locs ls hH hl
def TT (x : Cxt) (t : Nat) (f : Nat → Int32) : Prop := va_T .int t 6 (fun j => .int (f j)) x.2.2.2.2.2.2.2.2.2 x.2.2.2.1 x.2.2.2.1.heap
theorem p_getsL (C : CX own cc nL ret x) {index : Nat} (hd : decode cc pc = .ok (.getstatic index, 3)) (hp : pc + 3 = pc') (hw : Cond.fieldLink own index "NeedlePairs" "LESSER_NET" "[I" ∈ wG) (k : ∀ t, TT x t LNf → PT R nL x pc' lv (.ref t :: st) Wd cl sl Q) : PT R nL x pc lv st Wd cl sl Q := by
  obtain ⟨⟨l, D, k1⟩, p, e, s, m, args, below, meth, c, A⟩ := x
  obtain ⟨hx, hb, hml, hown, hts, hr, hlk, hK, hA, hN, t1, t2, z1, y1, z2, y2⟩ := C
  subst hp
  intro H locs ls hH hl
  exact va_gets hx hb z1 hH.2.2 hown (hts _ hw) (fun _ h9 => h9) hd (k t1 y1 H locs ls hH hl)
theorem p_getsG (C : CX own cc nL ret x) {index : Nat} (hd : decode cc pc = .ok (.getstatic index, 3)) (hp : pc + 3 = pc') (hw : Cond.fieldLink own index "NeedlePairs" "GREATER_NET" "[I" ∈ wG) (k : ∀ t, TT x t GNf → PT R nL x pc' lv (.ref t :: st) Wd cl sl Q) : PT R nL x pc lv st Wd cl sl Q := by
  obtain ⟨⟨l, D, k1⟩, p, e, s, m, args, below, meth, c, A⟩ := x
  obtain ⟨hx, hb, hml, hown, hts, hr, hlk, hK, hA, hN, t1, t2, z1, y1, z2, y2⟩ := C
  subst hp
  intro H locs ls hH hl
  exact va_gets hx hb z2 hH.2.2 hown (hts _ hw) (fun _ h9 => h9) hd (k t2 y2 H locs ls hH hl)
theorem p_getsLN (C : CX own cc nL ret x) {index : Nat} (hd : decode cc pc = .ok (.getstatic index, 3)) (hp : pc + 3 = pc') (hw : (own, index, "NeedlePairs", "LESSER_NET", "[I") ∈ nestFs) (k : ∀ t, TT x t LNf → PT R nL x pc' lv (.ref t :: st) Wd cl sl Q) : PT R nL x pc lv st Wd cl sl Q := by
  obtain ⟨⟨l, D, k1⟩, p, e, s, m, args, below, meth, c, A⟩ := x
  obtain ⟨hx, hb, hml, hown, hts, hr, hlk, hK, hA, hN, t1, t2, z1, y1, z2, y2⟩ := C
  subst hp
  intro H locs ls hH hl
  exact va_getsN hx hb z1 hH.2.2 hown (va_Nw.use rfl (hN.1 _ hw)) (fun _ h9 => h9) hd (k t1 y1 H locs ls hH hl)
theorem p_getsGN (C : CX own cc nL ret x) {index : Nat} (hd : decode cc pc = .ok (.getstatic index, 3)) (hp : pc + 3 = pc') (hw : (own, index, "NeedlePairs", "GREATER_NET", "[I") ∈ nestFs) (k : ∀ t, TT x t GNf → PT R nL x pc' lv (.ref t :: st) Wd cl sl Q) : PT R nL x pc lv st Wd cl sl Q := by
  obtain ⟨⟨l, D, k1⟩, p, e, s, m, args, below, meth, c, A⟩ := x
  obtain ⟨hx, hb, hml, hown, hts, hr, hlk, hK, hA, hN, t1, t2, z1, y1, z2, y2⟩ := C
  subst hp
  intro H locs ls hH hl
  exact va_getsN hx hb z2 hH.2.2 hown (va_Nw.use rfl (hN.1 _ hw)) (fun _ h9 => h9) hd (k t2 y2 H locs ls hH hl)
theorem p_tald (C : CX own cc nL ret x) {t : Nat} {f : Nat → Int32} {i : Int32} (hT : TT x t f) (hd : decode cc pc = .ok (.iaload, 1)) (hp : pc + 1 = pc') (hg : gI i 6 = true)
    (k : PT R nL x pc' lv (.int (f i.toNatClampNeg) :: st) Wd cl sl Q) : PT R nL x pc lv (.int i :: .ref t :: st) Wd cl sl Q := by
  obtain ⟨⟨l, D, k1⟩, p, e, s, m, args, below, meth, c, A⟩ := x
  obtain ⟨hx, hb, hml, hown, hts, hr, hlk, hK, hA, hN, hS0⟩ := C
  subst hp
  intro H locs ls hH hl
  exact va_ti hx hb hT hH.2.2 (gI_in hg) rfl hd (k H locs ls hH hl)
theorem p_mmax (C : CX own cc nL ret x) {index : Nat} {v w : Int32} (hd : decode cc pc = .ok (.invokestatic index, 3)) (hp : pc + 3 = pc') (hw : Cond.methodLink own index Lib.Math.max.name ∈ wG) (h2 : Cond.static Lib.Math.max.name ∈ wG ∧ Cond.initialized "java/lang/Math" ∈ wG ∧ Cond.code Lib.Math.max.name Lib.Math.max.code 2 (some .int) ∈ wG) (hR : 1 ≤ R.frames ∧ (st.map fun v => v.category).sum + 13 ≤ R.locals) (hC : cl ≤ R.cells ∧ sl ≤ R.slots)
    (k : PT R nL x pc' lv (.int (if v < w then w else v) :: st) Wd cl sl Q) : PT R nL x pc lv (.int w :: .int v :: st) Wd cl sl Q := by
  obtain ⟨⟨l, D, k1⟩, p, e, s, m, args, below, meth, c, A⟩ := x
  obtain ⟨hx, hb, hml, hown, hts, hr, hlk, hK, hA, hN, hS0⟩ := C
  subst hp
  intro H locs ls hH hl
  exact va_mmax hx hb (by rw [hml]; exact hl.1.symm) hown (hts _ hw) (hts _ h2.1) (hts _ h2.2.1) (hts _ h2.2.2) hR.1 hR.2 hC.1 hC.2 hd (k H locs ls hH hl)
theorem p_mmin (C : CX own cc nL ret x) {index : Nat} {v w : Int32} (hd : decode cc pc = .ok (.invokestatic index, 3)) (hp : pc + 3 = pc') (hw : Cond.methodLink own index Lib.Math.min.name ∈ wG) (h2 : Cond.static Lib.Math.min.name ∈ wG ∧ Cond.initialized "java/lang/Math" ∈ wG ∧ Cond.code Lib.Math.min.name Lib.Math.min.code 2 (some .int) ∈ wG) (hR : 1 ≤ R.frames ∧ (st.map fun v => v.category).sum + 13 ≤ R.locals) (hC : cl ≤ R.cells ∧ sl ≤ R.slots)
    (k : PT R nL x pc' lv (.int (if w < v then w else v) :: st) Wd cl sl Q) : PT R nL x pc lv (.int w :: .int v :: st) Wd cl sl Q := by
  obtain ⟨⟨l, D, k1⟩, p, e, s, m, args, below, meth, c, A⟩ := x
  obtain ⟨hx, hb, hml, hown, hts, hr, hlk, hK, hA, hN, hS0⟩ := C
  subst hp
  intro H locs ls hH hl
  exact va_mmin hx hb (by rw [hml]; exact hl.1.symm) hown (hts _ hw) (hts _ h2.1) (hts _ h2.2.1) (hts _ h2.2.2) hR.1 hR.2 hC.1 hC.2 hd (k H locs ls hH hl)
theorem p_mabs (C : CX own cc nL ret x) {index : Nat} {v : Int32} (hd : decode cc pc = .ok (.invokestatic index, 3)) (hp : pc + 3 = pc') (hw : Cond.methodLink own index Lib.Math.abs.name ∈ wG) (h2 : Cond.static Lib.Math.abs.name ∈ wG ∧ Cond.initialized "java/lang/Math" ∈ wG ∧ Cond.code Lib.Math.abs.name Lib.Math.abs.code 1 (some .int) ∈ wG) (hR : 1 ≤ R.frames ∧ (st.map fun v => v.category).sum + 13 ≤ R.locals) (hC : cl ≤ R.cells ∧ sl ≤ R.slots)
    (k : PT R nL x pc' lv (.int (if 0 ≤ v then v else 0 - v) :: st) Wd cl sl Q) : PT R nL x pc lv (.int v :: st) Wd cl sl Q := by
  obtain ⟨⟨l, D, k1⟩, p, e, s, m, args, below, meth, c, A⟩ := x
  obtain ⟨hx, hb, hml, hown, hts, hr, hlk, hK, hA, hN, hS0⟩ := C
  subst hp
  intro H locs ls hH hl
  exact va_mabs hx hb (by rw [hml]; exact hl.1.symm) hown (hts _ hw) (hts _ h2.1) (hts _ h2.2.1) (hts _ h2.2.2) hR.1 hR.2 hC.1 hC.2 hd (k H locs ls hH hl)
/-- returns -/
theorem p_iret (C : CX own cc nL (some .int) x) {v : Int32} (hd : decode cc pc = .ok (.ireturn, 1)) : PT R nL x pc lv [.int v] Wd 0 0 (QI x v Wd) := by
  obtain ⟨⟨l, D, k1⟩, p, e, s, m, args, below, meth, c, A⟩ := x
  obtain ⟨hx, hb, hml, hown, hts, hr, hlk, hK, hA, hN, hS0⟩ := C
  intro H locs ls hH hl
  exact W.iret (v := v) hx hb hr (fun t ht hW => ⟨⟨v, (), rfl, rfl, by show va_P D vwCl Wd t.heap; rw [ht]; exact hH.1⟩, hH.2.2.F ht⟩) hH.2.2.2.2 hd
theorem p_zret (C : CX own cc nL (some .boolean) x) {v : Int32} (hd : decode cc pc = .ok (.ireturn, 1)) (hn : narrow .boolean (.int v) = .int v) : PT R nL x pc lv [.int v] Wd 0 0 (QI x v Wd) := by
  obtain ⟨⟨l, D, k1⟩, p, e, s, m, args, below, meth, c, A⟩ := x
  obtain ⟨hx, hb, hml, hown, hts, hr, hlk, hK, hA, hN, hS0⟩ := C
  intro H locs ls hH hl
  exact W.zret (v := v) hx hb hr hn (fun t ht hW => ⟨⟨v, (), rfl, rfl, by show va_P D vwCl Wd t.heap; rw [ht]; exact hH.1⟩, hH.2.2.F ht⟩) hH.2.2.2.2 hd
theorem p_vret (C : CX own cc nL none x) (hd : decode cc pc = .ok (.return_, 1)) : PT R nL x pc lv [] Wd 0 0 (QV x Wd) := by
  obtain ⟨⟨l, D, k1⟩, p, e, s, m, args, below, meth, c, A⟩ := x
  obtain ⟨hx, hb, hml, hown, hts, hr, hlk, hK, hA, hN, hS0⟩ := C
  intro H locs ls hH hl
  exact W.vret hx hb hr (fun t ht hW => ⟨⟨(), rfl, trivial, by show va_P D vwCl Wd t.heap; rw [ht]; exact hH.1⟩, hH.2.2.F ht⟩) hH.2.2.2.2 hd
end RW
end
section
def wput : va_W → List Nat → va_W → va_W
  | Wd, i :: is, c :: cs => wput (Wd.set i c) is cs
  | Wd, _, _ => Wd
theorem wput_ok {D : va_G} {cl : List vw_C} {A : Nat → Prop} {H1 : Heap} : ∀ (is : List Nat) (cs : va_W) (Wd : va_W), (∀ (k : Nat) (q : Nat × va_E), Wd[k]? = some q → k ∉ is → va_at D cl q H1) → (∀ (j i : Nat) (c : Nat × va_E), is[j]? = some i → cs[j]? = some c → ∃ q, Wd[i]? = some q ∧ q.1 = c.1) → (∀ (j : Nat) (c : Nat × va_E), cs[j]? = some c → va_at D cl c H1) → is.length = cs.length → va_D A Wd → va_P D cl (wput Wd is cs) H1 ∧ va_D A (wput Wd is cs) := by
  intro is
  induction is with
  | nil =>
    intro cs Wd h1 h2 h3 h4 h5
    cases cs with
    | nil => exact ⟨fun k q hk => h1 k q hk (by simp), h5⟩
    | cons c cs => simp at h4
  | cons i is ih =>
    intro cs Wd h1 h2 h3 h4 h5
    cases cs with
    | nil => simp at h4
    | cons c cs =>
      obtain ⟨q, hq, he⟩ := h2 0 i c rfl rfl
      have hset : Wd.set i c = Wd.set i (q.1, c.2) := by rw [he]
      refine ih cs (Wd.set i c) ?_ ?_ (fun j c' hj => h3 (j + 1) c' (by simpa using hj)) (by simpa using h4) (by rw [hset]; exact h5.set (e0 := q.2) hq)
      · intro k q' hk hn
        by_cases hki : k = i
        · subst hki
          rw [List.getElem?_set] at hk
          split at hk
          · split at hk
            · cases hk
              exact h3 0 c rfl
            · cases hk
          · rename_i hne
            exact absurd rfl hne
        · rw [List.getElem?_set_ne (Ne.symm hki)] at hk
          exact h1 k q' hk (by simp [hki, hn])
      · intro j i' c' hj hc
        obtain ⟨q2, hq2, he2⟩ := h2 (j + 1) i' c' (by simpa using hj) (by simpa using hc)
        by_cases hii : i' = i
        · subst hii
          refine ⟨c, ?_, ?_⟩
          · have hlt : i' < Wd.length := by
              rcases Nat.lt_or_ge i' Wd.length with h | h
              · exact h
              · rw [List.getElem?_eq_none h] at hq2; cases hq2
            rw [List.getElem?_set_self hlt]
          · rw [hq] at hq2
            cases hq2
            rw [← he, he2]
        · exact ⟨q2, by rw [List.getElem?_set_ne (Ne.symm hii)]; exact hq2, he2⟩
theorem hC_at {Wd Wc : va_W} {isC : List Nat} (hC : isC.map (fun i => Wd[i]?) = Wc.map some) {j : Nat} {c : Nat × va_E} (hc : Wc[j]? = some c) : ∃ i, isC[j]? = some i ∧ Wd[i]? = some c := by
  have h1 : (isC.map (fun i => Wd[i]?))[j]? = some (some c) := by rw [hC, List.getElem?_map, hc]; rfl
  rw [List.getElem?_map] at h1
  cases hi : isC[j]? with
  | none => rw [hi] at h1; cases h1
  | some i => rw [hi] at h1; exact ⟨i, rfl, Option.some.inj h1⟩
theorem hC_P {D : va_G} {cl : List vw_C} {Wd Wc : va_W} {isC : List Nat} {H : Heap} (hC : isC.map (fun i => Wd[i]?) = Wc.map some) (hP : va_P D cl Wd H) : va_P D cl Wc H := by
  intro k q hk
  obtain ⟨i, -, hi⟩ := hC_at hC hk
  exact hP i q hi
theorem call_ok {D : va_G} {cl : List vw_C} {A : Nat → Prop} {Wd Wc Wc' : va_W} {isC : List Nat} {H H1 : Heap} (hP : va_P D cl Wd H) (hD : va_D A Wd) (hC : isC.map (fun i => Wd[i]?) = Wc.map some) (hF : Wc'.map Prod.fst = Wc.map Prod.fst) (hP1 : va_P D cl Wc' H1) (hk1 : ∀ q : Nat, q < H.size → ¬ va_A Wc H.size q → H1[q]? = H[q]?) : va_P D cl (wput Wd isC Wc') H1 ∧ va_D A (wput Wd isC Wc') := by
  have hl1 : isC.length = Wc.length := by simpa using congrArg List.length hC
  have hl2 : Wc'.length = Wc.length := by simpa using congrArg List.length hF
  refine wput_ok isC Wc' Wd ?_ ?_ (fun j c hj => hP1 j c hj) (by omega) hD
  · intro k q hk hn
    have h0 := hP k q hk
    refine h0.kept (hk1 q.1 h0.lt ?_)
    intro hA
    rcases hA with ⟨j, e, hj⟩ | hA
    · obtain ⟨i, hi, hw⟩ := hC_at hC hj
      have := hD.1 k i q (q.1, e) hk hw rfl
      subst this
      exact hn (List.mem_of_getElem? hi)
    · exact absurd h0.lt (Nat.not_lt.mpr hA)
  · intro j i c hj hc
    have hj2 : j < Wc.length := by
      rcases Nat.lt_or_ge j Wc.length with h | h
      · exact h
      · rw [List.getElem?_eq_none (by omega)] at hj; cases hj
    have hcj : Wc[j]? = some (Wc[j]'hj2) := List.getElem?_eq_getElem hj2
    obtain ⟨i2, hi2, hw⟩ := hC_at hC hcj
    rw [hj] at hi2
    cases hi2
    refine ⟨_, hw, ?_⟩
    have h9 : (Wc'.map Prod.fst)[j]? = (Wc.map Prod.fst)[j]? := by rw [hF]
    rw [List.getElem?_map, List.getElem?_map, hc, hcj] at h9
    exact (Option.some.inj h9).symm
theorem wU_good {y : MethodName} {cc : ByteArray} {nL : Nat} {ret : Option FieldType} (h : Cond.code y cc nL ret ∈ wG) : GoodIn wG (wU y cc nL ret) := fun w hw => (List.mem_cons.mp hw).elim (fun e => e ▸ wG_good _ h) (wG_good w)
section CL
variable {own : String} {cc : ByteArray} {nL : Nat} {ret : Option FieldType} {R : Room} {x : Cxt} {pc pc' : Nat} {lv lv' : List (Nat × Value)} {st st' : List Value} {Wd Wd' : va_W} {cl sl : Nat} {Q : State → Prop} {y : MethodName} {cc' : ByteArray} {nL' : Nat} {ret' : Option FieldType} {rm' : Room} {As : List Value} {Wc Wc' : va_W} {r : Int32} {index b : Nat}
theorem p_callVi (C : CX own cc nL ret x) (hM : Ci x.1 y (wU y cc' nL' ret') rm' (.ref b :: As) Wc Wc' r) (hd : decode cc pc = .ok (.invokevirtual index, 3)) (hp : pc + 3 = pc') (hl0 : Cond.methodLink own index y ∈ wG) (hv : Cond.instanceMethod y ∈ wG ∧ Cond.selects y.cls y y ∈ wG ∧ Cond.initialized y.cls ∈ wG ∧ Cond.code y cc' nL' ret' ∈ wG) (hdsc : y.cls ≠ "java/lang/invoke/MethodHandle" ∧ y.cls ≠ "java/lang/invoke/VarHandle" ∧ (parseMethodDescriptor y.desc).map (fun d => d.parameters.length) = some As.length) (hR : rm'.cells = 0 ∧ rm'.slots = 0 ∧ rm'.frames + 1 ≤ R.frames ∧ 8 + (nL' + 11) + rm'.locals ≤ R.locals) {ci N : Nat} {T : u_T} {fs : List Value} (q0 : Nat) (hrc : Wc[q0]? = some (b, .inr (ci, fs))) (hvc : vwCl[ci]? = some (y.cls, T, N)) (isC : List Nat) (hC : isC.map (fun i => Wd[i]?) = Wc.map some) (hnd : va_nd isC = true) (hF : Wc'.map Prod.fst = Wc.map Prod.fst) (hst : st = As.reverse ++ .ref b :: st') (hcat : (st'.map fun v => v.category).sum ≤ 8) (hcs : cl + 0 ≤ R.cells ∧ sl + 0 ≤ R.slots) (hW : wput Wd isC Wc' = Wd')
    (k : PT R nL x pc' lv (.int r :: st') Wd' cl sl Q) : PT R nL x pc lv st Wd cl sl Q := by
  obtain ⟨⟨l, D, k0⟩, p, e, s, m, args, below, meth, c, A⟩ := x
  obtain ⟨hx, hb, hml, hown, hts, hr, hlk, hK, hA, hN, hS0⟩ := C
  subst hp
  subst hst
  subst hW
  intro H locs ls hH hl
  obtain ⟨hP, hD, hS⟩ := hH
  have hPc : va_P D vwCl Wc H := hC_P hC hP
  have hDc : va_D (fun _ => True) Wc := (hD.sub isC hnd hC).weaken (fun _ _ _ _ => trivial)
  have hFc : ∀ q, va_A Wc H.size q → A q := va_free (wc := Wc) hD hS hA isC hC
  refine va_calli (va_runV (As := As) (rest := st') ⟨hx, hb, hml, hown, hts⟩ (hM H.size) ⟨callB_of As.length hts (wU_good hv.2.2.2) rfl hR.1 hR.2.1 (hts _ hv.2.2.1) (hts _ hl0) hdsc hR.2.2, hts _ hv.1, hts _ hv.2.1⟩ ⟨PreC.blind _ _ _ _, va_recv hK hPc hvc hrc, fun U hU hW => ⟨rfl, by rw [hU], by rw [hU]; exact hPc, va_K.moved hW.alike hK, hDc, NW.warm hW hN, by rw [hU]; exact ((hS0.kept hS.2.1).narrow hFc).moved hW.alike⟩⟩ rfl rfl hl.1 rfl (lv_room hcat) hd hcs) hS (fun q _ h => hFc q h) hFc (fun r1 u t H1 locs1 ht hvm hw hB hz1 hk1 hS1 => ?_)
  have hB : va_P D vwCl Wc' t.heap := hB
  rw [ht] at hB
  have hJ := call_ok hP hD hC hF hB hk1
  subst hw
  exact k H1 locs1 ls ⟨hJ.1, hJ.2, hS1⟩ hl
theorem p_callVv (C : CX own cc nL ret x) (hM : Cv x.1 y (wU y cc' nL' ret') rm' (.ref b :: As) Wc Wc') (hd : decode cc pc = .ok (.invokevirtual index, 3)) (hp : pc + 3 = pc') (hl0 : Cond.methodLink own index y ∈ wG) (hv : Cond.instanceMethod y ∈ wG ∧ Cond.selects y.cls y y ∈ wG ∧ Cond.initialized y.cls ∈ wG ∧ Cond.code y cc' nL' ret' ∈ wG) (hdsc : y.cls ≠ "java/lang/invoke/MethodHandle" ∧ y.cls ≠ "java/lang/invoke/VarHandle" ∧ (parseMethodDescriptor y.desc).map (fun d => d.parameters.length) = some As.length) (hR : rm'.cells = 0 ∧ rm'.slots = 0 ∧ rm'.frames + 1 ≤ R.frames ∧ 8 + (nL' + 11) + rm'.locals ≤ R.locals) {ci N : Nat} {T : u_T} {fs : List Value} (q0 : Nat) (hrc : Wc[q0]? = some (b, .inr (ci, fs))) (hvc : vwCl[ci]? = some (y.cls, T, N)) (isC : List Nat) (hC : isC.map (fun i => Wd[i]?) = Wc.map some) (hnd : va_nd isC = true) (hF : Wc'.map Prod.fst = Wc.map Prod.fst) (hst : st = As.reverse ++ .ref b :: st') (hcat : (st'.map fun v => v.category).sum ≤ 8) (hcs : cl + 0 ≤ R.cells ∧ sl + 0 ≤ R.slots) (hW : wput Wd isC Wc' = Wd')
    (k : PT R nL x pc' lv st' Wd' cl sl Q) : PT R nL x pc lv st Wd cl sl Q := by
  obtain ⟨⟨l, D, k0⟩, p, e, s, m, args, below, meth, c, A⟩ := x
  obtain ⟨hx, hb, hml, hown, hts, hr, hlk, hK, hA, hN, hS0⟩ := C
  subst hp
  subst hst
  subst hW
  intro H locs ls hH hl
  obtain ⟨hP, hD, hS⟩ := hH
  have hPc : va_P D vwCl Wc H := hC_P hC hP
  have hDc : va_D (fun _ => True) Wc := (hD.sub isC hnd hC).weaken (fun _ _ _ _ => trivial)
  have hFc : ∀ q, va_A Wc H.size q → A q := va_free (wc := Wc) hD hS hA isC hC
  refine va_callv (va_runV (As := As) (rest := st') ⟨hx, hb, hml, hown, hts⟩ (hM H.size) ⟨callB_of As.length hts (wU_good hv.2.2.2) rfl hR.1 hR.2.1 (hts _ hv.2.2.1) (hts _ hl0) hdsc hR.2.2, hts _ hv.1, hts _ hv.2.1⟩ ⟨PreC.blind _ _ _ _, va_recv hK hPc hvc hrc, fun U hU hW => ⟨rfl, by rw [hU], by rw [hU]; exact hPc, va_K.moved hW.alike hK, hDc, NW.warm hW hN, by rw [hU]; exact ((hS0.kept hS.2.1).narrow hFc).moved hW.alike⟩⟩ rfl rfl hl.1 rfl (lv_room hcat) hd hcs) hS (fun q _ h => hFc q h) hFc (fun u t H1 locs1 ht hvm hw hB hz1 hk1 hS1 => ?_)
  have hB : va_P D vwCl Wc' t.heap := hB
  rw [ht] at hB
  have hJ := call_ok hP hD hC hF hB hk1
  skip
  exact k H1 locs1 ls ⟨hJ.1, hJ.2, hS1⟩ hl
theorem p_callVNi (C : CX own cc nL ret x) (hM : Ci x.1 y (wU y cc' nL' ret') rm' (.ref b :: As) Wc Wc' r) (hd : decode cc pc = .ok (.invokevirtual index, 3)) (hp : pc + 3 = pc') (hl0 : (own, index, y) ∈ nestMs) (hv : Cond.instanceMethod y ∈ wG ∧ Cond.selects y.cls y y ∈ wG ∧ Cond.initialized y.cls ∈ wG ∧ Cond.code y cc' nL' ret' ∈ wG) (hdsc : y.cls ≠ "java/lang/invoke/MethodHandle" ∧ y.cls ≠ "java/lang/invoke/VarHandle" ∧ (parseMethodDescriptor y.desc).map (fun d => d.parameters.length) = some As.length) (hR : rm'.cells = 0 ∧ rm'.slots = 0 ∧ rm'.frames + 1 ≤ R.frames ∧ 8 + (nL' + 11) + rm'.locals ≤ R.locals) {ci N : Nat} {T : u_T} {fs : List Value} (q0 : Nat) (hrc : Wc[q0]? = some (b, .inr (ci, fs))) (hvc : vwCl[ci]? = some (y.cls, T, N)) (isC : List Nat) (hC : isC.map (fun i => Wd[i]?) = Wc.map some) (hnd : va_nd isC = true) (hF : Wc'.map Prod.fst = Wc.map Prod.fst) (hst : st = As.reverse ++ .ref b :: st') (hcat : (st'.map fun v => v.category).sum ≤ 8) (hcs : cl + 0 ≤ R.cells ∧ sl + 0 ≤ R.slots) (hW : wput Wd isC Wc' = Wd')
    (k : PT R nL x pc' lv (.int r :: st') Wd' cl sl Q) : PT R nL x pc lv st Wd cl sl Q := by
  obtain ⟨⟨l, D, k0⟩, p, e, s, m, args, below, meth, c, A⟩ := x
  obtain ⟨hx, hb, hml, hown, hts, hr, hlk, hK, hA, hN, hS0⟩ := C
  subst hp
  subst hst
  subst hW
  intro H locs ls hH hl
  obtain ⟨hP, hD, hS⟩ := hH
  have hPc : va_P D vwCl Wc H := hC_P hC hP
  have hDc : va_D (fun _ => True) Wc := (hD.sub isC hnd hC).weaken (fun _ _ _ _ => trivial)
  have hFc : ∀ q, va_A Wc H.size q → A q := va_free (wc := Wc) hD hS hA isC hC
  refine va_calli (va_runVN (As := As) (rest := st') ⟨hx, hb, hml, hown, hts⟩ (hM H.size) ⟨va_cnB As.length hts (wU_good hv.2.2.2) rfl hR.1 hR.2.1 (hN.2 _ hl0) (hts _ hv.2.2.1) hdsc hR.2.2, hts _ hv.1, hts _ hv.2.1⟩ ⟨PreC.blind _ _ _ _, va_recv hK hPc hvc hrc, fun U hU hW => ⟨rfl, by rw [hU], by rw [hU]; exact hPc, va_K.moved hW.alike hK, hDc, NW.warm hW hN, by rw [hU]; exact ((hS0.kept hS.2.1).narrow hFc).moved hW.alike⟩⟩ rfl rfl hl.1 rfl (lv_room hcat) hd hcs) hS (fun q _ h => hFc q h) hFc (fun r1 u t H1 locs1 ht hvm hw hB hz1 hk1 hS1 => ?_)
  have hB : va_P D vwCl Wc' t.heap := hB
  rw [ht] at hB
  have hJ := call_ok hP hD hC hF hB hk1
  subst hw
  exact k H1 locs1 ls ⟨hJ.1, hJ.2, hS1⟩ hl
theorem p_callVNv (C : CX own cc nL ret x) (hM : Cv x.1 y (wU y cc' nL' ret') rm' (.ref b :: As) Wc Wc') (hd : decode cc pc = .ok (.invokevirtual index, 3)) (hp : pc + 3 = pc') (hl0 : (own, index, y) ∈ nestMs) (hv : Cond.instanceMethod y ∈ wG ∧ Cond.selects y.cls y y ∈ wG ∧ Cond.initialized y.cls ∈ wG ∧ Cond.code y cc' nL' ret' ∈ wG) (hdsc : y.cls ≠ "java/lang/invoke/MethodHandle" ∧ y.cls ≠ "java/lang/invoke/VarHandle" ∧ (parseMethodDescriptor y.desc).map (fun d => d.parameters.length) = some As.length) (hR : rm'.cells = 0 ∧ rm'.slots = 0 ∧ rm'.frames + 1 ≤ R.frames ∧ 8 + (nL' + 11) + rm'.locals ≤ R.locals) {ci N : Nat} {T : u_T} {fs : List Value} (q0 : Nat) (hrc : Wc[q0]? = some (b, .inr (ci, fs))) (hvc : vwCl[ci]? = some (y.cls, T, N)) (isC : List Nat) (hC : isC.map (fun i => Wd[i]?) = Wc.map some) (hnd : va_nd isC = true) (hF : Wc'.map Prod.fst = Wc.map Prod.fst) (hst : st = As.reverse ++ .ref b :: st') (hcat : (st'.map fun v => v.category).sum ≤ 8) (hcs : cl + 0 ≤ R.cells ∧ sl + 0 ≤ R.slots) (hW : wput Wd isC Wc' = Wd')
    (k : PT R nL x pc' lv st' Wd' cl sl Q) : PT R nL x pc lv st Wd cl sl Q := by
  obtain ⟨⟨l, D, k0⟩, p, e, s, m, args, below, meth, c, A⟩ := x
  obtain ⟨hx, hb, hml, hown, hts, hr, hlk, hK, hA, hN, hS0⟩ := C
  subst hp
  subst hst
  subst hW
  intro H locs ls hH hl
  obtain ⟨hP, hD, hS⟩ := hH
  have hPc : va_P D vwCl Wc H := hC_P hC hP
  have hDc : va_D (fun _ => True) Wc := (hD.sub isC hnd hC).weaken (fun _ _ _ _ => trivial)
  have hFc : ∀ q, va_A Wc H.size q → A q := va_free (wc := Wc) hD hS hA isC hC
  refine va_callv (va_runVN (As := As) (rest := st') ⟨hx, hb, hml, hown, hts⟩ (hM H.size) ⟨va_cnB As.length hts (wU_good hv.2.2.2) rfl hR.1 hR.2.1 (hN.2 _ hl0) (hts _ hv.2.2.1) hdsc hR.2.2, hts _ hv.1, hts _ hv.2.1⟩ ⟨PreC.blind _ _ _ _, va_recv hK hPc hvc hrc, fun U hU hW => ⟨rfl, by rw [hU], by rw [hU]; exact hPc, va_K.moved hW.alike hK, hDc, NW.warm hW hN, by rw [hU]; exact ((hS0.kept hS.2.1).narrow hFc).moved hW.alike⟩⟩ rfl rfl hl.1 rfl (lv_room hcat) hd hcs) hS (fun q _ h => hFc q h) hFc (fun u t H1 locs1 ht hvm hw hB hz1 hk1 hS1 => ?_)
  have hB : va_P D vwCl Wc' t.heap := hB
  rw [ht] at hB
  have hJ := call_ok hP hD hC hF hB hk1
  skip
  exact k H1 locs1 ls ⟨hJ.1, hJ.2, hS1⟩ hl
theorem p_callSi (C : CX own cc nL ret x) (hM : Ci x.1 y (wU y cc' nL' ret') rm' As Wc Wc' r) (hd : decode cc pc = .ok (.invokestatic index, 3)) (hp : pc + 3 = pc') (hl0 : Cond.methodLink own index y ∈ wG) (hv : Cond.static y ∈ wG ∧ Cond.initialized y.cls ∈ wG ∧ Cond.code y cc' nL' ret' ∈ wG) (hdsc : y.cls ≠ "java/lang/invoke/MethodHandle" ∧ y.cls ≠ "java/lang/invoke/VarHandle" ∧ (parseMethodDescriptor y.desc).map (fun d => d.parameters.length) = some As.length) (hR : rm'.cells = 0 ∧ rm'.slots = 0 ∧ rm'.frames + 1 ≤ R.frames ∧ 8 + (nL' + 11) + rm'.locals ≤ R.locals) (isC : List Nat) (hC : isC.map (fun i => Wd[i]?) = Wc.map some) (hnd : va_nd isC = true) (hF : Wc'.map Prod.fst = Wc.map Prod.fst) (hst : st = As.reverse ++ st') (hcat : (st'.map fun v => v.category).sum ≤ 8) (hcs : cl + 0 ≤ R.cells ∧ sl + 0 ≤ R.slots) (hW : wput Wd isC Wc' = Wd')
    (k : PT R nL x pc' lv (.int r :: st') Wd' cl sl Q) : PT R nL x pc lv st Wd cl sl Q := by
  obtain ⟨⟨l, D, k0⟩, p, e, s, m, args, below, meth, c, A⟩ := x
  obtain ⟨hx, hb, hml, hown, hts, hr, hlk, hK, hA, hN, hS0⟩ := C
  subst hp
  subst hst
  subst hW
  intro H locs ls hH hl
  obtain ⟨hP, hD, hS⟩ := hH
  have hPc : va_P D vwCl Wc H := hC_P hC hP
  have hDc : va_D (fun _ => True) Wc := (hD.sub isC hnd hC).weaken (fun _ _ _ _ => trivial)
  have hFc : ∀ q, va_A Wc H.size q → A q := va_free (wc := Wc) hD hS hA isC hC
  refine va_calli (va_runS (As := As) (rest := st') ⟨hx, hb, hml, hown, hts⟩ (hM H.size) ⟨callB_of As.length hts (wU_good hv.2.2) rfl hR.1 hR.2.1 (hts _ hv.2.1) (hts _ hl0) hdsc hR.2.2, hts _ hv.1⟩ ⟨PreC.blind _ _ _ _, fun U hU hW => ⟨rfl, by rw [hU], by rw [hU]; exact hPc, va_K.moved hW.alike hK, hDc, NW.warm hW hN, by rw [hU]; exact ((hS0.kept hS.2.1).narrow hFc).moved hW.alike⟩⟩ rfl rfl hl.1 rfl (lv_room hcat) hd hcs) hS (fun q _ h => hFc q h) hFc (fun r1 u t H1 locs1 ht hvm hw hB hz1 hk1 hS1 => ?_)
  have hB : va_P D vwCl Wc' t.heap := hB
  rw [ht] at hB
  have hJ := call_ok hP hD hC hF hB hk1
  subst hw
  exact k H1 locs1 ls ⟨hJ.1, hJ.2, hS1⟩ hl
theorem p_callSv (C : CX own cc nL ret x) (hM : Cv x.1 y (wU y cc' nL' ret') rm' As Wc Wc') (hd : decode cc pc = .ok (.invokestatic index, 3)) (hp : pc + 3 = pc') (hl0 : Cond.methodLink own index y ∈ wG) (hv : Cond.static y ∈ wG ∧ Cond.initialized y.cls ∈ wG ∧ Cond.code y cc' nL' ret' ∈ wG) (hdsc : y.cls ≠ "java/lang/invoke/MethodHandle" ∧ y.cls ≠ "java/lang/invoke/VarHandle" ∧ (parseMethodDescriptor y.desc).map (fun d => d.parameters.length) = some As.length) (hR : rm'.cells = 0 ∧ rm'.slots = 0 ∧ rm'.frames + 1 ≤ R.frames ∧ 8 + (nL' + 11) + rm'.locals ≤ R.locals) (isC : List Nat) (hC : isC.map (fun i => Wd[i]?) = Wc.map some) (hnd : va_nd isC = true) (hF : Wc'.map Prod.fst = Wc.map Prod.fst) (hst : st = As.reverse ++ st') (hcat : (st'.map fun v => v.category).sum ≤ 8) (hcs : cl + 0 ≤ R.cells ∧ sl + 0 ≤ R.slots) (hW : wput Wd isC Wc' = Wd')
    (k : PT R nL x pc' lv st' Wd' cl sl Q) : PT R nL x pc lv st Wd cl sl Q := by
  obtain ⟨⟨l, D, k0⟩, p, e, s, m, args, below, meth, c, A⟩ := x
  obtain ⟨hx, hb, hml, hown, hts, hr, hlk, hK, hA, hN, hS0⟩ := C
  subst hp
  subst hst
  subst hW
  intro H locs ls hH hl
  obtain ⟨hP, hD, hS⟩ := hH
  have hPc : va_P D vwCl Wc H := hC_P hC hP
  have hDc : va_D (fun _ => True) Wc := (hD.sub isC hnd hC).weaken (fun _ _ _ _ => trivial)
  have hFc : ∀ q, va_A Wc H.size q → A q := va_free (wc := Wc) hD hS hA isC hC
  refine va_callv (va_runS (As := As) (rest := st') ⟨hx, hb, hml, hown, hts⟩ (hM H.size) ⟨callB_of As.length hts (wU_good hv.2.2) rfl hR.1 hR.2.1 (hts _ hv.2.1) (hts _ hl0) hdsc hR.2.2, hts _ hv.1⟩ ⟨PreC.blind _ _ _ _, fun U hU hW => ⟨rfl, by rw [hU], by rw [hU]; exact hPc, va_K.moved hW.alike hK, hDc, NW.warm hW hN, by rw [hU]; exact ((hS0.kept hS.2.1).narrow hFc).moved hW.alike⟩⟩ rfl rfl hl.1 rfl (lv_room hcat) hd hcs) hS (fun q _ h => hFc q h) hFc (fun u t H1 locs1 ht hvm hw hB hz1 hk1 hS1 => ?_)
  have hB : va_P D vwCl Wc' t.heap := hB
  rw [ht] at hB
  have hJ := call_ok hP hD hC hF hB hk1
  skip
  exact k H1 locs1 ls ⟨hJ.1, hJ.2, hS1⟩ hl
theorem p_callSNi (C : CX own cc nL ret x) (hM : Ci x.1 y (wU y cc' nL' ret') rm' As Wc Wc' r) (hd : decode cc pc = .ok (.invokestatic index, 3)) (hp : pc + 3 = pc') (hl0 : (own, index, y) ∈ nestMs) (hv : Cond.static y ∈ wG ∧ Cond.initialized y.cls ∈ wG ∧ Cond.code y cc' nL' ret' ∈ wG) (hdsc : y.cls ≠ "java/lang/invoke/MethodHandle" ∧ y.cls ≠ "java/lang/invoke/VarHandle" ∧ (parseMethodDescriptor y.desc).map (fun d => d.parameters.length) = some As.length) (hR : rm'.cells = 0 ∧ rm'.slots = 0 ∧ rm'.frames + 1 ≤ R.frames ∧ 8 + (nL' + 11) + rm'.locals ≤ R.locals) (isC : List Nat) (hC : isC.map (fun i => Wd[i]?) = Wc.map some) (hnd : va_nd isC = true) (hF : Wc'.map Prod.fst = Wc.map Prod.fst) (hst : st = As.reverse ++ st') (hcat : (st'.map fun v => v.category).sum ≤ 8) (hcs : cl + 0 ≤ R.cells ∧ sl + 0 ≤ R.slots) (hW : wput Wd isC Wc' = Wd')
    (k : PT R nL x pc' lv (.int r :: st') Wd' cl sl Q) : PT R nL x pc lv st Wd cl sl Q := by
  obtain ⟨⟨l, D, k0⟩, p, e, s, m, args, below, meth, c, A⟩ := x
  obtain ⟨hx, hb, hml, hown, hts, hr, hlk, hK, hA, hN, hS0⟩ := C
  subst hp
  subst hst
  subst hW
  intro H locs ls hH hl
  obtain ⟨hP, hD, hS⟩ := hH
  have hPc : va_P D vwCl Wc H := hC_P hC hP
  have hDc : va_D (fun _ => True) Wc := (hD.sub isC hnd hC).weaken (fun _ _ _ _ => trivial)
  have hFc : ∀ q, va_A Wc H.size q → A q := va_free (wc := Wc) hD hS hA isC hC
  refine va_calli (va_runSN (As := As) (rest := st') ⟨hx, hb, hml, hown, hts⟩ (hM H.size) ⟨va_cnB As.length hts (wU_good hv.2.2) rfl hR.1 hR.2.1 (hN.2 _ hl0) (hts _ hv.2.1) hdsc hR.2.2, hts _ hv.1, trivial⟩ ⟨PreC.blind _ _ _ _, fun U hU hW => ⟨rfl, by rw [hU], by rw [hU]; exact hPc, va_K.moved hW.alike hK, hDc, NW.warm hW hN, by rw [hU]; exact ((hS0.kept hS.2.1).narrow hFc).moved hW.alike⟩⟩ rfl rfl hl.1 rfl (lv_room hcat) hd hcs) hS (fun q _ h => hFc q h) hFc (fun r1 u t H1 locs1 ht hvm hw hB hz1 hk1 hS1 => ?_)
  have hB : va_P D vwCl Wc' t.heap := hB
  rw [ht] at hB
  have hJ := call_ok hP hD hC hF hB hk1
  subst hw
  exact k H1 locs1 ls ⟨hJ.1, hJ.2, hS1⟩ hl
theorem p_callSNv (C : CX own cc nL ret x) (hM : Cv x.1 y (wU y cc' nL' ret') rm' As Wc Wc') (hd : decode cc pc = .ok (.invokestatic index, 3)) (hp : pc + 3 = pc') (hl0 : (own, index, y) ∈ nestMs) (hv : Cond.static y ∈ wG ∧ Cond.initialized y.cls ∈ wG ∧ Cond.code y cc' nL' ret' ∈ wG) (hdsc : y.cls ≠ "java/lang/invoke/MethodHandle" ∧ y.cls ≠ "java/lang/invoke/VarHandle" ∧ (parseMethodDescriptor y.desc).map (fun d => d.parameters.length) = some As.length) (hR : rm'.cells = 0 ∧ rm'.slots = 0 ∧ rm'.frames + 1 ≤ R.frames ∧ 8 + (nL' + 11) + rm'.locals ≤ R.locals) (isC : List Nat) (hC : isC.map (fun i => Wd[i]?) = Wc.map some) (hnd : va_nd isC = true) (hF : Wc'.map Prod.fst = Wc.map Prod.fst) (hst : st = As.reverse ++ st') (hcat : (st'.map fun v => v.category).sum ≤ 8) (hcs : cl + 0 ≤ R.cells ∧ sl + 0 ≤ R.slots) (hW : wput Wd isC Wc' = Wd')
    (k : PT R nL x pc' lv st' Wd' cl sl Q) : PT R nL x pc lv st Wd cl sl Q := by
  obtain ⟨⟨l, D, k0⟩, p, e, s, m, args, below, meth, c, A⟩ := x
  obtain ⟨hx, hb, hml, hown, hts, hr, hlk, hK, hA, hN, hS0⟩ := C
  subst hp
  subst hst
  subst hW
  intro H locs ls hH hl
  obtain ⟨hP, hD, hS⟩ := hH
  have hPc : va_P D vwCl Wc H := hC_P hC hP
  have hDc : va_D (fun _ => True) Wc := (hD.sub isC hnd hC).weaken (fun _ _ _ _ => trivial)
  have hFc : ∀ q, va_A Wc H.size q → A q := va_free (wc := Wc) hD hS hA isC hC
  refine va_callv (va_runSN (As := As) (rest := st') ⟨hx, hb, hml, hown, hts⟩ (hM H.size) ⟨va_cnB As.length hts (wU_good hv.2.2) rfl hR.1 hR.2.1 (hN.2 _ hl0) (hts _ hv.2.1) hdsc hR.2.2, hts _ hv.1, trivial⟩ ⟨PreC.blind _ _ _ _, fun U hU hW => ⟨rfl, by rw [hU], by rw [hU]; exact hPc, va_K.moved hW.alike hK, hDc, NW.warm hW hN, by rw [hU]; exact ((hS0.kept hS.2.1).narrow hFc).moved hW.alike⟩⟩ rfl rfl hl.1 rfl (lv_room hcat) hd hcs) hS (fun q _ h => hFc q h) hFc (fun u t H1 locs1 ht hvm hw hB hz1 hk1 hS1 => ?_)
  have hB : va_P D vwCl Wc' t.heap := hB
  rw [ht] at hB
  have hJ := call_ok hP hD hC hF hB hk1
  skip
  exact k H1 locs1 ls ⟨hJ.1, hJ.2, hS1⟩ hl
theorem p_tabIn (C : CX own cc nL ret x) {dflt lo hi off : Int} {offs : Array Int} {len : Nat} {v w : Int32} (hd : decode cc pc = .ok (.tableswitch dflt lo hi offs, len)) (hv : v = w) (h1 : ¬ w.toInt < lo) (h2 : ¬ hi < w.toInt) (ho : offs[(w.toInt - lo).toNat]? = some off) (ht : (pc : Int) + off = (pc' : Int)) (k : PT R nL x pc' lv st Wd cl sl Q) : PT R nL x pc lv (.int v :: st) Wd cl sl Q := by
  obtain ⟨⟨l, D, k0⟩, p, e, s, m, args, below, meth, c, A⟩ := x
  obtain ⟨hx, hb, hml, hown, hts, hr, hlk, hK, hA, hN, hS0⟩ := C
  subst hv
  intro H locs ls hH hl
  exact lv_tableIn hx hb hd h1 h2 ho ht (k H locs ls hH hl)
theorem tab_out {v : Int32} {n : Nat} (hn : n < 2 ^ 31) (h : ∀ k, k < n → ¬ v = nI k) : v.toInt < 0 ∨ (n : Int) - 1 < v.toInt := by
  rcases Int.lt_or_le v.toInt 0 with h0 | h0
  · exact Or.inl h0
  · rcases Int.lt_or_le ((n : Int) - 1) v.toInt with h1 | h1
    · exact Or.inr h1
    · exfalso
      obtain ⟨j, hj, he⟩ := vp_in_of (n := n) (vp_in_iff.mpr ⟨h0, by omega⟩) hn
      exact h j hj he
theorem p_tabOut (C : CX own cc nL ret x) {dflt hi : Int} {offs : Array Int} {len n : Nat} {v : Int32} (hd : decode cc pc = .ok (.tableswitch dflt 0 hi offs, len)) (hn : n < 2 ^ 31) (hhi : hi = (n : Int) - 1) (h : ∀ k, k < n → ¬ v = nI k) (ht : (pc : Int) + dflt = (pc' : Int)) (k : PT R nL x pc' lv st Wd cl sl Q) : PT R nL x pc lv (.int v :: st) Wd cl sl Q := by
  obtain ⟨⟨l, D, k0⟩, p, e, s, m, args, below, meth, c, A⟩ := x
  obtain ⟨hx, hb, hml, hown, hts, hr, hlk, hK, hA, hN, hS0⟩ := C
  subst hhi
  intro H locs ls hH hl
  exact lv_tableOut hx hb hd (tab_out hn h) ht (k H locs ls hH hl)
end CL
end
section
abbrev FU : Nat := 4096
def zb (v : Int32) : Bool := decide (v = 0) || decide (v = 1)
theorem zb_ok {v : Int32} (h : zb v = true) : narrow .boolean (.int v) = .int v := by
  simp only [zb, Bool.or_eq_true, decide_eq_true_eq] at h
  rcases h with h | h <;> subst h <;> rfl
section RJ
variable {own : String} {cc : ByteArray} {nL : Nat} {ret : Option FieldType} {R : Room} {x : Cxt} {pc pc' : Nat} {lv lv' : List (Nat × Value)} {st : List Value} {Wd Wd' : va_W} {cl sl : Nat} {Q : State → Prop}
theorem p_ialdj (C : CX own cc nL ret x) {a n j : Nat} {f : Ar} {i : Int32} (hd : decode cc pc = .ok (.iaload, 1)) (hp : pc + 1 = pc') (q0 : Nat) (ha : Wd[q0]? = some (a, .inl (x.1.2.2.1, n, .inl f))) (hg : gI i n = true) (hj : i.toNatClampNeg = j)
    (k : PT R nL x pc' lv (.int (f j) :: st) Wd cl sl Q) : PT R nL x pc lv (.int i :: .ref a :: st) Wd cl sl Q := p_iald C hd hp q0 ha hg (by rw [hj]; exact k)
theorem p_zaldj (C : CX own cc nL ret x) {a n j : Nat} {f : Ar} {i : Int32} (hd : decode cc pc = .ok (.baload, 1)) (hp : pc + 1 = pc') (q0 : Nat) (ha : Wd[q0]? = some (a, .inl (x.1.2.2.2.1, n, .inl f))) (hg : gI i n = true) (hj : i.toNatClampNeg = j)
    (k : PT R nL x pc' lv (.int (f j) :: st) Wd cl sl Q) : PT R nL x pc lv (.int i :: .ref a :: st) Wd cl sl Q := p_zald C hd hp q0 ha hg (by rw [hj]; exact k)
theorem p_iastj (C : CX own cc nL ret x) {a n j : Nat} {f : Ar} {i v : Int32} (hd : decode cc pc = .ok (.iastore, 1)) (hp : pc + 1 = pc') (q0 : Nat) (ha : Wd[q0]? = some (a, .inl (x.1.2.2.1, n, .inl f))) (hg : gI i n = true) (hj : i.toNatClampNeg = j) (hW : Wd.set q0 (a, .inl (x.1.2.2.1, n, .inl (upd f j v))) = Wd')
    (k : PT R nL x pc' lv st Wd' cl sl Q) : PT R nL x pc lv (.int v :: .int i :: .ref a :: st) Wd cl sl Q := p_iast C hd hp q0 ha hg (by rw [hj]; exact hW) k
theorem p_zastj (C : CX own cc nL ret x) {a n j : Nat} {f : Ar} {i v : Int32} (hd : decode cc pc = .ok (.bastore, 1)) (hp : pc + 1 = pc') (q0 : Nat) (ha : Wd[q0]? = some (a, .inl (x.1.2.2.2.1, n, .inl f))) (hg : gI i n = true) (hj : i.toNatClampNeg = j) (hW : Wd.set q0 (a, .inl (x.1.2.2.2.1, n, .inl (upd f j (vp_nar .boolean v)))) = Wd')
    (k : PT R nL x pc' lv st Wd' cl sl Q) : PT R nL x pc lv (.int v :: .int i :: .ref a :: st) Wd cl sl Q := p_zast C hd hp q0 ha hg (by rw [hj]; exact hW) k
end RJ
def bd10 {α1 α2 α3 α4 α5 α6 α7 α8 α9 α10 β : Type} (o : Option (α1 × α2 × α3 × α4 × α5 × α6 × α7 × α8 × α9 × α10)) (f : α1 → α2 → α3 → α4 → α5 → α6 → α7 → α8 → α9 → α10 → Option β) : Option β := o.bind (fun q => f q.1 q.2.1 q.2.2.1 q.2.2.2.1 q.2.2.2.2.1 q.2.2.2.2.2.1 q.2.2.2.2.2.2.1 q.2.2.2.2.2.2.2.1 q.2.2.2.2.2.2.2.2.1 q.2.2.2.2.2.2.2.2.2)
theorem bd10_of {α1 α2 α3 α4 α5 α6 α7 α8 α9 α10 β : Type} {o : Option (α1 × α2 × α3 × α4 × α5 × α6 × α7 × α8 × α9 × α10)} {f : α1 → α2 → α3 → α4 → α5 → α6 → α7 → α8 → α9 → α10 → Option β} {r : β} (h : bd10 o f = some r) : ∃ a1 a2 a3 a4 a5 a6 a7 a8 a9 a10, o = some (a1, a2, a3, a4, a5, a6, a7, a8, a9, a10) ∧ f a1 a2 a3 a4 a5 a6 a7 a8 a9 a10 = some r := by
  unfold bd10 at h
  cases o with
  | none => cases h
  | some a => exact ⟨_, _, _, _, _, _, _, _, _, _, rfl, h⟩
def bd11 {α1 α2 α3 α4 α5 α6 α7 α8 α9 α10 α11 β : Type} (o : Option (α1 × α2 × α3 × α4 × α5 × α6 × α7 × α8 × α9 × α10 × α11)) (f : α1 → α2 → α3 → α4 → α5 → α6 → α7 → α8 → α9 → α10 → α11 → Option β) : Option β := o.bind (fun q => f q.1 q.2.1 q.2.2.1 q.2.2.2.1 q.2.2.2.2.1 q.2.2.2.2.2.1 q.2.2.2.2.2.2.1 q.2.2.2.2.2.2.2.1 q.2.2.2.2.2.2.2.2.1 q.2.2.2.2.2.2.2.2.2.1 q.2.2.2.2.2.2.2.2.2.2)
theorem bd11_of {α1 α2 α3 α4 α5 α6 α7 α8 α9 α10 α11 β : Type} {o : Option (α1 × α2 × α3 × α4 × α5 × α6 × α7 × α8 × α9 × α10 × α11)} {f : α1 → α2 → α3 → α4 → α5 → α6 → α7 → α8 → α9 → α10 → α11 → Option β} {r : β} (h : bd11 o f = some r) : ∃ a1 a2 a3 a4 a5 a6 a7 a8 a9 a10 a11, o = some (a1, a2, a3, a4, a5, a6, a7, a8, a9, a10, a11) ∧ f a1 a2 a3 a4 a5 a6 a7 a8 a9 a10 a11 = some r := by
  unfold bd11 at h
  cases o with
  | none => cases h
  | some a => exact ⟨_, _, _, _, _, _, _, _, _, _, _, rfl, h⟩
def bd12 {α1 α2 α3 α4 α5 α6 α7 α8 α9 α10 α11 α12 β : Type} (o : Option (α1 × α2 × α3 × α4 × α5 × α6 × α7 × α8 × α9 × α10 × α11 × α12)) (f : α1 → α2 → α3 → α4 → α5 → α6 → α7 → α8 → α9 → α10 → α11 → α12 → Option β) : Option β := o.bind (fun q => f q.1 q.2.1 q.2.2.1 q.2.2.2.1 q.2.2.2.2.1 q.2.2.2.2.2.1 q.2.2.2.2.2.2.1 q.2.2.2.2.2.2.2.1 q.2.2.2.2.2.2.2.2.1 q.2.2.2.2.2.2.2.2.2.1 q.2.2.2.2.2.2.2.2.2.2.1 q.2.2.2.2.2.2.2.2.2.2.2)
theorem bd12_of {α1 α2 α3 α4 α5 α6 α7 α8 α9 α10 α11 α12 β : Type} {o : Option (α1 × α2 × α3 × α4 × α5 × α6 × α7 × α8 × α9 × α10 × α11 × α12)} {f : α1 → α2 → α3 → α4 → α5 → α6 → α7 → α8 → α9 → α10 → α11 → α12 → Option β} {r : β} (h : bd12 o f = some r) : ∃ a1 a2 a3 a4 a5 a6 a7 a8 a9 a10 a11 a12, o = some (a1, a2, a3, a4, a5, a6, a7, a8, a9, a10, a11, a12) ∧ f a1 a2 a3 a4 a5 a6 a7 a8 a9 a10 a11 a12 = some r := by
  unfold bd12 at h
  cases o with
  | none => cases h
  | some a => exact ⟨_, _, _, _, _, _, _, _, _, _, _, _, rfl, h⟩
def bd13 {α1 α2 α3 α4 α5 α6 α7 α8 α9 α10 α11 α12 α13 β : Type} (o : Option (α1 × α2 × α3 × α4 × α5 × α6 × α7 × α8 × α9 × α10 × α11 × α12 × α13)) (f : α1 → α2 → α3 → α4 → α5 → α6 → α7 → α8 → α9 → α10 → α11 → α12 → α13 → Option β) : Option β := o.bind (fun q => f q.1 q.2.1 q.2.2.1 q.2.2.2.1 q.2.2.2.2.1 q.2.2.2.2.2.1 q.2.2.2.2.2.2.1 q.2.2.2.2.2.2.2.1 q.2.2.2.2.2.2.2.2.1 q.2.2.2.2.2.2.2.2.2.1 q.2.2.2.2.2.2.2.2.2.2.1 q.2.2.2.2.2.2.2.2.2.2.2.1 q.2.2.2.2.2.2.2.2.2.2.2.2)
theorem bd13_of {α1 α2 α3 α4 α5 α6 α7 α8 α9 α10 α11 α12 α13 β : Type} {o : Option (α1 × α2 × α3 × α4 × α5 × α6 × α7 × α8 × α9 × α10 × α11 × α12 × α13)} {f : α1 → α2 → α3 → α4 → α5 → α6 → α7 → α8 → α9 → α10 → α11 → α12 → α13 → Option β} {r : β} (h : bd13 o f = some r) : ∃ a1 a2 a3 a4 a5 a6 a7 a8 a9 a10 a11 a12 a13, o = some (a1, a2, a3, a4, a5, a6, a7, a8, a9, a10, a11, a12, a13) ∧ f a1 a2 a3 a4 a5 a6 a7 a8 a9 a10 a11 a12 a13 = some r := by
  unfold bd13 at h
  cases o with
  | none => cases h
  | some a => exact ⟨_, _, _, _, _, _, _, _, _, _, _, _, _, rfl, h⟩
def bd14 {α1 α2 α3 α4 α5 α6 α7 α8 α9 α10 α11 α12 α13 α14 β : Type} (o : Option (α1 × α2 × α3 × α4 × α5 × α6 × α7 × α8 × α9 × α10 × α11 × α12 × α13 × α14)) (f : α1 → α2 → α3 → α4 → α5 → α6 → α7 → α8 → α9 → α10 → α11 → α12 → α13 → α14 → Option β) : Option β := o.bind (fun q => f q.1 q.2.1 q.2.2.1 q.2.2.2.1 q.2.2.2.2.1 q.2.2.2.2.2.1 q.2.2.2.2.2.2.1 q.2.2.2.2.2.2.2.1 q.2.2.2.2.2.2.2.2.1 q.2.2.2.2.2.2.2.2.2.1 q.2.2.2.2.2.2.2.2.2.2.1 q.2.2.2.2.2.2.2.2.2.2.2.1 q.2.2.2.2.2.2.2.2.2.2.2.2.1 q.2.2.2.2.2.2.2.2.2.2.2.2.2)
theorem bd14_of {α1 α2 α3 α4 α5 α6 α7 α8 α9 α10 α11 α12 α13 α14 β : Type} {o : Option (α1 × α2 × α3 × α4 × α5 × α6 × α7 × α8 × α9 × α10 × α11 × α12 × α13 × α14)} {f : α1 → α2 → α3 → α4 → α5 → α6 → α7 → α8 → α9 → α10 → α11 → α12 → α13 → α14 → Option β} {r : β} (h : bd14 o f = some r) : ∃ a1 a2 a3 a4 a5 a6 a7 a8 a9 a10 a11 a12 a13 a14, o = some (a1, a2, a3, a4, a5, a6, a7, a8, a9, a10, a11, a12, a13, a14) ∧ f a1 a2 a3 a4 a5 a6 a7 a8 a9 a10 a11 a12 a13 a14 = some r := by
  unfold bd14 at h
  cases o with
  | none => cases h
  | some a => exact ⟨_, _, _, _, _, _, _, _, _, _, _, _, _, _, rfl, h⟩
def bd15 {α1 α2 α3 α4 α5 α6 α7 α8 α9 α10 α11 α12 α13 α14 α15 β : Type} (o : Option (α1 × α2 × α3 × α4 × α5 × α6 × α7 × α8 × α9 × α10 × α11 × α12 × α13 × α14 × α15)) (f : α1 → α2 → α3 → α4 → α5 → α6 → α7 → α8 → α9 → α10 → α11 → α12 → α13 → α14 → α15 → Option β) : Option β := o.bind (fun q => f q.1 q.2.1 q.2.2.1 q.2.2.2.1 q.2.2.2.2.1 q.2.2.2.2.2.1 q.2.2.2.2.2.2.1 q.2.2.2.2.2.2.2.1 q.2.2.2.2.2.2.2.2.1 q.2.2.2.2.2.2.2.2.2.1 q.2.2.2.2.2.2.2.2.2.2.1 q.2.2.2.2.2.2.2.2.2.2.2.1 q.2.2.2.2.2.2.2.2.2.2.2.2.1 q.2.2.2.2.2.2.2.2.2.2.2.2.2.1 q.2.2.2.2.2.2.2.2.2.2.2.2.2.2)
theorem bd15_of {α1 α2 α3 α4 α5 α6 α7 α8 α9 α10 α11 α12 α13 α14 α15 β : Type} {o : Option (α1 × α2 × α3 × α4 × α5 × α6 × α7 × α8 × α9 × α10 × α11 × α12 × α13 × α14 × α15)} {f : α1 → α2 → α3 → α4 → α5 → α6 → α7 → α8 → α9 → α10 → α11 → α12 → α13 → α14 → α15 → Option β} {r : β} (h : bd15 o f = some r) : ∃ a1 a2 a3 a4 a5 a6 a7 a8 a9 a10 a11 a12 a13 a14 a15, o = some (a1, a2, a3, a4, a5, a6, a7, a8, a9, a10, a11, a12, a13, a14, a15) ∧ f a1 a2 a3 a4 a5 a6 a7 a8 a9 a10 a11 a12 a13 a14 a15 = some r := by
  unfold bd15 at h
  cases o with
  | none => cases h
  | some a => exact ⟨_, _, _, _, _, _, _, _, _, _, _, _, _, _, _, rfl, h⟩
def bd16 {α1 α2 α3 α4 α5 α6 α7 α8 α9 α10 α11 α12 α13 α14 α15 α16 β : Type} (o : Option (α1 × α2 × α3 × α4 × α5 × α6 × α7 × α8 × α9 × α10 × α11 × α12 × α13 × α14 × α15 × α16)) (f : α1 → α2 → α3 → α4 → α5 → α6 → α7 → α8 → α9 → α10 → α11 → α12 → α13 → α14 → α15 → α16 → Option β) : Option β := o.bind (fun q => f q.1 q.2.1 q.2.2.1 q.2.2.2.1 q.2.2.2.2.1 q.2.2.2.2.2.1 q.2.2.2.2.2.2.1 q.2.2.2.2.2.2.2.1 q.2.2.2.2.2.2.2.2.1 q.2.2.2.2.2.2.2.2.2.1 q.2.2.2.2.2.2.2.2.2.2.1 q.2.2.2.2.2.2.2.2.2.2.2.1 q.2.2.2.2.2.2.2.2.2.2.2.2.1 q.2.2.2.2.2.2.2.2.2.2.2.2.2.1 q.2.2.2.2.2.2.2.2.2.2.2.2.2.2.1 q.2.2.2.2.2.2.2.2.2.2.2.2.2.2.2)
theorem bd16_of {α1 α2 α3 α4 α5 α6 α7 α8 α9 α10 α11 α12 α13 α14 α15 α16 β : Type} {o : Option (α1 × α2 × α3 × α4 × α5 × α6 × α7 × α8 × α9 × α10 × α11 × α12 × α13 × α14 × α15 × α16)} {f : α1 → α2 → α3 → α4 → α5 → α6 → α7 → α8 → α9 → α10 → α11 → α12 → α13 → α14 → α15 → α16 → Option β} {r : β} (h : bd16 o f = some r) : ∃ a1 a2 a3 a4 a5 a6 a7 a8 a9 a10 a11 a12 a13 a14 a15 a16, o = some (a1, a2, a3, a4, a5, a6, a7, a8, a9, a10, a11, a12, a13, a14, a15, a16) ∧ f a1 a2 a3 a4 a5 a6 a7 a8 a9 a10 a11 a12 a13 a14 a15 a16 = some r := by
  unfold bd16 at h
  cases o with
  | none => cases h
  | some a => exact ⟨_, _, _, _, _, _, _, _, _, _, _, _, _, _, _, _, rfl, h⟩
def bd17 {α1 α2 α3 α4 α5 α6 α7 α8 α9 α10 α11 α12 α13 α14 α15 α16 α17 β : Type} (o : Option (α1 × α2 × α3 × α4 × α5 × α6 × α7 × α8 × α9 × α10 × α11 × α12 × α13 × α14 × α15 × α16 × α17)) (f : α1 → α2 → α3 → α4 → α5 → α6 → α7 → α8 → α9 → α10 → α11 → α12 → α13 → α14 → α15 → α16 → α17 → Option β) : Option β := o.bind (fun q => f q.1 q.2.1 q.2.2.1 q.2.2.2.1 q.2.2.2.2.1 q.2.2.2.2.2.1 q.2.2.2.2.2.2.1 q.2.2.2.2.2.2.2.1 q.2.2.2.2.2.2.2.2.1 q.2.2.2.2.2.2.2.2.2.1 q.2.2.2.2.2.2.2.2.2.2.1 q.2.2.2.2.2.2.2.2.2.2.2.1 q.2.2.2.2.2.2.2.2.2.2.2.2.1 q.2.2.2.2.2.2.2.2.2.2.2.2.2.1 q.2.2.2.2.2.2.2.2.2.2.2.2.2.2.1 q.2.2.2.2.2.2.2.2.2.2.2.2.2.2.2.1 q.2.2.2.2.2.2.2.2.2.2.2.2.2.2.2.2)
theorem bd17_of {α1 α2 α3 α4 α5 α6 α7 α8 α9 α10 α11 α12 α13 α14 α15 α16 α17 β : Type} {o : Option (α1 × α2 × α3 × α4 × α5 × α6 × α7 × α8 × α9 × α10 × α11 × α12 × α13 × α14 × α15 × α16 × α17)} {f : α1 → α2 → α3 → α4 → α5 → α6 → α7 → α8 → α9 → α10 → α11 → α12 → α13 → α14 → α15 → α16 → α17 → Option β} {r : β} (h : bd17 o f = some r) : ∃ a1 a2 a3 a4 a5 a6 a7 a8 a9 a10 a11 a12 a13 a14 a15 a16 a17, o = some (a1, a2, a3, a4, a5, a6, a7, a8, a9, a10, a11, a12, a13, a14, a15, a16, a17) ∧ f a1 a2 a3 a4 a5 a6 a7 a8 a9 a10 a11 a12 a13 a14 a15 a16 a17 = some r := by
  unfold bd17 at h
  cases o with
  | none => cases h
  | some a => exact ⟨_, _, _, _, _, _, _, _, _, _, _, _, _, _, _, _, _, rfl, h⟩
abbrev V_B (k : Ec) (ab0 ab1 ab2 ab3 : Nat) (b_points : Int32) (b_near : Int32) (b_loose : Int32) (b_short : Int32) (b_nets : Ar) (b_xs : Ar) (b_ys : Ar) : va_W := [(ab0, .inr (0, [.ref ab1, .ref ab2, .ref ab3, .int b_points, .int b_near, .int b_loose, .int b_short])), (ab1, .inl (k.1, 8, .inl b_nets)), (ab2, .inl (k.1, 8, .inl b_xs)), (ab3, .inl (k.1, 8, .inl b_ys))]
abbrev V_BC (k : Ec) (ab0 ab1 ab2 ab3 ac0 ac1 ac2 ac3 : Nat) (b_points : Int32) (b_near : Int32) (b_loose : Int32) (b_short : Int32) (b_nets : Ar) (b_xs : Ar) (b_ys : Ar) (c_points : Int32) (c_near : Int32) (c_loose : Int32) (c_short : Int32) (c_nets : Ar) (c_xs : Ar) (c_ys : Ar) : va_W := [(ab0, .inr (0, [.ref ab1, .ref ab2, .ref ab3, .int b_points, .int b_near, .int b_loose, .int b_short])), (ab1, .inl (k.1, 8, .inl b_nets)), (ab2, .inl (k.1, 8, .inl b_xs)), (ab3, .inl (k.1, 8, .inl b_ys)), (ac0, .inr (0, [.ref ac1, .ref ac2, .ref ac3, .int c_points, .int c_near, .int c_loose, .int c_short])), (ac1, .inl (k.1, 8, .inl c_nets)), (ac2, .inl (k.1, 8, .inl c_xs)), (ac3, .inl (k.1, 8, .inl c_ys))]
abbrev V_O (k : Ec) (ao0 ao1 : Nat) (o_len : Int32) (o_sum : Int32) (o_tries : Ar) : va_W := [(ao0, .inr (2, [.ref ao1, .int o_len, .int o_sum])), (ao1, .inl (k.1, 10, .inl o_tries))]
abbrev V_P (k : Ec) (ap0 ap1 : Nat) (p_len : Int32) (p_signs : Ar) : va_W := [(ap0, .inr (3, [.ref ap1, .int p_len])), (ap1, .inl (k.1, 24, .inl p_signs))]
abbrev V_T (k : Ec) (at0 at1 at2 at3 at4 : Nat) (t_total : Int32) (t_oft : Int32) (t_left : Ar) (t_right : Ar) (t_group : Ar) (t_paired : Ar) : va_W := [(at0, .inr (4, [.ref at1, .ref at2, .int t_total, .int t_oft, .ref at3, .ref at4])), (at1, .inl (k.1, 10, .inl t_left)), (at2, .inl (k.1, 10, .inl t_right)), (at3, .inl (k.1, 8, .inl t_group)), (at4, .inl (k.1, 8, .inl t_paired))]
abbrev V_TB (k : Ec) (at0 at1 at2 at3 at4 ab0 ab1 ab2 ab3 : Nat) (t_total : Int32) (t_oft : Int32) (t_left : Ar) (t_right : Ar) (t_group : Ar) (t_paired : Ar) (b_points : Int32) (b_near : Int32) (b_loose : Int32) (b_short : Int32) (b_nets : Ar) (b_xs : Ar) (b_ys : Ar) : va_W := [(at0, .inr (4, [.ref at1, .ref at2, .int t_total, .int t_oft, .ref at3, .ref at4])), (at1, .inl (k.1, 10, .inl t_left)), (at2, .inl (k.1, 10, .inl t_right)), (at3, .inl (k.1, 8, .inl t_group)), (at4, .inl (k.1, 8, .inl t_paired)), (ab0, .inr (0, [.ref ab1, .ref ab2, .ref ab3, .int b_points, .int b_near, .int b_loose, .int b_short])), (ab1, .inl (k.1, 8, .inl b_nets)), (ab2, .inl (k.1, 8, .inl b_xs)), (ab3, .inl (k.1, 8, .inl b_ys))]
abbrev V_N (k : Ec) (an0 an1 an2 anb0 anb1 ann0 ann1 : Nat) (n_total : Int32) (n_planned : Int32) (n_leaps : Ar) (n_onward : Ar) (nb_len : Int32) (nb_sum : Int32) (nb_tries : Ar) (nn_len : Int32) (nn_sum : Int32) (nn_tries : Ar) : va_W := [(an0, .inr (1, [.int n_total, .ref an1, .ref an2, .ref anb0, .ref ann0, .int n_planned])), (an1, .inl (k.1, 110, .inl n_leaps)), (an2, .inl (k.1, 10240, .inl n_onward)), (anb0, .inr (2, [.ref anb1, .int nb_len, .int nb_sum])), (anb1, .inl (k.1, 10, .inl nb_tries)), (ann0, .inr (2, [.ref ann1, .int nn_len, .int nn_sum])), (ann1, .inl (k.1, 10, .inl nn_tries))]
abbrev V_NBT (k : Ec) (an0 an1 an2 anb0 anb1 ann0 ann1 ab0 ab1 ab2 ab3 at0 at1 at2 at3 at4 : Nat) (n_total : Int32) (n_planned : Int32) (n_leaps : Ar) (n_onward : Ar) (nb_len : Int32) (nb_sum : Int32) (nb_tries : Ar) (nn_len : Int32) (nn_sum : Int32) (nn_tries : Ar) (b_points : Int32) (b_near : Int32) (b_loose : Int32) (b_short : Int32) (b_nets : Ar) (b_xs : Ar) (b_ys : Ar) (t_total : Int32) (t_oft : Int32) (t_left : Ar) (t_right : Ar) (t_group : Ar) (t_paired : Ar) : va_W := [(an0, .inr (1, [.int n_total, .ref an1, .ref an2, .ref anb0, .ref ann0, .int n_planned])), (an1, .inl (k.1, 110, .inl n_leaps)), (an2, .inl (k.1, 10240, .inl n_onward)), (anb0, .inr (2, [.ref anb1, .int nb_len, .int nb_sum])), (anb1, .inl (k.1, 10, .inl nb_tries)), (ann0, .inr (2, [.ref ann1, .int nn_len, .int nn_sum])), (ann1, .inl (k.1, 10, .inl nn_tries)), (ab0, .inr (0, [.ref ab1, .ref ab2, .ref ab3, .int b_points, .int b_near, .int b_loose, .int b_short])), (ab1, .inl (k.1, 8, .inl b_nets)), (ab2, .inl (k.1, 8, .inl b_xs)), (ab3, .inl (k.1, 8, .inl b_ys)), (at0, .inr (4, [.ref at1, .ref at2, .int t_total, .int t_oft, .ref at3, .ref at4])), (at1, .inl (k.1, 10, .inl t_left)), (at2, .inl (k.1, 10, .inl t_right)), (at3, .inl (k.1, 8, .inl t_group)), (at4, .inl (k.1, 8, .inl t_paired))]
abbrev V_S (k : Ec) (as0 ab0 ab1 ab2 ab3 at0 at1 at2 at3 at4 an0 an1 an2 anb0 anb1 ann0 ann1 ap0 ap1 as1 ai0 ai1 ai2 ai3 aj0 aj1 aj2 aj3 : Nat) (s_kept : Int32) (b_points : Int32) (b_near : Int32) (b_loose : Int32) (b_short : Int32) (b_nets : Ar) (b_xs : Ar) (b_ys : Ar) (t_total : Int32) (t_oft : Int32) (t_left : Ar) (t_right : Ar) (t_group : Ar) (t_paired : Ar) (n_total : Int32) (n_planned : Int32) (n_leaps : Ar) (n_onward : Ar) (nb_len : Int32) (nb_sum : Int32) (nb_tries : Ar) (nn_len : Int32) (nn_sum : Int32) (nn_tries : Ar) (p_len : Int32) (p_signs : Ar) (i_points : Int32) (i_near : Int32) (i_loose : Int32) (i_short : Int32) (i_nets : Ar) (i_xs : Ar) (i_ys : Ar) (j_points : Int32) (j_near : Int32) (j_loose : Int32) (j_short : Int32) (j_nets : Ar) (j_xs : Ar) (j_ys : Ar) : va_W := [(as0, .inr (5, [.ref ab0, .ref at0, .ref an0, .ref ap0, .ref as1, .int s_kept])), (ab0, .inr (0, [.ref ab1, .ref ab2, .ref ab3, .int b_points, .int b_near, .int b_loose, .int b_short])), (ab1, .inl (k.1, 8, .inl b_nets)), (ab2, .inl (k.1, 8, .inl b_xs)), (ab3, .inl (k.1, 8, .inl b_ys)), (at0, .inr (4, [.ref at1, .ref at2, .int t_total, .int t_oft, .ref at3, .ref at4])), (at1, .inl (k.1, 10, .inl t_left)), (at2, .inl (k.1, 10, .inl t_right)), (at3, .inl (k.1, 8, .inl t_group)), (at4, .inl (k.1, 8, .inl t_paired)), (an0, .inr (1, [.int n_total, .ref an1, .ref an2, .ref anb0, .ref ann0, .int n_planned])), (an1, .inl (k.1, 110, .inl n_leaps)), (an2, .inl (k.1, 10240, .inl n_onward)), (anb0, .inr (2, [.ref anb1, .int nb_len, .int nb_sum])), (anb1, .inl (k.1, 10, .inl nb_tries)), (ann0, .inr (2, [.ref ann1, .int nn_len, .int nn_sum])), (ann1, .inl (k.1, 10, .inl nn_tries)), (ap0, .inr (3, [.ref ap1, .int p_len])), (ap1, .inl (k.1, 24, .inl p_signs)), (as1, .inl (k.2.2, 2, .inr (.inr (.inr (.inr (fun j => match j with | 0 => some ai0 | _ => some aj0)))))), (ai0, .inr (0, [.ref ai1, .ref ai2, .ref ai3, .int i_points, .int i_near, .int i_loose, .int i_short])), (ai1, .inl (k.1, 8, .inl i_nets)), (ai2, .inl (k.1, 8, .inl i_xs)), (ai3, .inl (k.1, 8, .inl i_ys)), (aj0, .inr (0, [.ref aj1, .ref aj2, .ref aj3, .int j_points, .int j_near, .int j_loose, .int j_short])), (aj1, .inl (k.1, 8, .inl j_nets)), (aj2, .inl (k.1, 8, .inl j_xs)), (aj3, .inl (k.1, 8, .inl j_ys))]
abbrev V_M (k : Ec) (am0 am1 am2 am3 am4 am5 am6 am7 am8 am9 am10 am11 am12 am13 am14 : Nat) (m_said : Int32) (m_tries : Int32) (m_state : Ar) (m_images : Ar) (m_isKept : Ar) (m_pad : Ar) (m_leftOf : Ar) (m_rightOf : Ar) (m_isApart : Ar) (m_group : Ar) (m_isPair : Ar) (m_isOne : Ar) (m_order : Ar) (m_rest : Ar) (m_aside : Ar) (m_others : Ar) : va_W := [(am0, .inr (6, [.ref am1, .ref am2, .ref am3, .ref am4, .int m_said, .ref am5, .ref am6, .ref am7, .int m_tries, .ref am8, .ref am9, .ref am10, .ref am11, .ref am12, .ref am13, .ref am14])), (am1, .inl (k.1, 40, .inl m_state)), (am2, .inl (k.1, 80, .inl m_images)), (am3, .inl (k.2.1, 2, .inl m_isKept)), (am4, .inl (k.1, 24, .inl m_pad)), (am5, .inl (k.1, 16, .inl m_leftOf)), (am6, .inl (k.1, 16, .inl m_rightOf)), (am7, .inl (k.2.1, 16, .inl m_isApart)), (am8, .inl (k.1, 8, .inl m_group)), (am9, .inl (k.2.1, 64, .inl m_isPair)), (am10, .inl (k.2.1, 16, .inl m_isOne)), (am11, .inl (k.1, 16, .inl m_order)), (am12, .inl (k.1, 11264, .inl m_rest)), (am13, .inl (k.1, 40, .inl m_aside)), (am14, .inl (k.1, 3, .inl m_others))]
end
section
def m_J6_bitCount_0f7a4  (p0 : Int32) : Option (Int32) := bd1 (some (((p0 - ((ushr p0 ((1 : Int32))) &&& ((1431655765 : Int32)))) &&& ((858993459 : Int32))) + ((ushr (p0 - ((ushr p0 ((1 : Int32))) &&& ((1431655765 : Int32)))) ((2 : Int32))) &&& ((858993459 : Int32))))) (fun x1 => bd1 (some (((x1 + (ushr x1 ((4 : Int32)))) &&& ((252645135 : Int32))) + (ushr ((x1 + (ushr x1 ((4 : Int32)))) &&& ((252645135 : Int32))) ((8 : Int32))))) (fun x3 => some ((x3 + (ushr x3 ((16 : Int32)))) &&& ((63 : Int32)))))
theorem ds_J6_bitCount_0f7a4 : (yJ6_bitCount_0f7a4).cls ≠ "java/lang/invoke/MethodHandle" ∧ (yJ6_bitCount_0f7a4).cls ≠ "java/lang/invoke/VarHandle" ∧ (parseMethodDescriptor (yJ6_bitCount_0f7a4).desc).map (fun d => d.parameters.length) = some 1 := by decide +kernel
set_option maxHeartbeats 4000000 in
set_option maxRecDepth 100000 in
theorem c_J6_bitCount_0f7a4 (E : En)  {p0 : Int32} {rr : Int32} (h : m_J6_bitCount_0f7a4 p0 = some rr) : Ci E yJ6_bitCount_0f7a4 (wU yJ6_bitCount_0f7a4 cJ6_bitCount_0f7a4 1 (some .int)) (RM 0 0) [.int p0] ([] : va_W) ([] : va_W) rr := by
  refine Ci.of (by decide) (Nat.le_of_ble_eq_true rfl) ?_
  intro x hE C
  subst hE
  have C : CX RJ6 cJ6_bitCount_0f7a4 1 (some .int) x := C
  refine p_locals [0] (lv' := [(0, .int p0)]) rfl ?_
  unfold m_J6_bitCount_0f7a4 at h
  refine p_iload_n C dJ6_bitCount_0f7a4_0 rfl 0 rfl ?_
  refine p_iload_n C dJ6_bitCount_0f7a4_1 rfl 0 rfl ?_
  refine p_iconst (v := (1 : Int32)) C dJ6_bitCount_0f7a4_2 rfl (by decide) ?_
  refine p_iushr C dJ6_bitCount_0f7a4_3 rfl ?_
  refine p_ldcw C dJ6_bitCount_0f7a4_4 rfl cst_J6_265 ?_
  refine p_iand C dJ6_bitCount_0f7a4_7 rfl ?_
  refine p_isub C dJ6_bitCount_0f7a4_8 rfl ?_
  refine p_istore_n (lv' := [(0, .int (p0 - ((ushr p0 ((1 : Int32))) &&& ((1431655765 : Int32)))))]) C dJ6_bitCount_0f7a4_9 rfl (by decide) rfl ?_
  refine p_iload_n C dJ6_bitCount_0f7a4_10 rfl 0 rfl ?_
  refine p_ldcw C dJ6_bitCount_0f7a4_11 rfl cst_J6_266 ?_
  refine p_iand C dJ6_bitCount_0f7a4_14 rfl ?_
  refine p_iload_n C dJ6_bitCount_0f7a4_15 rfl 0 rfl ?_
  refine p_iconst (v := (2 : Int32)) C dJ6_bitCount_0f7a4_16 rfl (by decide) ?_
  refine p_iushr C dJ6_bitCount_0f7a4_17 rfl ?_
  refine p_ldcw C dJ6_bitCount_0f7a4_18 rfl cst_J6_266 ?_
  refine p_iand C dJ6_bitCount_0f7a4_21 rfl ?_
  refine p_iadd C dJ6_bitCount_0f7a4_22 rfl ?_
  obtain ⟨x1, hx2, h⟩ := bd1_of h
  have hx2 := Option.some.inj hx2
  rw [hx2]
  refine p_istore_n (lv' := [(0, .int x1)]) C dJ6_bitCount_0f7a4_23 rfl (by decide) rfl ?_
  refine p_iload_n C dJ6_bitCount_0f7a4_24 rfl 0 rfl ?_
  refine p_iload_n C dJ6_bitCount_0f7a4_25 rfl 0 rfl ?_
  refine p_iconst (v := (4 : Int32)) C dJ6_bitCount_0f7a4_26 rfl (by decide) ?_
  refine p_iushr C dJ6_bitCount_0f7a4_27 rfl ?_
  refine p_iadd C dJ6_bitCount_0f7a4_28 rfl ?_
  refine p_ldcw C dJ6_bitCount_0f7a4_29 rfl cst_J6_267 ?_
  refine p_iand C dJ6_bitCount_0f7a4_32 rfl ?_
  refine p_istore_n (lv' := [(0, .int ((x1 + (ushr x1 ((4 : Int32)))) &&& ((252645135 : Int32))))]) C dJ6_bitCount_0f7a4_33 rfl (by decide) rfl ?_
  refine p_iload_n C dJ6_bitCount_0f7a4_34 rfl 0 rfl ?_
  refine p_iload_n C dJ6_bitCount_0f7a4_35 rfl 0 rfl ?_
  refine p_bipush (v := (8 : Int32)) C dJ6_bitCount_0f7a4_36 rfl (by decide) ?_
  refine p_iushr C dJ6_bitCount_0f7a4_38 rfl ?_
  refine p_iadd C dJ6_bitCount_0f7a4_39 rfl ?_
  obtain ⟨x3, hx4, h⟩ := bd1_of h
  have hx4 := Option.some.inj hx4
  rw [hx4]
  refine p_istore_n (lv' := [(0, .int x3)]) C dJ6_bitCount_0f7a4_40 rfl (by decide) rfl ?_
  refine p_iload_n C dJ6_bitCount_0f7a4_41 rfl 0 rfl ?_
  refine p_iload_n C dJ6_bitCount_0f7a4_42 rfl 0 rfl ?_
  refine p_bipush (v := (16 : Int32)) C dJ6_bitCount_0f7a4_43 rfl (by decide) ?_
  refine p_iushr C dJ6_bitCount_0f7a4_45 rfl ?_
  refine p_iadd C dJ6_bitCount_0f7a4_46 rfl ?_
  refine p_istore_n (lv' := [(0, .int (x3 + (ushr x3 ((16 : Int32)))))]) C dJ6_bitCount_0f7a4_47 rfl (by decide) rfl ?_
  refine p_iload_n C dJ6_bitCount_0f7a4_48 rfl 0 rfl ?_
  refine p_bipush (v := (63 : Int32)) C dJ6_bitCount_0f7a4_49 rfl (by decide) ?_
  refine p_iand C dJ6_bitCount_0f7a4_51 rfl ?_
  cases h
  exact p_iret C dJ6_bitCount_0f7a4_52
def m_X0_addPoint (b_points : Int32) (b_nets : Ar) (b_xs : Ar) (b_ys : Ar) (p1 : Int32) (p2 : Int32) (p3 : Int32) : Option (Int32 × Int32 × Ar × Ar × Ar) := grd (gI b_points 8) (grd (gI b_points 8) (grd (gI b_points 8) (some (b_points, b_points + ((1 : Int32)), upd b_nets b_points.toNatClampNeg p1, upd b_xs b_points.toNatClampNeg p2, upd b_ys b_points.toNatClampNeg p3))))
theorem ds_X0_addPoint : (yX0_addPoint).cls ≠ "java/lang/invoke/MethodHandle" ∧ (yX0_addPoint).cls ≠ "java/lang/invoke/VarHandle" ∧ (parseMethodDescriptor (yX0_addPoint).desc).map (fun d => d.parameters.length) = some 3 := by decide +kernel
set_option maxHeartbeats 4000000 in
set_option maxRecDepth 100000 in
theorem c_X0_addPoint (E : En) {ab0 ab1 ab2 ab3 : Nat} {b_points : Int32} {b_near : Int32} {b_loose : Int32} {b_short : Int32} {b_nets : Ar} {b_xs : Ar} {b_ys : Ar} {p1 : Int32} {p2 : Int32} {p3 : Int32} {rr : Int32} {q_b_points : Int32} {q_b_nets : Ar} {q_b_xs : Ar} {q_b_ys : Ar} (h : m_X0_addPoint b_points b_nets b_xs b_ys p1 p2 p3 = some (rr, q_b_points, q_b_nets, q_b_xs, q_b_ys)) : Ci E yX0_addPoint (wU yX0_addPoint cX0_addPoint 5 (some .int)) (RM 0 0) [.ref ab0, .int p1, .int p2, .int p3] (V_B E.2.2 ab0 ab1 ab2 ab3 b_points b_near b_loose b_short b_nets b_xs b_ys) (V_B E.2.2 ab0 ab1 ab2 ab3 q_b_points b_near b_loose b_short q_b_nets q_b_xs q_b_ys) rr := by
  refine Ci.of (by decide) (Nat.le_of_ble_eq_true rfl) ?_
  intro x hE C
  subst hE
  have C : CX RX0 cX0_addPoint 5 (some .int) x := C
  refine p_locals [0, 1, 2, 3] (lv' := [(0, .ref ab0), (1, .int p1), (2, .int p2), (3, .int p3)]) rfl ?_
  unfold m_X0_addPoint at h
  refine p_aload_n C dX0_addPoint_0 rfl 0 rfl ?_
  refine p_get C dX0_addPoint_1 rfl 0 3 inlX0 fl_X0_21 rfl rfl (by decide) rfl rfl ?_
  refine p_istore (lv' := [(4, .int b_points), (0, .ref ab0), (1, .int p1), (2, .int p2), (3, .int p3)]) C dX0_addPoint_4 rfl (by decide) rfl ?_
  refine p_aload_n C dX0_addPoint_6 rfl 1 rfl ?_
  refine p_get C dX0_addPoint_7 rfl 0 0 inlX0 fl_X0_9 rfl rfl (by decide) rfl rfl ?_
  refine p_iload C dX0_addPoint_10 rfl 0 rfl ?_
  refine p_iload_n C dX0_addPoint_12 rfl 2 rfl ?_
  obtain ⟨g1, h⟩ := grd_of h
  refine p_iast (Wd' := (V_B x.1.2.2 ab0 ab1 ab2 ab3 b_points b_near b_loose b_short (upd b_nets b_points.toNatClampNeg p1) b_xs b_ys)) C dX0_addPoint_13 rfl 1 rfl g1 rfl ?_
  refine p_aload_n C dX0_addPoint_14 rfl 1 rfl ?_
  refine p_get C dX0_addPoint_15 rfl 0 1 inlX0 fl_X0_15 rfl rfl (by decide) rfl rfl ?_
  refine p_iload C dX0_addPoint_18 rfl 0 rfl ?_
  refine p_iload_n C dX0_addPoint_20 rfl 3 rfl ?_
  obtain ⟨g2, h⟩ := grd_of h
  refine p_iast (Wd' := (V_B x.1.2.2 ab0 ab1 ab2 ab3 b_points b_near b_loose b_short (upd b_nets b_points.toNatClampNeg p1) (upd b_xs b_points.toNatClampNeg p2) b_ys)) C dX0_addPoint_21 rfl 2 rfl g2 rfl ?_
  refine p_aload_n C dX0_addPoint_22 rfl 1 rfl ?_
  refine p_get C dX0_addPoint_23 rfl 0 2 inlX0 fl_X0_18 rfl rfl (by decide) rfl rfl ?_
  refine p_iload C dX0_addPoint_26 rfl 0 rfl ?_
  refine p_iload_n C dX0_addPoint_28 rfl 4 rfl ?_
  obtain ⟨g3, h⟩ := grd_of h
  refine p_iast (Wd' := (V_B x.1.2.2 ab0 ab1 ab2 ab3 b_points b_near b_loose b_short (upd b_nets b_points.toNatClampNeg p1) (upd b_xs b_points.toNatClampNeg p2) (upd b_ys b_points.toNatClampNeg p3))) C dX0_addPoint_29 rfl 3 rfl g3 rfl ?_
  refine p_aload_n C dX0_addPoint_30 rfl 1 rfl ?_
  refine p_dup C dX0_addPoint_31 rfl rfl ?_
  refine p_get C dX0_addPoint_32 rfl 0 3 inlX0 fl_X0_21 rfl rfl (by decide) rfl rfl ?_
  refine p_iconst (v := (1 : Int32)) C dX0_addPoint_35 rfl (by decide) ?_
  refine p_iadd C dX0_addPoint_36 rfl ?_
  refine p_put (Wd' := (V_B x.1.2.2 ab0 ab1 ab2 ab3 (b_points + ((1 : Int32))) b_near b_loose b_short (upd b_nets b_points.toNatClampNeg p1) (upd b_xs b_points.toNatClampNeg p2) (upd b_ys b_points.toNatClampNeg p3))) (ty := .int) C dX0_addPoint_37 rfl 0 3 inlX0 tyX0 tyX0_ok nmX0 fl_X0_21 rfl rfl (by decide) rfl rfl (by decide +kernel) rfl rfl (Nat.le_of_ble_eq_true rfl) rfl ?_
  refine p_iload C dX0_addPoint_40 rfl 0 rfl ?_
  cases h
  exact p_iret C dX0_addPoint_42
def B_X0_copyFrom_2 (b_points : Int32) (b_near : Int32) (b_loose : Int32) (b_short : Int32) (c_points : Int32) (c_near : Int32) (c_loose : Int32) (c_short : Int32) (c_nets : Ar) (c_xs : Ar) (c_ys : Ar)   (kk : Int32 → Ar → Ar → Ar → Option (Int32 × Int32 × Int32 × Int32 × Ar × Ar × Ar)) (v2 : Int32) (b_nets : Ar) (b_xs : Ar) (b_ys : Ar) : Option (Int32 × Int32 × Int32 × Int32 × Ar × Ar × Ar) := if ((8 : Int32)) ≤ v2 then (some (c_points, c_near, c_loose, c_short, b_nets, b_xs, b_ys)) else (grd (gI v2 8) (grd (gI v2 8) (grd (gI v2 8) (grd (gI v2 8) (grd (gI v2 8) (grd (gI v2 8) (kk (v2 + 1) (upd b_nets v2.toNatClampNeg (c_nets v2.toNatClampNeg)) (upd b_xs v2.toNatClampNeg (c_xs v2.toNatClampNeg)) (upd b_ys v2.toNatClampNeg (c_ys v2.toNatClampNeg)))))))))
def L_X0_copyFrom_2 (b_points : Int32) (b_near : Int32) (b_loose : Int32) (b_short : Int32) (c_points : Int32) (c_near : Int32) (c_loose : Int32) (c_short : Int32) (c_nets : Ar) (c_xs : Ar) (c_ys : Ar)   : Nat → Int32 → Ar → Ar → Ar → Option (Int32 × Int32 × Int32 × Int32 × Ar × Ar × Ar) := lpG (fun _ _ _ _ => none) (B_X0_copyFrom_2 b_points b_near b_loose b_short c_points c_near c_loose c_short c_nets c_xs c_ys)
set_option maxHeartbeats 4000000 in
set_option maxRecDepth 100000 in
theorem tl_X0_copyFrom_2 {x : Cxt} {ab0 ab1 ab2 ab3 ac0 ac1 ac2 ac3 : Nat} {b_points : Int32} {b_near : Int32} {b_loose : Int32} {b_short : Int32} {c_points : Int32} {c_near : Int32} {c_loose : Int32} {c_short : Int32} {c_nets : Ar} {c_xs : Ar} {c_ys : Ar}   {q_b_points : Int32} {q_b_near : Int32} {q_b_loose : Int32} {q_b_short : Int32} {q_b_nets : Ar} {q_b_xs : Ar} {q_b_ys : Ar} (C : CX RX0 cX0_copyFrom 3 none x)  : ∀ (n : Nat) (v2 : Int32) (b_nets : Ar) (b_xs : Ar) (b_ys : Ar), L_X0_copyFrom_2 b_points b_near b_loose b_short c_points c_near c_loose c_short c_nets c_xs c_ys n v2 b_nets b_xs b_ys = some (q_b_points, q_b_near, q_b_loose, q_b_short, q_b_nets, q_b_xs, q_b_ys) → PT (RM 0 0) 3 x 2 [(0, .ref ab0), (1, .ref ac0), (2, .int v2)] [] (V_BC x.1.2.2 ab0 ab1 ab2 ab3 ac0 ac1 ac2 ac3 b_points b_near b_loose b_short b_nets b_xs b_ys c_points c_near c_loose c_short c_nets c_xs c_ys) 0 0 (QV x (V_BC x.1.2.2 ab0 ab1 ab2 ab3 ac0 ac1 ac2 ac3 q_b_points q_b_near q_b_loose q_b_short q_b_nets q_b_xs q_b_ys c_points c_near c_loose c_short c_nets c_xs c_ys)) := by
  intro n
  induction n with
  | zero =>
    intro v2 b_nets b_xs b_ys h
    cases h
  | succ n ih =>
    intro v2 b_nets b_xs b_ys h
    have h : B_X0_copyFrom_2 b_points b_near b_loose b_short c_points c_near c_loose c_short c_nets c_xs c_ys (L_X0_copyFrom_2 b_points b_near b_loose b_short c_points c_near c_loose c_short c_nets c_xs c_ys n) v2 b_nets b_xs b_ys = some (q_b_points, q_b_near, q_b_loose, q_b_short, q_b_nets, q_b_xs, q_b_ys) := h
    unfold B_X0_copyFrom_2 at h
    refine p_iload_n C dX0_copyFrom_2 rfl 2 rfl ?_
    refine p_bipush (v := (8 : Int32)) C dX0_copyFrom_3 rfl (by decide) ?_
    refine p_icmp_ge C dX0_copyFrom_5 (tgt := 50) (by decide) rfl (fun c1 => ?_) (fun c1 => ?_)
    · have h := if_t c1 h
      refine p_aload_n C dX0_copyFrom_50 rfl 0 rfl ?_
      refine p_aload_n C dX0_copyFrom_51 rfl 1 rfl ?_
      refine p_get C dX0_copyFrom_52 rfl 4 3 inlX0 fl_X0_21 rfl rfl (by decide) rfl rfl ?_
      refine p_put (Wd' := (V_BC x.1.2.2 ab0 ab1 ab2 ab3 ac0 ac1 ac2 ac3 c_points b_near b_loose b_short b_nets b_xs b_ys c_points c_near c_loose c_short c_nets c_xs c_ys)) (ty := .int) C dX0_copyFrom_55 rfl 0 3 inlX0 tyX0 tyX0_ok nmX0 fl_X0_21 rfl rfl (by decide) rfl rfl (by decide +kernel) rfl rfl (Nat.le_of_ble_eq_true rfl) rfl ?_
      refine p_aload_n C dX0_copyFrom_58 rfl 0 rfl ?_
      refine p_aload_n C dX0_copyFrom_59 rfl 1 rfl ?_
      refine p_get C dX0_copyFrom_60 rfl 4 4 inlX0 fl_X0_25 rfl rfl (by decide) rfl rfl ?_
      refine p_put (Wd' := (V_BC x.1.2.2 ab0 ab1 ab2 ab3 ac0 ac1 ac2 ac3 c_points c_near b_loose b_short b_nets b_xs b_ys c_points c_near c_loose c_short c_nets c_xs c_ys)) (ty := .int) C dX0_copyFrom_63 rfl 0 4 inlX0 tyX0 tyX0_ok nmX0 fl_X0_25 rfl rfl (by decide) rfl rfl (by decide +kernel) rfl rfl (Nat.le_of_ble_eq_true rfl) rfl ?_
      refine p_aload_n C dX0_copyFrom_66 rfl 0 rfl ?_
      refine p_aload_n C dX0_copyFrom_67 rfl 1 rfl ?_
      refine p_get C dX0_copyFrom_68 rfl 4 5 inlX0 fl_X0_28 rfl rfl (by decide) rfl rfl ?_
      refine p_put (Wd' := (V_BC x.1.2.2 ab0 ab1 ab2 ab3 ac0 ac1 ac2 ac3 c_points c_near c_loose b_short b_nets b_xs b_ys c_points c_near c_loose c_short c_nets c_xs c_ys)) (ty := .int) C dX0_copyFrom_71 rfl 0 5 inlX0 tyX0 tyX0_ok nmX0 fl_X0_28 rfl rfl (by decide) rfl rfl (by decide +kernel) rfl rfl (Nat.le_of_ble_eq_true rfl) rfl ?_
      refine p_aload_n C dX0_copyFrom_74 rfl 0 rfl ?_
      refine p_aload_n C dX0_copyFrom_75 rfl 1 rfl ?_
      refine p_get C dX0_copyFrom_76 rfl 4 6 inlX0 fl_X0_31 rfl rfl (by decide) rfl rfl ?_
      refine p_put (Wd' := (V_BC x.1.2.2 ab0 ab1 ab2 ab3 ac0 ac1 ac2 ac3 c_points c_near c_loose c_short b_nets b_xs b_ys c_points c_near c_loose c_short c_nets c_xs c_ys)) (ty := .int) C dX0_copyFrom_79 rfl 0 6 inlX0 tyX0 tyX0_ok nmX0 fl_X0_31 rfl rfl (by decide) rfl rfl (by decide +kernel) rfl rfl (Nat.le_of_ble_eq_true rfl) rfl ?_
      cases h
      exact p_vret C dX0_copyFrom_82
    · have h := if_f c1 h
      refine p_aload_n C dX0_copyFrom_8 rfl 0 rfl ?_
      refine p_get C dX0_copyFrom_9 rfl 0 0 inlX0 fl_X0_9 rfl rfl (by decide) rfl rfl ?_
      refine p_iload_n C dX0_copyFrom_12 rfl 2 rfl ?_
      refine p_aload_n C dX0_copyFrom_13 rfl 1 rfl ?_
      refine p_get C dX0_copyFrom_14 rfl 4 0 inlX0 fl_X0_9 rfl rfl (by decide) rfl rfl ?_
      refine p_iload_n C dX0_copyFrom_17 rfl 2 rfl ?_
      obtain ⟨g2, h⟩ := grd_of h
      refine p_iald C dX0_copyFrom_18 rfl 5 rfl g2 ?_
      obtain ⟨g3, h⟩ := grd_of h
      refine p_iast (Wd' := (V_BC x.1.2.2 ab0 ab1 ab2 ab3 ac0 ac1 ac2 ac3 b_points b_near b_loose b_short (upd b_nets v2.toNatClampNeg (c_nets v2.toNatClampNeg)) b_xs b_ys c_points c_near c_loose c_short c_nets c_xs c_ys)) C dX0_copyFrom_19 rfl 1 rfl g3 rfl ?_
      refine p_aload_n C dX0_copyFrom_20 rfl 0 rfl ?_
      refine p_get C dX0_copyFrom_21 rfl 0 1 inlX0 fl_X0_15 rfl rfl (by decide) rfl rfl ?_
      refine p_iload_n C dX0_copyFrom_24 rfl 2 rfl ?_
      refine p_aload_n C dX0_copyFrom_25 rfl 1 rfl ?_
      refine p_get C dX0_copyFrom_26 rfl 4 1 inlX0 fl_X0_15 rfl rfl (by decide) rfl rfl ?_
      refine p_iload_n C dX0_copyFrom_29 rfl 2 rfl ?_
      obtain ⟨g4, h⟩ := grd_of h
      refine p_iald C dX0_copyFrom_30 rfl 6 rfl g4 ?_
      obtain ⟨g5, h⟩ := grd_of h
      refine p_iast (Wd' := (V_BC x.1.2.2 ab0 ab1 ab2 ab3 ac0 ac1 ac2 ac3 b_points b_near b_loose b_short (upd b_nets v2.toNatClampNeg (c_nets v2.toNatClampNeg)) (upd b_xs v2.toNatClampNeg (c_xs v2.toNatClampNeg)) b_ys c_points c_near c_loose c_short c_nets c_xs c_ys)) C dX0_copyFrom_31 rfl 2 rfl g5 rfl ?_
      refine p_aload_n C dX0_copyFrom_32 rfl 0 rfl ?_
      refine p_get C dX0_copyFrom_33 rfl 0 2 inlX0 fl_X0_18 rfl rfl (by decide) rfl rfl ?_
      refine p_iload_n C dX0_copyFrom_36 rfl 2 rfl ?_
      refine p_aload_n C dX0_copyFrom_37 rfl 1 rfl ?_
      refine p_get C dX0_copyFrom_38 rfl 4 2 inlX0 fl_X0_18 rfl rfl (by decide) rfl rfl ?_
      refine p_iload_n C dX0_copyFrom_41 rfl 2 rfl ?_
      obtain ⟨g6, h⟩ := grd_of h
      refine p_iald C dX0_copyFrom_42 rfl 7 rfl g6 ?_
      obtain ⟨g7, h⟩ := grd_of h
      refine p_iast (Wd' := (V_BC x.1.2.2 ab0 ab1 ab2 ab3 ac0 ac1 ac2 ac3 b_points b_near b_loose b_short (upd b_nets v2.toNatClampNeg (c_nets v2.toNatClampNeg)) (upd b_xs v2.toNatClampNeg (c_xs v2.toNatClampNeg)) (upd b_ys v2.toNatClampNeg (c_ys v2.toNatClampNeg)) c_points c_near c_loose c_short c_nets c_xs c_ys)) C dX0_copyFrom_43 rfl 3 rfl g7 rfl ?_
      refine p_iinc (w := v2 + 1) (lv' := [(2, .int (v2 + 1)), (0, .ref ab0), (1, .ref ac0)]) C dX0_copyFrom_44 rfl 2 rfl rfl (by decide) rfl ?_
      refine p_goto C dX0_copyFrom_47 (pc' := 2) (by decide) ?_
      refine p_locals [1, 2, 0] (lv' := [(0, .ref ab0), (1, .ref ac0), (2, .int (v2 + 1))]) rfl ?_
      exact ih _ _ _ _ h
def m_X0_copyFrom (b_points : Int32) (b_near : Int32) (b_loose : Int32) (b_short : Int32) (b_nets : Ar) (b_xs : Ar) (b_ys : Ar) (c_points : Int32) (c_near : Int32) (c_loose : Int32) (c_short : Int32) (c_nets : Ar) (c_xs : Ar) (c_ys : Ar)  : Option (Int32 × Int32 × Int32 × Int32 × Ar × Ar × Ar) := L_X0_copyFrom_2 b_points b_near b_loose b_short c_points c_near c_loose c_short c_nets c_xs c_ys FU ((0 : Int32)) b_nets b_xs b_ys
theorem ds_X0_copyFrom : (yX0_copyFrom).cls ≠ "java/lang/invoke/MethodHandle" ∧ (yX0_copyFrom).cls ≠ "java/lang/invoke/VarHandle" ∧ (parseMethodDescriptor (yX0_copyFrom).desc).map (fun d => d.parameters.length) = some 1 := by decide +kernel
set_option maxHeartbeats 4000000 in
set_option maxRecDepth 100000 in
theorem c_X0_copyFrom (E : En) {ab0 ab1 ab2 ab3 ac0 ac1 ac2 ac3 : Nat} {b_points : Int32} {b_near : Int32} {b_loose : Int32} {b_short : Int32} {b_nets : Ar} {b_xs : Ar} {b_ys : Ar} {c_points : Int32} {c_near : Int32} {c_loose : Int32} {c_short : Int32} {c_nets : Ar} {c_xs : Ar} {c_ys : Ar}  {q_b_points : Int32} {q_b_near : Int32} {q_b_loose : Int32} {q_b_short : Int32} {q_b_nets : Ar} {q_b_xs : Ar} {q_b_ys : Ar} (h : m_X0_copyFrom b_points b_near b_loose b_short b_nets b_xs b_ys c_points c_near c_loose c_short c_nets c_xs c_ys = some (q_b_points, q_b_near, q_b_loose, q_b_short, q_b_nets, q_b_xs, q_b_ys)) : Cv E yX0_copyFrom (wU yX0_copyFrom cX0_copyFrom 3 none) (RM 0 0) [.ref ab0, .ref ac0] (V_BC E.2.2 ab0 ab1 ab2 ab3 ac0 ac1 ac2 ac3 b_points b_near b_loose b_short b_nets b_xs b_ys c_points c_near c_loose c_short c_nets c_xs c_ys) (V_BC E.2.2 ab0 ab1 ab2 ab3 ac0 ac1 ac2 ac3 q_b_points q_b_near q_b_loose q_b_short q_b_nets q_b_xs q_b_ys c_points c_near c_loose c_short c_nets c_xs c_ys) := by
  refine Cv.of (by decide) (Nat.le_of_ble_eq_true rfl) ?_
  intro x hE C
  subst hE
  have C : CX RX0 cX0_copyFrom 3 none x := C
  refine p_locals [0, 1] (lv' := [(0, .ref ab0), (1, .ref ac0)]) rfl ?_
  unfold m_X0_copyFrom at h
  refine p_iconst (v := (0 : Int32)) C dX0_copyFrom_0 rfl (by decide) ?_
  refine p_istore_n (lv' := [(2, .int ((0 : Int32))), (0, .ref ab0), (1, .ref ac0)]) C dX0_copyFrom_1 rfl (by decide) rfl ?_
  refine p_locals [1, 2, 0] (lv' := [(0, .ref ab0), (1, .ref ac0), (2, .int ((0 : Int32)))]) rfl ?_
  exact tl_X0_copyFrom_2 C  FU _ _ _ _ h
def B_X0_countNetsWithPoints_4 (b_points : Int32) (b_nets : Ar)   (kk : Int32 → Int32 → Option (Int32)) (v1 : Int32) (v2 : Int32)  : Option (Int32) := if b_points ≤ v2 then (bd1 (m_J6_bitCount_0f7a4 v1) (fun r2 => some r2)) else (grd (gI v2 8) (kk (v1 ||| (((1 : Int32)) <<< ((b_nets v2.toNatClampNeg) &&& 31))) (v2 + 1)))
def L_X0_countNetsWithPoints_4 (b_points : Int32) (b_nets : Ar)   : Nat → Int32 → Int32 → Option (Int32) := lpG (fun _ _ => none) (B_X0_countNetsWithPoints_4 b_points b_nets)
set_option maxHeartbeats 4000000 in
set_option maxRecDepth 100000 in
theorem tl_X0_countNetsWithPoints_4 {x : Cxt} {ab0 ab1 ab2 ab3 : Nat} {b_points : Int32} {b_near : Int32} {b_loose : Int32} {b_short : Int32} {b_nets : Ar} {b_xs : Ar} {b_ys : Ar}   {rr : Int32} (C : CX RX0 cX0_countNetsWithPoints 3 (some .int) x)  : ∀ (n : Nat) (v1 : Int32) (v2 : Int32) , L_X0_countNetsWithPoints_4 b_points b_nets n v1 v2 = some rr → PT (RM 1 20) 3 x 4 [(0, .ref ab0), (1, .int v1), (2, .int v2)] [] (V_B x.1.2.2 ab0 ab1 ab2 ab3 b_points b_near b_loose b_short b_nets b_xs b_ys) 0 0 (QI x rr (V_B x.1.2.2 ab0 ab1 ab2 ab3 b_points b_near b_loose b_short b_nets b_xs b_ys)) := by
  intro n
  induction n with
  | zero =>
    intro v1 v2 h
    cases h
  | succ n ih =>
    intro v1 v2 h
    have h : B_X0_countNetsWithPoints_4 b_points b_nets (L_X0_countNetsWithPoints_4 b_points b_nets n) v1 v2 = some rr := h
    unfold B_X0_countNetsWithPoints_4 at h
    refine p_iload_n C dX0_countNetsWithPoints_4 rfl 2 rfl ?_
    refine p_aload_n C dX0_countNetsWithPoints_5 rfl 0 rfl ?_
    refine p_get C dX0_countNetsWithPoints_6 rfl 0 3 inlX0 fl_X0_21 rfl rfl (by decide) rfl rfl ?_
    refine p_icmp_ge C dX0_countNetsWithPoints_9 (tgt := 29) (by decide) rfl (fun c1 => ?_) (fun c1 => ?_)
    · have h := if_t c1 h
      refine p_iload_n C dX0_countNetsWithPoints_29 rfl 1 rfl ?_
      obtain ⟨r2, hc3, h⟩ := bd1_of h
      refine p_callSi (As := [.int v1]) (st' := []) (Wd' := (V_B x.1.2.2 ab0 ab1 ab2 ab3 b_points b_near b_loose b_short b_nets b_xs b_ys)) C (c_J6_bitCount_0f7a4 x.1 hc3) dX0_countNetsWithPoints_30 rfl ml_X0_38 ks_J6_bitCount_0f7a4 ds_J6_bitCount_0f7a4 ⟨rfl, rfl, by decide, by decide⟩ [] rfl rfl rfl rfl (by decide) ⟨by decide, by decide⟩ rfl ?_
      cases h
      exact p_iret C dX0_countNetsWithPoints_33
    · have h := if_f c1 h
      refine p_iload_n C dX0_countNetsWithPoints_12 rfl 1 rfl ?_
      refine p_iconst (v := (1 : Int32)) C dX0_countNetsWithPoints_13 rfl (by decide) ?_
      refine p_aload_n C dX0_countNetsWithPoints_14 rfl 0 rfl ?_
      refine p_get C dX0_countNetsWithPoints_15 rfl 0 0 inlX0 fl_X0_9 rfl rfl (by decide) rfl rfl ?_
      refine p_iload_n C dX0_countNetsWithPoints_18 rfl 2 rfl ?_
      obtain ⟨g4, h⟩ := grd_of h
      refine p_iald C dX0_countNetsWithPoints_19 rfl 1 rfl g4 ?_
      refine p_ishl C dX0_countNetsWithPoints_20 rfl ?_
      refine p_ior C dX0_countNetsWithPoints_21 rfl ?_
      refine p_istore_n (lv' := [(1, .int (v1 ||| (((1 : Int32)) <<< ((b_nets v2.toNatClampNeg) &&& 31)))), (0, .ref ab0), (2, .int v2)]) C dX0_countNetsWithPoints_22 rfl (by decide) rfl ?_
      refine p_iinc (w := v2 + 1) (lv' := [(2, .int (v2 + 1)), (1, .int (v1 ||| (((1 : Int32)) <<< ((b_nets v2.toNatClampNeg) &&& 31)))), (0, .ref ab0)]) C dX0_countNetsWithPoints_23 rfl 2 rfl rfl (by decide) rfl ?_
      refine p_goto C dX0_countNetsWithPoints_26 (pc' := 4) (by decide) ?_
      refine p_locals [2, 1, 0] (lv' := [(0, .ref ab0), (1, .int (v1 ||| (((1 : Int32)) <<< ((b_nets v2.toNatClampNeg) &&& 31)))), (2, .int (v2 + 1))]) rfl ?_
      exact ih _ _ h
def m_X0_countNetsWithPoints (b_points : Int32) (b_nets : Ar)  : Option (Int32) := L_X0_countNetsWithPoints_4 b_points b_nets FU ((0 : Int32)) ((0 : Int32))
theorem ds_X0_countNetsWithPoints : (yX0_countNetsWithPoints).cls ≠ "java/lang/invoke/MethodHandle" ∧ (yX0_countNetsWithPoints).cls ≠ "java/lang/invoke/VarHandle" ∧ (parseMethodDescriptor (yX0_countNetsWithPoints).desc).map (fun d => d.parameters.length) = some 0 := by decide +kernel
set_option maxHeartbeats 4000000 in
set_option maxRecDepth 100000 in
theorem c_X0_countNetsWithPoints (E : En) {ab0 ab1 ab2 ab3 : Nat} {b_points : Int32} {b_near : Int32} {b_loose : Int32} {b_short : Int32} {b_nets : Ar} {b_xs : Ar} {b_ys : Ar}  {rr : Int32} (h : m_X0_countNetsWithPoints b_points b_nets = some rr) : Ci E yX0_countNetsWithPoints (wU yX0_countNetsWithPoints cX0_countNetsWithPoints 3 (some .int)) (RM 1 20) [.ref ab0] (V_B E.2.2 ab0 ab1 ab2 ab3 b_points b_near b_loose b_short b_nets b_xs b_ys) (V_B E.2.2 ab0 ab1 ab2 ab3 b_points b_near b_loose b_short b_nets b_xs b_ys) rr := by
  refine Ci.of (by decide) (Nat.le_of_ble_eq_true rfl) ?_
  intro x hE C
  subst hE
  have C : CX RX0 cX0_countNetsWithPoints 3 (some .int) x := C
  refine p_locals [0] (lv' := [(0, .ref ab0)]) rfl ?_
  unfold m_X0_countNetsWithPoints at h
  refine p_iconst (v := (0 : Int32)) C dX0_countNetsWithPoints_0 rfl (by decide) ?_
  refine p_istore_n (lv' := [(1, .int ((0 : Int32))), (0, .ref ab0)]) C dX0_countNetsWithPoints_1 rfl (by decide) rfl ?_
  refine p_iconst (v := (0 : Int32)) C dX0_countNetsWithPoints_2 rfl (by decide) ?_
  refine p_istore_n (lv' := [(2, .int ((0 : Int32))), (1, .int ((0 : Int32))), (0, .ref ab0)]) C dX0_countNetsWithPoints_3 rfl (by decide) rfl ?_
  refine p_locals [2, 1, 0] (lv' := [(0, .ref ab0), (1, .int ((0 : Int32))), (2, .int ((0 : Int32)))]) rfl ?_
  exact tl_X0_countNetsWithPoints_4 C  FU _ _ h
def m_X0_distance (b_xs : Ar) (b_ys : Ar) (p1 : Int32) (p2 : Int32) : Option (Int32) := grd (gI p1 8) (grd (gI p2 8) (grd (gI p1 8) (grd (gI p2 8) (some ((((b_xs p1.toNatClampNeg) - (b_xs p2.toNatClampNeg)) * ((b_xs p1.toNatClampNeg) - (b_xs p2.toNatClampNeg))) + (((b_ys p1.toNatClampNeg) - (b_ys p2.toNatClampNeg)) * ((b_ys p1.toNatClampNeg) - (b_ys p2.toNatClampNeg))))))))
theorem ds_X0_distance : (yX0_distance).cls ≠ "java/lang/invoke/MethodHandle" ∧ (yX0_distance).cls ≠ "java/lang/invoke/VarHandle" ∧ (parseMethodDescriptor (yX0_distance).desc).map (fun d => d.parameters.length) = some 2 := by decide +kernel
set_option maxHeartbeats 4000000 in
set_option maxRecDepth 100000 in
theorem c_X0_distance (E : En) {ab0 ab1 ab2 ab3 : Nat} {b_points : Int32} {b_near : Int32} {b_loose : Int32} {b_short : Int32} {b_nets : Ar} {b_xs : Ar} {b_ys : Ar} {p1 : Int32} {p2 : Int32} {rr : Int32} (h : m_X0_distance b_xs b_ys p1 p2 = some rr) : Ci E yX0_distance (wU yX0_distance cX0_distance 5 (some .int)) (RM 0 0) [.ref ab0, .int p1, .int p2] (V_B E.2.2 ab0 ab1 ab2 ab3 b_points b_near b_loose b_short b_nets b_xs b_ys) (V_B E.2.2 ab0 ab1 ab2 ab3 b_points b_near b_loose b_short b_nets b_xs b_ys) rr := by
  refine Ci.of (by decide) (Nat.le_of_ble_eq_true rfl) ?_
  intro x hE C
  subst hE
  have C : CX RX0 cX0_distance 5 (some .int) x := C
  refine p_locals [0, 1, 2] (lv' := [(0, .ref ab0), (1, .int p1), (2, .int p2)]) rfl ?_
  unfold m_X0_distance at h
  refine p_aload_n C dX0_distance_0 rfl 0 rfl ?_
  refine p_get C dX0_distance_1 rfl 0 1 inlX0 fl_X0_15 rfl rfl (by decide) rfl rfl ?_
  refine p_iload_n C dX0_distance_4 rfl 1 rfl ?_
  obtain ⟨g1, h⟩ := grd_of h
  refine p_iald C dX0_distance_5 rfl 2 rfl g1 ?_
  refine p_aload_n C dX0_distance_6 rfl 0 rfl ?_
  refine p_get C dX0_distance_7 rfl 0 1 inlX0 fl_X0_15 rfl rfl (by decide) rfl rfl ?_
  refine p_iload_n C dX0_distance_10 rfl 2 rfl ?_
  obtain ⟨g2, h⟩ := grd_of h
  refine p_iald C dX0_distance_11 rfl 2 rfl g2 ?_
  refine p_isub C dX0_distance_12 rfl ?_
  refine p_istore_n (lv' := [(3, .int ((b_xs p1.toNatClampNeg) - (b_xs p2.toNatClampNeg))), (0, .ref ab0), (1, .int p1), (2, .int p2)]) C dX0_distance_13 rfl (by decide) rfl ?_
  refine p_aload_n C dX0_distance_14 rfl 1 rfl ?_
  refine p_get C dX0_distance_15 rfl 0 2 inlX0 fl_X0_18 rfl rfl (by decide) rfl rfl ?_
  refine p_iload_n C dX0_distance_18 rfl 2 rfl ?_
  obtain ⟨g3, h⟩ := grd_of h
  refine p_iald C dX0_distance_19 rfl 3 rfl g3 ?_
  refine p_aload_n C dX0_distance_20 rfl 1 rfl ?_
  refine p_get C dX0_distance_21 rfl 0 2 inlX0 fl_X0_18 rfl rfl (by decide) rfl rfl ?_
  refine p_iload_n C dX0_distance_24 rfl 3 rfl ?_
  obtain ⟨g4, h⟩ := grd_of h
  refine p_iald C dX0_distance_25 rfl 3 rfl g4 ?_
  refine p_isub C dX0_distance_26 rfl ?_
  refine p_istore (lv' := [(4, .int ((b_ys p1.toNatClampNeg) - (b_ys p2.toNatClampNeg))), (3, .int ((b_xs p1.toNatClampNeg) - (b_xs p2.toNatClampNeg))), (0, .ref ab0), (1, .int p1), (2, .int p2)]) C dX0_distance_27 rfl (by decide) rfl ?_
  refine p_iload_n C dX0_distance_29 rfl 1 rfl ?_
  refine p_iload_n C dX0_distance_30 rfl 1 rfl ?_
  refine p_imul C dX0_distance_31 rfl ?_
  refine p_iload C dX0_distance_32 rfl 0 rfl ?_
  refine p_iload C dX0_distance_34 rfl 0 rfl ?_
  refine p_imul C dX0_distance_36 rfl ?_
  refine p_iadd C dX0_distance_37 rfl ?_
  cases h
  exact p_iret C dX0_distance_38
def m_X0_hasPoint (b_points : Int32) (p1 : Int32) : Option (Int32) := if p1 < 0 then (some ((0 : Int32))) else (if b_points ≤ p1 then (some ((0 : Int32))) else (some ((1 : Int32))))
theorem ds_X0_hasPoint : (yX0_hasPoint).cls ≠ "java/lang/invoke/MethodHandle" ∧ (yX0_hasPoint).cls ≠ "java/lang/invoke/VarHandle" ∧ (parseMethodDescriptor (yX0_hasPoint).desc).map (fun d => d.parameters.length) = some 1 := by decide +kernel
set_option maxHeartbeats 4000000 in
set_option maxRecDepth 100000 in
theorem c_X0_hasPoint (E : En) {ab0 ab1 ab2 ab3 : Nat} {b_points : Int32} {b_near : Int32} {b_loose : Int32} {b_short : Int32} {b_nets : Ar} {b_xs : Ar} {b_ys : Ar} {p1 : Int32} {rr : Int32} (h : m_X0_hasPoint b_points p1 = some rr) : Ci E yX0_hasPoint (wU yX0_hasPoint cX0_hasPoint 2 (some .boolean)) (RM 0 0) [.ref ab0, .int p1] (V_B E.2.2 ab0 ab1 ab2 ab3 b_points b_near b_loose b_short b_nets b_xs b_ys) (V_B E.2.2 ab0 ab1 ab2 ab3 b_points b_near b_loose b_short b_nets b_xs b_ys) rr := by
  refine Ci.of (by decide) (Nat.le_of_ble_eq_true rfl) ?_
  intro x hE C
  subst hE
  have C : CX RX0 cX0_hasPoint 2 (some .boolean) x := C
  refine p_locals [0, 1] (lv' := [(0, .ref ab0), (1, .int p1)]) rfl ?_
  unfold m_X0_hasPoint at h
  refine p_iload_n C dX0_hasPoint_0 rfl 1 rfl ?_
  refine p_if_lt C dX0_hasPoint_1 (tgt := 16) (by decide) rfl (fun c1 => ?_) (fun c1 => ?_)
  · have h := if_t c1 h
    refine p_iconst (v := (0 : Int32)) C dX0_hasPoint_16 rfl (by decide) ?_
    cases h
    exact p_zret C dX0_hasPoint_17 rfl
  · have h := if_f c1 h
    refine p_iload_n C dX0_hasPoint_4 rfl 1 rfl ?_
    refine p_aload_n C dX0_hasPoint_5 rfl 0 rfl ?_
    refine p_get C dX0_hasPoint_6 rfl 0 3 inlX0 fl_X0_21 rfl rfl (by decide) rfl rfl ?_
    refine p_icmp_ge C dX0_hasPoint_9 (tgt := 16) (by decide) rfl (fun c2 => ?_) (fun c2 => ?_)
    · have h := if_t c2 h
      refine p_iconst (v := (0 : Int32)) C dX0_hasPoint_16 rfl (by decide) ?_
      cases h
      exact p_zret C dX0_hasPoint_17 rfl
    · have h := if_f c2 h
      refine p_iconst (v := (1 : Int32)) C dX0_hasPoint_12 rfl (by decide) ?_
      refine p_goto C dX0_hasPoint_13 (pc' := 17) (by decide) ?_
      cases h
      exact p_zret C dX0_hasPoint_17 rfl
def J_X0_isLeftOf_35 (b_xs : Ar)    : Option (Int32) := some ((1 : Int32))
set_option maxHeartbeats 4000000 in
set_option maxRecDepth 100000 in
theorem tj_X0_isLeftOf_35 {x : Cxt} {ab0 ab1 ab2 ab3 : Nat} {b_points : Int32} {b_near : Int32} {b_loose : Int32} {b_short : Int32} {b_nets : Ar} {b_xs : Ar} {b_ys : Ar}    {rr : Int32} (C : CX RX0 cX0_isLeftOf 3 (some .boolean) x)  (h : J_X0_isLeftOf_35 b_xs = some rr) : PT (RM 0 0) 3 x 35 [(0, .ref ab0)] [] (V_B x.1.2.2 ab0 ab1 ab2 ab3 b_points b_near b_loose b_short b_nets b_xs b_ys) 0 0 (QI x rr (V_B x.1.2.2 ab0 ab1 ab2 ab3 b_points b_near b_loose b_short b_nets b_xs b_ys)) := by
  unfold J_X0_isLeftOf_35 at h
  refine p_iconst (v := (1 : Int32)) C dX0_isLeftOf_35 rfl (by decide) ?_
  refine p_goto C dX0_isLeftOf_36 (pc' := 40) (by decide) ?_
  cases h
  exact p_zret C dX0_isLeftOf_40 rfl
def m_X0_isLeftOf (b_xs : Ar) (p1 : Int32) (p2 : Int32) : Option (Int32) := grd (gI p1 8) (grd (gI p2 8) (if (b_xs p1.toNatClampNeg) < (b_xs p2.toNatClampNeg) then (J_X0_isLeftOf_35 b_xs) else (grd (gI p1 8) (grd (gI p2 8) (if (b_xs p1.toNatClampNeg) = (b_xs p2.toNatClampNeg) then (if p2 ≤ p1 then (some ((0 : Int32))) else (J_X0_isLeftOf_35 b_xs)) else (some ((0 : Int32))))))))
theorem ds_X0_isLeftOf : (yX0_isLeftOf).cls ≠ "java/lang/invoke/MethodHandle" ∧ (yX0_isLeftOf).cls ≠ "java/lang/invoke/VarHandle" ∧ (parseMethodDescriptor (yX0_isLeftOf).desc).map (fun d => d.parameters.length) = some 2 := by decide +kernel
set_option maxHeartbeats 4000000 in
set_option maxRecDepth 100000 in
theorem c_X0_isLeftOf (E : En) {ab0 ab1 ab2 ab3 : Nat} {b_points : Int32} {b_near : Int32} {b_loose : Int32} {b_short : Int32} {b_nets : Ar} {b_xs : Ar} {b_ys : Ar} {p1 : Int32} {p2 : Int32} {rr : Int32} (h : m_X0_isLeftOf b_xs p1 p2 = some rr) : Ci E yX0_isLeftOf (wU yX0_isLeftOf cX0_isLeftOf 3 (some .boolean)) (RM 0 0) [.ref ab0, .int p1, .int p2] (V_B E.2.2 ab0 ab1 ab2 ab3 b_points b_near b_loose b_short b_nets b_xs b_ys) (V_B E.2.2 ab0 ab1 ab2 ab3 b_points b_near b_loose b_short b_nets b_xs b_ys) rr := by
  refine Ci.of (by decide) (Nat.le_of_ble_eq_true rfl) ?_
  intro x hE C
  subst hE
  have C : CX RX0 cX0_isLeftOf 3 (some .boolean) x := C
  refine p_locals [0, 1, 2] (lv' := [(0, .ref ab0), (1, .int p1), (2, .int p2)]) rfl ?_
  unfold m_X0_isLeftOf at h
  refine p_aload_n C dX0_isLeftOf_0 rfl 0 rfl ?_
  refine p_get C dX0_isLeftOf_1 rfl 0 1 inlX0 fl_X0_15 rfl rfl (by decide) rfl rfl ?_
  refine p_iload_n C dX0_isLeftOf_4 rfl 1 rfl ?_
  obtain ⟨g1, h⟩ := grd_of h
  refine p_iald C dX0_isLeftOf_5 rfl 2 rfl g1 ?_
  refine p_aload_n C dX0_isLeftOf_6 rfl 0 rfl ?_
  refine p_get C dX0_isLeftOf_7 rfl 0 1 inlX0 fl_X0_15 rfl rfl (by decide) rfl rfl ?_
  refine p_iload_n C dX0_isLeftOf_10 rfl 2 rfl ?_
  obtain ⟨g2, h⟩ := grd_of h
  refine p_iald C dX0_isLeftOf_11 rfl 2 rfl g2 ?_
  refine p_icmp_lt C dX0_isLeftOf_12 (tgt := 35) (by decide) rfl (fun c3 => ?_) (fun c3 => ?_)
  · have h := if_t c3 h
    refine p_locals [0] (lv' := [(0, .ref ab0)]) rfl ?_
    exact tj_X0_isLeftOf_35 C  h
  · have h := if_f c3 h
    refine p_aload_n C dX0_isLeftOf_15 rfl 0 rfl ?_
    refine p_get C dX0_isLeftOf_16 rfl 0 1 inlX0 fl_X0_15 rfl rfl (by decide) rfl rfl ?_
    refine p_iload_n C dX0_isLeftOf_19 rfl 1 rfl ?_
    obtain ⟨g4, h⟩ := grd_of h
    refine p_iald C dX0_isLeftOf_20 rfl 2 rfl g4 ?_
    refine p_aload_n C dX0_isLeftOf_21 rfl 0 rfl ?_
    refine p_get C dX0_isLeftOf_22 rfl 0 1 inlX0 fl_X0_15 rfl rfl (by decide) rfl rfl ?_
    refine p_iload_n C dX0_isLeftOf_25 rfl 2 rfl ?_
    obtain ⟨g5, h⟩ := grd_of h
    refine p_iald C dX0_isLeftOf_26 rfl 2 rfl g5 ?_
    refine p_icmp_ne C dX0_isLeftOf_27 (tgt := 39) (by decide) rfl (fun c6 => ?_) (fun c6 => ?_)
    · have h := if_f c6 h
      refine p_iconst (v := (0 : Int32)) C dX0_isLeftOf_39 rfl (by decide) ?_
      cases h
      exact p_zret C dX0_isLeftOf_40 rfl
    · have h := if_t c6 h
      refine p_iload_n C dX0_isLeftOf_30 rfl 1 rfl ?_
      refine p_iload_n C dX0_isLeftOf_31 rfl 2 rfl ?_
      refine p_icmp_ge C dX0_isLeftOf_32 (tgt := 39) (by decide) rfl (fun c7 => ?_) (fun c7 => ?_)
      · have h := if_t c7 h
        refine p_iconst (v := (0 : Int32)) C dX0_isLeftOf_39 rfl (by decide) ?_
        cases h
        exact p_zret C dX0_isLeftOf_40 rfl
      · have h := if_f c7 h
        refine p_locals [0] (lv' := [(0, .ref ab0)]) rfl ?_
        exact tj_X0_isLeftOf_35 C  h
def m_X5_withMember  (p0 : Int32) (p1 : Int32) (p2 : Int32) : Option (Int32) := if p2 = ((1 : Int32)) then (some (p0 ||| (((1 : Int32)) <<< (p1 &&& 31)))) else (some (p0 &&& ((((1 : Int32)) <<< (p1 &&& 31)) ^^^ ((-1 : Int32)))))
theorem ds_X5_withMember : (yX5_withMember).cls ≠ "java/lang/invoke/MethodHandle" ∧ (yX5_withMember).cls ≠ "java/lang/invoke/VarHandle" ∧ (parseMethodDescriptor (yX5_withMember).desc).map (fun d => d.parameters.length) = some 3 := by decide +kernel
set_option maxHeartbeats 4000000 in
set_option maxRecDepth 100000 in
theorem c_X5_withMember (E : En)  {p0 : Int32} {p1 : Int32} {p2 : Int32} {rr : Int32} (h : m_X5_withMember p0 p1 p2 = some rr) : Ci E yX5_withMember (wU yX5_withMember cX5_withMember 3 (some .int)) (RM 0 0) [.int p0, .int p1, .int p2] ([] : va_W) ([] : va_W) rr := by
  refine Ci.of (by decide) (Nat.le_of_ble_eq_true rfl) ?_
  intro x hE C
  subst hE
  have C : CX RX5 cX5_withMember 3 (some .int) x := C
  refine p_locals [0, 1, 2] (lv' := [(0, .int p0), (1, .int p1), (2, .int p2)]) rfl ?_
  unfold m_X5_withMember at h
  refine p_iload_n C dX5_withMember_0 rfl 2 rfl ?_
  refine p_iconst (v := (1 : Int32)) C dX5_withMember_1 rfl (by decide) ?_
  refine p_icmp_ne C dX5_withMember_2 (tgt := 13) (by decide) rfl (fun c1 => ?_) (fun c1 => ?_)
  · have h := if_f c1 h
    refine p_iload_n C dX5_withMember_13 rfl 0 rfl ?_
    refine p_iconst (v := (1 : Int32)) C dX5_withMember_14 rfl (by decide) ?_
    refine p_iload_n C dX5_withMember_15 rfl 1 rfl ?_
    refine p_ishl C dX5_withMember_16 rfl ?_
    refine p_iconst (v := (-1 : Int32)) C dX5_withMember_17 rfl (by decide) ?_
    refine p_ixor C dX5_withMember_18 rfl ?_
    refine p_iand C dX5_withMember_19 rfl ?_
    cases h
    exact p_iret C dX5_withMember_20
  · have h := if_t c1 h
    refine p_iload_n C dX5_withMember_5 rfl 0 rfl ?_
    refine p_iconst (v := (1 : Int32)) C dX5_withMember_6 rfl (by decide) ?_
    refine p_iload_n C dX5_withMember_7 rfl 1 rfl ?_
    refine p_ishl C dX5_withMember_8 rfl ?_
    refine p_ior C dX5_withMember_9 rfl ?_
    refine p_goto C dX5_withMember_10 (pc' := 20) (by decide) ?_
    cases h
    exact p_iret C dX5_withMember_20
def m_X0_removeLastPoint (b_points : Int32) (b_loose : Int32)  : Option (Int32 × Int32) := bd1 (m_X5_withMember b_loose (b_points - ((1 : Int32))) ((0 : Int32))) (fun r1 => some (b_points - ((1 : Int32)), r1))
theorem ds_X0_removeLastPoint : (yX0_removeLastPoint).cls ≠ "java/lang/invoke/MethodHandle" ∧ (yX0_removeLastPoint).cls ≠ "java/lang/invoke/VarHandle" ∧ (parseMethodDescriptor (yX0_removeLastPoint).desc).map (fun d => d.parameters.length) = some 0 := by decide +kernel
set_option maxHeartbeats 4000000 in
set_option maxRecDepth 100000 in
theorem c_X0_removeLastPoint (E : En) {ab0 ab1 ab2 ab3 : Nat} {b_points : Int32} {b_near : Int32} {b_loose : Int32} {b_short : Int32} {b_nets : Ar} {b_xs : Ar} {b_ys : Ar}  {q_b_points : Int32} {q_b_loose : Int32} (h : m_X0_removeLastPoint b_points b_loose = some (q_b_points, q_b_loose)) : Cv E yX0_removeLastPoint (wU yX0_removeLastPoint cX0_removeLastPoint 1 none) (RM 1 22) [.ref ab0] (V_B E.2.2 ab0 ab1 ab2 ab3 b_points b_near b_loose b_short b_nets b_xs b_ys) (V_B E.2.2 ab0 ab1 ab2 ab3 q_b_points b_near q_b_loose b_short b_nets b_xs b_ys) := by
  refine Cv.of (by decide) (Nat.le_of_ble_eq_true rfl) ?_
  intro x hE C
  subst hE
  have C : CX RX0 cX0_removeLastPoint 1 none x := C
  refine p_locals [0] (lv' := [(0, .ref ab0)]) rfl ?_
  unfold m_X0_removeLastPoint at h
  refine p_aload_n C dX0_removeLastPoint_0 rfl 0 rfl ?_
  refine p_dup C dX0_removeLastPoint_1 rfl rfl ?_
  refine p_get C dX0_removeLastPoint_2 rfl 0 3 inlX0 fl_X0_21 rfl rfl (by decide) rfl rfl ?_
  refine p_iconst (v := (1 : Int32)) C dX0_removeLastPoint_5 rfl (by decide) ?_
  refine p_isub C dX0_removeLastPoint_6 rfl ?_
  refine p_put (Wd' := (V_B x.1.2.2 ab0 ab1 ab2 ab3 (b_points - ((1 : Int32))) b_near b_loose b_short b_nets b_xs b_ys)) (ty := .int) C dX0_removeLastPoint_7 rfl 0 3 inlX0 tyX0 tyX0_ok nmX0 fl_X0_21 rfl rfl (by decide) rfl rfl (by decide +kernel) rfl rfl (Nat.le_of_ble_eq_true rfl) rfl ?_
  refine p_aload_n C dX0_removeLastPoint_10 rfl 0 rfl ?_
  refine p_aload_n C dX0_removeLastPoint_11 rfl 0 rfl ?_
  refine p_get C dX0_removeLastPoint_12 rfl 0 5 inlX0 fl_X0_28 rfl rfl (by decide) rfl rfl ?_
  refine p_aload_n C dX0_removeLastPoint_15 rfl 0 rfl ?_
  refine p_get C dX0_removeLastPoint_16 rfl 0 3 inlX0 fl_X0_21 rfl rfl (by decide) rfl rfl ?_
  refine p_iconst (v := (0 : Int32)) C dX0_removeLastPoint_19 rfl (by decide) ?_
  obtain ⟨r1, hc2, h⟩ := bd1_of h
  refine p_callSNi (As := [.int b_loose, .int (b_points - ((1 : Int32))), .int ((0 : Int32))]) (st' := [.ref ab0]) (Wd' := (V_B x.1.2.2 ab0 ab1 ab2 ab3 (b_points - ((1 : Int32))) b_near b_loose b_short b_nets b_xs b_ys)) C (c_X5_withMember x.1 hc2) dX0_removeLastPoint_20 rfl nm_X0_34 ks_X5_withMember ds_X5_withMember ⟨rfl, rfl, by decide, by decide⟩ [] rfl rfl rfl rfl (Nat.le_of_ble_eq_true rfl) ⟨by decide, by decide⟩ rfl ?_
  refine p_put (Wd' := (V_B x.1.2.2 ab0 ab1 ab2 ab3 (b_points - ((1 : Int32))) b_near r1 b_short b_nets b_xs b_ys)) (ty := .int) C dX0_removeLastPoint_23 rfl 0 5 inlX0 tyX0 tyX0_ok nmX0 fl_X0_28 rfl rfl (by decide) rfl rfl (by decide +kernel) rfl rfl (Nat.le_of_ble_eq_true rfl) rfl ?_
  cases h
  exact p_vret C dX0_removeLastPoint_26
def m_X1_allTries (n_total : Int32)  : Option (Int32) := some ((((1 : Int32)) <<< (n_total &&& 31)) - ((1 : Int32)))
theorem ds_X1_allTries : (yX1_allTries).cls ≠ "java/lang/invoke/MethodHandle" ∧ (yX1_allTries).cls ≠ "java/lang/invoke/VarHandle" ∧ (parseMethodDescriptor (yX1_allTries).desc).map (fun d => d.parameters.length) = some 0 := by decide +kernel
set_option maxHeartbeats 4000000 in
set_option maxRecDepth 100000 in
theorem c_X1_allTries (E : En) {an0 an1 an2 anb0 anb1 ann0 ann1 : Nat} {n_total : Int32} {n_planned : Int32} {n_leaps : Ar} {n_onward : Ar} {nb_len : Int32} {nb_sum : Int32} {nb_tries : Ar} {nn_len : Int32} {nn_sum : Int32} {nn_tries : Ar}  {rr : Int32} (h : m_X1_allTries n_total = some rr) : Ci E yX1_allTries (wU yX1_allTries cX1_allTries 1 (some .int)) (RM 0 0) [.ref an0] (V_N E.2.2 an0 an1 an2 anb0 anb1 ann0 ann1 n_total n_planned n_leaps n_onward nb_len nb_sum nb_tries nn_len nn_sum nn_tries) (V_N E.2.2 an0 an1 an2 anb0 anb1 ann0 ann1 n_total n_planned n_leaps n_onward nb_len nb_sum nb_tries nn_len nn_sum nn_tries) rr := by
  refine Ci.of (by decide) (Nat.le_of_ble_eq_true rfl) ?_
  intro x hE C
  subst hE
  have C : CX RX1 cX1_allTries 1 (some .int) x := C
  refine p_locals [0] (lv' := [(0, .ref an0)]) rfl ?_
  unfold m_X1_allTries at h
  refine p_iconst (v := (1 : Int32)) C dX1_allTries_0 rfl (by decide) ?_
  refine p_aload_n C dX1_allTries_1 rfl 0 rfl ?_
  refine p_get C dX1_allTries_2 rfl 0 0 inlX1 fl_X1_9 rfl rfl (by decide) rfl rfl ?_
  refine p_ishl C dX1_allTries_5 rfl ?_
  refine p_iconst (v := (1 : Int32)) C dX1_allTries_6 rfl (by decide) ?_
  refine p_isub C dX1_allTries_7 rfl ?_
  cases h
  exact p_iret C dX1_allTries_8
def m_X1_leap (n_leaps : Ar) (p1 : Int32) (p2 : Int32) : Option (Int32) := grd (gI ((p1 * ((10 : Int32))) + p2) 110) (some (n_leaps ((p1 * ((10 : Int32))) + p2).toNatClampNeg))
theorem ds_X1_leap : (yX1_leap).cls ≠ "java/lang/invoke/MethodHandle" ∧ (yX1_leap).cls ≠ "java/lang/invoke/VarHandle" ∧ (parseMethodDescriptor (yX1_leap).desc).map (fun d => d.parameters.length) = some 2 := by decide +kernel
set_option maxHeartbeats 4000000 in
set_option maxRecDepth 100000 in
theorem c_X1_leap (E : En) {an0 an1 an2 anb0 anb1 ann0 ann1 : Nat} {n_total : Int32} {n_planned : Int32} {n_leaps : Ar} {n_onward : Ar} {nb_len : Int32} {nb_sum : Int32} {nb_tries : Ar} {nn_len : Int32} {nn_sum : Int32} {nn_tries : Ar} {p1 : Int32} {p2 : Int32} {rr : Int32} (h : m_X1_leap n_leaps p1 p2 = some rr) : Ci E yX1_leap (wU yX1_leap cX1_leap 3 (some .int)) (RM 0 0) [.ref an0, .int p1, .int p2] (V_N E.2.2 an0 an1 an2 anb0 anb1 ann0 ann1 n_total n_planned n_leaps n_onward nb_len nb_sum nb_tries nn_len nn_sum nn_tries) (V_N E.2.2 an0 an1 an2 anb0 anb1 ann0 ann1 n_total n_planned n_leaps n_onward nb_len nb_sum nb_tries nn_len nn_sum nn_tries) rr := by
  refine Ci.of (by decide) (Nat.le_of_ble_eq_true rfl) ?_
  intro x hE C
  subst hE
  have C : CX RX1 cX1_leap 3 (some .int) x := C
  refine p_locals [0, 1, 2] (lv' := [(0, .ref an0), (1, .int p1), (2, .int p2)]) rfl ?_
  unfold m_X1_leap at h
  refine p_aload_n C dX1_leap_0 rfl 0 rfl ?_
  refine p_get C dX1_leap_1 rfl 0 1 inlX1 fl_X1_15 rfl rfl (by decide) rfl rfl ?_
  refine p_iload_n C dX1_leap_4 rfl 1 rfl ?_
  refine p_bipush (v := (10 : Int32)) C dX1_leap_5 rfl (by decide) ?_
  refine p_imul C dX1_leap_7 rfl ?_
  refine p_iload_n C dX1_leap_8 rfl 2 rfl ?_
  refine p_iadd C dX1_leap_9 rfl ?_
  obtain ⟨g1, h⟩ := grd_of h
  refine p_iald C dX1_leap_10 rfl 1 rfl g1 ?_
  cases h
  exact p_iret C dX1_leap_11
def J_X1_leastThrough_67 (n_total : Int32) (n_leaps : Ar) (n_onward : Ar) (k6 : Int32 → Int32 → Option (Int32))  (v1 : Int32) (v2 : Int32) (v3 : Int32) (v4 : Int32) : Option (Int32) := k6 v3 (v4 + 1)
set_option maxHeartbeats 4000000 in
set_option maxRecDepth 100000 in
theorem tj_X1_leastThrough_67 {x : Cxt} {an0 an1 an2 anb0 anb1 ann0 ann1 : Nat} {n_total : Int32} {n_planned : Int32} {n_leaps : Ar} {n_onward : Ar} {nb_len : Int32} {nb_sum : Int32} {nb_tries : Ar} {nn_len : Int32} {nn_sum : Int32} {nn_tries : Ar} {k6 : Int32 → Int32 → Option (Int32)}  {v1 : Int32} {v2 : Int32} {v3 : Int32} {v4 : Int32} {rr : Int32} (C : CX RX1 cX1_leastThrough 7 (some .int) x) (hk6 : ∀ (w3 : Int32) (w4 : Int32) , k6 w3 w4 = some rr → PT (RM 0 0) 7 x 6 [(0, .ref an0), (1, .int v1), (2, .int v2), (3, .int w3), (4, .int w4)] [] (V_N x.1.2.2 an0 an1 an2 anb0 anb1 ann0 ann1 n_total n_planned n_leaps n_onward nb_len nb_sum nb_tries nn_len nn_sum nn_tries) 0 0 (QI x rr (V_N x.1.2.2 an0 an1 an2 anb0 anb1 ann0 ann1 n_total n_planned n_leaps n_onward nb_len nb_sum nb_tries nn_len nn_sum nn_tries))) (h : J_X1_leastThrough_67 n_total n_leaps n_onward k6 v1 v2 v3 v4 = some rr) : PT (RM 0 0) 7 x 67 [(0, .ref an0), (1, .int v1), (2, .int v2), (3, .int v3), (4, .int v4)] [] (V_N x.1.2.2 an0 an1 an2 anb0 anb1 ann0 ann1 n_total n_planned n_leaps n_onward nb_len nb_sum nb_tries nn_len nn_sum nn_tries) 0 0 (QI x rr (V_N x.1.2.2 an0 an1 an2 anb0 anb1 ann0 ann1 n_total n_planned n_leaps n_onward nb_len nb_sum nb_tries nn_len nn_sum nn_tries)) := by
  unfold J_X1_leastThrough_67 at h
  refine p_iinc (w := v4 + 1) (lv' := [(4, .int (v4 + 1)), (0, .ref an0), (1, .int v1), (2, .int v2), (3, .int v3)]) C dX1_leastThrough_67 rfl 4 rfl rfl (by decide) rfl ?_
  refine p_goto C dX1_leastThrough_70 (pc' := 6) (by decide) ?_
  refine p_locals [1, 2, 3, 4, 0] (lv' := [(0, .ref an0), (1, .int v1), (2, .int v2), (3, .int v3), (4, .int (v4 + 1))]) rfl ?_
  exact hk6 _ _ h
def B_X1_leastThrough_6 (n_total : Int32) (n_leaps : Ar) (n_onward : Ar)  (v1 : Int32) (v2 : Int32) (kk : Int32 → Int32 → Option (Int32)) (v3 : Int32) (v4 : Int32)  : Option (Int32) := if n_total ≤ v4 then (some v3) else (if (v2 &&& (((1 : Int32)) <<< (v4 &&& 31))) = 0 then (J_X1_leastThrough_67 n_total n_leaps n_onward (kk) v1 v2 v3 v4) else (grd (gI ((v1 * ((10 : Int32))) + v4) 110) (grd (gI (((v2 ^^^ (((1 : Int32)) <<< (v4 &&& 31))) * ((10 : Int32))) + v4) 10240) (bd1 (some ((n_leaps ((v1 * ((10 : Int32))) + v4).toNatClampNeg) + (n_onward (((v2 ^^^ (((1 : Int32)) <<< (v4 &&& 31))) * ((10 : Int32))) + v4).toNatClampNeg))) (fun x5 => if v3 ≤ x5 then (J_X1_leastThrough_67 n_total n_leaps n_onward (kk) v1 v2 v3 v4) else (J_X1_leastThrough_67 n_total n_leaps n_onward (kk) v1 v2 x5 v4))))))
def L_X1_leastThrough_6 (n_total : Int32) (n_leaps : Ar) (n_onward : Ar)  (v1 : Int32) (v2 : Int32) : Nat → Int32 → Int32 → Option (Int32) := lpG (fun _ _ => none) (B_X1_leastThrough_6 n_total n_leaps n_onward v1 v2)
set_option maxHeartbeats 4000000 in
set_option maxRecDepth 100000 in
theorem tl_X1_leastThrough_6 {x : Cxt} {an0 an1 an2 anb0 anb1 ann0 ann1 : Nat} {n_total : Int32} {n_planned : Int32} {n_leaps : Ar} {n_onward : Ar} {nb_len : Int32} {nb_sum : Int32} {nb_tries : Ar} {nn_len : Int32} {nn_sum : Int32} {nn_tries : Ar}  {v1 : Int32} {v2 : Int32} {rr : Int32} (C : CX RX1 cX1_leastThrough 7 (some .int) x)  : ∀ (n : Nat) (v3 : Int32) (v4 : Int32) , L_X1_leastThrough_6 n_total n_leaps n_onward v1 v2 n v3 v4 = some rr → PT (RM 0 0) 7 x 6 [(0, .ref an0), (1, .int v1), (2, .int v2), (3, .int v3), (4, .int v4)] [] (V_N x.1.2.2 an0 an1 an2 anb0 anb1 ann0 ann1 n_total n_planned n_leaps n_onward nb_len nb_sum nb_tries nn_len nn_sum nn_tries) 0 0 (QI x rr (V_N x.1.2.2 an0 an1 an2 anb0 anb1 ann0 ann1 n_total n_planned n_leaps n_onward nb_len nb_sum nb_tries nn_len nn_sum nn_tries)) := by
  intro n
  induction n with
  | zero =>
    intro v3 v4 h
    cases h
  | succ n ih =>
    intro v3 v4 h
    have h : B_X1_leastThrough_6 n_total n_leaps n_onward v1 v2 (L_X1_leastThrough_6 n_total n_leaps n_onward v1 v2 n) v3 v4 = some rr := h
    unfold B_X1_leastThrough_6 at h
    refine p_iload C dX1_leastThrough_6 rfl 4 rfl ?_
    refine p_aload_n C dX1_leastThrough_8 rfl 0 rfl ?_
    refine p_get C dX1_leastThrough_9 rfl 0 0 inlX1 fl_X1_9 rfl rfl (by decide) rfl rfl ?_
    refine p_icmp_ge C dX1_leastThrough_12 (tgt := 73) (by decide) rfl (fun c1 => ?_) (fun c1 => ?_)
    · have h := if_t c1 h
      refine p_iload_n C dX1_leastThrough_73 rfl 3 rfl ?_
      cases h
      exact p_iret C dX1_leastThrough_74
    · have h := if_f c1 h
      refine p_iconst (v := (1 : Int32)) C dX1_leastThrough_15 rfl (by decide) ?_
      refine p_iload C dX1_leastThrough_16 rfl 4 rfl ?_
      refine p_ishl C dX1_leastThrough_18 rfl ?_
      refine p_istore (lv' := [(5, .int (((1 : Int32)) <<< (v4 &&& 31))), (0, .ref an0), (1, .int v1), (2, .int v2), (3, .int v3), (4, .int v4)]) C dX1_leastThrough_19 rfl (by decide) rfl ?_
      refine p_iload_n C dX1_leastThrough_21 rfl 3 rfl ?_
      refine p_iload C dX1_leastThrough_22 rfl 0 rfl ?_
      refine p_iand C dX1_leastThrough_24 rfl ?_
      refine p_if_eq C dX1_leastThrough_25 (tgt := 67) (by decide) rfl (fun c2 => ?_) (fun c2 => ?_)
      · have h := if_t c2 h
        refine p_locals [1, 2, 3, 4, 5] (lv' := [(0, .ref an0), (1, .int v1), (2, .int v2), (3, .int v3), (4, .int v4)]) rfl ?_
        exact tj_X1_leastThrough_67 C (fun u0 u1 h => ih u0 u1 h) h
      · have h := if_f c2 h
        refine p_aload_n C dX1_leastThrough_28 rfl 1 rfl ?_
        refine p_get C dX1_leastThrough_29 rfl 0 1 inlX1 fl_X1_15 rfl rfl (by decide) rfl rfl ?_
        refine p_iload_n C dX1_leastThrough_32 rfl 2 rfl ?_
        refine p_bipush (v := (10 : Int32)) C dX1_leastThrough_33 rfl (by decide) ?_
        refine p_imul C dX1_leastThrough_35 rfl ?_
        refine p_iload C dX1_leastThrough_36 rfl 5 rfl ?_
        refine p_iadd C dX1_leastThrough_38 rfl ?_
        obtain ⟨g3, h⟩ := grd_of h
        refine p_iald C dX1_leastThrough_39 rfl 1 rfl g3 ?_
        refine p_aload_n C dX1_leastThrough_40 rfl 1 rfl ?_
        refine p_get C dX1_leastThrough_41 rfl 0 2 inlX1 fl_X1_19 rfl rfl (by decide) rfl rfl ?_
        refine p_iload_n C dX1_leastThrough_44 rfl 3 rfl ?_
        refine p_iload C dX1_leastThrough_45 rfl 0 rfl ?_
        refine p_ixor C dX1_leastThrough_47 rfl ?_
        refine p_bipush (v := (10 : Int32)) C dX1_leastThrough_48 rfl (by decide) ?_
        refine p_imul C dX1_leastThrough_50 rfl ?_
        refine p_iload C dX1_leastThrough_51 rfl 5 rfl ?_
        refine p_iadd C dX1_leastThrough_53 rfl ?_
        obtain ⟨g4, h⟩ := grd_of h
        refine p_iald C dX1_leastThrough_54 rfl 2 rfl g4 ?_
        refine p_iadd C dX1_leastThrough_55 rfl ?_
        obtain ⟨x5, hx6, h⟩ := bd1_of h
        have hx6 := Option.some.inj hx6
        rw [hx6]
        refine p_istore (lv' := [(6, .int x5), (5, .int (((1 : Int32)) <<< (v4 &&& 31))), (0, .ref an0), (1, .int v1), (2, .int v2), (3, .int v3), (4, .int v4)]) C dX1_leastThrough_56 rfl (by decide) rfl ?_
        refine p_iload C dX1_leastThrough_58 rfl 0 rfl ?_
        refine p_iload_n C dX1_leastThrough_60 rfl 5 rfl ?_
        refine p_icmp_ge C dX1_leastThrough_61 (tgt := 67) (by decide) rfl (fun c7 => ?_) (fun c7 => ?_)
        · have h := if_t c7 h
          refine p_locals [2, 3, 4, 5, 6] (lv' := [(0, .ref an0), (1, .int v1), (2, .int v2), (3, .int v3), (4, .int v4)]) rfl ?_
          exact tj_X1_leastThrough_67 C (fun u0 u1 h => ih u0 u1 h) h
        · have h := if_f c7 h
          refine p_iload C dX1_leastThrough_64 rfl 0 rfl ?_
          refine p_istore_n (lv' := [(3, .int x5), (6, .int x5), (5, .int (((1 : Int32)) <<< (v4 &&& 31))), (0, .ref an0), (1, .int v1), (2, .int v2), (4, .int v4)]) C dX1_leastThrough_66 rfl (by decide) rfl ?_
          refine p_locals [3, 4, 5, 0, 6] (lv' := [(0, .ref an0), (1, .int v1), (2, .int v2), (3, .int x5), (4, .int v4)]) rfl ?_
          exact tj_X1_leastThrough_67 C (fun u0 u1 h => ih u0 u1 h) h
def m_X1_leastThrough (n_total : Int32) (n_leaps : Ar) (n_onward : Ar) (p1 : Int32) (p2 : Int32) : Option (Int32) := L_X1_leastThrough_6 n_total n_leaps n_onward p1 p2 FU ((2147483647 : Int32)) ((0 : Int32))
theorem ds_X1_leastThrough : (yX1_leastThrough).cls ≠ "java/lang/invoke/MethodHandle" ∧ (yX1_leastThrough).cls ≠ "java/lang/invoke/VarHandle" ∧ (parseMethodDescriptor (yX1_leastThrough).desc).map (fun d => d.parameters.length) = some 2 := by decide +kernel
set_option maxHeartbeats 4000000 in
set_option maxRecDepth 100000 in
theorem c_X1_leastThrough (E : En) {an0 an1 an2 anb0 anb1 ann0 ann1 : Nat} {n_total : Int32} {n_planned : Int32} {n_leaps : Ar} {n_onward : Ar} {nb_len : Int32} {nb_sum : Int32} {nb_tries : Ar} {nn_len : Int32} {nn_sum : Int32} {nn_tries : Ar} {p1 : Int32} {p2 : Int32} {rr : Int32} (h : m_X1_leastThrough n_total n_leaps n_onward p1 p2 = some rr) : Ci E yX1_leastThrough (wU yX1_leastThrough cX1_leastThrough 7 (some .int)) (RM 0 0) [.ref an0, .int p1, .int p2] (V_N E.2.2 an0 an1 an2 anb0 anb1 ann0 ann1 n_total n_planned n_leaps n_onward nb_len nb_sum nb_tries nn_len nn_sum nn_tries) (V_N E.2.2 an0 an1 an2 anb0 anb1 ann0 ann1 n_total n_planned n_leaps n_onward nb_len nb_sum nb_tries nn_len nn_sum nn_tries) rr := by
  refine Ci.of (by decide) (Nat.le_of_ble_eq_true rfl) ?_
  intro x hE C
  subst hE
  have C : CX RX1 cX1_leastThrough 7 (some .int) x := C
  refine p_locals [0, 1, 2] (lv' := [(0, .ref an0), (1, .int p1), (2, .int p2)]) rfl ?_
  unfold m_X1_leastThrough at h
  refine p_ldc C dX1_leastThrough_0 rfl cst_X1_99 ?_
  refine p_istore_n (lv' := [(3, .int ((2147483647 : Int32))), (0, .ref an0), (1, .int p1), (2, .int p2)]) C dX1_leastThrough_2 rfl (by decide) rfl ?_
  refine p_iconst (v := (0 : Int32)) C dX1_leastThrough_3 rfl (by decide) ?_
  refine p_istore (lv' := [(4, .int ((0 : Int32))), (3, .int ((2147483647 : Int32))), (0, .ref an0), (1, .int p1), (2, .int p2)]) C dX1_leastThrough_4 rfl (by decide) rfl ?_
  refine p_locals [2, 3, 4, 1, 0] (lv' := [(0, .ref an0), (1, .int p1), (2, .int p2), (3, .int ((2147483647 : Int32))), (4, .int ((0 : Int32)))]) rfl ?_
  exact tl_X1_leastThrough_6 C  FU _ _ h
def J_X1_firstOfBest_68 (n_total : Int32) (n_leaps : Ar) (n_onward : Ar) (k18 : Int32 → Int32 → Option (Int32))  (v1 : Int32) (v2 : Int32) (v3 : Int32) (v4 : Int32) (v5 : Int32) : Option (Int32) := k18 v4 (v5 + (-1))
set_option maxHeartbeats 4000000 in
set_option maxRecDepth 100000 in
theorem tj_X1_firstOfBest_68 {x : Cxt} {an0 an1 an2 anb0 anb1 ann0 ann1 : Nat} {n_total : Int32} {n_planned : Int32} {n_leaps : Ar} {n_onward : Ar} {nb_len : Int32} {nb_sum : Int32} {nb_tries : Ar} {nn_len : Int32} {nn_sum : Int32} {nn_tries : Ar} {k18 : Int32 → Int32 → Option (Int32)}  {v1 : Int32} {v2 : Int32} {v3 : Int32} {v4 : Int32} {v5 : Int32} {rr : Int32} (C : CX RX1 cX1_firstOfBest 7 (some .int) x) (hk18 : ∀ (w4 : Int32) (w5 : Int32) , k18 w4 w5 = some rr → PT (RM 1 26) 7 x 18 [(0, .ref an0), (1, .int v1), (2, .int v2), (3, .int v3), (4, .int w4), (5, .int w5)] [] (V_N x.1.2.2 an0 an1 an2 anb0 anb1 ann0 ann1 n_total n_planned n_leaps n_onward nb_len nb_sum nb_tries nn_len nn_sum nn_tries) 0 0 (QI x rr (V_N x.1.2.2 an0 an1 an2 anb0 anb1 ann0 ann1 n_total n_planned n_leaps n_onward nb_len nb_sum nb_tries nn_len nn_sum nn_tries))) (h : J_X1_firstOfBest_68 n_total n_leaps n_onward k18 v1 v2 v3 v4 v5 = some rr) : PT (RM 1 26) 7 x 68 [(0, .ref an0), (1, .int v1), (2, .int v2), (3, .int v3), (4, .int v4), (5, .int v5)] [] (V_N x.1.2.2 an0 an1 an2 anb0 anb1 ann0 ann1 n_total n_planned n_leaps n_onward nb_len nb_sum nb_tries nn_len nn_sum nn_tries) 0 0 (QI x rr (V_N x.1.2.2 an0 an1 an2 anb0 anb1 ann0 ann1 n_total n_planned n_leaps n_onward nb_len nb_sum nb_tries nn_len nn_sum nn_tries)) := by
  unfold J_X1_firstOfBest_68 at h
  refine p_iinc (w := v5 + (-1)) (lv' := [(5, .int (v5 + (-1))), (0, .ref an0), (1, .int v1), (2, .int v2), (3, .int v3), (4, .int v4)]) C dX1_firstOfBest_68 rfl 5 rfl rfl (by decide) rfl ?_
  refine p_goto C dX1_firstOfBest_71 (pc' := 18) (by decide) ?_
  refine p_locals [1, 2, 3, 4, 5, 0] (lv' := [(0, .ref an0), (1, .int v1), (2, .int v2), (3, .int v3), (4, .int v4), (5, .int (v5 + (-1)))]) rfl ?_
  exact hk18 _ _ h
def B_X1_firstOfBest_18 (n_total : Int32) (n_leaps : Ar) (n_onward : Ar)  (v1 : Int32) (v2 : Int32) (v3 : Int32) (kk : Int32 → Int32 → Option (Int32)) (v4 : Int32) (v5 : Int32)  : Option (Int32) := if v5 < 0 then (some v4) else (if (v2 &&& ((((1 : Int32)) <<< (v5 &&& 31)) ^^^ ((-1 : Int32)))) = v2 then (J_X1_firstOfBest_68 n_total n_leaps n_onward (kk) v1 v2 v3 v4 v5) else (bd1 (m_X1_leap n_leaps v1 v5) (fun r3 => grd (gI (((v2 &&& ((((1 : Int32)) <<< (v5 &&& 31)) ^^^ ((-1 : Int32)))) * ((10 : Int32))) + v5) 10240) (if (r3 + (n_onward (((v2 &&& ((((1 : Int32)) <<< (v5 &&& 31)) ^^^ ((-1 : Int32)))) * ((10 : Int32))) + v5).toNatClampNeg)) = v3 then (J_X1_firstOfBest_68 n_total n_leaps n_onward (kk) v1 v2 v3 v5 v5) else (J_X1_firstOfBest_68 n_total n_leaps n_onward (kk) v1 v2 v3 v4 v5)))))
def L_X1_firstOfBest_18 (n_total : Int32) (n_leaps : Ar) (n_onward : Ar)  (v1 : Int32) (v2 : Int32) (v3 : Int32) : Nat → Int32 → Int32 → Option (Int32) := lpG (fun _ _ => none) (B_X1_firstOfBest_18 n_total n_leaps n_onward v1 v2 v3)
set_option maxHeartbeats 4000000 in
set_option maxRecDepth 100000 in
theorem tl_X1_firstOfBest_18 {x : Cxt} {an0 an1 an2 anb0 anb1 ann0 ann1 : Nat} {n_total : Int32} {n_planned : Int32} {n_leaps : Ar} {n_onward : Ar} {nb_len : Int32} {nb_sum : Int32} {nb_tries : Ar} {nn_len : Int32} {nn_sum : Int32} {nn_tries : Ar}  {v1 : Int32} {v2 : Int32} {v3 : Int32} {rr : Int32} (C : CX RX1 cX1_firstOfBest 7 (some .int) x)  : ∀ (n : Nat) (v4 : Int32) (v5 : Int32) , L_X1_firstOfBest_18 n_total n_leaps n_onward v1 v2 v3 n v4 v5 = some rr → PT (RM 1 26) 7 x 18 [(0, .ref an0), (1, .int v1), (2, .int v2), (3, .int v3), (4, .int v4), (5, .int v5)] [] (V_N x.1.2.2 an0 an1 an2 anb0 anb1 ann0 ann1 n_total n_planned n_leaps n_onward nb_len nb_sum nb_tries nn_len nn_sum nn_tries) 0 0 (QI x rr (V_N x.1.2.2 an0 an1 an2 anb0 anb1 ann0 ann1 n_total n_planned n_leaps n_onward nb_len nb_sum nb_tries nn_len nn_sum nn_tries)) := by
  intro n
  induction n with
  | zero =>
    intro v4 v5 h
    cases h
  | succ n ih =>
    intro v4 v5 h
    have h : B_X1_firstOfBest_18 n_total n_leaps n_onward v1 v2 v3 (L_X1_firstOfBest_18 n_total n_leaps n_onward v1 v2 v3 n) v4 v5 = some rr := h
    unfold B_X1_firstOfBest_18 at h
    refine p_iload C dX1_firstOfBest_18 rfl 5 rfl ?_
    refine p_if_lt C dX1_firstOfBest_20 (tgt := 74) (by decide) rfl (fun c1 => ?_) (fun c1 => ?_)
    · have h := if_t c1 h
      refine p_iload C dX1_firstOfBest_74 rfl 4 rfl ?_
      cases h
      exact p_iret C dX1_firstOfBest_76
    · have h := if_f c1 h
      refine p_iload_n C dX1_firstOfBest_23 rfl 2 rfl ?_
      refine p_iconst (v := (1 : Int32)) C dX1_firstOfBest_24 rfl (by decide) ?_
      refine p_iload C dX1_firstOfBest_25 rfl 5 rfl ?_
      refine p_ishl C dX1_firstOfBest_27 rfl ?_
      refine p_iconst (v := (-1 : Int32)) C dX1_firstOfBest_28 rfl (by decide) ?_
      refine p_ixor C dX1_firstOfBest_29 rfl ?_
      refine p_iand C dX1_firstOfBest_30 rfl ?_
      refine p_istore (lv' := [(6, .int (v2 &&& ((((1 : Int32)) <<< (v5 &&& 31)) ^^^ ((-1 : Int32))))), (0, .ref an0), (1, .int v1), (2, .int v2), (3, .int v3), (4, .int v4), (5, .int v5)]) C dX1_firstOfBest_31 rfl (by decide) rfl ?_
      refine p_iload C dX1_firstOfBest_33 rfl 0 rfl ?_
      refine p_iload_n C dX1_firstOfBest_35 rfl 3 rfl ?_
      refine p_icmp_eq C dX1_firstOfBest_36 (tgt := 68) (by decide) rfl (fun c2 => ?_) (fun c2 => ?_)
      · have h := if_t c2 h
        refine p_locals [1, 2, 3, 4, 5, 6] (lv' := [(0, .ref an0), (1, .int v1), (2, .int v2), (3, .int v3), (4, .int v4), (5, .int v5)]) rfl ?_
        exact tj_X1_firstOfBest_68 C (fun u0 u1 h => ih u0 u1 h) h
      · have h := if_f c2 h
        refine p_aload_n C dX1_firstOfBest_39 rfl 1 rfl ?_
        refine p_iload_n C dX1_firstOfBest_40 rfl 2 rfl ?_
        refine p_iload C dX1_firstOfBest_41 rfl 6 rfl ?_
        obtain ⟨r3, hc4, h⟩ := bd1_of h
        refine p_callVi (As := [.int v1, .int v5]) (st' := []) (Wd' := (V_N x.1.2.2 an0 an1 an2 anb0 anb1 ann0 ann1 n_total n_planned n_leaps n_onward nb_len nb_sum nb_tries nn_len nn_sum nn_tries)) C (c_X1_leap x.1 (an0 := an0) (an1 := an1) (an2 := an2) (anb0 := anb0) (anb1 := anb1) (ann0 := ann0) (ann1 := ann1) (n_total := n_total) (n_planned := n_planned) (n_onward := n_onward) (nb_len := nb_len) (nb_sum := nb_sum) (nb_tries := nb_tries) (nn_len := nn_len) (nn_sum := nn_sum) (nn_tries := nn_tries) hc4) dX1_firstOfBest_43 rfl ml_X1_90 kv_X1_leap ds_X1_leap ⟨rfl, rfl, by decide, by decide⟩ 0 rfl rfl [0, 1, 2, 3, 4, 5, 6] rfl rfl rfl rfl (by decide) ⟨by decide, by decide⟩ rfl ?_
        refine p_aload_n C dX1_firstOfBest_46 rfl 1 rfl ?_
        refine p_get C dX1_firstOfBest_47 rfl 0 2 inlX1 fl_X1_19 rfl rfl (by decide) rfl rfl ?_
        refine p_iload C dX1_firstOfBest_50 rfl 0 rfl ?_
        refine p_bipush (v := (10 : Int32)) C dX1_firstOfBest_52 rfl (by decide) ?_
        refine p_imul C dX1_firstOfBest_54 rfl ?_
        refine p_iload C dX1_firstOfBest_55 rfl 6 rfl ?_
        refine p_iadd C dX1_firstOfBest_57 rfl ?_
        obtain ⟨g5, h⟩ := grd_of h
        refine p_iald C dX1_firstOfBest_58 rfl 2 rfl g5 ?_
        refine p_iadd C dX1_firstOfBest_59 rfl ?_
        refine p_iload_n C dX1_firstOfBest_60 rfl 4 rfl ?_
        refine p_icmp_ne C dX1_firstOfBest_61 (tgt := 68) (by decide) rfl (fun c6 => ?_) (fun c6 => ?_)
        · have h := if_f c6 h
          refine p_locals [1, 2, 3, 4, 5, 6] (lv' := [(0, .ref an0), (1, .int v1), (2, .int v2), (3, .int v3), (4, .int v4), (5, .int v5)]) rfl ?_
          exact tj_X1_firstOfBest_68 C (fun u0 u1 h => ih u0 u1 h) h
        · have h := if_t c6 h
          refine p_iload C dX1_firstOfBest_64 rfl 6 rfl ?_
          refine p_istore (lv' := [(4, .int v5), (6, .int (v2 &&& ((((1 : Int32)) <<< (v5 &&& 31)) ^^^ ((-1 : Int32))))), (0, .ref an0), (1, .int v1), (2, .int v2), (3, .int v3), (5, .int v5)]) C dX1_firstOfBest_66 rfl (by decide) rfl ?_
          refine p_locals [2, 3, 4, 5, 0, 6] (lv' := [(0, .ref an0), (1, .int v1), (2, .int v2), (3, .int v3), (4, .int v5), (5, .int v5)]) rfl ?_
          exact tj_X1_firstOfBest_68 C (fun u0 u1 h => ih u0 u1 h) h
def m_X1_firstOfBest (n_total : Int32) (n_leaps : Ar) (n_onward : Ar) (p1 : Int32) (p2 : Int32) : Option (Int32) := bd1 (m_X1_leastThrough n_total n_leaps n_onward p1 p2) (fun r1 => L_X1_firstOfBest_18 n_total n_leaps n_onward p1 p2 r1 FU ((0 : Int32)) (n_total - ((1 : Int32))))
theorem ds_X1_firstOfBest : (yX1_firstOfBest).cls ≠ "java/lang/invoke/MethodHandle" ∧ (yX1_firstOfBest).cls ≠ "java/lang/invoke/VarHandle" ∧ (parseMethodDescriptor (yX1_firstOfBest).desc).map (fun d => d.parameters.length) = some 2 := by decide +kernel
set_option maxHeartbeats 4000000 in
set_option maxRecDepth 100000 in
theorem c_X1_firstOfBest (E : En) {an0 an1 an2 anb0 anb1 ann0 ann1 : Nat} {n_total : Int32} {n_planned : Int32} {n_leaps : Ar} {n_onward : Ar} {nb_len : Int32} {nb_sum : Int32} {nb_tries : Ar} {nn_len : Int32} {nn_sum : Int32} {nn_tries : Ar} {p1 : Int32} {p2 : Int32} {rr : Int32} (h : m_X1_firstOfBest n_total n_leaps n_onward p1 p2 = some rr) : Ci E yX1_firstOfBest (wU yX1_firstOfBest cX1_firstOfBest 7 (some .int)) (RM 1 26) [.ref an0, .int p1, .int p2] (V_N E.2.2 an0 an1 an2 anb0 anb1 ann0 ann1 n_total n_planned n_leaps n_onward nb_len nb_sum nb_tries nn_len nn_sum nn_tries) (V_N E.2.2 an0 an1 an2 anb0 anb1 ann0 ann1 n_total n_planned n_leaps n_onward nb_len nb_sum nb_tries nn_len nn_sum nn_tries) rr := by
  refine Ci.of (by decide) (Nat.le_of_ble_eq_true rfl) ?_
  intro x hE C
  subst hE
  have C : CX RX1 cX1_firstOfBest 7 (some .int) x := C
  refine p_locals [0, 1, 2] (lv' := [(0, .ref an0), (1, .int p1), (2, .int p2)]) rfl ?_
  unfold m_X1_firstOfBest at h
  refine p_aload_n C dX1_firstOfBest_0 rfl 0 rfl ?_
  refine p_iload_n C dX1_firstOfBest_1 rfl 1 rfl ?_
  refine p_iload_n C dX1_firstOfBest_2 rfl 2 rfl ?_
  obtain ⟨r1, hc2, h⟩ := bd1_of h
  refine p_callVi (As := [.int p1, .int p2]) (st' := []) (Wd' := (V_N x.1.2.2 an0 an1 an2 anb0 anb1 ann0 ann1 n_total n_planned n_leaps n_onward nb_len nb_sum nb_tries nn_len nn_sum nn_tries)) C (c_X1_leastThrough x.1 (an0 := an0) (an1 := an1) (an2 := an2) (anb0 := anb0) (anb1 := anb1) (ann0 := ann0) (ann1 := ann1) (n_planned := n_planned) (nb_len := nb_len) (nb_sum := nb_sum) (nb_tries := nb_tries) (nn_len := nn_len) (nn_sum := nn_sum) (nn_tries := nn_tries) hc2) dX1_firstOfBest_3 rfl ml_X1_104 kv_X1_leastThrough ds_X1_leastThrough ⟨rfl, rfl, by decide, by decide⟩ 0 rfl rfl [0, 1, 2, 3, 4, 5, 6] rfl rfl rfl rfl (by decide) ⟨by decide, by decide⟩ rfl ?_
  refine p_istore_n (lv' := [(3, .int r1), (0, .ref an0), (1, .int p1), (2, .int p2)]) C dX1_firstOfBest_6 rfl (by decide) rfl ?_
  refine p_iconst (v := (0 : Int32)) C dX1_firstOfBest_7 rfl (by decide) ?_
  refine p_istore (lv' := [(4, .int ((0 : Int32))), (3, .int r1), (0, .ref an0), (1, .int p1), (2, .int p2)]) C dX1_firstOfBest_8 rfl (by decide) rfl ?_
  refine p_aload_n C dX1_firstOfBest_10 rfl 2 rfl ?_
  refine p_get C dX1_firstOfBest_11 rfl 0 0 inlX1 fl_X1_9 rfl rfl (by decide) rfl rfl ?_
  refine p_iconst (v := (1 : Int32)) C dX1_firstOfBest_14 rfl (by decide) ?_
  refine p_isub C dX1_firstOfBest_15 rfl ?_
  refine p_istore (lv' := [(5, .int (n_total - ((1 : Int32)))), (4, .int ((0 : Int32))), (3, .int r1), (0, .ref an0), (1, .int p1), (2, .int p2)]) C dX1_firstOfBest_16 rfl (by decide) rfl ?_
  refine p_locals [3, 4, 5, 2, 1, 0] (lv' := [(0, .ref an0), (1, .int p1), (2, .int p2), (3, .int r1), (4, .int ((0 : Int32))), (5, .int (n_total - ((1 : Int32))))]) rfl ?_
  exact tl_X1_firstOfBest_18 C  FU _ _ h
def m_X1_longer  (p0 : Int32) (p1 : Int32) : Option (Int32) := some (if (if 0 ≤ p0 then p0 else 0 - p0) < (if 0 ≤ p1 then p1 else 0 - p1) then (if 0 ≤ p1 then p1 else 0 - p1) else (if 0 ≤ p0 then p0 else 0 - p0))
theorem ds_X1_longer : (yX1_longer).cls ≠ "java/lang/invoke/MethodHandle" ∧ (yX1_longer).cls ≠ "java/lang/invoke/VarHandle" ∧ (parseMethodDescriptor (yX1_longer).desc).map (fun d => d.parameters.length) = some 2 := by decide +kernel
set_option maxHeartbeats 4000000 in
set_option maxRecDepth 100000 in
theorem c_X1_longer (E : En)  {p0 : Int32} {p1 : Int32} {rr : Int32} (h : m_X1_longer p0 p1 = some rr) : Ci E yX1_longer (wU yX1_longer cX1_longer 2 (some .int)) (RM 1 21) [.int p0, .int p1] ([] : va_W) ([] : va_W) rr := by
  refine Ci.of (by decide) (Nat.le_of_ble_eq_true rfl) ?_
  intro x hE C
  subst hE
  have C : CX RX1 cX1_longer 2 (some .int) x := C
  refine p_locals [0, 1] (lv' := [(0, .int p0), (1, .int p1)]) rfl ?_
  unfold m_X1_longer at h
  refine p_iload_n C dX1_longer_0 rfl 0 rfl ?_
  refine p_mabs C dX1_longer_1 rfl ml_X1_66 ks_Math_abs ⟨by decide, by decide⟩ ⟨by decide, by decide⟩ ?_
  refine p_iload_n C dX1_longer_4 rfl 1 rfl ?_
  refine p_mabs C dX1_longer_5 rfl ml_X1_66 ks_Math_abs ⟨by decide, by decide⟩ ⟨by decide, by decide⟩ ?_
  refine p_mmax C dX1_longer_8 rfl ml_X1_57 ks_Math_max ⟨by decide, by decide⟩ ⟨by decide, by decide⟩ ?_
  cases h
  exact p_iret C dX1_longer_11
def m_X1_way (b_xs : Ar) (b_ys : Ar) (p1 : Int32) (p2 : Int32) : Option (Int32) := grd (gI p2 8) (grd (gI p1 8) (grd (gI p2 8) (grd (gI p1 8) (bd1 (m_X1_longer ((b_xs p2.toNatClampNeg) - (b_xs p1.toNatClampNeg)) ((b_ys p2.toNatClampNeg) - (b_ys p1.toNatClampNeg))) (fun r5 => some r5)))))
theorem ds_X1_way : (yX1_way).cls ≠ "java/lang/invoke/MethodHandle" ∧ (yX1_way).cls ≠ "java/lang/invoke/VarHandle" ∧ (parseMethodDescriptor (yX1_way).desc).map (fun d => d.parameters.length) = some 3 := by decide +kernel
set_option maxHeartbeats 4000000 in
set_option maxRecDepth 100000 in
theorem c_X1_way (E : En) {ab0 ab1 ab2 ab3 : Nat} {b_points : Int32} {b_near : Int32} {b_loose : Int32} {b_short : Int32} {b_nets : Ar} {b_xs : Ar} {b_ys : Ar} {p1 : Int32} {p2 : Int32} {rr : Int32} (h : m_X1_way b_xs b_ys p1 p2 = some rr) : Ci E yX1_way (wU yX1_way cX1_way 3 (some .int)) (RM 2 42) [.ref ab0, .int p1, .int p2] (V_B E.2.2 ab0 ab1 ab2 ab3 b_points b_near b_loose b_short b_nets b_xs b_ys) (V_B E.2.2 ab0 ab1 ab2 ab3 b_points b_near b_loose b_short b_nets b_xs b_ys) rr := by
  refine Ci.of (by decide) (Nat.le_of_ble_eq_true rfl) ?_
  intro x hE C
  subst hE
  have C : CX RX1 cX1_way 3 (some .int) x := C
  refine p_locals [0, 1, 2] (lv' := [(0, .ref ab0), (1, .int p1), (2, .int p2)]) rfl ?_
  unfold m_X1_way at h
  refine p_aload_n C dX1_way_0 rfl 0 rfl ?_
  refine p_getN C dX1_way_1 rfl 0 1 inlX0 nf_X1_45 rfl rfl (by decide) rfl rfl ?_
  refine p_iload_n C dX1_way_4 rfl 2 rfl ?_
  obtain ⟨g1, h⟩ := grd_of h
  refine p_iald C dX1_way_5 rfl 2 rfl g1 ?_
  refine p_aload_n C dX1_way_6 rfl 0 rfl ?_
  refine p_getN C dX1_way_7 rfl 0 1 inlX0 nf_X1_45 rfl rfl (by decide) rfl rfl ?_
  refine p_iload_n C dX1_way_10 rfl 1 rfl ?_
  obtain ⟨g2, h⟩ := grd_of h
  refine p_iald C dX1_way_11 rfl 2 rfl g2 ?_
  refine p_isub C dX1_way_12 rfl ?_
  refine p_aload_n C dX1_way_13 rfl 0 rfl ?_
  refine p_getN C dX1_way_14 rfl 0 2 inlX0 nf_X1_50 rfl rfl (by decide) rfl rfl ?_
  refine p_iload_n C dX1_way_17 rfl 2 rfl ?_
  obtain ⟨g3, h⟩ := grd_of h
  refine p_iald C dX1_way_18 rfl 3 rfl g3 ?_
  refine p_aload_n C dX1_way_19 rfl 0 rfl ?_
  refine p_getN C dX1_way_20 rfl 0 2 inlX0 nf_X1_50 rfl rfl (by decide) rfl rfl ?_
  refine p_iload_n C dX1_way_23 rfl 1 rfl ?_
  obtain ⟨g4, h⟩ := grd_of h
  refine p_iald C dX1_way_24 rfl 3 rfl g4 ?_
  refine p_isub C dX1_way_25 rfl ?_
  obtain ⟨r5, hc6, h⟩ := bd1_of h
  refine p_callSi (As := [.int ((b_xs p2.toNatClampNeg) - (b_xs p1.toNatClampNeg)), .int ((b_ys p2.toNatClampNeg) - (b_ys p1.toNatClampNeg))]) (st' := []) (Wd' := (V_B x.1.2.2 ab0 ab1 ab2 ab3 b_points b_near b_loose b_short b_nets b_xs b_ys)) C (c_X1_longer x.1 hc6) dX1_way_26 rfl ml_X1_53 ks_X1_longer ds_X1_longer ⟨rfl, rfl, by decide, by decide⟩ [] rfl rfl rfl rfl (by decide) ⟨by decide, by decide⟩ rfl ?_
  cases h
  exact p_iret C dX1_way_29
end
