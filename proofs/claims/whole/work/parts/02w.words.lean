/-- the words that every contract takes: those of the tables that hold at every state -/
def wG : List Cond := lw_tbl.filter goodWord
theorem wG_mk {w : Cond} (i : Nat) (h : lw_tbl[i]? = some w) (g : goodWord w = true) : w ∈ wG := List.mem_filter.mpr ⟨List.mem_of_getElem? h, g⟩
theorem wG_good : GoodIn wG wG := fun _ h => ⟨h, good_of_word (List.mem_filter.mp h).2⟩
set_option maxRecDepth 100000 in
theorem sel_X0_addPoint : Cond.selects RX0 yX0_addPoint yX0_addPoint ∈ wG := wG_mk 0 rfl rfl
set_option maxRecDepth 100000 in
theorem sel_X5_layTriesAnew : Cond.selects RX5 yX5_layTriesAnew yX5_layTriesAnew ∈ wG := wG_mk 1 rfl rfl
set_option maxRecDepth 100000 in
theorem sel_X4_layOut : Cond.selects RX4 yX4_layOut yX4_layOut ∈ wG := wG_mk 2 rfl rfl
set_option maxRecDepth 100000 in
theorem sel_X4_growTrees : Cond.selects RX4 yX4_growTrees yX4_growTrees ∈ wG := wG_mk 3 rfl rfl
set_option maxRecDepth 100000 in
theorem sel_X4_joinNextPair : Cond.selects RX4 yX4_joinNextPair yX4_joinNextPair ∈ wG := wG_mk 4 rfl rfl
set_option maxRecDepth 100000 in
theorem sel_X0_distance : Cond.selects RX0 yX0_distance yX0_distance ∈ wG := wG_mk 5 rfl rfl
set_option maxRecDepth 100000 in
theorem sel_X4_mergeGroups : Cond.selects RX4 yX4_mergeGroups yX4_mergeGroups ∈ wG := wG_mk 6 rfl rfl
set_option maxRecDepth 100000 in
theorem sel_X4_addTrees : Cond.selects RX4 yX4_addTrees yX4_addTrees ∈ wG := wG_mk 7 rfl rfl
set_option maxRecDepth 100000 in
theorem sel_X4_addTry : Cond.selects RX4 yX4_addTry yX4_addTry ∈ wG := wG_mk 8 rfl rfl
set_option maxRecDepth 100000 in
theorem sel_X0_isLeftOf : Cond.selects RX0 yX0_isLeftOf yX0_isLeftOf ∈ wG := wG_mk 9 rfl rfl
set_option maxRecDepth 100000 in
theorem sel_X4_addNeighbours : Cond.selects RX4 yX4_addNeighbours yX4_addNeighbours ∈ wG := wG_mk 10 rfl rfl
set_option maxRecDepth 100000 in
theorem sel_X4_addNearestPair : Cond.selects RX4 yX4_addNearestPair yX4_addNearestPair ∈ wG := wG_mk 11 rfl rfl
set_option maxRecDepth 100000 in
theorem sel_X1_measure : Cond.selects RX1 yX1_measure yX1_measure ∈ wG := wG_mk 12 rfl rfl
set_option maxRecDepth 100000 in
theorem sel_X0_removeLastPoint : Cond.selects RX0 yX0_removeLastPoint yX0_removeLastPoint ∈ wG := wG_mk 13 rfl rfl
set_option maxRecDepth 100000 in
theorem sel_X0_hasPoint : Cond.selects RX0 yX0_hasPoint yX0_hasPoint ∈ wG := wG_mk 14 rfl rfl
set_option maxRecDepth 100000 in
theorem sel_X4_hasTry : Cond.selects RX4 yX4_hasTry yX4_hasTry ∈ wG := wG_mk 15 rfl rfl
set_option maxRecDepth 100000 in
theorem sel_X4_isOfNeighbours : Cond.selects RX4 yX4_isOfNeighbours yX4_isOfNeighbours ∈ wG := wG_mk 16 rfl rfl
set_option maxRecDepth 100000 in
theorem sel_X4_conducts : Cond.selects RX4 yX4_conducts yX4_conducts ∈ wG := wG_mk 17 rfl rfl
set_option maxRecDepth 100000 in
theorem sel_X5_seenNow : Cond.selects RX5 yX5_seenNow yX5_seenNow ∈ wG := wG_mk 18 rfl rfl
set_option maxRecDepth 100000 in
theorem sel_X4_seenSet : Cond.selects RX4 yX4_seenSet yX4_seenSet ∈ wG := wG_mk 19 rfl rfl
set_option maxRecDepth 100000 in
theorem sel_X1_leap : Cond.selects RX1 yX1_leap yX1_leap ∈ wG := wG_mk 20 rfl rfl
set_option maxRecDepth 100000 in
theorem sel_X3_write : Cond.selects RX3 yX3_write yX3_write ∈ wG := wG_mk 21 rfl rfl
set_option maxRecDepth 100000 in
theorem sel_X3_tellsOrderOf : Cond.selects RX3 yX3_tellsOrderOf yX3_tellsOrderOf ∈ wG := wG_mk 22 rfl rfl
set_option maxRecDepth 100000 in
theorem sel_X3_tryAt : Cond.selects RX3 yX3_tryAt yX3_tryAt ∈ wG := wG_mk 23 rfl rfl
set_option maxRecDepth 100000 in
theorem sel_X1_planBest : Cond.selects RX1 yX1_planBest yX1_planBest ∈ wG := wG_mk 24 rfl rfl
set_option maxRecDepth 100000 in
theorem sel_X1_weighOnward : Cond.selects RX1 yX1_weighOnward yX1_weighOnward ∈ wG := wG_mk 25 rfl rfl
set_option maxRecDepth 100000 in
theorem sel_X1_allTries : Cond.selects RX1 yX1_allTries yX1_allTries ∈ wG := wG_mk 26 rfl rfl
set_option maxRecDepth 100000 in
theorem sel_X1_leastThrough : Cond.selects RX1 yX1_leastThrough yX1_leastThrough ∈ wG := wG_mk 27 rfl rfl
set_option maxRecDepth 100000 in
theorem sel_X1_plan : Cond.selects RX1 yX1_plan yX1_plan ∈ wG := wG_mk 28 rfl rfl
set_option maxRecDepth 100000 in
theorem sel_X2_clear : Cond.selects RX2 yX2_clear yX2_clear ∈ wG := wG_mk 29 rfl rfl
set_option maxRecDepth 100000 in
theorem sel_X1_firstOfBest : Cond.selects RX1 yX1_firstOfBest yX1_firstOfBest ∈ wG := wG_mk 30 rfl rfl
set_option maxRecDepth 100000 in
theorem sel_X1_nearestOf : Cond.selects RX1 yX1_nearestOf yX1_nearestOf ∈ wG := wG_mk 31 rfl rfl
set_option maxRecDepth 100000 in
theorem sel_X2_append : Cond.selects RX2 yX2_append yX2_append ∈ wG := wG_mk 32 rfl rfl
set_option maxRecDepth 100000 in
theorem sel_X2_tell : Cond.selects RX2 yX2_tell yX2_tell ∈ wG := wG_mk 33 rfl rfl
set_option maxRecDepth 100000 in
theorem sel_X1_planNearest : Cond.selects RX1 yX1_planNearest yX1_planNearest ∈ wG := wG_mk 34 rfl rfl
set_option maxRecDepth 100000 in
theorem sel_X5_flawSeenAs : Cond.selects RX5 yX5_flawSeenAs yX5_flawSeenAs ∈ wG := wG_mk 35 rfl rfl
set_option maxRecDepth 100000 in
theorem sel_X5_isFlaw : Cond.selects RX5 yX5_isFlaw yX5_isFlaw ∈ wG := wG_mk 36 rfl rfl
set_option maxRecDepth 100000 in
theorem sel_X5_seenOfFlaw : Cond.selects RX5 yX5_seenOfFlaw yX5_seenOfFlaw ∈ wG := wG_mk 37 rfl rfl
set_option maxRecDepth 100000 in
theorem sel_X0_copyFrom : Cond.selects RX0 yX0_copyFrom yX0_copyFrom ∈ wG := wG_mk 38 rfl rfl
set_option maxRecDepth 100000 in
theorem sel_X0_countNetsWithPoints : Cond.selects RX0 yX0_countNetsWithPoints yX0_countNetsWithPoints ∈ wG := wG_mk 39 rfl rfl
set_option maxRecDepth 100000 in
theorem sel_X6_isPoint : Cond.selects RX6 yX6_isPoint yX6_isPoint ∈ wG := wG_mk 40 rfl rfl
set_option maxRecDepth 100000 in
theorem sel_X6_farOf : Cond.selects RX6 yX6_farOf yX6_farOf ∈ wG := wG_mk 41 rfl rfl
set_option maxRecDepth 100000 in
theorem sel_X6_layTries : Cond.selects RX6 yX6_layTries yX6_layTries ∈ wG := wG_mk 42 rfl rfl
set_option maxRecDepth 100000 in
theorem sel_X6_layTree : Cond.selects RX6 yX6_layTree yX6_layTree ∈ wG := wG_mk 43 rfl rfl
set_option maxRecDepth 100000 in
theorem sel_X6_nextPair : Cond.selects RX6 yX6_nextPair yX6_nextPair ∈ wG := wG_mk 44 rfl rfl
set_option maxRecDepth 100000 in
theorem sel_X6_canJoin : Cond.selects RX6 yX6_canJoin yX6_canJoin ∈ wG := wG_mk 45 rfl rfl
set_option maxRecDepth 100000 in
theorem sel_X6_join : Cond.selects RX6 yX6_join yX6_join ∈ wG := wG_mk 46 rfl rfl
set_option maxRecDepth 100000 in
theorem sel_X6_addTry : Cond.selects RX6 yX6_addTry yX6_addTry ∈ wG := wG_mk 47 rfl rfl
set_option maxRecDepth 100000 in
theorem sel_X6_layNeighbours : Cond.selects RX6 yX6_layNeighbours yX6_layNeighbours ∈ wG := wG_mk 48 rfl rfl
set_option maxRecDepth 100000 in
theorem sel_X6_isTry : Cond.selects RX6 yX6_isTry yX6_isTry ∈ wG := wG_mk 49 rfl rfl
set_option maxRecDepth 100000 in
theorem sel_X6_seen : Cond.selects RX6 yX6_seen yX6_seen ∈ wG := wG_mk 50 rfl rfl
set_option maxRecDepth 100000 in
theorem sel_X6_layOnes : Cond.selects RX6 yX6_layOnes yX6_layOnes ∈ wG := wG_mk 51 rfl rfl
set_option maxRecDepth 100000 in
theorem sel_X6_conducts : Cond.selects RX6 yX6_conducts yX6_conducts ∈ wG := wG_mk 52 rfl rfl
set_option maxRecDepth 100000 in
theorem sel_X6_timeOf : Cond.selects RX6 yX6_timeOf yX6_timeOf ∈ wG := wG_mk 53 rfl rfl
set_option maxRecDepth 100000 in
theorem sel_X6_timeOfOrder : Cond.selects RX6 yX6_timeOfOrder yX6_timeOfOrder ∈ wG := wG_mk 54 rfl rfl
set_option maxRecDepth 100000 in
theorem sel_X6_layBest : Cond.selects RX6 yX6_layBest yX6_layBest ∈ wG := wG_mk 55 rfl rfl
set_option maxRecDepth 100000 in
theorem sel_X6_layRest : Cond.selects RX6 yX6_layRest yX6_layRest ∈ wG := wG_mk 56 rfl rfl
set_option maxRecDepth 100000 in
theorem sel_X6_restFrom : Cond.selects RX6 yX6_restFrom yX6_restFrom ∈ wG := wG_mk 57 rfl rfl
set_option maxRecDepth 100000 in
theorem sel_X6_orderAt : Cond.selects RX6 yX6_orderAt yX6_orderAt ∈ wG := wG_mk 58 rfl rfl
set_option maxRecDepth 100000 in
theorem sel_X6_looseMany : Cond.selects RX6 yX6_looseMany yX6_looseMany ∈ wG := wG_mk 59 rfl rfl
set_option maxRecDepth 100000 in
theorem sel_X6_shortMany : Cond.selects RX6 yX6_shortMany yX6_shortMany ∈ wG := wG_mk 60 rfl rfl
set_option maxRecDepth 100000 in
theorem sel_X6_isSingle : Cond.selects RX6 yX6_isSingle yX6_isSingle ∈ wG := wG_mk 61 rfl rfl
set_option maxRecDepth 100000 in
theorem sel_X6_seenBy : Cond.selects RX6 yX6_seenBy yX6_seenBy ∈ wG := wG_mk 62 rfl rfl
set_option maxRecDepth 100000 in
theorem sel_X6_isAnyOne : Cond.selects RX6 yX6_isAnyOne yX6_isAnyOne ∈ wG := wG_mk 63 rfl rfl
set_option maxRecDepth 100000 in
theorem sel_X6_apartMany : Cond.selects RX6 yX6_apartMany yX6_apartMany ∈ wG := wG_mk 64 rfl rfl
set_option maxRecDepth 100000 in
theorem sel_X6_netsUsed : Cond.selects RX6 yX6_netsUsed yX6_netsUsed ∈ wG := wG_mk 65 rfl rfl
set_option maxRecDepth 100000 in
theorem ini_L : Cond.initialized RL ∈ wG := wG_mk 66 rfl rfl
set_option maxRecDepth 100000 in
theorem ini_X5 : Cond.initialized RX5 ∈ wG := wG_mk 67 rfl rfl
set_option maxRecDepth 100000 in
theorem ini_X0 : Cond.initialized RX0 ∈ wG := wG_mk 68 rfl rfl
set_option maxRecDepth 100000 in
theorem ini_X4 : Cond.initialized RX4 ∈ wG := wG_mk 69 rfl rfl
set_option maxRecDepth 100000 in
theorem ini_X1 : Cond.initialized RX1 ∈ wG := wG_mk 70 rfl rfl
set_option maxRecDepth 100000 in
theorem ini_X2 : Cond.initialized RX2 ∈ wG := wG_mk 71 rfl rfl
set_option maxRecDepth 100000 in
theorem ini_X3 : Cond.initialized RX3 ∈ wG := wG_mk 72 rfl rfl
set_option maxRecDepth 100000 in
theorem ini_X6 : Cond.initialized RX6 ∈ wG := wG_mk 73 rfl rfl
set_option maxRecDepth 100000 in
theorem ini_J9 : Cond.initialized "java/lang/Math" ∈ wG := wG_mk 74 rfl rfl
set_option maxRecDepth 100000 in
theorem ini_J6 : Cond.initialized RJ6 ∈ wG := wG_mk 75 rfl rfl
set_option maxRecDepth 100000 in
theorem cl_L_7 : Cond.classLink RL 7 RX5 ∈ wG := wG_mk 76 rfl rfl
set_option maxRecDepth 100000 in
theorem ins_X5 : Cond.instantiable RX5 6 ∈ wG := wG_mk 77 rfl rfl
set_option maxRecDepth 100000 in
theorem ml_L_9 : Cond.methodLink RL 9 yX5_init ∈ wG := wG_mk 78 rfl rfl
set_option maxRecDepth 100000 in
theorem im_X5_init : Cond.instanceMethod yX5_init ∈ wG := wG_mk 79 rfl rfl
set_option maxRecDepth 100000 in
theorem cod_X5_init : Cond.code yX5_init cX5_init 2 none ∈ wG := wG_mk 80 rfl rfl
set_option maxRecDepth 100000 in
theorem ml_X5_3 : Cond.methodLink RX5 3 objectInit ∈ wG := wG_mk 81 rfl rfl
set_option maxRecDepth 100000 in
theorem im_objectInit : Cond.instanceMethod objectInit ∈ wG := wG_mk 82 rfl rfl
set_option maxRecDepth 100000 in
theorem cod_objectInit : Cond.code objectInit ⟨#[0xb1]⟩ 1 none ∈ wG := wG_mk 83 rfl rfl
set_option maxRecDepth 100000 in
theorem cl_X5_9 : Cond.classLink RX5 9 RX0 ∈ wG := wG_mk 84 rfl rfl
set_option maxRecDepth 100000 in
theorem ins_X0 : Cond.instantiable RX0 7 ∈ wG := wG_mk 85 rfl rfl
set_option maxRecDepth 100000 in
theorem im_X0_init : Cond.instanceMethod yX0_init ∈ wG := wG_mk 87 rfl rfl
set_option maxRecDepth 100000 in
theorem cod_X0_init : Cond.code yX0_init cX0_init 1 none ∈ wG := wG_mk 88 rfl rfl
set_option maxRecDepth 100000 in
theorem ml_X0_3 : Cond.methodLink RX0 3 objectInit ∈ wG := wG_mk 89 rfl rfl
set_option maxRecDepth 100000 in
theorem fl_X0_9 : Cond.fieldLink RX0 9 "NeedlePairs$Board" "nets" "[I" ∈ wG := wG_mk 90 rfl rfl
set_option maxRecDepth 100000 in
theorem fl_X0_15 : Cond.fieldLink RX0 15 "NeedlePairs$Board" "xs" "[I" ∈ wG := wG_mk 93 rfl rfl
set_option maxRecDepth 100000 in
theorem fl_X0_18 : Cond.fieldLink RX0 18 "NeedlePairs$Board" "ys" "[I" ∈ wG := wG_mk 96 rfl rfl
set_option maxRecDepth 100000 in
theorem fl_X0_21 : Cond.fieldLink RX0 21 "NeedlePairs$Board" "points" "I" ∈ wG := wG_mk 99 rfl rfl
set_option maxRecDepth 100000 in
theorem fl_X0_25 : Cond.fieldLink RX0 25 "NeedlePairs$Board" "nearness" "I" ∈ wG := wG_mk 102 rfl rfl
set_option maxRecDepth 100000 in
theorem fl_X0_28 : Cond.fieldLink RX0 28 "NeedlePairs$Board" "looseSet" "I" ∈ wG := wG_mk 105 rfl rfl
set_option maxRecDepth 100000 in
theorem fl_X0_31 : Cond.fieldLink RX0 31 "NeedlePairs$Board" "shortSet" "I" ∈ wG := wG_mk 107 rfl rfl
set_option maxRecDepth 100000 in
theorem arr_int : Cond.arrayClass .int ∈ wG := wG_mk 124 rfl rfl
set_option maxRecDepth 100000 in
theorem cl_X5_16 : Cond.classLink RX5 16 RX4 ∈ wG := wG_mk 125 rfl rfl
set_option maxRecDepth 100000 in
theorem ins_X4 : Cond.instantiable RX4 6 ∈ wG := wG_mk 126 rfl rfl
set_option maxRecDepth 100000 in
theorem im_X4_init : Cond.instanceMethod yX4_init ∈ wG := wG_mk 128 rfl rfl
set_option maxRecDepth 100000 in
theorem cod_X4_init : Cond.code yX4_init cX4_init 1 none ∈ wG := wG_mk 129 rfl rfl
set_option maxRecDepth 100000 in
theorem ml_X4_3 : Cond.methodLink RX4 3 objectInit ∈ wG := wG_mk 130 rfl rfl
set_option maxRecDepth 100000 in
theorem fl_X4_9 : Cond.fieldLink RX4 9 "NeedlePairs$Tries" "left" "[I" ∈ wG := wG_mk 131 rfl rfl
set_option maxRecDepth 100000 in
theorem fl_X4_15 : Cond.fieldLink RX4 15 "NeedlePairs$Tries" "right" "[I" ∈ wG := wG_mk 134 rfl rfl
set_option maxRecDepth 100000 in
theorem fl_X4_18 : Cond.fieldLink RX4 18 "NeedlePairs$Tries" "total" "I" ∈ wG := wG_mk 137 rfl rfl
set_option maxRecDepth 100000 in
theorem fl_X4_22 : Cond.fieldLink RX4 22 "NeedlePairs$Tries" "ofTrees" "I" ∈ wG := wG_mk 140 rfl rfl
set_option maxRecDepth 100000 in
theorem fl_X4_25 : Cond.fieldLink RX4 25 "NeedlePairs$Tries" "group" "[I" ∈ wG := wG_mk 142 rfl rfl
set_option maxRecDepth 100000 in
theorem fl_X4_28 : Cond.fieldLink RX4 28 "NeedlePairs$Tries" "paired" "[I" ∈ wG := wG_mk 143 rfl rfl
set_option maxRecDepth 100000 in
theorem cl_X5_23 : Cond.classLink RX5 23 RX1 ∈ wG := wG_mk 157 rfl rfl
set_option maxRecDepth 100000 in
theorem ins_X1 : Cond.instantiable RX1 6 ∈ wG := wG_mk 158 rfl rfl
set_option maxRecDepth 100000 in
theorem im_X1_init : Cond.instanceMethod yX1_init ∈ wG := wG_mk 160 rfl rfl
set_option maxRecDepth 100000 in
theorem cod_X1_init : Cond.code yX1_init cX1_init 1 none ∈ wG := wG_mk 161 rfl rfl
set_option maxRecDepth 100000 in
theorem ml_X1_3 : Cond.methodLink RX1 3 objectInit ∈ wG := wG_mk 162 rfl rfl
set_option maxRecDepth 100000 in
theorem cl_X1_22 : Cond.classLink RX1 22 RX2 ∈ wG := wG_mk 163 rfl rfl
set_option maxRecDepth 100000 in
theorem ins_X2 : Cond.instantiable RX2 3 ∈ wG := wG_mk 164 rfl rfl
set_option maxRecDepth 100000 in
theorem im_X2_init : Cond.instanceMethod yX2_init ∈ wG := wG_mk 166 rfl rfl
set_option maxRecDepth 100000 in
theorem cod_X2_init : Cond.code yX2_init cX2_init 1 none ∈ wG := wG_mk 167 rfl rfl
set_option maxRecDepth 100000 in
theorem ml_X2_3 : Cond.methodLink RX2 3 objectInit ∈ wG := wG_mk 168 rfl rfl
set_option maxRecDepth 100000 in
theorem fl_X2_9 : Cond.fieldLink RX2 9 "NeedlePairs$Order" "tries" "[I" ∈ wG := wG_mk 169 rfl rfl
set_option maxRecDepth 100000 in
theorem fl_X2_15 : Cond.fieldLink RX2 15 "NeedlePairs$Order" "length" "I" ∈ wG := wG_mk 170 rfl rfl
set_option maxRecDepth 100000 in
theorem fl_X2_19 : Cond.fieldLink RX2 19 "NeedlePairs$Order" "sum" "I" ∈ wG := wG_mk 171 rfl rfl
set_option maxRecDepth 100000 in
theorem fl_X1_9 : Cond.fieldLink RX1 9 "NeedlePairs$Needles" "total" "I" ∈ wG := wG_mk 179 rfl rfl
set_option maxRecDepth 100000 in
theorem fl_X1_15 : Cond.fieldLink RX1 15 "NeedlePairs$Needles" "leaps" "[I" ∈ wG := wG_mk 180 rfl rfl
set_option maxRecDepth 100000 in
theorem fl_X1_19 : Cond.fieldLink RX1 19 "NeedlePairs$Needles" "onward" "[I" ∈ wG := wG_mk 181 rfl rfl
set_option maxRecDepth 100000 in
theorem fl_X1_25 : Cond.fieldLink RX1 25 "NeedlePairs$Needles" "bestOrder" "LNeedlePairs$Order;" ∈ wG := wG_mk 182 rfl rfl
set_option maxRecDepth 100000 in
theorem fl_X1_29 : Cond.fieldLink RX1 29 "NeedlePairs$Needles" "nearestOrder" "LNeedlePairs$Order;" ∈ wG := wG_mk 184 rfl rfl
set_option maxRecDepth 100000 in
theorem fl_X1_32 : Cond.fieldLink RX1 32 "NeedlePairs$Needles" "bestIsPlanned" "Z" ∈ wG := wG_mk 186 rfl rfl
set_option maxRecDepth 100000 in
theorem cl_X5_30 : Cond.classLink RX5 30 RX3 ∈ wG := wG_mk 200 rfl rfl
set_option maxRecDepth 100000 in
theorem ins_X3 : Cond.instantiable RX3 2 ∈ wG := wG_mk 201 rfl rfl
set_option maxRecDepth 100000 in
theorem im_X3_init : Cond.instanceMethod yX3_init ∈ wG := wG_mk 203 rfl rfl
set_option maxRecDepth 100000 in
theorem cod_X3_init : Cond.code yX3_init cX3_init 1 none ∈ wG := wG_mk 204 rfl rfl
set_option maxRecDepth 100000 in
theorem ml_X3_3 : Cond.methodLink RX3 3 objectInit ∈ wG := wG_mk 205 rfl rfl
set_option maxRecDepth 100000 in
theorem fl_X3_9 : Cond.fieldLink RX3 9 "NeedlePairs$Pad" "signs" "[I" ∈ wG := wG_mk 206 rfl rfl
set_option maxRecDepth 100000 in
theorem fl_X3_15 : Cond.fieldLink RX3 15 "NeedlePairs$Pad" "length" "I" ∈ wG := wG_mk 207 rfl rfl
set_option maxRecDepth 100000 in
theorem fl_X5_12 : Cond.fieldLink RX5 12 "NeedlePairs" "board" "LNeedlePairs$Board;" ∈ wG := wG_mk 215 rfl rfl
set_option maxRecDepth 100000 in
theorem fl_X5_19 : Cond.fieldLink RX5 19 "NeedlePairs" "tries" "LNeedlePairs$Tries;" ∈ wG := wG_mk 216 rfl rfl
set_option maxRecDepth 100000 in
theorem fl_X5_26 : Cond.fieldLink RX5 26 "NeedlePairs" "needles" "LNeedlePairs$Needles;" ∈ wG := wG_mk 217 rfl rfl
set_option maxRecDepth 100000 in
theorem fl_X5_33 : Cond.fieldLink RX5 33 "NeedlePairs" "pad" "LNeedlePairs$Pad;" ∈ wG := wG_mk 218 rfl rfl
set_option maxRecDepth 100000 in
theorem fl_X5_37 : Cond.fieldLink RX5 37 "NeedlePairs" "images" "[LNeedlePairs$Board;" ∈ wG := wG_mk 219 rfl rfl
set_option maxRecDepth 100000 in
theorem fl_X5_41 : Cond.fieldLink RX5 41 "NeedlePairs" "keptImages" "I" ∈ wG := wG_mk 220 rfl rfl
set_option maxRecDepth 100000 in
theorem ml_L_13 : Cond.methodLink RL 13 yX5_point ∈ wG := wG_mk 234 rfl rfl
set_option maxRecDepth 100000 in
theorem im_X5_point : Cond.instanceMethod yX5_point ∈ wG := wG_mk 235 rfl rfl
set_option maxRecDepth 100000 in
theorem sel_X5_point : Cond.selects RX5 yX5_point yX5_point ∈ wG := wG_mk 236 rfl rfl
set_option maxRecDepth 100000 in
theorem cod_X5_point : Cond.code yX5_point cX5_point 5 (some .int) ∈ wG := wG_mk 237 rfl rfl
set_option maxRecDepth 100000 in
theorem ml_X5_45 : Cond.methodLink RX5 45 yX5_isNet ∈ wG := wG_mk 238 rfl rfl
set_option maxRecDepth 100000 in
theorem stt_X5_isNet : Cond.static yX5_isNet ∈ wG := wG_mk 239 rfl rfl
set_option maxRecDepth 100000 in
theorem cod_X5_isNet : Cond.code yX5_isNet cX5_isNet 1 (some .boolean) ∈ wG := wG_mk 240 rfl rfl
set_option maxRecDepth 100000 in
theorem ml_X5_49 : Cond.methodLink RX5 49 yX5_isOnBoard ∈ wG := wG_mk 241 rfl rfl
set_option maxRecDepth 100000 in
theorem stt_X5_isOnBoard : Cond.static yX5_isOnBoard ∈ wG := wG_mk 242 rfl rfl
set_option maxRecDepth 100000 in
theorem cod_X5_isOnBoard : Cond.code yX5_isOnBoard cX5_isOnBoard 2 (some .boolean) ∈ wG := wG_mk 243 rfl rfl
set_option maxRecDepth 100000 in
theorem im_X0_addPoint : Cond.instanceMethod yX0_addPoint ∈ wG := wG_mk 246 rfl rfl
set_option maxRecDepth 100000 in
theorem cod_X0_addPoint : Cond.code yX0_addPoint cX0_addPoint 5 (some .int) ∈ wG := wG_mk 247 rfl rfl
set_option maxRecDepth 100000 in
theorem ml_X5_60 : Cond.methodLink RX5 60 yX5_layTriesAnew ∈ wG := wG_mk 248 rfl rfl
set_option maxRecDepth 100000 in
theorem im_X5_layTriesAnew : Cond.instanceMethod yX5_layTriesAnew ∈ wG := wG_mk 250 rfl rfl
set_option maxRecDepth 100000 in
theorem cod_X5_layTriesAnew : Cond.code yX5_layTriesAnew cX5_layTriesAnew 1 none ∈ wG := wG_mk 251 rfl rfl
set_option maxRecDepth 100000 in
theorem im_X4_layOut : Cond.instanceMethod yX4_layOut ∈ wG := wG_mk 254 rfl rfl
set_option maxRecDepth 100000 in
theorem cod_X4_layOut : Cond.code yX4_layOut cX4_layOut 2 none ∈ wG := wG_mk 255 rfl rfl
set_option maxRecDepth 100000 in
theorem ml_X4_31 : Cond.methodLink RX4 31 yX4_growTrees ∈ wG := wG_mk 256 rfl rfl
set_option maxRecDepth 100000 in
theorem im_X4_growTrees : Cond.instanceMethod yX4_growTrees ∈ wG := wG_mk 258 rfl rfl
set_option maxRecDepth 100000 in
theorem cod_X4_growTrees : Cond.code yX4_growTrees cX4_growTrees 4 none ∈ wG := wG_mk 259 rfl rfl
set_option maxRecDepth 100000 in
theorem ml_X4_46 : Cond.methodLink RX4 46 yX4_joinNextPair ∈ wG := wG_mk 260 rfl rfl
set_option maxRecDepth 100000 in
theorem im_X4_joinNextPair : Cond.instanceMethod yX4_joinNextPair ∈ wG := wG_mk 262 rfl rfl
set_option maxRecDepth 100000 in
theorem cod_X4_joinNextPair : Cond.code yX4_joinNextPair cX4_joinNextPair 8 (some .boolean) ∈ wG := wG_mk 263 rfl rfl
set_option maxRecDepth 100000 in
theorem im_X0_distance : Cond.instanceMethod yX0_distance ∈ wG := wG_mk 266 rfl rfl
set_option maxRecDepth 100000 in
theorem cod_X0_distance : Cond.code yX0_distance cX0_distance 5 (some .int) ∈ wG := wG_mk 267 rfl rfl
set_option maxRecDepth 100000 in
theorem ml_X4_57 : Cond.methodLink RX4 57 yX4_mergeGroups ∈ wG := wG_mk 268 rfl rfl
set_option maxRecDepth 100000 in
theorem im_X4_mergeGroups : Cond.instanceMethod yX4_mergeGroups ∈ wG := wG_mk 270 rfl rfl
set_option maxRecDepth 100000 in
theorem cod_X4_mergeGroups : Cond.code yX4_mergeGroups cX4_mergeGroups 4 none ∈ wG := wG_mk 271 rfl rfl
set_option maxRecDepth 100000 in
theorem ml_X4_35 : Cond.methodLink RX4 35 yX4_addTrees ∈ wG := wG_mk 272 rfl rfl
set_option maxRecDepth 100000 in
theorem im_X4_addTrees : Cond.instanceMethod yX4_addTrees ∈ wG := wG_mk 274 rfl rfl
set_option maxRecDepth 100000 in
theorem cod_X4_addTrees : Cond.code yX4_addTrees cX4_addTrees 5 none ∈ wG := wG_mk 275 rfl rfl
set_option maxRecDepth 100000 in
theorem stt_X5_isIn : Cond.static yX5_isIn ∈ wG := wG_mk 277 rfl rfl
set_option maxRecDepth 100000 in
theorem cod_X5_isIn : Cond.code yX5_isIn cX5_isIn 2 (some .boolean) ∈ wG := wG_mk 278 rfl rfl
set_option maxRecDepth 100000 in
theorem ml_X4_65 : Cond.methodLink RX4 65 yX4_addTry ∈ wG := wG_mk 279 rfl rfl
set_option maxRecDepth 100000 in
theorem im_X4_addTry : Cond.instanceMethod yX4_addTry ∈ wG := wG_mk 281 rfl rfl
set_option maxRecDepth 100000 in
theorem cod_X4_addTry : Cond.code yX4_addTry cX4_addTry 5 none ∈ wG := wG_mk 282 rfl rfl
set_option maxRecDepth 100000 in
theorem im_X0_isLeftOf : Cond.instanceMethod yX0_isLeftOf ∈ wG := wG_mk 285 rfl rfl
set_option maxRecDepth 100000 in
theorem cod_X0_isLeftOf : Cond.code yX0_isLeftOf cX0_isLeftOf 3 (some .boolean) ∈ wG := wG_mk 286 rfl rfl
set_option maxRecDepth 100000 in
theorem ml_X4_38 : Cond.methodLink RX4 38 yX4_addNeighbours ∈ wG := wG_mk 287 rfl rfl
set_option maxRecDepth 100000 in
theorem im_X4_addNeighbours : Cond.instanceMethod yX4_addNeighbours ∈ wG := wG_mk 289 rfl rfl
set_option maxRecDepth 100000 in
theorem cod_X4_addNeighbours : Cond.code yX4_addNeighbours cX4_addNeighbours 3 none ∈ wG := wG_mk 290 rfl rfl
set_option maxRecDepth 100000 in
theorem ml_X4_75 : Cond.methodLink RX4 75 yX4_addNearestPair ∈ wG := wG_mk 295 rfl rfl
set_option maxRecDepth 100000 in
theorem im_X4_addNearestPair : Cond.instanceMethod yX4_addNearestPair ∈ wG := wG_mk 297 rfl rfl
set_option maxRecDepth 100000 in
theorem cod_X4_addNearestPair : Cond.code yX4_addNearestPair cX4_addNearestPair 10 none ∈ wG := wG_mk 298 rfl rfl
set_option maxRecDepth 100000 in
theorem im_X1_measure : Cond.instanceMethod yX1_measure ∈ wG := wG_mk 301 rfl rfl
set_option maxRecDepth 100000 in
theorem cod_X1_measure : Cond.code yX1_measure cX1_measure 7 none ∈ wG := wG_mk 302 rfl rfl
set_option maxRecDepth 100000 in
theorem ml_X1_53 : Cond.methodLink RX1 53 yX1_longer ∈ wG := wG_mk 303 rfl rfl
set_option maxRecDepth 100000 in
theorem stt_X1_longer : Cond.static yX1_longer ∈ wG := wG_mk 304 rfl rfl
set_option maxRecDepth 100000 in
theorem cod_X1_longer : Cond.code yX1_longer cX1_longer 2 (some .int) ∈ wG := wG_mk 305 rfl rfl
set_option maxRecDepth 100000 in
theorem ml_X1_66 : Cond.methodLink RX1 66 Lib.Math.abs.name ∈ wG := wG_mk 306 rfl rfl
set_option maxRecDepth 100000 in
theorem stt_Math_abs : Cond.static Lib.Math.abs.name ∈ wG := wG_mk 307 rfl rfl
set_option maxRecDepth 100000 in
theorem cod_Math_abs : Cond.code Lib.Math.abs.name Lib.Math.abs.code 1 (some .int) ∈ wG := wG_mk 308 rfl rfl
set_option maxRecDepth 100000 in
theorem ml_X1_57 : Cond.methodLink RX1 57 Lib.Math.max.name ∈ wG := wG_mk 309 rfl rfl
set_option maxRecDepth 100000 in
theorem stt_Math_max : Cond.static Lib.Math.max.name ∈ wG := wG_mk 310 rfl rfl
set_option maxRecDepth 100000 in
theorem cod_Math_max : Cond.code Lib.Math.max.name Lib.Math.max.code 2 (some .int) ∈ wG := wG_mk 311 rfl rfl
set_option maxRecDepth 100000 in
theorem ml_X1_62 : Cond.methodLink RX1 62 yX1_way ∈ wG := wG_mk 312 rfl rfl
set_option maxRecDepth 100000 in
theorem stt_X1_way : Cond.static yX1_way ∈ wG := wG_mk 313 rfl rfl
set_option maxRecDepth 100000 in
theorem cod_X1_way : Cond.code yX1_way cX1_way 3 (some .int) ∈ wG := wG_mk 314 rfl rfl
set_option maxRecDepth 100000 in
theorem ml_L_18 : Cond.methodLink RL 18 yX5_pop ∈ wG := wG_mk 315 rfl rfl
set_option maxRecDepth 100000 in
theorem im_X5_pop : Cond.instanceMethod yX5_pop ∈ wG := wG_mk 316 rfl rfl
set_option maxRecDepth 100000 in
theorem sel_X5_pop : Cond.selects RX5 yX5_pop yX5_pop ∈ wG := wG_mk 317 rfl rfl
set_option maxRecDepth 100000 in
theorem cod_X5_pop : Cond.code yX5_pop cX5_pop 1 (some .int) ∈ wG := wG_mk 318 rfl rfl
set_option maxRecDepth 100000 in
theorem im_X0_removeLastPoint : Cond.instanceMethod yX0_removeLastPoint ∈ wG := wG_mk 321 rfl rfl
set_option maxRecDepth 100000 in
theorem cod_X0_removeLastPoint : Cond.code yX0_removeLastPoint cX0_removeLastPoint 1 none ∈ wG := wG_mk 322 rfl rfl
set_option maxRecDepth 100000 in
theorem stt_X5_withMember : Cond.static yX5_withMember ∈ wG := wG_mk 324 rfl rfl
set_option maxRecDepth 100000 in
theorem cod_X5_withMember : Cond.code yX5_withMember cX5_withMember 3 (some .int) ∈ wG := wG_mk 325 rfl rfl
set_option maxRecDepth 100000 in
theorem ml_L_23 : Cond.methodLink RL 23 yX5_move ∈ wG := wG_mk 326 rfl rfl
set_option maxRecDepth 100000 in
theorem im_X5_move : Cond.instanceMethod yX5_move ∈ wG := wG_mk 327 rfl rfl
set_option maxRecDepth 100000 in
theorem sel_X5_move : Cond.selects RX5 yX5_move yX5_move ∈ wG := wG_mk 328 rfl rfl
set_option maxRecDepth 100000 in
theorem cod_X5_move : Cond.code yX5_move cX5_move 5 (some .int) ∈ wG := wG_mk 329 rfl rfl
set_option maxRecDepth 100000 in
theorem im_X0_hasPoint : Cond.instanceMethod yX0_hasPoint ∈ wG := wG_mk 332 rfl rfl
set_option maxRecDepth 100000 in
theorem cod_X0_hasPoint : Cond.code yX0_hasPoint cX0_hasPoint 2 (some .boolean) ∈ wG := wG_mk 333 rfl rfl
set_option maxRecDepth 100000 in
theorem ml_L_27 : Cond.methodLink RL 27 yX5_near ∈ wG := wG_mk 334 rfl rfl
set_option maxRecDepth 100000 in
theorem im_X5_near : Cond.instanceMethod yX5_near ∈ wG := wG_mk 335 rfl rfl
set_option maxRecDepth 100000 in
theorem sel_X5_near : Cond.selects RX5 yX5_near yX5_near ∈ wG := wG_mk 336 rfl rfl
set_option maxRecDepth 100000 in
theorem cod_X5_near : Cond.code yX5_near cX5_near 3 (some .int) ∈ wG := wG_mk 337 rfl rfl
set_option maxRecDepth 100000 in
theorem ml_L_32 : Cond.methodLink RL 32 yX5_of ∈ wG := wG_mk 338 rfl rfl
set_option maxRecDepth 100000 in
theorem im_X5_of : Cond.instanceMethod yX5_of ∈ wG := wG_mk 339 rfl rfl
set_option maxRecDepth 100000 in
theorem sel_X5_of : Cond.selects RX5 yX5_of yX5_of ∈ wG := wG_mk 340 rfl rfl
set_option maxRecDepth 100000 in
theorem cod_X5_of : Cond.code yX5_of cX5_of 3 (some .int) ∈ wG := wG_mk 341 rfl rfl
set_option maxRecDepth 100000 in
theorem ml_X5_85 : Cond.methodLink RX5 85 yX5_isIn ∈ wG := wG_mk 342 rfl rfl
set_option maxRecDepth 100000 in
theorem ml_X5_88 : Cond.methodLink RX5 88 yX5_asNumber ∈ wG := wG_mk 343 rfl rfl
set_option maxRecDepth 100000 in
theorem stt_X5_asNumber : Cond.static yX5_asNumber ∈ wG := wG_mk 344 rfl rfl
set_option maxRecDepth 100000 in
theorem cod_X5_asNumber : Cond.code yX5_asNumber cX5_asNumber 1 (some .int) ∈ wG := wG_mk 345 rfl rfl
set_option maxRecDepth 100000 in
theorem ml_L_37 : Cond.methodLink RL 37 yX5_far ∈ wG := wG_mk 346 rfl rfl
set_option maxRecDepth 100000 in
theorem im_X5_far : Cond.instanceMethod yX5_far ∈ wG := wG_mk 347 rfl rfl
set_option maxRecDepth 100000 in
theorem sel_X5_far : Cond.selects RX5 yX5_far yX5_far ∈ wG := wG_mk 348 rfl rfl
set_option maxRecDepth 100000 in
theorem cod_X5_far : Cond.code yX5_far cX5_far 3 (some .int) ∈ wG := wG_mk 349 rfl rfl
set_option maxRecDepth 100000 in
theorem ml_L_41 : Cond.methodLink RL 41 yX5_attempt ∈ wG := wG_mk 351 rfl rfl
set_option maxRecDepth 100000 in
theorem im_X5_attempt : Cond.instanceMethod yX5_attempt ∈ wG := wG_mk 352 rfl rfl
set_option maxRecDepth 100000 in
theorem sel_X5_attempt : Cond.selects RX5 yX5_attempt yX5_attempt ∈ wG := wG_mk 353 rfl rfl
set_option maxRecDepth 100000 in
theorem cod_X5_attempt : Cond.code yX5_attempt cX5_attempt 3 (some .int) ∈ wG := wG_mk 354 rfl rfl
set_option maxRecDepth 100000 in
theorem im_X4_hasTry : Cond.instanceMethod yX4_hasTry ∈ wG := wG_mk 357 rfl rfl
set_option maxRecDepth 100000 in
theorem cod_X4_hasTry : Cond.code yX4_hasTry cX4_hasTry 2 (some .boolean) ∈ wG := wG_mk 358 rfl rfl
set_option maxRecDepth 100000 in
theorem im_X4_isOfNeighbours : Cond.instanceMethod yX4_isOfNeighbours ∈ wG := wG_mk 361 rfl rfl
set_option maxRecDepth 100000 in
theorem cod_X4_isOfNeighbours : Cond.code yX4_isOfNeighbours cX4_isOfNeighbours 2 (some .boolean) ∈ wG := wG_mk 362 rfl rfl
set_option maxRecDepth 100000 in
theorem im_X4_conducts : Cond.instanceMethod yX4_conducts ∈ wG := wG_mk 365 rfl rfl
set_option maxRecDepth 100000 in
theorem cod_X4_conducts : Cond.code yX4_conducts cX4_conducts 7 (some .boolean) ∈ wG := wG_mk 366 rfl rfl
set_option maxRecDepth 100000 in
theorem stt_X5_netsOneWith : Cond.static yX5_netsOneWith ∈ wG := wG_mk 368 rfl rfl
set_option maxRecDepth 100000 in
theorem cod_X5_netsOneWith : Cond.code yX5_netsOneWith cX5_netsOneWith 6 (some .int) ∈ wG := wG_mk 369 rfl rfl
set_option maxRecDepth 100000 in
theorem fl_X5_221 : Cond.fieldLink RX5 221 "NeedlePairs" "LESSER_NET" "[I" ∈ wG := wG_mk 370 rfl rfl
set_option maxRecDepth 100000 in
theorem fl_X5_224 : Cond.fieldLink RX5 224 "NeedlePairs" "GREATER_NET" "[I" ∈ wG := wG_mk 371 rfl rfl
set_option maxRecDepth 100000 in
theorem ml_X5_115 : Cond.methodLink RX5 115 yX5_seenNow ∈ wG := wG_mk 372 rfl rfl
set_option maxRecDepth 100000 in
theorem im_X5_seenNow : Cond.instanceMethod yX5_seenNow ∈ wG := wG_mk 374 rfl rfl
set_option maxRecDepth 100000 in
theorem cod_X5_seenNow : Cond.code yX5_seenNow cX5_seenNow 1 (some .int) ∈ wG := wG_mk 375 rfl rfl
set_option maxRecDepth 100000 in
theorem im_X4_seenSet : Cond.instanceMethod yX4_seenSet ∈ wG := wG_mk 378 rfl rfl
set_option maxRecDepth 100000 in
theorem cod_X4_seenSet : Cond.code yX4_seenSet cX4_seenSet 6 (some .int) ∈ wG := wG_mk 379 rfl rfl
set_option maxRecDepth 100000 in
theorem ml_X4_87 : Cond.methodLink RX4 87 yX4_conducts ∈ wG := wG_mk 380 rfl rfl
set_option maxRecDepth 100000 in
theorem ml_X4_91 : Cond.methodLink RX4 91 yX4_isOfNeighbours ∈ wG := wG_mk 381 rfl rfl
set_option maxRecDepth 100000 in
theorem ml_L_45 : Cond.methodLink RL 45 yX5_time ∈ wG := wG_mk 382 rfl rfl
set_option maxRecDepth 100000 in
theorem im_X5_time : Cond.instanceMethod yX5_time ∈ wG := wG_mk 383 rfl rfl
set_option maxRecDepth 100000 in
theorem sel_X5_time : Cond.selects RX5 yX5_time yX5_time ∈ wG := wG_mk 384 rfl rfl
set_option maxRecDepth 100000 in
theorem cod_X5_time : Cond.code yX5_time cX5_time 3 (some .int) ∈ wG := wG_mk 385 rfl rfl
set_option maxRecDepth 100000 in
theorem im_X1_leap : Cond.instanceMethod yX1_leap ∈ wG := wG_mk 388 rfl rfl
set_option maxRecDepth 100000 in
theorem cod_X1_leap : Cond.code yX1_leap cX1_leap 3 (some .int) ∈ wG := wG_mk 389 rfl rfl
set_option maxRecDepth 100000 in
theorem ml_L_49 : Cond.methodLink RL 49 yX5_say ∈ wG := wG_mk 390 rfl rfl
set_option maxRecDepth 100000 in
theorem im_X5_say : Cond.instanceMethod yX5_say ∈ wG := wG_mk 391 rfl rfl
set_option maxRecDepth 100000 in
theorem sel_X5_say : Cond.selects RX5 yX5_say yX5_say ∈ wG := wG_mk 392 rfl rfl
set_option maxRecDepth 100000 in
theorem cod_X5_say : Cond.code yX5_say cX5_say 2 (some .int) ∈ wG := wG_mk 393 rfl rfl
set_option maxRecDepth 100000 in
theorem im_X3_write : Cond.instanceMethod yX3_write ∈ wG := wG_mk 396 rfl rfl
set_option maxRecDepth 100000 in
theorem cod_X3_write : Cond.code yX3_write cX3_write 2 none ∈ wG := wG_mk 397 rfl rfl
set_option maxRecDepth 100000 in
theorem ml_L_53 : Cond.methodLink RL 53 yX5_wipe ∈ wG := wG_mk 398 rfl rfl
set_option maxRecDepth 100000 in
theorem im_X5_wipe : Cond.instanceMethod yX5_wipe ∈ wG := wG_mk 399 rfl rfl
set_option maxRecDepth 100000 in
theorem sel_X5_wipe : Cond.selects RX5 yX5_wipe yX5_wipe ∈ wG := wG_mk 400 rfl rfl
set_option maxRecDepth 100000 in
theorem cod_X5_wipe : Cond.code yX5_wipe cX5_wipe 2 (some .int) ∈ wG := wG_mk 401 rfl rfl
set_option maxRecDepth 100000 in
theorem ml_L_57 : Cond.methodLink RL 57 yX5_told ∈ wG := wG_mk 402 rfl rfl
set_option maxRecDepth 100000 in
theorem im_X5_told : Cond.instanceMethod yX5_told ∈ wG := wG_mk 403 rfl rfl
set_option maxRecDepth 100000 in
theorem sel_X5_told : Cond.selects RX5 yX5_told yX5_told ∈ wG := wG_mk 404 rfl rfl
set_option maxRecDepth 100000 in
theorem cod_X5_told : Cond.code yX5_told cX5_told 5 (some .int) ∈ wG := wG_mk 405 rfl rfl
set_option maxRecDepth 100000 in
theorem im_X3_tellsOrderOf : Cond.instanceMethod yX3_tellsOrderOf ∈ wG := wG_mk 408 rfl rfl
set_option maxRecDepth 100000 in
theorem cod_X3_tellsOrderOf : Cond.code yX3_tellsOrderOf cX3_tellsOrderOf 5 (some .boolean) ∈ wG := wG_mk 409 rfl rfl
set_option maxRecDepth 100000 in
theorem ml_X3_19 : Cond.methodLink RX3 19 yX3_tryAt ∈ wG := wG_mk 410 rfl rfl
set_option maxRecDepth 100000 in
theorem im_X3_tryAt : Cond.instanceMethod yX3_tryAt ∈ wG := wG_mk 412 rfl rfl
set_option maxRecDepth 100000 in
theorem cod_X3_tryAt : Cond.code yX3_tryAt cX3_tryAt 2 (some .int) ∈ wG := wG_mk 413 rfl rfl
set_option maxRecDepth 100000 in
theorem ml_L_61 : Cond.methodLink RL 61 yX5_best ∈ wG := wG_mk 416 rfl rfl
set_option maxRecDepth 100000 in
theorem im_X5_best : Cond.instanceMethod yX5_best ∈ wG := wG_mk 417 rfl rfl
set_option maxRecDepth 100000 in
theorem sel_X5_best : Cond.selects RX5 yX5_best yX5_best ∈ wG := wG_mk 418 rfl rfl
set_option maxRecDepth 100000 in
theorem cod_X5_best : Cond.code yX5_best cX5_best 2 (some .int) ∈ wG := wG_mk 419 rfl rfl
set_option maxRecDepth 100000 in
theorem im_X1_planBest : Cond.instanceMethod yX1_planBest ∈ wG := wG_mk 422 rfl rfl
set_option maxRecDepth 100000 in
theorem cod_X1_planBest : Cond.code yX1_planBest cX1_planBest 1 none ∈ wG := wG_mk 423 rfl rfl
set_option maxRecDepth 100000 in
theorem ml_X1_74 : Cond.methodLink RX1 74 yX1_weighOnward ∈ wG := wG_mk 424 rfl rfl
set_option maxRecDepth 100000 in
theorem im_X1_weighOnward : Cond.instanceMethod yX1_weighOnward ∈ wG := wG_mk 426 rfl rfl
set_option maxRecDepth 100000 in
theorem cod_X1_weighOnward : Cond.code yX1_weighOnward cX1_weighOnward 4 none ∈ wG := wG_mk 427 rfl rfl
set_option maxRecDepth 100000 in
theorem ml_X1_80 : Cond.methodLink RX1 80 yX1_allTries ∈ wG := wG_mk 428 rfl rfl
set_option maxRecDepth 100000 in
theorem im_X1_allTries : Cond.instanceMethod yX1_allTries ∈ wG := wG_mk 430 rfl rfl
set_option maxRecDepth 100000 in
theorem cod_X1_allTries : Cond.code yX1_allTries cX1_allTries 1 (some .int) ∈ wG := wG_mk 431 rfl rfl
set_option maxRecDepth 100000 in
theorem ml_X1_101 : Cond.methodLink RX1 101 yX1_leastThrough ∈ wG := wG_mk 433 rfl rfl
set_option maxRecDepth 100000 in
theorem im_X1_leastThrough : Cond.instanceMethod yX1_leastThrough ∈ wG := wG_mk 435 rfl rfl
set_option maxRecDepth 100000 in
theorem cod_X1_leastThrough : Cond.code yX1_leastThrough cX1_leastThrough 7 (some .int) ∈ wG := wG_mk 436 rfl rfl
set_option maxRecDepth 100000 in
theorem ml_X1_70 : Cond.methodLink RX1 70 yX1_plan ∈ wG := wG_mk 437 rfl rfl
set_option maxRecDepth 100000 in
theorem im_X1_plan : Cond.instanceMethod yX1_plan ∈ wG := wG_mk 439 rfl rfl
set_option maxRecDepth 100000 in
theorem cod_X1_plan : Cond.code yX1_plan cX1_plan 7 none ∈ wG := wG_mk 440 rfl rfl
set_option maxRecDepth 100000 in
theorem im_X2_clear : Cond.instanceMethod yX2_clear ∈ wG := wG_mk 443 rfl rfl
set_option maxRecDepth 100000 in
theorem cod_X2_clear : Cond.code yX2_clear cX2_clear 1 none ∈ wG := wG_mk 444 rfl rfl
set_option maxRecDepth 100000 in
theorem ml_X1_84 : Cond.methodLink RX1 84 yX1_firstOfBest ∈ wG := wG_mk 445 rfl rfl
set_option maxRecDepth 100000 in
theorem im_X1_firstOfBest : Cond.instanceMethod yX1_firstOfBest ∈ wG := wG_mk 447 rfl rfl
set_option maxRecDepth 100000 in
theorem cod_X1_firstOfBest : Cond.code yX1_firstOfBest cX1_firstOfBest 7 (some .int) ∈ wG := wG_mk 448 rfl rfl
set_option maxRecDepth 100000 in
theorem ml_X1_90 : Cond.methodLink RX1 90 yX1_leap ∈ wG := wG_mk 449 rfl rfl
set_option maxRecDepth 100000 in
theorem ml_X1_87 : Cond.methodLink RX1 87 yX1_nearestOf ∈ wG := wG_mk 450 rfl rfl
set_option maxRecDepth 100000 in
theorem im_X1_nearestOf : Cond.instanceMethod yX1_nearestOf ∈ wG := wG_mk 452 rfl rfl
set_option maxRecDepth 100000 in
theorem cod_X1_nearestOf : Cond.code yX1_nearestOf cX1_nearestOf 6 (some .int) ∈ wG := wG_mk 453 rfl rfl
set_option maxRecDepth 100000 in
theorem im_X2_append : Cond.instanceMethod yX2_append ∈ wG := wG_mk 456 rfl rfl
set_option maxRecDepth 100000 in
theorem cod_X2_append : Cond.code yX2_append cX2_append 3 none ∈ wG := wG_mk 457 rfl rfl
set_option maxRecDepth 100000 in
theorem im_X2_tell : Cond.instanceMethod yX2_tell ∈ wG := wG_mk 460 rfl rfl
set_option maxRecDepth 100000 in
theorem cod_X2_tell : Cond.code yX2_tell cX2_tell 2 (some .int) ∈ wG := wG_mk 461 rfl rfl
set_option maxRecDepth 100000 in
theorem ml_L_65 : Cond.methodLink RL 65 yX5_nearest ∈ wG := wG_mk 462 rfl rfl
set_option maxRecDepth 100000 in
theorem im_X5_nearest : Cond.instanceMethod yX5_nearest ∈ wG := wG_mk 463 rfl rfl
set_option maxRecDepth 100000 in
theorem sel_X5_nearest : Cond.selects RX5 yX5_nearest yX5_nearest ∈ wG := wG_mk 464 rfl rfl
set_option maxRecDepth 100000 in
theorem cod_X5_nearest : Cond.code yX5_nearest cX5_nearest 2 (some .int) ∈ wG := wG_mk 465 rfl rfl
set_option maxRecDepth 100000 in
theorem im_X1_planNearest : Cond.instanceMethod yX1_planNearest ∈ wG := wG_mk 468 rfl rfl
set_option maxRecDepth 100000 in
theorem cod_X1_planNearest : Cond.code yX1_planNearest cX1_planNearest 1 none ∈ wG := wG_mk 469 rfl rfl
set_option maxRecDepth 100000 in
theorem ml_L_69 : Cond.methodLink RL 69 yX5_loosen ∈ wG := wG_mk 470 rfl rfl
set_option maxRecDepth 100000 in
theorem im_X5_loosen : Cond.instanceMethod yX5_loosen ∈ wG := wG_mk 471 rfl rfl
set_option maxRecDepth 100000 in
theorem sel_X5_loosen : Cond.selects RX5 yX5_loosen yX5_loosen ∈ wG := wG_mk 472 rfl rfl
set_option maxRecDepth 100000 in
theorem cod_X5_loosen : Cond.code yX5_loosen cX5_loosen 3 (some .int) ∈ wG := wG_mk 473 rfl rfl
set_option maxRecDepth 100000 in
theorem ml_X5_157 : Cond.methodLink RX5 157 yX5_isSwitch ∈ wG := wG_mk 474 rfl rfl
set_option maxRecDepth 100000 in
theorem stt_X5_isSwitch : Cond.static yX5_isSwitch ∈ wG := wG_mk 475 rfl rfl
set_option maxRecDepth 100000 in
theorem cod_X5_isSwitch : Cond.code yX5_isSwitch cX5_isSwitch 1 (some .boolean) ∈ wG := wG_mk 476 rfl rfl
set_option maxRecDepth 100000 in
theorem ml_X5_160 : Cond.methodLink RX5 160 yX5_withMember ∈ wG := wG_mk 477 rfl rfl
set_option maxRecDepth 100000 in
theorem ml_X5_163 : Cond.methodLink RX5 163 yJ6_bitCount_0f7a4 ∈ wG := wG_mk 478 rfl rfl
set_option maxRecDepth 100000 in
theorem stt_J6_bitCount_0f7a4 : Cond.static yJ6_bitCount_0f7a4 ∈ wG := wG_mk 479 rfl rfl
set_option maxRecDepth 100000 in
theorem cod_J6_bitCount_0f7a4 : Cond.code yJ6_bitCount_0f7a4 cJ6_bitCount_0f7a4 1 (some .int) ∈ wG := wG_mk 480 rfl rfl
set_option maxRecDepth 100000 in
theorem cst_J6_265 : Cond.constant RJ6 265 1431655765 ∈ wG := wG_mk 481 rfl rfl
set_option maxRecDepth 100000 in
theorem cst_J6_266 : Cond.constant RJ6 266 858993459 ∈ wG := wG_mk 482 rfl rfl
set_option maxRecDepth 100000 in
theorem cst_J6_267 : Cond.constant RJ6 267 252645135 ∈ wG := wG_mk 483 rfl rfl
set_option maxRecDepth 100000 in
theorem ml_L_73 : Cond.methodLink RL 73 yX5_join ∈ wG := wG_mk 484 rfl rfl
set_option maxRecDepth 100000 in
theorem im_X5_join : Cond.instanceMethod yX5_join ∈ wG := wG_mk 485 rfl rfl
set_option maxRecDepth 100000 in
theorem sel_X5_join : Cond.selects RX5 yX5_join yX5_join ∈ wG := wG_mk 486 rfl rfl
set_option maxRecDepth 100000 in
theorem cod_X5_join : Cond.code yX5_join cX5_join 4 (some .int) ∈ wG := wG_mk 487 rfl rfl
set_option maxRecDepth 100000 in
theorem ml_X5_168 : Cond.methodLink RX5 168 yX5_pairOfNets ∈ wG := wG_mk 488 rfl rfl
set_option maxRecDepth 100000 in
theorem stt_X5_pairOfNets : Cond.static yX5_pairOfNets ∈ wG := wG_mk 489 rfl rfl
set_option maxRecDepth 100000 in
theorem cod_X5_pairOfNets : Cond.code yX5_pairOfNets cX5_pairOfNets 6 (some .int) ∈ wG := wG_mk 490 rfl rfl
set_option maxRecDepth 100000 in
theorem ml_X5_213 : Cond.methodLink RX5 213 Lib.Math.min.name ∈ wG := wG_mk 491 rfl rfl
set_option maxRecDepth 100000 in
theorem stt_Math_min : Cond.static Lib.Math.min.name ∈ wG := wG_mk 492 rfl rfl
set_option maxRecDepth 100000 in
theorem cod_Math_min : Cond.code Lib.Math.min.name Lib.Math.min.code 2 (some .int) ∈ wG := wG_mk 493 rfl rfl
set_option maxRecDepth 100000 in
theorem ml_X5_218 : Cond.methodLink RX5 218 Lib.Math.max.name ∈ wG := wG_mk 494 rfl rfl
set_option maxRecDepth 100000 in
theorem ml_L_77 : Cond.methodLink RL 77 yX5_sees ∈ wG := wG_mk 495 rfl rfl
set_option maxRecDepth 100000 in
theorem im_X5_sees : Cond.instanceMethod yX5_sees ∈ wG := wG_mk 496 rfl rfl
set_option maxRecDepth 100000 in
theorem sel_X5_sees : Cond.selects RX5 yX5_sees yX5_sees ∈ wG := wG_mk 497 rfl rfl
set_option maxRecDepth 100000 in
theorem cod_X5_sees : Cond.code yX5_sees cX5_sees 1 (some .int) ∈ wG := wG_mk 498 rfl rfl
set_option maxRecDepth 100000 in
theorem ml_L_81 : Cond.methodLink RL 81 yX5_fits ∈ wG := wG_mk 499 rfl rfl
set_option maxRecDepth 100000 in
theorem im_X5_fits : Cond.instanceMethod yX5_fits ∈ wG := wG_mk 500 rfl rfl
set_option maxRecDepth 100000 in
theorem sel_X5_fits : Cond.selects RX5 yX5_fits yX5_fits ∈ wG := wG_mk 501 rfl rfl
set_option maxRecDepth 100000 in
theorem cod_X5_fits : Cond.code yX5_fits cX5_fits 2 (some .int) ∈ wG := wG_mk 502 rfl rfl
set_option maxRecDepth 100000 in
theorem ml_X5_171 : Cond.methodLink RX5 171 yX5_flawSeenAs ∈ wG := wG_mk 503 rfl rfl
set_option maxRecDepth 100000 in
theorem im_X5_flawSeenAs : Cond.instanceMethod yX5_flawSeenAs ∈ wG := wG_mk 505 rfl rfl
set_option maxRecDepth 100000 in
theorem cod_X5_flawSeenAs : Cond.code yX5_flawSeenAs cX5_flawSeenAs 5 (some .int) ∈ wG := wG_mk 506 rfl rfl
set_option maxRecDepth 100000 in
theorem ml_X5_207 : Cond.methodLink RX5 207 yX5_isFlaw ∈ wG := wG_mk 507 rfl rfl
set_option maxRecDepth 100000 in
theorem im_X5_isFlaw : Cond.instanceMethod yX5_isFlaw ∈ wG := wG_mk 509 rfl rfl
set_option maxRecDepth 100000 in
theorem cod_X5_isFlaw : Cond.code yX5_isFlaw cX5_isFlaw 2 (some .boolean) ∈ wG := wG_mk 510 rfl rfl
set_option maxRecDepth 100000 in
theorem ml_X5_210 : Cond.methodLink RX5 210 yX5_seenOfFlaw ∈ wG := wG_mk 511 rfl rfl
set_option maxRecDepth 100000 in
theorem im_X5_seenOfFlaw : Cond.instanceMethod yX5_seenOfFlaw ∈ wG := wG_mk 513 rfl rfl
set_option maxRecDepth 100000 in
theorem cod_X5_seenOfFlaw : Cond.code yX5_seenOfFlaw cX5_seenOfFlaw 2 (some .int) ∈ wG := wG_mk 514 rfl rfl
set_option maxRecDepth 100000 in
theorem ml_L_85 : Cond.methodLink RL 85 yX5_hidden ∈ wG := wG_mk 515 rfl rfl
set_option maxRecDepth 100000 in
theorem im_X5_hidden : Cond.instanceMethod yX5_hidden ∈ wG := wG_mk 516 rfl rfl
set_option maxRecDepth 100000 in
theorem sel_X5_hidden : Cond.selects RX5 yX5_hidden yX5_hidden ∈ wG := wG_mk 517 rfl rfl
set_option maxRecDepth 100000 in
theorem cod_X5_hidden : Cond.code yX5_hidden cX5_hidden 2 (some .int) ∈ wG := wG_mk 518 rfl rfl
set_option maxRecDepth 100000 in
theorem ml_L_89 : Cond.methodLink RL 89 yX5_halves ∈ wG := wG_mk 519 rfl rfl
set_option maxRecDepth 100000 in
theorem im_X5_halves : Cond.instanceMethod yX5_halves ∈ wG := wG_mk 520 rfl rfl
set_option maxRecDepth 100000 in
theorem sel_X5_halves : Cond.selects RX5 yX5_halves yX5_halves ∈ wG := wG_mk 521 rfl rfl
set_option maxRecDepth 100000 in
theorem cod_X5_halves : Cond.code yX5_halves cX5_halves 8 (some .int) ∈ wG := wG_mk 522 rfl rfl
set_option maxRecDepth 100000 in
theorem ml_X5_174 : Cond.methodLink RX5 174 yX5_netsOneWith ∈ wG := wG_mk 523 rfl rfl
set_option maxRecDepth 100000 in
theorem ml_X5_177 : Cond.methodLink RX5 177 yX5_leastMembers ∈ wG := wG_mk 524 rfl rfl
set_option maxRecDepth 100000 in
theorem stt_X5_leastMembers : Cond.static yX5_leastMembers ∈ wG := wG_mk 525 rfl rfl
set_option maxRecDepth 100000 in
theorem cod_X5_leastMembers : Cond.code yX5_leastMembers cX5_leastMembers 4 (some .int) ∈ wG := wG_mk 526 rfl rfl
set_option maxRecDepth 100000 in
theorem ml_X5_180 : Cond.methodLink RX5 180 yX5_leastNet ∈ wG := wG_mk 527 rfl rfl
set_option maxRecDepth 100000 in
theorem stt_X5_leastNet : Cond.static yX5_leastNet ∈ wG := wG_mk 528 rfl rfl
set_option maxRecDepth 100000 in
theorem cod_X5_leastNet : Cond.code yX5_leastNet cX5_leastNet 2 (some .int) ∈ wG := wG_mk 529 rfl rfl
set_option maxRecDepth 100000 in
theorem ml_L_93 : Cond.methodLink RL 93 yX5_image ∈ wG := wG_mk 530 rfl rfl
set_option maxRecDepth 100000 in
theorem im_X5_image : Cond.instanceMethod yX5_image ∈ wG := wG_mk 531 rfl rfl
set_option maxRecDepth 100000 in
theorem sel_X5_image : Cond.selects RX5 yX5_image yX5_image ∈ wG := wG_mk 532 rfl rfl
set_option maxRecDepth 100000 in
theorem cod_X5_image : Cond.code yX5_image cX5_image 2 (some .int) ∈ wG := wG_mk 533 rfl rfl
set_option maxRecDepth 100000 in
theorem ml_X5_183 : Cond.methodLink RX5 183 yX5_isImage ∈ wG := wG_mk 534 rfl rfl
set_option maxRecDepth 100000 in
theorem stt_X5_isImage : Cond.static yX5_isImage ∈ wG := wG_mk 535 rfl rfl
set_option maxRecDepth 100000 in
theorem cod_X5_isImage : Cond.code yX5_isImage cX5_isImage 1 (some .boolean) ∈ wG := wG_mk 536 rfl rfl
set_option maxRecDepth 100000 in
theorem im_X0_copyFrom : Cond.instanceMethod yX0_copyFrom ∈ wG := wG_mk 539 rfl rfl
set_option maxRecDepth 100000 in
theorem cod_X0_copyFrom : Cond.code yX0_copyFrom cX0_copyFrom 3 none ∈ wG := wG_mk 540 rfl rfl
set_option maxRecDepth 100000 in
theorem ml_L_97 : Cond.methodLink RL 97 yX5_restore ∈ wG := wG_mk 541 rfl rfl
set_option maxRecDepth 100000 in
theorem im_X5_restore : Cond.instanceMethod yX5_restore ∈ wG := wG_mk 542 rfl rfl
set_option maxRecDepth 100000 in
theorem sel_X5_restore : Cond.selects RX5 yX5_restore yX5_restore ∈ wG := wG_mk 543 rfl rfl
set_option maxRecDepth 100000 in
theorem cod_X5_restore : Cond.code yX5_restore cX5_restore 2 (some .int) ∈ wG := wG_mk 544 rfl rfl
set_option maxRecDepth 100000 in
theorem ml_L_101 : Cond.methodLink RL 101 yX5_count ∈ wG := wG_mk 545 rfl rfl
set_option maxRecDepth 100000 in
theorem im_X5_count : Cond.instanceMethod yX5_count ∈ wG := wG_mk 546 rfl rfl
set_option maxRecDepth 100000 in
theorem sel_X5_count : Cond.selects RX5 yX5_count yX5_count ∈ wG := wG_mk 547 rfl rfl
set_option maxRecDepth 100000 in
theorem cod_X5_count : Cond.code yX5_count cX5_count 2 (some .int) ∈ wG := wG_mk 548 rfl rfl
set_option maxRecDepth 100000 in
theorem im_X0_countNetsWithPoints : Cond.instanceMethod yX0_countNetsWithPoints ∈ wG := wG_mk 551 rfl rfl
set_option maxRecDepth 100000 in
theorem cod_X0_countNetsWithPoints : Cond.code yX0_countNetsWithPoints cX0_countNetsWithPoints 3 (some .int) ∈ wG := wG_mk 552 rfl rfl
set_option maxRecDepth 100000 in
theorem ml_X0_38 : Cond.methodLink RX0 38 yJ6_bitCount_0f7a4 ∈ wG := wG_mk 553 rfl rfl
set_option maxRecDepth 100000 in
theorem cl_L_10 : Cond.classLink RL 10 RX6 ∈ wG := wG_mk 554 rfl rfl
set_option maxRecDepth 100000 in
theorem ins_X6 : Cond.instantiable RX6 16 ∈ wG := wG_mk 555 rfl rfl
set_option maxRecDepth 100000 in
theorem ml_L_12 : Cond.methodLink RL 12 yX6_init ∈ wG := wG_mk 556 rfl rfl
set_option maxRecDepth 100000 in
theorem im_X6_init : Cond.instanceMethod yX6_init ∈ wG := wG_mk 557 rfl rfl
set_option maxRecDepth 100000 in
theorem cod_X6_init : Cond.code yX6_init cX6_init 1 none ∈ wG := wG_mk 558 rfl rfl
set_option maxRecDepth 100000 in
theorem ml_X6_1 : Cond.methodLink RX6 1 objectInit ∈ wG := wG_mk 559 rfl rfl
set_option maxRecDepth 100000 in
theorem fl_X6_7 : Cond.fieldLink RX6 7 "NeedlePairsModel" "state" "[I" ∈ wG := wG_mk 560 rfl rfl
set_option maxRecDepth 100000 in
theorem fl_X6_13 : Cond.fieldLink RX6 13 "NeedlePairsModel" "images" "[I" ∈ wG := wG_mk 561 rfl rfl
set_option maxRecDepth 100000 in
theorem fl_X6_16 : Cond.fieldLink RX6 16 "NeedlePairsModel" "isKept" "[Z" ∈ wG := wG_mk 562 rfl rfl
set_option maxRecDepth 100000 in
theorem fl_X6_20 : Cond.fieldLink RX6 20 "NeedlePairsModel" "pad" "[I" ∈ wG := wG_mk 563 rfl rfl
set_option maxRecDepth 100000 in
theorem fl_X6_126 : Cond.fieldLink RX6 126 "NeedlePairsModel" "said" "I" ∈ wG := wG_mk 564 rfl rfl
set_option maxRecDepth 100000 in
theorem fl_X6_23 : Cond.fieldLink RX6 23 "NeedlePairsModel" "leftOf" "[I" ∈ wG := wG_mk 565 rfl rfl
set_option maxRecDepth 100000 in
theorem fl_X6_26 : Cond.fieldLink RX6 26 "NeedlePairsModel" "rightOf" "[I" ∈ wG := wG_mk 566 rfl rfl
set_option maxRecDepth 100000 in
theorem fl_X6_29 : Cond.fieldLink RX6 29 "NeedlePairsModel" "isApart" "[Z" ∈ wG := wG_mk 567 rfl rfl
set_option maxRecDepth 100000 in
theorem fl_X6_72 : Cond.fieldLink RX6 72 "NeedlePairsModel" "tries" "I" ∈ wG := wG_mk 568 rfl rfl
set_option maxRecDepth 100000 in
theorem fl_X6_32 : Cond.fieldLink RX6 32 "NeedlePairsModel" "group" "[I" ∈ wG := wG_mk 569 rfl rfl
set_option maxRecDepth 100000 in
theorem fl_X6_35 : Cond.fieldLink RX6 35 "NeedlePairsModel" "isPair" "[Z" ∈ wG := wG_mk 570 rfl rfl
set_option maxRecDepth 100000 in
theorem fl_X6_38 : Cond.fieldLink RX6 38 "NeedlePairsModel" "isOne" "[Z" ∈ wG := wG_mk 571 rfl rfl
set_option maxRecDepth 100000 in
theorem fl_X6_41 : Cond.fieldLink RX6 41 "NeedlePairsModel" "order" "[I" ∈ wG := wG_mk 572 rfl rfl
set_option maxRecDepth 100000 in
theorem fl_X6_44 : Cond.fieldLink RX6 44 "NeedlePairsModel" "rest" "[I" ∈ wG := wG_mk 573 rfl rfl
set_option maxRecDepth 100000 in
theorem fl_X6_47 : Cond.fieldLink RX6 47 "NeedlePairsModel" "aside" "[I" ∈ wG := wG_mk 574 rfl rfl
set_option maxRecDepth 100000 in
theorem fl_X6_50 : Cond.fieldLink RX6 50 "NeedlePairsModel" "others" "[I" ∈ wG := wG_mk 575 rfl rfl
set_option maxRecDepth 100000 in
theorem arr_boolean : Cond.arrayClass .boolean ∈ wG := wG_mk 609 rfl rfl
set_option maxRecDepth 100000 in
theorem ml_L_17 : Cond.methodLink RL 17 yX6_point ∈ wG := wG_mk 610 rfl rfl
set_option maxRecDepth 100000 in
theorem im_X6_point : Cond.instanceMethod yX6_point ∈ wG := wG_mk 611 rfl rfl
set_option maxRecDepth 100000 in
theorem sel_X6_point : Cond.selects RX6 yX6_point yX6_point ∈ wG := wG_mk 612 rfl rfl
set_option maxRecDepth 100000 in
theorem cod_X6_point : Cond.code yX6_point cX6_point 5 (some .int) ∈ wG := wG_mk 613 rfl rfl
set_option maxRecDepth 100000 in
theorem ml_X6_57 : Cond.methodLink RX6 57 yX6_isNet ∈ wG := wG_mk 614 rfl rfl
set_option maxRecDepth 100000 in
theorem stt_X6_isNet : Cond.static yX6_isNet ∈ wG := wG_mk 615 rfl rfl
set_option maxRecDepth 100000 in
theorem cod_X6_isNet : Cond.code yX6_isNet cX6_isNet 1 (some .boolean) ∈ wG := wG_mk 616 rfl rfl
set_option maxRecDepth 100000 in
theorem ml_X6_53 : Cond.methodLink RX6 53 yX6_in ∈ wG := wG_mk 617 rfl rfl
set_option maxRecDepth 100000 in
theorem stt_X6_in : Cond.static yX6_in ∈ wG := wG_mk 618 rfl rfl
set_option maxRecDepth 100000 in
theorem cod_X6_in : Cond.code yX6_in cX6_in 3 (some .boolean) ∈ wG := wG_mk 619 rfl rfl
set_option maxRecDepth 100000 in
theorem ml_X6_61 : Cond.methodLink RX6 61 yX6_isHere ∈ wG := wG_mk 620 rfl rfl
set_option maxRecDepth 100000 in
theorem stt_X6_isHere : Cond.static yX6_isHere ∈ wG := wG_mk 621 rfl rfl
set_option maxRecDepth 100000 in
theorem cod_X6_isHere : Cond.code yX6_isHere cX6_isHere 2 (some .boolean) ∈ wG := wG_mk 622 rfl rfl
set_option maxRecDepth 100000 in
theorem ml_L_22 : Cond.methodLink RL 22 yX6_pop ∈ wG := wG_mk 623 rfl rfl
set_option maxRecDepth 100000 in
theorem im_X6_pop : Cond.instanceMethod yX6_pop ∈ wG := wG_mk 624 rfl rfl
set_option maxRecDepth 100000 in
theorem sel_X6_pop : Cond.selects RX6 yX6_pop yX6_pop ∈ wG := wG_mk 625 rfl rfl
set_option maxRecDepth 100000 in
theorem cod_X6_pop : Cond.code yX6_pop cX6_pop 1 (some .int) ∈ wG := wG_mk 626 rfl rfl
set_option maxRecDepth 100000 in
theorem ml_L_26 : Cond.methodLink RL 26 yX6_move ∈ wG := wG_mk 627 rfl rfl
set_option maxRecDepth 100000 in
theorem im_X6_move : Cond.instanceMethod yX6_move ∈ wG := wG_mk 628 rfl rfl
set_option maxRecDepth 100000 in
theorem sel_X6_move : Cond.selects RX6 yX6_move yX6_move ∈ wG := wG_mk 629 rfl rfl
set_option maxRecDepth 100000 in
theorem cod_X6_move : Cond.code yX6_move cX6_move 5 (some .int) ∈ wG := wG_mk 630 rfl rfl
set_option maxRecDepth 100000 in
theorem ml_X6_65 : Cond.methodLink RX6 65 yX6_isPoint ∈ wG := wG_mk 631 rfl rfl
set_option maxRecDepth 100000 in
theorem im_X6_isPoint : Cond.instanceMethod yX6_isPoint ∈ wG := wG_mk 633 rfl rfl
set_option maxRecDepth 100000 in
theorem cod_X6_isPoint : Cond.code yX6_isPoint cX6_isPoint 2 (some .boolean) ∈ wG := wG_mk 634 rfl rfl
set_option maxRecDepth 100000 in
theorem ml_L_31 : Cond.methodLink RL 31 yX6_near ∈ wG := wG_mk 635 rfl rfl
set_option maxRecDepth 100000 in
theorem im_X6_near : Cond.instanceMethod yX6_near ∈ wG := wG_mk 636 rfl rfl
set_option maxRecDepth 100000 in
theorem sel_X6_near : Cond.selects RX6 yX6_near yX6_near ∈ wG := wG_mk 637 rfl rfl
set_option maxRecDepth 100000 in
theorem cod_X6_near : Cond.code yX6_near cX6_near 3 (some .int) ∈ wG := wG_mk 638 rfl rfl
set_option maxRecDepth 100000 in
theorem ml_L_36 : Cond.methodLink RL 36 yX6_of ∈ wG := wG_mk 639 rfl rfl
set_option maxRecDepth 100000 in
theorem im_X6_of : Cond.instanceMethod yX6_of ∈ wG := wG_mk 640 rfl rfl
set_option maxRecDepth 100000 in
theorem sel_X6_of : Cond.selects RX6 yX6_of yX6_of ∈ wG := wG_mk 641 rfl rfl
set_option maxRecDepth 100000 in
theorem cod_X6_of : Cond.code yX6_of cX6_of 3 (some .int) ∈ wG := wG_mk 642 rfl rfl
set_option maxRecDepth 100000 in
theorem ml_L_40 : Cond.methodLink RL 40 yX6_far ∈ wG := wG_mk 643 rfl rfl
set_option maxRecDepth 100000 in
theorem im_X6_far : Cond.instanceMethod yX6_far ∈ wG := wG_mk 644 rfl rfl
set_option maxRecDepth 100000 in
theorem sel_X6_far : Cond.selects RX6 yX6_far yX6_far ∈ wG := wG_mk 645 rfl rfl
set_option maxRecDepth 100000 in
theorem cod_X6_far : Cond.code yX6_far cX6_far 3 (some .int) ∈ wG := wG_mk 646 rfl rfl
set_option maxRecDepth 100000 in
theorem ml_X6_68 : Cond.methodLink RX6 68 yX6_farOf ∈ wG := wG_mk 647 rfl rfl
set_option maxRecDepth 100000 in
theorem im_X6_farOf : Cond.instanceMethod yX6_farOf ∈ wG := wG_mk 649 rfl rfl
set_option maxRecDepth 100000 in
theorem cod_X6_farOf : Cond.code yX6_farOf cX6_farOf 5 (some .int) ∈ wG := wG_mk 650 rfl rfl
set_option maxRecDepth 100000 in
theorem ml_L_44 : Cond.methodLink RL 44 yX6_attempt ∈ wG := wG_mk 651 rfl rfl
set_option maxRecDepth 100000 in
theorem im_X6_attempt : Cond.instanceMethod yX6_attempt ∈ wG := wG_mk 652 rfl rfl
set_option maxRecDepth 100000 in
theorem sel_X6_attempt : Cond.selects RX6 yX6_attempt yX6_attempt ∈ wG := wG_mk 653 rfl rfl
set_option maxRecDepth 100000 in
theorem cod_X6_attempt : Cond.code yX6_attempt cX6_attempt 4 (some .int) ∈ wG := wG_mk 654 rfl rfl
set_option maxRecDepth 100000 in
theorem ml_X6_107 : Cond.methodLink RX6 107 yX6_layTries ∈ wG := wG_mk 655 rfl rfl
set_option maxRecDepth 100000 in
theorem im_X6_layTries : Cond.instanceMethod yX6_layTries ∈ wG := wG_mk 657 rfl rfl
set_option maxRecDepth 100000 in
theorem cod_X6_layTries : Cond.code yX6_layTries cX6_layTries 3 none ∈ wG := wG_mk 658 rfl rfl
set_option maxRecDepth 100000 in
theorem ml_X6_91 : Cond.methodLink RX6 91 yX6_layTree ∈ wG := wG_mk 659 rfl rfl
set_option maxRecDepth 100000 in
theorem im_X6_layTree : Cond.instanceMethod yX6_layTree ∈ wG := wG_mk 661 rfl rfl
set_option maxRecDepth 100000 in
theorem cod_X6_layTree : Cond.code yX6_layTree cX6_layTree 4 none ∈ wG := wG_mk 662 rfl rfl
set_option maxRecDepth 100000 in
theorem ml_X6_79 : Cond.methodLink RX6 79 yX6_nextPair ∈ wG := wG_mk 663 rfl rfl
set_option maxRecDepth 100000 in
theorem im_X6_nextPair : Cond.instanceMethod yX6_nextPair ∈ wG := wG_mk 665 rfl rfl
set_option maxRecDepth 100000 in
theorem cod_X6_nextPair : Cond.code yX6_nextPair cX6_nextPair 5 (some .int) ∈ wG := wG_mk 666 rfl rfl
set_option maxRecDepth 100000 in
theorem ml_X6_76 : Cond.methodLink RX6 76 yX6_canJoin ∈ wG := wG_mk 667 rfl rfl
set_option maxRecDepth 100000 in
theorem im_X6_canJoin : Cond.instanceMethod yX6_canJoin ∈ wG := wG_mk 669 rfl rfl
set_option maxRecDepth 100000 in
theorem cod_X6_canJoin : Cond.code yX6_canJoin cX6_canJoin 4 (some .boolean) ∈ wG := wG_mk 670 rfl rfl
set_option maxRecDepth 100000 in
theorem ml_X6_83 : Cond.methodLink RX6 83 yX6_join ∈ wG := wG_mk 671 rfl rfl
set_option maxRecDepth 100000 in
theorem im_X6_join : Cond.instanceMethod yX6_join ∈ wG := wG_mk 673 rfl rfl
set_option maxRecDepth 100000 in
theorem cod_X6_join : Cond.code yX6_join cX6_join 5 none ∈ wG := wG_mk 674 rfl rfl
set_option maxRecDepth 100000 in
theorem ml_X6_87 : Cond.methodLink RX6 87 yX6_addTry ∈ wG := wG_mk 675 rfl rfl
set_option maxRecDepth 100000 in
theorem im_X6_addTry : Cond.instanceMethod yX6_addTry ∈ wG := wG_mk 677 rfl rfl
set_option maxRecDepth 100000 in
theorem cod_X6_addTry : Cond.code yX6_addTry cX6_addTry 5 none ∈ wG := wG_mk 678 rfl rfl
set_option maxRecDepth 100000 in
theorem ml_X6_95 : Cond.methodLink RX6 95 yX6_layNeighbours ∈ wG := wG_mk 679 rfl rfl
set_option maxRecDepth 100000 in
theorem im_X6_layNeighbours : Cond.instanceMethod yX6_layNeighbours ∈ wG := wG_mk 681 rfl rfl
set_option maxRecDepth 100000 in
theorem cod_X6_layNeighbours : Cond.code yX6_layNeighbours cX6_layNeighbours 7 none ∈ wG := wG_mk 682 rfl rfl
set_option maxRecDepth 100000 in
theorem ml_X6_110 : Cond.methodLink RX6 110 yX6_isTry ∈ wG := wG_mk 683 rfl rfl
set_option maxRecDepth 100000 in
theorem im_X6_isTry : Cond.instanceMethod yX6_isTry ∈ wG := wG_mk 685 rfl rfl
set_option maxRecDepth 100000 in
theorem cod_X6_isTry : Cond.code yX6_isTry cX6_isTry 2 (some .boolean) ∈ wG := wG_mk 686 rfl rfl
set_option maxRecDepth 100000 in
theorem ml_X6_113 : Cond.methodLink RX6 113 yX6_seen ∈ wG := wG_mk 687 rfl rfl
set_option maxRecDepth 100000 in
theorem im_X6_seen : Cond.instanceMethod yX6_seen ∈ wG := wG_mk 689 rfl rfl
set_option maxRecDepth 100000 in
theorem cod_X6_seen : Cond.code yX6_seen cX6_seen 3 (some .int) ∈ wG := wG_mk 690 rfl rfl
set_option maxRecDepth 100000 in
theorem ml_X6_101 : Cond.methodLink RX6 101 yX6_layOnes ∈ wG := wG_mk 691 rfl rfl
set_option maxRecDepth 100000 in
theorem im_X6_layOnes : Cond.instanceMethod yX6_layOnes ∈ wG := wG_mk 693 rfl rfl
set_option maxRecDepth 100000 in
theorem cod_X6_layOnes : Cond.code yX6_layOnes cX6_layOnes 3 none ∈ wG := wG_mk 694 rfl rfl
set_option maxRecDepth 100000 in
theorem ml_X6_98 : Cond.methodLink RX6 98 yX6_pairOf ∈ wG := wG_mk 695 rfl rfl
set_option maxRecDepth 100000 in
theorem stt_X6_pairOf : Cond.static yX6_pairOf ∈ wG := wG_mk 696 rfl rfl
set_option maxRecDepth 100000 in
theorem cod_X6_pairOf : Cond.code yX6_pairOf cX6_pairOf 4 (some .int) ∈ wG := wG_mk 697 rfl rfl
set_option maxRecDepth 100000 in
theorem ml_X6_104 : Cond.methodLink RX6 104 yX6_conducts ∈ wG := wG_mk 698 rfl rfl
set_option maxRecDepth 100000 in
theorem im_X6_conducts : Cond.instanceMethod yX6_conducts ∈ wG := wG_mk 700 rfl rfl
set_option maxRecDepth 100000 in
theorem cod_X6_conducts : Cond.code yX6_conducts cX6_conducts 4 (some .boolean) ∈ wG := wG_mk 701 rfl rfl
set_option maxRecDepth 100000 in
theorem ml_L_48 : Cond.methodLink RL 48 yX6_time ∈ wG := wG_mk 702 rfl rfl
set_option maxRecDepth 100000 in
theorem im_X6_time : Cond.instanceMethod yX6_time ∈ wG := wG_mk 703 rfl rfl
set_option maxRecDepth 100000 in
theorem sel_X6_time : Cond.selects RX6 yX6_time yX6_time ∈ wG := wG_mk 704 rfl rfl
set_option maxRecDepth 100000 in
theorem cod_X6_time : Cond.code yX6_time cX6_time 3 (some .int) ∈ wG := wG_mk 705 rfl rfl
set_option maxRecDepth 100000 in
theorem ml_X6_123 : Cond.methodLink RX6 123 yX6_timeOf ∈ wG := wG_mk 706 rfl rfl
set_option maxRecDepth 100000 in
theorem im_X6_timeOf : Cond.instanceMethod yX6_timeOf ∈ wG := wG_mk 708 rfl rfl
set_option maxRecDepth 100000 in
theorem cod_X6_timeOf : Cond.code yX6_timeOf cX6_timeOf 9 (some .int) ∈ wG := wG_mk 709 rfl rfl
set_option maxRecDepth 100000 in
theorem ml_X6_117 : Cond.methodLink RX6 117 yX6_size ∈ wG := wG_mk 710 rfl rfl
set_option maxRecDepth 100000 in
theorem stt_X6_size : Cond.static yX6_size ∈ wG := wG_mk 711 rfl rfl
set_option maxRecDepth 100000 in
theorem cod_X6_size : Cond.code yX6_size cX6_size 1 (some .int) ∈ wG := wG_mk 712 rfl rfl
set_option maxRecDepth 100000 in
theorem ml_X6_120 : Cond.methodLink RX6 120 yX6_greater ∈ wG := wG_mk 713 rfl rfl
set_option maxRecDepth 100000 in
theorem stt_X6_greater : Cond.static yX6_greater ∈ wG := wG_mk 714 rfl rfl
set_option maxRecDepth 100000 in
theorem cod_X6_greater : Cond.code yX6_greater cX6_greater 2 (some .int) ∈ wG := wG_mk 715 rfl rfl
set_option maxRecDepth 100000 in
theorem ml_L_52 : Cond.methodLink RL 52 yX6_say ∈ wG := wG_mk 716 rfl rfl
set_option maxRecDepth 100000 in
theorem im_X6_say : Cond.instanceMethod yX6_say ∈ wG := wG_mk 717 rfl rfl
set_option maxRecDepth 100000 in
theorem sel_X6_say : Cond.selects RX6 yX6_say yX6_say ∈ wG := wG_mk 718 rfl rfl
set_option maxRecDepth 100000 in
theorem cod_X6_say : Cond.code yX6_say cX6_say 2 (some .int) ∈ wG := wG_mk 719 rfl rfl
set_option maxRecDepth 100000 in
theorem ml_L_56 : Cond.methodLink RL 56 yX6_wipe ∈ wG := wG_mk 720 rfl rfl
set_option maxRecDepth 100000 in
theorem im_X6_wipe : Cond.instanceMethod yX6_wipe ∈ wG := wG_mk 721 rfl rfl
set_option maxRecDepth 100000 in
theorem sel_X6_wipe : Cond.selects RX6 yX6_wipe yX6_wipe ∈ wG := wG_mk 722 rfl rfl
set_option maxRecDepth 100000 in
theorem cod_X6_wipe : Cond.code yX6_wipe cX6_wipe 2 (some .int) ∈ wG := wG_mk 723 rfl rfl
set_option maxRecDepth 100000 in
theorem ml_L_60 : Cond.methodLink RL 60 yX6_told ∈ wG := wG_mk 724 rfl rfl
set_option maxRecDepth 100000 in
theorem im_X6_told : Cond.instanceMethod yX6_told ∈ wG := wG_mk 725 rfl rfl
set_option maxRecDepth 100000 in
theorem sel_X6_told : Cond.selects RX6 yX6_told yX6_told ∈ wG := wG_mk 726 rfl rfl
set_option maxRecDepth 100000 in
theorem cod_X6_told : Cond.code yX6_told cX6_told 3 (some .int) ∈ wG := wG_mk 727 rfl rfl
set_option maxRecDepth 100000 in
theorem ml_X6_129 : Cond.methodLink RX6 129 yX6_timeOfOrder ∈ wG := wG_mk 728 rfl rfl
set_option maxRecDepth 100000 in
theorem im_X6_timeOfOrder : Cond.instanceMethod yX6_timeOfOrder ∈ wG := wG_mk 730 rfl rfl
set_option maxRecDepth 100000 in
theorem cod_X6_timeOfOrder : Cond.code yX6_timeOfOrder cX6_timeOfOrder 3 (some .int) ∈ wG := wG_mk 731 rfl rfl
set_option maxRecDepth 100000 in
theorem ml_L_64 : Cond.methodLink RL 64 yX6_best ∈ wG := wG_mk 732 rfl rfl
set_option maxRecDepth 100000 in
theorem im_X6_best : Cond.instanceMethod yX6_best ∈ wG := wG_mk 733 rfl rfl
set_option maxRecDepth 100000 in
theorem sel_X6_best : Cond.selects RX6 yX6_best yX6_best ∈ wG := wG_mk 734 rfl rfl
set_option maxRecDepth 100000 in
theorem cod_X6_best : Cond.code yX6_best cX6_best 2 (some .int) ∈ wG := wG_mk 735 rfl rfl
set_option maxRecDepth 100000 in
theorem ml_X6_138 : Cond.methodLink RX6 138 yX6_layBest ∈ wG := wG_mk 736 rfl rfl
set_option maxRecDepth 100000 in
theorem im_X6_layBest : Cond.instanceMethod yX6_layBest ∈ wG := wG_mk 738 rfl rfl
set_option maxRecDepth 100000 in
theorem cod_X6_layBest : Cond.code yX6_layBest cX6_layBest 7 none ∈ wG := wG_mk 739 rfl rfl
set_option maxRecDepth 100000 in
theorem ml_X6_135 : Cond.methodLink RX6 135 yX6_layRest ∈ wG := wG_mk 740 rfl rfl
set_option maxRecDepth 100000 in
theorem im_X6_layRest : Cond.instanceMethod yX6_layRest ∈ wG := wG_mk 742 rfl rfl
set_option maxRecDepth 100000 in
theorem cod_X6_layRest : Cond.code yX6_layRest cX6_layRest 4 none ∈ wG := wG_mk 743 rfl rfl
set_option maxRecDepth 100000 in
theorem ml_X6_132 : Cond.methodLink RX6 132 yX6_restFrom ∈ wG := wG_mk 744 rfl rfl
set_option maxRecDepth 100000 in
theorem im_X6_restFrom : Cond.instanceMethod yX6_restFrom ∈ wG := wG_mk 746 rfl rfl
set_option maxRecDepth 100000 in
theorem cod_X6_restFrom : Cond.code yX6_restFrom cX6_restFrom 6 (some .int) ∈ wG := wG_mk 747 rfl rfl
set_option maxRecDepth 100000 in
theorem ml_X6_141 : Cond.methodLink RX6 141 yX6_orderAt ∈ wG := wG_mk 748 rfl rfl
set_option maxRecDepth 100000 in
theorem im_X6_orderAt : Cond.instanceMethod yX6_orderAt ∈ wG := wG_mk 750 rfl rfl
set_option maxRecDepth 100000 in
theorem cod_X6_orderAt : Cond.code yX6_orderAt cX6_orderAt 2 (some .int) ∈ wG := wG_mk 751 rfl rfl
set_option maxRecDepth 100000 in
theorem ml_L_68 : Cond.methodLink RL 68 yX6_nearest ∈ wG := wG_mk 752 rfl rfl
set_option maxRecDepth 100000 in
theorem im_X6_nearest : Cond.instanceMethod yX6_nearest ∈ wG := wG_mk 753 rfl rfl
set_option maxRecDepth 100000 in
theorem sel_X6_nearest : Cond.selects RX6 yX6_nearest yX6_nearest ∈ wG := wG_mk 754 rfl rfl
set_option maxRecDepth 100000 in
theorem cod_X6_nearest : Cond.code yX6_nearest cX6_nearest 8 (some .int) ∈ wG := wG_mk 755 rfl rfl
set_option maxRecDepth 100000 in
theorem ml_L_72 : Cond.methodLink RL 72 yX6_loosen ∈ wG := wG_mk 756 rfl rfl
set_option maxRecDepth 100000 in
theorem im_X6_loosen : Cond.instanceMethod yX6_loosen ∈ wG := wG_mk 757 rfl rfl
set_option maxRecDepth 100000 in
theorem sel_X6_loosen : Cond.selects RX6 yX6_loosen yX6_loosen ∈ wG := wG_mk 758 rfl rfl
set_option maxRecDepth 100000 in
theorem cod_X6_loosen : Cond.code yX6_loosen cX6_loosen 3 (some .int) ∈ wG := wG_mk 759 rfl rfl
set_option maxRecDepth 100000 in
theorem ml_X6_144 : Cond.methodLink RX6 144 yX6_looseMany ∈ wG := wG_mk 760 rfl rfl
set_option maxRecDepth 100000 in
theorem im_X6_looseMany : Cond.instanceMethod yX6_looseMany ∈ wG := wG_mk 762 rfl rfl
set_option maxRecDepth 100000 in
theorem cod_X6_looseMany : Cond.code yX6_looseMany cX6_looseMany 3 (some .int) ∈ wG := wG_mk 763 rfl rfl
set_option maxRecDepth 100000 in
theorem ml_L_76 : Cond.methodLink RL 76 yX6_join_ ∈ wG := wG_mk 764 rfl rfl
set_option maxRecDepth 100000 in
theorem im_X6_join_ : Cond.instanceMethod yX6_join_ ∈ wG := wG_mk 765 rfl rfl
set_option maxRecDepth 100000 in
theorem sel_X6_join_ : Cond.selects RX6 yX6_join_ yX6_join_ ∈ wG := wG_mk 766 rfl rfl
set_option maxRecDepth 100000 in
theorem cod_X6_join_ : Cond.code yX6_join_ cX6_join_ 4 (some .int) ∈ wG := wG_mk 767 rfl rfl
set_option maxRecDepth 100000 in
theorem ml_X6_147 : Cond.methodLink RX6 147 yX6_shortMany ∈ wG := wG_mk 768 rfl rfl
set_option maxRecDepth 100000 in
theorem im_X6_shortMany : Cond.instanceMethod yX6_shortMany ∈ wG := wG_mk 770 rfl rfl
set_option maxRecDepth 100000 in
theorem cod_X6_shortMany : Cond.code yX6_shortMany cX6_shortMany 3 (some .int) ∈ wG := wG_mk 771 rfl rfl
set_option maxRecDepth 100000 in
theorem ml_L_80 : Cond.methodLink RL 80 yX6_sees ∈ wG := wG_mk 772 rfl rfl
set_option maxRecDepth 100000 in
theorem im_X6_sees : Cond.instanceMethod yX6_sees ∈ wG := wG_mk 773 rfl rfl
set_option maxRecDepth 100000 in
theorem sel_X6_sees : Cond.selects RX6 yX6_sees yX6_sees ∈ wG := wG_mk 774 rfl rfl
set_option maxRecDepth 100000 in
theorem cod_X6_sees : Cond.code yX6_sees cX6_sees 1 (some .int) ∈ wG := wG_mk 775 rfl rfl
set_option maxRecDepth 100000 in
theorem ml_L_84 : Cond.methodLink RL 84 yX6_fits ∈ wG := wG_mk 776 rfl rfl
set_option maxRecDepth 100000 in
theorem im_X6_fits : Cond.instanceMethod yX6_fits ∈ wG := wG_mk 777 rfl rfl
set_option maxRecDepth 100000 in
theorem sel_X6_fits : Cond.selects RX6 yX6_fits yX6_fits ∈ wG := wG_mk 778 rfl rfl
set_option maxRecDepth 100000 in
theorem cod_X6_fits : Cond.code yX6_fits cX6_fits 5 (some .int) ∈ wG := wG_mk 779 rfl rfl
set_option maxRecDepth 100000 in
theorem ml_X6_150 : Cond.methodLink RX6 150 yX6_isSingle ∈ wG := wG_mk 780 rfl rfl
set_option maxRecDepth 100000 in
theorem im_X6_isSingle : Cond.instanceMethod yX6_isSingle ∈ wG := wG_mk 782 rfl rfl
set_option maxRecDepth 100000 in
theorem cod_X6_isSingle : Cond.code yX6_isSingle cX6_isSingle 2 (some .boolean) ∈ wG := wG_mk 783 rfl rfl
set_option maxRecDepth 100000 in
theorem ml_X6_153 : Cond.methodLink RX6 153 yX6_seenBy ∈ wG := wG_mk 784 rfl rfl
set_option maxRecDepth 100000 in
theorem im_X6_seenBy : Cond.instanceMethod yX6_seenBy ∈ wG := wG_mk 786 rfl rfl
set_option maxRecDepth 100000 in
theorem cod_X6_seenBy : Cond.code yX6_seenBy cX6_seenBy 4 (some .int) ∈ wG := wG_mk 787 rfl rfl
set_option maxRecDepth 100000 in
theorem ml_L_88 : Cond.methodLink RL 88 yX6_hidden ∈ wG := wG_mk 788 rfl rfl
set_option maxRecDepth 100000 in
theorem im_X6_hidden : Cond.instanceMethod yX6_hidden ∈ wG := wG_mk 789 rfl rfl
set_option maxRecDepth 100000 in
theorem sel_X6_hidden : Cond.selects RX6 yX6_hidden yX6_hidden ∈ wG := wG_mk 790 rfl rfl
set_option maxRecDepth 100000 in
theorem cod_X6_hidden : Cond.code yX6_hidden cX6_hidden 5 (some .int) ∈ wG := wG_mk 791 rfl rfl
set_option maxRecDepth 100000 in
theorem ml_L_92 : Cond.methodLink RL 92 yX6_halves ∈ wG := wG_mk 792 rfl rfl
set_option maxRecDepth 100000 in
theorem im_X6_halves : Cond.instanceMethod yX6_halves ∈ wG := wG_mk 793 rfl rfl
set_option maxRecDepth 100000 in
theorem sel_X6_halves : Cond.selects RX6 yX6_halves yX6_halves ∈ wG := wG_mk 794 rfl rfl
set_option maxRecDepth 100000 in
theorem cod_X6_halves : Cond.code yX6_halves cX6_halves 7 (some .int) ∈ wG := wG_mk 795 rfl rfl
set_option maxRecDepth 100000 in
theorem ml_X6_156 : Cond.methodLink RX6 156 yX6_isAnyOne ∈ wG := wG_mk 796 rfl rfl
set_option maxRecDepth 100000 in
theorem im_X6_isAnyOne : Cond.instanceMethod yX6_isAnyOne ∈ wG := wG_mk 798 rfl rfl
set_option maxRecDepth 100000 in
theorem cod_X6_isAnyOne : Cond.code yX6_isAnyOne cX6_isAnyOne 6 (some .boolean) ∈ wG := wG_mk 799 rfl rfl
set_option maxRecDepth 100000 in
theorem ml_L_96 : Cond.methodLink RL 96 yX6_image ∈ wG := wG_mk 800 rfl rfl
set_option maxRecDepth 100000 in
theorem im_X6_image : Cond.instanceMethod yX6_image ∈ wG := wG_mk 801 rfl rfl
set_option maxRecDepth 100000 in
theorem sel_X6_image : Cond.selects RX6 yX6_image yX6_image ∈ wG := wG_mk 802 rfl rfl
set_option maxRecDepth 100000 in
theorem cod_X6_image : Cond.code yX6_image cX6_image 3 (some .int) ∈ wG := wG_mk 803 rfl rfl
set_option maxRecDepth 100000 in
theorem ml_L_100 : Cond.methodLink RL 100 yX6_restore ∈ wG := wG_mk 804 rfl rfl
set_option maxRecDepth 100000 in
theorem im_X6_restore : Cond.instanceMethod yX6_restore ∈ wG := wG_mk 805 rfl rfl
set_option maxRecDepth 100000 in
theorem sel_X6_restore : Cond.selects RX6 yX6_restore yX6_restore ∈ wG := wG_mk 806 rfl rfl
set_option maxRecDepth 100000 in
theorem cod_X6_restore : Cond.code yX6_restore cX6_restore 3 (some .int) ∈ wG := wG_mk 807 rfl rfl
set_option maxRecDepth 100000 in
theorem ml_L_104 : Cond.methodLink RL 104 yX6_count ∈ wG := wG_mk 808 rfl rfl
set_option maxRecDepth 100000 in
theorem im_X6_count : Cond.instanceMethod yX6_count ∈ wG := wG_mk 809 rfl rfl
set_option maxRecDepth 100000 in
theorem sel_X6_count : Cond.selects RX6 yX6_count yX6_count ∈ wG := wG_mk 810 rfl rfl
set_option maxRecDepth 100000 in
theorem cod_X6_count : Cond.code yX6_count cX6_count 2 (some .int) ∈ wG := wG_mk 811 rfl rfl
set_option maxRecDepth 100000 in
theorem ml_X6_159 : Cond.methodLink RX6 159 yX6_apartMany ∈ wG := wG_mk 812 rfl rfl
set_option maxRecDepth 100000 in
theorem im_X6_apartMany : Cond.instanceMethod yX6_apartMany ∈ wG := wG_mk 814 rfl rfl
set_option maxRecDepth 100000 in
theorem cod_X6_apartMany : Cond.code yX6_apartMany cX6_apartMany 3 (some .int) ∈ wG := wG_mk 815 rfl rfl
set_option maxRecDepth 100000 in
theorem ml_X6_162 : Cond.methodLink RX6 162 yX6_netsUsed ∈ wG := wG_mk 816 rfl rfl
set_option maxRecDepth 100000 in
theorem im_X6_netsUsed : Cond.instanceMethod yX6_netsUsed ∈ wG := wG_mk 818 rfl rfl
set_option maxRecDepth 100000 in
theorem cod_X6_netsUsed : Cond.code yX6_netsUsed cX6_netsUsed 3 (some .int) ∈ wG := wG_mk 819 rfl rfl
set_option maxRecDepth 100000 in
theorem lay_X0_0 : u_lay RX0 TX0 0 ∈ wG := wG_mk 109 rfl rfl
set_option maxRecDepth 100000 in
theorem lay_X0_1 : u_lay RX0 TX0 1 ∈ wG := wG_mk 111 rfl rfl
set_option maxRecDepth 100000 in
theorem lay_X0_2 : u_lay RX0 TX0 2 ∈ wG := wG_mk 113 rfl rfl
set_option maxRecDepth 100000 in
theorem lay_X0_3 : u_lay RX0 TX0 3 ∈ wG := wG_mk 115 rfl rfl
set_option maxRecDepth 100000 in
theorem lay_X0_4 : u_lay RX0 TX0 4 ∈ wG := wG_mk 117 rfl rfl
set_option maxRecDepth 100000 in
theorem lay_X0_5 : u_lay RX0 TX0 5 ∈ wG := wG_mk 119 rfl rfl
set_option maxRecDepth 100000 in
theorem lay_X0_6 : u_lay RX0 TX0 6 ∈ wG := wG_mk 121 rfl rfl
theorem inlX0 : ∀ w ∈ u_ws RX0 TX0 7, w ∈ wG := List.forall_mem_cons.mpr ⟨lay_X0_0, List.forall_mem_cons.mpr ⟨lay_X0_1, List.forall_mem_cons.mpr ⟨lay_X0_2, List.forall_mem_cons.mpr ⟨lay_X0_3, List.forall_mem_cons.mpr ⟨lay_X0_4, List.forall_mem_cons.mpr ⟨lay_X0_5, List.forall_mem_cons.mpr ⟨lay_X0_6, fun _ h => absurd h List.not_mem_nil⟩⟩⟩⟩⟩⟩⟩
set_option maxRecDepth 100000 in
theorem lay_X1_0 : u_lay RX1 TX1 0 ∈ wG := wG_mk 187 rfl rfl
set_option maxRecDepth 100000 in
theorem lay_X1_1 : u_lay RX1 TX1 1 ∈ wG := wG_mk 189 rfl rfl
set_option maxRecDepth 100000 in
theorem lay_X1_2 : u_lay RX1 TX1 2 ∈ wG := wG_mk 191 rfl rfl
set_option maxRecDepth 100000 in
theorem lay_X1_3 : u_lay RX1 TX1 3 ∈ wG := wG_mk 193 rfl rfl
set_option maxRecDepth 100000 in
theorem lay_X1_4 : u_lay RX1 TX1 4 ∈ wG := wG_mk 195 rfl rfl
set_option maxRecDepth 100000 in
theorem lay_X1_5 : u_lay RX1 TX1 5 ∈ wG := wG_mk 197 rfl rfl
theorem inlX1 : ∀ w ∈ u_ws RX1 TX1 6, w ∈ wG := List.forall_mem_cons.mpr ⟨lay_X1_0, List.forall_mem_cons.mpr ⟨lay_X1_1, List.forall_mem_cons.mpr ⟨lay_X1_2, List.forall_mem_cons.mpr ⟨lay_X1_3, List.forall_mem_cons.mpr ⟨lay_X1_4, List.forall_mem_cons.mpr ⟨lay_X1_5, fun _ h => absurd h List.not_mem_nil⟩⟩⟩⟩⟩⟩
set_option maxRecDepth 100000 in
theorem lay_X2_0 : u_lay RX2 TX2 0 ∈ wG := wG_mk 172 rfl rfl
set_option maxRecDepth 100000 in
theorem lay_X2_1 : u_lay RX2 TX2 1 ∈ wG := wG_mk 174 rfl rfl
set_option maxRecDepth 100000 in
theorem lay_X2_2 : u_lay RX2 TX2 2 ∈ wG := wG_mk 176 rfl rfl
theorem inlX2 : ∀ w ∈ u_ws RX2 TX2 3, w ∈ wG := List.forall_mem_cons.mpr ⟨lay_X2_0, List.forall_mem_cons.mpr ⟨lay_X2_1, List.forall_mem_cons.mpr ⟨lay_X2_2, fun _ h => absurd h List.not_mem_nil⟩⟩⟩
set_option maxRecDepth 100000 in
theorem lay_X3_0 : u_lay RX3 TX3 0 ∈ wG := wG_mk 209 rfl rfl
set_option maxRecDepth 100000 in
theorem lay_X3_1 : u_lay RX3 TX3 1 ∈ wG := wG_mk 211 rfl rfl
theorem inlX3 : ∀ w ∈ u_ws RX3 TX3 2, w ∈ wG := List.forall_mem_cons.mpr ⟨lay_X3_0, List.forall_mem_cons.mpr ⟨lay_X3_1, fun _ h => absurd h List.not_mem_nil⟩⟩
set_option maxRecDepth 100000 in
theorem lay_X4_0 : u_lay RX4 TX4 0 ∈ wG := wG_mk 144 rfl rfl
set_option maxRecDepth 100000 in
theorem lay_X4_1 : u_lay RX4 TX4 1 ∈ wG := wG_mk 146 rfl rfl
set_option maxRecDepth 100000 in
theorem lay_X4_2 : u_lay RX4 TX4 2 ∈ wG := wG_mk 148 rfl rfl
set_option maxRecDepth 100000 in
theorem lay_X4_3 : u_lay RX4 TX4 3 ∈ wG := wG_mk 150 rfl rfl
set_option maxRecDepth 100000 in
theorem lay_X4_4 : u_lay RX4 TX4 4 ∈ wG := wG_mk 152 rfl rfl
set_option maxRecDepth 100000 in
theorem lay_X4_5 : u_lay RX4 TX4 5 ∈ wG := wG_mk 154 rfl rfl
theorem inlX4 : ∀ w ∈ u_ws RX4 TX4 6, w ∈ wG := List.forall_mem_cons.mpr ⟨lay_X4_0, List.forall_mem_cons.mpr ⟨lay_X4_1, List.forall_mem_cons.mpr ⟨lay_X4_2, List.forall_mem_cons.mpr ⟨lay_X4_3, List.forall_mem_cons.mpr ⟨lay_X4_4, List.forall_mem_cons.mpr ⟨lay_X4_5, fun _ h => absurd h List.not_mem_nil⟩⟩⟩⟩⟩⟩
set_option maxRecDepth 100000 in
theorem lay_X5_0 : u_lay RX5 TX5 0 ∈ wG := wG_mk 221 rfl rfl
set_option maxRecDepth 100000 in
theorem lay_X5_1 : u_lay RX5 TX5 1 ∈ wG := wG_mk 223 rfl rfl
set_option maxRecDepth 100000 in
theorem lay_X5_2 : u_lay RX5 TX5 2 ∈ wG := wG_mk 225 rfl rfl
set_option maxRecDepth 100000 in
theorem lay_X5_3 : u_lay RX5 TX5 3 ∈ wG := wG_mk 227 rfl rfl
set_option maxRecDepth 100000 in
theorem lay_X5_4 : u_lay RX5 TX5 4 ∈ wG := wG_mk 229 rfl rfl
set_option maxRecDepth 100000 in
theorem lay_X5_5 : u_lay RX5 TX5 5 ∈ wG := wG_mk 231 rfl rfl
theorem inlX5 : ∀ w ∈ u_ws RX5 TX5 6, w ∈ wG := List.forall_mem_cons.mpr ⟨lay_X5_0, List.forall_mem_cons.mpr ⟨lay_X5_1, List.forall_mem_cons.mpr ⟨lay_X5_2, List.forall_mem_cons.mpr ⟨lay_X5_3, List.forall_mem_cons.mpr ⟨lay_X5_4, List.forall_mem_cons.mpr ⟨lay_X5_5, fun _ h => absurd h List.not_mem_nil⟩⟩⟩⟩⟩⟩
set_option maxRecDepth 100000 in
theorem lay_X6_0 : u_lay RX6 TX6 0 ∈ wG := wG_mk 576 rfl rfl
set_option maxRecDepth 100000 in
theorem lay_X6_1 : u_lay RX6 TX6 1 ∈ wG := wG_mk 578 rfl rfl
set_option maxRecDepth 100000 in
theorem lay_X6_2 : u_lay RX6 TX6 2 ∈ wG := wG_mk 580 rfl rfl
set_option maxRecDepth 100000 in
theorem lay_X6_3 : u_lay RX6 TX6 3 ∈ wG := wG_mk 582 rfl rfl
set_option maxRecDepth 100000 in
theorem lay_X6_4 : u_lay RX6 TX6 4 ∈ wG := wG_mk 584 rfl rfl
set_option maxRecDepth 100000 in
theorem lay_X6_5 : u_lay RX6 TX6 5 ∈ wG := wG_mk 586 rfl rfl
set_option maxRecDepth 100000 in
theorem lay_X6_6 : u_lay RX6 TX6 6 ∈ wG := wG_mk 588 rfl rfl
set_option maxRecDepth 100000 in
theorem lay_X6_7 : u_lay RX6 TX6 7 ∈ wG := wG_mk 590 rfl rfl
set_option maxRecDepth 100000 in
theorem lay_X6_8 : u_lay RX6 TX6 8 ∈ wG := wG_mk 592 rfl rfl
set_option maxRecDepth 100000 in
theorem lay_X6_9 : u_lay RX6 TX6 9 ∈ wG := wG_mk 594 rfl rfl
set_option maxRecDepth 100000 in
theorem lay_X6_10 : u_lay RX6 TX6 10 ∈ wG := wG_mk 596 rfl rfl
set_option maxRecDepth 100000 in
theorem lay_X6_11 : u_lay RX6 TX6 11 ∈ wG := wG_mk 598 rfl rfl
set_option maxRecDepth 100000 in
theorem lay_X6_12 : u_lay RX6 TX6 12 ∈ wG := wG_mk 600 rfl rfl
set_option maxRecDepth 100000 in
theorem lay_X6_13 : u_lay RX6 TX6 13 ∈ wG := wG_mk 602 rfl rfl
set_option maxRecDepth 100000 in
theorem lay_X6_14 : u_lay RX6 TX6 14 ∈ wG := wG_mk 604 rfl rfl
set_option maxRecDepth 100000 in
theorem lay_X6_15 : u_lay RX6 TX6 15 ∈ wG := wG_mk 606 rfl rfl
theorem inlX6 : ∀ w ∈ u_ws RX6 TX6 16, w ∈ wG := List.forall_mem_cons.mpr ⟨lay_X6_0, List.forall_mem_cons.mpr ⟨lay_X6_1, List.forall_mem_cons.mpr ⟨lay_X6_2, List.forall_mem_cons.mpr ⟨lay_X6_3, List.forall_mem_cons.mpr ⟨lay_X6_4, List.forall_mem_cons.mpr ⟨lay_X6_5, List.forall_mem_cons.mpr ⟨lay_X6_6, List.forall_mem_cons.mpr ⟨lay_X6_7, List.forall_mem_cons.mpr ⟨lay_X6_8, List.forall_mem_cons.mpr ⟨lay_X6_9, List.forall_mem_cons.mpr ⟨lay_X6_10, List.forall_mem_cons.mpr ⟨lay_X6_11, List.forall_mem_cons.mpr ⟨lay_X6_12, List.forall_mem_cons.mpr ⟨lay_X6_13, List.forall_mem_cons.mpr ⟨lay_X6_14, List.forall_mem_cons.mpr ⟨lay_X6_15, fun _ h => absurd h List.not_mem_nil⟩⟩⟩⟩⟩⟩⟩⟩⟩⟩⟩⟩⟩⟩⟩⟩
def nestFs : List (String × Nat × String × String × String) := [(RX4, 50, "NeedlePairs$Board", "nets", "[I"), (RX5, 79, "NeedlePairs$Board", "nets", "[I"), (RX1, 45, "NeedlePairs$Board", "xs", "[I"), (RX5, 69, "NeedlePairs$Board", "xs", "[I"), (RX1, 50, "NeedlePairs$Board", "ys", "[I"), (RX5, 73, "NeedlePairs$Board", "ys", "[I"), (RX5, 53, "NeedlePairs$Board", "points", "I"), (RX4, 41, "NeedlePairs$Board", "points", "I"), (RX5, 76, "NeedlePairs$Board", "nearness", "I"), (RX4, 78, "NeedlePairs$Board", "nearness", "I"), (RX5, 82, "NeedlePairs$Board", "looseSet", "I"), (RX5, 108, "NeedlePairs$Board", "shortSet", "I"), (RX1, 39, "NeedlePairs$Tries", "left", "[I"), (RX5, 99, "NeedlePairs$Tries", "left", "[I"), (RX1, 42, "NeedlePairs$Tries", "right", "[I"), (RX5, 102, "NeedlePairs$Tries", "right", "[I"), (RX1, 36, "NeedlePairs$Tries", "total", "I"), (RX5, 129, "NeedlePairs$Tries", "total", "I"), (RX5, 190, "NeedlePairs$Tries", "ofTrees", "I"), (RX5, 142, "NeedlePairs$Needles", "bestOrder", "LNeedlePairs$Order;"), (RX5, 154, "NeedlePairs$Needles", "nearestOrder", "LNeedlePairs$Order;"), (RX5, 122, "NeedlePairs$Pad", "length", "I"), (RX4, 69, "NeedlePairs", "LESSER_NET", "[I"), (RX4, 72, "NeedlePairs", "GREATER_NET", "[I")]
def nestMs : List (String × Nat × MethodName) := [(RX5, 11, yX0_init), (RX5, 18, yX4_init), (RX5, 25, yX1_init), (RX1, 24, yX2_init), (RX5, 32, yX3_init), (RX5, 56, yX0_addPoint), (RX5, 196, yX4_layOut), (RX4, 53, yX0_distance), (RX4, 61, yX5_isIn), (RX4, 81, yX0_isLeftOf), (RX5, 199, yX1_measure), (RX5, 63, yX0_removeLastPoint), (RX0, 34, yX5_withMember), (RX5, 66, yX0_hasPoint), (RX5, 92, yX0_distance), (RX5, 96, yX4_hasTry), (RX5, 105, yX4_isOfNeighbours), (RX5, 111, yX4_conducts), (RX4, 84, yX5_netsOneWith), (RX5, 203, yX4_seenSet), (RX5, 119, yX1_leap), (RX5, 125, yX3_write), (RX5, 132, yX3_tellsOrderOf), (RX3, 23, yX5_isIn), (RX5, 135, yX3_tryAt), (RX5, 139, yX1_planBest), (RX1, 97, yX5_isIn), (RX1, 77, yX2_clear), (RX1, 93, yX2_append), (RX5, 146, yX2_tell), (RX5, 151, yX1_planNearest), (RX5, 186, yX0_copyFrom), (RX5, 193, yX0_countNetsWithPoints)]
theorem nf_X4_50 : (RX4, 50, "NeedlePairs$Board", "nets", "[I") ∈ nestFs := List.mem_of_getElem? (i := 0) rfl
theorem nf_X5_79 : (RX5, 79, "NeedlePairs$Board", "nets", "[I") ∈ nestFs := List.mem_of_getElem? (i := 1) rfl
theorem nf_X1_45 : (RX1, 45, "NeedlePairs$Board", "xs", "[I") ∈ nestFs := List.mem_of_getElem? (i := 2) rfl
theorem nf_X5_69 : (RX5, 69, "NeedlePairs$Board", "xs", "[I") ∈ nestFs := List.mem_of_getElem? (i := 3) rfl
theorem nf_X1_50 : (RX1, 50, "NeedlePairs$Board", "ys", "[I") ∈ nestFs := List.mem_of_getElem? (i := 4) rfl
theorem nf_X5_73 : (RX5, 73, "NeedlePairs$Board", "ys", "[I") ∈ nestFs := List.mem_of_getElem? (i := 5) rfl
theorem nf_X5_53 : (RX5, 53, "NeedlePairs$Board", "points", "I") ∈ nestFs := List.mem_of_getElem? (i := 6) rfl
theorem nf_X4_41 : (RX4, 41, "NeedlePairs$Board", "points", "I") ∈ nestFs := List.mem_of_getElem? (i := 7) rfl
theorem nf_X5_76 : (RX5, 76, "NeedlePairs$Board", "nearness", "I") ∈ nestFs := List.mem_of_getElem? (i := 8) rfl
theorem nf_X4_78 : (RX4, 78, "NeedlePairs$Board", "nearness", "I") ∈ nestFs := List.mem_of_getElem? (i := 9) rfl
theorem nf_X5_82 : (RX5, 82, "NeedlePairs$Board", "looseSet", "I") ∈ nestFs := List.mem_of_getElem? (i := 10) rfl
theorem nf_X5_108 : (RX5, 108, "NeedlePairs$Board", "shortSet", "I") ∈ nestFs := List.mem_of_getElem? (i := 11) rfl
theorem nf_X1_39 : (RX1, 39, "NeedlePairs$Tries", "left", "[I") ∈ nestFs := List.mem_of_getElem? (i := 12) rfl
theorem nf_X5_99 : (RX5, 99, "NeedlePairs$Tries", "left", "[I") ∈ nestFs := List.mem_of_getElem? (i := 13) rfl
theorem nf_X1_42 : (RX1, 42, "NeedlePairs$Tries", "right", "[I") ∈ nestFs := List.mem_of_getElem? (i := 14) rfl
theorem nf_X5_102 : (RX5, 102, "NeedlePairs$Tries", "right", "[I") ∈ nestFs := List.mem_of_getElem? (i := 15) rfl
theorem nf_X1_36 : (RX1, 36, "NeedlePairs$Tries", "total", "I") ∈ nestFs := List.mem_of_getElem? (i := 16) rfl
theorem nf_X5_129 : (RX5, 129, "NeedlePairs$Tries", "total", "I") ∈ nestFs := List.mem_of_getElem? (i := 17) rfl
theorem nf_X5_190 : (RX5, 190, "NeedlePairs$Tries", "ofTrees", "I") ∈ nestFs := List.mem_of_getElem? (i := 18) rfl
theorem nf_X5_142 : (RX5, 142, "NeedlePairs$Needles", "bestOrder", "LNeedlePairs$Order;") ∈ nestFs := List.mem_of_getElem? (i := 19) rfl
theorem nf_X5_154 : (RX5, 154, "NeedlePairs$Needles", "nearestOrder", "LNeedlePairs$Order;") ∈ nestFs := List.mem_of_getElem? (i := 20) rfl
theorem nf_X5_122 : (RX5, 122, "NeedlePairs$Pad", "length", "I") ∈ nestFs := List.mem_of_getElem? (i := 21) rfl
theorem nf_X4_69 : (RX4, 69, "NeedlePairs", "LESSER_NET", "[I") ∈ nestFs := List.mem_of_getElem? (i := 22) rfl
theorem nf_X4_72 : (RX4, 72, "NeedlePairs", "GREATER_NET", "[I") ∈ nestFs := List.mem_of_getElem? (i := 23) rfl
theorem nm_X5_11 : (RX5, 11, yX0_init) ∈ nestMs := List.mem_of_getElem? (i := 0) rfl
theorem nm_X5_18 : (RX5, 18, yX4_init) ∈ nestMs := List.mem_of_getElem? (i := 1) rfl
theorem nm_X5_25 : (RX5, 25, yX1_init) ∈ nestMs := List.mem_of_getElem? (i := 2) rfl
theorem nm_X1_24 : (RX1, 24, yX2_init) ∈ nestMs := List.mem_of_getElem? (i := 3) rfl
theorem nm_X5_32 : (RX5, 32, yX3_init) ∈ nestMs := List.mem_of_getElem? (i := 4) rfl
theorem nm_X5_56 : (RX5, 56, yX0_addPoint) ∈ nestMs := List.mem_of_getElem? (i := 5) rfl
theorem nm_X5_196 : (RX5, 196, yX4_layOut) ∈ nestMs := List.mem_of_getElem? (i := 6) rfl
theorem nm_X4_53 : (RX4, 53, yX0_distance) ∈ nestMs := List.mem_of_getElem? (i := 7) rfl
theorem nm_X4_61 : (RX4, 61, yX5_isIn) ∈ nestMs := List.mem_of_getElem? (i := 8) rfl
theorem nm_X4_81 : (RX4, 81, yX0_isLeftOf) ∈ nestMs := List.mem_of_getElem? (i := 9) rfl
theorem nm_X5_199 : (RX5, 199, yX1_measure) ∈ nestMs := List.mem_of_getElem? (i := 10) rfl
theorem nm_X5_63 : (RX5, 63, yX0_removeLastPoint) ∈ nestMs := List.mem_of_getElem? (i := 11) rfl
theorem nm_X0_34 : (RX0, 34, yX5_withMember) ∈ nestMs := List.mem_of_getElem? (i := 12) rfl
theorem nm_X5_66 : (RX5, 66, yX0_hasPoint) ∈ nestMs := List.mem_of_getElem? (i := 13) rfl
theorem nm_X5_92 : (RX5, 92, yX0_distance) ∈ nestMs := List.mem_of_getElem? (i := 14) rfl
theorem nm_X5_96 : (RX5, 96, yX4_hasTry) ∈ nestMs := List.mem_of_getElem? (i := 15) rfl
theorem nm_X5_105 : (RX5, 105, yX4_isOfNeighbours) ∈ nestMs := List.mem_of_getElem? (i := 16) rfl
theorem nm_X5_111 : (RX5, 111, yX4_conducts) ∈ nestMs := List.mem_of_getElem? (i := 17) rfl
theorem nm_X4_84 : (RX4, 84, yX5_netsOneWith) ∈ nestMs := List.mem_of_getElem? (i := 18) rfl
theorem nm_X5_203 : (RX5, 203, yX4_seenSet) ∈ nestMs := List.mem_of_getElem? (i := 19) rfl
theorem nm_X5_119 : (RX5, 119, yX1_leap) ∈ nestMs := List.mem_of_getElem? (i := 20) rfl
theorem nm_X5_125 : (RX5, 125, yX3_write) ∈ nestMs := List.mem_of_getElem? (i := 21) rfl
theorem nm_X5_132 : (RX5, 132, yX3_tellsOrderOf) ∈ nestMs := List.mem_of_getElem? (i := 22) rfl
theorem nm_X3_23 : (RX3, 23, yX5_isIn) ∈ nestMs := List.mem_of_getElem? (i := 23) rfl
theorem nm_X5_135 : (RX5, 135, yX3_tryAt) ∈ nestMs := List.mem_of_getElem? (i := 24) rfl
theorem nm_X5_139 : (RX5, 139, yX1_planBest) ∈ nestMs := List.mem_of_getElem? (i := 25) rfl
theorem nm_X1_97 : (RX1, 97, yX5_isIn) ∈ nestMs := List.mem_of_getElem? (i := 26) rfl
theorem nm_X1_77 : (RX1, 77, yX2_clear) ∈ nestMs := List.mem_of_getElem? (i := 27) rfl
theorem nm_X1_93 : (RX1, 93, yX2_append) ∈ nestMs := List.mem_of_getElem? (i := 28) rfl
theorem nm_X5_146 : (RX5, 146, yX2_tell) ∈ nestMs := List.mem_of_getElem? (i := 29) rfl
theorem nm_X5_151 : (RX5, 151, yX1_planNearest) ∈ nestMs := List.mem_of_getElem? (i := 30) rfl
theorem nm_X5_186 : (RX5, 186, yX0_copyFrom) ∈ nestMs := List.mem_of_getElem? (i := 31) rfl
theorem nm_X5_193 : (RX5, 193, yX0_countNetsWithPoints) ∈ nestMs := List.mem_of_getElem? (i := 32) rfl
theorem ki_X5_init : Cond.instanceMethod yX5_init ∈ wG ∧ Cond.initialized (yX5_init).cls ∈ wG ∧ Cond.code yX5_init cX5_init 2 none ∈ wG := ⟨im_X5_init, ini_X5, cod_X5_init⟩
theorem ki_X0_init : Cond.instanceMethod yX0_init ∈ wG ∧ Cond.initialized (yX0_init).cls ∈ wG ∧ Cond.code yX0_init cX0_init 1 none ∈ wG := ⟨im_X0_init, ini_X0, cod_X0_init⟩
theorem ki_X4_init : Cond.instanceMethod yX4_init ∈ wG ∧ Cond.initialized (yX4_init).cls ∈ wG ∧ Cond.code yX4_init cX4_init 1 none ∈ wG := ⟨im_X4_init, ini_X4, cod_X4_init⟩
theorem ki_X1_init : Cond.instanceMethod yX1_init ∈ wG ∧ Cond.initialized (yX1_init).cls ∈ wG ∧ Cond.code yX1_init cX1_init 1 none ∈ wG := ⟨im_X1_init, ini_X1, cod_X1_init⟩
theorem ki_X2_init : Cond.instanceMethod yX2_init ∈ wG ∧ Cond.initialized (yX2_init).cls ∈ wG ∧ Cond.code yX2_init cX2_init 1 none ∈ wG := ⟨im_X2_init, ini_X2, cod_X2_init⟩
theorem ki_X3_init : Cond.instanceMethod yX3_init ∈ wG ∧ Cond.initialized (yX3_init).cls ∈ wG ∧ Cond.code yX3_init cX3_init 1 none ∈ wG := ⟨im_X3_init, ini_X3, cod_X3_init⟩
theorem kv_X5_point : Cond.instanceMethod yX5_point ∈ wG ∧ Cond.selects (yX5_point).cls yX5_point yX5_point ∈ wG ∧ Cond.initialized (yX5_point).cls ∈ wG ∧ Cond.code yX5_point cX5_point 5 (some .int) ∈ wG := ⟨im_X5_point, sel_X5_point, ini_X5, cod_X5_point⟩
theorem ks_X5_isNet : Cond.static yX5_isNet ∈ wG ∧ Cond.initialized (yX5_isNet).cls ∈ wG ∧ Cond.code yX5_isNet cX5_isNet 1 (some .boolean) ∈ wG := ⟨stt_X5_isNet, ini_X5, cod_X5_isNet⟩
theorem ks_X5_isOnBoard : Cond.static yX5_isOnBoard ∈ wG ∧ Cond.initialized (yX5_isOnBoard).cls ∈ wG ∧ Cond.code yX5_isOnBoard cX5_isOnBoard 2 (some .boolean) ∈ wG := ⟨stt_X5_isOnBoard, ini_X5, cod_X5_isOnBoard⟩
theorem kv_X0_addPoint : Cond.instanceMethod yX0_addPoint ∈ wG ∧ Cond.selects (yX0_addPoint).cls yX0_addPoint yX0_addPoint ∈ wG ∧ Cond.initialized (yX0_addPoint).cls ∈ wG ∧ Cond.code yX0_addPoint cX0_addPoint 5 (some .int) ∈ wG := ⟨im_X0_addPoint, sel_X0_addPoint, ini_X0, cod_X0_addPoint⟩
theorem kv_X5_layTriesAnew : Cond.instanceMethod yX5_layTriesAnew ∈ wG ∧ Cond.selects (yX5_layTriesAnew).cls yX5_layTriesAnew yX5_layTriesAnew ∈ wG ∧ Cond.initialized (yX5_layTriesAnew).cls ∈ wG ∧ Cond.code yX5_layTriesAnew cX5_layTriesAnew 1 none ∈ wG := ⟨im_X5_layTriesAnew, sel_X5_layTriesAnew, ini_X5, cod_X5_layTriesAnew⟩
theorem kv_X4_layOut : Cond.instanceMethod yX4_layOut ∈ wG ∧ Cond.selects (yX4_layOut).cls yX4_layOut yX4_layOut ∈ wG ∧ Cond.initialized (yX4_layOut).cls ∈ wG ∧ Cond.code yX4_layOut cX4_layOut 2 none ∈ wG := ⟨im_X4_layOut, sel_X4_layOut, ini_X4, cod_X4_layOut⟩
theorem kv_X4_growTrees : Cond.instanceMethod yX4_growTrees ∈ wG ∧ Cond.selects (yX4_growTrees).cls yX4_growTrees yX4_growTrees ∈ wG ∧ Cond.initialized (yX4_growTrees).cls ∈ wG ∧ Cond.code yX4_growTrees cX4_growTrees 4 none ∈ wG := ⟨im_X4_growTrees, sel_X4_growTrees, ini_X4, cod_X4_growTrees⟩
theorem kv_X4_joinNextPair : Cond.instanceMethod yX4_joinNextPair ∈ wG ∧ Cond.selects (yX4_joinNextPair).cls yX4_joinNextPair yX4_joinNextPair ∈ wG ∧ Cond.initialized (yX4_joinNextPair).cls ∈ wG ∧ Cond.code yX4_joinNextPair cX4_joinNextPair 8 (some .boolean) ∈ wG := ⟨im_X4_joinNextPair, sel_X4_joinNextPair, ini_X4, cod_X4_joinNextPair⟩
theorem kv_X0_distance : Cond.instanceMethod yX0_distance ∈ wG ∧ Cond.selects (yX0_distance).cls yX0_distance yX0_distance ∈ wG ∧ Cond.initialized (yX0_distance).cls ∈ wG ∧ Cond.code yX0_distance cX0_distance 5 (some .int) ∈ wG := ⟨im_X0_distance, sel_X0_distance, ini_X0, cod_X0_distance⟩
theorem kv_X4_mergeGroups : Cond.instanceMethod yX4_mergeGroups ∈ wG ∧ Cond.selects (yX4_mergeGroups).cls yX4_mergeGroups yX4_mergeGroups ∈ wG ∧ Cond.initialized (yX4_mergeGroups).cls ∈ wG ∧ Cond.code yX4_mergeGroups cX4_mergeGroups 4 none ∈ wG := ⟨im_X4_mergeGroups, sel_X4_mergeGroups, ini_X4, cod_X4_mergeGroups⟩
theorem kv_X4_addTrees : Cond.instanceMethod yX4_addTrees ∈ wG ∧ Cond.selects (yX4_addTrees).cls yX4_addTrees yX4_addTrees ∈ wG ∧ Cond.initialized (yX4_addTrees).cls ∈ wG ∧ Cond.code yX4_addTrees cX4_addTrees 5 none ∈ wG := ⟨im_X4_addTrees, sel_X4_addTrees, ini_X4, cod_X4_addTrees⟩
theorem ks_X5_isIn : Cond.static yX5_isIn ∈ wG ∧ Cond.initialized (yX5_isIn).cls ∈ wG ∧ Cond.code yX5_isIn cX5_isIn 2 (some .boolean) ∈ wG := ⟨stt_X5_isIn, ini_X5, cod_X5_isIn⟩
theorem kv_X4_addTry : Cond.instanceMethod yX4_addTry ∈ wG ∧ Cond.selects (yX4_addTry).cls yX4_addTry yX4_addTry ∈ wG ∧ Cond.initialized (yX4_addTry).cls ∈ wG ∧ Cond.code yX4_addTry cX4_addTry 5 none ∈ wG := ⟨im_X4_addTry, sel_X4_addTry, ini_X4, cod_X4_addTry⟩
theorem kv_X0_isLeftOf : Cond.instanceMethod yX0_isLeftOf ∈ wG ∧ Cond.selects (yX0_isLeftOf).cls yX0_isLeftOf yX0_isLeftOf ∈ wG ∧ Cond.initialized (yX0_isLeftOf).cls ∈ wG ∧ Cond.code yX0_isLeftOf cX0_isLeftOf 3 (some .boolean) ∈ wG := ⟨im_X0_isLeftOf, sel_X0_isLeftOf, ini_X0, cod_X0_isLeftOf⟩
theorem kv_X4_addNeighbours : Cond.instanceMethod yX4_addNeighbours ∈ wG ∧ Cond.selects (yX4_addNeighbours).cls yX4_addNeighbours yX4_addNeighbours ∈ wG ∧ Cond.initialized (yX4_addNeighbours).cls ∈ wG ∧ Cond.code yX4_addNeighbours cX4_addNeighbours 3 none ∈ wG := ⟨im_X4_addNeighbours, sel_X4_addNeighbours, ini_X4, cod_X4_addNeighbours⟩
theorem kv_X4_addNearestPair : Cond.instanceMethod yX4_addNearestPair ∈ wG ∧ Cond.selects (yX4_addNearestPair).cls yX4_addNearestPair yX4_addNearestPair ∈ wG ∧ Cond.initialized (yX4_addNearestPair).cls ∈ wG ∧ Cond.code yX4_addNearestPair cX4_addNearestPair 10 none ∈ wG := ⟨im_X4_addNearestPair, sel_X4_addNearestPair, ini_X4, cod_X4_addNearestPair⟩
theorem kv_X1_measure : Cond.instanceMethod yX1_measure ∈ wG ∧ Cond.selects (yX1_measure).cls yX1_measure yX1_measure ∈ wG ∧ Cond.initialized (yX1_measure).cls ∈ wG ∧ Cond.code yX1_measure cX1_measure 7 none ∈ wG := ⟨im_X1_measure, sel_X1_measure, ini_X1, cod_X1_measure⟩
theorem ks_X1_longer : Cond.static yX1_longer ∈ wG ∧ Cond.initialized (yX1_longer).cls ∈ wG ∧ Cond.code yX1_longer cX1_longer 2 (some .int) ∈ wG := ⟨stt_X1_longer, ini_X1, cod_X1_longer⟩
theorem ks_Math_abs : Cond.static Lib.Math.abs.name ∈ wG ∧ Cond.initialized "java/lang/Math" ∈ wG ∧ Cond.code Lib.Math.abs.name Lib.Math.abs.code 1 (some .int) ∈ wG := ⟨stt_Math_abs, ini_J9, cod_Math_abs⟩
theorem ks_Math_max : Cond.static Lib.Math.max.name ∈ wG ∧ Cond.initialized "java/lang/Math" ∈ wG ∧ Cond.code Lib.Math.max.name Lib.Math.max.code 2 (some .int) ∈ wG := ⟨stt_Math_max, ini_J9, cod_Math_max⟩
theorem ks_X1_way : Cond.static yX1_way ∈ wG ∧ Cond.initialized (yX1_way).cls ∈ wG ∧ Cond.code yX1_way cX1_way 3 (some .int) ∈ wG := ⟨stt_X1_way, ini_X1, cod_X1_way⟩
theorem kv_X5_pop : Cond.instanceMethod yX5_pop ∈ wG ∧ Cond.selects (yX5_pop).cls yX5_pop yX5_pop ∈ wG ∧ Cond.initialized (yX5_pop).cls ∈ wG ∧ Cond.code yX5_pop cX5_pop 1 (some .int) ∈ wG := ⟨im_X5_pop, sel_X5_pop, ini_X5, cod_X5_pop⟩
theorem kv_X0_removeLastPoint : Cond.instanceMethod yX0_removeLastPoint ∈ wG ∧ Cond.selects (yX0_removeLastPoint).cls yX0_removeLastPoint yX0_removeLastPoint ∈ wG ∧ Cond.initialized (yX0_removeLastPoint).cls ∈ wG ∧ Cond.code yX0_removeLastPoint cX0_removeLastPoint 1 none ∈ wG := ⟨im_X0_removeLastPoint, sel_X0_removeLastPoint, ini_X0, cod_X0_removeLastPoint⟩
theorem ks_X5_withMember : Cond.static yX5_withMember ∈ wG ∧ Cond.initialized (yX5_withMember).cls ∈ wG ∧ Cond.code yX5_withMember cX5_withMember 3 (some .int) ∈ wG := ⟨stt_X5_withMember, ini_X5, cod_X5_withMember⟩
theorem kv_X5_move : Cond.instanceMethod yX5_move ∈ wG ∧ Cond.selects (yX5_move).cls yX5_move yX5_move ∈ wG ∧ Cond.initialized (yX5_move).cls ∈ wG ∧ Cond.code yX5_move cX5_move 5 (some .int) ∈ wG := ⟨im_X5_move, sel_X5_move, ini_X5, cod_X5_move⟩
theorem kv_X0_hasPoint : Cond.instanceMethod yX0_hasPoint ∈ wG ∧ Cond.selects (yX0_hasPoint).cls yX0_hasPoint yX0_hasPoint ∈ wG ∧ Cond.initialized (yX0_hasPoint).cls ∈ wG ∧ Cond.code yX0_hasPoint cX0_hasPoint 2 (some .boolean) ∈ wG := ⟨im_X0_hasPoint, sel_X0_hasPoint, ini_X0, cod_X0_hasPoint⟩
theorem kv_X5_near : Cond.instanceMethod yX5_near ∈ wG ∧ Cond.selects (yX5_near).cls yX5_near yX5_near ∈ wG ∧ Cond.initialized (yX5_near).cls ∈ wG ∧ Cond.code yX5_near cX5_near 3 (some .int) ∈ wG := ⟨im_X5_near, sel_X5_near, ini_X5, cod_X5_near⟩
theorem kv_X5_of : Cond.instanceMethod yX5_of ∈ wG ∧ Cond.selects (yX5_of).cls yX5_of yX5_of ∈ wG ∧ Cond.initialized (yX5_of).cls ∈ wG ∧ Cond.code yX5_of cX5_of 3 (some .int) ∈ wG := ⟨im_X5_of, sel_X5_of, ini_X5, cod_X5_of⟩
theorem ks_X5_asNumber : Cond.static yX5_asNumber ∈ wG ∧ Cond.initialized (yX5_asNumber).cls ∈ wG ∧ Cond.code yX5_asNumber cX5_asNumber 1 (some .int) ∈ wG := ⟨stt_X5_asNumber, ini_X5, cod_X5_asNumber⟩
theorem kv_X5_far : Cond.instanceMethod yX5_far ∈ wG ∧ Cond.selects (yX5_far).cls yX5_far yX5_far ∈ wG ∧ Cond.initialized (yX5_far).cls ∈ wG ∧ Cond.code yX5_far cX5_far 3 (some .int) ∈ wG := ⟨im_X5_far, sel_X5_far, ini_X5, cod_X5_far⟩
theorem kv_X5_attempt : Cond.instanceMethod yX5_attempt ∈ wG ∧ Cond.selects (yX5_attempt).cls yX5_attempt yX5_attempt ∈ wG ∧ Cond.initialized (yX5_attempt).cls ∈ wG ∧ Cond.code yX5_attempt cX5_attempt 3 (some .int) ∈ wG := ⟨im_X5_attempt, sel_X5_attempt, ini_X5, cod_X5_attempt⟩
theorem kv_X4_hasTry : Cond.instanceMethod yX4_hasTry ∈ wG ∧ Cond.selects (yX4_hasTry).cls yX4_hasTry yX4_hasTry ∈ wG ∧ Cond.initialized (yX4_hasTry).cls ∈ wG ∧ Cond.code yX4_hasTry cX4_hasTry 2 (some .boolean) ∈ wG := ⟨im_X4_hasTry, sel_X4_hasTry, ini_X4, cod_X4_hasTry⟩
theorem kv_X4_isOfNeighbours : Cond.instanceMethod yX4_isOfNeighbours ∈ wG ∧ Cond.selects (yX4_isOfNeighbours).cls yX4_isOfNeighbours yX4_isOfNeighbours ∈ wG ∧ Cond.initialized (yX4_isOfNeighbours).cls ∈ wG ∧ Cond.code yX4_isOfNeighbours cX4_isOfNeighbours 2 (some .boolean) ∈ wG := ⟨im_X4_isOfNeighbours, sel_X4_isOfNeighbours, ini_X4, cod_X4_isOfNeighbours⟩
theorem kv_X4_conducts : Cond.instanceMethod yX4_conducts ∈ wG ∧ Cond.selects (yX4_conducts).cls yX4_conducts yX4_conducts ∈ wG ∧ Cond.initialized (yX4_conducts).cls ∈ wG ∧ Cond.code yX4_conducts cX4_conducts 7 (some .boolean) ∈ wG := ⟨im_X4_conducts, sel_X4_conducts, ini_X4, cod_X4_conducts⟩
theorem ks_X5_netsOneWith : Cond.static yX5_netsOneWith ∈ wG ∧ Cond.initialized (yX5_netsOneWith).cls ∈ wG ∧ Cond.code yX5_netsOneWith cX5_netsOneWith 6 (some .int) ∈ wG := ⟨stt_X5_netsOneWith, ini_X5, cod_X5_netsOneWith⟩
theorem kv_X5_seenNow : Cond.instanceMethod yX5_seenNow ∈ wG ∧ Cond.selects (yX5_seenNow).cls yX5_seenNow yX5_seenNow ∈ wG ∧ Cond.initialized (yX5_seenNow).cls ∈ wG ∧ Cond.code yX5_seenNow cX5_seenNow 1 (some .int) ∈ wG := ⟨im_X5_seenNow, sel_X5_seenNow, ini_X5, cod_X5_seenNow⟩
theorem kv_X4_seenSet : Cond.instanceMethod yX4_seenSet ∈ wG ∧ Cond.selects (yX4_seenSet).cls yX4_seenSet yX4_seenSet ∈ wG ∧ Cond.initialized (yX4_seenSet).cls ∈ wG ∧ Cond.code yX4_seenSet cX4_seenSet 6 (some .int) ∈ wG := ⟨im_X4_seenSet, sel_X4_seenSet, ini_X4, cod_X4_seenSet⟩
theorem kv_X5_time : Cond.instanceMethod yX5_time ∈ wG ∧ Cond.selects (yX5_time).cls yX5_time yX5_time ∈ wG ∧ Cond.initialized (yX5_time).cls ∈ wG ∧ Cond.code yX5_time cX5_time 3 (some .int) ∈ wG := ⟨im_X5_time, sel_X5_time, ini_X5, cod_X5_time⟩
theorem kv_X1_leap : Cond.instanceMethod yX1_leap ∈ wG ∧ Cond.selects (yX1_leap).cls yX1_leap yX1_leap ∈ wG ∧ Cond.initialized (yX1_leap).cls ∈ wG ∧ Cond.code yX1_leap cX1_leap 3 (some .int) ∈ wG := ⟨im_X1_leap, sel_X1_leap, ini_X1, cod_X1_leap⟩
theorem kv_X5_say : Cond.instanceMethod yX5_say ∈ wG ∧ Cond.selects (yX5_say).cls yX5_say yX5_say ∈ wG ∧ Cond.initialized (yX5_say).cls ∈ wG ∧ Cond.code yX5_say cX5_say 2 (some .int) ∈ wG := ⟨im_X5_say, sel_X5_say, ini_X5, cod_X5_say⟩
theorem kv_X3_write : Cond.instanceMethod yX3_write ∈ wG ∧ Cond.selects (yX3_write).cls yX3_write yX3_write ∈ wG ∧ Cond.initialized (yX3_write).cls ∈ wG ∧ Cond.code yX3_write cX3_write 2 none ∈ wG := ⟨im_X3_write, sel_X3_write, ini_X3, cod_X3_write⟩
theorem kv_X5_wipe : Cond.instanceMethod yX5_wipe ∈ wG ∧ Cond.selects (yX5_wipe).cls yX5_wipe yX5_wipe ∈ wG ∧ Cond.initialized (yX5_wipe).cls ∈ wG ∧ Cond.code yX5_wipe cX5_wipe 2 (some .int) ∈ wG := ⟨im_X5_wipe, sel_X5_wipe, ini_X5, cod_X5_wipe⟩
theorem kv_X5_told : Cond.instanceMethod yX5_told ∈ wG ∧ Cond.selects (yX5_told).cls yX5_told yX5_told ∈ wG ∧ Cond.initialized (yX5_told).cls ∈ wG ∧ Cond.code yX5_told cX5_told 5 (some .int) ∈ wG := ⟨im_X5_told, sel_X5_told, ini_X5, cod_X5_told⟩
theorem kv_X3_tellsOrderOf : Cond.instanceMethod yX3_tellsOrderOf ∈ wG ∧ Cond.selects (yX3_tellsOrderOf).cls yX3_tellsOrderOf yX3_tellsOrderOf ∈ wG ∧ Cond.initialized (yX3_tellsOrderOf).cls ∈ wG ∧ Cond.code yX3_tellsOrderOf cX3_tellsOrderOf 5 (some .boolean) ∈ wG := ⟨im_X3_tellsOrderOf, sel_X3_tellsOrderOf, ini_X3, cod_X3_tellsOrderOf⟩
theorem kv_X3_tryAt : Cond.instanceMethod yX3_tryAt ∈ wG ∧ Cond.selects (yX3_tryAt).cls yX3_tryAt yX3_tryAt ∈ wG ∧ Cond.initialized (yX3_tryAt).cls ∈ wG ∧ Cond.code yX3_tryAt cX3_tryAt 2 (some .int) ∈ wG := ⟨im_X3_tryAt, sel_X3_tryAt, ini_X3, cod_X3_tryAt⟩
theorem kv_X5_best : Cond.instanceMethod yX5_best ∈ wG ∧ Cond.selects (yX5_best).cls yX5_best yX5_best ∈ wG ∧ Cond.initialized (yX5_best).cls ∈ wG ∧ Cond.code yX5_best cX5_best 2 (some .int) ∈ wG := ⟨im_X5_best, sel_X5_best, ini_X5, cod_X5_best⟩
theorem kv_X1_planBest : Cond.instanceMethod yX1_planBest ∈ wG ∧ Cond.selects (yX1_planBest).cls yX1_planBest yX1_planBest ∈ wG ∧ Cond.initialized (yX1_planBest).cls ∈ wG ∧ Cond.code yX1_planBest cX1_planBest 1 none ∈ wG := ⟨im_X1_planBest, sel_X1_planBest, ini_X1, cod_X1_planBest⟩
theorem kv_X1_weighOnward : Cond.instanceMethod yX1_weighOnward ∈ wG ∧ Cond.selects (yX1_weighOnward).cls yX1_weighOnward yX1_weighOnward ∈ wG ∧ Cond.initialized (yX1_weighOnward).cls ∈ wG ∧ Cond.code yX1_weighOnward cX1_weighOnward 4 none ∈ wG := ⟨im_X1_weighOnward, sel_X1_weighOnward, ini_X1, cod_X1_weighOnward⟩
theorem kv_X1_allTries : Cond.instanceMethod yX1_allTries ∈ wG ∧ Cond.selects (yX1_allTries).cls yX1_allTries yX1_allTries ∈ wG ∧ Cond.initialized (yX1_allTries).cls ∈ wG ∧ Cond.code yX1_allTries cX1_allTries 1 (some .int) ∈ wG := ⟨im_X1_allTries, sel_X1_allTries, ini_X1, cod_X1_allTries⟩
theorem kv_X1_leastThrough : Cond.instanceMethod yX1_leastThrough ∈ wG ∧ Cond.selects (yX1_leastThrough).cls yX1_leastThrough yX1_leastThrough ∈ wG ∧ Cond.initialized (yX1_leastThrough).cls ∈ wG ∧ Cond.code yX1_leastThrough cX1_leastThrough 7 (some .int) ∈ wG := ⟨im_X1_leastThrough, sel_X1_leastThrough, ini_X1, cod_X1_leastThrough⟩
theorem kv_X1_plan : Cond.instanceMethod yX1_plan ∈ wG ∧ Cond.selects (yX1_plan).cls yX1_plan yX1_plan ∈ wG ∧ Cond.initialized (yX1_plan).cls ∈ wG ∧ Cond.code yX1_plan cX1_plan 7 none ∈ wG := ⟨im_X1_plan, sel_X1_plan, ini_X1, cod_X1_plan⟩
theorem kv_X2_clear : Cond.instanceMethod yX2_clear ∈ wG ∧ Cond.selects (yX2_clear).cls yX2_clear yX2_clear ∈ wG ∧ Cond.initialized (yX2_clear).cls ∈ wG ∧ Cond.code yX2_clear cX2_clear 1 none ∈ wG := ⟨im_X2_clear, sel_X2_clear, ini_X2, cod_X2_clear⟩
theorem kv_X1_firstOfBest : Cond.instanceMethod yX1_firstOfBest ∈ wG ∧ Cond.selects (yX1_firstOfBest).cls yX1_firstOfBest yX1_firstOfBest ∈ wG ∧ Cond.initialized (yX1_firstOfBest).cls ∈ wG ∧ Cond.code yX1_firstOfBest cX1_firstOfBest 7 (some .int) ∈ wG := ⟨im_X1_firstOfBest, sel_X1_firstOfBest, ini_X1, cod_X1_firstOfBest⟩
theorem kv_X1_nearestOf : Cond.instanceMethod yX1_nearestOf ∈ wG ∧ Cond.selects (yX1_nearestOf).cls yX1_nearestOf yX1_nearestOf ∈ wG ∧ Cond.initialized (yX1_nearestOf).cls ∈ wG ∧ Cond.code yX1_nearestOf cX1_nearestOf 6 (some .int) ∈ wG := ⟨im_X1_nearestOf, sel_X1_nearestOf, ini_X1, cod_X1_nearestOf⟩
theorem kv_X2_append : Cond.instanceMethod yX2_append ∈ wG ∧ Cond.selects (yX2_append).cls yX2_append yX2_append ∈ wG ∧ Cond.initialized (yX2_append).cls ∈ wG ∧ Cond.code yX2_append cX2_append 3 none ∈ wG := ⟨im_X2_append, sel_X2_append, ini_X2, cod_X2_append⟩
theorem kv_X2_tell : Cond.instanceMethod yX2_tell ∈ wG ∧ Cond.selects (yX2_tell).cls yX2_tell yX2_tell ∈ wG ∧ Cond.initialized (yX2_tell).cls ∈ wG ∧ Cond.code yX2_tell cX2_tell 2 (some .int) ∈ wG := ⟨im_X2_tell, sel_X2_tell, ini_X2, cod_X2_tell⟩
theorem kv_X5_nearest : Cond.instanceMethod yX5_nearest ∈ wG ∧ Cond.selects (yX5_nearest).cls yX5_nearest yX5_nearest ∈ wG ∧ Cond.initialized (yX5_nearest).cls ∈ wG ∧ Cond.code yX5_nearest cX5_nearest 2 (some .int) ∈ wG := ⟨im_X5_nearest, sel_X5_nearest, ini_X5, cod_X5_nearest⟩
theorem kv_X1_planNearest : Cond.instanceMethod yX1_planNearest ∈ wG ∧ Cond.selects (yX1_planNearest).cls yX1_planNearest yX1_planNearest ∈ wG ∧ Cond.initialized (yX1_planNearest).cls ∈ wG ∧ Cond.code yX1_planNearest cX1_planNearest 1 none ∈ wG := ⟨im_X1_planNearest, sel_X1_planNearest, ini_X1, cod_X1_planNearest⟩
theorem kv_X5_loosen : Cond.instanceMethod yX5_loosen ∈ wG ∧ Cond.selects (yX5_loosen).cls yX5_loosen yX5_loosen ∈ wG ∧ Cond.initialized (yX5_loosen).cls ∈ wG ∧ Cond.code yX5_loosen cX5_loosen 3 (some .int) ∈ wG := ⟨im_X5_loosen, sel_X5_loosen, ini_X5, cod_X5_loosen⟩
theorem ks_X5_isSwitch : Cond.static yX5_isSwitch ∈ wG ∧ Cond.initialized (yX5_isSwitch).cls ∈ wG ∧ Cond.code yX5_isSwitch cX5_isSwitch 1 (some .boolean) ∈ wG := ⟨stt_X5_isSwitch, ini_X5, cod_X5_isSwitch⟩
theorem ks_J6_bitCount_0f7a4 : Cond.static yJ6_bitCount_0f7a4 ∈ wG ∧ Cond.initialized (yJ6_bitCount_0f7a4).cls ∈ wG ∧ Cond.code yJ6_bitCount_0f7a4 cJ6_bitCount_0f7a4 1 (some .int) ∈ wG := ⟨stt_J6_bitCount_0f7a4, ini_J6, cod_J6_bitCount_0f7a4⟩
theorem kv_X5_join : Cond.instanceMethod yX5_join ∈ wG ∧ Cond.selects (yX5_join).cls yX5_join yX5_join ∈ wG ∧ Cond.initialized (yX5_join).cls ∈ wG ∧ Cond.code yX5_join cX5_join 4 (some .int) ∈ wG := ⟨im_X5_join, sel_X5_join, ini_X5, cod_X5_join⟩
theorem ks_X5_pairOfNets : Cond.static yX5_pairOfNets ∈ wG ∧ Cond.initialized (yX5_pairOfNets).cls ∈ wG ∧ Cond.code yX5_pairOfNets cX5_pairOfNets 6 (some .int) ∈ wG := ⟨stt_X5_pairOfNets, ini_X5, cod_X5_pairOfNets⟩
theorem ks_Math_min : Cond.static Lib.Math.min.name ∈ wG ∧ Cond.initialized "java/lang/Math" ∈ wG ∧ Cond.code Lib.Math.min.name Lib.Math.min.code 2 (some .int) ∈ wG := ⟨stt_Math_min, ini_J9, cod_Math_min⟩
theorem kv_X5_sees : Cond.instanceMethod yX5_sees ∈ wG ∧ Cond.selects (yX5_sees).cls yX5_sees yX5_sees ∈ wG ∧ Cond.initialized (yX5_sees).cls ∈ wG ∧ Cond.code yX5_sees cX5_sees 1 (some .int) ∈ wG := ⟨im_X5_sees, sel_X5_sees, ini_X5, cod_X5_sees⟩
theorem kv_X5_fits : Cond.instanceMethod yX5_fits ∈ wG ∧ Cond.selects (yX5_fits).cls yX5_fits yX5_fits ∈ wG ∧ Cond.initialized (yX5_fits).cls ∈ wG ∧ Cond.code yX5_fits cX5_fits 2 (some .int) ∈ wG := ⟨im_X5_fits, sel_X5_fits, ini_X5, cod_X5_fits⟩
theorem kv_X5_flawSeenAs : Cond.instanceMethod yX5_flawSeenAs ∈ wG ∧ Cond.selects (yX5_flawSeenAs).cls yX5_flawSeenAs yX5_flawSeenAs ∈ wG ∧ Cond.initialized (yX5_flawSeenAs).cls ∈ wG ∧ Cond.code yX5_flawSeenAs cX5_flawSeenAs 5 (some .int) ∈ wG := ⟨im_X5_flawSeenAs, sel_X5_flawSeenAs, ini_X5, cod_X5_flawSeenAs⟩
theorem kv_X5_isFlaw : Cond.instanceMethod yX5_isFlaw ∈ wG ∧ Cond.selects (yX5_isFlaw).cls yX5_isFlaw yX5_isFlaw ∈ wG ∧ Cond.initialized (yX5_isFlaw).cls ∈ wG ∧ Cond.code yX5_isFlaw cX5_isFlaw 2 (some .boolean) ∈ wG := ⟨im_X5_isFlaw, sel_X5_isFlaw, ini_X5, cod_X5_isFlaw⟩
theorem kv_X5_seenOfFlaw : Cond.instanceMethod yX5_seenOfFlaw ∈ wG ∧ Cond.selects (yX5_seenOfFlaw).cls yX5_seenOfFlaw yX5_seenOfFlaw ∈ wG ∧ Cond.initialized (yX5_seenOfFlaw).cls ∈ wG ∧ Cond.code yX5_seenOfFlaw cX5_seenOfFlaw 2 (some .int) ∈ wG := ⟨im_X5_seenOfFlaw, sel_X5_seenOfFlaw, ini_X5, cod_X5_seenOfFlaw⟩
theorem kv_X5_hidden : Cond.instanceMethod yX5_hidden ∈ wG ∧ Cond.selects (yX5_hidden).cls yX5_hidden yX5_hidden ∈ wG ∧ Cond.initialized (yX5_hidden).cls ∈ wG ∧ Cond.code yX5_hidden cX5_hidden 2 (some .int) ∈ wG := ⟨im_X5_hidden, sel_X5_hidden, ini_X5, cod_X5_hidden⟩
theorem kv_X5_halves : Cond.instanceMethod yX5_halves ∈ wG ∧ Cond.selects (yX5_halves).cls yX5_halves yX5_halves ∈ wG ∧ Cond.initialized (yX5_halves).cls ∈ wG ∧ Cond.code yX5_halves cX5_halves 8 (some .int) ∈ wG := ⟨im_X5_halves, sel_X5_halves, ini_X5, cod_X5_halves⟩
theorem ks_X5_leastMembers : Cond.static yX5_leastMembers ∈ wG ∧ Cond.initialized (yX5_leastMembers).cls ∈ wG ∧ Cond.code yX5_leastMembers cX5_leastMembers 4 (some .int) ∈ wG := ⟨stt_X5_leastMembers, ini_X5, cod_X5_leastMembers⟩
theorem ks_X5_leastNet : Cond.static yX5_leastNet ∈ wG ∧ Cond.initialized (yX5_leastNet).cls ∈ wG ∧ Cond.code yX5_leastNet cX5_leastNet 2 (some .int) ∈ wG := ⟨stt_X5_leastNet, ini_X5, cod_X5_leastNet⟩
theorem kv_X5_image : Cond.instanceMethod yX5_image ∈ wG ∧ Cond.selects (yX5_image).cls yX5_image yX5_image ∈ wG ∧ Cond.initialized (yX5_image).cls ∈ wG ∧ Cond.code yX5_image cX5_image 2 (some .int) ∈ wG := ⟨im_X5_image, sel_X5_image, ini_X5, cod_X5_image⟩
theorem ks_X5_isImage : Cond.static yX5_isImage ∈ wG ∧ Cond.initialized (yX5_isImage).cls ∈ wG ∧ Cond.code yX5_isImage cX5_isImage 1 (some .boolean) ∈ wG := ⟨stt_X5_isImage, ini_X5, cod_X5_isImage⟩
theorem kv_X0_copyFrom : Cond.instanceMethod yX0_copyFrom ∈ wG ∧ Cond.selects (yX0_copyFrom).cls yX0_copyFrom yX0_copyFrom ∈ wG ∧ Cond.initialized (yX0_copyFrom).cls ∈ wG ∧ Cond.code yX0_copyFrom cX0_copyFrom 3 none ∈ wG := ⟨im_X0_copyFrom, sel_X0_copyFrom, ini_X0, cod_X0_copyFrom⟩
theorem kv_X5_restore : Cond.instanceMethod yX5_restore ∈ wG ∧ Cond.selects (yX5_restore).cls yX5_restore yX5_restore ∈ wG ∧ Cond.initialized (yX5_restore).cls ∈ wG ∧ Cond.code yX5_restore cX5_restore 2 (some .int) ∈ wG := ⟨im_X5_restore, sel_X5_restore, ini_X5, cod_X5_restore⟩
theorem kv_X5_count : Cond.instanceMethod yX5_count ∈ wG ∧ Cond.selects (yX5_count).cls yX5_count yX5_count ∈ wG ∧ Cond.initialized (yX5_count).cls ∈ wG ∧ Cond.code yX5_count cX5_count 2 (some .int) ∈ wG := ⟨im_X5_count, sel_X5_count, ini_X5, cod_X5_count⟩
theorem kv_X0_countNetsWithPoints : Cond.instanceMethod yX0_countNetsWithPoints ∈ wG ∧ Cond.selects (yX0_countNetsWithPoints).cls yX0_countNetsWithPoints yX0_countNetsWithPoints ∈ wG ∧ Cond.initialized (yX0_countNetsWithPoints).cls ∈ wG ∧ Cond.code yX0_countNetsWithPoints cX0_countNetsWithPoints 3 (some .int) ∈ wG := ⟨im_X0_countNetsWithPoints, sel_X0_countNetsWithPoints, ini_X0, cod_X0_countNetsWithPoints⟩
theorem ki_X6_init : Cond.instanceMethod yX6_init ∈ wG ∧ Cond.initialized (yX6_init).cls ∈ wG ∧ Cond.code yX6_init cX6_init 1 none ∈ wG := ⟨im_X6_init, ini_X6, cod_X6_init⟩
theorem kv_X6_point : Cond.instanceMethod yX6_point ∈ wG ∧ Cond.selects (yX6_point).cls yX6_point yX6_point ∈ wG ∧ Cond.initialized (yX6_point).cls ∈ wG ∧ Cond.code yX6_point cX6_point 5 (some .int) ∈ wG := ⟨im_X6_point, sel_X6_point, ini_X6, cod_X6_point⟩
theorem ks_X6_isNet : Cond.static yX6_isNet ∈ wG ∧ Cond.initialized (yX6_isNet).cls ∈ wG ∧ Cond.code yX6_isNet cX6_isNet 1 (some .boolean) ∈ wG := ⟨stt_X6_isNet, ini_X6, cod_X6_isNet⟩
theorem ks_X6_in : Cond.static yX6_in ∈ wG ∧ Cond.initialized (yX6_in).cls ∈ wG ∧ Cond.code yX6_in cX6_in 3 (some .boolean) ∈ wG := ⟨stt_X6_in, ini_X6, cod_X6_in⟩
theorem ks_X6_isHere : Cond.static yX6_isHere ∈ wG ∧ Cond.initialized (yX6_isHere).cls ∈ wG ∧ Cond.code yX6_isHere cX6_isHere 2 (some .boolean) ∈ wG := ⟨stt_X6_isHere, ini_X6, cod_X6_isHere⟩
theorem kv_X6_pop : Cond.instanceMethod yX6_pop ∈ wG ∧ Cond.selects (yX6_pop).cls yX6_pop yX6_pop ∈ wG ∧ Cond.initialized (yX6_pop).cls ∈ wG ∧ Cond.code yX6_pop cX6_pop 1 (some .int) ∈ wG := ⟨im_X6_pop, sel_X6_pop, ini_X6, cod_X6_pop⟩
theorem kv_X6_move : Cond.instanceMethod yX6_move ∈ wG ∧ Cond.selects (yX6_move).cls yX6_move yX6_move ∈ wG ∧ Cond.initialized (yX6_move).cls ∈ wG ∧ Cond.code yX6_move cX6_move 5 (some .int) ∈ wG := ⟨im_X6_move, sel_X6_move, ini_X6, cod_X6_move⟩
theorem kv_X6_isPoint : Cond.instanceMethod yX6_isPoint ∈ wG ∧ Cond.selects (yX6_isPoint).cls yX6_isPoint yX6_isPoint ∈ wG ∧ Cond.initialized (yX6_isPoint).cls ∈ wG ∧ Cond.code yX6_isPoint cX6_isPoint 2 (some .boolean) ∈ wG := ⟨im_X6_isPoint, sel_X6_isPoint, ini_X6, cod_X6_isPoint⟩
theorem kv_X6_near : Cond.instanceMethod yX6_near ∈ wG ∧ Cond.selects (yX6_near).cls yX6_near yX6_near ∈ wG ∧ Cond.initialized (yX6_near).cls ∈ wG ∧ Cond.code yX6_near cX6_near 3 (some .int) ∈ wG := ⟨im_X6_near, sel_X6_near, ini_X6, cod_X6_near⟩
theorem kv_X6_of : Cond.instanceMethod yX6_of ∈ wG ∧ Cond.selects (yX6_of).cls yX6_of yX6_of ∈ wG ∧ Cond.initialized (yX6_of).cls ∈ wG ∧ Cond.code yX6_of cX6_of 3 (some .int) ∈ wG := ⟨im_X6_of, sel_X6_of, ini_X6, cod_X6_of⟩
theorem kv_X6_far : Cond.instanceMethod yX6_far ∈ wG ∧ Cond.selects (yX6_far).cls yX6_far yX6_far ∈ wG ∧ Cond.initialized (yX6_far).cls ∈ wG ∧ Cond.code yX6_far cX6_far 3 (some .int) ∈ wG := ⟨im_X6_far, sel_X6_far, ini_X6, cod_X6_far⟩
theorem kv_X6_farOf : Cond.instanceMethod yX6_farOf ∈ wG ∧ Cond.selects (yX6_farOf).cls yX6_farOf yX6_farOf ∈ wG ∧ Cond.initialized (yX6_farOf).cls ∈ wG ∧ Cond.code yX6_farOf cX6_farOf 5 (some .int) ∈ wG := ⟨im_X6_farOf, sel_X6_farOf, ini_X6, cod_X6_farOf⟩
theorem kv_X6_attempt : Cond.instanceMethod yX6_attempt ∈ wG ∧ Cond.selects (yX6_attempt).cls yX6_attempt yX6_attempt ∈ wG ∧ Cond.initialized (yX6_attempt).cls ∈ wG ∧ Cond.code yX6_attempt cX6_attempt 4 (some .int) ∈ wG := ⟨im_X6_attempt, sel_X6_attempt, ini_X6, cod_X6_attempt⟩
theorem kv_X6_layTries : Cond.instanceMethod yX6_layTries ∈ wG ∧ Cond.selects (yX6_layTries).cls yX6_layTries yX6_layTries ∈ wG ∧ Cond.initialized (yX6_layTries).cls ∈ wG ∧ Cond.code yX6_layTries cX6_layTries 3 none ∈ wG := ⟨im_X6_layTries, sel_X6_layTries, ini_X6, cod_X6_layTries⟩
theorem kv_X6_layTree : Cond.instanceMethod yX6_layTree ∈ wG ∧ Cond.selects (yX6_layTree).cls yX6_layTree yX6_layTree ∈ wG ∧ Cond.initialized (yX6_layTree).cls ∈ wG ∧ Cond.code yX6_layTree cX6_layTree 4 none ∈ wG := ⟨im_X6_layTree, sel_X6_layTree, ini_X6, cod_X6_layTree⟩
theorem kv_X6_nextPair : Cond.instanceMethod yX6_nextPair ∈ wG ∧ Cond.selects (yX6_nextPair).cls yX6_nextPair yX6_nextPair ∈ wG ∧ Cond.initialized (yX6_nextPair).cls ∈ wG ∧ Cond.code yX6_nextPair cX6_nextPair 5 (some .int) ∈ wG := ⟨im_X6_nextPair, sel_X6_nextPair, ini_X6, cod_X6_nextPair⟩
theorem kv_X6_canJoin : Cond.instanceMethod yX6_canJoin ∈ wG ∧ Cond.selects (yX6_canJoin).cls yX6_canJoin yX6_canJoin ∈ wG ∧ Cond.initialized (yX6_canJoin).cls ∈ wG ∧ Cond.code yX6_canJoin cX6_canJoin 4 (some .boolean) ∈ wG := ⟨im_X6_canJoin, sel_X6_canJoin, ini_X6, cod_X6_canJoin⟩
theorem kv_X6_join : Cond.instanceMethod yX6_join ∈ wG ∧ Cond.selects (yX6_join).cls yX6_join yX6_join ∈ wG ∧ Cond.initialized (yX6_join).cls ∈ wG ∧ Cond.code yX6_join cX6_join 5 none ∈ wG := ⟨im_X6_join, sel_X6_join, ini_X6, cod_X6_join⟩
theorem kv_X6_addTry : Cond.instanceMethod yX6_addTry ∈ wG ∧ Cond.selects (yX6_addTry).cls yX6_addTry yX6_addTry ∈ wG ∧ Cond.initialized (yX6_addTry).cls ∈ wG ∧ Cond.code yX6_addTry cX6_addTry 5 none ∈ wG := ⟨im_X6_addTry, sel_X6_addTry, ini_X6, cod_X6_addTry⟩
theorem kv_X6_layNeighbours : Cond.instanceMethod yX6_layNeighbours ∈ wG ∧ Cond.selects (yX6_layNeighbours).cls yX6_layNeighbours yX6_layNeighbours ∈ wG ∧ Cond.initialized (yX6_layNeighbours).cls ∈ wG ∧ Cond.code yX6_layNeighbours cX6_layNeighbours 7 none ∈ wG := ⟨im_X6_layNeighbours, sel_X6_layNeighbours, ini_X6, cod_X6_layNeighbours⟩
theorem kv_X6_isTry : Cond.instanceMethod yX6_isTry ∈ wG ∧ Cond.selects (yX6_isTry).cls yX6_isTry yX6_isTry ∈ wG ∧ Cond.initialized (yX6_isTry).cls ∈ wG ∧ Cond.code yX6_isTry cX6_isTry 2 (some .boolean) ∈ wG := ⟨im_X6_isTry, sel_X6_isTry, ini_X6, cod_X6_isTry⟩
theorem kv_X6_seen : Cond.instanceMethod yX6_seen ∈ wG ∧ Cond.selects (yX6_seen).cls yX6_seen yX6_seen ∈ wG ∧ Cond.initialized (yX6_seen).cls ∈ wG ∧ Cond.code yX6_seen cX6_seen 3 (some .int) ∈ wG := ⟨im_X6_seen, sel_X6_seen, ini_X6, cod_X6_seen⟩
theorem kv_X6_layOnes : Cond.instanceMethod yX6_layOnes ∈ wG ∧ Cond.selects (yX6_layOnes).cls yX6_layOnes yX6_layOnes ∈ wG ∧ Cond.initialized (yX6_layOnes).cls ∈ wG ∧ Cond.code yX6_layOnes cX6_layOnes 3 none ∈ wG := ⟨im_X6_layOnes, sel_X6_layOnes, ini_X6, cod_X6_layOnes⟩
theorem ks_X6_pairOf : Cond.static yX6_pairOf ∈ wG ∧ Cond.initialized (yX6_pairOf).cls ∈ wG ∧ Cond.code yX6_pairOf cX6_pairOf 4 (some .int) ∈ wG := ⟨stt_X6_pairOf, ini_X6, cod_X6_pairOf⟩
theorem kv_X6_conducts : Cond.instanceMethod yX6_conducts ∈ wG ∧ Cond.selects (yX6_conducts).cls yX6_conducts yX6_conducts ∈ wG ∧ Cond.initialized (yX6_conducts).cls ∈ wG ∧ Cond.code yX6_conducts cX6_conducts 4 (some .boolean) ∈ wG := ⟨im_X6_conducts, sel_X6_conducts, ini_X6, cod_X6_conducts⟩
theorem kv_X6_time : Cond.instanceMethod yX6_time ∈ wG ∧ Cond.selects (yX6_time).cls yX6_time yX6_time ∈ wG ∧ Cond.initialized (yX6_time).cls ∈ wG ∧ Cond.code yX6_time cX6_time 3 (some .int) ∈ wG := ⟨im_X6_time, sel_X6_time, ini_X6, cod_X6_time⟩
theorem kv_X6_timeOf : Cond.instanceMethod yX6_timeOf ∈ wG ∧ Cond.selects (yX6_timeOf).cls yX6_timeOf yX6_timeOf ∈ wG ∧ Cond.initialized (yX6_timeOf).cls ∈ wG ∧ Cond.code yX6_timeOf cX6_timeOf 9 (some .int) ∈ wG := ⟨im_X6_timeOf, sel_X6_timeOf, ini_X6, cod_X6_timeOf⟩
theorem ks_X6_size : Cond.static yX6_size ∈ wG ∧ Cond.initialized (yX6_size).cls ∈ wG ∧ Cond.code yX6_size cX6_size 1 (some .int) ∈ wG := ⟨stt_X6_size, ini_X6, cod_X6_size⟩
theorem ks_X6_greater : Cond.static yX6_greater ∈ wG ∧ Cond.initialized (yX6_greater).cls ∈ wG ∧ Cond.code yX6_greater cX6_greater 2 (some .int) ∈ wG := ⟨stt_X6_greater, ini_X6, cod_X6_greater⟩
theorem kv_X6_say : Cond.instanceMethod yX6_say ∈ wG ∧ Cond.selects (yX6_say).cls yX6_say yX6_say ∈ wG ∧ Cond.initialized (yX6_say).cls ∈ wG ∧ Cond.code yX6_say cX6_say 2 (some .int) ∈ wG := ⟨im_X6_say, sel_X6_say, ini_X6, cod_X6_say⟩
theorem kv_X6_wipe : Cond.instanceMethod yX6_wipe ∈ wG ∧ Cond.selects (yX6_wipe).cls yX6_wipe yX6_wipe ∈ wG ∧ Cond.initialized (yX6_wipe).cls ∈ wG ∧ Cond.code yX6_wipe cX6_wipe 2 (some .int) ∈ wG := ⟨im_X6_wipe, sel_X6_wipe, ini_X6, cod_X6_wipe⟩
theorem kv_X6_told : Cond.instanceMethod yX6_told ∈ wG ∧ Cond.selects (yX6_told).cls yX6_told yX6_told ∈ wG ∧ Cond.initialized (yX6_told).cls ∈ wG ∧ Cond.code yX6_told cX6_told 3 (some .int) ∈ wG := ⟨im_X6_told, sel_X6_told, ini_X6, cod_X6_told⟩
theorem kv_X6_timeOfOrder : Cond.instanceMethod yX6_timeOfOrder ∈ wG ∧ Cond.selects (yX6_timeOfOrder).cls yX6_timeOfOrder yX6_timeOfOrder ∈ wG ∧ Cond.initialized (yX6_timeOfOrder).cls ∈ wG ∧ Cond.code yX6_timeOfOrder cX6_timeOfOrder 3 (some .int) ∈ wG := ⟨im_X6_timeOfOrder, sel_X6_timeOfOrder, ini_X6, cod_X6_timeOfOrder⟩
theorem kv_X6_best : Cond.instanceMethod yX6_best ∈ wG ∧ Cond.selects (yX6_best).cls yX6_best yX6_best ∈ wG ∧ Cond.initialized (yX6_best).cls ∈ wG ∧ Cond.code yX6_best cX6_best 2 (some .int) ∈ wG := ⟨im_X6_best, sel_X6_best, ini_X6, cod_X6_best⟩
theorem kv_X6_layBest : Cond.instanceMethod yX6_layBest ∈ wG ∧ Cond.selects (yX6_layBest).cls yX6_layBest yX6_layBest ∈ wG ∧ Cond.initialized (yX6_layBest).cls ∈ wG ∧ Cond.code yX6_layBest cX6_layBest 7 none ∈ wG := ⟨im_X6_layBest, sel_X6_layBest, ini_X6, cod_X6_layBest⟩
theorem kv_X6_layRest : Cond.instanceMethod yX6_layRest ∈ wG ∧ Cond.selects (yX6_layRest).cls yX6_layRest yX6_layRest ∈ wG ∧ Cond.initialized (yX6_layRest).cls ∈ wG ∧ Cond.code yX6_layRest cX6_layRest 4 none ∈ wG := ⟨im_X6_layRest, sel_X6_layRest, ini_X6, cod_X6_layRest⟩
theorem kv_X6_restFrom : Cond.instanceMethod yX6_restFrom ∈ wG ∧ Cond.selects (yX6_restFrom).cls yX6_restFrom yX6_restFrom ∈ wG ∧ Cond.initialized (yX6_restFrom).cls ∈ wG ∧ Cond.code yX6_restFrom cX6_restFrom 6 (some .int) ∈ wG := ⟨im_X6_restFrom, sel_X6_restFrom, ini_X6, cod_X6_restFrom⟩
theorem kv_X6_orderAt : Cond.instanceMethod yX6_orderAt ∈ wG ∧ Cond.selects (yX6_orderAt).cls yX6_orderAt yX6_orderAt ∈ wG ∧ Cond.initialized (yX6_orderAt).cls ∈ wG ∧ Cond.code yX6_orderAt cX6_orderAt 2 (some .int) ∈ wG := ⟨im_X6_orderAt, sel_X6_orderAt, ini_X6, cod_X6_orderAt⟩
theorem kv_X6_nearest : Cond.instanceMethod yX6_nearest ∈ wG ∧ Cond.selects (yX6_nearest).cls yX6_nearest yX6_nearest ∈ wG ∧ Cond.initialized (yX6_nearest).cls ∈ wG ∧ Cond.code yX6_nearest cX6_nearest 8 (some .int) ∈ wG := ⟨im_X6_nearest, sel_X6_nearest, ini_X6, cod_X6_nearest⟩
theorem kv_X6_loosen : Cond.instanceMethod yX6_loosen ∈ wG ∧ Cond.selects (yX6_loosen).cls yX6_loosen yX6_loosen ∈ wG ∧ Cond.initialized (yX6_loosen).cls ∈ wG ∧ Cond.code yX6_loosen cX6_loosen 3 (some .int) ∈ wG := ⟨im_X6_loosen, sel_X6_loosen, ini_X6, cod_X6_loosen⟩
theorem kv_X6_looseMany : Cond.instanceMethod yX6_looseMany ∈ wG ∧ Cond.selects (yX6_looseMany).cls yX6_looseMany yX6_looseMany ∈ wG ∧ Cond.initialized (yX6_looseMany).cls ∈ wG ∧ Cond.code yX6_looseMany cX6_looseMany 3 (some .int) ∈ wG := ⟨im_X6_looseMany, sel_X6_looseMany, ini_X6, cod_X6_looseMany⟩
theorem kv_X6_join_ : Cond.instanceMethod yX6_join_ ∈ wG ∧ Cond.selects (yX6_join_).cls yX6_join_ yX6_join_ ∈ wG ∧ Cond.initialized (yX6_join_).cls ∈ wG ∧ Cond.code yX6_join_ cX6_join_ 4 (some .int) ∈ wG := ⟨im_X6_join_, sel_X6_join_, ini_X6, cod_X6_join_⟩
theorem kv_X6_shortMany : Cond.instanceMethod yX6_shortMany ∈ wG ∧ Cond.selects (yX6_shortMany).cls yX6_shortMany yX6_shortMany ∈ wG ∧ Cond.initialized (yX6_shortMany).cls ∈ wG ∧ Cond.code yX6_shortMany cX6_shortMany 3 (some .int) ∈ wG := ⟨im_X6_shortMany, sel_X6_shortMany, ini_X6, cod_X6_shortMany⟩
theorem kv_X6_sees : Cond.instanceMethod yX6_sees ∈ wG ∧ Cond.selects (yX6_sees).cls yX6_sees yX6_sees ∈ wG ∧ Cond.initialized (yX6_sees).cls ∈ wG ∧ Cond.code yX6_sees cX6_sees 1 (some .int) ∈ wG := ⟨im_X6_sees, sel_X6_sees, ini_X6, cod_X6_sees⟩
theorem kv_X6_fits : Cond.instanceMethod yX6_fits ∈ wG ∧ Cond.selects (yX6_fits).cls yX6_fits yX6_fits ∈ wG ∧ Cond.initialized (yX6_fits).cls ∈ wG ∧ Cond.code yX6_fits cX6_fits 5 (some .int) ∈ wG := ⟨im_X6_fits, sel_X6_fits, ini_X6, cod_X6_fits⟩
theorem kv_X6_isSingle : Cond.instanceMethod yX6_isSingle ∈ wG ∧ Cond.selects (yX6_isSingle).cls yX6_isSingle yX6_isSingle ∈ wG ∧ Cond.initialized (yX6_isSingle).cls ∈ wG ∧ Cond.code yX6_isSingle cX6_isSingle 2 (some .boolean) ∈ wG := ⟨im_X6_isSingle, sel_X6_isSingle, ini_X6, cod_X6_isSingle⟩
theorem kv_X6_seenBy : Cond.instanceMethod yX6_seenBy ∈ wG ∧ Cond.selects (yX6_seenBy).cls yX6_seenBy yX6_seenBy ∈ wG ∧ Cond.initialized (yX6_seenBy).cls ∈ wG ∧ Cond.code yX6_seenBy cX6_seenBy 4 (some .int) ∈ wG := ⟨im_X6_seenBy, sel_X6_seenBy, ini_X6, cod_X6_seenBy⟩
theorem kv_X6_hidden : Cond.instanceMethod yX6_hidden ∈ wG ∧ Cond.selects (yX6_hidden).cls yX6_hidden yX6_hidden ∈ wG ∧ Cond.initialized (yX6_hidden).cls ∈ wG ∧ Cond.code yX6_hidden cX6_hidden 5 (some .int) ∈ wG := ⟨im_X6_hidden, sel_X6_hidden, ini_X6, cod_X6_hidden⟩
theorem kv_X6_halves : Cond.instanceMethod yX6_halves ∈ wG ∧ Cond.selects (yX6_halves).cls yX6_halves yX6_halves ∈ wG ∧ Cond.initialized (yX6_halves).cls ∈ wG ∧ Cond.code yX6_halves cX6_halves 7 (some .int) ∈ wG := ⟨im_X6_halves, sel_X6_halves, ini_X6, cod_X6_halves⟩
theorem kv_X6_isAnyOne : Cond.instanceMethod yX6_isAnyOne ∈ wG ∧ Cond.selects (yX6_isAnyOne).cls yX6_isAnyOne yX6_isAnyOne ∈ wG ∧ Cond.initialized (yX6_isAnyOne).cls ∈ wG ∧ Cond.code yX6_isAnyOne cX6_isAnyOne 6 (some .boolean) ∈ wG := ⟨im_X6_isAnyOne, sel_X6_isAnyOne, ini_X6, cod_X6_isAnyOne⟩
theorem kv_X6_image : Cond.instanceMethod yX6_image ∈ wG ∧ Cond.selects (yX6_image).cls yX6_image yX6_image ∈ wG ∧ Cond.initialized (yX6_image).cls ∈ wG ∧ Cond.code yX6_image cX6_image 3 (some .int) ∈ wG := ⟨im_X6_image, sel_X6_image, ini_X6, cod_X6_image⟩
theorem kv_X6_restore : Cond.instanceMethod yX6_restore ∈ wG ∧ Cond.selects (yX6_restore).cls yX6_restore yX6_restore ∈ wG ∧ Cond.initialized (yX6_restore).cls ∈ wG ∧ Cond.code yX6_restore cX6_restore 3 (some .int) ∈ wG := ⟨im_X6_restore, sel_X6_restore, ini_X6, cod_X6_restore⟩
theorem kv_X6_count : Cond.instanceMethod yX6_count ∈ wG ∧ Cond.selects (yX6_count).cls yX6_count yX6_count ∈ wG ∧ Cond.initialized (yX6_count).cls ∈ wG ∧ Cond.code yX6_count cX6_count 2 (some .int) ∈ wG := ⟨im_X6_count, sel_X6_count, ini_X6, cod_X6_count⟩
theorem kv_X6_apartMany : Cond.instanceMethod yX6_apartMany ∈ wG ∧ Cond.selects (yX6_apartMany).cls yX6_apartMany yX6_apartMany ∈ wG ∧ Cond.initialized (yX6_apartMany).cls ∈ wG ∧ Cond.code yX6_apartMany cX6_apartMany 3 (some .int) ∈ wG := ⟨im_X6_apartMany, sel_X6_apartMany, ini_X6, cod_X6_apartMany⟩
theorem kv_X6_netsUsed : Cond.instanceMethod yX6_netsUsed ∈ wG ∧ Cond.selects (yX6_netsUsed).cls yX6_netsUsed yX6_netsUsed ∈ wG ∧ Cond.initialized (yX6_netsUsed).cls ∈ wG ∧ Cond.code yX6_netsUsed cX6_netsUsed 3 (some .int) ∈ wG := ⟨im_X6_netsUsed, sel_X6_netsUsed, ini_X6, cod_X6_netsUsed⟩
