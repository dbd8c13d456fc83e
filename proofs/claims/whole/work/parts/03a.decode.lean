theorem dX0_init_0 : decode cX0_init 0 = .ok (.aload_n 0, 1) := by decide +kernel
theorem dX0_init_1 : decode cX0_init 1 = .ok (.invokespecial 3, 3) := by decide +kernel
theorem dX0_init_4 : decode cX0_init 4 = .ok (.aload_n 0, 1) := by decide +kernel
theorem dX0_init_5 : decode cX0_init 5 = .ok (.bipush 8, 2) := by decide +kernel
theorem dX0_init_7 : decode cX0_init 7 = .ok (.newarray .int, 2) := by decide +kernel
theorem dX0_init_9 : decode cX0_init 9 = .ok (.putfield 9, 3) := by decide +kernel
theorem dX0_init_12 : decode cX0_init 12 = .ok (.aload_n 0, 1) := by decide +kernel
theorem dX0_init_13 : decode cX0_init 13 = .ok (.bipush 8, 2) := by decide +kernel
theorem dX0_init_15 : decode cX0_init 15 = .ok (.newarray .int, 2) := by decide +kernel
theorem dX0_init_17 : decode cX0_init 17 = .ok (.putfield 15, 3) := by decide +kernel
theorem dX0_init_20 : decode cX0_init 20 = .ok (.aload_n 0, 1) := by decide +kernel
theorem dX0_init_21 : decode cX0_init 21 = .ok (.bipush 8, 2) := by decide +kernel
theorem dX0_init_23 : decode cX0_init 23 = .ok (.newarray .int, 2) := by decide +kernel
theorem dX0_init_25 : decode cX0_init 25 = .ok (.putfield 18, 3) := by decide +kernel
theorem dX0_init_28 : decode cX0_init 28 = .ok (.aload_n 0, 1) := by decide +kernel
theorem dX0_init_29 : decode cX0_init 29 = .ok (.iconst 0, 1) := by decide +kernel
theorem dX0_init_30 : decode cX0_init 30 = .ok (.putfield 21, 3) := by decide +kernel
theorem dX0_init_33 : decode cX0_init 33 = .ok (.aload_n 0, 1) := by decide +kernel
theorem dX0_init_34 : decode cX0_init 34 = .ok (.bipush 50, 2) := by decide +kernel
theorem dX0_init_36 : decode cX0_init 36 = .ok (.putfield 25, 3) := by decide +kernel
theorem dX0_init_39 : decode cX0_init 39 = .ok (.aload_n 0, 1) := by decide +kernel
theorem dX0_init_40 : decode cX0_init 40 = .ok (.iconst 0, 1) := by decide +kernel
theorem dX0_init_41 : decode cX0_init 41 = .ok (.putfield 28, 3) := by decide +kernel
theorem dX0_init_44 : decode cX0_init 44 = .ok (.aload_n 0, 1) := by decide +kernel
theorem dX0_init_45 : decode cX0_init 45 = .ok (.iconst 0, 1) := by decide +kernel
theorem dX0_init_46 : decode cX0_init 46 = .ok (.putfield 31, 3) := by decide +kernel
theorem dX0_init_49 : decode cX0_init 49 = .ok (.return_, 1) := by decide +kernel
theorem dX0_copyFrom_0 : decode cX0_copyFrom 0 = .ok (.iconst 0, 1) := by decide +kernel
theorem dX0_copyFrom_1 : decode cX0_copyFrom 1 = .ok (.istore_n 2, 1) := by decide +kernel
theorem dX0_copyFrom_2 : decode cX0_copyFrom 2 = .ok (.iload_n 2, 1) := by decide +kernel
theorem dX0_copyFrom_3 : decode cX0_copyFrom 3 = .ok (.bipush 8, 2) := by decide +kernel
theorem dX0_copyFrom_5 : decode cX0_copyFrom 5 = .ok (.if_icmp .ge 45, 3) := by decide +kernel
theorem dX0_copyFrom_8 : decode cX0_copyFrom 8 = .ok (.aload_n 0, 1) := by decide +kernel
theorem dX0_copyFrom_9 : decode cX0_copyFrom 9 = .ok (.getfield 9, 3) := by decide +kernel
theorem dX0_copyFrom_12 : decode cX0_copyFrom 12 = .ok (.iload_n 2, 1) := by decide +kernel
theorem dX0_copyFrom_13 : decode cX0_copyFrom 13 = .ok (.aload_n 1, 1) := by decide +kernel
theorem dX0_copyFrom_14 : decode cX0_copyFrom 14 = .ok (.getfield 9, 3) := by decide +kernel
theorem dX0_copyFrom_17 : decode cX0_copyFrom 17 = .ok (.iload_n 2, 1) := by decide +kernel
theorem dX0_copyFrom_18 : decode cX0_copyFrom 18 = .ok (.iaload, 1) := by decide +kernel
theorem dX0_copyFrom_19 : decode cX0_copyFrom 19 = .ok (.iastore, 1) := by decide +kernel
theorem dX0_copyFrom_20 : decode cX0_copyFrom 20 = .ok (.aload_n 0, 1) := by decide +kernel
theorem dX0_copyFrom_21 : decode cX0_copyFrom 21 = .ok (.getfield 15, 3) := by decide +kernel
theorem dX0_copyFrom_24 : decode cX0_copyFrom 24 = .ok (.iload_n 2, 1) := by decide +kernel
theorem dX0_copyFrom_25 : decode cX0_copyFrom 25 = .ok (.aload_n 1, 1) := by decide +kernel
theorem dX0_copyFrom_26 : decode cX0_copyFrom 26 = .ok (.getfield 15, 3) := by decide +kernel
theorem dX0_copyFrom_29 : decode cX0_copyFrom 29 = .ok (.iload_n 2, 1) := by decide +kernel
theorem dX0_copyFrom_30 : decode cX0_copyFrom 30 = .ok (.iaload, 1) := by decide +kernel
theorem dX0_copyFrom_31 : decode cX0_copyFrom 31 = .ok (.iastore, 1) := by decide +kernel
theorem dX0_copyFrom_32 : decode cX0_copyFrom 32 = .ok (.aload_n 0, 1) := by decide +kernel
theorem dX0_copyFrom_33 : decode cX0_copyFrom 33 = .ok (.getfield 18, 3) := by decide +kernel
theorem dX0_copyFrom_36 : decode cX0_copyFrom 36 = .ok (.iload_n 2, 1) := by decide +kernel
theorem dX0_copyFrom_37 : decode cX0_copyFrom 37 = .ok (.aload_n 1, 1) := by decide +kernel
theorem dX0_copyFrom_38 : decode cX0_copyFrom 38 = .ok (.getfield 18, 3) := by decide +kernel
theorem dX0_copyFrom_41 : decode cX0_copyFrom 41 = .ok (.iload_n 2, 1) := by decide +kernel
theorem dX0_copyFrom_42 : decode cX0_copyFrom 42 = .ok (.iaload, 1) := by decide +kernel
theorem dX0_copyFrom_43 : decode cX0_copyFrom 43 = .ok (.iastore, 1) := by decide +kernel
theorem dX0_copyFrom_44 : decode cX0_copyFrom 44 = .ok (.iinc 2 1, 3) := by decide +kernel
theorem dX0_copyFrom_47 : decode cX0_copyFrom 47 = .ok (.goto (-45), 3) := by decide +kernel
theorem dX0_copyFrom_50 : decode cX0_copyFrom 50 = .ok (.aload_n 0, 1) := by decide +kernel
theorem dX0_copyFrom_51 : decode cX0_copyFrom 51 = .ok (.aload_n 1, 1) := by decide +kernel
theorem dX0_copyFrom_52 : decode cX0_copyFrom 52 = .ok (.getfield 21, 3) := by decide +kernel
theorem dX0_copyFrom_55 : decode cX0_copyFrom 55 = .ok (.putfield 21, 3) := by decide +kernel
theorem dX0_copyFrom_58 : decode cX0_copyFrom 58 = .ok (.aload_n 0, 1) := by decide +kernel
theorem dX0_copyFrom_59 : decode cX0_copyFrom 59 = .ok (.aload_n 1, 1) := by decide +kernel
theorem dX0_copyFrom_60 : decode cX0_copyFrom 60 = .ok (.getfield 25, 3) := by decide +kernel
theorem dX0_copyFrom_63 : decode cX0_copyFrom 63 = .ok (.putfield 25, 3) := by decide +kernel
theorem dX0_copyFrom_66 : decode cX0_copyFrom 66 = .ok (.aload_n 0, 1) := by decide +kernel
theorem dX0_copyFrom_67 : decode cX0_copyFrom 67 = .ok (.aload_n 1, 1) := by decide +kernel
theorem dX0_copyFrom_68 : decode cX0_copyFrom 68 = .ok (.getfield 28, 3) := by decide +kernel
theorem dX0_copyFrom_71 : decode cX0_copyFrom 71 = .ok (.putfield 28, 3) := by decide +kernel
theorem dX0_copyFrom_74 : decode cX0_copyFrom 74 = .ok (.aload_n 0, 1) := by decide +kernel
theorem dX0_copyFrom_75 : decode cX0_copyFrom 75 = .ok (.aload_n 1, 1) := by decide +kernel
theorem dX0_copyFrom_76 : decode cX0_copyFrom 76 = .ok (.getfield 31, 3) := by decide +kernel
theorem dX0_copyFrom_79 : decode cX0_copyFrom 79 = .ok (.putfield 31, 3) := by decide +kernel
theorem dX0_copyFrom_82 : decode cX0_copyFrom 82 = .ok (.return_, 1) := by decide +kernel
theorem dX0_hasPoint_0 : decode cX0_hasPoint 0 = .ok (.iload_n 1, 1) := by decide +kernel
theorem dX0_hasPoint_1 : decode cX0_hasPoint 1 = .ok (.ifCond .lt 15, 3) := by decide +kernel
theorem dX0_hasPoint_4 : decode cX0_hasPoint 4 = .ok (.iload_n 1, 1) := by decide +kernel
theorem dX0_hasPoint_5 : decode cX0_hasPoint 5 = .ok (.aload_n 0, 1) := by decide +kernel
theorem dX0_hasPoint_6 : decode cX0_hasPoint 6 = .ok (.getfield 21, 3) := by decide +kernel
theorem dX0_hasPoint_9 : decode cX0_hasPoint 9 = .ok (.if_icmp .ge 7, 3) := by decide +kernel
theorem dX0_hasPoint_12 : decode cX0_hasPoint 12 = .ok (.iconst 1, 1) := by decide +kernel
theorem dX0_hasPoint_13 : decode cX0_hasPoint 13 = .ok (.goto 4, 3) := by decide +kernel
theorem dX0_hasPoint_16 : decode cX0_hasPoint 16 = .ok (.iconst 0, 1) := by decide +kernel
theorem dX0_hasPoint_17 : decode cX0_hasPoint 17 = .ok (.ireturn, 1) := by decide +kernel
theorem dX0_addPoint_0 : decode cX0_addPoint 0 = .ok (.aload_n 0, 1) := by decide +kernel
theorem dX0_addPoint_1 : decode cX0_addPoint 1 = .ok (.getfield 21, 3) := by decide +kernel
theorem dX0_addPoint_4 : decode cX0_addPoint 4 = .ok (.istore 4, 2) := by decide +kernel
theorem dX0_addPoint_6 : decode cX0_addPoint 6 = .ok (.aload_n 0, 1) := by decide +kernel
theorem dX0_addPoint_7 : decode cX0_addPoint 7 = .ok (.getfield 9, 3) := by decide +kernel
theorem dX0_addPoint_10 : decode cX0_addPoint 10 = .ok (.iload 4, 2) := by decide +kernel
theorem dX0_addPoint_12 : decode cX0_addPoint 12 = .ok (.iload_n 1, 1) := by decide +kernel
theorem dX0_addPoint_13 : decode cX0_addPoint 13 = .ok (.iastore, 1) := by decide +kernel
theorem dX0_addPoint_14 : decode cX0_addPoint 14 = .ok (.aload_n 0, 1) := by decide +kernel
theorem dX0_addPoint_15 : decode cX0_addPoint 15 = .ok (.getfield 15, 3) := by decide +kernel
theorem dX0_addPoint_18 : decode cX0_addPoint 18 = .ok (.iload 4, 2) := by decide +kernel
theorem dX0_addPoint_20 : decode cX0_addPoint 20 = .ok (.iload_n 2, 1) := by decide +kernel
theorem dX0_addPoint_21 : decode cX0_addPoint 21 = .ok (.iastore, 1) := by decide +kernel
theorem dX0_addPoint_22 : decode cX0_addPoint 22 = .ok (.aload_n 0, 1) := by decide +kernel
theorem dX0_addPoint_23 : decode cX0_addPoint 23 = .ok (.getfield 18, 3) := by decide +kernel
theorem dX0_addPoint_26 : decode cX0_addPoint 26 = .ok (.iload 4, 2) := by decide +kernel
theorem dX0_addPoint_28 : decode cX0_addPoint 28 = .ok (.iload_n 3, 1) := by decide +kernel
theorem dX0_addPoint_29 : decode cX0_addPoint 29 = .ok (.iastore, 1) := by decide +kernel
theorem dX0_addPoint_30 : decode cX0_addPoint 30 = .ok (.aload_n 0, 1) := by decide +kernel
theorem dX0_addPoint_31 : decode cX0_addPoint 31 = .ok (.dup, 1) := by decide +kernel
theorem dX0_addPoint_32 : decode cX0_addPoint 32 = .ok (.getfield 21, 3) := by decide +kernel
theorem dX0_addPoint_35 : decode cX0_addPoint 35 = .ok (.iconst 1, 1) := by decide +kernel
theorem dX0_addPoint_36 : decode cX0_addPoint 36 = .ok (.iadd, 1) := by decide +kernel
theorem dX0_addPoint_37 : decode cX0_addPoint 37 = .ok (.putfield 21, 3) := by decide +kernel
theorem dX0_addPoint_40 : decode cX0_addPoint 40 = .ok (.iload 4, 2) := by decide +kernel
theorem dX0_addPoint_42 : decode cX0_addPoint 42 = .ok (.ireturn, 1) := by decide +kernel
theorem dX0_removeLastPoint_0 : decode cX0_removeLastPoint 0 = .ok (.aload_n 0, 1) := by decide +kernel
theorem dX0_removeLastPoint_1 : decode cX0_removeLastPoint 1 = .ok (.dup, 1) := by decide +kernel
theorem dX0_removeLastPoint_2 : decode cX0_removeLastPoint 2 = .ok (.getfield 21, 3) := by decide +kernel
theorem dX0_removeLastPoint_5 : decode cX0_removeLastPoint 5 = .ok (.iconst 1, 1) := by decide +kernel
theorem dX0_removeLastPoint_6 : decode cX0_removeLastPoint 6 = .ok (.isub, 1) := by decide +kernel
theorem dX0_removeLastPoint_7 : decode cX0_removeLastPoint 7 = .ok (.putfield 21, 3) := by decide +kernel
theorem dX0_removeLastPoint_10 : decode cX0_removeLastPoint 10 = .ok (.aload_n 0, 1) := by decide +kernel
theorem dX0_removeLastPoint_11 : decode cX0_removeLastPoint 11 = .ok (.aload_n 0, 1) := by decide +kernel
theorem dX0_removeLastPoint_12 : decode cX0_removeLastPoint 12 = .ok (.getfield 28, 3) := by decide +kernel
theorem dX0_removeLastPoint_15 : decode cX0_removeLastPoint 15 = .ok (.aload_n 0, 1) := by decide +kernel
theorem dX0_removeLastPoint_16 : decode cX0_removeLastPoint 16 = .ok (.getfield 21, 3) := by decide +kernel
theorem dX0_removeLastPoint_19 : decode cX0_removeLastPoint 19 = .ok (.iconst 0, 1) := by decide +kernel
theorem dX0_removeLastPoint_20 : decode cX0_removeLastPoint 20 = .ok (.invokestatic 34, 3) := by decide +kernel
theorem dX0_removeLastPoint_23 : decode cX0_removeLastPoint 23 = .ok (.putfield 28, 3) := by decide +kernel
theorem dX0_removeLastPoint_26 : decode cX0_removeLastPoint 26 = .ok (.return_, 1) := by decide +kernel
theorem dX0_distance_0 : decode cX0_distance 0 = .ok (.aload_n 0, 1) := by decide +kernel
theorem dX0_distance_1 : decode cX0_distance 1 = .ok (.getfield 15, 3) := by decide +kernel
theorem dX0_distance_4 : decode cX0_distance 4 = .ok (.iload_n 1, 1) := by decide +kernel
theorem dX0_distance_5 : decode cX0_distance 5 = .ok (.iaload, 1) := by decide +kernel
theorem dX0_distance_6 : decode cX0_distance 6 = .ok (.aload_n 0, 1) := by decide +kernel
theorem dX0_distance_7 : decode cX0_distance 7 = .ok (.getfield 15, 3) := by decide +kernel
theorem dX0_distance_10 : decode cX0_distance 10 = .ok (.iload_n 2, 1) := by decide +kernel
theorem dX0_distance_11 : decode cX0_distance 11 = .ok (.iaload, 1) := by decide +kernel
theorem dX0_distance_12 : decode cX0_distance 12 = .ok (.isub, 1) := by decide +kernel
theorem dX0_distance_13 : decode cX0_distance 13 = .ok (.istore_n 3, 1) := by decide +kernel
theorem dX0_distance_14 : decode cX0_distance 14 = .ok (.aload_n 0, 1) := by decide +kernel
theorem dX0_distance_15 : decode cX0_distance 15 = .ok (.getfield 18, 3) := by decide +kernel
theorem dX0_distance_18 : decode cX0_distance 18 = .ok (.iload_n 1, 1) := by decide +kernel
theorem dX0_distance_19 : decode cX0_distance 19 = .ok (.iaload, 1) := by decide +kernel
theorem dX0_distance_20 : decode cX0_distance 20 = .ok (.aload_n 0, 1) := by decide +kernel
theorem dX0_distance_21 : decode cX0_distance 21 = .ok (.getfield 18, 3) := by decide +kernel
theorem dX0_distance_24 : decode cX0_distance 24 = .ok (.iload_n 2, 1) := by decide +kernel
theorem dX0_distance_25 : decode cX0_distance 25 = .ok (.iaload, 1) := by decide +kernel
theorem dX0_distance_26 : decode cX0_distance 26 = .ok (.isub, 1) := by decide +kernel
theorem dX0_distance_27 : decode cX0_distance 27 = .ok (.istore 4, 2) := by decide +kernel
theorem dX0_distance_29 : decode cX0_distance 29 = .ok (.iload_n 3, 1) := by decide +kernel
theorem dX0_distance_30 : decode cX0_distance 30 = .ok (.iload_n 3, 1) := by decide +kernel
theorem dX0_distance_31 : decode cX0_distance 31 = .ok (.imul, 1) := by decide +kernel
theorem dX0_distance_32 : decode cX0_distance 32 = .ok (.iload 4, 2) := by decide +kernel
theorem dX0_distance_34 : decode cX0_distance 34 = .ok (.iload 4, 2) := by decide +kernel
theorem dX0_distance_36 : decode cX0_distance 36 = .ok (.imul, 1) := by decide +kernel
theorem dX0_distance_37 : decode cX0_distance 37 = .ok (.iadd, 1) := by decide +kernel
theorem dX0_distance_38 : decode cX0_distance 38 = .ok (.ireturn, 1) := by decide +kernel
theorem dX0_isLeftOf_0 : decode cX0_isLeftOf 0 = .ok (.aload_n 0, 1) := by decide +kernel
theorem dX0_isLeftOf_1 : decode cX0_isLeftOf 1 = .ok (.getfield 15, 3) := by decide +kernel
theorem dX0_isLeftOf_4 : decode cX0_isLeftOf 4 = .ok (.iload_n 1, 1) := by decide +kernel
theorem dX0_isLeftOf_5 : decode cX0_isLeftOf 5 = .ok (.iaload, 1) := by decide +kernel
theorem dX0_isLeftOf_6 : decode cX0_isLeftOf 6 = .ok (.aload_n 0, 1) := by decide +kernel
theorem dX0_isLeftOf_7 : decode cX0_isLeftOf 7 = .ok (.getfield 15, 3) := by decide +kernel
theorem dX0_isLeftOf_10 : decode cX0_isLeftOf 10 = .ok (.iload_n 2, 1) := by decide +kernel
theorem dX0_isLeftOf_11 : decode cX0_isLeftOf 11 = .ok (.iaload, 1) := by decide +kernel
theorem dX0_isLeftOf_12 : decode cX0_isLeftOf 12 = .ok (.if_icmp .lt 23, 3) := by decide +kernel
theorem dX0_isLeftOf_15 : decode cX0_isLeftOf 15 = .ok (.aload_n 0, 1) := by decide +kernel
theorem dX0_isLeftOf_16 : decode cX0_isLeftOf 16 = .ok (.getfield 15, 3) := by decide +kernel
theorem dX0_isLeftOf_19 : decode cX0_isLeftOf 19 = .ok (.iload_n 1, 1) := by decide +kernel
theorem dX0_isLeftOf_20 : decode cX0_isLeftOf 20 = .ok (.iaload, 1) := by decide +kernel
theorem dX0_isLeftOf_21 : decode cX0_isLeftOf 21 = .ok (.aload_n 0, 1) := by decide +kernel
theorem dX0_isLeftOf_22 : decode cX0_isLeftOf 22 = .ok (.getfield 15, 3) := by decide +kernel
theorem dX0_isLeftOf_25 : decode cX0_isLeftOf 25 = .ok (.iload_n 2, 1) := by decide +kernel
theorem dX0_isLeftOf_26 : decode cX0_isLeftOf 26 = .ok (.iaload, 1) := by decide +kernel
theorem dX0_isLeftOf_27 : decode cX0_isLeftOf 27 = .ok (.if_icmp .ne 12, 3) := by decide +kernel
theorem dX0_isLeftOf_30 : decode cX0_isLeftOf 30 = .ok (.iload_n 1, 1) := by decide +kernel
theorem dX0_isLeftOf_31 : decode cX0_isLeftOf 31 = .ok (.iload_n 2, 1) := by decide +kernel
theorem dX0_isLeftOf_32 : decode cX0_isLeftOf 32 = .ok (.if_icmp .ge 7, 3) := by decide +kernel
theorem dX0_isLeftOf_35 : decode cX0_isLeftOf 35 = .ok (.iconst 1, 1) := by decide +kernel
theorem dX0_isLeftOf_36 : decode cX0_isLeftOf 36 = .ok (.goto 4, 3) := by decide +kernel
theorem dX0_isLeftOf_39 : decode cX0_isLeftOf 39 = .ok (.iconst 0, 1) := by decide +kernel
theorem dX0_isLeftOf_40 : decode cX0_isLeftOf 40 = .ok (.ireturn, 1) := by decide +kernel
theorem dX0_countNetsWithPoints_0 : decode cX0_countNetsWithPoints 0 = .ok (.iconst 0, 1) := by decide +kernel
theorem dX0_countNetsWithPoints_1 : decode cX0_countNetsWithPoints 1 = .ok (.istore_n 1, 1) := by decide +kernel
theorem dX0_countNetsWithPoints_2 : decode cX0_countNetsWithPoints 2 = .ok (.iconst 0, 1) := by decide +kernel
theorem dX0_countNetsWithPoints_3 : decode cX0_countNetsWithPoints 3 = .ok (.istore_n 2, 1) := by decide +kernel
theorem dX0_countNetsWithPoints_4 : decode cX0_countNetsWithPoints 4 = .ok (.iload_n 2, 1) := by decide +kernel
theorem dX0_countNetsWithPoints_5 : decode cX0_countNetsWithPoints 5 = .ok (.aload_n 0, 1) := by decide +kernel
theorem dX0_countNetsWithPoints_6 : decode cX0_countNetsWithPoints 6 = .ok (.getfield 21, 3) := by decide +kernel
theorem dX0_countNetsWithPoints_9 : decode cX0_countNetsWithPoints 9 = .ok (.if_icmp .ge 20, 3) := by decide +kernel
theorem dX0_countNetsWithPoints_12 : decode cX0_countNetsWithPoints 12 = .ok (.iload_n 1, 1) := by decide +kernel
theorem dX0_countNetsWithPoints_13 : decode cX0_countNetsWithPoints 13 = .ok (.iconst 1, 1) := by decide +kernel
theorem dX0_countNetsWithPoints_14 : decode cX0_countNetsWithPoints 14 = .ok (.aload_n 0, 1) := by decide +kernel
theorem dX0_countNetsWithPoints_15 : decode cX0_countNetsWithPoints 15 = .ok (.getfield 9, 3) := by decide +kernel
theorem dX0_countNetsWithPoints_18 : decode cX0_countNetsWithPoints 18 = .ok (.iload_n 2, 1) := by decide +kernel
theorem dX0_countNetsWithPoints_19 : decode cX0_countNetsWithPoints 19 = .ok (.iaload, 1) := by decide +kernel
theorem dX0_countNetsWithPoints_20 : decode cX0_countNetsWithPoints 20 = .ok (.ishl, 1) := by decide +kernel
theorem dX0_countNetsWithPoints_21 : decode cX0_countNetsWithPoints 21 = .ok (.ior, 1) := by decide +kernel
theorem dX0_countNetsWithPoints_22 : decode cX0_countNetsWithPoints 22 = .ok (.istore_n 1, 1) := by decide +kernel
theorem dX0_countNetsWithPoints_23 : decode cX0_countNetsWithPoints 23 = .ok (.iinc 2 1, 3) := by decide +kernel
theorem dX0_countNetsWithPoints_26 : decode cX0_countNetsWithPoints 26 = .ok (.goto (-22), 3) := by decide +kernel
theorem dX0_countNetsWithPoints_29 : decode cX0_countNetsWithPoints 29 = .ok (.iload_n 1, 1) := by decide +kernel
theorem dX0_countNetsWithPoints_30 : decode cX0_countNetsWithPoints 30 = .ok (.invokestatic 38, 3) := by decide +kernel
theorem dX0_countNetsWithPoints_33 : decode cX0_countNetsWithPoints 33 = .ok (.ireturn, 1) := by decide +kernel
theorem dX1_init_0 : decode cX1_init 0 = .ok (.aload_n 0, 1) := by decide +kernel
theorem dX1_init_1 : decode cX1_init 1 = .ok (.invokespecial 3, 3) := by decide +kernel
theorem dX1_init_4 : decode cX1_init 4 = .ok (.aload_n 0, 1) := by decide +kernel
theorem dX1_init_5 : decode cX1_init 5 = .ok (.iconst 0, 1) := by decide +kernel
theorem dX1_init_6 : decode cX1_init 6 = .ok (.putfield 9, 3) := by decide +kernel
theorem dX1_init_9 : decode cX1_init 9 = .ok (.aload_n 0, 1) := by decide +kernel
theorem dX1_init_10 : decode cX1_init 10 = .ok (.bipush 110, 2) := by decide +kernel
theorem dX1_init_12 : decode cX1_init 12 = .ok (.newarray .int, 2) := by decide +kernel
theorem dX1_init_14 : decode cX1_init 14 = .ok (.putfield 15, 3) := by decide +kernel
theorem dX1_init_17 : decode cX1_init 17 = .ok (.aload_n 0, 1) := by decide +kernel
theorem dX1_init_18 : decode cX1_init 18 = .ok (.sipush 10240, 3) := by decide +kernel
theorem dX1_init_21 : decode cX1_init 21 = .ok (.newarray .int, 2) := by decide +kernel
theorem dX1_init_23 : decode cX1_init 23 = .ok (.putfield 19, 3) := by decide +kernel
theorem dX1_init_26 : decode cX1_init 26 = .ok (.aload_n 0, 1) := by decide +kernel
theorem dX1_init_27 : decode cX1_init 27 = .ok (.new 22, 3) := by decide +kernel
theorem dX1_init_30 : decode cX1_init 30 = .ok (.dup, 1) := by decide +kernel
theorem dX1_init_31 : decode cX1_init 31 = .ok (.invokespecial 24, 3) := by decide +kernel
theorem dX1_init_34 : decode cX1_init 34 = .ok (.putfield 25, 3) := by decide +kernel
theorem dX1_init_37 : decode cX1_init 37 = .ok (.aload_n 0, 1) := by decide +kernel
theorem dX1_init_38 : decode cX1_init 38 = .ok (.new 22, 3) := by decide +kernel
theorem dX1_init_41 : decode cX1_init 41 = .ok (.dup, 1) := by decide +kernel
theorem dX1_init_42 : decode cX1_init 42 = .ok (.invokespecial 24, 3) := by decide +kernel
theorem dX1_init_45 : decode cX1_init 45 = .ok (.putfield 29, 3) := by decide +kernel
theorem dX1_init_48 : decode cX1_init 48 = .ok (.aload_n 0, 1) := by decide +kernel
theorem dX1_init_49 : decode cX1_init 49 = .ok (.iconst 0, 1) := by decide +kernel
theorem dX1_init_50 : decode cX1_init 50 = .ok (.putfield 32, 3) := by decide +kernel
theorem dX1_init_53 : decode cX1_init 53 = .ok (.return_, 1) := by decide +kernel
theorem dX1_measure_0 : decode cX1_measure 0 = .ok (.aload_n 0, 1) := by decide +kernel
theorem dX1_measure_1 : decode cX1_measure 1 = .ok (.aload_n 2, 1) := by decide +kernel
theorem dX1_measure_2 : decode cX1_measure 2 = .ok (.getfield 36, 3) := by decide +kernel
theorem dX1_measure_5 : decode cX1_measure 5 = .ok (.putfield 9, 3) := by decide +kernel
theorem dX1_measure_8 : decode cX1_measure 8 = .ok (.aload_n 0, 1) := by decide +kernel
theorem dX1_measure_9 : decode cX1_measure 9 = .ok (.iconst 0, 1) := by decide +kernel
theorem dX1_measure_10 : decode cX1_measure 10 = .ok (.putfield 32, 3) := by decide +kernel
theorem dX1_measure_13 : decode cX1_measure 13 = .ok (.iconst 0, 1) := by decide +kernel
theorem dX1_measure_14 : decode cX1_measure 14 = .ok (.istore_n 3, 1) := by decide +kernel
theorem dX1_measure_15 : decode cX1_measure 15 = .ok (.iload_n 3, 1) := by decide +kernel
theorem dX1_measure_16 : decode cX1_measure 16 = .ok (.aload_n 0, 1) := by decide +kernel
theorem dX1_measure_17 : decode cX1_measure 17 = .ok (.getfield 9, 3) := by decide +kernel
theorem dX1_measure_20 : decode cX1_measure 20 = .ok (.if_icmp .ge 132, 3) := by decide +kernel
theorem dX1_measure_23 : decode cX1_measure 23 = .ok (.aload_n 2, 1) := by decide +kernel
theorem dX1_measure_24 : decode cX1_measure 24 = .ok (.getfield 39, 3) := by decide +kernel
theorem dX1_measure_27 : decode cX1_measure 27 = .ok (.iload_n 3, 1) := by decide +kernel
theorem dX1_measure_28 : decode cX1_measure 28 = .ok (.iaload, 1) := by decide +kernel
theorem dX1_measure_29 : decode cX1_measure 29 = .ok (.istore 4, 2) := by decide +kernel
theorem dX1_measure_31 : decode cX1_measure 31 = .ok (.aload_n 2, 1) := by decide +kernel
theorem dX1_measure_32 : decode cX1_measure 32 = .ok (.getfield 42, 3) := by decide +kernel
theorem dX1_measure_35 : decode cX1_measure 35 = .ok (.iload_n 3, 1) := by decide +kernel
theorem dX1_measure_36 : decode cX1_measure 36 = .ok (.iaload, 1) := by decide +kernel
theorem dX1_measure_37 : decode cX1_measure 37 = .ok (.istore 5, 2) := by decide +kernel
theorem dX1_measure_39 : decode cX1_measure 39 = .ok (.aload_n 0, 1) := by decide +kernel
theorem dX1_measure_40 : decode cX1_measure 40 = .ok (.getfield 15, 3) := by decide +kernel
theorem dX1_measure_43 : decode cX1_measure 43 = .ok (.iload_n 3, 1) := by decide +kernel
theorem dX1_measure_44 : decode cX1_measure 44 = .ok (.aload_n 1, 1) := by decide +kernel
theorem dX1_measure_45 : decode cX1_measure 45 = .ok (.getfield 45, 3) := by decide +kernel
theorem dX1_measure_48 : decode cX1_measure 48 = .ok (.iload 4, 2) := by decide +kernel
theorem dX1_measure_50 : decode cX1_measure 50 = .ok (.iaload, 1) := by decide +kernel
theorem dX1_measure_51 : decode cX1_measure 51 = .ok (.aload_n 1, 1) := by decide +kernel
theorem dX1_measure_52 : decode cX1_measure 52 = .ok (.getfield 50, 3) := by decide +kernel
theorem dX1_measure_55 : decode cX1_measure 55 = .ok (.iload 4, 2) := by decide +kernel
theorem dX1_measure_57 : decode cX1_measure 57 = .ok (.iaload, 1) := by decide +kernel
theorem dX1_measure_58 : decode cX1_measure 58 = .ok (.invokestatic 53, 3) := by decide +kernel
theorem dX1_measure_61 : decode cX1_measure 61 = .ok (.aload_n 1, 1) := by decide +kernel
theorem dX1_measure_62 : decode cX1_measure 62 = .ok (.getfield 45, 3) := by decide +kernel
theorem dX1_measure_65 : decode cX1_measure 65 = .ok (.iload 5, 2) := by decide +kernel
theorem dX1_measure_67 : decode cX1_measure 67 = .ok (.iaload, 1) := by decide +kernel
theorem dX1_measure_68 : decode cX1_measure 68 = .ok (.bipush 20, 2) := by decide +kernel
theorem dX1_measure_70 : decode cX1_measure 70 = .ok (.isub, 1) := by decide +kernel
theorem dX1_measure_71 : decode cX1_measure 71 = .ok (.aload_n 1, 1) := by decide +kernel
theorem dX1_measure_72 : decode cX1_measure 72 = .ok (.getfield 50, 3) := by decide +kernel
theorem dX1_measure_75 : decode cX1_measure 75 = .ok (.iload 5, 2) := by decide +kernel
theorem dX1_measure_77 : decode cX1_measure 77 = .ok (.iaload, 1) := by decide +kernel
theorem dX1_measure_78 : decode cX1_measure 78 = .ok (.invokestatic 53, 3) := by decide +kernel
theorem dX1_measure_81 : decode cX1_measure 81 = .ok (.invokestatic 57, 3) := by decide +kernel
theorem dX1_measure_84 : decode cX1_measure 84 = .ok (.iastore, 1) := by decide +kernel
theorem dX1_measure_85 : decode cX1_measure 85 = .ok (.iconst 0, 1) := by decide +kernel
theorem dX1_measure_86 : decode cX1_measure 86 = .ok (.istore 6, 2) := by decide +kernel
theorem dX1_measure_88 : decode cX1_measure 88 = .ok (.iload 6, 2) := by decide +kernel
theorem dX1_measure_90 : decode cX1_measure 90 = .ok (.aload_n 0, 1) := by decide +kernel
theorem dX1_measure_91 : decode cX1_measure 91 = .ok (.getfield 9, 3) := by decide +kernel
theorem dX1_measure_94 : decode cX1_measure 94 = .ok (.if_icmp .ge 52, 3) := by decide +kernel
theorem dX1_measure_97 : decode cX1_measure 97 = .ok (.aload_n 0, 1) := by decide +kernel
theorem dX1_measure_98 : decode cX1_measure 98 = .ok (.getfield 15, 3) := by decide +kernel
theorem dX1_measure_101 : decode cX1_measure 101 = .ok (.iload 6, 2) := by decide +kernel
theorem dX1_measure_103 : decode cX1_measure 103 = .ok (.iconst 1, 1) := by decide +kernel
theorem dX1_measure_104 : decode cX1_measure 104 = .ok (.iadd, 1) := by decide +kernel
theorem dX1_measure_105 : decode cX1_measure 105 = .ok (.bipush 10, 2) := by decide +kernel
theorem dX1_measure_107 : decode cX1_measure 107 = .ok (.imul, 1) := by decide +kernel
theorem dX1_measure_108 : decode cX1_measure 108 = .ok (.iload_n 3, 1) := by decide +kernel
theorem dX1_measure_109 : decode cX1_measure 109 = .ok (.iadd, 1) := by decide +kernel
theorem dX1_measure_110 : decode cX1_measure 110 = .ok (.aload_n 1, 1) := by decide +kernel
theorem dX1_measure_111 : decode cX1_measure 111 = .ok (.aload_n 2, 1) := by decide +kernel
theorem dX1_measure_112 : decode cX1_measure 112 = .ok (.getfield 39, 3) := by decide +kernel
theorem dX1_measure_115 : decode cX1_measure 115 = .ok (.iload 6, 2) := by decide +kernel
theorem dX1_measure_117 : decode cX1_measure 117 = .ok (.iaload, 1) := by decide +kernel
theorem dX1_measure_118 : decode cX1_measure 118 = .ok (.iload 4, 2) := by decide +kernel
theorem dX1_measure_120 : decode cX1_measure 120 = .ok (.invokestatic 62, 3) := by decide +kernel
theorem dX1_measure_123 : decode cX1_measure 123 = .ok (.aload_n 1, 1) := by decide +kernel
theorem dX1_measure_124 : decode cX1_measure 124 = .ok (.aload_n 2, 1) := by decide +kernel
theorem dX1_measure_125 : decode cX1_measure 125 = .ok (.getfield 42, 3) := by decide +kernel
theorem dX1_measure_128 : decode cX1_measure 128 = .ok (.iload 6, 2) := by decide +kernel
theorem dX1_measure_130 : decode cX1_measure 130 = .ok (.iaload, 1) := by decide +kernel
theorem dX1_measure_131 : decode cX1_measure 131 = .ok (.iload 5, 2) := by decide +kernel
theorem dX1_measure_133 : decode cX1_measure 133 = .ok (.invokestatic 62, 3) := by decide +kernel
theorem dX1_measure_136 : decode cX1_measure 136 = .ok (.invokestatic 57, 3) := by decide +kernel
theorem dX1_measure_139 : decode cX1_measure 139 = .ok (.iastore, 1) := by decide +kernel
theorem dX1_measure_140 : decode cX1_measure 140 = .ok (.iinc 6 1, 3) := by decide +kernel
theorem dX1_measure_143 : decode cX1_measure 143 = .ok (.goto (-55), 3) := by decide +kernel
theorem dX1_measure_146 : decode cX1_measure 146 = .ok (.iinc 3 1, 3) := by decide +kernel
theorem dX1_measure_149 : decode cX1_measure 149 = .ok (.goto (-134), 3) := by decide +kernel
theorem dX1_measure_152 : decode cX1_measure 152 = .ok (.return_, 1) := by decide +kernel
theorem dX1_way_0 : decode cX1_way 0 = .ok (.aload_n 0, 1) := by decide +kernel
theorem dX1_way_1 : decode cX1_way 1 = .ok (.getfield 45, 3) := by decide +kernel
theorem dX1_way_4 : decode cX1_way 4 = .ok (.iload_n 2, 1) := by decide +kernel
theorem dX1_way_5 : decode cX1_way 5 = .ok (.iaload, 1) := by decide +kernel
theorem dX1_way_6 : decode cX1_way 6 = .ok (.aload_n 0, 1) := by decide +kernel
theorem dX1_way_7 : decode cX1_way 7 = .ok (.getfield 45, 3) := by decide +kernel
theorem dX1_way_10 : decode cX1_way 10 = .ok (.iload_n 1, 1) := by decide +kernel
theorem dX1_way_11 : decode cX1_way 11 = .ok (.iaload, 1) := by decide +kernel
theorem dX1_way_12 : decode cX1_way 12 = .ok (.isub, 1) := by decide +kernel
theorem dX1_way_13 : decode cX1_way 13 = .ok (.aload_n 0, 1) := by decide +kernel
theorem dX1_way_14 : decode cX1_way 14 = .ok (.getfield 50, 3) := by decide +kernel
theorem dX1_way_17 : decode cX1_way 17 = .ok (.iload_n 2, 1) := by decide +kernel
theorem dX1_way_18 : decode cX1_way 18 = .ok (.iaload, 1) := by decide +kernel
theorem dX1_way_19 : decode cX1_way 19 = .ok (.aload_n 0, 1) := by decide +kernel
theorem dX1_way_20 : decode cX1_way 20 = .ok (.getfield 50, 3) := by decide +kernel
theorem dX1_way_23 : decode cX1_way 23 = .ok (.iload_n 1, 1) := by decide +kernel
theorem dX1_way_24 : decode cX1_way 24 = .ok (.iaload, 1) := by decide +kernel
theorem dX1_way_25 : decode cX1_way 25 = .ok (.isub, 1) := by decide +kernel
theorem dX1_way_26 : decode cX1_way 26 = .ok (.invokestatic 53, 3) := by decide +kernel
theorem dX1_way_29 : decode cX1_way 29 = .ok (.ireturn, 1) := by decide +kernel
theorem dX1_longer_0 : decode cX1_longer 0 = .ok (.iload_n 0, 1) := by decide +kernel
theorem dX1_longer_1 : decode cX1_longer 1 = .ok (.invokestatic 66, 3) := by decide +kernel
theorem dX1_longer_4 : decode cX1_longer 4 = .ok (.iload_n 1, 1) := by decide +kernel
theorem dX1_longer_5 : decode cX1_longer 5 = .ok (.invokestatic 66, 3) := by decide +kernel
theorem dX1_longer_8 : decode cX1_longer 8 = .ok (.invokestatic 57, 3) := by decide +kernel
theorem dX1_longer_11 : decode cX1_longer 11 = .ok (.ireturn, 1) := by decide +kernel
theorem dX1_leap_0 : decode cX1_leap 0 = .ok (.aload_n 0, 1) := by decide +kernel
theorem dX1_leap_1 : decode cX1_leap 1 = .ok (.getfield 15, 3) := by decide +kernel
theorem dX1_leap_4 : decode cX1_leap 4 = .ok (.iload_n 1, 1) := by decide +kernel
theorem dX1_leap_5 : decode cX1_leap 5 = .ok (.bipush 10, 2) := by decide +kernel
theorem dX1_leap_7 : decode cX1_leap 7 = .ok (.imul, 1) := by decide +kernel
theorem dX1_leap_8 : decode cX1_leap 8 = .ok (.iload_n 2, 1) := by decide +kernel
theorem dX1_leap_9 : decode cX1_leap 9 = .ok (.iadd, 1) := by decide +kernel
theorem dX1_leap_10 : decode cX1_leap 10 = .ok (.iaload, 1) := by decide +kernel
theorem dX1_leap_11 : decode cX1_leap 11 = .ok (.ireturn, 1) := by decide +kernel
theorem dX1_allTries_0 : decode cX1_allTries 0 = .ok (.iconst 1, 1) := by decide +kernel
theorem dX1_allTries_1 : decode cX1_allTries 1 = .ok (.aload_n 0, 1) := by decide +kernel
theorem dX1_allTries_2 : decode cX1_allTries 2 = .ok (.getfield 9, 3) := by decide +kernel
theorem dX1_allTries_5 : decode cX1_allTries 5 = .ok (.ishl, 1) := by decide +kernel
theorem dX1_allTries_6 : decode cX1_allTries 6 = .ok (.iconst 1, 1) := by decide +kernel
theorem dX1_allTries_7 : decode cX1_allTries 7 = .ok (.isub, 1) := by decide +kernel
theorem dX1_allTries_8 : decode cX1_allTries 8 = .ok (.ireturn, 1) := by decide +kernel
theorem dX1_planNearest_0 : decode cX1_planNearest 0 = .ok (.aload_n 0, 1) := by decide +kernel
theorem dX1_planNearest_1 : decode cX1_planNearest 1 = .ok (.aload_n 0, 1) := by decide +kernel
theorem dX1_planNearest_2 : decode cX1_planNearest 2 = .ok (.getfield 29, 3) := by decide +kernel
theorem dX1_planNearest_5 : decode cX1_planNearest 5 = .ok (.iconst 0, 1) := by decide +kernel
theorem dX1_planNearest_6 : decode cX1_planNearest 6 = .ok (.invokevirtual 70, 3) := by decide +kernel
theorem dX1_planNearest_9 : decode cX1_planNearest 9 = .ok (.return_, 1) := by decide +kernel
theorem dX1_planBest_0 : decode cX1_planBest 0 = .ok (.aload_n 0, 1) := by decide +kernel
theorem dX1_planBest_1 : decode cX1_planBest 1 = .ok (.getfield 32, 3) := by decide +kernel
theorem dX1_planBest_4 : decode cX1_planBest 4 = .ok (.ifCond .ne 21, 3) := by decide +kernel
theorem dX1_planBest_7 : decode cX1_planBest 7 = .ok (.aload_n 0, 1) := by decide +kernel
theorem dX1_planBest_8 : decode cX1_planBest 8 = .ok (.invokevirtual 74, 3) := by decide +kernel
theorem dX1_planBest_11 : decode cX1_planBest 11 = .ok (.aload_n 0, 1) := by decide +kernel
theorem dX1_planBest_12 : decode cX1_planBest 12 = .ok (.aload_n 0, 1) := by decide +kernel
theorem dX1_planBest_13 : decode cX1_planBest 13 = .ok (.getfield 25, 3) := by decide +kernel
theorem dX1_planBest_16 : decode cX1_planBest 16 = .ok (.iconst 1, 1) := by decide +kernel
theorem dX1_planBest_17 : decode cX1_planBest 17 = .ok (.invokevirtual 70, 3) := by decide +kernel
theorem dX1_planBest_20 : decode cX1_planBest 20 = .ok (.aload_n 0, 1) := by decide +kernel
theorem dX1_planBest_21 : decode cX1_planBest 21 = .ok (.iconst 1, 1) := by decide +kernel
theorem dX1_planBest_22 : decode cX1_planBest 22 = .ok (.putfield 32, 3) := by decide +kernel
theorem dX1_planBest_25 : decode cX1_planBest 25 = .ok (.return_, 1) := by decide +kernel
theorem dX1_plan_0 : decode cX1_plan 0 = .ok (.aload_n 1, 1) := by decide +kernel
theorem dX1_plan_1 : decode cX1_plan 1 = .ok (.invokevirtual 77, 3) := by decide +kernel
theorem dX1_plan_4 : decode cX1_plan 4 = .ok (.iconst 0, 1) := by decide +kernel
theorem dX1_plan_5 : decode cX1_plan 5 = .ok (.istore_n 3, 1) := by decide +kernel
theorem dX1_plan_6 : decode cX1_plan 6 = .ok (.aload_n 0, 1) := by decide +kernel
theorem dX1_plan_7 : decode cX1_plan 7 = .ok (.invokevirtual 80, 3) := by decide +kernel
theorem dX1_plan_10 : decode cX1_plan 10 = .ok (.istore 4, 2) := by decide +kernel
theorem dX1_plan_12 : decode cX1_plan 12 = .ok (.iconst 0, 1) := by decide +kernel
theorem dX1_plan_13 : decode cX1_plan 13 = .ok (.istore 5, 2) := by decide +kernel
theorem dX1_plan_15 : decode cX1_plan 15 = .ok (.iload 5, 2) := by decide +kernel
theorem dX1_plan_17 : decode cX1_plan 17 = .ok (.aload_n 0, 1) := by decide +kernel
theorem dX1_plan_18 : decode cX1_plan 18 = .ok (.getfield 9, 3) := by decide +kernel
theorem dX1_plan_21 : decode cX1_plan 21 = .ok (.if_icmp .ge 61, 3) := by decide +kernel
theorem dX1_plan_24 : decode cX1_plan 24 = .ok (.iload_n 2, 1) := by decide +kernel
theorem dX1_plan_25 : decode cX1_plan 25 = .ok (.ifCond .eq 13, 3) := by decide +kernel
theorem dX1_plan_28 : decode cX1_plan 28 = .ok (.aload_n 0, 1) := by decide +kernel
theorem dX1_plan_29 : decode cX1_plan 29 = .ok (.iload_n 3, 1) := by decide +kernel
theorem dX1_plan_30 : decode cX1_plan 30 = .ok (.iload 4, 2) := by decide +kernel
theorem dX1_plan_32 : decode cX1_plan 32 = .ok (.invokevirtual 84, 3) := by decide +kernel
theorem dX1_plan_35 : decode cX1_plan 35 = .ok (.goto 10, 3) := by decide +kernel
theorem dX1_plan_38 : decode cX1_plan 38 = .ok (.aload_n 0, 1) := by decide +kernel
theorem dX1_plan_39 : decode cX1_plan 39 = .ok (.iload_n 3, 1) := by decide +kernel
theorem dX1_plan_40 : decode cX1_plan 40 = .ok (.iload 4, 2) := by decide +kernel
theorem dX1_plan_42 : decode cX1_plan 42 = .ok (.invokevirtual 87, 3) := by decide +kernel
theorem dX1_plan_45 : decode cX1_plan 45 = .ok (.istore 6, 2) := by decide +kernel
theorem dX1_plan_47 : decode cX1_plan 47 = .ok (.aload_n 1, 1) := by decide +kernel
theorem dX1_plan_48 : decode cX1_plan 48 = .ok (.iload 6, 2) := by decide +kernel
theorem dX1_plan_50 : decode cX1_plan 50 = .ok (.aload_n 0, 1) := by decide +kernel
theorem dX1_plan_51 : decode cX1_plan 51 = .ok (.iload_n 3, 1) := by decide +kernel
theorem dX1_plan_52 : decode cX1_plan 52 = .ok (.iload 6, 2) := by decide +kernel
theorem dX1_plan_54 : decode cX1_plan 54 = .ok (.invokevirtual 90, 3) := by decide +kernel
theorem dX1_plan_57 : decode cX1_plan 57 = .ok (.invokevirtual 93, 3) := by decide +kernel
theorem dX1_plan_60 : decode cX1_plan 60 = .ok (.iload 4, 2) := by decide +kernel
theorem dX1_plan_62 : decode cX1_plan 62 = .ok (.iconst 1, 1) := by decide +kernel
theorem dX1_plan_63 : decode cX1_plan 63 = .ok (.iload 6, 2) := by decide +kernel
theorem dX1_plan_65 : decode cX1_plan 65 = .ok (.ishl, 1) := by decide +kernel
theorem dX1_plan_66 : decode cX1_plan 66 = .ok (.iconst (-1), 1) := by decide +kernel
theorem dX1_plan_67 : decode cX1_plan 67 = .ok (.ixor, 1) := by decide +kernel
theorem dX1_plan_68 : decode cX1_plan 68 = .ok (.iand, 1) := by decide +kernel
theorem dX1_plan_69 : decode cX1_plan 69 = .ok (.istore 4, 2) := by decide +kernel
theorem dX1_plan_71 : decode cX1_plan 71 = .ok (.iload 6, 2) := by decide +kernel
theorem dX1_plan_73 : decode cX1_plan 73 = .ok (.iconst 1, 1) := by decide +kernel
theorem dX1_plan_74 : decode cX1_plan 74 = .ok (.iadd, 1) := by decide +kernel
theorem dX1_plan_75 : decode cX1_plan 75 = .ok (.istore_n 3, 1) := by decide +kernel
theorem dX1_plan_76 : decode cX1_plan 76 = .ok (.iinc 5 1, 3) := by decide +kernel
theorem dX1_plan_79 : decode cX1_plan 79 = .ok (.goto (-64), 3) := by decide +kernel
theorem dX1_plan_82 : decode cX1_plan 82 = .ok (.return_, 1) := by decide +kernel
theorem dX1_nearestOf_0 : decode cX1_nearestOf 0 = .ok (.iconst 0, 1) := by decide +kernel
theorem dX1_nearestOf_1 : decode cX1_nearestOf 1 = .ok (.istore_n 3, 1) := by decide +kernel
theorem dX1_nearestOf_2 : decode cX1_nearestOf 2 = .ok (.sipush 201, 3) := by decide +kernel
theorem dX1_nearestOf_5 : decode cX1_nearestOf 5 = .ok (.istore 4, 2) := by decide +kernel
theorem dX1_nearestOf_7 : decode cX1_nearestOf 7 = .ok (.iconst 0, 1) := by decide +kernel
theorem dX1_nearestOf_8 : decode cX1_nearestOf 8 = .ok (.istore 5, 2) := by decide +kernel
theorem dX1_nearestOf_10 : decode cX1_nearestOf 10 = .ok (.iload 5, 2) := by decide +kernel
theorem dX1_nearestOf_12 : decode cX1_nearestOf 12 = .ok (.aload_n 0, 1) := by decide +kernel
theorem dX1_nearestOf_13 : decode cX1_nearestOf 13 = .ok (.getfield 9, 3) := by decide +kernel
theorem dX1_nearestOf_16 : decode cX1_nearestOf 16 = .ok (.if_icmp .ge 42, 3) := by decide +kernel
theorem dX1_nearestOf_19 : decode cX1_nearestOf 19 = .ok (.iload_n 2, 1) := by decide +kernel
theorem dX1_nearestOf_20 : decode cX1_nearestOf 20 = .ok (.iload 5, 2) := by decide +kernel
theorem dX1_nearestOf_22 : decode cX1_nearestOf 22 = .ok (.invokestatic 97, 3) := by decide +kernel
theorem dX1_nearestOf_25 : decode cX1_nearestOf 25 = .ok (.ifCond .eq 27, 3) := by decide +kernel
theorem dX1_nearestOf_28 : decode cX1_nearestOf 28 = .ok (.aload_n 0, 1) := by decide +kernel
theorem dX1_nearestOf_29 : decode cX1_nearestOf 29 = .ok (.iload_n 1, 1) := by decide +kernel
theorem dX1_nearestOf_30 : decode cX1_nearestOf 30 = .ok (.iload 5, 2) := by decide +kernel
theorem dX1_nearestOf_32 : decode cX1_nearestOf 32 = .ok (.invokevirtual 90, 3) := by decide +kernel
theorem dX1_nearestOf_35 : decode cX1_nearestOf 35 = .ok (.iload 4, 2) := by decide +kernel
theorem dX1_nearestOf_37 : decode cX1_nearestOf 37 = .ok (.if_icmp .ge 15, 3) := by decide +kernel
theorem dX1_nearestOf_40 : decode cX1_nearestOf 40 = .ok (.iload 5, 2) := by decide +kernel
theorem dX1_nearestOf_42 : decode cX1_nearestOf 42 = .ok (.istore_n 3, 1) := by decide +kernel
theorem dX1_nearestOf_43 : decode cX1_nearestOf 43 = .ok (.aload_n 0, 1) := by decide +kernel
theorem dX1_nearestOf_44 : decode cX1_nearestOf 44 = .ok (.iload_n 1, 1) := by decide +kernel
theorem dX1_nearestOf_45 : decode cX1_nearestOf 45 = .ok (.iload 5, 2) := by decide +kernel
theorem dX1_nearestOf_47 : decode cX1_nearestOf 47 = .ok (.invokevirtual 90, 3) := by decide +kernel
theorem dX1_nearestOf_50 : decode cX1_nearestOf 50 = .ok (.istore 4, 2) := by decide +kernel
theorem dX1_nearestOf_52 : decode cX1_nearestOf 52 = .ok (.iinc 5 1, 3) := by decide +kernel
theorem dX1_nearestOf_55 : decode cX1_nearestOf 55 = .ok (.goto (-45), 3) := by decide +kernel
theorem dX1_nearestOf_58 : decode cX1_nearestOf 58 = .ok (.iload_n 3, 1) := by decide +kernel
theorem dX1_nearestOf_59 : decode cX1_nearestOf 59 = .ok (.ireturn, 1) := by decide +kernel
theorem dX1_weighOnward_0 : decode cX1_weighOnward 0 = .ok (.aload_n 0, 1) := by decide +kernel
theorem dX1_weighOnward_1 : decode cX1_weighOnward 1 = .ok (.invokevirtual 80, 3) := by decide +kernel
theorem dX1_weighOnward_4 : decode cX1_weighOnward 4 = .ok (.istore_n 1, 1) := by decide +kernel
theorem dX1_weighOnward_5 : decode cX1_weighOnward 5 = .ok (.iconst 1, 1) := by decide +kernel
theorem dX1_weighOnward_6 : decode cX1_weighOnward 6 = .ok (.istore_n 2, 1) := by decide +kernel
theorem dX1_weighOnward_7 : decode cX1_weighOnward 7 = .ok (.iload_n 2, 1) := by decide +kernel
theorem dX1_weighOnward_8 : decode cX1_weighOnward 8 = .ok (.iload_n 1, 1) := by decide +kernel
theorem dX1_weighOnward_9 : decode cX1_weighOnward 9 = .ok (.if_icmp .gt 52, 3) := by decide +kernel
theorem dX1_weighOnward_12 : decode cX1_weighOnward 12 = .ok (.iconst 0, 1) := by decide +kernel
theorem dX1_weighOnward_13 : decode cX1_weighOnward 13 = .ok (.istore_n 3, 1) := by decide +kernel
theorem dX1_weighOnward_14 : decode cX1_weighOnward 14 = .ok (.iload_n 3, 1) := by decide +kernel
theorem dX1_weighOnward_15 : decode cX1_weighOnward 15 = .ok (.aload_n 0, 1) := by decide +kernel
theorem dX1_weighOnward_16 : decode cX1_weighOnward 16 = .ok (.getfield 9, 3) := by decide +kernel
theorem dX1_weighOnward_19 : decode cX1_weighOnward 19 = .ok (.if_icmp .ge 36, 3) := by decide +kernel
theorem dX1_weighOnward_22 : decode cX1_weighOnward 22 = .ok (.iload_n 2, 1) := by decide +kernel
theorem dX1_weighOnward_23 : decode cX1_weighOnward 23 = .ok (.iload_n 3, 1) := by decide +kernel
theorem dX1_weighOnward_24 : decode cX1_weighOnward 24 = .ok (.invokestatic 97, 3) := by decide +kernel
theorem dX1_weighOnward_27 : decode cX1_weighOnward 27 = .ok (.ifCond .ne 22, 3) := by decide +kernel
theorem dX1_weighOnward_30 : decode cX1_weighOnward 30 = .ok (.aload_n 0, 1) := by decide +kernel
theorem dX1_weighOnward_31 : decode cX1_weighOnward 31 = .ok (.getfield 19, 3) := by decide +kernel
theorem dX1_weighOnward_34 : decode cX1_weighOnward 34 = .ok (.iload_n 2, 1) := by decide +kernel
theorem dX1_weighOnward_35 : decode cX1_weighOnward 35 = .ok (.bipush 10, 2) := by decide +kernel
theorem dX1_weighOnward_37 : decode cX1_weighOnward 37 = .ok (.imul, 1) := by decide +kernel
theorem dX1_weighOnward_38 : decode cX1_weighOnward 38 = .ok (.iload_n 3, 1) := by decide +kernel
theorem dX1_weighOnward_39 : decode cX1_weighOnward 39 = .ok (.iadd, 1) := by decide +kernel
theorem dX1_weighOnward_40 : decode cX1_weighOnward 40 = .ok (.aload_n 0, 1) := by decide +kernel
theorem dX1_weighOnward_41 : decode cX1_weighOnward 41 = .ok (.iload_n 3, 1) := by decide +kernel
theorem dX1_weighOnward_42 : decode cX1_weighOnward 42 = .ok (.iconst 1, 1) := by decide +kernel
theorem dX1_weighOnward_43 : decode cX1_weighOnward 43 = .ok (.iadd, 1) := by decide +kernel
theorem dX1_weighOnward_44 : decode cX1_weighOnward 44 = .ok (.iload_n 2, 1) := by decide +kernel
theorem dX1_weighOnward_45 : decode cX1_weighOnward 45 = .ok (.invokevirtual 101, 3) := by decide +kernel
theorem dX1_weighOnward_48 : decode cX1_weighOnward 48 = .ok (.iastore, 1) := by decide +kernel
theorem dX1_weighOnward_49 : decode cX1_weighOnward 49 = .ok (.iinc 3 1, 3) := by decide +kernel
theorem dX1_weighOnward_52 : decode cX1_weighOnward 52 = .ok (.goto (-38), 3) := by decide +kernel
theorem dX1_weighOnward_55 : decode cX1_weighOnward 55 = .ok (.iinc 2 1, 3) := by decide +kernel
theorem dX1_weighOnward_58 : decode cX1_weighOnward 58 = .ok (.goto (-51), 3) := by decide +kernel
theorem dX1_weighOnward_61 : decode cX1_weighOnward 61 = .ok (.return_, 1) := by decide +kernel
theorem dX1_leastThrough_0 : decode cX1_leastThrough 0 = .ok (.sipush 201, 3) := by decide +kernel
theorem dX1_leastThrough_3 : decode cX1_leastThrough 3 = .ok (.istore_n 3, 1) := by decide +kernel
theorem dX1_leastThrough_4 : decode cX1_leastThrough 4 = .ok (.iconst 0, 1) := by decide +kernel
theorem dX1_leastThrough_5 : decode cX1_leastThrough 5 = .ok (.istore 4, 2) := by decide +kernel
theorem dX1_leastThrough_7 : decode cX1_leastThrough 7 = .ok (.iload 4, 2) := by decide +kernel
theorem dX1_leastThrough_9 : decode cX1_leastThrough 9 = .ok (.aload_n 0, 1) := by decide +kernel
theorem dX1_leastThrough_10 : decode cX1_leastThrough 10 = .ok (.getfield 9, 3) := by decide +kernel
theorem dX1_leastThrough_13 : decode cX1_leastThrough 13 = .ok (.if_icmp .ge 61, 3) := by decide +kernel
theorem dX1_leastThrough_16 : decode cX1_leastThrough 16 = .ok (.iconst 1, 1) := by decide +kernel
theorem dX1_leastThrough_17 : decode cX1_leastThrough 17 = .ok (.iload 4, 2) := by decide +kernel
theorem dX1_leastThrough_19 : decode cX1_leastThrough 19 = .ok (.ishl, 1) := by decide +kernel
theorem dX1_leastThrough_20 : decode cX1_leastThrough 20 = .ok (.istore 5, 2) := by decide +kernel
theorem dX1_leastThrough_22 : decode cX1_leastThrough 22 = .ok (.iload_n 2, 1) := by decide +kernel
theorem dX1_leastThrough_23 : decode cX1_leastThrough 23 = .ok (.iload 5, 2) := by decide +kernel
theorem dX1_leastThrough_25 : decode cX1_leastThrough 25 = .ok (.iand, 1) := by decide +kernel
theorem dX1_leastThrough_26 : decode cX1_leastThrough 26 = .ok (.ifCond .eq 42, 3) := by decide +kernel
theorem dX1_leastThrough_29 : decode cX1_leastThrough 29 = .ok (.aload_n 0, 1) := by decide +kernel
theorem dX1_leastThrough_30 : decode cX1_leastThrough 30 = .ok (.getfield 15, 3) := by decide +kernel
theorem dX1_leastThrough_33 : decode cX1_leastThrough 33 = .ok (.iload_n 1, 1) := by decide +kernel
theorem dX1_leastThrough_34 : decode cX1_leastThrough 34 = .ok (.bipush 10, 2) := by decide +kernel
theorem dX1_leastThrough_36 : decode cX1_leastThrough 36 = .ok (.imul, 1) := by decide +kernel
theorem dX1_leastThrough_37 : decode cX1_leastThrough 37 = .ok (.iload 4, 2) := by decide +kernel
theorem dX1_leastThrough_39 : decode cX1_leastThrough 39 = .ok (.iadd, 1) := by decide +kernel
theorem dX1_leastThrough_40 : decode cX1_leastThrough 40 = .ok (.iaload, 1) := by decide +kernel
theorem dX1_leastThrough_41 : decode cX1_leastThrough 41 = .ok (.aload_n 0, 1) := by decide +kernel
theorem dX1_leastThrough_42 : decode cX1_leastThrough 42 = .ok (.getfield 19, 3) := by decide +kernel
theorem dX1_leastThrough_45 : decode cX1_leastThrough 45 = .ok (.iload_n 2, 1) := by decide +kernel
theorem dX1_leastThrough_46 : decode cX1_leastThrough 46 = .ok (.iload 5, 2) := by decide +kernel
theorem dX1_leastThrough_48 : decode cX1_leastThrough 48 = .ok (.ixor, 1) := by decide +kernel
theorem dX1_leastThrough_49 : decode cX1_leastThrough 49 = .ok (.bipush 10, 2) := by decide +kernel
theorem dX1_leastThrough_51 : decode cX1_leastThrough 51 = .ok (.imul, 1) := by decide +kernel
theorem dX1_leastThrough_52 : decode cX1_leastThrough 52 = .ok (.iload 4, 2) := by decide +kernel
theorem dX1_leastThrough_54 : decode cX1_leastThrough 54 = .ok (.iadd, 1) := by decide +kernel
theorem dX1_leastThrough_55 : decode cX1_leastThrough 55 = .ok (.iaload, 1) := by decide +kernel
theorem dX1_leastThrough_56 : decode cX1_leastThrough 56 = .ok (.iadd, 1) := by decide +kernel
theorem dX1_leastThrough_57 : decode cX1_leastThrough 57 = .ok (.istore 6, 2) := by decide +kernel
theorem dX1_leastThrough_59 : decode cX1_leastThrough 59 = .ok (.iload 6, 2) := by decide +kernel
theorem dX1_leastThrough_61 : decode cX1_leastThrough 61 = .ok (.iload_n 3, 1) := by decide +kernel
theorem dX1_leastThrough_62 : decode cX1_leastThrough 62 = .ok (.if_icmp .ge 6, 3) := by decide +kernel
theorem dX1_leastThrough_65 : decode cX1_leastThrough 65 = .ok (.iload 6, 2) := by decide +kernel
theorem dX1_leastThrough_67 : decode cX1_leastThrough 67 = .ok (.istore_n 3, 1) := by decide +kernel
theorem dX1_leastThrough_68 : decode cX1_leastThrough 68 = .ok (.iinc 4 1, 3) := by decide +kernel
theorem dX1_leastThrough_71 : decode cX1_leastThrough 71 = .ok (.goto (-64), 3) := by decide +kernel
theorem dX1_leastThrough_74 : decode cX1_leastThrough 74 = .ok (.iload_n 3, 1) := by decide +kernel
theorem dX1_leastThrough_75 : decode cX1_leastThrough 75 = .ok (.ireturn, 1) := by decide +kernel
theorem dX1_firstOfBest_0 : decode cX1_firstOfBest 0 = .ok (.aload_n 0, 1) := by decide +kernel
theorem dX1_firstOfBest_1 : decode cX1_firstOfBest 1 = .ok (.iload_n 1, 1) := by decide +kernel
theorem dX1_firstOfBest_2 : decode cX1_firstOfBest 2 = .ok (.iload_n 2, 1) := by decide +kernel
theorem dX1_firstOfBest_3 : decode cX1_firstOfBest 3 = .ok (.invokevirtual 101, 3) := by decide +kernel
theorem dX1_firstOfBest_6 : decode cX1_firstOfBest 6 = .ok (.istore_n 3, 1) := by decide +kernel
theorem dX1_firstOfBest_7 : decode cX1_firstOfBest 7 = .ok (.iconst 0, 1) := by decide +kernel
theorem dX1_firstOfBest_8 : decode cX1_firstOfBest 8 = .ok (.istore 4, 2) := by decide +kernel
theorem dX1_firstOfBest_10 : decode cX1_firstOfBest 10 = .ok (.aload_n 0, 1) := by decide +kernel
theorem dX1_firstOfBest_11 : decode cX1_firstOfBest 11 = .ok (.getfield 9, 3) := by decide +kernel
theorem dX1_firstOfBest_14 : decode cX1_firstOfBest 14 = .ok (.iconst 1, 1) := by decide +kernel
theorem dX1_firstOfBest_15 : decode cX1_firstOfBest 15 = .ok (.isub, 1) := by decide +kernel
theorem dX1_firstOfBest_16 : decode cX1_firstOfBest 16 = .ok (.istore 5, 2) := by decide +kernel
theorem dX1_firstOfBest_18 : decode cX1_firstOfBest 18 = .ok (.iload 5, 2) := by decide +kernel
theorem dX1_firstOfBest_20 : decode cX1_firstOfBest 20 = .ok (.ifCond .lt 54, 3) := by decide +kernel
theorem dX1_firstOfBest_23 : decode cX1_firstOfBest 23 = .ok (.iload_n 2, 1) := by decide +kernel
theorem dX1_firstOfBest_24 : decode cX1_firstOfBest 24 = .ok (.iconst 1, 1) := by decide +kernel
theorem dX1_firstOfBest_25 : decode cX1_firstOfBest 25 = .ok (.iload 5, 2) := by decide +kernel
theorem dX1_firstOfBest_27 : decode cX1_firstOfBest 27 = .ok (.ishl, 1) := by decide +kernel
theorem dX1_firstOfBest_28 : decode cX1_firstOfBest 28 = .ok (.iconst (-1), 1) := by decide +kernel
theorem dX1_firstOfBest_29 : decode cX1_firstOfBest 29 = .ok (.ixor, 1) := by decide +kernel
theorem dX1_firstOfBest_30 : decode cX1_firstOfBest 30 = .ok (.iand, 1) := by decide +kernel
theorem dX1_firstOfBest_31 : decode cX1_firstOfBest 31 = .ok (.istore 6, 2) := by decide +kernel
theorem dX1_firstOfBest_33 : decode cX1_firstOfBest 33 = .ok (.iload 6, 2) := by decide +kernel
theorem dX1_firstOfBest_35 : decode cX1_firstOfBest 35 = .ok (.iload_n 2, 1) := by decide +kernel
theorem dX1_firstOfBest_36 : decode cX1_firstOfBest 36 = .ok (.if_icmp .eq 32, 3) := by decide +kernel
theorem dX1_firstOfBest_39 : decode cX1_firstOfBest 39 = .ok (.aload_n 0, 1) := by decide +kernel
theorem dX1_firstOfBest_40 : decode cX1_firstOfBest 40 = .ok (.iload_n 1, 1) := by decide +kernel
theorem dX1_firstOfBest_41 : decode cX1_firstOfBest 41 = .ok (.iload 5, 2) := by decide +kernel
theorem dX1_firstOfBest_43 : decode cX1_firstOfBest 43 = .ok (.invokevirtual 90, 3) := by decide +kernel
theorem dX1_firstOfBest_46 : decode cX1_firstOfBest 46 = .ok (.aload_n 0, 1) := by decide +kernel
theorem dX1_firstOfBest_47 : decode cX1_firstOfBest 47 = .ok (.getfield 19, 3) := by decide +kernel
theorem dX1_firstOfBest_50 : decode cX1_firstOfBest 50 = .ok (.iload 6, 2) := by decide +kernel
theorem dX1_firstOfBest_52 : decode cX1_firstOfBest 52 = .ok (.bipush 10, 2) := by decide +kernel
theorem dX1_firstOfBest_54 : decode cX1_firstOfBest 54 = .ok (.imul, 1) := by decide +kernel
theorem dX1_firstOfBest_55 : decode cX1_firstOfBest 55 = .ok (.iload 5, 2) := by decide +kernel
theorem dX1_firstOfBest_57 : decode cX1_firstOfBest 57 = .ok (.iadd, 1) := by decide +kernel
theorem dX1_firstOfBest_58 : decode cX1_firstOfBest 58 = .ok (.iaload, 1) := by decide +kernel
theorem dX1_firstOfBest_59 : decode cX1_firstOfBest 59 = .ok (.iadd, 1) := by decide +kernel
theorem dX1_firstOfBest_60 : decode cX1_firstOfBest 60 = .ok (.iload_n 3, 1) := by decide +kernel
theorem dX1_firstOfBest_61 : decode cX1_firstOfBest 61 = .ok (.if_icmp .ne 7, 3) := by decide +kernel
theorem dX1_firstOfBest_64 : decode cX1_firstOfBest 64 = .ok (.iload 5, 2) := by decide +kernel
theorem dX1_firstOfBest_66 : decode cX1_firstOfBest 66 = .ok (.istore 4, 2) := by decide +kernel
theorem dX1_firstOfBest_68 : decode cX1_firstOfBest 68 = .ok (.iinc 5 (-1), 3) := by decide +kernel
theorem dX1_firstOfBest_71 : decode cX1_firstOfBest 71 = .ok (.goto (-53), 3) := by decide +kernel
theorem dX1_firstOfBest_74 : decode cX1_firstOfBest 74 = .ok (.iload 4, 2) := by decide +kernel
theorem dX1_firstOfBest_76 : decode cX1_firstOfBest 76 = .ok (.ireturn, 1) := by decide +kernel
theorem dX2_init_0 : decode cX2_init 0 = .ok (.aload_n 0, 1) := by decide +kernel
theorem dX2_init_1 : decode cX2_init 1 = .ok (.invokespecial 3, 3) := by decide +kernel
theorem dX2_init_4 : decode cX2_init 4 = .ok (.aload_n 0, 1) := by decide +kernel
theorem dX2_init_5 : decode cX2_init 5 = .ok (.bipush 10, 2) := by decide +kernel
theorem dX2_init_7 : decode cX2_init 7 = .ok (.newarray .int, 2) := by decide +kernel
theorem dX2_init_9 : decode cX2_init 9 = .ok (.putfield 9, 3) := by decide +kernel
theorem dX2_init_12 : decode cX2_init 12 = .ok (.aload_n 0, 1) := by decide +kernel
theorem dX2_init_13 : decode cX2_init 13 = .ok (.iconst 0, 1) := by decide +kernel
theorem dX2_init_14 : decode cX2_init 14 = .ok (.putfield 15, 3) := by decide +kernel
theorem dX2_init_17 : decode cX2_init 17 = .ok (.aload_n 0, 1) := by decide +kernel
theorem dX2_init_18 : decode cX2_init 18 = .ok (.iconst 0, 1) := by decide +kernel
theorem dX2_init_19 : decode cX2_init 19 = .ok (.putfield 19, 3) := by decide +kernel
theorem dX2_init_22 : decode cX2_init 22 = .ok (.return_, 1) := by decide +kernel
theorem dX2_clear_0 : decode cX2_clear 0 = .ok (.aload_n 0, 1) := by decide +kernel
theorem dX2_clear_1 : decode cX2_clear 1 = .ok (.iconst 0, 1) := by decide +kernel
theorem dX2_clear_2 : decode cX2_clear 2 = .ok (.putfield 15, 3) := by decide +kernel
theorem dX2_clear_5 : decode cX2_clear 5 = .ok (.aload_n 0, 1) := by decide +kernel
theorem dX2_clear_6 : decode cX2_clear 6 = .ok (.iconst 0, 1) := by decide +kernel
theorem dX2_clear_7 : decode cX2_clear 7 = .ok (.putfield 19, 3) := by decide +kernel
theorem dX2_clear_10 : decode cX2_clear 10 = .ok (.return_, 1) := by decide +kernel
theorem dX2_append_0 : decode cX2_append 0 = .ok (.aload_n 0, 1) := by decide +kernel
theorem dX2_append_1 : decode cX2_append 1 = .ok (.getfield 15, 3) := by decide +kernel
theorem dX2_append_4 : decode cX2_append 4 = .ok (.bipush 10, 2) := by decide +kernel
theorem dX2_append_6 : decode cX2_append 6 = .ok (.if_icmp .lt 4, 3) := by decide +kernel
theorem dX2_append_9 : decode cX2_append 9 = .ok (.return_, 1) := by decide +kernel
theorem dX2_append_10 : decode cX2_append 10 = .ok (.aload_n 0, 1) := by decide +kernel
theorem dX2_append_11 : decode cX2_append 11 = .ok (.getfield 9, 3) := by decide +kernel
theorem dX2_append_14 : decode cX2_append 14 = .ok (.aload_n 0, 1) := by decide +kernel
theorem dX2_append_15 : decode cX2_append 15 = .ok (.getfield 15, 3) := by decide +kernel
theorem dX2_append_18 : decode cX2_append 18 = .ok (.iload_n 1, 1) := by decide +kernel
theorem dX2_append_19 : decode cX2_append 19 = .ok (.iastore, 1) := by decide +kernel
theorem dX2_append_20 : decode cX2_append 20 = .ok (.aload_n 0, 1) := by decide +kernel
theorem dX2_append_21 : decode cX2_append 21 = .ok (.dup, 1) := by decide +kernel
theorem dX2_append_22 : decode cX2_append 22 = .ok (.getfield 15, 3) := by decide +kernel
theorem dX2_append_25 : decode cX2_append 25 = .ok (.iconst 1, 1) := by decide +kernel
theorem dX2_append_26 : decode cX2_append 26 = .ok (.iadd, 1) := by decide +kernel
theorem dX2_append_27 : decode cX2_append 27 = .ok (.putfield 15, 3) := by decide +kernel
theorem dX2_append_30 : decode cX2_append 30 = .ok (.aload_n 0, 1) := by decide +kernel
theorem dX2_append_31 : decode cX2_append 31 = .ok (.dup, 1) := by decide +kernel
theorem dX2_append_32 : decode cX2_append 32 = .ok (.getfield 19, 3) := by decide +kernel
theorem dX2_append_35 : decode cX2_append 35 = .ok (.iload_n 2, 1) := by decide +kernel
theorem dX2_append_36 : decode cX2_append 36 = .ok (.iadd, 1) := by decide +kernel
theorem dX2_append_37 : decode cX2_append 37 = .ok (.putfield 19, 3) := by decide +kernel
theorem dX2_append_40 : decode cX2_append 40 = .ok (.return_, 1) := by decide +kernel
theorem dX2_tell_0 : decode cX2_tell 0 = .ok (.iload_n 1, 1) := by decide +kernel
theorem dX2_tell_1 : decode cX2_tell 1 = .ok (.iconst (-1), 1) := by decide +kernel
theorem dX2_tell_2 : decode cX2_tell 2 = .ok (.if_icmp .ne 8, 3) := by decide +kernel
theorem dX2_tell_5 : decode cX2_tell 5 = .ok (.aload_n 0, 1) := by decide +kernel
theorem dX2_tell_6 : decode cX2_tell 6 = .ok (.getfield 19, 3) := by decide +kernel
theorem dX2_tell_9 : decode cX2_tell 9 = .ok (.ireturn, 1) := by decide +kernel
theorem dX2_tell_10 : decode cX2_tell 10 = .ok (.iload_n 1, 1) := by decide +kernel
theorem dX2_tell_11 : decode cX2_tell 11 = .ok (.ifCond .lt 20, 3) := by decide +kernel
theorem dX2_tell_14 : decode cX2_tell 14 = .ok (.iload_n 1, 1) := by decide +kernel
theorem dX2_tell_15 : decode cX2_tell 15 = .ok (.aload_n 0, 1) := by decide +kernel
theorem dX2_tell_16 : decode cX2_tell 16 = .ok (.getfield 15, 3) := by decide +kernel
theorem dX2_tell_19 : decode cX2_tell 19 = .ok (.if_icmp .ge 12, 3) := by decide +kernel
theorem dX2_tell_22 : decode cX2_tell 22 = .ok (.aload_n 0, 1) := by decide +kernel
theorem dX2_tell_23 : decode cX2_tell 23 = .ok (.getfield 9, 3) := by decide +kernel
theorem dX2_tell_26 : decode cX2_tell 26 = .ok (.iload_n 1, 1) := by decide +kernel
theorem dX2_tell_27 : decode cX2_tell 27 = .ok (.iaload, 1) := by decide +kernel
theorem dX2_tell_28 : decode cX2_tell 28 = .ok (.goto 5, 3) := by decide +kernel
theorem dX2_tell_31 : decode cX2_tell 31 = .ok (.bipush (-6), 2) := by decide +kernel
theorem dX2_tell_33 : decode cX2_tell 33 = .ok (.ireturn, 1) := by decide +kernel
theorem dX3_init_0 : decode cX3_init 0 = .ok (.aload_n 0, 1) := by decide +kernel
theorem dX3_init_1 : decode cX3_init 1 = .ok (.invokespecial 3, 3) := by decide +kernel
theorem dX3_init_4 : decode cX3_init 4 = .ok (.aload_n 0, 1) := by decide +kernel
theorem dX3_init_5 : decode cX3_init 5 = .ok (.bipush 24, 2) := by decide +kernel
theorem dX3_init_7 : decode cX3_init 7 = .ok (.newarray .int, 2) := by decide +kernel
theorem dX3_init_9 : decode cX3_init 9 = .ok (.putfield 9, 3) := by decide +kernel
theorem dX3_init_12 : decode cX3_init 12 = .ok (.aload_n 0, 1) := by decide +kernel
theorem dX3_init_13 : decode cX3_init 13 = .ok (.iconst 0, 1) := by decide +kernel
theorem dX3_init_14 : decode cX3_init 14 = .ok (.putfield 15, 3) := by decide +kernel
theorem dX3_init_17 : decode cX3_init 17 = .ok (.return_, 1) := by decide +kernel
theorem dX3_write_0 : decode cX3_write 0 = .ok (.aload_n 0, 1) := by decide +kernel
theorem dX3_write_1 : decode cX3_write 1 = .ok (.getfield 9, 3) := by decide +kernel
theorem dX3_write_4 : decode cX3_write 4 = .ok (.aload_n 0, 1) := by decide +kernel
theorem dX3_write_5 : decode cX3_write 5 = .ok (.getfield 15, 3) := by decide +kernel
theorem dX3_write_8 : decode cX3_write 8 = .ok (.iload_n 1, 1) := by decide +kernel
theorem dX3_write_9 : decode cX3_write 9 = .ok (.iastore, 1) := by decide +kernel
theorem dX3_write_10 : decode cX3_write 10 = .ok (.aload_n 0, 1) := by decide +kernel
theorem dX3_write_11 : decode cX3_write 11 = .ok (.dup, 1) := by decide +kernel
theorem dX3_write_12 : decode cX3_write 12 = .ok (.getfield 15, 3) := by decide +kernel
theorem dX3_write_15 : decode cX3_write 15 = .ok (.iconst 1, 1) := by decide +kernel
theorem dX3_write_16 : decode cX3_write 16 = .ok (.iadd, 1) := by decide +kernel
theorem dX3_write_17 : decode cX3_write 17 = .ok (.putfield 15, 3) := by decide +kernel
theorem dX3_write_20 : decode cX3_write 20 = .ok (.return_, 1) := by decide +kernel
theorem dX3_tryAt_0 : decode cX3_tryAt 0 = .ok (.aload_n 0, 1) := by decide +kernel
theorem dX3_tryAt_1 : decode cX3_tryAt 1 = .ok (.getfield 9, 3) := by decide +kernel
theorem dX3_tryAt_4 : decode cX3_tryAt 4 = .ok (.iload_n 1, 1) := by decide +kernel
theorem dX3_tryAt_5 : decode cX3_tryAt 5 = .ok (.iaload, 1) := by decide +kernel
theorem dX3_tryAt_6 : decode cX3_tryAt 6 = .ok (.bipush 97, 2) := by decide +kernel
theorem dX3_tryAt_8 : decode cX3_tryAt 8 = .ok (.isub, 1) := by decide +kernel
theorem dX3_tryAt_9 : decode cX3_tryAt 9 = .ok (.ireturn, 1) := by decide +kernel
theorem dX3_tellsOrderOf_0 : decode cX3_tellsOrderOf 0 = .ok (.aload_n 0, 1) := by decide +kernel
theorem dX3_tellsOrderOf_1 : decode cX3_tellsOrderOf 1 = .ok (.getfield 15, 3) := by decide +kernel
theorem dX3_tellsOrderOf_4 : decode cX3_tellsOrderOf 4 = .ok (.iload_n 1, 1) := by decide +kernel
theorem dX3_tellsOrderOf_5 : decode cX3_tellsOrderOf 5 = .ok (.if_icmp .eq 5, 3) := by decide +kernel
theorem dX3_tellsOrderOf_8 : decode cX3_tellsOrderOf 8 = .ok (.iconst 0, 1) := by decide +kernel
theorem dX3_tellsOrderOf_9 : decode cX3_tellsOrderOf 9 = .ok (.ireturn, 1) := by decide +kernel
theorem dX3_tellsOrderOf_10 : decode cX3_tellsOrderOf 10 = .ok (.iconst 0, 1) := by decide +kernel
theorem dX3_tellsOrderOf_11 : decode cX3_tellsOrderOf 11 = .ok (.istore_n 2, 1) := by decide +kernel
theorem dX3_tellsOrderOf_12 : decode cX3_tellsOrderOf 12 = .ok (.iconst 0, 1) := by decide +kernel
theorem dX3_tellsOrderOf_13 : decode cX3_tellsOrderOf 13 = .ok (.istore_n 3, 1) := by decide +kernel
theorem dX3_tellsOrderOf_14 : decode cX3_tellsOrderOf 14 = .ok (.iload_n 3, 1) := by decide +kernel
theorem dX3_tellsOrderOf_15 : decode cX3_tellsOrderOf 15 = .ok (.aload_n 0, 1) := by decide +kernel
theorem dX3_tellsOrderOf_16 : decode cX3_tellsOrderOf 16 = .ok (.getfield 15, 3) := by decide +kernel
theorem dX3_tellsOrderOf_19 : decode cX3_tellsOrderOf 19 = .ok (.if_icmp .ge 45, 3) := by decide +kernel
theorem dX3_tellsOrderOf_22 : decode cX3_tellsOrderOf 22 = .ok (.aload_n 0, 1) := by decide +kernel
theorem dX3_tellsOrderOf_23 : decode cX3_tellsOrderOf 23 = .ok (.iload_n 3, 1) := by decide +kernel
theorem dX3_tellsOrderOf_24 : decode cX3_tellsOrderOf 24 = .ok (.invokevirtual 19, 3) := by decide +kernel
theorem dX3_tellsOrderOf_27 : decode cX3_tellsOrderOf 27 = .ok (.istore 4, 2) := by decide +kernel
theorem dX3_tellsOrderOf_29 : decode cX3_tellsOrderOf 29 = .ok (.iload 4, 2) := by decide +kernel
theorem dX3_tellsOrderOf_31 : decode cX3_tellsOrderOf 31 = .ok (.ifCond .lt 18, 3) := by decide +kernel
theorem dX3_tellsOrderOf_34 : decode cX3_tellsOrderOf 34 = .ok (.iload 4, 2) := by decide +kernel
theorem dX3_tellsOrderOf_36 : decode cX3_tellsOrderOf 36 = .ok (.iload_n 1, 1) := by decide +kernel
theorem dX3_tellsOrderOf_37 : decode cX3_tellsOrderOf 37 = .ok (.if_icmp .ge 12, 3) := by decide +kernel
theorem dX3_tellsOrderOf_40 : decode cX3_tellsOrderOf 40 = .ok (.iload_n 2, 1) := by decide +kernel
theorem dX3_tellsOrderOf_41 : decode cX3_tellsOrderOf 41 = .ok (.iload 4, 2) := by decide +kernel
theorem dX3_tellsOrderOf_43 : decode cX3_tellsOrderOf 43 = .ok (.invokestatic 23, 3) := by decide +kernel
theorem dX3_tellsOrderOf_46 : decode cX3_tellsOrderOf 46 = .ok (.ifCond .eq 5, 3) := by decide +kernel
theorem dX3_tellsOrderOf_49 : decode cX3_tellsOrderOf 49 = .ok (.iconst 0, 1) := by decide +kernel
theorem dX3_tellsOrderOf_50 : decode cX3_tellsOrderOf 50 = .ok (.ireturn, 1) := by decide +kernel
theorem dX3_tellsOrderOf_51 : decode cX3_tellsOrderOf 51 = .ok (.iload_n 2, 1) := by decide +kernel
theorem dX3_tellsOrderOf_52 : decode cX3_tellsOrderOf 52 = .ok (.iconst 1, 1) := by decide +kernel
theorem dX3_tellsOrderOf_53 : decode cX3_tellsOrderOf 53 = .ok (.iload 4, 2) := by decide +kernel
theorem dX3_tellsOrderOf_55 : decode cX3_tellsOrderOf 55 = .ok (.ishl, 1) := by decide +kernel
theorem dX3_tellsOrderOf_56 : decode cX3_tellsOrderOf 56 = .ok (.ior, 1) := by decide +kernel
theorem dX3_tellsOrderOf_57 : decode cX3_tellsOrderOf 57 = .ok (.istore_n 2, 1) := by decide +kernel
theorem dX3_tellsOrderOf_58 : decode cX3_tellsOrderOf 58 = .ok (.iinc 3 1, 3) := by decide +kernel
theorem dX3_tellsOrderOf_61 : decode cX3_tellsOrderOf 61 = .ok (.goto (-47), 3) := by decide +kernel
theorem dX3_tellsOrderOf_64 : decode cX3_tellsOrderOf 64 = .ok (.iconst 1, 1) := by decide +kernel
theorem dX3_tellsOrderOf_65 : decode cX3_tellsOrderOf 65 = .ok (.ireturn, 1) := by decide +kernel
theorem dX4_init_0 : decode cX4_init 0 = .ok (.aload_n 0, 1) := by decide +kernel
theorem dX4_init_1 : decode cX4_init 1 = .ok (.invokespecial 3, 3) := by decide +kernel
theorem dX4_init_4 : decode cX4_init 4 = .ok (.aload_n 0, 1) := by decide +kernel
theorem dX4_init_5 : decode cX4_init 5 = .ok (.bipush 10, 2) := by decide +kernel
theorem dX4_init_7 : decode cX4_init 7 = .ok (.newarray .int, 2) := by decide +kernel
theorem dX4_init_9 : decode cX4_init 9 = .ok (.putfield 9, 3) := by decide +kernel
theorem dX4_init_12 : decode cX4_init 12 = .ok (.aload_n 0, 1) := by decide +kernel
theorem dX4_init_13 : decode cX4_init 13 = .ok (.bipush 10, 2) := by decide +kernel
theorem dX4_init_15 : decode cX4_init 15 = .ok (.newarray .int, 2) := by decide +kernel
theorem dX4_init_17 : decode cX4_init 17 = .ok (.putfield 15, 3) := by decide +kernel
theorem dX4_init_20 : decode cX4_init 20 = .ok (.aload_n 0, 1) := by decide +kernel
theorem dX4_init_21 : decode cX4_init 21 = .ok (.iconst 0, 1) := by decide +kernel
theorem dX4_init_22 : decode cX4_init 22 = .ok (.putfield 18, 3) := by decide +kernel
theorem dX4_init_25 : decode cX4_init 25 = .ok (.aload_n 0, 1) := by decide +kernel
theorem dX4_init_26 : decode cX4_init 26 = .ok (.iconst 0, 1) := by decide +kernel
theorem dX4_init_27 : decode cX4_init 27 = .ok (.putfield 22, 3) := by decide +kernel
theorem dX4_init_30 : decode cX4_init 30 = .ok (.aload_n 0, 1) := by decide +kernel
theorem dX4_init_31 : decode cX4_init 31 = .ok (.bipush 8, 2) := by decide +kernel
theorem dX4_init_33 : decode cX4_init 33 = .ok (.newarray .int, 2) := by decide +kernel
theorem dX4_init_35 : decode cX4_init 35 = .ok (.putfield 25, 3) := by decide +kernel
theorem dX4_init_38 : decode cX4_init 38 = .ok (.aload_n 0, 1) := by decide +kernel
theorem dX4_init_39 : decode cX4_init 39 = .ok (.bipush 8, 2) := by decide +kernel
theorem dX4_init_41 : decode cX4_init 41 = .ok (.newarray .int, 2) := by decide +kernel
theorem dX4_init_43 : decode cX4_init 43 = .ok (.putfield 28, 3) := by decide +kernel
theorem dX4_init_46 : decode cX4_init 46 = .ok (.return_, 1) := by decide +kernel
theorem dX4_layOut_0 : decode cX4_layOut 0 = .ok (.aload_n 0, 1) := by decide +kernel
theorem dX4_layOut_1 : decode cX4_layOut 1 = .ok (.iconst 0, 1) := by decide +kernel
theorem dX4_layOut_2 : decode cX4_layOut 2 = .ok (.putfield 18, 3) := by decide +kernel
theorem dX4_layOut_5 : decode cX4_layOut 5 = .ok (.aload_n 0, 1) := by decide +kernel
theorem dX4_layOut_6 : decode cX4_layOut 6 = .ok (.aload_n 1, 1) := by decide +kernel
theorem dX4_layOut_7 : decode cX4_layOut 7 = .ok (.invokevirtual 31, 3) := by decide +kernel
theorem dX4_layOut_10 : decode cX4_layOut 10 = .ok (.aload_n 0, 1) := by decide +kernel
theorem dX4_layOut_11 : decode cX4_layOut 11 = .ok (.aload_n 1, 1) := by decide +kernel
theorem dX4_layOut_12 : decode cX4_layOut 12 = .ok (.invokevirtual 35, 3) := by decide +kernel
theorem dX4_layOut_15 : decode cX4_layOut 15 = .ok (.aload_n 0, 1) := by decide +kernel
theorem dX4_layOut_16 : decode cX4_layOut 16 = .ok (.aload_n 0, 1) := by decide +kernel
theorem dX4_layOut_17 : decode cX4_layOut 17 = .ok (.getfield 18, 3) := by decide +kernel
theorem dX4_layOut_20 : decode cX4_layOut 20 = .ok (.putfield 22, 3) := by decide +kernel
theorem dX4_layOut_23 : decode cX4_layOut 23 = .ok (.aload_n 0, 1) := by decide +kernel
theorem dX4_layOut_24 : decode cX4_layOut 24 = .ok (.aload_n 1, 1) := by decide +kernel
theorem dX4_layOut_25 : decode cX4_layOut 25 = .ok (.invokevirtual 38, 3) := by decide +kernel
theorem dX4_layOut_28 : decode cX4_layOut 28 = .ok (.return_, 1) := by decide +kernel
theorem dX4_hasTry_0 : decode cX4_hasTry 0 = .ok (.iload_n 1, 1) := by decide +kernel
theorem dX4_hasTry_1 : decode cX4_hasTry 1 = .ok (.ifCond .lt 15, 3) := by decide +kernel
theorem dX4_hasTry_4 : decode cX4_hasTry 4 = .ok (.iload_n 1, 1) := by decide +kernel
theorem dX4_hasTry_5 : decode cX4_hasTry 5 = .ok (.aload_n 0, 1) := by decide +kernel
theorem dX4_hasTry_6 : decode cX4_hasTry 6 = .ok (.getfield 18, 3) := by decide +kernel
theorem dX4_hasTry_9 : decode cX4_hasTry 9 = .ok (.if_icmp .ge 7, 3) := by decide +kernel
theorem dX4_hasTry_12 : decode cX4_hasTry 12 = .ok (.iconst 1, 1) := by decide +kernel
theorem dX4_hasTry_13 : decode cX4_hasTry 13 = .ok (.goto 4, 3) := by decide +kernel
theorem dX4_hasTry_16 : decode cX4_hasTry 16 = .ok (.iconst 0, 1) := by decide +kernel
theorem dX4_hasTry_17 : decode cX4_hasTry 17 = .ok (.ireturn, 1) := by decide +kernel
theorem dX4_isOfNeighbours_0 : decode cX4_isOfNeighbours 0 = .ok (.iload_n 1, 1) := by decide +kernel
theorem dX4_isOfNeighbours_1 : decode cX4_isOfNeighbours 1 = .ok (.aload_n 0, 1) := by decide +kernel
theorem dX4_isOfNeighbours_2 : decode cX4_isOfNeighbours 2 = .ok (.getfield 22, 3) := by decide +kernel
theorem dX4_isOfNeighbours_5 : decode cX4_isOfNeighbours 5 = .ok (.if_icmp .lt 7, 3) := by decide +kernel
theorem dX4_isOfNeighbours_8 : decode cX4_isOfNeighbours 8 = .ok (.iconst 1, 1) := by decide +kernel
theorem dX4_isOfNeighbours_9 : decode cX4_isOfNeighbours 9 = .ok (.goto 4, 3) := by decide +kernel
theorem dX4_isOfNeighbours_12 : decode cX4_isOfNeighbours 12 = .ok (.iconst 0, 1) := by decide +kernel
theorem dX4_isOfNeighbours_13 : decode cX4_isOfNeighbours 13 = .ok (.ireturn, 1) := by decide +kernel
theorem dX4_growTrees_0 : decode cX4_growTrees 0 = .ok (.iconst 0, 1) := by decide +kernel
theorem dX4_growTrees_1 : decode cX4_growTrees 1 = .ok (.istore_n 2, 1) := by decide +kernel
theorem dX4_growTrees_2 : decode cX4_growTrees 2 = .ok (.iload_n 2, 1) := by decide +kernel
theorem dX4_growTrees_3 : decode cX4_growTrees 3 = .ok (.bipush 8, 2) := by decide +kernel
theorem dX4_growTrees_5 : decode cX4_growTrees 5 = .ok (.if_icmp .ge 23, 3) := by decide +kernel
theorem dX4_growTrees_8 : decode cX4_growTrees 8 = .ok (.aload_n 0, 1) := by decide +kernel
theorem dX4_growTrees_9 : decode cX4_growTrees 9 = .ok (.getfield 25, 3) := by decide +kernel
theorem dX4_growTrees_12 : decode cX4_growTrees 12 = .ok (.iload_n 2, 1) := by decide +kernel
theorem dX4_growTrees_13 : decode cX4_growTrees 13 = .ok (.iload_n 2, 1) := by decide +kernel
theorem dX4_growTrees_14 : decode cX4_growTrees 14 = .ok (.iastore, 1) := by decide +kernel
theorem dX4_growTrees_15 : decode cX4_growTrees 15 = .ok (.aload_n 0, 1) := by decide +kernel
theorem dX4_growTrees_16 : decode cX4_growTrees 16 = .ok (.getfield 28, 3) := by decide +kernel
theorem dX4_growTrees_19 : decode cX4_growTrees 19 = .ok (.iload_n 2, 1) := by decide +kernel
theorem dX4_growTrees_20 : decode cX4_growTrees 20 = .ok (.iconst 0, 1) := by decide +kernel
theorem dX4_growTrees_21 : decode cX4_growTrees 21 = .ok (.iastore, 1) := by decide +kernel
theorem dX4_growTrees_22 : decode cX4_growTrees 22 = .ok (.iinc 2 1, 3) := by decide +kernel
theorem dX4_growTrees_25 : decode cX4_growTrees 25 = .ok (.goto (-23), 3) := by decide +kernel
theorem dX4_growTrees_28 : decode cX4_growTrees 28 = .ok (.iconst 1, 1) := by decide +kernel
theorem dX4_growTrees_29 : decode cX4_growTrees 29 = .ok (.istore_n 2, 1) := by decide +kernel
theorem dX4_growTrees_30 : decode cX4_growTrees 30 = .ok (.iconst 1, 1) := by decide +kernel
theorem dX4_growTrees_31 : decode cX4_growTrees 31 = .ok (.istore_n 3, 1) := by decide +kernel
theorem dX4_growTrees_32 : decode cX4_growTrees 32 = .ok (.iload_n 3, 1) := by decide +kernel
theorem dX4_growTrees_33 : decode cX4_growTrees 33 = .ok (.aload_n 1, 1) := by decide +kernel
theorem dX4_growTrees_34 : decode cX4_growTrees 34 = .ok (.getfield 41, 3) := by decide +kernel
theorem dX4_growTrees_37 : decode cX4_growTrees 37 = .ok (.if_icmp .ge 19, 3) := by decide +kernel
theorem dX4_growTrees_40 : decode cX4_growTrees 40 = .ok (.iload_n 2, 1) := by decide +kernel
theorem dX4_growTrees_41 : decode cX4_growTrees 41 = .ok (.ifCond .eq 15, 3) := by decide +kernel
theorem dX4_growTrees_44 : decode cX4_growTrees 44 = .ok (.aload_n 0, 1) := by decide +kernel
