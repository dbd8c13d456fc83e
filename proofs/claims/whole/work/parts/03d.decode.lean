theorem dX6_addTry_81 : decode cX6_addTry 81 = .ok (.iload 4, 2) := by decide +kernel
theorem dX6_addTry_83 : decode cX6_addTry 83 = .ok (.ifCond .eq 7, 3) := by decide +kernel
theorem dX6_addTry_86 : decode cX6_addTry 86 = .ok (.iload_n 2, 1) := by decide +kernel
theorem dX6_addTry_87 : decode cX6_addTry 87 = .ok (.goto 4, 3) := by decide +kernel
theorem dX6_addTry_90 : decode cX6_addTry 90 = .ok (.iload_n 1, 1) := by decide +kernel
theorem dX6_addTry_91 : decode cX6_addTry 91 = .ok (.iastore, 1) := by decide +kernel
theorem dX6_addTry_92 : decode cX6_addTry 92 = .ok (.aload_n 0, 1) := by decide +kernel
theorem dX6_addTry_93 : decode cX6_addTry 93 = .ok (.getfield 29, 3) := by decide +kernel
theorem dX6_addTry_96 : decode cX6_addTry 96 = .ok (.aload_n 0, 1) := by decide +kernel
theorem dX6_addTry_97 : decode cX6_addTry 97 = .ok (.getfield 72, 3) := by decide +kernel
theorem dX6_addTry_100 : decode cX6_addTry 100 = .ok (.iload_n 3, 1) := by decide +kernel
theorem dX6_addTry_101 : decode cX6_addTry 101 = .ok (.bastore, 1) := by decide +kernel
theorem dX6_addTry_102 : decode cX6_addTry 102 = .ok (.aload_n 0, 1) := by decide +kernel
theorem dX6_addTry_103 : decode cX6_addTry 103 = .ok (.dup, 1) := by decide +kernel
theorem dX6_addTry_104 : decode cX6_addTry 104 = .ok (.getfield 72, 3) := by decide +kernel
theorem dX6_addTry_107 : decode cX6_addTry 107 = .ok (.iconst 1, 1) := by decide +kernel
theorem dX6_addTry_108 : decode cX6_addTry 108 = .ok (.iadd, 1) := by decide +kernel
theorem dX6_addTry_109 : decode cX6_addTry 109 = .ok (.putfield 72, 3) := by decide +kernel
theorem dX6_addTry_112 : decode cX6_addTry 112 = .ok (.return_, 1) := by decide +kernel
theorem dX6_canJoin_0 : decode cX6_canJoin 0 = .ok (.aload_n 0, 1) := by decide +kernel
theorem dX6_canJoin_1 : decode cX6_canJoin 1 = .ok (.getfield 7, 3) := by decide +kernel
theorem dX6_canJoin_4 : decode cX6_canJoin 4 = .ok (.iconst 1, 1) := by decide +kernel
theorem dX6_canJoin_5 : decode cX6_canJoin 5 = .ok (.iload_n 1, 1) := by decide +kernel
theorem dX6_canJoin_6 : decode cX6_canJoin 6 = .ok (.iadd, 1) := by decide +kernel
theorem dX6_canJoin_7 : decode cX6_canJoin 7 = .ok (.iaload, 1) := by decide +kernel
theorem dX6_canJoin_8 : decode cX6_canJoin 8 = .ok (.iload_n 3, 1) := by decide +kernel
theorem dX6_canJoin_9 : decode cX6_canJoin 9 = .ok (.if_icmp .ne 34, 3) := by decide +kernel
theorem dX6_canJoin_12 : decode cX6_canJoin 12 = .ok (.aload_n 0, 1) := by decide +kernel
theorem dX6_canJoin_13 : decode cX6_canJoin 13 = .ok (.getfield 7, 3) := by decide +kernel
theorem dX6_canJoin_16 : decode cX6_canJoin 16 = .ok (.iconst 1, 1) := by decide +kernel
theorem dX6_canJoin_17 : decode cX6_canJoin 17 = .ok (.iload_n 2, 1) := by decide +kernel
theorem dX6_canJoin_18 : decode cX6_canJoin 18 = .ok (.iadd, 1) := by decide +kernel
theorem dX6_canJoin_19 : decode cX6_canJoin 19 = .ok (.iaload, 1) := by decide +kernel
theorem dX6_canJoin_20 : decode cX6_canJoin 20 = .ok (.iload_n 3, 1) := by decide +kernel
theorem dX6_canJoin_21 : decode cX6_canJoin 21 = .ok (.if_icmp .ne 22, 3) := by decide +kernel
theorem dX6_canJoin_24 : decode cX6_canJoin 24 = .ok (.aload_n 0, 1) := by decide +kernel
theorem dX6_canJoin_25 : decode cX6_canJoin 25 = .ok (.getfield 32, 3) := by decide +kernel
theorem dX6_canJoin_28 : decode cX6_canJoin 28 = .ok (.iload_n 1, 1) := by decide +kernel
theorem dX6_canJoin_29 : decode cX6_canJoin 29 = .ok (.iaload, 1) := by decide +kernel
theorem dX6_canJoin_30 : decode cX6_canJoin 30 = .ok (.aload_n 0, 1) := by decide +kernel
theorem dX6_canJoin_31 : decode cX6_canJoin 31 = .ok (.getfield 32, 3) := by decide +kernel
theorem dX6_canJoin_34 : decode cX6_canJoin 34 = .ok (.iload_n 2, 1) := by decide +kernel
theorem dX6_canJoin_35 : decode cX6_canJoin 35 = .ok (.iaload, 1) := by decide +kernel
theorem dX6_canJoin_36 : decode cX6_canJoin 36 = .ok (.if_icmp .eq 7, 3) := by decide +kernel
theorem dX6_canJoin_39 : decode cX6_canJoin 39 = .ok (.iconst 1, 1) := by decide +kernel
theorem dX6_canJoin_40 : decode cX6_canJoin 40 = .ok (.goto 4, 3) := by decide +kernel
theorem dX6_canJoin_43 : decode cX6_canJoin 43 = .ok (.iconst 0, 1) := by decide +kernel
theorem dX6_canJoin_44 : decode cX6_canJoin 44 = .ok (.ireturn, 1) := by decide +kernel
theorem dX6_nextPair_0 : decode cX6_nextPair 0 = .ok (.bipush (-6), 2) := by decide +kernel
theorem dX6_nextPair_2 : decode cX6_nextPair 2 = .ok (.istore_n 2, 1) := by decide +kernel
theorem dX6_nextPair_3 : decode cX6_nextPair 3 = .ok (.iconst 0, 1) := by decide +kernel
theorem dX6_nextPair_4 : decode cX6_nextPair 4 = .ok (.istore_n 3, 1) := by decide +kernel
theorem dX6_nextPair_5 : decode cX6_nextPair 5 = .ok (.iload_n 3, 1) := by decide +kernel
theorem dX6_nextPair_6 : decode cX6_nextPair 6 = .ok (.aload_n 0, 1) := by decide +kernel
theorem dX6_nextPair_7 : decode cX6_nextPair 7 = .ok (.getfield 7, 3) := by decide +kernel
theorem dX6_nextPair_10 : decode cX6_nextPair 10 = .ok (.iconst 0, 1) := by decide +kernel
theorem dX6_nextPair_11 : decode cX6_nextPair 11 = .ok (.iaload, 1) := by decide +kernel
theorem dX6_nextPair_12 : decode cX6_nextPair 12 = .ok (.if_icmp .ge 76, 3) := by decide +kernel
theorem dX6_nextPair_15 : decode cX6_nextPair 15 = .ok (.iload_n 3, 1) := by decide +kernel
theorem dX6_nextPair_16 : decode cX6_nextPair 16 = .ok (.iconst 1, 1) := by decide +kernel
theorem dX6_nextPair_17 : decode cX6_nextPair 17 = .ok (.iadd, 1) := by decide +kernel
theorem dX6_nextPair_18 : decode cX6_nextPair 18 = .ok (.istore 4, 2) := by decide +kernel
theorem dX6_nextPair_20 : decode cX6_nextPair 20 = .ok (.iload 4, 2) := by decide +kernel
theorem dX6_nextPair_22 : decode cX6_nextPair 22 = .ok (.aload_n 0, 1) := by decide +kernel
theorem dX6_nextPair_23 : decode cX6_nextPair 23 = .ok (.getfield 7, 3) := by decide +kernel
theorem dX6_nextPair_26 : decode cX6_nextPair 26 = .ok (.iconst 0, 1) := by decide +kernel
theorem dX6_nextPair_27 : decode cX6_nextPair 27 = .ok (.iaload, 1) := by decide +kernel
theorem dX6_nextPair_28 : decode cX6_nextPair 28 = .ok (.if_icmp .ge 54, 3) := by decide +kernel
theorem dX6_nextPair_31 : decode cX6_nextPair 31 = .ok (.aload_n 0, 1) := by decide +kernel
theorem dX6_nextPair_32 : decode cX6_nextPair 32 = .ok (.iload_n 3, 1) := by decide +kernel
theorem dX6_nextPair_33 : decode cX6_nextPair 33 = .ok (.iload 4, 2) := by decide +kernel
theorem dX6_nextPair_35 : decode cX6_nextPair 35 = .ok (.iload_n 1, 1) := by decide +kernel
theorem dX6_nextPair_36 : decode cX6_nextPair 36 = .ok (.invokevirtual 76, 3) := by decide +kernel
theorem dX6_nextPair_39 : decode cX6_nextPair 39 = .ok (.ifCond .eq 37, 3) := by decide +kernel
theorem dX6_nextPair_42 : decode cX6_nextPair 42 = .ok (.iload_n 2, 1) := by decide +kernel
theorem dX6_nextPair_43 : decode cX6_nextPair 43 = .ok (.ifCond .lt 25, 3) := by decide +kernel
theorem dX6_nextPair_46 : decode cX6_nextPair 46 = .ok (.aload_n 0, 1) := by decide +kernel
theorem dX6_nextPair_47 : decode cX6_nextPair 47 = .ok (.iload_n 3, 1) := by decide +kernel
theorem dX6_nextPair_48 : decode cX6_nextPair 48 = .ok (.iload 4, 2) := by decide +kernel
theorem dX6_nextPair_50 : decode cX6_nextPair 50 = .ok (.invokevirtual 68, 3) := by decide +kernel
theorem dX6_nextPair_53 : decode cX6_nextPair 53 = .ok (.aload_n 0, 1) := by decide +kernel
theorem dX6_nextPair_54 : decode cX6_nextPair 54 = .ok (.iload_n 2, 1) := by decide +kernel
theorem dX6_nextPair_55 : decode cX6_nextPair 55 = .ok (.bipush 8, 2) := by decide +kernel
theorem dX6_nextPair_57 : decode cX6_nextPair 57 = .ok (.idiv, 1) := by decide +kernel
theorem dX6_nextPair_58 : decode cX6_nextPair 58 = .ok (.iload_n 2, 1) := by decide +kernel
theorem dX6_nextPair_59 : decode cX6_nextPair 59 = .ok (.bipush 8, 2) := by decide +kernel
theorem dX6_nextPair_61 : decode cX6_nextPair 61 = .ok (.irem, 1) := by decide +kernel
theorem dX6_nextPair_62 : decode cX6_nextPair 62 = .ok (.invokevirtual 68, 3) := by decide +kernel
theorem dX6_nextPair_65 : decode cX6_nextPair 65 = .ok (.if_icmp .ge 11, 3) := by decide +kernel
theorem dX6_nextPair_68 : decode cX6_nextPair 68 = .ok (.bipush 8, 2) := by decide +kernel
theorem dX6_nextPair_70 : decode cX6_nextPair 70 = .ok (.iload_n 3, 1) := by decide +kernel
theorem dX6_nextPair_71 : decode cX6_nextPair 71 = .ok (.imul, 1) := by decide +kernel
theorem dX6_nextPair_72 : decode cX6_nextPair 72 = .ok (.iload 4, 2) := by decide +kernel
theorem dX6_nextPair_74 : decode cX6_nextPair 74 = .ok (.iadd, 1) := by decide +kernel
theorem dX6_nextPair_75 : decode cX6_nextPair 75 = .ok (.istore_n 2, 1) := by decide +kernel
theorem dX6_nextPair_76 : decode cX6_nextPair 76 = .ok (.iinc 4 1, 3) := by decide +kernel
theorem dX6_nextPair_79 : decode cX6_nextPair 79 = .ok (.goto (-59), 3) := by decide +kernel
theorem dX6_nextPair_82 : decode cX6_nextPair 82 = .ok (.iinc 3 1, 3) := by decide +kernel
theorem dX6_nextPair_85 : decode cX6_nextPair 85 = .ok (.goto (-80), 3) := by decide +kernel
theorem dX6_nextPair_88 : decode cX6_nextPair 88 = .ok (.iload_n 2, 1) := by decide +kernel
theorem dX6_nextPair_89 : decode cX6_nextPair 89 = .ok (.ireturn, 1) := by decide +kernel
theorem dX6_join_0 : decode cX6_join 0 = .ok (.aload_n 0, 1) := by decide +kernel
theorem dX6_join_1 : decode cX6_join 1 = .ok (.getfield 32, 3) := by decide +kernel
theorem dX6_join_4 : decode cX6_join 4 = .ok (.iload_n 2, 1) := by decide +kernel
theorem dX6_join_5 : decode cX6_join 5 = .ok (.iaload, 1) := by decide +kernel
theorem dX6_join_6 : decode cX6_join 6 = .ok (.istore_n 3, 1) := by decide +kernel
theorem dX6_join_7 : decode cX6_join 7 = .ok (.iconst 0, 1) := by decide +kernel
theorem dX6_join_8 : decode cX6_join 8 = .ok (.istore 4, 2) := by decide +kernel
theorem dX6_join_10 : decode cX6_join 10 = .ok (.iload 4, 2) := by decide +kernel
theorem dX6_join_12 : decode cX6_join 12 = .ok (.aload_n 0, 1) := by decide +kernel
theorem dX6_join_13 : decode cX6_join 13 = .ok (.getfield 7, 3) := by decide +kernel
theorem dX6_join_16 : decode cX6_join 16 = .ok (.iconst 0, 1) := by decide +kernel
theorem dX6_join_17 : decode cX6_join 17 = .ok (.iaload, 1) := by decide +kernel
theorem dX6_join_18 : decode cX6_join 18 = .ok (.if_icmp .ge 43, 3) := by decide +kernel
theorem dX6_join_21 : decode cX6_join 21 = .ok (.aload_n 0, 1) := by decide +kernel
theorem dX6_join_22 : decode cX6_join 22 = .ok (.getfield 32, 3) := by decide +kernel
theorem dX6_join_25 : decode cX6_join 25 = .ok (.iload 4, 2) := by decide +kernel
theorem dX6_join_27 : decode cX6_join 27 = .ok (.aload_n 0, 1) := by decide +kernel
theorem dX6_join_28 : decode cX6_join 28 = .ok (.getfield 32, 3) := by decide +kernel
theorem dX6_join_31 : decode cX6_join 31 = .ok (.iload 4, 2) := by decide +kernel
theorem dX6_join_33 : decode cX6_join 33 = .ok (.iaload, 1) := by decide +kernel
theorem dX6_join_34 : decode cX6_join 34 = .ok (.iload_n 3, 1) := by decide +kernel
theorem dX6_join_35 : decode cX6_join 35 = .ok (.if_icmp .ne 12, 3) := by decide +kernel
theorem dX6_join_38 : decode cX6_join 38 = .ok (.aload_n 0, 1) := by decide +kernel
theorem dX6_join_39 : decode cX6_join 39 = .ok (.getfield 32, 3) := by decide +kernel
theorem dX6_join_42 : decode cX6_join 42 = .ok (.iload_n 1, 1) := by decide +kernel
theorem dX6_join_43 : decode cX6_join 43 = .ok (.iaload, 1) := by decide +kernel
theorem dX6_join_44 : decode cX6_join 44 = .ok (.goto 10, 3) := by decide +kernel
theorem dX6_join_47 : decode cX6_join 47 = .ok (.aload_n 0, 1) := by decide +kernel
theorem dX6_join_48 : decode cX6_join 48 = .ok (.getfield 32, 3) := by decide +kernel
theorem dX6_join_51 : decode cX6_join 51 = .ok (.iload 4, 2) := by decide +kernel
theorem dX6_join_53 : decode cX6_join 53 = .ok (.iaload, 1) := by decide +kernel
theorem dX6_join_54 : decode cX6_join 54 = .ok (.iastore, 1) := by decide +kernel
theorem dX6_join_55 : decode cX6_join 55 = .ok (.iinc 4 1, 3) := by decide +kernel
theorem dX6_join_58 : decode cX6_join 58 = .ok (.goto (-48), 3) := by decide +kernel
theorem dX6_join_61 : decode cX6_join 61 = .ok (.return_, 1) := by decide +kernel
theorem dX6_layTree_0 : decode cX6_layTree 0 = .ok (.aload_n 0, 1) := by decide +kernel
theorem dX6_layTree_1 : decode cX6_layTree 1 = .ok (.iload_n 1, 1) := by decide +kernel
theorem dX6_layTree_2 : decode cX6_layTree 2 = .ok (.invokevirtual 79, 3) := by decide +kernel
theorem dX6_layTree_5 : decode cX6_layTree 5 = .ok (.istore_n 2, 1) := by decide +kernel
theorem dX6_layTree_6 : decode cX6_layTree 6 = .ok (.iload_n 2, 1) := by decide +kernel
theorem dX6_layTree_7 : decode cX6_layTree 7 = .ok (.ifCond .lt 31, 3) := by decide +kernel
theorem dX6_layTree_10 : decode cX6_layTree 10 = .ok (.aload_n 0, 1) := by decide +kernel
theorem dX6_layTree_11 : decode cX6_layTree 11 = .ok (.getfield 35, 3) := by decide +kernel
theorem dX6_layTree_14 : decode cX6_layTree 14 = .ok (.iload_n 2, 1) := by decide +kernel
theorem dX6_layTree_15 : decode cX6_layTree 15 = .ok (.iconst 1, 1) := by decide +kernel
theorem dX6_layTree_16 : decode cX6_layTree 16 = .ok (.bastore, 1) := by decide +kernel
theorem dX6_layTree_17 : decode cX6_layTree 17 = .ok (.aload_n 0, 1) := by decide +kernel
theorem dX6_layTree_18 : decode cX6_layTree 18 = .ok (.iload_n 2, 1) := by decide +kernel
theorem dX6_layTree_19 : decode cX6_layTree 19 = .ok (.bipush 8, 2) := by decide +kernel
theorem dX6_layTree_21 : decode cX6_layTree 21 = .ok (.idiv, 1) := by decide +kernel
theorem dX6_layTree_22 : decode cX6_layTree 22 = .ok (.iload_n 2, 1) := by decide +kernel
theorem dX6_layTree_23 : decode cX6_layTree 23 = .ok (.bipush 8, 2) := by decide +kernel
theorem dX6_layTree_25 : decode cX6_layTree 25 = .ok (.irem, 1) := by decide +kernel
theorem dX6_layTree_26 : decode cX6_layTree 26 = .ok (.invokevirtual 83, 3) := by decide +kernel
theorem dX6_layTree_29 : decode cX6_layTree 29 = .ok (.aload_n 0, 1) := by decide +kernel
theorem dX6_layTree_30 : decode cX6_layTree 30 = .ok (.iload_n 1, 1) := by decide +kernel
theorem dX6_layTree_31 : decode cX6_layTree 31 = .ok (.invokevirtual 79, 3) := by decide +kernel
theorem dX6_layTree_34 : decode cX6_layTree 34 = .ok (.istore_n 2, 1) := by decide +kernel
theorem dX6_layTree_35 : decode cX6_layTree 35 = .ok (.goto (-29), 3) := by decide +kernel
theorem dX6_layTree_38 : decode cX6_layTree 38 = .ok (.iconst 0, 1) := by decide +kernel
theorem dX6_layTree_39 : decode cX6_layTree 39 = .ok (.istore_n 3, 1) := by decide +kernel
theorem dX6_layTree_40 : decode cX6_layTree 40 = .ok (.iload_n 3, 1) := by decide +kernel
theorem dX6_layTree_41 : decode cX6_layTree 41 = .ok (.bipush 64, 2) := by decide +kernel
theorem dX6_layTree_43 : decode cX6_layTree 43 = .ok (.if_icmp .ge 46, 3) := by decide +kernel
theorem dX6_layTree_46 : decode cX6_layTree 46 = .ok (.aload_n 0, 1) := by decide +kernel
theorem dX6_layTree_47 : decode cX6_layTree 47 = .ok (.getfield 35, 3) := by decide +kernel
theorem dX6_layTree_50 : decode cX6_layTree 50 = .ok (.iload_n 3, 1) := by decide +kernel
theorem dX6_layTree_51 : decode cX6_layTree 51 = .ok (.baload, 1) := by decide +kernel
theorem dX6_layTree_52 : decode cX6_layTree 52 = .ok (.ifCond .eq 31, 3) := by decide +kernel
theorem dX6_layTree_55 : decode cX6_layTree 55 = .ok (.aload_n 0, 1) := by decide +kernel
theorem dX6_layTree_56 : decode cX6_layTree 56 = .ok (.getfield 7, 3) := by decide +kernel
theorem dX6_layTree_59 : decode cX6_layTree 59 = .ok (.iconst 1, 1) := by decide +kernel
theorem dX6_layTree_60 : decode cX6_layTree 60 = .ok (.iload_n 3, 1) := by decide +kernel
theorem dX6_layTree_61 : decode cX6_layTree 61 = .ok (.bipush 8, 2) := by decide +kernel
theorem dX6_layTree_63 : decode cX6_layTree 63 = .ok (.idiv, 1) := by decide +kernel
theorem dX6_layTree_64 : decode cX6_layTree 64 = .ok (.iadd, 1) := by decide +kernel
theorem dX6_layTree_65 : decode cX6_layTree 65 = .ok (.iaload, 1) := by decide +kernel
theorem dX6_layTree_66 : decode cX6_layTree 66 = .ok (.iload_n 1, 1) := by decide +kernel
theorem dX6_layTree_67 : decode cX6_layTree 67 = .ok (.if_icmp .ne 16, 3) := by decide +kernel
theorem dX6_layTree_70 : decode cX6_layTree 70 = .ok (.aload_n 0, 1) := by decide +kernel
theorem dX6_layTree_71 : decode cX6_layTree 71 = .ok (.iload_n 3, 1) := by decide +kernel
theorem dX6_layTree_72 : decode cX6_layTree 72 = .ok (.bipush 8, 2) := by decide +kernel
theorem dX6_layTree_74 : decode cX6_layTree 74 = .ok (.idiv, 1) := by decide +kernel
theorem dX6_layTree_75 : decode cX6_layTree 75 = .ok (.iload_n 3, 1) := by decide +kernel
theorem dX6_layTree_76 : decode cX6_layTree 76 = .ok (.bipush 8, 2) := by decide +kernel
theorem dX6_layTree_78 : decode cX6_layTree 78 = .ok (.irem, 1) := by decide +kernel
theorem dX6_layTree_79 : decode cX6_layTree 79 = .ok (.iconst 0, 1) := by decide +kernel
theorem dX6_layTree_80 : decode cX6_layTree 80 = .ok (.invokevirtual 87, 3) := by decide +kernel
theorem dX6_layTree_83 : decode cX6_layTree 83 = .ok (.iinc 3 1, 3) := by decide +kernel
theorem dX6_layTree_86 : decode cX6_layTree 86 = .ok (.goto (-46), 3) := by decide +kernel
theorem dX6_layTree_89 : decode cX6_layTree 89 = .ok (.return_, 1) := by decide +kernel
theorem dX6_layNeighbours_0 : decode cX6_layNeighbours 0 = .ok (.bipush (-6), 2) := by decide +kernel
theorem dX6_layNeighbours_2 : decode cX6_layNeighbours 2 = .ok (.istore_n 3, 1) := by decide +kernel
theorem dX6_layNeighbours_3 : decode cX6_layNeighbours 3 = .ok (.iconst 0, 1) := by decide +kernel
theorem dX6_layNeighbours_4 : decode cX6_layNeighbours 4 = .ok (.istore 4, 2) := by decide +kernel
theorem dX6_layNeighbours_6 : decode cX6_layNeighbours 6 = .ok (.iload 4, 2) := by decide +kernel
theorem dX6_layNeighbours_8 : decode cX6_layNeighbours 8 = .ok (.aload_n 0, 1) := by decide +kernel
theorem dX6_layNeighbours_9 : decode cX6_layNeighbours 9 = .ok (.getfield 7, 3) := by decide +kernel
theorem dX6_layNeighbours_12 : decode cX6_layNeighbours 12 = .ok (.iconst 0, 1) := by decide +kernel
theorem dX6_layNeighbours_13 : decode cX6_layNeighbours 13 = .ok (.iaload, 1) := by decide +kernel
theorem dX6_layNeighbours_14 : decode cX6_layNeighbours 14 = .ok (.if_icmp .ge 103, 3) := by decide +kernel
theorem dX6_layNeighbours_17 : decode cX6_layNeighbours 17 = .ok (.iconst 0, 1) := by decide +kernel
theorem dX6_layNeighbours_18 : decode cX6_layNeighbours 18 = .ok (.istore 5, 2) := by decide +kernel
theorem dX6_layNeighbours_20 : decode cX6_layNeighbours 20 = .ok (.iload 5, 2) := by decide +kernel
theorem dX6_layNeighbours_22 : decode cX6_layNeighbours 22 = .ok (.aload_n 0, 1) := by decide +kernel
theorem dX6_layNeighbours_23 : decode cX6_layNeighbours 23 = .ok (.getfield 7, 3) := by decide +kernel
theorem dX6_layNeighbours_26 : decode cX6_layNeighbours 26 = .ok (.iconst 0, 1) := by decide +kernel
theorem dX6_layNeighbours_27 : decode cX6_layNeighbours 27 = .ok (.iaload, 1) := by decide +kernel
theorem dX6_layNeighbours_28 : decode cX6_layNeighbours 28 = .ok (.if_icmp .ge 83, 3) := by decide +kernel
theorem dX6_layNeighbours_31 : decode cX6_layNeighbours 31 = .ok (.aload_n 0, 1) := by decide +kernel
theorem dX6_layNeighbours_32 : decode cX6_layNeighbours 32 = .ok (.getfield 7, 3) := by decide +kernel
theorem dX6_layNeighbours_35 : decode cX6_layNeighbours 35 = .ok (.iconst 1, 1) := by decide +kernel
theorem dX6_layNeighbours_36 : decode cX6_layNeighbours 36 = .ok (.iload 4, 2) := by decide +kernel
theorem dX6_layNeighbours_38 : decode cX6_layNeighbours 38 = .ok (.iadd, 1) := by decide +kernel
theorem dX6_layNeighbours_39 : decode cX6_layNeighbours 39 = .ok (.iaload, 1) := by decide +kernel
theorem dX6_layNeighbours_40 : decode cX6_layNeighbours 40 = .ok (.iload_n 1, 1) := by decide +kernel
theorem dX6_layNeighbours_41 : decode cX6_layNeighbours 41 = .ok (.if_icmp .ne 20, 3) := by decide +kernel
theorem dX6_layNeighbours_44 : decode cX6_layNeighbours 44 = .ok (.aload_n 0, 1) := by decide +kernel
theorem dX6_layNeighbours_45 : decode cX6_layNeighbours 45 = .ok (.getfield 7, 3) := by decide +kernel
theorem dX6_layNeighbours_48 : decode cX6_layNeighbours 48 = .ok (.iconst 1, 1) := by decide +kernel
theorem dX6_layNeighbours_49 : decode cX6_layNeighbours 49 = .ok (.iload 5, 2) := by decide +kernel
theorem dX6_layNeighbours_51 : decode cX6_layNeighbours 51 = .ok (.iadd, 1) := by decide +kernel
theorem dX6_layNeighbours_52 : decode cX6_layNeighbours 52 = .ok (.iaload, 1) := by decide +kernel
theorem dX6_layNeighbours_53 : decode cX6_layNeighbours 53 = .ok (.iload_n 2, 1) := by decide +kernel
theorem dX6_layNeighbours_54 : decode cX6_layNeighbours 54 = .ok (.if_icmp .ne 7, 3) := by decide +kernel
theorem dX6_layNeighbours_57 : decode cX6_layNeighbours 57 = .ok (.iconst 1, 1) := by decide +kernel
theorem dX6_layNeighbours_58 : decode cX6_layNeighbours 58 = .ok (.goto 4, 3) := by decide +kernel
theorem dX6_layNeighbours_61 : decode cX6_layNeighbours 61 = .ok (.iconst 0, 1) := by decide +kernel
theorem dX6_layNeighbours_62 : decode cX6_layNeighbours 62 = .ok (.istore 6, 2) := by decide +kernel
theorem dX6_layNeighbours_64 : decode cX6_layNeighbours 64 = .ok (.iload 6, 2) := by decide +kernel
theorem dX6_layNeighbours_66 : decode cX6_layNeighbours 66 = .ok (.ifCond .eq 39, 3) := by decide +kernel
theorem dX6_layNeighbours_69 : decode cX6_layNeighbours 69 = .ok (.iload_n 3, 1) := by decide +kernel
theorem dX6_layNeighbours_70 : decode cX6_layNeighbours 70 = .ok (.ifCond .lt 26, 3) := by decide +kernel
theorem dX6_layNeighbours_73 : decode cX6_layNeighbours 73 = .ok (.aload_n 0, 1) := by decide +kernel
theorem dX6_layNeighbours_74 : decode cX6_layNeighbours 74 = .ok (.iload 4, 2) := by decide +kernel
theorem dX6_layNeighbours_76 : decode cX6_layNeighbours 76 = .ok (.iload 5, 2) := by decide +kernel
theorem dX6_layNeighbours_78 : decode cX6_layNeighbours 78 = .ok (.invokevirtual 68, 3) := by decide +kernel
theorem dX6_layNeighbours_81 : decode cX6_layNeighbours 81 = .ok (.aload_n 0, 1) := by decide +kernel
theorem dX6_layNeighbours_82 : decode cX6_layNeighbours 82 = .ok (.iload_n 3, 1) := by decide +kernel
theorem dX6_layNeighbours_83 : decode cX6_layNeighbours 83 = .ok (.bipush 8, 2) := by decide +kernel
theorem dX6_layNeighbours_85 : decode cX6_layNeighbours 85 = .ok (.idiv, 1) := by decide +kernel
theorem dX6_layNeighbours_86 : decode cX6_layNeighbours 86 = .ok (.iload_n 3, 1) := by decide +kernel
theorem dX6_layNeighbours_87 : decode cX6_layNeighbours 87 = .ok (.bipush 8, 2) := by decide +kernel
theorem dX6_layNeighbours_89 : decode cX6_layNeighbours 89 = .ok (.irem, 1) := by decide +kernel
theorem dX6_layNeighbours_90 : decode cX6_layNeighbours 90 = .ok (.invokevirtual 68, 3) := by decide +kernel
theorem dX6_layNeighbours_93 : decode cX6_layNeighbours 93 = .ok (.if_icmp .ge 12, 3) := by decide +kernel
theorem dX6_layNeighbours_96 : decode cX6_layNeighbours 96 = .ok (.bipush 8, 2) := by decide +kernel
theorem dX6_layNeighbours_98 : decode cX6_layNeighbours 98 = .ok (.iload 4, 2) := by decide +kernel
theorem dX6_layNeighbours_100 : decode cX6_layNeighbours 100 = .ok (.imul, 1) := by decide +kernel
theorem dX6_layNeighbours_101 : decode cX6_layNeighbours 101 = .ok (.iload 5, 2) := by decide +kernel
theorem dX6_layNeighbours_103 : decode cX6_layNeighbours 103 = .ok (.iadd, 1) := by decide +kernel
theorem dX6_layNeighbours_104 : decode cX6_layNeighbours 104 = .ok (.istore_n 3, 1) := by decide +kernel
theorem dX6_layNeighbours_105 : decode cX6_layNeighbours 105 = .ok (.iinc 5 1, 3) := by decide +kernel
theorem dX6_layNeighbours_108 : decode cX6_layNeighbours 108 = .ok (.goto (-88), 3) := by decide +kernel
theorem dX6_layNeighbours_111 : decode cX6_layNeighbours 111 = .ok (.iinc 4 1, 3) := by decide +kernel
theorem dX6_layNeighbours_114 : decode cX6_layNeighbours 114 = .ok (.goto (-108), 3) := by decide +kernel
theorem dX6_layNeighbours_117 : decode cX6_layNeighbours 117 = .ok (.iload_n 3, 1) := by decide +kernel
theorem dX6_layNeighbours_118 : decode cX6_layNeighbours 118 = .ok (.ifCond .lt 38, 3) := by decide +kernel
theorem dX6_layNeighbours_121 : decode cX6_layNeighbours 121 = .ok (.aload_n 0, 1) := by decide +kernel
theorem dX6_layNeighbours_122 : decode cX6_layNeighbours 122 = .ok (.iload_n 3, 1) := by decide +kernel
theorem dX6_layNeighbours_123 : decode cX6_layNeighbours 123 = .ok (.bipush 8, 2) := by decide +kernel
theorem dX6_layNeighbours_125 : decode cX6_layNeighbours 125 = .ok (.idiv, 1) := by decide +kernel
theorem dX6_layNeighbours_126 : decode cX6_layNeighbours 126 = .ok (.iload_n 3, 1) := by decide +kernel
theorem dX6_layNeighbours_127 : decode cX6_layNeighbours 127 = .ok (.bipush 8, 2) := by decide +kernel
theorem dX6_layNeighbours_129 : decode cX6_layNeighbours 129 = .ok (.irem, 1) := by decide +kernel
theorem dX6_layNeighbours_130 : decode cX6_layNeighbours 130 = .ok (.invokevirtual 68, 3) := by decide +kernel
theorem dX6_layNeighbours_133 : decode cX6_layNeighbours 133 = .ok (.aload_n 0, 1) := by decide +kernel
theorem dX6_layNeighbours_134 : decode cX6_layNeighbours 134 = .ok (.getfield 7, 3) := by decide +kernel
theorem dX6_layNeighbours_137 : decode cX6_layNeighbours 137 = .ok (.bipush 33, 2) := by decide +kernel
theorem dX6_layNeighbours_139 : decode cX6_layNeighbours 139 = .ok (.iaload, 1) := by decide +kernel
theorem dX6_layNeighbours_140 : decode cX6_layNeighbours 140 = .ok (.if_icmp .gt 16, 3) := by decide +kernel
theorem dX6_layNeighbours_143 : decode cX6_layNeighbours 143 = .ok (.aload_n 0, 1) := by decide +kernel
theorem dX6_layNeighbours_144 : decode cX6_layNeighbours 144 = .ok (.iload_n 3, 1) := by decide +kernel
theorem dX6_layNeighbours_145 : decode cX6_layNeighbours 145 = .ok (.bipush 8, 2) := by decide +kernel
theorem dX6_layNeighbours_147 : decode cX6_layNeighbours 147 = .ok (.idiv, 1) := by decide +kernel
theorem dX6_layNeighbours_148 : decode cX6_layNeighbours 148 = .ok (.iload_n 3, 1) := by decide +kernel
theorem dX6_layNeighbours_149 : decode cX6_layNeighbours 149 = .ok (.bipush 8, 2) := by decide +kernel
theorem dX6_layNeighbours_151 : decode cX6_layNeighbours 151 = .ok (.irem, 1) := by decide +kernel
theorem dX6_layNeighbours_152 : decode cX6_layNeighbours 152 = .ok (.iconst 1, 1) := by decide +kernel
theorem dX6_layNeighbours_153 : decode cX6_layNeighbours 153 = .ok (.invokevirtual 87, 3) := by decide +kernel
theorem dX6_layNeighbours_156 : decode cX6_layNeighbours 156 = .ok (.return_, 1) := by decide +kernel
theorem dX6_layTries_0 : decode cX6_layTries 0 = .ok (.aload_n 0, 1) := by decide +kernel
theorem dX6_layTries_1 : decode cX6_layTries 1 = .ok (.iconst 0, 1) := by decide +kernel
theorem dX6_layTries_2 : decode cX6_layTries 2 = .ok (.putfield 72, 3) := by decide +kernel
theorem dX6_layTries_5 : decode cX6_layTries 5 = .ok (.iconst 0, 1) := by decide +kernel
theorem dX6_layTries_6 : decode cX6_layTries 6 = .ok (.istore_n 1, 1) := by decide +kernel
theorem dX6_layTries_7 : decode cX6_layTries 7 = .ok (.iload_n 1, 1) := by decide +kernel
theorem dX6_layTries_8 : decode cX6_layTries 8 = .ok (.bipush 8, 2) := by decide +kernel
theorem dX6_layTries_10 : decode cX6_layTries 10 = .ok (.if_icmp .ge 16, 3) := by decide +kernel
theorem dX6_layTries_13 : decode cX6_layTries 13 = .ok (.aload_n 0, 1) := by decide +kernel
theorem dX6_layTries_14 : decode cX6_layTries 14 = .ok (.getfield 32, 3) := by decide +kernel
theorem dX6_layTries_17 : decode cX6_layTries 17 = .ok (.iload_n 1, 1) := by decide +kernel
theorem dX6_layTries_18 : decode cX6_layTries 18 = .ok (.iload_n 1, 1) := by decide +kernel
theorem dX6_layTries_19 : decode cX6_layTries 19 = .ok (.iastore, 1) := by decide +kernel
theorem dX6_layTries_20 : decode cX6_layTries 20 = .ok (.iinc 1 1, 3) := by decide +kernel
theorem dX6_layTries_23 : decode cX6_layTries 23 = .ok (.goto (-16), 3) := by decide +kernel
theorem dX6_layTries_26 : decode cX6_layTries 26 = .ok (.iconst 0, 1) := by decide +kernel
theorem dX6_layTries_27 : decode cX6_layTries 27 = .ok (.istore_n 1, 1) := by decide +kernel
theorem dX6_layTries_28 : decode cX6_layTries 28 = .ok (.iload_n 1, 1) := by decide +kernel
theorem dX6_layTries_29 : decode cX6_layTries 29 = .ok (.bipush 64, 2) := by decide +kernel
theorem dX6_layTries_31 : decode cX6_layTries 31 = .ok (.if_icmp .ge 16, 3) := by decide +kernel
theorem dX6_layTries_34 : decode cX6_layTries 34 = .ok (.aload_n 0, 1) := by decide +kernel
theorem dX6_layTries_35 : decode cX6_layTries 35 = .ok (.getfield 35, 3) := by decide +kernel
theorem dX6_layTries_38 : decode cX6_layTries 38 = .ok (.iload_n 1, 1) := by decide +kernel
theorem dX6_layTries_39 : decode cX6_layTries 39 = .ok (.iconst 0, 1) := by decide +kernel
theorem dX6_layTries_40 : decode cX6_layTries 40 = .ok (.bastore, 1) := by decide +kernel
theorem dX6_layTries_41 : decode cX6_layTries 41 = .ok (.iinc 1 1, 3) := by decide +kernel
theorem dX6_layTries_44 : decode cX6_layTries 44 = .ok (.goto (-16), 3) := by decide +kernel
theorem dX6_layTries_47 : decode cX6_layTries 47 = .ok (.iconst 0, 1) := by decide +kernel
theorem dX6_layTries_48 : decode cX6_layTries 48 = .ok (.istore_n 1, 1) := by decide +kernel
theorem dX6_layTries_49 : decode cX6_layTries 49 = .ok (.iload_n 1, 1) := by decide +kernel
theorem dX6_layTries_50 : decode cX6_layTries 50 = .ok (.iconst 4, 1) := by decide +kernel
theorem dX6_layTries_51 : decode cX6_layTries 51 = .ok (.if_icmp .ge 14, 3) := by decide +kernel
theorem dX6_layTries_54 : decode cX6_layTries 54 = .ok (.aload_n 0, 1) := by decide +kernel
theorem dX6_layTries_55 : decode cX6_layTries 55 = .ok (.iload_n 1, 1) := by decide +kernel
theorem dX6_layTries_56 : decode cX6_layTries 56 = .ok (.invokevirtual 91, 3) := by decide +kernel
theorem dX6_layTries_59 : decode cX6_layTries 59 = .ok (.iinc 1 1, 3) := by decide +kernel
theorem dX6_layTries_62 : decode cX6_layTries 62 = .ok (.goto (-13), 3) := by decide +kernel
theorem dX6_layTries_65 : decode cX6_layTries 65 = .ok (.iconst 0, 1) := by decide +kernel
theorem dX6_layTries_66 : decode cX6_layTries 66 = .ok (.istore_n 1, 1) := by decide +kernel
theorem dX6_layTries_67 : decode cX6_layTries 67 = .ok (.iload_n 1, 1) := by decide +kernel
theorem dX6_layTries_68 : decode cX6_layTries 68 = .ok (.iconst 4, 1) := by decide +kernel
theorem dX6_layTries_69 : decode cX6_layTries 69 = .ok (.if_icmp .ge 30, 3) := by decide +kernel
theorem dX6_layTries_72 : decode cX6_layTries 72 = .ok (.iload_n 1, 1) := by decide +kernel
theorem dX6_layTries_73 : decode cX6_layTries 73 = .ok (.iconst 1, 1) := by decide +kernel
theorem dX6_layTries_74 : decode cX6_layTries 74 = .ok (.iadd, 1) := by decide +kernel
theorem dX6_layTries_75 : decode cX6_layTries 75 = .ok (.istore_n 2, 1) := by decide +kernel
theorem dX6_layTries_76 : decode cX6_layTries 76 = .ok (.iload_n 2, 1) := by decide +kernel
theorem dX6_layTries_77 : decode cX6_layTries 77 = .ok (.iconst 4, 1) := by decide +kernel
theorem dX6_layTries_78 : decode cX6_layTries 78 = .ok (.if_icmp .ge 15, 3) := by decide +kernel
theorem dX6_layTries_81 : decode cX6_layTries 81 = .ok (.aload_n 0, 1) := by decide +kernel
theorem dX6_layTries_82 : decode cX6_layTries 82 = .ok (.iload_n 1, 1) := by decide +kernel
theorem dX6_layTries_83 : decode cX6_layTries 83 = .ok (.iload_n 2, 1) := by decide +kernel
theorem dX6_layTries_84 : decode cX6_layTries 84 = .ok (.invokevirtual 95, 3) := by decide +kernel
theorem dX6_layTries_87 : decode cX6_layTries 87 = .ok (.iinc 2 1, 3) := by decide +kernel
theorem dX6_layTries_90 : decode cX6_layTries 90 = .ok (.goto (-14), 3) := by decide +kernel
theorem dX6_layTries_93 : decode cX6_layTries 93 = .ok (.iinc 1 1, 3) := by decide +kernel
theorem dX6_layTries_96 : decode cX6_layTries 96 = .ok (.goto (-29), 3) := by decide +kernel
theorem dX6_layTries_99 : decode cX6_layTries 99 = .ok (.return_, 1) := by decide +kernel
theorem dX6_isTry_0 : decode cX6_isTry 0 = .ok (.iload_n 1, 1) := by decide +kernel
theorem dX6_isTry_1 : decode cX6_isTry 1 = .ok (.iconst 0, 1) := by decide +kernel
theorem dX6_isTry_2 : decode cX6_isTry 2 = .ok (.aload_n 0, 1) := by decide +kernel
theorem dX6_isTry_3 : decode cX6_isTry 3 = .ok (.getfield 72, 3) := by decide +kernel
theorem dX6_isTry_6 : decode cX6_isTry 6 = .ok (.iconst 1, 1) := by decide +kernel
theorem dX6_isTry_7 : decode cX6_isTry 7 = .ok (.isub, 1) := by decide +kernel
theorem dX6_isTry_8 : decode cX6_isTry 8 = .ok (.invokestatic 53, 3) := by decide +kernel
theorem dX6_isTry_11 : decode cX6_isTry 11 = .ok (.ireturn, 1) := by decide +kernel
theorem dX6_pairOf_0 : decode cX6_pairOf 0 = .ok (.iload_n 0, 1) := by decide +kernel
theorem dX6_pairOf_1 : decode cX6_pairOf 1 = .ok (.iload_n 1, 1) := by decide +kernel
theorem dX6_pairOf_2 : decode cX6_pairOf 2 = .ok (.if_icmp .ge 7, 3) := by decide +kernel
theorem dX6_pairOf_5 : decode cX6_pairOf 5 = .ok (.iload_n 0, 1) := by decide +kernel
theorem dX6_pairOf_6 : decode cX6_pairOf 6 = .ok (.goto 4, 3) := by decide +kernel
theorem dX6_pairOf_9 : decode cX6_pairOf 9 = .ok (.iload_n 1, 1) := by decide +kernel
theorem dX6_pairOf_10 : decode cX6_pairOf 10 = .ok (.istore_n 2, 1) := by decide +kernel
theorem dX6_pairOf_11 : decode cX6_pairOf 11 = .ok (.iload_n 0, 1) := by decide +kernel
theorem dX6_pairOf_12 : decode cX6_pairOf 12 = .ok (.iload_n 1, 1) := by decide +kernel
theorem dX6_pairOf_13 : decode cX6_pairOf 13 = .ok (.if_icmp .ge 7, 3) := by decide +kernel
theorem dX6_pairOf_16 : decode cX6_pairOf 16 = .ok (.iload_n 1, 1) := by decide +kernel
theorem dX6_pairOf_17 : decode cX6_pairOf 17 = .ok (.goto 4, 3) := by decide +kernel
theorem dX6_pairOf_20 : decode cX6_pairOf 20 = .ok (.iload_n 0, 1) := by decide +kernel
theorem dX6_pairOf_21 : decode cX6_pairOf 21 = .ok (.istore_n 3, 1) := by decide +kernel
theorem dX6_pairOf_22 : decode cX6_pairOf 22 = .ok (.iload_n 2, 1) := by decide +kernel
theorem dX6_pairOf_23 : decode cX6_pairOf 23 = .ok (.ifCond .ne 9, 3) := by decide +kernel
theorem dX6_pairOf_26 : decode cX6_pairOf 26 = .ok (.iload_n 3, 1) := by decide +kernel
theorem dX6_pairOf_27 : decode cX6_pairOf 27 = .ok (.iconst 1, 1) := by decide +kernel
theorem dX6_pairOf_28 : decode cX6_pairOf 28 = .ok (.isub, 1) := by decide +kernel
theorem dX6_pairOf_29 : decode cX6_pairOf 29 = .ok (.goto 6, 3) := by decide +kernel
theorem dX6_pairOf_32 : decode cX6_pairOf 32 = .ok (.iload_n 2, 1) := by decide +kernel
theorem dX6_pairOf_33 : decode cX6_pairOf 33 = .ok (.iload_n 3, 1) := by decide +kernel
theorem dX6_pairOf_34 : decode cX6_pairOf 34 = .ok (.iadd, 1) := by decide +kernel
theorem dX6_pairOf_35 : decode cX6_pairOf 35 = .ok (.ireturn, 1) := by decide +kernel
theorem dX6_layOnes_0 : decode cX6_layOnes 0 = .ok (.iconst 0, 1) := by decide +kernel
theorem dX6_layOnes_1 : decode cX6_layOnes 1 = .ok (.istore_n 1, 1) := by decide +kernel
theorem dX6_layOnes_2 : decode cX6_layOnes 2 = .ok (.iload_n 1, 1) := by decide +kernel
theorem dX6_layOnes_3 : decode cX6_layOnes 3 = .ok (.bipush 16, 2) := by decide +kernel
theorem dX6_layOnes_5 : decode cX6_layOnes 5 = .ok (.if_icmp .ge 50, 3) := by decide +kernel
theorem dX6_layOnes_8 : decode cX6_layOnes 8 = .ok (.aload_n 0, 1) := by decide +kernel
theorem dX6_layOnes_9 : decode cX6_layOnes 9 = .ok (.getfield 38, 3) := by decide +kernel
theorem dX6_layOnes_12 : decode cX6_layOnes 12 = .ok (.iload_n 1, 1) := by decide +kernel
theorem dX6_layOnes_13 : decode cX6_layOnes 13 = .ok (.iload_n 1, 1) := by decide +kernel
theorem dX6_layOnes_14 : decode cX6_layOnes 14 = .ok (.iconst 4, 1) := by decide +kernel
theorem dX6_layOnes_15 : decode cX6_layOnes 15 = .ok (.idiv, 1) := by decide +kernel
theorem dX6_layOnes_16 : decode cX6_layOnes 16 = .ok (.iload_n 1, 1) := by decide +kernel
theorem dX6_layOnes_17 : decode cX6_layOnes 17 = .ok (.iconst 4, 1) := by decide +kernel
theorem dX6_layOnes_18 : decode cX6_layOnes 18 = .ok (.irem, 1) := by decide +kernel
theorem dX6_layOnes_19 : decode cX6_layOnes 19 = .ok (.if_icmp .eq 24, 3) := by decide +kernel
theorem dX6_layOnes_22 : decode cX6_layOnes 22 = .ok (.aload_n 0, 1) := by decide +kernel
theorem dX6_layOnes_23 : decode cX6_layOnes 23 = .ok (.getfield 7, 3) := by decide +kernel
theorem dX6_layOnes_26 : decode cX6_layOnes 26 = .ok (.bipush 34, 2) := by decide +kernel
theorem dX6_layOnes_28 : decode cX6_layOnes 28 = .ok (.iload_n 1, 1) := by decide +kernel
theorem dX6_layOnes_29 : decode cX6_layOnes 29 = .ok (.iconst 4, 1) := by decide +kernel
theorem dX6_layOnes_30 : decode cX6_layOnes 30 = .ok (.idiv, 1) := by decide +kernel
theorem dX6_layOnes_31 : decode cX6_layOnes 31 = .ok (.iload_n 1, 1) := by decide +kernel
theorem dX6_layOnes_32 : decode cX6_layOnes 32 = .ok (.iconst 4, 1) := by decide +kernel
theorem dX6_layOnes_33 : decode cX6_layOnes 33 = .ok (.irem, 1) := by decide +kernel
theorem dX6_layOnes_34 : decode cX6_layOnes 34 = .ok (.invokestatic 98, 3) := by decide +kernel
theorem dX6_layOnes_37 : decode cX6_layOnes 37 = .ok (.iadd, 1) := by decide +kernel
theorem dX6_layOnes_38 : decode cX6_layOnes 38 = .ok (.iaload, 1) := by decide +kernel
theorem dX6_layOnes_39 : decode cX6_layOnes 39 = .ok (.iconst 1, 1) := by decide +kernel
theorem dX6_layOnes_40 : decode cX6_layOnes 40 = .ok (.if_icmp .ne 7, 3) := by decide +kernel
theorem dX6_layOnes_43 : decode cX6_layOnes 43 = .ok (.iconst 1, 1) := by decide +kernel
theorem dX6_layOnes_44 : decode cX6_layOnes 44 = .ok (.goto 4, 3) := by decide +kernel
theorem dX6_layOnes_47 : decode cX6_layOnes 47 = .ok (.iconst 0, 1) := by decide +kernel
theorem dX6_layOnes_48 : decode cX6_layOnes 48 = .ok (.bastore, 1) := by decide +kernel
theorem dX6_layOnes_49 : decode cX6_layOnes 49 = .ok (.iinc 1 1, 3) := by decide +kernel
theorem dX6_layOnes_52 : decode cX6_layOnes 52 = .ok (.goto (-50), 3) := by decide +kernel
theorem dX6_layOnes_55 : decode cX6_layOnes 55 = .ok (.iconst 0, 1) := by decide +kernel
theorem dX6_layOnes_56 : decode cX6_layOnes 56 = .ok (.istore_n 1, 1) := by decide +kernel
theorem dX6_layOnes_57 : decode cX6_layOnes 57 = .ok (.iload_n 1, 1) := by decide +kernel
theorem dX6_layOnes_58 : decode cX6_layOnes 58 = .ok (.iconst 4, 1) := by decide +kernel
theorem dX6_layOnes_59 : decode cX6_layOnes 59 = .ok (.if_icmp .ge 73, 3) := by decide +kernel
theorem dX6_layOnes_62 : decode cX6_layOnes 62 = .ok (.iconst 0, 1) := by decide +kernel
theorem dX6_layOnes_63 : decode cX6_layOnes 63 = .ok (.istore_n 2, 1) := by decide +kernel
theorem dX6_layOnes_64 : decode cX6_layOnes 64 = .ok (.iload_n 2, 1) := by decide +kernel
theorem dX6_layOnes_65 : decode cX6_layOnes 65 = .ok (.bipush 16, 2) := by decide +kernel
theorem dX6_layOnes_67 : decode cX6_layOnes 67 = .ok (.if_icmp .ge 59, 3) := by decide +kernel
theorem dX6_layOnes_70 : decode cX6_layOnes 70 = .ok (.aload_n 0, 1) := by decide +kernel
theorem dX6_layOnes_71 : decode cX6_layOnes 71 = .ok (.getfield 38, 3) := by decide +kernel
theorem dX6_layOnes_74 : decode cX6_layOnes 74 = .ok (.iload_n 2, 1) := by decide +kernel
theorem dX6_layOnes_75 : decode cX6_layOnes 75 = .ok (.aload_n 0, 1) := by decide +kernel
theorem dX6_layOnes_76 : decode cX6_layOnes 76 = .ok (.getfield 38, 3) := by decide +kernel
theorem dX6_layOnes_79 : decode cX6_layOnes 79 = .ok (.iload_n 2, 1) := by decide +kernel
theorem dX6_layOnes_80 : decode cX6_layOnes 80 = .ok (.baload, 1) := by decide +kernel
theorem dX6_layOnes_81 : decode cX6_layOnes 81 = .ok (.ifCond .ne 33, 3) := by decide +kernel
theorem dX6_layOnes_84 : decode cX6_layOnes 84 = .ok (.aload_n 0, 1) := by decide +kernel
theorem dX6_layOnes_85 : decode cX6_layOnes 85 = .ok (.getfield 38, 3) := by decide +kernel
theorem dX6_layOnes_88 : decode cX6_layOnes 88 = .ok (.iconst 4, 1) := by decide +kernel
theorem dX6_layOnes_89 : decode cX6_layOnes 89 = .ok (.iload_n 2, 1) := by decide +kernel
theorem dX6_layOnes_90 : decode cX6_layOnes 90 = .ok (.iconst 4, 1) := by decide +kernel
theorem dX6_layOnes_91 : decode cX6_layOnes 91 = .ok (.idiv, 1) := by decide +kernel
theorem dX6_layOnes_92 : decode cX6_layOnes 92 = .ok (.imul, 1) := by decide +kernel
theorem dX6_layOnes_93 : decode cX6_layOnes 93 = .ok (.iload_n 1, 1) := by decide +kernel
theorem dX6_layOnes_94 : decode cX6_layOnes 94 = .ok (.iadd, 1) := by decide +kernel
theorem dX6_layOnes_95 : decode cX6_layOnes 95 = .ok (.baload, 1) := by decide +kernel
theorem dX6_layOnes_96 : decode cX6_layOnes 96 = .ok (.ifCond .eq 22, 3) := by decide +kernel
theorem dX6_layOnes_99 : decode cX6_layOnes 99 = .ok (.aload_n 0, 1) := by decide +kernel
theorem dX6_layOnes_100 : decode cX6_layOnes 100 = .ok (.getfield 38, 3) := by decide +kernel
theorem dX6_layOnes_103 : decode cX6_layOnes 103 = .ok (.iconst 4, 1) := by decide +kernel
theorem dX6_layOnes_104 : decode cX6_layOnes 104 = .ok (.iload_n 1, 1) := by decide +kernel
theorem dX6_layOnes_105 : decode cX6_layOnes 105 = .ok (.imul, 1) := by decide +kernel
theorem dX6_layOnes_106 : decode cX6_layOnes 106 = .ok (.iload_n 2, 1) := by decide +kernel
theorem dX6_layOnes_107 : decode cX6_layOnes 107 = .ok (.iconst 4, 1) := by decide +kernel
theorem dX6_layOnes_108 : decode cX6_layOnes 108 = .ok (.irem, 1) := by decide +kernel
theorem dX6_layOnes_109 : decode cX6_layOnes 109 = .ok (.iadd, 1) := by decide +kernel
theorem dX6_layOnes_110 : decode cX6_layOnes 110 = .ok (.baload, 1) := by decide +kernel
theorem dX6_layOnes_111 : decode cX6_layOnes 111 = .ok (.ifCond .eq 7, 3) := by decide +kernel
theorem dX6_layOnes_114 : decode cX6_layOnes 114 = .ok (.iconst 1, 1) := by decide +kernel
theorem dX6_layOnes_115 : decode cX6_layOnes 115 = .ok (.goto 4, 3) := by decide +kernel
theorem dX6_layOnes_118 : decode cX6_layOnes 118 = .ok (.iconst 0, 1) := by decide +kernel
theorem dX6_layOnes_119 : decode cX6_layOnes 119 = .ok (.bastore, 1) := by decide +kernel
theorem dX6_layOnes_120 : decode cX6_layOnes 120 = .ok (.iinc 2 1, 3) := by decide +kernel
theorem dX6_layOnes_123 : decode cX6_layOnes 123 = .ok (.goto (-59), 3) := by decide +kernel
theorem dX6_layOnes_126 : decode cX6_layOnes 126 = .ok (.iinc 1 1, 3) := by decide +kernel
theorem dX6_layOnes_129 : decode cX6_layOnes 129 = .ok (.goto (-72), 3) := by decide +kernel
theorem dX6_layOnes_132 : decode cX6_layOnes 132 = .ok (.return_, 1) := by decide +kernel
theorem dX6_conducts_0 : decode cX6_conducts 0 = .ok (.aload_n 0, 1) := by decide +kernel
theorem dX6_conducts_1 : decode cX6_conducts 1 = .ok (.getfield 23, 3) := by decide +kernel
theorem dX6_conducts_4 : decode cX6_conducts 4 = .ok (.iload_n 1, 1) := by decide +kernel
theorem dX6_conducts_5 : decode cX6_conducts 5 = .ok (.iaload, 1) := by decide +kernel
theorem dX6_conducts_6 : decode cX6_conducts 6 = .ok (.istore_n 2, 1) := by decide +kernel
theorem dX6_conducts_7 : decode cX6_conducts 7 = .ok (.aload_n 0, 1) := by decide +kernel
theorem dX6_conducts_8 : decode cX6_conducts 8 = .ok (.getfield 26, 3) := by decide +kernel
theorem dX6_conducts_11 : decode cX6_conducts 11 = .ok (.iload_n 1, 1) := by decide +kernel
theorem dX6_conducts_12 : decode cX6_conducts 12 = .ok (.iaload, 1) := by decide +kernel
theorem dX6_conducts_13 : decode cX6_conducts 13 = .ok (.istore_n 3, 1) := by decide +kernel
theorem dX6_conducts_14 : decode cX6_conducts 14 = .ok (.aload_n 0, 1) := by decide +kernel
theorem dX6_conducts_15 : decode cX6_conducts 15 = .ok (.getfield 7, 3) := by decide +kernel
theorem dX6_conducts_18 : decode cX6_conducts 18 = .ok (.bipush 25, 2) := by decide +kernel
theorem dX6_conducts_20 : decode cX6_conducts 20 = .ok (.iload_n 2, 1) := by decide +kernel
theorem dX6_conducts_21 : decode cX6_conducts 21 = .ok (.iadd, 1) := by decide +kernel
theorem dX6_conducts_22 : decode cX6_conducts 22 = .ok (.iaload, 1) := by decide +kernel
theorem dX6_conducts_23 : decode cX6_conducts 23 = .ok (.ifCond .ne 46, 3) := by decide +kernel
theorem dX6_conducts_26 : decode cX6_conducts 26 = .ok (.aload_n 0, 1) := by decide +kernel
theorem dX6_conducts_27 : decode cX6_conducts 27 = .ok (.getfield 7, 3) := by decide +kernel
theorem dX6_conducts_30 : decode cX6_conducts 30 = .ok (.bipush 25, 2) := by decide +kernel
theorem dX6_conducts_32 : decode cX6_conducts 32 = .ok (.iload_n 3, 1) := by decide +kernel
theorem dX6_conducts_33 : decode cX6_conducts 33 = .ok (.iadd, 1) := by decide +kernel
theorem dX6_conducts_34 : decode cX6_conducts 34 = .ok (.iaload, 1) := by decide +kernel
theorem dX6_conducts_35 : decode cX6_conducts 35 = .ok (.ifCond .ne 34, 3) := by decide +kernel
theorem dX6_conducts_38 : decode cX6_conducts 38 = .ok (.aload_n 0, 1) := by decide +kernel
theorem dX6_conducts_39 : decode cX6_conducts 39 = .ok (.getfield 38, 3) := by decide +kernel
theorem dX6_conducts_42 : decode cX6_conducts 42 = .ok (.iconst 4, 1) := by decide +kernel
theorem dX6_conducts_43 : decode cX6_conducts 43 = .ok (.aload_n 0, 1) := by decide +kernel
theorem dX6_conducts_44 : decode cX6_conducts 44 = .ok (.getfield 7, 3) := by decide +kernel
theorem dX6_conducts_47 : decode cX6_conducts 47 = .ok (.iconst 1, 1) := by decide +kernel
theorem dX6_conducts_48 : decode cX6_conducts 48 = .ok (.iload_n 2, 1) := by decide +kernel
theorem dX6_conducts_49 : decode cX6_conducts 49 = .ok (.iadd, 1) := by decide +kernel
theorem dX6_conducts_50 : decode cX6_conducts 50 = .ok (.iaload, 1) := by decide +kernel
theorem dX6_conducts_51 : decode cX6_conducts 51 = .ok (.imul, 1) := by decide +kernel
theorem dX6_conducts_52 : decode cX6_conducts 52 = .ok (.aload_n 0, 1) := by decide +kernel
theorem dX6_conducts_53 : decode cX6_conducts 53 = .ok (.getfield 7, 3) := by decide +kernel
theorem dX6_conducts_56 : decode cX6_conducts 56 = .ok (.iconst 1, 1) := by decide +kernel
theorem dX6_conducts_57 : decode cX6_conducts 57 = .ok (.iload_n 3, 1) := by decide +kernel
theorem dX6_conducts_58 : decode cX6_conducts 58 = .ok (.iadd, 1) := by decide +kernel
theorem dX6_conducts_59 : decode cX6_conducts 59 = .ok (.iaload, 1) := by decide +kernel
theorem dX6_conducts_60 : decode cX6_conducts 60 = .ok (.iadd, 1) := by decide +kernel
theorem dX6_conducts_61 : decode cX6_conducts 61 = .ok (.baload, 1) := by decide +kernel
theorem dX6_conducts_62 : decode cX6_conducts 62 = .ok (.ifCond .eq 7, 3) := by decide +kernel
theorem dX6_conducts_65 : decode cX6_conducts 65 = .ok (.iconst 1, 1) := by decide +kernel
theorem dX6_conducts_66 : decode cX6_conducts 66 = .ok (.goto 4, 3) := by decide +kernel
theorem dX6_conducts_69 : decode cX6_conducts 69 = .ok (.iconst 0, 1) := by decide +kernel
theorem dX6_conducts_70 : decode cX6_conducts 70 = .ok (.ireturn, 1) := by decide +kernel
theorem dX6_seen_0 : decode cX6_seen 0 = .ok (.aload_n 0, 1) := by decide +kernel
theorem dX6_seen_1 : decode cX6_seen 1 = .ok (.invokevirtual 101, 3) := by decide +kernel
theorem dX6_seen_4 : decode cX6_seen 4 = .ok (.iconst 0, 1) := by decide +kernel
theorem dX6_seen_5 : decode cX6_seen 5 = .ok (.istore_n 1, 1) := by decide +kernel
theorem dX6_seen_6 : decode cX6_seen 6 = .ok (.iconst 0, 1) := by decide +kernel
theorem dX6_seen_7 : decode cX6_seen 7 = .ok (.istore_n 2, 1) := by decide +kernel
theorem dX6_seen_8 : decode cX6_seen 8 = .ok (.iload_n 2, 1) := by decide +kernel
theorem dX6_seen_9 : decode cX6_seen 9 = .ok (.aload_n 0, 1) := by decide +kernel
theorem dX6_seen_10 : decode cX6_seen 10 = .ok (.getfield 72, 3) := by decide +kernel
theorem dX6_seen_13 : decode cX6_seen 13 = .ok (.if_icmp .ge 33, 3) := by decide +kernel
theorem dX6_seen_16 : decode cX6_seen 16 = .ok (.iload_n 1, 1) := by decide +kernel
theorem dX6_seen_17 : decode cX6_seen 17 = .ok (.aload_n 0, 1) := by decide +kernel
theorem dX6_seen_18 : decode cX6_seen 18 = .ok (.iload_n 2, 1) := by decide +kernel
theorem dX6_seen_19 : decode cX6_seen 19 = .ok (.invokevirtual 104, 3) := by decide +kernel
theorem dX6_seen_22 : decode cX6_seen 22 = .ok (.aload_n 0, 1) := by decide +kernel
theorem dX6_seen_23 : decode cX6_seen 23 = .ok (.getfield 29, 3) := by decide +kernel
theorem dX6_seen_26 : decode cX6_seen 26 = .ok (.iload_n 2, 1) := by decide +kernel
theorem dX6_seen_27 : decode cX6_seen 27 = .ok (.baload, 1) := by decide +kernel
theorem dX6_seen_28 : decode cX6_seen 28 = .ok (.if_icmp .ne 9, 3) := by decide +kernel
theorem dX6_seen_31 : decode cX6_seen 31 = .ok (.iconst 1, 1) := by decide +kernel
theorem dX6_seen_32 : decode cX6_seen 32 = .ok (.iload_n 2, 1) := by decide +kernel
theorem dX6_seen_33 : decode cX6_seen 33 = .ok (.ishl, 1) := by decide +kernel
theorem dX6_seen_34 : decode cX6_seen 34 = .ok (.goto 4, 3) := by decide +kernel
theorem dX6_seen_37 : decode cX6_seen 37 = .ok (.iconst 0, 1) := by decide +kernel
theorem dX6_seen_38 : decode cX6_seen 38 = .ok (.ior, 1) := by decide +kernel
theorem dX6_seen_39 : decode cX6_seen 39 = .ok (.istore_n 1, 1) := by decide +kernel
theorem dX6_seen_40 : decode cX6_seen 40 = .ok (.iinc 2 1, 3) := by decide +kernel
theorem dX6_seen_43 : decode cX6_seen 43 = .ok (.goto (-35), 3) := by decide +kernel
theorem dX6_seen_46 : decode cX6_seen 46 = .ok (.iload_n 1, 1) := by decide +kernel
theorem dX6_seen_47 : decode cX6_seen 47 = .ok (.ireturn, 1) := by decide +kernel
theorem dX6_attempt_0 : decode cX6_attempt 0 = .ok (.aload_n 0, 1) := by decide +kernel
theorem dX6_attempt_1 : decode cX6_attempt 1 = .ok (.invokevirtual 107, 3) := by decide +kernel
theorem dX6_attempt_4 : decode cX6_attempt 4 = .ok (.aload_n 0, 1) := by decide +kernel
theorem dX6_attempt_5 : decode cX6_attempt 5 = .ok (.iload_n 1, 1) := by decide +kernel
theorem dX6_attempt_6 : decode cX6_attempt 6 = .ok (.invokevirtual 110, 3) := by decide +kernel
theorem dX6_attempt_9 : decode cX6_attempt 9 = .ok (.ifCond .ne 5, 3) := by decide +kernel
theorem dX6_attempt_12 : decode cX6_attempt 12 = .ok (.iconst (-1), 1) := by decide +kernel
theorem dX6_attempt_13 : decode cX6_attempt 13 = .ok (.ireturn, 1) := by decide +kernel
theorem dX6_attempt_14 : decode cX6_attempt 14 = .ok (.aload_n 0, 1) := by decide +kernel
theorem dX6_attempt_15 : decode cX6_attempt 15 = .ok (.invokevirtual 113, 3) := by decide +kernel
theorem dX6_attempt_18 : decode cX6_attempt 18 = .ok (.istore_n 3, 1) := by decide +kernel
theorem dX6_attempt_19 : decode cX6_attempt 19 = .ok (.iload_n 2, 1) := by decide +kernel
theorem dX6_attempt_20 : decode cX6_attempt 20 = .ok (.tableswitch 85 0 4 #[36, 43, 50, 65, 79], 36) := by decide +kernel
theorem dX6_attempt_56 : decode cX6_attempt 56 = .ok (.aload_n 0, 1) := by decide +kernel
theorem dX6_attempt_57 : decode cX6_attempt 57 = .ok (.getfield 23, 3) := by decide +kernel
theorem dX6_attempt_60 : decode cX6_attempt 60 = .ok (.iload_n 1, 1) := by decide +kernel
theorem dX6_attempt_61 : decode cX6_attempt 61 = .ok (.iaload, 1) := by decide +kernel
theorem dX6_attempt_62 : decode cX6_attempt 62 = .ok (.ireturn, 1) := by decide +kernel
theorem dX6_attempt_63 : decode cX6_attempt 63 = .ok (.aload_n 0, 1) := by decide +kernel
theorem dX6_attempt_64 : decode cX6_attempt 64 = .ok (.getfield 26, 3) := by decide +kernel
theorem dX6_attempt_67 : decode cX6_attempt 67 = .ok (.iload_n 1, 1) := by decide +kernel
theorem dX6_attempt_68 : decode cX6_attempt 68 = .ok (.iaload, 1) := by decide +kernel
theorem dX6_attempt_69 : decode cX6_attempt 69 = .ok (.ireturn, 1) := by decide +kernel
theorem dX6_attempt_70 : decode cX6_attempt 70 = .ok (.aload_n 0, 1) := by decide +kernel
theorem dX6_attempt_71 : decode cX6_attempt 71 = .ok (.getfield 29, 3) := by decide +kernel
theorem dX6_attempt_74 : decode cX6_attempt 74 = .ok (.iload_n 1, 1) := by decide +kernel
theorem dX6_attempt_75 : decode cX6_attempt 75 = .ok (.baload, 1) := by decide +kernel
theorem dX6_attempt_76 : decode cX6_attempt 76 = .ok (.ifCond .eq 7, 3) := by decide +kernel
theorem dX6_attempt_79 : decode cX6_attempt 79 = .ok (.iconst 1, 1) := by decide +kernel
theorem dX6_attempt_80 : decode cX6_attempt 80 = .ok (.goto 4, 3) := by decide +kernel
theorem dX6_attempt_83 : decode cX6_attempt 83 = .ok (.iconst 0, 1) := by decide +kernel
theorem dX6_attempt_84 : decode cX6_attempt 84 = .ok (.ireturn, 1) := by decide +kernel
theorem dX6_attempt_85 : decode cX6_attempt 85 = .ok (.aload_n 0, 1) := by decide +kernel
theorem dX6_attempt_86 : decode cX6_attempt 86 = .ok (.iload_n 1, 1) := by decide +kernel
theorem dX6_attempt_87 : decode cX6_attempt 87 = .ok (.invokevirtual 104, 3) := by decide +kernel
theorem dX6_attempt_90 : decode cX6_attempt 90 = .ok (.ifCond .eq 7, 3) := by decide +kernel
theorem dX6_attempt_93 : decode cX6_attempt 93 = .ok (.iconst 1, 1) := by decide +kernel
theorem dX6_attempt_94 : decode cX6_attempt 94 = .ok (.goto 4, 3) := by decide +kernel
theorem dX6_attempt_97 : decode cX6_attempt 97 = .ok (.iconst 0, 1) := by decide +kernel
theorem dX6_attempt_98 : decode cX6_attempt 98 = .ok (.ireturn, 1) := by decide +kernel
theorem dX6_attempt_99 : decode cX6_attempt 99 = .ok (.iload_n 3, 1) := by decide +kernel
theorem dX6_attempt_100 : decode cX6_attempt 100 = .ok (.iload_n 1, 1) := by decide +kernel
theorem dX6_attempt_101 : decode cX6_attempt 101 = .ok (.ishr, 1) := by decide +kernel
theorem dX6_attempt_102 : decode cX6_attempt 102 = .ok (.iconst 1, 1) := by decide +kernel
theorem dX6_attempt_103 : decode cX6_attempt 103 = .ok (.iand, 1) := by decide +kernel
theorem dX6_attempt_104 : decode cX6_attempt 104 = .ok (.ireturn, 1) := by decide +kernel
theorem dX6_attempt_105 : decode cX6_attempt 105 = .ok (.bipush (-2), 2) := by decide +kernel
theorem dX6_attempt_107 : decode cX6_attempt 107 = .ok (.ireturn, 1) := by decide +kernel
theorem dX6_size_0 : decode cX6_size 0 = .ok (.iload_n 0, 1) := by decide +kernel
theorem dX6_size_1 : decode cX6_size 1 = .ok (.ifCond .ge 8, 3) := by decide +kernel
theorem dX6_size_4 : decode cX6_size 4 = .ok (.iload_n 0, 1) := by decide +kernel
theorem dX6_size_5 : decode cX6_size 5 = .ok (.ineg, 1) := by decide +kernel
theorem dX6_size_6 : decode cX6_size 6 = .ok (.goto 4, 3) := by decide +kernel
theorem dX6_size_9 : decode cX6_size 9 = .ok (.iload_n 0, 1) := by decide +kernel
theorem dX6_size_10 : decode cX6_size 10 = .ok (.ireturn, 1) := by decide +kernel
theorem dX6_greater_0 : decode cX6_greater 0 = .ok (.iload_n 0, 1) := by decide +kernel
theorem dX6_greater_1 : decode cX6_greater 1 = .ok (.iload_n 1, 1) := by decide +kernel
theorem dX6_greater_2 : decode cX6_greater 2 = .ok (.if_icmp .le 7, 3) := by decide +kernel
theorem dX6_greater_5 : decode cX6_greater 5 = .ok (.iload_n 0, 1) := by decide +kernel
theorem dX6_greater_6 : decode cX6_greater 6 = .ok (.goto 4, 3) := by decide +kernel
theorem dX6_greater_9 : decode cX6_greater 9 = .ok (.iload_n 1, 1) := by decide +kernel
theorem dX6_greater_10 : decode cX6_greater 10 = .ok (.ireturn, 1) := by decide +kernel
theorem dX6_timeOf_0 : decode cX6_timeOf 0 = .ok (.iload_n 1, 1) := by decide +kernel
theorem dX6_timeOf_1 : decode cX6_timeOf 1 = .ok (.ifCond .ge 7, 3) := by decide +kernel
theorem dX6_timeOf_4 : decode cX6_timeOf 4 = .ok (.iconst 0, 1) := by decide +kernel
theorem dX6_timeOf_5 : decode cX6_timeOf 5 = .ok (.goto 17, 3) := by decide +kernel
theorem dX6_timeOf_8 : decode cX6_timeOf 8 = .ok (.aload_n 0, 1) := by decide +kernel
theorem dX6_timeOf_9 : decode cX6_timeOf 9 = .ok (.getfield 7, 3) := by decide +kernel
theorem dX6_timeOf_12 : decode cX6_timeOf 12 = .ok (.bipush 9, 2) := by decide +kernel
theorem dX6_timeOf_14 : decode cX6_timeOf 14 = .ok (.aload_n 0, 1) := by decide +kernel
theorem dX6_timeOf_15 : decode cX6_timeOf 15 = .ok (.getfield 23, 3) := by decide +kernel
theorem dX6_timeOf_18 : decode cX6_timeOf 18 = .ok (.iload_n 1, 1) := by decide +kernel
theorem dX6_timeOf_19 : decode cX6_timeOf 19 = .ok (.iaload, 1) := by decide +kernel
theorem dX6_timeOf_20 : decode cX6_timeOf 20 = .ok (.iadd, 1) := by decide +kernel
theorem dX6_timeOf_21 : decode cX6_timeOf 21 = .ok (.iaload, 1) := by decide +kernel
theorem dX6_timeOf_22 : decode cX6_timeOf 22 = .ok (.istore_n 3, 1) := by decide +kernel
theorem dX6_timeOf_23 : decode cX6_timeOf 23 = .ok (.iload_n 1, 1) := by decide +kernel
theorem dX6_timeOf_24 : decode cX6_timeOf 24 = .ok (.ifCond .ge 7, 3) := by decide +kernel
theorem dX6_timeOf_27 : decode cX6_timeOf 27 = .ok (.iconst 0, 1) := by decide +kernel
theorem dX6_timeOf_28 : decode cX6_timeOf 28 = .ok (.goto 17, 3) := by decide +kernel
theorem dX6_timeOf_31 : decode cX6_timeOf 31 = .ok (.aload_n 0, 1) := by decide +kernel
theorem dX6_timeOf_32 : decode cX6_timeOf 32 = .ok (.getfield 7, 3) := by decide +kernel
theorem dX6_timeOf_35 : decode cX6_timeOf 35 = .ok (.bipush 17, 2) := by decide +kernel
theorem dX6_timeOf_37 : decode cX6_timeOf 37 = .ok (.aload_n 0, 1) := by decide +kernel
theorem dX6_timeOf_38 : decode cX6_timeOf 38 = .ok (.getfield 23, 3) := by decide +kernel
theorem dX6_timeOf_41 : decode cX6_timeOf 41 = .ok (.iload_n 1, 1) := by decide +kernel
theorem dX6_timeOf_42 : decode cX6_timeOf 42 = .ok (.iaload, 1) := by decide +kernel
theorem dX6_timeOf_43 : decode cX6_timeOf 43 = .ok (.iadd, 1) := by decide +kernel
theorem dX6_timeOf_44 : decode cX6_timeOf 44 = .ok (.iaload, 1) := by decide +kernel
theorem dX6_timeOf_45 : decode cX6_timeOf 45 = .ok (.istore 4, 2) := by decide +kernel
theorem dX6_timeOf_47 : decode cX6_timeOf 47 = .ok (.iload_n 1, 1) := by decide +kernel
theorem dX6_timeOf_48 : decode cX6_timeOf 48 = .ok (.ifCond .ge 8, 3) := by decide +kernel
theorem dX6_timeOf_51 : decode cX6_timeOf 51 = .ok (.bipush 20, 2) := by decide +kernel
theorem dX6_timeOf_53 : decode cX6_timeOf 53 = .ok (.goto 17, 3) := by decide +kernel
theorem dX6_timeOf_56 : decode cX6_timeOf 56 = .ok (.aload_n 0, 1) := by decide +kernel
theorem dX6_timeOf_57 : decode cX6_timeOf 57 = .ok (.getfield 7, 3) := by decide +kernel
theorem dX6_timeOf_60 : decode cX6_timeOf 60 = .ok (.bipush 9, 2) := by decide +kernel
theorem dX6_timeOf_62 : decode cX6_timeOf 62 = .ok (.aload_n 0, 1) := by decide +kernel
theorem dX6_timeOf_63 : decode cX6_timeOf 63 = .ok (.getfield 26, 3) := by decide +kernel
theorem dX6_timeOf_66 : decode cX6_timeOf 66 = .ok (.iload_n 1, 1) := by decide +kernel
theorem dX6_timeOf_67 : decode cX6_timeOf 67 = .ok (.iaload, 1) := by decide +kernel
theorem dX6_timeOf_68 : decode cX6_timeOf 68 = .ok (.iadd, 1) := by decide +kernel
theorem dX6_timeOf_69 : decode cX6_timeOf 69 = .ok (.iaload, 1) := by decide +kernel
theorem dX6_timeOf_70 : decode cX6_timeOf 70 = .ok (.istore 5, 2) := by decide +kernel
theorem dX6_timeOf_72 : decode cX6_timeOf 72 = .ok (.iload_n 1, 1) := by decide +kernel
theorem dX6_timeOf_73 : decode cX6_timeOf 73 = .ok (.ifCond .ge 7, 3) := by decide +kernel
theorem dX6_timeOf_76 : decode cX6_timeOf 76 = .ok (.iconst 0, 1) := by decide +kernel
theorem dX6_timeOf_77 : decode cX6_timeOf 77 = .ok (.goto 17, 3) := by decide +kernel
theorem dX6_timeOf_80 : decode cX6_timeOf 80 = .ok (.aload_n 0, 1) := by decide +kernel
theorem dX6_timeOf_81 : decode cX6_timeOf 81 = .ok (.getfield 7, 3) := by decide +kernel
theorem dX6_timeOf_84 : decode cX6_timeOf 84 = .ok (.bipush 17, 2) := by decide +kernel
theorem dX6_timeOf_86 : decode cX6_timeOf 86 = .ok (.aload_n 0, 1) := by decide +kernel
theorem dX6_timeOf_87 : decode cX6_timeOf 87 = .ok (.getfield 26, 3) := by decide +kernel
theorem dX6_timeOf_90 : decode cX6_timeOf 90 = .ok (.iload_n 1, 1) := by decide +kernel
theorem dX6_timeOf_91 : decode cX6_timeOf 91 = .ok (.iaload, 1) := by decide +kernel
theorem dX6_timeOf_92 : decode cX6_timeOf 92 = .ok (.iadd, 1) := by decide +kernel
theorem dX6_timeOf_93 : decode cX6_timeOf 93 = .ok (.iaload, 1) := by decide +kernel
theorem dX6_timeOf_94 : decode cX6_timeOf 94 = .ok (.istore 6, 2) := by decide +kernel
theorem dX6_timeOf_96 : decode cX6_timeOf 96 = .ok (.aload_n 0, 1) := by decide +kernel
theorem dX6_timeOf_97 : decode cX6_timeOf 97 = .ok (.getfield 7, 3) := by decide +kernel
theorem dX6_timeOf_100 : decode cX6_timeOf 100 = .ok (.bipush 9, 2) := by decide +kernel
theorem dX6_timeOf_102 : decode cX6_timeOf 102 = .ok (.aload_n 0, 1) := by decide +kernel
theorem dX6_timeOf_103 : decode cX6_timeOf 103 = .ok (.getfield 23, 3) := by decide +kernel
theorem dX6_timeOf_106 : decode cX6_timeOf 106 = .ok (.iload_n 2, 1) := by decide +kernel
theorem dX6_timeOf_107 : decode cX6_timeOf 107 = .ok (.iaload, 1) := by decide +kernel
theorem dX6_timeOf_108 : decode cX6_timeOf 108 = .ok (.iadd, 1) := by decide +kernel
theorem dX6_timeOf_109 : decode cX6_timeOf 109 = .ok (.iaload, 1) := by decide +kernel
theorem dX6_timeOf_110 : decode cX6_timeOf 110 = .ok (.iload_n 3, 1) := by decide +kernel
theorem dX6_timeOf_111 : decode cX6_timeOf 111 = .ok (.isub, 1) := by decide +kernel
theorem dX6_timeOf_112 : decode cX6_timeOf 112 = .ok (.invokestatic 117, 3) := by decide +kernel
theorem dX6_timeOf_115 : decode cX6_timeOf 115 = .ok (.aload_n 0, 1) := by decide +kernel
theorem dX6_timeOf_116 : decode cX6_timeOf 116 = .ok (.getfield 7, 3) := by decide +kernel
theorem dX6_timeOf_119 : decode cX6_timeOf 119 = .ok (.bipush 17, 2) := by decide +kernel
theorem dX6_timeOf_121 : decode cX6_timeOf 121 = .ok (.aload_n 0, 1) := by decide +kernel
theorem dX6_timeOf_122 : decode cX6_timeOf 122 = .ok (.getfield 23, 3) := by decide +kernel
theorem dX6_timeOf_125 : decode cX6_timeOf 125 = .ok (.iload_n 2, 1) := by decide +kernel
theorem dX6_timeOf_126 : decode cX6_timeOf 126 = .ok (.iaload, 1) := by decide +kernel
theorem dX6_timeOf_127 : decode cX6_timeOf 127 = .ok (.iadd, 1) := by decide +kernel
theorem dX6_timeOf_128 : decode cX6_timeOf 128 = .ok (.iaload, 1) := by decide +kernel
theorem dX6_timeOf_129 : decode cX6_timeOf 129 = .ok (.iload 4, 2) := by decide +kernel
theorem dX6_timeOf_131 : decode cX6_timeOf 131 = .ok (.isub, 1) := by decide +kernel
theorem dX6_timeOf_132 : decode cX6_timeOf 132 = .ok (.invokestatic 117, 3) := by decide +kernel
theorem dX6_timeOf_135 : decode cX6_timeOf 135 = .ok (.invokestatic 120, 3) := by decide +kernel
theorem dX6_timeOf_138 : decode cX6_timeOf 138 = .ok (.istore 7, 2) := by decide +kernel
theorem dX6_timeOf_140 : decode cX6_timeOf 140 = .ok (.aload_n 0, 1) := by decide +kernel
theorem dX6_timeOf_141 : decode cX6_timeOf 141 = .ok (.getfield 7, 3) := by decide +kernel
theorem dX6_timeOf_144 : decode cX6_timeOf 144 = .ok (.bipush 9, 2) := by decide +kernel
theorem dX6_timeOf_146 : decode cX6_timeOf 146 = .ok (.aload_n 0, 1) := by decide +kernel
theorem dX6_timeOf_147 : decode cX6_timeOf 147 = .ok (.getfield 26, 3) := by decide +kernel
theorem dX6_timeOf_150 : decode cX6_timeOf 150 = .ok (.iload_n 2, 1) := by decide +kernel
theorem dX6_timeOf_151 : decode cX6_timeOf 151 = .ok (.iaload, 1) := by decide +kernel
theorem dX6_timeOf_152 : decode cX6_timeOf 152 = .ok (.iadd, 1) := by decide +kernel
theorem dX6_timeOf_153 : decode cX6_timeOf 153 = .ok (.iaload, 1) := by decide +kernel
theorem dX6_timeOf_154 : decode cX6_timeOf 154 = .ok (.iload 5, 2) := by decide +kernel
theorem dX6_timeOf_156 : decode cX6_timeOf 156 = .ok (.isub, 1) := by decide +kernel
theorem dX6_timeOf_157 : decode cX6_timeOf 157 = .ok (.invokestatic 117, 3) := by decide +kernel
theorem dX6_timeOf_160 : decode cX6_timeOf 160 = .ok (.aload_n 0, 1) := by decide +kernel
theorem dX6_timeOf_161 : decode cX6_timeOf 161 = .ok (.getfield 7, 3) := by decide +kernel
theorem dX6_timeOf_164 : decode cX6_timeOf 164 = .ok (.bipush 17, 2) := by decide +kernel
theorem dX6_timeOf_166 : decode cX6_timeOf 166 = .ok (.aload_n 0, 1) := by decide +kernel
theorem dX6_timeOf_167 : decode cX6_timeOf 167 = .ok (.getfield 26, 3) := by decide +kernel
theorem dX6_timeOf_170 : decode cX6_timeOf 170 = .ok (.iload_n 2, 1) := by decide +kernel
theorem dX6_timeOf_171 : decode cX6_timeOf 171 = .ok (.iaload, 1) := by decide +kernel
theorem dX6_timeOf_172 : decode cX6_timeOf 172 = .ok (.iadd, 1) := by decide +kernel
theorem dX6_timeOf_173 : decode cX6_timeOf 173 = .ok (.iaload, 1) := by decide +kernel
theorem dX6_timeOf_174 : decode cX6_timeOf 174 = .ok (.iload 6, 2) := by decide +kernel
theorem dX6_timeOf_176 : decode cX6_timeOf 176 = .ok (.isub, 1) := by decide +kernel
theorem dX6_timeOf_177 : decode cX6_timeOf 177 = .ok (.invokestatic 117, 3) := by decide +kernel
theorem dX6_timeOf_180 : decode cX6_timeOf 180 = .ok (.invokestatic 120, 3) := by decide +kernel
theorem dX6_timeOf_183 : decode cX6_timeOf 183 = .ok (.istore 8, 2) := by decide +kernel
theorem dX6_timeOf_185 : decode cX6_timeOf 185 = .ok (.iload 7, 2) := by decide +kernel
theorem dX6_timeOf_187 : decode cX6_timeOf 187 = .ok (.iload 8, 2) := by decide +kernel
theorem dX6_timeOf_189 : decode cX6_timeOf 189 = .ok (.invokestatic 120, 3) := by decide +kernel
theorem dX6_timeOf_192 : decode cX6_timeOf 192 = .ok (.ireturn, 1) := by decide +kernel
theorem dX6_time_0 : decode cX6_time 0 = .ok (.aload_n 0, 1) := by decide +kernel
theorem dX6_time_1 : decode cX6_time 1 = .ok (.invokevirtual 107, 3) := by decide +kernel
theorem dX6_time_4 : decode cX6_time 4 = .ok (.iload_n 1, 1) := by decide +kernel
theorem dX6_time_5 : decode cX6_time 5 = .ok (.iconst (-1), 1) := by decide +kernel
theorem dX6_time_6 : decode cX6_time 6 = .ok (.if_icmp .eq 11, 3) := by decide +kernel
theorem dX6_time_9 : decode cX6_time 9 = .ok (.aload_n 0, 1) := by decide +kernel
theorem dX6_time_10 : decode cX6_time 10 = .ok (.iload_n 1, 1) := by decide +kernel
theorem dX6_time_11 : decode cX6_time 11 = .ok (.invokevirtual 110, 3) := by decide +kernel
theorem dX6_time_14 : decode cX6_time 14 = .ok (.ifCond .eq 11, 3) := by decide +kernel
theorem dX6_time_17 : decode cX6_time 17 = .ok (.aload_n 0, 1) := by decide +kernel
theorem dX6_time_18 : decode cX6_time 18 = .ok (.iload_n 2, 1) := by decide +kernel
theorem dX6_time_19 : decode cX6_time 19 = .ok (.invokevirtual 110, 3) := by decide +kernel
theorem dX6_time_22 : decode cX6_time 22 = .ok (.ifCond .ne 5, 3) := by decide +kernel
theorem dX6_time_25 : decode cX6_time 25 = .ok (.iconst (-1), 1) := by decide +kernel
theorem dX6_time_26 : decode cX6_time 26 = .ok (.ireturn, 1) := by decide +kernel
theorem dX6_time_27 : decode cX6_time 27 = .ok (.aload_n 0, 1) := by decide +kernel
theorem dX6_time_28 : decode cX6_time 28 = .ok (.iload_n 1, 1) := by decide +kernel
theorem dX6_time_29 : decode cX6_time 29 = .ok (.iload_n 2, 1) := by decide +kernel
theorem dX6_time_30 : decode cX6_time 30 = .ok (.invokevirtual 123, 3) := by decide +kernel
theorem dX6_time_33 : decode cX6_time 33 = .ok (.ireturn, 1) := by decide +kernel
theorem dX6_say_0 : decode cX6_say 0 = .ok (.iload_n 1, 1) := by decide +kernel
theorem dX6_say_1 : decode cX6_say 1 = .ok (.bipush 33, 2) := by decide +kernel
theorem dX6_say_3 : decode cX6_say 3 = .ok (.bipush 126, 2) := by decide +kernel
theorem dX6_say_5 : decode cX6_say 5 = .ok (.invokestatic 53, 3) := by decide +kernel
theorem dX6_say_8 : decode cX6_say 8 = .ok (.ifCond .ne 6, 3) := by decide +kernel
theorem dX6_say_11 : decode cX6_say 11 = .ok (.bipush (-2), 2) := by decide +kernel
theorem dX6_say_13 : decode cX6_say 13 = .ok (.ireturn, 1) := by decide +kernel
theorem dX6_say_14 : decode cX6_say 14 = .ok (.aload_n 0, 1) := by decide +kernel
theorem dX6_say_15 : decode cX6_say 15 = .ok (.getfield 126, 3) := by decide +kernel
theorem dX6_say_18 : decode cX6_say 18 = .ok (.bipush 24, 2) := by decide +kernel
theorem dX6_say_20 : decode cX6_say 20 = .ok (.if_icmp .ne 6, 3) := by decide +kernel
theorem dX6_say_23 : decode cX6_say 23 = .ok (.bipush (-4), 2) := by decide +kernel
theorem dX6_say_25 : decode cX6_say 25 = .ok (.ireturn, 1) := by decide +kernel
theorem dX6_say_26 : decode cX6_say 26 = .ok (.aload_n 0, 1) := by decide +kernel
theorem dX6_say_27 : decode cX6_say 27 = .ok (.getfield 20, 3) := by decide +kernel
theorem dX6_say_30 : decode cX6_say 30 = .ok (.aload_n 0, 1) := by decide +kernel
theorem dX6_say_31 : decode cX6_say 31 = .ok (.getfield 126, 3) := by decide +kernel
theorem dX6_say_34 : decode cX6_say 34 = .ok (.iload_n 1, 1) := by decide +kernel
theorem dX6_say_35 : decode cX6_say 35 = .ok (.iastore, 1) := by decide +kernel
theorem dX6_say_36 : decode cX6_say 36 = .ok (.aload_n 0, 1) := by decide +kernel
theorem dX6_say_37 : decode cX6_say 37 = .ok (.dup, 1) := by decide +kernel
theorem dX6_say_38 : decode cX6_say 38 = .ok (.getfield 126, 3) := by decide +kernel
theorem dX6_say_41 : decode cX6_say 41 = .ok (.iconst 1, 1) := by decide +kernel
theorem dX6_say_42 : decode cX6_say 42 = .ok (.iadd, 1) := by decide +kernel
theorem dX6_say_43 : decode cX6_say 43 = .ok (.putfield 126, 3) := by decide +kernel
theorem dX6_say_46 : decode cX6_say 46 = .ok (.aload_n 0, 1) := by decide +kernel
theorem dX6_say_47 : decode cX6_say 47 = .ok (.getfield 126, 3) := by decide +kernel
theorem dX6_say_50 : decode cX6_say 50 = .ok (.ireturn, 1) := by decide +kernel
theorem dX6_wipe_0 : decode cX6_wipe 0 = .ok (.aload_n 0, 1) := by decide +kernel
theorem dX6_wipe_1 : decode cX6_wipe 1 = .ok (.getfield 126, 3) := by decide +kernel
theorem dX6_wipe_4 : decode cX6_wipe 4 = .ok (.istore_n 1, 1) := by decide +kernel
theorem dX6_wipe_5 : decode cX6_wipe 5 = .ok (.aload_n 0, 1) := by decide +kernel
theorem dX6_wipe_6 : decode cX6_wipe 6 = .ok (.iconst 0, 1) := by decide +kernel
theorem dX6_wipe_7 : decode cX6_wipe 7 = .ok (.putfield 126, 3) := by decide +kernel
theorem dX6_wipe_10 : decode cX6_wipe 10 = .ok (.iload_n 1, 1) := by decide +kernel
theorem dX6_wipe_11 : decode cX6_wipe 11 = .ok (.ireturn, 1) := by decide +kernel
theorem dX6_timeOfOrder_0 : decode cX6_timeOfOrder 0 = .ok (.iconst 0, 1) := by decide +kernel
theorem dX6_timeOfOrder_1 : decode cX6_timeOfOrder 1 = .ok (.istore_n 1, 1) := by decide +kernel
theorem dX6_timeOfOrder_2 : decode cX6_timeOfOrder 2 = .ok (.iconst 0, 1) := by decide +kernel
theorem dX6_timeOfOrder_3 : decode cX6_timeOfOrder 3 = .ok (.istore_n 2, 1) := by decide +kernel
theorem dX6_timeOfOrder_4 : decode cX6_timeOfOrder 4 = .ok (.iload_n 2, 1) := by decide +kernel
theorem dX6_timeOfOrder_5 : decode cX6_timeOfOrder 5 = .ok (.aload_n 0, 1) := by decide +kernel
theorem dX6_timeOfOrder_6 : decode cX6_timeOfOrder 6 = .ok (.getfield 72, 3) := by decide +kernel
theorem dX6_timeOfOrder_9 : decode cX6_timeOfOrder 9 = .ok (.if_icmp .ge 38, 3) := by decide +kernel
theorem dX6_timeOfOrder_12 : decode cX6_timeOfOrder 12 = .ok (.iload_n 1, 1) := by decide +kernel
theorem dX6_timeOfOrder_13 : decode cX6_timeOfOrder 13 = .ok (.aload_n 0, 1) := by decide +kernel
theorem dX6_timeOfOrder_14 : decode cX6_timeOfOrder 14 = .ok (.iload_n 2, 1) := by decide +kernel
theorem dX6_timeOfOrder_15 : decode cX6_timeOfOrder 15 = .ok (.ifCond .ne 7, 3) := by decide +kernel
theorem dX6_timeOfOrder_18 : decode cX6_timeOfOrder 18 = .ok (.iconst (-1), 1) := by decide +kernel
theorem dX6_timeOfOrder_19 : decode cX6_timeOfOrder 19 = .ok (.goto 11, 3) := by decide +kernel
theorem dX6_timeOfOrder_22 : decode cX6_timeOfOrder 22 = .ok (.aload_n 0, 1) := by decide +kernel
theorem dX6_timeOfOrder_23 : decode cX6_timeOfOrder 23 = .ok (.getfield 41, 3) := by decide +kernel
theorem dX6_timeOfOrder_26 : decode cX6_timeOfOrder 26 = .ok (.iload_n 2, 1) := by decide +kernel
theorem dX6_timeOfOrder_27 : decode cX6_timeOfOrder 27 = .ok (.iconst 1, 1) := by decide +kernel
theorem dX6_timeOfOrder_28 : decode cX6_timeOfOrder 28 = .ok (.isub, 1) := by decide +kernel
theorem dX6_timeOfOrder_29 : decode cX6_timeOfOrder 29 = .ok (.iaload, 1) := by decide +kernel
theorem dX6_timeOfOrder_30 : decode cX6_timeOfOrder 30 = .ok (.aload_n 0, 1) := by decide +kernel
theorem dX6_timeOfOrder_31 : decode cX6_timeOfOrder 31 = .ok (.getfield 41, 3) := by decide +kernel
theorem dX6_timeOfOrder_34 : decode cX6_timeOfOrder 34 = .ok (.iload_n 2, 1) := by decide +kernel
theorem dX6_timeOfOrder_35 : decode cX6_timeOfOrder 35 = .ok (.iaload, 1) := by decide +kernel
theorem dX6_timeOfOrder_36 : decode cX6_timeOfOrder 36 = .ok (.invokevirtual 123, 3) := by decide +kernel
theorem dX6_timeOfOrder_39 : decode cX6_timeOfOrder 39 = .ok (.iadd, 1) := by decide +kernel
theorem dX6_timeOfOrder_40 : decode cX6_timeOfOrder 40 = .ok (.istore_n 1, 1) := by decide +kernel
theorem dX6_timeOfOrder_41 : decode cX6_timeOfOrder 41 = .ok (.iinc 2 1, 3) := by decide +kernel
theorem dX6_timeOfOrder_44 : decode cX6_timeOfOrder 44 = .ok (.goto (-40), 3) := by decide +kernel
theorem dX6_timeOfOrder_47 : decode cX6_timeOfOrder 47 = .ok (.iload_n 1, 1) := by decide +kernel
theorem dX6_timeOfOrder_48 : decode cX6_timeOfOrder 48 = .ok (.ireturn, 1) := by decide +kernel
theorem dX6_told_0 : decode cX6_told 0 = .ok (.aload_n 0, 1) := by decide +kernel
theorem dX6_told_1 : decode cX6_told 1 = .ok (.invokevirtual 107, 3) := by decide +kernel
theorem dX6_told_4 : decode cX6_told 4 = .ok (.aload_n 0, 1) := by decide +kernel
theorem dX6_told_5 : decode cX6_told 5 = .ok (.getfield 126, 3) := by decide +kernel
theorem dX6_told_8 : decode cX6_told 8 = .ok (.aload_n 0, 1) := by decide +kernel
theorem dX6_told_9 : decode cX6_told 9 = .ok (.getfield 72, 3) := by decide +kernel
