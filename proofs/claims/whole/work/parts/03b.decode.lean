theorem dX4_growTrees_45 : decode cX4_growTrees 45 = .ok (.aload_n 1, 1) := by decide +kernel
theorem dX4_growTrees_46 : decode cX4_growTrees 46 = .ok (.invokevirtual 46, 3) := by decide +kernel
theorem dX4_growTrees_49 : decode cX4_growTrees 49 = .ok (.istore_n 2, 1) := by decide +kernel
theorem dX4_growTrees_50 : decode cX4_growTrees 50 = .ok (.iinc 3 1, 3) := by decide +kernel
theorem dX4_growTrees_53 : decode cX4_growTrees 53 = .ok (.goto (-21), 3) := by decide +kernel
theorem dX4_growTrees_56 : decode cX4_growTrees 56 = .ok (.return_, 1) := by decide +kernel
theorem dX4_joinNextPair_0 : decode cX4_joinNextPair 0 = .ok (.iconst (-1), 1) := by decide +kernel
theorem dX4_joinNextPair_1 : decode cX4_joinNextPair 1 = .ok (.istore_n 2, 1) := by decide +kernel
theorem dX4_joinNextPair_2 : decode cX4_joinNextPair 2 = .ok (.iconst (-1), 1) := by decide +kernel
theorem dX4_joinNextPair_3 : decode cX4_joinNextPair 3 = .ok (.istore_n 3, 1) := by decide +kernel
theorem dX4_joinNextPair_4 : decode cX4_joinNextPair 4 = .ok (.iconst 0, 1) := by decide +kernel
theorem dX4_joinNextPair_5 : decode cX4_joinNextPair 5 = .ok (.istore 4, 2) := by decide +kernel
theorem dX4_joinNextPair_7 : decode cX4_joinNextPair 7 = .ok (.iconst 0, 1) := by decide +kernel
theorem dX4_joinNextPair_8 : decode cX4_joinNextPair 8 = .ok (.istore 5, 2) := by decide +kernel
theorem dX4_joinNextPair_10 : decode cX4_joinNextPair 10 = .ok (.iload 5, 2) := by decide +kernel
theorem dX4_joinNextPair_12 : decode cX4_joinNextPair 12 = .ok (.aload_n 1, 1) := by decide +kernel
theorem dX4_joinNextPair_13 : decode cX4_joinNextPair 13 = .ok (.getfield 41, 3) := by decide +kernel
theorem dX4_joinNextPair_16 : decode cX4_joinNextPair 16 = .ok (.if_icmp .ge 95, 3) := by decide +kernel
theorem dX4_joinNextPair_19 : decode cX4_joinNextPair 19 = .ok (.iload 5, 2) := by decide +kernel
theorem dX4_joinNextPair_21 : decode cX4_joinNextPair 21 = .ok (.iconst 1, 1) := by decide +kernel
theorem dX4_joinNextPair_22 : decode cX4_joinNextPair 22 = .ok (.iadd, 1) := by decide +kernel
theorem dX4_joinNextPair_23 : decode cX4_joinNextPair 23 = .ok (.istore 6, 2) := by decide +kernel
theorem dX4_joinNextPair_25 : decode cX4_joinNextPair 25 = .ok (.iload 6, 2) := by decide +kernel
theorem dX4_joinNextPair_27 : decode cX4_joinNextPair 27 = .ok (.aload_n 1, 1) := by decide +kernel
theorem dX4_joinNextPair_28 : decode cX4_joinNextPair 28 = .ok (.getfield 41, 3) := by decide +kernel
theorem dX4_joinNextPair_31 : decode cX4_joinNextPair 31 = .ok (.if_icmp .ge 74, 3) := by decide +kernel
theorem dX4_joinNextPair_34 : decode cX4_joinNextPair 34 = .ok (.aload_n 1, 1) := by decide +kernel
theorem dX4_joinNextPair_35 : decode cX4_joinNextPair 35 = .ok (.getfield 50, 3) := by decide +kernel
theorem dX4_joinNextPair_38 : decode cX4_joinNextPair 38 = .ok (.iload 5, 2) := by decide +kernel
theorem dX4_joinNextPair_40 : decode cX4_joinNextPair 40 = .ok (.iaload, 1) := by decide +kernel
theorem dX4_joinNextPair_41 : decode cX4_joinNextPair 41 = .ok (.aload_n 1, 1) := by decide +kernel
theorem dX4_joinNextPair_42 : decode cX4_joinNextPair 42 = .ok (.getfield 50, 3) := by decide +kernel
theorem dX4_joinNextPair_45 : decode cX4_joinNextPair 45 = .ok (.iload 6, 2) := by decide +kernel
theorem dX4_joinNextPair_47 : decode cX4_joinNextPair 47 = .ok (.iaload, 1) := by decide +kernel
theorem dX4_joinNextPair_48 : decode cX4_joinNextPair 48 = .ok (.if_icmp .ne 51, 3) := by decide +kernel
theorem dX4_joinNextPair_51 : decode cX4_joinNextPair 51 = .ok (.aload_n 0, 1) := by decide +kernel
theorem dX4_joinNextPair_52 : decode cX4_joinNextPair 52 = .ok (.getfield 25, 3) := by decide +kernel
theorem dX4_joinNextPair_55 : decode cX4_joinNextPair 55 = .ok (.iload 5, 2) := by decide +kernel
theorem dX4_joinNextPair_57 : decode cX4_joinNextPair 57 = .ok (.iaload, 1) := by decide +kernel
theorem dX4_joinNextPair_58 : decode cX4_joinNextPair 58 = .ok (.aload_n 0, 1) := by decide +kernel
theorem dX4_joinNextPair_59 : decode cX4_joinNextPair 59 = .ok (.getfield 25, 3) := by decide +kernel
theorem dX4_joinNextPair_62 : decode cX4_joinNextPair 62 = .ok (.iload 6, 2) := by decide +kernel
theorem dX4_joinNextPair_64 : decode cX4_joinNextPair 64 = .ok (.iaload, 1) := by decide +kernel
theorem dX4_joinNextPair_65 : decode cX4_joinNextPair 65 = .ok (.if_icmp .eq 34, 3) := by decide +kernel
theorem dX4_joinNextPair_68 : decode cX4_joinNextPair 68 = .ok (.aload_n 1, 1) := by decide +kernel
theorem dX4_joinNextPair_69 : decode cX4_joinNextPair 69 = .ok (.iload 5, 2) := by decide +kernel
theorem dX4_joinNextPair_71 : decode cX4_joinNextPair 71 = .ok (.iload 6, 2) := by decide +kernel
theorem dX4_joinNextPair_73 : decode cX4_joinNextPair 73 = .ok (.invokevirtual 53, 3) := by decide +kernel
theorem dX4_joinNextPair_76 : decode cX4_joinNextPair 76 = .ok (.istore 7, 2) := by decide +kernel
theorem dX4_joinNextPair_78 : decode cX4_joinNextPair 78 = .ok (.iload_n 2, 1) := by decide +kernel
theorem dX4_joinNextPair_79 : decode cX4_joinNextPair 79 = .ok (.ifCond .lt 10, 3) := by decide +kernel
theorem dX4_joinNextPair_82 : decode cX4_joinNextPair 82 = .ok (.iload 7, 2) := by decide +kernel
theorem dX4_joinNextPair_84 : decode cX4_joinNextPair 84 = .ok (.iload 4, 2) := by decide +kernel
theorem dX4_joinNextPair_86 : decode cX4_joinNextPair 86 = .ok (.if_icmp .ge 13, 3) := by decide +kernel
theorem dX4_joinNextPair_89 : decode cX4_joinNextPair 89 = .ok (.iload 5, 2) := by decide +kernel
theorem dX4_joinNextPair_91 : decode cX4_joinNextPair 91 = .ok (.istore_n 2, 1) := by decide +kernel
theorem dX4_joinNextPair_92 : decode cX4_joinNextPair 92 = .ok (.iload 6, 2) := by decide +kernel
theorem dX4_joinNextPair_94 : decode cX4_joinNextPair 94 = .ok (.istore_n 3, 1) := by decide +kernel
theorem dX4_joinNextPair_95 : decode cX4_joinNextPair 95 = .ok (.iload 7, 2) := by decide +kernel
theorem dX4_joinNextPair_97 : decode cX4_joinNextPair 97 = .ok (.istore 4, 2) := by decide +kernel
theorem dX4_joinNextPair_99 : decode cX4_joinNextPair 99 = .ok (.iinc 6 1, 3) := by decide +kernel
theorem dX4_joinNextPair_102 : decode cX4_joinNextPair 102 = .ok (.goto (-77), 3) := by decide +kernel
theorem dX4_joinNextPair_105 : decode cX4_joinNextPair 105 = .ok (.iinc 5 1, 3) := by decide +kernel
theorem dX4_joinNextPair_108 : decode cX4_joinNextPair 108 = .ok (.goto (-98), 3) := by decide +kernel
theorem dX4_joinNextPair_111 : decode cX4_joinNextPair 111 = .ok (.iload_n 2, 1) := by decide +kernel
theorem dX4_joinNextPair_112 : decode cX4_joinNextPair 112 = .ok (.ifCond .ge 5, 3) := by decide +kernel
theorem dX4_joinNextPair_115 : decode cX4_joinNextPair 115 = .ok (.iconst 0, 1) := by decide +kernel
theorem dX4_joinNextPair_116 : decode cX4_joinNextPair 116 = .ok (.ireturn, 1) := by decide +kernel
theorem dX4_joinNextPair_117 : decode cX4_joinNextPair 117 = .ok (.aload_n 0, 1) := by decide +kernel
theorem dX4_joinNextPair_118 : decode cX4_joinNextPair 118 = .ok (.getfield 28, 3) := by decide +kernel
theorem dX4_joinNextPair_121 : decode cX4_joinNextPair 121 = .ok (.iload_n 2, 1) := by decide +kernel
theorem dX4_joinNextPair_122 : decode cX4_joinNextPair 122 = .ok (.dup2, 1) := by decide +kernel
theorem dX4_joinNextPair_123 : decode cX4_joinNextPair 123 = .ok (.iaload, 1) := by decide +kernel
theorem dX4_joinNextPair_124 : decode cX4_joinNextPair 124 = .ok (.iconst 1, 1) := by decide +kernel
theorem dX4_joinNextPair_125 : decode cX4_joinNextPair 125 = .ok (.iload_n 3, 1) := by decide +kernel
theorem dX4_joinNextPair_126 : decode cX4_joinNextPair 126 = .ok (.ishl, 1) := by decide +kernel
theorem dX4_joinNextPair_127 : decode cX4_joinNextPair 127 = .ok (.ior, 1) := by decide +kernel
theorem dX4_joinNextPair_128 : decode cX4_joinNextPair 128 = .ok (.iastore, 1) := by decide +kernel
theorem dX4_joinNextPair_129 : decode cX4_joinNextPair 129 = .ok (.aload_n 0, 1) := by decide +kernel
theorem dX4_joinNextPair_130 : decode cX4_joinNextPair 130 = .ok (.aload_n 0, 1) := by decide +kernel
theorem dX4_joinNextPair_131 : decode cX4_joinNextPair 131 = .ok (.getfield 25, 3) := by decide +kernel
theorem dX4_joinNextPair_134 : decode cX4_joinNextPair 134 = .ok (.iload_n 2, 1) := by decide +kernel
theorem dX4_joinNextPair_135 : decode cX4_joinNextPair 135 = .ok (.iaload, 1) := by decide +kernel
theorem dX4_joinNextPair_136 : decode cX4_joinNextPair 136 = .ok (.aload_n 0, 1) := by decide +kernel
theorem dX4_joinNextPair_137 : decode cX4_joinNextPair 137 = .ok (.getfield 25, 3) := by decide +kernel
theorem dX4_joinNextPair_140 : decode cX4_joinNextPair 140 = .ok (.iload_n 3, 1) := by decide +kernel
theorem dX4_joinNextPair_141 : decode cX4_joinNextPair 141 = .ok (.iaload, 1) := by decide +kernel
theorem dX4_joinNextPair_142 : decode cX4_joinNextPair 142 = .ok (.invokevirtual 57, 3) := by decide +kernel
theorem dX4_joinNextPair_145 : decode cX4_joinNextPair 145 = .ok (.iconst 1, 1) := by decide +kernel
theorem dX4_joinNextPair_146 : decode cX4_joinNextPair 146 = .ok (.ireturn, 1) := by decide +kernel
theorem dX4_mergeGroups_0 : decode cX4_mergeGroups 0 = .ok (.iconst 0, 1) := by decide +kernel
theorem dX4_mergeGroups_1 : decode cX4_mergeGroups 1 = .ok (.istore_n 3, 1) := by decide +kernel
theorem dX4_mergeGroups_2 : decode cX4_mergeGroups 2 = .ok (.iload_n 3, 1) := by decide +kernel
theorem dX4_mergeGroups_3 : decode cX4_mergeGroups 3 = .ok (.bipush 8, 2) := by decide +kernel
theorem dX4_mergeGroups_5 : decode cX4_mergeGroups 5 = .ok (.if_icmp .ge 26, 3) := by decide +kernel
theorem dX4_mergeGroups_8 : decode cX4_mergeGroups 8 = .ok (.aload_n 0, 1) := by decide +kernel
theorem dX4_mergeGroups_9 : decode cX4_mergeGroups 9 = .ok (.getfield 25, 3) := by decide +kernel
theorem dX4_mergeGroups_12 : decode cX4_mergeGroups 12 = .ok (.iload_n 3, 1) := by decide +kernel
theorem dX4_mergeGroups_13 : decode cX4_mergeGroups 13 = .ok (.iaload, 1) := by decide +kernel
theorem dX4_mergeGroups_14 : decode cX4_mergeGroups 14 = .ok (.iload_n 2, 1) := by decide +kernel
theorem dX4_mergeGroups_15 : decode cX4_mergeGroups 15 = .ok (.if_icmp .ne 10, 3) := by decide +kernel
theorem dX4_mergeGroups_18 : decode cX4_mergeGroups 18 = .ok (.aload_n 0, 1) := by decide +kernel
theorem dX4_mergeGroups_19 : decode cX4_mergeGroups 19 = .ok (.getfield 25, 3) := by decide +kernel
theorem dX4_mergeGroups_22 : decode cX4_mergeGroups 22 = .ok (.iload_n 3, 1) := by decide +kernel
theorem dX4_mergeGroups_23 : decode cX4_mergeGroups 23 = .ok (.iload_n 1, 1) := by decide +kernel
theorem dX4_mergeGroups_24 : decode cX4_mergeGroups 24 = .ok (.iastore, 1) := by decide +kernel
theorem dX4_mergeGroups_25 : decode cX4_mergeGroups 25 = .ok (.iinc 3 1, 3) := by decide +kernel
theorem dX4_mergeGroups_28 : decode cX4_mergeGroups 28 = .ok (.goto (-26), 3) := by decide +kernel
theorem dX4_mergeGroups_31 : decode cX4_mergeGroups 31 = .ok (.return_, 1) := by decide +kernel
theorem dX4_addTrees_0 : decode cX4_addTrees 0 = .ok (.iconst 0, 1) := by decide +kernel
theorem dX4_addTrees_1 : decode cX4_addTrees 1 = .ok (.istore_n 2, 1) := by decide +kernel
theorem dX4_addTrees_2 : decode cX4_addTrees 2 = .ok (.iload_n 2, 1) := by decide +kernel
theorem dX4_addTrees_3 : decode cX4_addTrees 3 = .ok (.iconst 4, 1) := by decide +kernel
theorem dX4_addTrees_4 : decode cX4_addTrees 4 = .ok (.if_icmp .ge 77, 3) := by decide +kernel
theorem dX4_addTrees_7 : decode cX4_addTrees 7 = .ok (.iconst 0, 1) := by decide +kernel
theorem dX4_addTrees_8 : decode cX4_addTrees 8 = .ok (.istore_n 3, 1) := by decide +kernel
theorem dX4_addTrees_9 : decode cX4_addTrees 9 = .ok (.iload_n 3, 1) := by decide +kernel
theorem dX4_addTrees_10 : decode cX4_addTrees 10 = .ok (.aload_n 1, 1) := by decide +kernel
theorem dX4_addTrees_11 : decode cX4_addTrees 11 = .ok (.getfield 41, 3) := by decide +kernel
theorem dX4_addTrees_14 : decode cX4_addTrees 14 = .ok (.if_icmp .ge 61, 3) := by decide +kernel
theorem dX4_addTrees_17 : decode cX4_addTrees 17 = .ok (.iload_n 3, 1) := by decide +kernel
theorem dX4_addTrees_18 : decode cX4_addTrees 18 = .ok (.iconst 1, 1) := by decide +kernel
theorem dX4_addTrees_19 : decode cX4_addTrees 19 = .ok (.iadd, 1) := by decide +kernel
theorem dX4_addTrees_20 : decode cX4_addTrees 20 = .ok (.istore 4, 2) := by decide +kernel
theorem dX4_addTrees_22 : decode cX4_addTrees 22 = .ok (.iload 4, 2) := by decide +kernel
theorem dX4_addTrees_24 : decode cX4_addTrees 24 = .ok (.aload_n 1, 1) := by decide +kernel
theorem dX4_addTrees_25 : decode cX4_addTrees 25 = .ok (.getfield 41, 3) := by decide +kernel
theorem dX4_addTrees_28 : decode cX4_addTrees 28 = .ok (.if_icmp .ge 41, 3) := by decide +kernel
theorem dX4_addTrees_31 : decode cX4_addTrees 31 = .ok (.aload_n 1, 1) := by decide +kernel
theorem dX4_addTrees_32 : decode cX4_addTrees 32 = .ok (.getfield 50, 3) := by decide +kernel
theorem dX4_addTrees_35 : decode cX4_addTrees 35 = .ok (.iload_n 3, 1) := by decide +kernel
theorem dX4_addTrees_36 : decode cX4_addTrees 36 = .ok (.iaload, 1) := by decide +kernel
theorem dX4_addTrees_37 : decode cX4_addTrees 37 = .ok (.iload_n 2, 1) := by decide +kernel
theorem dX4_addTrees_38 : decode cX4_addTrees 38 = .ok (.if_icmp .ne 25, 3) := by decide +kernel
theorem dX4_addTrees_41 : decode cX4_addTrees 41 = .ok (.aload_n 0, 1) := by decide +kernel
theorem dX4_addTrees_42 : decode cX4_addTrees 42 = .ok (.getfield 28, 3) := by decide +kernel
theorem dX4_addTrees_45 : decode cX4_addTrees 45 = .ok (.iload_n 3, 1) := by decide +kernel
theorem dX4_addTrees_46 : decode cX4_addTrees 46 = .ok (.iaload, 1) := by decide +kernel
theorem dX4_addTrees_47 : decode cX4_addTrees 47 = .ok (.iload 4, 2) := by decide +kernel
theorem dX4_addTrees_49 : decode cX4_addTrees 49 = .ok (.invokestatic 61, 3) := by decide +kernel
theorem dX4_addTrees_52 : decode cX4_addTrees 52 = .ok (.ifCond .eq 11, 3) := by decide +kernel
theorem dX4_addTrees_55 : decode cX4_addTrees 55 = .ok (.aload_n 0, 1) := by decide +kernel
theorem dX4_addTrees_56 : decode cX4_addTrees 56 = .ok (.aload_n 1, 1) := by decide +kernel
theorem dX4_addTrees_57 : decode cX4_addTrees 57 = .ok (.iload_n 3, 1) := by decide +kernel
theorem dX4_addTrees_58 : decode cX4_addTrees 58 = .ok (.iload 4, 2) := by decide +kernel
theorem dX4_addTrees_60 : decode cX4_addTrees 60 = .ok (.invokevirtual 65, 3) := by decide +kernel
theorem dX4_addTrees_63 : decode cX4_addTrees 63 = .ok (.iinc 4 1, 3) := by decide +kernel
theorem dX4_addTrees_66 : decode cX4_addTrees 66 = .ok (.goto (-44), 3) := by decide +kernel
theorem dX4_addTrees_69 : decode cX4_addTrees 69 = .ok (.iinc 3 1, 3) := by decide +kernel
theorem dX4_addTrees_72 : decode cX4_addTrees 72 = .ok (.goto (-63), 3) := by decide +kernel
theorem dX4_addTrees_75 : decode cX4_addTrees 75 = .ok (.iinc 2 1, 3) := by decide +kernel
theorem dX4_addTrees_78 : decode cX4_addTrees 78 = .ok (.goto (-76), 3) := by decide +kernel
theorem dX4_addTrees_81 : decode cX4_addTrees 81 = .ok (.return_, 1) := by decide +kernel
theorem dX4_addNeighbours_0 : decode cX4_addNeighbours 0 = .ok (.iconst 0, 1) := by decide +kernel
theorem dX4_addNeighbours_1 : decode cX4_addNeighbours 1 = .ok (.istore_n 2, 1) := by decide +kernel
theorem dX4_addNeighbours_2 : decode cX4_addNeighbours 2 = .ok (.iload_n 2, 1) := by decide +kernel
theorem dX4_addNeighbours_3 : decode cX4_addNeighbours 3 = .ok (.bipush 6, 2) := by decide +kernel
theorem dX4_addNeighbours_5 : decode cX4_addNeighbours 5 = .ok (.if_icmp .ge 24, 3) := by decide +kernel
theorem dX4_addNeighbours_8 : decode cX4_addNeighbours 8 = .ok (.aload_n 0, 1) := by decide +kernel
theorem dX4_addNeighbours_9 : decode cX4_addNeighbours 9 = .ok (.aload_n 1, 1) := by decide +kernel
theorem dX4_addNeighbours_10 : decode cX4_addNeighbours 10 = .ok (.getstatic 69, 3) := by decide +kernel
theorem dX4_addNeighbours_13 : decode cX4_addNeighbours 13 = .ok (.iload_n 2, 1) := by decide +kernel
theorem dX4_addNeighbours_14 : decode cX4_addNeighbours 14 = .ok (.iaload, 1) := by decide +kernel
theorem dX4_addNeighbours_15 : decode cX4_addNeighbours 15 = .ok (.getstatic 72, 3) := by decide +kernel
theorem dX4_addNeighbours_18 : decode cX4_addNeighbours 18 = .ok (.iload_n 2, 1) := by decide +kernel
theorem dX4_addNeighbours_19 : decode cX4_addNeighbours 19 = .ok (.iaload, 1) := by decide +kernel
theorem dX4_addNeighbours_20 : decode cX4_addNeighbours 20 = .ok (.invokevirtual 75, 3) := by decide +kernel
theorem dX4_addNeighbours_23 : decode cX4_addNeighbours 23 = .ok (.iinc 2 1, 3) := by decide +kernel
theorem dX4_addNeighbours_26 : decode cX4_addNeighbours 26 = .ok (.goto (-24), 3) := by decide +kernel
theorem dX4_addNeighbours_29 : decode cX4_addNeighbours 29 = .ok (.return_, 1) := by decide +kernel
theorem dX4_addNearestPair_0 : decode cX4_addNearestPair 0 = .ok (.iconst (-1), 1) := by decide +kernel
theorem dX4_addNearestPair_1 : decode cX4_addNearestPair 1 = .ok (.istore 4, 2) := by decide +kernel
theorem dX4_addNearestPair_3 : decode cX4_addNearestPair 3 = .ok (.iconst (-1), 1) := by decide +kernel
theorem dX4_addNearestPair_4 : decode cX4_addNearestPair 4 = .ok (.istore 5, 2) := by decide +kernel
theorem dX4_addNearestPair_6 : decode cX4_addNearestPair 6 = .ok (.iconst 0, 1) := by decide +kernel
theorem dX4_addNearestPair_7 : decode cX4_addNearestPair 7 = .ok (.istore 6, 2) := by decide +kernel
theorem dX4_addNearestPair_9 : decode cX4_addNearestPair 9 = .ok (.iconst 0, 1) := by decide +kernel
theorem dX4_addNearestPair_10 : decode cX4_addNearestPair 10 = .ok (.istore 7, 2) := by decide +kernel
theorem dX4_addNearestPair_12 : decode cX4_addNearestPair 12 = .ok (.iload 7, 2) := by decide +kernel
theorem dX4_addNearestPair_14 : decode cX4_addNearestPair 14 = .ok (.aload_n 1, 1) := by decide +kernel
theorem dX4_addNearestPair_15 : decode cX4_addNearestPair 15 = .ok (.getfield 41, 3) := by decide +kernel
theorem dX4_addNearestPair_18 : decode cX4_addNearestPair 18 = .ok (.if_icmp .ge 92, 3) := by decide +kernel
theorem dX4_addNearestPair_21 : decode cX4_addNearestPair 21 = .ok (.iconst 0, 1) := by decide +kernel
theorem dX4_addNearestPair_22 : decode cX4_addNearestPair 22 = .ok (.istore 8, 2) := by decide +kernel
theorem dX4_addNearestPair_24 : decode cX4_addNearestPair 24 = .ok (.iload 8, 2) := by decide +kernel
theorem dX4_addNearestPair_26 : decode cX4_addNearestPair 26 = .ok (.aload_n 1, 1) := by decide +kernel
theorem dX4_addNearestPair_27 : decode cX4_addNearestPair 27 = .ok (.getfield 41, 3) := by decide +kernel
theorem dX4_addNearestPair_30 : decode cX4_addNearestPair 30 = .ok (.if_icmp .ge 74, 3) := by decide +kernel
theorem dX4_addNearestPair_33 : decode cX4_addNearestPair 33 = .ok (.aload_n 1, 1) := by decide +kernel
theorem dX4_addNearestPair_34 : decode cX4_addNearestPair 34 = .ok (.getfield 50, 3) := by decide +kernel
theorem dX4_addNearestPair_37 : decode cX4_addNearestPair 37 = .ok (.iload 7, 2) := by decide +kernel
theorem dX4_addNearestPair_39 : decode cX4_addNearestPair 39 = .ok (.iaload, 1) := by decide +kernel
theorem dX4_addNearestPair_40 : decode cX4_addNearestPair 40 = .ok (.iload_n 2, 1) := by decide +kernel
theorem dX4_addNearestPair_41 : decode cX4_addNearestPair 41 = .ok (.if_icmp .ne 57, 3) := by decide +kernel
theorem dX4_addNearestPair_44 : decode cX4_addNearestPair 44 = .ok (.aload_n 1, 1) := by decide +kernel
theorem dX4_addNearestPair_45 : decode cX4_addNearestPair 45 = .ok (.getfield 50, 3) := by decide +kernel
theorem dX4_addNearestPair_48 : decode cX4_addNearestPair 48 = .ok (.iload 8, 2) := by decide +kernel
theorem dX4_addNearestPair_50 : decode cX4_addNearestPair 50 = .ok (.iaload, 1) := by decide +kernel
theorem dX4_addNearestPair_51 : decode cX4_addNearestPair 51 = .ok (.iload_n 3, 1) := by decide +kernel
theorem dX4_addNearestPair_52 : decode cX4_addNearestPair 52 = .ok (.if_icmp .ne 46, 3) := by decide +kernel
theorem dX4_addNearestPair_55 : decode cX4_addNearestPair 55 = .ok (.aload_n 1, 1) := by decide +kernel
theorem dX4_addNearestPair_56 : decode cX4_addNearestPair 56 = .ok (.iload 7, 2) := by decide +kernel
theorem dX4_addNearestPair_58 : decode cX4_addNearestPair 58 = .ok (.iload 8, 2) := by decide +kernel
theorem dX4_addNearestPair_60 : decode cX4_addNearestPair 60 = .ok (.invokevirtual 53, 3) := by decide +kernel
theorem dX4_addNearestPair_63 : decode cX4_addNearestPair 63 = .ok (.istore 9, 2) := by decide +kernel
theorem dX4_addNearestPair_65 : decode cX4_addNearestPair 65 = .ok (.iload 9, 2) := by decide +kernel
theorem dX4_addNearestPair_67 : decode cX4_addNearestPair 67 = .ok (.aload_n 1, 1) := by decide +kernel
theorem dX4_addNearestPair_68 : decode cX4_addNearestPair 68 = .ok (.getfield 78, 3) := by decide +kernel
theorem dX4_addNearestPair_71 : decode cX4_addNearestPair 71 = .ok (.if_icmp .gt 27, 3) := by decide +kernel
theorem dX4_addNearestPair_74 : decode cX4_addNearestPair 74 = .ok (.iload 4, 2) := by decide +kernel
theorem dX4_addNearestPair_76 : decode cX4_addNearestPair 76 = .ok (.ifCond .lt 10, 3) := by decide +kernel
theorem dX4_addNearestPair_79 : decode cX4_addNearestPair 79 = .ok (.iload 9, 2) := by decide +kernel
theorem dX4_addNearestPair_81 : decode cX4_addNearestPair 81 = .ok (.iload 6, 2) := by decide +kernel
theorem dX4_addNearestPair_83 : decode cX4_addNearestPair 83 = .ok (.if_icmp .ge 15, 3) := by decide +kernel
theorem dX4_addNearestPair_86 : decode cX4_addNearestPair 86 = .ok (.iload 7, 2) := by decide +kernel
theorem dX4_addNearestPair_88 : decode cX4_addNearestPair 88 = .ok (.istore 4, 2) := by decide +kernel
theorem dX4_addNearestPair_90 : decode cX4_addNearestPair 90 = .ok (.iload 8, 2) := by decide +kernel
theorem dX4_addNearestPair_92 : decode cX4_addNearestPair 92 = .ok (.istore 5, 2) := by decide +kernel
theorem dX4_addNearestPair_94 : decode cX4_addNearestPair 94 = .ok (.iload 9, 2) := by decide +kernel
theorem dX4_addNearestPair_96 : decode cX4_addNearestPair 96 = .ok (.istore 6, 2) := by decide +kernel
theorem dX4_addNearestPair_98 : decode cX4_addNearestPair 98 = .ok (.iinc 8 1, 3) := by decide +kernel
theorem dX4_addNearestPair_101 : decode cX4_addNearestPair 101 = .ok (.goto (-77), 3) := by decide +kernel
theorem dX4_addNearestPair_104 : decode cX4_addNearestPair 104 = .ok (.iinc 7 1, 3) := by decide +kernel
theorem dX4_addNearestPair_107 : decode cX4_addNearestPair 107 = .ok (.goto (-95), 3) := by decide +kernel
theorem dX4_addNearestPair_110 : decode cX4_addNearestPair 110 = .ok (.iload 4, 2) := by decide +kernel
theorem dX4_addNearestPair_112 : decode cX4_addNearestPair 112 = .ok (.ifCond .lt 12, 3) := by decide +kernel
theorem dX4_addNearestPair_115 : decode cX4_addNearestPair 115 = .ok (.aload_n 0, 1) := by decide +kernel
theorem dX4_addNearestPair_116 : decode cX4_addNearestPair 116 = .ok (.aload_n 1, 1) := by decide +kernel
theorem dX4_addNearestPair_117 : decode cX4_addNearestPair 117 = .ok (.iload 4, 2) := by decide +kernel
theorem dX4_addNearestPair_119 : decode cX4_addNearestPair 119 = .ok (.iload 5, 2) := by decide +kernel
theorem dX4_addNearestPair_121 : decode cX4_addNearestPair 121 = .ok (.invokevirtual 65, 3) := by decide +kernel
theorem dX4_addNearestPair_124 : decode cX4_addNearestPair 124 = .ok (.return_, 1) := by decide +kernel
theorem dX4_addTry_0 : decode cX4_addTry 0 = .ok (.aload_n 0, 1) := by decide +kernel
theorem dX4_addTry_1 : decode cX4_addTry 1 = .ok (.getfield 18, 3) := by decide +kernel
theorem dX4_addTry_4 : decode cX4_addTry 4 = .ok (.bipush 10, 2) := by decide +kernel
theorem dX4_addTry_6 : decode cX4_addTry 6 = .ok (.if_icmp .lt 4, 3) := by decide +kernel
theorem dX4_addTry_9 : decode cX4_addTry 9 = .ok (.return_, 1) := by decide +kernel
theorem dX4_addTry_10 : decode cX4_addTry 10 = .ok (.aload_n 1, 1) := by decide +kernel
theorem dX4_addTry_11 : decode cX4_addTry 11 = .ok (.iload_n 2, 1) := by decide +kernel
theorem dX4_addTry_12 : decode cX4_addTry 12 = .ok (.iload_n 3, 1) := by decide +kernel
theorem dX4_addTry_13 : decode cX4_addTry 13 = .ok (.invokevirtual 81, 3) := by decide +kernel
theorem dX4_addTry_16 : decode cX4_addTry 16 = .ok (.istore 4, 2) := by decide +kernel
theorem dX4_addTry_18 : decode cX4_addTry 18 = .ok (.aload_n 0, 1) := by decide +kernel
theorem dX4_addTry_19 : decode cX4_addTry 19 = .ok (.getfield 9, 3) := by decide +kernel
theorem dX4_addTry_22 : decode cX4_addTry 22 = .ok (.aload_n 0, 1) := by decide +kernel
theorem dX4_addTry_23 : decode cX4_addTry 23 = .ok (.getfield 18, 3) := by decide +kernel
theorem dX4_addTry_26 : decode cX4_addTry 26 = .ok (.iload 4, 2) := by decide +kernel
theorem dX4_addTry_28 : decode cX4_addTry 28 = .ok (.ifCond .eq 7, 3) := by decide +kernel
theorem dX4_addTry_31 : decode cX4_addTry 31 = .ok (.iload_n 2, 1) := by decide +kernel
theorem dX4_addTry_32 : decode cX4_addTry 32 = .ok (.goto 4, 3) := by decide +kernel
theorem dX4_addTry_35 : decode cX4_addTry 35 = .ok (.iload_n 3, 1) := by decide +kernel
theorem dX4_addTry_36 : decode cX4_addTry 36 = .ok (.iastore, 1) := by decide +kernel
theorem dX4_addTry_37 : decode cX4_addTry 37 = .ok (.aload_n 0, 1) := by decide +kernel
theorem dX4_addTry_38 : decode cX4_addTry 38 = .ok (.getfield 15, 3) := by decide +kernel
theorem dX4_addTry_41 : decode cX4_addTry 41 = .ok (.aload_n 0, 1) := by decide +kernel
theorem dX4_addTry_42 : decode cX4_addTry 42 = .ok (.getfield 18, 3) := by decide +kernel
theorem dX4_addTry_45 : decode cX4_addTry 45 = .ok (.iload 4, 2) := by decide +kernel
theorem dX4_addTry_47 : decode cX4_addTry 47 = .ok (.ifCond .eq 7, 3) := by decide +kernel
theorem dX4_addTry_50 : decode cX4_addTry 50 = .ok (.iload_n 3, 1) := by decide +kernel
theorem dX4_addTry_51 : decode cX4_addTry 51 = .ok (.goto 4, 3) := by decide +kernel
theorem dX4_addTry_54 : decode cX4_addTry 54 = .ok (.iload_n 2, 1) := by decide +kernel
theorem dX4_addTry_55 : decode cX4_addTry 55 = .ok (.iastore, 1) := by decide +kernel
theorem dX4_addTry_56 : decode cX4_addTry 56 = .ok (.aload_n 0, 1) := by decide +kernel
theorem dX4_addTry_57 : decode cX4_addTry 57 = .ok (.dup, 1) := by decide +kernel
theorem dX4_addTry_58 : decode cX4_addTry 58 = .ok (.getfield 18, 3) := by decide +kernel
theorem dX4_addTry_61 : decode cX4_addTry 61 = .ok (.iconst 1, 1) := by decide +kernel
theorem dX4_addTry_62 : decode cX4_addTry 62 = .ok (.iadd, 1) := by decide +kernel
theorem dX4_addTry_63 : decode cX4_addTry 63 = .ok (.putfield 18, 3) := by decide +kernel
theorem dX4_addTry_66 : decode cX4_addTry 66 = .ok (.return_, 1) := by decide +kernel
theorem dX4_conducts_0 : decode cX4_conducts 0 = .ok (.aload_n 0, 1) := by decide +kernel
theorem dX4_conducts_1 : decode cX4_conducts 1 = .ok (.getfield 9, 3) := by decide +kernel
theorem dX4_conducts_4 : decode cX4_conducts 4 = .ok (.iload_n 2, 1) := by decide +kernel
theorem dX4_conducts_5 : decode cX4_conducts 5 = .ok (.iaload, 1) := by decide +kernel
theorem dX4_conducts_6 : decode cX4_conducts 6 = .ok (.istore 5, 2) := by decide +kernel
theorem dX4_conducts_8 : decode cX4_conducts 8 = .ok (.aload_n 0, 1) := by decide +kernel
theorem dX4_conducts_9 : decode cX4_conducts 9 = .ok (.getfield 15, 3) := by decide +kernel
theorem dX4_conducts_12 : decode cX4_conducts 12 = .ok (.iload_n 2, 1) := by decide +kernel
theorem dX4_conducts_13 : decode cX4_conducts 13 = .ok (.iaload, 1) := by decide +kernel
theorem dX4_conducts_14 : decode cX4_conducts 14 = .ok (.istore 6, 2) := by decide +kernel
theorem dX4_conducts_16 : decode cX4_conducts 16 = .ok (.iload_n 3, 1) := by decide +kernel
theorem dX4_conducts_17 : decode cX4_conducts 17 = .ok (.iload 5, 2) := by decide +kernel
theorem dX4_conducts_19 : decode cX4_conducts 19 = .ok (.invokestatic 61, 3) := by decide +kernel
theorem dX4_conducts_22 : decode cX4_conducts 22 = .ok (.ifCond .ne 12, 3) := by decide +kernel
theorem dX4_conducts_25 : decode cX4_conducts 25 = .ok (.iload_n 3, 1) := by decide +kernel
theorem dX4_conducts_26 : decode cX4_conducts 26 = .ok (.iload 6, 2) := by decide +kernel
theorem dX4_conducts_28 : decode cX4_conducts 28 = .ok (.invokestatic 61, 3) := by decide +kernel
theorem dX4_conducts_31 : decode cX4_conducts 31 = .ok (.ifCond .eq 5, 3) := by decide +kernel
theorem dX4_conducts_34 : decode cX4_conducts 34 = .ok (.iconst 0, 1) := by decide +kernel
theorem dX4_conducts_35 : decode cX4_conducts 35 = .ok (.ireturn, 1) := by decide +kernel
theorem dX4_conducts_36 : decode cX4_conducts 36 = .ok (.aload_n 1, 1) := by decide +kernel
theorem dX4_conducts_37 : decode cX4_conducts 37 = .ok (.getfield 50, 3) := by decide +kernel
theorem dX4_conducts_40 : decode cX4_conducts 40 = .ok (.iload 5, 2) := by decide +kernel
theorem dX4_conducts_42 : decode cX4_conducts 42 = .ok (.iaload, 1) := by decide +kernel
theorem dX4_conducts_43 : decode cX4_conducts 43 = .ok (.iload 4, 2) := by decide +kernel
theorem dX4_conducts_45 : decode cX4_conducts 45 = .ok (.invokestatic 84, 3) := by decide +kernel
theorem dX4_conducts_48 : decode cX4_conducts 48 = .ok (.aload_n 1, 1) := by decide +kernel
theorem dX4_conducts_49 : decode cX4_conducts 49 = .ok (.getfield 50, 3) := by decide +kernel
theorem dX4_conducts_52 : decode cX4_conducts 52 = .ok (.iload 6, 2) := by decide +kernel
theorem dX4_conducts_54 : decode cX4_conducts 54 = .ok (.iaload, 1) := by decide +kernel
theorem dX4_conducts_55 : decode cX4_conducts 55 = .ok (.invokestatic 61, 3) := by decide +kernel
theorem dX4_conducts_58 : decode cX4_conducts 58 = .ok (.ireturn, 1) := by decide +kernel
theorem dX4_seenSet_0 : decode cX4_seenSet 0 = .ok (.iconst 0, 1) := by decide +kernel
theorem dX4_seenSet_1 : decode cX4_seenSet 1 = .ok (.istore 4, 2) := by decide +kernel
theorem dX4_seenSet_3 : decode cX4_seenSet 3 = .ok (.iconst 0, 1) := by decide +kernel
theorem dX4_seenSet_4 : decode cX4_seenSet 4 = .ok (.istore 5, 2) := by decide +kernel
theorem dX4_seenSet_6 : decode cX4_seenSet 6 = .ok (.iload 5, 2) := by decide +kernel
theorem dX4_seenSet_8 : decode cX4_seenSet 8 = .ok (.aload_n 0, 1) := by decide +kernel
theorem dX4_seenSet_9 : decode cX4_seenSet 9 = .ok (.getfield 18, 3) := by decide +kernel
theorem dX4_seenSet_12 : decode cX4_seenSet 12 = .ok (.if_icmp .ge 36, 3) := by decide +kernel
theorem dX4_seenSet_15 : decode cX4_seenSet 15 = .ok (.aload_n 0, 1) := by decide +kernel
theorem dX4_seenSet_16 : decode cX4_seenSet 16 = .ok (.aload_n 1, 1) := by decide +kernel
theorem dX4_seenSet_17 : decode cX4_seenSet 17 = .ok (.iload 5, 2) := by decide +kernel
theorem dX4_seenSet_19 : decode cX4_seenSet 19 = .ok (.iload_n 2, 1) := by decide +kernel
theorem dX4_seenSet_20 : decode cX4_seenSet 20 = .ok (.iload_n 3, 1) := by decide +kernel
theorem dX4_seenSet_21 : decode cX4_seenSet 21 = .ok (.invokevirtual 87, 3) := by decide +kernel
theorem dX4_seenSet_24 : decode cX4_seenSet 24 = .ok (.aload_n 0, 1) := by decide +kernel
theorem dX4_seenSet_25 : decode cX4_seenSet 25 = .ok (.iload 5, 2) := by decide +kernel
theorem dX4_seenSet_27 : decode cX4_seenSet 27 = .ok (.invokevirtual 91, 3) := by decide +kernel
theorem dX4_seenSet_30 : decode cX4_seenSet 30 = .ok (.if_icmp .ne 12, 3) := by decide +kernel
theorem dX4_seenSet_33 : decode cX4_seenSet 33 = .ok (.iload 4, 2) := by decide +kernel
theorem dX4_seenSet_35 : decode cX4_seenSet 35 = .ok (.iconst 1, 1) := by decide +kernel
theorem dX4_seenSet_36 : decode cX4_seenSet 36 = .ok (.iload 5, 2) := by decide +kernel
theorem dX4_seenSet_38 : decode cX4_seenSet 38 = .ok (.ishl, 1) := by decide +kernel
theorem dX4_seenSet_39 : decode cX4_seenSet 39 = .ok (.ior, 1) := by decide +kernel
theorem dX4_seenSet_40 : decode cX4_seenSet 40 = .ok (.istore 4, 2) := by decide +kernel
theorem dX4_seenSet_42 : decode cX4_seenSet 42 = .ok (.iinc 5 1, 3) := by decide +kernel
theorem dX4_seenSet_45 : decode cX4_seenSet 45 = .ok (.goto (-39), 3) := by decide +kernel
theorem dX4_seenSet_48 : decode cX4_seenSet 48 = .ok (.iload 4, 2) := by decide +kernel
theorem dX4_seenSet_50 : decode cX4_seenSet 50 = .ok (.ireturn, 1) := by decide +kernel
theorem dX5_init_0 : decode cX5_init 0 = .ok (.aload_n 0, 1) := by decide +kernel
theorem dX5_init_1 : decode cX5_init 1 = .ok (.invokespecial 3, 3) := by decide +kernel
theorem dX5_init_4 : decode cX5_init 4 = .ok (.aload_n 0, 1) := by decide +kernel
theorem dX5_init_5 : decode cX5_init 5 = .ok (.new 9, 3) := by decide +kernel
theorem dX5_init_8 : decode cX5_init 8 = .ok (.dup, 1) := by decide +kernel
theorem dX5_init_9 : decode cX5_init 9 = .ok (.invokespecial 11, 3) := by decide +kernel
theorem dX5_init_12 : decode cX5_init 12 = .ok (.putfield 12, 3) := by decide +kernel
theorem dX5_init_15 : decode cX5_init 15 = .ok (.aload_n 0, 1) := by decide +kernel
theorem dX5_init_16 : decode cX5_init 16 = .ok (.new 16, 3) := by decide +kernel
theorem dX5_init_19 : decode cX5_init 19 = .ok (.dup, 1) := by decide +kernel
theorem dX5_init_20 : decode cX5_init 20 = .ok (.invokespecial 18, 3) := by decide +kernel
theorem dX5_init_23 : decode cX5_init 23 = .ok (.putfield 19, 3) := by decide +kernel
theorem dX5_init_26 : decode cX5_init 26 = .ok (.aload_n 0, 1) := by decide +kernel
theorem dX5_init_27 : decode cX5_init 27 = .ok (.new 23, 3) := by decide +kernel
theorem dX5_init_30 : decode cX5_init 30 = .ok (.dup, 1) := by decide +kernel
theorem dX5_init_31 : decode cX5_init 31 = .ok (.invokespecial 25, 3) := by decide +kernel
theorem dX5_init_34 : decode cX5_init 34 = .ok (.putfield 26, 3) := by decide +kernel
theorem dX5_init_37 : decode cX5_init 37 = .ok (.aload_n 0, 1) := by decide +kernel
theorem dX5_init_38 : decode cX5_init 38 = .ok (.new 30, 3) := by decide +kernel
theorem dX5_init_41 : decode cX5_init 41 = .ok (.dup, 1) := by decide +kernel
theorem dX5_init_42 : decode cX5_init 42 = .ok (.invokespecial 32, 3) := by decide +kernel
theorem dX5_init_45 : decode cX5_init 45 = .ok (.putfield 33, 3) := by decide +kernel
theorem dX5_init_48 : decode cX5_init 48 = .ok (.aload_n 0, 1) := by decide +kernel
theorem dX5_init_49 : decode cX5_init 49 = .ok (.iconst 2, 1) := by decide +kernel
theorem dX5_init_50 : decode cX5_init 50 = .ok (.anewarray 9, 3) := by decide +kernel
theorem dX5_init_53 : decode cX5_init 53 = .ok (.putfield 37, 3) := by decide +kernel
theorem dX5_init_56 : decode cX5_init 56 = .ok (.iconst 0, 1) := by decide +kernel
theorem dX5_init_57 : decode cX5_init 57 = .ok (.istore_n 1, 1) := by decide +kernel
theorem dX5_init_58 : decode cX5_init 58 = .ok (.iload_n 1, 1) := by decide +kernel
theorem dX5_init_59 : decode cX5_init 59 = .ok (.iconst 2, 1) := by decide +kernel
theorem dX5_init_60 : decode cX5_init 60 = .ok (.if_icmp .ge 22, 3) := by decide +kernel
theorem dX5_init_63 : decode cX5_init 63 = .ok (.aload_n 0, 1) := by decide +kernel
theorem dX5_init_64 : decode cX5_init 64 = .ok (.getfield 37, 3) := by decide +kernel
theorem dX5_init_67 : decode cX5_init 67 = .ok (.iload_n 1, 1) := by decide +kernel
theorem dX5_init_68 : decode cX5_init 68 = .ok (.new 9, 3) := by decide +kernel
theorem dX5_init_71 : decode cX5_init 71 = .ok (.dup, 1) := by decide +kernel
theorem dX5_init_72 : decode cX5_init 72 = .ok (.invokespecial 11, 3) := by decide +kernel
theorem dX5_init_75 : decode cX5_init 75 = .ok (.aastore, 1) := by decide +kernel
theorem dX5_init_76 : decode cX5_init 76 = .ok (.iinc 1 1, 3) := by decide +kernel
theorem dX5_init_79 : decode cX5_init 79 = .ok (.goto (-21), 3) := by decide +kernel
theorem dX5_init_82 : decode cX5_init 82 = .ok (.aload_n 0, 1) := by decide +kernel
theorem dX5_init_83 : decode cX5_init 83 = .ok (.iconst 0, 1) := by decide +kernel
theorem dX5_init_84 : decode cX5_init 84 = .ok (.putfield 41, 3) := by decide +kernel
theorem dX5_init_87 : decode cX5_init 87 = .ok (.return_, 1) := by decide +kernel
theorem dX5_point_0 : decode cX5_point 0 = .ok (.iload_n 1, 1) := by decide +kernel
theorem dX5_point_1 : decode cX5_point 1 = .ok (.invokestatic 45, 3) := by decide +kernel
theorem dX5_point_4 : decode cX5_point 4 = .ok (.ifCond .ne 5, 3) := by decide +kernel
theorem dX5_point_7 : decode cX5_point 7 = .ok (.iconst (-1), 1) := by decide +kernel
theorem dX5_point_8 : decode cX5_point 8 = .ok (.ireturn, 1) := by decide +kernel
theorem dX5_point_9 : decode cX5_point 9 = .ok (.iload_n 2, 1) := by decide +kernel
theorem dX5_point_10 : decode cX5_point 10 = .ok (.iload_n 3, 1) := by decide +kernel
theorem dX5_point_11 : decode cX5_point 11 = .ok (.invokestatic 49, 3) := by decide +kernel
theorem dX5_point_14 : decode cX5_point 14 = .ok (.ifCond .ne 6, 3) := by decide +kernel
theorem dX5_point_17 : decode cX5_point 17 = .ok (.bipush (-2), 2) := by decide +kernel
theorem dX5_point_19 : decode cX5_point 19 = .ok (.ireturn, 1) := by decide +kernel
theorem dX5_point_20 : decode cX5_point 20 = .ok (.aload_n 0, 1) := by decide +kernel
theorem dX5_point_21 : decode cX5_point 21 = .ok (.getfield 12, 3) := by decide +kernel
theorem dX5_point_24 : decode cX5_point 24 = .ok (.getfield 53, 3) := by decide +kernel
theorem dX5_point_27 : decode cX5_point 27 = .ok (.bipush 8, 2) := by decide +kernel
theorem dX5_point_29 : decode cX5_point 29 = .ok (.if_icmp .lt 6, 3) := by decide +kernel
theorem dX5_point_32 : decode cX5_point 32 = .ok (.bipush (-4), 2) := by decide +kernel
theorem dX5_point_34 : decode cX5_point 34 = .ok (.ireturn, 1) := by decide +kernel
theorem dX5_point_35 : decode cX5_point 35 = .ok (.aload_n 0, 1) := by decide +kernel
theorem dX5_point_36 : decode cX5_point 36 = .ok (.getfield 12, 3) := by decide +kernel
theorem dX5_point_39 : decode cX5_point 39 = .ok (.iload_n 1, 1) := by decide +kernel
theorem dX5_point_40 : decode cX5_point 40 = .ok (.iload_n 2, 1) := by decide +kernel
theorem dX5_point_41 : decode cX5_point 41 = .ok (.iload_n 3, 1) := by decide +kernel
theorem dX5_point_42 : decode cX5_point 42 = .ok (.invokevirtual 56, 3) := by decide +kernel
theorem dX5_point_45 : decode cX5_point 45 = .ok (.istore 4, 2) := by decide +kernel
theorem dX5_point_47 : decode cX5_point 47 = .ok (.aload_n 0, 1) := by decide +kernel
theorem dX5_point_48 : decode cX5_point 48 = .ok (.invokevirtual 60, 3) := by decide +kernel
theorem dX5_point_51 : decode cX5_point 51 = .ok (.iload 4, 2) := by decide +kernel
theorem dX5_point_53 : decode cX5_point 53 = .ok (.ireturn, 1) := by decide +kernel
theorem dX5_pop_0 : decode cX5_pop 0 = .ok (.aload_n 0, 1) := by decide +kernel
theorem dX5_pop_1 : decode cX5_pop 1 = .ok (.getfield 12, 3) := by decide +kernel
theorem dX5_pop_4 : decode cX5_pop 4 = .ok (.getfield 53, 3) := by decide +kernel
theorem dX5_pop_7 : decode cX5_pop 7 = .ok (.ifCond .gt 6, 3) := by decide +kernel
theorem dX5_pop_10 : decode cX5_pop 10 = .ok (.bipush (-3), 2) := by decide +kernel
theorem dX5_pop_12 : decode cX5_pop 12 = .ok (.ireturn, 1) := by decide +kernel
theorem dX5_pop_13 : decode cX5_pop 13 = .ok (.aload_n 0, 1) := by decide +kernel
theorem dX5_pop_14 : decode cX5_pop 14 = .ok (.getfield 12, 3) := by decide +kernel
theorem dX5_pop_17 : decode cX5_pop 17 = .ok (.invokevirtual 63, 3) := by decide +kernel
theorem dX5_pop_20 : decode cX5_pop 20 = .ok (.aload_n 0, 1) := by decide +kernel
theorem dX5_pop_21 : decode cX5_pop 21 = .ok (.invokevirtual 60, 3) := by decide +kernel
theorem dX5_pop_24 : decode cX5_pop 24 = .ok (.aload_n 0, 1) := by decide +kernel
theorem dX5_pop_25 : decode cX5_pop 25 = .ok (.getfield 12, 3) := by decide +kernel
theorem dX5_pop_28 : decode cX5_pop 28 = .ok (.getfield 53, 3) := by decide +kernel
theorem dX5_pop_31 : decode cX5_pop 31 = .ok (.ireturn, 1) := by decide +kernel
theorem dX5_move_0 : decode cX5_move 0 = .ok (.aload_n 0, 1) := by decide +kernel
theorem dX5_move_1 : decode cX5_move 1 = .ok (.getfield 12, 3) := by decide +kernel
theorem dX5_move_4 : decode cX5_move 4 = .ok (.iload_n 1, 1) := by decide +kernel
theorem dX5_move_5 : decode cX5_move 5 = .ok (.invokevirtual 66, 3) := by decide +kernel
theorem dX5_move_8 : decode cX5_move 8 = .ok (.ifCond .ne 5, 3) := by decide +kernel
theorem dX5_move_11 : decode cX5_move 11 = .ok (.iconst (-1), 1) := by decide +kernel
theorem dX5_move_12 : decode cX5_move 12 = .ok (.ireturn, 1) := by decide +kernel
theorem dX5_move_13 : decode cX5_move 13 = .ok (.iload_n 2, 1) := by decide +kernel
theorem dX5_move_14 : decode cX5_move 14 = .ok (.iload_n 3, 1) := by decide +kernel
theorem dX5_move_15 : decode cX5_move 15 = .ok (.invokestatic 49, 3) := by decide +kernel
theorem dX5_move_18 : decode cX5_move 18 = .ok (.ifCond .ne 6, 3) := by decide +kernel
theorem dX5_move_21 : decode cX5_move 21 = .ok (.bipush (-2), 2) := by decide +kernel
theorem dX5_move_23 : decode cX5_move 23 = .ok (.ireturn, 1) := by decide +kernel
theorem dX5_move_24 : decode cX5_move 24 = .ok (.bipush 21, 2) := by decide +kernel
theorem dX5_move_26 : decode cX5_move 26 = .ok (.aload_n 0, 1) := by decide +kernel
theorem dX5_move_27 : decode cX5_move 27 = .ok (.getfield 12, 3) := by decide +kernel
theorem dX5_move_30 : decode cX5_move 30 = .ok (.getfield 69, 3) := by decide +kernel
theorem dX5_move_33 : decode cX5_move 33 = .ok (.iload_n 1, 1) := by decide +kernel
theorem dX5_move_34 : decode cX5_move 34 = .ok (.iaload, 1) := by decide +kernel
theorem dX5_move_35 : decode cX5_move 35 = .ok (.imul, 1) := by decide +kernel
theorem dX5_move_36 : decode cX5_move 36 = .ok (.aload_n 0, 1) := by decide +kernel
theorem dX5_move_37 : decode cX5_move 37 = .ok (.getfield 12, 3) := by decide +kernel
theorem dX5_move_40 : decode cX5_move 40 = .ok (.getfield 73, 3) := by decide +kernel
theorem dX5_move_43 : decode cX5_move 43 = .ok (.iload_n 1, 1) := by decide +kernel
theorem dX5_move_44 : decode cX5_move 44 = .ok (.iaload, 1) := by decide +kernel
theorem dX5_move_45 : decode cX5_move 45 = .ok (.iadd, 1) := by decide +kernel
theorem dX5_move_46 : decode cX5_move 46 = .ok (.istore 4, 2) := by decide +kernel
theorem dX5_move_48 : decode cX5_move 48 = .ok (.aload_n 0, 1) := by decide +kernel
theorem dX5_move_49 : decode cX5_move 49 = .ok (.getfield 12, 3) := by decide +kernel
theorem dX5_move_52 : decode cX5_move 52 = .ok (.getfield 69, 3) := by decide +kernel
theorem dX5_move_55 : decode cX5_move 55 = .ok (.iload_n 1, 1) := by decide +kernel
theorem dX5_move_56 : decode cX5_move 56 = .ok (.iload_n 2, 1) := by decide +kernel
theorem dX5_move_57 : decode cX5_move 57 = .ok (.iastore, 1) := by decide +kernel
theorem dX5_move_58 : decode cX5_move 58 = .ok (.aload_n 0, 1) := by decide +kernel
theorem dX5_move_59 : decode cX5_move 59 = .ok (.getfield 12, 3) := by decide +kernel
theorem dX5_move_62 : decode cX5_move 62 = .ok (.getfield 73, 3) := by decide +kernel
theorem dX5_move_65 : decode cX5_move 65 = .ok (.iload_n 1, 1) := by decide +kernel
theorem dX5_move_66 : decode cX5_move 66 = .ok (.iload_n 3, 1) := by decide +kernel
theorem dX5_move_67 : decode cX5_move 67 = .ok (.iastore, 1) := by decide +kernel
theorem dX5_move_68 : decode cX5_move 68 = .ok (.aload_n 0, 1) := by decide +kernel
theorem dX5_move_69 : decode cX5_move 69 = .ok (.invokevirtual 60, 3) := by decide +kernel
theorem dX5_move_72 : decode cX5_move 72 = .ok (.iload 4, 2) := by decide +kernel
theorem dX5_move_74 : decode cX5_move 74 = .ok (.ireturn, 1) := by decide +kernel
theorem dX5_near_0 : decode cX5_near 0 = .ok (.iload_n 1, 1) := by decide +kernel
theorem dX5_near_1 : decode cX5_near 1 = .ok (.ifCond .lt 10, 3) := by decide +kernel
theorem dX5_near_4 : decode cX5_near 4 = .ok (.iload_n 1, 1) := by decide +kernel
theorem dX5_near_5 : decode cX5_near 5 = .ok (.sipush 800, 3) := by decide +kernel
theorem dX5_near_8 : decode cX5_near 8 = .ok (.if_icmp .le 6, 3) := by decide +kernel
theorem dX5_near_11 : decode cX5_near 11 = .ok (.bipush (-2), 2) := by decide +kernel
theorem dX5_near_13 : decode cX5_near 13 = .ok (.ireturn, 1) := by decide +kernel
theorem dX5_near_14 : decode cX5_near 14 = .ok (.aload_n 0, 1) := by decide +kernel
theorem dX5_near_15 : decode cX5_near 15 = .ok (.getfield 12, 3) := by decide +kernel
theorem dX5_near_18 : decode cX5_near 18 = .ok (.getfield 76, 3) := by decide +kernel
theorem dX5_near_21 : decode cX5_near 21 = .ok (.istore_n 2, 1) := by decide +kernel
theorem dX5_near_22 : decode cX5_near 22 = .ok (.aload_n 0, 1) := by decide +kernel
theorem dX5_near_23 : decode cX5_near 23 = .ok (.getfield 12, 3) := by decide +kernel
theorem dX5_near_26 : decode cX5_near 26 = .ok (.iload_n 1, 1) := by decide +kernel
theorem dX5_near_27 : decode cX5_near 27 = .ok (.putfield 76, 3) := by decide +kernel
theorem dX5_near_30 : decode cX5_near 30 = .ok (.aload_n 0, 1) := by decide +kernel
theorem dX5_near_31 : decode cX5_near 31 = .ok (.invokevirtual 60, 3) := by decide +kernel
theorem dX5_near_34 : decode cX5_near 34 = .ok (.iload_n 2, 1) := by decide +kernel
theorem dX5_near_35 : decode cX5_near 35 = .ok (.ireturn, 1) := by decide +kernel
theorem dX5_of_0 : decode cX5_of 0 = .ok (.aload_n 0, 1) := by decide +kernel
theorem dX5_of_1 : decode cX5_of 1 = .ok (.getfield 12, 3) := by decide +kernel
theorem dX5_of_4 : decode cX5_of 4 = .ok (.iload_n 1, 1) := by decide +kernel
theorem dX5_of_5 : decode cX5_of 5 = .ok (.invokevirtual 66, 3) := by decide +kernel
theorem dX5_of_8 : decode cX5_of 8 = .ok (.ifCond .ne 5, 3) := by decide +kernel
theorem dX5_of_11 : decode cX5_of 11 = .ok (.iconst (-1), 1) := by decide +kernel
theorem dX5_of_12 : decode cX5_of 12 = .ok (.ireturn, 1) := by decide +kernel
theorem dX5_of_13 : decode cX5_of 13 = .ok (.iload_n 2, 1) := by decide +kernel
theorem dX5_of_14 : decode cX5_of 14 = .ok (.tableswitch 75 0 3 #[30, 40, 50, 60], 30) := by decide +kernel
theorem dX5_of_44 : decode cX5_of 44 = .ok (.aload_n 0, 1) := by decide +kernel
theorem dX5_of_45 : decode cX5_of 45 = .ok (.getfield 12, 3) := by decide +kernel
theorem dX5_of_48 : decode cX5_of 48 = .ok (.getfield 79, 3) := by decide +kernel
theorem dX5_of_51 : decode cX5_of 51 = .ok (.iload_n 1, 1) := by decide +kernel
theorem dX5_of_52 : decode cX5_of 52 = .ok (.iaload, 1) := by decide +kernel
theorem dX5_of_53 : decode cX5_of 53 = .ok (.ireturn, 1) := by decide +kernel
theorem dX5_of_54 : decode cX5_of 54 = .ok (.aload_n 0, 1) := by decide +kernel
theorem dX5_of_55 : decode cX5_of 55 = .ok (.getfield 12, 3) := by decide +kernel
theorem dX5_of_58 : decode cX5_of 58 = .ok (.getfield 69, 3) := by decide +kernel
theorem dX5_of_61 : decode cX5_of 61 = .ok (.iload_n 1, 1) := by decide +kernel
theorem dX5_of_62 : decode cX5_of 62 = .ok (.iaload, 1) := by decide +kernel
theorem dX5_of_63 : decode cX5_of 63 = .ok (.ireturn, 1) := by decide +kernel
theorem dX5_of_64 : decode cX5_of 64 = .ok (.aload_n 0, 1) := by decide +kernel
theorem dX5_of_65 : decode cX5_of 65 = .ok (.getfield 12, 3) := by decide +kernel
theorem dX5_of_68 : decode cX5_of 68 = .ok (.getfield 73, 3) := by decide +kernel
theorem dX5_of_71 : decode cX5_of 71 = .ok (.iload_n 1, 1) := by decide +kernel
theorem dX5_of_72 : decode cX5_of 72 = .ok (.iaload, 1) := by decide +kernel
theorem dX5_of_73 : decode cX5_of 73 = .ok (.ireturn, 1) := by decide +kernel
theorem dX5_of_74 : decode cX5_of 74 = .ok (.aload_n 0, 1) := by decide +kernel
theorem dX5_of_75 : decode cX5_of 75 = .ok (.getfield 12, 3) := by decide +kernel
theorem dX5_of_78 : decode cX5_of 78 = .ok (.getfield 82, 3) := by decide +kernel
theorem dX5_of_81 : decode cX5_of 81 = .ok (.iload_n 1, 1) := by decide +kernel
theorem dX5_of_82 : decode cX5_of 82 = .ok (.invokestatic 85, 3) := by decide +kernel
theorem dX5_of_85 : decode cX5_of 85 = .ok (.invokestatic 88, 3) := by decide +kernel
theorem dX5_of_88 : decode cX5_of 88 = .ok (.ireturn, 1) := by decide +kernel
theorem dX5_of_89 : decode cX5_of 89 = .ok (.bipush (-2), 2) := by decide +kernel
theorem dX5_of_91 : decode cX5_of 91 = .ok (.ireturn, 1) := by decide +kernel
theorem dX5_far_0 : decode cX5_far 0 = .ok (.aload_n 0, 1) := by decide +kernel
theorem dX5_far_1 : decode cX5_far 1 = .ok (.getfield 12, 3) := by decide +kernel
theorem dX5_far_4 : decode cX5_far 4 = .ok (.iload_n 1, 1) := by decide +kernel
theorem dX5_far_5 : decode cX5_far 5 = .ok (.invokevirtual 66, 3) := by decide +kernel
theorem dX5_far_8 : decode cX5_far 8 = .ok (.ifCond .eq 14, 3) := by decide +kernel
theorem dX5_far_11 : decode cX5_far 11 = .ok (.aload_n 0, 1) := by decide +kernel
theorem dX5_far_12 : decode cX5_far 12 = .ok (.getfield 12, 3) := by decide +kernel
theorem dX5_far_15 : decode cX5_far 15 = .ok (.iload_n 2, 1) := by decide +kernel
theorem dX5_far_16 : decode cX5_far 16 = .ok (.invokevirtual 66, 3) := by decide +kernel
theorem dX5_far_19 : decode cX5_far 19 = .ok (.ifCond .ne 5, 3) := by decide +kernel
theorem dX5_far_22 : decode cX5_far 22 = .ok (.iconst (-1), 1) := by decide +kernel
theorem dX5_far_23 : decode cX5_far 23 = .ok (.ireturn, 1) := by decide +kernel
theorem dX5_far_24 : decode cX5_far 24 = .ok (.aload_n 0, 1) := by decide +kernel
theorem dX5_far_25 : decode cX5_far 25 = .ok (.getfield 12, 3) := by decide +kernel
theorem dX5_far_28 : decode cX5_far 28 = .ok (.iload_n 1, 1) := by decide +kernel
theorem dX5_far_29 : decode cX5_far 29 = .ok (.iload_n 2, 1) := by decide +kernel
theorem dX5_far_30 : decode cX5_far 30 = .ok (.invokevirtual 92, 3) := by decide +kernel
theorem dX5_far_33 : decode cX5_far 33 = .ok (.ireturn, 1) := by decide +kernel
theorem dX5_attempt_0 : decode cX5_attempt 0 = .ok (.aload_n 0, 1) := by decide +kernel
theorem dX5_attempt_1 : decode cX5_attempt 1 = .ok (.getfield 19, 3) := by decide +kernel
theorem dX5_attempt_4 : decode cX5_attempt 4 = .ok (.iload_n 1, 1) := by decide +kernel
theorem dX5_attempt_5 : decode cX5_attempt 5 = .ok (.invokevirtual 96, 3) := by decide +kernel
theorem dX5_attempt_8 : decode cX5_attempt 8 = .ok (.ifCond .ne 5, 3) := by decide +kernel
theorem dX5_attempt_11 : decode cX5_attempt 11 = .ok (.iconst (-1), 1) := by decide +kernel
theorem dX5_attempt_12 : decode cX5_attempt 12 = .ok (.ireturn, 1) := by decide +kernel
theorem dX5_attempt_13 : decode cX5_attempt 13 = .ok (.iload_n 2, 1) := by decide +kernel
theorem dX5_attempt_14 : decode cX5_attempt 14 = .ok (.tableswitch 108 0 4 #[34, 44, 54, 66, 96], 34) := by decide +kernel
theorem dX5_attempt_48 : decode cX5_attempt 48 = .ok (.aload_n 0, 1) := by decide +kernel
theorem dX5_attempt_49 : decode cX5_attempt 49 = .ok (.getfield 19, 3) := by decide +kernel
theorem dX5_attempt_52 : decode cX5_attempt 52 = .ok (.getfield 99, 3) := by decide +kernel
theorem dX5_attempt_55 : decode cX5_attempt 55 = .ok (.iload_n 1, 1) := by decide +kernel
theorem dX5_attempt_56 : decode cX5_attempt 56 = .ok (.iaload, 1) := by decide +kernel
theorem dX5_attempt_57 : decode cX5_attempt 57 = .ok (.ireturn, 1) := by decide +kernel
theorem dX5_attempt_58 : decode cX5_attempt 58 = .ok (.aload_n 0, 1) := by decide +kernel
theorem dX5_attempt_59 : decode cX5_attempt 59 = .ok (.getfield 19, 3) := by decide +kernel
theorem dX5_attempt_62 : decode cX5_attempt 62 = .ok (.getfield 102, 3) := by decide +kernel
theorem dX5_attempt_65 : decode cX5_attempt 65 = .ok (.iload_n 1, 1) := by decide +kernel
theorem dX5_attempt_66 : decode cX5_attempt 66 = .ok (.iaload, 1) := by decide +kernel
theorem dX5_attempt_67 : decode cX5_attempt 67 = .ok (.ireturn, 1) := by decide +kernel
theorem dX5_attempt_68 : decode cX5_attempt 68 = .ok (.aload_n 0, 1) := by decide +kernel
theorem dX5_attempt_69 : decode cX5_attempt 69 = .ok (.getfield 19, 3) := by decide +kernel
theorem dX5_attempt_72 : decode cX5_attempt 72 = .ok (.iload_n 1, 1) := by decide +kernel
theorem dX5_attempt_73 : decode cX5_attempt 73 = .ok (.invokevirtual 105, 3) := by decide +kernel
theorem dX5_attempt_76 : decode cX5_attempt 76 = .ok (.invokestatic 88, 3) := by decide +kernel
theorem dX5_attempt_79 : decode cX5_attempt 79 = .ok (.ireturn, 1) := by decide +kernel
theorem dX5_attempt_80 : decode cX5_attempt 80 = .ok (.aload_n 0, 1) := by decide +kernel
theorem dX5_attempt_81 : decode cX5_attempt 81 = .ok (.getfield 19, 3) := by decide +kernel
theorem dX5_attempt_84 : decode cX5_attempt 84 = .ok (.aload_n 0, 1) := by decide +kernel
theorem dX5_attempt_85 : decode cX5_attempt 85 = .ok (.getfield 12, 3) := by decide +kernel
theorem dX5_attempt_88 : decode cX5_attempt 88 = .ok (.iload_n 1, 1) := by decide +kernel
theorem dX5_attempt_89 : decode cX5_attempt 89 = .ok (.aload_n 0, 1) := by decide +kernel
theorem dX5_attempt_90 : decode cX5_attempt 90 = .ok (.getfield 12, 3) := by decide +kernel
theorem dX5_attempt_93 : decode cX5_attempt 93 = .ok (.getfield 82, 3) := by decide +kernel
theorem dX5_attempt_96 : decode cX5_attempt 96 = .ok (.aload_n 0, 1) := by decide +kernel
theorem dX5_attempt_97 : decode cX5_attempt 97 = .ok (.getfield 12, 3) := by decide +kernel
theorem dX5_attempt_100 : decode cX5_attempt 100 = .ok (.getfield 108, 3) := by decide +kernel
theorem dX5_attempt_103 : decode cX5_attempt 103 = .ok (.invokevirtual 111, 3) := by decide +kernel
theorem dX5_attempt_106 : decode cX5_attempt 106 = .ok (.invokestatic 88, 3) := by decide +kernel
theorem dX5_attempt_109 : decode cX5_attempt 109 = .ok (.ireturn, 1) := by decide +kernel
theorem dX5_attempt_110 : decode cX5_attempt 110 = .ok (.aload_n 0, 1) := by decide +kernel
theorem dX5_attempt_111 : decode cX5_attempt 111 = .ok (.invokevirtual 115, 3) := by decide +kernel
theorem dX5_attempt_114 : decode cX5_attempt 114 = .ok (.iload_n 1, 1) := by decide +kernel
theorem dX5_attempt_115 : decode cX5_attempt 115 = .ok (.invokestatic 85, 3) := by decide +kernel
theorem dX5_attempt_118 : decode cX5_attempt 118 = .ok (.invokestatic 88, 3) := by decide +kernel
theorem dX5_attempt_121 : decode cX5_attempt 121 = .ok (.ireturn, 1) := by decide +kernel
theorem dX5_attempt_122 : decode cX5_attempt 122 = .ok (.bipush (-2), 2) := by decide +kernel
theorem dX5_attempt_124 : decode cX5_attempt 124 = .ok (.ireturn, 1) := by decide +kernel
theorem dX5_time_0 : decode cX5_time 0 = .ok (.iload_n 1, 1) := by decide +kernel
theorem dX5_time_1 : decode cX5_time 1 = .ok (.iconst (-1), 1) := by decide +kernel
theorem dX5_time_2 : decode cX5_time 2 = .ok (.if_icmp .eq 16, 3) := by decide +kernel
theorem dX5_time_5 : decode cX5_time 5 = .ok (.aload_n 0, 1) := by decide +kernel
theorem dX5_time_6 : decode cX5_time 6 = .ok (.getfield 19, 3) := by decide +kernel
theorem dX5_time_9 : decode cX5_time 9 = .ok (.iload_n 1, 1) := by decide +kernel
theorem dX5_time_10 : decode cX5_time 10 = .ok (.invokevirtual 96, 3) := by decide +kernel
theorem dX5_time_13 : decode cX5_time 13 = .ok (.ifCond .ne 5, 3) := by decide +kernel
theorem dX5_time_16 : decode cX5_time 16 = .ok (.iconst (-1), 1) := by decide +kernel
theorem dX5_time_17 : decode cX5_time 17 = .ok (.ireturn, 1) := by decide +kernel
theorem dX5_time_18 : decode cX5_time 18 = .ok (.aload_n 0, 1) := by decide +kernel
theorem dX5_time_19 : decode cX5_time 19 = .ok (.getfield 19, 3) := by decide +kernel
theorem dX5_time_22 : decode cX5_time 22 = .ok (.iload_n 2, 1) := by decide +kernel
theorem dX5_time_23 : decode cX5_time 23 = .ok (.invokevirtual 96, 3) := by decide +kernel
theorem dX5_time_26 : decode cX5_time 26 = .ok (.ifCond .ne 5, 3) := by decide +kernel
theorem dX5_time_29 : decode cX5_time 29 = .ok (.iconst (-1), 1) := by decide +kernel
theorem dX5_time_30 : decode cX5_time 30 = .ok (.ireturn, 1) := by decide +kernel
theorem dX5_time_31 : decode cX5_time 31 = .ok (.aload_n 0, 1) := by decide +kernel
theorem dX5_time_32 : decode cX5_time 32 = .ok (.getfield 26, 3) := by decide +kernel
theorem dX5_time_35 : decode cX5_time 35 = .ok (.iload_n 1, 1) := by decide +kernel
theorem dX5_time_36 : decode cX5_time 36 = .ok (.iconst 1, 1) := by decide +kernel
theorem dX5_time_37 : decode cX5_time 37 = .ok (.iadd, 1) := by decide +kernel
theorem dX5_time_38 : decode cX5_time 38 = .ok (.iload_n 2, 1) := by decide +kernel
theorem dX5_time_39 : decode cX5_time 39 = .ok (.invokevirtual 119, 3) := by decide +kernel
theorem dX5_time_42 : decode cX5_time 42 = .ok (.ireturn, 1) := by decide +kernel
theorem dX5_say_0 : decode cX5_say 0 = .ok (.iload_n 1, 1) := by decide +kernel
theorem dX5_say_1 : decode cX5_say 1 = .ok (.bipush 33, 2) := by decide +kernel
theorem dX5_say_3 : decode cX5_say 3 = .ok (.if_icmp .lt 9, 3) := by decide +kernel
theorem dX5_say_6 : decode cX5_say 6 = .ok (.iload_n 1, 1) := by decide +kernel
theorem dX5_say_7 : decode cX5_say 7 = .ok (.bipush 126, 2) := by decide +kernel
theorem dX5_say_9 : decode cX5_say 9 = .ok (.if_icmp .le 6, 3) := by decide +kernel
theorem dX5_say_12 : decode cX5_say 12 = .ok (.bipush (-2), 2) := by decide +kernel
theorem dX5_say_14 : decode cX5_say 14 = .ok (.ireturn, 1) := by decide +kernel
theorem dX5_say_15 : decode cX5_say 15 = .ok (.aload_n 0, 1) := by decide +kernel
theorem dX5_say_16 : decode cX5_say 16 = .ok (.getfield 33, 3) := by decide +kernel
theorem dX5_say_19 : decode cX5_say 19 = .ok (.getfield 122, 3) := by decide +kernel
theorem dX5_say_22 : decode cX5_say 22 = .ok (.bipush 24, 2) := by decide +kernel
theorem dX5_say_24 : decode cX5_say 24 = .ok (.if_icmp .lt 6, 3) := by decide +kernel
theorem dX5_say_27 : decode cX5_say 27 = .ok (.bipush (-4), 2) := by decide +kernel
theorem dX5_say_29 : decode cX5_say 29 = .ok (.ireturn, 1) := by decide +kernel
theorem dX5_say_30 : decode cX5_say 30 = .ok (.aload_n 0, 1) := by decide +kernel
theorem dX5_say_31 : decode cX5_say 31 = .ok (.getfield 33, 3) := by decide +kernel
theorem dX5_say_34 : decode cX5_say 34 = .ok (.iload_n 1, 1) := by decide +kernel
theorem dX5_say_35 : decode cX5_say 35 = .ok (.invokevirtual 125, 3) := by decide +kernel
theorem dX5_say_38 : decode cX5_say 38 = .ok (.aload_n 0, 1) := by decide +kernel
theorem dX5_say_39 : decode cX5_say 39 = .ok (.getfield 33, 3) := by decide +kernel
theorem dX5_say_42 : decode cX5_say 42 = .ok (.getfield 122, 3) := by decide +kernel
theorem dX5_say_45 : decode cX5_say 45 = .ok (.ireturn, 1) := by decide +kernel
theorem dX5_wipe_0 : decode cX5_wipe 0 = .ok (.aload_n 0, 1) := by decide +kernel
theorem dX5_wipe_1 : decode cX5_wipe 1 = .ok (.getfield 33, 3) := by decide +kernel
theorem dX5_wipe_4 : decode cX5_wipe 4 = .ok (.getfield 122, 3) := by decide +kernel
theorem dX5_wipe_7 : decode cX5_wipe 7 = .ok (.istore_n 1, 1) := by decide +kernel
theorem dX5_wipe_8 : decode cX5_wipe 8 = .ok (.aload_n 0, 1) := by decide +kernel
theorem dX5_wipe_9 : decode cX5_wipe 9 = .ok (.getfield 33, 3) := by decide +kernel
theorem dX5_wipe_12 : decode cX5_wipe 12 = .ok (.iconst 0, 1) := by decide +kernel
theorem dX5_wipe_13 : decode cX5_wipe 13 = .ok (.putfield 122, 3) := by decide +kernel
theorem dX5_wipe_16 : decode cX5_wipe 16 = .ok (.iload_n 1, 1) := by decide +kernel
theorem dX5_wipe_17 : decode cX5_wipe 17 = .ok (.ireturn, 1) := by decide +kernel
theorem dX5_told_0 : decode cX5_told 0 = .ok (.aload_n 0, 1) := by decide +kernel
theorem dX5_told_1 : decode cX5_told 1 = .ok (.getfield 33, 3) := by decide +kernel
theorem dX5_told_4 : decode cX5_told 4 = .ok (.aload_n 0, 1) := by decide +kernel
theorem dX5_told_5 : decode cX5_told 5 = .ok (.getfield 19, 3) := by decide +kernel
theorem dX5_told_8 : decode cX5_told 8 = .ok (.getfield 129, 3) := by decide +kernel
theorem dX5_told_11 : decode cX5_told 11 = .ok (.invokevirtual 132, 3) := by decide +kernel
theorem dX5_told_14 : decode cX5_told 14 = .ok (.ifCond .ne 6, 3) := by decide +kernel
theorem dX5_told_17 : decode cX5_told 17 = .ok (.bipush (-7), 2) := by decide +kernel
theorem dX5_told_19 : decode cX5_told 19 = .ok (.ireturn, 1) := by decide +kernel
theorem dX5_told_20 : decode cX5_told 20 = .ok (.iconst 0, 1) := by decide +kernel
theorem dX5_told_21 : decode cX5_told 21 = .ok (.istore_n 1, 1) := by decide +kernel
theorem dX5_told_22 : decode cX5_told 22 = .ok (.iconst 0, 1) := by decide +kernel
theorem dX5_told_23 : decode cX5_told 23 = .ok (.istore_n 2, 1) := by decide +kernel
theorem dX5_told_24 : decode cX5_told 24 = .ok (.iconst 0, 1) := by decide +kernel
theorem dX5_told_25 : decode cX5_told 25 = .ok (.istore_n 3, 1) := by decide +kernel
theorem dX5_told_26 : decode cX5_told 26 = .ok (.iload_n 3, 1) := by decide +kernel
theorem dX5_told_27 : decode cX5_told 27 = .ok (.aload_n 0, 1) := by decide +kernel
theorem dX5_told_28 : decode cX5_told 28 = .ok (.getfield 33, 3) := by decide +kernel
theorem dX5_told_31 : decode cX5_told 31 = .ok (.getfield 122, 3) := by decide +kernel
theorem dX5_told_34 : decode cX5_told 34 = .ok (.if_icmp .ge 37, 3) := by decide +kernel
theorem dX5_told_37 : decode cX5_told 37 = .ok (.aload_n 0, 1) := by decide +kernel
theorem dX5_told_38 : decode cX5_told 38 = .ok (.getfield 33, 3) := by decide +kernel
theorem dX5_told_41 : decode cX5_told 41 = .ok (.iload_n 3, 1) := by decide +kernel
theorem dX5_told_42 : decode cX5_told 42 = .ok (.invokevirtual 135, 3) := by decide +kernel
theorem dX5_told_45 : decode cX5_told 45 = .ok (.istore 4, 2) := by decide +kernel
theorem dX5_told_47 : decode cX5_told 47 = .ok (.iload_n 1, 1) := by decide +kernel
theorem dX5_told_48 : decode cX5_told 48 = .ok (.aload_n 0, 1) := by decide +kernel
theorem dX5_told_49 : decode cX5_told 49 = .ok (.getfield 26, 3) := by decide +kernel
theorem dX5_told_52 : decode cX5_told 52 = .ok (.iload_n 2, 1) := by decide +kernel
theorem dX5_told_53 : decode cX5_told 53 = .ok (.iload 4, 2) := by decide +kernel
theorem dX5_told_55 : decode cX5_told 55 = .ok (.invokevirtual 119, 3) := by decide +kernel
theorem dX5_told_58 : decode cX5_told 58 = .ok (.iadd, 1) := by decide +kernel
theorem dX5_told_59 : decode cX5_told 59 = .ok (.istore_n 1, 1) := by decide +kernel
theorem dX5_told_60 : decode cX5_told 60 = .ok (.iload 4, 2) := by decide +kernel
theorem dX5_told_62 : decode cX5_told 62 = .ok (.iconst 1, 1) := by decide +kernel
theorem dX5_told_63 : decode cX5_told 63 = .ok (.iadd, 1) := by decide +kernel
theorem dX5_told_64 : decode cX5_told 64 = .ok (.istore_n 2, 1) := by decide +kernel
theorem dX5_told_65 : decode cX5_told 65 = .ok (.iinc 3 1, 3) := by decide +kernel
theorem dX5_told_68 : decode cX5_told 68 = .ok (.goto (-42), 3) := by decide +kernel
theorem dX5_told_71 : decode cX5_told 71 = .ok (.iload_n 1, 1) := by decide +kernel
theorem dX5_told_72 : decode cX5_told 72 = .ok (.ireturn, 1) := by decide +kernel
theorem dX5_best_0 : decode cX5_best 0 = .ok (.iload_n 1, 1) := by decide +kernel
theorem dX5_best_1 : decode cX5_best 1 = .ok (.iconst (-1), 1) := by decide +kernel
theorem dX5_best_2 : decode cX5_best 2 = .ok (.if_icmp .ge 6, 3) := by decide +kernel
theorem dX5_best_5 : decode cX5_best 5 = .ok (.bipush (-2), 2) := by decide +kernel
theorem dX5_best_7 : decode cX5_best 7 = .ok (.ireturn, 1) := by decide +kernel
theorem dX5_best_8 : decode cX5_best 8 = .ok (.aload_n 0, 1) := by decide +kernel
theorem dX5_best_9 : decode cX5_best 9 = .ok (.getfield 26, 3) := by decide +kernel
theorem dX5_best_12 : decode cX5_best 12 = .ok (.invokevirtual 139, 3) := by decide +kernel
theorem dX5_best_15 : decode cX5_best 15 = .ok (.aload_n 0, 1) := by decide +kernel
theorem dX5_best_16 : decode cX5_best 16 = .ok (.getfield 26, 3) := by decide +kernel
theorem dX5_best_19 : decode cX5_best 19 = .ok (.getfield 142, 3) := by decide +kernel
theorem dX5_best_22 : decode cX5_best 22 = .ok (.iload_n 1, 1) := by decide +kernel
theorem dX5_best_23 : decode cX5_best 23 = .ok (.invokevirtual 146, 3) := by decide +kernel
theorem dX5_best_26 : decode cX5_best 26 = .ok (.ireturn, 1) := by decide +kernel
theorem dX5_nearest_0 : decode cX5_nearest 0 = .ok (.iload_n 1, 1) := by decide +kernel
theorem dX5_nearest_1 : decode cX5_nearest 1 = .ok (.iconst (-1), 1) := by decide +kernel
theorem dX5_nearest_2 : decode cX5_nearest 2 = .ok (.if_icmp .ge 6, 3) := by decide +kernel
theorem dX5_nearest_5 : decode cX5_nearest 5 = .ok (.bipush (-2), 2) := by decide +kernel
theorem dX5_nearest_7 : decode cX5_nearest 7 = .ok (.ireturn, 1) := by decide +kernel
theorem dX5_nearest_8 : decode cX5_nearest 8 = .ok (.aload_n 0, 1) := by decide +kernel
theorem dX5_nearest_9 : decode cX5_nearest 9 = .ok (.getfield 26, 3) := by decide +kernel
theorem dX5_nearest_12 : decode cX5_nearest 12 = .ok (.invokevirtual 151, 3) := by decide +kernel
theorem dX5_nearest_15 : decode cX5_nearest 15 = .ok (.aload_n 0, 1) := by decide +kernel
theorem dX5_nearest_16 : decode cX5_nearest 16 = .ok (.getfield 26, 3) := by decide +kernel
theorem dX5_nearest_19 : decode cX5_nearest 19 = .ok (.getfield 154, 3) := by decide +kernel
theorem dX5_nearest_22 : decode cX5_nearest 22 = .ok (.iload_n 1, 1) := by decide +kernel
theorem dX5_nearest_23 : decode cX5_nearest 23 = .ok (.invokevirtual 146, 3) := by decide +kernel
theorem dX5_nearest_26 : decode cX5_nearest 26 = .ok (.ireturn, 1) := by decide +kernel
theorem dX5_loosen_0 : decode cX5_loosen 0 = .ok (.aload_n 0, 1) := by decide +kernel
theorem dX5_loosen_1 : decode cX5_loosen 1 = .ok (.getfield 12, 3) := by decide +kernel
theorem dX5_loosen_4 : decode cX5_loosen 4 = .ok (.iload_n 1, 1) := by decide +kernel
theorem dX5_loosen_5 : decode cX5_loosen 5 = .ok (.invokevirtual 66, 3) := by decide +kernel
theorem dX5_loosen_8 : decode cX5_loosen 8 = .ok (.ifCond .ne 5, 3) := by decide +kernel
theorem dX5_loosen_11 : decode cX5_loosen 11 = .ok (.iconst (-1), 1) := by decide +kernel
theorem dX5_loosen_12 : decode cX5_loosen 12 = .ok (.ireturn, 1) := by decide +kernel
theorem dX5_loosen_13 : decode cX5_loosen 13 = .ok (.iload_n 2, 1) := by decide +kernel
theorem dX5_loosen_14 : decode cX5_loosen 14 = .ok (.invokestatic 157, 3) := by decide +kernel
theorem dX5_loosen_17 : decode cX5_loosen 17 = .ok (.ifCond .ne 6, 3) := by decide +kernel
theorem dX5_loosen_20 : decode cX5_loosen 20 = .ok (.bipush (-2), 2) := by decide +kernel
theorem dX5_loosen_22 : decode cX5_loosen 22 = .ok (.ireturn, 1) := by decide +kernel
theorem dX5_loosen_23 : decode cX5_loosen 23 = .ok (.aload_n 0, 1) := by decide +kernel
theorem dX5_loosen_24 : decode cX5_loosen 24 = .ok (.getfield 12, 3) := by decide +kernel
theorem dX5_loosen_27 : decode cX5_loosen 27 = .ok (.aload_n 0, 1) := by decide +kernel
theorem dX5_loosen_28 : decode cX5_loosen 28 = .ok (.getfield 12, 3) := by decide +kernel
theorem dX5_loosen_31 : decode cX5_loosen 31 = .ok (.getfield 82, 3) := by decide +kernel
theorem dX5_loosen_34 : decode cX5_loosen 34 = .ok (.iload_n 1, 1) := by decide +kernel
theorem dX5_loosen_35 : decode cX5_loosen 35 = .ok (.iload_n 2, 1) := by decide +kernel
theorem dX5_loosen_36 : decode cX5_loosen 36 = .ok (.invokestatic 160, 3) := by decide +kernel
theorem dX5_loosen_39 : decode cX5_loosen 39 = .ok (.putfield 82, 3) := by decide +kernel
theorem dX5_loosen_42 : decode cX5_loosen 42 = .ok (.aload_n 0, 1) := by decide +kernel
theorem dX5_loosen_43 : decode cX5_loosen 43 = .ok (.getfield 12, 3) := by decide +kernel
theorem dX5_loosen_46 : decode cX5_loosen 46 = .ok (.getfield 82, 3) := by decide +kernel
theorem dX5_loosen_49 : decode cX5_loosen 49 = .ok (.invokestatic 163, 3) := by decide +kernel
theorem dX5_loosen_52 : decode cX5_loosen 52 = .ok (.ireturn, 1) := by decide +kernel
theorem dX5_join_0 : decode cX5_join 0 = .ok (.iload_n 1, 1) := by decide +kernel
theorem dX5_join_1 : decode cX5_join 1 = .ok (.invokestatic 45, 3) := by decide +kernel
theorem dX5_join_4 : decode cX5_join 4 = .ok (.ifCond .eq 10, 3) := by decide +kernel
theorem dX5_join_7 : decode cX5_join 7 = .ok (.iload_n 2, 1) := by decide +kernel
theorem dX5_join_8 : decode cX5_join 8 = .ok (.invokestatic 45, 3) := by decide +kernel
theorem dX5_join_11 : decode cX5_join 11 = .ok (.ifCond .ne 5, 3) := by decide +kernel
theorem dX5_join_14 : decode cX5_join 14 = .ok (.iconst (-1), 1) := by decide +kernel
theorem dX5_join_15 : decode cX5_join 15 = .ok (.ireturn, 1) := by decide +kernel
theorem dX5_join_16 : decode cX5_join 16 = .ok (.iload_n 1, 1) := by decide +kernel
theorem dX5_join_17 : decode cX5_join 17 = .ok (.iload_n 2, 1) := by decide +kernel
theorem dX5_join_18 : decode cX5_join 18 = .ok (.if_icmp .eq 10, 3) := by decide +kernel
theorem dX5_join_21 : decode cX5_join 21 = .ok (.iload_n 3, 1) := by decide +kernel
theorem dX5_join_22 : decode cX5_join 22 = .ok (.invokestatic 157, 3) := by decide +kernel
theorem dX5_join_25 : decode cX5_join 25 = .ok (.ifCond .ne 6, 3) := by decide +kernel
theorem dX5_join_28 : decode cX5_join 28 = .ok (.bipush (-2), 2) := by decide +kernel
theorem dX5_join_30 : decode cX5_join 30 = .ok (.ireturn, 1) := by decide +kernel
theorem dX5_join_31 : decode cX5_join 31 = .ok (.aload_n 0, 1) := by decide +kernel
theorem dX5_join_32 : decode cX5_join 32 = .ok (.getfield 12, 3) := by decide +kernel
theorem dX5_join_35 : decode cX5_join 35 = .ok (.aload_n 0, 1) := by decide +kernel
theorem dX5_join_36 : decode cX5_join 36 = .ok (.getfield 12, 3) := by decide +kernel
theorem dX5_join_39 : decode cX5_join 39 = .ok (.getfield 108, 3) := by decide +kernel
theorem dX5_join_42 : decode cX5_join 42 = .ok (.iload_n 1, 1) := by decide +kernel
theorem dX5_join_43 : decode cX5_join 43 = .ok (.iload_n 2, 1) := by decide +kernel
theorem dX5_join_44 : decode cX5_join 44 = .ok (.invokestatic 168, 3) := by decide +kernel
theorem dX5_join_47 : decode cX5_join 47 = .ok (.iload_n 3, 1) := by decide +kernel
theorem dX5_join_48 : decode cX5_join 48 = .ok (.invokestatic 160, 3) := by decide +kernel
theorem dX5_join_51 : decode cX5_join 51 = .ok (.putfield 108, 3) := by decide +kernel
theorem dX5_join_54 : decode cX5_join 54 = .ok (.aload_n 0, 1) := by decide +kernel
theorem dX5_join_55 : decode cX5_join 55 = .ok (.getfield 12, 3) := by decide +kernel
theorem dX5_join_58 : decode cX5_join 58 = .ok (.getfield 108, 3) := by decide +kernel
theorem dX5_join_61 : decode cX5_join 61 = .ok (.invokestatic 163, 3) := by decide +kernel
theorem dX5_join_64 : decode cX5_join 64 = .ok (.ireturn, 1) := by decide +kernel
theorem dX5_sees_0 : decode cX5_sees 0 = .ok (.aload_n 0, 1) := by decide +kernel
theorem dX5_sees_1 : decode cX5_sees 1 = .ok (.invokevirtual 115, 3) := by decide +kernel
theorem dX5_sees_4 : decode cX5_sees 4 = .ok (.ireturn, 1) := by decide +kernel
theorem dX5_fits_0 : decode cX5_fits 0 = .ok (.aload_n 0, 1) := by decide +kernel
theorem dX5_fits_1 : decode cX5_fits 1 = .ok (.aload_n 0, 1) := by decide +kernel
theorem dX5_fits_2 : decode cX5_fits 2 = .ok (.invokevirtual 115, 3) := by decide +kernel
theorem dX5_fits_5 : decode cX5_fits 5 = .ok (.iload_n 1, 1) := by decide +kernel
theorem dX5_fits_6 : decode cX5_fits 6 = .ok (.invokevirtual 171, 3) := by decide +kernel
theorem dX5_fits_9 : decode cX5_fits 9 = .ok (.ireturn, 1) := by decide +kernel
theorem dX5_hidden_0 : decode cX5_hidden 0 = .ok (.iload_n 1, 1) := by decide +kernel
theorem dX5_hidden_1 : decode cX5_hidden 1 = .ok (.invokestatic 157, 3) := by decide +kernel
theorem dX5_hidden_4 : decode cX5_hidden 4 = .ok (.ifCond .ne 6, 3) := by decide +kernel
theorem dX5_hidden_7 : decode cX5_hidden 7 = .ok (.bipush (-2), 2) := by decide +kernel
theorem dX5_hidden_9 : decode cX5_hidden 9 = .ok (.ireturn, 1) := by decide +kernel
theorem dX5_hidden_10 : decode cX5_hidden 10 = .ok (.iload_n 1, 1) := by decide +kernel
theorem dX5_hidden_11 : decode cX5_hidden 11 = .ok (.ifCond .ne 12, 3) := by decide +kernel
theorem dX5_hidden_14 : decode cX5_hidden 14 = .ok (.aload_n 0, 1) := by decide +kernel
theorem dX5_hidden_15 : decode cX5_hidden 15 = .ok (.iconst 0, 1) := by decide +kernel
theorem dX5_hidden_16 : decode cX5_hidden 16 = .ok (.iconst (-1), 1) := by decide +kernel
theorem dX5_hidden_17 : decode cX5_hidden 17 = .ok (.invokevirtual 171, 3) := by decide +kernel
theorem dX5_hidden_20 : decode cX5_hidden 20 = .ok (.goto 9, 3) := by decide +kernel
theorem dX5_hidden_23 : decode cX5_hidden 23 = .ok (.aload_n 0, 1) := by decide +kernel
theorem dX5_hidden_24 : decode cX5_hidden 24 = .ok (.iconst 0, 1) := by decide +kernel
theorem dX5_hidden_25 : decode cX5_hidden 25 = .ok (.iconst 0, 1) := by decide +kernel
theorem dX5_hidden_26 : decode cX5_hidden 26 = .ok (.invokevirtual 171, 3) := by decide +kernel
theorem dX5_hidden_29 : decode cX5_hidden 29 = .ok (.ireturn, 1) := by decide +kernel
theorem dX5_halves_0 : decode cX5_halves 0 = .ok (.iload_n 1, 1) := by decide +kernel
theorem dX5_halves_1 : decode cX5_halves 1 = .ok (.invokestatic 45, 3) := by decide +kernel
theorem dX5_halves_4 : decode cX5_halves 4 = .ok (.ifCond .ne 5, 3) := by decide +kernel
theorem dX5_halves_7 : decode cX5_halves 7 = .ok (.iconst (-1), 1) := by decide +kernel
theorem dX5_halves_8 : decode cX5_halves 8 = .ok (.ireturn, 1) := by decide +kernel
theorem dX5_halves_9 : decode cX5_halves 9 = .ok (.iload_n 2, 1) := by decide +kernel
theorem dX5_halves_10 : decode cX5_halves 10 = .ok (.invokestatic 157, 3) := by decide +kernel
