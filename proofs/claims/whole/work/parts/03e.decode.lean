theorem dX6_told_12 : decode cX6_told 12 = .ok (.if_icmp .eq 6, 3) := by decide +kernel
theorem dX6_told_15 : decode cX6_told 15 = .ok (.bipush (-7), 2) := by decide +kernel
theorem dX6_told_17 : decode cX6_told 17 = .ok (.ireturn, 1) := by decide +kernel
theorem dX6_told_18 : decode cX6_told 18 = .ok (.iconst 0, 1) := by decide +kernel
theorem dX6_told_19 : decode cX6_told 19 = .ok (.istore_n 1, 1) := by decide +kernel
theorem dX6_told_20 : decode cX6_told 20 = .ok (.iconst 0, 1) := by decide +kernel
theorem dX6_told_21 : decode cX6_told 21 = .ok (.istore_n 2, 1) := by decide +kernel
theorem dX6_told_22 : decode cX6_told 22 = .ok (.iload_n 2, 1) := by decide +kernel
theorem dX6_told_23 : decode cX6_told 23 = .ok (.aload_n 0, 1) := by decide +kernel
theorem dX6_told_24 : decode cX6_told 24 = .ok (.getfield 126, 3) := by decide +kernel
theorem dX6_told_27 : decode cX6_told 27 = .ok (.if_icmp .ge 65, 3) := by decide +kernel
theorem dX6_told_30 : decode cX6_told 30 = .ok (.aload_n 0, 1) := by decide +kernel
theorem dX6_told_31 : decode cX6_told 31 = .ok (.getfield 41, 3) := by decide +kernel
theorem dX6_told_34 : decode cX6_told 34 = .ok (.iload_n 2, 1) := by decide +kernel
theorem dX6_told_35 : decode cX6_told 35 = .ok (.aload_n 0, 1) := by decide +kernel
theorem dX6_told_36 : decode cX6_told 36 = .ok (.getfield 20, 3) := by decide +kernel
theorem dX6_told_39 : decode cX6_told 39 = .ok (.iload_n 2, 1) := by decide +kernel
theorem dX6_told_40 : decode cX6_told 40 = .ok (.iaload, 1) := by decide +kernel
theorem dX6_told_41 : decode cX6_told 41 = .ok (.bipush 97, 2) := by decide +kernel
theorem dX6_told_43 : decode cX6_told 43 = .ok (.isub, 1) := by decide +kernel
theorem dX6_told_44 : decode cX6_told 44 = .ok (.iastore, 1) := by decide +kernel
theorem dX6_told_45 : decode cX6_told 45 = .ok (.aload_n 0, 1) := by decide +kernel
theorem dX6_told_46 : decode cX6_told 46 = .ok (.aload_n 0, 1) := by decide +kernel
theorem dX6_told_47 : decode cX6_told 47 = .ok (.getfield 41, 3) := by decide +kernel
theorem dX6_told_50 : decode cX6_told 50 = .ok (.iload_n 2, 1) := by decide +kernel
theorem dX6_told_51 : decode cX6_told 51 = .ok (.iaload, 1) := by decide +kernel
theorem dX6_told_52 : decode cX6_told 52 = .ok (.invokevirtual 110, 3) := by decide +kernel
theorem dX6_told_55 : decode cX6_told 55 = .ok (.ifCond .eq 17, 3) := by decide +kernel
theorem dX6_told_58 : decode cX6_told 58 = .ok (.iload_n 1, 1) := by decide +kernel
theorem dX6_told_59 : decode cX6_told 59 = .ok (.aload_n 0, 1) := by decide +kernel
theorem dX6_told_60 : decode cX6_told 60 = .ok (.getfield 41, 3) := by decide +kernel
theorem dX6_told_63 : decode cX6_told 63 = .ok (.iload_n 2, 1) := by decide +kernel
theorem dX6_told_64 : decode cX6_told 64 = .ok (.iaload, 1) := by decide +kernel
theorem dX6_told_65 : decode cX6_told 65 = .ok (.ishr, 1) := by decide +kernel
theorem dX6_told_66 : decode cX6_told 66 = .ok (.iconst 1, 1) := by decide +kernel
theorem dX6_told_67 : decode cX6_told 67 = .ok (.iand, 1) := by decide +kernel
theorem dX6_told_68 : decode cX6_told 68 = .ok (.iconst 1, 1) := by decide +kernel
theorem dX6_told_69 : decode cX6_told 69 = .ok (.if_icmp .ne 6, 3) := by decide +kernel
theorem dX6_told_72 : decode cX6_told 72 = .ok (.bipush (-7), 2) := by decide +kernel
theorem dX6_told_74 : decode cX6_told 74 = .ok (.ireturn, 1) := by decide +kernel
theorem dX6_told_75 : decode cX6_told 75 = .ok (.iload_n 1, 1) := by decide +kernel
theorem dX6_told_76 : decode cX6_told 76 = .ok (.iconst 1, 1) := by decide +kernel
theorem dX6_told_77 : decode cX6_told 77 = .ok (.aload_n 0, 1) := by decide +kernel
theorem dX6_told_78 : decode cX6_told 78 = .ok (.getfield 41, 3) := by decide +kernel
theorem dX6_told_81 : decode cX6_told 81 = .ok (.iload_n 2, 1) := by decide +kernel
theorem dX6_told_82 : decode cX6_told 82 = .ok (.iaload, 1) := by decide +kernel
theorem dX6_told_83 : decode cX6_told 83 = .ok (.ishl, 1) := by decide +kernel
theorem dX6_told_84 : decode cX6_told 84 = .ok (.ior, 1) := by decide +kernel
theorem dX6_told_85 : decode cX6_told 85 = .ok (.istore_n 1, 1) := by decide +kernel
theorem dX6_told_86 : decode cX6_told 86 = .ok (.iinc 2 1, 3) := by decide +kernel
theorem dX6_told_89 : decode cX6_told 89 = .ok (.goto (-67), 3) := by decide +kernel
theorem dX6_told_92 : decode cX6_told 92 = .ok (.aload_n 0, 1) := by decide +kernel
theorem dX6_told_93 : decode cX6_told 93 = .ok (.invokevirtual 129, 3) := by decide +kernel
theorem dX6_told_96 : decode cX6_told 96 = .ok (.ireturn, 1) := by decide +kernel
theorem dX6_restFrom_0 : decode cX6_restFrom 0 = .ok (.bipush (-6), 2) := by decide +kernel
theorem dX6_restFrom_2 : decode cX6_restFrom 2 = .ok (.istore_n 3, 1) := by decide +kernel
theorem dX6_restFrom_3 : decode cX6_restFrom 3 = .ok (.iconst 0, 1) := by decide +kernel
theorem dX6_restFrom_4 : decode cX6_restFrom 4 = .ok (.istore 4, 2) := by decide +kernel
theorem dX6_restFrom_6 : decode cX6_restFrom 6 = .ok (.iload 4, 2) := by decide +kernel
theorem dX6_restFrom_8 : decode cX6_restFrom 8 = .ok (.aload_n 0, 1) := by decide +kernel
theorem dX6_restFrom_9 : decode cX6_restFrom 9 = .ok (.getfield 72, 3) := by decide +kernel
theorem dX6_restFrom_12 : decode cX6_restFrom 12 = .ok (.if_icmp .ge 72, 3) := by decide +kernel
theorem dX6_restFrom_15 : decode cX6_restFrom 15 = .ok (.iload_n 1, 1) := by decide +kernel
theorem dX6_restFrom_16 : decode cX6_restFrom 16 = .ok (.iload 4, 2) := by decide +kernel
theorem dX6_restFrom_18 : decode cX6_restFrom 18 = .ok (.ishr, 1) := by decide +kernel
theorem dX6_restFrom_19 : decode cX6_restFrom 19 = .ok (.iconst 1, 1) := by decide +kernel
theorem dX6_restFrom_20 : decode cX6_restFrom 20 = .ok (.iand, 1) := by decide +kernel
theorem dX6_restFrom_21 : decode cX6_restFrom 21 = .ok (.ifCond .ne 57, 3) := by decide +kernel
theorem dX6_restFrom_24 : decode cX6_restFrom 24 = .ok (.aload_n 0, 1) := by decide +kernel
theorem dX6_restFrom_25 : decode cX6_restFrom 25 = .ok (.iload_n 2, 1) := by decide +kernel
theorem dX6_restFrom_26 : decode cX6_restFrom 26 = .ok (.bipush 10, 2) := by decide +kernel
theorem dX6_restFrom_28 : decode cX6_restFrom 28 = .ok (.if_icmp .ne 7, 3) := by decide +kernel
theorem dX6_restFrom_31 : decode cX6_restFrom 31 = .ok (.iconst (-1), 1) := by decide +kernel
theorem dX6_restFrom_32 : decode cX6_restFrom 32 = .ok (.goto 4, 3) := by decide +kernel
theorem dX6_restFrom_35 : decode cX6_restFrom 35 = .ok (.iload_n 2, 1) := by decide +kernel
theorem dX6_restFrom_36 : decode cX6_restFrom 36 = .ok (.iload 4, 2) := by decide +kernel
theorem dX6_restFrom_38 : decode cX6_restFrom 38 = .ok (.invokevirtual 123, 3) := by decide +kernel
theorem dX6_restFrom_41 : decode cX6_restFrom 41 = .ok (.aload_n 0, 1) := by decide +kernel
theorem dX6_restFrom_42 : decode cX6_restFrom 42 = .ok (.getfield 44, 3) := by decide +kernel
theorem dX6_restFrom_45 : decode cX6_restFrom 45 = .ok (.bipush 11, 2) := by decide +kernel
theorem dX6_restFrom_47 : decode cX6_restFrom 47 = .ok (.iload_n 1, 1) := by decide +kernel
theorem dX6_restFrom_48 : decode cX6_restFrom 48 = .ok (.iconst 1, 1) := by decide +kernel
theorem dX6_restFrom_49 : decode cX6_restFrom 49 = .ok (.iload 4, 2) := by decide +kernel
theorem dX6_restFrom_51 : decode cX6_restFrom 51 = .ok (.ishl, 1) := by decide +kernel
theorem dX6_restFrom_52 : decode cX6_restFrom 52 = .ok (.ior, 1) := by decide +kernel
theorem dX6_restFrom_53 : decode cX6_restFrom 53 = .ok (.imul, 1) := by decide +kernel
theorem dX6_restFrom_54 : decode cX6_restFrom 54 = .ok (.iload 4, 2) := by decide +kernel
theorem dX6_restFrom_56 : decode cX6_restFrom 56 = .ok (.iadd, 1) := by decide +kernel
theorem dX6_restFrom_57 : decode cX6_restFrom 57 = .ok (.iaload, 1) := by decide +kernel
theorem dX6_restFrom_58 : decode cX6_restFrom 58 = .ok (.iadd, 1) := by decide +kernel
theorem dX6_restFrom_59 : decode cX6_restFrom 59 = .ok (.istore 5, 2) := by decide +kernel
theorem dX6_restFrom_61 : decode cX6_restFrom 61 = .ok (.iload_n 3, 1) := by decide +kernel
theorem dX6_restFrom_62 : decode cX6_restFrom 62 = .ok (.ifCond .lt 9, 3) := by decide +kernel
theorem dX6_restFrom_65 : decode cX6_restFrom 65 = .ok (.iload 5, 2) := by decide +kernel
theorem dX6_restFrom_67 : decode cX6_restFrom 67 = .ok (.iload_n 3, 1) := by decide +kernel
theorem dX6_restFrom_68 : decode cX6_restFrom 68 = .ok (.if_icmp .ge 8, 3) := by decide +kernel
theorem dX6_restFrom_71 : decode cX6_restFrom 71 = .ok (.iload 5, 2) := by decide +kernel
theorem dX6_restFrom_73 : decode cX6_restFrom 73 = .ok (.goto 4, 3) := by decide +kernel
theorem dX6_restFrom_76 : decode cX6_restFrom 76 = .ok (.iload_n 3, 1) := by decide +kernel
theorem dX6_restFrom_77 : decode cX6_restFrom 77 = .ok (.istore_n 3, 1) := by decide +kernel
theorem dX6_restFrom_78 : decode cX6_restFrom 78 = .ok (.iinc 4 1, 3) := by decide +kernel
theorem dX6_restFrom_81 : decode cX6_restFrom 81 = .ok (.goto (-75), 3) := by decide +kernel
theorem dX6_restFrom_84 : decode cX6_restFrom 84 = .ok (.iload_n 3, 1) := by decide +kernel
theorem dX6_restFrom_85 : decode cX6_restFrom 85 = .ok (.ifCond .ge 7, 3) := by decide +kernel
theorem dX6_restFrom_88 : decode cX6_restFrom 88 = .ok (.iconst 0, 1) := by decide +kernel
theorem dX6_restFrom_89 : decode cX6_restFrom 89 = .ok (.goto 4, 3) := by decide +kernel
theorem dX6_restFrom_92 : decode cX6_restFrom 92 = .ok (.iload_n 3, 1) := by decide +kernel
theorem dX6_restFrom_93 : decode cX6_restFrom 93 = .ok (.ireturn, 1) := by decide +kernel
theorem dX6_layRest_0 : decode cX6_layRest 0 = .ok (.iconst 1, 1) := by decide +kernel
theorem dX6_layRest_1 : decode cX6_layRest 1 = .ok (.aload_n 0, 1) := by decide +kernel
theorem dX6_layRest_2 : decode cX6_layRest 2 = .ok (.getfield 72, 3) := by decide +kernel
theorem dX6_layRest_5 : decode cX6_layRest 5 = .ok (.ishl, 1) := by decide +kernel
theorem dX6_layRest_6 : decode cX6_layRest 6 = .ok (.iconst 1, 1) := by decide +kernel
theorem dX6_layRest_7 : decode cX6_layRest 7 = .ok (.isub, 1) := by decide +kernel
theorem dX6_layRest_8 : decode cX6_layRest 8 = .ok (.istore_n 1, 1) := by decide +kernel
theorem dX6_layRest_9 : decode cX6_layRest 9 = .ok (.iload_n 1, 1) := by decide +kernel
theorem dX6_layRest_10 : decode cX6_layRest 10 = .ok (.ifCond .lt 77, 3) := by decide +kernel
theorem dX6_layRest_13 : decode cX6_layRest 13 = .ok (.iconst 0, 1) := by decide +kernel
theorem dX6_layRest_14 : decode cX6_layRest 14 = .ok (.istore_n 2, 1) := by decide +kernel
theorem dX6_layRest_15 : decode cX6_layRest 15 = .ok (.iload_n 2, 1) := by decide +kernel
theorem dX6_layRest_16 : decode cX6_layRest 16 = .ok (.bipush 11, 2) := by decide +kernel
theorem dX6_layRest_18 : decode cX6_layRest 18 = .ok (.if_icmp .ge 63, 3) := by decide +kernel
theorem dX6_layRest_21 : decode cX6_layRest 21 = .ok (.iload_n 2, 1) := by decide +kernel
theorem dX6_layRest_22 : decode cX6_layRest 22 = .ok (.bipush 10, 2) := by decide +kernel
theorem dX6_layRest_24 : decode cX6_layRest 24 = .ok (.if_icmp .ne 15, 3) := by decide +kernel
theorem dX6_layRest_27 : decode cX6_layRest 27 = .ok (.iload_n 1, 1) := by decide +kernel
theorem dX6_layRest_28 : decode cX6_layRest 28 = .ok (.ifCond .ne 7, 3) := by decide +kernel
theorem dX6_layRest_31 : decode cX6_layRest 31 = .ok (.iconst 1, 1) := by decide +kernel
theorem dX6_layRest_32 : decode cX6_layRest 32 = .ok (.goto 21, 3) := by decide +kernel
theorem dX6_layRest_35 : decode cX6_layRest 35 = .ok (.iconst 0, 1) := by decide +kernel
theorem dX6_layRest_36 : decode cX6_layRest 36 = .ok (.goto 17, 3) := by decide +kernel
theorem dX6_layRest_39 : decode cX6_layRest 39 = .ok (.iload_n 1, 1) := by decide +kernel
theorem dX6_layRest_40 : decode cX6_layRest 40 = .ok (.iload_n 2, 1) := by decide +kernel
theorem dX6_layRest_41 : decode cX6_layRest 41 = .ok (.ishr, 1) := by decide +kernel
theorem dX6_layRest_42 : decode cX6_layRest 42 = .ok (.iconst 1, 1) := by decide +kernel
theorem dX6_layRest_43 : decode cX6_layRest 43 = .ok (.iand, 1) := by decide +kernel
theorem dX6_layRest_44 : decode cX6_layRest 44 = .ok (.iconst 1, 1) := by decide +kernel
theorem dX6_layRest_45 : decode cX6_layRest 45 = .ok (.if_icmp .ne 7, 3) := by decide +kernel
theorem dX6_layRest_48 : decode cX6_layRest 48 = .ok (.iconst 1, 1) := by decide +kernel
theorem dX6_layRest_49 : decode cX6_layRest 49 = .ok (.goto 4, 3) := by decide +kernel
theorem dX6_layRest_52 : decode cX6_layRest 52 = .ok (.iconst 0, 1) := by decide +kernel
theorem dX6_layRest_53 : decode cX6_layRest 53 = .ok (.istore_n 3, 1) := by decide +kernel
theorem dX6_layRest_54 : decode cX6_layRest 54 = .ok (.iload_n 3, 1) := by decide +kernel
theorem dX6_layRest_55 : decode cX6_layRest 55 = .ok (.ifCond .eq 20, 3) := by decide +kernel
theorem dX6_layRest_58 : decode cX6_layRest 58 = .ok (.aload_n 0, 1) := by decide +kernel
theorem dX6_layRest_59 : decode cX6_layRest 59 = .ok (.getfield 44, 3) := by decide +kernel
theorem dX6_layRest_62 : decode cX6_layRest 62 = .ok (.bipush 11, 2) := by decide +kernel
theorem dX6_layRest_64 : decode cX6_layRest 64 = .ok (.iload_n 1, 1) := by decide +kernel
theorem dX6_layRest_65 : decode cX6_layRest 65 = .ok (.imul, 1) := by decide +kernel
theorem dX6_layRest_66 : decode cX6_layRest 66 = .ok (.iload_n 2, 1) := by decide +kernel
theorem dX6_layRest_67 : decode cX6_layRest 67 = .ok (.iadd, 1) := by decide +kernel
theorem dX6_layRest_68 : decode cX6_layRest 68 = .ok (.aload_n 0, 1) := by decide +kernel
theorem dX6_layRest_69 : decode cX6_layRest 69 = .ok (.iload_n 1, 1) := by decide +kernel
theorem dX6_layRest_70 : decode cX6_layRest 70 = .ok (.iload_n 2, 1) := by decide +kernel
theorem dX6_layRest_71 : decode cX6_layRest 71 = .ok (.invokevirtual 132, 3) := by decide +kernel
theorem dX6_layRest_74 : decode cX6_layRest 74 = .ok (.iastore, 1) := by decide +kernel
theorem dX6_layRest_75 : decode cX6_layRest 75 = .ok (.iinc 2 1, 3) := by decide +kernel
theorem dX6_layRest_78 : decode cX6_layRest 78 = .ok (.goto (-63), 3) := by decide +kernel
theorem dX6_layRest_81 : decode cX6_layRest 81 = .ok (.iinc 1 (-1), 3) := by decide +kernel
theorem dX6_layRest_84 : decode cX6_layRest 84 = .ok (.goto (-75), 3) := by decide +kernel
theorem dX6_layRest_87 : decode cX6_layRest 87 = .ok (.return_, 1) := by decide +kernel
theorem dX6_layBest_0 : decode cX6_layBest 0 = .ok (.aload_n 0, 1) := by decide +kernel
theorem dX6_layBest_1 : decode cX6_layBest 1 = .ok (.invokevirtual 135, 3) := by decide +kernel
theorem dX6_layBest_4 : decode cX6_layBest 4 = .ok (.iconst 0, 1) := by decide +kernel
theorem dX6_layBest_5 : decode cX6_layBest 5 = .ok (.istore_n 1, 1) := by decide +kernel
theorem dX6_layBest_6 : decode cX6_layBest 6 = .ok (.bipush 10, 2) := by decide +kernel
theorem dX6_layBest_8 : decode cX6_layBest 8 = .ok (.istore_n 2, 1) := by decide +kernel
theorem dX6_layBest_9 : decode cX6_layBest 9 = .ok (.iconst 0, 1) := by decide +kernel
theorem dX6_layBest_10 : decode cX6_layBest 10 = .ok (.istore_n 3, 1) := by decide +kernel
theorem dX6_layBest_11 : decode cX6_layBest 11 = .ok (.iload_n 3, 1) := by decide +kernel
theorem dX6_layBest_12 : decode cX6_layBest 12 = .ok (.aload_n 0, 1) := by decide +kernel
theorem dX6_layBest_13 : decode cX6_layBest 13 = .ok (.getfield 72, 3) := by decide +kernel
theorem dX6_layBest_16 : decode cX6_layBest 16 = .ok (.if_icmp .ge 129, 3) := by decide +kernel
theorem dX6_layBest_19 : decode cX6_layBest 19 = .ok (.bipush (-6), 2) := by decide +kernel
theorem dX6_layBest_21 : decode cX6_layBest 21 = .ok (.istore 4, 2) := by decide +kernel
theorem dX6_layBest_23 : decode cX6_layBest 23 = .ok (.aload_n 0, 1) := by decide +kernel
theorem dX6_layBest_24 : decode cX6_layBest 24 = .ok (.getfield 72, 3) := by decide +kernel
theorem dX6_layBest_27 : decode cX6_layBest 27 = .ok (.iconst 1, 1) := by decide +kernel
theorem dX6_layBest_28 : decode cX6_layBest 28 = .ok (.isub, 1) := by decide +kernel
theorem dX6_layBest_29 : decode cX6_layBest 29 = .ok (.istore 5, 2) := by decide +kernel
theorem dX6_layBest_31 : decode cX6_layBest 31 = .ok (.iload 5, 2) := by decide +kernel
theorem dX6_layBest_33 : decode cX6_layBest 33 = .ok (.ifCond .lt 88, 3) := by decide +kernel
theorem dX6_layBest_36 : decode cX6_layBest 36 = .ok (.iload_n 1, 1) := by decide +kernel
theorem dX6_layBest_37 : decode cX6_layBest 37 = .ok (.iload 5, 2) := by decide +kernel
theorem dX6_layBest_39 : decode cX6_layBest 39 = .ok (.ishr, 1) := by decide +kernel
theorem dX6_layBest_40 : decode cX6_layBest 40 = .ok (.iconst 1, 1) := by decide +kernel
theorem dX6_layBest_41 : decode cX6_layBest 41 = .ok (.iand, 1) := by decide +kernel
theorem dX6_layBest_42 : decode cX6_layBest 42 = .ok (.ifCond .ne 56, 3) := by decide +kernel
theorem dX6_layBest_45 : decode cX6_layBest 45 = .ok (.aload_n 0, 1) := by decide +kernel
theorem dX6_layBest_46 : decode cX6_layBest 46 = .ok (.iload_n 2, 1) := by decide +kernel
theorem dX6_layBest_47 : decode cX6_layBest 47 = .ok (.bipush 10, 2) := by decide +kernel
theorem dX6_layBest_49 : decode cX6_layBest 49 = .ok (.if_icmp .ne 7, 3) := by decide +kernel
theorem dX6_layBest_52 : decode cX6_layBest 52 = .ok (.iconst (-1), 1) := by decide +kernel
theorem dX6_layBest_53 : decode cX6_layBest 53 = .ok (.goto 4, 3) := by decide +kernel
theorem dX6_layBest_56 : decode cX6_layBest 56 = .ok (.iload_n 2, 1) := by decide +kernel
theorem dX6_layBest_57 : decode cX6_layBest 57 = .ok (.iload 5, 2) := by decide +kernel
theorem dX6_layBest_59 : decode cX6_layBest 59 = .ok (.invokevirtual 123, 3) := by decide +kernel
theorem dX6_layBest_62 : decode cX6_layBest 62 = .ok (.aload_n 0, 1) := by decide +kernel
theorem dX6_layBest_63 : decode cX6_layBest 63 = .ok (.getfield 44, 3) := by decide +kernel
theorem dX6_layBest_66 : decode cX6_layBest 66 = .ok (.bipush 11, 2) := by decide +kernel
theorem dX6_layBest_68 : decode cX6_layBest 68 = .ok (.iload_n 1, 1) := by decide +kernel
theorem dX6_layBest_69 : decode cX6_layBest 69 = .ok (.iconst 1, 1) := by decide +kernel
theorem dX6_layBest_70 : decode cX6_layBest 70 = .ok (.iload 5, 2) := by decide +kernel
theorem dX6_layBest_72 : decode cX6_layBest 72 = .ok (.ishl, 1) := by decide +kernel
theorem dX6_layBest_73 : decode cX6_layBest 73 = .ok (.ior, 1) := by decide +kernel
theorem dX6_layBest_74 : decode cX6_layBest 74 = .ok (.imul, 1) := by decide +kernel
theorem dX6_layBest_75 : decode cX6_layBest 75 = .ok (.iload 5, 2) := by decide +kernel
theorem dX6_layBest_77 : decode cX6_layBest 77 = .ok (.iadd, 1) := by decide +kernel
theorem dX6_layBest_78 : decode cX6_layBest 78 = .ok (.iaload, 1) := by decide +kernel
theorem dX6_layBest_79 : decode cX6_layBest 79 = .ok (.iadd, 1) := by decide +kernel
theorem dX6_layBest_80 : decode cX6_layBest 80 = .ok (.aload_n 0, 1) := by decide +kernel
theorem dX6_layBest_81 : decode cX6_layBest 81 = .ok (.getfield 44, 3) := by decide +kernel
theorem dX6_layBest_84 : decode cX6_layBest 84 = .ok (.bipush 11, 2) := by decide +kernel
theorem dX6_layBest_86 : decode cX6_layBest 86 = .ok (.iload_n 1, 1) := by decide +kernel
theorem dX6_layBest_87 : decode cX6_layBest 87 = .ok (.imul, 1) := by decide +kernel
theorem dX6_layBest_88 : decode cX6_layBest 88 = .ok (.iload_n 2, 1) := by decide +kernel
theorem dX6_layBest_89 : decode cX6_layBest 89 = .ok (.iadd, 1) := by decide +kernel
theorem dX6_layBest_90 : decode cX6_layBest 90 = .ok (.iaload, 1) := by decide +kernel
theorem dX6_layBest_91 : decode cX6_layBest 91 = .ok (.if_icmp .ne 7, 3) := by decide +kernel
theorem dX6_layBest_94 : decode cX6_layBest 94 = .ok (.iconst 1, 1) := by decide +kernel
theorem dX6_layBest_95 : decode cX6_layBest 95 = .ok (.goto 4, 3) := by decide +kernel
theorem dX6_layBest_98 : decode cX6_layBest 98 = .ok (.iconst 0, 1) := by decide +kernel
theorem dX6_layBest_99 : decode cX6_layBest 99 = .ok (.istore 6, 2) := by decide +kernel
theorem dX6_layBest_101 : decode cX6_layBest 101 = .ok (.iload 6, 2) := by decide +kernel
theorem dX6_layBest_103 : decode cX6_layBest 103 = .ok (.ifCond .eq 8, 3) := by decide +kernel
theorem dX6_layBest_106 : decode cX6_layBest 106 = .ok (.iload 5, 2) := by decide +kernel
theorem dX6_layBest_108 : decode cX6_layBest 108 = .ok (.goto 5, 3) := by decide +kernel
theorem dX6_layBest_111 : decode cX6_layBest 111 = .ok (.iload 4, 2) := by decide +kernel
theorem dX6_layBest_113 : decode cX6_layBest 113 = .ok (.istore 4, 2) := by decide +kernel
theorem dX6_layBest_115 : decode cX6_layBest 115 = .ok (.iinc 5 (-1), 3) := by decide +kernel
theorem dX6_layBest_118 : decode cX6_layBest 118 = .ok (.goto (-87), 3) := by decide +kernel
theorem dX6_layBest_121 : decode cX6_layBest 121 = .ok (.aload_n 0, 1) := by decide +kernel
theorem dX6_layBest_122 : decode cX6_layBest 122 = .ok (.getfield 41, 3) := by decide +kernel
theorem dX6_layBest_125 : decode cX6_layBest 125 = .ok (.iload_n 3, 1) := by decide +kernel
theorem dX6_layBest_126 : decode cX6_layBest 126 = .ok (.iload 4, 2) := by decide +kernel
theorem dX6_layBest_128 : decode cX6_layBest 128 = .ok (.iastore, 1) := by decide +kernel
theorem dX6_layBest_129 : decode cX6_layBest 129 = .ok (.iload_n 1, 1) := by decide +kernel
theorem dX6_layBest_130 : decode cX6_layBest 130 = .ok (.iconst 1, 1) := by decide +kernel
theorem dX6_layBest_131 : decode cX6_layBest 131 = .ok (.iload 4, 2) := by decide +kernel
theorem dX6_layBest_133 : decode cX6_layBest 133 = .ok (.ishl, 1) := by decide +kernel
theorem dX6_layBest_134 : decode cX6_layBest 134 = .ok (.ior, 1) := by decide +kernel
theorem dX6_layBest_135 : decode cX6_layBest 135 = .ok (.istore_n 1, 1) := by decide +kernel
theorem dX6_layBest_136 : decode cX6_layBest 136 = .ok (.iload 4, 2) := by decide +kernel
theorem dX6_layBest_138 : decode cX6_layBest 138 = .ok (.istore_n 2, 1) := by decide +kernel
theorem dX6_layBest_139 : decode cX6_layBest 139 = .ok (.iinc 3 1, 3) := by decide +kernel
theorem dX6_layBest_142 : decode cX6_layBest 142 = .ok (.goto (-131), 3) := by decide +kernel
theorem dX6_layBest_145 : decode cX6_layBest 145 = .ok (.return_, 1) := by decide +kernel
theorem dX6_orderAt_0 : decode cX6_orderAt 0 = .ok (.iload_n 1, 1) := by decide +kernel
theorem dX6_orderAt_1 : decode cX6_orderAt 1 = .ok (.iconst (-1), 1) := by decide +kernel
theorem dX6_orderAt_2 : decode cX6_orderAt 2 = .ok (.if_icmp .ne 10, 3) := by decide +kernel
theorem dX6_orderAt_5 : decode cX6_orderAt 5 = .ok (.aload_n 0, 1) := by decide +kernel
theorem dX6_orderAt_6 : decode cX6_orderAt 6 = .ok (.invokevirtual 129, 3) := by decide +kernel
theorem dX6_orderAt_9 : decode cX6_orderAt 9 = .ok (.goto 22, 3) := by decide +kernel
theorem dX6_orderAt_12 : decode cX6_orderAt 12 = .ok (.iload_n 1, 1) := by decide +kernel
theorem dX6_orderAt_13 : decode cX6_orderAt 13 = .ok (.aload_n 0, 1) := by decide +kernel
theorem dX6_orderAt_14 : decode cX6_orderAt 14 = .ok (.getfield 72, 3) := by decide +kernel
theorem dX6_orderAt_17 : decode cX6_orderAt 17 = .ok (.if_icmp .ge 12, 3) := by decide +kernel
theorem dX6_orderAt_20 : decode cX6_orderAt 20 = .ok (.aload_n 0, 1) := by decide +kernel
theorem dX6_orderAt_21 : decode cX6_orderAt 21 = .ok (.getfield 41, 3) := by decide +kernel
theorem dX6_orderAt_24 : decode cX6_orderAt 24 = .ok (.iload_n 1, 1) := by decide +kernel
theorem dX6_orderAt_25 : decode cX6_orderAt 25 = .ok (.iaload, 1) := by decide +kernel
theorem dX6_orderAt_26 : decode cX6_orderAt 26 = .ok (.goto 5, 3) := by decide +kernel
theorem dX6_orderAt_29 : decode cX6_orderAt 29 = .ok (.bipush (-6), 2) := by decide +kernel
theorem dX6_orderAt_31 : decode cX6_orderAt 31 = .ok (.ireturn, 1) := by decide +kernel
theorem dX6_best_0 : decode cX6_best 0 = .ok (.iload_n 1, 1) := by decide +kernel
theorem dX6_best_1 : decode cX6_best 1 = .ok (.iconst (-1), 1) := by decide +kernel
theorem dX6_best_2 : decode cX6_best 2 = .ok (.if_icmp .ge 6, 3) := by decide +kernel
theorem dX6_best_5 : decode cX6_best 5 = .ok (.bipush (-2), 2) := by decide +kernel
theorem dX6_best_7 : decode cX6_best 7 = .ok (.ireturn, 1) := by decide +kernel
theorem dX6_best_8 : decode cX6_best 8 = .ok (.aload_n 0, 1) := by decide +kernel
theorem dX6_best_9 : decode cX6_best 9 = .ok (.invokevirtual 107, 3) := by decide +kernel
theorem dX6_best_12 : decode cX6_best 12 = .ok (.aload_n 0, 1) := by decide +kernel
theorem dX6_best_13 : decode cX6_best 13 = .ok (.invokevirtual 138, 3) := by decide +kernel
theorem dX6_best_16 : decode cX6_best 16 = .ok (.aload_n 0, 1) := by decide +kernel
theorem dX6_best_17 : decode cX6_best 17 = .ok (.iload_n 1, 1) := by decide +kernel
theorem dX6_best_18 : decode cX6_best 18 = .ok (.invokevirtual 141, 3) := by decide +kernel
theorem dX6_best_21 : decode cX6_best 21 = .ok (.ireturn, 1) := by decide +kernel
theorem dX6_nearest_0 : decode cX6_nearest 0 = .ok (.iload_n 1, 1) := by decide +kernel
theorem dX6_nearest_1 : decode cX6_nearest 1 = .ok (.iconst (-1), 1) := by decide +kernel
theorem dX6_nearest_2 : decode cX6_nearest 2 = .ok (.if_icmp .ge 6, 3) := by decide +kernel
theorem dX6_nearest_5 : decode cX6_nearest 5 = .ok (.bipush (-2), 2) := by decide +kernel
theorem dX6_nearest_7 : decode cX6_nearest 7 = .ok (.ireturn, 1) := by decide +kernel
theorem dX6_nearest_8 : decode cX6_nearest 8 = .ok (.aload_n 0, 1) := by decide +kernel
theorem dX6_nearest_9 : decode cX6_nearest 9 = .ok (.invokevirtual 107, 3) := by decide +kernel
theorem dX6_nearest_12 : decode cX6_nearest 12 = .ok (.iconst 0, 1) := by decide +kernel
theorem dX6_nearest_13 : decode cX6_nearest 13 = .ok (.istore_n 2, 1) := by decide +kernel
theorem dX6_nearest_14 : decode cX6_nearest 14 = .ok (.iconst 0, 1) := by decide +kernel
theorem dX6_nearest_15 : decode cX6_nearest 15 = .ok (.istore_n 3, 1) := by decide +kernel
theorem dX6_nearest_16 : decode cX6_nearest 16 = .ok (.iload_n 3, 1) := by decide +kernel
theorem dX6_nearest_17 : decode cX6_nearest 17 = .ok (.aload_n 0, 1) := by decide +kernel
theorem dX6_nearest_18 : decode cX6_nearest 18 = .ok (.getfield 72, 3) := by decide +kernel
theorem dX6_nearest_21 : decode cX6_nearest 21 = .ok (.if_icmp .ge 118, 3) := by decide +kernel
theorem dX6_nearest_24 : decode cX6_nearest 24 = .ok (.iload_n 3, 1) := by decide +kernel
theorem dX6_nearest_25 : decode cX6_nearest 25 = .ok (.ifCond .ne 7, 3) := by decide +kernel
theorem dX6_nearest_28 : decode cX6_nearest 28 = .ok (.iconst (-1), 1) := by decide +kernel
theorem dX6_nearest_29 : decode cX6_nearest 29 = .ok (.goto 11, 3) := by decide +kernel
theorem dX6_nearest_32 : decode cX6_nearest 32 = .ok (.aload_n 0, 1) := by decide +kernel
theorem dX6_nearest_33 : decode cX6_nearest 33 = .ok (.getfield 41, 3) := by decide +kernel
theorem dX6_nearest_36 : decode cX6_nearest 36 = .ok (.iload_n 3, 1) := by decide +kernel
theorem dX6_nearest_37 : decode cX6_nearest 37 = .ok (.iconst 1, 1) := by decide +kernel
theorem dX6_nearest_38 : decode cX6_nearest 38 = .ok (.isub, 1) := by decide +kernel
theorem dX6_nearest_39 : decode cX6_nearest 39 = .ok (.iaload, 1) := by decide +kernel
theorem dX6_nearest_40 : decode cX6_nearest 40 = .ok (.istore 4, 2) := by decide +kernel
theorem dX6_nearest_42 : decode cX6_nearest 42 = .ok (.bipush (-6), 2) := by decide +kernel
theorem dX6_nearest_44 : decode cX6_nearest 44 = .ok (.istore 5, 2) := by decide +kernel
theorem dX6_nearest_46 : decode cX6_nearest 46 = .ok (.iconst 0, 1) := by decide +kernel
theorem dX6_nearest_47 : decode cX6_nearest 47 = .ok (.istore 6, 2) := by decide +kernel
theorem dX6_nearest_49 : decode cX6_nearest 49 = .ok (.iload 6, 2) := by decide +kernel
theorem dX6_nearest_51 : decode cX6_nearest 51 = .ok (.aload_n 0, 1) := by decide +kernel
theorem dX6_nearest_52 : decode cX6_nearest 52 = .ok (.getfield 72, 3) := by decide +kernel
theorem dX6_nearest_55 : decode cX6_nearest 55 = .ok (.if_icmp .ge 63, 3) := by decide +kernel
theorem dX6_nearest_58 : decode cX6_nearest 58 = .ok (.iload_n 2, 1) := by decide +kernel
theorem dX6_nearest_59 : decode cX6_nearest 59 = .ok (.iload 6, 2) := by decide +kernel
theorem dX6_nearest_61 : decode cX6_nearest 61 = .ok (.ishr, 1) := by decide +kernel
theorem dX6_nearest_62 : decode cX6_nearest 62 = .ok (.iconst 1, 1) := by decide +kernel
theorem dX6_nearest_63 : decode cX6_nearest 63 = .ok (.iand, 1) := by decide +kernel
theorem dX6_nearest_64 : decode cX6_nearest 64 = .ok (.ifCond .ne 31, 3) := by decide +kernel
theorem dX6_nearest_67 : decode cX6_nearest 67 = .ok (.iload 5, 2) := by decide +kernel
theorem dX6_nearest_69 : decode cX6_nearest 69 = .ok (.ifCond .lt 22, 3) := by decide +kernel
theorem dX6_nearest_72 : decode cX6_nearest 72 = .ok (.aload_n 0, 1) := by decide +kernel
theorem dX6_nearest_73 : decode cX6_nearest 73 = .ok (.iload 4, 2) := by decide +kernel
theorem dX6_nearest_75 : decode cX6_nearest 75 = .ok (.iload 6, 2) := by decide +kernel
theorem dX6_nearest_77 : decode cX6_nearest 77 = .ok (.invokevirtual 123, 3) := by decide +kernel
theorem dX6_nearest_80 : decode cX6_nearest 80 = .ok (.aload_n 0, 1) := by decide +kernel
theorem dX6_nearest_81 : decode cX6_nearest 81 = .ok (.iload 4, 2) := by decide +kernel
theorem dX6_nearest_83 : decode cX6_nearest 83 = .ok (.iload 5, 2) := by decide +kernel
theorem dX6_nearest_85 : decode cX6_nearest 85 = .ok (.invokevirtual 123, 3) := by decide +kernel
theorem dX6_nearest_88 : decode cX6_nearest 88 = .ok (.if_icmp .ge 7, 3) := by decide +kernel
theorem dX6_nearest_91 : decode cX6_nearest 91 = .ok (.iconst 1, 1) := by decide +kernel
theorem dX6_nearest_92 : decode cX6_nearest 92 = .ok (.goto 4, 3) := by decide +kernel
theorem dX6_nearest_95 : decode cX6_nearest 95 = .ok (.iconst 0, 1) := by decide +kernel
theorem dX6_nearest_96 : decode cX6_nearest 96 = .ok (.istore 7, 2) := by decide +kernel
theorem dX6_nearest_98 : decode cX6_nearest 98 = .ok (.iload 7, 2) := by decide +kernel
theorem dX6_nearest_100 : decode cX6_nearest 100 = .ok (.ifCond .eq 8, 3) := by decide +kernel
theorem dX6_nearest_103 : decode cX6_nearest 103 = .ok (.iload 6, 2) := by decide +kernel
theorem dX6_nearest_105 : decode cX6_nearest 105 = .ok (.goto 5, 3) := by decide +kernel
theorem dX6_nearest_108 : decode cX6_nearest 108 = .ok (.iload 5, 2) := by decide +kernel
theorem dX6_nearest_110 : decode cX6_nearest 110 = .ok (.istore 5, 2) := by decide +kernel
theorem dX6_nearest_112 : decode cX6_nearest 112 = .ok (.iinc 6 1, 3) := by decide +kernel
theorem dX6_nearest_115 : decode cX6_nearest 115 = .ok (.goto (-66), 3) := by decide +kernel
theorem dX6_nearest_118 : decode cX6_nearest 118 = .ok (.aload_n 0, 1) := by decide +kernel
theorem dX6_nearest_119 : decode cX6_nearest 119 = .ok (.getfield 41, 3) := by decide +kernel
theorem dX6_nearest_122 : decode cX6_nearest 122 = .ok (.iload_n 3, 1) := by decide +kernel
theorem dX6_nearest_123 : decode cX6_nearest 123 = .ok (.iload 5, 2) := by decide +kernel
theorem dX6_nearest_125 : decode cX6_nearest 125 = .ok (.iastore, 1) := by decide +kernel
theorem dX6_nearest_126 : decode cX6_nearest 126 = .ok (.iload_n 2, 1) := by decide +kernel
theorem dX6_nearest_127 : decode cX6_nearest 127 = .ok (.iconst 1, 1) := by decide +kernel
theorem dX6_nearest_128 : decode cX6_nearest 128 = .ok (.iload 5, 2) := by decide +kernel
theorem dX6_nearest_130 : decode cX6_nearest 130 = .ok (.ishl, 1) := by decide +kernel
theorem dX6_nearest_131 : decode cX6_nearest 131 = .ok (.ior, 1) := by decide +kernel
theorem dX6_nearest_132 : decode cX6_nearest 132 = .ok (.istore_n 2, 1) := by decide +kernel
theorem dX6_nearest_133 : decode cX6_nearest 133 = .ok (.iinc 3 1, 3) := by decide +kernel
theorem dX6_nearest_136 : decode cX6_nearest 136 = .ok (.goto (-120), 3) := by decide +kernel
theorem dX6_nearest_139 : decode cX6_nearest 139 = .ok (.aload_n 0, 1) := by decide +kernel
theorem dX6_nearest_140 : decode cX6_nearest 140 = .ok (.iload_n 1, 1) := by decide +kernel
theorem dX6_nearest_141 : decode cX6_nearest 141 = .ok (.invokevirtual 141, 3) := by decide +kernel
theorem dX6_nearest_144 : decode cX6_nearest 144 = .ok (.ireturn, 1) := by decide +kernel
theorem dX6_looseMany_0 : decode cX6_looseMany 0 = .ok (.iconst 0, 1) := by decide +kernel
theorem dX6_looseMany_1 : decode cX6_looseMany 1 = .ok (.istore_n 1, 1) := by decide +kernel
theorem dX6_looseMany_2 : decode cX6_looseMany 2 = .ok (.iconst 0, 1) := by decide +kernel
theorem dX6_looseMany_3 : decode cX6_looseMany 3 = .ok (.istore_n 2, 1) := by decide +kernel
theorem dX6_looseMany_4 : decode cX6_looseMany 4 = .ok (.iload_n 2, 1) := by decide +kernel
theorem dX6_looseMany_5 : decode cX6_looseMany 5 = .ok (.aload_n 0, 1) := by decide +kernel
theorem dX6_looseMany_6 : decode cX6_looseMany 6 = .ok (.getfield 7, 3) := by decide +kernel
theorem dX6_looseMany_9 : decode cX6_looseMany 9 = .ok (.iconst 0, 1) := by decide +kernel
theorem dX6_looseMany_10 : decode cX6_looseMany 10 = .ok (.iaload, 1) := by decide +kernel
theorem dX6_looseMany_11 : decode cX6_looseMany 11 = .ok (.if_icmp .ge 21, 3) := by decide +kernel
theorem dX6_looseMany_14 : decode cX6_looseMany 14 = .ok (.iload_n 1, 1) := by decide +kernel
theorem dX6_looseMany_15 : decode cX6_looseMany 15 = .ok (.aload_n 0, 1) := by decide +kernel
theorem dX6_looseMany_16 : decode cX6_looseMany 16 = .ok (.getfield 7, 3) := by decide +kernel
theorem dX6_looseMany_19 : decode cX6_looseMany 19 = .ok (.bipush 25, 2) := by decide +kernel
theorem dX6_looseMany_21 : decode cX6_looseMany 21 = .ok (.iload_n 2, 1) := by decide +kernel
theorem dX6_looseMany_22 : decode cX6_looseMany 22 = .ok (.iadd, 1) := by decide +kernel
theorem dX6_looseMany_23 : decode cX6_looseMany 23 = .ok (.iaload, 1) := by decide +kernel
theorem dX6_looseMany_24 : decode cX6_looseMany 24 = .ok (.iadd, 1) := by decide +kernel
theorem dX6_looseMany_25 : decode cX6_looseMany 25 = .ok (.istore_n 1, 1) := by decide +kernel
theorem dX6_looseMany_26 : decode cX6_looseMany 26 = .ok (.iinc 2 1, 3) := by decide +kernel
theorem dX6_looseMany_29 : decode cX6_looseMany 29 = .ok (.goto (-25), 3) := by decide +kernel
theorem dX6_looseMany_32 : decode cX6_looseMany 32 = .ok (.iload_n 1, 1) := by decide +kernel
theorem dX6_looseMany_33 : decode cX6_looseMany 33 = .ok (.ireturn, 1) := by decide +kernel
theorem dX6_loosen_0 : decode cX6_loosen 0 = .ok (.aload_n 0, 1) := by decide +kernel
theorem dX6_loosen_1 : decode cX6_loosen 1 = .ok (.iload_n 1, 1) := by decide +kernel
theorem dX6_loosen_2 : decode cX6_loosen 2 = .ok (.invokevirtual 65, 3) := by decide +kernel
theorem dX6_loosen_5 : decode cX6_loosen 5 = .ok (.ifCond .ne 5, 3) := by decide +kernel
theorem dX6_loosen_8 : decode cX6_loosen 8 = .ok (.iconst (-1), 1) := by decide +kernel
theorem dX6_loosen_9 : decode cX6_loosen 9 = .ok (.ireturn, 1) := by decide +kernel
theorem dX6_loosen_10 : decode cX6_loosen 10 = .ok (.iload_n 2, 1) := by decide +kernel
theorem dX6_loosen_11 : decode cX6_loosen 11 = .ok (.iconst 0, 1) := by decide +kernel
theorem dX6_loosen_12 : decode cX6_loosen 12 = .ok (.iconst 1, 1) := by decide +kernel
theorem dX6_loosen_13 : decode cX6_loosen 13 = .ok (.invokestatic 53, 3) := by decide +kernel
theorem dX6_loosen_16 : decode cX6_loosen 16 = .ok (.ifCond .ne 6, 3) := by decide +kernel
theorem dX6_loosen_19 : decode cX6_loosen 19 = .ok (.bipush (-2), 2) := by decide +kernel
theorem dX6_loosen_21 : decode cX6_loosen 21 = .ok (.ireturn, 1) := by decide +kernel
theorem dX6_loosen_22 : decode cX6_loosen 22 = .ok (.aload_n 0, 1) := by decide +kernel
theorem dX6_loosen_23 : decode cX6_loosen 23 = .ok (.getfield 7, 3) := by decide +kernel
theorem dX6_loosen_26 : decode cX6_loosen 26 = .ok (.bipush 25, 2) := by decide +kernel
theorem dX6_loosen_28 : decode cX6_loosen 28 = .ok (.iload_n 1, 1) := by decide +kernel
theorem dX6_loosen_29 : decode cX6_loosen 29 = .ok (.iadd, 1) := by decide +kernel
theorem dX6_loosen_30 : decode cX6_loosen 30 = .ok (.iload_n 2, 1) := by decide +kernel
theorem dX6_loosen_31 : decode cX6_loosen 31 = .ok (.iastore, 1) := by decide +kernel
theorem dX6_loosen_32 : decode cX6_loosen 32 = .ok (.aload_n 0, 1) := by decide +kernel
theorem dX6_loosen_33 : decode cX6_loosen 33 = .ok (.invokevirtual 144, 3) := by decide +kernel
theorem dX6_loosen_36 : decode cX6_loosen 36 = .ok (.ireturn, 1) := by decide +kernel
theorem dX6_shortMany_0 : decode cX6_shortMany 0 = .ok (.iconst 0, 1) := by decide +kernel
theorem dX6_shortMany_1 : decode cX6_shortMany 1 = .ok (.istore_n 1, 1) := by decide +kernel
theorem dX6_shortMany_2 : decode cX6_shortMany 2 = .ok (.iconst 0, 1) := by decide +kernel
theorem dX6_shortMany_3 : decode cX6_shortMany 3 = .ok (.istore_n 2, 1) := by decide +kernel
theorem dX6_shortMany_4 : decode cX6_shortMany 4 = .ok (.iload_n 2, 1) := by decide +kernel
theorem dX6_shortMany_5 : decode cX6_shortMany 5 = .ok (.bipush 6, 2) := by decide +kernel
theorem dX6_shortMany_7 : decode cX6_shortMany 7 = .ok (.if_icmp .ge 21, 3) := by decide +kernel
theorem dX6_shortMany_10 : decode cX6_shortMany 10 = .ok (.iload_n 1, 1) := by decide +kernel
theorem dX6_shortMany_11 : decode cX6_shortMany 11 = .ok (.aload_n 0, 1) := by decide +kernel
theorem dX6_shortMany_12 : decode cX6_shortMany 12 = .ok (.getfield 7, 3) := by decide +kernel
theorem dX6_shortMany_15 : decode cX6_shortMany 15 = .ok (.bipush 34, 2) := by decide +kernel
theorem dX6_shortMany_17 : decode cX6_shortMany 17 = .ok (.iload_n 2, 1) := by decide +kernel
theorem dX6_shortMany_18 : decode cX6_shortMany 18 = .ok (.iadd, 1) := by decide +kernel
theorem dX6_shortMany_19 : decode cX6_shortMany 19 = .ok (.iaload, 1) := by decide +kernel
theorem dX6_shortMany_20 : decode cX6_shortMany 20 = .ok (.iadd, 1) := by decide +kernel
theorem dX6_shortMany_21 : decode cX6_shortMany 21 = .ok (.istore_n 1, 1) := by decide +kernel
theorem dX6_shortMany_22 : decode cX6_shortMany 22 = .ok (.iinc 2 1, 3) := by decide +kernel
theorem dX6_shortMany_25 : decode cX6_shortMany 25 = .ok (.goto (-21), 3) := by decide +kernel
theorem dX6_shortMany_28 : decode cX6_shortMany 28 = .ok (.iload_n 1, 1) := by decide +kernel
theorem dX6_shortMany_29 : decode cX6_shortMany 29 = .ok (.ireturn, 1) := by decide +kernel
theorem dX6_join__0 : decode cX6_join_ 0 = .ok (.iload_n 1, 1) := by decide +kernel
theorem dX6_join__1 : decode cX6_join_ 1 = .ok (.invokestatic 57, 3) := by decide +kernel
theorem dX6_join__4 : decode cX6_join_ 4 = .ok (.ifCond .eq 10, 3) := by decide +kernel
theorem dX6_join__7 : decode cX6_join_ 7 = .ok (.iload_n 2, 1) := by decide +kernel
theorem dX6_join__8 : decode cX6_join_ 8 = .ok (.invokestatic 57, 3) := by decide +kernel
theorem dX6_join__11 : decode cX6_join_ 11 = .ok (.ifCond .ne 5, 3) := by decide +kernel
theorem dX6_join__14 : decode cX6_join_ 14 = .ok (.iconst (-1), 1) := by decide +kernel
theorem dX6_join__15 : decode cX6_join_ 15 = .ok (.ireturn, 1) := by decide +kernel
theorem dX6_join__16 : decode cX6_join_ 16 = .ok (.iload_n 1, 1) := by decide +kernel
theorem dX6_join__17 : decode cX6_join_ 17 = .ok (.iload_n 2, 1) := by decide +kernel
theorem dX6_join__18 : decode cX6_join_ 18 = .ok (.if_icmp .eq 12, 3) := by decide +kernel
theorem dX6_join__21 : decode cX6_join_ 21 = .ok (.iload_n 3, 1) := by decide +kernel
theorem dX6_join__22 : decode cX6_join_ 22 = .ok (.iconst 0, 1) := by decide +kernel
theorem dX6_join__23 : decode cX6_join_ 23 = .ok (.iconst 1, 1) := by decide +kernel
theorem dX6_join__24 : decode cX6_join_ 24 = .ok (.invokestatic 53, 3) := by decide +kernel
theorem dX6_join__27 : decode cX6_join_ 27 = .ok (.ifCond .ne 6, 3) := by decide +kernel
theorem dX6_join__30 : decode cX6_join_ 30 = .ok (.bipush (-2), 2) := by decide +kernel
theorem dX6_join__32 : decode cX6_join_ 32 = .ok (.ireturn, 1) := by decide +kernel
theorem dX6_join__33 : decode cX6_join_ 33 = .ok (.aload_n 0, 1) := by decide +kernel
theorem dX6_join__34 : decode cX6_join_ 34 = .ok (.getfield 7, 3) := by decide +kernel
theorem dX6_join__37 : decode cX6_join_ 37 = .ok (.bipush 34, 2) := by decide +kernel
theorem dX6_join__39 : decode cX6_join_ 39 = .ok (.iload_n 1, 1) := by decide +kernel
theorem dX6_join__40 : decode cX6_join_ 40 = .ok (.iload_n 2, 1) := by decide +kernel
theorem dX6_join__41 : decode cX6_join_ 41 = .ok (.invokestatic 98, 3) := by decide +kernel
theorem dX6_join__44 : decode cX6_join_ 44 = .ok (.iadd, 1) := by decide +kernel
theorem dX6_join__45 : decode cX6_join_ 45 = .ok (.iload_n 3, 1) := by decide +kernel
theorem dX6_join__46 : decode cX6_join_ 46 = .ok (.iastore, 1) := by decide +kernel
theorem dX6_join__47 : decode cX6_join_ 47 = .ok (.aload_n 0, 1) := by decide +kernel
theorem dX6_join__48 : decode cX6_join_ 48 = .ok (.invokevirtual 147, 3) := by decide +kernel
theorem dX6_join__51 : decode cX6_join_ 51 = .ok (.ireturn, 1) := by decide +kernel
theorem dX6_sees_0 : decode cX6_sees 0 = .ok (.aload_n 0, 1) := by decide +kernel
theorem dX6_sees_1 : decode cX6_sees 1 = .ok (.invokevirtual 107, 3) := by decide +kernel
theorem dX6_sees_4 : decode cX6_sees 4 = .ok (.aload_n 0, 1) := by decide +kernel
theorem dX6_sees_5 : decode cX6_sees 5 = .ok (.invokevirtual 113, 3) := by decide +kernel
theorem dX6_sees_8 : decode cX6_sees 8 = .ok (.ireturn, 1) := by decide +kernel
theorem dX6_isSingle_0 : decode cX6_isSingle 0 = .ok (.aload_n 0, 1) := by decide +kernel
theorem dX6_isSingle_1 : decode cX6_isSingle 1 = .ok (.iload_n 1, 1) := by decide +kernel
theorem dX6_isSingle_2 : decode cX6_isSingle 2 = .ok (.invokevirtual 65, 3) := by decide +kernel
theorem dX6_isSingle_5 : decode cX6_isSingle 5 = .ok (.ifCond .ne 14, 3) := by decide +kernel
theorem dX6_isSingle_8 : decode cX6_isSingle 8 = .ok (.iload_n 1, 1) := by decide +kernel
theorem dX6_isSingle_9 : decode cX6_isSingle 9 = .ok (.bipush 20, 2) := by decide +kernel
theorem dX6_isSingle_11 : decode cX6_isSingle 11 = .ok (.bipush 25, 2) := by decide +kernel
theorem dX6_isSingle_13 : decode cX6_isSingle 13 = .ok (.invokestatic 53, 3) := by decide +kernel
theorem dX6_isSingle_16 : decode cX6_isSingle 16 = .ok (.ifCond .eq 7, 3) := by decide +kernel
theorem dX6_isSingle_19 : decode cX6_isSingle 19 = .ok (.iconst 1, 1) := by decide +kernel
theorem dX6_isSingle_20 : decode cX6_isSingle 20 = .ok (.goto 4, 3) := by decide +kernel
theorem dX6_isSingle_23 : decode cX6_isSingle 23 = .ok (.iconst 0, 1) := by decide +kernel
theorem dX6_isSingle_24 : decode cX6_isSingle 24 = .ok (.ireturn, 1) := by decide +kernel
theorem dX6_seenBy_0 : decode cX6_seenBy 0 = .ok (.iconst 0, 1) := by decide +kernel
theorem dX6_seenBy_1 : decode cX6_seenBy 1 = .ok (.istore_n 2, 1) := by decide +kernel
theorem dX6_seenBy_2 : decode cX6_seenBy 2 = .ok (.iload_n 2, 1) := by decide +kernel
theorem dX6_seenBy_3 : decode cX6_seenBy 3 = .ok (.bipush 40, 2) := by decide +kernel
theorem dX6_seenBy_5 : decode cX6_seenBy 5 = .ok (.if_icmp .ge 21, 3) := by decide +kernel
theorem dX6_seenBy_8 : decode cX6_seenBy 8 = .ok (.aload_n 0, 1) := by decide +kernel
theorem dX6_seenBy_9 : decode cX6_seenBy 9 = .ok (.getfield 47, 3) := by decide +kernel
theorem dX6_seenBy_12 : decode cX6_seenBy 12 = .ok (.iload_n 2, 1) := by decide +kernel
theorem dX6_seenBy_13 : decode cX6_seenBy 13 = .ok (.aload_n 0, 1) := by decide +kernel
theorem dX6_seenBy_14 : decode cX6_seenBy 14 = .ok (.getfield 7, 3) := by decide +kernel
theorem dX6_seenBy_17 : decode cX6_seenBy 17 = .ok (.iload_n 2, 1) := by decide +kernel
theorem dX6_seenBy_18 : decode cX6_seenBy 18 = .ok (.iaload, 1) := by decide +kernel
theorem dX6_seenBy_19 : decode cX6_seenBy 19 = .ok (.iastore, 1) := by decide +kernel
theorem dX6_seenBy_20 : decode cX6_seenBy 20 = .ok (.iinc 2 1, 3) := by decide +kernel
theorem dX6_seenBy_23 : decode cX6_seenBy 23 = .ok (.goto (-21), 3) := by decide +kernel
theorem dX6_seenBy_26 : decode cX6_seenBy 26 = .ok (.iconst 0, 1) := by decide +kernel
theorem dX6_seenBy_27 : decode cX6_seenBy 27 = .ok (.istore_n 2, 1) := by decide +kernel
theorem dX6_seenBy_28 : decode cX6_seenBy 28 = .ok (.iload_n 2, 1) := by decide +kernel
theorem dX6_seenBy_29 : decode cX6_seenBy 29 = .ok (.bipush 8, 2) := by decide +kernel
theorem dX6_seenBy_31 : decode cX6_seenBy 31 = .ok (.if_icmp .ge 28, 3) := by decide +kernel
theorem dX6_seenBy_34 : decode cX6_seenBy 34 = .ok (.aload_n 0, 1) := by decide +kernel
theorem dX6_seenBy_35 : decode cX6_seenBy 35 = .ok (.getfield 7, 3) := by decide +kernel
theorem dX6_seenBy_38 : decode cX6_seenBy 38 = .ok (.bipush 25, 2) := by decide +kernel
theorem dX6_seenBy_40 : decode cX6_seenBy 40 = .ok (.iload_n 2, 1) := by decide +kernel
theorem dX6_seenBy_41 : decode cX6_seenBy 41 = .ok (.iadd, 1) := by decide +kernel
theorem dX6_seenBy_42 : decode cX6_seenBy 42 = .ok (.iload_n 1, 1) := by decide +kernel
theorem dX6_seenBy_43 : decode cX6_seenBy 43 = .ok (.iload_n 2, 1) := by decide +kernel
theorem dX6_seenBy_44 : decode cX6_seenBy 44 = .ok (.if_icmp .ne 7, 3) := by decide +kernel
theorem dX6_seenBy_47 : decode cX6_seenBy 47 = .ok (.iconst 1, 1) := by decide +kernel
theorem dX6_seenBy_48 : decode cX6_seenBy 48 = .ok (.goto 4, 3) := by decide +kernel
theorem dX6_seenBy_51 : decode cX6_seenBy 51 = .ok (.iconst 0, 1) := by decide +kernel
theorem dX6_seenBy_52 : decode cX6_seenBy 52 = .ok (.iastore, 1) := by decide +kernel
theorem dX6_seenBy_53 : decode cX6_seenBy 53 = .ok (.iinc 2 1, 3) := by decide +kernel
theorem dX6_seenBy_56 : decode cX6_seenBy 56 = .ok (.goto (-28), 3) := by decide +kernel
theorem dX6_seenBy_59 : decode cX6_seenBy 59 = .ok (.iconst 0, 1) := by decide +kernel
theorem dX6_seenBy_60 : decode cX6_seenBy 60 = .ok (.istore_n 2, 1) := by decide +kernel
theorem dX6_seenBy_61 : decode cX6_seenBy 61 = .ok (.iload_n 2, 1) := by decide +kernel
theorem dX6_seenBy_62 : decode cX6_seenBy 62 = .ok (.bipush 6, 2) := by decide +kernel
theorem dX6_seenBy_64 : decode cX6_seenBy 64 = .ok (.if_icmp .ge 31, 3) := by decide +kernel
theorem dX6_seenBy_67 : decode cX6_seenBy 67 = .ok (.aload_n 0, 1) := by decide +kernel
theorem dX6_seenBy_68 : decode cX6_seenBy 68 = .ok (.getfield 7, 3) := by decide +kernel
theorem dX6_seenBy_71 : decode cX6_seenBy 71 = .ok (.bipush 34, 2) := by decide +kernel
theorem dX6_seenBy_73 : decode cX6_seenBy 73 = .ok (.iload_n 2, 1) := by decide +kernel
theorem dX6_seenBy_74 : decode cX6_seenBy 74 = .ok (.iadd, 1) := by decide +kernel
theorem dX6_seenBy_75 : decode cX6_seenBy 75 = .ok (.iload_n 1, 1) := by decide +kernel
theorem dX6_seenBy_76 : decode cX6_seenBy 76 = .ok (.bipush 20, 2) := by decide +kernel
theorem dX6_seenBy_78 : decode cX6_seenBy 78 = .ok (.iload_n 2, 1) := by decide +kernel
theorem dX6_seenBy_79 : decode cX6_seenBy 79 = .ok (.iadd, 1) := by decide +kernel
theorem dX6_seenBy_80 : decode cX6_seenBy 80 = .ok (.if_icmp .ne 7, 3) := by decide +kernel
theorem dX6_seenBy_83 : decode cX6_seenBy 83 = .ok (.iconst 1, 1) := by decide +kernel
theorem dX6_seenBy_84 : decode cX6_seenBy 84 = .ok (.goto 4, 3) := by decide +kernel
theorem dX6_seenBy_87 : decode cX6_seenBy 87 = .ok (.iconst 0, 1) := by decide +kernel
theorem dX6_seenBy_88 : decode cX6_seenBy 88 = .ok (.iastore, 1) := by decide +kernel
theorem dX6_seenBy_89 : decode cX6_seenBy 89 = .ok (.iinc 2 1, 3) := by decide +kernel
theorem dX6_seenBy_92 : decode cX6_seenBy 92 = .ok (.goto (-31), 3) := by decide +kernel
theorem dX6_seenBy_95 : decode cX6_seenBy 95 = .ok (.aload_n 0, 1) := by decide +kernel
theorem dX6_seenBy_96 : decode cX6_seenBy 96 = .ok (.invokevirtual 113, 3) := by decide +kernel
theorem dX6_seenBy_99 : decode cX6_seenBy 99 = .ok (.istore_n 2, 1) := by decide +kernel
theorem dX6_seenBy_100 : decode cX6_seenBy 100 = .ok (.iconst 0, 1) := by decide +kernel
theorem dX6_seenBy_101 : decode cX6_seenBy 101 = .ok (.istore_n 3, 1) := by decide +kernel
theorem dX6_seenBy_102 : decode cX6_seenBy 102 = .ok (.iload_n 3, 1) := by decide +kernel
theorem dX6_seenBy_103 : decode cX6_seenBy 103 = .ok (.bipush 40, 2) := by decide +kernel
theorem dX6_seenBy_105 : decode cX6_seenBy 105 = .ok (.if_icmp .ge 21, 3) := by decide +kernel
theorem dX6_seenBy_108 : decode cX6_seenBy 108 = .ok (.aload_n 0, 1) := by decide +kernel
theorem dX6_seenBy_109 : decode cX6_seenBy 109 = .ok (.getfield 7, 3) := by decide +kernel
theorem dX6_seenBy_112 : decode cX6_seenBy 112 = .ok (.iload_n 3, 1) := by decide +kernel
theorem dX6_seenBy_113 : decode cX6_seenBy 113 = .ok (.aload_n 0, 1) := by decide +kernel
theorem dX6_seenBy_114 : decode cX6_seenBy 114 = .ok (.getfield 47, 3) := by decide +kernel
theorem dX6_seenBy_117 : decode cX6_seenBy 117 = .ok (.iload_n 3, 1) := by decide +kernel
theorem dX6_seenBy_118 : decode cX6_seenBy 118 = .ok (.iaload, 1) := by decide +kernel
theorem dX6_seenBy_119 : decode cX6_seenBy 119 = .ok (.iastore, 1) := by decide +kernel
theorem dX6_seenBy_120 : decode cX6_seenBy 120 = .ok (.iinc 3 1, 3) := by decide +kernel
theorem dX6_seenBy_123 : decode cX6_seenBy 123 = .ok (.goto (-21), 3) := by decide +kernel
theorem dX6_seenBy_126 : decode cX6_seenBy 126 = .ok (.iload_n 2, 1) := by decide +kernel
theorem dX6_seenBy_127 : decode cX6_seenBy 127 = .ok (.ireturn, 1) := by decide +kernel
theorem dX6_fits_0 : decode cX6_fits 0 = .ok (.aload_n 0, 1) := by decide +kernel
theorem dX6_fits_1 : decode cX6_fits 1 = .ok (.invokevirtual 107, 3) := by decide +kernel
theorem dX6_fits_4 : decode cX6_fits 4 = .ok (.aload_n 0, 1) := by decide +kernel
theorem dX6_fits_5 : decode cX6_fits 5 = .ok (.invokevirtual 113, 3) := by decide +kernel
theorem dX6_fits_8 : decode cX6_fits 8 = .ok (.istore_n 2, 1) := by decide +kernel
theorem dX6_fits_9 : decode cX6_fits 9 = .ok (.iconst 0, 1) := by decide +kernel
theorem dX6_fits_10 : decode cX6_fits 10 = .ok (.istore_n 3, 1) := by decide +kernel
theorem dX6_fits_11 : decode cX6_fits 11 = .ok (.iconst 0, 1) := by decide +kernel
theorem dX6_fits_12 : decode cX6_fits 12 = .ok (.istore 4, 2) := by decide +kernel
theorem dX6_fits_14 : decode cX6_fits 14 = .ok (.iload 4, 2) := by decide +kernel
theorem dX6_fits_16 : decode cX6_fits 16 = .ok (.bipush 26, 2) := by decide +kernel
theorem dX6_fits_18 : decode cX6_fits 18 = .ok (.if_icmp .ge 39, 3) := by decide +kernel
theorem dX6_fits_21 : decode cX6_fits 21 = .ok (.aload_n 0, 1) := by decide +kernel
theorem dX6_fits_22 : decode cX6_fits 22 = .ok (.iload 4, 2) := by decide +kernel
theorem dX6_fits_24 : decode cX6_fits 24 = .ok (.invokevirtual 150, 3) := by decide +kernel
theorem dX6_fits_27 : decode cX6_fits 27 = .ok (.ifCond .eq 24, 3) := by decide +kernel
theorem dX6_fits_30 : decode cX6_fits 30 = .ok (.aload_n 0, 1) := by decide +kernel
theorem dX6_fits_31 : decode cX6_fits 31 = .ok (.iload 4, 2) := by decide +kernel
theorem dX6_fits_33 : decode cX6_fits 33 = .ok (.invokevirtual 153, 3) := by decide +kernel
theorem dX6_fits_36 : decode cX6_fits 36 = .ok (.iload_n 2, 1) := by decide +kernel
theorem dX6_fits_37 : decode cX6_fits 37 = .ok (.if_icmp .ne 14, 3) := by decide +kernel
theorem dX6_fits_40 : decode cX6_fits 40 = .ok (.iload_n 3, 1) := by decide +kernel
theorem dX6_fits_41 : decode cX6_fits 41 = .ok (.iload_n 1, 1) := by decide +kernel
theorem dX6_fits_42 : decode cX6_fits 42 = .ok (.if_icmp .ne 6, 3) := by decide +kernel
theorem dX6_fits_45 : decode cX6_fits 45 = .ok (.iload 4, 2) := by decide +kernel
theorem dX6_fits_47 : decode cX6_fits 47 = .ok (.ireturn, 1) := by decide +kernel
theorem dX6_fits_48 : decode cX6_fits 48 = .ok (.iinc 3 1, 3) := by decide +kernel
theorem dX6_fits_51 : decode cX6_fits 51 = .ok (.iinc 4 1, 3) := by decide +kernel
theorem dX6_fits_54 : decode cX6_fits 54 = .ok (.goto (-40), 3) := by decide +kernel
theorem dX6_fits_57 : decode cX6_fits 57 = .ok (.iload_n 1, 1) := by decide +kernel
theorem dX6_fits_58 : decode cX6_fits 58 = .ok (.iconst (-1), 1) := by decide +kernel
theorem dX6_fits_59 : decode cX6_fits 59 = .ok (.if_icmp .ne 7, 3) := by decide +kernel
theorem dX6_fits_62 : decode cX6_fits 62 = .ok (.iload_n 3, 1) := by decide +kernel
theorem dX6_fits_63 : decode cX6_fits 63 = .ok (.goto 5, 3) := by decide +kernel
theorem dX6_fits_66 : decode cX6_fits 66 = .ok (.bipush (-6), 2) := by decide +kernel
theorem dX6_fits_68 : decode cX6_fits 68 = .ok (.ireturn, 1) := by decide +kernel
theorem dX6_hidden_0 : decode cX6_hidden 0 = .ok (.iload_n 1, 1) := by decide +kernel
theorem dX6_hidden_1 : decode cX6_hidden 1 = .ok (.iconst 0, 1) := by decide +kernel
theorem dX6_hidden_2 : decode cX6_hidden 2 = .ok (.iconst 1, 1) := by decide +kernel
theorem dX6_hidden_3 : decode cX6_hidden 3 = .ok (.invokestatic 53, 3) := by decide +kernel
theorem dX6_hidden_6 : decode cX6_hidden 6 = .ok (.ifCond .ne 6, 3) := by decide +kernel
theorem dX6_hidden_9 : decode cX6_hidden 9 = .ok (.bipush (-2), 2) := by decide +kernel
theorem dX6_hidden_11 : decode cX6_hidden 11 = .ok (.ireturn, 1) := by decide +kernel
theorem dX6_hidden_12 : decode cX6_hidden 12 = .ok (.aload_n 0, 1) := by decide +kernel
theorem dX6_hidden_13 : decode cX6_hidden 13 = .ok (.invokevirtual 107, 3) := by decide +kernel
theorem dX6_hidden_16 : decode cX6_hidden 16 = .ok (.iconst 0, 1) := by decide +kernel
theorem dX6_hidden_17 : decode cX6_hidden 17 = .ok (.istore_n 2, 1) := by decide +kernel
theorem dX6_hidden_18 : decode cX6_hidden 18 = .ok (.bipush (-6), 2) := by decide +kernel
theorem dX6_hidden_20 : decode cX6_hidden 20 = .ok (.istore_n 3, 1) := by decide +kernel
theorem dX6_hidden_21 : decode cX6_hidden 21 = .ok (.bipush 25, 2) := by decide +kernel
theorem dX6_hidden_23 : decode cX6_hidden 23 = .ok (.istore 4, 2) := by decide +kernel
theorem dX6_hidden_25 : decode cX6_hidden 25 = .ok (.iload 4, 2) := by decide +kernel
theorem dX6_hidden_27 : decode cX6_hidden 27 = .ok (.ifCond .lt 33, 3) := by decide +kernel
theorem dX6_hidden_30 : decode cX6_hidden 30 = .ok (.aload_n 0, 1) := by decide +kernel
theorem dX6_hidden_31 : decode cX6_hidden 31 = .ok (.iload 4, 2) := by decide +kernel
theorem dX6_hidden_33 : decode cX6_hidden 33 = .ok (.invokevirtual 150, 3) := by decide +kernel
theorem dX6_hidden_36 : decode cX6_hidden 36 = .ok (.ifCond .eq 18, 3) := by decide +kernel
theorem dX6_hidden_39 : decode cX6_hidden 39 = .ok (.aload_n 0, 1) := by decide +kernel
theorem dX6_hidden_40 : decode cX6_hidden 40 = .ok (.iload 4, 2) := by decide +kernel
theorem dX6_hidden_42 : decode cX6_hidden 42 = .ok (.invokevirtual 153, 3) := by decide +kernel
theorem dX6_hidden_45 : decode cX6_hidden 45 = .ok (.ifCond .ne 9, 3) := by decide +kernel
theorem dX6_hidden_48 : decode cX6_hidden 48 = .ok (.iinc 2 1, 3) := by decide +kernel
theorem dX6_hidden_51 : decode cX6_hidden 51 = .ok (.iload 4, 2) := by decide +kernel
theorem dX6_hidden_53 : decode cX6_hidden 53 = .ok (.istore_n 3, 1) := by decide +kernel
theorem dX6_hidden_54 : decode cX6_hidden 54 = .ok (.iinc 4 (-1), 3) := by decide +kernel
theorem dX6_hidden_57 : decode cX6_hidden 57 = .ok (.goto (-32), 3) := by decide +kernel
theorem dX6_hidden_60 : decode cX6_hidden 60 = .ok (.iload_n 1, 1) := by decide +kernel
theorem dX6_hidden_61 : decode cX6_hidden 61 = .ok (.ifCond .ne 7, 3) := by decide +kernel
theorem dX6_hidden_64 : decode cX6_hidden 64 = .ok (.iload_n 2, 1) := by decide +kernel
theorem dX6_hidden_65 : decode cX6_hidden 65 = .ok (.goto 4, 3) := by decide +kernel
theorem dX6_hidden_68 : decode cX6_hidden 68 = .ok (.iload_n 3, 1) := by decide +kernel
theorem dX6_hidden_69 : decode cX6_hidden 69 = .ok (.ireturn, 1) := by decide +kernel
theorem dX6_isAnyOne_0 : decode cX6_isAnyOne 0 = .ok (.iconst 0, 1) := by decide +kernel
theorem dX6_isAnyOne_1 : decode cX6_isAnyOne 1 = .ok (.istore 4, 2) := by decide +kernel
theorem dX6_isAnyOne_3 : decode cX6_isAnyOne 3 = .ok (.iload_n 2, 1) := by decide +kernel
theorem dX6_isAnyOne_4 : decode cX6_isAnyOne 4 = .ok (.istore 5, 2) := by decide +kernel
theorem dX6_isAnyOne_6 : decode cX6_isAnyOne 6 = .ok (.iload 5, 2) := by decide +kernel
theorem dX6_isAnyOne_8 : decode cX6_isAnyOne 8 = .ok (.iload_n 3, 1) := by decide +kernel
theorem dX6_isAnyOne_9 : decode cX6_isAnyOne 9 = .ok (.if_icmp .ge 40, 3) := by decide +kernel
theorem dX6_isAnyOne_12 : decode cX6_isAnyOne 12 = .ok (.iload 4, 2) := by decide +kernel
theorem dX6_isAnyOne_14 : decode cX6_isAnyOne 14 = .ok (.ifCond .ne 22, 3) := by decide +kernel
theorem dX6_isAnyOne_17 : decode cX6_isAnyOne 17 = .ok (.aload_n 0, 1) := by decide +kernel
theorem dX6_isAnyOne_18 : decode cX6_isAnyOne 18 = .ok (.getfield 38, 3) := by decide +kernel
theorem dX6_isAnyOne_21 : decode cX6_isAnyOne 21 = .ok (.iconst 4, 1) := by decide +kernel
theorem dX6_isAnyOne_22 : decode cX6_isAnyOne 22 = .ok (.iload_n 1, 1) := by decide +kernel
theorem dX6_isAnyOne_23 : decode cX6_isAnyOne 23 = .ok (.imul, 1) := by decide +kernel
theorem dX6_isAnyOne_24 : decode cX6_isAnyOne 24 = .ok (.aload_n 0, 1) := by decide +kernel
theorem dX6_isAnyOne_25 : decode cX6_isAnyOne 25 = .ok (.getfield 50, 3) := by decide +kernel
theorem dX6_isAnyOne_28 : decode cX6_isAnyOne 28 = .ok (.iload 5, 2) := by decide +kernel
theorem dX6_isAnyOne_30 : decode cX6_isAnyOne 30 = .ok (.iaload, 1) := by decide +kernel
theorem dX6_isAnyOne_31 : decode cX6_isAnyOne 31 = .ok (.iadd, 1) := by decide +kernel
theorem dX6_isAnyOne_32 : decode cX6_isAnyOne 32 = .ok (.baload, 1) := by decide +kernel
theorem dX6_isAnyOne_33 : decode cX6_isAnyOne 33 = .ok (.ifCond .eq 7, 3) := by decide +kernel
theorem dX6_isAnyOne_36 : decode cX6_isAnyOne 36 = .ok (.iconst 1, 1) := by decide +kernel
theorem dX6_isAnyOne_37 : decode cX6_isAnyOne 37 = .ok (.goto 4, 3) := by decide +kernel
theorem dX6_isAnyOne_40 : decode cX6_isAnyOne 40 = .ok (.iconst 0, 1) := by decide +kernel
theorem dX6_isAnyOne_41 : decode cX6_isAnyOne 41 = .ok (.istore 4, 2) := by decide +kernel
theorem dX6_isAnyOne_43 : decode cX6_isAnyOne 43 = .ok (.iinc 5 1, 3) := by decide +kernel
theorem dX6_isAnyOne_46 : decode cX6_isAnyOne 46 = .ok (.goto (-40), 3) := by decide +kernel
theorem dX6_isAnyOne_49 : decode cX6_isAnyOne 49 = .ok (.iload 4, 2) := by decide +kernel
theorem dX6_isAnyOne_51 : decode cX6_isAnyOne 51 = .ok (.ireturn, 1) := by decide +kernel
theorem dX6_halves_0 : decode cX6_halves 0 = .ok (.iload_n 1, 1) := by decide +kernel
theorem dX6_halves_1 : decode cX6_halves 1 = .ok (.invokestatic 57, 3) := by decide +kernel
theorem dX6_halves_4 : decode cX6_halves 4 = .ok (.ifCond .ne 5, 3) := by decide +kernel
theorem dX6_halves_7 : decode cX6_halves 7 = .ok (.iconst (-1), 1) := by decide +kernel
theorem dX6_halves_8 : decode cX6_halves 8 = .ok (.ireturn, 1) := by decide +kernel
theorem dX6_halves_9 : decode cX6_halves 9 = .ok (.iload_n 2, 1) := by decide +kernel
theorem dX6_halves_10 : decode cX6_halves 10 = .ok (.iconst 0, 1) := by decide +kernel
theorem dX6_halves_11 : decode cX6_halves 11 = .ok (.iconst 1, 1) := by decide +kernel
theorem dX6_halves_12 : decode cX6_halves 12 = .ok (.invokestatic 53, 3) := by decide +kernel
theorem dX6_halves_15 : decode cX6_halves 15 = .ok (.ifCond .ne 6, 3) := by decide +kernel
theorem dX6_halves_18 : decode cX6_halves 18 = .ok (.bipush (-2), 2) := by decide +kernel
theorem dX6_halves_20 : decode cX6_halves 20 = .ok (.ireturn, 1) := by decide +kernel
theorem dX6_halves_21 : decode cX6_halves 21 = .ok (.aload_n 0, 1) := by decide +kernel
theorem dX6_halves_22 : decode cX6_halves 22 = .ok (.invokevirtual 101, 3) := by decide +kernel
theorem dX6_halves_25 : decode cX6_halves 25 = .ok (.iconst 0, 1) := by decide +kernel
theorem dX6_halves_26 : decode cX6_halves 26 = .ok (.istore_n 3, 1) := by decide +kernel
theorem dX6_halves_27 : decode cX6_halves 27 = .ok (.iload_n 3, 1) := by decide +kernel
theorem dX6_halves_28 : decode cX6_halves 28 = .ok (.iconst 3, 1) := by decide +kernel
theorem dX6_halves_29 : decode cX6_halves 29 = .ok (.if_icmp .ge 27, 3) := by decide +kernel
theorem dX6_halves_32 : decode cX6_halves 32 = .ok (.aload_n 0, 1) := by decide +kernel
theorem dX6_halves_33 : decode cX6_halves 33 = .ok (.getfield 50, 3) := by decide +kernel
theorem dX6_halves_36 : decode cX6_halves 36 = .ok (.iload_n 3, 1) := by decide +kernel
theorem dX6_halves_37 : decode cX6_halves 37 = .ok (.iload_n 3, 1) := by decide +kernel
theorem dX6_halves_38 : decode cX6_halves 38 = .ok (.iload_n 1, 1) := by decide +kernel
theorem dX6_halves_39 : decode cX6_halves 39 = .ok (.if_icmp .ge 7, 3) := by decide +kernel
theorem dX6_halves_42 : decode cX6_halves 42 = .ok (.iload_n 3, 1) := by decide +kernel
theorem dX6_halves_43 : decode cX6_halves 43 = .ok (.goto 6, 3) := by decide +kernel
theorem dX6_halves_46 : decode cX6_halves 46 = .ok (.iload_n 3, 1) := by decide +kernel
theorem dX6_halves_47 : decode cX6_halves 47 = .ok (.iconst 1, 1) := by decide +kernel
theorem dX6_halves_48 : decode cX6_halves 48 = .ok (.iadd, 1) := by decide +kernel
theorem dX6_halves_49 : decode cX6_halves 49 = .ok (.iastore, 1) := by decide +kernel
theorem dX6_halves_50 : decode cX6_halves 50 = .ok (.iinc 3 1, 3) := by decide +kernel
theorem dX6_halves_53 : decode cX6_halves 53 = .ok (.goto (-26), 3) := by decide +kernel
theorem dX6_halves_56 : decode cX6_halves 56 = .ok (.iconst 0, 1) := by decide +kernel
theorem dX6_halves_57 : decode cX6_halves 57 = .ok (.istore_n 3, 1) := by decide +kernel
theorem dX6_halves_58 : decode cX6_halves 58 = .ok (.iconst 3, 1) := by decide +kernel
theorem dX6_halves_59 : decode cX6_halves 59 = .ok (.istore 4, 2) := by decide +kernel
theorem dX6_halves_61 : decode cX6_halves 61 = .ok (.iconst 0, 1) := by decide +kernel
theorem dX6_halves_62 : decode cX6_halves 62 = .ok (.istore 5, 2) := by decide +kernel
theorem dX6_halves_64 : decode cX6_halves 64 = .ok (.iload 4, 2) := by decide +kernel
theorem dX6_halves_66 : decode cX6_halves 66 = .ok (.iload_n 3, 1) := by decide +kernel
theorem dX6_halves_67 : decode cX6_halves 67 = .ok (.isub, 1) := by decide +kernel
theorem dX6_halves_68 : decode cX6_halves 68 = .ok (.iconst 1, 1) := by decide +kernel
theorem dX6_halves_69 : decode cX6_halves 69 = .ok (.if_icmp .le 40, 3) := by decide +kernel
theorem dX6_halves_72 : decode cX6_halves 72 = .ok (.iload_n 3, 1) := by decide +kernel
theorem dX6_halves_73 : decode cX6_halves 73 = .ok (.iload 4, 2) := by decide +kernel
theorem dX6_halves_75 : decode cX6_halves 75 = .ok (.iload_n 3, 1) := by decide +kernel
theorem dX6_halves_76 : decode cX6_halves 76 = .ok (.isub, 1) := by decide +kernel
theorem dX6_halves_77 : decode cX6_halves 77 = .ok (.iconst 2, 1) := by decide +kernel
theorem dX6_halves_78 : decode cX6_halves 78 = .ok (.idiv, 1) := by decide +kernel
theorem dX6_halves_79 : decode cX6_halves 79 = .ok (.iadd, 1) := by decide +kernel
theorem dX6_halves_80 : decode cX6_halves 80 = .ok (.istore 6, 2) := by decide +kernel
theorem dX6_halves_82 : decode cX6_halves 82 = .ok (.iinc 5 1, 3) := by decide +kernel
theorem dX6_halves_85 : decode cX6_halves 85 = .ok (.aload_n 0, 1) := by decide +kernel
theorem dX6_halves_86 : decode cX6_halves 86 = .ok (.iload_n 1, 1) := by decide +kernel
theorem dX6_halves_87 : decode cX6_halves 87 = .ok (.iload_n 3, 1) := by decide +kernel
theorem dX6_halves_88 : decode cX6_halves 88 = .ok (.iload 6, 2) := by decide +kernel
theorem dX6_halves_90 : decode cX6_halves 90 = .ok (.invokevirtual 156, 3) := by decide +kernel
theorem dX6_halves_93 : decode cX6_halves 93 = .ok (.ifCond .eq 10, 3) := by decide +kernel
theorem dX6_halves_96 : decode cX6_halves 96 = .ok (.iload 6, 2) := by decide +kernel
theorem dX6_halves_98 : decode cX6_halves 98 = .ok (.istore 4, 2) := by decide +kernel
theorem dX6_halves_100 : decode cX6_halves 100 = .ok (.goto 6, 3) := by decide +kernel
theorem dX6_halves_103 : decode cX6_halves 103 = .ok (.iload 6, 2) := by decide +kernel
theorem dX6_halves_105 : decode cX6_halves 105 = .ok (.istore_n 3, 1) := by decide +kernel
theorem dX6_halves_106 : decode cX6_halves 106 = .ok (.goto (-42), 3) := by decide +kernel
theorem dX6_halves_109 : decode cX6_halves 109 = .ok (.iinc 5 1, 3) := by decide +kernel
theorem dX6_halves_112 : decode cX6_halves 112 = .ok (.iload_n 2, 1) := by decide +kernel
theorem dX6_halves_113 : decode cX6_halves 113 = .ok (.ifCond .ne 8, 3) := by decide +kernel
theorem dX6_halves_116 : decode cX6_halves 116 = .ok (.iload 5, 2) := by decide +kernel
theorem dX6_halves_118 : decode cX6_halves 118 = .ok (.goto 32, 3) := by decide +kernel
theorem dX6_halves_121 : decode cX6_halves 121 = .ok (.aload_n 0, 1) := by decide +kernel
theorem dX6_halves_122 : decode cX6_halves 122 = .ok (.getfield 38, 3) := by decide +kernel
theorem dX6_halves_125 : decode cX6_halves 125 = .ok (.iconst 4, 1) := by decide +kernel
theorem dX6_halves_126 : decode cX6_halves 126 = .ok (.iload_n 1, 1) := by decide +kernel
theorem dX6_halves_127 : decode cX6_halves 127 = .ok (.imul, 1) := by decide +kernel
theorem dX6_halves_128 : decode cX6_halves 128 = .ok (.aload_n 0, 1) := by decide +kernel
theorem dX6_halves_129 : decode cX6_halves 129 = .ok (.getfield 50, 3) := by decide +kernel
theorem dX6_halves_132 : decode cX6_halves 132 = .ok (.iload_n 3, 1) := by decide +kernel
theorem dX6_halves_133 : decode cX6_halves 133 = .ok (.iaload, 1) := by decide +kernel
theorem dX6_halves_134 : decode cX6_halves 134 = .ok (.iadd, 1) := by decide +kernel
theorem dX6_halves_135 : decode cX6_halves 135 = .ok (.baload, 1) := by decide +kernel
theorem dX6_halves_136 : decode cX6_halves 136 = .ok (.ifCond .eq 12, 3) := by decide +kernel
theorem dX6_halves_139 : decode cX6_halves 139 = .ok (.aload_n 0, 1) := by decide +kernel
theorem dX6_halves_140 : decode cX6_halves 140 = .ok (.getfield 50, 3) := by decide +kernel
theorem dX6_halves_143 : decode cX6_halves 143 = .ok (.iload_n 3, 1) := by decide +kernel
theorem dX6_halves_144 : decode cX6_halves 144 = .ok (.iaload, 1) := by decide +kernel
theorem dX6_halves_145 : decode cX6_halves 145 = .ok (.goto 5, 3) := by decide +kernel
theorem dX6_halves_148 : decode cX6_halves 148 = .ok (.bipush (-6), 2) := by decide +kernel
theorem dX6_halves_150 : decode cX6_halves 150 = .ok (.ireturn, 1) := by decide +kernel
theorem dX6_image_0 : decode cX6_image 0 = .ok (.iload_n 1, 1) := by decide +kernel
theorem dX6_image_1 : decode cX6_image 1 = .ok (.iconst 0, 1) := by decide +kernel
theorem dX6_image_2 : decode cX6_image 2 = .ok (.iconst 1, 1) := by decide +kernel
theorem dX6_image_3 : decode cX6_image 3 = .ok (.invokestatic 53, 3) := by decide +kernel
theorem dX6_image_6 : decode cX6_image 6 = .ok (.ifCond .ne 6, 3) := by decide +kernel
theorem dX6_image_9 : decode cX6_image 9 = .ok (.bipush (-2), 2) := by decide +kernel
theorem dX6_image_11 : decode cX6_image 11 = .ok (.ireturn, 1) := by decide +kernel
theorem dX6_image_12 : decode cX6_image 12 = .ok (.iconst 0, 1) := by decide +kernel
theorem dX6_image_13 : decode cX6_image 13 = .ok (.istore_n 2, 1) := by decide +kernel
theorem dX6_image_14 : decode cX6_image 14 = .ok (.iload_n 2, 1) := by decide +kernel
theorem dX6_image_15 : decode cX6_image 15 = .ok (.bipush 40, 2) := by decide +kernel
theorem dX6_image_17 : decode cX6_image 17 = .ok (.if_icmp .ge 26, 3) := by decide +kernel
theorem dX6_image_20 : decode cX6_image 20 = .ok (.aload_n 0, 1) := by decide +kernel
theorem dX6_image_21 : decode cX6_image 21 = .ok (.getfield 13, 3) := by decide +kernel
theorem dX6_image_24 : decode cX6_image 24 = .ok (.bipush 40, 2) := by decide +kernel
theorem dX6_image_26 : decode cX6_image 26 = .ok (.iload_n 1, 1) := by decide +kernel
theorem dX6_image_27 : decode cX6_image 27 = .ok (.imul, 1) := by decide +kernel
theorem dX6_image_28 : decode cX6_image 28 = .ok (.iload_n 2, 1) := by decide +kernel
theorem dX6_image_29 : decode cX6_image 29 = .ok (.iadd, 1) := by decide +kernel
theorem dX6_image_30 : decode cX6_image 30 = .ok (.aload_n 0, 1) := by decide +kernel
theorem dX6_image_31 : decode cX6_image 31 = .ok (.getfield 7, 3) := by decide +kernel
theorem dX6_image_34 : decode cX6_image 34 = .ok (.iload_n 2, 1) := by decide +kernel
theorem dX6_image_35 : decode cX6_image 35 = .ok (.iaload, 1) := by decide +kernel
theorem dX6_image_36 : decode cX6_image 36 = .ok (.iastore, 1) := by decide +kernel
theorem dX6_image_37 : decode cX6_image 37 = .ok (.iinc 2 1, 3) := by decide +kernel
theorem dX6_image_40 : decode cX6_image 40 = .ok (.goto (-26), 3) := by decide +kernel
theorem dX6_image_43 : decode cX6_image 43 = .ok (.aload_n 0, 1) := by decide +kernel
theorem dX6_image_44 : decode cX6_image 44 = .ok (.getfield 16, 3) := by decide +kernel
theorem dX6_image_47 : decode cX6_image 47 = .ok (.iload_n 1, 1) := by decide +kernel
theorem dX6_image_48 : decode cX6_image 48 = .ok (.iconst 1, 1) := by decide +kernel
theorem dX6_image_49 : decode cX6_image 49 = .ok (.bastore, 1) := by decide +kernel
theorem dX6_image_50 : decode cX6_image 50 = .ok (.iconst 1, 1) := by decide +kernel
theorem dX6_image_51 : decode cX6_image 51 = .ok (.ireturn, 1) := by decide +kernel
theorem dX6_restore_0 : decode cX6_restore 0 = .ok (.iload_n 1, 1) := by decide +kernel
theorem dX6_restore_1 : decode cX6_restore 1 = .ok (.iconst 0, 1) := by decide +kernel
theorem dX6_restore_2 : decode cX6_restore 2 = .ok (.iconst 1, 1) := by decide +kernel
theorem dX6_restore_3 : decode cX6_restore 3 = .ok (.invokestatic 53, 3) := by decide +kernel
theorem dX6_restore_6 : decode cX6_restore 6 = .ok (.ifCond .ne 6, 3) := by decide +kernel
theorem dX6_restore_9 : decode cX6_restore 9 = .ok (.bipush (-2), 2) := by decide +kernel
theorem dX6_restore_11 : decode cX6_restore 11 = .ok (.ireturn, 1) := by decide +kernel
theorem dX6_restore_12 : decode cX6_restore 12 = .ok (.aload_n 0, 1) := by decide +kernel
theorem dX6_restore_13 : decode cX6_restore 13 = .ok (.getfield 16, 3) := by decide +kernel
theorem dX6_restore_16 : decode cX6_restore 16 = .ok (.iload_n 1, 1) := by decide +kernel
theorem dX6_restore_17 : decode cX6_restore 17 = .ok (.baload, 1) := by decide +kernel
theorem dX6_restore_18 : decode cX6_restore 18 = .ok (.ifCond .ne 6, 3) := by decide +kernel
theorem dX6_restore_21 : decode cX6_restore 21 = .ok (.bipush (-3), 2) := by decide +kernel
theorem dX6_restore_23 : decode cX6_restore 23 = .ok (.ireturn, 1) := by decide +kernel
theorem dX6_restore_24 : decode cX6_restore 24 = .ok (.iconst 0, 1) := by decide +kernel
theorem dX6_restore_25 : decode cX6_restore 25 = .ok (.istore_n 2, 1) := by decide +kernel
theorem dX6_restore_26 : decode cX6_restore 26 = .ok (.iload_n 2, 1) := by decide +kernel
theorem dX6_restore_27 : decode cX6_restore 27 = .ok (.bipush 40, 2) := by decide +kernel
theorem dX6_restore_29 : decode cX6_restore 29 = .ok (.if_icmp .ge 26, 3) := by decide +kernel
theorem dX6_restore_32 : decode cX6_restore 32 = .ok (.aload_n 0, 1) := by decide +kernel
theorem dX6_restore_33 : decode cX6_restore 33 = .ok (.getfield 7, 3) := by decide +kernel
theorem dX6_restore_36 : decode cX6_restore 36 = .ok (.iload_n 2, 1) := by decide +kernel
theorem dX6_restore_37 : decode cX6_restore 37 = .ok (.aload_n 0, 1) := by decide +kernel
theorem dX6_restore_38 : decode cX6_restore 38 = .ok (.getfield 13, 3) := by decide +kernel
theorem dX6_restore_41 : decode cX6_restore 41 = .ok (.bipush 40, 2) := by decide +kernel
theorem dX6_restore_43 : decode cX6_restore 43 = .ok (.iload_n 1, 1) := by decide +kernel
theorem dX6_restore_44 : decode cX6_restore 44 = .ok (.imul, 1) := by decide +kernel
theorem dX6_restore_45 : decode cX6_restore 45 = .ok (.iload_n 2, 1) := by decide +kernel
theorem dX6_restore_46 : decode cX6_restore 46 = .ok (.iadd, 1) := by decide +kernel
theorem dX6_restore_47 : decode cX6_restore 47 = .ok (.iaload, 1) := by decide +kernel
theorem dX6_restore_48 : decode cX6_restore 48 = .ok (.iastore, 1) := by decide +kernel
