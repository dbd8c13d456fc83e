theorem dX5_halves_13 : decode cX5_halves 13 = .ok (.ifCond .ne 6, 3) := by decide +kernel
theorem dX5_halves_16 : decode cX5_halves 16 = .ok (.bipush (-2), 2) := by decide +kernel
theorem dX5_halves_18 : decode cX5_halves 18 = .ok (.ireturn, 1) := by decide +kernel
theorem dX5_halves_19 : decode cX5_halves 19 = .ok (.iload_n 1, 1) := by decide +kernel
theorem dX5_halves_20 : decode cX5_halves 20 = .ok (.aload_n 0, 1) := by decide +kernel
theorem dX5_halves_21 : decode cX5_halves 21 = .ok (.getfield 12, 3) := by decide +kernel
theorem dX5_halves_24 : decode cX5_halves 24 = .ok (.getfield 108, 3) := by decide +kernel
theorem dX5_halves_27 : decode cX5_halves 27 = .ok (.invokestatic 174, 3) := by decide +kernel
theorem dX5_halves_30 : decode cX5_halves 30 = .ok (.istore_n 3, 1) := by decide +kernel
theorem dX5_halves_31 : decode cX5_halves 31 = .ok (.bipush 15, 2) := by decide +kernel
theorem dX5_halves_33 : decode cX5_halves 33 = .ok (.iconst 1, 1) := by decide +kernel
theorem dX5_halves_34 : decode cX5_halves 34 = .ok (.iload_n 1, 1) := by decide +kernel
theorem dX5_halves_35 : decode cX5_halves 35 = .ok (.ishl, 1) := by decide +kernel
theorem dX5_halves_36 : decode cX5_halves 36 = .ok (.iconst (-1), 1) := by decide +kernel
theorem dX5_halves_37 : decode cX5_halves 37 = .ok (.ixor, 1) := by decide +kernel
theorem dX5_halves_38 : decode cX5_halves 38 = .ok (.iand, 1) := by decide +kernel
theorem dX5_halves_39 : decode cX5_halves 39 = .ok (.istore 4, 2) := by decide +kernel
theorem dX5_halves_41 : decode cX5_halves 41 = .ok (.iconst 0, 1) := by decide +kernel
theorem dX5_halves_42 : decode cX5_halves 42 = .ok (.istore 5, 2) := by decide +kernel
theorem dX5_halves_44 : decode cX5_halves 44 = .ok (.iconst 0, 1) := by decide +kernel
theorem dX5_halves_45 : decode cX5_halves 45 = .ok (.istore 6, 2) := by decide +kernel
theorem dX5_halves_47 : decode cX5_halves 47 = .ok (.iload 6, 2) := by decide +kernel
theorem dX5_halves_49 : decode cX5_halves 49 = .ok (.iconst 4, 1) := by decide +kernel
theorem dX5_halves_50 : decode cX5_halves 50 = .ok (.if_icmp .ge 56, 3) := by decide +kernel
theorem dX5_halves_53 : decode cX5_halves 53 = .ok (.iload 4, 2) := by decide +kernel
theorem dX5_halves_55 : decode cX5_halves 55 = .ok (.invokestatic 163, 3) := by decide +kernel
theorem dX5_halves_58 : decode cX5_halves 58 = .ok (.iconst 2, 1) := by decide +kernel
theorem dX5_halves_59 : decode cX5_halves 59 = .ok (.if_icmp .lt 47, 3) := by decide +kernel
theorem dX5_halves_62 : decode cX5_halves 62 = .ok (.iload 4, 2) := by decide +kernel
theorem dX5_halves_64 : decode cX5_halves 64 = .ok (.iload 4, 2) := by decide +kernel
theorem dX5_halves_66 : decode cX5_halves 66 = .ok (.invokestatic 163, 3) := by decide +kernel
theorem dX5_halves_69 : decode cX5_halves 69 = .ok (.iconst 2, 1) := by decide +kernel
theorem dX5_halves_70 : decode cX5_halves 70 = .ok (.idiv, 1) := by decide +kernel
theorem dX5_halves_71 : decode cX5_halves 71 = .ok (.invokestatic 177, 3) := by decide +kernel
theorem dX5_halves_74 : decode cX5_halves 74 = .ok (.istore 7, 2) := by decide +kernel
theorem dX5_halves_76 : decode cX5_halves 76 = .ok (.iload 7, 2) := by decide +kernel
theorem dX5_halves_78 : decode cX5_halves 78 = .ok (.iload_n 3, 1) := by decide +kernel
theorem dX5_halves_79 : decode cX5_halves 79 = .ok (.iand, 1) := by decide +kernel
theorem dX5_halves_80 : decode cX5_halves 80 = .ok (.ifCond .eq 8, 3) := by decide +kernel
theorem dX5_halves_83 : decode cX5_halves 83 = .ok (.iload 7, 2) := by decide +kernel
theorem dX5_halves_85 : decode cX5_halves 85 = .ok (.goto 10, 3) := by decide +kernel
theorem dX5_halves_88 : decode cX5_halves 88 = .ok (.iload 4, 2) := by decide +kernel
theorem dX5_halves_90 : decode cX5_halves 90 = .ok (.iload 7, 2) := by decide +kernel
theorem dX5_halves_92 : decode cX5_halves 92 = .ok (.iconst (-1), 1) := by decide +kernel
theorem dX5_halves_93 : decode cX5_halves 93 = .ok (.ixor, 1) := by decide +kernel
theorem dX5_halves_94 : decode cX5_halves 94 = .ok (.iand, 1) := by decide +kernel
theorem dX5_halves_95 : decode cX5_halves 95 = .ok (.istore 4, 2) := by decide +kernel
theorem dX5_halves_97 : decode cX5_halves 97 = .ok (.iinc 5 1, 3) := by decide +kernel
theorem dX5_halves_100 : decode cX5_halves 100 = .ok (.iinc 6 1, 3) := by decide +kernel
theorem dX5_halves_103 : decode cX5_halves 103 = .ok (.goto (-56), 3) := by decide +kernel
theorem dX5_halves_106 : decode cX5_halves 106 = .ok (.iinc 5 1, 3) := by decide +kernel
theorem dX5_halves_109 : decode cX5_halves 109 = .ok (.iload_n 2, 1) := by decide +kernel
theorem dX5_halves_110 : decode cX5_halves 110 = .ok (.ifCond .ne 6, 3) := by decide +kernel
theorem dX5_halves_113 : decode cX5_halves 113 = .ok (.iload 5, 2) := by decide +kernel
theorem dX5_halves_115 : decode cX5_halves 115 = .ok (.ireturn, 1) := by decide +kernel
theorem dX5_halves_116 : decode cX5_halves 116 = .ok (.iload 4, 2) := by decide +kernel
theorem dX5_halves_118 : decode cX5_halves 118 = .ok (.iload_n 3, 1) := by decide +kernel
theorem dX5_halves_119 : decode cX5_halves 119 = .ok (.iand, 1) := by decide +kernel
theorem dX5_halves_120 : decode cX5_halves 120 = .ok (.invokestatic 180, 3) := by decide +kernel
theorem dX5_halves_123 : decode cX5_halves 123 = .ok (.ireturn, 1) := by decide +kernel
theorem dX5_image_0 : decode cX5_image 0 = .ok (.iload_n 1, 1) := by decide +kernel
theorem dX5_image_1 : decode cX5_image 1 = .ok (.invokestatic 183, 3) := by decide +kernel
theorem dX5_image_4 : decode cX5_image 4 = .ok (.ifCond .ne 6, 3) := by decide +kernel
theorem dX5_image_7 : decode cX5_image 7 = .ok (.bipush (-2), 2) := by decide +kernel
theorem dX5_image_9 : decode cX5_image 9 = .ok (.ireturn, 1) := by decide +kernel
theorem dX5_image_10 : decode cX5_image 10 = .ok (.aload_n 0, 1) := by decide +kernel
theorem dX5_image_11 : decode cX5_image 11 = .ok (.getfield 37, 3) := by decide +kernel
theorem dX5_image_14 : decode cX5_image 14 = .ok (.iload_n 1, 1) := by decide +kernel
theorem dX5_image_15 : decode cX5_image 15 = .ok (.aaload, 1) := by decide +kernel
theorem dX5_image_16 : decode cX5_image 16 = .ok (.aload_n 0, 1) := by decide +kernel
theorem dX5_image_17 : decode cX5_image 17 = .ok (.getfield 12, 3) := by decide +kernel
theorem dX5_image_20 : decode cX5_image 20 = .ok (.invokevirtual 186, 3) := by decide +kernel
theorem dX5_image_23 : decode cX5_image 23 = .ok (.aload_n 0, 1) := by decide +kernel
theorem dX5_image_24 : decode cX5_image 24 = .ok (.dup, 1) := by decide +kernel
theorem dX5_image_25 : decode cX5_image 25 = .ok (.getfield 41, 3) := by decide +kernel
theorem dX5_image_28 : decode cX5_image 28 = .ok (.iconst 1, 1) := by decide +kernel
theorem dX5_image_29 : decode cX5_image 29 = .ok (.iload_n 1, 1) := by decide +kernel
theorem dX5_image_30 : decode cX5_image 30 = .ok (.ishl, 1) := by decide +kernel
theorem dX5_image_31 : decode cX5_image 31 = .ok (.ior, 1) := by decide +kernel
theorem dX5_image_32 : decode cX5_image 32 = .ok (.putfield 41, 3) := by decide +kernel
theorem dX5_image_35 : decode cX5_image 35 = .ok (.iconst 1, 1) := by decide +kernel
theorem dX5_image_36 : decode cX5_image 36 = .ok (.ireturn, 1) := by decide +kernel
theorem dX5_restore_0 : decode cX5_restore 0 = .ok (.iload_n 1, 1) := by decide +kernel
theorem dX5_restore_1 : decode cX5_restore 1 = .ok (.invokestatic 183, 3) := by decide +kernel
theorem dX5_restore_4 : decode cX5_restore 4 = .ok (.ifCond .ne 6, 3) := by decide +kernel
theorem dX5_restore_7 : decode cX5_restore 7 = .ok (.bipush (-2), 2) := by decide +kernel
theorem dX5_restore_9 : decode cX5_restore 9 = .ok (.ireturn, 1) := by decide +kernel
theorem dX5_restore_10 : decode cX5_restore 10 = .ok (.aload_n 0, 1) := by decide +kernel
theorem dX5_restore_11 : decode cX5_restore 11 = .ok (.getfield 41, 3) := by decide +kernel
theorem dX5_restore_14 : decode cX5_restore 14 = .ok (.iload_n 1, 1) := by decide +kernel
theorem dX5_restore_15 : decode cX5_restore 15 = .ok (.invokestatic 85, 3) := by decide +kernel
theorem dX5_restore_18 : decode cX5_restore 18 = .ok (.ifCond .ne 6, 3) := by decide +kernel
theorem dX5_restore_21 : decode cX5_restore 21 = .ok (.bipush (-3), 2) := by decide +kernel
theorem dX5_restore_23 : decode cX5_restore 23 = .ok (.ireturn, 1) := by decide +kernel
theorem dX5_restore_24 : decode cX5_restore 24 = .ok (.aload_n 0, 1) := by decide +kernel
theorem dX5_restore_25 : decode cX5_restore 25 = .ok (.getfield 12, 3) := by decide +kernel
theorem dX5_restore_28 : decode cX5_restore 28 = .ok (.aload_n 0, 1) := by decide +kernel
theorem dX5_restore_29 : decode cX5_restore 29 = .ok (.getfield 37, 3) := by decide +kernel
theorem dX5_restore_32 : decode cX5_restore 32 = .ok (.iload_n 1, 1) := by decide +kernel
theorem dX5_restore_33 : decode cX5_restore 33 = .ok (.aaload, 1) := by decide +kernel
theorem dX5_restore_34 : decode cX5_restore 34 = .ok (.invokevirtual 186, 3) := by decide +kernel
theorem dX5_restore_37 : decode cX5_restore 37 = .ok (.aload_n 0, 1) := by decide +kernel
theorem dX5_restore_38 : decode cX5_restore 38 = .ok (.invokevirtual 60, 3) := by decide +kernel
theorem dX5_restore_41 : decode cX5_restore 41 = .ok (.iconst 1, 1) := by decide +kernel
theorem dX5_restore_42 : decode cX5_restore 42 = .ok (.ireturn, 1) := by decide +kernel
theorem dX5_count_0 : decode cX5_count 0 = .ok (.iload_n 1, 1) := by decide +kernel
theorem dX5_count_1 : decode cX5_count 1 = .ok (.tableswitch 134 0 8 #[51, 59, 67, 83, 91, 102, 113, 121, 129], 51) := by decide +kernel
theorem dX5_count_52 : decode cX5_count 52 = .ok (.aload_n 0, 1) := by decide +kernel
theorem dX5_count_53 : decode cX5_count 53 = .ok (.getfield 12, 3) := by decide +kernel
theorem dX5_count_56 : decode cX5_count 56 = .ok (.getfield 53, 3) := by decide +kernel
theorem dX5_count_59 : decode cX5_count 59 = .ok (.ireturn, 1) := by decide +kernel
theorem dX5_count_60 : decode cX5_count 60 = .ok (.aload_n 0, 1) := by decide +kernel
theorem dX5_count_61 : decode cX5_count 61 = .ok (.getfield 19, 3) := by decide +kernel
theorem dX5_count_64 : decode cX5_count 64 = .ok (.getfield 129, 3) := by decide +kernel
theorem dX5_count_67 : decode cX5_count 67 = .ok (.ireturn, 1) := by decide +kernel
theorem dX5_count_68 : decode cX5_count 68 = .ok (.aload_n 0, 1) := by decide +kernel
theorem dX5_count_69 : decode cX5_count 69 = .ok (.getfield 19, 3) := by decide +kernel
theorem dX5_count_72 : decode cX5_count 72 = .ok (.getfield 129, 3) := by decide +kernel
theorem dX5_count_75 : decode cX5_count 75 = .ok (.aload_n 0, 1) := by decide +kernel
theorem dX5_count_76 : decode cX5_count 76 = .ok (.getfield 19, 3) := by decide +kernel
theorem dX5_count_79 : decode cX5_count 79 = .ok (.getfield 190, 3) := by decide +kernel
theorem dX5_count_82 : decode cX5_count 82 = .ok (.isub, 1) := by decide +kernel
theorem dX5_count_83 : decode cX5_count 83 = .ok (.ireturn, 1) := by decide +kernel
theorem dX5_count_84 : decode cX5_count 84 = .ok (.aload_n 0, 1) := by decide +kernel
theorem dX5_count_85 : decode cX5_count 85 = .ok (.getfield 12, 3) := by decide +kernel
theorem dX5_count_88 : decode cX5_count 88 = .ok (.invokevirtual 193, 3) := by decide +kernel
theorem dX5_count_91 : decode cX5_count 91 = .ok (.ireturn, 1) := by decide +kernel
theorem dX5_count_92 : decode cX5_count 92 = .ok (.aload_n 0, 1) := by decide +kernel
theorem dX5_count_93 : decode cX5_count 93 = .ok (.getfield 12, 3) := by decide +kernel
theorem dX5_count_96 : decode cX5_count 96 = .ok (.getfield 82, 3) := by decide +kernel
theorem dX5_count_99 : decode cX5_count 99 = .ok (.invokestatic 163, 3) := by decide +kernel
theorem dX5_count_102 : decode cX5_count 102 = .ok (.ireturn, 1) := by decide +kernel
theorem dX5_count_103 : decode cX5_count 103 = .ok (.aload_n 0, 1) := by decide +kernel
theorem dX5_count_104 : decode cX5_count 104 = .ok (.getfield 12, 3) := by decide +kernel
theorem dX5_count_107 : decode cX5_count 107 = .ok (.getfield 108, 3) := by decide +kernel
theorem dX5_count_110 : decode cX5_count 110 = .ok (.invokestatic 163, 3) := by decide +kernel
theorem dX5_count_113 : decode cX5_count 113 = .ok (.ireturn, 1) := by decide +kernel
theorem dX5_count_114 : decode cX5_count 114 = .ok (.aload_n 0, 1) := by decide +kernel
theorem dX5_count_115 : decode cX5_count 115 = .ok (.getfield 12, 3) := by decide +kernel
theorem dX5_count_118 : decode cX5_count 118 = .ok (.getfield 76, 3) := by decide +kernel
theorem dX5_count_121 : decode cX5_count 121 = .ok (.ireturn, 1) := by decide +kernel
theorem dX5_count_122 : decode cX5_count 122 = .ok (.aload_n 0, 1) := by decide +kernel
theorem dX5_count_123 : decode cX5_count 123 = .ok (.getfield 33, 3) := by decide +kernel
theorem dX5_count_126 : decode cX5_count 126 = .ok (.getfield 122, 3) := by decide +kernel
theorem dX5_count_129 : decode cX5_count 129 = .ok (.ireturn, 1) := by decide +kernel
theorem dX5_count_130 : decode cX5_count 130 = .ok (.aload_n 0, 1) := by decide +kernel
theorem dX5_count_131 : decode cX5_count 131 = .ok (.getfield 41, 3) := by decide +kernel
theorem dX5_count_134 : decode cX5_count 134 = .ok (.ireturn, 1) := by decide +kernel
theorem dX5_count_135 : decode cX5_count 135 = .ok (.bipush (-2), 2) := by decide +kernel
theorem dX5_count_137 : decode cX5_count 137 = .ok (.ireturn, 1) := by decide +kernel
theorem dX5_layTriesAnew_0 : decode cX5_layTriesAnew 0 = .ok (.aload_n 0, 1) := by decide +kernel
theorem dX5_layTriesAnew_1 : decode cX5_layTriesAnew 1 = .ok (.getfield 19, 3) := by decide +kernel
theorem dX5_layTriesAnew_4 : decode cX5_layTriesAnew 4 = .ok (.aload_n 0, 1) := by decide +kernel
theorem dX5_layTriesAnew_5 : decode cX5_layTriesAnew 5 = .ok (.getfield 12, 3) := by decide +kernel
theorem dX5_layTriesAnew_8 : decode cX5_layTriesAnew 8 = .ok (.invokevirtual 196, 3) := by decide +kernel
theorem dX5_layTriesAnew_11 : decode cX5_layTriesAnew 11 = .ok (.aload_n 0, 1) := by decide +kernel
theorem dX5_layTriesAnew_12 : decode cX5_layTriesAnew 12 = .ok (.getfield 26, 3) := by decide +kernel
theorem dX5_layTriesAnew_15 : decode cX5_layTriesAnew 15 = .ok (.aload_n 0, 1) := by decide +kernel
theorem dX5_layTriesAnew_16 : decode cX5_layTriesAnew 16 = .ok (.getfield 12, 3) := by decide +kernel
theorem dX5_layTriesAnew_19 : decode cX5_layTriesAnew 19 = .ok (.aload_n 0, 1) := by decide +kernel
theorem dX5_layTriesAnew_20 : decode cX5_layTriesAnew 20 = .ok (.getfield 19, 3) := by decide +kernel
theorem dX5_layTriesAnew_23 : decode cX5_layTriesAnew 23 = .ok (.invokevirtual 199, 3) := by decide +kernel
theorem dX5_layTriesAnew_26 : decode cX5_layTriesAnew 26 = .ok (.return_, 1) := by decide +kernel
theorem dX5_seenNow_0 : decode cX5_seenNow 0 = .ok (.aload_n 0, 1) := by decide +kernel
theorem dX5_seenNow_1 : decode cX5_seenNow 1 = .ok (.getfield 19, 3) := by decide +kernel
theorem dX5_seenNow_4 : decode cX5_seenNow 4 = .ok (.aload_n 0, 1) := by decide +kernel
theorem dX5_seenNow_5 : decode cX5_seenNow 5 = .ok (.getfield 12, 3) := by decide +kernel
theorem dX5_seenNow_8 : decode cX5_seenNow 8 = .ok (.aload_n 0, 1) := by decide +kernel
theorem dX5_seenNow_9 : decode cX5_seenNow 9 = .ok (.getfield 12, 3) := by decide +kernel
theorem dX5_seenNow_12 : decode cX5_seenNow 12 = .ok (.getfield 82, 3) := by decide +kernel
theorem dX5_seenNow_15 : decode cX5_seenNow 15 = .ok (.aload_n 0, 1) := by decide +kernel
theorem dX5_seenNow_16 : decode cX5_seenNow 16 = .ok (.getfield 12, 3) := by decide +kernel
theorem dX5_seenNow_19 : decode cX5_seenNow 19 = .ok (.getfield 108, 3) := by decide +kernel
theorem dX5_seenNow_22 : decode cX5_seenNow 22 = .ok (.invokevirtual 203, 3) := by decide +kernel
theorem dX5_seenNow_25 : decode cX5_seenNow 25 = .ok (.ireturn, 1) := by decide +kernel
theorem dX5_flawSeenAs_0 : decode cX5_flawSeenAs 0 = .ok (.iconst 0, 1) := by decide +kernel
theorem dX5_flawSeenAs_1 : decode cX5_flawSeenAs 1 = .ok (.istore_n 3, 1) := by decide +kernel
theorem dX5_flawSeenAs_2 : decode cX5_flawSeenAs 2 = .ok (.iconst 0, 1) := by decide +kernel
theorem dX5_flawSeenAs_3 : decode cX5_flawSeenAs 3 = .ok (.istore 4, 2) := by decide +kernel
theorem dX5_flawSeenAs_5 : decode cX5_flawSeenAs 5 = .ok (.iload 4, 2) := by decide +kernel
theorem dX5_flawSeenAs_7 : decode cX5_flawSeenAs 7 = .ok (.bipush 26, 2) := by decide +kernel
theorem dX5_flawSeenAs_9 : decode cX5_flawSeenAs 9 = .ok (.if_icmp .ge 39, 3) := by decide +kernel
theorem dX5_flawSeenAs_12 : decode cX5_flawSeenAs 12 = .ok (.aload_n 0, 1) := by decide +kernel
theorem dX5_flawSeenAs_13 : decode cX5_flawSeenAs 13 = .ok (.iload 4, 2) := by decide +kernel
theorem dX5_flawSeenAs_15 : decode cX5_flawSeenAs 15 = .ok (.invokevirtual 207, 3) := by decide +kernel
theorem dX5_flawSeenAs_18 : decode cX5_flawSeenAs 18 = .ok (.ifCond .eq 24, 3) := by decide +kernel
theorem dX5_flawSeenAs_21 : decode cX5_flawSeenAs 21 = .ok (.aload_n 0, 1) := by decide +kernel
theorem dX5_flawSeenAs_22 : decode cX5_flawSeenAs 22 = .ok (.iload 4, 2) := by decide +kernel
theorem dX5_flawSeenAs_24 : decode cX5_flawSeenAs 24 = .ok (.invokevirtual 210, 3) := by decide +kernel
theorem dX5_flawSeenAs_27 : decode cX5_flawSeenAs 27 = .ok (.iload_n 1, 1) := by decide +kernel
theorem dX5_flawSeenAs_28 : decode cX5_flawSeenAs 28 = .ok (.if_icmp .ne 14, 3) := by decide +kernel
theorem dX5_flawSeenAs_31 : decode cX5_flawSeenAs 31 = .ok (.iload_n 3, 1) := by decide +kernel
theorem dX5_flawSeenAs_32 : decode cX5_flawSeenAs 32 = .ok (.iload_n 2, 1) := by decide +kernel
theorem dX5_flawSeenAs_33 : decode cX5_flawSeenAs 33 = .ok (.if_icmp .ne 6, 3) := by decide +kernel
theorem dX5_flawSeenAs_36 : decode cX5_flawSeenAs 36 = .ok (.iload 4, 2) := by decide +kernel
theorem dX5_flawSeenAs_38 : decode cX5_flawSeenAs 38 = .ok (.ireturn, 1) := by decide +kernel
theorem dX5_flawSeenAs_39 : decode cX5_flawSeenAs 39 = .ok (.iinc 3 1, 3) := by decide +kernel
theorem dX5_flawSeenAs_42 : decode cX5_flawSeenAs 42 = .ok (.iinc 4 1, 3) := by decide +kernel
theorem dX5_flawSeenAs_45 : decode cX5_flawSeenAs 45 = .ok (.goto (-40), 3) := by decide +kernel
theorem dX5_flawSeenAs_48 : decode cX5_flawSeenAs 48 = .ok (.iload_n 2, 1) := by decide +kernel
theorem dX5_flawSeenAs_49 : decode cX5_flawSeenAs 49 = .ok (.iconst (-1), 1) := by decide +kernel
theorem dX5_flawSeenAs_50 : decode cX5_flawSeenAs 50 = .ok (.if_icmp .ne 7, 3) := by decide +kernel
theorem dX5_flawSeenAs_53 : decode cX5_flawSeenAs 53 = .ok (.iload_n 3, 1) := by decide +kernel
theorem dX5_flawSeenAs_54 : decode cX5_flawSeenAs 54 = .ok (.goto 5, 3) := by decide +kernel
theorem dX5_flawSeenAs_57 : decode cX5_flawSeenAs 57 = .ok (.bipush (-6), 2) := by decide +kernel
theorem dX5_flawSeenAs_59 : decode cX5_flawSeenAs 59 = .ok (.ireturn, 1) := by decide +kernel
theorem dX5_isFlaw_0 : decode cX5_isFlaw 0 = .ok (.aload_n 0, 1) := by decide +kernel
theorem dX5_isFlaw_1 : decode cX5_isFlaw 1 = .ok (.getfield 12, 3) := by decide +kernel
theorem dX5_isFlaw_4 : decode cX5_isFlaw 4 = .ok (.iload_n 1, 1) := by decide +kernel
theorem dX5_isFlaw_5 : decode cX5_isFlaw 5 = .ok (.invokevirtual 66, 3) := by decide +kernel
theorem dX5_isFlaw_8 : decode cX5_isFlaw 8 = .ok (.ifCond .ne 9, 3) := by decide +kernel
theorem dX5_isFlaw_11 : decode cX5_isFlaw 11 = .ok (.iload_n 1, 1) := by decide +kernel
theorem dX5_isFlaw_12 : decode cX5_isFlaw 12 = .ok (.bipush 20, 2) := by decide +kernel
theorem dX5_isFlaw_14 : decode cX5_isFlaw 14 = .ok (.if_icmp .lt 7, 3) := by decide +kernel
theorem dX5_isFlaw_17 : decode cX5_isFlaw 17 = .ok (.iconst 1, 1) := by decide +kernel
theorem dX5_isFlaw_18 : decode cX5_isFlaw 18 = .ok (.goto 4, 3) := by decide +kernel
theorem dX5_isFlaw_21 : decode cX5_isFlaw 21 = .ok (.iconst 0, 1) := by decide +kernel
theorem dX5_isFlaw_22 : decode cX5_isFlaw 22 = .ok (.ireturn, 1) := by decide +kernel
theorem dX5_seenOfFlaw_0 : decode cX5_seenOfFlaw 0 = .ok (.iload_n 1, 1) := by decide +kernel
theorem dX5_seenOfFlaw_1 : decode cX5_seenOfFlaw 1 = .ok (.bipush 20, 2) := by decide +kernel
theorem dX5_seenOfFlaw_3 : decode cX5_seenOfFlaw 3 = .ok (.if_icmp .lt 22, 3) := by decide +kernel
theorem dX5_seenOfFlaw_6 : decode cX5_seenOfFlaw 6 = .ok (.aload_n 0, 1) := by decide +kernel
theorem dX5_seenOfFlaw_7 : decode cX5_seenOfFlaw 7 = .ok (.getfield 19, 3) := by decide +kernel
theorem dX5_seenOfFlaw_10 : decode cX5_seenOfFlaw 10 = .ok (.aload_n 0, 1) := by decide +kernel
theorem dX5_seenOfFlaw_11 : decode cX5_seenOfFlaw 11 = .ok (.getfield 12, 3) := by decide +kernel
theorem dX5_seenOfFlaw_14 : decode cX5_seenOfFlaw 14 = .ok (.iconst 0, 1) := by decide +kernel
theorem dX5_seenOfFlaw_15 : decode cX5_seenOfFlaw 15 = .ok (.iconst 1, 1) := by decide +kernel
theorem dX5_seenOfFlaw_16 : decode cX5_seenOfFlaw 16 = .ok (.iload_n 1, 1) := by decide +kernel
theorem dX5_seenOfFlaw_17 : decode cX5_seenOfFlaw 17 = .ok (.bipush 20, 2) := by decide +kernel
theorem dX5_seenOfFlaw_19 : decode cX5_seenOfFlaw 19 = .ok (.isub, 1) := by decide +kernel
theorem dX5_seenOfFlaw_20 : decode cX5_seenOfFlaw 20 = .ok (.ishl, 1) := by decide +kernel
theorem dX5_seenOfFlaw_21 : decode cX5_seenOfFlaw 21 = .ok (.invokevirtual 203, 3) := by decide +kernel
theorem dX5_seenOfFlaw_24 : decode cX5_seenOfFlaw 24 = .ok (.ireturn, 1) := by decide +kernel
theorem dX5_seenOfFlaw_25 : decode cX5_seenOfFlaw 25 = .ok (.aload_n 0, 1) := by decide +kernel
theorem dX5_seenOfFlaw_26 : decode cX5_seenOfFlaw 26 = .ok (.getfield 19, 3) := by decide +kernel
theorem dX5_seenOfFlaw_29 : decode cX5_seenOfFlaw 29 = .ok (.aload_n 0, 1) := by decide +kernel
theorem dX5_seenOfFlaw_30 : decode cX5_seenOfFlaw 30 = .ok (.getfield 12, 3) := by decide +kernel
theorem dX5_seenOfFlaw_33 : decode cX5_seenOfFlaw 33 = .ok (.iconst 1, 1) := by decide +kernel
theorem dX5_seenOfFlaw_34 : decode cX5_seenOfFlaw 34 = .ok (.iload_n 1, 1) := by decide +kernel
theorem dX5_seenOfFlaw_35 : decode cX5_seenOfFlaw 35 = .ok (.ishl, 1) := by decide +kernel
theorem dX5_seenOfFlaw_36 : decode cX5_seenOfFlaw 36 = .ok (.iconst 0, 1) := by decide +kernel
theorem dX5_seenOfFlaw_37 : decode cX5_seenOfFlaw 37 = .ok (.invokevirtual 203, 3) := by decide +kernel
theorem dX5_seenOfFlaw_40 : decode cX5_seenOfFlaw 40 = .ok (.ireturn, 1) := by decide +kernel
theorem dX5_isNet_0 : decode cX5_isNet 0 = .ok (.iload_n 0, 1) := by decide +kernel
theorem dX5_isNet_1 : decode cX5_isNet 1 = .ok (.ifCond .lt 12, 3) := by decide +kernel
theorem dX5_isNet_4 : decode cX5_isNet 4 = .ok (.iload_n 0, 1) := by decide +kernel
theorem dX5_isNet_5 : decode cX5_isNet 5 = .ok (.iconst 4, 1) := by decide +kernel
theorem dX5_isNet_6 : decode cX5_isNet 6 = .ok (.if_icmp .ge 7, 3) := by decide +kernel
theorem dX5_isNet_9 : decode cX5_isNet 9 = .ok (.iconst 1, 1) := by decide +kernel
theorem dX5_isNet_10 : decode cX5_isNet 10 = .ok (.goto 4, 3) := by decide +kernel
theorem dX5_isNet_13 : decode cX5_isNet 13 = .ok (.iconst 0, 1) := by decide +kernel
theorem dX5_isNet_14 : decode cX5_isNet 14 = .ok (.ireturn, 1) := by decide +kernel
theorem dX5_isOnBoard_0 : decode cX5_isOnBoard 0 = .ok (.iload_n 0, 1) := by decide +kernel
theorem dX5_isOnBoard_1 : decode cX5_isOnBoard 1 = .ok (.ifCond .lt 23, 3) := by decide +kernel
theorem dX5_isOnBoard_4 : decode cX5_isOnBoard 4 = .ok (.iload_n 0, 1) := by decide +kernel
theorem dX5_isOnBoard_5 : decode cX5_isOnBoard 5 = .ok (.bipush 20, 2) := by decide +kernel
theorem dX5_isOnBoard_7 : decode cX5_isOnBoard 7 = .ok (.if_icmp .gt 17, 3) := by decide +kernel
theorem dX5_isOnBoard_10 : decode cX5_isOnBoard 10 = .ok (.iload_n 1, 1) := by decide +kernel
theorem dX5_isOnBoard_11 : decode cX5_isOnBoard 11 = .ok (.ifCond .lt 13, 3) := by decide +kernel
theorem dX5_isOnBoard_14 : decode cX5_isOnBoard 14 = .ok (.iload_n 1, 1) := by decide +kernel
theorem dX5_isOnBoard_15 : decode cX5_isOnBoard 15 = .ok (.bipush 20, 2) := by decide +kernel
theorem dX5_isOnBoard_17 : decode cX5_isOnBoard 17 = .ok (.if_icmp .gt 7, 3) := by decide +kernel
theorem dX5_isOnBoard_20 : decode cX5_isOnBoard 20 = .ok (.iconst 1, 1) := by decide +kernel
theorem dX5_isOnBoard_21 : decode cX5_isOnBoard 21 = .ok (.goto 4, 3) := by decide +kernel
theorem dX5_isOnBoard_24 : decode cX5_isOnBoard 24 = .ok (.iconst 0, 1) := by decide +kernel
theorem dX5_isOnBoard_25 : decode cX5_isOnBoard 25 = .ok (.ireturn, 1) := by decide +kernel
theorem dX5_isImage_0 : decode cX5_isImage 0 = .ok (.iload_n 0, 1) := by decide +kernel
theorem dX5_isImage_1 : decode cX5_isImage 1 = .ok (.ifCond .lt 12, 3) := by decide +kernel
theorem dX5_isImage_4 : decode cX5_isImage 4 = .ok (.iload_n 0, 1) := by decide +kernel
theorem dX5_isImage_5 : decode cX5_isImage 5 = .ok (.iconst 2, 1) := by decide +kernel
theorem dX5_isImage_6 : decode cX5_isImage 6 = .ok (.if_icmp .ge 7, 3) := by decide +kernel
theorem dX5_isImage_9 : decode cX5_isImage 9 = .ok (.iconst 1, 1) := by decide +kernel
theorem dX5_isImage_10 : decode cX5_isImage 10 = .ok (.goto 4, 3) := by decide +kernel
theorem dX5_isImage_13 : decode cX5_isImage 13 = .ok (.iconst 0, 1) := by decide +kernel
theorem dX5_isImage_14 : decode cX5_isImage 14 = .ok (.ireturn, 1) := by decide +kernel
theorem dX5_isSwitch_0 : decode cX5_isSwitch 0 = .ok (.iload_n 0, 1) := by decide +kernel
theorem dX5_isSwitch_1 : decode cX5_isSwitch 1 = .ok (.ifCond .eq 8, 3) := by decide +kernel
theorem dX5_isSwitch_4 : decode cX5_isSwitch 4 = .ok (.iload_n 0, 1) := by decide +kernel
theorem dX5_isSwitch_5 : decode cX5_isSwitch 5 = .ok (.iconst 1, 1) := by decide +kernel
theorem dX5_isSwitch_6 : decode cX5_isSwitch 6 = .ok (.if_icmp .ne 7, 3) := by decide +kernel
theorem dX5_isSwitch_9 : decode cX5_isSwitch 9 = .ok (.iconst 1, 1) := by decide +kernel
theorem dX5_isSwitch_10 : decode cX5_isSwitch 10 = .ok (.goto 4, 3) := by decide +kernel
theorem dX5_isSwitch_13 : decode cX5_isSwitch 13 = .ok (.iconst 0, 1) := by decide +kernel
theorem dX5_isSwitch_14 : decode cX5_isSwitch 14 = .ok (.ireturn, 1) := by decide +kernel
theorem dX5_isIn_0 : decode cX5_isIn 0 = .ok (.iload_n 0, 1) := by decide +kernel
theorem dX5_isIn_1 : decode cX5_isIn 1 = .ok (.iload_n 1, 1) := by decide +kernel
theorem dX5_isIn_2 : decode cX5_isIn 2 = .ok (.ishr, 1) := by decide +kernel
theorem dX5_isIn_3 : decode cX5_isIn 3 = .ok (.iconst 1, 1) := by decide +kernel
theorem dX5_isIn_4 : decode cX5_isIn 4 = .ok (.iand, 1) := by decide +kernel
theorem dX5_isIn_5 : decode cX5_isIn 5 = .ok (.iconst 1, 1) := by decide +kernel
theorem dX5_isIn_6 : decode cX5_isIn 6 = .ok (.if_icmp .ne 7, 3) := by decide +kernel
theorem dX5_isIn_9 : decode cX5_isIn 9 = .ok (.iconst 1, 1) := by decide +kernel
theorem dX5_isIn_10 : decode cX5_isIn 10 = .ok (.goto 4, 3) := by decide +kernel
theorem dX5_isIn_13 : decode cX5_isIn 13 = .ok (.iconst 0, 1) := by decide +kernel
theorem dX5_isIn_14 : decode cX5_isIn 14 = .ok (.ireturn, 1) := by decide +kernel
theorem dX5_withMember_0 : decode cX5_withMember 0 = .ok (.iload_n 2, 1) := by decide +kernel
theorem dX5_withMember_1 : decode cX5_withMember 1 = .ok (.iconst 1, 1) := by decide +kernel
theorem dX5_withMember_2 : decode cX5_withMember 2 = .ok (.if_icmp .ne 11, 3) := by decide +kernel
theorem dX5_withMember_5 : decode cX5_withMember 5 = .ok (.iload_n 0, 1) := by decide +kernel
theorem dX5_withMember_6 : decode cX5_withMember 6 = .ok (.iconst 1, 1) := by decide +kernel
theorem dX5_withMember_7 : decode cX5_withMember 7 = .ok (.iload_n 1, 1) := by decide +kernel
theorem dX5_withMember_8 : decode cX5_withMember 8 = .ok (.ishl, 1) := by decide +kernel
theorem dX5_withMember_9 : decode cX5_withMember 9 = .ok (.ior, 1) := by decide +kernel
theorem dX5_withMember_10 : decode cX5_withMember 10 = .ok (.goto 10, 3) := by decide +kernel
theorem dX5_withMember_13 : decode cX5_withMember 13 = .ok (.iload_n 0, 1) := by decide +kernel
theorem dX5_withMember_14 : decode cX5_withMember 14 = .ok (.iconst 1, 1) := by decide +kernel
theorem dX5_withMember_15 : decode cX5_withMember 15 = .ok (.iload_n 1, 1) := by decide +kernel
theorem dX5_withMember_16 : decode cX5_withMember 16 = .ok (.ishl, 1) := by decide +kernel
theorem dX5_withMember_17 : decode cX5_withMember 17 = .ok (.iconst (-1), 1) := by decide +kernel
theorem dX5_withMember_18 : decode cX5_withMember 18 = .ok (.ixor, 1) := by decide +kernel
theorem dX5_withMember_19 : decode cX5_withMember 19 = .ok (.iand, 1) := by decide +kernel
theorem dX5_withMember_20 : decode cX5_withMember 20 = .ok (.ireturn, 1) := by decide +kernel
theorem dX5_asNumber_0 : decode cX5_asNumber 0 = .ok (.iload_n 0, 1) := by decide +kernel
theorem dX5_asNumber_1 : decode cX5_asNumber 1 = .ok (.ifCond .eq 7, 3) := by decide +kernel
theorem dX5_asNumber_4 : decode cX5_asNumber 4 = .ok (.iconst 1, 1) := by decide +kernel
theorem dX5_asNumber_5 : decode cX5_asNumber 5 = .ok (.goto 4, 3) := by decide +kernel
theorem dX5_asNumber_8 : decode cX5_asNumber 8 = .ok (.iconst 0, 1) := by decide +kernel
theorem dX5_asNumber_9 : decode cX5_asNumber 9 = .ok (.ireturn, 1) := by decide +kernel
theorem dX5_leastMembers_0 : decode cX5_leastMembers 0 = .ok (.iconst 0, 1) := by decide +kernel
theorem dX5_leastMembers_1 : decode cX5_leastMembers 1 = .ok (.istore_n 2, 1) := by decide +kernel
theorem dX5_leastMembers_2 : decode cX5_leastMembers 2 = .ok (.iconst 0, 1) := by decide +kernel
theorem dX5_leastMembers_3 : decode cX5_leastMembers 3 = .ok (.istore_n 3, 1) := by decide +kernel
theorem dX5_leastMembers_4 : decode cX5_leastMembers 4 = .ok (.iload_n 3, 1) := by decide +kernel
theorem dX5_leastMembers_5 : decode cX5_leastMembers 5 = .ok (.iconst 4, 1) := by decide +kernel
theorem dX5_leastMembers_6 : decode cX5_leastMembers 6 = .ok (.if_icmp .ge 31, 3) := by decide +kernel
theorem dX5_leastMembers_9 : decode cX5_leastMembers 9 = .ok (.iload_n 0, 1) := by decide +kernel
theorem dX5_leastMembers_10 : decode cX5_leastMembers 10 = .ok (.iload_n 3, 1) := by decide +kernel
theorem dX5_leastMembers_11 : decode cX5_leastMembers 11 = .ok (.invokestatic 85, 3) := by decide +kernel
theorem dX5_leastMembers_14 : decode cX5_leastMembers 14 = .ok (.ifCond .eq 17, 3) := by decide +kernel
theorem dX5_leastMembers_17 : decode cX5_leastMembers 17 = .ok (.iload_n 2, 1) := by decide +kernel
theorem dX5_leastMembers_18 : decode cX5_leastMembers 18 = .ok (.invokestatic 163, 3) := by decide +kernel
theorem dX5_leastMembers_21 : decode cX5_leastMembers 21 = .ok (.iload_n 1, 1) := by decide +kernel
theorem dX5_leastMembers_22 : decode cX5_leastMembers 22 = .ok (.if_icmp .ge 9, 3) := by decide +kernel
theorem dX5_leastMembers_25 : decode cX5_leastMembers 25 = .ok (.iload_n 2, 1) := by decide +kernel
theorem dX5_leastMembers_26 : decode cX5_leastMembers 26 = .ok (.iconst 1, 1) := by decide +kernel
theorem dX5_leastMembers_27 : decode cX5_leastMembers 27 = .ok (.iload_n 3, 1) := by decide +kernel
theorem dX5_leastMembers_28 : decode cX5_leastMembers 28 = .ok (.ishl, 1) := by decide +kernel
theorem dX5_leastMembers_29 : decode cX5_leastMembers 29 = .ok (.ior, 1) := by decide +kernel
theorem dX5_leastMembers_30 : decode cX5_leastMembers 30 = .ok (.istore_n 2, 1) := by decide +kernel
theorem dX5_leastMembers_31 : decode cX5_leastMembers 31 = .ok (.iinc 3 1, 3) := by decide +kernel
theorem dX5_leastMembers_34 : decode cX5_leastMembers 34 = .ok (.goto (-30), 3) := by decide +kernel
theorem dX5_leastMembers_37 : decode cX5_leastMembers 37 = .ok (.iload_n 2, 1) := by decide +kernel
theorem dX5_leastMembers_38 : decode cX5_leastMembers 38 = .ok (.ireturn, 1) := by decide +kernel
theorem dX5_leastNet_0 : decode cX5_leastNet 0 = .ok (.iconst 0, 1) := by decide +kernel
theorem dX5_leastNet_1 : decode cX5_leastNet 1 = .ok (.istore_n 1, 1) := by decide +kernel
theorem dX5_leastNet_2 : decode cX5_leastNet 2 = .ok (.iload_n 1, 1) := by decide +kernel
theorem dX5_leastNet_3 : decode cX5_leastNet 3 = .ok (.iconst 4, 1) := by decide +kernel
theorem dX5_leastNet_4 : decode cX5_leastNet 4 = .ok (.if_icmp .ge 19, 3) := by decide +kernel
theorem dX5_leastNet_7 : decode cX5_leastNet 7 = .ok (.iload_n 0, 1) := by decide +kernel
theorem dX5_leastNet_8 : decode cX5_leastNet 8 = .ok (.iload_n 1, 1) := by decide +kernel
theorem dX5_leastNet_9 : decode cX5_leastNet 9 = .ok (.invokestatic 85, 3) := by decide +kernel
theorem dX5_leastNet_12 : decode cX5_leastNet 12 = .ok (.ifCond .eq 5, 3) := by decide +kernel
theorem dX5_leastNet_15 : decode cX5_leastNet 15 = .ok (.iload_n 1, 1) := by decide +kernel
theorem dX5_leastNet_16 : decode cX5_leastNet 16 = .ok (.ireturn, 1) := by decide +kernel
theorem dX5_leastNet_17 : decode cX5_leastNet 17 = .ok (.iinc 1 1, 3) := by decide +kernel
theorem dX5_leastNet_20 : decode cX5_leastNet 20 = .ok (.goto (-18), 3) := by decide +kernel
theorem dX5_leastNet_23 : decode cX5_leastNet 23 = .ok (.bipush (-6), 2) := by decide +kernel
theorem dX5_leastNet_25 : decode cX5_leastNet 25 = .ok (.ireturn, 1) := by decide +kernel
theorem dX5_pairOfNets_0 : decode cX5_pairOfNets 0 = .ok (.iload_n 0, 1) := by decide +kernel
theorem dX5_pairOfNets_1 : decode cX5_pairOfNets 1 = .ok (.iload_n 1, 1) := by decide +kernel
theorem dX5_pairOfNets_2 : decode cX5_pairOfNets 2 = .ok (.invokestatic 213, 3) := by decide +kernel
theorem dX5_pairOfNets_5 : decode cX5_pairOfNets 5 = .ok (.istore_n 2, 1) := by decide +kernel
theorem dX5_pairOfNets_6 : decode cX5_pairOfNets 6 = .ok (.iload_n 0, 1) := by decide +kernel
theorem dX5_pairOfNets_7 : decode cX5_pairOfNets 7 = .ok (.iload_n 1, 1) := by decide +kernel
theorem dX5_pairOfNets_8 : decode cX5_pairOfNets 8 = .ok (.invokestatic 218, 3) := by decide +kernel
theorem dX5_pairOfNets_11 : decode cX5_pairOfNets 11 = .ok (.istore_n 3, 1) := by decide +kernel
theorem dX5_pairOfNets_12 : decode cX5_pairOfNets 12 = .ok (.iconst 0, 1) := by decide +kernel
theorem dX5_pairOfNets_13 : decode cX5_pairOfNets 13 = .ok (.istore 4, 2) := by decide +kernel
theorem dX5_pairOfNets_15 : decode cX5_pairOfNets 15 = .ok (.iconst 0, 1) := by decide +kernel
theorem dX5_pairOfNets_16 : decode cX5_pairOfNets 16 = .ok (.istore 5, 2) := by decide +kernel
theorem dX5_pairOfNets_18 : decode cX5_pairOfNets 18 = .ok (.iload 5, 2) := by decide +kernel
theorem dX5_pairOfNets_20 : decode cX5_pairOfNets 20 = .ok (.bipush 6, 2) := by decide +kernel
theorem dX5_pairOfNets_22 : decode cX5_pairOfNets 22 = .ok (.if_icmp .ge 33, 3) := by decide +kernel
theorem dX5_pairOfNets_25 : decode cX5_pairOfNets 25 = .ok (.getstatic 221, 3) := by decide +kernel
theorem dX5_pairOfNets_28 : decode cX5_pairOfNets 28 = .ok (.iload 5, 2) := by decide +kernel
theorem dX5_pairOfNets_30 : decode cX5_pairOfNets 30 = .ok (.iaload, 1) := by decide +kernel
theorem dX5_pairOfNets_31 : decode cX5_pairOfNets 31 = .ok (.iload_n 2, 1) := by decide +kernel
theorem dX5_pairOfNets_32 : decode cX5_pairOfNets 32 = .ok (.if_icmp .ne 17, 3) := by decide +kernel
theorem dX5_pairOfNets_35 : decode cX5_pairOfNets 35 = .ok (.getstatic 224, 3) := by decide +kernel
theorem dX5_pairOfNets_38 : decode cX5_pairOfNets 38 = .ok (.iload 5, 2) := by decide +kernel
theorem dX5_pairOfNets_40 : decode cX5_pairOfNets 40 = .ok (.iaload, 1) := by decide +kernel
theorem dX5_pairOfNets_41 : decode cX5_pairOfNets 41 = .ok (.iload_n 3, 1) := by decide +kernel
theorem dX5_pairOfNets_42 : decode cX5_pairOfNets 42 = .ok (.if_icmp .ne 7, 3) := by decide +kernel
theorem dX5_pairOfNets_45 : decode cX5_pairOfNets 45 = .ok (.iload 5, 2) := by decide +kernel
theorem dX5_pairOfNets_47 : decode cX5_pairOfNets 47 = .ok (.istore 4, 2) := by decide +kernel
theorem dX5_pairOfNets_49 : decode cX5_pairOfNets 49 = .ok (.iinc 5 1, 3) := by decide +kernel
theorem dX5_pairOfNets_52 : decode cX5_pairOfNets 52 = .ok (.goto (-34), 3) := by decide +kernel
theorem dX5_pairOfNets_55 : decode cX5_pairOfNets 55 = .ok (.iload 4, 2) := by decide +kernel
theorem dX5_pairOfNets_57 : decode cX5_pairOfNets 57 = .ok (.ireturn, 1) := by decide +kernel
theorem dX5_netsOneWith_0 : decode cX5_netsOneWith 0 = .ok (.iconst 1, 1) := by decide +kernel
theorem dX5_netsOneWith_1 : decode cX5_netsOneWith 1 = .ok (.iload_n 0, 1) := by decide +kernel
theorem dX5_netsOneWith_2 : decode cX5_netsOneWith 2 = .ok (.ishl, 1) := by decide +kernel
theorem dX5_netsOneWith_3 : decode cX5_netsOneWith 3 = .ok (.istore_n 2, 1) := by decide +kernel
theorem dX5_netsOneWith_4 : decode cX5_netsOneWith 4 = .ok (.iconst 1, 1) := by decide +kernel
theorem dX5_netsOneWith_5 : decode cX5_netsOneWith 5 = .ok (.istore_n 3, 1) := by decide +kernel
theorem dX5_netsOneWith_6 : decode cX5_netsOneWith 6 = .ok (.iload_n 3, 1) := by decide +kernel
theorem dX5_netsOneWith_7 : decode cX5_netsOneWith 7 = .ok (.iconst 4, 1) := by decide +kernel
theorem dX5_netsOneWith_8 : decode cX5_netsOneWith 8 = .ok (.if_icmp .ge 65, 3) := by decide +kernel
theorem dX5_netsOneWith_11 : decode cX5_netsOneWith 11 = .ok (.iconst 0, 1) := by decide +kernel
theorem dX5_netsOneWith_12 : decode cX5_netsOneWith 12 = .ok (.istore 4, 2) := by decide +kernel
theorem dX5_netsOneWith_14 : decode cX5_netsOneWith 14 = .ok (.iload 4, 2) := by decide +kernel
theorem dX5_netsOneWith_16 : decode cX5_netsOneWith 16 = .ok (.bipush 6, 2) := by decide +kernel
theorem dX5_netsOneWith_18 : decode cX5_netsOneWith 18 = .ok (.if_icmp .ge 49, 3) := by decide +kernel
theorem dX5_netsOneWith_21 : decode cX5_netsOneWith 21 = .ok (.iconst 1, 1) := by decide +kernel
theorem dX5_netsOneWith_22 : decode cX5_netsOneWith 22 = .ok (.getstatic 221, 3) := by decide +kernel
theorem dX5_netsOneWith_25 : decode cX5_netsOneWith 25 = .ok (.iload 4, 2) := by decide +kernel
theorem dX5_netsOneWith_27 : decode cX5_netsOneWith 27 = .ok (.iaload, 1) := by decide +kernel
theorem dX5_netsOneWith_28 : decode cX5_netsOneWith 28 = .ok (.ishl, 1) := by decide +kernel
theorem dX5_netsOneWith_29 : decode cX5_netsOneWith 29 = .ok (.iconst 1, 1) := by decide +kernel
theorem dX5_netsOneWith_30 : decode cX5_netsOneWith 30 = .ok (.getstatic 224, 3) := by decide +kernel
theorem dX5_netsOneWith_33 : decode cX5_netsOneWith 33 = .ok (.iload 4, 2) := by decide +kernel
theorem dX5_netsOneWith_35 : decode cX5_netsOneWith 35 = .ok (.iaload, 1) := by decide +kernel
theorem dX5_netsOneWith_36 : decode cX5_netsOneWith 36 = .ok (.ishl, 1) := by decide +kernel
theorem dX5_netsOneWith_37 : decode cX5_netsOneWith 37 = .ok (.ior, 1) := by decide +kernel
theorem dX5_netsOneWith_38 : decode cX5_netsOneWith 38 = .ok (.istore 5, 2) := by decide +kernel
theorem dX5_netsOneWith_40 : decode cX5_netsOneWith 40 = .ok (.iload_n 1, 1) := by decide +kernel
theorem dX5_netsOneWith_41 : decode cX5_netsOneWith 41 = .ok (.iload 4, 2) := by decide +kernel
theorem dX5_netsOneWith_43 : decode cX5_netsOneWith 43 = .ok (.invokestatic 85, 3) := by decide +kernel
theorem dX5_netsOneWith_46 : decode cX5_netsOneWith 46 = .ok (.ifCond .eq 15, 3) := by decide +kernel
theorem dX5_netsOneWith_49 : decode cX5_netsOneWith 49 = .ok (.iload_n 2, 1) := by decide +kernel
theorem dX5_netsOneWith_50 : decode cX5_netsOneWith 50 = .ok (.iload 5, 2) := by decide +kernel
theorem dX5_netsOneWith_52 : decode cX5_netsOneWith 52 = .ok (.iand, 1) := by decide +kernel
theorem dX5_netsOneWith_53 : decode cX5_netsOneWith 53 = .ok (.ifCond .eq 8, 3) := by decide +kernel
theorem dX5_netsOneWith_56 : decode cX5_netsOneWith 56 = .ok (.iload_n 2, 1) := by decide +kernel
theorem dX5_netsOneWith_57 : decode cX5_netsOneWith 57 = .ok (.iload 5, 2) := by decide +kernel
theorem dX5_netsOneWith_59 : decode cX5_netsOneWith 59 = .ok (.ior, 1) := by decide +kernel
theorem dX5_netsOneWith_60 : decode cX5_netsOneWith 60 = .ok (.istore_n 2, 1) := by decide +kernel
theorem dX5_netsOneWith_61 : decode cX5_netsOneWith 61 = .ok (.iinc 4 1, 3) := by decide +kernel
theorem dX5_netsOneWith_64 : decode cX5_netsOneWith 64 = .ok (.goto (-50), 3) := by decide +kernel
theorem dX5_netsOneWith_67 : decode cX5_netsOneWith 67 = .ok (.iinc 3 1, 3) := by decide +kernel
theorem dX5_netsOneWith_70 : decode cX5_netsOneWith 70 = .ok (.goto (-64), 3) := by decide +kernel
theorem dX5_netsOneWith_73 : decode cX5_netsOneWith 73 = .ok (.iload_n 2, 1) := by decide +kernel
theorem dX5_netsOneWith_74 : decode cX5_netsOneWith 74 = .ok (.ireturn, 1) := by decide +kernel
theorem dX6_init_0 : decode cX6_init 0 = .ok (.aload_n 0, 1) := by decide +kernel
theorem dX6_init_1 : decode cX6_init 1 = .ok (.invokespecial 1, 3) := by decide +kernel
theorem dX6_init_4 : decode cX6_init 4 = .ok (.aload_n 0, 1) := by decide +kernel
theorem dX6_init_5 : decode cX6_init 5 = .ok (.bipush 40, 2) := by decide +kernel
theorem dX6_init_7 : decode cX6_init 7 = .ok (.newarray .int, 2) := by decide +kernel
theorem dX6_init_9 : decode cX6_init 9 = .ok (.putfield 7, 3) := by decide +kernel
theorem dX6_init_12 : decode cX6_init 12 = .ok (.aload_n 0, 1) := by decide +kernel
theorem dX6_init_13 : decode cX6_init 13 = .ok (.bipush 80, 2) := by decide +kernel
theorem dX6_init_15 : decode cX6_init 15 = .ok (.newarray .int, 2) := by decide +kernel
theorem dX6_init_17 : decode cX6_init 17 = .ok (.putfield 13, 3) := by decide +kernel
theorem dX6_init_20 : decode cX6_init 20 = .ok (.aload_n 0, 1) := by decide +kernel
theorem dX6_init_21 : decode cX6_init 21 = .ok (.iconst 2, 1) := by decide +kernel
theorem dX6_init_22 : decode cX6_init 22 = .ok (.newarray .boolean, 2) := by decide +kernel
theorem dX6_init_24 : decode cX6_init 24 = .ok (.putfield 16, 3) := by decide +kernel
theorem dX6_init_27 : decode cX6_init 27 = .ok (.aload_n 0, 1) := by decide +kernel
theorem dX6_init_28 : decode cX6_init 28 = .ok (.bipush 24, 2) := by decide +kernel
theorem dX6_init_30 : decode cX6_init 30 = .ok (.newarray .int, 2) := by decide +kernel
theorem dX6_init_32 : decode cX6_init 32 = .ok (.putfield 20, 3) := by decide +kernel
theorem dX6_init_35 : decode cX6_init 35 = .ok (.aload_n 0, 1) := by decide +kernel
theorem dX6_init_36 : decode cX6_init 36 = .ok (.bipush 16, 2) := by decide +kernel
theorem dX6_init_38 : decode cX6_init 38 = .ok (.newarray .int, 2) := by decide +kernel
theorem dX6_init_40 : decode cX6_init 40 = .ok (.putfield 23, 3) := by decide +kernel
theorem dX6_init_43 : decode cX6_init 43 = .ok (.aload_n 0, 1) := by decide +kernel
theorem dX6_init_44 : decode cX6_init 44 = .ok (.bipush 16, 2) := by decide +kernel
theorem dX6_init_46 : decode cX6_init 46 = .ok (.newarray .int, 2) := by decide +kernel
theorem dX6_init_48 : decode cX6_init 48 = .ok (.putfield 26, 3) := by decide +kernel
theorem dX6_init_51 : decode cX6_init 51 = .ok (.aload_n 0, 1) := by decide +kernel
theorem dX6_init_52 : decode cX6_init 52 = .ok (.bipush 16, 2) := by decide +kernel
theorem dX6_init_54 : decode cX6_init 54 = .ok (.newarray .boolean, 2) := by decide +kernel
theorem dX6_init_56 : decode cX6_init 56 = .ok (.putfield 29, 3) := by decide +kernel
theorem dX6_init_59 : decode cX6_init 59 = .ok (.aload_n 0, 1) := by decide +kernel
theorem dX6_init_60 : decode cX6_init 60 = .ok (.bipush 8, 2) := by decide +kernel
theorem dX6_init_62 : decode cX6_init 62 = .ok (.newarray .int, 2) := by decide +kernel
theorem dX6_init_64 : decode cX6_init 64 = .ok (.putfield 32, 3) := by decide +kernel
theorem dX6_init_67 : decode cX6_init 67 = .ok (.aload_n 0, 1) := by decide +kernel
theorem dX6_init_68 : decode cX6_init 68 = .ok (.bipush 64, 2) := by decide +kernel
theorem dX6_init_70 : decode cX6_init 70 = .ok (.newarray .boolean, 2) := by decide +kernel
theorem dX6_init_72 : decode cX6_init 72 = .ok (.putfield 35, 3) := by decide +kernel
theorem dX6_init_75 : decode cX6_init 75 = .ok (.aload_n 0, 1) := by decide +kernel
theorem dX6_init_76 : decode cX6_init 76 = .ok (.bipush 16, 2) := by decide +kernel
theorem dX6_init_78 : decode cX6_init 78 = .ok (.newarray .boolean, 2) := by decide +kernel
theorem dX6_init_80 : decode cX6_init 80 = .ok (.putfield 38, 3) := by decide +kernel
theorem dX6_init_83 : decode cX6_init 83 = .ok (.aload_n 0, 1) := by decide +kernel
theorem dX6_init_84 : decode cX6_init 84 = .ok (.bipush 16, 2) := by decide +kernel
theorem dX6_init_86 : decode cX6_init 86 = .ok (.newarray .int, 2) := by decide +kernel
theorem dX6_init_88 : decode cX6_init 88 = .ok (.putfield 41, 3) := by decide +kernel
theorem dX6_init_91 : decode cX6_init 91 = .ok (.aload_n 0, 1) := by decide +kernel
theorem dX6_init_92 : decode cX6_init 92 = .ok (.sipush 11264, 3) := by decide +kernel
theorem dX6_init_95 : decode cX6_init 95 = .ok (.newarray .int, 2) := by decide +kernel
theorem dX6_init_97 : decode cX6_init 97 = .ok (.putfield 44, 3) := by decide +kernel
theorem dX6_init_100 : decode cX6_init 100 = .ok (.aload_n 0, 1) := by decide +kernel
theorem dX6_init_101 : decode cX6_init 101 = .ok (.bipush 40, 2) := by decide +kernel
theorem dX6_init_103 : decode cX6_init 103 = .ok (.newarray .int, 2) := by decide +kernel
theorem dX6_init_105 : decode cX6_init 105 = .ok (.putfield 47, 3) := by decide +kernel
theorem dX6_init_108 : decode cX6_init 108 = .ok (.aload_n 0, 1) := by decide +kernel
theorem dX6_init_109 : decode cX6_init 109 = .ok (.iconst 3, 1) := by decide +kernel
theorem dX6_init_110 : decode cX6_init 110 = .ok (.newarray .int, 2) := by decide +kernel
theorem dX6_init_112 : decode cX6_init 112 = .ok (.putfield 50, 3) := by decide +kernel
theorem dX6_init_115 : decode cX6_init 115 = .ok (.aload_n 0, 1) := by decide +kernel
theorem dX6_init_116 : decode cX6_init 116 = .ok (.getfield 7, 3) := by decide +kernel
theorem dX6_init_119 : decode cX6_init 119 = .ok (.bipush 33, 2) := by decide +kernel
theorem dX6_init_121 : decode cX6_init 121 = .ok (.bipush 50, 2) := by decide +kernel
theorem dX6_init_123 : decode cX6_init 123 = .ok (.iastore, 1) := by decide +kernel
theorem dX6_init_124 : decode cX6_init 124 = .ok (.return_, 1) := by decide +kernel
theorem dX6_in_0 : decode cX6_in 0 = .ok (.iload_n 0, 1) := by decide +kernel
theorem dX6_in_1 : decode cX6_in 1 = .ok (.iload_n 1, 1) := by decide +kernel
theorem dX6_in_2 : decode cX6_in 2 = .ok (.if_icmp .lt 12, 3) := by decide +kernel
theorem dX6_in_5 : decode cX6_in 5 = .ok (.iload_n 0, 1) := by decide +kernel
theorem dX6_in_6 : decode cX6_in 6 = .ok (.iload_n 2, 1) := by decide +kernel
theorem dX6_in_7 : decode cX6_in 7 = .ok (.if_icmp .gt 7, 3) := by decide +kernel
theorem dX6_in_10 : decode cX6_in 10 = .ok (.iconst 1, 1) := by decide +kernel
theorem dX6_in_11 : decode cX6_in 11 = .ok (.goto 4, 3) := by decide +kernel
theorem dX6_in_14 : decode cX6_in 14 = .ok (.iconst 0, 1) := by decide +kernel
theorem dX6_in_15 : decode cX6_in 15 = .ok (.ireturn, 1) := by decide +kernel
theorem dX6_isNet_0 : decode cX6_isNet 0 = .ok (.iload_n 0, 1) := by decide +kernel
theorem dX6_isNet_1 : decode cX6_isNet 1 = .ok (.iconst 0, 1) := by decide +kernel
theorem dX6_isNet_2 : decode cX6_isNet 2 = .ok (.iconst 3, 1) := by decide +kernel
theorem dX6_isNet_3 : decode cX6_isNet 3 = .ok (.invokestatic 53, 3) := by decide +kernel
theorem dX6_isNet_6 : decode cX6_isNet 6 = .ok (.ireturn, 1) := by decide +kernel
theorem dX6_isPoint_0 : decode cX6_isPoint 0 = .ok (.iload_n 1, 1) := by decide +kernel
theorem dX6_isPoint_1 : decode cX6_isPoint 1 = .ok (.iconst 0, 1) := by decide +kernel
theorem dX6_isPoint_2 : decode cX6_isPoint 2 = .ok (.aload_n 0, 1) := by decide +kernel
theorem dX6_isPoint_3 : decode cX6_isPoint 3 = .ok (.getfield 7, 3) := by decide +kernel
theorem dX6_isPoint_6 : decode cX6_isPoint 6 = .ok (.iconst 0, 1) := by decide +kernel
theorem dX6_isPoint_7 : decode cX6_isPoint 7 = .ok (.iaload, 1) := by decide +kernel
theorem dX6_isPoint_8 : decode cX6_isPoint 8 = .ok (.iconst 1, 1) := by decide +kernel
theorem dX6_isPoint_9 : decode cX6_isPoint 9 = .ok (.isub, 1) := by decide +kernel
theorem dX6_isPoint_10 : decode cX6_isPoint 10 = .ok (.invokestatic 53, 3) := by decide +kernel
theorem dX6_isPoint_13 : decode cX6_isPoint 13 = .ok (.ireturn, 1) := by decide +kernel
theorem dX6_isHere_0 : decode cX6_isHere 0 = .ok (.iload_n 0, 1) := by decide +kernel
theorem dX6_isHere_1 : decode cX6_isHere 1 = .ok (.iconst 0, 1) := by decide +kernel
theorem dX6_isHere_2 : decode cX6_isHere 2 = .ok (.bipush 20, 2) := by decide +kernel
theorem dX6_isHere_4 : decode cX6_isHere 4 = .ok (.invokestatic 53, 3) := by decide +kernel
theorem dX6_isHere_7 : decode cX6_isHere 7 = .ok (.ifCond .eq 17, 3) := by decide +kernel
theorem dX6_isHere_10 : decode cX6_isHere 10 = .ok (.iload_n 1, 1) := by decide +kernel
theorem dX6_isHere_11 : decode cX6_isHere 11 = .ok (.iconst 0, 1) := by decide +kernel
theorem dX6_isHere_12 : decode cX6_isHere 12 = .ok (.bipush 20, 2) := by decide +kernel
theorem dX6_isHere_14 : decode cX6_isHere 14 = .ok (.invokestatic 53, 3) := by decide +kernel
theorem dX6_isHere_17 : decode cX6_isHere 17 = .ok (.ifCond .eq 7, 3) := by decide +kernel
theorem dX6_isHere_20 : decode cX6_isHere 20 = .ok (.iconst 1, 1) := by decide +kernel
theorem dX6_isHere_21 : decode cX6_isHere 21 = .ok (.goto 4, 3) := by decide +kernel
theorem dX6_isHere_24 : decode cX6_isHere 24 = .ok (.iconst 0, 1) := by decide +kernel
theorem dX6_isHere_25 : decode cX6_isHere 25 = .ok (.ireturn, 1) := by decide +kernel
theorem dX6_point_0 : decode cX6_point 0 = .ok (.iload_n 1, 1) := by decide +kernel
theorem dX6_point_1 : decode cX6_point 1 = .ok (.invokestatic 57, 3) := by decide +kernel
theorem dX6_point_4 : decode cX6_point 4 = .ok (.ifCond .ne 5, 3) := by decide +kernel
theorem dX6_point_7 : decode cX6_point 7 = .ok (.iconst (-1), 1) := by decide +kernel
theorem dX6_point_8 : decode cX6_point 8 = .ok (.ireturn, 1) := by decide +kernel
theorem dX6_point_9 : decode cX6_point 9 = .ok (.iload_n 2, 1) := by decide +kernel
theorem dX6_point_10 : decode cX6_point 10 = .ok (.iload_n 3, 1) := by decide +kernel
theorem dX6_point_11 : decode cX6_point 11 = .ok (.invokestatic 61, 3) := by decide +kernel
theorem dX6_point_14 : decode cX6_point 14 = .ok (.ifCond .ne 6, 3) := by decide +kernel
theorem dX6_point_17 : decode cX6_point 17 = .ok (.bipush (-2), 2) := by decide +kernel
theorem dX6_point_19 : decode cX6_point 19 = .ok (.ireturn, 1) := by decide +kernel
theorem dX6_point_20 : decode cX6_point 20 = .ok (.aload_n 0, 1) := by decide +kernel
theorem dX6_point_21 : decode cX6_point 21 = .ok (.getfield 7, 3) := by decide +kernel
theorem dX6_point_24 : decode cX6_point 24 = .ok (.iconst 0, 1) := by decide +kernel
theorem dX6_point_25 : decode cX6_point 25 = .ok (.iaload, 1) := by decide +kernel
theorem dX6_point_26 : decode cX6_point 26 = .ok (.istore 4, 2) := by decide +kernel
theorem dX6_point_28 : decode cX6_point 28 = .ok (.iload 4, 2) := by decide +kernel
theorem dX6_point_30 : decode cX6_point 30 = .ok (.bipush 8, 2) := by decide +kernel
theorem dX6_point_32 : decode cX6_point 32 = .ok (.if_icmp .ne 6, 3) := by decide +kernel
theorem dX6_point_35 : decode cX6_point 35 = .ok (.bipush (-4), 2) := by decide +kernel
theorem dX6_point_37 : decode cX6_point 37 = .ok (.ireturn, 1) := by decide +kernel
theorem dX6_point_38 : decode cX6_point 38 = .ok (.aload_n 0, 1) := by decide +kernel
theorem dX6_point_39 : decode cX6_point 39 = .ok (.getfield 7, 3) := by decide +kernel
theorem dX6_point_42 : decode cX6_point 42 = .ok (.iconst 1, 1) := by decide +kernel
theorem dX6_point_43 : decode cX6_point 43 = .ok (.iload 4, 2) := by decide +kernel
theorem dX6_point_45 : decode cX6_point 45 = .ok (.iadd, 1) := by decide +kernel
theorem dX6_point_46 : decode cX6_point 46 = .ok (.iload_n 1, 1) := by decide +kernel
theorem dX6_point_47 : decode cX6_point 47 = .ok (.iastore, 1) := by decide +kernel
theorem dX6_point_48 : decode cX6_point 48 = .ok (.aload_n 0, 1) := by decide +kernel
theorem dX6_point_49 : decode cX6_point 49 = .ok (.getfield 7, 3) := by decide +kernel
theorem dX6_point_52 : decode cX6_point 52 = .ok (.bipush 9, 2) := by decide +kernel
theorem dX6_point_54 : decode cX6_point 54 = .ok (.iload 4, 2) := by decide +kernel
theorem dX6_point_56 : decode cX6_point 56 = .ok (.iadd, 1) := by decide +kernel
theorem dX6_point_57 : decode cX6_point 57 = .ok (.iload_n 2, 1) := by decide +kernel
theorem dX6_point_58 : decode cX6_point 58 = .ok (.iastore, 1) := by decide +kernel
theorem dX6_point_59 : decode cX6_point 59 = .ok (.aload_n 0, 1) := by decide +kernel
theorem dX6_point_60 : decode cX6_point 60 = .ok (.getfield 7, 3) := by decide +kernel
theorem dX6_point_63 : decode cX6_point 63 = .ok (.bipush 17, 2) := by decide +kernel
theorem dX6_point_65 : decode cX6_point 65 = .ok (.iload 4, 2) := by decide +kernel
theorem dX6_point_67 : decode cX6_point 67 = .ok (.iadd, 1) := by decide +kernel
theorem dX6_point_68 : decode cX6_point 68 = .ok (.iload_n 3, 1) := by decide +kernel
theorem dX6_point_69 : decode cX6_point 69 = .ok (.iastore, 1) := by decide +kernel
theorem dX6_point_70 : decode cX6_point 70 = .ok (.aload_n 0, 1) := by decide +kernel
theorem dX6_point_71 : decode cX6_point 71 = .ok (.getfield 7, 3) := by decide +kernel
theorem dX6_point_74 : decode cX6_point 74 = .ok (.bipush 25, 2) := by decide +kernel
theorem dX6_point_76 : decode cX6_point 76 = .ok (.iload 4, 2) := by decide +kernel
theorem dX6_point_78 : decode cX6_point 78 = .ok (.iadd, 1) := by decide +kernel
theorem dX6_point_79 : decode cX6_point 79 = .ok (.iconst 0, 1) := by decide +kernel
theorem dX6_point_80 : decode cX6_point 80 = .ok (.iastore, 1) := by decide +kernel
theorem dX6_point_81 : decode cX6_point 81 = .ok (.aload_n 0, 1) := by decide +kernel
theorem dX6_point_82 : decode cX6_point 82 = .ok (.getfield 7, 3) := by decide +kernel
theorem dX6_point_85 : decode cX6_point 85 = .ok (.iconst 0, 1) := by decide +kernel
theorem dX6_point_86 : decode cX6_point 86 = .ok (.dup2, 1) := by decide +kernel
theorem dX6_point_87 : decode cX6_point 87 = .ok (.iaload, 1) := by decide +kernel
theorem dX6_point_88 : decode cX6_point 88 = .ok (.iconst 1, 1) := by decide +kernel
theorem dX6_point_89 : decode cX6_point 89 = .ok (.iadd, 1) := by decide +kernel
theorem dX6_point_90 : decode cX6_point 90 = .ok (.iastore, 1) := by decide +kernel
theorem dX6_point_91 : decode cX6_point 91 = .ok (.iload 4, 2) := by decide +kernel
theorem dX6_point_93 : decode cX6_point 93 = .ok (.ireturn, 1) := by decide +kernel
theorem dX6_pop_0 : decode cX6_pop 0 = .ok (.aload_n 0, 1) := by decide +kernel
theorem dX6_pop_1 : decode cX6_pop 1 = .ok (.getfield 7, 3) := by decide +kernel
theorem dX6_pop_4 : decode cX6_pop 4 = .ok (.iconst 0, 1) := by decide +kernel
theorem dX6_pop_5 : decode cX6_pop 5 = .ok (.iaload, 1) := by decide +kernel
theorem dX6_pop_6 : decode cX6_pop 6 = .ok (.ifCond .ne 6, 3) := by decide +kernel
theorem dX6_pop_9 : decode cX6_pop 9 = .ok (.bipush (-3), 2) := by decide +kernel
theorem dX6_pop_11 : decode cX6_pop 11 = .ok (.ireturn, 1) := by decide +kernel
theorem dX6_pop_12 : decode cX6_pop 12 = .ok (.aload_n 0, 1) := by decide +kernel
theorem dX6_pop_13 : decode cX6_pop 13 = .ok (.getfield 7, 3) := by decide +kernel
theorem dX6_pop_16 : decode cX6_pop 16 = .ok (.iconst 0, 1) := by decide +kernel
theorem dX6_pop_17 : decode cX6_pop 17 = .ok (.dup2, 1) := by decide +kernel
theorem dX6_pop_18 : decode cX6_pop 18 = .ok (.iaload, 1) := by decide +kernel
theorem dX6_pop_19 : decode cX6_pop 19 = .ok (.iconst 1, 1) := by decide +kernel
theorem dX6_pop_20 : decode cX6_pop 20 = .ok (.isub, 1) := by decide +kernel
theorem dX6_pop_21 : decode cX6_pop 21 = .ok (.iastore, 1) := by decide +kernel
theorem dX6_pop_22 : decode cX6_pop 22 = .ok (.aload_n 0, 1) := by decide +kernel
theorem dX6_pop_23 : decode cX6_pop 23 = .ok (.getfield 7, 3) := by decide +kernel
theorem dX6_pop_26 : decode cX6_pop 26 = .ok (.iconst 0, 1) := by decide +kernel
theorem dX6_pop_27 : decode cX6_pop 27 = .ok (.iaload, 1) := by decide +kernel
theorem dX6_pop_28 : decode cX6_pop 28 = .ok (.ireturn, 1) := by decide +kernel
theorem dX6_move_0 : decode cX6_move 0 = .ok (.aload_n 0, 1) := by decide +kernel
theorem dX6_move_1 : decode cX6_move 1 = .ok (.iload_n 1, 1) := by decide +kernel
theorem dX6_move_2 : decode cX6_move 2 = .ok (.invokevirtual 65, 3) := by decide +kernel
theorem dX6_move_5 : decode cX6_move 5 = .ok (.ifCond .ne 5, 3) := by decide +kernel
theorem dX6_move_8 : decode cX6_move 8 = .ok (.iconst (-1), 1) := by decide +kernel
theorem dX6_move_9 : decode cX6_move 9 = .ok (.ireturn, 1) := by decide +kernel
theorem dX6_move_10 : decode cX6_move 10 = .ok (.iload_n 2, 1) := by decide +kernel
theorem dX6_move_11 : decode cX6_move 11 = .ok (.iload_n 3, 1) := by decide +kernel
theorem dX6_move_12 : decode cX6_move 12 = .ok (.invokestatic 61, 3) := by decide +kernel
theorem dX6_move_15 : decode cX6_move 15 = .ok (.ifCond .ne 6, 3) := by decide +kernel
theorem dX6_move_18 : decode cX6_move 18 = .ok (.bipush (-2), 2) := by decide +kernel
theorem dX6_move_20 : decode cX6_move 20 = .ok (.ireturn, 1) := by decide +kernel
theorem dX6_move_21 : decode cX6_move 21 = .ok (.bipush 21, 2) := by decide +kernel
theorem dX6_move_23 : decode cX6_move 23 = .ok (.aload_n 0, 1) := by decide +kernel
theorem dX6_move_24 : decode cX6_move 24 = .ok (.getfield 7, 3) := by decide +kernel
theorem dX6_move_27 : decode cX6_move 27 = .ok (.bipush 9, 2) := by decide +kernel
theorem dX6_move_29 : decode cX6_move 29 = .ok (.iload_n 1, 1) := by decide +kernel
theorem dX6_move_30 : decode cX6_move 30 = .ok (.iadd, 1) := by decide +kernel
theorem dX6_move_31 : decode cX6_move 31 = .ok (.iaload, 1) := by decide +kernel
theorem dX6_move_32 : decode cX6_move 32 = .ok (.imul, 1) := by decide +kernel
theorem dX6_move_33 : decode cX6_move 33 = .ok (.aload_n 0, 1) := by decide +kernel
theorem dX6_move_34 : decode cX6_move 34 = .ok (.getfield 7, 3) := by decide +kernel
theorem dX6_move_37 : decode cX6_move 37 = .ok (.bipush 17, 2) := by decide +kernel
theorem dX6_move_39 : decode cX6_move 39 = .ok (.iload_n 1, 1) := by decide +kernel
theorem dX6_move_40 : decode cX6_move 40 = .ok (.iadd, 1) := by decide +kernel
theorem dX6_move_41 : decode cX6_move 41 = .ok (.iaload, 1) := by decide +kernel
theorem dX6_move_42 : decode cX6_move 42 = .ok (.iadd, 1) := by decide +kernel
theorem dX6_move_43 : decode cX6_move 43 = .ok (.istore 4, 2) := by decide +kernel
theorem dX6_move_45 : decode cX6_move 45 = .ok (.aload_n 0, 1) := by decide +kernel
theorem dX6_move_46 : decode cX6_move 46 = .ok (.getfield 7, 3) := by decide +kernel
theorem dX6_move_49 : decode cX6_move 49 = .ok (.bipush 9, 2) := by decide +kernel
theorem dX6_move_51 : decode cX6_move 51 = .ok (.iload_n 1, 1) := by decide +kernel
theorem dX6_move_52 : decode cX6_move 52 = .ok (.iadd, 1) := by decide +kernel
theorem dX6_move_53 : decode cX6_move 53 = .ok (.iload_n 2, 1) := by decide +kernel
theorem dX6_move_54 : decode cX6_move 54 = .ok (.iastore, 1) := by decide +kernel
theorem dX6_move_55 : decode cX6_move 55 = .ok (.aload_n 0, 1) := by decide +kernel
theorem dX6_move_56 : decode cX6_move 56 = .ok (.getfield 7, 3) := by decide +kernel
theorem dX6_move_59 : decode cX6_move 59 = .ok (.bipush 17, 2) := by decide +kernel
theorem dX6_move_61 : decode cX6_move 61 = .ok (.iload_n 1, 1) := by decide +kernel
theorem dX6_move_62 : decode cX6_move 62 = .ok (.iadd, 1) := by decide +kernel
theorem dX6_move_63 : decode cX6_move 63 = .ok (.iload_n 3, 1) := by decide +kernel
theorem dX6_move_64 : decode cX6_move 64 = .ok (.iastore, 1) := by decide +kernel
theorem dX6_move_65 : decode cX6_move 65 = .ok (.iload 4, 2) := by decide +kernel
theorem dX6_move_67 : decode cX6_move 67 = .ok (.ireturn, 1) := by decide +kernel
theorem dX6_near_0 : decode cX6_near 0 = .ok (.iload_n 1, 1) := by decide +kernel
theorem dX6_near_1 : decode cX6_near 1 = .ok (.iconst 0, 1) := by decide +kernel
theorem dX6_near_2 : decode cX6_near 2 = .ok (.sipush 800, 3) := by decide +kernel
theorem dX6_near_5 : decode cX6_near 5 = .ok (.invokestatic 53, 3) := by decide +kernel
theorem dX6_near_8 : decode cX6_near 8 = .ok (.ifCond .ne 6, 3) := by decide +kernel
theorem dX6_near_11 : decode cX6_near 11 = .ok (.bipush (-2), 2) := by decide +kernel
theorem dX6_near_13 : decode cX6_near 13 = .ok (.ireturn, 1) := by decide +kernel
theorem dX6_near_14 : decode cX6_near 14 = .ok (.aload_n 0, 1) := by decide +kernel
theorem dX6_near_15 : decode cX6_near 15 = .ok (.getfield 7, 3) := by decide +kernel
theorem dX6_near_18 : decode cX6_near 18 = .ok (.bipush 33, 2) := by decide +kernel
theorem dX6_near_20 : decode cX6_near 20 = .ok (.iaload, 1) := by decide +kernel
theorem dX6_near_21 : decode cX6_near 21 = .ok (.istore_n 2, 1) := by decide +kernel
theorem dX6_near_22 : decode cX6_near 22 = .ok (.aload_n 0, 1) := by decide +kernel
theorem dX6_near_23 : decode cX6_near 23 = .ok (.getfield 7, 3) := by decide +kernel
theorem dX6_near_26 : decode cX6_near 26 = .ok (.bipush 33, 2) := by decide +kernel
theorem dX6_near_28 : decode cX6_near 28 = .ok (.iload_n 1, 1) := by decide +kernel
theorem dX6_near_29 : decode cX6_near 29 = .ok (.iastore, 1) := by decide +kernel
theorem dX6_near_30 : decode cX6_near 30 = .ok (.iload_n 2, 1) := by decide +kernel
theorem dX6_near_31 : decode cX6_near 31 = .ok (.ireturn, 1) := by decide +kernel
theorem dX6_of_0 : decode cX6_of 0 = .ok (.aload_n 0, 1) := by decide +kernel
theorem dX6_of_1 : decode cX6_of 1 = .ok (.iload_n 1, 1) := by decide +kernel
theorem dX6_of_2 : decode cX6_of 2 = .ok (.invokevirtual 65, 3) := by decide +kernel
theorem dX6_of_5 : decode cX6_of 5 = .ok (.ifCond .ne 5, 3) := by decide +kernel
theorem dX6_of_8 : decode cX6_of 8 = .ok (.iconst (-1), 1) := by decide +kernel
theorem dX6_of_9 : decode cX6_of 9 = .ok (.ireturn, 1) := by decide +kernel
theorem dX6_of_10 : decode cX6_of 10 = .ok (.iload_n 2, 1) := by decide +kernel
theorem dX6_of_11 : decode cX6_of 11 = .ok (.iconst 0, 1) := by decide +kernel
theorem dX6_of_12 : decode cX6_of 12 = .ok (.iconst 3, 1) := by decide +kernel
theorem dX6_of_13 : decode cX6_of 13 = .ok (.invokestatic 53, 3) := by decide +kernel
theorem dX6_of_16 : decode cX6_of 16 = .ok (.ifCond .eq 19, 3) := by decide +kernel
theorem dX6_of_19 : decode cX6_of 19 = .ok (.aload_n 0, 1) := by decide +kernel
theorem dX6_of_20 : decode cX6_of 20 = .ok (.getfield 7, 3) := by decide +kernel
theorem dX6_of_23 : decode cX6_of 23 = .ok (.iconst 1, 1) := by decide +kernel
theorem dX6_of_24 : decode cX6_of 24 = .ok (.bipush 8, 2) := by decide +kernel
theorem dX6_of_26 : decode cX6_of 26 = .ok (.iload_n 2, 1) := by decide +kernel
theorem dX6_of_27 : decode cX6_of 27 = .ok (.imul, 1) := by decide +kernel
theorem dX6_of_28 : decode cX6_of 28 = .ok (.iadd, 1) := by decide +kernel
theorem dX6_of_29 : decode cX6_of 29 = .ok (.iload_n 1, 1) := by decide +kernel
theorem dX6_of_30 : decode cX6_of 30 = .ok (.iadd, 1) := by decide +kernel
theorem dX6_of_31 : decode cX6_of 31 = .ok (.iaload, 1) := by decide +kernel
theorem dX6_of_32 : decode cX6_of 32 = .ok (.goto 5, 3) := by decide +kernel
theorem dX6_of_35 : decode cX6_of 35 = .ok (.bipush (-2), 2) := by decide +kernel
theorem dX6_of_37 : decode cX6_of 37 = .ok (.ireturn, 1) := by decide +kernel
theorem dX6_farOf_0 : decode cX6_farOf 0 = .ok (.aload_n 0, 1) := by decide +kernel
theorem dX6_farOf_1 : decode cX6_farOf 1 = .ok (.getfield 7, 3) := by decide +kernel
theorem dX6_farOf_4 : decode cX6_farOf 4 = .ok (.bipush 9, 2) := by decide +kernel
theorem dX6_farOf_6 : decode cX6_farOf 6 = .ok (.iload_n 1, 1) := by decide +kernel
theorem dX6_farOf_7 : decode cX6_farOf 7 = .ok (.iadd, 1) := by decide +kernel
theorem dX6_farOf_8 : decode cX6_farOf 8 = .ok (.iaload, 1) := by decide +kernel
theorem dX6_farOf_9 : decode cX6_farOf 9 = .ok (.aload_n 0, 1) := by decide +kernel
theorem dX6_farOf_10 : decode cX6_farOf 10 = .ok (.getfield 7, 3) := by decide +kernel
theorem dX6_farOf_13 : decode cX6_farOf 13 = .ok (.bipush 9, 2) := by decide +kernel
theorem dX6_farOf_15 : decode cX6_farOf 15 = .ok (.iload_n 2, 1) := by decide +kernel
theorem dX6_farOf_16 : decode cX6_farOf 16 = .ok (.iadd, 1) := by decide +kernel
theorem dX6_farOf_17 : decode cX6_farOf 17 = .ok (.iaload, 1) := by decide +kernel
theorem dX6_farOf_18 : decode cX6_farOf 18 = .ok (.isub, 1) := by decide +kernel
theorem dX6_farOf_19 : decode cX6_farOf 19 = .ok (.istore_n 3, 1) := by decide +kernel
theorem dX6_farOf_20 : decode cX6_farOf 20 = .ok (.aload_n 0, 1) := by decide +kernel
theorem dX6_farOf_21 : decode cX6_farOf 21 = .ok (.getfield 7, 3) := by decide +kernel
theorem dX6_farOf_24 : decode cX6_farOf 24 = .ok (.bipush 17, 2) := by decide +kernel
theorem dX6_farOf_26 : decode cX6_farOf 26 = .ok (.iload_n 1, 1) := by decide +kernel
theorem dX6_farOf_27 : decode cX6_farOf 27 = .ok (.iadd, 1) := by decide +kernel
theorem dX6_farOf_28 : decode cX6_farOf 28 = .ok (.iaload, 1) := by decide +kernel
theorem dX6_farOf_29 : decode cX6_farOf 29 = .ok (.aload_n 0, 1) := by decide +kernel
theorem dX6_farOf_30 : decode cX6_farOf 30 = .ok (.getfield 7, 3) := by decide +kernel
theorem dX6_farOf_33 : decode cX6_farOf 33 = .ok (.bipush 17, 2) := by decide +kernel
theorem dX6_farOf_35 : decode cX6_farOf 35 = .ok (.iload_n 2, 1) := by decide +kernel
theorem dX6_farOf_36 : decode cX6_farOf 36 = .ok (.iadd, 1) := by decide +kernel
theorem dX6_farOf_37 : decode cX6_farOf 37 = .ok (.iaload, 1) := by decide +kernel
theorem dX6_farOf_38 : decode cX6_farOf 38 = .ok (.isub, 1) := by decide +kernel
theorem dX6_farOf_39 : decode cX6_farOf 39 = .ok (.istore 4, 2) := by decide +kernel
theorem dX6_farOf_41 : decode cX6_farOf 41 = .ok (.iload_n 3, 1) := by decide +kernel
theorem dX6_farOf_42 : decode cX6_farOf 42 = .ok (.iload_n 3, 1) := by decide +kernel
theorem dX6_farOf_43 : decode cX6_farOf 43 = .ok (.imul, 1) := by decide +kernel
theorem dX6_farOf_44 : decode cX6_farOf 44 = .ok (.iload 4, 2) := by decide +kernel
theorem dX6_farOf_46 : decode cX6_farOf 46 = .ok (.iload 4, 2) := by decide +kernel
theorem dX6_farOf_48 : decode cX6_farOf 48 = .ok (.imul, 1) := by decide +kernel
theorem dX6_farOf_49 : decode cX6_farOf 49 = .ok (.iadd, 1) := by decide +kernel
theorem dX6_farOf_50 : decode cX6_farOf 50 = .ok (.ireturn, 1) := by decide +kernel
theorem dX6_far_0 : decode cX6_far 0 = .ok (.aload_n 0, 1) := by decide +kernel
theorem dX6_far_1 : decode cX6_far 1 = .ok (.iload_n 1, 1) := by decide +kernel
theorem dX6_far_2 : decode cX6_far 2 = .ok (.invokevirtual 65, 3) := by decide +kernel
theorem dX6_far_5 : decode cX6_far 5 = .ok (.ifCond .eq 20, 3) := by decide +kernel
theorem dX6_far_8 : decode cX6_far 8 = .ok (.aload_n 0, 1) := by decide +kernel
theorem dX6_far_9 : decode cX6_far 9 = .ok (.iload_n 2, 1) := by decide +kernel
theorem dX6_far_10 : decode cX6_far 10 = .ok (.invokevirtual 65, 3) := by decide +kernel
theorem dX6_far_13 : decode cX6_far 13 = .ok (.ifCond .eq 12, 3) := by decide +kernel
theorem dX6_far_16 : decode cX6_far 16 = .ok (.aload_n 0, 1) := by decide +kernel
theorem dX6_far_17 : decode cX6_far 17 = .ok (.iload_n 1, 1) := by decide +kernel
theorem dX6_far_18 : decode cX6_far 18 = .ok (.iload_n 2, 1) := by decide +kernel
theorem dX6_far_19 : decode cX6_far 19 = .ok (.invokevirtual 68, 3) := by decide +kernel
theorem dX6_far_22 : decode cX6_far 22 = .ok (.goto 4, 3) := by decide +kernel
theorem dX6_far_25 : decode cX6_far 25 = .ok (.iconst (-1), 1) := by decide +kernel
theorem dX6_far_26 : decode cX6_far 26 = .ok (.ireturn, 1) := by decide +kernel
theorem dX6_addTry_0 : decode cX6_addTry 0 = .ok (.aload_n 0, 1) := by decide +kernel
theorem dX6_addTry_1 : decode cX6_addTry 1 = .ok (.getfield 7, 3) := by decide +kernel
theorem dX6_addTry_4 : decode cX6_addTry 4 = .ok (.bipush 9, 2) := by decide +kernel
theorem dX6_addTry_6 : decode cX6_addTry 6 = .ok (.iload_n 1, 1) := by decide +kernel
theorem dX6_addTry_7 : decode cX6_addTry 7 = .ok (.iadd, 1) := by decide +kernel
theorem dX6_addTry_8 : decode cX6_addTry 8 = .ok (.iaload, 1) := by decide +kernel
theorem dX6_addTry_9 : decode cX6_addTry 9 = .ok (.aload_n 0, 1) := by decide +kernel
theorem dX6_addTry_10 : decode cX6_addTry 10 = .ok (.getfield 7, 3) := by decide +kernel
theorem dX6_addTry_13 : decode cX6_addTry 13 = .ok (.bipush 9, 2) := by decide +kernel
theorem dX6_addTry_15 : decode cX6_addTry 15 = .ok (.iload_n 2, 1) := by decide +kernel
theorem dX6_addTry_16 : decode cX6_addTry 16 = .ok (.iadd, 1) := by decide +kernel
theorem dX6_addTry_17 : decode cX6_addTry 17 = .ok (.iaload, 1) := by decide +kernel
theorem dX6_addTry_18 : decode cX6_addTry 18 = .ok (.if_icmp .lt 29, 3) := by decide +kernel
theorem dX6_addTry_21 : decode cX6_addTry 21 = .ok (.aload_n 0, 1) := by decide +kernel
theorem dX6_addTry_22 : decode cX6_addTry 22 = .ok (.getfield 7, 3) := by decide +kernel
theorem dX6_addTry_25 : decode cX6_addTry 25 = .ok (.bipush 9, 2) := by decide +kernel
theorem dX6_addTry_27 : decode cX6_addTry 27 = .ok (.iload_n 1, 1) := by decide +kernel
theorem dX6_addTry_28 : decode cX6_addTry 28 = .ok (.iadd, 1) := by decide +kernel
theorem dX6_addTry_29 : decode cX6_addTry 29 = .ok (.iaload, 1) := by decide +kernel
theorem dX6_addTry_30 : decode cX6_addTry 30 = .ok (.aload_n 0, 1) := by decide +kernel
theorem dX6_addTry_31 : decode cX6_addTry 31 = .ok (.getfield 7, 3) := by decide +kernel
theorem dX6_addTry_34 : decode cX6_addTry 34 = .ok (.bipush 9, 2) := by decide +kernel
theorem dX6_addTry_36 : decode cX6_addTry 36 = .ok (.iload_n 2, 1) := by decide +kernel
theorem dX6_addTry_37 : decode cX6_addTry 37 = .ok (.iadd, 1) := by decide +kernel
theorem dX6_addTry_38 : decode cX6_addTry 38 = .ok (.iaload, 1) := by decide +kernel
theorem dX6_addTry_39 : decode cX6_addTry 39 = .ok (.if_icmp .ne 12, 3) := by decide +kernel
theorem dX6_addTry_42 : decode cX6_addTry 42 = .ok (.iload_n 1, 1) := by decide +kernel
theorem dX6_addTry_43 : decode cX6_addTry 43 = .ok (.iload_n 2, 1) := by decide +kernel
theorem dX6_addTry_44 : decode cX6_addTry 44 = .ok (.if_icmp .ge 7, 3) := by decide +kernel
theorem dX6_addTry_47 : decode cX6_addTry 47 = .ok (.iconst 1, 1) := by decide +kernel
theorem dX6_addTry_48 : decode cX6_addTry 48 = .ok (.goto 4, 3) := by decide +kernel
theorem dX6_addTry_51 : decode cX6_addTry 51 = .ok (.iconst 0, 1) := by decide +kernel
theorem dX6_addTry_52 : decode cX6_addTry 52 = .ok (.istore 4, 2) := by decide +kernel
theorem dX6_addTry_54 : decode cX6_addTry 54 = .ok (.aload_n 0, 1) := by decide +kernel
theorem dX6_addTry_55 : decode cX6_addTry 55 = .ok (.getfield 23, 3) := by decide +kernel
theorem dX6_addTry_58 : decode cX6_addTry 58 = .ok (.aload_n 0, 1) := by decide +kernel
theorem dX6_addTry_59 : decode cX6_addTry 59 = .ok (.getfield 72, 3) := by decide +kernel
theorem dX6_addTry_62 : decode cX6_addTry 62 = .ok (.iload 4, 2) := by decide +kernel
theorem dX6_addTry_64 : decode cX6_addTry 64 = .ok (.ifCond .eq 7, 3) := by decide +kernel
theorem dX6_addTry_67 : decode cX6_addTry 67 = .ok (.iload_n 1, 1) := by decide +kernel
theorem dX6_addTry_68 : decode cX6_addTry 68 = .ok (.goto 4, 3) := by decide +kernel
theorem dX6_addTry_71 : decode cX6_addTry 71 = .ok (.iload_n 2, 1) := by decide +kernel
theorem dX6_addTry_72 : decode cX6_addTry 72 = .ok (.iastore, 1) := by decide +kernel
theorem dX6_addTry_73 : decode cX6_addTry 73 = .ok (.aload_n 0, 1) := by decide +kernel
theorem dX6_addTry_74 : decode cX6_addTry 74 = .ok (.getfield 26, 3) := by decide +kernel
theorem dX6_addTry_77 : decode cX6_addTry 77 = .ok (.aload_n 0, 1) := by decide +kernel
theorem dX6_addTry_78 : decode cX6_addTry 78 = .ok (.getfield 72, 3) := by decide +kernel
