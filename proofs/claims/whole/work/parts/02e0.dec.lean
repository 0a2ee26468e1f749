theorem dX7_init_0 : decode cX7_init 0 = .ok (.aload_n 0, 1) := by decide +kernel
theorem dX7_init_1 : decode cX7_init 1 = .ok (.invokespecial 1, 3) := by decide +kernel
theorem dX7_init_4 : decode cX7_init 4 = .ok (.aload_n 0, 1) := by decide +kernel
theorem dX7_init_5 : decode cX7_init 5 = .ok (.sipush 800, 3) := by decide +kernel
theorem dX7_init_8 : decode cX7_init 8 = .ok (.newarray .int, 2) := by decide +kernel
theorem dX7_init_10 : decode cX7_init 10 = .ok (.putfield 7, 3) := by decide +kernel
theorem dX7_init_13 : decode cX7_init 13 = .ok (.aload_n 0, 1) := by decide +kernel
theorem dX7_init_14 : decode cX7_init 14 = .ok (.iconst 2, 1) := by decide +kernel
theorem dX7_init_15 : decode cX7_init 15 = .ok (.newarray .boolean, 2) := by decide +kernel
theorem dX7_init_17 : decode cX7_init 17 = .ok (.putfield 13, 3) := by decide +kernel
theorem dX7_init_20 : decode cX7_init 20 = .ok (.aload_n 0, 1) := by decide +kernel
theorem dX7_init_21 : decode cX7_init 21 = .ok (.bipush 20, 2) := by decide +kernel
theorem dX7_init_23 : decode cX7_init 23 = .ok (.newarray .int, 2) := by decide +kernel
theorem dX7_init_25 : decode cX7_init 25 = .ok (.putfield 17, 3) := by decide +kernel
theorem dX7_init_28 : decode cX7_init 28 = .ok (.aload_n 0, 1) := by decide +kernel
theorem dX7_init_29 : decode cX7_init 29 = .ok (.bipush 20, 2) := by decide +kernel
theorem dX7_init_31 : decode cX7_init 31 = .ok (.newarray .int, 2) := by decide +kernel
theorem dX7_init_33 : decode cX7_init 33 = .ok (.putfield 20, 3) := by decide +kernel
theorem dX7_init_36 : decode cX7_init 36 = .ok (.aload_n 0, 1) := by decide +kernel
theorem dX7_init_37 : decode cX7_init 37 = .ok (.bipush 20, 2) := by decide +kernel
theorem dX7_init_39 : decode cX7_init 39 = .ok (.newarray .int, 2) := by decide +kernel
theorem dX7_init_41 : decode cX7_init 41 = .ok (.putfield 23, 3) := by decide +kernel
theorem dX7_init_44 : decode cX7_init 44 = .ok (.aload_n 0, 1) := by decide +kernel
theorem dX7_init_45 : decode cX7_init 45 = .ok (.bipush 48, 2) := by decide +kernel
theorem dX7_init_47 : decode cX7_init 47 = .ok (.newarray .int, 2) := by decide +kernel
theorem dX7_init_49 : decode cX7_init 49 = .ok (.putfield 26, 3) := by decide +kernel
theorem dX7_init_52 : decode cX7_init 52 = .ok (.aload_n 0, 1) := by decide +kernel
theorem dX7_init_53 : decode cX7_init 53 = .ok (.bipush 48, 2) := by decide +kernel
theorem dX7_init_55 : decode cX7_init 55 = .ok (.newarray .int, 2) := by decide +kernel
theorem dX7_init_57 : decode cX7_init 57 = .ok (.putfield 29, 3) := by decide +kernel
theorem dX7_init_60 : decode cX7_init 60 = .ok (.aload_n 0, 1) := by decide +kernel
theorem dX7_init_61 : decode cX7_init 61 = .ok (.bipush 20, 2) := by decide +kernel
theorem dX7_init_63 : decode cX7_init 63 = .ok (.newarray .int, 2) := by decide +kernel
theorem dX7_init_65 : decode cX7_init 65 = .ok (.putfield 32, 3) := by decide +kernel
theorem dX7_init_68 : decode cX7_init 68 = .ok (.aload_n 0, 1) := by decide +kernel
theorem dX7_init_69 : decode cX7_init 69 = .ok (.bipush 20, 2) := by decide +kernel
theorem dX7_init_71 : decode cX7_init 71 = .ok (.newarray .int, 2) := by decide +kernel
theorem dX7_init_73 : decode cX7_init 73 = .ok (.putfield 35, 3) := by decide +kernel
theorem dX7_init_76 : decode cX7_init 76 = .ok (.aload_n 0, 1) := by decide +kernel
theorem dX7_init_77 : decode cX7_init 77 = .ok (.bipush 60, 2) := by decide +kernel
theorem dX7_init_79 : decode cX7_init 79 = .ok (.newarray .int, 2) := by decide +kernel
theorem dX7_init_81 : decode cX7_init 81 = .ok (.putfield 38, 3) := by decide +kernel
theorem dX7_init_84 : decode cX7_init 84 = .ok (.aload_n 0, 1) := by decide +kernel
theorem dX7_init_85 : decode cX7_init 85 = .ok (.bipush 60, 2) := by decide +kernel
theorem dX7_init_87 : decode cX7_init 87 = .ok (.newarray .int, 2) := by decide +kernel
theorem dX7_init_89 : decode cX7_init 89 = .ok (.putfield 41, 3) := by decide +kernel
theorem dX7_init_92 : decode cX7_init 92 = .ok (.aload_n 0, 1) := by decide +kernel
theorem dX7_init_93 : decode cX7_init 93 = .ok (.bipush 60, 2) := by decide +kernel
theorem dX7_init_95 : decode cX7_init 95 = .ok (.newarray .int, 2) := by decide +kernel
theorem dX7_init_97 : decode cX7_init 97 = .ok (.putfield 44, 3) := by decide +kernel
theorem dX7_init_100 : decode cX7_init 100 = .ok (.aload_n 0, 1) := by decide +kernel
theorem dX7_init_101 : decode cX7_init 101 = .ok (.sipush 400, 3) := by decide +kernel
theorem dX7_init_104 : decode cX7_init 104 = .ok (.newarray .int, 2) := by decide +kernel
theorem dX7_init_106 : decode cX7_init 106 = .ok (.putfield 47, 3) := by decide +kernel
theorem dX7_init_109 : decode cX7_init 109 = .ok (.aload_n 0, 1) := by decide +kernel
theorem dX7_init_110 : decode cX7_init 110 = .ok (.iconst (-1), 1) := by decide +kernel
theorem dX7_init_111 : decode cX7_init 111 = .ok (.putfield 50, 3) := by decide +kernel
theorem dX7_init_114 : decode cX7_init 114 = .ok (.aload_n 0, 1) := by decide +kernel
theorem dX7_init_115 : decode cX7_init 115 = .ok (.bipush 9, 2) := by decide +kernel
theorem dX7_init_117 : decode cX7_init 117 = .ok (.newarray .int, 2) := by decide +kernel
theorem dX7_init_119 : decode cX7_init 119 = .ok (.putfield 54, 3) := by decide +kernel
theorem dX7_init_122 : decode cX7_init 122 = .ok (.aload_n 0, 1) := by decide +kernel
theorem dX7_init_123 : decode cX7_init 123 = .ok (.sipush 1800, 3) := by decide +kernel
theorem dX7_init_126 : decode cX7_init 126 = .ok (.newarray .int, 2) := by decide +kernel
theorem dX7_init_128 : decode cX7_init 128 = .ok (.putfield 57, 3) := by decide +kernel
theorem dX7_init_131 : decode cX7_init 131 = .ok (.aload_n 0, 1) := by decide +kernel
theorem dX7_init_132 : decode cX7_init 132 = .ok (.sipush 1800, 3) := by decide +kernel
theorem dX7_init_135 : decode cX7_init 135 = .ok (.newarray .int, 2) := by decide +kernel
theorem dX7_init_137 : decode cX7_init 137 = .ok (.putfield 60, 3) := by decide +kernel
theorem dX7_init_140 : decode cX7_init 140 = .ok (.aload_n 0, 1) := by decide +kernel
theorem dX7_init_141 : decode cX7_init 141 = .ok (.sipush 1010, 3) := by decide +kernel
theorem dX7_init_144 : decode cX7_init 144 = .ok (.newarray .int, 2) := by decide +kernel
theorem dX7_init_146 : decode cX7_init 146 = .ok (.putfield 63, 3) := by decide +kernel
theorem dX7_init_149 : decode cX7_init 149 = .ok (.aload_n 0, 1) := by decide +kernel
theorem dX7_init_150 : decode cX7_init 150 = .ok (.bipush 60, 2) := by decide +kernel
theorem dX7_init_152 : decode cX7_init 152 = .ok (.newarray .int, 2) := by decide +kernel
theorem dX7_init_154 : decode cX7_init 154 = .ok (.putfield 66, 3) := by decide +kernel
theorem dX7_init_157 : decode cX7_init 157 = .ok (.return_, 1) := by decide +kernel
theorem dX7_in_0 : decode cX7_in 0 = .ok (.lload_n 0, 1) := by decide +kernel
theorem dX7_in_1 : decode cX7_in 1 = .ok (.lload_n 2, 1) := by decide +kernel
theorem dX7_in_2 : decode cX7_in 2 = .ok (.lcmp, 1) := by decide +kernel
theorem dX7_in_3 : decode cX7_in 3 = .ok (.ifCond .lt 14, 3) := by decide +kernel
theorem dX7_in_6 : decode cX7_in 6 = .ok (.lload_n 0, 1) := by decide +kernel
theorem dX7_in_7 : decode cX7_in 7 = .ok (.lload 4, 2) := by decide +kernel
theorem dX7_in_9 : decode cX7_in 9 = .ok (.lcmp, 1) := by decide +kernel
theorem dX7_in_10 : decode cX7_in 10 = .ok (.ifCond .gt 7, 3) := by decide +kernel
theorem dX7_in_13 : decode cX7_in 13 = .ok (.iconst 1, 1) := by decide +kernel
theorem dX7_in_14 : decode cX7_in 14 = .ok (.goto 4, 3) := by decide +kernel
theorem dX7_in_17 : decode cX7_in 17 = .ok (.iconst 0, 1) := by decide +kernel
theorem dX7_in_18 : decode cX7_in 18 = .ok (.ireturn, 1) := by decide +kernel
theorem dX7_one_0 : decode cX7_one 0 = .ok (.iload_n 0, 1) := by decide +kernel
theorem dX7_one_1 : decode cX7_one 1 = .ok (.ifCond .eq 7, 3) := by decide +kernel
theorem dX7_one_4 : decode cX7_one 4 = .ok (.iconst 1, 1) := by decide +kernel
theorem dX7_one_5 : decode cX7_one 5 = .ok (.goto 4, 3) := by decide +kernel
theorem dX7_one_8 : decode cX7_one 8 = .ok (.iconst 0, 1) := by decide +kernel
theorem dX7_one_9 : decode cX7_one 9 = .ok (.ireturn, 1) := by decide +kernel
theorem dX7_has_0 : decode cX7_has 0 = .ok (.iload_n 0, 1) := by decide +kernel
theorem dX7_has_1 : decode cX7_has 1 = .ok (.iload_n 1, 1) := by decide +kernel
theorem dX7_has_2 : decode cX7_has 2 = .ok (.ishr, 1) := by decide +kernel
theorem dX7_has_3 : decode cX7_has 3 = .ok (.iconst 1, 1) := by decide +kernel
theorem dX7_has_4 : decode cX7_has 4 = .ok (.iand, 1) := by decide +kernel
theorem dX7_has_5 : decode cX7_has 5 = .ok (.iconst 1, 1) := by decide +kernel
theorem dX7_has_6 : decode cX7_has 6 = .ok (.if_icmp .ne 7, 3) := by decide +kernel
theorem dX7_has_9 : decode cX7_has 9 = .ok (.iconst 1, 1) := by decide +kernel
theorem dX7_has_10 : decode cX7_has 10 = .ok (.goto 4, 3) := by decide +kernel
theorem dX7_has_13 : decode cX7_has 13 = .ok (.iconst 0, 1) := by decide +kernel
theorem dX7_has_14 : decode cX7_has 14 = .ok (.ireturn, 1) := by decide +kernel
theorem dX7_ones_0 : decode cX7_ones 0 = .ok (.iconst 0, 1) := by decide +kernel
theorem dX7_ones_1 : decode cX7_ones 1 = .ok (.istore_n 1, 1) := by decide +kernel
theorem dX7_ones_2 : decode cX7_ones 2 = .ok (.iconst 0, 1) := by decide +kernel
theorem dX7_ones_3 : decode cX7_ones 3 = .ok (.istore_n 2, 1) := by decide +kernel
theorem dX7_ones_4 : decode cX7_ones 4 = .ok (.iload_n 2, 1) := by decide +kernel
theorem dX7_ones_5 : decode cX7_ones 5 = .ok (.bipush 9, 2) := by decide +kernel
theorem dX7_ones_7 : decode cX7_ones 7 = .ok (.if_icmp .ge 17, 3) := by decide +kernel
theorem dX7_ones_10 : decode cX7_ones 10 = .ok (.iload_n 1, 1) := by decide +kernel
theorem dX7_ones_11 : decode cX7_ones 11 = .ok (.iload_n 0, 1) := by decide +kernel
theorem dX7_ones_12 : decode cX7_ones 12 = .ok (.iload_n 2, 1) := by decide +kernel
theorem dX7_ones_13 : decode cX7_ones 13 = .ok (.ishr, 1) := by decide +kernel
theorem dX7_ones_14 : decode cX7_ones 14 = .ok (.iconst 1, 1) := by decide +kernel
theorem dX7_ones_15 : decode cX7_ones 15 = .ok (.iand, 1) := by decide +kernel
theorem dX7_ones_16 : decode cX7_ones 16 = .ok (.iadd, 1) := by decide +kernel
theorem dX7_ones_17 : decode cX7_ones 17 = .ok (.istore_n 1, 1) := by decide +kernel
theorem dX7_ones_18 : decode cX7_ones 18 = .ok (.iinc 2 1, 3) := by decide +kernel
theorem dX7_ones_21 : decode cX7_ones 21 = .ok (.goto (-17), 3) := by decide +kernel
theorem dX7_ones_24 : decode cX7_ones 24 = .ok (.iload_n 1, 1) := by decide +kernel
theorem dX7_ones_25 : decode cX7_ones 25 = .ok (.ireturn, 1) := by decide +kernel
theorem dX7_least_0 : decode cX7_least 0 = .ok (.iload_n 0, 1) := by decide +kernel
theorem dX7_least_1 : decode cX7_least 1 = .ok (.iload_n 1, 1) := by decide +kernel
theorem dX7_least_2 : decode cX7_least 2 = .ok (.if_icmp .ge 7, 3) := by decide +kernel
theorem dX7_least_5 : decode cX7_least 5 = .ok (.iload_n 0, 1) := by decide +kernel
theorem dX7_least_6 : decode cX7_least 6 = .ok (.goto 4, 3) := by decide +kernel
theorem dX7_least_9 : decode cX7_least 9 = .ok (.iload_n 1, 1) := by decide +kernel
theorem dX7_least_10 : decode cX7_least 10 = .ok (.ireturn, 1) := by decide +kernel
theorem dX7_feed_0 : decode cX7_feed 0 = .ok (.iload_n 1, 1) := by decide +kernel
theorem dX7_feed_1 : decode cX7_feed 1 = .ok (.i2l, 1) := by decide +kernel
theorem dX7_feed_2 : decode cX7_feed 2 = .ok (.lconst 1, 1) := by decide +kernel
theorem dX7_feed_3 : decode cX7_feed 3 = .ok (.ldc2_w 69, 3) := by decide +kernel
theorem dX7_feed_6 : decode cX7_feed 6 = .ok (.invokestatic 71, 3) := by decide +kernel
theorem dX7_feed_9 : decode cX7_feed 9 = .ok (.ifCond .ne 6, 3) := by decide +kernel
theorem dX7_feed_12 : decode cX7_feed 12 = .ok (.ldc 75, 2) := by decide +kernel
theorem dX7_feed_14 : decode cX7_feed 14 = .ok (.ireturn, 1) := by decide +kernel
theorem dX7_feed_15 : decode cX7_feed 15 = .ok (.aload_n 0, 1) := by decide +kernel
theorem dX7_feed_16 : decode cX7_feed 16 = .ok (.getfield 76, 3) := by decide +kernel
theorem dX7_feed_19 : decode cX7_feed 19 = .ok (.iload_n 1, 1) := by decide +kernel
theorem dX7_feed_20 : decode cX7_feed 20 = .ok (.iadd, 1) := by decide +kernel
theorem dX7_feed_21 : decode cX7_feed 21 = .ok (.sipush 400, 3) := by decide +kernel
theorem dX7_feed_24 : decode cX7_feed 24 = .ok (.if_icmp .le 6, 3) := by decide +kernel
theorem dX7_feed_27 : decode cX7_feed 27 = .ok (.ldc 79, 2) := by decide +kernel
theorem dX7_feed_29 : decode cX7_feed 29 = .ok (.ireturn, 1) := by decide +kernel
theorem dX7_feed_30 : decode cX7_feed 30 = .ok (.iload_n 1, 1) := by decide +kernel
theorem dX7_feed_31 : decode cX7_feed 31 = .ok (.iconst 1, 1) := by decide +kernel
theorem dX7_feed_32 : decode cX7_feed 32 = .ok (.isub, 1) := by decide +kernel
theorem dX7_feed_33 : decode cX7_feed 33 = .ok (.istore 4, 2) := by decide +kernel
theorem dX7_feed_35 : decode cX7_feed 35 = .ok (.iload 4, 2) := by decide +kernel
theorem dX7_feed_37 : decode cX7_feed 37 = .ok (.ifCond .lt 40, 3) := by decide +kernel
theorem dX7_feed_40 : decode cX7_feed 40 = .ok (.aload_n 0, 1) := by decide +kernel
theorem dX7_feed_41 : decode cX7_feed 41 = .ok (.getfield 47, 3) := by decide +kernel
theorem dX7_feed_44 : decode cX7_feed 44 = .ok (.aload_n 0, 1) := by decide +kernel
theorem dX7_feed_45 : decode cX7_feed 45 = .ok (.getfield 76, 3) := by decide +kernel
theorem dX7_feed_48 : decode cX7_feed 48 = .ok (.lload_n 2, 1) := by decide +kernel
theorem dX7_feed_49 : decode cX7_feed 49 = .ok (.bipush 8, 2) := by decide +kernel
theorem dX7_feed_51 : decode cX7_feed 51 = .ok (.iload 4, 2) := by decide +kernel
theorem dX7_feed_53 : decode cX7_feed 53 = .ok (.imul, 1) := by decide +kernel
theorem dX7_feed_54 : decode cX7_feed 54 = .ok (.lshr, 1) := by decide +kernel
theorem dX7_feed_55 : decode cX7_feed 55 = .ok (.ldc2_w 80, 3) := by decide +kernel
theorem dX7_feed_58 : decode cX7_feed 58 = .ok (.land, 1) := by decide +kernel
theorem dX7_feed_59 : decode cX7_feed 59 = .ok (.l2i, 1) := by decide +kernel
theorem dX7_feed_60 : decode cX7_feed 60 = .ok (.iastore, 1) := by decide +kernel
theorem dX7_feed_61 : decode cX7_feed 61 = .ok (.aload_n 0, 1) := by decide +kernel
theorem dX7_feed_62 : decode cX7_feed 62 = .ok (.dup, 1) := by decide +kernel
theorem dX7_feed_63 : decode cX7_feed 63 = .ok (.getfield 76, 3) := by decide +kernel
theorem dX7_feed_66 : decode cX7_feed 66 = .ok (.iconst 1, 1) := by decide +kernel
theorem dX7_feed_67 : decode cX7_feed 67 = .ok (.iadd, 1) := by decide +kernel
theorem dX7_feed_68 : decode cX7_feed 68 = .ok (.putfield 76, 3) := by decide +kernel
theorem dX7_feed_71 : decode cX7_feed 71 = .ok (.iinc 4 (-1), 3) := by decide +kernel
theorem dX7_feed_74 : decode cX7_feed 74 = .ok (.goto (-39), 3) := by decide +kernel
theorem dX7_feed_77 : decode cX7_feed 77 = .ok (.aload_n 0, 1) := by decide +kernel
theorem dX7_feed_78 : decode cX7_feed 78 = .ok (.getfield 76, 3) := by decide +kernel
theorem dX7_feed_81 : decode cX7_feed 81 = .ok (.ireturn, 1) := by decide +kernel
theorem dX7_here_0 : decode cX7_here 0 = .ok (.aload_n 0, 1) := by decide +kernel
theorem dX7_here_1 : decode cX7_here 1 = .ok (.getfield 82, 3) := by decide +kernel
theorem dX7_here_4 : decode cX7_here 4 = .ok (.aload_n 0, 1) := by decide +kernel
theorem dX7_here_5 : decode cX7_here 5 = .ok (.getfield 76, 3) := by decide +kernel
theorem dX7_here_8 : decode cX7_here 8 = .ok (.if_icmp .ge 30, 3) := by decide +kernel
theorem dX7_here_11 : decode cX7_here 11 = .ok (.aload_n 0, 1) := by decide +kernel
theorem dX7_here_12 : decode cX7_here 12 = .ok (.getfield 47, 3) := by decide +kernel
theorem dX7_here_15 : decode cX7_here 15 = .ok (.aload_n 0, 1) := by decide +kernel
theorem dX7_here_16 : decode cX7_here 16 = .ok (.getfield 82, 3) := by decide +kernel
theorem dX7_here_19 : decode cX7_here 19 = .ok (.iaload, 1) := by decide +kernel
theorem dX7_here_20 : decode cX7_here 20 = .ok (.bipush 32, 2) := by decide +kernel
theorem dX7_here_22 : decode cX7_here 22 = .ok (.if_icmp .ne 16, 3) := by decide +kernel
theorem dX7_here_25 : decode cX7_here 25 = .ok (.aload_n 0, 1) := by decide +kernel
theorem dX7_here_26 : decode cX7_here 26 = .ok (.dup, 1) := by decide +kernel
theorem dX7_here_27 : decode cX7_here 27 = .ok (.getfield 82, 3) := by decide +kernel
theorem dX7_here_30 : decode cX7_here 30 = .ok (.iconst 1, 1) := by decide +kernel
theorem dX7_here_31 : decode cX7_here 31 = .ok (.iadd, 1) := by decide +kernel
theorem dX7_here_32 : decode cX7_here 32 = .ok (.putfield 82, 3) := by decide +kernel
theorem dX7_here_35 : decode cX7_here 35 = .ok (.goto (-35), 3) := by decide +kernel
theorem dX7_here_38 : decode cX7_here 38 = .ok (.aload_n 0, 1) := by decide +kernel
theorem dX7_here_39 : decode cX7_here 39 = .ok (.getfield 82, 3) := by decide +kernel
theorem dX7_here_42 : decode cX7_here 42 = .ok (.aload_n 0, 1) := by decide +kernel
theorem dX7_here_43 : decode cX7_here 43 = .ok (.getfield 76, 3) := by decide +kernel
theorem dX7_here_46 : decode cX7_here 46 = .ok (.if_icmp .ge 15, 3) := by decide +kernel
theorem dX7_here_49 : decode cX7_here 49 = .ok (.aload_n 0, 1) := by decide +kernel
theorem dX7_here_50 : decode cX7_here 50 = .ok (.getfield 47, 3) := by decide +kernel
theorem dX7_here_53 : decode cX7_here 53 = .ok (.aload_n 0, 1) := by decide +kernel
theorem dX7_here_54 : decode cX7_here 54 = .ok (.getfield 82, 3) := by decide +kernel
theorem dX7_here_57 : decode cX7_here 57 = .ok (.iaload, 1) := by decide +kernel
theorem dX7_here_58 : decode cX7_here 58 = .ok (.goto 4, 3) := by decide +kernel
theorem dX7_here_61 : decode cX7_here 61 = .ok (.iconst (-1), 1) := by decide +kernel
theorem dX7_here_62 : decode cX7_here 62 = .ok (.ireturn, 1) := by decide +kernel
theorem dX7_want_0 : decode cX7_want 0 = .ok (.iload_n 1, 1) := by decide +kernel
theorem dX7_want_1 : decode cX7_want 1 = .ok (.ifCond .ne 20, 3) := by decide +kernel
theorem dX7_want_4 : decode cX7_want 4 = .ok (.aload_n 0, 1) := by decide +kernel
theorem dX7_want_5 : decode cX7_want 5 = .ok (.getfield 85, 3) := by decide +kernel
theorem dX7_want_8 : decode cX7_want 8 = .ok (.ifCond .ne 13, 3) := by decide +kernel
theorem dX7_want_11 : decode cX7_want 11 = .ok (.aload_n 0, 1) := by decide +kernel
theorem dX7_want_12 : decode cX7_want 12 = .ok (.iload_n 2, 1) := by decide +kernel
theorem dX7_want_13 : decode cX7_want 13 = .ok (.putfield 85, 3) := by decide +kernel
theorem dX7_want_16 : decode cX7_want 16 = .ok (.aload_n 0, 1) := by decide +kernel
theorem dX7_want_17 : decode cX7_want 17 = .ok (.iload_n 3, 1) := by decide +kernel
theorem dX7_want_18 : decode cX7_want 18 = .ok (.putfield 50, 3) := by decide +kernel
theorem dX7_want_21 : decode cX7_want 21 = .ok (.aload_n 0, 1) := by decide +kernel
theorem dX7_want_22 : decode cX7_want 22 = .ok (.getfield 85, 3) := by decide +kernel
theorem dX7_want_25 : decode cX7_want 25 = .ok (.ifCond .ne 7, 3) := by decide +kernel
theorem dX7_want_28 : decode cX7_want 28 = .ok (.iconst 1, 1) := by decide +kernel
theorem dX7_want_29 : decode cX7_want 29 = .ok (.goto 4, 3) := by decide +kernel
theorem dX7_want_32 : decode cX7_want 32 = .ok (.iconst 0, 1) := by decide +kernel
theorem dX7_want_33 : decode cX7_want 33 = .ok (.ireturn, 1) := by decide +kernel
theorem dX7_takeWord_0 : decode cX7_takeWord 0 = .ok (.aload_n 0, 1) := by decide +kernel
theorem dX7_takeWord_1 : decode cX7_takeWord 1 = .ok (.invokevirtual 88, 3) := by decide +kernel
theorem dX7_takeWord_4 : decode cX7_takeWord 4 = .ok (.istore_n 1, 1) := by decide +kernel
theorem dX7_takeWord_5 : decode cX7_takeWord 5 = .ok (.aload_n 0, 1) := by decide +kernel
theorem dX7_takeWord_6 : decode cX7_takeWord 6 = .ok (.aload_n 0, 1) := by decide +kernel
theorem dX7_takeWord_7 : decode cX7_takeWord 7 = .ok (.getfield 82, 3) := by decide +kernel
theorem dX7_takeWord_10 : decode cX7_takeWord 10 = .ok (.putfield 92, 3) := by decide +kernel
theorem dX7_takeWord_13 : decode cX7_takeWord 13 = .ok (.aload_n 0, 1) := by decide +kernel
theorem dX7_takeWord_14 : decode cX7_takeWord 14 = .ok (.getfield 82, 3) := by decide +kernel
theorem dX7_takeWord_17 : decode cX7_takeWord 17 = .ok (.aload_n 0, 1) := by decide +kernel
theorem dX7_takeWord_18 : decode cX7_takeWord 18 = .ok (.getfield 76, 3) := by decide +kernel
theorem dX7_takeWord_21 : decode cX7_takeWord 21 = .ok (.if_icmp .ge 38, 3) := by decide +kernel
theorem dX7_takeWord_24 : decode cX7_takeWord 24 = .ok (.aload_n 0, 1) := by decide +kernel
theorem dX7_takeWord_25 : decode cX7_takeWord 25 = .ok (.getfield 47, 3) := by decide +kernel
theorem dX7_takeWord_28 : decode cX7_takeWord 28 = .ok (.aload_n 0, 1) := by decide +kernel
theorem dX7_takeWord_29 : decode cX7_takeWord 29 = .ok (.getfield 82, 3) := by decide +kernel
theorem dX7_takeWord_32 : decode cX7_takeWord 32 = .ok (.iaload, 1) := by decide +kernel
theorem dX7_takeWord_33 : decode cX7_takeWord 33 = .ok (.i2l, 1) := by decide +kernel
theorem dX7_takeWord_34 : decode cX7_takeWord 34 = .ok (.ldc2_w 95, 3) := by decide +kernel
theorem dX7_takeWord_37 : decode cX7_takeWord 37 = .ok (.ldc2_w 97, 3) := by decide +kernel
theorem dX7_takeWord_40 : decode cX7_takeWord 40 = .ok (.invokestatic 71, 3) := by decide +kernel
theorem dX7_takeWord_43 : decode cX7_takeWord 43 = .ok (.ifCond .eq 16, 3) := by decide +kernel
theorem dX7_takeWord_46 : decode cX7_takeWord 46 = .ok (.aload_n 0, 1) := by decide +kernel
theorem dX7_takeWord_47 : decode cX7_takeWord 47 = .ok (.dup, 1) := by decide +kernel
theorem dX7_takeWord_48 : decode cX7_takeWord 48 = .ok (.getfield 82, 3) := by decide +kernel
theorem dX7_takeWord_51 : decode cX7_takeWord 51 = .ok (.iconst 1, 1) := by decide +kernel
theorem dX7_takeWord_52 : decode cX7_takeWord 52 = .ok (.iadd, 1) := by decide +kernel
theorem dX7_takeWord_53 : decode cX7_takeWord 53 = .ok (.putfield 82, 3) := by decide +kernel
theorem dX7_takeWord_56 : decode cX7_takeWord 56 = .ok (.goto (-43), 3) := by decide +kernel
theorem dX7_takeWord_59 : decode cX7_takeWord 59 = .ok (.aload_n 0, 1) := by decide +kernel
theorem dX7_takeWord_60 : decode cX7_takeWord 60 = .ok (.aload_n 0, 1) := by decide +kernel
theorem dX7_takeWord_61 : decode cX7_takeWord 61 = .ok (.getfield 82, 3) := by decide +kernel
theorem dX7_takeWord_64 : decode cX7_takeWord 64 = .ok (.aload_n 0, 1) := by decide +kernel
theorem dX7_takeWord_65 : decode cX7_takeWord 65 = .ok (.getfield 92, 3) := by decide +kernel
theorem dX7_takeWord_68 : decode cX7_takeWord 68 = .ok (.isub, 1) := by decide +kernel
theorem dX7_takeWord_69 : decode cX7_takeWord 69 = .ok (.putfield 99, 3) := by decide +kernel
theorem dX7_takeWord_72 : decode cX7_takeWord 72 = .ok (.return_, 1) := by decide +kernel
theorem dX7_isWord_0 : decode cX7_isWord 0 = .ok (.aload_n 0, 1) := by decide +kernel
theorem dX7_isWord_1 : decode cX7_isWord 1 = .ok (.getfield 99, 3) := by decide +kernel
theorem dX7_isWord_4 : decode cX7_isWord 4 = .ok (.iload_n 1, 1) := by decide +kernel
theorem dX7_isWord_5 : decode cX7_isWord 5 = .ok (.if_icmp .ne 7, 3) := by decide +kernel
theorem dX7_isWord_8 : decode cX7_isWord 8 = .ok (.iconst 1, 1) := by decide +kernel
theorem dX7_isWord_9 : decode cX7_isWord 9 = .ok (.goto 4, 3) := by decide +kernel
theorem dX7_isWord_12 : decode cX7_isWord 12 = .ok (.iconst 0, 1) := by decide +kernel
theorem dX7_isWord_13 : decode cX7_isWord 13 = .ok (.istore 6, 2) := by decide +kernel
theorem dX7_isWord_15 : decode cX7_isWord 15 = .ok (.iconst 0, 1) := by decide +kernel
theorem dX7_isWord_16 : decode cX7_isWord 16 = .ok (.istore 7, 2) := by decide +kernel
theorem dX7_isWord_18 : decode cX7_isWord 18 = .ok (.iload 7, 2) := by decide +kernel
theorem dX7_isWord_20 : decode cX7_isWord 20 = .ok (.iload_n 1, 1) := by decide +kernel
theorem dX7_isWord_21 : decode cX7_isWord 21 = .ok (.if_icmp .ge 68, 3) := by decide +kernel
theorem dX7_isWord_24 : decode cX7_isWord 24 = .ok (.iload 6, 2) := by decide +kernel
theorem dX7_isWord_26 : decode cX7_isWord 26 = .ok (.ifCond .eq 63, 3) := by decide +kernel
theorem dX7_isWord_29 : decode cX7_isWord 29 = .ok (.aload_n 0, 1) := by decide +kernel
theorem dX7_isWord_30 : decode cX7_isWord 30 = .ok (.getfield 47, 3) := by decide +kernel
theorem dX7_isWord_33 : decode cX7_isWord 33 = .ok (.aload_n 0, 1) := by decide +kernel
theorem dX7_isWord_34 : decode cX7_isWord 34 = .ok (.getfield 92, 3) := by decide +kernel
theorem dX7_isWord_37 : decode cX7_isWord 37 = .ok (.iload 7, 2) := by decide +kernel
theorem dX7_isWord_39 : decode cX7_isWord 39 = .ok (.iadd, 1) := by decide +kernel
theorem dX7_isWord_40 : decode cX7_isWord 40 = .ok (.iaload, 1) := by decide +kernel
theorem dX7_isWord_41 : decode cX7_isWord 41 = .ok (.iload 7, 2) := by decide +kernel
theorem dX7_isWord_43 : decode cX7_isWord 43 = .ok (.ifCond .ne 7, 3) := by decide +kernel
theorem dX7_isWord_46 : decode cX7_isWord 46 = .ok (.iload_n 2, 1) := by decide +kernel
theorem dX7_isWord_47 : decode cX7_isWord 47 = .ok (.goto 26, 3) := by decide +kernel
theorem dX7_isWord_50 : decode cX7_isWord 50 = .ok (.iload 7, 2) := by decide +kernel
theorem dX7_isWord_52 : decode cX7_isWord 52 = .ok (.iconst 1, 1) := by decide +kernel
theorem dX7_isWord_53 : decode cX7_isWord 53 = .ok (.if_icmp .ne 7, 3) := by decide +kernel
theorem dX7_isWord_56 : decode cX7_isWord 56 = .ok (.iload_n 3, 1) := by decide +kernel
theorem dX7_isWord_57 : decode cX7_isWord 57 = .ok (.goto 16, 3) := by decide +kernel
theorem dX7_isWord_60 : decode cX7_isWord 60 = .ok (.iload 7, 2) := by decide +kernel
theorem dX7_isWord_62 : decode cX7_isWord 62 = .ok (.iconst 2, 1) := by decide +kernel
theorem dX7_isWord_63 : decode cX7_isWord 63 = .ok (.if_icmp .ne 8, 3) := by decide +kernel
theorem dX7_isWord_66 : decode cX7_isWord 66 = .ok (.iload 4, 2) := by decide +kernel
theorem dX7_isWord_68 : decode cX7_isWord 68 = .ok (.goto 5, 3) := by decide +kernel
theorem dX7_isWord_71 : decode cX7_isWord 71 = .ok (.iload 5, 2) := by decide +kernel
theorem dX7_isWord_73 : decode cX7_isWord 73 = .ok (.if_icmp .ne 7, 3) := by decide +kernel
theorem dX7_isWord_76 : decode cX7_isWord 76 = .ok (.iconst 1, 1) := by decide +kernel
theorem dX7_isWord_77 : decode cX7_isWord 77 = .ok (.goto 4, 3) := by decide +kernel
theorem dX7_isWord_80 : decode cX7_isWord 80 = .ok (.iconst 0, 1) := by decide +kernel
theorem dX7_isWord_81 : decode cX7_isWord 81 = .ok (.istore 6, 2) := by decide +kernel
theorem dX7_isWord_83 : decode cX7_isWord 83 = .ok (.iinc 7 1, 3) := by decide +kernel
theorem dX7_isWord_86 : decode cX7_isWord 86 = .ok (.goto (-68), 3) := by decide +kernel
theorem dX7_isWord_89 : decode cX7_isWord 89 = .ok (.iload 6, 2) := by decide +kernel
theorem dX7_isWord_91 : decode cX7_isWord 91 = .ok (.ireturn, 1) := by decide +kernel
theorem dX7_takeNumber_0 : decode cX7_takeNumber 0 = .ok (.aload_n 0, 1) := by decide +kernel
theorem dX7_takeNumber_1 : decode cX7_takeNumber 1 = .ok (.getfield 85, 3) := by decide +kernel
theorem dX7_takeNumber_4 : decode cX7_takeNumber 4 = .ok (.ifCond .le 5, 3) := by decide +kernel
theorem dX7_takeNumber_7 : decode cX7_takeNumber 7 = .ok (.iconst 0, 1) := by decide +kernel
theorem dX7_takeNumber_8 : decode cX7_takeNumber 8 = .ok (.ireturn, 1) := by decide +kernel
theorem dX7_takeNumber_9 : decode cX7_takeNumber 9 = .ok (.aload_n 0, 1) := by decide +kernel
theorem dX7_takeNumber_10 : decode cX7_takeNumber 10 = .ok (.invokevirtual 88, 3) := by decide +kernel
theorem dX7_takeNumber_13 : decode cX7_takeNumber 13 = .ok (.istore_n 3, 1) := by decide +kernel
theorem dX7_takeNumber_14 : decode cX7_takeNumber 14 = .ok (.aload_n 0, 1) := by decide +kernel
theorem dX7_takeNumber_15 : decode cX7_takeNumber 15 = .ok (.aload_n 0, 1) := by decide +kernel
theorem dX7_takeNumber_16 : decode cX7_takeNumber 16 = .ok (.getfield 82, 3) := by decide +kernel
theorem dX7_takeNumber_19 : decode cX7_takeNumber 19 = .ok (.putfield 92, 3) := by decide +kernel
theorem dX7_takeNumber_22 : decode cX7_takeNumber 22 = .ok (.aload_n 0, 1) := by decide +kernel
theorem dX7_takeNumber_23 : decode cX7_takeNumber 23 = .ok (.iload_n 3, 1) := by decide +kernel
theorem dX7_takeNumber_24 : decode cX7_takeNumber 24 = .ok (.i2l, 1) := by decide +kernel
theorem dX7_takeNumber_25 : decode cX7_takeNumber 25 = .ok (.ldc2_w 102, 3) := by decide +kernel
theorem dX7_takeNumber_28 : decode cX7_takeNumber 28 = .ok (.ldc2_w 104, 3) := by decide +kernel
theorem dX7_takeNumber_31 : decode cX7_takeNumber 31 = .ok (.invokestatic 71, 3) := by decide +kernel
theorem dX7_takeNumber_34 : decode cX7_takeNumber 34 = .ok (.iconst 1, 1) := by decide +kernel
theorem dX7_takeNumber_35 : decode cX7_takeNumber 35 = .ok (.aload_n 0, 1) := by decide +kernel
theorem dX7_takeNumber_36 : decode cX7_takeNumber 36 = .ok (.getfield 82, 3) := by decide +kernel
theorem dX7_takeNumber_39 : decode cX7_takeNumber 39 = .ok (.invokevirtual 106, 3) := by decide +kernel
theorem dX7_takeNumber_42 : decode cX7_takeNumber 42 = .ok (.ifCond .ne 5, 3) := by decide +kernel
theorem dX7_takeNumber_45 : decode cX7_takeNumber 45 = .ok (.iconst 0, 1) := by decide +kernel
theorem dX7_takeNumber_46 : decode cX7_takeNumber 46 = .ok (.ireturn, 1) := by decide +kernel
theorem dX7_takeNumber_47 : decode cX7_takeNumber 47 = .ok (.iconst 0, 1) := by decide +kernel
theorem dX7_takeNumber_48 : decode cX7_takeNumber 48 = .ok (.istore 4, 2) := by decide +kernel
theorem dX7_takeNumber_50 : decode cX7_takeNumber 50 = .ok (.aload_n 0, 1) := by decide +kernel
theorem dX7_takeNumber_51 : decode cX7_takeNumber 51 = .ok (.getfield 82, 3) := by decide +kernel
theorem dX7_takeNumber_54 : decode cX7_takeNumber 54 = .ok (.aload_n 0, 1) := by decide +kernel
theorem dX7_takeNumber_55 : decode cX7_takeNumber 55 = .ok (.getfield 76, 3) := by decide +kernel
theorem dX7_takeNumber_58 : decode cX7_takeNumber 58 = .ok (.if_icmp .ge 70, 3) := by decide +kernel
theorem dX7_takeNumber_61 : decode cX7_takeNumber 61 = .ok (.aload_n 0, 1) := by decide +kernel
theorem dX7_takeNumber_62 : decode cX7_takeNumber 62 = .ok (.getfield 47, 3) := by decide +kernel
theorem dX7_takeNumber_65 : decode cX7_takeNumber 65 = .ok (.aload_n 0, 1) := by decide +kernel
theorem dX7_takeNumber_66 : decode cX7_takeNumber 66 = .ok (.getfield 82, 3) := by decide +kernel
theorem dX7_takeNumber_69 : decode cX7_takeNumber 69 = .ok (.iaload, 1) := by decide +kernel
theorem dX7_takeNumber_70 : decode cX7_takeNumber 70 = .ok (.i2l, 1) := by decide +kernel
theorem dX7_takeNumber_71 : decode cX7_takeNumber 71 = .ok (.ldc2_w 102, 3) := by decide +kernel
theorem dX7_takeNumber_74 : decode cX7_takeNumber 74 = .ok (.ldc2_w 104, 3) := by decide +kernel
theorem dX7_takeNumber_77 : decode cX7_takeNumber 77 = .ok (.invokestatic 71, 3) := by decide +kernel
theorem dX7_takeNumber_80 : decode cX7_takeNumber 80 = .ok (.ifCond .eq 48, 3) := by decide +kernel
theorem dX7_takeNumber_83 : decode cX7_takeNumber 83 = .ok (.iload 4, 2) := by decide +kernel
theorem dX7_takeNumber_85 : decode cX7_takeNumber 85 = .ok (.ldc 110, 2) := by decide +kernel
theorem dX7_takeNumber_87 : decode cX7_takeNumber 87 = .ok (.if_icmp .le 8, 3) := by decide +kernel
theorem dX7_takeNumber_90 : decode cX7_takeNumber 90 = .ok (.iload 4, 2) := by decide +kernel
theorem dX7_takeNumber_92 : decode cX7_takeNumber 92 = .ok (.goto 21, 3) := by decide +kernel
theorem dX7_takeNumber_95 : decode cX7_takeNumber 95 = .ok (.bipush 10, 2) := by decide +kernel
theorem dX7_takeNumber_97 : decode cX7_takeNumber 97 = .ok (.iload 4, 2) := by decide +kernel
theorem dX7_takeNumber_99 : decode cX7_takeNumber 99 = .ok (.imul, 1) := by decide +kernel
theorem dX7_takeNumber_100 : decode cX7_takeNumber 100 = .ok (.aload_n 0, 1) := by decide +kernel
theorem dX7_takeNumber_101 : decode cX7_takeNumber 101 = .ok (.getfield 47, 3) := by decide +kernel
theorem dX7_takeNumber_104 : decode cX7_takeNumber 104 = .ok (.aload_n 0, 1) := by decide +kernel
theorem dX7_takeNumber_105 : decode cX7_takeNumber 105 = .ok (.getfield 82, 3) := by decide +kernel
theorem dX7_takeNumber_108 : decode cX7_takeNumber 108 = .ok (.iaload, 1) := by decide +kernel
theorem dX7_takeNumber_109 : decode cX7_takeNumber 109 = .ok (.iadd, 1) := by decide +kernel
theorem dX7_takeNumber_110 : decode cX7_takeNumber 110 = .ok (.bipush 48, 2) := by decide +kernel
theorem dX7_takeNumber_112 : decode cX7_takeNumber 112 = .ok (.isub, 1) := by decide +kernel
theorem dX7_takeNumber_113 : decode cX7_takeNumber 113 = .ok (.istore 4, 2) := by decide +kernel
theorem dX7_takeNumber_115 : decode cX7_takeNumber 115 = .ok (.aload_n 0, 1) := by decide +kernel
theorem dX7_takeNumber_116 : decode cX7_takeNumber 116 = .ok (.dup, 1) := by decide +kernel
theorem dX7_takeNumber_117 : decode cX7_takeNumber 117 = .ok (.getfield 82, 3) := by decide +kernel
theorem dX7_takeNumber_120 : decode cX7_takeNumber 120 = .ok (.iconst 1, 1) := by decide +kernel
theorem dX7_takeNumber_121 : decode cX7_takeNumber 121 = .ok (.iadd, 1) := by decide +kernel
theorem dX7_takeNumber_122 : decode cX7_takeNumber 122 = .ok (.putfield 82, 3) := by decide +kernel
theorem dX7_takeNumber_125 : decode cX7_takeNumber 125 = .ok (.goto (-75), 3) := by decide +kernel
theorem dX7_takeNumber_128 : decode cX7_takeNumber 128 = .ok (.aload_n 0, 1) := by decide +kernel
theorem dX7_takeNumber_129 : decode cX7_takeNumber 129 = .ok (.aload_n 0, 1) := by decide +kernel
theorem dX7_takeNumber_130 : decode cX7_takeNumber 130 = .ok (.getfield 82, 3) := by decide +kernel
theorem dX7_takeNumber_133 : decode cX7_takeNumber 133 = .ok (.aload_n 0, 1) := by decide +kernel
theorem dX7_takeNumber_134 : decode cX7_takeNumber 134 = .ok (.getfield 92, 3) := by decide +kernel
theorem dX7_takeNumber_137 : decode cX7_takeNumber 137 = .ok (.isub, 1) := by decide +kernel
theorem dX7_takeNumber_138 : decode cX7_takeNumber 138 = .ok (.iconst 5, 1) := by decide +kernel
theorem dX7_takeNumber_139 : decode cX7_takeNumber 139 = .ok (.if_icmp .ge 20, 3) := by decide +kernel
theorem dX7_takeNumber_142 : decode cX7_takeNumber 142 = .ok (.iload 4, 2) := by decide +kernel
theorem dX7_takeNumber_144 : decode cX7_takeNumber 144 = .ok (.i2l, 1) := by decide +kernel
theorem dX7_takeNumber_145 : decode cX7_takeNumber 145 = .ok (.iload_n 1, 1) := by decide +kernel
theorem dX7_takeNumber_146 : decode cX7_takeNumber 146 = .ok (.i2l, 1) := by decide +kernel
theorem dX7_takeNumber_147 : decode cX7_takeNumber 147 = .ok (.iload_n 2, 1) := by decide +kernel
theorem dX7_takeNumber_148 : decode cX7_takeNumber 148 = .ok (.i2l, 1) := by decide +kernel
theorem dX7_takeNumber_149 : decode cX7_takeNumber 149 = .ok (.invokestatic 71, 3) := by decide +kernel
theorem dX7_takeNumber_152 : decode cX7_takeNumber 152 = .ok (.ifCond .eq 7, 3) := by decide +kernel
theorem dX7_takeNumber_155 : decode cX7_takeNumber 155 = .ok (.iconst 1, 1) := by decide +kernel
theorem dX7_takeNumber_156 : decode cX7_takeNumber 156 = .ok (.goto 4, 3) := by decide +kernel
theorem dX7_takeNumber_159 : decode cX7_takeNumber 159 = .ok (.iconst 0, 1) := by decide +kernel
theorem dX7_takeNumber_160 : decode cX7_takeNumber 160 = .ok (.iconst 2, 1) := by decide +kernel
theorem dX7_takeNumber_161 : decode cX7_takeNumber 161 = .ok (.aload_n 0, 1) := by decide +kernel
theorem dX7_takeNumber_162 : decode cX7_takeNumber 162 = .ok (.getfield 92, 3) := by decide +kernel
theorem dX7_takeNumber_165 : decode cX7_takeNumber 165 = .ok (.invokevirtual 106, 3) := by decide +kernel
theorem dX7_takeNumber_168 : decode cX7_takeNumber 168 = .ok (.istore 5, 2) := by decide +kernel
theorem dX7_takeNumber_170 : decode cX7_takeNumber 170 = .ok (.iload 4, 2) := by decide +kernel
theorem dX7_takeNumber_172 : decode cX7_takeNumber 172 = .ok (.ireturn, 1) := by decide +kernel
theorem dX7_takeEnd_0 : decode cX7_takeEnd 0 = .ok (.aload_n 0, 1) := by decide +kernel
theorem dX7_takeEnd_1 : decode cX7_takeEnd 1 = .ok (.getfield 85, 3) := by decide +kernel
theorem dX7_takeEnd_4 : decode cX7_takeEnd 4 = .ok (.ifCond .ne 39, 3) := by decide +kernel
theorem dX7_takeEnd_7 : decode cX7_takeEnd 7 = .ok (.aload_n 0, 1) := by decide +kernel
theorem dX7_takeEnd_8 : decode cX7_takeEnd 8 = .ok (.aload_n 0, 1) := by decide +kernel
theorem dX7_takeEnd_9 : decode cX7_takeEnd 9 = .ok (.invokevirtual 88, 3) := by decide +kernel
theorem dX7_takeEnd_12 : decode cX7_takeEnd 12 = .ok (.bipush 59, 2) := by decide +kernel
theorem dX7_takeEnd_14 : decode cX7_takeEnd 14 = .ok (.if_icmp .ne 7, 3) := by decide +kernel
theorem dX7_takeEnd_17 : decode cX7_takeEnd 17 = .ok (.iconst 1, 1) := by decide +kernel
theorem dX7_takeEnd_18 : decode cX7_takeEnd 18 = .ok (.goto 4, 3) := by decide +kernel
theorem dX7_takeEnd_21 : decode cX7_takeEnd 21 = .ok (.iconst 0, 1) := by decide +kernel
theorem dX7_takeEnd_22 : decode cX7_takeEnd 22 = .ok (.iconst 1, 1) := by decide +kernel
theorem dX7_takeEnd_23 : decode cX7_takeEnd 23 = .ok (.aload_n 0, 1) := by decide +kernel
theorem dX7_takeEnd_24 : decode cX7_takeEnd 24 = .ok (.getfield 82, 3) := by decide +kernel
theorem dX7_takeEnd_27 : decode cX7_takeEnd 27 = .ok (.invokevirtual 106, 3) := by decide +kernel
theorem dX7_takeEnd_30 : decode cX7_takeEnd 30 = .ok (.ifCond .eq 13, 3) := by decide +kernel
theorem dX7_takeEnd_33 : decode cX7_takeEnd 33 = .ok (.aload_n 0, 1) := by decide +kernel
theorem dX7_takeEnd_34 : decode cX7_takeEnd 34 = .ok (.dup, 1) := by decide +kernel
theorem dX7_takeEnd_35 : decode cX7_takeEnd 35 = .ok (.getfield 82, 3) := by decide +kernel
theorem dX7_takeEnd_38 : decode cX7_takeEnd 38 = .ok (.iconst 1, 1) := by decide +kernel
theorem dX7_takeEnd_39 : decode cX7_takeEnd 39 = .ok (.iadd, 1) := by decide +kernel
theorem dX7_takeEnd_40 : decode cX7_takeEnd 40 = .ok (.putfield 82, 3) := by decide +kernel
theorem dX7_takeEnd_43 : decode cX7_takeEnd 43 = .ok (.return_, 1) := by decide +kernel
theorem dX7_beginReading_0 : decode cX7_beginReading 0 = .ok (.aload_n 0, 1) := by decide +kernel
theorem dX7_beginReading_1 : decode cX7_beginReading 1 = .ok (.iconst 0, 1) := by decide +kernel
theorem dX7_beginReading_2 : decode cX7_beginReading 2 = .ok (.putfield 82, 3) := by decide +kernel
theorem dX7_beginReading_5 : decode cX7_beginReading 5 = .ok (.aload_n 0, 1) := by decide +kernel
theorem dX7_beginReading_6 : decode cX7_beginReading 6 = .ok (.iconst 0, 1) := by decide +kernel
theorem dX7_beginReading_7 : decode cX7_beginReading 7 = .ok (.putfield 85, 3) := by decide +kernel
theorem dX7_beginReading_10 : decode cX7_beginReading 10 = .ok (.aload_n 0, 1) := by decide +kernel
theorem dX7_beginReading_11 : decode cX7_beginReading 11 = .ok (.iconst (-1), 1) := by decide +kernel
theorem dX7_beginReading_12 : decode cX7_beginReading 12 = .ok (.putfield 50, 3) := by decide +kernel
theorem dX7_beginReading_15 : decode cX7_beginReading 15 = .ok (.return_, 1) := by decide +kernel
theorem dX7_takeNode_0 : decode cX7_takeNode 0 = .ok (.bipush 10, 2) := by decide +kernel
theorem dX7_takeNode_2 : decode cX7_takeNode 2 = .ok (.aload_n 0, 1) := by decide +kernel
theorem dX7_takeNode_3 : decode cX7_takeNode 3 = .ok (.getfield 111, 3) := by decide +kernel
theorem dX7_takeNode_6 : decode cX7_takeNode 6 = .ok (.iadd, 1) := by decide +kernel
theorem dX7_takeNode_7 : decode cX7_takeNode 7 = .ok (.istore_n 1, 1) := by decide +kernel
theorem dX7_takeNode_8 : decode cX7_takeNode 8 = .ok (.aload_n 0, 1) := by decide +kernel
theorem dX7_takeNode_9 : decode cX7_takeNode 9 = .ok (.getfield 17, 3) := by decide +kernel
theorem dX7_takeNode_12 : decode cX7_takeNode 12 = .ok (.iload_n 1, 1) := by decide +kernel
theorem dX7_takeNode_13 : decode cX7_takeNode 13 = .ok (.aload_n 0, 1) := by decide +kernel
theorem dX7_takeNode_14 : decode cX7_takeNode 14 = .ok (.iconst 0, 1) := by decide +kernel
theorem dX7_takeNode_15 : decode cX7_takeNode 15 = .ok (.sipush 999, 3) := by decide +kernel
theorem dX7_takeNode_18 : decode cX7_takeNode 18 = .ok (.invokevirtual 114, 3) := by decide +kernel
theorem dX7_takeNode_21 : decode cX7_takeNode 21 = .ok (.iastore, 1) := by decide +kernel
theorem dX7_takeNode_22 : decode cX7_takeNode 22 = .ok (.aload_n 0, 1) := by decide +kernel
theorem dX7_takeNode_23 : decode cX7_takeNode 23 = .ok (.getfield 20, 3) := by decide +kernel
theorem dX7_takeNode_26 : decode cX7_takeNode 26 = .ok (.iload_n 1, 1) := by decide +kernel
theorem dX7_takeNode_27 : decode cX7_takeNode 27 = .ok (.aload_n 0, 1) := by decide +kernel
theorem dX7_takeNode_28 : decode cX7_takeNode 28 = .ok (.iconst 1, 1) := by decide +kernel
theorem dX7_takeNode_29 : decode cX7_takeNode 29 = .ok (.bipush 99, 2) := by decide +kernel
theorem dX7_takeNode_31 : decode cX7_takeNode 31 = .ok (.invokevirtual 114, 3) := by decide +kernel
theorem dX7_takeNode_34 : decode cX7_takeNode 34 = .ok (.iastore, 1) := by decide +kernel
theorem dX7_takeNode_35 : decode cX7_takeNode 35 = .ok (.aload_n 0, 1) := by decide +kernel
theorem dX7_takeNode_36 : decode cX7_takeNode 36 = .ok (.getfield 23, 3) := by decide +kernel
theorem dX7_takeNode_39 : decode cX7_takeNode 39 = .ok (.iload_n 1, 1) := by decide +kernel
theorem dX7_takeNode_40 : decode cX7_takeNode 40 = .ok (.aload_n 0, 1) := by decide +kernel
theorem dX7_takeNode_41 : decode cX7_takeNode 41 = .ok (.iconst 0, 1) := by decide +kernel
theorem dX7_takeNode_42 : decode cX7_takeNode 42 = .ok (.sipush 9999, 3) := by decide +kernel
theorem dX7_takeNode_45 : decode cX7_takeNode 45 = .ok (.invokevirtual 114, 3) := by decide +kernel
theorem dX7_takeNode_48 : decode cX7_takeNode 48 = .ok (.iastore, 1) := by decide +kernel
theorem dX7_takeNode_49 : decode cX7_takeNode 49 = .ok (.aload_n 0, 1) := by decide +kernel
theorem dX7_takeNode_50 : decode cX7_takeNode 50 = .ok (.dup, 1) := by decide +kernel
theorem dX7_takeNode_51 : decode cX7_takeNode 51 = .ok (.getfield 111, 3) := by decide +kernel
theorem dX7_takeNode_54 : decode cX7_takeNode 54 = .ok (.iconst 1, 1) := by decide +kernel
theorem dX7_takeNode_55 : decode cX7_takeNode 55 = .ok (.iadd, 1) := by decide +kernel
theorem dX7_takeNode_56 : decode cX7_takeNode 56 = .ok (.putfield 111, 3) := by decide +kernel
theorem dX7_takeNode_59 : decode cX7_takeNode 59 = .ok (.return_, 1) := by decide +kernel
theorem dX7_once_0 : decode cX7_once 0 = .ok (.aload_n 0, 1) := by decide +kernel
theorem dX7_once_1 : decode cX7_once 1 = .ok (.aload_n 0, 1) := by decide +kernel
theorem dX7_once_2 : decode cX7_once 2 = .ok (.getfield 118, 3) := by decide +kernel
theorem dX7_once_5 : decode cX7_once 5 = .ok (.iload_n 1, 1) := by decide +kernel
theorem dX7_once_6 : decode cX7_once 6 = .ok (.invokestatic 121, 3) := by decide +kernel
theorem dX7_once_9 : decode cX7_once 9 = .ok (.ifCond .ne 7, 3) := by decide +kernel
theorem dX7_once_12 : decode cX7_once 12 = .ok (.iconst 1, 1) := by decide +kernel
theorem dX7_once_13 : decode cX7_once 13 = .ok (.goto 4, 3) := by decide +kernel
theorem dX7_once_16 : decode cX7_once 16 = .ok (.iconst 0, 1) := by decide +kernel
theorem dX7_once_17 : decode cX7_once 17 = .ok (.iconst 3, 1) := by decide +kernel
theorem dX7_once_18 : decode cX7_once 18 = .ok (.iload_n 2, 1) := by decide +kernel
theorem dX7_once_19 : decode cX7_once 19 = .ok (.invokevirtual 106, 3) := by decide +kernel
theorem dX7_once_22 : decode cX7_once 22 = .ok (.istore_n 3, 1) := by decide +kernel
theorem dX7_once_23 : decode cX7_once 23 = .ok (.aload_n 0, 1) := by decide +kernel
theorem dX7_once_24 : decode cX7_once 24 = .ok (.dup, 1) := by decide +kernel
theorem dX7_once_25 : decode cX7_once 25 = .ok (.getfield 118, 3) := by decide +kernel
theorem dX7_once_28 : decode cX7_once 28 = .ok (.iconst 1, 1) := by decide +kernel
theorem dX7_once_29 : decode cX7_once 29 = .ok (.iload_n 1, 1) := by decide +kernel
theorem dX7_once_30 : decode cX7_once 30 = .ok (.ishl, 1) := by decide +kernel
theorem dX7_once_31 : decode cX7_once 31 = .ok (.ior, 1) := by decide +kernel
theorem dX7_once_32 : decode cX7_once 32 = .ok (.putfield 118, 3) := by decide +kernel
theorem dX7_once_35 : decode cX7_once 35 = .ok (.iload_n 3, 1) := by decide +kernel
theorem dX7_once_36 : decode cX7_once 36 = .ok (.ireturn, 1) := by decide +kernel
theorem dX7_takeHours_0 : decode cX7_takeHours 0 = .ok (.iconst 0, 1) := by decide +kernel
theorem dX7_takeHours_1 : decode cX7_takeHours 1 = .ok (.istore_n 3, 1) := by decide +kernel
theorem dX7_takeHours_2 : decode cX7_takeHours 2 = .ok (.aload_n 0, 1) := by decide +kernel
theorem dX7_takeHours_3 : decode cX7_takeHours 3 = .ok (.getfield 85, 3) := by decide +kernel
theorem dX7_takeHours_6 : decode cX7_takeHours 6 = .ok (.ifCond .ne 7, 3) := by decide +kernel
theorem dX7_takeHours_9 : decode cX7_takeHours 9 = .ok (.iconst 1, 1) := by decide +kernel
theorem dX7_takeHours_10 : decode cX7_takeHours 10 = .ok (.goto 4, 3) := by decide +kernel
theorem dX7_takeHours_13 : decode cX7_takeHours 13 = .ok (.iconst 0, 1) := by decide +kernel
theorem dX7_takeHours_14 : decode cX7_takeHours 14 = .ok (.istore 4, 2) := by decide +kernel
theorem dX7_takeHours_16 : decode cX7_takeHours 16 = .ok (.iload 4, 2) := by decide +kernel
theorem dX7_takeHours_18 : decode cX7_takeHours 18 = .ok (.ifCond .eq 97, 3) := by decide +kernel
theorem dX7_takeHours_21 : decode cX7_takeHours 21 = .ok (.aload_n 0, 1) := by decide +kernel
theorem dX7_takeHours_22 : decode cX7_takeHours 22 = .ok (.iconst 0, 1) := by decide +kernel
theorem dX7_takeHours_23 : decode cX7_takeHours 23 = .ok (.iload_n 2, 1) := by decide +kernel
theorem dX7_takeHours_24 : decode cX7_takeHours 24 = .ok (.invokevirtual 114, 3) := by decide +kernel
theorem dX7_takeHours_27 : decode cX7_takeHours 27 = .ok (.istore 5, 2) := by decide +kernel
theorem dX7_takeHours_29 : decode cX7_takeHours 29 = .ok (.aload_n 0, 1) := by decide +kernel
theorem dX7_takeHours_30 : decode cX7_takeHours 30 = .ok (.getfield 85, 3) := by decide +kernel
theorem dX7_takeHours_33 : decode cX7_takeHours 33 = .ok (.ifCond .ne 30, 3) := by decide +kernel
theorem dX7_takeHours_36 : decode cX7_takeHours 36 = .ok (.aload_n 0, 1) := by decide +kernel
theorem dX7_takeHours_37 : decode cX7_takeHours 37 = .ok (.iload_n 3, 1) := by decide +kernel
theorem dX7_takeHours_38 : decode cX7_takeHours 38 = .ok (.bipush 24, 2) := by decide +kernel
theorem dX7_takeHours_40 : decode cX7_takeHours 40 = .ok (.if_icmp .ge 7, 3) := by decide +kernel
theorem dX7_takeHours_43 : decode cX7_takeHours 43 = .ok (.iconst 1, 1) := by decide +kernel
theorem dX7_takeHours_44 : decode cX7_takeHours 44 = .ok (.goto 4, 3) := by decide +kernel
theorem dX7_takeHours_47 : decode cX7_takeHours 47 = .ok (.iconst 0, 1) := by decide +kernel
theorem dX7_takeHours_48 : decode cX7_takeHours 48 = .ok (.iconst 4, 1) := by decide +kernel
theorem dX7_takeHours_49 : decode cX7_takeHours 49 = .ok (.aload_n 0, 1) := by decide +kernel
theorem dX7_takeHours_50 : decode cX7_takeHours 50 = .ok (.getfield 92, 3) := by decide +kernel
theorem dX7_takeHours_53 : decode cX7_takeHours 53 = .ok (.invokevirtual 106, 3) := by decide +kernel
theorem dX7_takeHours_56 : decode cX7_takeHours 56 = .ok (.ifCond .eq 7, 3) := by decide +kernel
theorem dX7_takeHours_59 : decode cX7_takeHours 59 = .ok (.iconst 1, 1) := by decide +kernel
theorem dX7_takeHours_60 : decode cX7_takeHours 60 = .ok (.goto 4, 3) := by decide +kernel
theorem dX7_takeHours_63 : decode cX7_takeHours 63 = .ok (.iconst 0, 1) := by decide +kernel
theorem dX7_takeHours_64 : decode cX7_takeHours 64 = .ok (.istore 4, 2) := by decide +kernel
theorem dX7_takeHours_66 : decode cX7_takeHours 66 = .ok (.iload 4, 2) := by decide +kernel
theorem dX7_takeHours_68 : decode cX7_takeHours 68 = .ok (.ifCond .eq 44, 3) := by decide +kernel
theorem dX7_takeHours_71 : decode cX7_takeHours 71 = .ok (.aload_n 1, 1) := by decide +kernel
theorem dX7_takeHours_72 : decode cX7_takeHours 72 = .ok (.bipush 24, 2) := by decide +kernel
theorem dX7_takeHours_74 : decode cX7_takeHours 74 = .ok (.iload_n 3, 1) := by decide +kernel
theorem dX7_takeHours_75 : decode cX7_takeHours 75 = .ok (.iadd, 1) := by decide +kernel
theorem dX7_takeHours_76 : decode cX7_takeHours 76 = .ok (.iload 5, 2) := by decide +kernel
theorem dX7_takeHours_78 : decode cX7_takeHours 78 = .ok (.iastore, 1) := by decide +kernel
theorem dX7_takeHours_79 : decode cX7_takeHours 79 = .ok (.iinc 3 1, 3) := by decide +kernel
theorem dX7_takeHours_82 : decode cX7_takeHours 82 = .ok (.aload_n 0, 1) := by decide +kernel
theorem dX7_takeHours_83 : decode cX7_takeHours 83 = .ok (.invokevirtual 88, 3) := by decide +kernel
theorem dX7_takeHours_86 : decode cX7_takeHours 86 = .ok (.bipush 44, 2) := by decide +kernel
theorem dX7_takeHours_88 : decode cX7_takeHours 88 = .ok (.if_icmp .ne 7, 3) := by decide +kernel
theorem dX7_takeHours_91 : decode cX7_takeHours 91 = .ok (.iconst 1, 1) := by decide +kernel
theorem dX7_takeHours_92 : decode cX7_takeHours 92 = .ok (.goto 4, 3) := by decide +kernel
theorem dX7_takeHours_95 : decode cX7_takeHours 95 = .ok (.iconst 0, 1) := by decide +kernel
theorem dX7_takeHours_96 : decode cX7_takeHours 96 = .ok (.istore 4, 2) := by decide +kernel
theorem dX7_takeHours_98 : decode cX7_takeHours 98 = .ok (.aload_n 0, 1) := by decide +kernel
theorem dX7_takeHours_99 : decode cX7_takeHours 99 = .ok (.dup, 1) := by decide +kernel
theorem dX7_takeHours_100 : decode cX7_takeHours 100 = .ok (.getfield 82, 3) := by decide +kernel
theorem dX7_takeHours_103 : decode cX7_takeHours 103 = .ok (.iload 4, 2) := by decide +kernel
theorem dX7_takeHours_105 : decode cX7_takeHours 105 = .ok (.invokestatic 125, 3) := by decide +kernel
theorem dX7_takeHours_108 : decode cX7_takeHours 108 = .ok (.iadd, 1) := by decide +kernel
theorem dX7_takeHours_109 : decode cX7_takeHours 109 = .ok (.putfield 82, 3) := by decide +kernel
theorem dX7_takeHours_112 : decode cX7_takeHours 112 = .ok (.goto (-96), 3) := by decide +kernel
theorem dX7_takeHours_115 : decode cX7_takeHours 115 = .ok (.return_, 1) := by decide +kernel
theorem dX7_takeGate_0 : decode cX7_takeGate 0 = .ok (.aload_n 0, 1) := by decide +kernel
theorem dX7_takeGate_1 : decode cX7_takeGate 1 = .ok (.iconst 0, 1) := by decide +kernel
theorem dX7_takeGate_2 : decode cX7_takeGate 2 = .ok (.aload_n 0, 1) := by decide +kernel
theorem dX7_takeGate_3 : decode cX7_takeGate 3 = .ok (.getfield 111, 3) := by decide +kernel
theorem dX7_takeGate_6 : decode cX7_takeGate 6 = .ok (.iconst 1, 1) := by decide +kernel
theorem dX7_takeGate_7 : decode cX7_takeGate 7 = .ok (.isub, 1) := by decide +kernel
theorem dX7_takeGate_8 : decode cX7_takeGate 8 = .ok (.invokevirtual 114, 3) := by decide +kernel
theorem dX7_takeGate_11 : decode cX7_takeGate 11 = .ok (.istore_n 1, 1) := by decide +kernel
theorem dX7_takeGate_12 : decode cX7_takeGate 12 = .ok (.aload_n 0, 1) := by decide +kernel
theorem dX7_takeGate_13 : decode cX7_takeGate 13 = .ok (.getfield 85, 3) := by decide +kernel
theorem dX7_takeGate_16 : decode cX7_takeGate 16 = .ok (.ifCond .ne 75, 3) := by decide +kernel
theorem dX7_takeGate_19 : decode cX7_takeGate 19 = .ok (.aload_n 0, 1) := by decide +kernel
theorem dX7_takeGate_20 : decode cX7_takeGate 20 = .ok (.aload_n 0, 1) := by decide +kernel
theorem dX7_takeGate_21 : decode cX7_takeGate 21 = .ok (.getfield 129, 3) := by decide +kernel
theorem dX7_takeGate_24 : decode cX7_takeGate 24 = .ok (.iload_n 1, 1) := by decide +kernel
theorem dX7_takeGate_25 : decode cX7_takeGate 25 = .ok (.invokestatic 121, 3) := by decide +kernel
theorem dX7_takeGate_28 : decode cX7_takeGate 28 = .ok (.ifCond .ne 7, 3) := by decide +kernel
theorem dX7_takeGate_31 : decode cX7_takeGate 31 = .ok (.iconst 1, 1) := by decide +kernel
theorem dX7_takeGate_32 : decode cX7_takeGate 32 = .ok (.goto 4, 3) := by decide +kernel
theorem dX7_takeGate_35 : decode cX7_takeGate 35 = .ok (.iconst 0, 1) := by decide +kernel
theorem dX7_takeGate_36 : decode cX7_takeGate 36 = .ok (.iconst 3, 1) := by decide +kernel
theorem dX7_takeGate_37 : decode cX7_takeGate 37 = .ok (.aload_n 0, 1) := by decide +kernel
theorem dX7_takeGate_38 : decode cX7_takeGate 38 = .ok (.getfield 92, 3) := by decide +kernel
theorem dX7_takeGate_41 : decode cX7_takeGate 41 = .ok (.invokevirtual 106, 3) := by decide +kernel
theorem dX7_takeGate_44 : decode cX7_takeGate 44 = .ok (.ifCond .eq 47, 3) := by decide +kernel
theorem dX7_takeGate_47 : decode cX7_takeGate 47 = .ok (.aload_n 0, 1) := by decide +kernel
theorem dX7_takeGate_48 : decode cX7_takeGate 48 = .ok (.dup, 1) := by decide +kernel
theorem dX7_takeGate_49 : decode cX7_takeGate 49 = .ok (.getfield 129, 3) := by decide +kernel
theorem dX7_takeGate_52 : decode cX7_takeGate 52 = .ok (.iconst 1, 1) := by decide +kernel
theorem dX7_takeGate_53 : decode cX7_takeGate 53 = .ok (.iload_n 1, 1) := by decide +kernel
theorem dX7_takeGate_54 : decode cX7_takeGate 54 = .ok (.ishl, 1) := by decide +kernel
theorem dX7_takeGate_55 : decode cX7_takeGate 55 = .ok (.ior, 1) := by decide +kernel
theorem dX7_takeGate_56 : decode cX7_takeGate 56 = .ok (.putfield 129, 3) := by decide +kernel
theorem dX7_takeGate_59 : decode cX7_takeGate 59 = .ok (.aload_n 0, 1) := by decide +kernel
theorem dX7_takeGate_60 : decode cX7_takeGate 60 = .ok (.getfield 32, 3) := by decide +kernel
theorem dX7_takeGate_63 : decode cX7_takeGate 63 = .ok (.bipush 10, 2) := by decide +kernel
theorem dX7_takeGate_65 : decode cX7_takeGate 65 = .ok (.iload_n 1, 1) := by decide +kernel
theorem dX7_takeGate_66 : decode cX7_takeGate 66 = .ok (.iadd, 1) := by decide +kernel
theorem dX7_takeGate_67 : decode cX7_takeGate 67 = .ok (.aload_n 0, 1) := by decide +kernel
theorem dX7_takeGate_68 : decode cX7_takeGate 68 = .ok (.iconst 0, 1) := by decide +kernel
theorem dX7_takeGate_69 : decode cX7_takeGate 69 = .ok (.bipush 9, 2) := by decide +kernel
theorem dX7_takeGate_71 : decode cX7_takeGate 71 = .ok (.invokevirtual 114, 3) := by decide +kernel
theorem dX7_takeGate_74 : decode cX7_takeGate 74 = .ok (.iastore, 1) := by decide +kernel
theorem dX7_takeGate_75 : decode cX7_takeGate 75 = .ok (.aload_n 0, 1) := by decide +kernel
theorem dX7_takeGate_76 : decode cX7_takeGate 76 = .ok (.getfield 35, 3) := by decide +kernel
theorem dX7_takeGate_79 : decode cX7_takeGate 79 = .ok (.bipush 10, 2) := by decide +kernel
theorem dX7_takeGate_81 : decode cX7_takeGate 81 = .ok (.iload_n 1, 1) := by decide +kernel
theorem dX7_takeGate_82 : decode cX7_takeGate 82 = .ok (.iadd, 1) := by decide +kernel
theorem dX7_takeGate_83 : decode cX7_takeGate 83 = .ok (.aload_n 0, 1) := by decide +kernel
theorem dX7_takeGate_84 : decode cX7_takeGate 84 = .ok (.iconst 0, 1) := by decide +kernel
theorem dX7_takeGate_85 : decode cX7_takeGate 85 = .ok (.bipush 99, 2) := by decide +kernel
theorem dX7_takeGate_87 : decode cX7_takeGate 87 = .ok (.invokevirtual 114, 3) := by decide +kernel
theorem dX7_takeGate_90 : decode cX7_takeGate 90 = .ok (.iastore, 1) := by decide +kernel
theorem dX7_takeGate_91 : decode cX7_takeGate 91 = .ok (.return_, 1) := by decide +kernel
theorem dX7_takeClause_0 : decode cX7_takeClause 0 = .ok (.aload_n 0, 1) := by decide +kernel
theorem dX7_takeClause_1 : decode cX7_takeClause 1 = .ok (.invokevirtual 132, 3) := by decide +kernel
theorem dX7_takeClause_4 : decode cX7_takeClause 4 = .ok (.aload_n 0, 1) := by decide +kernel
theorem dX7_takeClause_5 : decode cX7_takeClause 5 = .ok (.getfield 92, 3) := by decide +kernel
theorem dX7_takeClause_8 : decode cX7_takeClause 8 = .ok (.istore_n 1, 1) := by decide +kernel
theorem dX7_takeClause_9 : decode cX7_takeClause 9 = .ok (.aload_n 0, 1) := by decide +kernel
theorem dX7_takeClause_10 : decode cX7_takeClause 10 = .ok (.iconst 4, 1) := by decide +kernel
theorem dX7_takeClause_11 : decode cX7_takeClause 11 = .ok (.bipush 108, 2) := by decide +kernel
theorem dX7_takeClause_13 : decode cX7_takeClause 13 = .ok (.bipush 97, 2) := by decide +kernel
theorem dX7_takeClause_15 : decode cX7_takeClause 15 = .ok (.bipush 107, 2) := by decide +kernel
theorem dX7_takeClause_17 : decode cX7_takeClause 17 = .ok (.bipush 101, 2) := by decide +kernel
theorem dX7_takeClause_19 : decode cX7_takeClause 19 = .ok (.invokevirtual 135, 3) := by decide +kernel
theorem dX7_takeClause_22 : decode cX7_takeClause 22 = .ok (.istore_n 2, 1) := by decide +kernel
theorem dX7_takeClause_23 : decode cX7_takeClause 23 = .ok (.aload_n 0, 1) := by decide +kernel
theorem dX7_takeClause_24 : decode cX7_takeClause 24 = .ok (.iconst 4, 1) := by decide +kernel
theorem dX7_takeClause_25 : decode cX7_takeClause 25 = .ok (.bipush 112, 2) := by decide +kernel
theorem dX7_takeClause_27 : decode cX7_takeClause 27 = .ok (.bipush 111, 2) := by decide +kernel
theorem dX7_takeClause_29 : decode cX7_takeClause 29 = .ok (.bipush 110, 2) := by decide +kernel
theorem dX7_takeClause_31 : decode cX7_takeClause 31 = .ok (.bipush 100, 2) := by decide +kernel
theorem dX7_takeClause_33 : decode cX7_takeClause 33 = .ok (.invokevirtual 135, 3) := by decide +kernel
theorem dX7_takeClause_36 : decode cX7_takeClause 36 = .ok (.istore_n 3, 1) := by decide +kernel
theorem dX7_takeClause_37 : decode cX7_takeClause 37 = .ok (.aload_n 0, 1) := by decide +kernel
theorem dX7_takeClause_38 : decode cX7_takeClause 38 = .ok (.iload_n 2, 1) := by decide +kernel
theorem dX7_takeClause_39 : decode cX7_takeClause 39 = .ok (.ifCond .ne 10, 3) := by decide +kernel
theorem dX7_takeClause_42 : decode cX7_takeClause 42 = .ok (.aload_n 0, 1) := by decide +kernel
theorem dX7_takeClause_43 : decode cX7_takeClause 43 = .ok (.getfield 111, 3) := by decide +kernel
theorem dX7_takeClause_46 : decode cX7_takeClause 46 = .ok (.ifCond .le 7, 3) := by decide +kernel
theorem dX7_takeClause_49 : decode cX7_takeClause 49 = .ok (.iconst 1, 1) := by decide +kernel
theorem dX7_takeClause_50 : decode cX7_takeClause 50 = .ok (.goto 4, 3) := by decide +kernel
theorem dX7_takeClause_53 : decode cX7_takeClause 53 = .ok (.iconst 0, 1) := by decide +kernel
theorem dX7_takeClause_54 : decode cX7_takeClause 54 = .ok (.iconst 1, 1) := by decide +kernel
theorem dX7_takeClause_55 : decode cX7_takeClause 55 = .ok (.iload_n 1, 1) := by decide +kernel
theorem dX7_takeClause_56 : decode cX7_takeClause 56 = .ok (.invokevirtual 106, 3) := by decide +kernel
theorem dX7_takeClause_59 : decode cX7_takeClause 59 = .ok (.ifCond .eq 207, 3) := by decide +kernel
theorem dX7_takeClause_62 : decode cX7_takeClause 62 = .ok (.iload_n 2, 1) := by decide +kernel
theorem dX7_takeClause_63 : decode cX7_takeClause 63 = .ok (.ifCond .eq 31, 3) := by decide +kernel
theorem dX7_takeClause_66 : decode cX7_takeClause 66 = .ok (.aload_n 0, 1) := by decide +kernel
theorem dX7_takeClause_67 : decode cX7_takeClause 67 = .ok (.aload_n 0, 1) := by decide +kernel
theorem dX7_takeClause_68 : decode cX7_takeClause 68 = .ok (.getfield 111, 3) := by decide +kernel
theorem dX7_takeClause_71 : decode cX7_takeClause 71 = .ok (.ifCond .ne 7, 3) := by decide +kernel
theorem dX7_takeClause_74 : decode cX7_takeClause 74 = .ok (.iconst 1, 1) := by decide +kernel
theorem dX7_takeClause_75 : decode cX7_takeClause 75 = .ok (.goto 4, 3) := by decide +kernel
theorem dX7_takeClause_78 : decode cX7_takeClause 78 = .ok (.iconst 0, 1) := by decide +kernel
theorem dX7_takeClause_79 : decode cX7_takeClause 79 = .ok (.iconst 3, 1) := by decide +kernel
theorem dX7_takeClause_80 : decode cX7_takeClause 80 = .ok (.iload_n 1, 1) := by decide +kernel
theorem dX7_takeClause_81 : decode cX7_takeClause 81 = .ok (.invokevirtual 106, 3) := by decide +kernel
theorem dX7_takeClause_84 : decode cX7_takeClause 84 = .ok (.ifCond .eq 182, 3) := by decide +kernel
theorem dX7_takeClause_87 : decode cX7_takeClause 87 = .ok (.aload_n 0, 1) := by decide +kernel
theorem dX7_takeClause_88 : decode cX7_takeClause 88 = .ok (.invokevirtual 139, 3) := by decide +kernel
theorem dX7_takeClause_91 : decode cX7_takeClause 91 = .ok (.goto 175, 3) := by decide +kernel
theorem dX7_takeClause_94 : decode cX7_takeClause 94 = .ok (.iload_n 3, 1) := by decide +kernel
theorem dX7_takeClause_95 : decode cX7_takeClause 95 = .ok (.ifCond .eq 58, 3) := by decide +kernel
theorem dX7_takeClause_98 : decode cX7_takeClause 98 = .ok (.aload_n 0, 1) := by decide +kernel
theorem dX7_takeClause_99 : decode cX7_takeClause 99 = .ok (.aload_n 0, 1) := by decide +kernel
theorem dX7_takeClause_100 : decode cX7_takeClause 100 = .ok (.getfield 118, 3) := by decide +kernel
theorem dX7_takeClause_103 : decode cX7_takeClause 103 = .ok (.iconst 2, 1) := by decide +kernel
theorem dX7_takeClause_104 : decode cX7_takeClause 104 = .ok (.invokestatic 121, 3) := by decide +kernel
theorem dX7_takeClause_107 : decode cX7_takeClause 107 = .ok (.ifCond .ne 7, 3) := by decide +kernel
theorem dX7_takeClause_110 : decode cX7_takeClause 110 = .ok (.iconst 1, 1) := by decide +kernel
theorem dX7_takeClause_111 : decode cX7_takeClause 111 = .ok (.goto 4, 3) := by decide +kernel
theorem dX7_takeClause_114 : decode cX7_takeClause 114 = .ok (.iconst 0, 1) := by decide +kernel
theorem dX7_takeClause_115 : decode cX7_takeClause 115 = .ok (.iconst 1, 1) := by decide +kernel
theorem dX7_takeClause_116 : decode cX7_takeClause 116 = .ok (.iload_n 1, 1) := by decide +kernel
theorem dX7_takeClause_117 : decode cX7_takeClause 117 = .ok (.invokevirtual 106, 3) := by decide +kernel
theorem dX7_takeClause_120 : decode cX7_takeClause 120 = .ok (.ifCond .eq 146, 3) := by decide +kernel
theorem dX7_takeClause_123 : decode cX7_takeClause 123 = .ok (.aload_n 0, 1) := by decide +kernel
theorem dX7_takeClause_124 : decode cX7_takeClause 124 = .ok (.aload_n 0, 1) := by decide +kernel
theorem dX7_takeClause_125 : decode cX7_takeClause 125 = .ok (.getfield 111, 3) := by decide +kernel
theorem dX7_takeClause_128 : decode cX7_takeClause 128 = .ok (.bipush 9, 2) := by decide +kernel
theorem dX7_takeClause_130 : decode cX7_takeClause 130 = .ok (.if_icmp .ge 7, 3) := by decide +kernel
theorem dX7_takeClause_133 : decode cX7_takeClause 133 = .ok (.iconst 1, 1) := by decide +kernel
theorem dX7_takeClause_134 : decode cX7_takeClause 134 = .ok (.goto 4, 3) := by decide +kernel
theorem dX7_takeClause_137 : decode cX7_takeClause 137 = .ok (.iconst 0, 1) := by decide +kernel
theorem dX7_takeClause_138 : decode cX7_takeClause 138 = .ok (.iconst 3, 1) := by decide +kernel
theorem dX7_takeClause_139 : decode cX7_takeClause 139 = .ok (.iload_n 1, 1) := by decide +kernel
theorem dX7_takeClause_140 : decode cX7_takeClause 140 = .ok (.invokevirtual 106, 3) := by decide +kernel
theorem dX7_takeClause_143 : decode cX7_takeClause 143 = .ok (.ifCond .eq 123, 3) := by decide +kernel
theorem dX7_takeClause_146 : decode cX7_takeClause 146 = .ok (.aload_n 0, 1) := by decide +kernel
theorem dX7_takeClause_147 : decode cX7_takeClause 147 = .ok (.invokevirtual 139, 3) := by decide +kernel
theorem dX7_takeClause_150 : decode cX7_takeClause 150 = .ok (.goto 116, 3) := by decide +kernel
theorem dX7_takeClause_153 : decode cX7_takeClause 153 = .ok (.aload_n 0, 1) := by decide +kernel
theorem dX7_takeClause_154 : decode cX7_takeClause 154 = .ok (.iconst 4, 1) := by decide +kernel
theorem dX7_takeClause_155 : decode cX7_takeClause 155 = .ok (.bipush 114, 2) := by decide +kernel
theorem dX7_takeClause_157 : decode cX7_takeClause 157 = .ok (.bipush 97, 2) := by decide +kernel
theorem dX7_takeClause_159 : decode cX7_takeClause 159 = .ok (.bipush 105, 2) := by decide +kernel
theorem dX7_takeClause_161 : decode cX7_takeClause 161 = .ok (.bipush 110, 2) := by decide +kernel
theorem dX7_takeClause_163 : decode cX7_takeClause 163 = .ok (.invokevirtual 135, 3) := by decide +kernel
theorem dX7_takeClause_166 : decode cX7_takeClause 166 = .ok (.ifCond .eq 25, 3) := by decide +kernel
theorem dX7_takeClause_169 : decode cX7_takeClause 169 = .ok (.aload_n 0, 1) := by decide +kernel
theorem dX7_takeClause_170 : decode cX7_takeClause 170 = .ok (.iconst 0, 1) := by decide +kernel
theorem dX7_takeClause_171 : decode cX7_takeClause 171 = .ok (.iload_n 1, 1) := by decide +kernel
theorem dX7_takeClause_172 : decode cX7_takeClause 172 = .ok (.invokevirtual 142, 3) := by decide +kernel
theorem dX7_takeClause_175 : decode cX7_takeClause 175 = .ok (.ifCond .eq 91, 3) := by decide +kernel
theorem dX7_takeClause_178 : decode cX7_takeClause 178 = .ok (.aload_n 0, 1) := by decide +kernel
theorem dX7_takeClause_179 : decode cX7_takeClause 179 = .ok (.aload_n 0, 1) := by decide +kernel
theorem dX7_takeClause_180 : decode cX7_takeClause 180 = .ok (.getfield 26, 3) := by decide +kernel
theorem dX7_takeClause_183 : decode cX7_takeClause 183 = .ok (.bipush 99, 2) := by decide +kernel
theorem dX7_takeClause_185 : decode cX7_takeClause 185 = .ok (.invokevirtual 145, 3) := by decide +kernel
theorem dX7_takeClause_188 : decode cX7_takeClause 188 = .ok (.goto 78, 3) := by decide +kernel
theorem dX7_takeClause_191 : decode cX7_takeClause 191 = .ok (.aload_n 0, 1) := by decide +kernel
theorem dX7_takeClause_192 : decode cX7_takeClause 192 = .ok (.iconst 4, 1) := by decide +kernel
theorem dX7_takeClause_193 : decode cX7_takeClause 193 = .ok (.bipush 116, 2) := by decide +kernel
theorem dX7_takeClause_195 : decode cX7_takeClause 195 = .ok (.bipush 105, 2) := by decide +kernel
theorem dX7_takeClause_197 : decode cX7_takeClause 197 = .ok (.bipush 100, 2) := by decide +kernel
theorem dX7_takeClause_199 : decode cX7_takeClause 199 = .ok (.bipush 101, 2) := by decide +kernel
theorem dX7_takeClause_201 : decode cX7_takeClause 201 = .ok (.invokevirtual 135, 3) := by decide +kernel
theorem dX7_takeClause_204 : decode cX7_takeClause 204 = .ok (.ifCond .eq 26, 3) := by decide +kernel
theorem dX7_takeClause_207 : decode cX7_takeClause 207 = .ok (.aload_n 0, 1) := by decide +kernel
theorem dX7_takeClause_208 : decode cX7_takeClause 208 = .ok (.iconst 1, 1) := by decide +kernel
theorem dX7_takeClause_209 : decode cX7_takeClause 209 = .ok (.iload_n 1, 1) := by decide +kernel
theorem dX7_takeClause_210 : decode cX7_takeClause 210 = .ok (.invokevirtual 142, 3) := by decide +kernel
theorem dX7_takeClause_213 : decode cX7_takeClause 213 = .ok (.ifCond .eq 53, 3) := by decide +kernel
theorem dX7_takeClause_216 : decode cX7_takeClause 216 = .ok (.aload_n 0, 1) := by decide +kernel
theorem dX7_takeClause_217 : decode cX7_takeClause 217 = .ok (.aload_n 0, 1) := by decide +kernel
theorem dX7_takeClause_218 : decode cX7_takeClause 218 = .ok (.getfield 29, 3) := by decide +kernel
theorem dX7_takeClause_221 : decode cX7_takeClause 221 = .ok (.sipush 999, 3) := by decide +kernel
theorem dX7_takeClause_224 : decode cX7_takeClause 224 = .ok (.invokevirtual 145, 3) := by decide +kernel
theorem dX7_takeClause_227 : decode cX7_takeClause 227 = .ok (.goto 39, 3) := by decide +kernel
theorem dX7_takeClause_230 : decode cX7_takeClause 230 = .ok (.aload_n 0, 1) := by decide +kernel
theorem dX7_takeClause_231 : decode cX7_takeClause 231 = .ok (.aload_n 0, 1) := by decide +kernel
theorem dX7_takeClause_232 : decode cX7_takeClause 232 = .ok (.iconst 4, 1) := by decide +kernel
theorem dX7_takeClause_233 : decode cX7_takeClause 233 = .ok (.bipush 103, 2) := by decide +kernel
theorem dX7_takeClause_235 : decode cX7_takeClause 235 = .ok (.bipush 97, 2) := by decide +kernel
theorem dX7_takeClause_237 : decode cX7_takeClause 237 = .ok (.bipush 116, 2) := by decide +kernel
theorem dX7_takeClause_239 : decode cX7_takeClause 239 = .ok (.bipush 101, 2) := by decide +kernel
theorem dX7_takeClause_241 : decode cX7_takeClause 241 = .ok (.invokevirtual 135, 3) := by decide +kernel
theorem dX7_takeClause_244 : decode cX7_takeClause 244 = .ok (.iconst 1, 1) := by decide +kernel
theorem dX7_takeClause_245 : decode cX7_takeClause 245 = .ok (.iload_n 1, 1) := by decide +kernel
theorem dX7_takeClause_246 : decode cX7_takeClause 246 = .ok (.invokevirtual 106, 3) := by decide +kernel
theorem dX7_takeClause_249 : decode cX7_takeClause 249 = .ok (.ifCond .eq 17, 3) := by decide +kernel
theorem dX7_takeClause_252 : decode cX7_takeClause 252 = .ok (.aload_n 0, 1) := by decide +kernel
theorem dX7_takeClause_253 : decode cX7_takeClause 253 = .ok (.dup, 1) := by decide +kernel
theorem dX7_takeClause_254 : decode cX7_takeClause 254 = .ok (.getfield 118, 3) := by decide +kernel
theorem dX7_takeClause_257 : decode cX7_takeClause 257 = .ok (.iconst 4, 1) := by decide +kernel
theorem dX7_takeClause_258 : decode cX7_takeClause 258 = .ok (.ior, 1) := by decide +kernel
theorem dX7_takeClause_259 : decode cX7_takeClause 259 = .ok (.putfield 118, 3) := by decide +kernel
theorem dX7_takeClause_262 : decode cX7_takeClause 262 = .ok (.aload_n 0, 1) := by decide +kernel
theorem dX7_takeClause_263 : decode cX7_takeClause 263 = .ok (.invokevirtual 149, 3) := by decide +kernel
theorem dX7_takeClause_266 : decode cX7_takeClause 266 = .ok (.aload_n 0, 1) := by decide +kernel
theorem dX7_takeClause_267 : decode cX7_takeClause 267 = .ok (.invokevirtual 152, 3) := by decide +kernel
theorem dX7_takeClause_270 : decode cX7_takeClause 270 = .ok (.return_, 1) := by decide +kernel
theorem dX7_river_0 : decode cX7_river 0 = .ok (.aload_n 0, 1) := by decide +kernel
theorem dX7_river_1 : decode cX7_river 1 = .ok (.invokevirtual 155, 3) := by decide +kernel
theorem dX7_river_4 : decode cX7_river 4 = .ok (.aload_n 0, 1) := by decide +kernel
theorem dX7_river_5 : decode cX7_river 5 = .ok (.iconst 0, 1) := by decide +kernel
theorem dX7_river_6 : decode cX7_river 6 = .ok (.putfield 111, 3) := by decide +kernel
theorem dX7_river_9 : decode cX7_river 9 = .ok (.aload_n 0, 1) := by decide +kernel
theorem dX7_river_10 : decode cX7_river 10 = .ok (.iconst 0, 1) := by decide +kernel
theorem dX7_river_11 : decode cX7_river 11 = .ok (.putfield 118, 3) := by decide +kernel
theorem dX7_river_14 : decode cX7_river 14 = .ok (.aload_n 0, 1) := by decide +kernel
theorem dX7_river_15 : decode cX7_river 15 = .ok (.iconst 0, 1) := by decide +kernel
theorem dX7_river_16 : decode cX7_river 16 = .ok (.putfield 129, 3) := by decide +kernel
theorem dX7_river_19 : decode cX7_river 19 = .ok (.iconst 0, 1) := by decide +kernel
theorem dX7_river_20 : decode cX7_river 20 = .ok (.istore_n 1, 1) := by decide +kernel
theorem dX7_river_21 : decode cX7_river 21 = .ok (.iload_n 1, 1) := by decide +kernel
theorem dX7_river_22 : decode cX7_river 22 = .ok (.bipush 24, 2) := by decide +kernel
theorem dX7_river_24 : decode cX7_river 24 = .ok (.if_icmp .ge 30, 3) := by decide +kernel
theorem dX7_river_27 : decode cX7_river 27 = .ok (.aload_n 0, 1) := by decide +kernel
theorem dX7_river_28 : decode cX7_river 28 = .ok (.getfield 26, 3) := by decide +kernel
theorem dX7_river_31 : decode cX7_river 31 = .ok (.bipush 24, 2) := by decide +kernel
theorem dX7_river_33 : decode cX7_river 33 = .ok (.iload_n 1, 1) := by decide +kernel
theorem dX7_river_34 : decode cX7_river 34 = .ok (.iadd, 1) := by decide +kernel
theorem dX7_river_35 : decode cX7_river 35 = .ok (.bipush 50, 2) := by decide +kernel
theorem dX7_river_37 : decode cX7_river 37 = .ok (.iastore, 1) := by decide +kernel
theorem dX7_river_38 : decode cX7_river 38 = .ok (.aload_n 0, 1) := by decide +kernel
theorem dX7_river_39 : decode cX7_river 39 = .ok (.getfield 29, 3) := by decide +kernel
theorem dX7_river_42 : decode cX7_river 42 = .ok (.bipush 24, 2) := by decide +kernel
theorem dX7_river_44 : decode cX7_river 44 = .ok (.iload_n 1, 1) := by decide +kernel
theorem dX7_river_45 : decode cX7_river 45 = .ok (.iadd, 1) := by decide +kernel
theorem dX7_river_46 : decode cX7_river 46 = .ok (.iconst 0, 1) := by decide +kernel
theorem dX7_river_47 : decode cX7_river 47 = .ok (.iastore, 1) := by decide +kernel
theorem dX7_river_48 : decode cX7_river 48 = .ok (.iinc 1 1, 3) := by decide +kernel
theorem dX7_river_51 : decode cX7_river 51 = .ok (.goto (-30), 3) := by decide +kernel
theorem dX7_river_54 : decode cX7_river 54 = .ok (.bipush 10, 2) := by decide +kernel
theorem dX7_river_56 : decode cX7_river 56 = .ok (.istore_n 1, 1) := by decide +kernel
theorem dX7_river_57 : decode cX7_river 57 = .ok (.iload_n 1, 1) := by decide +kernel
theorem dX7_river_58 : decode cX7_river 58 = .ok (.bipush 20, 2) := by decide +kernel
theorem dX7_river_60 : decode cX7_river 60 = .ok (.if_icmp .ge 44, 3) := by decide +kernel
theorem dX7_river_63 : decode cX7_river 63 = .ok (.aload_n 0, 1) := by decide +kernel
theorem dX7_river_64 : decode cX7_river 64 = .ok (.getfield 17, 3) := by decide +kernel
theorem dX7_river_67 : decode cX7_river 67 = .ok (.iload_n 1, 1) := by decide +kernel
theorem dX7_river_68 : decode cX7_river 68 = .ok (.iconst 0, 1) := by decide +kernel
theorem dX7_river_69 : decode cX7_river 69 = .ok (.iastore, 1) := by decide +kernel
theorem dX7_river_70 : decode cX7_river 70 = .ok (.aload_n 0, 1) := by decide +kernel
theorem dX7_river_71 : decode cX7_river 71 = .ok (.getfield 20, 3) := by decide +kernel
theorem dX7_river_74 : decode cX7_river 74 = .ok (.iload_n 1, 1) := by decide +kernel
theorem dX7_river_75 : decode cX7_river 75 = .ok (.iconst 0, 1) := by decide +kernel
theorem dX7_river_76 : decode cX7_river 76 = .ok (.iastore, 1) := by decide +kernel
theorem dX7_river_77 : decode cX7_river 77 = .ok (.aload_n 0, 1) := by decide +kernel
theorem dX7_river_78 : decode cX7_river 78 = .ok (.getfield 23, 3) := by decide +kernel
theorem dX7_river_81 : decode cX7_river 81 = .ok (.iload_n 1, 1) := by decide +kernel
theorem dX7_river_82 : decode cX7_river 82 = .ok (.iconst 0, 1) := by decide +kernel
theorem dX7_river_83 : decode cX7_river 83 = .ok (.iastore, 1) := by decide +kernel
theorem dX7_river_84 : decode cX7_river 84 = .ok (.aload_n 0, 1) := by decide +kernel
theorem dX7_river_85 : decode cX7_river 85 = .ok (.getfield 32, 3) := by decide +kernel
theorem dX7_river_88 : decode cX7_river 88 = .ok (.iload_n 1, 1) := by decide +kernel
theorem dX7_river_89 : decode cX7_river 89 = .ok (.iconst 5, 1) := by decide +kernel
theorem dX7_river_90 : decode cX7_river 90 = .ok (.iastore, 1) := by decide +kernel
theorem dX7_river_91 : decode cX7_river 91 = .ok (.aload_n 0, 1) := by decide +kernel
theorem dX7_river_92 : decode cX7_river 92 = .ok (.getfield 35, 3) := by decide +kernel
theorem dX7_river_95 : decode cX7_river 95 = .ok (.iload_n 1, 1) := by decide +kernel
theorem dX7_river_96 : decode cX7_river 96 = .ok (.iconst 1, 1) := by decide +kernel
theorem dX7_river_97 : decode cX7_river 97 = .ok (.iastore, 1) := by decide +kernel
theorem dX7_river_98 : decode cX7_river 98 = .ok (.iinc 1 1, 3) := by decide +kernel
theorem dX7_river_101 : decode cX7_river 101 = .ok (.goto (-44), 3) := by decide +kernel
theorem dX7_river_104 : decode cX7_river 104 = .ok (.aload_n 0, 1) := by decide +kernel
theorem dX7_river_105 : decode cX7_river 105 = .ok (.getfield 85, 3) := by decide +kernel
theorem dX7_river_108 : decode cX7_river 108 = .ok (.ifCond .ne 17, 3) := by decide +kernel
theorem dX7_river_111 : decode cX7_river 111 = .ok (.aload_n 0, 1) := by decide +kernel
theorem dX7_river_112 : decode cX7_river 112 = .ok (.invokevirtual 88, 3) := by decide +kernel
theorem dX7_river_115 : decode cX7_river 115 = .ok (.ifCond .lt 10, 3) := by decide +kernel
theorem dX7_river_118 : decode cX7_river 118 = .ok (.aload_n 0, 1) := by decide +kernel
theorem dX7_river_119 : decode cX7_river 119 = .ok (.invokevirtual 158, 3) := by decide +kernel
theorem dX7_river_122 : decode cX7_river 122 = .ok (.goto (-18), 3) := by decide +kernel
theorem dX7_river_125 : decode cX7_river 125 = .ok (.aload_n 0, 1) := by decide +kernel
theorem dX7_river_126 : decode cX7_river 126 = .ok (.iconst 0, 1) := by decide +kernel
theorem dX7_river_127 : decode cX7_river 127 = .ok (.putfield 76, 3) := by decide +kernel
theorem dX7_river_130 : decode cX7_river 130 = .ok (.aload_n 0, 1) := by decide +kernel
theorem dX7_river_131 : decode cX7_river 131 = .ok (.getfield 85, 3) := by decide +kernel
theorem dX7_river_134 : decode cX7_river 134 = .ok (.ifCond .le 11, 3) := by decide +kernel
theorem dX7_river_137 : decode cX7_river 137 = .ok (.bipush (-10), 2) := by decide +kernel
theorem dX7_river_139 : decode cX7_river 139 = .ok (.aload_n 0, 1) := by decide +kernel
