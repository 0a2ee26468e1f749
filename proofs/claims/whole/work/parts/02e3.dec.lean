theorem dX7_canGo_67 : decode cX7_canGo 67 = .ok (.aload_n 0, 1) := by decide +kernel
theorem dX7_canGo_68 : decode cX7_canGo 68 = .ok (.getfield 57, 3) := by decide +kernel
theorem dX7_canGo_71 : decode cX7_canGo 71 = .ok (.bipush 9, 2) := by decide +kernel
theorem dX7_canGo_73 : decode cX7_canGo 73 = .ok (.iload_n 1, 1) := by decide +kernel
theorem dX7_canGo_74 : decode cX7_canGo 74 = .ok (.imul, 1) := by decide +kernel
theorem dX7_canGo_75 : decode cX7_canGo 75 = .ok (.iload 5, 2) := by decide +kernel
theorem dX7_canGo_77 : decode cX7_canGo 77 = .ok (.iadd, 1) := by decide +kernel
theorem dX7_canGo_78 : decode cX7_canGo 78 = .ok (.iaload, 1) := by decide +kernel
theorem dX7_canGo_79 : decode cX7_canGo 79 = .ok (.istore 6, 2) := by decide +kernel
theorem dX7_canGo_81 : decode cX7_canGo 81 = .ok (.iload 6, 2) := by decide +kernel
theorem dX7_canGo_83 : decode cX7_canGo 83 = .ok (.iload 4, 2) := by decide +kernel
theorem dX7_canGo_85 : decode cX7_canGo 85 = .ok (.if_icmp .gt 7, 3) := by decide +kernel
theorem dX7_canGo_88 : decode cX7_canGo 88 = .ok (.iconst 1, 1) := by decide +kernel
theorem dX7_canGo_89 : decode cX7_canGo 89 = .ok (.goto 4, 3) := by decide +kernel
theorem dX7_canGo_92 : decode cX7_canGo 92 = .ok (.iconst 0, 1) := by decide +kernel
theorem dX7_canGo_93 : decode cX7_canGo 93 = .ok (.ireturn, 1) := by decide +kernel
theorem dX7_byAct_0 : decode cX7_byAct 0 = .ok (.aload_n 0, 1) := by decide +kernel
theorem dX7_byAct_1 : decode cX7_byAct 1 = .ok (.iload_n 1, 1) := by decide +kernel
theorem dX7_byAct_2 : decode cX7_byAct 2 = .ok (.iload_n 2, 1) := by decide +kernel
theorem dX7_byAct_3 : decode cX7_byAct 3 = .ok (.iload_n 3, 1) := by decide +kernel
theorem dX7_byAct_4 : decode cX7_byAct 4 = .ok (.iload 4, 2) := by decide +kernel
theorem dX7_byAct_6 : decode cX7_byAct 6 = .ok (.invokevirtual 257, 3) := by decide +kernel
theorem dX7_byAct_9 : decode cX7_byAct 9 = .ok (.ifCond .ne 7, 3) := by decide +kernel
theorem dX7_byAct_12 : decode cX7_byAct 12 = .ok (.ldc_w 261, 3) := by decide +kernel
theorem dX7_byAct_15 : decode cX7_byAct 15 = .ok (.ireturn, 1) := by decide +kernel
theorem dX7_byAct_16 : decode cX7_byAct 16 = .ok (.iload_n 3, 1) := by decide +kernel
theorem dX7_byAct_17 : decode cX7_byAct 17 = .ok (.iconst 1, 1) := by decide +kernel
theorem dX7_byAct_18 : decode cX7_byAct 18 = .ok (.if_icmp .ne 9, 3) := by decide +kernel
theorem dX7_byAct_21 : decode cX7_byAct 21 = .ok (.iload_n 2, 1) := by decide +kernel
theorem dX7_byAct_22 : decode cX7_byAct 22 = .ok (.iconst 1, 1) := by decide +kernel
theorem dX7_byAct_23 : decode cX7_byAct 23 = .ok (.iadd, 1) := by decide +kernel
theorem dX7_byAct_24 : decode cX7_byAct 24 = .ok (.goto 15, 3) := by decide +kernel
theorem dX7_byAct_27 : decode cX7_byAct 27 = .ok (.iload_n 3, 1) := by decide +kernel
theorem dX7_byAct_28 : decode cX7_byAct 28 = .ok (.iconst 2, 1) := by decide +kernel
theorem dX7_byAct_29 : decode cX7_byAct 29 = .ok (.if_icmp .ne 9, 3) := by decide +kernel
theorem dX7_byAct_32 : decode cX7_byAct 32 = .ok (.iload_n 2, 1) := by decide +kernel
theorem dX7_byAct_33 : decode cX7_byAct 33 = .ok (.iconst 1, 1) := by decide +kernel
theorem dX7_byAct_34 : decode cX7_byAct 34 = .ok (.isub, 1) := by decide +kernel
theorem dX7_byAct_35 : decode cX7_byAct 35 = .ok (.goto 4, 3) := by decide +kernel
theorem dX7_byAct_38 : decode cX7_byAct 38 = .ok (.iload_n 2, 1) := by decide +kernel
theorem dX7_byAct_39 : decode cX7_byAct 39 = .ok (.istore 5, 2) := by decide +kernel
theorem dX7_byAct_41 : decode cX7_byAct 41 = .ok (.aload_n 0, 1) := by decide +kernel
theorem dX7_byAct_42 : decode cX7_byAct 42 = .ok (.getfield 63, 3) := by decide +kernel
theorem dX7_byAct_45 : decode cX7_byAct 45 = .ok (.bipush 10, 2) := by decide +kernel
theorem dX7_byAct_47 : decode cX7_byAct 47 = .ok (.iload_n 1, 1) := by decide +kernel
theorem dX7_byAct_48 : decode cX7_byAct 48 = .ok (.iconst 1, 1) := by decide +kernel
theorem dX7_byAct_49 : decode cX7_byAct 49 = .ok (.iadd, 1) := by decide +kernel
theorem dX7_byAct_50 : decode cX7_byAct 50 = .ok (.imul, 1) := by decide +kernel
theorem dX7_byAct_51 : decode cX7_byAct 51 = .ok (.iload 5, 2) := by decide +kernel
theorem dX7_byAct_53 : decode cX7_byAct 53 = .ok (.iadd, 1) := by decide +kernel
theorem dX7_byAct_54 : decode cX7_byAct 54 = .ok (.iaload, 1) := by decide +kernel
theorem dX7_byAct_55 : decode cX7_byAct 55 = .ok (.istore 6, 2) := by decide +kernel
theorem dX7_byAct_57 : decode cX7_byAct 57 = .ok (.iload 6, 2) := by decide +kernel
theorem dX7_byAct_59 : decode cX7_byAct 59 = .ok (.ldc_w 261, 3) := by decide +kernel
theorem dX7_byAct_62 : decode cX7_byAct 62 = .ok (.if_icmp .lt 9, 3) := by decide +kernel
theorem dX7_byAct_65 : decode cX7_byAct 65 = .ok (.ldc_w 261, 3) := by decide +kernel
theorem dX7_byAct_68 : decode cX7_byAct 68 = .ok (.goto 38, 3) := by decide +kernel
theorem dX7_byAct_71 : decode cX7_byAct 71 = .ok (.iload 6, 2) := by decide +kernel
theorem dX7_byAct_73 : decode cX7_byAct 73 = .ok (.iload_n 3, 1) := by decide +kernel
theorem dX7_byAct_74 : decode cX7_byAct 74 = .ok (.iconst 1, 1) := by decide +kernel
theorem dX7_byAct_75 : decode cX7_byAct 75 = .ok (.if_icmp .ne 12, 3) := by decide +kernel
theorem dX7_byAct_78 : decode cX7_byAct 78 = .ok (.aload_n 0, 1) := by decide +kernel
theorem dX7_byAct_79 : decode cX7_byAct 79 = .ok (.getfield 35, 3) := by decide +kernel
theorem dX7_byAct_82 : decode cX7_byAct 82 = .ok (.iload_n 2, 1) := by decide +kernel
theorem dX7_byAct_83 : decode cX7_byAct 83 = .ok (.iaload, 1) := by decide +kernel
theorem dX7_byAct_84 : decode cX7_byAct 84 = .ok (.goto 21, 3) := by decide +kernel
theorem dX7_byAct_87 : decode cX7_byAct 87 = .ok (.iload_n 3, 1) := by decide +kernel
theorem dX7_byAct_88 : decode cX7_byAct 88 = .ok (.iconst 2, 1) := by decide +kernel
theorem dX7_byAct_89 : decode cX7_byAct 89 = .ok (.if_icmp .ne 15, 3) := by decide +kernel
theorem dX7_byAct_92 : decode cX7_byAct 92 = .ok (.aload_n 0, 1) := by decide +kernel
theorem dX7_byAct_93 : decode cX7_byAct 93 = .ok (.getfield 35, 3) := by decide +kernel
theorem dX7_byAct_96 : decode cX7_byAct 96 = .ok (.iload_n 2, 1) := by decide +kernel
theorem dX7_byAct_97 : decode cX7_byAct 97 = .ok (.iconst 1, 1) := by decide +kernel
theorem dX7_byAct_98 : decode cX7_byAct 98 = .ok (.isub, 1) := by decide +kernel
theorem dX7_byAct_99 : decode cX7_byAct 99 = .ok (.iaload, 1) := by decide +kernel
theorem dX7_byAct_100 : decode cX7_byAct 100 = .ok (.ineg, 1) := by decide +kernel
theorem dX7_byAct_101 : decode cX7_byAct 101 = .ok (.goto 4, 3) := by decide +kernel
theorem dX7_byAct_104 : decode cX7_byAct 104 = .ok (.iconst 0, 1) := by decide +kernel
theorem dX7_byAct_105 : decode cX7_byAct 105 = .ok (.iadd, 1) := by decide +kernel
theorem dX7_byAct_106 : decode cX7_byAct 106 = .ok (.ireturn, 1) := by decide +kernel
theorem dX7_findRest_0 : decode cX7_findRest 0 = .ok (.iconst 0, 1) := by decide +kernel
theorem dX7_findRest_1 : decode cX7_findRest 1 = .ok (.istore 4, 2) := by decide +kernel
theorem dX7_findRest_3 : decode cX7_findRest 3 = .ok (.iload 4, 2) := by decide +kernel
theorem dX7_findRest_5 : decode cX7_findRest 5 = .ok (.aload_n 0, 1) := by decide +kernel
theorem dX7_findRest_6 : decode cX7_findRest 6 = .ok (.getfield 161, 3) := by decide +kernel
theorem dX7_findRest_9 : decode cX7_findRest 9 = .ok (.if_icmp .ge 34, 3) := by decide +kernel
theorem dX7_findRest_12 : decode cX7_findRest 12 = .ok (.aload_n 0, 1) := by decide +kernel
theorem dX7_findRest_13 : decode cX7_findRest 13 = .ok (.getfield 63, 3) := by decide +kernel
theorem dX7_findRest_16 : decode cX7_findRest 16 = .ok (.bipush 10, 2) := by decide +kernel
theorem dX7_findRest_18 : decode cX7_findRest 18 = .ok (.iload_n 2, 1) := by decide +kernel
theorem dX7_findRest_19 : decode cX7_findRest 19 = .ok (.imul, 1) := by decide +kernel
theorem dX7_findRest_20 : decode cX7_findRest 20 = .ok (.iload 4, 2) := by decide +kernel
theorem dX7_findRest_22 : decode cX7_findRest 22 = .ok (.iadd, 1) := by decide +kernel
theorem dX7_findRest_23 : decode cX7_findRest 23 = .ok (.iload 4, 2) := by decide +kernel
theorem dX7_findRest_25 : decode cX7_findRest 25 = .ok (.iload_n 1, 1) := by decide +kernel
theorem dX7_findRest_26 : decode cX7_findRest 26 = .ok (.if_icmp .ne 7, 3) := by decide +kernel
theorem dX7_findRest_29 : decode cX7_findRest 29 = .ok (.iconst 0, 1) := by decide +kernel
theorem dX7_findRest_30 : decode cX7_findRest 30 = .ok (.goto 6, 3) := by decide +kernel
theorem dX7_findRest_33 : decode cX7_findRest 33 = .ok (.ldc_w 261, 3) := by decide +kernel
theorem dX7_findRest_36 : decode cX7_findRest 36 = .ok (.iastore, 1) := by decide +kernel
theorem dX7_findRest_37 : decode cX7_findRest 37 = .ok (.iinc 4 1, 3) := by decide +kernel
theorem dX7_findRest_40 : decode cX7_findRest 40 = .ok (.goto (-37), 3) := by decide +kernel
theorem dX7_findRest_43 : decode cX7_findRest 43 = .ok (.iload_n 2, 1) := by decide +kernel
theorem dX7_findRest_44 : decode cX7_findRest 44 = .ok (.iconst 1, 1) := by decide +kernel
theorem dX7_findRest_45 : decode cX7_findRest 45 = .ok (.isub, 1) := by decide +kernel
theorem dX7_findRest_46 : decode cX7_findRest 46 = .ok (.istore 4, 2) := by decide +kernel
theorem dX7_findRest_48 : decode cX7_findRest 48 = .ok (.iload 4, 2) := by decide +kernel
theorem dX7_findRest_50 : decode cX7_findRest 50 = .ok (.ifCond .lt 80, 3) := by decide +kernel
theorem dX7_findRest_53 : decode cX7_findRest 53 = .ok (.iconst 0, 1) := by decide +kernel
theorem dX7_findRest_54 : decode cX7_findRest 54 = .ok (.istore 5, 2) := by decide +kernel
theorem dX7_findRest_56 : decode cX7_findRest 56 = .ok (.iload 5, 2) := by decide +kernel
theorem dX7_findRest_58 : decode cX7_findRest 58 = .ok (.aload_n 0, 1) := by decide +kernel
theorem dX7_findRest_59 : decode cX7_findRest 59 = .ok (.getfield 161, 3) := by decide +kernel
theorem dX7_findRest_62 : decode cX7_findRest 62 = .ok (.if_icmp .ge 62, 3) := by decide +kernel
theorem dX7_findRest_65 : decode cX7_findRest 65 = .ok (.ldc_w 261, 3) := by decide +kernel
theorem dX7_findRest_68 : decode cX7_findRest 68 = .ok (.istore 6, 2) := by decide +kernel
theorem dX7_findRest_70 : decode cX7_findRest 70 = .ok (.iconst 0, 1) := by decide +kernel
theorem dX7_findRest_71 : decode cX7_findRest 71 = .ok (.istore 7, 2) := by decide +kernel
theorem dX7_findRest_73 : decode cX7_findRest 73 = .ok (.iload 7, 2) := by decide +kernel
theorem dX7_findRest_75 : decode cX7_findRest 75 = .ok (.iconst 3, 1) := by decide +kernel
theorem dX7_findRest_76 : decode cX7_findRest 76 = .ok (.if_icmp .ge 27, 3) := by decide +kernel
theorem dX7_findRest_79 : decode cX7_findRest 79 = .ok (.iload 6, 2) := by decide +kernel
theorem dX7_findRest_81 : decode cX7_findRest 81 = .ok (.aload_n 0, 1) := by decide +kernel
theorem dX7_findRest_82 : decode cX7_findRest 82 = .ok (.iload 4, 2) := by decide +kernel
theorem dX7_findRest_84 : decode cX7_findRest 84 = .ok (.iload 5, 2) := by decide +kernel
theorem dX7_findRest_86 : decode cX7_findRest 86 = .ok (.iload 7, 2) := by decide +kernel
theorem dX7_findRest_88 : decode cX7_findRest 88 = .ok (.iload_n 3, 1) := by decide +kernel
theorem dX7_findRest_89 : decode cX7_findRest 89 = .ok (.invokevirtual 262, 3) := by decide +kernel
theorem dX7_findRest_92 : decode cX7_findRest 92 = .ok (.invokestatic 202, 3) := by decide +kernel
theorem dX7_findRest_95 : decode cX7_findRest 95 = .ok (.istore 6, 2) := by decide +kernel
theorem dX7_findRest_97 : decode cX7_findRest 97 = .ok (.iinc 7 1, 3) := by decide +kernel
theorem dX7_findRest_100 : decode cX7_findRest 100 = .ok (.goto (-27), 3) := by decide +kernel
theorem dX7_findRest_103 : decode cX7_findRest 103 = .ok (.aload_n 0, 1) := by decide +kernel
theorem dX7_findRest_104 : decode cX7_findRest 104 = .ok (.getfield 63, 3) := by decide +kernel
theorem dX7_findRest_107 : decode cX7_findRest 107 = .ok (.bipush 10, 2) := by decide +kernel
theorem dX7_findRest_109 : decode cX7_findRest 109 = .ok (.iload 4, 2) := by decide +kernel
theorem dX7_findRest_111 : decode cX7_findRest 111 = .ok (.imul, 1) := by decide +kernel
theorem dX7_findRest_112 : decode cX7_findRest 112 = .ok (.iload 5, 2) := by decide +kernel
theorem dX7_findRest_114 : decode cX7_findRest 114 = .ok (.iadd, 1) := by decide +kernel
theorem dX7_findRest_115 : decode cX7_findRest 115 = .ok (.iload 6, 2) := by decide +kernel
theorem dX7_findRest_117 : decode cX7_findRest 117 = .ok (.iastore, 1) := by decide +kernel
theorem dX7_findRest_118 : decode cX7_findRest 118 = .ok (.iinc 5 1, 3) := by decide +kernel
theorem dX7_findRest_121 : decode cX7_findRest 121 = .ok (.goto (-65), 3) := by decide +kernel
theorem dX7_findRest_124 : decode cX7_findRest 124 = .ok (.iinc 4 (-1), 3) := by decide +kernel
theorem dX7_findRest_127 : decode cX7_findRest 127 = .ok (.goto (-79), 3) := by decide +kernel
theorem dX7_findRest_130 : decode cX7_findRest 130 = .ok (.iload_n 2, 1) := by decide +kernel
theorem dX7_findRest_131 : decode cX7_findRest 131 = .ok (.ireturn, 1) := by decide +kernel
theorem dX7_boat_0 : decode cX7_boat 0 = .ok (.aload_n 0, 1) := by decide +kernel
theorem dX7_boat_1 : decode cX7_boat 1 = .ok (.iload_n 1, 1) := by decide +kernel
theorem dX7_boat_2 : decode cX7_boat 2 = .ok (.invokevirtual 181, 3) := by decide +kernel
theorem dX7_boat_5 : decode cX7_boat 5 = .ok (.ifCond .eq 11, 3) := by decide +kernel
theorem dX7_boat_8 : decode cX7_boat 8 = .ok (.aload_n 0, 1) := by decide +kernel
theorem dX7_boat_9 : decode cX7_boat 9 = .ok (.iload_n 2, 1) := by decide +kernel
theorem dX7_boat_10 : decode cX7_boat 10 = .ok (.invokevirtual 181, 3) := by decide +kernel
theorem dX7_boat_13 : decode cX7_boat 13 = .ok (.ifCond .ne 6, 3) := by decide +kernel
theorem dX7_boat_16 : decode cX7_boat 16 = .ok (.ldc 185, 2) := by decide +kernel
theorem dX7_boat_18 : decode cX7_boat 18 = .ok (.ireturn, 1) := by decide +kernel
theorem dX7_boat_19 : decode cX7_boat 19 = .ok (.iload_n 3, 1) := by decide +kernel
theorem dX7_boat_20 : decode cX7_boat 20 = .ok (.i2l, 1) := by decide +kernel
theorem dX7_boat_21 : decode cX7_boat 21 = .ok (.lconst 0, 1) := by decide +kernel
theorem dX7_boat_22 : decode cX7_boat 22 = .ok (.ldc2_w 246, 3) := by decide +kernel
theorem dX7_boat_25 : decode cX7_boat 25 = .ok (.invokestatic 71, 3) := by decide +kernel
theorem dX7_boat_28 : decode cX7_boat 28 = .ok (.ifCond .ne 6, 3) := by decide +kernel
theorem dX7_boat_31 : decode cX7_boat 31 = .ok (.ldc 75, 2) := by decide +kernel
theorem dX7_boat_33 : decode cX7_boat 33 = .ok (.ireturn, 1) := by decide +kernel
theorem dX7_boat_34 : decode cX7_boat 34 = .ok (.aload_n 0, 1) := by decide +kernel
theorem dX7_boat_35 : decode cX7_boat 35 = .ok (.bipush 100, 2) := by decide +kernel
theorem dX7_boat_37 : decode cX7_boat 37 = .ok (.iconst 0, 1) := by decide +kernel
theorem dX7_boat_38 : decode cX7_boat 38 = .ok (.iconst 0, 1) := by decide +kernel
theorem dX7_boat_39 : decode cX7_boat 39 = .ok (.invokevirtual 253, 3) := by decide +kernel
theorem dX7_boat_42 : decode cX7_boat 42 = .ok (.aload_n 0, 1) := by decide +kernel
theorem dX7_boat_43 : decode cX7_boat 43 = .ok (.iload_n 2, 1) := by decide +kernel
theorem dX7_boat_44 : decode cX7_boat 44 = .ok (.iconst 0, 1) := by decide +kernel
theorem dX7_boat_45 : decode cX7_boat 45 = .ok (.iload_n 3, 1) := by decide +kernel
theorem dX7_boat_46 : decode cX7_boat 46 = .ok (.invokevirtual 266, 3) := by decide +kernel
theorem dX7_boat_49 : decode cX7_boat 49 = .ok (.istore 5, 2) := by decide +kernel
theorem dX7_boat_51 : decode cX7_boat 51 = .ok (.iload 5, 2) := by decide +kernel
theorem dX7_boat_53 : decode cX7_boat 53 = .ok (.bipush 100, 2) := by decide +kernel
theorem dX7_boat_55 : decode cX7_boat 55 = .ok (.if_icmp .gt 38, 3) := by decide +kernel
theorem dX7_boat_58 : decode cX7_boat 58 = .ok (.aload_n 0, 1) := by decide +kernel
theorem dX7_boat_59 : decode cX7_boat 59 = .ok (.getfield 63, 3) := by decide +kernel
theorem dX7_boat_62 : decode cX7_boat 62 = .ok (.iload_n 1, 1) := by decide +kernel
theorem dX7_boat_63 : decode cX7_boat 63 = .ok (.iaload, 1) := by decide +kernel
theorem dX7_boat_64 : decode cX7_boat 64 = .ok (.ldc_w 261, 3) := by decide +kernel
theorem dX7_boat_67 : decode cX7_boat 67 = .ok (.if_icmp .lt 26, 3) := by decide +kernel
theorem dX7_boat_70 : decode cX7_boat 70 = .ok (.iinc 5 1, 3) := by decide +kernel
theorem dX7_boat_73 : decode cX7_boat 73 = .ok (.iload 5, 2) := by decide +kernel
theorem dX7_boat_75 : decode cX7_boat 75 = .ok (.bipush 100, 2) := by decide +kernel
theorem dX7_boat_77 : decode cX7_boat 77 = .ok (.if_icmp .gt (-26), 3) := by decide +kernel
theorem dX7_boat_80 : decode cX7_boat 80 = .ok (.aload_n 0, 1) := by decide +kernel
theorem dX7_boat_81 : decode cX7_boat 81 = .ok (.iload_n 2, 1) := by decide +kernel
theorem dX7_boat_82 : decode cX7_boat 82 = .ok (.iload 5, 2) := by decide +kernel
theorem dX7_boat_84 : decode cX7_boat 84 = .ok (.iload_n 3, 1) := by decide +kernel
theorem dX7_boat_85 : decode cX7_boat 85 = .ok (.invokevirtual 266, 3) := by decide +kernel
theorem dX7_boat_88 : decode cX7_boat 88 = .ok (.istore 5, 2) := by decide +kernel
theorem dX7_boat_90 : decode cX7_boat 90 = .ok (.goto (-39), 3) := by decide +kernel
theorem dX7_boat_93 : decode cX7_boat 93 = .ok (.iload 5, 2) := by decide +kernel
theorem dX7_boat_95 : decode cX7_boat 95 = .ok (.bipush 100, 2) := by decide +kernel
theorem dX7_boat_97 : decode cX7_boat 97 = .ok (.if_icmp .le 17, 3) := by decide +kernel
theorem dX7_boat_100 : decode cX7_boat 100 = .ok (.iload 4, 2) := by decide +kernel
theorem dX7_boat_102 : decode cX7_boat 102 = .ok (.bipush (-2), 2) := by decide +kernel
theorem dX7_boat_104 : decode cX7_boat 104 = .ok (.if_icmp .ne 8, 3) := by decide +kernel
theorem dX7_boat_107 : decode cX7_boat 107 = .ok (.ldc 170, 2) := by decide +kernel
theorem dX7_boat_109 : decode cX7_boat 109 = .ok (.goto 4, 3) := by decide +kernel
theorem dX7_boat_112 : decode cX7_boat 112 = .ok (.iconst (-1), 1) := by decide +kernel
theorem dX7_boat_113 : decode cX7_boat 113 = .ok (.ireturn, 1) := by decide +kernel
theorem dX7_boat_114 : decode cX7_boat 114 = .ok (.iload 4, 2) := by decide +kernel
theorem dX7_boat_116 : decode cX7_boat 116 = .ok (.ifCond .lt 10, 3) := by decide +kernel
theorem dX7_boat_119 : decode cX7_boat 119 = .ok (.iload 4, 2) := by decide +kernel
theorem dX7_boat_121 : decode cX7_boat 121 = .ok (.iload 5, 2) := by decide +kernel
theorem dX7_boat_123 : decode cX7_boat 123 = .ok (.if_icmp .lt 32, 3) := by decide +kernel
theorem dX7_boat_126 : decode cX7_boat 126 = .ok (.iload 4, 2) := by decide +kernel
theorem dX7_boat_128 : decode cX7_boat 128 = .ok (.iconst (-1), 1) := by decide +kernel
theorem dX7_boat_129 : decode cX7_boat 129 = .ok (.if_icmp .ne 8, 3) := by decide +kernel
theorem dX7_boat_132 : decode cX7_boat 132 = .ok (.iload 5, 2) := by decide +kernel
theorem dX7_boat_134 : decode cX7_boat 134 = .ok (.goto 20, 3) := by decide +kernel
theorem dX7_boat_137 : decode cX7_boat 137 = .ok (.iload 4, 2) := by decide +kernel
theorem dX7_boat_139 : decode cX7_boat 139 = .ok (.bipush (-2), 2) := by decide +kernel
theorem dX7_boat_141 : decode cX7_boat 141 = .ok (.if_icmp .ne 12, 3) := by decide +kernel
theorem dX7_boat_144 : decode cX7_boat 144 = .ok (.aload_n 0, 1) := by decide +kernel
theorem dX7_boat_145 : decode cX7_boat 145 = .ok (.getfield 63, 3) := by decide +kernel
theorem dX7_boat_148 : decode cX7_boat 148 = .ok (.iload_n 1, 1) := by decide +kernel
theorem dX7_boat_149 : decode cX7_boat 149 = .ok (.iaload, 1) := by decide +kernel
theorem dX7_boat_150 : decode cX7_boat 150 = .ok (.goto 4, 3) := by decide +kernel
theorem dX7_boat_153 : decode cX7_boat 153 = .ok (.iconst (-1), 1) := by decide +kernel
theorem dX7_boat_154 : decode cX7_boat 154 = .ok (.ireturn, 1) := by decide +kernel
theorem dX7_boat_155 : decode cX7_boat 155 = .ok (.iload_n 1, 1) := by decide +kernel
theorem dX7_boat_156 : decode cX7_boat 156 = .ok (.istore 6, 2) := by decide +kernel
theorem dX7_boat_158 : decode cX7_boat 158 = .ok (.iconst 0, 1) := by decide +kernel
theorem dX7_boat_159 : decode cX7_boat 159 = .ok (.istore 7, 2) := by decide +kernel
theorem dX7_boat_161 : decode cX7_boat 161 = .ok (.iconst 0, 1) := by decide +kernel
theorem dX7_boat_162 : decode cX7_boat 162 = .ok (.istore 8, 2) := by decide +kernel
theorem dX7_boat_164 : decode cX7_boat 164 = .ok (.iload 8, 2) := by decide +kernel
theorem dX7_boat_166 : decode cX7_boat 166 = .ok (.iload 4, 2) := by decide +kernel
theorem dX7_boat_168 : decode cX7_boat 168 = .ok (.if_icmp .gt 71, 3) := by decide +kernel
theorem dX7_boat_171 : decode cX7_boat 171 = .ok (.iconst 0, 1) := by decide +kernel
theorem dX7_boat_172 : decode cX7_boat 172 = .ok (.istore 7, 2) := by decide +kernel
theorem dX7_boat_174 : decode cX7_boat 174 = .ok (.aload_n 0, 1) := by decide +kernel
theorem dX7_boat_175 : decode cX7_boat 175 = .ok (.iload 8, 2) := by decide +kernel
theorem dX7_boat_177 : decode cX7_boat 177 = .ok (.iload 6, 2) := by decide +kernel
theorem dX7_boat_179 : decode cX7_boat 179 = .ok (.iload 7, 2) := by decide +kernel
theorem dX7_boat_181 : decode cX7_boat 181 = .ok (.iload_n 3, 1) := by decide +kernel
theorem dX7_boat_182 : decode cX7_boat 182 = .ok (.invokevirtual 262, 3) := by decide +kernel
theorem dX7_boat_185 : decode cX7_boat 185 = .ok (.aload_n 0, 1) := by decide +kernel
theorem dX7_boat_186 : decode cX7_boat 186 = .ok (.getfield 63, 3) := by decide +kernel
theorem dX7_boat_189 : decode cX7_boat 189 = .ok (.bipush 10, 2) := by decide +kernel
theorem dX7_boat_191 : decode cX7_boat 191 = .ok (.iload 8, 2) := by decide +kernel
theorem dX7_boat_193 : decode cX7_boat 193 = .ok (.imul, 1) := by decide +kernel
theorem dX7_boat_194 : decode cX7_boat 194 = .ok (.iload 6, 2) := by decide +kernel
theorem dX7_boat_196 : decode cX7_boat 196 = .ok (.iadd, 1) := by decide +kernel
theorem dX7_boat_197 : decode cX7_boat 197 = .ok (.iaload, 1) := by decide +kernel
theorem dX7_boat_198 : decode cX7_boat 198 = .ok (.if_icmp .eq 9, 3) := by decide +kernel
theorem dX7_boat_201 : decode cX7_boat 201 = .ok (.iinc 7 1, 3) := by decide +kernel
theorem dX7_boat_204 : decode cX7_boat 204 = .ok (.goto (-30), 3) := by decide +kernel
theorem dX7_boat_207 : decode cX7_boat 207 = .ok (.iload 6, 2) := by decide +kernel
theorem dX7_boat_209 : decode cX7_boat 209 = .ok (.iload 7, 2) := by decide +kernel
theorem dX7_boat_211 : decode cX7_boat 211 = .ok (.iconst 1, 1) := by decide +kernel
theorem dX7_boat_212 : decode cX7_boat 212 = .ok (.if_icmp .ne 7, 3) := by decide +kernel
theorem dX7_boat_215 : decode cX7_boat 215 = .ok (.iconst 1, 1) := by decide +kernel
theorem dX7_boat_216 : decode cX7_boat 216 = .ok (.goto 14, 3) := by decide +kernel
theorem dX7_boat_219 : decode cX7_boat 219 = .ok (.iload 7, 2) := by decide +kernel
theorem dX7_boat_221 : decode cX7_boat 221 = .ok (.iconst 2, 1) := by decide +kernel
theorem dX7_boat_222 : decode cX7_boat 222 = .ok (.if_icmp .ne 7, 3) := by decide +kernel
theorem dX7_boat_225 : decode cX7_boat 225 = .ok (.iconst (-1), 1) := by decide +kernel
theorem dX7_boat_226 : decode cX7_boat 226 = .ok (.goto 4, 3) := by decide +kernel
theorem dX7_boat_229 : decode cX7_boat 229 = .ok (.iconst 0, 1) := by decide +kernel
theorem dX7_boat_230 : decode cX7_boat 230 = .ok (.iadd, 1) := by decide +kernel
theorem dX7_boat_231 : decode cX7_boat 231 = .ok (.istore 6, 2) := by decide +kernel
theorem dX7_boat_233 : decode cX7_boat 233 = .ok (.iinc 8 1, 3) := by decide +kernel
theorem dX7_boat_236 : decode cX7_boat 236 = .ok (.goto (-72), 3) := by decide +kernel
theorem dX7_boat_239 : decode cX7_boat 239 = .ok (.iload 7, 2) := by decide +kernel
theorem dX7_boat_241 : decode cX7_boat 241 = .ok (.ireturn, 1) := by decide +kernel
theorem dX7_goesIn_0 : decode cX7_goesIn 0 = .ok (.iload_n 2, 1) := by decide +kernel
theorem dX7_goesIn_1 : decode cX7_goesIn 1 = .ok (.aload_n 0, 1) := by decide +kernel
theorem dX7_goesIn_2 : decode cX7_goesIn 2 = .ok (.invokevirtual 174, 3) := by decide +kernel
theorem dX7_goesIn_5 : decode cX7_goesIn 5 = .ok (.if_icmp .ne 7, 3) := by decide +kernel
theorem dX7_goesIn_8 : decode cX7_goesIn 8 = .ok (.iconst 0, 1) := by decide +kernel
theorem dX7_goesIn_9 : decode cX7_goesIn 9 = .ok (.goto 14, 3) := by decide +kernel
theorem dX7_goesIn_12 : decode cX7_goesIn 12 = .ok (.aload_n 0, 1) := by decide +kernel
theorem dX7_goesIn_13 : decode cX7_goesIn 13 = .ok (.getfield 57, 3) := by decide +kernel
theorem dX7_goesIn_16 : decode cX7_goesIn 16 = .ok (.bipush 9, 2) := by decide +kernel
theorem dX7_goesIn_18 : decode cX7_goesIn 18 = .ok (.iload_n 1, 1) := by decide +kernel
theorem dX7_goesIn_19 : decode cX7_goesIn 19 = .ok (.imul, 1) := by decide +kernel
theorem dX7_goesIn_20 : decode cX7_goesIn 20 = .ok (.iload_n 2, 1) := by decide +kernel
theorem dX7_goesIn_21 : decode cX7_goesIn 21 = .ok (.iadd, 1) := by decide +kernel
theorem dX7_goesIn_22 : decode cX7_goesIn 22 = .ok (.iaload, 1) := by decide +kernel
theorem dX7_goesIn_23 : decode cX7_goesIn 23 = .ok (.istore 4, 2) := by decide +kernel
theorem dX7_goesIn_25 : decode cX7_goesIn 25 = .ok (.iload_n 2, 1) := by decide +kernel
theorem dX7_goesIn_26 : decode cX7_goesIn 26 = .ok (.ifCond .ne 7, 3) := by decide +kernel
theorem dX7_goesIn_29 : decode cX7_goesIn 29 = .ok (.iconst 0, 1) := by decide +kernel
theorem dX7_goesIn_30 : decode cX7_goesIn 30 = .ok (.goto 17, 3) := by decide +kernel
theorem dX7_goesIn_33 : decode cX7_goesIn 33 = .ok (.aload_n 0, 1) := by decide +kernel
theorem dX7_goesIn_34 : decode cX7_goesIn 34 = .ok (.getfield 57, 3) := by decide +kernel
theorem dX7_goesIn_37 : decode cX7_goesIn 37 = .ok (.bipush 9, 2) := by decide +kernel
theorem dX7_goesIn_39 : decode cX7_goesIn 39 = .ok (.iload_n 1, 1) := by decide +kernel
theorem dX7_goesIn_40 : decode cX7_goesIn 40 = .ok (.imul, 1) := by decide +kernel
theorem dX7_goesIn_41 : decode cX7_goesIn 41 = .ok (.iload_n 2, 1) := by decide +kernel
theorem dX7_goesIn_42 : decode cX7_goesIn 42 = .ok (.iadd, 1) := by decide +kernel
theorem dX7_goesIn_43 : decode cX7_goesIn 43 = .ok (.iconst 1, 1) := by decide +kernel
theorem dX7_goesIn_44 : decode cX7_goesIn 44 = .ok (.isub, 1) := by decide +kernel
theorem dX7_goesIn_45 : decode cX7_goesIn 45 = .ok (.iaload, 1) := by decide +kernel
theorem dX7_goesIn_46 : decode cX7_goesIn 46 = .ok (.ineg, 1) := by decide +kernel
theorem dX7_goesIn_47 : decode cX7_goesIn 47 = .ok (.istore 5, 2) := by decide +kernel
theorem dX7_goesIn_49 : decode cX7_goesIn 49 = .ok (.iload 4, 2) := by decide +kernel
theorem dX7_goesIn_51 : decode cX7_goesIn 51 = .ok (.iload_n 3, 1) := by decide +kernel
theorem dX7_goesIn_52 : decode cX7_goesIn 52 = .ok (.if_icmp .lt 14, 3) := by decide +kernel
theorem dX7_goesIn_55 : decode cX7_goesIn 55 = .ok (.iload 4, 2) := by decide +kernel
theorem dX7_goesIn_57 : decode cX7_goesIn 57 = .ok (.iload 5, 2) := by decide +kernel
theorem dX7_goesIn_59 : decode cX7_goesIn 59 = .ok (.if_icmp .lt 7, 3) := by decide +kernel
theorem dX7_goesIn_62 : decode cX7_goesIn 62 = .ok (.iload_n 2, 1) := by decide +kernel
theorem dX7_goesIn_63 : decode cX7_goesIn 63 = .ok (.iconst 1, 1) := by decide +kernel
theorem dX7_goesIn_64 : decode cX7_goesIn 64 = .ok (.iadd, 1) := by decide +kernel
theorem dX7_goesIn_65 : decode cX7_goesIn 65 = .ok (.ireturn, 1) := by decide +kernel
theorem dX7_goesIn_66 : decode cX7_goesIn 66 = .ok (.iload 5, 2) := by decide +kernel
theorem dX7_goesIn_68 : decode cX7_goesIn 68 = .ok (.iload_n 3, 1) := by decide +kernel
theorem dX7_goesIn_69 : decode cX7_goesIn 69 = .ok (.if_icmp .lt 9, 3) := by decide +kernel
theorem dX7_goesIn_72 : decode cX7_goesIn 72 = .ok (.iload_n 2, 1) := by decide +kernel
theorem dX7_goesIn_73 : decode cX7_goesIn 73 = .ok (.iconst 1, 1) := by decide +kernel
theorem dX7_goesIn_74 : decode cX7_goesIn 74 = .ok (.isub, 1) := by decide +kernel
theorem dX7_goesIn_75 : decode cX7_goesIn 75 = .ok (.goto 4, 3) := by decide +kernel
theorem dX7_goesIn_78 : decode cX7_goesIn 78 = .ok (.iload_n 2, 1) := by decide +kernel
theorem dX7_goesIn_79 : decode cX7_goesIn 79 = .ok (.ireturn, 1) := by decide +kernel
theorem dX7_sent_0 : decode cX7_sent 0 = .ok (.aload_n 0, 1) := by decide +kernel
theorem dX7_sent_1 : decode cX7_sent 1 = .ok (.iload_n 1, 1) := by decide +kernel
theorem dX7_sent_2 : decode cX7_sent 2 = .ok (.invokevirtual 181, 3) := by decide +kernel
theorem dX7_sent_5 : decode cX7_sent 5 = .ok (.ifCond .ne 6, 3) := by decide +kernel
theorem dX7_sent_8 : decode cX7_sent 8 = .ok (.ldc 185, 2) := by decide +kernel
theorem dX7_sent_10 : decode cX7_sent 10 = .ok (.ireturn, 1) := by decide +kernel
theorem dX7_sent_11 : decode cX7_sent 11 = .ok (.iload 4, 2) := by decide +kernel
theorem dX7_sent_13 : decode cX7_sent 13 = .ok (.i2l, 1) := by decide +kernel
theorem dX7_sent_14 : decode cX7_sent 14 = .ok (.lconst 1, 1) := by decide +kernel
theorem dX7_sent_15 : decode cX7_sent 15 = .ok (.ldc2_w 246, 3) := by decide +kernel
theorem dX7_sent_18 : decode cX7_sent 18 = .ok (.invokestatic 71, 3) := by decide +kernel
theorem dX7_sent_21 : decode cX7_sent 21 = .ok (.ifCond .eq 26, 3) := by decide +kernel
theorem dX7_sent_24 : decode cX7_sent 24 = .ok (.iload_n 2, 1) := by decide +kernel
theorem dX7_sent_25 : decode cX7_sent 25 = .ok (.i2l, 1) := by decide +kernel
theorem dX7_sent_26 : decode cX7_sent 26 = .ok (.lconst 0, 1) := by decide +kernel
theorem dX7_sent_27 : decode cX7_sent 27 = .ok (.ldc2_w 239, 3) := by decide +kernel
theorem dX7_sent_30 : decode cX7_sent 30 = .ok (.invokestatic 71, 3) := by decide +kernel
theorem dX7_sent_33 : decode cX7_sent 33 = .ok (.ifCond .eq 14, 3) := by decide +kernel
theorem dX7_sent_36 : decode cX7_sent 36 = .ok (.iload_n 3, 1) := by decide +kernel
theorem dX7_sent_37 : decode cX7_sent 37 = .ok (.i2l, 1) := by decide +kernel
theorem dX7_sent_38 : decode cX7_sent 38 = .ok (.lconst 0, 1) := by decide +kernel
theorem dX7_sent_39 : decode cX7_sent 39 = .ok (.iload_n 2, 1) := by decide +kernel
theorem dX7_sent_40 : decode cX7_sent 40 = .ok (.i2l, 1) := by decide +kernel
theorem dX7_sent_41 : decode cX7_sent 41 = .ok (.invokestatic 71, 3) := by decide +kernel
theorem dX7_sent_44 : decode cX7_sent 44 = .ok (.ifCond .ne 6, 3) := by decide +kernel
theorem dX7_sent_47 : decode cX7_sent 47 = .ok (.ldc 75, 2) := by decide +kernel
theorem dX7_sent_49 : decode cX7_sent 49 = .ok (.ireturn, 1) := by decide +kernel
theorem dX7_sent_50 : decode cX7_sent 50 = .ok (.aload_n 0, 1) := by decide +kernel
theorem dX7_sent_51 : decode cX7_sent 51 = .ok (.bipush 100, 2) := by decide +kernel
theorem dX7_sent_53 : decode cX7_sent 53 = .ok (.iconst 0, 1) := by decide +kernel
theorem dX7_sent_54 : decode cX7_sent 54 = .ok (.iconst 0, 1) := by decide +kernel
theorem dX7_sent_55 : decode cX7_sent 55 = .ok (.invokevirtual 253, 3) := by decide +kernel
theorem dX7_sent_58 : decode cX7_sent 58 = .ok (.iconst 0, 1) := by decide +kernel
theorem dX7_sent_59 : decode cX7_sent 59 = .ok (.istore 5, 2) := by decide +kernel
theorem dX7_sent_61 : decode cX7_sent 61 = .ok (.iconst 0, 1) := by decide +kernel
theorem dX7_sent_62 : decode cX7_sent 62 = .ok (.istore 6, 2) := by decide +kernel
theorem dX7_sent_64 : decode cX7_sent 64 = .ok (.iload 6, 2) := by decide +kernel
theorem dX7_sent_66 : decode cX7_sent 66 = .ok (.aload_n 0, 1) := by decide +kernel
theorem dX7_sent_67 : decode cX7_sent 67 = .ok (.getfield 161, 3) := by decide +kernel
theorem dX7_sent_70 : decode cX7_sent 70 = .ok (.if_icmp .ge 62, 3) := by decide +kernel
theorem dX7_sent_73 : decode cX7_sent 73 = .ok (.iload 6, 2) := by decide +kernel
theorem dX7_sent_75 : decode cX7_sent 75 = .ok (.istore 7, 2) := by decide +kernel
theorem dX7_sent_77 : decode cX7_sent 77 = .ok (.iload_n 3, 1) := by decide +kernel
theorem dX7_sent_78 : decode cX7_sent 78 = .ok (.istore 8, 2) := by decide +kernel
theorem dX7_sent_80 : decode cX7_sent 80 = .ok (.iload 8, 2) := by decide +kernel
theorem dX7_sent_82 : decode cX7_sent 82 = .ok (.iload_n 2, 1) := by decide +kernel
theorem dX7_sent_83 : decode cX7_sent 83 = .ok (.if_icmp .ge 21, 3) := by decide +kernel
theorem dX7_sent_86 : decode cX7_sent 86 = .ok (.aload_n 0, 1) := by decide +kernel
theorem dX7_sent_87 : decode cX7_sent 87 = .ok (.iload 8, 2) := by decide +kernel
theorem dX7_sent_89 : decode cX7_sent 89 = .ok (.iload 7, 2) := by decide +kernel
theorem dX7_sent_91 : decode cX7_sent 91 = .ok (.iload 4, 2) := by decide +kernel
theorem dX7_sent_93 : decode cX7_sent 93 = .ok (.invokevirtual 269, 3) := by decide +kernel
theorem dX7_sent_96 : decode cX7_sent 96 = .ok (.istore 7, 2) := by decide +kernel
theorem dX7_sent_98 : decode cX7_sent 98 = .ok (.iinc 8 1, 3) := by decide +kernel
theorem dX7_sent_101 : decode cX7_sent 101 = .ok (.goto (-21), 3) := by decide +kernel
theorem dX7_sent_104 : decode cX7_sent 104 = .ok (.iload 5, 2) := by decide +kernel
theorem dX7_sent_106 : decode cX7_sent 106 = .ok (.iload 7, 2) := by decide +kernel
theorem dX7_sent_108 : decode cX7_sent 108 = .ok (.iload_n 1, 1) := by decide +kernel
theorem dX7_sent_109 : decode cX7_sent 109 = .ok (.if_icmp .ne 7, 3) := by decide +kernel
theorem dX7_sent_112 : decode cX7_sent 112 = .ok (.iconst 1, 1) := by decide +kernel
theorem dX7_sent_113 : decode cX7_sent 113 = .ok (.goto 4, 3) := by decide +kernel
theorem dX7_sent_116 : decode cX7_sent 116 = .ok (.iconst 0, 1) := by decide +kernel
theorem dX7_sent_117 : decode cX7_sent 117 = .ok (.invokestatic 125, 3) := by decide +kernel
theorem dX7_sent_120 : decode cX7_sent 120 = .ok (.iload 6, 2) := by decide +kernel
theorem dX7_sent_122 : decode cX7_sent 122 = .ok (.ishl, 1) := by decide +kernel
theorem dX7_sent_123 : decode cX7_sent 123 = .ok (.ior, 1) := by decide +kernel
theorem dX7_sent_124 : decode cX7_sent 124 = .ok (.istore 5, 2) := by decide +kernel
theorem dX7_sent_126 : decode cX7_sent 126 = .ok (.iinc 6 1, 3) := by decide +kernel
theorem dX7_sent_129 : decode cX7_sent 129 = .ok (.goto (-65), 3) := by decide +kernel
theorem dX7_sent_132 : decode cX7_sent 132 = .ok (.iload 5, 2) := by decide +kernel
theorem dX7_sent_134 : decode cX7_sent 134 = .ok (.ireturn, 1) := by decide +kernel
theorem dX7_ring_0 : decode cX7_ring 0 = .ok (.aload_n 0, 1) := by decide +kernel
theorem dX7_ring_1 : decode cX7_ring 1 = .ok (.iload_n 1, 1) := by decide +kernel
theorem dX7_ring_2 : decode cX7_ring 2 = .ok (.invokevirtual 181, 3) := by decide +kernel
theorem dX7_ring_5 : decode cX7_ring 5 = .ok (.ifCond .ne 6, 3) := by decide +kernel
theorem dX7_ring_8 : decode cX7_ring 8 = .ok (.ldc 185, 2) := by decide +kernel
theorem dX7_ring_10 : decode cX7_ring 10 = .ok (.ireturn, 1) := by decide +kernel
theorem dX7_ring_11 : decode cX7_ring 11 = .ok (.iload_n 2, 1) := by decide +kernel
theorem dX7_ring_12 : decode cX7_ring 12 = .ok (.i2l, 1) := by decide +kernel
theorem dX7_ring_13 : decode cX7_ring 13 = .ok (.lconst 1, 1) := by decide +kernel
theorem dX7_ring_14 : decode cX7_ring 14 = .ok (.ldc2_w 246, 3) := by decide +kernel
theorem dX7_ring_17 : decode cX7_ring 17 = .ok (.invokestatic 71, 3) := by decide +kernel
theorem dX7_ring_20 : decode cX7_ring 20 = .ok (.ifCond .ne 6, 3) := by decide +kernel
theorem dX7_ring_23 : decode cX7_ring 23 = .ok (.ldc 75, 2) := by decide +kernel
theorem dX7_ring_25 : decode cX7_ring 25 = .ok (.ireturn, 1) := by decide +kernel
theorem dX7_ring_26 : decode cX7_ring 26 = .ok (.aload_n 0, 1) := by decide +kernel
theorem dX7_ring_27 : decode cX7_ring 27 = .ok (.sipush 200, 3) := by decide +kernel
theorem dX7_ring_30 : decode cX7_ring 30 = .ok (.iconst 0, 1) := by decide +kernel
theorem dX7_ring_31 : decode cX7_ring 31 = .ok (.iconst 0, 1) := by decide +kernel
theorem dX7_ring_32 : decode cX7_ring 32 = .ok (.invokevirtual 253, 3) := by decide +kernel
theorem dX7_ring_35 : decode cX7_ring 35 = .ok (.iload_n 1, 1) := by decide +kernel
theorem dX7_ring_36 : decode cX7_ring 36 = .ok (.istore_n 3, 1) := by decide +kernel
theorem dX7_ring_37 : decode cX7_ring 37 = .ok (.iconst 0, 1) := by decide +kernel
theorem dX7_ring_38 : decode cX7_ring 38 = .ok (.istore 4, 2) := by decide +kernel
theorem dX7_ring_40 : decode cX7_ring 40 = .ok (.iconst 0, 1) := by decide +kernel
theorem dX7_ring_41 : decode cX7_ring 41 = .ok (.istore 5, 2) := by decide +kernel
theorem dX7_ring_43 : decode cX7_ring 43 = .ok (.iload 5, 2) := by decide +kernel
theorem dX7_ring_45 : decode cX7_ring 45 = .ok (.sipush 200, 3) := by decide +kernel
theorem dX7_ring_48 : decode cX7_ring 48 = .ok (.if_icmp .ge 50, 3) := by decide +kernel
theorem dX7_ring_51 : decode cX7_ring 51 = .ok (.aload_n 0, 1) := by decide +kernel
theorem dX7_ring_52 : decode cX7_ring 52 = .ok (.iload 5, 2) := by decide +kernel
theorem dX7_ring_54 : decode cX7_ring 54 = .ok (.iload_n 3, 1) := by decide +kernel
theorem dX7_ring_55 : decode cX7_ring 55 = .ok (.iload_n 2, 1) := by decide +kernel
theorem dX7_ring_56 : decode cX7_ring 56 = .ok (.invokevirtual 269, 3) := by decide +kernel
theorem dX7_ring_59 : decode cX7_ring 59 = .ok (.istore_n 3, 1) := by decide +kernel
theorem dX7_ring_60 : decode cX7_ring 60 = .ok (.iload 4, 2) := by decide +kernel
theorem dX7_ring_62 : decode cX7_ring 62 = .ok (.ifCond .eq 13, 3) := by decide +kernel
theorem dX7_ring_65 : decode cX7_ring 65 = .ok (.iload_n 3, 1) := by decide +kernel
theorem dX7_ring_66 : decode cX7_ring 66 = .ok (.iload_n 1, 1) := by decide +kernel
theorem dX7_ring_67 : decode cX7_ring 67 = .ok (.if_icmp .ne 8, 3) := by decide +kernel
theorem dX7_ring_70 : decode cX7_ring 70 = .ok (.iload 5, 2) := by decide +kernel
theorem dX7_ring_72 : decode cX7_ring 72 = .ok (.iconst 1, 1) := by decide +kernel
theorem dX7_ring_73 : decode cX7_ring 73 = .ok (.iadd, 1) := by decide +kernel
theorem dX7_ring_74 : decode cX7_ring 74 = .ok (.ireturn, 1) := by decide +kernel
theorem dX7_ring_75 : decode cX7_ring 75 = .ok (.iload 4, 2) := by decide +kernel
theorem dX7_ring_77 : decode cX7_ring 77 = .ok (.ifCond .ne 8, 3) := by decide +kernel
theorem dX7_ring_80 : decode cX7_ring 80 = .ok (.iload_n 3, 1) := by decide +kernel
theorem dX7_ring_81 : decode cX7_ring 81 = .ok (.iload_n 1, 1) := by decide +kernel
theorem dX7_ring_82 : decode cX7_ring 82 = .ok (.if_icmp .eq 7, 3) := by decide +kernel
theorem dX7_ring_85 : decode cX7_ring 85 = .ok (.iconst 1, 1) := by decide +kernel
theorem dX7_ring_86 : decode cX7_ring 86 = .ok (.goto 4, 3) := by decide +kernel
theorem dX7_ring_89 : decode cX7_ring 89 = .ok (.iconst 0, 1) := by decide +kernel
theorem dX7_ring_90 : decode cX7_ring 90 = .ok (.istore 4, 2) := by decide +kernel
theorem dX7_ring_92 : decode cX7_ring 92 = .ok (.iinc 5 1, 3) := by decide +kernel
theorem dX7_ring_95 : decode cX7_ring 95 = .ok (.goto (-52), 3) := by decide +kernel
theorem dX7_ring_98 : decode cX7_ring 98 = .ok (.iconst (-1), 1) := by decide +kernel
theorem dX7_ring_99 : decode cX7_ring 99 = .ok (.ireturn, 1) := by decide +kernel
theorem dX7_lakeWith_0 : decode cX7_lakeWith 0 = .ok (.aload_n 0, 1) := by decide +kernel
theorem dX7_lakeWith_1 : decode cX7_lakeWith 1 = .ok (.iload_n 3, 1) := by decide +kernel
theorem dX7_lakeWith_2 : decode cX7_lakeWith 2 = .ok (.iconst 1, 1) := by decide +kernel
theorem dX7_lakeWith_3 : decode cX7_lakeWith 3 = .ok (.iload_n 1, 1) := by decide +kernel
theorem dX7_lakeWith_4 : decode cX7_lakeWith 4 = .ok (.ishl, 1) := by decide +kernel
theorem dX7_lakeWith_5 : decode cX7_lakeWith 5 = .ok (.iload_n 2, 1) := by decide +kernel
theorem dX7_lakeWith_6 : decode cX7_lakeWith 6 = .ok (.invokevirtual 253, 3) := by decide +kernel
theorem dX7_lakeWith_9 : decode cX7_lakeWith 9 = .ok (.aload_n 0, 1) := by decide +kernel
theorem dX7_lakeWith_10 : decode cX7_lakeWith 10 = .ok (.getfield 7, 3) := by decide +kernel
theorem dX7_lakeWith_13 : decode cX7_lakeWith 13 = .ok (.sipush 200, 3) := by decide +kernel
theorem dX7_lakeWith_16 : decode cX7_lakeWith 16 = .ok (.iaload, 1) := by decide +kernel
theorem dX7_lakeWith_17 : decode cX7_lakeWith 17 = .ok (.ireturn, 1) := by decide +kernel
theorem dX7_drained_0 : decode cX7_drained 0 = .ok (.aload_n 0, 1) := by decide +kernel
theorem dX7_drained_1 : decode cX7_drained 1 = .ok (.iload_n 1, 1) := by decide +kernel
theorem dX7_drained_2 : decode cX7_drained 2 = .ok (.invokevirtual 192, 3) := by decide +kernel
theorem dX7_drained_5 : decode cX7_drained 5 = .ok (.ifCond .ne 6, 3) := by decide +kernel
theorem dX7_drained_8 : decode cX7_drained 8 = .ok (.ldc 185, 2) := by decide +kernel
theorem dX7_drained_10 : decode cX7_drained 10 = .ok (.ireturn, 1) := by decide +kernel
theorem dX7_drained_11 : decode cX7_drained 11 = .ok (.iload_n 2, 1) := by decide +kernel
theorem dX7_drained_12 : decode cX7_drained 12 = .ok (.i2l, 1) := by decide +kernel
theorem dX7_drained_13 : decode cX7_drained 13 = .ok (.lconst 0, 1) := by decide +kernel
theorem dX7_drained_14 : decode cX7_drained 14 = .ok (.ldc2_w 228, 3) := by decide +kernel
theorem dX7_drained_17 : decode cX7_drained 17 = .ok (.invokestatic 71, 3) := by decide +kernel
theorem dX7_drained_20 : decode cX7_drained 20 = .ok (.ifCond .eq 15, 3) := by decide +kernel
theorem dX7_drained_23 : decode cX7_drained 23 = .ok (.iload_n 3, 1) := by decide +kernel
theorem dX7_drained_24 : decode cX7_drained 24 = .ok (.i2l, 1) := by decide +kernel
theorem dX7_drained_25 : decode cX7_drained 25 = .ok (.lconst 1, 1) := by decide +kernel
theorem dX7_drained_26 : decode cX7_drained 26 = .ok (.ldc2_w 223, 3) := by decide +kernel
theorem dX7_drained_29 : decode cX7_drained 29 = .ok (.invokestatic 71, 3) := by decide +kernel
theorem dX7_drained_32 : decode cX7_drained 32 = .ok (.ifCond .ne 6, 3) := by decide +kernel
theorem dX7_drained_35 : decode cX7_drained 35 = .ok (.ldc 75, 2) := by decide +kernel
theorem dX7_drained_37 : decode cX7_drained 37 = .ok (.ireturn, 1) := by decide +kernel
theorem dX7_drained_38 : decode cX7_drained 38 = .ok (.aload_n 0, 1) := by decide +kernel
theorem dX7_drained_39 : decode cX7_drained 39 = .ok (.iload_n 3, 1) := by decide +kernel
theorem dX7_drained_40 : decode cX7_drained 40 = .ok (.iconst 0, 1) := by decide +kernel
theorem dX7_drained_41 : decode cX7_drained 41 = .ok (.iconst 0, 1) := by decide +kernel
theorem dX7_drained_42 : decode cX7_drained 42 = .ok (.invokevirtual 253, 3) := by decide +kernel
theorem dX7_drained_45 : decode cX7_drained 45 = .ok (.aload_n 0, 1) := by decide +kernel
theorem dX7_drained_46 : decode cX7_drained 46 = .ok (.getfield 7, 3) := by decide +kernel
theorem dX7_drained_49 : decode cX7_drained 49 = .ok (.sipush 200, 3) := by decide +kernel
theorem dX7_drained_52 : decode cX7_drained 52 = .ok (.iaload, 1) := by decide +kernel
theorem dX7_drained_53 : decode cX7_drained 53 = .ok (.istore 4, 2) := by decide +kernel
theorem dX7_drained_55 : decode cX7_drained 55 = .ok (.iload 4, 2) := by decide +kernel
theorem dX7_drained_57 : decode cX7_drained 57 = .ok (.aload_n 0, 1) := by decide +kernel
theorem dX7_drained_58 : decode cX7_drained 58 = .ok (.iload_n 1, 1) := by decide +kernel
theorem dX7_drained_59 : decode cX7_drained 59 = .ok (.iload_n 2, 1) := by decide +kernel
theorem dX7_drained_60 : decode cX7_drained 60 = .ok (.iload_n 3, 1) := by decide +kernel
theorem dX7_drained_61 : decode cX7_drained 61 = .ok (.invokevirtual 272, 3) := by decide +kernel
theorem dX7_drained_64 : decode cX7_drained 64 = .ok (.isub, 1) := by decide +kernel
theorem dX7_drained_65 : decode cX7_drained 65 = .ok (.ireturn, 1) := by decide +kernel
theorem dX7_nearest_0 : decode cX7_nearest 0 = .ok (.aload_n 0, 1) := by decide +kernel
theorem dX7_nearest_1 : decode cX7_nearest 1 = .ok (.iload_n 1, 1) := by decide +kernel
theorem dX7_nearest_2 : decode cX7_nearest 2 = .ok (.invokevirtual 192, 3) := by decide +kernel
theorem dX7_nearest_5 : decode cX7_nearest 5 = .ok (.ifCond .ne 6, 3) := by decide +kernel
theorem dX7_nearest_8 : decode cX7_nearest 8 = .ok (.ldc 185, 2) := by decide +kernel
theorem dX7_nearest_10 : decode cX7_nearest 10 = .ok (.ireturn, 1) := by decide +kernel
theorem dX7_nearest_11 : decode cX7_nearest 11 = .ok (.iload_n 2, 1) := by decide +kernel
theorem dX7_nearest_12 : decode cX7_nearest 12 = .ok (.i2l, 1) := by decide +kernel
theorem dX7_nearest_13 : decode cX7_nearest 13 = .ok (.lconst 0, 1) := by decide +kernel
theorem dX7_nearest_14 : decode cX7_nearest 14 = .ok (.ldc2_w 275, 3) := by decide +kernel
theorem dX7_nearest_17 : decode cX7_nearest 17 = .ok (.invokestatic 71, 3) := by decide +kernel
theorem dX7_nearest_20 : decode cX7_nearest 20 = .ok (.ifCond .eq 15, 3) := by decide +kernel
theorem dX7_nearest_23 : decode cX7_nearest 23 = .ok (.iload_n 3, 1) := by decide +kernel
theorem dX7_nearest_24 : decode cX7_nearest 24 = .ok (.i2l, 1) := by decide +kernel
theorem dX7_nearest_25 : decode cX7_nearest 25 = .ok (.lconst 1, 1) := by decide +kernel
theorem dX7_nearest_26 : decode cX7_nearest 26 = .ok (.ldc2_w 223, 3) := by decide +kernel
theorem dX7_nearest_29 : decode cX7_nearest 29 = .ok (.invokestatic 71, 3) := by decide +kernel
theorem dX7_nearest_32 : decode cX7_nearest 32 = .ok (.ifCond .ne 6, 3) := by decide +kernel
theorem dX7_nearest_35 : decode cX7_nearest 35 = .ok (.ldc 75, 2) := by decide +kernel
theorem dX7_nearest_37 : decode cX7_nearest 37 = .ok (.ireturn, 1) := by decide +kernel
theorem dX7_nearest_38 : decode cX7_nearest 38 = .ok (.iconst (-1), 1) := by decide +kernel
theorem dX7_nearest_39 : decode cX7_nearest 39 = .ok (.istore 4, 2) := by decide +kernel
theorem dX7_nearest_41 : decode cX7_nearest 41 = .ok (.iconst 0, 1) := by decide +kernel
theorem dX7_nearest_42 : decode cX7_nearest 42 = .ok (.istore 5, 2) := by decide +kernel
theorem dX7_nearest_44 : decode cX7_nearest 44 = .ok (.iconst 0, 1) := by decide +kernel
theorem dX7_nearest_45 : decode cX7_nearest 45 = .ok (.istore 6, 2) := by decide +kernel
theorem dX7_nearest_47 : decode cX7_nearest 47 = .ok (.iload 6, 2) := by decide +kernel
theorem dX7_nearest_49 : decode cX7_nearest 49 = .ok (.bipush 9, 2) := by decide +kernel
theorem dX7_nearest_51 : decode cX7_nearest 51 = .ok (.if_icmp .gt 56, 3) := by decide +kernel
theorem dX7_nearest_54 : decode cX7_nearest 54 = .ok (.aload_n 0, 1) := by decide +kernel
theorem dX7_nearest_55 : decode cX7_nearest 55 = .ok (.iload_n 1, 1) := by decide +kernel
theorem dX7_nearest_56 : decode cX7_nearest 56 = .ok (.iload 6, 2) := by decide +kernel
theorem dX7_nearest_58 : decode cX7_nearest 58 = .ok (.iload_n 3, 1) := by decide +kernel
theorem dX7_nearest_59 : decode cX7_nearest 59 = .ok (.invokevirtual 272, 3) := by decide +kernel
theorem dX7_nearest_62 : decode cX7_nearest 62 = .ok (.iload_n 2, 1) := by decide +kernel
theorem dX7_nearest_63 : decode cX7_nearest 63 = .ok (.isub, 1) := by decide +kernel
theorem dX7_nearest_64 : decode cX7_nearest 64 = .ok (.istore 7, 2) := by decide +kernel
theorem dX7_nearest_66 : decode cX7_nearest 66 = .ok (.iload 7, 2) := by decide +kernel
theorem dX7_nearest_68 : decode cX7_nearest 68 = .ok (.ifCond .ge 9, 3) := by decide +kernel
theorem dX7_nearest_71 : decode cX7_nearest 71 = .ok (.iload 7, 2) := by decide +kernel
theorem dX7_nearest_73 : decode cX7_nearest 73 = .ok (.ineg, 1) := by decide +kernel
theorem dX7_nearest_74 : decode cX7_nearest 74 = .ok (.goto 5, 3) := by decide +kernel
theorem dX7_nearest_77 : decode cX7_nearest 77 = .ok (.iload 7, 2) := by decide +kernel
theorem dX7_nearest_79 : decode cX7_nearest 79 = .ok (.istore 7, 2) := by decide +kernel
theorem dX7_nearest_81 : decode cX7_nearest 81 = .ok (.iload 4, 2) := by decide +kernel
theorem dX7_nearest_83 : decode cX7_nearest 83 = .ok (.ifCond .lt 10, 3) := by decide +kernel
theorem dX7_nearest_86 : decode cX7_nearest 86 = .ok (.iload 7, 2) := by decide +kernel
theorem dX7_nearest_88 : decode cX7_nearest 88 = .ok (.iload 5, 2) := by decide +kernel
theorem dX7_nearest_90 : decode cX7_nearest 90 = .ok (.if_icmp .ge 11, 3) := by decide +kernel
theorem dX7_nearest_93 : decode cX7_nearest 93 = .ok (.iload 6, 2) := by decide +kernel
theorem dX7_nearest_95 : decode cX7_nearest 95 = .ok (.istore 4, 2) := by decide +kernel
theorem dX7_nearest_97 : decode cX7_nearest 97 = .ok (.iload 7, 2) := by decide +kernel
theorem dX7_nearest_99 : decode cX7_nearest 99 = .ok (.istore 5, 2) := by decide +kernel
theorem dX7_nearest_101 : decode cX7_nearest 101 = .ok (.iinc 6 1, 3) := by decide +kernel
theorem dX7_nearest_104 : decode cX7_nearest 104 = .ok (.goto (-57), 3) := by decide +kernel
theorem dX7_nearest_107 : decode cX7_nearest 107 = .ok (.iload 4, 2) := by decide +kernel
theorem dX7_nearest_109 : decode cX7_nearest 109 = .ok (.ireturn, 1) := by decide +kernel
theorem dX7_logsAtSea_0 : decode cX7_logsAtSea 0 = .ok (.iconst 0, 1) := by decide +kernel
theorem dX7_logsAtSea_1 : decode cX7_logsAtSea 1 = .ok (.istore_n 2, 1) := by decide +kernel
theorem dX7_logsAtSea_2 : decode cX7_logsAtSea 2 = .ok (.iconst 0, 1) := by decide +kernel
theorem dX7_logsAtSea_3 : decode cX7_logsAtSea 3 = .ok (.istore_n 3, 1) := by decide +kernel
theorem dX7_logsAtSea_4 : decode cX7_logsAtSea 4 = .ok (.iload_n 3, 1) := by decide +kernel
theorem dX7_logsAtSea_5 : decode cX7_logsAtSea 5 = .ok (.aload_n 0, 1) := by decide +kernel
theorem dX7_logsAtSea_6 : decode cX7_logsAtSea 6 = .ok (.getfield 7, 3) := by decide +kernel
theorem dX7_logsAtSea_9 : decode cX7_logsAtSea 9 = .ok (.iload_n 1, 1) := by decide +kernel
theorem dX7_logsAtSea_10 : decode cX7_logsAtSea 10 = .ok (.bipush 51, 2) := by decide +kernel
theorem dX7_logsAtSea_12 : decode cX7_logsAtSea 12 = .ok (.iadd, 1) := by decide +kernel
theorem dX7_logsAtSea_13 : decode cX7_logsAtSea 13 = .ok (.iaload, 1) := by decide +kernel
theorem dX7_logsAtSea_14 : decode cX7_logsAtSea 14 = .ok (.if_icmp .ge 38, 3) := by decide +kernel
theorem dX7_logsAtSea_17 : decode cX7_logsAtSea 17 = .ok (.iload_n 2, 1) := by decide +kernel
theorem dX7_logsAtSea_18 : decode cX7_logsAtSea 18 = .ok (.aload_n 0, 1) := by decide +kernel
theorem dX7_logsAtSea_19 : decode cX7_logsAtSea 19 = .ok (.getfield 7, 3) := by decide +kernel
theorem dX7_logsAtSea_22 : decode cX7_logsAtSea 22 = .ok (.iload_n 1, 1) := by decide +kernel
theorem dX7_logsAtSea_23 : decode cX7_logsAtSea 23 = .ok (.bipush 60, 2) := by decide +kernel
theorem dX7_logsAtSea_25 : decode cX7_logsAtSea 25 = .ok (.iadd, 1) := by decide +kernel
theorem dX7_logsAtSea_26 : decode cX7_logsAtSea 26 = .ok (.iload_n 3, 1) := by decide +kernel
theorem dX7_logsAtSea_27 : decode cX7_logsAtSea 27 = .ok (.iadd, 1) := by decide +kernel
theorem dX7_logsAtSea_28 : decode cX7_logsAtSea 28 = .ok (.iaload, 1) := by decide +kernel
theorem dX7_logsAtSea_29 : decode cX7_logsAtSea 29 = .ok (.aload_n 0, 1) := by decide +kernel
theorem dX7_logsAtSea_30 : decode cX7_logsAtSea 30 = .ok (.invokevirtual 174, 3) := by decide +kernel
theorem dX7_logsAtSea_33 : decode cX7_logsAtSea 33 = .ok (.if_icmp .ne 7, 3) := by decide +kernel
theorem dX7_logsAtSea_36 : decode cX7_logsAtSea 36 = .ok (.iconst 1, 1) := by decide +kernel
theorem dX7_logsAtSea_37 : decode cX7_logsAtSea 37 = .ok (.goto 4, 3) := by decide +kernel
theorem dX7_logsAtSea_40 : decode cX7_logsAtSea 40 = .ok (.iconst 0, 1) := by decide +kernel
theorem dX7_logsAtSea_41 : decode cX7_logsAtSea 41 = .ok (.invokestatic 125, 3) := by decide +kernel
theorem dX7_logsAtSea_44 : decode cX7_logsAtSea 44 = .ok (.iadd, 1) := by decide +kernel
theorem dX7_logsAtSea_45 : decode cX7_logsAtSea 45 = .ok (.istore_n 2, 1) := by decide +kernel
theorem dX7_logsAtSea_46 : decode cX7_logsAtSea 46 = .ok (.iinc 3 1, 3) := by decide +kernel
theorem dX7_logsAtSea_49 : decode cX7_logsAtSea 49 = .ok (.goto (-45), 3) := by decide +kernel
theorem dX7_logsAtSea_52 : decode cX7_logsAtSea 52 = .ok (.iload_n 2, 1) := by decide +kernel
theorem dX7_logsAtSea_53 : decode cX7_logsAtSea 53 = .ok (.ireturn, 1) := by decide +kernel
theorem dX7_stops_0 : decode cX7_stops 0 = .ok (.aload_n 0, 1) := by decide +kernel
theorem dX7_stops_1 : decode cX7_stops 1 = .ok (.iload_n 1, 1) := by decide +kernel
theorem dX7_stops_2 : decode cX7_stops 2 = .ok (.putfield 195, 3) := by decide +kernel
theorem dX7_stops_5 : decode cX7_stops 5 = .ok (.aload_n 0, 1) := by decide +kernel
theorem dX7_stops_6 : decode cX7_stops 6 = .ok (.iconst 0, 1) := by decide +kernel
theorem dX7_stops_7 : decode cX7_stops 7 = .ok (.putfield 198, 3) := by decide +kernel
theorem dX7_stops_10 : decode cX7_stops 10 = .ok (.aload_n 0, 1) := by decide +kernel
theorem dX7_stops_11 : decode cX7_stops 11 = .ok (.iconst 0, 1) := by decide +kernel
theorem dX7_stops_12 : decode cX7_stops 12 = .ok (.sipush 200, 3) := by decide +kernel
theorem dX7_stops_15 : decode cX7_stops 15 = .ok (.invokevirtual 248, 3) := by decide +kernel
theorem dX7_stops_18 : decode cX7_stops 18 = .ok (.iconst 1, 1) := by decide +kernel
theorem dX7_stops_19 : decode cX7_stops 19 = .ok (.istore_n 3, 1) := by decide +kernel
theorem dX7_stops_20 : decode cX7_stops 20 = .ok (.iconst 0, 1) := by decide +kernel
theorem dX7_stops_21 : decode cX7_stops 21 = .ok (.istore 4, 2) := by decide +kernel
theorem dX7_stops_23 : decode cX7_stops 23 = .ok (.iload 4, 2) := by decide +kernel
theorem dX7_stops_25 : decode cX7_stops 25 = .ok (.iload_n 2, 1) := by decide +kernel
theorem dX7_stops_26 : decode cX7_stops 26 = .ok (.if_icmp .ge 36, 3) := by decide +kernel
theorem dX7_stops_29 : decode cX7_stops 29 = .ok (.iload_n 3, 1) := by decide +kernel
theorem dX7_stops_30 : decode cX7_stops 30 = .ok (.ifCond .eq 32, 3) := by decide +kernel
theorem dX7_stops_33 : decode cX7_stops 33 = .ok (.aload_n 0, 1) := by decide +kernel
theorem dX7_stops_34 : decode cX7_stops 34 = .ok (.sipush 200, 3) := by decide +kernel
theorem dX7_stops_37 : decode cX7_stops 37 = .ok (.invokevirtual 225, 3) := by decide +kernel
theorem dX7_stops_40 : decode cX7_stops 40 = .ok (.aload_n 0, 1) := by decide +kernel
theorem dX7_stops_41 : decode cX7_stops 41 = .ok (.sipush 200, 3) := by decide +kernel
theorem dX7_stops_44 : decode cX7_stops 44 = .ok (.invokevirtual 277, 3) := by decide +kernel
theorem dX7_stops_47 : decode cX7_stops 47 = .ok (.ifCond .ne 7, 3) := by decide +kernel
theorem dX7_stops_50 : decode cX7_stops 50 = .ok (.iconst 1, 1) := by decide +kernel
theorem dX7_stops_51 : decode cX7_stops 51 = .ok (.goto 4, 3) := by decide +kernel
theorem dX7_stops_54 : decode cX7_stops 54 = .ok (.iconst 0, 1) := by decide +kernel
theorem dX7_stops_55 : decode cX7_stops 55 = .ok (.istore_n 3, 1) := by decide +kernel
theorem dX7_stops_56 : decode cX7_stops 56 = .ok (.iinc 4 1, 3) := by decide +kernel
theorem dX7_stops_59 : decode cX7_stops 59 = .ok (.goto (-36), 3) := by decide +kernel
theorem dX7_stops_62 : decode cX7_stops 62 = .ok (.aload_n 0, 1) := by decide +kernel
theorem dX7_stops_63 : decode cX7_stops 63 = .ok (.iconst 0, 1) := by decide +kernel
theorem dX7_stops_64 : decode cX7_stops 64 = .ok (.putfield 195, 3) := by decide +kernel
theorem dX7_stops_67 : decode cX7_stops 67 = .ok (.iload_n 3, 1) := by decide +kernel
theorem dX7_stops_68 : decode cX7_stops 68 = .ok (.ireturn, 1) := by decide +kernel
theorem dX7_stopped_0 : decode cX7_stopped 0 = .ok (.iload_n 1, 1) := by decide +kernel
theorem dX7_stopped_1 : decode cX7_stopped 1 = .ok (.i2l, 1) := by decide +kernel
theorem dX7_stopped_2 : decode cX7_stopped 2 = .ok (.lconst 1, 1) := by decide +kernel
theorem dX7_stopped_3 : decode cX7_stopped 3 = .ok (.ldc2_w 239, 3) := by decide +kernel
theorem dX7_stopped_6 : decode cX7_stopped 6 = .ok (.invokestatic 71, 3) := by decide +kernel
theorem dX7_stopped_9 : decode cX7_stopped 9 = .ok (.ifCond .ne 6, 3) := by decide +kernel
theorem dX7_stopped_12 : decode cX7_stopped 12 = .ok (.ldc 75, 2) := by decide +kernel
theorem dX7_stopped_14 : decode cX7_stopped 14 = .ok (.ireturn, 1) := by decide +kernel
theorem dX7_stopped_15 : decode cX7_stopped 15 = .ok (.aload_n 0, 1) := by decide +kernel
theorem dX7_stopped_16 : decode cX7_stopped 16 = .ok (.getfield 161, 3) := by decide +kernel
theorem dX7_stopped_19 : decode cX7_stopped 19 = .ok (.ifCond .ne 6, 3) := by decide +kernel
theorem dX7_stopped_22 : decode cX7_stopped 22 = .ok (.ldc 170, 2) := by decide +kernel
theorem dX7_stopped_24 : decode cX7_stopped 24 = .ok (.ireturn, 1) := by decide +kernel
theorem dX7_stopped_25 : decode cX7_stopped 25 = .ok (.aload_n 0, 1) := by decide +kernel
theorem dX7_stopped_26 : decode cX7_stopped 26 = .ok (.iconst 0, 1) := by decide +kernel
theorem dX7_stopped_27 : decode cX7_stopped 27 = .ok (.invokevirtual 277, 3) := by decide +kernel
theorem dX7_stopped_30 : decode cX7_stopped 30 = .ok (.ifCond .le 5, 3) := by decide +kernel
theorem dX7_stopped_33 : decode cX7_stopped 33 = .ok (.iconst (-1), 1) := by decide +kernel
theorem dX7_stopped_34 : decode cX7_stopped 34 = .ok (.ireturn, 1) := by decide +kernel
theorem dX7_stopped_35 : decode cX7_stopped 35 = .ok (.iconst (-1), 1) := by decide +kernel
theorem dX7_stopped_36 : decode cX7_stopped 36 = .ok (.istore_n 2, 1) := by decide +kernel
theorem dX7_stopped_37 : decode cX7_stopped 37 = .ok (.iconst 0, 1) := by decide +kernel
theorem dX7_stopped_38 : decode cX7_stopped 38 = .ok (.istore_n 3, 1) := by decide +kernel
theorem dX7_stopped_39 : decode cX7_stopped 39 = .ok (.iload_n 3, 1) := by decide +kernel
theorem dX7_stopped_40 : decode cX7_stopped 40 = .ok (.iconst 1, 1) := by decide +kernel
theorem dX7_stopped_41 : decode cX7_stopped 41 = .ok (.aload_n 0, 1) := by decide +kernel
theorem dX7_stopped_42 : decode cX7_stopped 42 = .ok (.getfield 161, 3) := by decide +kernel
theorem dX7_stopped_45 : decode cX7_stopped 45 = .ok (.iconst 1, 1) := by decide +kernel
theorem dX7_stopped_46 : decode cX7_stopped 46 = .ok (.isub, 1) := by decide +kernel
theorem dX7_stopped_47 : decode cX7_stopped 47 = .ok (.ishl, 1) := by decide +kernel
theorem dX7_stopped_48 : decode cX7_stopped 48 = .ok (.if_icmp .ge 39, 3) := by decide +kernel
theorem dX7_stopped_51 : decode cX7_stopped 51 = .ok (.iload_n 2, 1) := by decide +kernel
theorem dX7_stopped_52 : decode cX7_stopped 52 = .ok (.ifCond .lt 14, 3) := by decide +kernel
theorem dX7_stopped_55 : decode cX7_stopped 55 = .ok (.iload_n 3, 1) := by decide +kernel
theorem dX7_stopped_56 : decode cX7_stopped 56 = .ok (.invokestatic 280, 3) := by decide +kernel
theorem dX7_stopped_59 : decode cX7_stopped 59 = .ok (.iload_n 2, 1) := by decide +kernel
theorem dX7_stopped_60 : decode cX7_stopped 60 = .ok (.invokestatic 280, 3) := by decide +kernel
theorem dX7_stopped_63 : decode cX7_stopped 63 = .ok (.if_icmp .ge 16, 3) := by decide +kernel
theorem dX7_stopped_66 : decode cX7_stopped 66 = .ok (.aload_n 0, 1) := by decide +kernel
theorem dX7_stopped_67 : decode cX7_stopped 67 = .ok (.iload_n 3, 1) := by decide +kernel
theorem dX7_stopped_68 : decode cX7_stopped 68 = .ok (.iload_n 1, 1) := by decide +kernel
theorem dX7_stopped_69 : decode cX7_stopped 69 = .ok (.invokevirtual 283, 3) := by decide +kernel
theorem dX7_stopped_72 : decode cX7_stopped 72 = .ok (.ifCond .eq 7, 3) := by decide +kernel
theorem dX7_stopped_75 : decode cX7_stopped 75 = .ok (.iload_n 3, 1) := by decide +kernel
theorem dX7_stopped_76 : decode cX7_stopped 76 = .ok (.goto 4, 3) := by decide +kernel
theorem dX7_stopped_79 : decode cX7_stopped 79 = .ok (.iload_n 2, 1) := by decide +kernel
theorem dX7_stopped_80 : decode cX7_stopped 80 = .ok (.istore_n 2, 1) := by decide +kernel
theorem dX7_stopped_81 : decode cX7_stopped 81 = .ok (.iinc 3 1, 3) := by decide +kernel
theorem dX7_stopped_84 : decode cX7_stopped 84 = .ok (.goto (-45), 3) := by decide +kernel
theorem dX7_stopped_87 : decode cX7_stopped 87 = .ok (.iload_n 2, 1) := by decide +kernel
theorem dX7_stopped_88 : decode cX7_stopped 88 = .ok (.ireturn, 1) := by decide +kernel
theorem dX7_write_0 : decode cX7_write 0 = .ok (.iload_n 1, 1) := by decide +kernel
theorem dX7_write_1 : decode cX7_write 1 = .ok (.i2l, 1) := by decide +kernel
theorem dX7_write_2 : decode cX7_write 2 = .ok (.lconst 0, 1) := by decide +kernel
theorem dX7_write_3 : decode cX7_write 3 = .ok (.ldc2_w 275, 3) := by decide +kernel
theorem dX7_write_6 : decode cX7_write 6 = .ok (.invokestatic 71, 3) := by decide +kernel
theorem dX7_write_9 : decode cX7_write 9 = .ok (.ifCond .ne 6, 3) := by decide +kernel
theorem dX7_write_12 : decode cX7_write 12 = .ok (.ldc 75, 2) := by decide +kernel
theorem dX7_write_14 : decode cX7_write 14 = .ok (.ireturn, 1) := by decide +kernel
theorem dX7_write_15 : decode cX7_write 15 = .ok (.aload_n 0, 1) := by decide +kernel
theorem dX7_write_16 : decode cX7_write 16 = .ok (.getfield 167, 3) := by decide +kernel
theorem dX7_write_19 : decode cX7_write 19 = .ok (.bipush 60, 2) := by decide +kernel
theorem dX7_write_21 : decode cX7_write 21 = .ok (.if_icmp .ne 6, 3) := by decide +kernel
theorem dX7_write_24 : decode cX7_write 24 = .ok (.ldc 79, 2) := by decide +kernel
theorem dX7_write_26 : decode cX7_write 26 = .ok (.ireturn, 1) := by decide +kernel
theorem dX7_write_27 : decode cX7_write 27 = .ok (.aload_n 0, 1) := by decide +kernel
theorem dX7_write_28 : decode cX7_write 28 = .ok (.getfield 66, 3) := by decide +kernel
theorem dX7_write_31 : decode cX7_write 31 = .ok (.aload_n 0, 1) := by decide +kernel
theorem dX7_write_32 : decode cX7_write 32 = .ok (.getfield 167, 3) := by decide +kernel
theorem dX7_write_35 : decode cX7_write 35 = .ok (.iload_n 1, 1) := by decide +kernel
theorem dX7_write_36 : decode cX7_write 36 = .ok (.iastore, 1) := by decide +kernel
theorem dX7_write_37 : decode cX7_write 37 = .ok (.aload_n 0, 1) := by decide +kernel
theorem dX7_write_38 : decode cX7_write 38 = .ok (.dup, 1) := by decide +kernel
theorem dX7_write_39 : decode cX7_write 39 = .ok (.getfield 167, 3) := by decide +kernel
theorem dX7_write_42 : decode cX7_write 42 = .ok (.iconst 1, 1) := by decide +kernel
theorem dX7_write_43 : decode cX7_write 43 = .ok (.iadd, 1) := by decide +kernel
theorem dX7_write_44 : decode cX7_write 44 = .ok (.putfield 167, 3) := by decide +kernel
theorem dX7_write_47 : decode cX7_write 47 = .ok (.aload_n 0, 1) := by decide +kernel
theorem dX7_write_48 : decode cX7_write 48 = .ok (.getfield 167, 3) := by decide +kernel
theorem dX7_write_51 : decode cX7_write 51 = .ok (.ireturn, 1) := by decide +kernel
theorem dX7_tear_0 : decode cX7_tear 0 = .ok (.aload_n 0, 1) := by decide +kernel
theorem dX7_tear_1 : decode cX7_tear 1 = .ok (.getfield 167, 3) := by decide +kernel
theorem dX7_tear_4 : decode cX7_tear 4 = .ok (.istore_n 1, 1) := by decide +kernel
theorem dX7_tear_5 : decode cX7_tear 5 = .ok (.aload_n 0, 1) := by decide +kernel
theorem dX7_tear_6 : decode cX7_tear 6 = .ok (.iconst 0, 1) := by decide +kernel
theorem dX7_tear_7 : decode cX7_tear 7 = .ok (.putfield 167, 3) := by decide +kernel
theorem dX7_tear_10 : decode cX7_tear 10 = .ok (.iload_n 1, 1) := by decide +kernel
theorem dX7_tear_11 : decode cX7_tear 11 = .ok (.ireturn, 1) := by decide +kernel
theorem dX7_judge_0 : decode cX7_judge 0 = .ok (.iload_n 1, 1) := by decide +kernel
theorem dX7_judge_1 : decode cX7_judge 1 = .ok (.i2l, 1) := by decide +kernel
theorem dX7_judge_2 : decode cX7_judge 2 = .ok (.lconst 0, 1) := by decide +kernel
theorem dX7_judge_3 : decode cX7_judge 3 = .ok (.ldc2_w 230, 3) := by decide +kernel
theorem dX7_judge_6 : decode cX7_judge 6 = .ok (.invokestatic 71, 3) := by decide +kernel
theorem dX7_judge_9 : decode cX7_judge 9 = .ok (.ifCond .ne 6, 3) := by decide +kernel
theorem dX7_judge_12 : decode cX7_judge 12 = .ok (.ldc 75, 2) := by decide +kernel
theorem dX7_judge_14 : decode cX7_judge 14 = .ok (.ireturn, 1) := by decide +kernel
theorem dX7_judge_15 : decode cX7_judge 15 = .ok (.aload_n 0, 1) := by decide +kernel
theorem dX7_judge_16 : decode cX7_judge 16 = .ok (.getfield 161, 3) := by decide +kernel
theorem dX7_judge_19 : decode cX7_judge 19 = .ok (.ifCond .ne 6, 3) := by decide +kernel
theorem dX7_judge_22 : decode cX7_judge 22 = .ok (.ldc 170, 2) := by decide +kernel
theorem dX7_judge_24 : decode cX7_judge 24 = .ok (.ireturn, 1) := by decide +kernel
theorem dX7_judge_25 : decode cX7_judge 25 = .ok (.aload_n 0, 1) := by decide +kernel
theorem dX7_judge_26 : decode cX7_judge 26 = .ok (.iconst 0, 1) := by decide +kernel
theorem dX7_judge_27 : decode cX7_judge 27 = .ok (.putfield 195, 3) := by decide +kernel
theorem dX7_judge_30 : decode cX7_judge 30 = .ok (.aload_n 0, 1) := by decide +kernel
theorem dX7_judge_31 : decode cX7_judge 31 = .ok (.iconst 0, 1) := by decide +kernel
theorem dX7_judge_32 : decode cX7_judge 32 = .ok (.sipush 200, 3) := by decide +kernel
theorem dX7_judge_35 : decode cX7_judge 35 = .ok (.invokevirtual 248, 3) := by decide +kernel
theorem dX7_judge_38 : decode cX7_judge 38 = .ok (.iconst 0, 1) := by decide +kernel
theorem dX7_judge_39 : decode cX7_judge 39 = .ok (.istore_n 2, 1) := by decide +kernel
theorem dX7_judge_40 : decode cX7_judge 40 = .ok (.iload_n 2, 1) := by decide +kernel
theorem dX7_judge_41 : decode cX7_judge 41 = .ok (.aload_n 0, 1) := by decide +kernel
theorem dX7_judge_42 : decode cX7_judge 42 = .ok (.getfield 167, 3) := by decide +kernel
theorem dX7_judge_45 : decode cX7_judge 45 = .ok (.if_icmp .ge 45, 3) := by decide +kernel
theorem dX7_judge_48 : decode cX7_judge 48 = .ok (.aload_n 0, 1) := by decide +kernel
theorem dX7_judge_49 : decode cX7_judge 49 = .ok (.getfield 7, 3) := by decide +kernel
theorem dX7_judge_52 : decode cX7_judge 52 = .ok (.sipush 200, 3) := by decide +kernel
theorem dX7_judge_55 : decode cX7_judge 55 = .ok (.iaload, 1) := by decide +kernel
theorem dX7_judge_56 : decode cX7_judge 56 = .ok (.aload_n 0, 1) := by decide +kernel
theorem dX7_judge_57 : decode cX7_judge 57 = .ok (.getfield 66, 3) := by decide +kernel
theorem dX7_judge_60 : decode cX7_judge 60 = .ok (.iload_n 2, 1) := by decide +kernel
theorem dX7_judge_61 : decode cX7_judge 61 = .ok (.iaload, 1) := by decide +kernel
theorem dX7_judge_62 : decode cX7_judge 62 = .ok (.isub, 1) := by decide +kernel
theorem dX7_judge_63 : decode cX7_judge 63 = .ok (.istore_n 3, 1) := by decide +kernel
theorem dX7_judge_64 : decode cX7_judge 64 = .ok (.iload_n 3, 1) := by decide +kernel
theorem dX7_judge_65 : decode cX7_judge 65 = .ok (.iload_n 1, 1) := by decide +kernel
theorem dX7_judge_66 : decode cX7_judge 66 = .ok (.if_icmp .gt 9, 3) := by decide +kernel
theorem dX7_judge_69 : decode cX7_judge 69 = .ok (.iload_n 3, 1) := by decide +kernel
theorem dX7_judge_70 : decode cX7_judge 70 = .ok (.ineg, 1) := by decide +kernel
theorem dX7_judge_71 : decode cX7_judge 71 = .ok (.iload_n 1, 1) := by decide +kernel
theorem dX7_judge_72 : decode cX7_judge 72 = .ok (.if_icmp .le 5, 3) := by decide +kernel
theorem dX7_judge_75 : decode cX7_judge 75 = .ok (.iload_n 2, 1) := by decide +kernel
theorem dX7_judge_76 : decode cX7_judge 76 = .ok (.ireturn, 1) := by decide +kernel
theorem dX7_judge_77 : decode cX7_judge 77 = .ok (.aload_n 0, 1) := by decide +kernel
theorem dX7_judge_78 : decode cX7_judge 78 = .ok (.sipush 200, 3) := by decide +kernel
theorem dX7_judge_81 : decode cX7_judge 81 = .ok (.invokevirtual 225, 3) := by decide +kernel
theorem dX7_judge_84 : decode cX7_judge 84 = .ok (.iinc 2 1, 3) := by decide +kernel
theorem dX7_judge_87 : decode cX7_judge 87 = .ok (.goto (-47), 3) := by decide +kernel
theorem dX7_judge_90 : decode cX7_judge 90 = .ok (.iconst (-1), 1) := by decide +kernel
theorem dX7_judge_91 : decode cX7_judge 91 = .ok (.ireturn, 1) := by decide +kernel
theorem dX7_seed_0 : decode cX7_seed 0 = .ok (.iload_n 1, 1) := by decide +kernel
theorem dX7_seed_1 : decode cX7_seed 1 = .ok (.ifCond .ge 6, 3) := by decide +kernel
theorem dX7_seed_4 : decode cX7_seed 4 = .ok (.ldc 75, 2) := by decide +kernel
theorem dX7_seed_6 : decode cX7_seed 6 = .ok (.ireturn, 1) := by decide +kernel
theorem dX7_seed_7 : decode cX7_seed 7 = .ok (.aload_n 0, 1) := by decide +kernel
theorem dX7_seed_8 : decode cX7_seed 8 = .ok (.getfield 7, 3) := by decide +kernel
theorem dX7_seed_11 : decode cX7_seed 11 = .ok (.bipush 52, 2) := by decide +kernel
theorem dX7_seed_13 : decode cX7_seed 13 = .ok (.iaload, 1) := by decide +kernel
theorem dX7_seed_14 : decode cX7_seed 14 = .ok (.istore_n 2, 1) := by decide +kernel
theorem dX7_seed_15 : decode cX7_seed 15 = .ok (.aload_n 0, 1) := by decide +kernel
theorem dX7_seed_16 : decode cX7_seed 16 = .ok (.getfield 7, 3) := by decide +kernel
theorem dX7_seed_19 : decode cX7_seed 19 = .ok (.bipush 52, 2) := by decide +kernel
theorem dX7_seed_21 : decode cX7_seed 21 = .ok (.iload_n 1, 1) := by decide +kernel
theorem dX7_seed_22 : decode cX7_seed 22 = .ok (.iastore, 1) := by decide +kernel
theorem dX7_seed_23 : decode cX7_seed 23 = .ok (.iload_n 2, 1) := by decide +kernel
theorem dX7_seed_24 : decode cX7_seed 24 = .ok (.ireturn, 1) := by decide +kernel
theorem dX7_keep_0 : decode cX7_keep 0 = .ok (.iload_n 1, 1) := by decide +kernel
theorem dX7_keep_1 : decode cX7_keep 1 = .ok (.i2l, 1) := by decide +kernel
theorem dX7_keep_2 : decode cX7_keep 2 = .ok (.lconst 0, 1) := by decide +kernel
theorem dX7_keep_3 : decode cX7_keep 3 = .ok (.lconst 1, 1) := by decide +kernel
theorem dX7_keep_4 : decode cX7_keep 4 = .ok (.invokestatic 71, 3) := by decide +kernel
theorem dX7_keep_7 : decode cX7_keep 7 = .ok (.ifCond .ne 6, 3) := by decide +kernel
theorem dX7_keep_10 : decode cX7_keep 10 = .ok (.ldc 185, 2) := by decide +kernel
theorem dX7_keep_12 : decode cX7_keep 12 = .ok (.ireturn, 1) := by decide +kernel
theorem dX7_keep_13 : decode cX7_keep 13 = .ok (.aload_n 0, 1) := by decide +kernel
theorem dX7_keep_14 : decode cX7_keep 14 = .ok (.iconst 0, 1) := by decide +kernel
theorem dX7_keep_15 : decode cX7_keep 15 = .ok (.sipush 400, 3) := by decide +kernel
theorem dX7_keep_18 : decode cX7_keep 18 = .ok (.sipush 200, 3) := by decide +kernel
theorem dX7_keep_21 : decode cX7_keep 21 = .ok (.iload_n 1, 1) := by decide +kernel
theorem dX7_keep_22 : decode cX7_keep 22 = .ok (.imul, 1) := by decide +kernel
theorem dX7_keep_23 : decode cX7_keep 23 = .ok (.iadd, 1) := by decide +kernel
theorem dX7_keep_24 : decode cX7_keep 24 = .ok (.invokevirtual 248, 3) := by decide +kernel
theorem dX7_keep_27 : decode cX7_keep 27 = .ok (.aload_n 0, 1) := by decide +kernel
theorem dX7_keep_28 : decode cX7_keep 28 = .ok (.getfield 13, 3) := by decide +kernel
theorem dX7_keep_31 : decode cX7_keep 31 = .ok (.iload_n 1, 1) := by decide +kernel
theorem dX7_keep_32 : decode cX7_keep 32 = .ok (.iconst 1, 1) := by decide +kernel
theorem dX7_keep_33 : decode cX7_keep 33 = .ok (.bastore, 1) := by decide +kernel
theorem dX7_keep_34 : decode cX7_keep 34 = .ok (.iconst 1, 1) := by decide +kernel
theorem dX7_keep_35 : decode cX7_keep 35 = .ok (.ireturn, 1) := by decide +kernel
theorem dX7_goBack_0 : decode cX7_goBack 0 = .ok (.iload_n 1, 1) := by decide +kernel
theorem dX7_goBack_1 : decode cX7_goBack 1 = .ok (.i2l, 1) := by decide +kernel
theorem dX7_goBack_2 : decode cX7_goBack 2 = .ok (.lconst 0, 1) := by decide +kernel
theorem dX7_goBack_3 : decode cX7_goBack 3 = .ok (.lconst 1, 1) := by decide +kernel
theorem dX7_goBack_4 : decode cX7_goBack 4 = .ok (.invokestatic 71, 3) := by decide +kernel
theorem dX7_goBack_7 : decode cX7_goBack 7 = .ok (.ifCond .ne 6, 3) := by decide +kernel
theorem dX7_goBack_10 : decode cX7_goBack 10 = .ok (.ldc 185, 2) := by decide +kernel
theorem dX7_goBack_12 : decode cX7_goBack 12 = .ok (.ireturn, 1) := by decide +kernel
theorem dX7_goBack_13 : decode cX7_goBack 13 = .ok (.aload_n 0, 1) := by decide +kernel
theorem dX7_goBack_14 : decode cX7_goBack 14 = .ok (.getfield 13, 3) := by decide +kernel
theorem dX7_goBack_17 : decode cX7_goBack 17 = .ok (.iload_n 1, 1) := by decide +kernel
theorem dX7_goBack_18 : decode cX7_goBack 18 = .ok (.baload, 1) := by decide +kernel
theorem dX7_goBack_19 : decode cX7_goBack 19 = .ok (.ifCond .ne 6, 3) := by decide +kernel
theorem dX7_goBack_22 : decode cX7_goBack 22 = .ok (.ldc 170, 2) := by decide +kernel
theorem dX7_goBack_24 : decode cX7_goBack 24 = .ok (.ireturn, 1) := by decide +kernel
theorem dX7_goBack_25 : decode cX7_goBack 25 = .ok (.aload_n 0, 1) := by decide +kernel
theorem dX7_goBack_26 : decode cX7_goBack 26 = .ok (.sipush 400, 3) := by decide +kernel
theorem dX7_goBack_29 : decode cX7_goBack 29 = .ok (.sipush 200, 3) := by decide +kernel
theorem dX7_goBack_32 : decode cX7_goBack 32 = .ok (.iload_n 1, 1) := by decide +kernel
theorem dX7_goBack_33 : decode cX7_goBack 33 = .ok (.imul, 1) := by decide +kernel
theorem dX7_goBack_34 : decode cX7_goBack 34 = .ok (.iadd, 1) := by decide +kernel
theorem dX7_goBack_35 : decode cX7_goBack 35 = .ok (.iconst 0, 1) := by decide +kernel
theorem dX7_goBack_36 : decode cX7_goBack 36 = .ok (.invokevirtual 248, 3) := by decide +kernel
theorem dX7_goBack_39 : decode cX7_goBack 39 = .ok (.iconst 1, 1) := by decide +kernel
theorem dX7_goBack_40 : decode cX7_goBack 40 = .ok (.ireturn, 1) := by decide +kernel
