theorem dX6_init_0 : decode cX6_init 0 = .ok (.aload_n 0, 1) := by decide +kernel
theorem dX6_init_1 : decode cX6_init 1 = .ok (.invokespecial 1, 3) := by decide +kernel
theorem dX6_init_4 : decode cX6_init 4 = .ok (.aload_n 0, 1) := by decide +kernel
theorem dX6_init_5 : decode cX6_init 5 = .ok (.new 7, 3) := by decide +kernel
theorem dX6_init_8 : decode cX6_init 8 = .ok (.dup, 1) := by decide +kernel
theorem dX6_init_9 : decode cX6_init 9 = .ok (.invokespecial 9, 3) := by decide +kernel
theorem dX6_init_12 : decode cX6_init 12 = .ok (.putfield 10, 3) := by decide +kernel
theorem dX6_init_15 : decode cX6_init 15 = .ok (.aload_n 0, 1) := by decide +kernel
theorem dX6_init_16 : decode cX6_init 16 = .ok (.new 16, 3) := by decide +kernel
theorem dX6_init_19 : decode cX6_init 19 = .ok (.dup, 1) := by decide +kernel
theorem dX6_init_20 : decode cX6_init 20 = .ok (.invokespecial 18, 3) := by decide +kernel
theorem dX6_init_23 : decode cX6_init 23 = .ok (.putfield 19, 3) := by decide +kernel
theorem dX6_init_26 : decode cX6_init 26 = .ok (.aload_n 0, 1) := by decide +kernel
theorem dX6_init_27 : decode cX6_init 27 = .ok (.new 16, 3) := by decide +kernel
theorem dX6_init_30 : decode cX6_init 30 = .ok (.dup, 1) := by decide +kernel
theorem dX6_init_31 : decode cX6_init 31 = .ok (.invokespecial 18, 3) := by decide +kernel
theorem dX6_init_34 : decode cX6_init 34 = .ok (.putfield 23, 3) := by decide +kernel
theorem dX6_init_37 : decode cX6_init 37 = .ok (.aload_n 0, 1) := by decide +kernel
theorem dX6_init_38 : decode cX6_init 38 = .ok (.new 26, 3) := by decide +kernel
theorem dX6_init_41 : decode cX6_init 41 = .ok (.dup, 1) := by decide +kernel
theorem dX6_init_42 : decode cX6_init 42 = .ok (.invokespecial 28, 3) := by decide +kernel
theorem dX6_init_45 : decode cX6_init 45 = .ok (.putfield 29, 3) := by decide +kernel
theorem dX6_init_48 : decode cX6_init 48 = .ok (.aload_n 0, 1) := by decide +kernel
theorem dX6_init_49 : decode cX6_init 49 = .ok (.new 26, 3) := by decide +kernel
theorem dX6_init_52 : decode cX6_init 52 = .ok (.dup, 1) := by decide +kernel
theorem dX6_init_53 : decode cX6_init 53 = .ok (.invokespecial 28, 3) := by decide +kernel
theorem dX6_init_56 : decode cX6_init 56 = .ok (.putfield 33, 3) := by decide +kernel
theorem dX6_init_59 : decode cX6_init 59 = .ok (.aload_n 0, 1) := by decide +kernel
theorem dX6_init_60 : decode cX6_init 60 = .ok (.new 36, 3) := by decide +kernel
theorem dX6_init_63 : decode cX6_init 63 = .ok (.dup, 1) := by decide +kernel
theorem dX6_init_64 : decode cX6_init 64 = .ok (.invokespecial 38, 3) := by decide +kernel
theorem dX6_init_67 : decode cX6_init 67 = .ok (.putfield 39, 3) := by decide +kernel
theorem dX6_init_70 : decode cX6_init 70 = .ok (.aload_n 0, 1) := by decide +kernel
theorem dX6_init_71 : decode cX6_init 71 = .ok (.new 36, 3) := by decide +kernel
theorem dX6_init_74 : decode cX6_init 74 = .ok (.dup, 1) := by decide +kernel
theorem dX6_init_75 : decode cX6_init 75 = .ok (.invokespecial 38, 3) := by decide +kernel
theorem dX6_init_78 : decode cX6_init 78 = .ok (.putfield 43, 3) := by decide +kernel
theorem dX6_init_81 : decode cX6_init 81 = .ok (.aload_n 0, 1) := by decide +kernel
theorem dX6_init_82 : decode cX6_init 82 = .ok (.iconst 2, 1) := by decide +kernel
theorem dX6_init_83 : decode cX6_init 83 = .ok (.anewarray 36, 3) := by decide +kernel
theorem dX6_init_86 : decode cX6_init 86 = .ok (.putfield 46, 3) := by decide +kernel
theorem dX6_init_89 : decode cX6_init 89 = .ok (.aload_n 0, 1) := by decide +kernel
theorem dX6_init_90 : decode cX6_init 90 = .ok (.iconst 2, 1) := by decide +kernel
theorem dX6_init_91 : decode cX6_init 91 = .ok (.newarray .boolean, 2) := by decide +kernel
theorem dX6_init_93 : decode cX6_init 93 = .ok (.putfield 50, 3) := by decide +kernel
theorem dX6_init_96 : decode cX6_init 96 = .ok (.aload_n 0, 1) := by decide +kernel
theorem dX6_init_97 : decode cX6_init 97 = .ok (.new 54, 3) := by decide +kernel
theorem dX6_init_100 : decode cX6_init 100 = .ok (.dup, 1) := by decide +kernel
theorem dX6_init_101 : decode cX6_init 101 = .ok (.invokespecial 56, 3) := by decide +kernel
theorem dX6_init_104 : decode cX6_init 104 = .ok (.putfield 57, 3) := by decide +kernel
theorem dX6_init_107 : decode cX6_init 107 = .ok (.aload_n 0, 1) := by decide +kernel
theorem dX6_init_108 : decode cX6_init 108 = .ok (.bipush 10, 2) := by decide +kernel
theorem dX6_init_110 : decode cX6_init 110 = .ok (.newarray .int, 2) := by decide +kernel
theorem dX6_init_112 : decode cX6_init 112 = .ok (.putfield 61, 3) := by decide +kernel
theorem dX6_init_115 : decode cX6_init 115 = .ok (.aload_n 0, 1) := by decide +kernel
theorem dX6_init_116 : decode cX6_init 116 = .ok (.bipush 60, 2) := by decide +kernel
theorem dX6_init_118 : decode cX6_init 118 = .ok (.newarray .int, 2) := by decide +kernel
theorem dX6_init_120 : decode cX6_init 120 = .ok (.putfield 65, 3) := by decide +kernel
theorem dX6_init_123 : decode cX6_init 123 = .ok (.aload_n 0, 1) := by decide +kernel
theorem dX6_init_124 : decode cX6_init 124 = .ok (.iconst (-1), 1) := by decide +kernel
theorem dX6_init_125 : decode cX6_init 125 = .ok (.putfield 68, 3) := by decide +kernel
theorem dX6_init_128 : decode cX6_init 128 = .ok (.iconst 0, 1) := by decide +kernel
theorem dX6_init_129 : decode cX6_init 129 = .ok (.istore_n 1, 1) := by decide +kernel
theorem dX6_init_130 : decode cX6_init 130 = .ok (.iload_n 1, 1) := by decide +kernel
theorem dX6_init_131 : decode cX6_init 131 = .ok (.iconst 2, 1) := by decide +kernel
theorem dX6_init_132 : decode cX6_init 132 = .ok (.if_icmp .ge 22, 3) := by decide +kernel
theorem dX6_init_135 : decode cX6_init 135 = .ok (.aload_n 0, 1) := by decide +kernel
theorem dX6_init_136 : decode cX6_init 136 = .ok (.getfield 46, 3) := by decide +kernel
theorem dX6_init_139 : decode cX6_init 139 = .ok (.iload_n 1, 1) := by decide +kernel
theorem dX6_init_140 : decode cX6_init 140 = .ok (.new 36, 3) := by decide +kernel
theorem dX6_init_143 : decode cX6_init 143 = .ok (.dup, 1) := by decide +kernel
theorem dX6_init_144 : decode cX6_init 144 = .ok (.invokespecial 38, 3) := by decide +kernel
theorem dX6_init_147 : decode cX6_init 147 = .ok (.aastore, 1) := by decide +kernel
theorem dX6_init_148 : decode cX6_init 148 = .ok (.iinc 1 1, 3) := by decide +kernel
theorem dX6_init_151 : decode cX6_init 151 = .ok (.goto (-21), 3) := by decide +kernel
theorem dX6_init_154 : decode cX6_init 154 = .ok (.return_, 1) := by decide +kernel
theorem dX6_feed_0 : decode cX6_feed 0 = .ok (.iload_n 1, 1) := by decide +kernel
theorem dX6_feed_1 : decode cX6_feed 1 = .ok (.iconst 1, 1) := by decide +kernel
theorem dX6_feed_2 : decode cX6_feed 2 = .ok (.if_icmp .lt 9, 3) := by decide +kernel
theorem dX6_feed_5 : decode cX6_feed 5 = .ok (.iload_n 1, 1) := by decide +kernel
theorem dX6_feed_6 : decode cX6_feed 6 = .ok (.bipush 8, 2) := by decide +kernel
theorem dX6_feed_8 : decode cX6_feed 8 = .ok (.if_icmp .le 6, 3) := by decide +kernel
theorem dX6_feed_11 : decode cX6_feed 11 = .ok (.ldc 72, 2) := by decide +kernel
theorem dX6_feed_13 : decode cX6_feed 13 = .ok (.ireturn, 1) := by decide +kernel
theorem dX6_feed_14 : decode cX6_feed 14 = .ok (.aload_n 0, 1) := by decide +kernel
theorem dX6_feed_15 : decode cX6_feed 15 = .ok (.getfield 10, 3) := by decide +kernel
theorem dX6_feed_18 : decode cX6_feed 18 = .ok (.iload_n 1, 1) := by decide +kernel
theorem dX6_feed_19 : decode cX6_feed 19 = .ok (.lload_n 2, 1) := by decide +kernel
theorem dX6_feed_20 : decode cX6_feed 20 = .ok (.invokevirtual 73, 3) := by decide +kernel
theorem dX6_feed_23 : decode cX6_feed 23 = .ok (.ifCond .eq 13, 3) := by decide +kernel
theorem dX6_feed_26 : decode cX6_feed 26 = .ok (.aload_n 0, 1) := by decide +kernel
theorem dX6_feed_27 : decode cX6_feed 27 = .ok (.getfield 10, 3) := by decide +kernel
theorem dX6_feed_30 : decode cX6_feed 30 = .ok (.getfield 77, 3) := by decide +kernel
theorem dX6_feed_33 : decode cX6_feed 33 = .ok (.goto 5, 3) := by decide +kernel
theorem dX6_feed_36 : decode cX6_feed 36 = .ok (.ldc 80, 2) := by decide +kernel
theorem dX6_feed_38 : decode cX6_feed 38 = .ok (.ireturn, 1) := by decide +kernel
theorem dX6_river_0 : decode cX6_river 0 = .ok (.aload_n 0, 1) := by decide +kernel
theorem dX6_river_1 : decode cX6_river 1 = .ok (.getfield 10, 3) := by decide +kernel
theorem dX6_river_4 : decode cX6_river 4 = .ok (.aload_n 0, 1) := by decide +kernel
theorem dX6_river_5 : decode cX6_river 5 = .ok (.getfield 23, 3) := by decide +kernel
theorem dX6_river_8 : decode cX6_river 8 = .ok (.invokevirtual 81, 3) := by decide +kernel
theorem dX6_river_11 : decode cX6_river 11 = .ok (.aload_n 0, 1) := by decide +kernel
theorem dX6_river_12 : decode cX6_river 12 = .ok (.aload_n 0, 1) := by decide +kernel
theorem dX6_river_13 : decode cX6_river 13 = .ok (.getfield 10, 3) := by decide +kernel
theorem dX6_river_16 : decode cX6_river 16 = .ok (.invokevirtual 85, 3) := by decide +kernel
theorem dX6_river_19 : decode cX6_river 19 = .ok (.putfield 68, 3) := by decide +kernel
theorem dX6_river_22 : decode cX6_river 22 = .ok (.aload_n 0, 1) := by decide +kernel
theorem dX6_river_23 : decode cX6_river 23 = .ok (.getfield 10, 3) := by decide +kernel
theorem dX6_river_26 : decode cX6_river 26 = .ok (.getfield 88, 3) := by decide +kernel
theorem dX6_river_29 : decode cX6_river 29 = .ok (.ifCond .eq 14, 3) := by decide +kernel
theorem dX6_river_32 : decode cX6_river 32 = .ok (.bipush (-10), 2) := by decide +kernel
theorem dX6_river_34 : decode cX6_river 34 = .ok (.aload_n 0, 1) := by decide +kernel
theorem dX6_river_35 : decode cX6_river 35 = .ok (.getfield 10, 3) := by decide +kernel
theorem dX6_river_38 : decode cX6_river 38 = .ok (.getfield 88, 3) := by decide +kernel
theorem dX6_river_41 : decode cX6_river 41 = .ok (.isub, 1) := by decide +kernel
theorem dX6_river_42 : decode cX6_river 42 = .ok (.ireturn, 1) := by decide +kernel
theorem dX6_river_43 : decode cX6_river 43 = .ok (.aload_n 0, 1) := by decide +kernel
theorem dX6_river_44 : decode cX6_river 44 = .ok (.getfield 19, 3) := by decide +kernel
theorem dX6_river_47 : decode cX6_river 47 = .ok (.astore_n 1, 1) := by decide +kernel
theorem dX6_river_48 : decode cX6_river 48 = .ok (.aload_n 0, 1) := by decide +kernel
theorem dX6_river_49 : decode cX6_river 49 = .ok (.aload_n 0, 1) := by decide +kernel
theorem dX6_river_50 : decode cX6_river 50 = .ok (.getfield 23, 3) := by decide +kernel
theorem dX6_river_53 : decode cX6_river 53 = .ok (.putfield 19, 3) := by decide +kernel
theorem dX6_river_56 : decode cX6_river 56 = .ok (.aload_n 0, 1) := by decide +kernel
theorem dX6_river_57 : decode cX6_river 57 = .ok (.aload_n 1, 1) := by decide +kernel
theorem dX6_river_58 : decode cX6_river 58 = .ok (.putfield 23, 3) := by decide +kernel
theorem dX6_river_61 : decode cX6_river 61 = .ok (.aload_n 0, 1) := by decide +kernel
theorem dX6_river_62 : decode cX6_river 62 = .ok (.getfield 29, 3) := by decide +kernel
theorem dX6_river_65 : decode cX6_river 65 = .ok (.iconst 0, 1) := by decide +kernel
theorem dX6_river_66 : decode cX6_river 66 = .ok (.putfield 91, 3) := by decide +kernel
theorem dX6_river_69 : decode cX6_river 69 = .ok (.aload_n 0, 1) := by decide +kernel
theorem dX6_river_70 : decode cX6_river 70 = .ok (.getfield 39, 3) := by decide +kernel
theorem dX6_river_73 : decode cX6_river 73 = .ok (.aload_n 0, 1) := by decide +kernel
theorem dX6_river_74 : decode cX6_river 74 = .ok (.getfield 19, 3) := by decide +kernel
theorem dX6_river_77 : decode cX6_river 77 = .ok (.invokevirtual 94, 3) := by decide +kernel
theorem dX6_river_80 : decode cX6_river 80 = .ok (.aload_n 0, 1) := by decide +kernel
theorem dX6_river_81 : decode cX6_river 81 = .ok (.iconst 0, 1) := by decide +kernel
theorem dX6_river_82 : decode cX6_river 82 = .ok (.putfield 97, 3) := by decide +kernel
theorem dX6_river_85 : decode cX6_river 85 = .ok (.iconst 0, 1) := by decide +kernel
theorem dX6_river_86 : decode cX6_river 86 = .ok (.istore_n 2, 1) := by decide +kernel
theorem dX6_river_87 : decode cX6_river 87 = .ok (.iload_n 2, 1) := by decide +kernel
theorem dX6_river_88 : decode cX6_river 88 = .ok (.iconst 2, 1) := by decide +kernel
theorem dX6_river_89 : decode cX6_river 89 = .ok (.if_icmp .ge 16, 3) := by decide +kernel
theorem dX6_river_92 : decode cX6_river 92 = .ok (.aload_n 0, 1) := by decide +kernel
theorem dX6_river_93 : decode cX6_river 93 = .ok (.getfield 50, 3) := by decide +kernel
theorem dX6_river_96 : decode cX6_river 96 = .ok (.iload_n 2, 1) := by decide +kernel
theorem dX6_river_97 : decode cX6_river 97 = .ok (.iconst 0, 1) := by decide +kernel
theorem dX6_river_98 : decode cX6_river 98 = .ok (.bastore, 1) := by decide +kernel
theorem dX6_river_99 : decode cX6_river 99 = .ok (.iinc 2 1, 3) := by decide +kernel
theorem dX6_river_102 : decode cX6_river 102 = .ok (.goto (-15), 3) := by decide +kernel
theorem dX6_river_105 : decode cX6_river 105 = .ok (.aload_n 0, 1) := by decide +kernel
theorem dX6_river_106 : decode cX6_river 106 = .ok (.getfield 19, 3) := by decide +kernel
theorem dX6_river_109 : decode cX6_river 109 = .ok (.getfield 100, 3) := by decide +kernel
theorem dX6_river_112 : decode cX6_river 112 = .ok (.ireturn, 1) := by decide +kernel
theorem dX6_plan_0 : decode cX6_plan 0 = .ok (.aload_n 0, 1) := by decide +kernel
theorem dX6_plan_1 : decode cX6_plan 1 = .ok (.getfield 19, 3) := by decide +kernel
theorem dX6_plan_4 : decode cX6_plan 4 = .ok (.getfield 100, 3) := by decide +kernel
theorem dX6_plan_7 : decode cX6_plan 7 = .ok (.ifCond .ne 6, 3) := by decide +kernel
theorem dX6_plan_10 : decode cX6_plan 10 = .ok (.ldc 103, 2) := by decide +kernel
theorem dX6_plan_12 : decode cX6_plan 12 = .ok (.ireturn, 1) := by decide +kernel
theorem dX6_plan_13 : decode cX6_plan 13 = .ok (.aload_n 0, 1) := by decide +kernel
theorem dX6_plan_14 : decode cX6_plan 14 = .ok (.getfield 10, 3) := by decide +kernel
theorem dX6_plan_17 : decode cX6_plan 17 = .ok (.aload_n 0, 1) := by decide +kernel
theorem dX6_plan_18 : decode cX6_plan 18 = .ok (.getfield 33, 3) := by decide +kernel
theorem dX6_plan_21 : decode cX6_plan 21 = .ok (.aload_n 0, 1) := by decide +kernel
theorem dX6_plan_22 : decode cX6_plan 22 = .ok (.getfield 19, 3) := by decide +kernel
theorem dX6_plan_25 : decode cX6_plan 25 = .ok (.getfield 100, 3) := by decide +kernel
theorem dX6_plan_28 : decode cX6_plan 28 = .ok (.iconst 1, 1) := by decide +kernel
theorem dX6_plan_29 : decode cX6_plan 29 = .ok (.isub, 1) := by decide +kernel
theorem dX6_plan_30 : decode cX6_plan 30 = .ok (.invokevirtual 104, 3) := by decide +kernel
theorem dX6_plan_33 : decode cX6_plan 33 = .ok (.aload_n 0, 1) := by decide +kernel
theorem dX6_plan_34 : decode cX6_plan 34 = .ok (.aload_n 0, 1) := by decide +kernel
theorem dX6_plan_35 : decode cX6_plan 35 = .ok (.getfield 10, 3) := by decide +kernel
theorem dX6_plan_38 : decode cX6_plan 38 = .ok (.invokevirtual 85, 3) := by decide +kernel
theorem dX6_plan_41 : decode cX6_plan 41 = .ok (.putfield 68, 3) := by decide +kernel
theorem dX6_plan_44 : decode cX6_plan 44 = .ok (.aload_n 0, 1) := by decide +kernel
theorem dX6_plan_45 : decode cX6_plan 45 = .ok (.getfield 10, 3) := by decide +kernel
theorem dX6_plan_48 : decode cX6_plan 48 = .ok (.getfield 88, 3) := by decide +kernel
theorem dX6_plan_51 : decode cX6_plan 51 = .ok (.ifCond .eq 14, 3) := by decide +kernel
theorem dX6_plan_54 : decode cX6_plan 54 = .ok (.bipush (-10), 2) := by decide +kernel
theorem dX6_plan_56 : decode cX6_plan 56 = .ok (.aload_n 0, 1) := by decide +kernel
theorem dX6_plan_57 : decode cX6_plan 57 = .ok (.getfield 10, 3) := by decide +kernel
theorem dX6_plan_60 : decode cX6_plan 60 = .ok (.getfield 88, 3) := by decide +kernel
theorem dX6_plan_63 : decode cX6_plan 63 = .ok (.isub, 1) := by decide +kernel
theorem dX6_plan_64 : decode cX6_plan 64 = .ok (.ireturn, 1) := by decide +kernel
theorem dX6_plan_65 : decode cX6_plan 65 = .ok (.aload_n 0, 1) := by decide +kernel
theorem dX6_plan_66 : decode cX6_plan 66 = .ok (.getfield 29, 3) := by decide +kernel
theorem dX6_plan_69 : decode cX6_plan 69 = .ok (.astore_n 1, 1) := by decide +kernel
theorem dX6_plan_70 : decode cX6_plan 70 = .ok (.aload_n 0, 1) := by decide +kernel
theorem dX6_plan_71 : decode cX6_plan 71 = .ok (.aload_n 0, 1) := by decide +kernel
theorem dX6_plan_72 : decode cX6_plan 72 = .ok (.getfield 33, 3) := by decide +kernel
theorem dX6_plan_75 : decode cX6_plan 75 = .ok (.putfield 29, 3) := by decide +kernel
theorem dX6_plan_78 : decode cX6_plan 78 = .ok (.aload_n 0, 1) := by decide +kernel
theorem dX6_plan_79 : decode cX6_plan 79 = .ok (.aload_n 1, 1) := by decide +kernel
theorem dX6_plan_80 : decode cX6_plan 80 = .ok (.putfield 33, 3) := by decide +kernel
theorem dX6_plan_83 : decode cX6_plan 83 = .ok (.aload_n 0, 1) := by decide +kernel
theorem dX6_plan_84 : decode cX6_plan 84 = .ok (.getfield 29, 3) := by decide +kernel
theorem dX6_plan_87 : decode cX6_plan 87 = .ok (.getfield 91, 3) := by decide +kernel
theorem dX6_plan_90 : decode cX6_plan 90 = .ok (.ireturn, 1) := by decide +kernel
theorem dX6_fault_0 : decode cX6_fault 0 = .ok (.aload_n 0, 1) := by decide +kernel
theorem dX6_fault_1 : decode cX6_fault 1 = .ok (.getfield 68, 3) := by decide +kernel
theorem dX6_fault_4 : decode cX6_fault 4 = .ok (.ireturn, 1) := by decide +kernel
theorem dX6_told_0 : decode cX6_told 0 = .ok (.iload_n 1, 1) := by decide +kernel
theorem dX6_told_1 : decode cX6_told 1 = .ok (.tableswitch 103 0 6 #[43, 51, 59, 67, 75, 86, 91], 43) := by decide +kernel
theorem dX6_told_44 : decode cX6_told 44 = .ok (.aload_n 0, 1) := by decide +kernel
theorem dX6_told_45 : decode cX6_told 45 = .ok (.getfield 19, 3) := by decide +kernel
theorem dX6_told_48 : decode cX6_told 48 = .ok (.getfield 100, 3) := by decide +kernel
theorem dX6_told_51 : decode cX6_told 51 = .ok (.ireturn, 1) := by decide +kernel
theorem dX6_told_52 : decode cX6_told 52 = .ok (.aload_n 0, 1) := by decide +kernel
theorem dX6_told_53 : decode cX6_told 53 = .ok (.getfield 29, 3) := by decide +kernel
theorem dX6_told_56 : decode cX6_told 56 = .ok (.getfield 91, 3) := by decide +kernel
theorem dX6_told_59 : decode cX6_told 59 = .ok (.ireturn, 1) := by decide +kernel
theorem dX6_told_60 : decode cX6_told 60 = .ok (.aload_n 0, 1) := by decide +kernel
theorem dX6_told_61 : decode cX6_told 61 = .ok (.getfield 10, 3) := by decide +kernel
theorem dX6_told_64 : decode cX6_told 64 = .ok (.getfield 77, 3) := by decide +kernel
theorem dX6_told_67 : decode cX6_told 67 = .ok (.ireturn, 1) := by decide +kernel
theorem dX6_told_68 : decode cX6_told 68 = .ok (.aload_n 0, 1) := by decide +kernel
theorem dX6_told_69 : decode cX6_told 69 = .ok (.getfield 39, 3) := by decide +kernel
theorem dX6_told_72 : decode cX6_told 72 = .ok (.getfield 108, 3) := by decide +kernel
theorem dX6_told_75 : decode cX6_told 75 = .ok (.ireturn, 1) := by decide +kernel
theorem dX6_told_76 : decode cX6_told 76 = .ok (.aload_n 0, 1) := by decide +kernel
theorem dX6_told_77 : decode cX6_told 77 = .ok (.getfield 39, 3) := by decide +kernel
theorem dX6_told_80 : decode cX6_told 80 = .ok (.getfield 111, 3) := by decide +kernel
theorem dX6_told_83 : decode cX6_told 83 = .ok (.getfield 115, 3) := by decide +kernel
theorem dX6_told_86 : decode cX6_told 86 = .ok (.ireturn, 1) := by decide +kernel
theorem dX6_told_87 : decode cX6_told 87 = .ok (.aload_n 0, 1) := by decide +kernel
theorem dX6_told_88 : decode cX6_told 88 = .ok (.getfield 97, 3) := by decide +kernel
theorem dX6_told_91 : decode cX6_told 91 = .ok (.ireturn, 1) := by decide +kernel
theorem dX6_told_92 : decode cX6_told 92 = .ok (.aload_n 0, 1) := by decide +kernel
theorem dX6_told_93 : decode cX6_told 93 = .ok (.getfield 39, 3) := by decide +kernel
theorem dX6_told_96 : decode cX6_told 96 = .ok (.aload_n 0, 1) := by decide +kernel
theorem dX6_told_97 : decode cX6_told 97 = .ok (.getfield 19, 3) := by decide +kernel
theorem dX6_told_100 : decode cX6_told 100 = .ok (.invokevirtual 118, 3) := by decide +kernel
theorem dX6_told_103 : decode cX6_told 103 = .ok (.ireturn, 1) := by decide +kernel
theorem dX6_told_104 : decode cX6_told 104 = .ok (.ldc 72, 2) := by decide +kernel
theorem dX6_told_106 : decode cX6_told 106 = .ok (.ireturn, 1) := by decide +kernel
theorem dX6_node_0 : decode cX6_node 0 = .ok (.aload_n 0, 1) := by decide +kernel
theorem dX6_node_1 : decode cX6_node 1 = .ok (.getfield 19, 3) := by decide +kernel
theorem dX6_node_4 : decode cX6_node 4 = .ok (.iload_n 1, 1) := by decide +kernel
theorem dX6_node_5 : decode cX6_node 5 = .ok (.invokevirtual 122, 3) := by decide +kernel
theorem dX6_node_8 : decode cX6_node 8 = .ok (.ifCond .ne 6, 3) := by decide +kernel
theorem dX6_node_11 : decode cX6_node 11 = .ok (.ldc 126, 2) := by decide +kernel
theorem dX6_node_13 : decode cX6_node 13 = .ok (.ireturn, 1) := by decide +kernel
theorem dX6_node_14 : decode cX6_node 14 = .ok (.iload_n 2, 1) := by decide +kernel
theorem dX6_node_15 : decode cX6_node 15 = .ok (.tableswitch 88 0 4 #[33, 43, 53, 63, 76], 33) := by decide +kernel
theorem dX6_node_48 : decode cX6_node 48 = .ok (.aload_n 0, 1) := by decide +kernel
theorem dX6_node_49 : decode cX6_node 49 = .ok (.getfield 19, 3) := by decide +kernel
theorem dX6_node_52 : decode cX6_node 52 = .ok (.getfield 127, 3) := by decide +kernel
theorem dX6_node_55 : decode cX6_node 55 = .ok (.iload_n 1, 1) := by decide +kernel
theorem dX6_node_56 : decode cX6_node 56 = .ok (.iaload, 1) := by decide +kernel
theorem dX6_node_57 : decode cX6_node 57 = .ok (.ireturn, 1) := by decide +kernel
theorem dX6_node_58 : decode cX6_node 58 = .ok (.aload_n 0, 1) := by decide +kernel
theorem dX6_node_59 : decode cX6_node 59 = .ok (.getfield 19, 3) := by decide +kernel
theorem dX6_node_62 : decode cX6_node 62 = .ok (.getfield 130, 3) := by decide +kernel
theorem dX6_node_65 : decode cX6_node 65 = .ok (.iload_n 1, 1) := by decide +kernel
theorem dX6_node_66 : decode cX6_node 66 = .ok (.iaload, 1) := by decide +kernel
theorem dX6_node_67 : decode cX6_node 67 = .ok (.ireturn, 1) := by decide +kernel
theorem dX6_node_68 : decode cX6_node 68 = .ok (.aload_n 0, 1) := by decide +kernel
theorem dX6_node_69 : decode cX6_node 69 = .ok (.getfield 39, 3) := by decide +kernel
theorem dX6_node_72 : decode cX6_node 72 = .ok (.getfield 133, 3) := by decide +kernel
theorem dX6_node_75 : decode cX6_node 75 = .ok (.iload_n 1, 1) := by decide +kernel
theorem dX6_node_76 : decode cX6_node 76 = .ok (.iaload, 1) := by decide +kernel
theorem dX6_node_77 : decode cX6_node 77 = .ok (.ireturn, 1) := by decide +kernel
theorem dX6_node_78 : decode cX6_node 78 = .ok (.aload_n 0, 1) := by decide +kernel
theorem dX6_node_79 : decode cX6_node 79 = .ok (.getfield 39, 3) := by decide +kernel
theorem dX6_node_82 : decode cX6_node 82 = .ok (.aload_n 0, 1) := by decide +kernel
theorem dX6_node_83 : decode cX6_node 83 = .ok (.getfield 19, 3) := by decide +kernel
theorem dX6_node_86 : decode cX6_node 86 = .ok (.iload_n 1, 1) := by decide +kernel
theorem dX6_node_87 : decode cX6_node 87 = .ok (.invokevirtual 136, 3) := by decide +kernel
theorem dX6_node_90 : decode cX6_node 90 = .ok (.ireturn, 1) := by decide +kernel
theorem dX6_node_91 : decode cX6_node 91 = .ok (.aload_n 0, 1) := by decide +kernel
theorem dX6_node_92 : decode cX6_node 92 = .ok (.getfield 39, 3) := by decide +kernel
theorem dX6_node_95 : decode cX6_node 95 = .ok (.getfield 111, 3) := by decide +kernel
theorem dX6_node_98 : decode cX6_node 98 = .ok (.iload_n 1, 1) := by decide +kernel
theorem dX6_node_99 : decode cX6_node 99 = .ok (.invokevirtual 140, 3) := by decide +kernel
theorem dX6_node_102 : decode cX6_node 102 = .ok (.ireturn, 1) := by decide +kernel
theorem dX6_node_103 : decode cX6_node 103 = .ok (.ldc 72, 2) := by decide +kernel
theorem dX6_node_105 : decode cX6_node 105 = .ok (.ireturn, 1) := by decide +kernel
theorem dX6_gate_0 : decode cX6_gate 0 = .ok (.aload_n 0, 1) := by decide +kernel
theorem dX6_gate_1 : decode cX6_gate 1 = .ok (.getfield 19, 3) := by decide +kernel
theorem dX6_gate_4 : decode cX6_gate 4 = .ok (.iload_n 1, 1) := by decide +kernel
theorem dX6_gate_5 : decode cX6_gate 5 = .ok (.invokevirtual 144, 3) := by decide +kernel
theorem dX6_gate_8 : decode cX6_gate 8 = .ok (.ifCond .ne 6, 3) := by decide +kernel
theorem dX6_gate_11 : decode cX6_gate 11 = .ok (.ldc 126, 2) := by decide +kernel
theorem dX6_gate_13 : decode cX6_gate 13 = .ok (.ireturn, 1) := by decide +kernel
theorem dX6_gate_14 : decode cX6_gate 14 = .ok (.iload_n 2, 1) := by decide +kernel
theorem dX6_gate_15 : decode cX6_gate 15 = .ok (.tableswitch 83 0 4 #[33, 43, 53, 63, 73], 33) := by decide +kernel
theorem dX6_gate_48 : decode cX6_gate 48 = .ok (.aload_n 0, 1) := by decide +kernel
theorem dX6_gate_49 : decode cX6_gate 49 = .ok (.getfield 39, 3) := by decide +kernel
theorem dX6_gate_52 : decode cX6_gate 52 = .ok (.getfield 147, 3) := by decide +kernel
theorem dX6_gate_55 : decode cX6_gate 55 = .ok (.iload_n 1, 1) := by decide +kernel
theorem dX6_gate_56 : decode cX6_gate 56 = .ok (.iaload, 1) := by decide +kernel
theorem dX6_gate_57 : decode cX6_gate 57 = .ok (.ireturn, 1) := by decide +kernel
theorem dX6_gate_58 : decode cX6_gate 58 = .ok (.aload_n 0, 1) := by decide +kernel
theorem dX6_gate_59 : decode cX6_gate 59 = .ok (.getfield 19, 3) := by decide +kernel
theorem dX6_gate_62 : decode cX6_gate 62 = .ok (.getfield 150, 3) := by decide +kernel
theorem dX6_gate_65 : decode cX6_gate 65 = .ok (.iload_n 1, 1) := by decide +kernel
theorem dX6_gate_66 : decode cX6_gate 66 = .ok (.iaload, 1) := by decide +kernel
theorem dX6_gate_67 : decode cX6_gate 67 = .ok (.ireturn, 1) := by decide +kernel
theorem dX6_gate_68 : decode cX6_gate 68 = .ok (.aload_n 0, 1) := by decide +kernel
theorem dX6_gate_69 : decode cX6_gate 69 = .ok (.getfield 39, 3) := by decide +kernel
theorem dX6_gate_72 : decode cX6_gate 72 = .ok (.getfield 153, 3) := by decide +kernel
theorem dX6_gate_75 : decode cX6_gate 75 = .ok (.iload_n 1, 1) := by decide +kernel
theorem dX6_gate_76 : decode cX6_gate 76 = .ok (.iaload, 1) := by decide +kernel
theorem dX6_gate_77 : decode cX6_gate 77 = .ok (.ireturn, 1) := by decide +kernel
theorem dX6_gate_78 : decode cX6_gate 78 = .ok (.aload_n 0, 1) := by decide +kernel
theorem dX6_gate_79 : decode cX6_gate 79 = .ok (.getfield 39, 3) := by decide +kernel
theorem dX6_gate_82 : decode cX6_gate 82 = .ok (.getfield 156, 3) := by decide +kernel
theorem dX6_gate_85 : decode cX6_gate 85 = .ok (.iload_n 1, 1) := by decide +kernel
theorem dX6_gate_86 : decode cX6_gate 86 = .ok (.iaload, 1) := by decide +kernel
theorem dX6_gate_87 : decode cX6_gate 87 = .ok (.ireturn, 1) := by decide +kernel
theorem dX6_gate_88 : decode cX6_gate 88 = .ok (.aload_n 0, 1) := by decide +kernel
theorem dX6_gate_89 : decode cX6_gate 89 = .ok (.getfield 39, 3) := by decide +kernel
theorem dX6_gate_92 : decode cX6_gate 92 = .ok (.getfield 159, 3) := by decide +kernel
theorem dX6_gate_95 : decode cX6_gate 95 = .ok (.iload_n 1, 1) := by decide +kernel
theorem dX6_gate_96 : decode cX6_gate 96 = .ok (.iaload, 1) := by decide +kernel
theorem dX6_gate_97 : decode cX6_gate 97 = .ok (.ireturn, 1) := by decide +kernel
theorem dX6_gate_98 : decode cX6_gate 98 = .ok (.ldc 72, 2) := by decide +kernel
theorem dX6_gate_100 : decode cX6_gate 100 = .ok (.ireturn, 1) := by decide +kernel
theorem dX6_go_0 : decode cX6_go 0 = .ok (.iload_n 1, 1) := by decide +kernel
theorem dX6_go_1 : decode cX6_go 1 = .ok (.iconst 1, 1) := by decide +kernel
theorem dX6_go_2 : decode cX6_go 2 = .ok (.if_icmp .lt 10, 3) := by decide +kernel
theorem dX6_go_5 : decode cX6_go 5 = .ok (.iload_n 1, 1) := by decide +kernel
theorem dX6_go_6 : decode cX6_go 6 = .ok (.sipush 200, 3) := by decide +kernel
theorem dX6_go_9 : decode cX6_go 9 = .ok (.if_icmp .le 6, 3) := by decide +kernel
theorem dX6_go_12 : decode cX6_go 12 = .ok (.ldc 72, 2) := by decide +kernel
theorem dX6_go_14 : decode cX6_go 14 = .ok (.ireturn, 1) := by decide +kernel
theorem dX6_go_15 : decode cX6_go 15 = .ok (.aload_n 0, 1) := by decide +kernel
theorem dX6_go_16 : decode cX6_go 16 = .ok (.getfield 19, 3) := by decide +kernel
theorem dX6_go_19 : decode cX6_go 19 = .ok (.getfield 100, 3) := by decide +kernel
theorem dX6_go_22 : decode cX6_go 22 = .ok (.ifCond .ne 6, 3) := by decide +kernel
theorem dX6_go_25 : decode cX6_go 25 = .ok (.ldc 103, 2) := by decide +kernel
theorem dX6_go_27 : decode cX6_go 27 = .ok (.ireturn, 1) := by decide +kernel
theorem dX6_go_28 : decode cX6_go 28 = .ok (.iconst 0, 1) := by decide +kernel
theorem dX6_go_29 : decode cX6_go 29 = .ok (.istore_n 2, 1) := by decide +kernel
theorem dX6_go_30 : decode cX6_go 30 = .ok (.iload_n 2, 1) := by decide +kernel
theorem dX6_go_31 : decode cX6_go 31 = .ok (.iload_n 1, 1) := by decide +kernel
theorem dX6_go_32 : decode cX6_go 32 = .ok (.if_icmp .ge 24, 3) := by decide +kernel
theorem dX6_go_35 : decode cX6_go 35 = .ok (.aload_n 0, 1) := by decide +kernel
theorem dX6_go_36 : decode cX6_go 36 = .ok (.getfield 39, 3) := by decide +kernel
theorem dX6_go_39 : decode cX6_go 39 = .ok (.aload_n 0, 1) := by decide +kernel
theorem dX6_go_40 : decode cX6_go 40 = .ok (.getfield 19, 3) := by decide +kernel
theorem dX6_go_43 : decode cX6_go 43 = .ok (.aload_n 0, 1) := by decide +kernel
theorem dX6_go_44 : decode cX6_go 44 = .ok (.getfield 29, 3) := by decide +kernel
theorem dX6_go_47 : decode cX6_go 47 = .ok (.invokevirtual 162, 3) := by decide +kernel
theorem dX6_go_50 : decode cX6_go 50 = .ok (.iinc 2 1, 3) := by decide +kernel
theorem dX6_go_53 : decode cX6_go 53 = .ok (.goto (-23), 3) := by decide +kernel
theorem dX6_go_56 : decode cX6_go 56 = .ok (.aload_n 0, 1) := by decide +kernel
theorem dX6_go_57 : decode cX6_go 57 = .ok (.getfield 39, 3) := by decide +kernel
theorem dX6_go_60 : decode cX6_go 60 = .ok (.getfield 108, 3) := by decide +kernel
theorem dX6_go_63 : decode cX6_go 63 = .ok (.ireturn, 1) := by decide +kernel
theorem dX6_width_0 : decode cX6_width 0 = .ok (.aload_n 0, 1) := by decide +kernel
theorem dX6_width_1 : decode cX6_width 1 = .ok (.getfield 19, 3) := by decide +kernel
theorem dX6_width_4 : decode cX6_width 4 = .ok (.iload_n 1, 1) := by decide +kernel
theorem dX6_width_5 : decode cX6_width 5 = .ok (.invokevirtual 144, 3) := by decide +kernel
theorem dX6_width_8 : decode cX6_width 8 = .ok (.ifCond .ne 6, 3) := by decide +kernel
theorem dX6_width_11 : decode cX6_width 11 = .ok (.ldc 126, 2) := by decide +kernel
theorem dX6_width_13 : decode cX6_width 13 = .ok (.ireturn, 1) := by decide +kernel
theorem dX6_width_14 : decode cX6_width 14 = .ok (.iload_n 2, 1) := by decide +kernel
theorem dX6_width_15 : decode cX6_width 15 = .ok (.ifCond .lt 9, 3) := by decide +kernel
theorem dX6_width_18 : decode cX6_width 18 = .ok (.iload_n 2, 1) := by decide +kernel
theorem dX6_width_19 : decode cX6_width 19 = .ok (.bipush 9, 2) := by decide +kernel
theorem dX6_width_21 : decode cX6_width 21 = .ok (.if_icmp .le 6, 3) := by decide +kernel
theorem dX6_width_24 : decode cX6_width 24 = .ok (.ldc 72, 2) := by decide +kernel
theorem dX6_width_26 : decode cX6_width 26 = .ok (.ireturn, 1) := by decide +kernel
theorem dX6_width_27 : decode cX6_width 27 = .ok (.aload_n 0, 1) := by decide +kernel
theorem dX6_width_28 : decode cX6_width 28 = .ok (.getfield 39, 3) := by decide +kernel
theorem dX6_width_31 : decode cX6_width 31 = .ok (.getfield 147, 3) := by decide +kernel
theorem dX6_width_34 : decode cX6_width 34 = .ok (.iload_n 1, 1) := by decide +kernel
theorem dX6_width_35 : decode cX6_width 35 = .ok (.iaload, 1) := by decide +kernel
theorem dX6_width_36 : decode cX6_width 36 = .ok (.istore_n 3, 1) := by decide +kernel
theorem dX6_width_37 : decode cX6_width 37 = .ok (.aload_n 0, 1) := by decide +kernel
theorem dX6_width_38 : decode cX6_width 38 = .ok (.getfield 39, 3) := by decide +kernel
theorem dX6_width_41 : decode cX6_width 41 = .ok (.getfield 147, 3) := by decide +kernel
theorem dX6_width_44 : decode cX6_width 44 = .ok (.iload_n 1, 1) := by decide +kernel
theorem dX6_width_45 : decode cX6_width 45 = .ok (.iload_n 2, 1) := by decide +kernel
theorem dX6_width_46 : decode cX6_width 46 = .ok (.iastore, 1) := by decide +kernel
theorem dX6_width_47 : decode cX6_width 47 = .ok (.iload_n 3, 1) := by decide +kernel
theorem dX6_width_48 : decode cX6_width 48 = .ok (.ireturn, 1) := by decide +kernel
theorem dX6_pour_0 : decode cX6_pour 0 = .ok (.aload_n 0, 1) := by decide +kernel
theorem dX6_pour_1 : decode cX6_pour 1 = .ok (.getfield 19, 3) := by decide +kernel
theorem dX6_pour_4 : decode cX6_pour 4 = .ok (.iload_n 1, 1) := by decide +kernel
theorem dX6_pour_5 : decode cX6_pour 5 = .ok (.invokevirtual 122, 3) := by decide +kernel
theorem dX6_pour_8 : decode cX6_pour 8 = .ok (.ifCond .eq 14, 3) := by decide +kernel
theorem dX6_pour_11 : decode cX6_pour 11 = .ok (.aload_n 0, 1) := by decide +kernel
theorem dX6_pour_12 : decode cX6_pour 12 = .ok (.getfield 19, 3) := by decide +kernel
theorem dX6_pour_15 : decode cX6_pour 15 = .ok (.iload_n 1, 1) := by decide +kernel
theorem dX6_pour_16 : decode cX6_pour 16 = .ok (.invokevirtual 166, 3) := by decide +kernel
theorem dX6_pour_19 : decode cX6_pour 19 = .ok (.ifCond .eq 6, 3) := by decide +kernel
theorem dX6_pour_22 : decode cX6_pour 22 = .ok (.ldc 126, 2) := by decide +kernel
theorem dX6_pour_24 : decode cX6_pour 24 = .ok (.ireturn, 1) := by decide +kernel
theorem dX6_pour_25 : decode cX6_pour 25 = .ok (.iload_n 2, 1) := by decide +kernel
theorem dX6_pour_26 : decode cX6_pour 26 = .ok (.ifCond .lt 10, 3) := by decide +kernel
theorem dX6_pour_29 : decode cX6_pour 29 = .ok (.iload_n 2, 1) := by decide +kernel
theorem dX6_pour_30 : decode cX6_pour 30 = .ok (.sipush 9999, 3) := by decide +kernel
theorem dX6_pour_33 : decode cX6_pour 33 = .ok (.if_icmp .le 6, 3) := by decide +kernel
theorem dX6_pour_36 : decode cX6_pour 36 = .ok (.ldc 72, 2) := by decide +kernel
theorem dX6_pour_38 : decode cX6_pour 38 = .ok (.ireturn, 1) := by decide +kernel
theorem dX6_pour_39 : decode cX6_pour 39 = .ok (.aload_n 0, 1) := by decide +kernel
theorem dX6_pour_40 : decode cX6_pour 40 = .ok (.getfield 39, 3) := by decide +kernel
theorem dX6_pour_43 : decode cX6_pour 43 = .ok (.getfield 133, 3) := by decide +kernel
theorem dX6_pour_46 : decode cX6_pour 46 = .ok (.iload_n 1, 1) := by decide +kernel
theorem dX6_pour_47 : decode cX6_pour 47 = .ok (.iaload, 1) := by decide +kernel
theorem dX6_pour_48 : decode cX6_pour 48 = .ok (.istore_n 3, 1) := by decide +kernel
theorem dX6_pour_49 : decode cX6_pour 49 = .ok (.aload_n 0, 1) := by decide +kernel
theorem dX6_pour_50 : decode cX6_pour 50 = .ok (.getfield 39, 3) := by decide +kernel
theorem dX6_pour_53 : decode cX6_pour 53 = .ok (.getfield 133, 3) := by decide +kernel
theorem dX6_pour_56 : decode cX6_pour 56 = .ok (.iload_n 1, 1) := by decide +kernel
theorem dX6_pour_57 : decode cX6_pour 57 = .ok (.iload_n 2, 1) := by decide +kernel
theorem dX6_pour_58 : decode cX6_pour 58 = .ok (.iastore, 1) := by decide +kernel
theorem dX6_pour_59 : decode cX6_pour 59 = .ok (.iload_n 3, 1) := by decide +kernel
theorem dX6_pour_60 : decode cX6_pour 60 = .ok (.ireturn, 1) := by decide +kernel
theorem dX6_showers_0 : decode cX6_showers 0 = .ok (.iload_n 1, 1) := by decide +kernel
theorem dX6_showers_1 : decode cX6_showers 1 = .ok (.iconst 1, 1) := by decide +kernel
theorem dX6_showers_2 : decode cX6_showers 2 = .ok (.if_icmp .lt 20, 3) := by decide +kernel
theorem dX6_showers_5 : decode cX6_showers 5 = .ok (.iload_n 1, 1) := by decide +kernel
theorem dX6_showers_6 : decode cX6_showers 6 = .ok (.bipush 100, 2) := by decide +kernel
theorem dX6_showers_8 : decode cX6_showers 8 = .ok (.if_icmp .gt 14, 3) := by decide +kernel
theorem dX6_showers_11 : decode cX6_showers 11 = .ok (.iload_n 2, 1) := by decide +kernel
theorem dX6_showers_12 : decode cX6_showers 12 = .ok (.iconst 1, 1) := by decide +kernel
theorem dX6_showers_13 : decode cX6_showers 13 = .ok (.if_icmp .lt 9, 3) := by decide +kernel
theorem dX6_showers_16 : decode cX6_showers 16 = .ok (.iload_n 2, 1) := by decide +kernel
theorem dX6_showers_17 : decode cX6_showers 17 = .ok (.bipush 99, 2) := by decide +kernel
theorem dX6_showers_19 : decode cX6_showers 19 = .ok (.if_icmp .le 6, 3) := by decide +kernel
theorem dX6_showers_22 : decode cX6_showers 22 = .ok (.ldc 72, 2) := by decide +kernel
theorem dX6_showers_24 : decode cX6_showers 24 = .ok (.ireturn, 1) := by decide +kernel
theorem dX6_showers_25 : decode cX6_showers 25 = .ok (.aload_n 0, 1) := by decide +kernel
theorem dX6_showers_26 : decode cX6_showers 26 = .ok (.getfield 19, 3) := by decide +kernel
theorem dX6_showers_29 : decode cX6_showers 29 = .ok (.getfield 100, 3) := by decide +kernel
theorem dX6_showers_32 : decode cX6_showers 32 = .ok (.ifCond .ne 6, 3) := by decide +kernel
theorem dX6_showers_35 : decode cX6_showers 35 = .ok (.ldc 103, 2) := by decide +kernel
theorem dX6_showers_37 : decode cX6_showers 37 = .ok (.ireturn, 1) := by decide +kernel
theorem dX6_showers_38 : decode cX6_showers 38 = .ok (.iconst 0, 1) := by decide +kernel
theorem dX6_showers_39 : decode cX6_showers 39 = .ok (.istore_n 3, 1) := by decide +kernel
theorem dX6_showers_40 : decode cX6_showers 40 = .ok (.iconst 0, 1) := by decide +kernel
theorem dX6_showers_41 : decode cX6_showers 41 = .ok (.istore 4, 2) := by decide +kernel
theorem dX6_showers_43 : decode cX6_showers 43 = .ok (.iload 4, 2) := by decide +kernel
theorem dX6_showers_45 : decode cX6_showers 45 = .ok (.iload_n 1, 1) := by decide +kernel
theorem dX6_showers_46 : decode cX6_showers 46 = .ok (.if_icmp .ge 39, 3) := by decide +kernel
theorem dX6_showers_49 : decode cX6_showers 49 = .ok (.aload_n 0, 1) := by decide +kernel
theorem dX6_showers_50 : decode cX6_showers 50 = .ok (.getfield 39, 3) := by decide +kernel
theorem dX6_showers_53 : decode cX6_showers 53 = .ok (.aload_n 0, 1) := by decide +kernel
theorem dX6_showers_54 : decode cX6_showers 54 = .ok (.getfield 19, 3) := by decide +kernel
theorem dX6_showers_57 : decode cX6_showers 57 = .ok (.aload_n 0, 1) := by decide +kernel
theorem dX6_showers_58 : decode cX6_showers 58 = .ok (.getfield 29, 3) := by decide +kernel
theorem dX6_showers_61 : decode cX6_showers 61 = .ok (.invokevirtual 162, 3) := by decide +kernel
theorem dX6_showers_64 : decode cX6_showers 64 = .ok (.iload_n 3, 1) := by decide +kernel
theorem dX6_showers_65 : decode cX6_showers 65 = .ok (.aload_n 0, 1) := by decide +kernel
theorem dX6_showers_66 : decode cX6_showers 66 = .ok (.getfield 39, 3) := by decide +kernel
theorem dX6_showers_69 : decode cX6_showers 69 = .ok (.aload_n 0, 1) := by decide +kernel
theorem dX6_showers_70 : decode cX6_showers 70 = .ok (.getfield 19, 3) := by decide +kernel
theorem dX6_showers_73 : decode cX6_showers 73 = .ok (.iload_n 2, 1) := by decide +kernel
theorem dX6_showers_74 : decode cX6_showers 74 = .ok (.invokevirtual 169, 3) := by decide +kernel
theorem dX6_showers_77 : decode cX6_showers 77 = .ok (.iadd, 1) := by decide +kernel
theorem dX6_showers_78 : decode cX6_showers 78 = .ok (.istore_n 3, 1) := by decide +kernel
theorem dX6_showers_79 : decode cX6_showers 79 = .ok (.iinc 4 1, 3) := by decide +kernel
theorem dX6_showers_82 : decode cX6_showers 82 = .ok (.goto (-39), 3) := by decide +kernel
theorem dX6_showers_85 : decode cX6_showers 85 = .ok (.iload_n 3, 1) := by decide +kernel
theorem dX6_showers_86 : decode cX6_showers 86 = .ok (.ireturn, 1) := by decide +kernel
theorem dX6_log_0 : decode cX6_log 0 = .ok (.aload_n 0, 1) := by decide +kernel
theorem dX6_log_1 : decode cX6_log 1 = .ok (.getfield 19, 3) := by decide +kernel
theorem dX6_log_4 : decode cX6_log 4 = .ok (.iload_n 1, 1) := by decide +kernel
theorem dX6_log_5 : decode cX6_log 5 = .ok (.invokevirtual 122, 3) := by decide +kernel
theorem dX6_log_8 : decode cX6_log 8 = .ok (.ifCond .ne 6, 3) := by decide +kernel
theorem dX6_log_11 : decode cX6_log 11 = .ok (.ldc 126, 2) := by decide +kernel
theorem dX6_log_13 : decode cX6_log 13 = .ok (.ireturn, 1) := by decide +kernel
theorem dX6_log_14 : decode cX6_log 14 = .ok (.iload_n 2, 1) := by decide +kernel
theorem dX6_log_15 : decode cX6_log 15 = .ok (.invokestatic 172, 3) := by decide +kernel
theorem dX6_log_18 : decode cX6_log 18 = .ok (.ifCond .ne 6, 3) := by decide +kernel
theorem dX6_log_21 : decode cX6_log 21 = .ok (.ldc 72, 2) := by decide +kernel
theorem dX6_log_23 : decode cX6_log 23 = .ok (.ireturn, 1) := by decide +kernel
theorem dX6_log_24 : decode cX6_log 24 = .ok (.aload_n 0, 1) := by decide +kernel
theorem dX6_log_25 : decode cX6_log 25 = .ok (.getfield 39, 3) := by decide +kernel
theorem dX6_log_28 : decode cX6_log 28 = .ok (.getfield 111, 3) := by decide +kernel
theorem dX6_log_31 : decode cX6_log 31 = .ok (.iload_n 1, 1) := by decide +kernel
theorem dX6_log_32 : decode cX6_log 32 = .ok (.iload_n 2, 1) := by decide +kernel
theorem dX6_log_33 : decode cX6_log 33 = .ok (.invokevirtual 175, 3) := by decide +kernel
theorem dX6_log_36 : decode cX6_log 36 = .ok (.ireturn, 1) := by decide +kernel
theorem dX6_wood_0 : decode cX6_wood 0 = .ok (.aload_n 0, 1) := by decide +kernel
theorem dX6_wood_1 : decode cX6_wood 1 = .ok (.getfield 39, 3) := by decide +kernel
theorem dX6_wood_4 : decode cX6_wood 4 = .ok (.getfield 111, 3) := by decide +kernel
theorem dX6_wood_7 : decode cX6_wood 7 = .ok (.astore_n 3, 1) := by decide +kernel
theorem dX6_wood_8 : decode cX6_wood 8 = .ok (.iload_n 1, 1) := by decide +kernel
theorem dX6_wood_9 : decode cX6_wood 9 = .ok (.ifCond .lt 11, 3) := by decide +kernel
theorem dX6_wood_12 : decode cX6_wood 12 = .ok (.iload_n 1, 1) := by decide +kernel
theorem dX6_wood_13 : decode cX6_wood 13 = .ok (.aload_n 3, 1) := by decide +kernel
theorem dX6_wood_14 : decode cX6_wood 14 = .ok (.getfield 115, 3) := by decide +kernel
theorem dX6_wood_17 : decode cX6_wood 17 = .ok (.if_icmp .lt 6, 3) := by decide +kernel
theorem dX6_wood_20 : decode cX6_wood 20 = .ok (.ldc 126, 2) := by decide +kernel
theorem dX6_wood_22 : decode cX6_wood 22 = .ok (.ireturn, 1) := by decide +kernel
theorem dX6_wood_23 : decode cX6_wood 23 = .ok (.iload_n 2, 1) := by decide +kernel
theorem dX6_wood_24 : decode cX6_wood 24 = .ok (.tableswitch 93 0 6 #[44, 51, 58, 65, 72, 79, 86], 44) := by decide +kernel
theorem dX6_wood_68 : decode cX6_wood 68 = .ok (.aload_n 3, 1) := by decide +kernel
theorem dX6_wood_69 : decode cX6_wood 69 = .ok (.getfield 179, 3) := by decide +kernel
theorem dX6_wood_72 : decode cX6_wood 72 = .ok (.iload_n 1, 1) := by decide +kernel
theorem dX6_wood_73 : decode cX6_wood 73 = .ok (.iaload, 1) := by decide +kernel
theorem dX6_wood_74 : decode cX6_wood 74 = .ok (.ireturn, 1) := by decide +kernel
theorem dX6_wood_75 : decode cX6_wood 75 = .ok (.aload_n 3, 1) := by decide +kernel
theorem dX6_wood_76 : decode cX6_wood 76 = .ok (.getfield 182, 3) := by decide +kernel
theorem dX6_wood_79 : decode cX6_wood 79 = .ok (.iload_n 1, 1) := by decide +kernel
theorem dX6_wood_80 : decode cX6_wood 80 = .ok (.iaload, 1) := by decide +kernel
theorem dX6_wood_81 : decode cX6_wood 81 = .ok (.ireturn, 1) := by decide +kernel
theorem dX6_wood_82 : decode cX6_wood 82 = .ok (.aload_n 3, 1) := by decide +kernel
theorem dX6_wood_83 : decode cX6_wood 83 = .ok (.getfield 185, 3) := by decide +kernel
theorem dX6_wood_86 : decode cX6_wood 86 = .ok (.iload_n 1, 1) := by decide +kernel
theorem dX6_wood_87 : decode cX6_wood 87 = .ok (.iaload, 1) := by decide +kernel
theorem dX6_wood_88 : decode cX6_wood 88 = .ok (.ireturn, 1) := by decide +kernel
theorem dX6_wood_89 : decode cX6_wood 89 = .ok (.aload_n 3, 1) := by decide +kernel
theorem dX6_wood_90 : decode cX6_wood 90 = .ok (.getfield 188, 3) := by decide +kernel
theorem dX6_wood_93 : decode cX6_wood 93 = .ok (.iload_n 1, 1) := by decide +kernel
theorem dX6_wood_94 : decode cX6_wood 94 = .ok (.iaload, 1) := by decide +kernel
theorem dX6_wood_95 : decode cX6_wood 95 = .ok (.ireturn, 1) := by decide +kernel
theorem dX6_wood_96 : decode cX6_wood 96 = .ok (.aload_n 3, 1) := by decide +kernel
theorem dX6_wood_97 : decode cX6_wood 97 = .ok (.getfield 189, 3) := by decide +kernel
theorem dX6_wood_100 : decode cX6_wood 100 = .ok (.iload_n 1, 1) := by decide +kernel
theorem dX6_wood_101 : decode cX6_wood 101 = .ok (.iaload, 1) := by decide +kernel
theorem dX6_wood_102 : decode cX6_wood 102 = .ok (.ireturn, 1) := by decide +kernel
theorem dX6_wood_103 : decode cX6_wood 103 = .ok (.aload_n 3, 1) := by decide +kernel
theorem dX6_wood_104 : decode cX6_wood 104 = .ok (.getfield 192, 3) := by decide +kernel
theorem dX6_wood_107 : decode cX6_wood 107 = .ok (.iload_n 1, 1) := by decide +kernel
theorem dX6_wood_108 : decode cX6_wood 108 = .ok (.iaload, 1) := by decide +kernel
theorem dX6_wood_109 : decode cX6_wood 109 = .ok (.ireturn, 1) := by decide +kernel
theorem dX6_wood_110 : decode cX6_wood 110 = .ok (.aload_n 3, 1) := by decide +kernel
theorem dX6_wood_111 : decode cX6_wood 111 = .ok (.getfield 195, 3) := by decide +kernel
theorem dX6_wood_114 : decode cX6_wood 114 = .ok (.iload_n 1, 1) := by decide +kernel
theorem dX6_wood_115 : decode cX6_wood 115 = .ok (.iaload, 1) := by decide +kernel
theorem dX6_wood_116 : decode cX6_wood 116 = .ok (.ireturn, 1) := by decide +kernel
theorem dX6_wood_117 : decode cX6_wood 117 = .ok (.ldc 72, 2) := by decide +kernel
theorem dX6_wood_119 : decode cX6_wood 119 = .ok (.ireturn, 1) := by decide +kernel
theorem dX6_clear_0 : decode cX6_clear 0 = .ok (.aload_n 0, 1) := by decide +kernel
theorem dX6_clear_1 : decode cX6_clear 1 = .ok (.getfield 39, 3) := by decide +kernel
theorem dX6_clear_4 : decode cX6_clear 4 = .ok (.getfield 111, 3) := by decide +kernel
theorem dX6_clear_7 : decode cX6_clear 7 = .ok (.getfield 115, 3) := by decide +kernel
theorem dX6_clear_10 : decode cX6_clear 10 = .ok (.istore_n 1, 1) := by decide +kernel
theorem dX6_clear_11 : decode cX6_clear 11 = .ok (.aload_n 0, 1) := by decide +kernel
theorem dX6_clear_12 : decode cX6_clear 12 = .ok (.getfield 39, 3) := by decide +kernel
theorem dX6_clear_15 : decode cX6_clear 15 = .ok (.getfield 111, 3) := by decide +kernel
theorem dX6_clear_18 : decode cX6_clear 18 = .ok (.iconst 0, 1) := by decide +kernel
theorem dX6_clear_19 : decode cX6_clear 19 = .ok (.putfield 115, 3) := by decide +kernel
theorem dX6_clear_22 : decode cX6_clear 22 = .ok (.iload_n 1, 1) := by decide +kernel
theorem dX6_clear_23 : decode cX6_clear 23 = .ok (.ireturn, 1) := by decide +kernel
theorem dX6_tried_0 : decode cX6_tried 0 = .ok (.iload_n 2, 1) := by decide +kernel
theorem dX6_tried_1 : decode cX6_tried 1 = .ok (.iconst 1, 1) := by decide +kernel
theorem dX6_tried_2 : decode cX6_tried 2 = .ok (.if_icmp .ne 14, 3) := by decide +kernel
theorem dX6_tried_5 : decode cX6_tried 5 = .ok (.aload_n 0, 1) := by decide +kernel
theorem dX6_tried_6 : decode cX6_tried 6 = .ok (.getfield 19, 3) := by decide +kernel
theorem dX6_tried_9 : decode cX6_tried 9 = .ok (.iload_n 3, 1) := by decide +kernel
theorem dX6_tried_10 : decode cX6_tried 10 = .ok (.invokevirtual 144, 3) := by decide +kernel
theorem dX6_tried_13 : decode cX6_tried 13 = .ok (.goto 11, 3) := by decide +kernel
theorem dX6_tried_16 : decode cX6_tried 16 = .ok (.aload_n 0, 1) := by decide +kernel
theorem dX6_tried_17 : decode cX6_tried 17 = .ok (.getfield 19, 3) := by decide +kernel
theorem dX6_tried_20 : decode cX6_tried 20 = .ok (.iload_n 3, 1) := by decide +kernel
theorem dX6_tried_21 : decode cX6_tried 21 = .ok (.invokevirtual 122, 3) := by decide +kernel
theorem dX6_tried_24 : decode cX6_tried 24 = .ok (.istore 4, 2) := by decide +kernel
theorem dX6_tried_26 : decode cX6_tried 26 = .ok (.iload 4, 2) := by decide +kernel
theorem dX6_tried_28 : decode cX6_tried 28 = .ok (.ifCond .ne 6, 3) := by decide +kernel
theorem dX6_tried_31 : decode cX6_tried 31 = .ok (.ldc 126, 2) := by decide +kernel
theorem dX6_tried_33 : decode cX6_tried 33 = .ok (.ireturn, 1) := by decide +kernel
theorem dX6_tried_34 : decode cX6_tried 34 = .ok (.iload_n 1, 1) := by decide +kernel
theorem dX6_tried_35 : decode cX6_tried 35 = .ok (.iconst 1, 1) := by decide +kernel
theorem dX6_tried_36 : decode cX6_tried 36 = .ok (.if_icmp .lt 19, 3) := by decide +kernel
theorem dX6_tried_39 : decode cX6_tried 39 = .ok (.iload_n 1, 1) := by decide +kernel
theorem dX6_tried_40 : decode cX6_tried 40 = .ok (.sipush 200, 3) := by decide +kernel
theorem dX6_tried_43 : decode cX6_tried 43 = .ok (.if_icmp .gt 12, 3) := by decide +kernel
theorem dX6_tried_46 : decode cX6_tried 46 = .ok (.iload_n 2, 1) := by decide +kernel
theorem dX6_tried_47 : decode cX6_tried 47 = .ok (.ifCond .lt 8, 3) := by decide +kernel
theorem dX6_tried_50 : decode cX6_tried 50 = .ok (.iload_n 2, 1) := by decide +kernel
theorem dX6_tried_51 : decode cX6_tried 51 = .ok (.iconst 2, 1) := by decide +kernel
theorem dX6_tried_52 : decode cX6_tried 52 = .ok (.if_icmp .le 6, 3) := by decide +kernel
theorem dX6_tried_55 : decode cX6_tried 55 = .ok (.ldc 72, 2) := by decide +kernel
theorem dX6_tried_57 : decode cX6_tried 57 = .ok (.ireturn, 1) := by decide +kernel
theorem dX6_tried_58 : decode cX6_tried 58 = .ok (.aload_n 0, 1) := by decide +kernel
theorem dX6_tried_59 : decode cX6_tried 59 = .ok (.getfield 43, 3) := by decide +kernel
theorem dX6_tried_62 : decode cX6_tried 62 = .ok (.aload_n 0, 1) := by decide +kernel
theorem dX6_tried_63 : decode cX6_tried 63 = .ok (.getfield 39, 3) := by decide +kernel
theorem dX6_tried_66 : decode cX6_tried 66 = .ok (.invokevirtual 198, 3) := by decide +kernel
theorem dX6_tried_69 : decode cX6_tried 69 = .ok (.aload_n 0, 1) := by decide +kernel
theorem dX6_tried_70 : decode cX6_tried 70 = .ok (.iload_n 1, 1) := by decide +kernel
theorem dX6_tried_71 : decode cX6_tried 71 = .ok (.invokevirtual 202, 3) := by decide +kernel
theorem dX6_tried_74 : decode cX6_tried 74 = .ok (.iload_n 2, 1) := by decide +kernel
theorem dX6_tried_75 : decode cX6_tried 75 = .ok (.ifCond .ne 13, 3) := by decide +kernel
theorem dX6_tried_78 : decode cX6_tried 78 = .ok (.aload_n 0, 1) := by decide +kernel
theorem dX6_tried_79 : decode cX6_tried 79 = .ok (.getfield 43, 3) := by decide +kernel
theorem dX6_tried_82 : decode cX6_tried 82 = .ok (.getfield 133, 3) := by decide +kernel
theorem dX6_tried_85 : decode cX6_tried 85 = .ok (.iload_n 3, 1) := by decide +kernel
theorem dX6_tried_86 : decode cX6_tried 86 = .ok (.iaload, 1) := by decide +kernel
theorem dX6_tried_87 : decode cX6_tried 87 = .ok (.ireturn, 1) := by decide +kernel
theorem dX6_tried_88 : decode cX6_tried 88 = .ok (.iload_n 2, 1) := by decide +kernel
theorem dX6_tried_89 : decode cX6_tried 89 = .ok (.iconst 1, 1) := by decide +kernel
theorem dX6_tried_90 : decode cX6_tried 90 = .ok (.if_icmp .ne 15, 3) := by decide +kernel
theorem dX6_tried_93 : decode cX6_tried 93 = .ok (.aload_n 0, 1) := by decide +kernel
theorem dX6_tried_94 : decode cX6_tried 94 = .ok (.getfield 43, 3) := by decide +kernel
theorem dX6_tried_97 : decode cX6_tried 97 = .ok (.getfield 153, 3) := by decide +kernel
theorem dX6_tried_100 : decode cX6_tried 100 = .ok (.iload_n 3, 1) := by decide +kernel
theorem dX6_tried_101 : decode cX6_tried 101 = .ok (.iaload, 1) := by decide +kernel
theorem dX6_tried_102 : decode cX6_tried 102 = .ok (.goto 15, 3) := by decide +kernel
theorem dX6_tried_105 : decode cX6_tried 105 = .ok (.aload_n 0, 1) := by decide +kernel
theorem dX6_tried_106 : decode cX6_tried 106 = .ok (.getfield 43, 3) := by decide +kernel
theorem dX6_tried_109 : decode cX6_tried 109 = .ok (.aload_n 0, 1) := by decide +kernel
theorem dX6_tried_110 : decode cX6_tried 110 = .ok (.getfield 19, 3) := by decide +kernel
theorem dX6_tried_113 : decode cX6_tried 113 = .ok (.iload_n 3, 1) := by decide +kernel
theorem dX6_tried_114 : decode cX6_tried 114 = .ok (.invokevirtual 136, 3) := by decide +kernel
theorem dX6_tried_117 : decode cX6_tried 117 = .ok (.ireturn, 1) := by decide +kernel
theorem dX6_slack_0 : decode cX6_slack 0 = .ok (.aload_n 0, 1) := by decide +kernel
theorem dX6_slack_1 : decode cX6_slack 1 = .ok (.getfield 19, 3) := by decide +kernel
theorem dX6_slack_4 : decode cX6_slack 4 = .ok (.iload_n 1, 1) := by decide +kernel
theorem dX6_slack_5 : decode cX6_slack 5 = .ok (.invokevirtual 144, 3) := by decide +kernel
theorem dX6_slack_8 : decode cX6_slack 8 = .ok (.ifCond .ne 6, 3) := by decide +kernel
theorem dX6_slack_11 : decode cX6_slack 11 = .ok (.ldc 126, 2) := by decide +kernel
theorem dX6_slack_13 : decode cX6_slack 13 = .ok (.ireturn, 1) := by decide +kernel
theorem dX6_slack_14 : decode cX6_slack 14 = .ok (.iload_n 2, 1) := by decide +kernel
theorem dX6_slack_15 : decode cX6_slack 15 = .ok (.ifCond .lt 8, 3) := by decide +kernel
theorem dX6_slack_18 : decode cX6_slack 18 = .ok (.iload_n 2, 1) := by decide +kernel
theorem dX6_slack_19 : decode cX6_slack 19 = .ok (.iconst 1, 1) := by decide +kernel
theorem dX6_slack_20 : decode cX6_slack 20 = .ok (.if_icmp .le 6, 3) := by decide +kernel
theorem dX6_slack_23 : decode cX6_slack 23 = .ok (.ldc 72, 2) := by decide +kernel
theorem dX6_slack_25 : decode cX6_slack 25 = .ok (.ireturn, 1) := by decide +kernel
theorem dX6_slack_26 : decode cX6_slack 26 = .ok (.aload_n 0, 1) := by decide +kernel
theorem dX6_slack_27 : decode cX6_slack 27 = .ok (.getfield 43, 3) := by decide +kernel
theorem dX6_slack_30 : decode cX6_slack 30 = .ok (.aload_n 0, 1) := by decide +kernel
theorem dX6_slack_31 : decode cX6_slack 31 = .ok (.getfield 39, 3) := by decide +kernel
theorem dX6_slack_34 : decode cX6_slack 34 = .ok (.invokevirtual 198, 3) := by decide +kernel
theorem dX6_slack_37 : decode cX6_slack 37 = .ok (.iconst (-1), 1) := by decide +kernel
theorem dX6_slack_38 : decode cX6_slack 38 = .ok (.istore_n 3, 1) := by decide +kernel
theorem dX6_slack_39 : decode cX6_slack 39 = .ok (.iconst 0, 1) := by decide +kernel
theorem dX6_slack_40 : decode cX6_slack 40 = .ok (.istore 4, 2) := by decide +kernel
theorem dX6_slack_42 : decode cX6_slack 42 = .ok (.iload 4, 2) := by decide +kernel
theorem dX6_slack_44 : decode cX6_slack 44 = .ok (.sipush 200, 3) := by decide +kernel
theorem dX6_slack_47 : decode cX6_slack 47 = .ok (.if_icmp .ge 79, 3) := by decide +kernel
theorem dX6_slack_50 : decode cX6_slack 50 = .ok (.aload_n 0, 1) := by decide +kernel
theorem dX6_slack_51 : decode cX6_slack 51 = .ok (.getfield 43, 3) := by decide +kernel
theorem dX6_slack_54 : decode cX6_slack 54 = .ok (.aload_n 0, 1) := by decide +kernel
theorem dX6_slack_55 : decode cX6_slack 55 = .ok (.getfield 19, 3) := by decide +kernel
theorem dX6_slack_58 : decode cX6_slack 58 = .ok (.aload_n 0, 1) := by decide +kernel
theorem dX6_slack_59 : decode cX6_slack 59 = .ok (.getfield 29, 3) := by decide +kernel
theorem dX6_slack_62 : decode cX6_slack 62 = .ok (.invokevirtual 162, 3) := by decide +kernel
theorem dX6_slack_65 : decode cX6_slack 65 = .ok (.aload_n 0, 1) := by decide +kernel
theorem dX6_slack_66 : decode cX6_slack 66 = .ok (.getfield 43, 3) := by decide +kernel
theorem dX6_slack_69 : decode cX6_slack 69 = .ok (.getfield 153, 3) := by decide +kernel
theorem dX6_slack_72 : decode cX6_slack 72 = .ok (.iload_n 1, 1) := by decide +kernel
theorem dX6_slack_73 : decode cX6_slack 73 = .ok (.iaload, 1) := by decide +kernel
theorem dX6_slack_74 : decode cX6_slack 74 = .ok (.ifCond .ne 7, 3) := by decide +kernel
theorem dX6_slack_77 : decode cX6_slack 77 = .ok (.iconst 1, 1) := by decide +kernel
theorem dX6_slack_78 : decode cX6_slack 78 = .ok (.goto 4, 3) := by decide +kernel
theorem dX6_slack_81 : decode cX6_slack 81 = .ok (.iconst 0, 1) := by decide +kernel
theorem dX6_slack_82 : decode cX6_slack 82 = .ok (.istore 5, 2) := by decide +kernel
theorem dX6_slack_84 : decode cX6_slack 84 = .ok (.iload 5, 2) := by decide +kernel
theorem dX6_slack_86 : decode cX6_slack 86 = .ok (.ifCond .eq 11, 3) := by decide +kernel
theorem dX6_slack_89 : decode cX6_slack 89 = .ok (.iload_n 3, 1) := by decide +kernel
theorem dX6_slack_90 : decode cX6_slack 90 = .ok (.iconst (-1), 1) := by decide +kernel
theorem dX6_slack_91 : decode cX6_slack 91 = .ok (.if_icmp .ne 6, 3) := by decide +kernel
theorem dX6_slack_94 : decode cX6_slack 94 = .ok (.iload 4, 2) := by decide +kernel
theorem dX6_slack_96 : decode cX6_slack 96 = .ok (.istore_n 3, 1) := by decide +kernel
theorem dX6_slack_97 : decode cX6_slack 97 = .ok (.iload 5, 2) := by decide +kernel
theorem dX6_slack_99 : decode cX6_slack 99 = .ok (.ifCond .ne 21, 3) := by decide +kernel
theorem dX6_slack_102 : decode cX6_slack 102 = .ok (.iload_n 3, 1) := by decide +kernel
theorem dX6_slack_103 : decode cX6_slack 103 = .ok (.iconst (-1), 1) := by decide +kernel
theorem dX6_slack_104 : decode cX6_slack 104 = .ok (.if_icmp .eq 16, 3) := by decide +kernel
theorem dX6_slack_107 : decode cX6_slack 107 = .ok (.iload_n 2, 1) := by decide +kernel
theorem dX6_slack_108 : decode cX6_slack 108 = .ok (.ifCond .ne 7, 3) := by decide +kernel
theorem dX6_slack_111 : decode cX6_slack 111 = .ok (.iload_n 3, 1) := by decide +kernel
theorem dX6_slack_112 : decode cX6_slack 112 = .ok (.goto 7, 3) := by decide +kernel
theorem dX6_slack_115 : decode cX6_slack 115 = .ok (.iload 4, 2) := by decide +kernel
theorem dX6_slack_117 : decode cX6_slack 117 = .ok (.iload_n 3, 1) := by decide +kernel
theorem dX6_slack_118 : decode cX6_slack 118 = .ok (.isub, 1) := by decide +kernel
theorem dX6_slack_119 : decode cX6_slack 119 = .ok (.ireturn, 1) := by decide +kernel
theorem dX6_slack_120 : decode cX6_slack 120 = .ok (.iinc 4 1, 3) := by decide +kernel
theorem dX6_slack_123 : decode cX6_slack 123 = .ok (.goto (-81), 3) := by decide +kernel
theorem dX6_slack_126 : decode cX6_slack 126 = .ok (.iload_n 2, 1) := by decide +kernel
theorem dX6_slack_127 : decode cX6_slack 127 = .ok (.ifCond .eq 8, 3) := by decide +kernel
theorem dX6_slack_130 : decode cX6_slack 130 = .ok (.iload_n 3, 1) := by decide +kernel
theorem dX6_slack_131 : decode cX6_slack 131 = .ok (.iconst (-1), 1) := by decide +kernel
