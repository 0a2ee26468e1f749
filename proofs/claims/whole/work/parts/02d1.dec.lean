theorem dX6_slack_132 : decode cX6_slack 132 = .ok (.if_icmp .ne 7, 3) := by decide +kernel
theorem dX6_slack_135 : decode cX6_slack 135 = .ok (.iload_n 3, 1) := by decide +kernel
theorem dX6_slack_136 : decode cX6_slack 136 = .ok (.goto 8, 3) := by decide +kernel
theorem dX6_slack_139 : decode cX6_slack 139 = .ok (.sipush 200, 3) := by decide +kernel
theorem dX6_slack_142 : decode cX6_slack 142 = .ok (.iload_n 3, 1) := by decide +kernel
theorem dX6_slack_143 : decode cX6_slack 143 = .ok (.isub, 1) := by decide +kernel
theorem dX6_slack_144 : decode cX6_slack 144 = .ok (.ireturn, 1) := by decide +kernel
theorem dX6_boat_0 : decode cX6_boat 0 = .ok (.aload_n 0, 1) := by decide +kernel
theorem dX6_boat_1 : decode cX6_boat 1 = .ok (.getfield 19, 3) := by decide +kernel
theorem dX6_boat_4 : decode cX6_boat 4 = .ok (.iload_n 1, 1) := by decide +kernel
theorem dX6_boat_5 : decode cX6_boat 5 = .ok (.invokevirtual 122, 3) := by decide +kernel
theorem dX6_boat_8 : decode cX6_boat 8 = .ok (.ifCond .eq 14, 3) := by decide +kernel
theorem dX6_boat_11 : decode cX6_boat 11 = .ok (.aload_n 0, 1) := by decide +kernel
theorem dX6_boat_12 : decode cX6_boat 12 = .ok (.getfield 19, 3) := by decide +kernel
theorem dX6_boat_15 : decode cX6_boat 15 = .ok (.iload_n 2, 1) := by decide +kernel
theorem dX6_boat_16 : decode cX6_boat 16 = .ok (.invokevirtual 122, 3) := by decide +kernel
theorem dX6_boat_19 : decode cX6_boat 19 = .ok (.ifCond .ne 6, 3) := by decide +kernel
theorem dX6_boat_22 : decode cX6_boat 22 = .ok (.ldc 126, 2) := by decide +kernel
theorem dX6_boat_24 : decode cX6_boat 24 = .ok (.ireturn, 1) := by decide +kernel
theorem dX6_boat_25 : decode cX6_boat 25 = .ok (.iload_n 3, 1) := by decide +kernel
theorem dX6_boat_26 : decode cX6_boat 26 = .ok (.ifCond .lt 10, 3) := by decide +kernel
theorem dX6_boat_29 : decode cX6_boat 29 = .ok (.iload_n 3, 1) := by decide +kernel
theorem dX6_boat_30 : decode cX6_boat 30 = .ok (.sipush 999, 3) := by decide +kernel
theorem dX6_boat_33 : decode cX6_boat 33 = .ok (.if_icmp .le 6, 3) := by decide +kernel
theorem dX6_boat_36 : decode cX6_boat 36 = .ok (.ldc 72, 2) := by decide +kernel
theorem dX6_boat_38 : decode cX6_boat 38 = .ok (.ireturn, 1) := by decide +kernel
theorem dX6_boat_39 : decode cX6_boat 39 = .ok (.aload_n 0, 1) := by decide +kernel
theorem dX6_boat_40 : decode cX6_boat 40 = .ok (.iload_n 1, 1) := by decide +kernel
theorem dX6_boat_41 : decode cX6_boat 41 = .ok (.iload_n 2, 1) := by decide +kernel
theorem dX6_boat_42 : decode cX6_boat 42 = .ok (.iload_n 3, 1) := by decide +kernel
theorem dX6_boat_43 : decode cX6_boat 43 = .ok (.invokevirtual 206, 3) := by decide +kernel
theorem dX6_boat_46 : decode cX6_boat 46 = .ok (.istore 5, 2) := by decide +kernel
theorem dX6_boat_48 : decode cX6_boat 48 = .ok (.iload 4, 2) := by decide +kernel
theorem dX6_boat_50 : decode cX6_boat 50 = .ok (.iconst (-1), 1) := by decide +kernel
theorem dX6_boat_51 : decode cX6_boat 51 = .ok (.if_icmp .ne 6, 3) := by decide +kernel
theorem dX6_boat_54 : decode cX6_boat 54 = .ok (.iload 5, 2) := by decide +kernel
theorem dX6_boat_56 : decode cX6_boat 56 = .ok (.ireturn, 1) := by decide +kernel
theorem dX6_boat_57 : decode cX6_boat 57 = .ok (.iload 4, 2) := by decide +kernel
theorem dX6_boat_59 : decode cX6_boat 59 = .ok (.bipush (-2), 2) := by decide +kernel
theorem dX6_boat_61 : decode cX6_boat 61 = .ok (.if_icmp .ne 24, 3) := by decide +kernel
theorem dX6_boat_64 : decode cX6_boat 64 = .ok (.iload 5, 2) := by decide +kernel
theorem dX6_boat_66 : decode cX6_boat 66 = .ok (.iconst (-1), 1) := by decide +kernel
theorem dX6_boat_67 : decode cX6_boat 67 = .ok (.if_icmp .ne 8, 3) := by decide +kernel
theorem dX6_boat_70 : decode cX6_boat 70 = .ok (.ldc 103, 2) := by decide +kernel
theorem dX6_boat_72 : decode cX6_boat 72 = .ok (.goto 12, 3) := by decide +kernel
theorem dX6_boat_75 : decode cX6_boat 75 = .ok (.aload_n 0, 1) := by decide +kernel
theorem dX6_boat_76 : decode cX6_boat 76 = .ok (.getfield 19, 3) := by decide +kernel
theorem dX6_boat_79 : decode cX6_boat 79 = .ok (.iload_n 1, 1) := by decide +kernel
theorem dX6_boat_80 : decode cX6_boat 80 = .ok (.iload_n 2, 1) := by decide +kernel
theorem dX6_boat_81 : decode cX6_boat 81 = .ok (.invokevirtual 210, 3) := by decide +kernel
theorem dX6_boat_84 : decode cX6_boat 84 = .ok (.ireturn, 1) := by decide +kernel
theorem dX6_boat_85 : decode cX6_boat 85 = .ok (.iload 4, 2) := by decide +kernel
theorem dX6_boat_87 : decode cX6_boat 87 = .ok (.ifCond .lt 10, 3) := by decide +kernel
theorem dX6_boat_90 : decode cX6_boat 90 = .ok (.iload 4, 2) := by decide +kernel
theorem dX6_boat_92 : decode cX6_boat 92 = .ok (.iload 5, 2) := by decide +kernel
theorem dX6_boat_94 : decode cX6_boat 94 = .ok (.if_icmp .lt 5, 3) := by decide +kernel
theorem dX6_boat_97 : decode cX6_boat 97 = .ok (.iconst (-1), 1) := by decide +kernel
theorem dX6_boat_98 : decode cX6_boat 98 = .ok (.ireturn, 1) := by decide +kernel
theorem dX6_boat_99 : decode cX6_boat 99 = .ok (.aload_n 0, 1) := by decide +kernel
theorem dX6_boat_100 : decode cX6_boat 100 = .ok (.getfield 57, 3) := by decide +kernel
theorem dX6_boat_103 : decode cX6_boat 103 = .ok (.iload 4, 2) := by decide +kernel
theorem dX6_boat_105 : decode cX6_boat 105 = .ok (.iload_n 1, 1) := by decide +kernel
theorem dX6_boat_106 : decode cX6_boat 106 = .ok (.iload_n 2, 1) := by decide +kernel
theorem dX6_boat_107 : decode cX6_boat 107 = .ok (.invokevirtual 213, 3) := by decide +kernel
theorem dX6_boat_110 : decode cX6_boat 110 = .ok (.ireturn, 1) := by decide +kernel
theorem dX6_sent_0 : decode cX6_sent 0 = .ok (.aload_n 0, 1) := by decide +kernel
theorem dX6_sent_1 : decode cX6_sent 1 = .ok (.getfield 19, 3) := by decide +kernel
theorem dX6_sent_4 : decode cX6_sent 4 = .ok (.iload_n 1, 1) := by decide +kernel
theorem dX6_sent_5 : decode cX6_sent 5 = .ok (.invokevirtual 122, 3) := by decide +kernel
theorem dX6_sent_8 : decode cX6_sent 8 = .ok (.ifCond .ne 6, 3) := by decide +kernel
theorem dX6_sent_11 : decode cX6_sent 11 = .ok (.ldc 126, 2) := by decide +kernel
theorem dX6_sent_13 : decode cX6_sent 13 = .ok (.ireturn, 1) := by decide +kernel
theorem dX6_sent_14 : decode cX6_sent 14 = .ok (.iload_n 2, 1) := by decide +kernel
theorem dX6_sent_15 : decode cX6_sent 15 = .ok (.ifCond .lt 26, 3) := by decide +kernel
theorem dX6_sent_18 : decode cX6_sent 18 = .ok (.iload_n 2, 1) := by decide +kernel
theorem dX6_sent_19 : decode cX6_sent 19 = .ok (.bipush 100, 2) := by decide +kernel
theorem dX6_sent_21 : decode cX6_sent 21 = .ok (.if_icmp .gt 20, 3) := by decide +kernel
theorem dX6_sent_24 : decode cX6_sent 24 = .ok (.iload_n 3, 1) := by decide +kernel
theorem dX6_sent_25 : decode cX6_sent 25 = .ok (.ifCond .lt 16, 3) := by decide +kernel
theorem dX6_sent_28 : decode cX6_sent 28 = .ok (.iload_n 3, 1) := by decide +kernel
theorem dX6_sent_29 : decode cX6_sent 29 = .ok (.iload_n 2, 1) := by decide +kernel
theorem dX6_sent_30 : decode cX6_sent 30 = .ok (.if_icmp .gt 11, 3) := by decide +kernel
theorem dX6_sent_33 : decode cX6_sent 33 = .ok (.iload 4, 2) := by decide +kernel
theorem dX6_sent_35 : decode cX6_sent 35 = .ok (.invokestatic 172, 3) := by decide +kernel
theorem dX6_sent_38 : decode cX6_sent 38 = .ok (.ifCond .ne 6, 3) := by decide +kernel
theorem dX6_sent_41 : decode cX6_sent 41 = .ok (.ldc 72, 2) := by decide +kernel
theorem dX6_sent_43 : decode cX6_sent 43 = .ok (.ireturn, 1) := by decide +kernel
theorem dX6_sent_44 : decode cX6_sent 44 = .ok (.iconst 0, 1) := by decide +kernel
theorem dX6_sent_45 : decode cX6_sent 45 = .ok (.istore 5, 2) := by decide +kernel
theorem dX6_sent_47 : decode cX6_sent 47 = .ok (.iload 5, 2) := by decide +kernel
theorem dX6_sent_49 : decode cX6_sent 49 = .ok (.aload_n 0, 1) := by decide +kernel
theorem dX6_sent_50 : decode cX6_sent 50 = .ok (.getfield 19, 3) := by decide +kernel
theorem dX6_sent_53 : decode cX6_sent 53 = .ok (.getfield 100, 3) := by decide +kernel
theorem dX6_sent_56 : decode cX6_sent 56 = .ok (.if_icmp .ge 18, 3) := by decide +kernel
theorem dX6_sent_59 : decode cX6_sent 59 = .ok (.aload_n 0, 1) := by decide +kernel
theorem dX6_sent_60 : decode cX6_sent 60 = .ok (.getfield 61, 3) := by decide +kernel
theorem dX6_sent_63 : decode cX6_sent 63 = .ok (.iload 5, 2) := by decide +kernel
theorem dX6_sent_65 : decode cX6_sent 65 = .ok (.iload 5, 2) := by decide +kernel
theorem dX6_sent_67 : decode cX6_sent 67 = .ok (.iastore, 1) := by decide +kernel
theorem dX6_sent_68 : decode cX6_sent 68 = .ok (.iinc 5 1, 3) := by decide +kernel
theorem dX6_sent_71 : decode cX6_sent 71 = .ok (.goto (-24), 3) := by decide +kernel
theorem dX6_sent_74 : decode cX6_sent 74 = .ok (.aload_n 0, 1) := by decide +kernel
theorem dX6_sent_75 : decode cX6_sent 75 = .ok (.getfield 43, 3) := by decide +kernel
theorem dX6_sent_78 : decode cX6_sent 78 = .ok (.aload_n 0, 1) := by decide +kernel
theorem dX6_sent_79 : decode cX6_sent 79 = .ok (.getfield 39, 3) := by decide +kernel
theorem dX6_sent_82 : decode cX6_sent 82 = .ok (.invokevirtual 198, 3) := by decide +kernel
theorem dX6_sent_85 : decode cX6_sent 85 = .ok (.iconst 0, 1) := by decide +kernel
theorem dX6_sent_86 : decode cX6_sent 86 = .ok (.istore 5, 2) := by decide +kernel
theorem dX6_sent_88 : decode cX6_sent 88 = .ok (.iload 5, 2) := by decide +kernel
theorem dX6_sent_90 : decode cX6_sent 90 = .ok (.iload_n 2, 1) := by decide +kernel
theorem dX6_sent_91 : decode cX6_sent 91 = .ok (.if_icmp .ge 36, 3) := by decide +kernel
theorem dX6_sent_94 : decode cX6_sent 94 = .ok (.aload_n 0, 1) := by decide +kernel
theorem dX6_sent_95 : decode cX6_sent 95 = .ok (.getfield 43, 3) := by decide +kernel
theorem dX6_sent_98 : decode cX6_sent 98 = .ok (.aload_n 0, 1) := by decide +kernel
theorem dX6_sent_99 : decode cX6_sent 99 = .ok (.getfield 19, 3) := by decide +kernel
theorem dX6_sent_102 : decode cX6_sent 102 = .ok (.aload_n 0, 1) := by decide +kernel
theorem dX6_sent_103 : decode cX6_sent 103 = .ok (.getfield 29, 3) := by decide +kernel
theorem dX6_sent_106 : decode cX6_sent 106 = .ok (.invokevirtual 162, 3) := by decide +kernel
theorem dX6_sent_109 : decode cX6_sent 109 = .ok (.iload 5, 2) := by decide +kernel
theorem dX6_sent_111 : decode cX6_sent 111 = .ok (.iload_n 3, 1) := by decide +kernel
theorem dX6_sent_112 : decode cX6_sent 112 = .ok (.if_icmp .lt 9, 3) := by decide +kernel
theorem dX6_sent_115 : decode cX6_sent 115 = .ok (.aload_n 0, 1) := by decide +kernel
theorem dX6_sent_116 : decode cX6_sent 116 = .ok (.iload 4, 2) := by decide +kernel
theorem dX6_sent_118 : decode cX6_sent 118 = .ok (.invokevirtual 216, 3) := by decide +kernel
theorem dX6_sent_121 : decode cX6_sent 121 = .ok (.iinc 5 1, 3) := by decide +kernel
theorem dX6_sent_124 : decode cX6_sent 124 = .ok (.goto (-36), 3) := by decide +kernel
theorem dX6_sent_127 : decode cX6_sent 127 = .ok (.iconst 0, 1) := by decide +kernel
theorem dX6_sent_128 : decode cX6_sent 128 = .ok (.istore 5, 2) := by decide +kernel
theorem dX6_sent_130 : decode cX6_sent 130 = .ok (.iconst 0, 1) := by decide +kernel
theorem dX6_sent_131 : decode cX6_sent 131 = .ok (.istore 6, 2) := by decide +kernel
theorem dX6_sent_133 : decode cX6_sent 133 = .ok (.iload 6, 2) := by decide +kernel
theorem dX6_sent_135 : decode cX6_sent 135 = .ok (.aload_n 0, 1) := by decide +kernel
theorem dX6_sent_136 : decode cX6_sent 136 = .ok (.getfield 19, 3) := by decide +kernel
theorem dX6_sent_139 : decode cX6_sent 139 = .ok (.getfield 100, 3) := by decide +kernel
theorem dX6_sent_142 : decode cX6_sent 142 = .ok (.if_icmp .ge 29, 3) := by decide +kernel
theorem dX6_sent_145 : decode cX6_sent 145 = .ok (.aload_n 0, 1) := by decide +kernel
theorem dX6_sent_146 : decode cX6_sent 146 = .ok (.getfield 61, 3) := by decide +kernel
theorem dX6_sent_149 : decode cX6_sent 149 = .ok (.iload 6, 2) := by decide +kernel
theorem dX6_sent_151 : decode cX6_sent 151 = .ok (.iaload, 1) := by decide +kernel
theorem dX6_sent_152 : decode cX6_sent 152 = .ok (.iload_n 1, 1) := by decide +kernel
theorem dX6_sent_153 : decode cX6_sent 153 = .ok (.if_icmp .ne 12, 3) := by decide +kernel
theorem dX6_sent_156 : decode cX6_sent 156 = .ok (.iload 5, 2) := by decide +kernel
theorem dX6_sent_158 : decode cX6_sent 158 = .ok (.iconst 1, 1) := by decide +kernel
theorem dX6_sent_159 : decode cX6_sent 159 = .ok (.iload 6, 2) := by decide +kernel
theorem dX6_sent_161 : decode cX6_sent 161 = .ok (.ishl, 1) := by decide +kernel
theorem dX6_sent_162 : decode cX6_sent 162 = .ok (.ior, 1) := by decide +kernel
theorem dX6_sent_163 : decode cX6_sent 163 = .ok (.istore 5, 2) := by decide +kernel
theorem dX6_sent_165 : decode cX6_sent 165 = .ok (.iinc 6 1, 3) := by decide +kernel
theorem dX6_sent_168 : decode cX6_sent 168 = .ok (.goto (-35), 3) := by decide +kernel
theorem dX6_sent_171 : decode cX6_sent 171 = .ok (.iload 5, 2) := by decide +kernel
theorem dX6_sent_173 : decode cX6_sent 173 = .ok (.ireturn, 1) := by decide +kernel
theorem dX6_ring_0 : decode cX6_ring 0 = .ok (.aload_n 0, 1) := by decide +kernel
theorem dX6_ring_1 : decode cX6_ring 1 = .ok (.getfield 19, 3) := by decide +kernel
theorem dX6_ring_4 : decode cX6_ring 4 = .ok (.iload_n 1, 1) := by decide +kernel
theorem dX6_ring_5 : decode cX6_ring 5 = .ok (.invokevirtual 122, 3) := by decide +kernel
theorem dX6_ring_8 : decode cX6_ring 8 = .ok (.ifCond .ne 6, 3) := by decide +kernel
theorem dX6_ring_11 : decode cX6_ring 11 = .ok (.ldc 126, 2) := by decide +kernel
theorem dX6_ring_13 : decode cX6_ring 13 = .ok (.ireturn, 1) := by decide +kernel
theorem dX6_ring_14 : decode cX6_ring 14 = .ok (.iload_n 2, 1) := by decide +kernel
theorem dX6_ring_15 : decode cX6_ring 15 = .ok (.invokestatic 172, 3) := by decide +kernel
theorem dX6_ring_18 : decode cX6_ring 18 = .ok (.ifCond .ne 6, 3) := by decide +kernel
theorem dX6_ring_21 : decode cX6_ring 21 = .ok (.ldc 72, 2) := by decide +kernel
theorem dX6_ring_23 : decode cX6_ring 23 = .ok (.ireturn, 1) := by decide +kernel
theorem dX6_ring_24 : decode cX6_ring 24 = .ok (.aload_n 0, 1) := by decide +kernel
theorem dX6_ring_25 : decode cX6_ring 25 = .ok (.getfield 43, 3) := by decide +kernel
theorem dX6_ring_28 : decode cX6_ring 28 = .ok (.aload_n 0, 1) := by decide +kernel
theorem dX6_ring_29 : decode cX6_ring 29 = .ok (.getfield 39, 3) := by decide +kernel
theorem dX6_ring_32 : decode cX6_ring 32 = .ok (.invokevirtual 198, 3) := by decide +kernel
theorem dX6_ring_35 : decode cX6_ring 35 = .ok (.iload_n 1, 1) := by decide +kernel
theorem dX6_ring_36 : decode cX6_ring 36 = .ok (.istore_n 3, 1) := by decide +kernel
theorem dX6_ring_37 : decode cX6_ring 37 = .ok (.iconst 1, 1) := by decide +kernel
theorem dX6_ring_38 : decode cX6_ring 38 = .ok (.istore 4, 2) := by decide +kernel
theorem dX6_ring_40 : decode cX6_ring 40 = .ok (.iload 4, 2) := by decide +kernel
theorem dX6_ring_42 : decode cX6_ring 42 = .ok (.sipush 200, 3) := by decide +kernel
theorem dX6_ring_45 : decode cX6_ring 45 = .ok (.if_icmp .gt 57, 3) := by decide +kernel
theorem dX6_ring_48 : decode cX6_ring 48 = .ok (.aload_n 0, 1) := by decide +kernel
theorem dX6_ring_49 : decode cX6_ring 49 = .ok (.getfield 43, 3) := by decide +kernel
theorem dX6_ring_52 : decode cX6_ring 52 = .ok (.aload_n 0, 1) := by decide +kernel
theorem dX6_ring_53 : decode cX6_ring 53 = .ok (.getfield 19, 3) := by decide +kernel
theorem dX6_ring_56 : decode cX6_ring 56 = .ok (.aload_n 0, 1) := by decide +kernel
theorem dX6_ring_57 : decode cX6_ring 57 = .ok (.getfield 29, 3) := by decide +kernel
theorem dX6_ring_60 : decode cX6_ring 60 = .ok (.invokevirtual 162, 3) := by decide +kernel
theorem dX6_ring_63 : decode cX6_ring 63 = .ok (.aload_n 0, 1) := by decide +kernel
theorem dX6_ring_64 : decode cX6_ring 64 = .ok (.getfield 43, 3) := by decide +kernel
theorem dX6_ring_67 : decode cX6_ring 67 = .ok (.aload_n 0, 1) := by decide +kernel
theorem dX6_ring_68 : decode cX6_ring 68 = .ok (.getfield 19, 3) := by decide +kernel
theorem dX6_ring_71 : decode cX6_ring 71 = .ok (.iload_n 3, 1) := by decide +kernel
theorem dX6_ring_72 : decode cX6_ring 72 = .ok (.iload_n 2, 1) := by decide +kernel
theorem dX6_ring_73 : decode cX6_ring 73 = .ok (.invokevirtual 219, 3) := by decide +kernel
theorem dX6_ring_76 : decode cX6_ring 76 = .ok (.istore 5, 2) := by decide +kernel
theorem dX6_ring_78 : decode cX6_ring 78 = .ok (.iload_n 3, 1) := by decide +kernel
theorem dX6_ring_79 : decode cX6_ring 79 = .ok (.iload 5, 2) := by decide +kernel
theorem dX6_ring_81 : decode cX6_ring 81 = .ok (.iadd, 1) := by decide +kernel
theorem dX6_ring_82 : decode cX6_ring 82 = .ok (.istore_n 3, 1) := by decide +kernel
theorem dX6_ring_83 : decode cX6_ring 83 = .ok (.iload 5, 2) := by decide +kernel
theorem dX6_ring_85 : decode cX6_ring 85 = .ok (.ifCond .eq 11, 3) := by decide +kernel
theorem dX6_ring_88 : decode cX6_ring 88 = .ok (.iload_n 3, 1) := by decide +kernel
theorem dX6_ring_89 : decode cX6_ring 89 = .ok (.iload_n 1, 1) := by decide +kernel
theorem dX6_ring_90 : decode cX6_ring 90 = .ok (.if_icmp .ne 6, 3) := by decide +kernel
theorem dX6_ring_93 : decode cX6_ring 93 = .ok (.iload 4, 2) := by decide +kernel
theorem dX6_ring_95 : decode cX6_ring 95 = .ok (.ireturn, 1) := by decide +kernel
theorem dX6_ring_96 : decode cX6_ring 96 = .ok (.iinc 4 1, 3) := by decide +kernel
theorem dX6_ring_99 : decode cX6_ring 99 = .ok (.goto (-59), 3) := by decide +kernel
theorem dX6_ring_102 : decode cX6_ring 102 = .ok (.iconst (-1), 1) := by decide +kernel
theorem dX6_ring_103 : decode cX6_ring 103 = .ok (.ireturn, 1) := by decide +kernel
theorem dX6_drained_0 : decode cX6_drained 0 = .ok (.aload_n 0, 1) := by decide +kernel
theorem dX6_drained_1 : decode cX6_drained 1 = .ok (.getfield 19, 3) := by decide +kernel
theorem dX6_drained_4 : decode cX6_drained 4 = .ok (.iload_n 1, 1) := by decide +kernel
theorem dX6_drained_5 : decode cX6_drained 5 = .ok (.invokevirtual 144, 3) := by decide +kernel
theorem dX6_drained_8 : decode cX6_drained 8 = .ok (.ifCond .ne 6, 3) := by decide +kernel
theorem dX6_drained_11 : decode cX6_drained 11 = .ok (.ldc 126, 2) := by decide +kernel
theorem dX6_drained_13 : decode cX6_drained 13 = .ok (.ireturn, 1) := by decide +kernel
theorem dX6_drained_14 : decode cX6_drained 14 = .ok (.iload_n 2, 1) := by decide +kernel
theorem dX6_drained_15 : decode cX6_drained 15 = .ok (.ifCond .lt 21, 3) := by decide +kernel
theorem dX6_drained_18 : decode cX6_drained 18 = .ok (.iload_n 2, 1) := by decide +kernel
theorem dX6_drained_19 : decode cX6_drained 19 = .ok (.bipush 9, 2) := by decide +kernel
theorem dX6_drained_21 : decode cX6_drained 21 = .ok (.if_icmp .gt 15, 3) := by decide +kernel
theorem dX6_drained_24 : decode cX6_drained 24 = .ok (.iload_n 3, 1) := by decide +kernel
theorem dX6_drained_25 : decode cX6_drained 25 = .ok (.iconst 1, 1) := by decide +kernel
theorem dX6_drained_26 : decode cX6_drained 26 = .ok (.if_icmp .lt 10, 3) := by decide +kernel
theorem dX6_drained_29 : decode cX6_drained 29 = .ok (.iload_n 3, 1) := by decide +kernel
theorem dX6_drained_30 : decode cX6_drained 30 = .ok (.sipush 200, 3) := by decide +kernel
theorem dX6_drained_33 : decode cX6_drained 33 = .ok (.if_icmp .le 6, 3) := by decide +kernel
theorem dX6_drained_36 : decode cX6_drained 36 = .ok (.ldc 72, 2) := by decide +kernel
theorem dX6_drained_38 : decode cX6_drained 38 = .ok (.ireturn, 1) := by decide +kernel
theorem dX6_drained_39 : decode cX6_drained 39 = .ok (.aload_n 0, 1) := by decide +kernel
theorem dX6_drained_40 : decode cX6_drained 40 = .ok (.getfield 43, 3) := by decide +kernel
theorem dX6_drained_43 : decode cX6_drained 43 = .ok (.aload_n 0, 1) := by decide +kernel
theorem dX6_drained_44 : decode cX6_drained 44 = .ok (.getfield 39, 3) := by decide +kernel
theorem dX6_drained_47 : decode cX6_drained 47 = .ok (.invokevirtual 198, 3) := by decide +kernel
theorem dX6_drained_50 : decode cX6_drained 50 = .ok (.aload_n 0, 1) := by decide +kernel
theorem dX6_drained_51 : decode cX6_drained 51 = .ok (.iload_n 3, 1) := by decide +kernel
theorem dX6_drained_52 : decode cX6_drained 52 = .ok (.invokevirtual 202, 3) := by decide +kernel
theorem dX6_drained_55 : decode cX6_drained 55 = .ok (.aload_n 0, 1) := by decide +kernel
theorem dX6_drained_56 : decode cX6_drained 56 = .ok (.getfield 43, 3) := by decide +kernel
theorem dX6_drained_59 : decode cX6_drained 59 = .ok (.getfield 133, 3) := by decide +kernel
theorem dX6_drained_62 : decode cX6_drained 62 = .ok (.iconst 0, 1) := by decide +kernel
theorem dX6_drained_63 : decode cX6_drained 63 = .ok (.iaload, 1) := by decide +kernel
theorem dX6_drained_64 : decode cX6_drained 64 = .ok (.istore 4, 2) := by decide +kernel
theorem dX6_drained_66 : decode cX6_drained 66 = .ok (.iload 4, 2) := by decide +kernel
theorem dX6_drained_68 : decode cX6_drained 68 = .ok (.aload_n 0, 1) := by decide +kernel
theorem dX6_drained_69 : decode cX6_drained 69 = .ok (.iload_n 1, 1) := by decide +kernel
theorem dX6_drained_70 : decode cX6_drained 70 = .ok (.iload_n 2, 1) := by decide +kernel
theorem dX6_drained_71 : decode cX6_drained 71 = .ok (.iload_n 3, 1) := by decide +kernel
theorem dX6_drained_72 : decode cX6_drained 72 = .ok (.invokevirtual 223, 3) := by decide +kernel
theorem dX6_drained_75 : decode cX6_drained 75 = .ok (.isub, 1) := by decide +kernel
theorem dX6_drained_76 : decode cX6_drained 76 = .ok (.ireturn, 1) := by decide +kernel
theorem dX6_nearest_0 : decode cX6_nearest 0 = .ok (.aload_n 0, 1) := by decide +kernel
theorem dX6_nearest_1 : decode cX6_nearest 1 = .ok (.getfield 19, 3) := by decide +kernel
theorem dX6_nearest_4 : decode cX6_nearest 4 = .ok (.iload_n 1, 1) := by decide +kernel
theorem dX6_nearest_5 : decode cX6_nearest 5 = .ok (.invokevirtual 144, 3) := by decide +kernel
theorem dX6_nearest_8 : decode cX6_nearest 8 = .ok (.ifCond .ne 6, 3) := by decide +kernel
theorem dX6_nearest_11 : decode cX6_nearest 11 = .ok (.ldc 126, 2) := by decide +kernel
theorem dX6_nearest_13 : decode cX6_nearest 13 = .ok (.ireturn, 1) := by decide +kernel
theorem dX6_nearest_14 : decode cX6_nearest 14 = .ok (.iload_n 2, 1) := by decide +kernel
theorem dX6_nearest_15 : decode cX6_nearest 15 = .ok (.ifCond .lt 21, 3) := by decide +kernel
theorem dX6_nearest_18 : decode cX6_nearest 18 = .ok (.iload_n 2, 1) := by decide +kernel
theorem dX6_nearest_19 : decode cX6_nearest 19 = .ok (.ldc 226, 2) := by decide +kernel
theorem dX6_nearest_21 : decode cX6_nearest 21 = .ok (.if_icmp .gt 15, 3) := by decide +kernel
theorem dX6_nearest_24 : decode cX6_nearest 24 = .ok (.iload_n 3, 1) := by decide +kernel
theorem dX6_nearest_25 : decode cX6_nearest 25 = .ok (.iconst 1, 1) := by decide +kernel
theorem dX6_nearest_26 : decode cX6_nearest 26 = .ok (.if_icmp .lt 10, 3) := by decide +kernel
theorem dX6_nearest_29 : decode cX6_nearest 29 = .ok (.iload_n 3, 1) := by decide +kernel
theorem dX6_nearest_30 : decode cX6_nearest 30 = .ok (.sipush 200, 3) := by decide +kernel
theorem dX6_nearest_33 : decode cX6_nearest 33 = .ok (.if_icmp .le 6, 3) := by decide +kernel
theorem dX6_nearest_36 : decode cX6_nearest 36 = .ok (.ldc 72, 2) := by decide +kernel
theorem dX6_nearest_38 : decode cX6_nearest 38 = .ok (.ireturn, 1) := by decide +kernel
theorem dX6_nearest_39 : decode cX6_nearest 39 = .ok (.iconst 0, 1) := by decide +kernel
theorem dX6_nearest_40 : decode cX6_nearest 40 = .ok (.istore 4, 2) := by decide +kernel
theorem dX6_nearest_42 : decode cX6_nearest 42 = .ok (.aload_n 0, 1) := by decide +kernel
theorem dX6_nearest_43 : decode cX6_nearest 43 = .ok (.iload_n 1, 1) := by decide +kernel
theorem dX6_nearest_44 : decode cX6_nearest 44 = .ok (.iconst 0, 1) := by decide +kernel
theorem dX6_nearest_45 : decode cX6_nearest 45 = .ok (.iload_n 3, 1) := by decide +kernel
theorem dX6_nearest_46 : decode cX6_nearest 46 = .ok (.invokevirtual 223, 3) := by decide +kernel
theorem dX6_nearest_49 : decode cX6_nearest 49 = .ok (.iload_n 2, 1) := by decide +kernel
theorem dX6_nearest_50 : decode cX6_nearest 50 = .ok (.isub, 1) := by decide +kernel
theorem dX6_nearest_51 : decode cX6_nearest 51 = .ok (.invokestatic 227, 3) := by decide +kernel
theorem dX6_nearest_54 : decode cX6_nearest 54 = .ok (.istore 5, 2) := by decide +kernel
theorem dX6_nearest_56 : decode cX6_nearest 56 = .ok (.iconst 1, 1) := by decide +kernel
theorem dX6_nearest_57 : decode cX6_nearest 57 = .ok (.istore 6, 2) := by decide +kernel
theorem dX6_nearest_59 : decode cX6_nearest 59 = .ok (.iload 6, 2) := by decide +kernel
theorem dX6_nearest_61 : decode cX6_nearest 61 = .ok (.bipush 9, 2) := by decide +kernel
theorem dX6_nearest_63 : decode cX6_nearest 63 = .ok (.if_icmp .gt 39, 3) := by decide +kernel
theorem dX6_nearest_66 : decode cX6_nearest 66 = .ok (.aload_n 0, 1) := by decide +kernel
theorem dX6_nearest_67 : decode cX6_nearest 67 = .ok (.iload_n 1, 1) := by decide +kernel
theorem dX6_nearest_68 : decode cX6_nearest 68 = .ok (.iload 6, 2) := by decide +kernel
theorem dX6_nearest_70 : decode cX6_nearest 70 = .ok (.iload_n 3, 1) := by decide +kernel
theorem dX6_nearest_71 : decode cX6_nearest 71 = .ok (.invokevirtual 223, 3) := by decide +kernel
theorem dX6_nearest_74 : decode cX6_nearest 74 = .ok (.iload_n 2, 1) := by decide +kernel
theorem dX6_nearest_75 : decode cX6_nearest 75 = .ok (.isub, 1) := by decide +kernel
theorem dX6_nearest_76 : decode cX6_nearest 76 = .ok (.invokestatic 227, 3) := by decide +kernel
theorem dX6_nearest_79 : decode cX6_nearest 79 = .ok (.istore 7, 2) := by decide +kernel
theorem dX6_nearest_81 : decode cX6_nearest 81 = .ok (.iload 7, 2) := by decide +kernel
theorem dX6_nearest_83 : decode cX6_nearest 83 = .ok (.iload 5, 2) := by decide +kernel
theorem dX6_nearest_85 : decode cX6_nearest 85 = .ok (.if_icmp .ge 11, 3) := by decide +kernel
theorem dX6_nearest_88 : decode cX6_nearest 88 = .ok (.iload 6, 2) := by decide +kernel
theorem dX6_nearest_90 : decode cX6_nearest 90 = .ok (.istore 4, 2) := by decide +kernel
theorem dX6_nearest_92 : decode cX6_nearest 92 = .ok (.iload 7, 2) := by decide +kernel
theorem dX6_nearest_94 : decode cX6_nearest 94 = .ok (.istore 5, 2) := by decide +kernel
theorem dX6_nearest_96 : decode cX6_nearest 96 = .ok (.iinc 6 1, 3) := by decide +kernel
theorem dX6_nearest_99 : decode cX6_nearest 99 = .ok (.goto (-40), 3) := by decide +kernel
theorem dX6_nearest_102 : decode cX6_nearest 102 = .ok (.iload 4, 2) := by decide +kernel
theorem dX6_nearest_104 : decode cX6_nearest 104 = .ok (.ireturn, 1) := by decide +kernel
theorem dX6_stopped_0 : decode cX6_stopped 0 = .ok (.iload_n 1, 1) := by decide +kernel
theorem dX6_stopped_1 : decode cX6_stopped 1 = .ok (.iconst 1, 1) := by decide +kernel
theorem dX6_stopped_2 : decode cX6_stopped 2 = .ok (.if_icmp .lt 9, 3) := by decide +kernel
theorem dX6_stopped_5 : decode cX6_stopped 5 = .ok (.iload_n 1, 1) := by decide +kernel
theorem dX6_stopped_6 : decode cX6_stopped 6 = .ok (.bipush 100, 2) := by decide +kernel
theorem dX6_stopped_8 : decode cX6_stopped 8 = .ok (.if_icmp .le 6, 3) := by decide +kernel
theorem dX6_stopped_11 : decode cX6_stopped 11 = .ok (.ldc 72, 2) := by decide +kernel
theorem dX6_stopped_13 : decode cX6_stopped 13 = .ok (.ireturn, 1) := by decide +kernel
theorem dX6_stopped_14 : decode cX6_stopped 14 = .ok (.aload_n 0, 1) := by decide +kernel
theorem dX6_stopped_15 : decode cX6_stopped 15 = .ok (.getfield 19, 3) := by decide +kernel
theorem dX6_stopped_18 : decode cX6_stopped 18 = .ok (.getfield 100, 3) := by decide +kernel
theorem dX6_stopped_21 : decode cX6_stopped 21 = .ok (.ifCond .ne 6, 3) := by decide +kernel
theorem dX6_stopped_24 : decode cX6_stopped 24 = .ok (.ldc 103, 2) := by decide +kernel
theorem dX6_stopped_26 : decode cX6_stopped 26 = .ok (.ireturn, 1) := by decide +kernel
theorem dX6_stopped_27 : decode cX6_stopped 27 = .ok (.aload_n 0, 1) := by decide +kernel
theorem dX6_stopped_28 : decode cX6_stopped 28 = .ok (.getfield 19, 3) := by decide +kernel
theorem dX6_stopped_31 : decode cX6_stopped 31 = .ok (.getfield 100, 3) := by decide +kernel
theorem dX6_stopped_34 : decode cX6_stopped 34 = .ok (.iconst 1, 1) := by decide +kernel
theorem dX6_stopped_35 : decode cX6_stopped 35 = .ok (.isub, 1) := by decide +kernel
theorem dX6_stopped_36 : decode cX6_stopped 36 = .ok (.istore_n 2, 1) := by decide +kernel
theorem dX6_stopped_37 : decode cX6_stopped 37 = .ok (.aload_n 0, 1) := by decide +kernel
theorem dX6_stopped_38 : decode cX6_stopped 38 = .ok (.getfield 39, 3) := by decide +kernel
theorem dX6_stopped_41 : decode cX6_stopped 41 = .ok (.getfield 111, 3) := by decide +kernel
theorem dX6_stopped_44 : decode cX6_stopped 44 = .ok (.iload_n 2, 1) := by decide +kernel
theorem dX6_stopped_45 : decode cX6_stopped 45 = .ok (.invokevirtual 140, 3) := by decide +kernel
theorem dX6_stopped_48 : decode cX6_stopped 48 = .ok (.ifCond .eq 5, 3) := by decide +kernel
theorem dX6_stopped_51 : decode cX6_stopped 51 = .ok (.iconst (-1), 1) := by decide +kernel
theorem dX6_stopped_52 : decode cX6_stopped 52 = .ok (.ireturn, 1) := by decide +kernel
theorem dX6_stopped_53 : decode cX6_stopped 53 = .ok (.aload_n 0, 1) := by decide +kernel
theorem dX6_stopped_54 : decode cX6_stopped 54 = .ok (.getfield 43, 3) := by decide +kernel
theorem dX6_stopped_57 : decode cX6_stopped 57 = .ok (.aload_n 0, 1) := by decide +kernel
theorem dX6_stopped_58 : decode cX6_stopped 58 = .ok (.getfield 39, 3) := by decide +kernel
theorem dX6_stopped_61 : decode cX6_stopped 61 = .ok (.invokevirtual 198, 3) := by decide +kernel
theorem dX6_stopped_64 : decode cX6_stopped 64 = .ok (.aload_n 0, 1) := by decide +kernel
theorem dX6_stopped_65 : decode cX6_stopped 65 = .ok (.iload_n 1, 1) := by decide +kernel
theorem dX6_stopped_66 : decode cX6_stopped 66 = .ok (.invokevirtual 232, 3) := by decide +kernel
theorem dX6_stopped_69 : decode cX6_stopped 69 = .ok (.ifCond .eq 5, 3) := by decide +kernel
theorem dX6_stopped_72 : decode cX6_stopped 72 = .ok (.iconst 0, 1) := by decide +kernel
theorem dX6_stopped_73 : decode cX6_stopped 73 = .ok (.ireturn, 1) := by decide +kernel
theorem dX6_stopped_74 : decode cX6_stopped 74 = .ok (.iconst 0, 1) := by decide +kernel
theorem dX6_stopped_75 : decode cX6_stopped 75 = .ok (.istore_n 3, 1) := by decide +kernel
theorem dX6_stopped_76 : decode cX6_stopped 76 = .ok (.iload_n 3, 1) := by decide +kernel
theorem dX6_stopped_77 : decode cX6_stopped 77 = .ok (.iload_n 2, 1) := by decide +kernel
theorem dX6_stopped_78 : decode cX6_stopped 78 = .ok (.if_icmp .ge 41, 3) := by decide +kernel
theorem dX6_stopped_81 : decode cX6_stopped 81 = .ok (.aload_n 0, 1) := by decide +kernel
theorem dX6_stopped_82 : decode cX6_stopped 82 = .ok (.getfield 43, 3) := by decide +kernel
theorem dX6_stopped_85 : decode cX6_stopped 85 = .ok (.aload_n 0, 1) := by decide +kernel
theorem dX6_stopped_86 : decode cX6_stopped 86 = .ok (.getfield 39, 3) := by decide +kernel
theorem dX6_stopped_89 : decode cX6_stopped 89 = .ok (.invokevirtual 198, 3) := by decide +kernel
theorem dX6_stopped_92 : decode cX6_stopped 92 = .ok (.aload_n 0, 1) := by decide +kernel
theorem dX6_stopped_93 : decode cX6_stopped 93 = .ok (.getfield 43, 3) := by decide +kernel
theorem dX6_stopped_96 : decode cX6_stopped 96 = .ok (.iload_n 3, 1) := by decide +kernel
theorem dX6_stopped_97 : decode cX6_stopped 97 = .ok (.iconst 0, 1) := by decide +kernel
theorem dX6_stopped_98 : decode cX6_stopped 98 = .ok (.invokevirtual 235, 3) := by decide +kernel
theorem dX6_stopped_101 : decode cX6_stopped 101 = .ok (.aload_n 0, 1) := by decide +kernel
theorem dX6_stopped_102 : decode cX6_stopped 102 = .ok (.iload_n 1, 1) := by decide +kernel
theorem dX6_stopped_103 : decode cX6_stopped 103 = .ok (.invokevirtual 232, 3) := by decide +kernel
theorem dX6_stopped_106 : decode cX6_stopped 106 = .ok (.ifCond .eq 7, 3) := by decide +kernel
theorem dX6_stopped_109 : decode cX6_stopped 109 = .ok (.iconst 1, 1) := by decide +kernel
theorem dX6_stopped_110 : decode cX6_stopped 110 = .ok (.iload_n 3, 1) := by decide +kernel
theorem dX6_stopped_111 : decode cX6_stopped 111 = .ok (.ishl, 1) := by decide +kernel
theorem dX6_stopped_112 : decode cX6_stopped 112 = .ok (.ireturn, 1) := by decide +kernel
theorem dX6_stopped_113 : decode cX6_stopped 113 = .ok (.iinc 3 1, 3) := by decide +kernel
theorem dX6_stopped_116 : decode cX6_stopped 116 = .ok (.goto (-40), 3) := by decide +kernel
theorem dX6_stopped_119 : decode cX6_stopped 119 = .ok (.iconst (-1), 1) := by decide +kernel
theorem dX6_stopped_120 : decode cX6_stopped 120 = .ok (.ireturn, 1) := by decide +kernel
theorem dX6_write_0 : decode cX6_write 0 = .ok (.iload_n 1, 1) := by decide +kernel
theorem dX6_write_1 : decode cX6_write 1 = .ok (.ifCond .lt 9, 3) := by decide +kernel
theorem dX6_write_4 : decode cX6_write 4 = .ok (.iload_n 1, 1) := by decide +kernel
theorem dX6_write_5 : decode cX6_write 5 = .ok (.ldc 226, 2) := by decide +kernel
theorem dX6_write_7 : decode cX6_write 7 = .ok (.if_icmp .le 6, 3) := by decide +kernel
theorem dX6_write_10 : decode cX6_write 10 = .ok (.ldc 72, 2) := by decide +kernel
theorem dX6_write_12 : decode cX6_write 12 = .ok (.ireturn, 1) := by decide +kernel
theorem dX6_write_13 : decode cX6_write 13 = .ok (.aload_n 0, 1) := by decide +kernel
theorem dX6_write_14 : decode cX6_write 14 = .ok (.getfield 97, 3) := by decide +kernel
theorem dX6_write_17 : decode cX6_write 17 = .ok (.bipush 60, 2) := by decide +kernel
theorem dX6_write_19 : decode cX6_write 19 = .ok (.if_icmp .lt 6, 3) := by decide +kernel
theorem dX6_write_22 : decode cX6_write 22 = .ok (.ldc 80, 2) := by decide +kernel
theorem dX6_write_24 : decode cX6_write 24 = .ok (.ireturn, 1) := by decide +kernel
theorem dX6_write_25 : decode cX6_write 25 = .ok (.aload_n 0, 1) := by decide +kernel
theorem dX6_write_26 : decode cX6_write 26 = .ok (.getfield 65, 3) := by decide +kernel
theorem dX6_write_29 : decode cX6_write 29 = .ok (.aload_n 0, 1) := by decide +kernel
theorem dX6_write_30 : decode cX6_write 30 = .ok (.getfield 97, 3) := by decide +kernel
theorem dX6_write_33 : decode cX6_write 33 = .ok (.iload_n 1, 1) := by decide +kernel
theorem dX6_write_34 : decode cX6_write 34 = .ok (.iastore, 1) := by decide +kernel
theorem dX6_write_35 : decode cX6_write 35 = .ok (.aload_n 0, 1) := by decide +kernel
theorem dX6_write_36 : decode cX6_write 36 = .ok (.dup, 1) := by decide +kernel
theorem dX6_write_37 : decode cX6_write 37 = .ok (.getfield 97, 3) := by decide +kernel
theorem dX6_write_40 : decode cX6_write 40 = .ok (.iconst 1, 1) := by decide +kernel
theorem dX6_write_41 : decode cX6_write 41 = .ok (.iadd, 1) := by decide +kernel
theorem dX6_write_42 : decode cX6_write 42 = .ok (.putfield 97, 3) := by decide +kernel
theorem dX6_write_45 : decode cX6_write 45 = .ok (.aload_n 0, 1) := by decide +kernel
theorem dX6_write_46 : decode cX6_write 46 = .ok (.getfield 97, 3) := by decide +kernel
theorem dX6_write_49 : decode cX6_write 49 = .ok (.ireturn, 1) := by decide +kernel
theorem dX6_tear_0 : decode cX6_tear 0 = .ok (.aload_n 0, 1) := by decide +kernel
theorem dX6_tear_1 : decode cX6_tear 1 = .ok (.getfield 97, 3) := by decide +kernel
theorem dX6_tear_4 : decode cX6_tear 4 = .ok (.istore_n 1, 1) := by decide +kernel
theorem dX6_tear_5 : decode cX6_tear 5 = .ok (.aload_n 0, 1) := by decide +kernel
theorem dX6_tear_6 : decode cX6_tear 6 = .ok (.iconst 0, 1) := by decide +kernel
theorem dX6_tear_7 : decode cX6_tear 7 = .ok (.putfield 97, 3) := by decide +kernel
theorem dX6_tear_10 : decode cX6_tear 10 = .ok (.iload_n 1, 1) := by decide +kernel
theorem dX6_tear_11 : decode cX6_tear 11 = .ok (.ireturn, 1) := by decide +kernel
theorem dX6_judge_0 : decode cX6_judge 0 = .ok (.iload_n 1, 1) := by decide +kernel
theorem dX6_judge_1 : decode cX6_judge 1 = .ok (.ifCond .lt 10, 3) := by decide +kernel
theorem dX6_judge_4 : decode cX6_judge 4 = .ok (.iload_n 1, 1) := by decide +kernel
theorem dX6_judge_5 : decode cX6_judge 5 = .ok (.sipush 9999, 3) := by decide +kernel
theorem dX6_judge_8 : decode cX6_judge 8 = .ok (.if_icmp .le 6, 3) := by decide +kernel
theorem dX6_judge_11 : decode cX6_judge 11 = .ok (.ldc 72, 2) := by decide +kernel
theorem dX6_judge_13 : decode cX6_judge 13 = .ok (.ireturn, 1) := by decide +kernel
theorem dX6_judge_14 : decode cX6_judge 14 = .ok (.aload_n 0, 1) := by decide +kernel
theorem dX6_judge_15 : decode cX6_judge 15 = .ok (.getfield 19, 3) := by decide +kernel
theorem dX6_judge_18 : decode cX6_judge 18 = .ok (.getfield 100, 3) := by decide +kernel
theorem dX6_judge_21 : decode cX6_judge 21 = .ok (.ifCond .ne 6, 3) := by decide +kernel
theorem dX6_judge_24 : decode cX6_judge 24 = .ok (.ldc 103, 2) := by decide +kernel
theorem dX6_judge_26 : decode cX6_judge 26 = .ok (.ireturn, 1) := by decide +kernel
theorem dX6_judge_27 : decode cX6_judge 27 = .ok (.aload_n 0, 1) := by decide +kernel
theorem dX6_judge_28 : decode cX6_judge 28 = .ok (.getfield 43, 3) := by decide +kernel
theorem dX6_judge_31 : decode cX6_judge 31 = .ok (.aload_n 0, 1) := by decide +kernel
theorem dX6_judge_32 : decode cX6_judge 32 = .ok (.getfield 39, 3) := by decide +kernel
theorem dX6_judge_35 : decode cX6_judge 35 = .ok (.invokevirtual 198, 3) := by decide +kernel
theorem dX6_judge_38 : decode cX6_judge 38 = .ok (.iconst 0, 1) := by decide +kernel
theorem dX6_judge_39 : decode cX6_judge 39 = .ok (.istore_n 2, 1) := by decide +kernel
theorem dX6_judge_40 : decode cX6_judge 40 = .ok (.iload_n 2, 1) := by decide +kernel
theorem dX6_judge_41 : decode cX6_judge 41 = .ok (.aload_n 0, 1) := by decide +kernel
theorem dX6_judge_42 : decode cX6_judge 42 = .ok (.getfield 97, 3) := by decide +kernel
theorem dX6_judge_45 : decode cX6_judge 45 = .ok (.if_icmp .ge 49, 3) := by decide +kernel
theorem dX6_judge_48 : decode cX6_judge 48 = .ok (.aload_n 0, 1) := by decide +kernel
theorem dX6_judge_49 : decode cX6_judge 49 = .ok (.getfield 65, 3) := by decide +kernel
theorem dX6_judge_52 : decode cX6_judge 52 = .ok (.iload_n 2, 1) := by decide +kernel
theorem dX6_judge_53 : decode cX6_judge 53 = .ok (.iaload, 1) := by decide +kernel
theorem dX6_judge_54 : decode cX6_judge 54 = .ok (.aload_n 0, 1) := by decide +kernel
theorem dX6_judge_55 : decode cX6_judge 55 = .ok (.getfield 43, 3) := by decide +kernel
theorem dX6_judge_58 : decode cX6_judge 58 = .ok (.getfield 133, 3) := by decide +kernel
theorem dX6_judge_61 : decode cX6_judge 61 = .ok (.iconst 0, 1) := by decide +kernel
theorem dX6_judge_62 : decode cX6_judge 62 = .ok (.iaload, 1) := by decide +kernel
theorem dX6_judge_63 : decode cX6_judge 63 = .ok (.isub, 1) := by decide +kernel
theorem dX6_judge_64 : decode cX6_judge 64 = .ok (.invokestatic 227, 3) := by decide +kernel
theorem dX6_judge_67 : decode cX6_judge 67 = .ok (.iload_n 1, 1) := by decide +kernel
theorem dX6_judge_68 : decode cX6_judge 68 = .ok (.if_icmp .le 5, 3) := by decide +kernel
theorem dX6_judge_71 : decode cX6_judge 71 = .ok (.iload_n 2, 1) := by decide +kernel
theorem dX6_judge_72 : decode cX6_judge 72 = .ok (.ireturn, 1) := by decide +kernel
theorem dX6_judge_73 : decode cX6_judge 73 = .ok (.aload_n 0, 1) := by decide +kernel
theorem dX6_judge_74 : decode cX6_judge 74 = .ok (.getfield 43, 3) := by decide +kernel
theorem dX6_judge_77 : decode cX6_judge 77 = .ok (.aload_n 0, 1) := by decide +kernel
theorem dX6_judge_78 : decode cX6_judge 78 = .ok (.getfield 19, 3) := by decide +kernel
theorem dX6_judge_81 : decode cX6_judge 81 = .ok (.aload_n 0, 1) := by decide +kernel
theorem dX6_judge_82 : decode cX6_judge 82 = .ok (.getfield 29, 3) := by decide +kernel
theorem dX6_judge_85 : decode cX6_judge 85 = .ok (.invokevirtual 162, 3) := by decide +kernel
theorem dX6_judge_88 : decode cX6_judge 88 = .ok (.iinc 2 1, 3) := by decide +kernel
theorem dX6_judge_91 : decode cX6_judge 91 = .ok (.goto (-51), 3) := by decide +kernel
theorem dX6_judge_94 : decode cX6_judge 94 = .ok (.iconst (-1), 1) := by decide +kernel
theorem dX6_judge_95 : decode cX6_judge 95 = .ok (.ireturn, 1) := by decide +kernel
theorem dX6_seed_0 : decode cX6_seed 0 = .ok (.iload_n 1, 1) := by decide +kernel
theorem dX6_seed_1 : decode cX6_seed 1 = .ok (.ifCond .ge 6, 3) := by decide +kernel
theorem dX6_seed_4 : decode cX6_seed 4 = .ok (.ldc 72, 2) := by decide +kernel
theorem dX6_seed_6 : decode cX6_seed 6 = .ok (.ireturn, 1) := by decide +kernel
theorem dX6_seed_7 : decode cX6_seed 7 = .ok (.aload_n 0, 1) := by decide +kernel
theorem dX6_seed_8 : decode cX6_seed 8 = .ok (.getfield 39, 3) := by decide +kernel
theorem dX6_seed_11 : decode cX6_seed 11 = .ok (.getfield 239, 3) := by decide +kernel
theorem dX6_seed_14 : decode cX6_seed 14 = .ok (.istore_n 2, 1) := by decide +kernel
theorem dX6_seed_15 : decode cX6_seed 15 = .ok (.aload_n 0, 1) := by decide +kernel
theorem dX6_seed_16 : decode cX6_seed 16 = .ok (.getfield 39, 3) := by decide +kernel
theorem dX6_seed_19 : decode cX6_seed 19 = .ok (.iload_n 1, 1) := by decide +kernel
theorem dX6_seed_20 : decode cX6_seed 20 = .ok (.putfield 239, 3) := by decide +kernel
theorem dX6_seed_23 : decode cX6_seed 23 = .ok (.iload_n 2, 1) := by decide +kernel
theorem dX6_seed_24 : decode cX6_seed 24 = .ok (.ireturn, 1) := by decide +kernel
theorem dX6_keep_0 : decode cX6_keep 0 = .ok (.iload_n 1, 1) := by decide +kernel
theorem dX6_keep_1 : decode cX6_keep 1 = .ok (.ifCond .lt 8, 3) := by decide +kernel
theorem dX6_keep_4 : decode cX6_keep 4 = .ok (.iload_n 1, 1) := by decide +kernel
theorem dX6_keep_5 : decode cX6_keep 5 = .ok (.iconst 2, 1) := by decide +kernel
theorem dX6_keep_6 : decode cX6_keep 6 = .ok (.if_icmp .lt 6, 3) := by decide +kernel
theorem dX6_keep_9 : decode cX6_keep 9 = .ok (.ldc 126, 2) := by decide +kernel
theorem dX6_keep_11 : decode cX6_keep 11 = .ok (.ireturn, 1) := by decide +kernel
theorem dX6_keep_12 : decode cX6_keep 12 = .ok (.aload_n 0, 1) := by decide +kernel
theorem dX6_keep_13 : decode cX6_keep 13 = .ok (.getfield 46, 3) := by decide +kernel
theorem dX6_keep_16 : decode cX6_keep 16 = .ok (.iload_n 1, 1) := by decide +kernel
theorem dX6_keep_17 : decode cX6_keep 17 = .ok (.aaload, 1) := by decide +kernel
theorem dX6_keep_18 : decode cX6_keep 18 = .ok (.aload_n 0, 1) := by decide +kernel
theorem dX6_keep_19 : decode cX6_keep 19 = .ok (.getfield 39, 3) := by decide +kernel
theorem dX6_keep_22 : decode cX6_keep 22 = .ok (.invokevirtual 198, 3) := by decide +kernel
theorem dX6_keep_25 : decode cX6_keep 25 = .ok (.aload_n 0, 1) := by decide +kernel
theorem dX6_keep_26 : decode cX6_keep 26 = .ok (.getfield 50, 3) := by decide +kernel
theorem dX6_keep_29 : decode cX6_keep 29 = .ok (.iload_n 1, 1) := by decide +kernel
theorem dX6_keep_30 : decode cX6_keep 30 = .ok (.iconst 1, 1) := by decide +kernel
theorem dX6_keep_31 : decode cX6_keep 31 = .ok (.bastore, 1) := by decide +kernel
theorem dX6_keep_32 : decode cX6_keep 32 = .ok (.iconst 1, 1) := by decide +kernel
theorem dX6_keep_33 : decode cX6_keep 33 = .ok (.ireturn, 1) := by decide +kernel
theorem dX6_goBack_0 : decode cX6_goBack 0 = .ok (.iload_n 1, 1) := by decide +kernel
theorem dX6_goBack_1 : decode cX6_goBack 1 = .ok (.ifCond .lt 8, 3) := by decide +kernel
theorem dX6_goBack_4 : decode cX6_goBack 4 = .ok (.iload_n 1, 1) := by decide +kernel
theorem dX6_goBack_5 : decode cX6_goBack 5 = .ok (.iconst 2, 1) := by decide +kernel
theorem dX6_goBack_6 : decode cX6_goBack 6 = .ok (.if_icmp .lt 6, 3) := by decide +kernel
theorem dX6_goBack_9 : decode cX6_goBack 9 = .ok (.ldc 126, 2) := by decide +kernel
theorem dX6_goBack_11 : decode cX6_goBack 11 = .ok (.ireturn, 1) := by decide +kernel
theorem dX6_goBack_12 : decode cX6_goBack 12 = .ok (.aload_n 0, 1) := by decide +kernel
theorem dX6_goBack_13 : decode cX6_goBack 13 = .ok (.getfield 50, 3) := by decide +kernel
theorem dX6_goBack_16 : decode cX6_goBack 16 = .ok (.iload_n 1, 1) := by decide +kernel
theorem dX6_goBack_17 : decode cX6_goBack 17 = .ok (.baload, 1) := by decide +kernel
theorem dX6_goBack_18 : decode cX6_goBack 18 = .ok (.ifCond .ne 6, 3) := by decide +kernel
theorem dX6_goBack_21 : decode cX6_goBack 21 = .ok (.ldc 103, 2) := by decide +kernel
theorem dX6_goBack_23 : decode cX6_goBack 23 = .ok (.ireturn, 1) := by decide +kernel
theorem dX6_goBack_24 : decode cX6_goBack 24 = .ok (.aload_n 0, 1) := by decide +kernel
theorem dX6_goBack_25 : decode cX6_goBack 25 = .ok (.getfield 39, 3) := by decide +kernel
theorem dX6_goBack_28 : decode cX6_goBack 28 = .ok (.aload_n 0, 1) := by decide +kernel
theorem dX6_goBack_29 : decode cX6_goBack 29 = .ok (.getfield 46, 3) := by decide +kernel
theorem dX6_goBack_32 : decode cX6_goBack 32 = .ok (.iload_n 1, 1) := by decide +kernel
theorem dX6_goBack_33 : decode cX6_goBack 33 = .ok (.aaload, 1) := by decide +kernel
theorem dX6_goBack_34 : decode cX6_goBack 34 = .ok (.invokevirtual 198, 3) := by decide +kernel
theorem dX6_goBack_37 : decode cX6_goBack 37 = .ok (.iconst 1, 1) := by decide +kernel
theorem dX6_goBack_38 : decode cX6_goBack 38 = .ok (.ireturn, 1) := by decide +kernel
theorem dX6_isWeight_0 : decode cX6_isWeight 0 = .ok (.iload_n 0, 1) := by decide +kernel
theorem dX6_isWeight_1 : decode cX6_isWeight 1 = .ok (.iconst 1, 1) := by decide +kernel
theorem dX6_isWeight_2 : decode cX6_isWeight 2 = .ok (.if_icmp .lt 14, 3) := by decide +kernel
theorem dX6_isWeight_5 : decode cX6_isWeight 5 = .ok (.iload_n 0, 1) := by decide +kernel
theorem dX6_isWeight_6 : decode cX6_isWeight 6 = .ok (.sipush 999, 3) := by decide +kernel
theorem dX6_isWeight_9 : decode cX6_isWeight 9 = .ok (.if_icmp .gt 7, 3) := by decide +kernel
theorem dX6_isWeight_12 : decode cX6_isWeight 12 = .ok (.iconst 1, 1) := by decide +kernel
theorem dX6_isWeight_13 : decode cX6_isWeight 13 = .ok (.goto 4, 3) := by decide +kernel
theorem dX6_isWeight_16 : decode cX6_isWeight 16 = .ok (.iconst 0, 1) := by decide +kernel
theorem dX6_isWeight_17 : decode cX6_isWeight 17 = .ok (.ireturn, 1) := by decide +kernel
theorem dX6_passTrialHours_0 : decode cX6_passTrialHours 0 = .ok (.iconst 0, 1) := by decide +kernel
theorem dX6_passTrialHours_1 : decode cX6_passTrialHours 1 = .ok (.istore_n 2, 1) := by decide +kernel
theorem dX6_passTrialHours_2 : decode cX6_passTrialHours 2 = .ok (.iload_n 2, 1) := by decide +kernel
theorem dX6_passTrialHours_3 : decode cX6_passTrialHours 3 = .ok (.iload_n 1, 1) := by decide +kernel
theorem dX6_passTrialHours_4 : decode cX6_passTrialHours 4 = .ok (.if_icmp .ge 24, 3) := by decide +kernel
theorem dX6_passTrialHours_7 : decode cX6_passTrialHours 7 = .ok (.aload_n 0, 1) := by decide +kernel
theorem dX6_passTrialHours_8 : decode cX6_passTrialHours 8 = .ok (.getfield 43, 3) := by decide +kernel
theorem dX6_passTrialHours_11 : decode cX6_passTrialHours 11 = .ok (.aload_n 0, 1) := by decide +kernel
theorem dX6_passTrialHours_12 : decode cX6_passTrialHours 12 = .ok (.getfield 19, 3) := by decide +kernel
theorem dX6_passTrialHours_15 : decode cX6_passTrialHours 15 = .ok (.aload_n 0, 1) := by decide +kernel
theorem dX6_passTrialHours_16 : decode cX6_passTrialHours 16 = .ok (.getfield 29, 3) := by decide +kernel
theorem dX6_passTrialHours_19 : decode cX6_passTrialHours 19 = .ok (.invokevirtual 162, 3) := by decide +kernel
theorem dX6_passTrialHours_22 : decode cX6_passTrialHours 22 = .ok (.iinc 2 1, 3) := by decide +kernel
theorem dX6_passTrialHours_25 : decode cX6_passTrialHours 25 = .ok (.goto (-23), 3) := by decide +kernel
theorem dX6_passTrialHours_28 : decode cX6_passTrialHours 28 = .ok (.return_, 1) := by decide +kernel
theorem dX6_lakeWith_0 : decode cX6_lakeWith 0 = .ok (.aload_n 0, 1) := by decide +kernel
theorem dX6_lakeWith_1 : decode cX6_lakeWith 1 = .ok (.getfield 43, 3) := by decide +kernel
theorem dX6_lakeWith_4 : decode cX6_lakeWith 4 = .ok (.aload_n 0, 1) := by decide +kernel
theorem dX6_lakeWith_5 : decode cX6_lakeWith 5 = .ok (.getfield 39, 3) := by decide +kernel
theorem dX6_lakeWith_8 : decode cX6_lakeWith 8 = .ok (.invokevirtual 198, 3) := by decide +kernel
theorem dX6_lakeWith_11 : decode cX6_lakeWith 11 = .ok (.aload_n 0, 1) := by decide +kernel
theorem dX6_lakeWith_12 : decode cX6_lakeWith 12 = .ok (.getfield 43, 3) := by decide +kernel
theorem dX6_lakeWith_15 : decode cX6_lakeWith 15 = .ok (.iload_n 1, 1) := by decide +kernel
theorem dX6_lakeWith_16 : decode cX6_lakeWith 16 = .ok (.iload_n 2, 1) := by decide +kernel
theorem dX6_lakeWith_17 : decode cX6_lakeWith 17 = .ok (.invokevirtual 235, 3) := by decide +kernel
theorem dX6_lakeWith_20 : decode cX6_lakeWith 20 = .ok (.aload_n 0, 1) := by decide +kernel
theorem dX6_lakeWith_21 : decode cX6_lakeWith 21 = .ok (.iload_n 3, 1) := by decide +kernel
theorem dX6_lakeWith_22 : decode cX6_lakeWith 22 = .ok (.invokevirtual 202, 3) := by decide +kernel
theorem dX6_lakeWith_25 : decode cX6_lakeWith 25 = .ok (.aload_n 0, 1) := by decide +kernel
theorem dX6_lakeWith_26 : decode cX6_lakeWith 26 = .ok (.getfield 43, 3) := by decide +kernel
theorem dX6_lakeWith_29 : decode cX6_lakeWith 29 = .ok (.getfield 133, 3) := by decide +kernel
theorem dX6_lakeWith_32 : decode cX6_lakeWith 32 = .ok (.iconst 0, 1) := by decide +kernel
theorem dX6_lakeWith_33 : decode cX6_lakeWith 33 = .ok (.iaload, 1) := by decide +kernel
theorem dX6_lakeWith_34 : decode cX6_lakeWith 34 = .ok (.ireturn, 1) := by decide +kernel
theorem dX6_keepsOffSea_0 : decode cX6_keepsOffSea 0 = .ok (.aload_n 0, 1) := by decide +kernel
theorem dX6_keepsOffSea_1 : decode cX6_keepsOffSea 1 = .ok (.getfield 19, 3) := by decide +kernel
theorem dX6_keepsOffSea_4 : decode cX6_keepsOffSea 4 = .ok (.getfield 100, 3) := by decide +kernel
theorem dX6_keepsOffSea_7 : decode cX6_keepsOffSea 7 = .ok (.iconst 1, 1) := by decide +kernel
theorem dX6_keepsOffSea_8 : decode cX6_keepsOffSea 8 = .ok (.isub, 1) := by decide +kernel
theorem dX6_keepsOffSea_9 : decode cX6_keepsOffSea 9 = .ok (.istore_n 2, 1) := by decide +kernel
theorem dX6_keepsOffSea_10 : decode cX6_keepsOffSea 10 = .ok (.iconst 0, 1) := by decide +kernel
theorem dX6_keepsOffSea_11 : decode cX6_keepsOffSea 11 = .ok (.istore_n 3, 1) := by decide +kernel
theorem dX6_keepsOffSea_12 : decode cX6_keepsOffSea 12 = .ok (.iload_n 3, 1) := by decide +kernel
theorem dX6_keepsOffSea_13 : decode cX6_keepsOffSea 13 = .ok (.iload_n 1, 1) := by decide +kernel
theorem dX6_keepsOffSea_14 : decode cX6_keepsOffSea 14 = .ok (.if_icmp .ge 40, 3) := by decide +kernel
theorem dX6_keepsOffSea_17 : decode cX6_keepsOffSea 17 = .ok (.aload_n 0, 1) := by decide +kernel
theorem dX6_keepsOffSea_18 : decode cX6_keepsOffSea 18 = .ok (.getfield 43, 3) := by decide +kernel
theorem dX6_keepsOffSea_21 : decode cX6_keepsOffSea 21 = .ok (.aload_n 0, 1) := by decide +kernel
theorem dX6_keepsOffSea_22 : decode cX6_keepsOffSea 22 = .ok (.getfield 19, 3) := by decide +kernel
theorem dX6_keepsOffSea_25 : decode cX6_keepsOffSea 25 = .ok (.aload_n 0, 1) := by decide +kernel
theorem dX6_keepsOffSea_26 : decode cX6_keepsOffSea 26 = .ok (.getfield 29, 3) := by decide +kernel
theorem dX6_keepsOffSea_29 : decode cX6_keepsOffSea 29 = .ok (.invokevirtual 162, 3) := by decide +kernel
theorem dX6_keepsOffSea_32 : decode cX6_keepsOffSea 32 = .ok (.aload_n 0, 1) := by decide +kernel
theorem dX6_keepsOffSea_33 : decode cX6_keepsOffSea 33 = .ok (.getfield 43, 3) := by decide +kernel
theorem dX6_keepsOffSea_36 : decode cX6_keepsOffSea 36 = .ok (.getfield 111, 3) := by decide +kernel
theorem dX6_keepsOffSea_39 : decode cX6_keepsOffSea 39 = .ok (.iload_n 2, 1) := by decide +kernel
theorem dX6_keepsOffSea_40 : decode cX6_keepsOffSea 40 = .ok (.invokevirtual 140, 3) := by decide +kernel
theorem dX6_keepsOffSea_43 : decode cX6_keepsOffSea 43 = .ok (.ifCond .eq 5, 3) := by decide +kernel
theorem dX6_keepsOffSea_46 : decode cX6_keepsOffSea 46 = .ok (.iconst 0, 1) := by decide +kernel
theorem dX6_keepsOffSea_47 : decode cX6_keepsOffSea 47 = .ok (.ireturn, 1) := by decide +kernel
theorem dX6_keepsOffSea_48 : decode cX6_keepsOffSea 48 = .ok (.iinc 3 1, 3) := by decide +kernel
theorem dX6_keepsOffSea_51 : decode cX6_keepsOffSea 51 = .ok (.goto (-39), 3) := by decide +kernel
theorem dX6_keepsOffSea_54 : decode cX6_keepsOffSea 54 = .ok (.iconst 1, 1) := by decide +kernel
theorem dX6_keepsOffSea_55 : decode cX6_keepsOffSea 55 = .ok (.ireturn, 1) := by decide +kernel
theorem dX6_driftPlaces_0 : decode cX6_driftPlaces 0 = .ok (.iconst 0, 1) := by decide +kernel
theorem dX6_driftPlaces_1 : decode cX6_driftPlaces 1 = .ok (.istore_n 2, 1) := by decide +kernel
theorem dX6_driftPlaces_2 : decode cX6_driftPlaces 2 = .ok (.iload_n 2, 1) := by decide +kernel
theorem dX6_driftPlaces_3 : decode cX6_driftPlaces 3 = .ok (.aload_n 0, 1) := by decide +kernel
theorem dX6_driftPlaces_4 : decode cX6_driftPlaces 4 = .ok (.getfield 19, 3) := by decide +kernel
theorem dX6_driftPlaces_7 : decode cX6_driftPlaces 7 = .ok (.getfield 100, 3) := by decide +kernel
theorem dX6_driftPlaces_10 : decode cX6_driftPlaces 10 = .ok (.if_icmp .ge 36, 3) := by decide +kernel
theorem dX6_driftPlaces_13 : decode cX6_driftPlaces 13 = .ok (.aload_n 0, 1) := by decide +kernel
theorem dX6_driftPlaces_14 : decode cX6_driftPlaces 14 = .ok (.getfield 61, 3) := by decide +kernel
theorem dX6_driftPlaces_17 : decode cX6_driftPlaces 17 = .ok (.iload_n 2, 1) := by decide +kernel
theorem dX6_driftPlaces_18 : decode cX6_driftPlaces 18 = .ok (.dup2, 1) := by decide +kernel
theorem dX6_driftPlaces_19 : decode cX6_driftPlaces 19 = .ok (.iaload, 1) := by decide +kernel
theorem dX6_driftPlaces_20 : decode cX6_driftPlaces 20 = .ok (.aload_n 0, 1) := by decide +kernel
theorem dX6_driftPlaces_21 : decode cX6_driftPlaces 21 = .ok (.getfield 43, 3) := by decide +kernel
theorem dX6_driftPlaces_24 : decode cX6_driftPlaces 24 = .ok (.aload_n 0, 1) := by decide +kernel
theorem dX6_driftPlaces_25 : decode cX6_driftPlaces 25 = .ok (.getfield 19, 3) := by decide +kernel
theorem dX6_driftPlaces_28 : decode cX6_driftPlaces 28 = .ok (.aload_n 0, 1) := by decide +kernel
theorem dX6_driftPlaces_29 : decode cX6_driftPlaces 29 = .ok (.getfield 61, 3) := by decide +kernel
theorem dX6_driftPlaces_32 : decode cX6_driftPlaces 32 = .ok (.iload_n 2, 1) := by decide +kernel
theorem dX6_driftPlaces_33 : decode cX6_driftPlaces 33 = .ok (.iaload, 1) := by decide +kernel
theorem dX6_driftPlaces_34 : decode cX6_driftPlaces 34 = .ok (.iload_n 1, 1) := by decide +kernel
theorem dX6_driftPlaces_35 : decode cX6_driftPlaces 35 = .ok (.invokevirtual 219, 3) := by decide +kernel
theorem dX6_driftPlaces_38 : decode cX6_driftPlaces 38 = .ok (.iadd, 1) := by decide +kernel
theorem dX6_driftPlaces_39 : decode cX6_driftPlaces 39 = .ok (.iastore, 1) := by decide +kernel
theorem dX6_driftPlaces_40 : decode cX6_driftPlaces 40 = .ok (.iinc 2 1, 3) := by decide +kernel
theorem dX6_driftPlaces_43 : decode cX6_driftPlaces 43 = .ok (.goto (-41), 3) := by decide +kernel
theorem dX6_driftPlaces_46 : decode cX6_driftPlaces 46 = .ok (.return_, 1) := by decide +kernel
theorem dX6_findSoonest_0 : decode cX6_findSoonest 0 = .ok (.aload_n 0, 1) := by decide +kernel
theorem dX6_findSoonest_1 : decode cX6_findSoonest 1 = .ok (.getfield 57, 3) := by decide +kernel
theorem dX6_findSoonest_4 : decode cX6_findSoonest 4 = .ok (.iload_n 1, 1) := by decide +kernel
theorem dX6_findSoonest_5 : decode cX6_findSoonest 5 = .ok (.invokevirtual 242, 3) := by decide +kernel
theorem dX6_findSoonest_8 : decode cX6_findSoonest 8 = .ok (.aload_n 0, 1) := by decide +kernel
theorem dX6_findSoonest_9 : decode cX6_findSoonest 9 = .ok (.getfield 43, 3) := by decide +kernel
theorem dX6_findSoonest_12 : decode cX6_findSoonest 12 = .ok (.aload_n 0, 1) := by decide +kernel
theorem dX6_findSoonest_13 : decode cX6_findSoonest 13 = .ok (.getfield 39, 3) := by decide +kernel
theorem dX6_findSoonest_16 : decode cX6_findSoonest 16 = .ok (.invokevirtual 198, 3) := by decide +kernel
theorem dX6_findSoonest_19 : decode cX6_findSoonest 19 = .ok (.iconst 0, 1) := by decide +kernel
theorem dX6_findSoonest_20 : decode cX6_findSoonest 20 = .ok (.istore 4, 2) := by decide +kernel
theorem dX6_findSoonest_22 : decode cX6_findSoonest 22 = .ok (.iload 4, 2) := by decide +kernel
theorem dX6_findSoonest_24 : decode cX6_findSoonest 24 = .ok (.bipush 100, 2) := by decide +kernel
theorem dX6_findSoonest_26 : decode cX6_findSoonest 26 = .ok (.if_icmp .ge 51, 3) := by decide +kernel
theorem dX6_findSoonest_29 : decode cX6_findSoonest 29 = .ok (.aload_n 0, 1) := by decide +kernel
theorem dX6_findSoonest_30 : decode cX6_findSoonest 30 = .ok (.getfield 57, 3) := by decide +kernel
theorem dX6_findSoonest_33 : decode cX6_findSoonest 33 = .ok (.iload_n 2, 1) := by decide +kernel
theorem dX6_findSoonest_34 : decode cX6_findSoonest 34 = .ok (.invokevirtual 244, 3) := by decide +kernel
theorem dX6_findSoonest_37 : decode cX6_findSoonest 37 = .ok (.ifCond .ne 40, 3) := by decide +kernel
theorem dX6_findSoonest_40 : decode cX6_findSoonest 40 = .ok (.aload_n 0, 1) := by decide +kernel
theorem dX6_findSoonest_41 : decode cX6_findSoonest 41 = .ok (.getfield 43, 3) := by decide +kernel
theorem dX6_findSoonest_44 : decode cX6_findSoonest 44 = .ok (.aload_n 0, 1) := by decide +kernel
theorem dX6_findSoonest_45 : decode cX6_findSoonest 45 = .ok (.getfield 19, 3) := by decide +kernel
theorem dX6_findSoonest_48 : decode cX6_findSoonest 48 = .ok (.aload_n 0, 1) := by decide +kernel
theorem dX6_findSoonest_49 : decode cX6_findSoonest 49 = .ok (.getfield 29, 3) := by decide +kernel
theorem dX6_findSoonest_52 : decode cX6_findSoonest 52 = .ok (.invokevirtual 162, 3) := by decide +kernel
theorem dX6_findSoonest_55 : decode cX6_findSoonest 55 = .ok (.aload_n 0, 1) := by decide +kernel
theorem dX6_findSoonest_56 : decode cX6_findSoonest 56 = .ok (.getfield 57, 3) := by decide +kernel
theorem dX6_findSoonest_59 : decode cX6_findSoonest 59 = .ok (.aload_n 0, 1) := by decide +kernel
theorem dX6_findSoonest_60 : decode cX6_findSoonest 60 = .ok (.getfield 19, 3) := by decide +kernel
theorem dX6_findSoonest_63 : decode cX6_findSoonest 63 = .ok (.aload_n 0, 1) := by decide +kernel
theorem dX6_findSoonest_64 : decode cX6_findSoonest 64 = .ok (.getfield 43, 3) := by decide +kernel
theorem dX6_findSoonest_67 : decode cX6_findSoonest 67 = .ok (.iload_n 3, 1) := by decide +kernel
theorem dX6_findSoonest_68 : decode cX6_findSoonest 68 = .ok (.invokevirtual 247, 3) := by decide +kernel
theorem dX6_findSoonest_71 : decode cX6_findSoonest 71 = .ok (.iinc 4 1, 3) := by decide +kernel
theorem dX6_findSoonest_74 : decode cX6_findSoonest 74 = .ok (.goto (-52), 3) := by decide +kernel
theorem dX6_findSoonest_77 : decode cX6_findSoonest 77 = .ok (.aload_n 0, 1) := by decide +kernel
theorem dX6_findSoonest_78 : decode cX6_findSoonest 78 = .ok (.getfield 57, 3) := by decide +kernel
theorem dX6_findSoonest_81 : decode cX6_findSoonest 81 = .ok (.iload_n 2, 1) := by decide +kernel
theorem dX6_findSoonest_82 : decode cX6_findSoonest 82 = .ok (.invokevirtual 244, 3) := by decide +kernel
theorem dX6_findSoonest_85 : decode cX6_findSoonest 85 = .ok (.ifCond .eq 13, 3) := by decide +kernel
theorem dX6_findSoonest_88 : decode cX6_findSoonest 88 = .ok (.aload_n 0, 1) := by decide +kernel
theorem dX6_findSoonest_89 : decode cX6_findSoonest 89 = .ok (.getfield 57, 3) := by decide +kernel
theorem dX6_findSoonest_92 : decode cX6_findSoonest 92 = .ok (.getfield 251, 3) := by decide +kernel
theorem dX6_findSoonest_95 : decode cX6_findSoonest 95 = .ok (.goto 4, 3) := by decide +kernel
theorem dX6_findSoonest_98 : decode cX6_findSoonest 98 = .ok (.iconst (-1), 1) := by decide +kernel
theorem dX6_findSoonest_99 : decode cX6_findSoonest 99 = .ok (.ireturn, 1) := by decide +kernel
theorem dX6_copyRow_0 : decode cX6_copyRow 0 = .ok (.aload_n 0, 1) := by decide +kernel
theorem dX6_copyRow_1 : decode cX6_copyRow 1 = .ok (.iconst 0, 1) := by decide +kernel
theorem dX6_copyRow_2 : decode cX6_copyRow 2 = .ok (.aload_n 1, 1) := by decide +kernel
theorem dX6_copyRow_3 : decode cX6_copyRow 3 = .ok (.iconst 0, 1) := by decide +kernel
theorem dX6_copyRow_4 : decode cX6_copyRow 4 = .ok (.aload_n 0, 1) := by decide +kernel
theorem dX6_copyRow_5 : decode cX6_copyRow 5 = .ok (.arraylength, 1) := by decide +kernel
theorem dX6_copyRow_6 : decode cX6_copyRow 6 = .ok (.aload_n 1, 1) := by decide +kernel
theorem dX6_copyRow_7 : decode cX6_copyRow 7 = .ok (.arraylength, 1) := by decide +kernel
theorem dX6_copyRow_8 : decode cX6_copyRow 8 = .ok (.invokestatic 254, 3) := by decide +kernel
theorem dX6_copyRow_11 : decode cX6_copyRow 11 = .ok (.invokestatic 257, 3) := by decide +kernel
theorem dX6_copyRow_14 : decode cX6_copyRow 14 = .ok (.return_, 1) := by decide +kernel
