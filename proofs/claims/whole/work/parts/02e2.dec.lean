theorem dX7_flow_266 : decode cX7_flow 266 = .ok (.goto 4, 3) := by decide +kernel
theorem dX7_flow_269 : decode cX7_flow 269 = .ok (.iconst 0, 1) := by decide +kernel
theorem dX7_flow_270 : decode cX7_flow 270 = .ok (.iadd, 1) := by decide +kernel
theorem dX7_flow_271 : decode cX7_flow 271 = .ok (.invokestatic 202, 3) := by decide +kernel
theorem dX7_flow_274 : decode cX7_flow 274 = .ok (.iastore, 1) := by decide +kernel
theorem dX7_flow_275 : decode cX7_flow 275 = .ok (.iinc 2 1, 3) := by decide +kernel
theorem dX7_flow_278 : decode cX7_flow 278 = .ok (.goto (-237), 3) := by decide +kernel
theorem dX7_flow_281 : decode cX7_flow 281 = .ok (.return_, 1) := by decide +kernel
theorem dX7_wayFrom_0 : decode cX7_wayFrom 0 = .ok (.iload_n 2, 1) := by decide +kernel
theorem dX7_wayFrom_1 : decode cX7_wayFrom 1 = .ok (.aload_n 0, 1) := by decide +kernel
theorem dX7_wayFrom_2 : decode cX7_wayFrom 2 = .ok (.invokevirtual 174, 3) := by decide +kernel
theorem dX7_wayFrom_5 : decode cX7_wayFrom 5 = .ok (.if_icmp .ne 7, 3) := by decide +kernel
theorem dX7_wayFrom_8 : decode cX7_wayFrom 8 = .ok (.iconst 0, 1) := by decide +kernel
theorem dX7_wayFrom_9 : decode cX7_wayFrom 9 = .ok (.goto 14, 3) := by decide +kernel
theorem dX7_wayFrom_12 : decode cX7_wayFrom 12 = .ok (.aload_n 0, 1) := by decide +kernel
theorem dX7_wayFrom_13 : decode cX7_wayFrom 13 = .ok (.getfield 7, 3) := by decide +kernel
theorem dX7_wayFrom_16 : decode cX7_wayFrom 16 = .ok (.iload_n 1, 1) := by decide +kernel
theorem dX7_wayFrom_17 : decode cX7_wayFrom 17 = .ok (.bipush 20, 2) := by decide +kernel
theorem dX7_wayFrom_19 : decode cX7_wayFrom 19 = .ok (.iadd, 1) := by decide +kernel
theorem dX7_wayFrom_20 : decode cX7_wayFrom 20 = .ok (.iload_n 2, 1) := by decide +kernel
theorem dX7_wayFrom_21 : decode cX7_wayFrom 21 = .ok (.iadd, 1) := by decide +kernel
theorem dX7_wayFrom_22 : decode cX7_wayFrom 22 = .ok (.iaload, 1) := by decide +kernel
theorem dX7_wayFrom_23 : decode cX7_wayFrom 23 = .ok (.istore 4, 2) := by decide +kernel
theorem dX7_wayFrom_25 : decode cX7_wayFrom 25 = .ok (.iload_n 2, 1) := by decide +kernel
theorem dX7_wayFrom_26 : decode cX7_wayFrom 26 = .ok (.ifCond .ne 7, 3) := by decide +kernel
theorem dX7_wayFrom_29 : decode cX7_wayFrom 29 = .ok (.iconst 0, 1) := by decide +kernel
theorem dX7_wayFrom_30 : decode cX7_wayFrom 30 = .ok (.goto 17, 3) := by decide +kernel
theorem dX7_wayFrom_33 : decode cX7_wayFrom 33 = .ok (.aload_n 0, 1) := by decide +kernel
theorem dX7_wayFrom_34 : decode cX7_wayFrom 34 = .ok (.getfield 7, 3) := by decide +kernel
theorem dX7_wayFrom_37 : decode cX7_wayFrom 37 = .ok (.iload_n 1, 1) := by decide +kernel
theorem dX7_wayFrom_38 : decode cX7_wayFrom 38 = .ok (.bipush 20, 2) := by decide +kernel
theorem dX7_wayFrom_40 : decode cX7_wayFrom 40 = .ok (.iadd, 1) := by decide +kernel
theorem dX7_wayFrom_41 : decode cX7_wayFrom 41 = .ok (.iload_n 2, 1) := by decide +kernel
theorem dX7_wayFrom_42 : decode cX7_wayFrom 42 = .ok (.iadd, 1) := by decide +kernel
theorem dX7_wayFrom_43 : decode cX7_wayFrom 43 = .ok (.iconst 1, 1) := by decide +kernel
theorem dX7_wayFrom_44 : decode cX7_wayFrom 44 = .ok (.isub, 1) := by decide +kernel
theorem dX7_wayFrom_45 : decode cX7_wayFrom 45 = .ok (.iaload, 1) := by decide +kernel
theorem dX7_wayFrom_46 : decode cX7_wayFrom 46 = .ok (.ineg, 1) := by decide +kernel
theorem dX7_wayFrom_47 : decode cX7_wayFrom 47 = .ok (.istore 5, 2) := by decide +kernel
theorem dX7_wayFrom_49 : decode cX7_wayFrom 49 = .ok (.iload 4, 2) := by decide +kernel
theorem dX7_wayFrom_51 : decode cX7_wayFrom 51 = .ok (.iload_n 3, 1) := by decide +kernel
theorem dX7_wayFrom_52 : decode cX7_wayFrom 52 = .ok (.if_icmp .lt 12, 3) := by decide +kernel
theorem dX7_wayFrom_55 : decode cX7_wayFrom 55 = .ok (.iload 4, 2) := by decide +kernel
theorem dX7_wayFrom_57 : decode cX7_wayFrom 57 = .ok (.iload 5, 2) := by decide +kernel
theorem dX7_wayFrom_59 : decode cX7_wayFrom 59 = .ok (.if_icmp .lt 5, 3) := by decide +kernel
theorem dX7_wayFrom_62 : decode cX7_wayFrom 62 = .ok (.iconst 1, 1) := by decide +kernel
theorem dX7_wayFrom_63 : decode cX7_wayFrom 63 = .ok (.ireturn, 1) := by decide +kernel
theorem dX7_wayFrom_64 : decode cX7_wayFrom 64 = .ok (.iload 5, 2) := by decide +kernel
theorem dX7_wayFrom_66 : decode cX7_wayFrom 66 = .ok (.iload_n 3, 1) := by decide +kernel
theorem dX7_wayFrom_67 : decode cX7_wayFrom 67 = .ok (.if_icmp .lt 7, 3) := by decide +kernel
theorem dX7_wayFrom_70 : decode cX7_wayFrom 70 = .ok (.iconst (-1), 1) := by decide +kernel
theorem dX7_wayFrom_71 : decode cX7_wayFrom 71 = .ok (.goto 4, 3) := by decide +kernel
theorem dX7_wayFrom_74 : decode cX7_wayFrom 74 = .ok (.iconst 0, 1) := by decide +kernel
theorem dX7_wayFrom_75 : decode cX7_wayFrom 75 = .ok (.ireturn, 1) := by decide +kernel
theorem dX7_goLog_0 : decode cX7_goLog 0 = .ok (.aload_n 0, 1) := by decide +kernel
theorem dX7_goLog_1 : decode cX7_goLog 1 = .ok (.iload_n 1, 1) := by decide +kernel
theorem dX7_goLog_2 : decode cX7_goLog 2 = .ok (.aload_n 0, 1) := by decide +kernel
theorem dX7_goLog_3 : decode cX7_goLog 3 = .ok (.getfield 7, 3) := by decide +kernel
theorem dX7_goLog_6 : decode cX7_goLog 6 = .ok (.iload_n 1, 1) := by decide +kernel
theorem dX7_goLog_7 : decode cX7_goLog 7 = .ok (.bipush 60, 2) := by decide +kernel
theorem dX7_goLog_9 : decode cX7_goLog 9 = .ok (.iadd, 1) := by decide +kernel
theorem dX7_goLog_10 : decode cX7_goLog 10 = .ok (.iload_n 2, 1) := by decide +kernel
theorem dX7_goLog_11 : decode cX7_goLog 11 = .ok (.iadd, 1) := by decide +kernel
theorem dX7_goLog_12 : decode cX7_goLog 12 = .ok (.iaload, 1) := by decide +kernel
theorem dX7_goLog_13 : decode cX7_goLog 13 = .ok (.aload_n 0, 1) := by decide +kernel
theorem dX7_goLog_14 : decode cX7_goLog 14 = .ok (.getfield 7, 3) := by decide +kernel
theorem dX7_goLog_17 : decode cX7_goLog 17 = .ok (.iload_n 1, 1) := by decide +kernel
theorem dX7_goLog_18 : decode cX7_goLog 18 = .ok (.bipush 72, 2) := by decide +kernel
theorem dX7_goLog_20 : decode cX7_goLog 20 = .ok (.iadd, 1) := by decide +kernel
theorem dX7_goLog_21 : decode cX7_goLog 21 = .ok (.iload_n 2, 1) := by decide +kernel
theorem dX7_goLog_22 : decode cX7_goLog 22 = .ok (.iadd, 1) := by decide +kernel
theorem dX7_goLog_23 : decode cX7_goLog 23 = .ok (.iaload, 1) := by decide +kernel
theorem dX7_goLog_24 : decode cX7_goLog 24 = .ok (.invokevirtual 205, 3) := by decide +kernel
theorem dX7_goLog_27 : decode cX7_goLog 27 = .ok (.istore_n 3, 1) := by decide +kernel
theorem dX7_goLog_28 : decode cX7_goLog 28 = .ok (.iload_n 3, 1) := by decide +kernel
theorem dX7_goLog_29 : decode cX7_goLog 29 = .ok (.ifCond .eq 173, 3) := by decide +kernel
theorem dX7_goLog_32 : decode cX7_goLog 32 = .ok (.iload_n 3, 1) := by decide +kernel
theorem dX7_goLog_33 : decode cX7_goLog 33 = .ok (.ifCond .le 17, 3) := by decide +kernel
theorem dX7_goLog_36 : decode cX7_goLog 36 = .ok (.aload_n 0, 1) := by decide +kernel
theorem dX7_goLog_37 : decode cX7_goLog 37 = .ok (.getfield 7, 3) := by decide +kernel
theorem dX7_goLog_40 : decode cX7_goLog 40 = .ok (.iload_n 1, 1) := by decide +kernel
theorem dX7_goLog_41 : decode cX7_goLog 41 = .ok (.bipush 60, 2) := by decide +kernel
theorem dX7_goLog_43 : decode cX7_goLog 43 = .ok (.iadd, 1) := by decide +kernel
theorem dX7_goLog_44 : decode cX7_goLog 44 = .ok (.iload_n 2, 1) := by decide +kernel
theorem dX7_goLog_45 : decode cX7_goLog 45 = .ok (.iadd, 1) := by decide +kernel
theorem dX7_goLog_46 : decode cX7_goLog 46 = .ok (.iaload, 1) := by decide +kernel
theorem dX7_goLog_47 : decode cX7_goLog 47 = .ok (.goto 16, 3) := by decide +kernel
theorem dX7_goLog_50 : decode cX7_goLog 50 = .ok (.aload_n 0, 1) := by decide +kernel
theorem dX7_goLog_51 : decode cX7_goLog 51 = .ok (.getfield 7, 3) := by decide +kernel
theorem dX7_goLog_54 : decode cX7_goLog 54 = .ok (.iload_n 1, 1) := by decide +kernel
theorem dX7_goLog_55 : decode cX7_goLog 55 = .ok (.bipush 60, 2) := by decide +kernel
theorem dX7_goLog_57 : decode cX7_goLog 57 = .ok (.iadd, 1) := by decide +kernel
theorem dX7_goLog_58 : decode cX7_goLog 58 = .ok (.iload_n 2, 1) := by decide +kernel
theorem dX7_goLog_59 : decode cX7_goLog 59 = .ok (.iadd, 1) := by decide +kernel
theorem dX7_goLog_60 : decode cX7_goLog 60 = .ok (.iaload, 1) := by decide +kernel
theorem dX7_goLog_61 : decode cX7_goLog 61 = .ok (.iconst 1, 1) := by decide +kernel
theorem dX7_goLog_62 : decode cX7_goLog 62 = .ok (.isub, 1) := by decide +kernel
theorem dX7_goLog_63 : decode cX7_goLog 63 = .ok (.istore 4, 2) := by decide +kernel
theorem dX7_goLog_65 : decode cX7_goLog 65 = .ok (.aload_n 0, 1) := by decide +kernel
theorem dX7_goLog_66 : decode cX7_goLog 66 = .ok (.getfield 7, 3) := by decide +kernel
theorem dX7_goLog_69 : decode cX7_goLog 69 = .ok (.iload_n 1, 1) := by decide +kernel
theorem dX7_goLog_70 : decode cX7_goLog 70 = .ok (.bipush 96, 2) := by decide +kernel
theorem dX7_goLog_72 : decode cX7_goLog 72 = .ok (.iadd, 1) := by decide +kernel
theorem dX7_goLog_73 : decode cX7_goLog 73 = .ok (.iload_n 2, 1) := by decide +kernel
theorem dX7_goLog_74 : decode cX7_goLog 74 = .ok (.iadd, 1) := by decide +kernel
theorem dX7_goLog_75 : decode cX7_goLog 75 = .ok (.dup2, 1) := by decide +kernel
theorem dX7_goLog_76 : decode cX7_goLog 76 = .ok (.iaload, 1) := by decide +kernel
theorem dX7_goLog_77 : decode cX7_goLog 77 = .ok (.iload_n 3, 1) := by decide +kernel
theorem dX7_goLog_78 : decode cX7_goLog 78 = .ok (.aload_n 0, 1) := by decide +kernel
theorem dX7_goLog_79 : decode cX7_goLog 79 = .ok (.getfield 35, 3) := by decide +kernel
theorem dX7_goLog_82 : decode cX7_goLog 82 = .ok (.iload 4, 2) := by decide +kernel
theorem dX7_goLog_84 : decode cX7_goLog 84 = .ok (.iaload, 1) := by decide +kernel
theorem dX7_goLog_85 : decode cX7_goLog 85 = .ok (.imul, 1) := by decide +kernel
theorem dX7_goLog_86 : decode cX7_goLog 86 = .ok (.iadd, 1) := by decide +kernel
theorem dX7_goLog_87 : decode cX7_goLog 87 = .ok (.iastore, 1) := by decide +kernel
theorem dX7_goLog_88 : decode cX7_goLog 88 = .ok (.aload_n 0, 1) := by decide +kernel
theorem dX7_goLog_89 : decode cX7_goLog 89 = .ok (.getfield 7, 3) := by decide +kernel
theorem dX7_goLog_92 : decode cX7_goLog 92 = .ok (.iload_n 1, 1) := by decide +kernel
theorem dX7_goLog_93 : decode cX7_goLog 93 = .ok (.bipush 108, 2) := by decide +kernel
theorem dX7_goLog_95 : decode cX7_goLog 95 = .ok (.iadd, 1) := by decide +kernel
theorem dX7_goLog_96 : decode cX7_goLog 96 = .ok (.iload_n 2, 1) := by decide +kernel
theorem dX7_goLog_97 : decode cX7_goLog 97 = .ok (.iadd, 1) := by decide +kernel
theorem dX7_goLog_98 : decode cX7_goLog 98 = .ok (.dup2, 1) := by decide +kernel
theorem dX7_goLog_99 : decode cX7_goLog 99 = .ok (.iaload, 1) := by decide +kernel
theorem dX7_goLog_100 : decode cX7_goLog 100 = .ok (.aload_n 0, 1) := by decide +kernel
theorem dX7_goLog_101 : decode cX7_goLog 101 = .ok (.getfield 7, 3) := by decide +kernel
theorem dX7_goLog_104 : decode cX7_goLog 104 = .ok (.iload_n 1, 1) := by decide +kernel
theorem dX7_goLog_105 : decode cX7_goLog 105 = .ok (.sipush 132, 3) := by decide +kernel
theorem dX7_goLog_108 : decode cX7_goLog 108 = .ok (.iadd, 1) := by decide +kernel
theorem dX7_goLog_109 : decode cX7_goLog 109 = .ok (.iload_n 2, 1) := by decide +kernel
theorem dX7_goLog_110 : decode cX7_goLog 110 = .ok (.iadd, 1) := by decide +kernel
theorem dX7_goLog_111 : decode cX7_goLog 111 = .ok (.iaload, 1) := by decide +kernel
theorem dX7_goLog_112 : decode cX7_goLog 112 = .ok (.iload_n 3, 1) := by decide +kernel
theorem dX7_goLog_113 : decode cX7_goLog 113 = .ok (.ineg, 1) := by decide +kernel
theorem dX7_goLog_114 : decode cX7_goLog 114 = .ok (.if_icmp .ne 7, 3) := by decide +kernel
theorem dX7_goLog_117 : decode cX7_goLog 117 = .ok (.iconst 1, 1) := by decide +kernel
theorem dX7_goLog_118 : decode cX7_goLog 118 = .ok (.goto 4, 3) := by decide +kernel
theorem dX7_goLog_121 : decode cX7_goLog 121 = .ok (.iconst 0, 1) := by decide +kernel
theorem dX7_goLog_122 : decode cX7_goLog 122 = .ok (.invokestatic 125, 3) := by decide +kernel
theorem dX7_goLog_125 : decode cX7_goLog 125 = .ok (.iadd, 1) := by decide +kernel
theorem dX7_goLog_126 : decode cX7_goLog 126 = .ok (.iastore, 1) := by decide +kernel
theorem dX7_goLog_127 : decode cX7_goLog 127 = .ok (.aload_n 0, 1) := by decide +kernel
theorem dX7_goLog_128 : decode cX7_goLog 128 = .ok (.getfield 7, 3) := by decide +kernel
theorem dX7_goLog_131 : decode cX7_goLog 131 = .ok (.iload_n 1, 1) := by decide +kernel
theorem dX7_goLog_132 : decode cX7_goLog 132 = .ok (.sipush 132, 3) := by decide +kernel
theorem dX7_goLog_135 : decode cX7_goLog 135 = .ok (.iadd, 1) := by decide +kernel
theorem dX7_goLog_136 : decode cX7_goLog 136 = .ok (.iload_n 2, 1) := by decide +kernel
theorem dX7_goLog_137 : decode cX7_goLog 137 = .ok (.iadd, 1) := by decide +kernel
theorem dX7_goLog_138 : decode cX7_goLog 138 = .ok (.iload_n 3, 1) := by decide +kernel
theorem dX7_goLog_139 : decode cX7_goLog 139 = .ok (.iastore, 1) := by decide +kernel
theorem dX7_goLog_140 : decode cX7_goLog 140 = .ok (.aload_n 0, 1) := by decide +kernel
theorem dX7_goLog_141 : decode cX7_goLog 141 = .ok (.getfield 7, 3) := by decide +kernel
theorem dX7_goLog_144 : decode cX7_goLog 144 = .ok (.iload_n 1, 1) := by decide +kernel
theorem dX7_goLog_145 : decode cX7_goLog 145 = .ok (.bipush 60, 2) := by decide +kernel
theorem dX7_goLog_147 : decode cX7_goLog 147 = .ok (.iadd, 1) := by decide +kernel
theorem dX7_goLog_148 : decode cX7_goLog 148 = .ok (.iload_n 2, 1) := by decide +kernel
theorem dX7_goLog_149 : decode cX7_goLog 149 = .ok (.iadd, 1) := by decide +kernel
theorem dX7_goLog_150 : decode cX7_goLog 150 = .ok (.dup2, 1) := by decide +kernel
theorem dX7_goLog_151 : decode cX7_goLog 151 = .ok (.iaload, 1) := by decide +kernel
theorem dX7_goLog_152 : decode cX7_goLog 152 = .ok (.iload_n 3, 1) := by decide +kernel
theorem dX7_goLog_153 : decode cX7_goLog 153 = .ok (.iadd, 1) := by decide +kernel
theorem dX7_goLog_154 : decode cX7_goLog 154 = .ok (.iastore, 1) := by decide +kernel
theorem dX7_goLog_155 : decode cX7_goLog 155 = .ok (.aload_n 0, 1) := by decide +kernel
theorem dX7_goLog_156 : decode cX7_goLog 156 = .ok (.getfield 7, 3) := by decide +kernel
theorem dX7_goLog_159 : decode cX7_goLog 159 = .ok (.iload_n 1, 1) := by decide +kernel
theorem dX7_goLog_160 : decode cX7_goLog 160 = .ok (.bipush 120, 2) := by decide +kernel
theorem dX7_goLog_162 : decode cX7_goLog 162 = .ok (.iadd, 1) := by decide +kernel
theorem dX7_goLog_163 : decode cX7_goLog 163 = .ok (.iload_n 2, 1) := by decide +kernel
theorem dX7_goLog_164 : decode cX7_goLog 164 = .ok (.iadd, 1) := by decide +kernel
theorem dX7_goLog_165 : decode cX7_goLog 165 = .ok (.dup2, 1) := by decide +kernel
theorem dX7_goLog_166 : decode cX7_goLog 166 = .ok (.iaload, 1) := by decide +kernel
theorem dX7_goLog_167 : decode cX7_goLog 167 = .ok (.aload_n 0, 1) := by decide +kernel
theorem dX7_goLog_168 : decode cX7_goLog 168 = .ok (.getfield 7, 3) := by decide +kernel
theorem dX7_goLog_171 : decode cX7_goLog 171 = .ok (.iload_n 1, 1) := by decide +kernel
theorem dX7_goLog_172 : decode cX7_goLog 172 = .ok (.bipush 60, 2) := by decide +kernel
theorem dX7_goLog_174 : decode cX7_goLog 174 = .ok (.iadd, 1) := by decide +kernel
theorem dX7_goLog_175 : decode cX7_goLog 175 = .ok (.iload_n 2, 1) := by decide +kernel
theorem dX7_goLog_176 : decode cX7_goLog 176 = .ok (.iadd, 1) := by decide +kernel
theorem dX7_goLog_177 : decode cX7_goLog 177 = .ok (.iaload, 1) := by decide +kernel
theorem dX7_goLog_178 : decode cX7_goLog 178 = .ok (.aload_n 0, 1) := by decide +kernel
theorem dX7_goLog_179 : decode cX7_goLog 179 = .ok (.getfield 7, 3) := by decide +kernel
theorem dX7_goLog_182 : decode cX7_goLog 182 = .ok (.iload_n 1, 1) := by decide +kernel
theorem dX7_goLog_183 : decode cX7_goLog 183 = .ok (.bipush 84, 2) := by decide +kernel
theorem dX7_goLog_185 : decode cX7_goLog 185 = .ok (.iadd, 1) := by decide +kernel
theorem dX7_goLog_186 : decode cX7_goLog 186 = .ok (.iload_n 2, 1) := by decide +kernel
theorem dX7_goLog_187 : decode cX7_goLog 187 = .ok (.iadd, 1) := by decide +kernel
theorem dX7_goLog_188 : decode cX7_goLog 188 = .ok (.iaload, 1) := by decide +kernel
theorem dX7_goLog_189 : decode cX7_goLog 189 = .ok (.if_icmp .ne 7, 3) := by decide +kernel
theorem dX7_goLog_192 : decode cX7_goLog 192 = .ok (.iconst 1, 1) := by decide +kernel
theorem dX7_goLog_193 : decode cX7_goLog 193 = .ok (.goto 4, 3) := by decide +kernel
theorem dX7_goLog_196 : decode cX7_goLog 196 = .ok (.iconst 0, 1) := by decide +kernel
theorem dX7_goLog_197 : decode cX7_goLog 197 = .ok (.invokestatic 125, 3) := by decide +kernel
theorem dX7_goLog_200 : decode cX7_goLog 200 = .ok (.iadd, 1) := by decide +kernel
theorem dX7_goLog_201 : decode cX7_goLog 201 = .ok (.iastore, 1) := by decide +kernel
theorem dX7_goLog_202 : decode cX7_goLog 202 = .ok (.return_, 1) := by decide +kernel
theorem dX7_rainOn_0 : decode cX7_rainOn 0 = .ok (.aload_n 0, 1) := by decide +kernel
theorem dX7_rainOn_1 : decode cX7_rainOn 1 = .ok (.getfield 7, 3) := by decide +kernel
theorem dX7_rainOn_4 : decode cX7_rainOn 4 = .ok (.iload_n 1, 1) := by decide +kernel
theorem dX7_rainOn_5 : decode cX7_rainOn 5 = .ok (.iaload, 1) := by decide +kernel
theorem dX7_rainOn_6 : decode cX7_rainOn 6 = .ok (.aload_n 0, 1) := by decide +kernel
theorem dX7_rainOn_7 : decode cX7_rainOn 7 = .ok (.getfield 26, 3) := by decide +kernel
theorem dX7_rainOn_10 : decode cX7_rainOn 10 = .ok (.aload_n 0, 1) := by decide +kernel
theorem dX7_rainOn_11 : decode cX7_rainOn 11 = .ok (.getfield 7, 3) := by decide +kernel
theorem dX7_rainOn_14 : decode cX7_rainOn 14 = .ok (.iload_n 1, 1) := by decide +kernel
theorem dX7_rainOn_15 : decode cX7_rainOn 15 = .ok (.bipush 50, 2) := by decide +kernel
theorem dX7_rainOn_17 : decode cX7_rainOn 17 = .ok (.iadd, 1) := by decide +kernel
theorem dX7_rainOn_18 : decode cX7_rainOn 18 = .ok (.iaload, 1) := by decide +kernel
theorem dX7_rainOn_19 : decode cX7_rainOn 19 = .ok (.bipush 24, 2) := by decide +kernel
theorem dX7_rainOn_21 : decode cX7_rainOn 21 = .ok (.irem, 1) := by decide +kernel
theorem dX7_rainOn_22 : decode cX7_rainOn 22 = .ok (.iaload, 1) := by decide +kernel
theorem dX7_rainOn_23 : decode cX7_rainOn 23 = .ok (.iadd, 1) := by decide +kernel
theorem dX7_rainOn_24 : decode cX7_rainOn 24 = .ok (.bipush 50, 2) := by decide +kernel
theorem dX7_rainOn_26 : decode cX7_rainOn 26 = .ok (.isub, 1) := by decide +kernel
theorem dX7_rainOn_27 : decode cX7_rainOn 27 = .ok (.istore_n 2, 1) := by decide +kernel
theorem dX7_rainOn_28 : decode cX7_rainOn 28 = .ok (.aload_n 0, 1) := by decide +kernel
theorem dX7_rainOn_29 : decode cX7_rainOn 29 = .ok (.getfield 7, 3) := by decide +kernel
theorem dX7_rainOn_32 : decode cX7_rainOn 32 = .ok (.iload_n 1, 1) := by decide +kernel
theorem dX7_rainOn_33 : decode cX7_rainOn 33 = .ok (.iload_n 2, 1) := by decide +kernel
theorem dX7_rainOn_34 : decode cX7_rainOn 34 = .ok (.ifCond .ge 7, 3) := by decide +kernel
theorem dX7_rainOn_37 : decode cX7_rainOn 37 = .ok (.iconst 0, 1) := by decide +kernel
theorem dX7_rainOn_38 : decode cX7_rainOn 38 = .ok (.goto 4, 3) := by decide +kernel
theorem dX7_rainOn_41 : decode cX7_rainOn 41 = .ok (.iload_n 2, 1) := by decide +kernel
theorem dX7_rainOn_42 : decode cX7_rainOn 42 = .ok (.iastore, 1) := by decide +kernel
theorem dX7_rainOn_43 : decode cX7_rainOn 43 = .ok (.return_, 1) := by decide +kernel
theorem dX7_pass_0 : decode cX7_pass 0 = .ok (.aload_n 0, 1) := by decide +kernel
theorem dX7_pass_1 : decode cX7_pass 1 = .ok (.iload_n 1, 1) := by decide +kernel
theorem dX7_pass_2 : decode cX7_pass 2 = .ok (.invokevirtual 209, 3) := by decide +kernel
theorem dX7_pass_5 : decode cX7_pass 5 = .ok (.aload_n 0, 1) := by decide +kernel
theorem dX7_pass_6 : decode cX7_pass 6 = .ok (.iload_n 1, 1) := by decide +kernel
theorem dX7_pass_7 : decode cX7_pass 7 = .ok (.invokevirtual 213, 3) := by decide +kernel
theorem dX7_pass_10 : decode cX7_pass 10 = .ok (.iconst 0, 1) := by decide +kernel
theorem dX7_pass_11 : decode cX7_pass 11 = .ok (.istore_n 2, 1) := by decide +kernel
theorem dX7_pass_12 : decode cX7_pass 12 = .ok (.iload_n 2, 1) := by decide +kernel
theorem dX7_pass_13 : decode cX7_pass 13 = .ok (.aload_n 0, 1) := by decide +kernel
theorem dX7_pass_14 : decode cX7_pass 14 = .ok (.getfield 7, 3) := by decide +kernel
theorem dX7_pass_17 : decode cX7_pass 17 = .ok (.iload_n 1, 1) := by decide +kernel
theorem dX7_pass_18 : decode cX7_pass 18 = .ok (.bipush 51, 2) := by decide +kernel
theorem dX7_pass_20 : decode cX7_pass 20 = .ok (.iadd, 1) := by decide +kernel
theorem dX7_pass_21 : decode cX7_pass 21 = .ok (.iaload, 1) := by decide +kernel
theorem dX7_pass_22 : decode cX7_pass 22 = .ok (.if_icmp .ge 15, 3) := by decide +kernel
theorem dX7_pass_25 : decode cX7_pass 25 = .ok (.aload_n 0, 1) := by decide +kernel
theorem dX7_pass_26 : decode cX7_pass 26 = .ok (.iload_n 1, 1) := by decide +kernel
theorem dX7_pass_27 : decode cX7_pass 27 = .ok (.iload_n 2, 1) := by decide +kernel
theorem dX7_pass_28 : decode cX7_pass 28 = .ok (.invokevirtual 216, 3) := by decide +kernel
theorem dX7_pass_31 : decode cX7_pass 31 = .ok (.iinc 2 1, 3) := by decide +kernel
theorem dX7_pass_34 : decode cX7_pass 34 = .ok (.goto (-22), 3) := by decide +kernel
theorem dX7_pass_37 : decode cX7_pass 37 = .ok (.aload_n 0, 1) := by decide +kernel
theorem dX7_pass_38 : decode cX7_pass 38 = .ok (.iload_n 1, 1) := by decide +kernel
theorem dX7_pass_39 : decode cX7_pass 39 = .ok (.invokevirtual 220, 3) := by decide +kernel
theorem dX7_pass_42 : decode cX7_pass 42 = .ok (.aload_n 0, 1) := by decide +kernel
theorem dX7_pass_43 : decode cX7_pass 43 = .ok (.getfield 7, 3) := by decide +kernel
theorem dX7_pass_46 : decode cX7_pass 46 = .ok (.iload_n 1, 1) := by decide +kernel
theorem dX7_pass_47 : decode cX7_pass 47 = .ok (.bipush 50, 2) := by decide +kernel
theorem dX7_pass_49 : decode cX7_pass 49 = .ok (.iadd, 1) := by decide +kernel
theorem dX7_pass_50 : decode cX7_pass 50 = .ok (.dup2, 1) := by decide +kernel
theorem dX7_pass_51 : decode cX7_pass 51 = .ok (.iaload, 1) := by decide +kernel
theorem dX7_pass_52 : decode cX7_pass 52 = .ok (.iconst 1, 1) := by decide +kernel
theorem dX7_pass_53 : decode cX7_pass 53 = .ok (.iadd, 1) := by decide +kernel
theorem dX7_pass_54 : decode cX7_pass 54 = .ok (.iastore, 1) := by decide +kernel
theorem dX7_pass_55 : decode cX7_pass 55 = .ok (.return_, 1) := by decide +kernel
theorem dX7_go_0 : decode cX7_go 0 = .ok (.iload_n 1, 1) := by decide +kernel
theorem dX7_go_1 : decode cX7_go 1 = .ok (.i2l, 1) := by decide +kernel
theorem dX7_go_2 : decode cX7_go 2 = .ok (.lconst 1, 1) := by decide +kernel
theorem dX7_go_3 : decode cX7_go 3 = .ok (.ldc2_w 223, 3) := by decide +kernel
theorem dX7_go_6 : decode cX7_go 6 = .ok (.invokestatic 71, 3) := by decide +kernel
theorem dX7_go_9 : decode cX7_go 9 = .ok (.ifCond .ne 6, 3) := by decide +kernel
theorem dX7_go_12 : decode cX7_go 12 = .ok (.ldc 75, 2) := by decide +kernel
theorem dX7_go_14 : decode cX7_go 14 = .ok (.ireturn, 1) := by decide +kernel
theorem dX7_go_15 : decode cX7_go 15 = .ok (.aload_n 0, 1) := by decide +kernel
theorem dX7_go_16 : decode cX7_go 16 = .ok (.getfield 161, 3) := by decide +kernel
theorem dX7_go_19 : decode cX7_go 19 = .ok (.ifCond .ne 6, 3) := by decide +kernel
theorem dX7_go_22 : decode cX7_go 22 = .ok (.ldc 170, 2) := by decide +kernel
theorem dX7_go_24 : decode cX7_go 24 = .ok (.ireturn, 1) := by decide +kernel
theorem dX7_go_25 : decode cX7_go 25 = .ok (.aload_n 0, 1) := by decide +kernel
theorem dX7_go_26 : decode cX7_go 26 = .ok (.iconst 0, 1) := by decide +kernel
theorem dX7_go_27 : decode cX7_go 27 = .ok (.putfield 195, 3) := by decide +kernel
theorem dX7_go_30 : decode cX7_go 30 = .ok (.iconst 0, 1) := by decide +kernel
theorem dX7_go_31 : decode cX7_go 31 = .ok (.istore_n 2, 1) := by decide +kernel
theorem dX7_go_32 : decode cX7_go 32 = .ok (.iload_n 2, 1) := by decide +kernel
theorem dX7_go_33 : decode cX7_go 33 = .ok (.iload_n 1, 1) := by decide +kernel
theorem dX7_go_34 : decode cX7_go 34 = .ok (.if_icmp .ge 14, 3) := by decide +kernel
theorem dX7_go_37 : decode cX7_go 37 = .ok (.aload_n 0, 1) := by decide +kernel
theorem dX7_go_38 : decode cX7_go 38 = .ok (.iconst 0, 1) := by decide +kernel
theorem dX7_go_39 : decode cX7_go 39 = .ok (.invokevirtual 225, 3) := by decide +kernel
theorem dX7_go_42 : decode cX7_go 42 = .ok (.iinc 2 1, 3) := by decide +kernel
theorem dX7_go_45 : decode cX7_go 45 = .ok (.goto (-13), 3) := by decide +kernel
theorem dX7_go_48 : decode cX7_go 48 = .ok (.aload_n 0, 1) := by decide +kernel
theorem dX7_go_49 : decode cX7_go 49 = .ok (.getfield 7, 3) := by decide +kernel
theorem dX7_go_52 : decode cX7_go 52 = .ok (.bipush 50, 2) := by decide +kernel
theorem dX7_go_54 : decode cX7_go 54 = .ok (.iaload, 1) := by decide +kernel
theorem dX7_go_55 : decode cX7_go 55 = .ok (.ireturn, 1) := by decide +kernel
theorem dX7_width_0 : decode cX7_width 0 = .ok (.aload_n 0, 1) := by decide +kernel
theorem dX7_width_1 : decode cX7_width 1 = .ok (.iload_n 1, 1) := by decide +kernel
theorem dX7_width_2 : decode cX7_width 2 = .ok (.invokevirtual 192, 3) := by decide +kernel
theorem dX7_width_5 : decode cX7_width 5 = .ok (.ifCond .ne 6, 3) := by decide +kernel
theorem dX7_width_8 : decode cX7_width 8 = .ok (.ldc 185, 2) := by decide +kernel
theorem dX7_width_10 : decode cX7_width 10 = .ok (.ireturn, 1) := by decide +kernel
theorem dX7_width_11 : decode cX7_width 11 = .ok (.iload_n 2, 1) := by decide +kernel
theorem dX7_width_12 : decode cX7_width 12 = .ok (.i2l, 1) := by decide +kernel
theorem dX7_width_13 : decode cX7_width 13 = .ok (.lconst 0, 1) := by decide +kernel
theorem dX7_width_14 : decode cX7_width 14 = .ok (.ldc2_w 228, 3) := by decide +kernel
theorem dX7_width_17 : decode cX7_width 17 = .ok (.invokestatic 71, 3) := by decide +kernel
theorem dX7_width_20 : decode cX7_width 20 = .ok (.ifCond .ne 6, 3) := by decide +kernel
theorem dX7_width_23 : decode cX7_width 23 = .ok (.ldc 75, 2) := by decide +kernel
theorem dX7_width_25 : decode cX7_width 25 = .ok (.ireturn, 1) := by decide +kernel
theorem dX7_width_26 : decode cX7_width 26 = .ok (.aload_n 0, 1) := by decide +kernel
theorem dX7_width_27 : decode cX7_width 27 = .ok (.getfield 7, 3) := by decide +kernel
theorem dX7_width_30 : decode cX7_width 30 = .ok (.bipush 10, 2) := by decide +kernel
theorem dX7_width_32 : decode cX7_width 32 = .ok (.iload_n 1, 1) := by decide +kernel
theorem dX7_width_33 : decode cX7_width 33 = .ok (.iadd, 1) := by decide +kernel
theorem dX7_width_34 : decode cX7_width 34 = .ok (.iaload, 1) := by decide +kernel
theorem dX7_width_35 : decode cX7_width 35 = .ok (.istore_n 3, 1) := by decide +kernel
theorem dX7_width_36 : decode cX7_width 36 = .ok (.aload_n 0, 1) := by decide +kernel
theorem dX7_width_37 : decode cX7_width 37 = .ok (.getfield 7, 3) := by decide +kernel
theorem dX7_width_40 : decode cX7_width 40 = .ok (.bipush 10, 2) := by decide +kernel
theorem dX7_width_42 : decode cX7_width 42 = .ok (.iload_n 1, 1) := by decide +kernel
theorem dX7_width_43 : decode cX7_width 43 = .ok (.iadd, 1) := by decide +kernel
theorem dX7_width_44 : decode cX7_width 44 = .ok (.iload_n 2, 1) := by decide +kernel
theorem dX7_width_45 : decode cX7_width 45 = .ok (.iastore, 1) := by decide +kernel
theorem dX7_width_46 : decode cX7_width 46 = .ok (.iload_n 3, 1) := by decide +kernel
theorem dX7_width_47 : decode cX7_width 47 = .ok (.ireturn, 1) := by decide +kernel
theorem dX7_pour_0 : decode cX7_pour 0 = .ok (.iload_n 1, 1) := by decide +kernel
theorem dX7_pour_1 : decode cX7_pour 1 = .ok (.i2l, 1) := by decide +kernel
theorem dX7_pour_2 : decode cX7_pour 2 = .ok (.lconst 0, 1) := by decide +kernel
theorem dX7_pour_3 : decode cX7_pour 3 = .ok (.aload_n 0, 1) := by decide +kernel
theorem dX7_pour_4 : decode cX7_pour 4 = .ok (.getfield 161, 3) := by decide +kernel
theorem dX7_pour_7 : decode cX7_pour 7 = .ok (.iconst 2, 1) := by decide +kernel
theorem dX7_pour_8 : decode cX7_pour 8 = .ok (.isub, 1) := by decide +kernel
theorem dX7_pour_9 : decode cX7_pour 9 = .ok (.i2l, 1) := by decide +kernel
theorem dX7_pour_10 : decode cX7_pour 10 = .ok (.invokestatic 71, 3) := by decide +kernel
theorem dX7_pour_13 : decode cX7_pour 13 = .ok (.ifCond .ne 6, 3) := by decide +kernel
theorem dX7_pour_16 : decode cX7_pour 16 = .ok (.ldc 185, 2) := by decide +kernel
theorem dX7_pour_18 : decode cX7_pour 18 = .ok (.ireturn, 1) := by decide +kernel
theorem dX7_pour_19 : decode cX7_pour 19 = .ok (.iload_n 2, 1) := by decide +kernel
theorem dX7_pour_20 : decode cX7_pour 20 = .ok (.i2l, 1) := by decide +kernel
theorem dX7_pour_21 : decode cX7_pour 21 = .ok (.lconst 0, 1) := by decide +kernel
theorem dX7_pour_22 : decode cX7_pour 22 = .ok (.ldc2_w 230, 3) := by decide +kernel
theorem dX7_pour_25 : decode cX7_pour 25 = .ok (.invokestatic 71, 3) := by decide +kernel
theorem dX7_pour_28 : decode cX7_pour 28 = .ok (.ifCond .ne 6, 3) := by decide +kernel
theorem dX7_pour_31 : decode cX7_pour 31 = .ok (.ldc 75, 2) := by decide +kernel
theorem dX7_pour_33 : decode cX7_pour 33 = .ok (.ireturn, 1) := by decide +kernel
theorem dX7_pour_34 : decode cX7_pour 34 = .ok (.aload_n 0, 1) := by decide +kernel
theorem dX7_pour_35 : decode cX7_pour 35 = .ok (.getfield 7, 3) := by decide +kernel
theorem dX7_pour_38 : decode cX7_pour 38 = .ok (.iload_n 1, 1) := by decide +kernel
theorem dX7_pour_39 : decode cX7_pour 39 = .ok (.iaload, 1) := by decide +kernel
theorem dX7_pour_40 : decode cX7_pour 40 = .ok (.istore_n 3, 1) := by decide +kernel
theorem dX7_pour_41 : decode cX7_pour 41 = .ok (.aload_n 0, 1) := by decide +kernel
theorem dX7_pour_42 : decode cX7_pour 42 = .ok (.getfield 7, 3) := by decide +kernel
theorem dX7_pour_45 : decode cX7_pour 45 = .ok (.iload_n 1, 1) := by decide +kernel
theorem dX7_pour_46 : decode cX7_pour 46 = .ok (.iload_n 2, 1) := by decide +kernel
theorem dX7_pour_47 : decode cX7_pour 47 = .ok (.iastore, 1) := by decide +kernel
theorem dX7_pour_48 : decode cX7_pour 48 = .ok (.iload_n 3, 1) := by decide +kernel
theorem dX7_pour_49 : decode cX7_pour 49 = .ok (.ireturn, 1) := by decide +kernel
theorem dX7_draw_0 : decode cX7_draw 0 = .ok (.aload_n 0, 1) := by decide +kernel
theorem dX7_draw_1 : decode cX7_draw 1 = .ok (.getfield 7, 3) := by decide +kernel
theorem dX7_draw_4 : decode cX7_draw 4 = .ok (.bipush 52, 2) := by decide +kernel
theorem dX7_draw_6 : decode cX7_draw 6 = .ok (.aload_n 0, 1) := by decide +kernel
theorem dX7_draw_7 : decode cX7_draw 7 = .ok (.getfield 7, 3) := by decide +kernel
theorem dX7_draw_10 : decode cX7_draw 10 = .ok (.bipush 52, 2) := by decide +kernel
theorem dX7_draw_12 : decode cX7_draw 12 = .ok (.iaload, 1) := by decide +kernel
theorem dX7_draw_13 : decode cX7_draw 13 = .ok (.i2l, 1) := by decide +kernel
theorem dX7_draw_14 : decode cX7_draw 14 = .ok (.ldc2_w 232, 3) := by decide +kernel
theorem dX7_draw_17 : decode cX7_draw 17 = .ok (.lmul, 1) := by decide +kernel
theorem dX7_draw_18 : decode cX7_draw 18 = .ok (.ldc2_w 234, 3) := by decide +kernel
theorem dX7_draw_21 : decode cX7_draw 21 = .ok (.ladd, 1) := by decide +kernel
theorem dX7_draw_22 : decode cX7_draw 22 = .ok (.ldc2_w 236, 3) := by decide +kernel
theorem dX7_draw_25 : decode cX7_draw 25 = .ok (.lrem, 1) := by decide +kernel
theorem dX7_draw_26 : decode cX7_draw 26 = .ok (.l2i, 1) := by decide +kernel
theorem dX7_draw_27 : decode cX7_draw 27 = .ok (.iastore, 1) := by decide +kernel
theorem dX7_draw_28 : decode cX7_draw 28 = .ok (.aload_n 0, 1) := by decide +kernel
theorem dX7_draw_29 : decode cX7_draw 29 = .ok (.getfield 7, 3) := by decide +kernel
theorem dX7_draw_32 : decode cX7_draw 32 = .ok (.bipush 52, 2) := by decide +kernel
theorem dX7_draw_34 : decode cX7_draw 34 = .ok (.iaload, 1) := by decide +kernel
theorem dX7_draw_35 : decode cX7_draw 35 = .ok (.ldc 238, 2) := by decide +kernel
theorem dX7_draw_37 : decode cX7_draw 37 = .ok (.idiv, 1) := by decide +kernel
theorem dX7_draw_38 : decode cX7_draw 38 = .ok (.iload_n 1, 1) := by decide +kernel
theorem dX7_draw_39 : decode cX7_draw 39 = .ok (.irem, 1) := by decide +kernel
theorem dX7_draw_40 : decode cX7_draw 40 = .ok (.ireturn, 1) := by decide +kernel
theorem dX7_showers_0 : decode cX7_showers 0 = .ok (.iload_n 1, 1) := by decide +kernel
theorem dX7_showers_1 : decode cX7_showers 1 = .ok (.i2l, 1) := by decide +kernel
theorem dX7_showers_2 : decode cX7_showers 2 = .ok (.lconst 1, 1) := by decide +kernel
theorem dX7_showers_3 : decode cX7_showers 3 = .ok (.ldc2_w 239, 3) := by decide +kernel
theorem dX7_showers_6 : decode cX7_showers 6 = .ok (.invokestatic 71, 3) := by decide +kernel
theorem dX7_showers_9 : decode cX7_showers 9 = .ok (.ifCond .eq 15, 3) := by decide +kernel
theorem dX7_showers_12 : decode cX7_showers 12 = .ok (.iload_n 2, 1) := by decide +kernel
theorem dX7_showers_13 : decode cX7_showers 13 = .ok (.i2l, 1) := by decide +kernel
theorem dX7_showers_14 : decode cX7_showers 14 = .ok (.lconst 1, 1) := by decide +kernel
theorem dX7_showers_15 : decode cX7_showers 15 = .ok (.ldc2_w 241, 3) := by decide +kernel
theorem dX7_showers_18 : decode cX7_showers 18 = .ok (.invokestatic 71, 3) := by decide +kernel
theorem dX7_showers_21 : decode cX7_showers 21 = .ok (.ifCond .ne 6, 3) := by decide +kernel
theorem dX7_showers_24 : decode cX7_showers 24 = .ok (.ldc 75, 2) := by decide +kernel
theorem dX7_showers_26 : decode cX7_showers 26 = .ok (.ireturn, 1) := by decide +kernel
theorem dX7_showers_27 : decode cX7_showers 27 = .ok (.aload_n 0, 1) := by decide +kernel
theorem dX7_showers_28 : decode cX7_showers 28 = .ok (.getfield 161, 3) := by decide +kernel
theorem dX7_showers_31 : decode cX7_showers 31 = .ok (.ifCond .ne 6, 3) := by decide +kernel
theorem dX7_showers_34 : decode cX7_showers 34 = .ok (.ldc 170, 2) := by decide +kernel
theorem dX7_showers_36 : decode cX7_showers 36 = .ok (.ireturn, 1) := by decide +kernel
theorem dX7_showers_37 : decode cX7_showers 37 = .ok (.aload_n 0, 1) := by decide +kernel
theorem dX7_showers_38 : decode cX7_showers 38 = .ok (.iconst 0, 1) := by decide +kernel
theorem dX7_showers_39 : decode cX7_showers 39 = .ok (.putfield 195, 3) := by decide +kernel
theorem dX7_showers_42 : decode cX7_showers 42 = .ok (.iconst 0, 1) := by decide +kernel
theorem dX7_showers_43 : decode cX7_showers 43 = .ok (.istore_n 3, 1) := by decide +kernel
theorem dX7_showers_44 : decode cX7_showers 44 = .ok (.iconst 0, 1) := by decide +kernel
theorem dX7_showers_45 : decode cX7_showers 45 = .ok (.istore 4, 2) := by decide +kernel
theorem dX7_showers_47 : decode cX7_showers 47 = .ok (.iload 4, 2) := by decide +kernel
theorem dX7_showers_49 : decode cX7_showers 49 = .ok (.iload_n 1, 1) := by decide +kernel
theorem dX7_showers_50 : decode cX7_showers 50 = .ok (.if_icmp .ge 57, 3) := by decide +kernel
theorem dX7_showers_53 : decode cX7_showers 53 = .ok (.aload_n 0, 1) := by decide +kernel
theorem dX7_showers_54 : decode cX7_showers 54 = .ok (.iconst 0, 1) := by decide +kernel
theorem dX7_showers_55 : decode cX7_showers 55 = .ok (.invokevirtual 225, 3) := by decide +kernel
theorem dX7_showers_58 : decode cX7_showers 58 = .ok (.aload_n 0, 1) := by decide +kernel
theorem dX7_showers_59 : decode cX7_showers 59 = .ok (.iload_n 2, 1) := by decide +kernel
theorem dX7_showers_60 : decode cX7_showers 60 = .ok (.invokevirtual 243, 3) := by decide +kernel
theorem dX7_showers_63 : decode cX7_showers 63 = .ok (.istore 5, 2) := by decide +kernel
theorem dX7_showers_65 : decode cX7_showers 65 = .ok (.aload_n 0, 1) := by decide +kernel
theorem dX7_showers_66 : decode cX7_showers 66 = .ok (.aload_n 0, 1) := by decide +kernel
theorem dX7_showers_67 : decode cX7_showers 67 = .ok (.getfield 161, 3) := by decide +kernel
theorem dX7_showers_70 : decode cX7_showers 70 = .ok (.invokevirtual 243, 3) := by decide +kernel
theorem dX7_showers_73 : decode cX7_showers 73 = .ok (.istore 6, 2) := by decide +kernel
theorem dX7_showers_75 : decode cX7_showers 75 = .ok (.iload 6, 2) := by decide +kernel
theorem dX7_showers_77 : decode cX7_showers 77 = .ok (.aload_n 0, 1) := by decide +kernel
theorem dX7_showers_78 : decode cX7_showers 78 = .ok (.invokevirtual 174, 3) := by decide +kernel
theorem dX7_showers_81 : decode cX7_showers 81 = .ok (.if_icmp .eq 20, 3) := by decide +kernel
theorem dX7_showers_84 : decode cX7_showers 84 = .ok (.aload_n 0, 1) := by decide +kernel
theorem dX7_showers_85 : decode cX7_showers 85 = .ok (.getfield 7, 3) := by decide +kernel
theorem dX7_showers_88 : decode cX7_showers 88 = .ok (.iload 6, 2) := by decide +kernel
theorem dX7_showers_90 : decode cX7_showers 90 = .ok (.dup2, 1) := by decide +kernel
theorem dX7_showers_91 : decode cX7_showers 91 = .ok (.iaload, 1) := by decide +kernel
theorem dX7_showers_92 : decode cX7_showers 92 = .ok (.iload 5, 2) := by decide +kernel
theorem dX7_showers_94 : decode cX7_showers 94 = .ok (.iadd, 1) := by decide +kernel
theorem dX7_showers_95 : decode cX7_showers 95 = .ok (.iastore, 1) := by decide +kernel
theorem dX7_showers_96 : decode cX7_showers 96 = .ok (.iload_n 3, 1) := by decide +kernel
theorem dX7_showers_97 : decode cX7_showers 97 = .ok (.iload 5, 2) := by decide +kernel
theorem dX7_showers_99 : decode cX7_showers 99 = .ok (.iadd, 1) := by decide +kernel
theorem dX7_showers_100 : decode cX7_showers 100 = .ok (.istore_n 3, 1) := by decide +kernel
theorem dX7_showers_101 : decode cX7_showers 101 = .ok (.iinc 4 1, 3) := by decide +kernel
theorem dX7_showers_104 : decode cX7_showers 104 = .ok (.goto (-57), 3) := by decide +kernel
theorem dX7_showers_107 : decode cX7_showers 107 = .ok (.iload_n 3, 1) := by decide +kernel
theorem dX7_showers_108 : decode cX7_showers 108 = .ok (.ireturn, 1) := by decide +kernel
theorem dX7_log_0 : decode cX7_log 0 = .ok (.aload_n 0, 1) := by decide +kernel
theorem dX7_log_1 : decode cX7_log 1 = .ok (.iload_n 1, 1) := by decide +kernel
theorem dX7_log_2 : decode cX7_log 2 = .ok (.invokevirtual 181, 3) := by decide +kernel
theorem dX7_log_5 : decode cX7_log 5 = .ok (.ifCond .ne 6, 3) := by decide +kernel
theorem dX7_log_8 : decode cX7_log 8 = .ok (.ldc 185, 2) := by decide +kernel
theorem dX7_log_10 : decode cX7_log 10 = .ok (.ireturn, 1) := by decide +kernel
theorem dX7_log_11 : decode cX7_log 11 = .ok (.iload_n 2, 1) := by decide +kernel
theorem dX7_log_12 : decode cX7_log 12 = .ok (.i2l, 1) := by decide +kernel
theorem dX7_log_13 : decode cX7_log 13 = .ok (.lconst 1, 1) := by decide +kernel
theorem dX7_log_14 : decode cX7_log 14 = .ok (.ldc2_w 246, 3) := by decide +kernel
theorem dX7_log_17 : decode cX7_log 17 = .ok (.invokestatic 71, 3) := by decide +kernel
theorem dX7_log_20 : decode cX7_log 20 = .ok (.ifCond .ne 6, 3) := by decide +kernel
theorem dX7_log_23 : decode cX7_log 23 = .ok (.ldc 75, 2) := by decide +kernel
theorem dX7_log_25 : decode cX7_log 25 = .ok (.ireturn, 1) := by decide +kernel
theorem dX7_log_26 : decode cX7_log 26 = .ok (.aload_n 0, 1) := by decide +kernel
theorem dX7_log_27 : decode cX7_log 27 = .ok (.getfield 7, 3) := by decide +kernel
theorem dX7_log_30 : decode cX7_log 30 = .ok (.bipush 51, 2) := by decide +kernel
theorem dX7_log_32 : decode cX7_log 32 = .ok (.iaload, 1) := by decide +kernel
theorem dX7_log_33 : decode cX7_log 33 = .ok (.bipush 12, 2) := by decide +kernel
theorem dX7_log_35 : decode cX7_log 35 = .ok (.if_icmp .ne 6, 3) := by decide +kernel
theorem dX7_log_38 : decode cX7_log 38 = .ok (.ldc 79, 2) := by decide +kernel
theorem dX7_log_40 : decode cX7_log 40 = .ok (.ireturn, 1) := by decide +kernel
theorem dX7_log_41 : decode cX7_log 41 = .ok (.aload_n 0, 1) := by decide +kernel
theorem dX7_log_42 : decode cX7_log 42 = .ok (.getfield 7, 3) := by decide +kernel
theorem dX7_log_45 : decode cX7_log 45 = .ok (.bipush 51, 2) := by decide +kernel
theorem dX7_log_47 : decode cX7_log 47 = .ok (.iaload, 1) := by decide +kernel
theorem dX7_log_48 : decode cX7_log 48 = .ok (.istore_n 3, 1) := by decide +kernel
theorem dX7_log_49 : decode cX7_log 49 = .ok (.aload_n 0, 1) := by decide +kernel
theorem dX7_log_50 : decode cX7_log 50 = .ok (.getfield 7, 3) := by decide +kernel
theorem dX7_log_53 : decode cX7_log 53 = .ok (.bipush 60, 2) := by decide +kernel
theorem dX7_log_55 : decode cX7_log 55 = .ok (.iload_n 3, 1) := by decide +kernel
theorem dX7_log_56 : decode cX7_log 56 = .ok (.iadd, 1) := by decide +kernel
theorem dX7_log_57 : decode cX7_log 57 = .ok (.iload_n 1, 1) := by decide +kernel
theorem dX7_log_58 : decode cX7_log 58 = .ok (.iastore, 1) := by decide +kernel
theorem dX7_log_59 : decode cX7_log 59 = .ok (.aload_n 0, 1) := by decide +kernel
theorem dX7_log_60 : decode cX7_log 60 = .ok (.getfield 7, 3) := by decide +kernel
theorem dX7_log_63 : decode cX7_log 63 = .ok (.bipush 72, 2) := by decide +kernel
theorem dX7_log_65 : decode cX7_log 65 = .ok (.iload_n 3, 1) := by decide +kernel
theorem dX7_log_66 : decode cX7_log 66 = .ok (.iadd, 1) := by decide +kernel
theorem dX7_log_67 : decode cX7_log 67 = .ok (.iload_n 2, 1) := by decide +kernel
theorem dX7_log_68 : decode cX7_log 68 = .ok (.iastore, 1) := by decide +kernel
theorem dX7_log_69 : decode cX7_log 69 = .ok (.aload_n 0, 1) := by decide +kernel
theorem dX7_log_70 : decode cX7_log 70 = .ok (.getfield 7, 3) := by decide +kernel
theorem dX7_log_73 : decode cX7_log 73 = .ok (.bipush 84, 2) := by decide +kernel
theorem dX7_log_75 : decode cX7_log 75 = .ok (.iload_n 3, 1) := by decide +kernel
theorem dX7_log_76 : decode cX7_log 76 = .ok (.iadd, 1) := by decide +kernel
theorem dX7_log_77 : decode cX7_log 77 = .ok (.iload_n 1, 1) := by decide +kernel
theorem dX7_log_78 : decode cX7_log 78 = .ok (.iastore, 1) := by decide +kernel
theorem dX7_log_79 : decode cX7_log 79 = .ok (.aload_n 0, 1) := by decide +kernel
theorem dX7_log_80 : decode cX7_log 80 = .ok (.getfield 7, 3) := by decide +kernel
theorem dX7_log_83 : decode cX7_log 83 = .ok (.bipush 96, 2) := by decide +kernel
theorem dX7_log_85 : decode cX7_log 85 = .ok (.iload_n 3, 1) := by decide +kernel
theorem dX7_log_86 : decode cX7_log 86 = .ok (.iadd, 1) := by decide +kernel
theorem dX7_log_87 : decode cX7_log 87 = .ok (.iconst 0, 1) := by decide +kernel
theorem dX7_log_88 : decode cX7_log 88 = .ok (.iastore, 1) := by decide +kernel
theorem dX7_log_89 : decode cX7_log 89 = .ok (.aload_n 0, 1) := by decide +kernel
theorem dX7_log_90 : decode cX7_log 90 = .ok (.getfield 7, 3) := by decide +kernel
theorem dX7_log_93 : decode cX7_log 93 = .ok (.bipush 108, 2) := by decide +kernel
theorem dX7_log_95 : decode cX7_log 95 = .ok (.iload_n 3, 1) := by decide +kernel
theorem dX7_log_96 : decode cX7_log 96 = .ok (.iadd, 1) := by decide +kernel
theorem dX7_log_97 : decode cX7_log 97 = .ok (.iconst 0, 1) := by decide +kernel
theorem dX7_log_98 : decode cX7_log 98 = .ok (.iastore, 1) := by decide +kernel
theorem dX7_log_99 : decode cX7_log 99 = .ok (.aload_n 0, 1) := by decide +kernel
theorem dX7_log_100 : decode cX7_log 100 = .ok (.getfield 7, 3) := by decide +kernel
theorem dX7_log_103 : decode cX7_log 103 = .ok (.bipush 120, 2) := by decide +kernel
theorem dX7_log_105 : decode cX7_log 105 = .ok (.iload_n 3, 1) := by decide +kernel
theorem dX7_log_106 : decode cX7_log 106 = .ok (.iadd, 1) := by decide +kernel
theorem dX7_log_107 : decode cX7_log 107 = .ok (.iconst 0, 1) := by decide +kernel
theorem dX7_log_108 : decode cX7_log 108 = .ok (.iastore, 1) := by decide +kernel
theorem dX7_log_109 : decode cX7_log 109 = .ok (.aload_n 0, 1) := by decide +kernel
theorem dX7_log_110 : decode cX7_log 110 = .ok (.getfield 7, 3) := by decide +kernel
theorem dX7_log_113 : decode cX7_log 113 = .ok (.sipush 132, 3) := by decide +kernel
theorem dX7_log_116 : decode cX7_log 116 = .ok (.iload_n 3, 1) := by decide +kernel
theorem dX7_log_117 : decode cX7_log 117 = .ok (.iadd, 1) := by decide +kernel
theorem dX7_log_118 : decode cX7_log 118 = .ok (.iconst 0, 1) := by decide +kernel
theorem dX7_log_119 : decode cX7_log 119 = .ok (.iastore, 1) := by decide +kernel
theorem dX7_log_120 : decode cX7_log 120 = .ok (.aload_n 0, 1) := by decide +kernel
theorem dX7_log_121 : decode cX7_log 121 = .ok (.getfield 7, 3) := by decide +kernel
theorem dX7_log_124 : decode cX7_log 124 = .ok (.bipush 51, 2) := by decide +kernel
theorem dX7_log_126 : decode cX7_log 126 = .ok (.iload_n 3, 1) := by decide +kernel
theorem dX7_log_127 : decode cX7_log 127 = .ok (.iconst 1, 1) := by decide +kernel
theorem dX7_log_128 : decode cX7_log 128 = .ok (.iadd, 1) := by decide +kernel
theorem dX7_log_129 : decode cX7_log 129 = .ok (.iastore, 1) := by decide +kernel
theorem dX7_log_130 : decode cX7_log 130 = .ok (.iload_n 3, 1) := by decide +kernel
theorem dX7_log_131 : decode cX7_log 131 = .ok (.ireturn, 1) := by decide +kernel
theorem dX7_wood_0 : decode cX7_wood 0 = .ok (.iload_n 1, 1) := by decide +kernel
theorem dX7_wood_1 : decode cX7_wood 1 = .ok (.i2l, 1) := by decide +kernel
theorem dX7_wood_2 : decode cX7_wood 2 = .ok (.lconst 0, 1) := by decide +kernel
theorem dX7_wood_3 : decode cX7_wood 3 = .ok (.aload_n 0, 1) := by decide +kernel
theorem dX7_wood_4 : decode cX7_wood 4 = .ok (.getfield 7, 3) := by decide +kernel
theorem dX7_wood_7 : decode cX7_wood 7 = .ok (.bipush 51, 2) := by decide +kernel
theorem dX7_wood_9 : decode cX7_wood 9 = .ok (.iaload, 1) := by decide +kernel
theorem dX7_wood_10 : decode cX7_wood 10 = .ok (.iconst 1, 1) := by decide +kernel
theorem dX7_wood_11 : decode cX7_wood 11 = .ok (.isub, 1) := by decide +kernel
theorem dX7_wood_12 : decode cX7_wood 12 = .ok (.i2l, 1) := by decide +kernel
theorem dX7_wood_13 : decode cX7_wood 13 = .ok (.invokestatic 71, 3) := by decide +kernel
theorem dX7_wood_16 : decode cX7_wood 16 = .ok (.ifCond .ne 6, 3) := by decide +kernel
theorem dX7_wood_19 : decode cX7_wood 19 = .ok (.ldc 185, 2) := by decide +kernel
theorem dX7_wood_21 : decode cX7_wood 21 = .ok (.ireturn, 1) := by decide +kernel
theorem dX7_wood_22 : decode cX7_wood 22 = .ok (.iload_n 2, 1) := by decide +kernel
theorem dX7_wood_23 : decode cX7_wood 23 = .ok (.tableswitch 112 0 6 #[41, 51, 61, 71, 81, 91, 101], 41) := by decide +kernel
theorem dX7_wood_64 : decode cX7_wood 64 = .ok (.aload_n 0, 1) := by decide +kernel
theorem dX7_wood_65 : decode cX7_wood 65 = .ok (.getfield 7, 3) := by decide +kernel
theorem dX7_wood_68 : decode cX7_wood 68 = .ok (.bipush 60, 2) := by decide +kernel
theorem dX7_wood_70 : decode cX7_wood 70 = .ok (.iload_n 1, 1) := by decide +kernel
theorem dX7_wood_71 : decode cX7_wood 71 = .ok (.iadd, 1) := by decide +kernel
theorem dX7_wood_72 : decode cX7_wood 72 = .ok (.iaload, 1) := by decide +kernel
theorem dX7_wood_73 : decode cX7_wood 73 = .ok (.ireturn, 1) := by decide +kernel
theorem dX7_wood_74 : decode cX7_wood 74 = .ok (.aload_n 0, 1) := by decide +kernel
theorem dX7_wood_75 : decode cX7_wood 75 = .ok (.getfield 7, 3) := by decide +kernel
theorem dX7_wood_78 : decode cX7_wood 78 = .ok (.bipush 72, 2) := by decide +kernel
theorem dX7_wood_80 : decode cX7_wood 80 = .ok (.iload_n 1, 1) := by decide +kernel
theorem dX7_wood_81 : decode cX7_wood 81 = .ok (.iadd, 1) := by decide +kernel
theorem dX7_wood_82 : decode cX7_wood 82 = .ok (.iaload, 1) := by decide +kernel
theorem dX7_wood_83 : decode cX7_wood 83 = .ok (.ireturn, 1) := by decide +kernel
theorem dX7_wood_84 : decode cX7_wood 84 = .ok (.aload_n 0, 1) := by decide +kernel
theorem dX7_wood_85 : decode cX7_wood 85 = .ok (.getfield 7, 3) := by decide +kernel
theorem dX7_wood_88 : decode cX7_wood 88 = .ok (.bipush 84, 2) := by decide +kernel
theorem dX7_wood_90 : decode cX7_wood 90 = .ok (.iload_n 1, 1) := by decide +kernel
theorem dX7_wood_91 : decode cX7_wood 91 = .ok (.iadd, 1) := by decide +kernel
theorem dX7_wood_92 : decode cX7_wood 92 = .ok (.iaload, 1) := by decide +kernel
theorem dX7_wood_93 : decode cX7_wood 93 = .ok (.ireturn, 1) := by decide +kernel
theorem dX7_wood_94 : decode cX7_wood 94 = .ok (.aload_n 0, 1) := by decide +kernel
theorem dX7_wood_95 : decode cX7_wood 95 = .ok (.getfield 7, 3) := by decide +kernel
theorem dX7_wood_98 : decode cX7_wood 98 = .ok (.bipush 96, 2) := by decide +kernel
theorem dX7_wood_100 : decode cX7_wood 100 = .ok (.iload_n 1, 1) := by decide +kernel
theorem dX7_wood_101 : decode cX7_wood 101 = .ok (.iadd, 1) := by decide +kernel
theorem dX7_wood_102 : decode cX7_wood 102 = .ok (.iaload, 1) := by decide +kernel
theorem dX7_wood_103 : decode cX7_wood 103 = .ok (.ireturn, 1) := by decide +kernel
theorem dX7_wood_104 : decode cX7_wood 104 = .ok (.aload_n 0, 1) := by decide +kernel
theorem dX7_wood_105 : decode cX7_wood 105 = .ok (.getfield 7, 3) := by decide +kernel
theorem dX7_wood_108 : decode cX7_wood 108 = .ok (.bipush 108, 2) := by decide +kernel
theorem dX7_wood_110 : decode cX7_wood 110 = .ok (.iload_n 1, 1) := by decide +kernel
theorem dX7_wood_111 : decode cX7_wood 111 = .ok (.iadd, 1) := by decide +kernel
theorem dX7_wood_112 : decode cX7_wood 112 = .ok (.iaload, 1) := by decide +kernel
theorem dX7_wood_113 : decode cX7_wood 113 = .ok (.ireturn, 1) := by decide +kernel
theorem dX7_wood_114 : decode cX7_wood 114 = .ok (.aload_n 0, 1) := by decide +kernel
theorem dX7_wood_115 : decode cX7_wood 115 = .ok (.getfield 7, 3) := by decide +kernel
theorem dX7_wood_118 : decode cX7_wood 118 = .ok (.bipush 120, 2) := by decide +kernel
theorem dX7_wood_120 : decode cX7_wood 120 = .ok (.iload_n 1, 1) := by decide +kernel
theorem dX7_wood_121 : decode cX7_wood 121 = .ok (.iadd, 1) := by decide +kernel
theorem dX7_wood_122 : decode cX7_wood 122 = .ok (.iaload, 1) := by decide +kernel
theorem dX7_wood_123 : decode cX7_wood 123 = .ok (.ireturn, 1) := by decide +kernel
theorem dX7_wood_124 : decode cX7_wood 124 = .ok (.aload_n 0, 1) := by decide +kernel
theorem dX7_wood_125 : decode cX7_wood 125 = .ok (.getfield 7, 3) := by decide +kernel
theorem dX7_wood_128 : decode cX7_wood 128 = .ok (.sipush 132, 3) := by decide +kernel
theorem dX7_wood_131 : decode cX7_wood 131 = .ok (.iload_n 1, 1) := by decide +kernel
theorem dX7_wood_132 : decode cX7_wood 132 = .ok (.iadd, 1) := by decide +kernel
theorem dX7_wood_133 : decode cX7_wood 133 = .ok (.iaload, 1) := by decide +kernel
theorem dX7_wood_134 : decode cX7_wood 134 = .ok (.ireturn, 1) := by decide +kernel
theorem dX7_wood_135 : decode cX7_wood 135 = .ok (.ldc 75, 2) := by decide +kernel
theorem dX7_wood_137 : decode cX7_wood 137 = .ok (.ireturn, 1) := by decide +kernel
theorem dX7_clear_0 : decode cX7_clear 0 = .ok (.aload_n 0, 1) := by decide +kernel
theorem dX7_clear_1 : decode cX7_clear 1 = .ok (.getfield 7, 3) := by decide +kernel
theorem dX7_clear_4 : decode cX7_clear 4 = .ok (.bipush 51, 2) := by decide +kernel
theorem dX7_clear_6 : decode cX7_clear 6 = .ok (.iaload, 1) := by decide +kernel
theorem dX7_clear_7 : decode cX7_clear 7 = .ok (.istore_n 1, 1) := by decide +kernel
theorem dX7_clear_8 : decode cX7_clear 8 = .ok (.aload_n 0, 1) := by decide +kernel
theorem dX7_clear_9 : decode cX7_clear 9 = .ok (.getfield 7, 3) := by decide +kernel
theorem dX7_clear_12 : decode cX7_clear 12 = .ok (.bipush 51, 2) := by decide +kernel
theorem dX7_clear_14 : decode cX7_clear 14 = .ok (.iconst 0, 1) := by decide +kernel
theorem dX7_clear_15 : decode cX7_clear 15 = .ok (.iastore, 1) := by decide +kernel
theorem dX7_clear_16 : decode cX7_clear 16 = .ok (.iload_n 1, 1) := by decide +kernel
theorem dX7_clear_17 : decode cX7_clear 17 = .ok (.ireturn, 1) := by decide +kernel
theorem dX7_tryHours_0 : decode cX7_tryHours 0 = .ok (.aload_n 0, 1) := by decide +kernel
theorem dX7_tryHours_1 : decode cX7_tryHours 1 = .ok (.iload_n 2, 1) := by decide +kernel
theorem dX7_tryHours_2 : decode cX7_tryHours 2 = .ok (.putfield 195, 3) := by decide +kernel
theorem dX7_tryHours_5 : decode cX7_tryHours 5 = .ok (.aload_n 0, 1) := by decide +kernel
theorem dX7_tryHours_6 : decode cX7_tryHours 6 = .ok (.iload_n 3, 1) := by decide +kernel
theorem dX7_tryHours_7 : decode cX7_tryHours 7 = .ok (.putfield 198, 3) := by decide +kernel
theorem dX7_tryHours_10 : decode cX7_tryHours 10 = .ok (.aload_n 0, 1) := by decide +kernel
theorem dX7_tryHours_11 : decode cX7_tryHours 11 = .ok (.iconst 0, 1) := by decide +kernel
theorem dX7_tryHours_12 : decode cX7_tryHours 12 = .ok (.sipush 200, 3) := by decide +kernel
theorem dX7_tryHours_15 : decode cX7_tryHours 15 = .ok (.invokevirtual 248, 3) := by decide +kernel
theorem dX7_tryHours_18 : decode cX7_tryHours 18 = .ok (.iconst 0, 1) := by decide +kernel
theorem dX7_tryHours_19 : decode cX7_tryHours 19 = .ok (.istore 4, 2) := by decide +kernel
theorem dX7_tryHours_21 : decode cX7_tryHours 21 = .ok (.iload 4, 2) := by decide +kernel
theorem dX7_tryHours_23 : decode cX7_tryHours 23 = .ok (.iload_n 1, 1) := by decide +kernel
theorem dX7_tryHours_24 : decode cX7_tryHours 24 = .ok (.if_icmp .ge 84, 3) := by decide +kernel
theorem dX7_tryHours_27 : decode cX7_tryHours 27 = .ok (.aload_n 0, 1) := by decide +kernel
theorem dX7_tryHours_28 : decode cX7_tryHours 28 = .ok (.sipush 200, 3) := by decide +kernel
theorem dX7_tryHours_31 : decode cX7_tryHours 31 = .ok (.invokevirtual 225, 3) := by decide +kernel
theorem dX7_tryHours_34 : decode cX7_tryHours 34 = .ok (.iconst 0, 1) := by decide +kernel
theorem dX7_tryHours_35 : decode cX7_tryHours 35 = .ok (.istore 5, 2) := by decide +kernel
theorem dX7_tryHours_37 : decode cX7_tryHours 37 = .ok (.iload 5, 2) := by decide +kernel
theorem dX7_tryHours_39 : decode cX7_tryHours 39 = .ok (.aload_n 0, 1) := by decide +kernel
theorem dX7_tryHours_40 : decode cX7_tryHours 40 = .ok (.getfield 161, 3) := by decide +kernel
theorem dX7_tryHours_43 : decode cX7_tryHours 43 = .ok (.iconst 1, 1) := by decide +kernel
theorem dX7_tryHours_44 : decode cX7_tryHours 44 = .ok (.isub, 1) := by decide +kernel
theorem dX7_tryHours_45 : decode cX7_tryHours 45 = .ok (.if_icmp .ge 57, 3) := by decide +kernel
theorem dX7_tryHours_48 : decode cX7_tryHours 48 = .ok (.aload_n 0, 1) := by decide +kernel
theorem dX7_tryHours_49 : decode cX7_tryHours 49 = .ok (.getfield 57, 3) := by decide +kernel
theorem dX7_tryHours_52 : decode cX7_tryHours 52 = .ok (.bipush 9, 2) := by decide +kernel
theorem dX7_tryHours_54 : decode cX7_tryHours 54 = .ok (.iload 4, 2) := by decide +kernel
theorem dX7_tryHours_56 : decode cX7_tryHours 56 = .ok (.imul, 1) := by decide +kernel
theorem dX7_tryHours_57 : decode cX7_tryHours 57 = .ok (.iload 5, 2) := by decide +kernel
theorem dX7_tryHours_59 : decode cX7_tryHours 59 = .ok (.iadd, 1) := by decide +kernel
theorem dX7_tryHours_60 : decode cX7_tryHours 60 = .ok (.aload_n 0, 1) := by decide +kernel
theorem dX7_tryHours_61 : decode cX7_tryHours 61 = .ok (.getfield 7, 3) := by decide +kernel
theorem dX7_tryHours_64 : decode cX7_tryHours 64 = .ok (.sipush 220, 3) := by decide +kernel
theorem dX7_tryHours_67 : decode cX7_tryHours 67 = .ok (.iload 5, 2) := by decide +kernel
theorem dX7_tryHours_69 : decode cX7_tryHours 69 = .ok (.iadd, 1) := by decide +kernel
theorem dX7_tryHours_70 : decode cX7_tryHours 70 = .ok (.iaload, 1) := by decide +kernel
theorem dX7_tryHours_71 : decode cX7_tryHours 71 = .ok (.iastore, 1) := by decide +kernel
theorem dX7_tryHours_72 : decode cX7_tryHours 72 = .ok (.aload_n 0, 1) := by decide +kernel
theorem dX7_tryHours_73 : decode cX7_tryHours 73 = .ok (.getfield 60, 3) := by decide +kernel
theorem dX7_tryHours_76 : decode cX7_tryHours 76 = .ok (.bipush 9, 2) := by decide +kernel
theorem dX7_tryHours_78 : decode cX7_tryHours 78 = .ok (.iload 4, 2) := by decide +kernel
theorem dX7_tryHours_80 : decode cX7_tryHours 80 = .ok (.imul, 1) := by decide +kernel
theorem dX7_tryHours_81 : decode cX7_tryHours 81 = .ok (.iload 5, 2) := by decide +kernel
theorem dX7_tryHours_83 : decode cX7_tryHours 83 = .ok (.iadd, 1) := by decide +kernel
theorem dX7_tryHours_84 : decode cX7_tryHours 84 = .ok (.aload_n 0, 1) := by decide +kernel
theorem dX7_tryHours_85 : decode cX7_tryHours 85 = .ok (.getfield 7, 3) := by decide +kernel
theorem dX7_tryHours_88 : decode cX7_tryHours 88 = .ok (.sipush 210, 3) := by decide +kernel
theorem dX7_tryHours_91 : decode cX7_tryHours 91 = .ok (.iload 5, 2) := by decide +kernel
theorem dX7_tryHours_93 : decode cX7_tryHours 93 = .ok (.iadd, 1) := by decide +kernel
theorem dX7_tryHours_94 : decode cX7_tryHours 94 = .ok (.iaload, 1) := by decide +kernel
theorem dX7_tryHours_95 : decode cX7_tryHours 95 = .ok (.iastore, 1) := by decide +kernel
theorem dX7_tryHours_96 : decode cX7_tryHours 96 = .ok (.iinc 5 1, 3) := by decide +kernel
theorem dX7_tryHours_99 : decode cX7_tryHours 99 = .ok (.goto (-62), 3) := by decide +kernel
theorem dX7_tryHours_102 : decode cX7_tryHours 102 = .ok (.iinc 4 1, 3) := by decide +kernel
theorem dX7_tryHours_105 : decode cX7_tryHours 105 = .ok (.goto (-84), 3) := by decide +kernel
theorem dX7_tryHours_108 : decode cX7_tryHours 108 = .ok (.aload_n 0, 1) := by decide +kernel
theorem dX7_tryHours_109 : decode cX7_tryHours 109 = .ok (.iconst 0, 1) := by decide +kernel
theorem dX7_tryHours_110 : decode cX7_tryHours 110 = .ok (.putfield 195, 3) := by decide +kernel
theorem dX7_tryHours_113 : decode cX7_tryHours 113 = .ok (.return_, 1) := by decide +kernel
theorem dX7_tried_0 : decode cX7_tried 0 = .ok (.iload_n 2, 1) := by decide +kernel
theorem dX7_tried_1 : decode cX7_tried 1 = .ok (.iconst 1, 1) := by decide +kernel
theorem dX7_tried_2 : decode cX7_tried 2 = .ok (.if_icmp .ne 14, 3) := by decide +kernel
theorem dX7_tried_5 : decode cX7_tried 5 = .ok (.aload_n 0, 1) := by decide +kernel
theorem dX7_tried_6 : decode cX7_tried 6 = .ok (.iload_n 3, 1) := by decide +kernel
theorem dX7_tried_7 : decode cX7_tried 7 = .ok (.invokevirtual 192, 3) := by decide +kernel
theorem dX7_tried_10 : decode cX7_tried 10 = .ok (.ifCond .ne 17, 3) := by decide +kernel
theorem dX7_tried_13 : decode cX7_tried 13 = .ok (.goto 11, 3) := by decide +kernel
theorem dX7_tried_16 : decode cX7_tried 16 = .ok (.aload_n 0, 1) := by decide +kernel
theorem dX7_tried_17 : decode cX7_tried 17 = .ok (.iload_n 3, 1) := by decide +kernel
theorem dX7_tried_18 : decode cX7_tried 18 = .ok (.invokevirtual 181, 3) := by decide +kernel
theorem dX7_tried_21 : decode cX7_tried 21 = .ok (.ifCond .ne 6, 3) := by decide +kernel
theorem dX7_tried_24 : decode cX7_tried 24 = .ok (.ldc 185, 2) := by decide +kernel
theorem dX7_tried_26 : decode cX7_tried 26 = .ok (.ireturn, 1) := by decide +kernel
theorem dX7_tried_27 : decode cX7_tried 27 = .ok (.iload_n 1, 1) := by decide +kernel
theorem dX7_tried_28 : decode cX7_tried 28 = .ok (.i2l, 1) := by decide +kernel
theorem dX7_tried_29 : decode cX7_tried 29 = .ok (.lconst 1, 1) := by decide +kernel
theorem dX7_tried_30 : decode cX7_tried 30 = .ok (.ldc2_w 223, 3) := by decide +kernel
theorem dX7_tried_33 : decode cX7_tried 33 = .ok (.invokestatic 71, 3) := by decide +kernel
theorem dX7_tried_36 : decode cX7_tried 36 = .ok (.ifCond .eq 15, 3) := by decide +kernel
theorem dX7_tried_39 : decode cX7_tried 39 = .ok (.iload_n 2, 1) := by decide +kernel
theorem dX7_tried_40 : decode cX7_tried 40 = .ok (.i2l, 1) := by decide +kernel
theorem dX7_tried_41 : decode cX7_tried 41 = .ok (.lconst 0, 1) := by decide +kernel
theorem dX7_tried_42 : decode cX7_tried 42 = .ok (.ldc2_w 251, 3) := by decide +kernel
theorem dX7_tried_45 : decode cX7_tried 45 = .ok (.invokestatic 71, 3) := by decide +kernel
theorem dX7_tried_48 : decode cX7_tried 48 = .ok (.ifCond .ne 6, 3) := by decide +kernel
theorem dX7_tried_51 : decode cX7_tried 51 = .ok (.ldc 75, 2) := by decide +kernel
theorem dX7_tried_53 : decode cX7_tried 53 = .ok (.ireturn, 1) := by decide +kernel
theorem dX7_tried_54 : decode cX7_tried 54 = .ok (.aload_n 0, 1) := by decide +kernel
theorem dX7_tried_55 : decode cX7_tried 55 = .ok (.iload_n 1, 1) := by decide +kernel
theorem dX7_tried_56 : decode cX7_tried 56 = .ok (.iconst 0, 1) := by decide +kernel
theorem dX7_tried_57 : decode cX7_tried 57 = .ok (.iconst 0, 1) := by decide +kernel
theorem dX7_tried_58 : decode cX7_tried 58 = .ok (.invokevirtual 253, 3) := by decide +kernel
theorem dX7_tried_61 : decode cX7_tried 61 = .ok (.iload_n 2, 1) := by decide +kernel
theorem dX7_tried_62 : decode cX7_tried 62 = .ok (.ifCond .ne 28, 3) := by decide +kernel
theorem dX7_tried_65 : decode cX7_tried 65 = .ok (.iload_n 3, 1) := by decide +kernel
theorem dX7_tried_66 : decode cX7_tried 66 = .ok (.aload_n 0, 1) := by decide +kernel
theorem dX7_tried_67 : decode cX7_tried 67 = .ok (.invokevirtual 174, 3) := by decide +kernel
theorem dX7_tried_70 : decode cX7_tried 70 = .ok (.if_icmp .ne 7, 3) := by decide +kernel
theorem dX7_tried_73 : decode cX7_tried 73 = .ok (.iconst 0, 1) := by decide +kernel
theorem dX7_tried_74 : decode cX7_tried 74 = .ok (.goto 42, 3) := by decide +kernel
theorem dX7_tried_77 : decode cX7_tried 77 = .ok (.aload_n 0, 1) := by decide +kernel
theorem dX7_tried_78 : decode cX7_tried 78 = .ok (.getfield 7, 3) := by decide +kernel
theorem dX7_tried_81 : decode cX7_tried 81 = .ok (.sipush 200, 3) := by decide +kernel
theorem dX7_tried_84 : decode cX7_tried 84 = .ok (.iload_n 3, 1) := by decide +kernel
theorem dX7_tried_85 : decode cX7_tried 85 = .ok (.iadd, 1) := by decide +kernel
theorem dX7_tried_86 : decode cX7_tried 86 = .ok (.iaload, 1) := by decide +kernel
theorem dX7_tried_87 : decode cX7_tried 87 = .ok (.goto 29, 3) := by decide +kernel
theorem dX7_tried_90 : decode cX7_tried 90 = .ok (.iload_n 2, 1) := by decide +kernel
theorem dX7_tried_91 : decode cX7_tried 91 = .ok (.iconst 1, 1) := by decide +kernel
theorem dX7_tried_92 : decode cX7_tried 92 = .ok (.if_icmp .ne 16, 3) := by decide +kernel
theorem dX7_tried_95 : decode cX7_tried 95 = .ok (.aload_n 0, 1) := by decide +kernel
theorem dX7_tried_96 : decode cX7_tried 96 = .ok (.getfield 7, 3) := by decide +kernel
theorem dX7_tried_99 : decode cX7_tried 99 = .ok (.sipush 220, 3) := by decide +kernel
theorem dX7_tried_102 : decode cX7_tried 102 = .ok (.iload_n 3, 1) := by decide +kernel
theorem dX7_tried_103 : decode cX7_tried 103 = .ok (.iadd, 1) := by decide +kernel
theorem dX7_tried_104 : decode cX7_tried 104 = .ok (.iaload, 1) := by decide +kernel
theorem dX7_tried_105 : decode cX7_tried 105 = .ok (.goto 11, 3) := by decide +kernel
theorem dX7_tried_108 : decode cX7_tried 108 = .ok (.aload_n 0, 1) := by decide +kernel
theorem dX7_tried_109 : decode cX7_tried 109 = .ok (.sipush 200, 3) := by decide +kernel
theorem dX7_tried_112 : decode cX7_tried 112 = .ok (.iload_n 3, 1) := by decide +kernel
theorem dX7_tried_113 : decode cX7_tried 113 = .ok (.invokevirtual 186, 3) := by decide +kernel
theorem dX7_tried_116 : decode cX7_tried 116 = .ok (.ireturn, 1) := by decide +kernel
theorem dX7_slack_0 : decode cX7_slack 0 = .ok (.aload_n 0, 1) := by decide +kernel
theorem dX7_slack_1 : decode cX7_slack 1 = .ok (.iload_n 1, 1) := by decide +kernel
theorem dX7_slack_2 : decode cX7_slack 2 = .ok (.invokevirtual 192, 3) := by decide +kernel
theorem dX7_slack_5 : decode cX7_slack 5 = .ok (.ifCond .ne 6, 3) := by decide +kernel
theorem dX7_slack_8 : decode cX7_slack 8 = .ok (.ldc 185, 2) := by decide +kernel
theorem dX7_slack_10 : decode cX7_slack 10 = .ok (.ireturn, 1) := by decide +kernel
theorem dX7_slack_11 : decode cX7_slack 11 = .ok (.iload_n 2, 1) := by decide +kernel
theorem dX7_slack_12 : decode cX7_slack 12 = .ok (.i2l, 1) := by decide +kernel
theorem dX7_slack_13 : decode cX7_slack 13 = .ok (.lconst 0, 1) := by decide +kernel
theorem dX7_slack_14 : decode cX7_slack 14 = .ok (.lconst 1, 1) := by decide +kernel
theorem dX7_slack_15 : decode cX7_slack 15 = .ok (.invokestatic 71, 3) := by decide +kernel
theorem dX7_slack_18 : decode cX7_slack 18 = .ok (.ifCond .ne 6, 3) := by decide +kernel
theorem dX7_slack_21 : decode cX7_slack 21 = .ok (.ldc 75, 2) := by decide +kernel
theorem dX7_slack_23 : decode cX7_slack 23 = .ok (.ireturn, 1) := by decide +kernel
theorem dX7_slack_24 : decode cX7_slack 24 = .ok (.aload_n 0, 1) := by decide +kernel
theorem dX7_slack_25 : decode cX7_slack 25 = .ok (.sipush 200, 3) := by decide +kernel
theorem dX7_slack_28 : decode cX7_slack 28 = .ok (.iconst 0, 1) := by decide +kernel
theorem dX7_slack_29 : decode cX7_slack 29 = .ok (.iconst 0, 1) := by decide +kernel
theorem dX7_slack_30 : decode cX7_slack 30 = .ok (.invokevirtual 253, 3) := by decide +kernel
theorem dX7_slack_33 : decode cX7_slack 33 = .ok (.iconst 0, 1) := by decide +kernel
theorem dX7_slack_34 : decode cX7_slack 34 = .ok (.istore_n 3, 1) := by decide +kernel
theorem dX7_slack_35 : decode cX7_slack 35 = .ok (.iload_n 3, 1) := by decide +kernel
theorem dX7_slack_36 : decode cX7_slack 36 = .ok (.sipush 200, 3) := by decide +kernel
theorem dX7_slack_39 : decode cX7_slack 39 = .ok (.if_icmp .ge 23, 3) := by decide +kernel
theorem dX7_slack_42 : decode cX7_slack 42 = .ok (.aload_n 0, 1) := by decide +kernel
theorem dX7_slack_43 : decode cX7_slack 43 = .ok (.getfield 57, 3) := by decide +kernel
theorem dX7_slack_46 : decode cX7_slack 46 = .ok (.bipush 9, 2) := by decide +kernel
theorem dX7_slack_48 : decode cX7_slack 48 = .ok (.iload_n 3, 1) := by decide +kernel
theorem dX7_slack_49 : decode cX7_slack 49 = .ok (.imul, 1) := by decide +kernel
theorem dX7_slack_50 : decode cX7_slack 50 = .ok (.iload_n 1, 1) := by decide +kernel
theorem dX7_slack_51 : decode cX7_slack 51 = .ok (.iadd, 1) := by decide +kernel
theorem dX7_slack_52 : decode cX7_slack 52 = .ok (.iaload, 1) := by decide +kernel
theorem dX7_slack_53 : decode cX7_slack 53 = .ok (.ifCond .eq 9, 3) := by decide +kernel
theorem dX7_slack_56 : decode cX7_slack 56 = .ok (.iinc 3 1, 3) := by decide +kernel
theorem dX7_slack_59 : decode cX7_slack 59 = .ok (.goto (-24), 3) := by decide +kernel
theorem dX7_slack_62 : decode cX7_slack 62 = .ok (.iload_n 3, 1) := by decide +kernel
theorem dX7_slack_63 : decode cX7_slack 63 = .ok (.sipush 200, 3) := by decide +kernel
theorem dX7_slack_66 : decode cX7_slack 66 = .ok (.if_icmp .ne 5, 3) := by decide +kernel
theorem dX7_slack_69 : decode cX7_slack 69 = .ok (.iconst (-1), 1) := by decide +kernel
theorem dX7_slack_70 : decode cX7_slack 70 = .ok (.ireturn, 1) := by decide +kernel
theorem dX7_slack_71 : decode cX7_slack 71 = .ok (.iload_n 3, 1) := by decide +kernel
theorem dX7_slack_72 : decode cX7_slack 72 = .ok (.istore 4, 2) := by decide +kernel
theorem dX7_slack_74 : decode cX7_slack 74 = .ok (.iload 4, 2) := by decide +kernel
theorem dX7_slack_76 : decode cX7_slack 76 = .ok (.sipush 200, 3) := by decide +kernel
theorem dX7_slack_79 : decode cX7_slack 79 = .ok (.if_icmp .ge 24, 3) := by decide +kernel
theorem dX7_slack_82 : decode cX7_slack 82 = .ok (.aload_n 0, 1) := by decide +kernel
theorem dX7_slack_83 : decode cX7_slack 83 = .ok (.getfield 57, 3) := by decide +kernel
theorem dX7_slack_86 : decode cX7_slack 86 = .ok (.bipush 9, 2) := by decide +kernel
theorem dX7_slack_88 : decode cX7_slack 88 = .ok (.iload 4, 2) := by decide +kernel
theorem dX7_slack_90 : decode cX7_slack 90 = .ok (.imul, 1) := by decide +kernel
theorem dX7_slack_91 : decode cX7_slack 91 = .ok (.iload_n 1, 1) := by decide +kernel
theorem dX7_slack_92 : decode cX7_slack 92 = .ok (.iadd, 1) := by decide +kernel
theorem dX7_slack_93 : decode cX7_slack 93 = .ok (.iaload, 1) := by decide +kernel
theorem dX7_slack_94 : decode cX7_slack 94 = .ok (.ifCond .ne 9, 3) := by decide +kernel
theorem dX7_slack_97 : decode cX7_slack 97 = .ok (.iinc 4 1, 3) := by decide +kernel
theorem dX7_slack_100 : decode cX7_slack 100 = .ok (.goto (-26), 3) := by decide +kernel
theorem dX7_slack_103 : decode cX7_slack 103 = .ok (.iload_n 2, 1) := by decide +kernel
theorem dX7_slack_104 : decode cX7_slack 104 = .ok (.ifCond .ne 7, 3) := by decide +kernel
theorem dX7_slack_107 : decode cX7_slack 107 = .ok (.iload_n 3, 1) := by decide +kernel
theorem dX7_slack_108 : decode cX7_slack 108 = .ok (.goto 7, 3) := by decide +kernel
theorem dX7_slack_111 : decode cX7_slack 111 = .ok (.iload 4, 2) := by decide +kernel
theorem dX7_slack_113 : decode cX7_slack 113 = .ok (.iload_n 3, 1) := by decide +kernel
theorem dX7_slack_114 : decode cX7_slack 114 = .ok (.isub, 1) := by decide +kernel
theorem dX7_slack_115 : decode cX7_slack 115 = .ok (.ireturn, 1) := by decide +kernel
theorem dX7_canGo_0 : decode cX7_canGo 0 = .ok (.iload_n 3, 1) := by decide +kernel
theorem dX7_canGo_1 : decode cX7_canGo 1 = .ok (.ifCond .ne 5, 3) := by decide +kernel
theorem dX7_canGo_4 : decode cX7_canGo 4 = .ok (.iconst 1, 1) := by decide +kernel
theorem dX7_canGo_5 : decode cX7_canGo 5 = .ok (.ireturn, 1) := by decide +kernel
theorem dX7_canGo_6 : decode cX7_canGo 6 = .ok (.iload_n 3, 1) := by decide +kernel
theorem dX7_canGo_7 : decode cX7_canGo 7 = .ok (.iconst 1, 1) := by decide +kernel
theorem dX7_canGo_8 : decode cX7_canGo 8 = .ok (.if_icmp .ne 7, 3) := by decide +kernel
theorem dX7_canGo_11 : decode cX7_canGo 11 = .ok (.iload_n 2, 1) := by decide +kernel
theorem dX7_canGo_12 : decode cX7_canGo 12 = .ok (.goto 6, 3) := by decide +kernel
theorem dX7_canGo_15 : decode cX7_canGo 15 = .ok (.iload_n 2, 1) := by decide +kernel
theorem dX7_canGo_16 : decode cX7_canGo 16 = .ok (.iconst 1, 1) := by decide +kernel
theorem dX7_canGo_17 : decode cX7_canGo 17 = .ok (.isub, 1) := by decide +kernel
theorem dX7_canGo_18 : decode cX7_canGo 18 = .ok (.istore 5, 2) := by decide +kernel
theorem dX7_canGo_20 : decode cX7_canGo 20 = .ok (.aload_n 0, 1) := by decide +kernel
theorem dX7_canGo_21 : decode cX7_canGo 21 = .ok (.iload 5, 2) := by decide +kernel
theorem dX7_canGo_23 : decode cX7_canGo 23 = .ok (.invokevirtual 192, 3) := by decide +kernel
theorem dX7_canGo_26 : decode cX7_canGo 26 = .ok (.ifCond .eq 18, 3) := by decide +kernel
theorem dX7_canGo_29 : decode cX7_canGo 29 = .ok (.aload_n 0, 1) := by decide +kernel
theorem dX7_canGo_30 : decode cX7_canGo 30 = .ok (.getfield 60, 3) := by decide +kernel
theorem dX7_canGo_33 : decode cX7_canGo 33 = .ok (.bipush 9, 2) := by decide +kernel
theorem dX7_canGo_35 : decode cX7_canGo 35 = .ok (.iload_n 1, 1) := by decide +kernel
theorem dX7_canGo_36 : decode cX7_canGo 36 = .ok (.imul, 1) := by decide +kernel
theorem dX7_canGo_37 : decode cX7_canGo 37 = .ok (.iload 5, 2) := by decide +kernel
theorem dX7_canGo_39 : decode cX7_canGo 39 = .ok (.iadd, 1) := by decide +kernel
theorem dX7_canGo_40 : decode cX7_canGo 40 = .ok (.iaload, 1) := by decide +kernel
theorem dX7_canGo_41 : decode cX7_canGo 41 = .ok (.ifCond .ne 5, 3) := by decide +kernel
theorem dX7_canGo_44 : decode cX7_canGo 44 = .ok (.iconst 0, 1) := by decide +kernel
theorem dX7_canGo_45 : decode cX7_canGo 45 = .ok (.ireturn, 1) := by decide +kernel
theorem dX7_canGo_46 : decode cX7_canGo 46 = .ok (.iload_n 3, 1) := by decide +kernel
theorem dX7_canGo_47 : decode cX7_canGo 47 = .ok (.iconst 1, 1) := by decide +kernel
theorem dX7_canGo_48 : decode cX7_canGo 48 = .ok (.if_icmp .ne 19, 3) := by decide +kernel
theorem dX7_canGo_51 : decode cX7_canGo 51 = .ok (.aload_n 0, 1) := by decide +kernel
theorem dX7_canGo_52 : decode cX7_canGo 52 = .ok (.getfield 57, 3) := by decide +kernel
theorem dX7_canGo_55 : decode cX7_canGo 55 = .ok (.bipush 9, 2) := by decide +kernel
theorem dX7_canGo_57 : decode cX7_canGo 57 = .ok (.iload_n 1, 1) := by decide +kernel
theorem dX7_canGo_58 : decode cX7_canGo 58 = .ok (.imul, 1) := by decide +kernel
theorem dX7_canGo_59 : decode cX7_canGo 59 = .ok (.iload 5, 2) := by decide +kernel
theorem dX7_canGo_61 : decode cX7_canGo 61 = .ok (.iadd, 1) := by decide +kernel
theorem dX7_canGo_62 : decode cX7_canGo 62 = .ok (.iaload, 1) := by decide +kernel
theorem dX7_canGo_63 : decode cX7_canGo 63 = .ok (.ineg, 1) := by decide +kernel
theorem dX7_canGo_64 : decode cX7_canGo 64 = .ok (.goto 15, 3) := by decide +kernel
