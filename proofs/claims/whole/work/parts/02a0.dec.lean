theorem dX0_init_0 : decode cX0_init 0 = .ok (.aload_n 0, 1) := by decide +kernel
theorem dX0_init_1 : decode cX0_init 1 = .ok (.invokespecial 3, 3) := by decide +kernel
theorem dX0_init_4 : decode cX0_init 4 = .ok (.aload_n 0, 1) := by decide +kernel
theorem dX0_init_5 : decode cX0_init 5 = .ok (.bipush 10, 2) := by decide +kernel
theorem dX0_init_7 : decode cX0_init 7 = .ok (.newarray .int, 2) := by decide +kernel
theorem dX0_init_9 : decode cX0_init 9 = .ok (.putfield 9, 3) := by decide +kernel
theorem dX0_init_12 : decode cX0_init 12 = .ok (.aload_n 0, 1) := by decide +kernel
theorem dX0_init_13 : decode cX0_init 13 = .ok (.bipush 10, 2) := by decide +kernel
theorem dX0_init_15 : decode cX0_init 15 = .ok (.newarray .int, 2) := by decide +kernel
theorem dX0_init_17 : decode cX0_init 17 = .ok (.putfield 15, 3) := by decide +kernel
theorem dX0_init_20 : decode cX0_init 20 = .ok (.aload_n 0, 1) := by decide +kernel
theorem dX0_init_21 : decode cX0_init 21 = .ok (.bipush 10, 2) := by decide +kernel
theorem dX0_init_23 : decode cX0_init 23 = .ok (.newarray .int, 2) := by decide +kernel
theorem dX0_init_25 : decode cX0_init 25 = .ok (.putfield 18, 3) := by decide +kernel
theorem dX0_init_28 : decode cX0_init 28 = .ok (.aload_n 0, 1) := by decide +kernel
theorem dX0_init_29 : decode cX0_init 29 = .ok (.bipush 9, 2) := by decide +kernel
theorem dX0_init_31 : decode cX0_init 31 = .ok (.newarray .int, 2) := by decide +kernel
theorem dX0_init_33 : decode cX0_init 33 = .ok (.putfield 21, 3) := by decide +kernel
theorem dX0_init_36 : decode cX0_init 36 = .ok (.aload_n 0, 1) := by decide +kernel
theorem dX0_init_37 : decode cX0_init 37 = .ok (.bipush 9, 2) := by decide +kernel
theorem dX0_init_39 : decode cX0_init 39 = .ok (.newarray .int, 2) := by decide +kernel
theorem dX0_init_41 : decode cX0_init 41 = .ok (.putfield 24, 3) := by decide +kernel
theorem dX0_init_44 : decode cX0_init 44 = .ok (.aload_n 0, 1) := by decide +kernel
theorem dX0_init_45 : decode cX0_init 45 = .ok (.bipush 24, 2) := by decide +kernel
theorem dX0_init_47 : decode cX0_init 47 = .ok (.newarray .int, 2) := by decide +kernel
theorem dX0_init_49 : decode cX0_init 49 = .ok (.putfield 27, 3) := by decide +kernel
theorem dX0_init_52 : decode cX0_init 52 = .ok (.aload_n 0, 1) := by decide +kernel
theorem dX0_init_53 : decode cX0_init 53 = .ok (.bipush 24, 2) := by decide +kernel
theorem dX0_init_55 : decode cX0_init 55 = .ok (.newarray .int, 2) := by decide +kernel
theorem dX0_init_57 : decode cX0_init 57 = .ok (.putfield 30, 3) := by decide +kernel
theorem dX0_init_60 : decode cX0_init 60 = .ok (.return_, 1) := by decide +kernel
theorem dX0_forgetAll_0 : decode cX0_forgetAll 0 = .ok (.aload_n 0, 1) := by decide +kernel
theorem dX0_forgetAll_1 : decode cX0_forgetAll 1 = .ok (.iconst 0, 1) := by decide +kernel
theorem dX0_forgetAll_2 : decode cX0_forgetAll 2 = .ok (.putfield 33, 3) := by decide +kernel
theorem dX0_forgetAll_5 : decode cX0_forgetAll 5 = .ok (.iconst 0, 1) := by decide +kernel
theorem dX0_forgetAll_6 : decode cX0_forgetAll 6 = .ok (.istore_n 1, 1) := by decide +kernel
theorem dX0_forgetAll_7 : decode cX0_forgetAll 7 = .ok (.iload_n 1, 1) := by decide +kernel
theorem dX0_forgetAll_8 : decode cX0_forgetAll 8 = .ok (.bipush 10, 2) := by decide +kernel
theorem dX0_forgetAll_10 : decode cX0_forgetAll 10 = .ok (.if_icmp .ge 30, 3) := by decide +kernel
theorem dX0_forgetAll_13 : decode cX0_forgetAll 13 = .ok (.aload_n 0, 1) := by decide +kernel
theorem dX0_forgetAll_14 : decode cX0_forgetAll 14 = .ok (.getfield 9, 3) := by decide +kernel
theorem dX0_forgetAll_17 : decode cX0_forgetAll 17 = .ok (.iload_n 1, 1) := by decide +kernel
theorem dX0_forgetAll_18 : decode cX0_forgetAll 18 = .ok (.iconst 0, 1) := by decide +kernel
theorem dX0_forgetAll_19 : decode cX0_forgetAll 19 = .ok (.iastore, 1) := by decide +kernel
theorem dX0_forgetAll_20 : decode cX0_forgetAll 20 = .ok (.aload_n 0, 1) := by decide +kernel
theorem dX0_forgetAll_21 : decode cX0_forgetAll 21 = .ok (.getfield 15, 3) := by decide +kernel
theorem dX0_forgetAll_24 : decode cX0_forgetAll 24 = .ok (.iload_n 1, 1) := by decide +kernel
theorem dX0_forgetAll_25 : decode cX0_forgetAll 25 = .ok (.iconst 0, 1) := by decide +kernel
theorem dX0_forgetAll_26 : decode cX0_forgetAll 26 = .ok (.iastore, 1) := by decide +kernel
theorem dX0_forgetAll_27 : decode cX0_forgetAll 27 = .ok (.aload_n 0, 1) := by decide +kernel
theorem dX0_forgetAll_28 : decode cX0_forgetAll 28 = .ok (.getfield 18, 3) := by decide +kernel
theorem dX0_forgetAll_31 : decode cX0_forgetAll 31 = .ok (.iload_n 1, 1) := by decide +kernel
theorem dX0_forgetAll_32 : decode cX0_forgetAll 32 = .ok (.iconst 0, 1) := by decide +kernel
theorem dX0_forgetAll_33 : decode cX0_forgetAll 33 = .ok (.iastore, 1) := by decide +kernel
theorem dX0_forgetAll_34 : decode cX0_forgetAll 34 = .ok (.iinc 1 1, 3) := by decide +kernel
theorem dX0_forgetAll_37 : decode cX0_forgetAll 37 = .ok (.goto (-30), 3) := by decide +kernel
theorem dX0_forgetAll_40 : decode cX0_forgetAll 40 = .ok (.iconst 0, 1) := by decide +kernel
theorem dX0_forgetAll_41 : decode cX0_forgetAll 41 = .ok (.istore_n 1, 1) := by decide +kernel
theorem dX0_forgetAll_42 : decode cX0_forgetAll 42 = .ok (.iload_n 1, 1) := by decide +kernel
theorem dX0_forgetAll_43 : decode cX0_forgetAll 43 = .ok (.bipush 9, 2) := by decide +kernel
theorem dX0_forgetAll_45 : decode cX0_forgetAll 45 = .ok (.if_icmp .ge 23, 3) := by decide +kernel
theorem dX0_forgetAll_48 : decode cX0_forgetAll 48 = .ok (.aload_n 0, 1) := by decide +kernel
theorem dX0_forgetAll_49 : decode cX0_forgetAll 49 = .ok (.getfield 21, 3) := by decide +kernel
theorem dX0_forgetAll_52 : decode cX0_forgetAll 52 = .ok (.iload_n 1, 1) := by decide +kernel
theorem dX0_forgetAll_53 : decode cX0_forgetAll 53 = .ok (.iconst 5, 1) := by decide +kernel
theorem dX0_forgetAll_54 : decode cX0_forgetAll 54 = .ok (.iastore, 1) := by decide +kernel
theorem dX0_forgetAll_55 : decode cX0_forgetAll 55 = .ok (.aload_n 0, 1) := by decide +kernel
theorem dX0_forgetAll_56 : decode cX0_forgetAll 56 = .ok (.getfield 24, 3) := by decide +kernel
theorem dX0_forgetAll_59 : decode cX0_forgetAll 59 = .ok (.iload_n 1, 1) := by decide +kernel
theorem dX0_forgetAll_60 : decode cX0_forgetAll 60 = .ok (.iconst 1, 1) := by decide +kernel
theorem dX0_forgetAll_61 : decode cX0_forgetAll 61 = .ok (.iastore, 1) := by decide +kernel
theorem dX0_forgetAll_62 : decode cX0_forgetAll 62 = .ok (.iinc 1 1, 3) := by decide +kernel
theorem dX0_forgetAll_65 : decode cX0_forgetAll 65 = .ok (.goto (-23), 3) := by decide +kernel
theorem dX0_forgetAll_68 : decode cX0_forgetAll 68 = .ok (.iconst 0, 1) := by decide +kernel
theorem dX0_forgetAll_69 : decode cX0_forgetAll 69 = .ok (.istore_n 1, 1) := by decide +kernel
theorem dX0_forgetAll_70 : decode cX0_forgetAll 70 = .ok (.iload_n 1, 1) := by decide +kernel
theorem dX0_forgetAll_71 : decode cX0_forgetAll 71 = .ok (.bipush 24, 2) := by decide +kernel
theorem dX0_forgetAll_73 : decode cX0_forgetAll 73 = .ok (.if_icmp .ge 24, 3) := by decide +kernel
theorem dX0_forgetAll_76 : decode cX0_forgetAll 76 = .ok (.aload_n 0, 1) := by decide +kernel
theorem dX0_forgetAll_77 : decode cX0_forgetAll 77 = .ok (.getfield 27, 3) := by decide +kernel
theorem dX0_forgetAll_80 : decode cX0_forgetAll 80 = .ok (.iload_n 1, 1) := by decide +kernel
theorem dX0_forgetAll_81 : decode cX0_forgetAll 81 = .ok (.bipush 50, 2) := by decide +kernel
theorem dX0_forgetAll_83 : decode cX0_forgetAll 83 = .ok (.iastore, 1) := by decide +kernel
theorem dX0_forgetAll_84 : decode cX0_forgetAll 84 = .ok (.aload_n 0, 1) := by decide +kernel
theorem dX0_forgetAll_85 : decode cX0_forgetAll 85 = .ok (.getfield 30, 3) := by decide +kernel
theorem dX0_forgetAll_88 : decode cX0_forgetAll 88 = .ok (.iload_n 1, 1) := by decide +kernel
theorem dX0_forgetAll_89 : decode cX0_forgetAll 89 = .ok (.iconst 0, 1) := by decide +kernel
theorem dX0_forgetAll_90 : decode cX0_forgetAll 90 = .ok (.iastore, 1) := by decide +kernel
theorem dX0_forgetAll_91 : decode cX0_forgetAll 91 = .ok (.iinc 1 1, 3) := by decide +kernel
theorem dX0_forgetAll_94 : decode cX0_forgetAll 94 = .ok (.goto (-24), 3) := by decide +kernel
theorem dX0_forgetAll_97 : decode cX0_forgetAll 97 = .ok (.return_, 1) := by decide +kernel
theorem dX0_hasRoom_0 : decode cX0_hasRoom 0 = .ok (.aload_n 0, 1) := by decide +kernel
theorem dX0_hasRoom_1 : decode cX0_hasRoom 1 = .ok (.getfield 33, 3) := by decide +kernel
theorem dX0_hasRoom_4 : decode cX0_hasRoom 4 = .ok (.bipush 9, 2) := by decide +kernel
theorem dX0_hasRoom_6 : decode cX0_hasRoom 6 = .ok (.if_icmp .ge 7, 3) := by decide +kernel
theorem dX0_hasRoom_9 : decode cX0_hasRoom 9 = .ok (.iconst 1, 1) := by decide +kernel
theorem dX0_hasRoom_10 : decode cX0_hasRoom 10 = .ok (.goto 4, 3) := by decide +kernel
theorem dX0_hasRoom_13 : decode cX0_hasRoom 13 = .ok (.iconst 0, 1) := by decide +kernel
theorem dX0_hasRoom_14 : decode cX0_hasRoom 14 = .ok (.ireturn, 1) := by decide +kernel
theorem dX0_addBasin_0 : decode cX0_addBasin 0 = .ok (.aload_n 0, 1) := by decide +kernel
theorem dX0_addBasin_1 : decode cX0_addBasin 1 = .ok (.invokevirtual 37, 3) := by decide +kernel
theorem dX0_addBasin_4 : decode cX0_addBasin 4 = .ok (.ifCond .eq 43, 3) := by decide +kernel
theorem dX0_addBasin_7 : decode cX0_addBasin 7 = .ok (.aload_n 0, 1) := by decide +kernel
theorem dX0_addBasin_8 : decode cX0_addBasin 8 = .ok (.getfield 9, 3) := by decide +kernel
theorem dX0_addBasin_11 : decode cX0_addBasin 11 = .ok (.aload_n 0, 1) := by decide +kernel
theorem dX0_addBasin_12 : decode cX0_addBasin 12 = .ok (.getfield 33, 3) := by decide +kernel
theorem dX0_addBasin_15 : decode cX0_addBasin 15 = .ok (.iload_n 1, 1) := by decide +kernel
theorem dX0_addBasin_16 : decode cX0_addBasin 16 = .ok (.iastore, 1) := by decide +kernel
theorem dX0_addBasin_17 : decode cX0_addBasin 17 = .ok (.aload_n 0, 1) := by decide +kernel
theorem dX0_addBasin_18 : decode cX0_addBasin 18 = .ok (.getfield 15, 3) := by decide +kernel
theorem dX0_addBasin_21 : decode cX0_addBasin 21 = .ok (.aload_n 0, 1) := by decide +kernel
theorem dX0_addBasin_22 : decode cX0_addBasin 22 = .ok (.getfield 33, 3) := by decide +kernel
theorem dX0_addBasin_25 : decode cX0_addBasin 25 = .ok (.iload_n 2, 1) := by decide +kernel
theorem dX0_addBasin_26 : decode cX0_addBasin 26 = .ok (.iastore, 1) := by decide +kernel
theorem dX0_addBasin_27 : decode cX0_addBasin 27 = .ok (.aload_n 0, 1) := by decide +kernel
theorem dX0_addBasin_28 : decode cX0_addBasin 28 = .ok (.getfield 18, 3) := by decide +kernel
theorem dX0_addBasin_31 : decode cX0_addBasin 31 = .ok (.aload_n 0, 1) := by decide +kernel
theorem dX0_addBasin_32 : decode cX0_addBasin 32 = .ok (.getfield 33, 3) := by decide +kernel
theorem dX0_addBasin_35 : decode cX0_addBasin 35 = .ok (.iload_n 3, 1) := by decide +kernel
theorem dX0_addBasin_36 : decode cX0_addBasin 36 = .ok (.iastore, 1) := by decide +kernel
theorem dX0_addBasin_37 : decode cX0_addBasin 37 = .ok (.aload_n 0, 1) := by decide +kernel
theorem dX0_addBasin_38 : decode cX0_addBasin 38 = .ok (.dup, 1) := by decide +kernel
theorem dX0_addBasin_39 : decode cX0_addBasin 39 = .ok (.getfield 33, 3) := by decide +kernel
theorem dX0_addBasin_42 : decode cX0_addBasin 42 = .ok (.iconst 1, 1) := by decide +kernel
theorem dX0_addBasin_43 : decode cX0_addBasin 43 = .ok (.iadd, 1) := by decide +kernel
theorem dX0_addBasin_44 : decode cX0_addBasin 44 = .ok (.putfield 33, 3) := by decide +kernel
theorem dX0_addBasin_47 : decode cX0_addBasin 47 = .ok (.return_, 1) := by decide +kernel
theorem dX0_isNode_0 : decode cX0_isNode 0 = .ok (.iload_n 1, 1) := by decide +kernel
theorem dX0_isNode_1 : decode cX0_isNode 1 = .ok (.ifCond .lt 15, 3) := by decide +kernel
theorem dX0_isNode_4 : decode cX0_isNode 4 = .ok (.iload_n 1, 1) := by decide +kernel
theorem dX0_isNode_5 : decode cX0_isNode 5 = .ok (.aload_n 0, 1) := by decide +kernel
theorem dX0_isNode_6 : decode cX0_isNode 6 = .ok (.getfield 33, 3) := by decide +kernel
theorem dX0_isNode_9 : decode cX0_isNode 9 = .ok (.if_icmp .ge 7, 3) := by decide +kernel
theorem dX0_isNode_12 : decode cX0_isNode 12 = .ok (.iconst 1, 1) := by decide +kernel
theorem dX0_isNode_13 : decode cX0_isNode 13 = .ok (.goto 4, 3) := by decide +kernel
theorem dX0_isNode_16 : decode cX0_isNode 16 = .ok (.iconst 0, 1) := by decide +kernel
theorem dX0_isNode_17 : decode cX0_isNode 17 = .ok (.ireturn, 1) := by decide +kernel
theorem dX0_isGate_0 : decode cX0_isGate 0 = .ok (.iload_n 1, 1) := by decide +kernel
theorem dX0_isGate_1 : decode cX0_isGate 1 = .ok (.ifCond .lt 17, 3) := by decide +kernel
theorem dX0_isGate_4 : decode cX0_isGate 4 = .ok (.iload_n 1, 1) := by decide +kernel
theorem dX0_isGate_5 : decode cX0_isGate 5 = .ok (.aload_n 0, 1) := by decide +kernel
theorem dX0_isGate_6 : decode cX0_isGate 6 = .ok (.getfield 33, 3) := by decide +kernel
theorem dX0_isGate_9 : decode cX0_isGate 9 = .ok (.iconst 1, 1) := by decide +kernel
theorem dX0_isGate_10 : decode cX0_isGate 10 = .ok (.isub, 1) := by decide +kernel
theorem dX0_isGate_11 : decode cX0_isGate 11 = .ok (.if_icmp .ge 7, 3) := by decide +kernel
theorem dX0_isGate_14 : decode cX0_isGate 14 = .ok (.iconst 1, 1) := by decide +kernel
theorem dX0_isGate_15 : decode cX0_isGate 15 = .ok (.goto 4, 3) := by decide +kernel
theorem dX0_isGate_18 : decode cX0_isGate 18 = .ok (.iconst 0, 1) := by decide +kernel
theorem dX0_isGate_19 : decode cX0_isGate 19 = .ok (.ireturn, 1) := by decide +kernel
theorem dX0_isSea_0 : decode cX0_isSea 0 = .ok (.iload_n 1, 1) := by decide +kernel
theorem dX0_isSea_1 : decode cX0_isSea 1 = .ok (.aload_n 0, 1) := by decide +kernel
theorem dX0_isSea_2 : decode cX0_isSea 2 = .ok (.getfield 33, 3) := by decide +kernel
theorem dX0_isSea_5 : decode cX0_isSea 5 = .ok (.iconst 1, 1) := by decide +kernel
theorem dX0_isSea_6 : decode cX0_isSea 6 = .ok (.isub, 1) := by decide +kernel
theorem dX0_isSea_7 : decode cX0_isSea 7 = .ok (.if_icmp .ne 7, 3) := by decide +kernel
theorem dX0_isSea_10 : decode cX0_isSea 10 = .ok (.iconst 1, 1) := by decide +kernel
theorem dX0_isSea_11 : decode cX0_isSea 11 = .ok (.goto 4, 3) := by decide +kernel
theorem dX0_isSea_14 : decode cX0_isSea 14 = .ok (.iconst 0, 1) := by decide +kernel
theorem dX0_isSea_15 : decode cX0_isSea 15 = .ok (.ireturn, 1) := by decide +kernel
theorem dX0_tideAt_0 : decode cX0_tideAt 0 = .ok (.aload_n 0, 1) := by decide +kernel
theorem dX0_tideAt_1 : decode cX0_tideAt 1 = .ok (.getfield 30, 3) := by decide +kernel
theorem dX0_tideAt_4 : decode cX0_tideAt 4 = .ok (.iload_n 1, 1) := by decide +kernel
theorem dX0_tideAt_5 : decode cX0_tideAt 5 = .ok (.bipush 24, 2) := by decide +kernel
theorem dX0_tideAt_7 : decode cX0_tideAt 7 = .ok (.invokestatic 41, 3) := by decide +kernel
theorem dX0_tideAt_10 : decode cX0_tideAt 10 = .ok (.iaload, 1) := by decide +kernel
theorem dX0_tideAt_11 : decode cX0_tideAt 11 = .ok (.ireturn, 1) := by decide +kernel
theorem dX0_rainAt_0 : decode cX0_rainAt 0 = .ok (.aload_n 0, 1) := by decide +kernel
theorem dX0_rainAt_1 : decode cX0_rainAt 1 = .ok (.getfield 27, 3) := by decide +kernel
theorem dX0_rainAt_4 : decode cX0_rainAt 4 = .ok (.iload_n 1, 1) := by decide +kernel
theorem dX0_rainAt_5 : decode cX0_rainAt 5 = .ok (.bipush 24, 2) := by decide +kernel
theorem dX0_rainAt_7 : decode cX0_rainAt 7 = .ok (.invokestatic 41, 3) := by decide +kernel
theorem dX0_rainAt_10 : decode cX0_rainAt 10 = .ok (.iaload, 1) := by decide +kernel
theorem dX0_rainAt_11 : decode cX0_rainAt 11 = .ok (.bipush 50, 2) := by decide +kernel
theorem dX0_rainAt_13 : decode cX0_rainAt 13 = .ok (.isub, 1) := by decide +kernel
theorem dX0_rainAt_14 : decode cX0_rainAt 14 = .ok (.ireturn, 1) := by decide +kernel
theorem dX0_tollBetween_0 : decode cX0_tollBetween 0 = .ok (.iconst 0, 1) := by decide +kernel
theorem dX0_tollBetween_1 : decode cX0_tollBetween 1 = .ok (.istore_n 3, 1) := by decide +kernel
theorem dX0_tollBetween_2 : decode cX0_tollBetween 2 = .ok (.iload_n 1, 1) := by decide +kernel
theorem dX0_tollBetween_3 : decode cX0_tollBetween 3 = .ok (.iload_n 2, 1) := by decide +kernel
theorem dX0_tollBetween_4 : decode cX0_tollBetween 4 = .ok (.invokestatic 47, 3) := by decide +kernel
theorem dX0_tollBetween_7 : decode cX0_tollBetween 7 = .ok (.istore 4, 2) := by decide +kernel
theorem dX0_tollBetween_9 : decode cX0_tollBetween 9 = .ok (.iload 4, 2) := by decide +kernel
theorem dX0_tollBetween_11 : decode cX0_tollBetween 11 = .ok (.iload_n 1, 1) := by decide +kernel
theorem dX0_tollBetween_12 : decode cX0_tollBetween 12 = .ok (.iload_n 2, 1) := by decide +kernel
theorem dX0_tollBetween_13 : decode cX0_tollBetween 13 = .ok (.invokestatic 50, 3) := by decide +kernel
theorem dX0_tollBetween_16 : decode cX0_tollBetween 16 = .ok (.if_icmp .ge 19, 3) := by decide +kernel
theorem dX0_tollBetween_19 : decode cX0_tollBetween 19 = .ok (.iload_n 3, 1) := by decide +kernel
theorem dX0_tollBetween_20 : decode cX0_tollBetween 20 = .ok (.aload_n 0, 1) := by decide +kernel
theorem dX0_tollBetween_21 : decode cX0_tollBetween 21 = .ok (.getfield 24, 3) := by decide +kernel
theorem dX0_tollBetween_24 : decode cX0_tollBetween 24 = .ok (.iload 4, 2) := by decide +kernel
theorem dX0_tollBetween_26 : decode cX0_tollBetween 26 = .ok (.iaload, 1) := by decide +kernel
theorem dX0_tollBetween_27 : decode cX0_tollBetween 27 = .ok (.iadd, 1) := by decide +kernel
theorem dX0_tollBetween_28 : decode cX0_tollBetween 28 = .ok (.istore_n 3, 1) := by decide +kernel
theorem dX0_tollBetween_29 : decode cX0_tollBetween 29 = .ok (.iinc 4 1, 3) := by decide +kernel
theorem dX0_tollBetween_32 : decode cX0_tollBetween 32 = .ok (.goto (-23), 3) := by decide +kernel
theorem dX0_tollBetween_35 : decode cX0_tollBetween 35 = .ok (.iload_n 1, 1) := by decide +kernel
theorem dX0_tollBetween_36 : decode cX0_tollBetween 36 = .ok (.iload_n 2, 1) := by decide +kernel
theorem dX0_tollBetween_37 : decode cX0_tollBetween 37 = .ok (.if_icmp .ge 7, 3) := by decide +kernel
theorem dX0_tollBetween_40 : decode cX0_tollBetween 40 = .ok (.iload_n 3, 1) := by decide +kernel
theorem dX0_tollBetween_41 : decode cX0_tollBetween 41 = .ok (.goto 5, 3) := by decide +kernel
theorem dX0_tollBetween_44 : decode cX0_tollBetween 44 = .ok (.iload_n 3, 1) := by decide +kernel
theorem dX0_tollBetween_45 : decode cX0_tollBetween 45 = .ok (.ineg, 1) := by decide +kernel
theorem dX0_tollBetween_46 : decode cX0_tollBetween 46 = .ok (.ireturn, 1) := by decide +kernel
theorem dX1_init_0 : decode cX1_init 0 = .ok (.aload_n 0, 1) := by decide +kernel
theorem dX1_init_1 : decode cX1_init 1 = .ok (.invokespecial 3, 3) := by decide +kernel
theorem dX1_init_4 : decode cX1_init 4 = .ok (.aload_n 0, 1) := by decide +kernel
theorem dX1_init_5 : decode cX1_init 5 = .ok (.bipush 30, 2) := by decide +kernel
theorem dX1_init_7 : decode cX1_init 7 = .ok (.newarray .int, 2) := by decide +kernel
theorem dX1_init_9 : decode cX1_init 9 = .ok (.putfield 9, 3) := by decide +kernel
theorem dX1_init_12 : decode cX1_init 12 = .ok (.aload_n 0, 1) := by decide +kernel
theorem dX1_init_13 : decode cX1_init 13 = .ok (.bipush 30, 2) := by decide +kernel
theorem dX1_init_15 : decode cX1_init 15 = .ok (.newarray .int, 2) := by decide +kernel
theorem dX1_init_17 : decode cX1_init 17 = .ok (.putfield 15, 3) := by decide +kernel
theorem dX1_init_20 : decode cX1_init 20 = .ok (.aload_n 0, 1) := by decide +kernel
theorem dX1_init_21 : decode cX1_init 21 = .ok (.bipush 30, 2) := by decide +kernel
theorem dX1_init_23 : decode cX1_init 23 = .ok (.newarray .int, 2) := by decide +kernel
theorem dX1_init_25 : decode cX1_init 25 = .ok (.putfield 18, 3) := by decide +kernel
theorem dX1_init_28 : decode cX1_init 28 = .ok (.return_, 1) := by decide +kernel
theorem dX1_addOrder_0 : decode cX1_addOrder 0 = .ok (.aload_n 0, 1) := by decide +kernel
theorem dX1_addOrder_1 : decode cX1_addOrder 1 = .ok (.getfield 21, 3) := by decide +kernel
theorem dX1_addOrder_4 : decode cX1_addOrder 4 = .ok (.bipush 30, 2) := by decide +kernel
theorem dX1_addOrder_6 : decode cX1_addOrder 6 = .ok (.if_icmp .ge 43, 3) := by decide +kernel
theorem dX1_addOrder_9 : decode cX1_addOrder 9 = .ok (.aload_n 0, 1) := by decide +kernel
theorem dX1_addOrder_10 : decode cX1_addOrder 10 = .ok (.getfield 9, 3) := by decide +kernel
theorem dX1_addOrder_13 : decode cX1_addOrder 13 = .ok (.aload_n 0, 1) := by decide +kernel
theorem dX1_addOrder_14 : decode cX1_addOrder 14 = .ok (.getfield 21, 3) := by decide +kernel
theorem dX1_addOrder_17 : decode cX1_addOrder 17 = .ok (.iload_n 1, 1) := by decide +kernel
theorem dX1_addOrder_18 : decode cX1_addOrder 18 = .ok (.iastore, 1) := by decide +kernel
theorem dX1_addOrder_19 : decode cX1_addOrder 19 = .ok (.aload_n 0, 1) := by decide +kernel
theorem dX1_addOrder_20 : decode cX1_addOrder 20 = .ok (.getfield 15, 3) := by decide +kernel
theorem dX1_addOrder_23 : decode cX1_addOrder 23 = .ok (.aload_n 0, 1) := by decide +kernel
theorem dX1_addOrder_24 : decode cX1_addOrder 24 = .ok (.getfield 21, 3) := by decide +kernel
theorem dX1_addOrder_27 : decode cX1_addOrder 27 = .ok (.iload_n 2, 1) := by decide +kernel
theorem dX1_addOrder_28 : decode cX1_addOrder 28 = .ok (.iastore, 1) := by decide +kernel
theorem dX1_addOrder_29 : decode cX1_addOrder 29 = .ok (.aload_n 0, 1) := by decide +kernel
theorem dX1_addOrder_30 : decode cX1_addOrder 30 = .ok (.getfield 18, 3) := by decide +kernel
theorem dX1_addOrder_33 : decode cX1_addOrder 33 = .ok (.aload_n 0, 1) := by decide +kernel
theorem dX1_addOrder_34 : decode cX1_addOrder 34 = .ok (.getfield 21, 3) := by decide +kernel
theorem dX1_addOrder_37 : decode cX1_addOrder 37 = .ok (.iload_n 3, 1) := by decide +kernel
theorem dX1_addOrder_38 : decode cX1_addOrder 38 = .ok (.iastore, 1) := by decide +kernel
theorem dX1_addOrder_39 : decode cX1_addOrder 39 = .ok (.aload_n 0, 1) := by decide +kernel
theorem dX1_addOrder_40 : decode cX1_addOrder 40 = .ok (.dup, 1) := by decide +kernel
theorem dX1_addOrder_41 : decode cX1_addOrder 41 = .ok (.getfield 21, 3) := by decide +kernel
theorem dX1_addOrder_44 : decode cX1_addOrder 44 = .ok (.iconst 1, 1) := by decide +kernel
theorem dX1_addOrder_45 : decode cX1_addOrder 45 = .ok (.iadd, 1) := by decide +kernel
theorem dX1_addOrder_46 : decode cX1_addOrder 46 = .ok (.putfield 21, 3) := by decide +kernel
theorem dX1_addOrder_49 : decode cX1_addOrder 49 = .ok (.return_, 1) := by decide +kernel
theorem dX4_init_0 : decode cX4_init 0 = .ok (.aload_n 0, 1) := by decide +kernel
theorem dX4_init_1 : decode cX4_init 1 = .ok (.invokespecial 3, 3) := by decide +kernel
theorem dX4_init_4 : decode cX4_init 4 = .ok (.aload_n 0, 1) := by decide +kernel
theorem dX4_init_5 : decode cX4_init 5 = .ok (.bipush 100, 2) := by decide +kernel
theorem dX4_init_7 : decode cX4_init 7 = .ok (.newarray .int, 2) := by decide +kernel
theorem dX4_init_9 : decode cX4_init 9 = .ok (.putfield 9, 3) := by decide +kernel
theorem dX4_init_12 : decode cX4_init 12 = .ok (.aload_n 0, 1) := by decide +kernel
theorem dX4_init_13 : decode cX4_init 13 = .ok (.bipush 100, 2) := by decide +kernel
theorem dX4_init_15 : decode cX4_init 15 = .ok (.newarray .int, 2) := by decide +kernel
theorem dX4_init_17 : decode cX4_init 17 = .ok (.putfield 15, 3) := by decide +kernel
theorem dX4_init_20 : decode cX4_init 20 = .ok (.return_, 1) := by decide +kernel
theorem dX4_begin_0 : decode cX4_begin 0 = .ok (.aload_n 0, 1) := by decide +kernel
theorem dX4_begin_1 : decode cX4_begin 1 = .ok (.iconst 0, 1) := by decide +kernel
theorem dX4_begin_2 : decode cX4_begin 2 = .ok (.putfield 18, 3) := by decide +kernel
theorem dX4_begin_5 : decode cX4_begin 5 = .ok (.aload_n 0, 1) := by decide +kernel
theorem dX4_begin_6 : decode cX4_begin 6 = .ok (.iconst 1, 1) := by decide +kernel
theorem dX4_begin_7 : decode cX4_begin 7 = .ok (.iload_n 1, 1) := by decide +kernel
theorem dX4_begin_8 : decode cX4_begin 8 = .ok (.ishl, 1) := by decide +kernel
theorem dX4_begin_9 : decode cX4_begin 9 = .ok (.putfield 22, 3) := by decide +kernel
theorem dX4_begin_12 : decode cX4_begin 12 = .ok (.return_, 1) := by decide +kernel
theorem dX4_isAt_0 : decode cX4_isAt 0 = .ok (.aload_n 0, 1) := by decide +kernel
theorem dX4_isAt_1 : decode cX4_isAt 1 = .ok (.getfield 22, 3) := by decide +kernel
theorem dX4_isAt_4 : decode cX4_isAt 4 = .ok (.iload_n 1, 1) := by decide +kernel
theorem dX4_isAt_5 : decode cX4_isAt 5 = .ok (.ishr, 1) := by decide +kernel
theorem dX4_isAt_6 : decode cX4_isAt 6 = .ok (.iconst 1, 1) := by decide +kernel
theorem dX4_isAt_7 : decode cX4_isAt 7 = .ok (.iand, 1) := by decide +kernel
theorem dX4_isAt_8 : decode cX4_isAt 8 = .ok (.ifCond .eq 7, 3) := by decide +kernel
theorem dX4_isAt_11 : decode cX4_isAt 11 = .ok (.iconst 1, 1) := by decide +kernel
theorem dX4_isAt_12 : decode cX4_isAt 12 = .ok (.goto 4, 3) := by decide +kernel
theorem dX4_isAt_15 : decode cX4_isAt 15 = .ok (.iconst 0, 1) := by decide +kernel
theorem dX4_isAt_16 : decode cX4_isAt 16 = .ok (.ireturn, 1) := by decide +kernel
theorem dX4_addHour_0 : decode cX4_addHour 0 = .ok (.aload_n 0, 1) := by decide +kernel
theorem dX4_addHour_1 : decode cX4_addHour 1 = .ok (.getfield 18, 3) := by decide +kernel
theorem dX4_addHour_4 : decode cX4_addHour 4 = .ok (.bipush 100, 2) := by decide +kernel
theorem dX4_addHour_6 : decode cX4_addHour 6 = .ok (.if_icmp .lt 4, 3) := by decide +kernel
theorem dX4_addHour_9 : decode cX4_addHour 9 = .ok (.return_, 1) := by decide +kernel
theorem dX4_addHour_10 : decode cX4_addHour 10 = .ok (.iconst 0, 1) := by decide +kernel
theorem dX4_addHour_11 : decode cX4_addHour 11 = .ok (.istore 4, 2) := by decide +kernel
theorem dX4_addHour_13 : decode cX4_addHour 13 = .ok (.iconst 0, 1) := by decide +kernel
theorem dX4_addHour_14 : decode cX4_addHour 14 = .ok (.istore 5, 2) := by decide +kernel
theorem dX4_addHour_16 : decode cX4_addHour 16 = .ok (.iconst 0, 1) := by decide +kernel
theorem dX4_addHour_17 : decode cX4_addHour 17 = .ok (.istore 6, 2) := by decide +kernel
theorem dX4_addHour_19 : decode cX4_addHour 19 = .ok (.iload 6, 2) := by decide +kernel
theorem dX4_addHour_21 : decode cX4_addHour 21 = .ok (.aload_n 1, 1) := by decide +kernel
theorem dX4_addHour_22 : decode cX4_addHour 22 = .ok (.getfield 25, 3) := by decide +kernel
theorem dX4_addHour_25 : decode cX4_addHour 25 = .ok (.iconst 1, 1) := by decide +kernel
theorem dX4_addHour_26 : decode cX4_addHour 26 = .ok (.isub, 1) := by decide +kernel
theorem dX4_addHour_27 : decode cX4_addHour 27 = .ok (.if_icmp .ge 79, 3) := by decide +kernel
theorem dX4_addHour_30 : decode cX4_addHour 30 = .ok (.aload_n 2, 1) := by decide +kernel
theorem dX4_addHour_31 : decode cX4_addHour 31 = .ok (.getfield 30, 3) := by decide +kernel
theorem dX4_addHour_34 : decode cX4_addHour 34 = .ok (.iload 6, 2) := by decide +kernel
theorem dX4_addHour_36 : decode cX4_addHour 36 = .ok (.iaload, 1) := by decide +kernel
theorem dX4_addHour_37 : decode cX4_addHour 37 = .ok (.ifCond .eq 7, 3) := by decide +kernel
theorem dX4_addHour_40 : decode cX4_addHour 40 = .ok (.iconst 1, 1) := by decide +kernel
theorem dX4_addHour_41 : decode cX4_addHour 41 = .ok (.goto 4, 3) := by decide +kernel
theorem dX4_addHour_44 : decode cX4_addHour 44 = .ok (.iconst 0, 1) := by decide +kernel
theorem dX4_addHour_45 : decode cX4_addHour 45 = .ok (.istore 7, 2) := by decide +kernel
theorem dX4_addHour_47 : decode cX4_addHour 47 = .ok (.iload 7, 2) := by decide +kernel
theorem dX4_addHour_49 : decode cX4_addHour 49 = .ok (.ifCond .eq 24, 3) := by decide +kernel
theorem dX4_addHour_52 : decode cX4_addHour 52 = .ok (.aload_n 2, 1) := by decide +kernel
theorem dX4_addHour_53 : decode cX4_addHour 53 = .ok (.getfield 35, 3) := by decide +kernel
theorem dX4_addHour_56 : decode cX4_addHour 56 = .ok (.iload 6, 2) := by decide +kernel
theorem dX4_addHour_58 : decode cX4_addHour 58 = .ok (.iaload, 1) := by decide +kernel
theorem dX4_addHour_59 : decode cX4_addHour 59 = .ok (.ineg, 1) := by decide +kernel
theorem dX4_addHour_60 : decode cX4_addHour 60 = .ok (.iload_n 3, 1) := by decide +kernel
theorem dX4_addHour_61 : decode cX4_addHour 61 = .ok (.if_icmp .gt 12, 3) := by decide +kernel
theorem dX4_addHour_64 : decode cX4_addHour 64 = .ok (.iload 4, 2) := by decide +kernel
theorem dX4_addHour_66 : decode cX4_addHour 66 = .ok (.iconst 1, 1) := by decide +kernel
theorem dX4_addHour_67 : decode cX4_addHour 67 = .ok (.iload 6, 2) := by decide +kernel
theorem dX4_addHour_69 : decode cX4_addHour 69 = .ok (.ishl, 1) := by decide +kernel
theorem dX4_addHour_70 : decode cX4_addHour 70 = .ok (.ior, 1) := by decide +kernel
theorem dX4_addHour_71 : decode cX4_addHour 71 = .ok (.istore 4, 2) := by decide +kernel
theorem dX4_addHour_73 : decode cX4_addHour 73 = .ok (.iload 7, 2) := by decide +kernel
theorem dX4_addHour_75 : decode cX4_addHour 75 = .ok (.ifCond .eq 25, 3) := by decide +kernel
theorem dX4_addHour_78 : decode cX4_addHour 78 = .ok (.aload_n 2, 1) := by decide +kernel
theorem dX4_addHour_79 : decode cX4_addHour 79 = .ok (.getfield 35, 3) := by decide +kernel
theorem dX4_addHour_82 : decode cX4_addHour 82 = .ok (.iload 6, 2) := by decide +kernel
theorem dX4_addHour_84 : decode cX4_addHour 84 = .ok (.iaload, 1) := by decide +kernel
theorem dX4_addHour_85 : decode cX4_addHour 85 = .ok (.iload_n 3, 1) := by decide +kernel
theorem dX4_addHour_86 : decode cX4_addHour 86 = .ok (.if_icmp .gt 14, 3) := by decide +kernel
theorem dX4_addHour_89 : decode cX4_addHour 89 = .ok (.iload 5, 2) := by decide +kernel
theorem dX4_addHour_91 : decode cX4_addHour 91 = .ok (.iconst 1, 1) := by decide +kernel
theorem dX4_addHour_92 : decode cX4_addHour 92 = .ok (.iload 6, 2) := by decide +kernel
theorem dX4_addHour_94 : decode cX4_addHour 94 = .ok (.iconst 1, 1) := by decide +kernel
theorem dX4_addHour_95 : decode cX4_addHour 95 = .ok (.iadd, 1) := by decide +kernel
theorem dX4_addHour_96 : decode cX4_addHour 96 = .ok (.ishl, 1) := by decide +kernel
theorem dX4_addHour_97 : decode cX4_addHour 97 = .ok (.ior, 1) := by decide +kernel
theorem dX4_addHour_98 : decode cX4_addHour 98 = .ok (.istore 5, 2) := by decide +kernel
theorem dX4_addHour_100 : decode cX4_addHour 100 = .ok (.iinc 6 1, 3) := by decide +kernel
theorem dX4_addHour_103 : decode cX4_addHour 103 = .ok (.goto (-84), 3) := by decide +kernel
theorem dX4_addHour_106 : decode cX4_addHour 106 = .ok (.aload_n 0, 1) := by decide +kernel
theorem dX4_addHour_107 : decode cX4_addHour 107 = .ok (.getfield 9, 3) := by decide +kernel
theorem dX4_addHour_110 : decode cX4_addHour 110 = .ok (.aload_n 0, 1) := by decide +kernel
theorem dX4_addHour_111 : decode cX4_addHour 111 = .ok (.getfield 18, 3) := by decide +kernel
theorem dX4_addHour_114 : decode cX4_addHour 114 = .ok (.iload 4, 2) := by decide +kernel
theorem dX4_addHour_116 : decode cX4_addHour 116 = .ok (.iastore, 1) := by decide +kernel
theorem dX4_addHour_117 : decode cX4_addHour 117 = .ok (.aload_n 0, 1) := by decide +kernel
theorem dX4_addHour_118 : decode cX4_addHour 118 = .ok (.getfield 15, 3) := by decide +kernel
theorem dX4_addHour_121 : decode cX4_addHour 121 = .ok (.aload_n 0, 1) := by decide +kernel
theorem dX4_addHour_122 : decode cX4_addHour 122 = .ok (.getfield 18, 3) := by decide +kernel
theorem dX4_addHour_125 : decode cX4_addHour 125 = .ok (.iload 5, 2) := by decide +kernel
theorem dX4_addHour_127 : decode cX4_addHour 127 = .ok (.iastore, 1) := by decide +kernel
theorem dX4_addHour_128 : decode cX4_addHour 128 = .ok (.aload_n 0, 1) := by decide +kernel
theorem dX4_addHour_129 : decode cX4_addHour 129 = .ok (.dup, 1) := by decide +kernel
theorem dX4_addHour_130 : decode cX4_addHour 130 = .ok (.getfield 22, 3) := by decide +kernel
theorem dX4_addHour_133 : decode cX4_addHour 133 = .ok (.aload_n 0, 1) := by decide +kernel
theorem dX4_addHour_134 : decode cX4_addHour 134 = .ok (.getfield 22, 3) := by decide +kernel
theorem dX4_addHour_137 : decode cX4_addHour 137 = .ok (.iload 4, 2) := by decide +kernel
theorem dX4_addHour_139 : decode cX4_addHour 139 = .ok (.iand, 1) := by decide +kernel
theorem dX4_addHour_140 : decode cX4_addHour 140 = .ok (.iconst 1, 1) := by decide +kernel
theorem dX4_addHour_141 : decode cX4_addHour 141 = .ok (.ishl, 1) := by decide +kernel
theorem dX4_addHour_142 : decode cX4_addHour 142 = .ok (.aload_n 0, 1) := by decide +kernel
theorem dX4_addHour_143 : decode cX4_addHour 143 = .ok (.getfield 22, 3) := by decide +kernel
theorem dX4_addHour_146 : decode cX4_addHour 146 = .ok (.iload 5, 2) := by decide +kernel
theorem dX4_addHour_148 : decode cX4_addHour 148 = .ok (.iand, 1) := by decide +kernel
theorem dX4_addHour_149 : decode cX4_addHour 149 = .ok (.iconst 1, 1) := by decide +kernel
theorem dX4_addHour_150 : decode cX4_addHour 150 = .ok (.ishr, 1) := by decide +kernel
theorem dX4_addHour_151 : decode cX4_addHour 151 = .ok (.ior, 1) := by decide +kernel
theorem dX4_addHour_152 : decode cX4_addHour 152 = .ok (.ior, 1) := by decide +kernel
theorem dX4_addHour_153 : decode cX4_addHour 153 = .ok (.putfield 22, 3) := by decide +kernel
theorem dX4_addHour_156 : decode cX4_addHour 156 = .ok (.aload_n 0, 1) := by decide +kernel
theorem dX4_addHour_157 : decode cX4_addHour 157 = .ok (.dup, 1) := by decide +kernel
theorem dX4_addHour_158 : decode cX4_addHour 158 = .ok (.getfield 18, 3) := by decide +kernel
theorem dX4_addHour_161 : decode cX4_addHour 161 = .ok (.iconst 1, 1) := by decide +kernel
theorem dX4_addHour_162 : decode cX4_addHour 162 = .ok (.iadd, 1) := by decide +kernel
theorem dX4_addHour_163 : decode cX4_addHour 163 = .ok (.putfield 18, 3) := by decide +kernel
theorem dX4_addHour_166 : decode cX4_addHour 166 = .ok (.return_, 1) := by decide +kernel
theorem dX4_deedIn_0 : decode cX4_deedIn 0 = .ok (.iload_n 2, 1) := by decide +kernel
theorem dX4_deedIn_1 : decode cX4_deedIn 1 = .ok (.istore 4, 2) := by decide +kernel
theorem dX4_deedIn_3 : decode cX4_deedIn 3 = .ok (.iconst 0, 1) := by decide +kernel
theorem dX4_deedIn_4 : decode cX4_deedIn 4 = .ok (.istore 5, 2) := by decide +kernel
theorem dX4_deedIn_6 : decode cX4_deedIn 6 = .ok (.iconst 0, 1) := by decide +kernel
theorem dX4_deedIn_7 : decode cX4_deedIn 7 = .ok (.istore 6, 2) := by decide +kernel
theorem dX4_deedIn_9 : decode cX4_deedIn 9 = .ok (.iload 6, 2) := by decide +kernel
theorem dX4_deedIn_11 : decode cX4_deedIn 11 = .ok (.iload_n 1, 1) := by decide +kernel
theorem dX4_deedIn_12 : decode cX4_deedIn 12 = .ok (.if_icmp .gt 81, 3) := by decide +kernel
theorem dX4_deedIn_15 : decode cX4_deedIn 15 = .ok (.iload 6, 2) := by decide +kernel
theorem dX4_deedIn_17 : decode cX4_deedIn 17 = .ok (.aload_n 0, 1) := by decide +kernel
theorem dX4_deedIn_18 : decode cX4_deedIn 18 = .ok (.getfield 18, 3) := by decide +kernel
theorem dX4_deedIn_21 : decode cX4_deedIn 21 = .ok (.if_icmp .ge 72, 3) := by decide +kernel
theorem dX4_deedIn_24 : decode cX4_deedIn 24 = .ok (.aload_n 0, 1) := by decide +kernel
theorem dX4_deedIn_25 : decode cX4_deedIn 25 = .ok (.iload 6, 2) := by decide +kernel
theorem dX4_deedIn_27 : decode cX4_deedIn 27 = .ok (.iload_n 3, 1) := by decide +kernel
theorem dX4_deedIn_28 : decode cX4_deedIn 28 = .ok (.invokevirtual 38, 3) := by decide +kernel
theorem dX4_deedIn_31 : decode cX4_deedIn 31 = .ok (.istore 7, 2) := by decide +kernel
theorem dX4_deedIn_33 : decode cX4_deedIn 33 = .ok (.iload 7, 2) := by decide +kernel
theorem dX4_deedIn_35 : decode cX4_deedIn 35 = .ok (.iload 4, 2) := by decide +kernel
theorem dX4_deedIn_37 : decode cX4_deedIn 37 = .ok (.ishr, 1) := by decide +kernel
theorem dX4_deedIn_38 : decode cX4_deedIn 38 = .ok (.iconst 1, 1) := by decide +kernel
theorem dX4_deedIn_39 : decode cX4_deedIn 39 = .ok (.iand, 1) := by decide +kernel
theorem dX4_deedIn_40 : decode cX4_deedIn 40 = .ok (.ifCond .eq 9, 3) := by decide +kernel
theorem dX4_deedIn_43 : decode cX4_deedIn 43 = .ok (.iconst 0, 1) := by decide +kernel
theorem dX4_deedIn_44 : decode cX4_deedIn 44 = .ok (.istore 5, 2) := by decide +kernel
theorem dX4_deedIn_46 : decode cX4_deedIn 46 = .ok (.goto 41, 3) := by decide +kernel
theorem dX4_deedIn_49 : decode cX4_deedIn 49 = .ok (.aload_n 0, 1) := by decide +kernel
theorem dX4_deedIn_50 : decode cX4_deedIn 50 = .ok (.getfield 9, 3) := by decide +kernel
theorem dX4_deedIn_53 : decode cX4_deedIn 53 = .ok (.iload 6, 2) := by decide +kernel
theorem dX4_deedIn_55 : decode cX4_deedIn 55 = .ok (.iaload, 1) := by decide +kernel
theorem dX4_deedIn_56 : decode cX4_deedIn 56 = .ok (.iload 4, 2) := by decide +kernel
theorem dX4_deedIn_58 : decode cX4_deedIn 58 = .ok (.ishr, 1) := by decide +kernel
theorem dX4_deedIn_59 : decode cX4_deedIn 59 = .ok (.iload 7, 2) := by decide +kernel
theorem dX4_deedIn_61 : decode cX4_deedIn 61 = .ok (.iload 4, 2) := by decide +kernel
theorem dX4_deedIn_63 : decode cX4_deedIn 63 = .ok (.iconst 1, 1) := by decide +kernel
theorem dX4_deedIn_64 : decode cX4_deedIn 64 = .ok (.iadd, 1) := by decide +kernel
theorem dX4_deedIn_65 : decode cX4_deedIn 65 = .ok (.ishr, 1) := by decide +kernel
theorem dX4_deedIn_66 : decode cX4_deedIn 66 = .ok (.iand, 1) := by decide +kernel
theorem dX4_deedIn_67 : decode cX4_deedIn 67 = .ok (.iconst 1, 1) := by decide +kernel
theorem dX4_deedIn_68 : decode cX4_deedIn 68 = .ok (.iand, 1) := by decide +kernel
theorem dX4_deedIn_69 : decode cX4_deedIn 69 = .ok (.ifCond .eq 12, 3) := by decide +kernel
theorem dX4_deedIn_72 : decode cX4_deedIn 72 = .ok (.iconst 1, 1) := by decide +kernel
theorem dX4_deedIn_73 : decode cX4_deedIn 73 = .ok (.istore 5, 2) := by decide +kernel
theorem dX4_deedIn_75 : decode cX4_deedIn 75 = .ok (.iinc 4 1, 3) := by decide +kernel
theorem dX4_deedIn_78 : decode cX4_deedIn 78 = .ok (.goto 9, 3) := by decide +kernel
theorem dX4_deedIn_81 : decode cX4_deedIn 81 = .ok (.iconst 2, 1) := by decide +kernel
theorem dX4_deedIn_82 : decode cX4_deedIn 82 = .ok (.istore 5, 2) := by decide +kernel
theorem dX4_deedIn_84 : decode cX4_deedIn 84 = .ok (.iinc 4 (-1), 3) := by decide +kernel
theorem dX4_deedIn_87 : decode cX4_deedIn 87 = .ok (.iinc 6 1, 3) := by decide +kernel
theorem dX4_deedIn_90 : decode cX4_deedIn 90 = .ok (.goto (-81), 3) := by decide +kernel
theorem dX4_deedIn_93 : decode cX4_deedIn 93 = .ok (.iload 5, 2) := by decide +kernel
theorem dX4_deedIn_95 : decode cX4_deedIn 95 = .ok (.ireturn, 1) := by decide +kernel
theorem dX4_timelyBehind_0 : decode cX4_timelyBehind 0 = .ok (.iconst 1, 1) := by decide +kernel
theorem dX4_timelyBehind_1 : decode cX4_timelyBehind 1 = .ok (.iload_n 2, 1) := by decide +kernel
theorem dX4_timelyBehind_2 : decode cX4_timelyBehind 2 = .ok (.ishl, 1) := by decide +kernel
theorem dX4_timelyBehind_3 : decode cX4_timelyBehind 3 = .ok (.istore_n 3, 1) := by decide +kernel
theorem dX4_timelyBehind_4 : decode cX4_timelyBehind 4 = .ok (.aload_n 0, 1) := by decide +kernel
theorem dX4_timelyBehind_5 : decode cX4_timelyBehind 5 = .ok (.getfield 18, 3) := by decide +kernel
theorem dX4_timelyBehind_8 : decode cX4_timelyBehind 8 = .ok (.iconst 1, 1) := by decide +kernel
theorem dX4_timelyBehind_9 : decode cX4_timelyBehind 9 = .ok (.isub, 1) := by decide +kernel
theorem dX4_timelyBehind_10 : decode cX4_timelyBehind 10 = .ok (.istore 4, 2) := by decide +kernel
theorem dX4_timelyBehind_12 : decode cX4_timelyBehind 12 = .ok (.iload 4, 2) := by decide +kernel
theorem dX4_timelyBehind_14 : decode cX4_timelyBehind 14 = .ok (.iload_n 1, 1) := by decide +kernel
theorem dX4_timelyBehind_15 : decode cX4_timelyBehind 15 = .ok (.if_icmp .le 35, 3) := by decide +kernel
theorem dX4_timelyBehind_18 : decode cX4_timelyBehind 18 = .ok (.iload_n 3, 1) := by decide +kernel
theorem dX4_timelyBehind_19 : decode cX4_timelyBehind 19 = .ok (.aload_n 0, 1) := by decide +kernel
theorem dX4_timelyBehind_20 : decode cX4_timelyBehind 20 = .ok (.getfield 9, 3) := by decide +kernel
theorem dX4_timelyBehind_23 : decode cX4_timelyBehind 23 = .ok (.iload 4, 2) := by decide +kernel
theorem dX4_timelyBehind_25 : decode cX4_timelyBehind 25 = .ok (.iaload, 1) := by decide +kernel
theorem dX4_timelyBehind_26 : decode cX4_timelyBehind 26 = .ok (.iload_n 3, 1) := by decide +kernel
theorem dX4_timelyBehind_27 : decode cX4_timelyBehind 27 = .ok (.iconst 1, 1) := by decide +kernel
theorem dX4_timelyBehind_28 : decode cX4_timelyBehind 28 = .ok (.ishr, 1) := by decide +kernel
theorem dX4_timelyBehind_29 : decode cX4_timelyBehind 29 = .ok (.iand, 1) := by decide +kernel
theorem dX4_timelyBehind_30 : decode cX4_timelyBehind 30 = .ok (.aload_n 0, 1) := by decide +kernel
theorem dX4_timelyBehind_31 : decode cX4_timelyBehind 31 = .ok (.getfield 15, 3) := by decide +kernel
theorem dX4_timelyBehind_34 : decode cX4_timelyBehind 34 = .ok (.iload 4, 2) := by decide +kernel
theorem dX4_timelyBehind_36 : decode cX4_timelyBehind 36 = .ok (.iaload, 1) := by decide +kernel
theorem dX4_timelyBehind_37 : decode cX4_timelyBehind 37 = .ok (.iload_n 3, 1) := by decide +kernel
theorem dX4_timelyBehind_38 : decode cX4_timelyBehind 38 = .ok (.iconst 1, 1) := by decide +kernel
theorem dX4_timelyBehind_39 : decode cX4_timelyBehind 39 = .ok (.ishl, 1) := by decide +kernel
theorem dX4_timelyBehind_40 : decode cX4_timelyBehind 40 = .ok (.iand, 1) := by decide +kernel
theorem dX4_timelyBehind_41 : decode cX4_timelyBehind 41 = .ok (.ior, 1) := by decide +kernel
theorem dX4_timelyBehind_42 : decode cX4_timelyBehind 42 = .ok (.ior, 1) := by decide +kernel
theorem dX4_timelyBehind_43 : decode cX4_timelyBehind 43 = .ok (.istore_n 3, 1) := by decide +kernel
theorem dX4_timelyBehind_44 : decode cX4_timelyBehind 44 = .ok (.iinc 4 (-1), 3) := by decide +kernel
theorem dX4_timelyBehind_47 : decode cX4_timelyBehind 47 = .ok (.goto (-35), 3) := by decide +kernel
theorem dX4_timelyBehind_50 : decode cX4_timelyBehind 50 = .ok (.iload_n 3, 1) := by decide +kernel
theorem dX4_timelyBehind_51 : decode cX4_timelyBehind 51 = .ok (.ireturn, 1) := by decide +kernel
theorem dX5_init_0 : decode cX5_init 0 = .ok (.aload_n 0, 1) := by decide +kernel
theorem dX5_init_1 : decode cX5_init 1 = .ok (.invokespecial 3, 3) := by decide +kernel
theorem dX5_init_4 : decode cX5_init 4 = .ok (.aload_n 0, 1) := by decide +kernel
theorem dX5_init_5 : decode cX5_init 5 = .ok (.bipush 12, 2) := by decide +kernel
theorem dX5_init_7 : decode cX5_init 7 = .ok (.newarray .int, 2) := by decide +kernel
theorem dX5_init_9 : decode cX5_init 9 = .ok (.putfield 9, 3) := by decide +kernel
theorem dX5_init_12 : decode cX5_init 12 = .ok (.aload_n 0, 1) := by decide +kernel
theorem dX5_init_13 : decode cX5_init 13 = .ok (.bipush 12, 2) := by decide +kernel
theorem dX5_init_15 : decode cX5_init 15 = .ok (.newarray .int, 2) := by decide +kernel
theorem dX5_init_17 : decode cX5_init 17 = .ok (.putfield 15, 3) := by decide +kernel
theorem dX5_init_20 : decode cX5_init 20 = .ok (.aload_n 0, 1) := by decide +kernel
theorem dX5_init_21 : decode cX5_init 21 = .ok (.bipush 12, 2) := by decide +kernel
theorem dX5_init_23 : decode cX5_init 23 = .ok (.newarray .int, 2) := by decide +kernel
theorem dX5_init_25 : decode cX5_init 25 = .ok (.putfield 18, 3) := by decide +kernel
theorem dX5_init_28 : decode cX5_init 28 = .ok (.aload_n 0, 1) := by decide +kernel
theorem dX5_init_29 : decode cX5_init 29 = .ok (.bipush 12, 2) := by decide +kernel
theorem dX5_init_31 : decode cX5_init 31 = .ok (.newarray .int, 2) := by decide +kernel
theorem dX5_init_33 : decode cX5_init 33 = .ok (.putfield 21, 3) := by decide +kernel
theorem dX5_init_36 : decode cX5_init 36 = .ok (.aload_n 0, 1) := by decide +kernel
theorem dX5_init_37 : decode cX5_init 37 = .ok (.bipush 12, 2) := by decide +kernel
theorem dX5_init_39 : decode cX5_init 39 = .ok (.newarray .int, 2) := by decide +kernel
theorem dX5_init_41 : decode cX5_init 41 = .ok (.putfield 24, 3) := by decide +kernel
theorem dX5_init_44 : decode cX5_init 44 = .ok (.aload_n 0, 1) := by decide +kernel
theorem dX5_init_45 : decode cX5_init 45 = .ok (.bipush 12, 2) := by decide +kernel
theorem dX5_init_47 : decode cX5_init 47 = .ok (.newarray .int, 2) := by decide +kernel
theorem dX5_init_49 : decode cX5_init 49 = .ok (.putfield 27, 3) := by decide +kernel
theorem dX5_init_52 : decode cX5_init 52 = .ok (.aload_n 0, 1) := by decide +kernel
theorem dX5_init_53 : decode cX5_init 53 = .ok (.bipush 12, 2) := by decide +kernel
theorem dX5_init_55 : decode cX5_init 55 = .ok (.newarray .int, 2) := by decide +kernel
theorem dX5_init_57 : decode cX5_init 57 = .ok (.putfield 30, 3) := by decide +kernel
theorem dX5_init_60 : decode cX5_init 60 = .ok (.return_, 1) := by decide +kernel
theorem dX5_setIn_0 : decode cX5_setIn 0 = .ok (.aload_n 0, 1) := by decide +kernel
theorem dX5_setIn_1 : decode cX5_setIn 1 = .ok (.getfield 33, 3) := by decide +kernel
theorem dX5_setIn_4 : decode cX5_setIn 4 = .ok (.bipush 12, 2) := by decide +kernel
theorem dX5_setIn_6 : decode cX5_setIn 6 = .ok (.if_icmp .lt 6, 3) := by decide +kernel
theorem dX5_setIn_9 : decode cX5_setIn 9 = .ok (.ldc 37, 2) := by decide +kernel
theorem dX5_setIn_11 : decode cX5_setIn 11 = .ok (.ireturn, 1) := by decide +kernel
theorem dX5_setIn_12 : decode cX5_setIn 12 = .ok (.aload_n 0, 1) := by decide +kernel
theorem dX5_setIn_13 : decode cX5_setIn 13 = .ok (.getfield 33, 3) := by decide +kernel
theorem dX5_setIn_16 : decode cX5_setIn 16 = .ok (.istore_n 3, 1) := by decide +kernel
theorem dX5_setIn_17 : decode cX5_setIn 17 = .ok (.aload_n 0, 1) := by decide +kernel
theorem dX5_setIn_18 : decode cX5_setIn 18 = .ok (.getfield 9, 3) := by decide +kernel
theorem dX5_setIn_21 : decode cX5_setIn 21 = .ok (.iload_n 3, 1) := by decide +kernel
theorem dX5_setIn_22 : decode cX5_setIn 22 = .ok (.iload_n 1, 1) := by decide +kernel
theorem dX5_setIn_23 : decode cX5_setIn 23 = .ok (.iastore, 1) := by decide +kernel
theorem dX5_setIn_24 : decode cX5_setIn 24 = .ok (.aload_n 0, 1) := by decide +kernel
theorem dX5_setIn_25 : decode cX5_setIn 25 = .ok (.getfield 15, 3) := by decide +kernel
theorem dX5_setIn_28 : decode cX5_setIn 28 = .ok (.iload_n 3, 1) := by decide +kernel
theorem dX5_setIn_29 : decode cX5_setIn 29 = .ok (.iload_n 2, 1) := by decide +kernel
theorem dX5_setIn_30 : decode cX5_setIn 30 = .ok (.iastore, 1) := by decide +kernel
theorem dX5_setIn_31 : decode cX5_setIn 31 = .ok (.aload_n 0, 1) := by decide +kernel
theorem dX5_setIn_32 : decode cX5_setIn 32 = .ok (.getfield 18, 3) := by decide +kernel
theorem dX5_setIn_35 : decode cX5_setIn 35 = .ok (.iload_n 3, 1) := by decide +kernel
theorem dX5_setIn_36 : decode cX5_setIn 36 = .ok (.iload_n 1, 1) := by decide +kernel
theorem dX5_setIn_37 : decode cX5_setIn 37 = .ok (.iastore, 1) := by decide +kernel
theorem dX5_setIn_38 : decode cX5_setIn 38 = .ok (.aload_n 0, 1) := by decide +kernel
theorem dX5_setIn_39 : decode cX5_setIn 39 = .ok (.getfield 21, 3) := by decide +kernel
theorem dX5_setIn_42 : decode cX5_setIn 42 = .ok (.iload_n 3, 1) := by decide +kernel
theorem dX5_setIn_43 : decode cX5_setIn 43 = .ok (.iconst 0, 1) := by decide +kernel
theorem dX5_setIn_44 : decode cX5_setIn 44 = .ok (.iastore, 1) := by decide +kernel
theorem dX5_setIn_45 : decode cX5_setIn 45 = .ok (.aload_n 0, 1) := by decide +kernel
theorem dX5_setIn_46 : decode cX5_setIn 46 = .ok (.getfield 24, 3) := by decide +kernel
theorem dX5_setIn_49 : decode cX5_setIn 49 = .ok (.iload_n 3, 1) := by decide +kernel
theorem dX5_setIn_50 : decode cX5_setIn 50 = .ok (.iconst 0, 1) := by decide +kernel
theorem dX5_setIn_51 : decode cX5_setIn 51 = .ok (.iastore, 1) := by decide +kernel
theorem dX5_setIn_52 : decode cX5_setIn 52 = .ok (.aload_n 0, 1) := by decide +kernel
theorem dX5_setIn_53 : decode cX5_setIn 53 = .ok (.getfield 27, 3) := by decide +kernel
theorem dX5_setIn_56 : decode cX5_setIn 56 = .ok (.iload_n 3, 1) := by decide +kernel
theorem dX5_setIn_57 : decode cX5_setIn 57 = .ok (.iconst 0, 1) := by decide +kernel
theorem dX5_setIn_58 : decode cX5_setIn 58 = .ok (.iastore, 1) := by decide +kernel
theorem dX5_setIn_59 : decode cX5_setIn 59 = .ok (.aload_n 0, 1) := by decide +kernel
theorem dX5_setIn_60 : decode cX5_setIn 60 = .ok (.getfield 30, 3) := by decide +kernel
theorem dX5_setIn_63 : decode cX5_setIn 63 = .ok (.iload_n 3, 1) := by decide +kernel
theorem dX5_setIn_64 : decode cX5_setIn 64 = .ok (.iconst 0, 1) := by decide +kernel
theorem dX5_setIn_65 : decode cX5_setIn 65 = .ok (.iastore, 1) := by decide +kernel
theorem dX5_setIn_66 : decode cX5_setIn 66 = .ok (.aload_n 0, 1) := by decide +kernel
theorem dX5_setIn_67 : decode cX5_setIn 67 = .ok (.dup, 1) := by decide +kernel
theorem dX5_setIn_68 : decode cX5_setIn 68 = .ok (.getfield 33, 3) := by decide +kernel
theorem dX5_setIn_71 : decode cX5_setIn 71 = .ok (.iconst 1, 1) := by decide +kernel
theorem dX5_setIn_72 : decode cX5_setIn 72 = .ok (.iadd, 1) := by decide +kernel
theorem dX5_setIn_73 : decode cX5_setIn 73 = .ok (.putfield 33, 3) := by decide +kernel
theorem dX5_setIn_76 : decode cX5_setIn 76 = .ok (.iload_n 3, 1) := by decide +kernel
theorem dX5_setIn_77 : decode cX5_setIn 77 = .ok (.ireturn, 1) := by decide +kernel
theorem dX5_lyingIn_0 : decode cX5_lyingIn 0 = .ok (.iconst 0, 1) := by decide +kernel
theorem dX5_lyingIn_1 : decode cX5_lyingIn 1 = .ok (.istore_n 2, 1) := by decide +kernel
theorem dX5_lyingIn_2 : decode cX5_lyingIn 2 = .ok (.iconst 0, 1) := by decide +kernel
theorem dX5_lyingIn_3 : decode cX5_lyingIn 3 = .ok (.istore_n 3, 1) := by decide +kernel
theorem dX5_lyingIn_4 : decode cX5_lyingIn 4 = .ok (.iload_n 3, 1) := by decide +kernel
theorem dX5_lyingIn_5 : decode cX5_lyingIn 5 = .ok (.aload_n 0, 1) := by decide +kernel
theorem dX5_lyingIn_6 : decode cX5_lyingIn 6 = .ok (.getfield 33, 3) := by decide +kernel
theorem dX5_lyingIn_9 : decode cX5_lyingIn 9 = .ok (.if_icmp .ge 25, 3) := by decide +kernel
theorem dX5_lyingIn_12 : decode cX5_lyingIn 12 = .ok (.aload_n 0, 1) := by decide +kernel
theorem dX5_lyingIn_13 : decode cX5_lyingIn 13 = .ok (.getfield 9, 3) := by decide +kernel
theorem dX5_lyingIn_16 : decode cX5_lyingIn 16 = .ok (.iload_n 3, 1) := by decide +kernel
theorem dX5_lyingIn_17 : decode cX5_lyingIn 17 = .ok (.iaload, 1) := by decide +kernel
theorem dX5_lyingIn_18 : decode cX5_lyingIn 18 = .ok (.iload_n 1, 1) := by decide +kernel
theorem dX5_lyingIn_19 : decode cX5_lyingIn 19 = .ok (.if_icmp .ne 9, 3) := by decide +kernel
theorem dX5_lyingIn_22 : decode cX5_lyingIn 22 = .ok (.iload_n 2, 1) := by decide +kernel
theorem dX5_lyingIn_23 : decode cX5_lyingIn 23 = .ok (.iconst 1, 1) := by decide +kernel
theorem dX5_lyingIn_24 : decode cX5_lyingIn 24 = .ok (.iload_n 3, 1) := by decide +kernel
theorem dX5_lyingIn_25 : decode cX5_lyingIn 25 = .ok (.ishl, 1) := by decide +kernel
theorem dX5_lyingIn_26 : decode cX5_lyingIn 26 = .ok (.ior, 1) := by decide +kernel
theorem dX5_lyingIn_27 : decode cX5_lyingIn 27 = .ok (.istore_n 2, 1) := by decide +kernel
theorem dX5_lyingIn_28 : decode cX5_lyingIn 28 = .ok (.iinc 3 1, 3) := by decide +kernel
theorem dX5_lyingIn_31 : decode cX5_lyingIn 31 = .ok (.goto (-27), 3) := by decide +kernel
theorem dX5_lyingIn_34 : decode cX5_lyingIn 34 = .ok (.iload_n 2, 1) := by decide +kernel
theorem dX5_lyingIn_35 : decode cX5_lyingIn 35 = .ok (.ireturn, 1) := by decide +kernel
theorem dX5_move_0 : decode cX5_move 0 = .ok (.aload_n 0, 1) := by decide +kernel
theorem dX5_move_1 : decode cX5_move 1 = .ok (.getfield 9, 3) := by decide +kernel
theorem dX5_move_4 : decode cX5_move 4 = .ok (.iload_n 1, 1) := by decide +kernel
theorem dX5_move_5 : decode cX5_move 5 = .ok (.dup2, 1) := by decide +kernel
theorem dX5_move_6 : decode cX5_move 6 = .ok (.iaload, 1) := by decide +kernel
theorem dX5_move_7 : decode cX5_move 7 = .ok (.iload_n 2, 1) := by decide +kernel
theorem dX5_move_8 : decode cX5_move 8 = .ok (.iadd, 1) := by decide +kernel
theorem dX5_move_9 : decode cX5_move 9 = .ok (.iastore, 1) := by decide +kernel
theorem dX5_move_10 : decode cX5_move 10 = .ok (.aload_n 0, 1) := by decide +kernel
theorem dX5_move_11 : decode cX5_move 11 = .ok (.getfield 21, 3) := by decide +kernel
theorem dX5_move_14 : decode cX5_move 14 = .ok (.iload_n 1, 1) := by decide +kernel
theorem dX5_move_15 : decode cX5_move 15 = .ok (.dup2, 1) := by decide +kernel
theorem dX5_move_16 : decode cX5_move 16 = .ok (.iaload, 1) := by decide +kernel
theorem dX5_move_17 : decode cX5_move 17 = .ok (.iload_n 2, 1) := by decide +kernel
theorem dX5_move_18 : decode cX5_move 18 = .ok (.iload_n 3, 1) := by decide +kernel
theorem dX5_move_19 : decode cX5_move 19 = .ok (.imul, 1) := by decide +kernel
theorem dX5_move_20 : decode cX5_move 20 = .ok (.iadd, 1) := by decide +kernel
theorem dX5_move_21 : decode cX5_move 21 = .ok (.iastore, 1) := by decide +kernel
theorem dX5_move_22 : decode cX5_move 22 = .ok (.aload_n 0, 1) := by decide +kernel
theorem dX5_move_23 : decode cX5_move 23 = .ok (.getfield 30, 3) := by decide +kernel
theorem dX5_move_26 : decode cX5_move 26 = .ok (.iload_n 1, 1) := by decide +kernel
theorem dX5_move_27 : decode cX5_move 27 = .ok (.iaload, 1) := by decide +kernel
theorem dX5_move_28 : decode cX5_move 28 = .ok (.iload_n 2, 1) := by decide +kernel
theorem dX5_move_29 : decode cX5_move 29 = .ok (.ineg, 1) := by decide +kernel
theorem dX5_move_30 : decode cX5_move 30 = .ok (.if_icmp .ne 13, 3) := by decide +kernel
theorem dX5_move_33 : decode cX5_move 33 = .ok (.aload_n 0, 1) := by decide +kernel
theorem dX5_move_34 : decode cX5_move 34 = .ok (.getfield 24, 3) := by decide +kernel
theorem dX5_move_37 : decode cX5_move 37 = .ok (.iload_n 1, 1) := by decide +kernel
theorem dX5_move_38 : decode cX5_move 38 = .ok (.dup2, 1) := by decide +kernel
theorem dX5_move_39 : decode cX5_move 39 = .ok (.iaload, 1) := by decide +kernel
theorem dX5_move_40 : decode cX5_move 40 = .ok (.iconst 1, 1) := by decide +kernel
theorem dX5_move_41 : decode cX5_move 41 = .ok (.iadd, 1) := by decide +kernel
theorem dX5_move_42 : decode cX5_move 42 = .ok (.iastore, 1) := by decide +kernel
theorem dX5_move_43 : decode cX5_move 43 = .ok (.aload_n 0, 1) := by decide +kernel
theorem dX5_move_44 : decode cX5_move 44 = .ok (.getfield 30, 3) := by decide +kernel
theorem dX5_move_47 : decode cX5_move 47 = .ok (.iload_n 1, 1) := by decide +kernel
theorem dX5_move_48 : decode cX5_move 48 = .ok (.iload_n 2, 1) := by decide +kernel
theorem dX5_move_49 : decode cX5_move 49 = .ok (.iastore, 1) := by decide +kernel
theorem dX5_move_50 : decode cX5_move 50 = .ok (.aload_n 0, 1) := by decide +kernel
theorem dX5_move_51 : decode cX5_move 51 = .ok (.getfield 9, 3) := by decide +kernel
theorem dX5_move_54 : decode cX5_move 54 = .ok (.iload_n 1, 1) := by decide +kernel
theorem dX5_move_55 : decode cX5_move 55 = .ok (.iaload, 1) := by decide +kernel
theorem dX5_move_56 : decode cX5_move 56 = .ok (.aload_n 0, 1) := by decide +kernel
theorem dX5_move_57 : decode cX5_move 57 = .ok (.getfield 18, 3) := by decide +kernel
theorem dX5_move_60 : decode cX5_move 60 = .ok (.iload_n 1, 1) := by decide +kernel
theorem dX5_move_61 : decode cX5_move 61 = .ok (.iaload, 1) := by decide +kernel
theorem dX5_move_62 : decode cX5_move 62 = .ok (.if_icmp .ne 13, 3) := by decide +kernel
theorem dX5_move_65 : decode cX5_move 65 = .ok (.aload_n 0, 1) := by decide +kernel
theorem dX5_move_66 : decode cX5_move 66 = .ok (.getfield 27, 3) := by decide +kernel
theorem dX5_move_69 : decode cX5_move 69 = .ok (.iload_n 1, 1) := by decide +kernel
theorem dX5_move_70 : decode cX5_move 70 = .ok (.dup2, 1) := by decide +kernel
theorem dX5_move_71 : decode cX5_move 71 = .ok (.iaload, 1) := by decide +kernel
theorem dX5_move_72 : decode cX5_move 72 = .ok (.iconst 1, 1) := by decide +kernel
theorem dX5_move_73 : decode cX5_move 73 = .ok (.iadd, 1) := by decide +kernel
theorem dX5_move_74 : decode cX5_move 74 = .ok (.iastore, 1) := by decide +kernel
theorem dX5_move_75 : decode cX5_move 75 = .ok (.return_, 1) := by decide +kernel
theorem dX5_copyAll_0 : decode cX5_copyAll 0 = .ok (.aload_n 0, 1) := by decide +kernel
theorem dX5_copyAll_1 : decode cX5_copyAll 1 = .ok (.aload_n 1, 1) := by decide +kernel
theorem dX5_copyAll_2 : decode cX5_copyAll 2 = .ok (.getfield 33, 3) := by decide +kernel
theorem dX5_copyAll_5 : decode cX5_copyAll 5 = .ok (.putfield 33, 3) := by decide +kernel
theorem dX5_copyAll_8 : decode cX5_copyAll 8 = .ok (.aload_n 1, 1) := by decide +kernel
theorem dX5_copyAll_9 : decode cX5_copyAll 9 = .ok (.getfield 9, 3) := by decide +kernel
theorem dX5_copyAll_12 : decode cX5_copyAll 12 = .ok (.aload_n 0, 1) := by decide +kernel
theorem dX5_copyAll_13 : decode cX5_copyAll 13 = .ok (.getfield 9, 3) := by decide +kernel
theorem dX5_copyAll_16 : decode cX5_copyAll 16 = .ok (.invokestatic 38, 3) := by decide +kernel
theorem dX5_copyAll_19 : decode cX5_copyAll 19 = .ok (.aload_n 1, 1) := by decide +kernel
theorem dX5_copyAll_20 : decode cX5_copyAll 20 = .ok (.getfield 15, 3) := by decide +kernel
theorem dX5_copyAll_23 : decode cX5_copyAll 23 = .ok (.aload_n 0, 1) := by decide +kernel
theorem dX5_copyAll_24 : decode cX5_copyAll 24 = .ok (.getfield 15, 3) := by decide +kernel
theorem dX5_copyAll_27 : decode cX5_copyAll 27 = .ok (.invokestatic 38, 3) := by decide +kernel
theorem dX5_copyAll_30 : decode cX5_copyAll 30 = .ok (.aload_n 1, 1) := by decide +kernel
theorem dX5_copyAll_31 : decode cX5_copyAll 31 = .ok (.getfield 18, 3) := by decide +kernel
theorem dX5_copyAll_34 : decode cX5_copyAll 34 = .ok (.aload_n 0, 1) := by decide +kernel
theorem dX5_copyAll_35 : decode cX5_copyAll 35 = .ok (.getfield 18, 3) := by decide +kernel
theorem dX5_copyAll_38 : decode cX5_copyAll 38 = .ok (.invokestatic 38, 3) := by decide +kernel
theorem dX5_copyAll_41 : decode cX5_copyAll 41 = .ok (.aload_n 1, 1) := by decide +kernel
theorem dX5_copyAll_42 : decode cX5_copyAll 42 = .ok (.getfield 21, 3) := by decide +kernel
theorem dX5_copyAll_45 : decode cX5_copyAll 45 = .ok (.aload_n 0, 1) := by decide +kernel
theorem dX5_copyAll_46 : decode cX5_copyAll 46 = .ok (.getfield 21, 3) := by decide +kernel
theorem dX5_copyAll_49 : decode cX5_copyAll 49 = .ok (.invokestatic 38, 3) := by decide +kernel
theorem dX5_copyAll_52 : decode cX5_copyAll 52 = .ok (.aload_n 1, 1) := by decide +kernel
theorem dX5_copyAll_53 : decode cX5_copyAll 53 = .ok (.getfield 24, 3) := by decide +kernel
theorem dX5_copyAll_56 : decode cX5_copyAll 56 = .ok (.aload_n 0, 1) := by decide +kernel
theorem dX5_copyAll_57 : decode cX5_copyAll 57 = .ok (.getfield 24, 3) := by decide +kernel
theorem dX5_copyAll_60 : decode cX5_copyAll 60 = .ok (.invokestatic 38, 3) := by decide +kernel
theorem dX5_copyAll_63 : decode cX5_copyAll 63 = .ok (.aload_n 1, 1) := by decide +kernel
theorem dX5_copyAll_64 : decode cX5_copyAll 64 = .ok (.getfield 27, 3) := by decide +kernel
theorem dX5_copyAll_67 : decode cX5_copyAll 67 = .ok (.aload_n 0, 1) := by decide +kernel
theorem dX5_copyAll_68 : decode cX5_copyAll 68 = .ok (.getfield 27, 3) := by decide +kernel
theorem dX5_copyAll_71 : decode cX5_copyAll 71 = .ok (.invokestatic 38, 3) := by decide +kernel
theorem dX5_copyAll_74 : decode cX5_copyAll 74 = .ok (.aload_n 1, 1) := by decide +kernel
theorem dX5_copyAll_75 : decode cX5_copyAll 75 = .ok (.getfield 30, 3) := by decide +kernel
theorem dX5_copyAll_78 : decode cX5_copyAll 78 = .ok (.aload_n 0, 1) := by decide +kernel
theorem dX5_copyAll_79 : decode cX5_copyAll 79 = .ok (.getfield 30, 3) := by decide +kernel
theorem dX5_copyAll_82 : decode cX5_copyAll 82 = .ok (.invokestatic 38, 3) := by decide +kernel
theorem dX5_copyAll_85 : decode cX5_copyAll 85 = .ok (.return_, 1) := by decide +kernel
