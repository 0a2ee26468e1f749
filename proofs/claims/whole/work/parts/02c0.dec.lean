theorem dX3_init_0 : decode cX3_init 0 = .ok (.aload_n 0, 1) := by decide +kernel
theorem dX3_init_1 : decode cX3_init 1 = .ok (.invokespecial 3, 3) := by decide +kernel
theorem dX3_init_4 : decode cX3_init 4 = .ok (.aload_n 0, 1) := by decide +kernel
theorem dX3_init_5 : decode cX3_init 5 = .ok (.bipush 10, 2) := by decide +kernel
theorem dX3_init_7 : decode cX3_init 7 = .ok (.newarray .int, 2) := by decide +kernel
theorem dX3_init_9 : decode cX3_init 9 = .ok (.putfield 9, 3) := by decide +kernel
theorem dX3_init_12 : decode cX3_init 12 = .ok (.aload_n 0, 1) := by decide +kernel
theorem dX3_init_13 : decode cX3_init 13 = .ok (.bipush 10, 2) := by decide +kernel
theorem dX3_init_15 : decode cX3_init 15 = .ok (.newarray .int, 2) := by decide +kernel
theorem dX3_init_17 : decode cX3_init 17 = .ok (.putfield 15, 3) := by decide +kernel
theorem dX3_init_20 : decode cX3_init 20 = .ok (.aload_n 0, 1) := by decide +kernel
theorem dX3_init_21 : decode cX3_init 21 = .ok (.bipush 9, 2) := by decide +kernel
theorem dX3_init_23 : decode cX3_init 23 = .ok (.newarray .int, 2) := by decide +kernel
theorem dX3_init_25 : decode cX3_init 25 = .ok (.putfield 18, 3) := by decide +kernel
theorem dX3_init_28 : decode cX3_init 28 = .ok (.aload_n 0, 1) := by decide +kernel
theorem dX3_init_29 : decode cX3_init 29 = .ok (.bipush 9, 2) := by decide +kernel
theorem dX3_init_31 : decode cX3_init 31 = .ok (.newarray .int, 2) := by decide +kernel
theorem dX3_init_33 : decode cX3_init 33 = .ok (.putfield 21, 3) := by decide +kernel
theorem dX3_init_36 : decode cX3_init 36 = .ok (.aload_n 0, 1) := by decide +kernel
theorem dX3_init_37 : decode cX3_init 37 = .ok (.bipush 9, 2) := by decide +kernel
theorem dX3_init_39 : decode cX3_init 39 = .ok (.newarray .int, 2) := by decide +kernel
theorem dX3_init_41 : decode cX3_init 41 = .ok (.putfield 24, 3) := by decide +kernel
theorem dX3_init_44 : decode cX3_init 44 = .ok (.aload_n 0, 1) := by decide +kernel
theorem dX3_init_45 : decode cX3_init 45 = .ok (.bipush 9, 2) := by decide +kernel
theorem dX3_init_47 : decode cX3_init 47 = .ok (.newarray .int, 2) := by decide +kernel
theorem dX3_init_49 : decode cX3_init 49 = .ok (.putfield 27, 3) := by decide +kernel
theorem dX3_init_52 : decode cX3_init 52 = .ok (.aload_n 0, 1) := by decide +kernel
theorem dX3_init_53 : decode cX3_init 53 = .ok (.new 30, 3) := by decide +kernel
theorem dX3_init_56 : decode cX3_init 56 = .ok (.dup, 1) := by decide +kernel
theorem dX3_init_57 : decode cX3_init 57 = .ok (.invokespecial 32, 3) := by decide +kernel
theorem dX3_init_60 : decode cX3_init 60 = .ok (.putfield 33, 3) := by decide +kernel
theorem dX3_init_63 : decode cX3_init 63 = .ok (.return_, 1) := by decide +kernel
theorem dX3_begin_0 : decode cX3_begin 0 = .ok (.aload_n 0, 1) := by decide +kernel
theorem dX3_begin_1 : decode cX3_begin 1 = .ok (.iconst 0, 1) := by decide +kernel
theorem dX3_begin_2 : decode cX3_begin 2 = .ok (.putfield 37, 3) := by decide +kernel
theorem dX3_begin_5 : decode cX3_begin 5 = .ok (.aload_n 0, 1) := by decide +kernel
theorem dX3_begin_6 : decode cX3_begin 6 = .ok (.getfield 33, 3) := by decide +kernel
theorem dX3_begin_9 : decode cX3_begin 9 = .ok (.iconst 0, 1) := by decide +kernel
theorem dX3_begin_10 : decode cX3_begin 10 = .ok (.putfield 41, 3) := by decide +kernel
theorem dX3_begin_13 : decode cX3_begin 13 = .ok (.aload_n 1, 1) := by decide +kernel
theorem dX3_begin_14 : decode cX3_begin 14 = .ok (.getfield 44, 3) := by decide +kernel
theorem dX3_begin_17 : decode cX3_begin 17 = .ok (.aload_n 0, 1) := by decide +kernel
theorem dX3_begin_18 : decode cX3_begin 18 = .ok (.getfield 9, 3) := by decide +kernel
theorem dX3_begin_21 : decode cX3_begin 21 = .ok (.invokestatic 49, 3) := by decide +kernel
theorem dX3_begin_24 : decode cX3_begin 24 = .ok (.aload_n 1, 1) := by decide +kernel
theorem dX3_begin_25 : decode cX3_begin 25 = .ok (.getfield 53, 3) := by decide +kernel
theorem dX3_begin_28 : decode cX3_begin 28 = .ok (.aload_n 0, 1) := by decide +kernel
theorem dX3_begin_29 : decode cX3_begin 29 = .ok (.getfield 18, 3) := by decide +kernel
theorem dX3_begin_32 : decode cX3_begin 32 = .ok (.invokestatic 49, 3) := by decide +kernel
theorem dX3_begin_35 : decode cX3_begin 35 = .ok (.iconst 0, 1) := by decide +kernel
theorem dX3_begin_36 : decode cX3_begin 36 = .ok (.istore_n 2, 1) := by decide +kernel
theorem dX3_begin_37 : decode cX3_begin 37 = .ok (.iload_n 2, 1) := by decide +kernel
theorem dX3_begin_38 : decode cX3_begin 38 = .ok (.bipush 9, 2) := by decide +kernel
theorem dX3_begin_40 : decode cX3_begin 40 = .ok (.if_icmp .ge 30, 3) := by decide +kernel
theorem dX3_begin_43 : decode cX3_begin 43 = .ok (.aload_n 0, 1) := by decide +kernel
theorem dX3_begin_44 : decode cX3_begin 44 = .ok (.getfield 21, 3) := by decide +kernel
theorem dX3_begin_47 : decode cX3_begin 47 = .ok (.iload_n 2, 1) := by decide +kernel
theorem dX3_begin_48 : decode cX3_begin 48 = .ok (.iconst 0, 1) := by decide +kernel
theorem dX3_begin_49 : decode cX3_begin 49 = .ok (.iastore, 1) := by decide +kernel
theorem dX3_begin_50 : decode cX3_begin 50 = .ok (.aload_n 0, 1) := by decide +kernel
theorem dX3_begin_51 : decode cX3_begin 51 = .ok (.getfield 24, 3) := by decide +kernel
theorem dX3_begin_54 : decode cX3_begin 54 = .ok (.iload_n 2, 1) := by decide +kernel
theorem dX3_begin_55 : decode cX3_begin 55 = .ok (.iconst 0, 1) := by decide +kernel
theorem dX3_begin_56 : decode cX3_begin 56 = .ok (.iastore, 1) := by decide +kernel
theorem dX3_begin_57 : decode cX3_begin 57 = .ok (.aload_n 0, 1) := by decide +kernel
theorem dX3_begin_58 : decode cX3_begin 58 = .ok (.getfield 27, 3) := by decide +kernel
theorem dX3_begin_61 : decode cX3_begin 61 = .ok (.iload_n 2, 1) := by decide +kernel
theorem dX3_begin_62 : decode cX3_begin 62 = .ok (.iconst 0, 1) := by decide +kernel
theorem dX3_begin_63 : decode cX3_begin 63 = .ok (.iastore, 1) := by decide +kernel
theorem dX3_begin_64 : decode cX3_begin 64 = .ok (.iinc 2 1, 3) := by decide +kernel
theorem dX3_begin_67 : decode cX3_begin 67 = .ok (.goto (-30), 3) := by decide +kernel
theorem dX3_begin_70 : decode cX3_begin 70 = .ok (.return_, 1) := by decide +kernel
theorem dX3_becomeAs_0 : decode cX3_becomeAs 0 = .ok (.aload_n 0, 1) := by decide +kernel
theorem dX3_becomeAs_1 : decode cX3_becomeAs 1 = .ok (.aload_n 1, 1) := by decide +kernel
theorem dX3_becomeAs_2 : decode cX3_becomeAs 2 = .ok (.getfield 37, 3) := by decide +kernel
theorem dX3_becomeAs_5 : decode cX3_becomeAs 5 = .ok (.putfield 37, 3) := by decide +kernel
theorem dX3_becomeAs_8 : decode cX3_becomeAs 8 = .ok (.aload_n 0, 1) := by decide +kernel
theorem dX3_becomeAs_9 : decode cX3_becomeAs 9 = .ok (.aload_n 1, 1) := by decide +kernel
theorem dX3_becomeAs_10 : decode cX3_becomeAs 10 = .ok (.getfield 56, 3) := by decide +kernel
theorem dX3_becomeAs_13 : decode cX3_becomeAs 13 = .ok (.putfield 56, 3) := by decide +kernel
theorem dX3_becomeAs_16 : decode cX3_becomeAs 16 = .ok (.aload_n 0, 1) := by decide +kernel
theorem dX3_becomeAs_17 : decode cX3_becomeAs 17 = .ok (.aload_n 1, 1) := by decide +kernel
theorem dX3_becomeAs_18 : decode cX3_becomeAs 18 = .ok (.getfield 59, 3) := by decide +kernel
theorem dX3_becomeAs_21 : decode cX3_becomeAs 21 = .ok (.putfield 59, 3) := by decide +kernel
theorem dX3_becomeAs_24 : decode cX3_becomeAs 24 = .ok (.aload_n 1, 1) := by decide +kernel
theorem dX3_becomeAs_25 : decode cX3_becomeAs 25 = .ok (.getfield 9, 3) := by decide +kernel
theorem dX3_becomeAs_28 : decode cX3_becomeAs 28 = .ok (.aload_n 0, 1) := by decide +kernel
theorem dX3_becomeAs_29 : decode cX3_becomeAs 29 = .ok (.getfield 9, 3) := by decide +kernel
theorem dX3_becomeAs_32 : decode cX3_becomeAs 32 = .ok (.invokestatic 49, 3) := by decide +kernel
theorem dX3_becomeAs_35 : decode cX3_becomeAs 35 = .ok (.aload_n 1, 1) := by decide +kernel
theorem dX3_becomeAs_36 : decode cX3_becomeAs 36 = .ok (.getfield 18, 3) := by decide +kernel
theorem dX3_becomeAs_39 : decode cX3_becomeAs 39 = .ok (.aload_n 0, 1) := by decide +kernel
theorem dX3_becomeAs_40 : decode cX3_becomeAs 40 = .ok (.getfield 18, 3) := by decide +kernel
theorem dX3_becomeAs_43 : decode cX3_becomeAs 43 = .ok (.invokestatic 49, 3) := by decide +kernel
theorem dX3_becomeAs_46 : decode cX3_becomeAs 46 = .ok (.aload_n 1, 1) := by decide +kernel
theorem dX3_becomeAs_47 : decode cX3_becomeAs 47 = .ok (.getfield 21, 3) := by decide +kernel
theorem dX3_becomeAs_50 : decode cX3_becomeAs 50 = .ok (.aload_n 0, 1) := by decide +kernel
theorem dX3_becomeAs_51 : decode cX3_becomeAs 51 = .ok (.getfield 21, 3) := by decide +kernel
theorem dX3_becomeAs_54 : decode cX3_becomeAs 54 = .ok (.invokestatic 49, 3) := by decide +kernel
theorem dX3_becomeAs_57 : decode cX3_becomeAs 57 = .ok (.aload_n 1, 1) := by decide +kernel
theorem dX3_becomeAs_58 : decode cX3_becomeAs 58 = .ok (.getfield 24, 3) := by decide +kernel
theorem dX3_becomeAs_61 : decode cX3_becomeAs 61 = .ok (.aload_n 0, 1) := by decide +kernel
theorem dX3_becomeAs_62 : decode cX3_becomeAs 62 = .ok (.getfield 24, 3) := by decide +kernel
theorem dX3_becomeAs_65 : decode cX3_becomeAs 65 = .ok (.invokestatic 49, 3) := by decide +kernel
theorem dX3_becomeAs_68 : decode cX3_becomeAs 68 = .ok (.aload_n 1, 1) := by decide +kernel
theorem dX3_becomeAs_69 : decode cX3_becomeAs 69 = .ok (.getfield 27, 3) := by decide +kernel
theorem dX3_becomeAs_72 : decode cX3_becomeAs 72 = .ok (.aload_n 0, 1) := by decide +kernel
theorem dX3_becomeAs_73 : decode cX3_becomeAs 73 = .ok (.getfield 27, 3) := by decide +kernel
theorem dX3_becomeAs_76 : decode cX3_becomeAs 76 = .ok (.invokestatic 49, 3) := by decide +kernel
theorem dX3_becomeAs_79 : decode cX3_becomeAs 79 = .ok (.aload_n 0, 1) := by decide +kernel
theorem dX3_becomeAs_80 : decode cX3_becomeAs 80 = .ok (.getfield 33, 3) := by decide +kernel
theorem dX3_becomeAs_83 : decode cX3_becomeAs 83 = .ok (.aload_n 1, 1) := by decide +kernel
theorem dX3_becomeAs_84 : decode cX3_becomeAs 84 = .ok (.getfield 33, 3) := by decide +kernel
theorem dX3_becomeAs_87 : decode cX3_becomeAs 87 = .ok (.invokevirtual 62, 3) := by decide +kernel
theorem dX3_becomeAs_90 : decode cX3_becomeAs 90 = .ok (.return_, 1) := by decide +kernel
theorem dX3_holdGate_0 : decode cX3_holdGate 0 = .ok (.aload_n 0, 1) := by decide +kernel
theorem dX3_holdGate_1 : decode cX3_holdGate 1 = .ok (.dup, 1) := by decide +kernel
theorem dX3_holdGate_2 : decode cX3_holdGate 2 = .ok (.getfield 59, 3) := by decide +kernel
theorem dX3_holdGate_5 : decode cX3_holdGate 5 = .ok (.iconst 1, 1) := by decide +kernel
theorem dX3_holdGate_6 : decode cX3_holdGate 6 = .ok (.iload_n 1, 1) := by decide +kernel
theorem dX3_holdGate_7 : decode cX3_holdGate 7 = .ok (.ishl, 1) := by decide +kernel
theorem dX3_holdGate_8 : decode cX3_holdGate 8 = .ok (.ior, 1) := by decide +kernel
theorem dX3_holdGate_9 : decode cX3_holdGate 9 = .ok (.putfield 59, 3) := by decide +kernel
theorem dX3_holdGate_12 : decode cX3_holdGate 12 = .ok (.aload_n 0, 1) := by decide +kernel
theorem dX3_holdGate_13 : decode cX3_holdGate 13 = .ok (.getfield 18, 3) := by decide +kernel
theorem dX3_holdGate_16 : decode cX3_holdGate 16 = .ok (.iload_n 1, 1) := by decide +kernel
theorem dX3_holdGate_17 : decode cX3_holdGate 17 = .ok (.iload_n 2, 1) := by decide +kernel
theorem dX3_holdGate_18 : decode cX3_holdGate 18 = .ok (.iastore, 1) := by decide +kernel
theorem dX3_holdGate_19 : decode cX3_holdGate 19 = .ok (.return_, 1) := by decide +kernel
theorem dX3_levelOf_0 : decode cX3_levelOf 0 = .ok (.aload_n 1, 1) := by decide +kernel
theorem dX3_levelOf_1 : decode cX3_levelOf 1 = .ok (.getfield 66, 3) := by decide +kernel
theorem dX3_levelOf_4 : decode cX3_levelOf 4 = .ok (.iload_n 2, 1) := by decide +kernel
theorem dX3_levelOf_5 : decode cX3_levelOf 5 = .ok (.iaload, 1) := by decide +kernel
theorem dX3_levelOf_6 : decode cX3_levelOf 6 = .ok (.istore_n 3, 1) := by decide +kernel
theorem dX3_levelOf_7 : decode cX3_levelOf 7 = .ok (.aload_n 1, 1) := by decide +kernel
theorem dX3_levelOf_8 : decode cX3_levelOf 8 = .ok (.iload_n 2, 1) := by decide +kernel
theorem dX3_levelOf_9 : decode cX3_levelOf 9 = .ok (.invokevirtual 69, 3) := by decide +kernel
theorem dX3_levelOf_12 : decode cX3_levelOf 12 = .ok (.ifCond .ne 8, 3) := by decide +kernel
theorem dX3_levelOf_15 : decode cX3_levelOf 15 = .ok (.iload_n 3, 1) := by decide +kernel
theorem dX3_levelOf_16 : decode cX3_levelOf 16 = .ok (.iconst 1, 1) := by decide +kernel
theorem dX3_levelOf_17 : decode cX3_levelOf 17 = .ok (.if_icmp .ge 14, 3) := by decide +kernel
theorem dX3_levelOf_20 : decode cX3_levelOf 20 = .ok (.aload_n 1, 1) := by decide +kernel
theorem dX3_levelOf_21 : decode cX3_levelOf 21 = .ok (.aload_n 0, 1) := by decide +kernel
theorem dX3_levelOf_22 : decode cX3_levelOf 22 = .ok (.getfield 37, 3) := by decide +kernel
theorem dX3_levelOf_25 : decode cX3_levelOf 25 = .ok (.invokevirtual 73, 3) := by decide +kernel
theorem dX3_levelOf_28 : decode cX3_levelOf 28 = .ok (.goto 18, 3) := by decide +kernel
theorem dX3_levelOf_31 : decode cX3_levelOf 31 = .ok (.aload_n 1, 1) := by decide +kernel
theorem dX3_levelOf_32 : decode cX3_levelOf 32 = .ok (.getfield 77, 3) := by decide +kernel
theorem dX3_levelOf_35 : decode cX3_levelOf 35 = .ok (.iload_n 2, 1) := by decide +kernel
theorem dX3_levelOf_36 : decode cX3_levelOf 36 = .ok (.iaload, 1) := by decide +kernel
theorem dX3_levelOf_37 : decode cX3_levelOf 37 = .ok (.aload_n 0, 1) := by decide +kernel
theorem dX3_levelOf_38 : decode cX3_levelOf 38 = .ok (.getfield 9, 3) := by decide +kernel
theorem dX3_levelOf_41 : decode cX3_levelOf 41 = .ok (.iload_n 2, 1) := by decide +kernel
theorem dX3_levelOf_42 : decode cX3_levelOf 42 = .ok (.iaload, 1) := by decide +kernel
theorem dX3_levelOf_43 : decode cX3_levelOf 43 = .ok (.iload_n 3, 1) := by decide +kernel
theorem dX3_levelOf_44 : decode cX3_levelOf 44 = .ok (.idiv, 1) := by decide +kernel
theorem dX3_levelOf_45 : decode cX3_levelOf 45 = .ok (.iadd, 1) := by decide +kernel
theorem dX3_levelOf_46 : decode cX3_levelOf 46 = .ok (.ireturn, 1) := by decide +kernel
theorem dX3_allWater_0 : decode cX3_allWater 0 = .ok (.iconst 0, 1) := by decide +kernel
theorem dX3_allWater_1 : decode cX3_allWater 1 = .ok (.istore_n 2, 1) := by decide +kernel
theorem dX3_allWater_2 : decode cX3_allWater 2 = .ok (.iconst 0, 1) := by decide +kernel
theorem dX3_allWater_3 : decode cX3_allWater 3 = .ok (.istore_n 3, 1) := by decide +kernel
theorem dX3_allWater_4 : decode cX3_allWater 4 = .ok (.iload_n 3, 1) := by decide +kernel
theorem dX3_allWater_5 : decode cX3_allWater 5 = .ok (.aload_n 1, 1) := by decide +kernel
theorem dX3_allWater_6 : decode cX3_allWater 6 = .ok (.getfield 80, 3) := by decide +kernel
theorem dX3_allWater_9 : decode cX3_allWater 9 = .ok (.iconst 1, 1) := by decide +kernel
theorem dX3_allWater_10 : decode cX3_allWater 10 = .ok (.isub, 1) := by decide +kernel
theorem dX3_allWater_11 : decode cX3_allWater 11 = .ok (.if_icmp .ge 18, 3) := by decide +kernel
theorem dX3_allWater_14 : decode cX3_allWater 14 = .ok (.iload_n 2, 1) := by decide +kernel
theorem dX3_allWater_15 : decode cX3_allWater 15 = .ok (.aload_n 0, 1) := by decide +kernel
theorem dX3_allWater_16 : decode cX3_allWater 16 = .ok (.getfield 9, 3) := by decide +kernel
theorem dX3_allWater_19 : decode cX3_allWater 19 = .ok (.iload_n 3, 1) := by decide +kernel
theorem dX3_allWater_20 : decode cX3_allWater 20 = .ok (.iaload, 1) := by decide +kernel
theorem dX3_allWater_21 : decode cX3_allWater 21 = .ok (.iadd, 1) := by decide +kernel
theorem dX3_allWater_22 : decode cX3_allWater 22 = .ok (.istore_n 2, 1) := by decide +kernel
theorem dX3_allWater_23 : decode cX3_allWater 23 = .ok (.iinc 3 1, 3) := by decide +kernel
theorem dX3_allWater_26 : decode cX3_allWater 26 = .ok (.goto (-22), 3) := by decide +kernel
theorem dX3_allWater_29 : decode cX3_allWater 29 = .ok (.iload_n 2, 1) := by decide +kernel
theorem dX3_allWater_30 : decode cX3_allWater 30 = .ok (.ireturn, 1) := by decide +kernel
theorem dX3_passHour_0 : decode cX3_passHour 0 = .ok (.aload_n 0, 1) := by decide +kernel
theorem dX3_passHour_1 : decode cX3_passHour 1 = .ok (.aload_n 2, 1) := by decide +kernel
theorem dX3_passHour_2 : decode cX3_passHour 2 = .ok (.invokevirtual 83, 3) := by decide +kernel
theorem dX3_passHour_5 : decode cX3_passHour 5 = .ok (.iconst 0, 1) := by decide +kernel
theorem dX3_passHour_6 : decode cX3_passHour 6 = .ok (.istore_n 3, 1) := by decide +kernel
theorem dX3_passHour_7 : decode cX3_passHour 7 = .ok (.iload_n 3, 1) := by decide +kernel
theorem dX3_passHour_8 : decode cX3_passHour 8 = .ok (.aload_n 1, 1) := by decide +kernel
theorem dX3_passHour_9 : decode cX3_passHour 9 = .ok (.getfield 80, 3) := by decide +kernel
theorem dX3_passHour_12 : decode cX3_passHour 12 = .ok (.if_icmp .ge 21, 3) := by decide +kernel
theorem dX3_passHour_15 : decode cX3_passHour 15 = .ok (.aload_n 0, 1) := by decide +kernel
theorem dX3_passHour_16 : decode cX3_passHour 16 = .ok (.getfield 15, 3) := by decide +kernel
theorem dX3_passHour_19 : decode cX3_passHour 19 = .ok (.iload_n 3, 1) := by decide +kernel
theorem dX3_passHour_20 : decode cX3_passHour 20 = .ok (.aload_n 0, 1) := by decide +kernel
theorem dX3_passHour_21 : decode cX3_passHour 21 = .ok (.aload_n 1, 1) := by decide +kernel
theorem dX3_passHour_22 : decode cX3_passHour 22 = .ok (.iload_n 3, 1) := by decide +kernel
theorem dX3_passHour_23 : decode cX3_passHour 23 = .ok (.invokevirtual 87, 3) := by decide +kernel
theorem dX3_passHour_26 : decode cX3_passHour 26 = .ok (.iastore, 1) := by decide +kernel
theorem dX3_passHour_27 : decode cX3_passHour 27 = .ok (.iinc 3 1, 3) := by decide +kernel
theorem dX3_passHour_30 : decode cX3_passHour 30 = .ok (.goto (-23), 3) := by decide +kernel
theorem dX3_passHour_33 : decode cX3_passHour 33 = .ok (.iconst 0, 1) := by decide +kernel
theorem dX3_passHour_34 : decode cX3_passHour 34 = .ok (.istore_n 3, 1) := by decide +kernel
theorem dX3_passHour_35 : decode cX3_passHour 35 = .ok (.iload_n 3, 1) := by decide +kernel
theorem dX3_passHour_36 : decode cX3_passHour 36 = .ok (.aload_n 1, 1) := by decide +kernel
theorem dX3_passHour_37 : decode cX3_passHour 37 = .ok (.getfield 80, 3) := by decide +kernel
theorem dX3_passHour_40 : decode cX3_passHour 40 = .ok (.iconst 1, 1) := by decide +kernel
theorem dX3_passHour_41 : decode cX3_passHour 41 = .ok (.isub, 1) := by decide +kernel
theorem dX3_passHour_42 : decode cX3_passHour 42 = .ok (.if_icmp .ge 15, 3) := by decide +kernel
theorem dX3_passHour_45 : decode cX3_passHour 45 = .ok (.aload_n 0, 1) := by decide +kernel
theorem dX3_passHour_46 : decode cX3_passHour 46 = .ok (.aload_n 1, 1) := by decide +kernel
theorem dX3_passHour_47 : decode cX3_passHour 47 = .ok (.iload_n 3, 1) := by decide +kernel
theorem dX3_passHour_48 : decode cX3_passHour 48 = .ok (.invokevirtual 91, 3) := by decide +kernel
theorem dX3_passHour_51 : decode cX3_passHour 51 = .ok (.iinc 3 1, 3) := by decide +kernel
theorem dX3_passHour_54 : decode cX3_passHour 54 = .ok (.goto (-19), 3) := by decide +kernel
theorem dX3_passHour_57 : decode cX3_passHour 57 = .ok (.iconst 0, 1) := by decide +kernel
theorem dX3_passHour_58 : decode cX3_passHour 58 = .ok (.istore_n 3, 1) := by decide +kernel
theorem dX3_passHour_59 : decode cX3_passHour 59 = .ok (.iload_n 3, 1) := by decide +kernel
theorem dX3_passHour_60 : decode cX3_passHour 60 = .ok (.aload_n 0, 1) := by decide +kernel
theorem dX3_passHour_61 : decode cX3_passHour 61 = .ok (.getfield 33, 3) := by decide +kernel
theorem dX3_passHour_64 : decode cX3_passHour 64 = .ok (.getfield 41, 3) := by decide +kernel
theorem dX3_passHour_67 : decode cX3_passHour 67 = .ok (.if_icmp .ge 15, 3) := by decide +kernel
theorem dX3_passHour_70 : decode cX3_passHour 70 = .ok (.aload_n 0, 1) := by decide +kernel
theorem dX3_passHour_71 : decode cX3_passHour 71 = .ok (.aload_n 1, 1) := by decide +kernel
theorem dX3_passHour_72 : decode cX3_passHour 72 = .ok (.iload_n 3, 1) := by decide +kernel
theorem dX3_passHour_73 : decode cX3_passHour 73 = .ok (.invokevirtual 95, 3) := by decide +kernel
theorem dX3_passHour_76 : decode cX3_passHour 76 = .ok (.iinc 3 1, 3) := by decide +kernel
theorem dX3_passHour_79 : decode cX3_passHour 79 = .ok (.goto (-20), 3) := by decide +kernel
theorem dX3_passHour_82 : decode cX3_passHour 82 = .ok (.aload_n 0, 1) := by decide +kernel
theorem dX3_passHour_83 : decode cX3_passHour 83 = .ok (.getfield 9, 3) := by decide +kernel
theorem dX3_passHour_86 : decode cX3_passHour 86 = .ok (.iconst 0, 1) := by decide +kernel
theorem dX3_passHour_87 : decode cX3_passHour 87 = .ok (.iconst 0, 1) := by decide +kernel
theorem dX3_passHour_88 : decode cX3_passHour 88 = .ok (.aload_n 0, 1) := by decide +kernel
theorem dX3_passHour_89 : decode cX3_passHour 89 = .ok (.getfield 9, 3) := by decide +kernel
theorem dX3_passHour_92 : decode cX3_passHour 92 = .ok (.iconst 0, 1) := by decide +kernel
theorem dX3_passHour_93 : decode cX3_passHour 93 = .ok (.iaload, 1) := by decide +kernel
theorem dX3_passHour_94 : decode cX3_passHour 94 = .ok (.aload_n 1, 1) := by decide +kernel
theorem dX3_passHour_95 : decode cX3_passHour 95 = .ok (.aload_n 0, 1) := by decide +kernel
theorem dX3_passHour_96 : decode cX3_passHour 96 = .ok (.getfield 37, 3) := by decide +kernel
theorem dX3_passHour_99 : decode cX3_passHour 99 = .ok (.invokevirtual 98, 3) := by decide +kernel
theorem dX3_passHour_102 : decode cX3_passHour 102 = .ok (.iadd, 1) := by decide +kernel
theorem dX3_passHour_103 : decode cX3_passHour 103 = .ok (.invokestatic 101, 3) := by decide +kernel
theorem dX3_passHour_106 : decode cX3_passHour 106 = .ok (.iastore, 1) := by decide +kernel
theorem dX3_passHour_107 : decode cX3_passHour 107 = .ok (.aload_n 0, 1) := by decide +kernel
theorem dX3_passHour_108 : decode cX3_passHour 108 = .ok (.dup, 1) := by decide +kernel
theorem dX3_passHour_109 : decode cX3_passHour 109 = .ok (.getfield 37, 3) := by decide +kernel
theorem dX3_passHour_112 : decode cX3_passHour 112 = .ok (.iconst 1, 1) := by decide +kernel
theorem dX3_passHour_113 : decode cX3_passHour 113 = .ok (.iadd, 1) := by decide +kernel
theorem dX3_passHour_114 : decode cX3_passHour 114 = .ok (.putfield 37, 3) := by decide +kernel
theorem dX3_passHour_117 : decode cX3_passHour 117 = .ok (.return_, 1) := by decide +kernel
theorem dX3_obey_0 : decode cX3_obey 0 = .ok (.iconst 0, 1) := by decide +kernel
theorem dX3_obey_1 : decode cX3_obey 1 = .ok (.istore_n 2, 1) := by decide +kernel
theorem dX3_obey_2 : decode cX3_obey 2 = .ok (.iload_n 2, 1) := by decide +kernel
theorem dX3_obey_3 : decode cX3_obey 3 = .ok (.aload_n 1, 1) := by decide +kernel
theorem dX3_obey_4 : decode cX3_obey 4 = .ok (.getfield 107, 3) := by decide +kernel
theorem dX3_obey_7 : decode cX3_obey 7 = .ok (.if_icmp .ge 52, 3) := by decide +kernel
theorem dX3_obey_10 : decode cX3_obey 10 = .ok (.aload_n 1, 1) := by decide +kernel
theorem dX3_obey_11 : decode cX3_obey 11 = .ok (.getfield 110, 3) := by decide +kernel
theorem dX3_obey_14 : decode cX3_obey 14 = .ok (.iload_n 2, 1) := by decide +kernel
theorem dX3_obey_15 : decode cX3_obey 15 = .ok (.iaload, 1) := by decide +kernel
theorem dX3_obey_16 : decode cX3_obey 16 = .ok (.istore_n 3, 1) := by decide +kernel
theorem dX3_obey_17 : decode cX3_obey 17 = .ok (.aload_n 1, 1) := by decide +kernel
theorem dX3_obey_18 : decode cX3_obey 18 = .ok (.getfield 113, 3) := by decide +kernel
theorem dX3_obey_21 : decode cX3_obey 21 = .ok (.iload_n 2, 1) := by decide +kernel
theorem dX3_obey_22 : decode cX3_obey 22 = .ok (.iaload, 1) := by decide +kernel
theorem dX3_obey_23 : decode cX3_obey 23 = .ok (.aload_n 0, 1) := by decide +kernel
theorem dX3_obey_24 : decode cX3_obey 24 = .ok (.getfield 37, 3) := by decide +kernel
theorem dX3_obey_27 : decode cX3_obey 27 = .ok (.if_icmp .ne 26, 3) := by decide +kernel
theorem dX3_obey_30 : decode cX3_obey 30 = .ok (.aload_n 0, 1) := by decide +kernel
theorem dX3_obey_31 : decode cX3_obey 31 = .ok (.getfield 59, 3) := by decide +kernel
theorem dX3_obey_34 : decode cX3_obey 34 = .ok (.iload_n 3, 1) := by decide +kernel
theorem dX3_obey_35 : decode cX3_obey 35 = .ok (.ishr, 1) := by decide +kernel
theorem dX3_obey_36 : decode cX3_obey 36 = .ok (.iconst 1, 1) := by decide +kernel
theorem dX3_obey_37 : decode cX3_obey 37 = .ok (.iand, 1) := by decide +kernel
theorem dX3_obey_38 : decode cX3_obey 38 = .ok (.ifCond .ne 15, 3) := by decide +kernel
theorem dX3_obey_41 : decode cX3_obey 41 = .ok (.aload_n 0, 1) := by decide +kernel
theorem dX3_obey_42 : decode cX3_obey 42 = .ok (.getfield 18, 3) := by decide +kernel
theorem dX3_obey_45 : decode cX3_obey 45 = .ok (.iload_n 3, 1) := by decide +kernel
theorem dX3_obey_46 : decode cX3_obey 46 = .ok (.aload_n 1, 1) := by decide +kernel
theorem dX3_obey_47 : decode cX3_obey 47 = .ok (.getfield 115, 3) := by decide +kernel
theorem dX3_obey_50 : decode cX3_obey 50 = .ok (.iload_n 2, 1) := by decide +kernel
theorem dX3_obey_51 : decode cX3_obey 51 = .ok (.iaload, 1) := by decide +kernel
theorem dX3_obey_52 : decode cX3_obey 52 = .ok (.iastore, 1) := by decide +kernel
theorem dX3_obey_53 : decode cX3_obey 53 = .ok (.iinc 2 1, 3) := by decide +kernel
theorem dX3_obey_56 : decode cX3_obey 56 = .ok (.goto (-54), 3) := by decide +kernel
theorem dX3_obey_59 : decode cX3_obey 59 = .ok (.return_, 1) := by decide +kernel
theorem dX3_letFlow_0 : decode cX3_letFlow 0 = .ok (.aload_n 0, 1) := by decide +kernel
theorem dX3_letFlow_1 : decode cX3_letFlow 1 = .ok (.getfield 15, 3) := by decide +kernel
theorem dX3_letFlow_4 : decode cX3_letFlow 4 = .ok (.iload_n 2, 1) := by decide +kernel
theorem dX3_letFlow_5 : decode cX3_letFlow 5 = .ok (.iaload, 1) := by decide +kernel
theorem dX3_letFlow_6 : decode cX3_letFlow 6 = .ok (.aload_n 0, 1) := by decide +kernel
theorem dX3_letFlow_7 : decode cX3_letFlow 7 = .ok (.getfield 15, 3) := by decide +kernel
theorem dX3_letFlow_10 : decode cX3_letFlow 10 = .ok (.iload_n 2, 1) := by decide +kernel
theorem dX3_letFlow_11 : decode cX3_letFlow 11 = .ok (.iconst 1, 1) := by decide +kernel
theorem dX3_letFlow_12 : decode cX3_letFlow 12 = .ok (.iadd, 1) := by decide +kernel
theorem dX3_letFlow_13 : decode cX3_letFlow 13 = .ok (.iaload, 1) := by decide +kernel
theorem dX3_letFlow_14 : decode cX3_letFlow 14 = .ok (.isub, 1) := by decide +kernel
theorem dX3_letFlow_15 : decode cX3_letFlow 15 = .ok (.i2l, 1) := by decide +kernel
theorem dX3_letFlow_16 : decode cX3_letFlow 16 = .ok (.aload_n 0, 1) := by decide +kernel
theorem dX3_letFlow_17 : decode cX3_letFlow 17 = .ok (.getfield 18, 3) := by decide +kernel
theorem dX3_letFlow_20 : decode cX3_letFlow 20 = .ok (.iload_n 2, 1) := by decide +kernel
theorem dX3_letFlow_21 : decode cX3_letFlow 21 = .ok (.iaload, 1) := by decide +kernel
theorem dX3_letFlow_22 : decode cX3_letFlow 22 = .ok (.i2l, 1) := by decide +kernel
theorem dX3_letFlow_23 : decode cX3_letFlow 23 = .ok (.lmul, 1) := by decide +kernel
theorem dX3_letFlow_24 : decode cX3_letFlow 24 = .ok (.lstore_n 3, 1) := by decide +kernel
theorem dX3_letFlow_25 : decode cX3_letFlow 25 = .ok (.aload_n 1, 1) := by decide +kernel
theorem dX3_letFlow_26 : decode cX3_letFlow 26 = .ok (.iload_n 2, 1) := by decide +kernel
theorem dX3_letFlow_27 : decode cX3_letFlow 27 = .ok (.iconst 1, 1) := by decide +kernel
theorem dX3_letFlow_28 : decode cX3_letFlow 28 = .ok (.iadd, 1) := by decide +kernel
theorem dX3_letFlow_29 : decode cX3_letFlow 29 = .ok (.invokevirtual 69, 3) := by decide +kernel
theorem dX3_letFlow_32 : decode cX3_letFlow 32 = .ok (.istore 5, 2) := by decide +kernel
theorem dX3_letFlow_34 : decode cX3_letFlow 34 = .ok (.lload_n 3, 1) := by decide +kernel
theorem dX3_letFlow_35 : decode cX3_letFlow 35 = .ok (.lconst 0, 1) := by decide +kernel
theorem dX3_letFlow_36 : decode cX3_letFlow 36 = .ok (.invokestatic 116, 3) := by decide +kernel
theorem dX3_letFlow_39 : decode cX3_letFlow 39 = .ok (.aload_n 0, 1) := by decide +kernel
theorem dX3_letFlow_40 : decode cX3_letFlow 40 = .ok (.getfield 9, 3) := by decide +kernel
theorem dX3_letFlow_43 : decode cX3_letFlow 43 = .ok (.iload_n 2, 1) := by decide +kernel
theorem dX3_letFlow_44 : decode cX3_letFlow 44 = .ok (.iaload, 1) := by decide +kernel
theorem dX3_letFlow_45 : decode cX3_letFlow 45 = .ok (.i2l, 1) := by decide +kernel
theorem dX3_letFlow_46 : decode cX3_letFlow 46 = .ok (.invokestatic 119, 3) := by decide +kernel
theorem dX3_letFlow_49 : decode cX3_letFlow 49 = .ok (.l2i, 1) := by decide +kernel
theorem dX3_letFlow_50 : decode cX3_letFlow 50 = .ok (.istore 6, 2) := by decide +kernel
theorem dX3_letFlow_52 : decode cX3_letFlow 52 = .ok (.lload_n 3, 1) := by decide +kernel
theorem dX3_letFlow_53 : decode cX3_letFlow 53 = .ok (.lneg, 1) := by decide +kernel
theorem dX3_letFlow_54 : decode cX3_letFlow 54 = .ok (.lconst 0, 1) := by decide +kernel
theorem dX3_letFlow_55 : decode cX3_letFlow 55 = .ok (.invokestatic 116, 3) := by decide +kernel
theorem dX3_letFlow_58 : decode cX3_letFlow 58 = .ok (.lstore 7, 2) := by decide +kernel
theorem dX3_letFlow_60 : decode cX3_letFlow 60 = .ok (.iload 5, 2) := by decide +kernel
theorem dX3_letFlow_62 : decode cX3_letFlow 62 = .ok (.ifCond .eq 8, 3) := by decide +kernel
theorem dX3_letFlow_65 : decode cX3_letFlow 65 = .ok (.lload 7, 2) := by decide +kernel
theorem dX3_letFlow_67 : decode cX3_letFlow 67 = .ok (.goto 17, 3) := by decide +kernel
theorem dX3_letFlow_70 : decode cX3_letFlow 70 = .ok (.lload 7, 2) := by decide +kernel
theorem dX3_letFlow_72 : decode cX3_letFlow 72 = .ok (.aload_n 0, 1) := by decide +kernel
theorem dX3_letFlow_73 : decode cX3_letFlow 73 = .ok (.getfield 9, 3) := by decide +kernel
theorem dX3_letFlow_76 : decode cX3_letFlow 76 = .ok (.iload_n 2, 1) := by decide +kernel
theorem dX3_letFlow_77 : decode cX3_letFlow 77 = .ok (.iconst 1, 1) := by decide +kernel
theorem dX3_letFlow_78 : decode cX3_letFlow 78 = .ok (.iadd, 1) := by decide +kernel
theorem dX3_letFlow_79 : decode cX3_letFlow 79 = .ok (.iaload, 1) := by decide +kernel
theorem dX3_letFlow_80 : decode cX3_letFlow 80 = .ok (.i2l, 1) := by decide +kernel
theorem dX3_letFlow_81 : decode cX3_letFlow 81 = .ok (.invokestatic 119, 3) := by decide +kernel
theorem dX3_letFlow_84 : decode cX3_letFlow 84 = .ok (.l2i, 1) := by decide +kernel
theorem dX3_letFlow_85 : decode cX3_letFlow 85 = .ok (.istore 9, 2) := by decide +kernel
theorem dX3_letFlow_87 : decode cX3_letFlow 87 = .ok (.aload_n 0, 1) := by decide +kernel
theorem dX3_letFlow_88 : decode cX3_letFlow 88 = .ok (.getfield 21, 3) := by decide +kernel
theorem dX3_letFlow_91 : decode cX3_letFlow 91 = .ok (.iload_n 2, 1) := by decide +kernel
theorem dX3_letFlow_92 : decode cX3_letFlow 92 = .ok (.iload 6, 2) := by decide +kernel
theorem dX3_letFlow_94 : decode cX3_letFlow 94 = .ok (.iload 9, 2) := by decide +kernel
theorem dX3_letFlow_96 : decode cX3_letFlow 96 = .ok (.isub, 1) := by decide +kernel
theorem dX3_letFlow_97 : decode cX3_letFlow 97 = .ok (.iastore, 1) := by decide +kernel
theorem dX3_letFlow_98 : decode cX3_letFlow 98 = .ok (.aload_n 0, 1) := by decide +kernel
theorem dX3_letFlow_99 : decode cX3_letFlow 99 = .ok (.getfield 9, 3) := by decide +kernel
theorem dX3_letFlow_102 : decode cX3_letFlow 102 = .ok (.iload_n 2, 1) := by decide +kernel
theorem dX3_letFlow_103 : decode cX3_letFlow 103 = .ok (.dup2, 1) := by decide +kernel
theorem dX3_letFlow_104 : decode cX3_letFlow 104 = .ok (.iaload, 1) := by decide +kernel
theorem dX3_letFlow_105 : decode cX3_letFlow 105 = .ok (.aload_n 0, 1) := by decide +kernel
theorem dX3_letFlow_106 : decode cX3_letFlow 106 = .ok (.getfield 21, 3) := by decide +kernel
theorem dX3_letFlow_109 : decode cX3_letFlow 109 = .ok (.iload_n 2, 1) := by decide +kernel
theorem dX3_letFlow_110 : decode cX3_letFlow 110 = .ok (.iaload, 1) := by decide +kernel
theorem dX3_letFlow_111 : decode cX3_letFlow 111 = .ok (.isub, 1) := by decide +kernel
theorem dX3_letFlow_112 : decode cX3_letFlow 112 = .ok (.iastore, 1) := by decide +kernel
theorem dX3_letFlow_113 : decode cX3_letFlow 113 = .ok (.iload 5, 2) := by decide +kernel
theorem dX3_letFlow_115 : decode cX3_letFlow 115 = .ok (.ifCond .ne 20, 3) := by decide +kernel
theorem dX3_letFlow_118 : decode cX3_letFlow 118 = .ok (.aload_n 0, 1) := by decide +kernel
theorem dX3_letFlow_119 : decode cX3_letFlow 119 = .ok (.getfield 9, 3) := by decide +kernel
theorem dX3_letFlow_122 : decode cX3_letFlow 122 = .ok (.iload_n 2, 1) := by decide +kernel
theorem dX3_letFlow_123 : decode cX3_letFlow 123 = .ok (.iconst 1, 1) := by decide +kernel
theorem dX3_letFlow_124 : decode cX3_letFlow 124 = .ok (.iadd, 1) := by decide +kernel
theorem dX3_letFlow_125 : decode cX3_letFlow 125 = .ok (.dup2, 1) := by decide +kernel
theorem dX3_letFlow_126 : decode cX3_letFlow 126 = .ok (.iaload, 1) := by decide +kernel
theorem dX3_letFlow_127 : decode cX3_letFlow 127 = .ok (.aload_n 0, 1) := by decide +kernel
theorem dX3_letFlow_128 : decode cX3_letFlow 128 = .ok (.getfield 21, 3) := by decide +kernel
theorem dX3_letFlow_131 : decode cX3_letFlow 131 = .ok (.iload_n 2, 1) := by decide +kernel
theorem dX3_letFlow_132 : decode cX3_letFlow 132 = .ok (.iaload, 1) := by decide +kernel
theorem dX3_letFlow_133 : decode cX3_letFlow 133 = .ok (.iadd, 1) := by decide +kernel
theorem dX3_letFlow_134 : decode cX3_letFlow 134 = .ok (.iastore, 1) := by decide +kernel
theorem dX3_letFlow_135 : decode cX3_letFlow 135 = .ok (.aload_n 0, 1) := by decide +kernel
theorem dX3_letFlow_136 : decode cX3_letFlow 136 = .ok (.getfield 24, 3) := by decide +kernel
theorem dX3_letFlow_139 : decode cX3_letFlow 139 = .ok (.iload_n 2, 1) := by decide +kernel
theorem dX3_letFlow_140 : decode cX3_letFlow 140 = .ok (.ldc 122, 2) := by decide +kernel
theorem dX3_letFlow_142 : decode cX3_letFlow 142 = .ok (.aload_n 0, 1) := by decide +kernel
theorem dX3_letFlow_143 : decode cX3_letFlow 143 = .ok (.getfield 24, 3) := by decide +kernel
theorem dX3_letFlow_146 : decode cX3_letFlow 146 = .ok (.iload_n 2, 1) := by decide +kernel
theorem dX3_letFlow_147 : decode cX3_letFlow 147 = .ok (.iaload, 1) := by decide +kernel
theorem dX3_letFlow_148 : decode cX3_letFlow 148 = .ok (.iload 6, 2) := by decide +kernel
theorem dX3_letFlow_150 : decode cX3_letFlow 150 = .ok (.iadd, 1) := by decide +kernel
theorem dX3_letFlow_151 : decode cX3_letFlow 151 = .ok (.invokestatic 123, 3) := by decide +kernel
theorem dX3_letFlow_154 : decode cX3_letFlow 154 = .ok (.iastore, 1) := by decide +kernel
theorem dX3_letFlow_155 : decode cX3_letFlow 155 = .ok (.aload_n 0, 1) := by decide +kernel
theorem dX3_letFlow_156 : decode cX3_letFlow 156 = .ok (.getfield 27, 3) := by decide +kernel
theorem dX3_letFlow_159 : decode cX3_letFlow 159 = .ok (.iload_n 2, 1) := by decide +kernel
theorem dX3_letFlow_160 : decode cX3_letFlow 160 = .ok (.ldc 122, 2) := by decide +kernel
theorem dX3_letFlow_162 : decode cX3_letFlow 162 = .ok (.aload_n 0, 1) := by decide +kernel
theorem dX3_letFlow_163 : decode cX3_letFlow 163 = .ok (.getfield 27, 3) := by decide +kernel
theorem dX3_letFlow_166 : decode cX3_letFlow 166 = .ok (.iload_n 2, 1) := by decide +kernel
theorem dX3_letFlow_167 : decode cX3_letFlow 167 = .ok (.iaload, 1) := by decide +kernel
theorem dX3_letFlow_168 : decode cX3_letFlow 168 = .ok (.iload 9, 2) := by decide +kernel
theorem dX3_letFlow_170 : decode cX3_letFlow 170 = .ok (.iadd, 1) := by decide +kernel
theorem dX3_letFlow_171 : decode cX3_letFlow 171 = .ok (.invokestatic 123, 3) := by decide +kernel
theorem dX3_letFlow_174 : decode cX3_letFlow 174 = .ok (.iastore, 1) := by decide +kernel
theorem dX3_letFlow_175 : decode cX3_letFlow 175 = .ok (.return_, 1) := by decide +kernel
theorem dX3_letGo_0 : decode cX3_letGo 0 = .ok (.aload_n 0, 1) := by decide +kernel
theorem dX3_letGo_1 : decode cX3_letGo 1 = .ok (.getfield 33, 3) := by decide +kernel
theorem dX3_letGo_4 : decode cX3_letGo 4 = .ok (.getfield 125, 3) := by decide +kernel
theorem dX3_letGo_7 : decode cX3_letGo 7 = .ok (.iload_n 2, 1) := by decide +kernel
theorem dX3_letGo_8 : decode cX3_letGo 8 = .ok (.iaload, 1) := by decide +kernel
theorem dX3_letGo_9 : decode cX3_letGo 9 = .ok (.istore_n 3, 1) := by decide +kernel
theorem dX3_letGo_10 : decode cX3_letGo 10 = .ok (.aload_n 0, 1) := by decide +kernel
theorem dX3_letGo_11 : decode cX3_letGo 11 = .ok (.aload_n 1, 1) := by decide +kernel
theorem dX3_letGo_12 : decode cX3_letGo 12 = .ok (.iload_n 3, 1) := by decide +kernel
theorem dX3_letGo_13 : decode cX3_letGo 13 = .ok (.aload_n 0, 1) := by decide +kernel
theorem dX3_letGo_14 : decode cX3_letGo 14 = .ok (.getfield 33, 3) := by decide +kernel
theorem dX3_letGo_17 : decode cX3_letGo 17 = .ok (.getfield 128, 3) := by decide +kernel
theorem dX3_letGo_20 : decode cX3_letGo 20 = .ok (.iload_n 2, 1) := by decide +kernel
theorem dX3_letGo_21 : decode cX3_letGo 21 = .ok (.iaload, 1) := by decide +kernel
theorem dX3_letGo_22 : decode cX3_letGo 22 = .ok (.invokevirtual 131, 3) := by decide +kernel
theorem dX3_letGo_25 : decode cX3_letGo 25 = .ok (.istore 4, 2) := by decide +kernel
theorem dX3_letGo_27 : decode cX3_letGo 27 = .ok (.iload 4, 2) := by decide +kernel
theorem dX3_letGo_29 : decode cX3_letGo 29 = .ok (.ifCond .le 22, 3) := by decide +kernel
theorem dX3_letGo_32 : decode cX3_letGo 32 = .ok (.aload_n 0, 1) := by decide +kernel
theorem dX3_letGo_33 : decode cX3_letGo 33 = .ok (.getfield 33, 3) := by decide +kernel
theorem dX3_letGo_36 : decode cX3_letGo 36 = .ok (.iload_n 2, 1) := by decide +kernel
theorem dX3_letGo_37 : decode cX3_letGo 37 = .ok (.iload 4, 2) := by decide +kernel
theorem dX3_letGo_39 : decode cX3_letGo 39 = .ok (.aload_n 1, 1) := by decide +kernel
theorem dX3_letGo_40 : decode cX3_letGo 40 = .ok (.getfield 135, 3) := by decide +kernel
theorem dX3_letGo_43 : decode cX3_letGo 43 = .ok (.iload_n 3, 1) := by decide +kernel
theorem dX3_letGo_44 : decode cX3_letGo 44 = .ok (.iaload, 1) := by decide +kernel
theorem dX3_letGo_45 : decode cX3_letGo 45 = .ok (.invokevirtual 138, 3) := by decide +kernel
theorem dX3_letGo_48 : decode cX3_letGo 48 = .ok (.goto 26, 3) := by decide +kernel
theorem dX3_letGo_51 : decode cX3_letGo 51 = .ok (.iload 4, 2) := by decide +kernel
theorem dX3_letGo_53 : decode cX3_letGo 53 = .ok (.ifCond .ge 21, 3) := by decide +kernel
theorem dX3_letGo_56 : decode cX3_letGo 56 = .ok (.aload_n 0, 1) := by decide +kernel
theorem dX3_letGo_57 : decode cX3_letGo 57 = .ok (.getfield 33, 3) := by decide +kernel
theorem dX3_letGo_60 : decode cX3_letGo 60 = .ok (.iload_n 2, 1) := by decide +kernel
theorem dX3_letGo_61 : decode cX3_letGo 61 = .ok (.iload 4, 2) := by decide +kernel
theorem dX3_letGo_63 : decode cX3_letGo 63 = .ok (.aload_n 1, 1) := by decide +kernel
theorem dX3_letGo_64 : decode cX3_letGo 64 = .ok (.getfield 135, 3) := by decide +kernel
theorem dX3_letGo_67 : decode cX3_letGo 67 = .ok (.iload_n 3, 1) := by decide +kernel
theorem dX3_letGo_68 : decode cX3_letGo 68 = .ok (.iconst 1, 1) := by decide +kernel
theorem dX3_letGo_69 : decode cX3_letGo 69 = .ok (.isub, 1) := by decide +kernel
theorem dX3_letGo_70 : decode cX3_letGo 70 = .ok (.iaload, 1) := by decide +kernel
theorem dX3_letGo_71 : decode cX3_letGo 71 = .ok (.invokevirtual 138, 3) := by decide +kernel
theorem dX3_letGo_74 : decode cX3_letGo 74 = .ok (.return_, 1) := by decide +kernel
theorem dX3_wayFrom_0 : decode cX3_wayFrom 0 = .ok (.aload_n 1, 1) := by decide +kernel
theorem dX3_wayFrom_1 : decode cX3_wayFrom 1 = .ok (.iload_n 2, 1) := by decide +kernel
theorem dX3_wayFrom_2 : decode cX3_wayFrom 2 = .ok (.invokevirtual 142, 3) := by decide +kernel
theorem dX3_wayFrom_5 : decode cX3_wayFrom 5 = .ok (.ifCond .eq 12, 3) := by decide +kernel
theorem dX3_wayFrom_8 : decode cX3_wayFrom 8 = .ok (.aload_n 0, 1) := by decide +kernel
theorem dX3_wayFrom_9 : decode cX3_wayFrom 9 = .ok (.getfield 21, 3) := by decide +kernel
theorem dX3_wayFrom_12 : decode cX3_wayFrom 12 = .ok (.iload_n 2, 1) := by decide +kernel
theorem dX3_wayFrom_13 : decode cX3_wayFrom 13 = .ok (.iaload, 1) := by decide +kernel
theorem dX3_wayFrom_14 : decode cX3_wayFrom 14 = .ok (.goto 4, 3) := by decide +kernel
theorem dX3_wayFrom_17 : decode cX3_wayFrom 17 = .ok (.iconst 0, 1) := by decide +kernel
theorem dX3_wayFrom_18 : decode cX3_wayFrom 18 = .ok (.istore 4, 2) := by decide +kernel
theorem dX3_wayFrom_20 : decode cX3_wayFrom 20 = .ok (.aload_n 1, 1) := by decide +kernel
theorem dX3_wayFrom_21 : decode cX3_wayFrom 21 = .ok (.iload_n 2, 1) := by decide +kernel
theorem dX3_wayFrom_22 : decode cX3_wayFrom 22 = .ok (.iconst 1, 1) := by decide +kernel
theorem dX3_wayFrom_23 : decode cX3_wayFrom 23 = .ok (.isub, 1) := by decide +kernel
theorem dX3_wayFrom_24 : decode cX3_wayFrom 24 = .ok (.invokevirtual 142, 3) := by decide +kernel
theorem dX3_wayFrom_27 : decode cX3_wayFrom 27 = .ok (.ifCond .eq 15, 3) := by decide +kernel
theorem dX3_wayFrom_30 : decode cX3_wayFrom 30 = .ok (.aload_n 0, 1) := by decide +kernel
theorem dX3_wayFrom_31 : decode cX3_wayFrom 31 = .ok (.getfield 21, 3) := by decide +kernel
theorem dX3_wayFrom_34 : decode cX3_wayFrom 34 = .ok (.iload_n 2, 1) := by decide +kernel
theorem dX3_wayFrom_35 : decode cX3_wayFrom 35 = .ok (.iconst 1, 1) := by decide +kernel
theorem dX3_wayFrom_36 : decode cX3_wayFrom 36 = .ok (.isub, 1) := by decide +kernel
theorem dX3_wayFrom_37 : decode cX3_wayFrom 37 = .ok (.iaload, 1) := by decide +kernel
theorem dX3_wayFrom_38 : decode cX3_wayFrom 38 = .ok (.ineg, 1) := by decide +kernel
theorem dX3_wayFrom_39 : decode cX3_wayFrom 39 = .ok (.goto 4, 3) := by decide +kernel
theorem dX3_wayFrom_42 : decode cX3_wayFrom 42 = .ok (.iconst 0, 1) := by decide +kernel
theorem dX3_wayFrom_43 : decode cX3_wayFrom 43 = .ok (.istore 5, 2) := by decide +kernel
theorem dX3_wayFrom_45 : decode cX3_wayFrom 45 = .ok (.iload 4, 2) := by decide +kernel
theorem dX3_wayFrom_47 : decode cX3_wayFrom 47 = .ok (.iload_n 3, 1) := by decide +kernel
theorem dX3_wayFrom_48 : decode cX3_wayFrom 48 = .ok (.if_icmp .lt 12, 3) := by decide +kernel
theorem dX3_wayFrom_51 : decode cX3_wayFrom 51 = .ok (.iload 4, 2) := by decide +kernel
theorem dX3_wayFrom_53 : decode cX3_wayFrom 53 = .ok (.iload 5, 2) := by decide +kernel
theorem dX3_wayFrom_55 : decode cX3_wayFrom 55 = .ok (.if_icmp .lt 5, 3) := by decide +kernel
theorem dX3_wayFrom_58 : decode cX3_wayFrom 58 = .ok (.iconst 1, 1) := by decide +kernel
theorem dX3_wayFrom_59 : decode cX3_wayFrom 59 = .ok (.ireturn, 1) := by decide +kernel
theorem dX3_wayFrom_60 : decode cX3_wayFrom 60 = .ok (.iload 5, 2) := by decide +kernel
theorem dX3_wayFrom_62 : decode cX3_wayFrom 62 = .ok (.iload_n 3, 1) := by decide +kernel
theorem dX3_wayFrom_63 : decode cX3_wayFrom 63 = .ok (.if_icmp .lt 7, 3) := by decide +kernel
theorem dX3_wayFrom_66 : decode cX3_wayFrom 66 = .ok (.iconst (-1), 1) := by decide +kernel
theorem dX3_wayFrom_67 : decode cX3_wayFrom 67 = .ok (.goto 4, 3) := by decide +kernel
theorem dX3_wayFrom_70 : decode cX3_wayFrom 70 = .ok (.iconst 0, 1) := by decide +kernel
theorem dX3_wayFrom_71 : decode cX3_wayFrom 71 = .ok (.ireturn, 1) := by decide +kernel
theorem dX3_takeShower_0 : decode cX3_takeShower 0 = .ok (.aload_n 0, 1) := by decide +kernel
theorem dX3_takeShower_1 : decode cX3_takeShower 1 = .ok (.iload_n 2, 1) := by decide +kernel
theorem dX3_takeShower_2 : decode cX3_takeShower 2 = .ok (.invokevirtual 145, 3) := by decide +kernel
theorem dX3_takeShower_5 : decode cX3_takeShower 5 = .ok (.istore_n 3, 1) := by decide +kernel
theorem dX3_takeShower_6 : decode cX3_takeShower 6 = .ok (.aload_n 0, 1) := by decide +kernel
theorem dX3_takeShower_7 : decode cX3_takeShower 7 = .ok (.aload_n 1, 1) := by decide +kernel
theorem dX3_takeShower_8 : decode cX3_takeShower 8 = .ok (.getfield 80, 3) := by decide +kernel
theorem dX3_takeShower_11 : decode cX3_takeShower 11 = .ok (.invokevirtual 145, 3) := by decide +kernel
theorem dX3_takeShower_14 : decode cX3_takeShower 14 = .ok (.istore 4, 2) := by decide +kernel
theorem dX3_takeShower_16 : decode cX3_takeShower 16 = .ok (.aload_n 1, 1) := by decide +kernel
theorem dX3_takeShower_17 : decode cX3_takeShower 17 = .ok (.iload 4, 2) := by decide +kernel
theorem dX3_takeShower_19 : decode cX3_takeShower 19 = .ok (.invokevirtual 69, 3) := by decide +kernel
theorem dX3_takeShower_22 : decode cX3_takeShower 22 = .ok (.ifCond .eq 5, 3) := by decide +kernel
theorem dX3_takeShower_25 : decode cX3_takeShower 25 = .ok (.iconst 0, 1) := by decide +kernel
theorem dX3_takeShower_26 : decode cX3_takeShower 26 = .ok (.ireturn, 1) := by decide +kernel
theorem dX3_takeShower_27 : decode cX3_takeShower 27 = .ok (.aload_n 0, 1) := by decide +kernel
theorem dX3_takeShower_28 : decode cX3_takeShower 28 = .ok (.getfield 9, 3) := by decide +kernel
theorem dX3_takeShower_31 : decode cX3_takeShower 31 = .ok (.iload 4, 2) := by decide +kernel
theorem dX3_takeShower_33 : decode cX3_takeShower 33 = .ok (.dup2, 1) := by decide +kernel
theorem dX3_takeShower_34 : decode cX3_takeShower 34 = .ok (.iaload, 1) := by decide +kernel
theorem dX3_takeShower_35 : decode cX3_takeShower 35 = .ok (.iload_n 3, 1) := by decide +kernel
theorem dX3_takeShower_36 : decode cX3_takeShower 36 = .ok (.iadd, 1) := by decide +kernel
theorem dX3_takeShower_37 : decode cX3_takeShower 37 = .ok (.iastore, 1) := by decide +kernel
theorem dX3_takeShower_38 : decode cX3_takeShower 38 = .ok (.iload_n 3, 1) := by decide +kernel
theorem dX3_takeShower_39 : decode cX3_takeShower 39 = .ok (.ireturn, 1) := by decide +kernel
theorem dX3_draw_0 : decode cX3_draw 0 = .ok (.aload_n 0, 1) := by decide +kernel
theorem dX3_draw_1 : decode cX3_draw 1 = .ok (.aload_n 0, 1) := by decide +kernel
theorem dX3_draw_2 : decode cX3_draw 2 = .ok (.getfield 56, 3) := by decide +kernel
theorem dX3_draw_5 : decode cX3_draw 5 = .ok (.i2l, 1) := by decide +kernel
theorem dX3_draw_6 : decode cX3_draw 6 = .ok (.ldc2_w 148, 3) := by decide +kernel
theorem dX3_draw_9 : decode cX3_draw 9 = .ok (.lmul, 1) := by decide +kernel
theorem dX3_draw_10 : decode cX3_draw 10 = .ok (.ldc2_w 150, 3) := by decide +kernel
theorem dX3_draw_13 : decode cX3_draw 13 = .ok (.ladd, 1) := by decide +kernel
theorem dX3_draw_14 : decode cX3_draw 14 = .ok (.ldc2_w 152, 3) := by decide +kernel
theorem dX3_draw_17 : decode cX3_draw 17 = .ok (.land, 1) := by decide +kernel
theorem dX3_draw_18 : decode cX3_draw 18 = .ok (.l2i, 1) := by decide +kernel
theorem dX3_draw_19 : decode cX3_draw 19 = .ok (.putfield 56, 3) := by decide +kernel
theorem dX3_draw_22 : decode cX3_draw 22 = .ok (.iload_n 1, 1) := by decide +kernel
theorem dX3_draw_23 : decode cX3_draw 23 = .ok (.iconst 1, 1) := by decide +kernel
theorem dX3_draw_24 : decode cX3_draw 24 = .ok (.if_icmp .ge 7, 3) := by decide +kernel
theorem dX3_draw_27 : decode cX3_draw 27 = .ok (.iconst 0, 1) := by decide +kernel
theorem dX3_draw_28 : decode cX3_draw 28 = .ok (.goto 12, 3) := by decide +kernel
theorem dX3_draw_31 : decode cX3_draw 31 = .ok (.aload_n 0, 1) := by decide +kernel
theorem dX3_draw_32 : decode cX3_draw 32 = .ok (.getfield 56, 3) := by decide +kernel
theorem dX3_draw_35 : decode cX3_draw 35 = .ok (.ldc 154, 2) := by decide +kernel
theorem dX3_draw_37 : decode cX3_draw 37 = .ok (.idiv, 1) := by decide +kernel
theorem dX3_draw_38 : decode cX3_draw 38 = .ok (.iload_n 1, 1) := by decide +kernel
theorem dX3_draw_39 : decode cX3_draw 39 = .ok (.irem, 1) := by decide +kernel
theorem dX3_draw_40 : decode cX3_draw 40 = .ok (.ireturn, 1) := by decide +kernel
