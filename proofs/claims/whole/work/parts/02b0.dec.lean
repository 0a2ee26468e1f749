theorem dX2_init_0 : decode cX2_init 0 = .ok (.aload_n 0, 1) := by decide +kernel
theorem dX2_init_1 : decode cX2_init 1 = .ok (.invokespecial 3, 3) := by decide +kernel
theorem dX2_init_4 : decode cX2_init 4 = .ok (.aload_n 0, 1) := by decide +kernel
theorem dX2_init_5 : decode cX2_init 5 = .ok (.sipush 400, 3) := by decide +kernel
theorem dX2_init_8 : decode cX2_init 8 = .ok (.newarray .byte, 2) := by decide +kernel
theorem dX2_init_10 : decode cX2_init 10 = .ok (.putfield 9, 3) := by decide +kernel
theorem dX2_init_13 : decode cX2_init 13 = .ok (.return_, 1) := by decide +kernel
theorem dX2_takeBytes_0 : decode cX2_takeBytes 0 = .ok (.iload_n 1, 1) := by decide +kernel
theorem dX2_takeBytes_1 : decode cX2_takeBytes 1 = .ok (.sipush 400, 3) := by decide +kernel
theorem dX2_takeBytes_4 : decode cX2_takeBytes 4 = .ok (.aload_n 0, 1) := by decide +kernel
theorem dX2_takeBytes_5 : decode cX2_takeBytes 5 = .ok (.getfield 15, 3) := by decide +kernel
theorem dX2_takeBytes_8 : decode cX2_takeBytes 8 = .ok (.isub, 1) := by decide +kernel
theorem dX2_takeBytes_9 : decode cX2_takeBytes 9 = .ok (.if_icmp .le 5, 3) := by decide +kernel
theorem dX2_takeBytes_12 : decode cX2_takeBytes 12 = .ok (.iconst 0, 1) := by decide +kernel
theorem dX2_takeBytes_13 : decode cX2_takeBytes 13 = .ok (.ireturn, 1) := by decide +kernel
theorem dX2_takeBytes_14 : decode cX2_takeBytes 14 = .ok (.iload_n 1, 1) := by decide +kernel
theorem dX2_takeBytes_15 : decode cX2_takeBytes 15 = .ok (.iconst 1, 1) := by decide +kernel
theorem dX2_takeBytes_16 : decode cX2_takeBytes 16 = .ok (.isub, 1) := by decide +kernel
theorem dX2_takeBytes_17 : decode cX2_takeBytes 17 = .ok (.istore 4, 2) := by decide +kernel
theorem dX2_takeBytes_19 : decode cX2_takeBytes 19 = .ok (.iload 4, 2) := by decide +kernel
theorem dX2_takeBytes_21 : decode cX2_takeBytes 21 = .ok (.ifCond .lt 37, 3) := by decide +kernel
theorem dX2_takeBytes_24 : decode cX2_takeBytes 24 = .ok (.aload_n 0, 1) := by decide +kernel
theorem dX2_takeBytes_25 : decode cX2_takeBytes 25 = .ok (.getfield 9, 3) := by decide +kernel
theorem dX2_takeBytes_28 : decode cX2_takeBytes 28 = .ok (.aload_n 0, 1) := by decide +kernel
theorem dX2_takeBytes_29 : decode cX2_takeBytes 29 = .ok (.getfield 15, 3) := by decide +kernel
theorem dX2_takeBytes_32 : decode cX2_takeBytes 32 = .ok (.lload_n 2, 1) := by decide +kernel
theorem dX2_takeBytes_33 : decode cX2_takeBytes 33 = .ok (.bipush 8, 2) := by decide +kernel
theorem dX2_takeBytes_35 : decode cX2_takeBytes 35 = .ok (.iload 4, 2) := by decide +kernel
theorem dX2_takeBytes_37 : decode cX2_takeBytes 37 = .ok (.imul, 1) := by decide +kernel
theorem dX2_takeBytes_38 : decode cX2_takeBytes 38 = .ok (.lshr, 1) := by decide +kernel
theorem dX2_takeBytes_39 : decode cX2_takeBytes 39 = .ok (.l2i, 1) := by decide +kernel
theorem dX2_takeBytes_40 : decode cX2_takeBytes 40 = .ok (.i2b, 1) := by decide +kernel
theorem dX2_takeBytes_41 : decode cX2_takeBytes 41 = .ok (.bastore, 1) := by decide +kernel
theorem dX2_takeBytes_42 : decode cX2_takeBytes 42 = .ok (.aload_n 0, 1) := by decide +kernel
theorem dX2_takeBytes_43 : decode cX2_takeBytes 43 = .ok (.dup, 1) := by decide +kernel
theorem dX2_takeBytes_44 : decode cX2_takeBytes 44 = .ok (.getfield 15, 3) := by decide +kernel
theorem dX2_takeBytes_47 : decode cX2_takeBytes 47 = .ok (.iconst 1, 1) := by decide +kernel
theorem dX2_takeBytes_48 : decode cX2_takeBytes 48 = .ok (.iadd, 1) := by decide +kernel
theorem dX2_takeBytes_49 : decode cX2_takeBytes 49 = .ok (.putfield 15, 3) := by decide +kernel
theorem dX2_takeBytes_52 : decode cX2_takeBytes 52 = .ok (.iinc 4 (-1), 3) := by decide +kernel
theorem dX2_takeBytes_55 : decode cX2_takeBytes 55 = .ok (.goto (-36), 3) := by decide +kernel
theorem dX2_takeBytes_58 : decode cX2_takeBytes 58 = .ok (.iconst 1, 1) := by decide +kernel
theorem dX2_takeBytes_59 : decode cX2_takeBytes 59 = .ok (.ireturn, 1) := by decide +kernel
theorem dX2_faultByte_0 : decode cX2_faultByte 0 = .ok (.aload_n 0, 1) := by decide +kernel
theorem dX2_faultByte_1 : decode cX2_faultByte 1 = .ok (.getfield 19, 3) := by decide +kernel
theorem dX2_faultByte_4 : decode cX2_faultByte 4 = .ok (.ifCond .ne 7, 3) := by decide +kernel
theorem dX2_faultByte_7 : decode cX2_faultByte 7 = .ok (.iconst (-1), 1) := by decide +kernel
theorem dX2_faultByte_8 : decode cX2_faultByte 8 = .ok (.goto 7, 3) := by decide +kernel
theorem dX2_faultByte_11 : decode cX2_faultByte 11 = .ok (.aload_n 0, 1) := by decide +kernel
theorem dX2_faultByte_12 : decode cX2_faultByte 12 = .ok (.getfield 22, 3) := by decide +kernel
theorem dX2_faultByte_15 : decode cX2_faultByte 15 = .ok (.ireturn, 1) := by decide +kernel
theorem dX2_readCourse_0 : decode cX2_readCourse 0 = .ok (.aload_n 0, 1) := by decide +kernel
theorem dX2_readCourse_1 : decode cX2_readCourse 1 = .ok (.invokevirtual 25, 3) := by decide +kernel
theorem dX2_readCourse_4 : decode cX2_readCourse 4 = .ok (.aload_n 1, 1) := by decide +kernel
theorem dX2_readCourse_5 : decode cX2_readCourse 5 = .ok (.invokevirtual 28, 3) := by decide +kernel
theorem dX2_readCourse_8 : decode cX2_readCourse 8 = .ok (.iconst 0, 1) := by decide +kernel
theorem dX2_readCourse_9 : decode cX2_readCourse 9 = .ok (.istore_n 2, 1) := by decide +kernel
theorem dX2_readCourse_10 : decode cX2_readCourse 10 = .ok (.iload_n 2, 1) := by decide +kernel
theorem dX2_readCourse_11 : decode cX2_readCourse 11 = .ok (.sipush 400, 3) := by decide +kernel
theorem dX2_readCourse_14 : decode cX2_readCourse 14 = .ok (.if_icmp .gt 35, 3) := by decide +kernel
theorem dX2_readCourse_17 : decode cX2_readCourse 17 = .ok (.aload_n 0, 1) := by decide +kernel
theorem dX2_readCourse_18 : decode cX2_readCourse 18 = .ok (.getfield 19, 3) := by decide +kernel
theorem dX2_readCourse_21 : decode cX2_readCourse 21 = .ok (.ifCond .ne 28, 3) := by decide +kernel
theorem dX2_readCourse_24 : decode cX2_readCourse 24 = .ok (.aload_n 0, 1) := by decide +kernel
theorem dX2_readCourse_25 : decode cX2_readCourse 25 = .ok (.invokevirtual 33, 3) := by decide +kernel
theorem dX2_readCourse_28 : decode cX2_readCourse 28 = .ok (.aload_n 0, 1) := by decide +kernel
theorem dX2_readCourse_29 : decode cX2_readCourse 29 = .ok (.getfield 36, 3) := by decide +kernel
theorem dX2_readCourse_32 : decode cX2_readCourse 32 = .ok (.ifCond .ne 6, 3) := by decide +kernel
theorem dX2_readCourse_35 : decode cX2_readCourse 35 = .ok (.goto 14, 3) := by decide +kernel
theorem dX2_readCourse_38 : decode cX2_readCourse 38 = .ok (.aload_n 0, 1) := by decide +kernel
theorem dX2_readCourse_39 : decode cX2_readCourse 39 = .ok (.aload_n 1, 1) := by decide +kernel
theorem dX2_readCourse_40 : decode cX2_readCourse 40 = .ok (.invokevirtual 39, 3) := by decide +kernel
theorem dX2_readCourse_43 : decode cX2_readCourse 43 = .ok (.iinc 2 1, 3) := by decide +kernel
theorem dX2_readCourse_46 : decode cX2_readCourse 46 = .ok (.goto (-36), 3) := by decide +kernel
theorem dX2_readCourse_49 : decode cX2_readCourse 49 = .ok (.aload_n 1, 1) := by decide +kernel
theorem dX2_readCourse_50 : decode cX2_readCourse 50 = .ok (.getfield 43, 3) := by decide +kernel
theorem dX2_readCourse_53 : decode cX2_readCourse 53 = .ok (.ifCond .le 13, 3) := by decide +kernel
theorem dX2_readCourse_56 : decode cX2_readCourse 56 = .ok (.aload_n 1, 1) := by decide +kernel
theorem dX2_readCourse_57 : decode cX2_readCourse 57 = .ok (.dup, 1) := by decide +kernel
theorem dX2_readCourse_58 : decode cX2_readCourse 58 = .ok (.getfield 43, 3) := by decide +kernel
theorem dX2_readCourse_61 : decode cX2_readCourse 61 = .ok (.iconst 1, 1) := by decide +kernel
theorem dX2_readCourse_62 : decode cX2_readCourse 62 = .ok (.iadd, 1) := by decide +kernel
theorem dX2_readCourse_63 : decode cX2_readCourse 63 = .ok (.putfield 43, 3) := by decide +kernel
theorem dX2_readCourse_66 : decode cX2_readCourse 66 = .ok (.aload_n 0, 1) := by decide +kernel
theorem dX2_readCourse_67 : decode cX2_readCourse 67 = .ok (.iconst 0, 1) := by decide +kernel
theorem dX2_readCourse_68 : decode cX2_readCourse 68 = .ok (.putfield 15, 3) := by decide +kernel
theorem dX2_readCourse_71 : decode cX2_readCourse 71 = .ok (.return_, 1) := by decide +kernel
theorem dX2_readOrders_0 : decode cX2_readOrders 0 = .ok (.aload_n 0, 1) := by decide +kernel
theorem dX2_readOrders_1 : decode cX2_readOrders 1 = .ok (.invokevirtual 25, 3) := by decide +kernel
theorem dX2_readOrders_4 : decode cX2_readOrders 4 = .ok (.aload_n 1, 1) := by decide +kernel
theorem dX2_readOrders_5 : decode cX2_readOrders 5 = .ok (.iconst 0, 1) := by decide +kernel
theorem dX2_readOrders_6 : decode cX2_readOrders 6 = .ok (.putfield 46, 3) := by decide +kernel
theorem dX2_readOrders_9 : decode cX2_readOrders 9 = .ok (.iconst 0, 1) := by decide +kernel
theorem dX2_readOrders_10 : decode cX2_readOrders 10 = .ok (.istore_n 3, 1) := by decide +kernel
theorem dX2_readOrders_11 : decode cX2_readOrders 11 = .ok (.iconst 0, 1) := by decide +kernel
theorem dX2_readOrders_12 : decode cX2_readOrders 12 = .ok (.istore 4, 2) := by decide +kernel
theorem dX2_readOrders_14 : decode cX2_readOrders 14 = .ok (.iload 4, 2) := by decide +kernel
theorem dX2_readOrders_16 : decode cX2_readOrders 16 = .ok (.bipush 30, 2) := by decide +kernel
theorem dX2_readOrders_18 : decode cX2_readOrders 18 = .ok (.if_icmp .gt 64, 3) := by decide +kernel
theorem dX2_readOrders_21 : decode cX2_readOrders 21 = .ok (.aload_n 0, 1) := by decide +kernel
theorem dX2_readOrders_22 : decode cX2_readOrders 22 = .ok (.getfield 19, 3) := by decide +kernel
theorem dX2_readOrders_25 : decode cX2_readOrders 25 = .ok (.ifCond .ne 57, 3) := by decide +kernel
theorem dX2_readOrders_28 : decode cX2_readOrders 28 = .ok (.aload_n 0, 1) := by decide +kernel
theorem dX2_readOrders_29 : decode cX2_readOrders 29 = .ok (.invokevirtual 33, 3) := by decide +kernel
theorem dX2_readOrders_32 : decode cX2_readOrders 32 = .ok (.aload_n 0, 1) := by decide +kernel
theorem dX2_readOrders_33 : decode cX2_readOrders 33 = .ok (.getfield 36, 3) := by decide +kernel
theorem dX2_readOrders_36 : decode cX2_readOrders 36 = .ok (.ifCond .ne 6, 3) := by decide +kernel
theorem dX2_readOrders_39 : decode cX2_readOrders 39 = .ok (.goto 43, 3) := by decide +kernel
theorem dX2_readOrders_42 : decode cX2_readOrders 42 = .ok (.aload_n 0, 1) := by decide +kernel
theorem dX2_readOrders_43 : decode cX2_readOrders 43 = .ok (.ldc 51, 2) := by decide +kernel
theorem dX2_readOrders_45 : decode cX2_readOrders 45 = .ok (.invokevirtual 53, 3) := by decide +kernel
theorem dX2_readOrders_48 : decode cX2_readOrders 48 = .ok (.ifCond .ne 8, 3) := by decide +kernel
theorem dX2_readOrders_51 : decode cX2_readOrders 51 = .ok (.aload_n 0, 1) := by decide +kernel
theorem dX2_readOrders_52 : decode cX2_readOrders 52 = .ok (.iconst 1, 1) := by decide +kernel
theorem dX2_readOrders_53 : decode cX2_readOrders 53 = .ok (.invokevirtual 57, 3) := by decide +kernel
theorem dX2_readOrders_56 : decode cX2_readOrders 56 = .ok (.iload 4, 2) := by decide +kernel
theorem dX2_readOrders_58 : decode cX2_readOrders 58 = .ok (.bipush 30, 2) := by decide +kernel
theorem dX2_readOrders_60 : decode cX2_readOrders 60 = .ok (.if_icmp .ne 8, 3) := by decide +kernel
theorem dX2_readOrders_63 : decode cX2_readOrders 63 = .ok (.aload_n 0, 1) := by decide +kernel
theorem dX2_readOrders_64 : decode cX2_readOrders 64 = .ok (.iconst 3, 1) := by decide +kernel
theorem dX2_readOrders_65 : decode cX2_readOrders 65 = .ok (.invokevirtual 57, 3) := by decide +kernel
theorem dX2_readOrders_68 : decode cX2_readOrders 68 = .ok (.aload_n 0, 1) := by decide +kernel
theorem dX2_readOrders_69 : decode cX2_readOrders 69 = .ok (.aload_n 1, 1) := by decide +kernel
theorem dX2_readOrders_70 : decode cX2_readOrders 70 = .ok (.iload_n 2, 1) := by decide +kernel
theorem dX2_readOrders_71 : decode cX2_readOrders 71 = .ok (.iload_n 3, 1) := by decide +kernel
theorem dX2_readOrders_72 : decode cX2_readOrders 72 = .ok (.invokevirtual 61, 3) := by decide +kernel
theorem dX2_readOrders_75 : decode cX2_readOrders 75 = .ok (.istore_n 3, 1) := by decide +kernel
theorem dX2_readOrders_76 : decode cX2_readOrders 76 = .ok (.iinc 4 1, 3) := by decide +kernel
theorem dX2_readOrders_79 : decode cX2_readOrders 79 = .ok (.goto (-65), 3) := by decide +kernel
theorem dX2_readOrders_82 : decode cX2_readOrders 82 = .ok (.aload_n 0, 1) := by decide +kernel
theorem dX2_readOrders_83 : decode cX2_readOrders 83 = .ok (.iconst 0, 1) := by decide +kernel
theorem dX2_readOrders_84 : decode cX2_readOrders 84 = .ok (.putfield 15, 3) := by decide +kernel
theorem dX2_readOrders_87 : decode cX2_readOrders 87 = .ok (.return_, 1) := by decide +kernel
theorem dX2_begin_0 : decode cX2_begin 0 = .ok (.aload_n 0, 1) := by decide +kernel
theorem dX2_begin_1 : decode cX2_begin 1 = .ok (.iconst 0, 1) := by decide +kernel
theorem dX2_begin_2 : decode cX2_begin 2 = .ok (.putfield 19, 3) := by decide +kernel
theorem dX2_begin_5 : decode cX2_begin 5 = .ok (.aload_n 0, 1) := by decide +kernel
theorem dX2_begin_6 : decode cX2_begin 6 = .ok (.iconst 0, 1) := by decide +kernel
theorem dX2_begin_7 : decode cX2_begin 7 = .ok (.putfield 22, 3) := by decide +kernel
theorem dX2_begin_10 : decode cX2_begin 10 = .ok (.aload_n 0, 1) := by decide +kernel
theorem dX2_begin_11 : decode cX2_begin 11 = .ok (.iconst 0, 1) := by decide +kernel
theorem dX2_begin_12 : decode cX2_begin 12 = .ok (.putfield 65, 3) := by decide +kernel
theorem dX2_begin_15 : decode cX2_begin 15 = .ok (.aload_n 0, 1) := by decide +kernel
theorem dX2_begin_16 : decode cX2_begin 16 = .ok (.iconst 0, 1) := by decide +kernel
theorem dX2_begin_17 : decode cX2_begin 17 = .ok (.putfield 68, 3) := by decide +kernel
theorem dX2_begin_20 : decode cX2_begin 20 = .ok (.aload_n 0, 1) := by decide +kernel
theorem dX2_begin_21 : decode cX2_begin 21 = .ok (.iconst 0, 1) := by decide +kernel
theorem dX2_begin_22 : decode cX2_begin 22 = .ok (.putfield 72, 3) := by decide +kernel
theorem dX2_begin_25 : decode cX2_begin 25 = .ok (.aload_n 0, 1) := by decide +kernel
theorem dX2_begin_26 : decode cX2_begin 26 = .ok (.iconst 0, 1) := by decide +kernel
theorem dX2_begin_27 : decode cX2_begin 27 = .ok (.putfield 75, 3) := by decide +kernel
theorem dX2_begin_30 : decode cX2_begin 30 = .ok (.return_, 1) := by decide +kernel
theorem dX2_readClause_0 : decode cX2_readClause 0 = .ok (.aload_n 0, 1) := by decide +kernel
theorem dX2_readClause_1 : decode cX2_readClause 1 = .ok (.ldc 78, 2) := by decide +kernel
theorem dX2_readClause_3 : decode cX2_readClause 3 = .ok (.invokevirtual 53, 3) := by decide +kernel
theorem dX2_readClause_6 : decode cX2_readClause 6 = .ok (.ifCond .eq 23, 3) := by decide +kernel
theorem dX2_readClause_9 : decode cX2_readClause 9 = .ok (.aload_n 1, 1) := by decide +kernel
theorem dX2_readClause_10 : decode cX2_readClause 10 = .ok (.getfield 43, 3) := by decide +kernel
theorem dX2_readClause_13 : decode cX2_readClause 13 = .ok (.ifCond .le 8, 3) := by decide +kernel
theorem dX2_readClause_16 : decode cX2_readClause 16 = .ok (.aload_n 0, 1) := by decide +kernel
theorem dX2_readClause_17 : decode cX2_readClause 17 = .ok (.iconst 3, 1) := by decide +kernel
theorem dX2_readClause_18 : decode cX2_readClause 18 = .ok (.invokevirtual 57, 3) := by decide +kernel
theorem dX2_readClause_21 : decode cX2_readClause 21 = .ok (.aload_n 0, 1) := by decide +kernel
theorem dX2_readClause_22 : decode cX2_readClause 22 = .ok (.aload_n 1, 1) := by decide +kernel
theorem dX2_readClause_23 : decode cX2_readClause 23 = .ok (.invokevirtual 80, 3) := by decide +kernel
theorem dX2_readClause_26 : decode cX2_readClause 26 = .ok (.goto 125, 3) := by decide +kernel
theorem dX2_readClause_29 : decode cX2_readClause 29 = .ok (.aload_n 1, 1) := by decide +kernel
theorem dX2_readClause_30 : decode cX2_readClause 30 = .ok (.getfield 43, 3) := by decide +kernel
theorem dX2_readClause_33 : decode cX2_readClause 33 = .ok (.ifCond .ne 11, 3) := by decide +kernel
theorem dX2_readClause_36 : decode cX2_readClause 36 = .ok (.aload_n 0, 1) := by decide +kernel
theorem dX2_readClause_37 : decode cX2_readClause 37 = .ok (.iconst 1, 1) := by decide +kernel
theorem dX2_readClause_38 : decode cX2_readClause 38 = .ok (.invokevirtual 57, 3) := by decide +kernel
theorem dX2_readClause_41 : decode cX2_readClause 41 = .ok (.goto 110, 3) := by decide +kernel
theorem dX2_readClause_44 : decode cX2_readClause 44 = .ok (.aload_n 0, 1) := by decide +kernel
theorem dX2_readClause_45 : decode cX2_readClause 45 = .ok (.ldc 83, 2) := by decide +kernel
theorem dX2_readClause_47 : decode cX2_readClause 47 = .ok (.invokevirtual 53, 3) := by decide +kernel
theorem dX2_readClause_50 : decode cX2_readClause 50 = .ok (.ifCond .eq 16, 3) := by decide +kernel
theorem dX2_readClause_53 : decode cX2_readClause 53 = .ok (.aload_n 0, 1) := by decide +kernel
theorem dX2_readClause_54 : decode cX2_readClause 54 = .ok (.aload_n 1, 1) := by decide +kernel
theorem dX2_readClause_55 : decode cX2_readClause 55 = .ok (.invokevirtual 85, 3) := by decide +kernel
theorem dX2_readClause_58 : decode cX2_readClause 58 = .ok (.aload_n 0, 1) := by decide +kernel
theorem dX2_readClause_59 : decode cX2_readClause 59 = .ok (.aload_n 1, 1) := by decide +kernel
theorem dX2_readClause_60 : decode cX2_readClause 60 = .ok (.invokevirtual 80, 3) := by decide +kernel
theorem dX2_readClause_63 : decode cX2_readClause 63 = .ok (.goto 88, 3) := by decide +kernel
theorem dX2_readClause_66 : decode cX2_readClause 66 = .ok (.aload_n 0, 1) := by decide +kernel
theorem dX2_readClause_67 : decode cX2_readClause 67 = .ok (.ldc 88, 2) := by decide +kernel
theorem dX2_readClause_69 : decode cX2_readClause 69 = .ok (.invokevirtual 53, 3) := by decide +kernel
theorem dX2_readClause_72 : decode cX2_readClause 72 = .ok (.ifCond .eq 25, 3) := by decide +kernel
theorem dX2_readClause_75 : decode cX2_readClause 75 = .ok (.aload_n 0, 1) := by decide +kernel
theorem dX2_readClause_76 : decode cX2_readClause 76 = .ok (.aload_n 1, 1) := by decide +kernel
theorem dX2_readClause_77 : decode cX2_readClause 77 = .ok (.getfield 90, 3) := by decide +kernel
theorem dX2_readClause_80 : decode cX2_readClause 80 = .ok (.bipush 99, 2) := by decide +kernel
theorem dX2_readClause_82 : decode cX2_readClause 82 = .ok (.aload_n 0, 1) := by decide +kernel
theorem dX2_readClause_83 : decode cX2_readClause 83 = .ok (.getfield 68, 3) := by decide +kernel
theorem dX2_readClause_86 : decode cX2_readClause 86 = .ok (.invokevirtual 93, 3) := by decide +kernel
theorem dX2_readClause_89 : decode cX2_readClause 89 = .ok (.aload_n 0, 1) := by decide +kernel
theorem dX2_readClause_90 : decode cX2_readClause 90 = .ok (.iconst 1, 1) := by decide +kernel
theorem dX2_readClause_91 : decode cX2_readClause 91 = .ok (.putfield 68, 3) := by decide +kernel
theorem dX2_readClause_94 : decode cX2_readClause 94 = .ok (.goto 57, 3) := by decide +kernel
theorem dX2_readClause_97 : decode cX2_readClause 97 = .ok (.aload_n 0, 1) := by decide +kernel
theorem dX2_readClause_98 : decode cX2_readClause 98 = .ok (.ldc 97, 2) := by decide +kernel
theorem dX2_readClause_100 : decode cX2_readClause 100 = .ok (.invokevirtual 53, 3) := by decide +kernel
theorem dX2_readClause_103 : decode cX2_readClause 103 = .ok (.ifCond .eq 26, 3) := by decide +kernel
theorem dX2_readClause_106 : decode cX2_readClause 106 = .ok (.aload_n 0, 1) := by decide +kernel
theorem dX2_readClause_107 : decode cX2_readClause 107 = .ok (.aload_n 1, 1) := by decide +kernel
theorem dX2_readClause_108 : decode cX2_readClause 108 = .ok (.getfield 99, 3) := by decide +kernel
theorem dX2_readClause_111 : decode cX2_readClause 111 = .ok (.sipush 999, 3) := by decide +kernel
theorem dX2_readClause_114 : decode cX2_readClause 114 = .ok (.aload_n 0, 1) := by decide +kernel
theorem dX2_readClause_115 : decode cX2_readClause 115 = .ok (.getfield 72, 3) := by decide +kernel
theorem dX2_readClause_118 : decode cX2_readClause 118 = .ok (.invokevirtual 93, 3) := by decide +kernel
theorem dX2_readClause_121 : decode cX2_readClause 121 = .ok (.aload_n 0, 1) := by decide +kernel
theorem dX2_readClause_122 : decode cX2_readClause 122 = .ok (.iconst 1, 1) := by decide +kernel
theorem dX2_readClause_123 : decode cX2_readClause 123 = .ok (.putfield 72, 3) := by decide +kernel
theorem dX2_readClause_126 : decode cX2_readClause 126 = .ok (.goto 25, 3) := by decide +kernel
theorem dX2_readClause_129 : decode cX2_readClause 129 = .ok (.aload_n 0, 1) := by decide +kernel
theorem dX2_readClause_130 : decode cX2_readClause 130 = .ok (.ldc 101, 2) := by decide +kernel
theorem dX2_readClause_132 : decode cX2_readClause 132 = .ok (.invokevirtual 53, 3) := by decide +kernel
theorem dX2_readClause_135 : decode cX2_readClause 135 = .ok (.ifCond .eq 11, 3) := by decide +kernel
theorem dX2_readClause_138 : decode cX2_readClause 138 = .ok (.aload_n 0, 1) := by decide +kernel
theorem dX2_readClause_139 : decode cX2_readClause 139 = .ok (.aload_n 1, 1) := by decide +kernel
theorem dX2_readClause_140 : decode cX2_readClause 140 = .ok (.invokevirtual 103, 3) := by decide +kernel
theorem dX2_readClause_143 : decode cX2_readClause 143 = .ok (.goto 8, 3) := by decide +kernel
theorem dX2_readClause_146 : decode cX2_readClause 146 = .ok (.aload_n 0, 1) := by decide +kernel
theorem dX2_readClause_147 : decode cX2_readClause 147 = .ok (.iconst 1, 1) := by decide +kernel
theorem dX2_readClause_148 : decode cX2_readClause 148 = .ok (.invokevirtual 57, 3) := by decide +kernel
theorem dX2_readClause_151 : decode cX2_readClause 151 = .ok (.return_, 1) := by decide +kernel
theorem dX2_checkPond_0 : decode cX2_checkPond 0 = .ok (.aload_n 0, 1) := by decide +kernel
theorem dX2_checkPond_1 : decode cX2_checkPond 1 = .ok (.getfield 75, 3) := by decide +kernel
theorem dX2_checkPond_4 : decode cX2_checkPond 4 = .ok (.ifCond .eq 8, 3) := by decide +kernel
theorem dX2_checkPond_7 : decode cX2_checkPond 7 = .ok (.aload_n 0, 1) := by decide +kernel
theorem dX2_checkPond_8 : decode cX2_checkPond 8 = .ok (.iconst 1, 1) := by decide +kernel
theorem dX2_checkPond_9 : decode cX2_checkPond 9 = .ok (.invokevirtual 57, 3) := by decide +kernel
theorem dX2_checkPond_12 : decode cX2_checkPond 12 = .ok (.aload_n 1, 1) := by decide +kernel
theorem dX2_checkPond_13 : decode cX2_checkPond 13 = .ok (.invokevirtual 106, 3) := by decide +kernel
theorem dX2_checkPond_16 : decode cX2_checkPond 16 = .ok (.ifCond .ne 8, 3) := by decide +kernel
theorem dX2_checkPond_19 : decode cX2_checkPond 19 = .ok (.aload_n 0, 1) := by decide +kernel
theorem dX2_checkPond_20 : decode cX2_checkPond 20 = .ok (.iconst 3, 1) := by decide +kernel
theorem dX2_checkPond_21 : decode cX2_checkPond 21 = .ok (.invokevirtual 57, 3) := by decide +kernel
theorem dX2_checkPond_24 : decode cX2_checkPond 24 = .ok (.return_, 1) := by decide +kernel
theorem dX2_readBasin_0 : decode cX2_readBasin 0 = .ok (.aload_n 0, 1) := by decide +kernel
theorem dX2_readBasin_1 : decode cX2_readBasin 1 = .ok (.iconst 0, 1) := by decide +kernel
theorem dX2_readBasin_2 : decode cX2_readBasin 2 = .ok (.sipush 999, 3) := by decide +kernel
theorem dX2_readBasin_5 : decode cX2_readBasin 5 = .ok (.invokevirtual 110, 3) := by decide +kernel
theorem dX2_readBasin_8 : decode cX2_readBasin 8 = .ok (.istore_n 2, 1) := by decide +kernel
theorem dX2_readBasin_9 : decode cX2_readBasin 9 = .ok (.aload_n 0, 1) := by decide +kernel
theorem dX2_readBasin_10 : decode cX2_readBasin 10 = .ok (.iconst 1, 1) := by decide +kernel
theorem dX2_readBasin_11 : decode cX2_readBasin 11 = .ok (.bipush 99, 2) := by decide +kernel
theorem dX2_readBasin_13 : decode cX2_readBasin 13 = .ok (.invokevirtual 110, 3) := by decide +kernel
theorem dX2_readBasin_16 : decode cX2_readBasin 16 = .ok (.istore_n 3, 1) := by decide +kernel
theorem dX2_readBasin_17 : decode cX2_readBasin 17 = .ok (.aload_n 0, 1) := by decide +kernel
theorem dX2_readBasin_18 : decode cX2_readBasin 18 = .ok (.iconst 0, 1) := by decide +kernel
theorem dX2_readBasin_19 : decode cX2_readBasin 19 = .ok (.sipush 9999, 3) := by decide +kernel
theorem dX2_readBasin_22 : decode cX2_readBasin 22 = .ok (.invokevirtual 110, 3) := by decide +kernel
theorem dX2_readBasin_25 : decode cX2_readBasin 25 = .ok (.istore 4, 2) := by decide +kernel
theorem dX2_readBasin_27 : decode cX2_readBasin 27 = .ok (.aload_n 0, 1) := by decide +kernel
theorem dX2_readBasin_28 : decode cX2_readBasin 28 = .ok (.bipush 59, 2) := by decide +kernel
theorem dX2_readBasin_30 : decode cX2_readBasin 30 = .ok (.invokevirtual 114, 3) := by decide +kernel
theorem dX2_readBasin_33 : decode cX2_readBasin 33 = .ok (.aload_n 0, 1) := by decide +kernel
theorem dX2_readBasin_34 : decode cX2_readBasin 34 = .ok (.getfield 19, 3) := by decide +kernel
theorem dX2_readBasin_37 : decode cX2_readBasin 37 = .ok (.ifCond .ne 11, 3) := by decide +kernel
theorem dX2_readBasin_40 : decode cX2_readBasin 40 = .ok (.aload_n 1, 1) := by decide +kernel
theorem dX2_readBasin_41 : decode cX2_readBasin 41 = .ok (.iload_n 2, 1) := by decide +kernel
theorem dX2_readBasin_42 : decode cX2_readBasin 42 = .ok (.iload_n 3, 1) := by decide +kernel
theorem dX2_readBasin_43 : decode cX2_readBasin 43 = .ok (.iload 4, 2) := by decide +kernel
theorem dX2_readBasin_45 : decode cX2_readBasin 45 = .ok (.invokevirtual 118, 3) := by decide +kernel
theorem dX2_readBasin_48 : decode cX2_readBasin 48 = .ok (.return_, 1) := by decide +kernel
theorem dX2_readGate_0 : decode cX2_readGate 0 = .ok (.aload_n 0, 1) := by decide +kernel
theorem dX2_readGate_1 : decode cX2_readGate 1 = .ok (.iconst 0, 1) := by decide +kernel
theorem dX2_readGate_2 : decode cX2_readGate 2 = .ok (.aload_n 1, 1) := by decide +kernel
theorem dX2_readGate_3 : decode cX2_readGate 3 = .ok (.getfield 43, 3) := by decide +kernel
theorem dX2_readGate_6 : decode cX2_readGate 6 = .ok (.iconst 1, 1) := by decide +kernel
theorem dX2_readGate_7 : decode cX2_readGate 7 = .ok (.isub, 1) := by decide +kernel
theorem dX2_readGate_8 : decode cX2_readGate 8 = .ok (.invokevirtual 110, 3) := by decide +kernel
theorem dX2_readGate_11 : decode cX2_readGate 11 = .ok (.istore_n 2, 1) := by decide +kernel
theorem dX2_readGate_12 : decode cX2_readGate 12 = .ok (.aload_n 0, 1) := by decide +kernel
theorem dX2_readGate_13 : decode cX2_readGate 13 = .ok (.getfield 75, 3) := by decide +kernel
theorem dX2_readGate_16 : decode cX2_readGate 16 = .ok (.iload_n 2, 1) := by decide +kernel
theorem dX2_readGate_17 : decode cX2_readGate 17 = .ok (.ishr, 1) := by decide +kernel
theorem dX2_readGate_18 : decode cX2_readGate 18 = .ok (.iconst 1, 1) := by decide +kernel
theorem dX2_readGate_19 : decode cX2_readGate 19 = .ok (.iand, 1) := by decide +kernel
theorem dX2_readGate_20 : decode cX2_readGate 20 = .ok (.ifCond .eq 8, 3) := by decide +kernel
theorem dX2_readGate_23 : decode cX2_readGate 23 = .ok (.aload_n 0, 1) := by decide +kernel
theorem dX2_readGate_24 : decode cX2_readGate 24 = .ok (.iconst 3, 1) := by decide +kernel
theorem dX2_readGate_25 : decode cX2_readGate 25 = .ok (.invokevirtual 57, 3) := by decide +kernel
theorem dX2_readGate_28 : decode cX2_readGate 28 = .ok (.aload_n 0, 1) := by decide +kernel
theorem dX2_readGate_29 : decode cX2_readGate 29 = .ok (.iconst 0, 1) := by decide +kernel
theorem dX2_readGate_30 : decode cX2_readGate 30 = .ok (.bipush 9, 2) := by decide +kernel
theorem dX2_readGate_32 : decode cX2_readGate 32 = .ok (.invokevirtual 110, 3) := by decide +kernel
theorem dX2_readGate_35 : decode cX2_readGate 35 = .ok (.istore_n 3, 1) := by decide +kernel
theorem dX2_readGate_36 : decode cX2_readGate 36 = .ok (.aload_n 0, 1) := by decide +kernel
theorem dX2_readGate_37 : decode cX2_readGate 37 = .ok (.iconst 0, 1) := by decide +kernel
theorem dX2_readGate_38 : decode cX2_readGate 38 = .ok (.bipush 99, 2) := by decide +kernel
theorem dX2_readGate_40 : decode cX2_readGate 40 = .ok (.invokevirtual 110, 3) := by decide +kernel
theorem dX2_readGate_43 : decode cX2_readGate 43 = .ok (.istore 4, 2) := by decide +kernel
theorem dX2_readGate_45 : decode cX2_readGate 45 = .ok (.aload_n 0, 1) := by decide +kernel
theorem dX2_readGate_46 : decode cX2_readGate 46 = .ok (.bipush 59, 2) := by decide +kernel
theorem dX2_readGate_48 : decode cX2_readGate 48 = .ok (.invokevirtual 114, 3) := by decide +kernel
theorem dX2_readGate_51 : decode cX2_readGate 51 = .ok (.aload_n 0, 1) := by decide +kernel
theorem dX2_readGate_52 : decode cX2_readGate 52 = .ok (.getfield 19, 3) := by decide +kernel
theorem dX2_readGate_55 : decode cX2_readGate 55 = .ok (.ifCond .ne 40, 3) := by decide +kernel
theorem dX2_readGate_58 : decode cX2_readGate 58 = .ok (.iload_n 2, 1) := by decide +kernel
theorem dX2_readGate_59 : decode cX2_readGate 59 = .ok (.ifCond .lt 36, 3) := by decide +kernel
theorem dX2_readGate_62 : decode cX2_readGate 62 = .ok (.iload_n 2, 1) := by decide +kernel
theorem dX2_readGate_63 : decode cX2_readGate 63 = .ok (.bipush 9, 2) := by decide +kernel
theorem dX2_readGate_65 : decode cX2_readGate 65 = .ok (.if_icmp .ge 30, 3) := by decide +kernel
theorem dX2_readGate_68 : decode cX2_readGate 68 = .ok (.aload_n 0, 1) := by decide +kernel
theorem dX2_readGate_69 : decode cX2_readGate 69 = .ok (.dup, 1) := by decide +kernel
theorem dX2_readGate_70 : decode cX2_readGate 70 = .ok (.getfield 75, 3) := by decide +kernel
theorem dX2_readGate_73 : decode cX2_readGate 73 = .ok (.iconst 1, 1) := by decide +kernel
theorem dX2_readGate_74 : decode cX2_readGate 74 = .ok (.iload_n 2, 1) := by decide +kernel
theorem dX2_readGate_75 : decode cX2_readGate 75 = .ok (.ishl, 1) := by decide +kernel
theorem dX2_readGate_76 : decode cX2_readGate 76 = .ok (.ior, 1) := by decide +kernel
theorem dX2_readGate_77 : decode cX2_readGate 77 = .ok (.putfield 75, 3) := by decide +kernel
theorem dX2_readGate_80 : decode cX2_readGate 80 = .ok (.aload_n 1, 1) := by decide +kernel
theorem dX2_readGate_81 : decode cX2_readGate 81 = .ok (.getfield 122, 3) := by decide +kernel
theorem dX2_readGate_84 : decode cX2_readGate 84 = .ok (.iload_n 2, 1) := by decide +kernel
theorem dX2_readGate_85 : decode cX2_readGate 85 = .ok (.iload_n 3, 1) := by decide +kernel
theorem dX2_readGate_86 : decode cX2_readGate 86 = .ok (.iastore, 1) := by decide +kernel
theorem dX2_readGate_87 : decode cX2_readGate 87 = .ok (.aload_n 1, 1) := by decide +kernel
theorem dX2_readGate_88 : decode cX2_readGate 88 = .ok (.getfield 125, 3) := by decide +kernel
theorem dX2_readGate_91 : decode cX2_readGate 91 = .ok (.iload_n 2, 1) := by decide +kernel
theorem dX2_readGate_92 : decode cX2_readGate 92 = .ok (.iload 4, 2) := by decide +kernel
theorem dX2_readGate_94 : decode cX2_readGate 94 = .ok (.iastore, 1) := by decide +kernel
theorem dX2_readGate_95 : decode cX2_readGate 95 = .ok (.return_, 1) := by decide +kernel
theorem dX2_readRowOnce_0 : decode cX2_readRowOnce 0 = .ok (.iload_n 3, 1) := by decide +kernel
theorem dX2_readRowOnce_1 : decode cX2_readRowOnce 1 = .ok (.ifCond .eq 8, 3) := by decide +kernel
theorem dX2_readRowOnce_4 : decode cX2_readRowOnce 4 = .ok (.aload_n 0, 1) := by decide +kernel
theorem dX2_readRowOnce_5 : decode cX2_readRowOnce 5 = .ok (.iconst 3, 1) := by decide +kernel
theorem dX2_readRowOnce_6 : decode cX2_readRowOnce 6 = .ok (.invokevirtual 57, 3) := by decide +kernel
theorem dX2_readRowOnce_9 : decode cX2_readRowOnce 9 = .ok (.iconst 0, 1) := by decide +kernel
theorem dX2_readRowOnce_10 : decode cX2_readRowOnce 10 = .ok (.istore 4, 2) := by decide +kernel
theorem dX2_readRowOnce_12 : decode cX2_readRowOnce 12 = .ok (.iload 4, 2) := by decide +kernel
theorem dX2_readRowOnce_14 : decode cX2_readRowOnce 14 = .ok (.aload_n 1, 1) := by decide +kernel
theorem dX2_readRowOnce_15 : decode cX2_readRowOnce 15 = .ok (.arraylength, 1) := by decide +kernel
theorem dX2_readRowOnce_16 : decode cX2_readRowOnce 16 = .ok (.if_icmp .gt 73, 3) := by decide +kernel
theorem dX2_readRowOnce_19 : decode cX2_readRowOnce 19 = .ok (.aload_n 0, 1) := by decide +kernel
theorem dX2_readRowOnce_20 : decode cX2_readRowOnce 20 = .ok (.getfield 19, 3) := by decide +kernel
theorem dX2_readRowOnce_23 : decode cX2_readRowOnce 23 = .ok (.ifCond .ne 66, 3) := by decide +kernel
theorem dX2_readRowOnce_26 : decode cX2_readRowOnce 26 = .ok (.aload_n 0, 1) := by decide +kernel
theorem dX2_readRowOnce_27 : decode cX2_readRowOnce 27 = .ok (.iconst 0, 1) := by decide +kernel
theorem dX2_readRowOnce_28 : decode cX2_readRowOnce 28 = .ok (.iload_n 2, 1) := by decide +kernel
theorem dX2_readRowOnce_29 : decode cX2_readRowOnce 29 = .ok (.invokevirtual 110, 3) := by decide +kernel
theorem dX2_readRowOnce_32 : decode cX2_readRowOnce 32 = .ok (.istore 5, 2) := by decide +kernel
theorem dX2_readRowOnce_34 : decode cX2_readRowOnce 34 = .ok (.iload 4, 2) := by decide +kernel
theorem dX2_readRowOnce_36 : decode cX2_readRowOnce 36 = .ok (.aload_n 1, 1) := by decide +kernel
theorem dX2_readRowOnce_37 : decode cX2_readRowOnce 37 = .ok (.arraylength, 1) := by decide +kernel
theorem dX2_readRowOnce_38 : decode cX2_readRowOnce 38 = .ok (.if_icmp .ge 12, 3) := by decide +kernel
theorem dX2_readRowOnce_41 : decode cX2_readRowOnce 41 = .ok (.aload_n 1, 1) := by decide +kernel
theorem dX2_readRowOnce_42 : decode cX2_readRowOnce 42 = .ok (.iload 4, 2) := by decide +kernel
theorem dX2_readRowOnce_44 : decode cX2_readRowOnce 44 = .ok (.iload 5, 2) := by decide +kernel
theorem dX2_readRowOnce_46 : decode cX2_readRowOnce 46 = .ok (.iastore, 1) := by decide +kernel
theorem dX2_readRowOnce_47 : decode cX2_readRowOnce 47 = .ok (.goto 8, 3) := by decide +kernel
theorem dX2_readRowOnce_50 : decode cX2_readRowOnce 50 = .ok (.aload_n 0, 1) := by decide +kernel
theorem dX2_readRowOnce_51 : decode cX2_readRowOnce 51 = .ok (.iconst 4, 1) := by decide +kernel
theorem dX2_readRowOnce_52 : decode cX2_readRowOnce 52 = .ok (.invokevirtual 57, 3) := by decide +kernel
theorem dX2_readRowOnce_55 : decode cX2_readRowOnce 55 = .ok (.aload_n 0, 1) := by decide +kernel
theorem dX2_readRowOnce_56 : decode cX2_readRowOnce 56 = .ok (.invokevirtual 33, 3) := by decide +kernel
theorem dX2_readRowOnce_59 : decode cX2_readRowOnce 59 = .ok (.aload_n 0, 1) := by decide +kernel
theorem dX2_readRowOnce_60 : decode cX2_readRowOnce 60 = .ok (.bipush 59, 2) := by decide +kernel
theorem dX2_readRowOnce_62 : decode cX2_readRowOnce 62 = .ok (.invokevirtual 128, 3) := by decide +kernel
theorem dX2_readRowOnce_65 : decode cX2_readRowOnce 65 = .ok (.ifCond .eq 4, 3) := by decide +kernel
theorem dX2_readRowOnce_68 : decode cX2_readRowOnce 68 = .ok (.return_, 1) := by decide +kernel
theorem dX2_readRowOnce_69 : decode cX2_readRowOnce 69 = .ok (.aload_n 0, 1) := by decide +kernel
theorem dX2_readRowOnce_70 : decode cX2_readRowOnce 70 = .ok (.bipush 44, 2) := by decide +kernel
theorem dX2_readRowOnce_72 : decode cX2_readRowOnce 72 = .ok (.invokevirtual 128, 3) := by decide +kernel
theorem dX2_readRowOnce_75 : decode cX2_readRowOnce 75 = .ok (.ifCond .ne 8, 3) := by decide +kernel
theorem dX2_readRowOnce_78 : decode cX2_readRowOnce 78 = .ok (.aload_n 0, 1) := by decide +kernel
theorem dX2_readRowOnce_79 : decode cX2_readRowOnce 79 = .ok (.iconst 1, 1) := by decide +kernel
theorem dX2_readRowOnce_80 : decode cX2_readRowOnce 80 = .ok (.invokevirtual 57, 3) := by decide +kernel
theorem dX2_readRowOnce_83 : decode cX2_readRowOnce 83 = .ok (.iinc 4 1, 3) := by decide +kernel
theorem dX2_readRowOnce_86 : decode cX2_readRowOnce 86 = .ok (.goto (-74), 3) := by decide +kernel
theorem dX2_readRowOnce_89 : decode cX2_readRowOnce 89 = .ok (.return_, 1) := by decide +kernel
theorem dX2_readOrder_0 : decode cX2_readOrder 0 = .ok (.aload_n 0, 1) := by decide +kernel
theorem dX2_readOrder_1 : decode cX2_readOrder 1 = .ok (.iconst 0, 1) := by decide +kernel
theorem dX2_readOrder_2 : decode cX2_readOrder 2 = .ok (.sipush 999, 3) := by decide +kernel
theorem dX2_readOrder_5 : decode cX2_readOrder 5 = .ok (.invokevirtual 110, 3) := by decide +kernel
theorem dX2_readOrder_8 : decode cX2_readOrder 8 = .ok (.istore 4, 2) := by decide +kernel
theorem dX2_readOrder_10 : decode cX2_readOrder 10 = .ok (.iload 4, 2) := by decide +kernel
theorem dX2_readOrder_12 : decode cX2_readOrder 12 = .ok (.iload_n 3, 1) := by decide +kernel
theorem dX2_readOrder_13 : decode cX2_readOrder 13 = .ok (.if_icmp .ge 8, 3) := by decide +kernel
theorem dX2_readOrder_16 : decode cX2_readOrder 16 = .ok (.aload_n 0, 1) := by decide +kernel
theorem dX2_readOrder_17 : decode cX2_readOrder 17 = .ok (.iconst 4, 1) := by decide +kernel
theorem dX2_readOrder_18 : decode cX2_readOrder 18 = .ok (.invokevirtual 57, 3) := by decide +kernel
theorem dX2_readOrder_21 : decode cX2_readOrder 21 = .ok (.aload_n 0, 1) := by decide +kernel
theorem dX2_readOrder_22 : decode cX2_readOrder 22 = .ok (.iconst 0, 1) := by decide +kernel
theorem dX2_readOrder_23 : decode cX2_readOrder 23 = .ok (.iload_n 2, 1) := by decide +kernel
theorem dX2_readOrder_24 : decode cX2_readOrder 24 = .ok (.iconst 1, 1) := by decide +kernel
theorem dX2_readOrder_25 : decode cX2_readOrder 25 = .ok (.isub, 1) := by decide +kernel
theorem dX2_readOrder_26 : decode cX2_readOrder 26 = .ok (.invokevirtual 110, 3) := by decide +kernel
theorem dX2_readOrder_29 : decode cX2_readOrder 29 = .ok (.istore 5, 2) := by decide +kernel
theorem dX2_readOrder_31 : decode cX2_readOrder 31 = .ok (.aload_n 0, 1) := by decide +kernel
theorem dX2_readOrder_32 : decode cX2_readOrder 32 = .ok (.iconst 0, 1) := by decide +kernel
theorem dX2_readOrder_33 : decode cX2_readOrder 33 = .ok (.bipush 9, 2) := by decide +kernel
theorem dX2_readOrder_35 : decode cX2_readOrder 35 = .ok (.invokevirtual 110, 3) := by decide +kernel
theorem dX2_readOrder_38 : decode cX2_readOrder 38 = .ok (.istore 6, 2) := by decide +kernel
theorem dX2_readOrder_40 : decode cX2_readOrder 40 = .ok (.aload_n 0, 1) := by decide +kernel
theorem dX2_readOrder_41 : decode cX2_readOrder 41 = .ok (.bipush 59, 2) := by decide +kernel
theorem dX2_readOrder_43 : decode cX2_readOrder 43 = .ok (.invokevirtual 114, 3) := by decide +kernel
theorem dX2_readOrder_46 : decode cX2_readOrder 46 = .ok (.aload_n 0, 1) := by decide +kernel
theorem dX2_readOrder_47 : decode cX2_readOrder 47 = .ok (.getfield 19, 3) := by decide +kernel
theorem dX2_readOrder_50 : decode cX2_readOrder 50 = .ok (.ifCond .ne 13, 3) := by decide +kernel
theorem dX2_readOrder_53 : decode cX2_readOrder 53 = .ok (.aload_n 1, 1) := by decide +kernel
theorem dX2_readOrder_54 : decode cX2_readOrder 54 = .ok (.iload 4, 2) := by decide +kernel
theorem dX2_readOrder_56 : decode cX2_readOrder 56 = .ok (.iload 5, 2) := by decide +kernel
theorem dX2_readOrder_58 : decode cX2_readOrder 58 = .ok (.iload 6, 2) := by decide +kernel
theorem dX2_readOrder_60 : decode cX2_readOrder 60 = .ok (.invokevirtual 132, 3) := by decide +kernel
theorem dX2_readOrder_63 : decode cX2_readOrder 63 = .ok (.iload 4, 2) := by decide +kernel
theorem dX2_readOrder_65 : decode cX2_readOrder 65 = .ok (.ireturn, 1) := by decide +kernel
theorem dX2_find_0 : decode cX2_find 0 = .ok (.aload_n 0, 1) := by decide +kernel
theorem dX2_find_1 : decode cX2_find 1 = .ok (.getfield 19, 3) := by decide +kernel
theorem dX2_find_4 : decode cX2_find 4 = .ok (.ifCond .ne 16, 3) := by decide +kernel
theorem dX2_find_7 : decode cX2_find 7 = .ok (.aload_n 0, 1) := by decide +kernel
theorem dX2_find_8 : decode cX2_find 8 = .ok (.iload_n 1, 1) := by decide +kernel
theorem dX2_find_9 : decode cX2_find 9 = .ok (.putfield 19, 3) := by decide +kernel
theorem dX2_find_12 : decode cX2_find 12 = .ok (.aload_n 0, 1) := by decide +kernel
theorem dX2_find_13 : decode cX2_find 13 = .ok (.aload_n 0, 1) := by decide +kernel
theorem dX2_find_14 : decode cX2_find 14 = .ok (.getfield 135, 3) := by decide +kernel
theorem dX2_find_17 : decode cX2_find 17 = .ok (.putfield 22, 3) := by decide +kernel
theorem dX2_find_20 : decode cX2_find 20 = .ok (.return_, 1) := by decide +kernel
theorem dX2_takeNumber_0 : decode cX2_takeNumber 0 = .ok (.aload_n 0, 1) := by decide +kernel
theorem dX2_takeNumber_1 : decode cX2_takeNumber 1 = .ok (.invokevirtual 33, 3) := by decide +kernel
theorem dX2_takeNumber_4 : decode cX2_takeNumber 4 = .ok (.aload_n 0, 1) := by decide +kernel
theorem dX2_takeNumber_5 : decode cX2_takeNumber 5 = .ok (.getfield 36, 3) := by decide +kernel
theorem dX2_takeNumber_8 : decode cX2_takeNumber 8 = .ok (.iconst 2, 1) := by decide +kernel
theorem dX2_takeNumber_9 : decode cX2_takeNumber 9 = .ok (.if_icmp .eq 11, 3) := by decide +kernel
theorem dX2_takeNumber_12 : decode cX2_takeNumber 12 = .ok (.aload_n 0, 1) := by decide +kernel
theorem dX2_takeNumber_13 : decode cX2_takeNumber 13 = .ok (.iconst 1, 1) := by decide +kernel
theorem dX2_takeNumber_14 : decode cX2_takeNumber 14 = .ok (.invokevirtual 57, 3) := by decide +kernel
theorem dX2_takeNumber_17 : decode cX2_takeNumber 17 = .ok (.goto 24, 3) := by decide +kernel
theorem dX2_takeNumber_20 : decode cX2_takeNumber 20 = .ok (.aload_n 0, 1) := by decide +kernel
theorem dX2_takeNumber_21 : decode cX2_takeNumber 21 = .ok (.getfield 138, 3) := by decide +kernel
theorem dX2_takeNumber_24 : decode cX2_takeNumber 24 = .ok (.iload_n 1, 1) := by decide +kernel
theorem dX2_takeNumber_25 : decode cX2_takeNumber 25 = .ok (.if_icmp .lt 11, 3) := by decide +kernel
theorem dX2_takeNumber_28 : decode cX2_takeNumber 28 = .ok (.aload_n 0, 1) := by decide +kernel
theorem dX2_takeNumber_29 : decode cX2_takeNumber 29 = .ok (.getfield 138, 3) := by decide +kernel
theorem dX2_takeNumber_32 : decode cX2_takeNumber 32 = .ok (.iload_n 2, 1) := by decide +kernel
theorem dX2_takeNumber_33 : decode cX2_takeNumber 33 = .ok (.if_icmp .le 8, 3) := by decide +kernel
theorem dX2_takeNumber_36 : decode cX2_takeNumber 36 = .ok (.aload_n 0, 1) := by decide +kernel
theorem dX2_takeNumber_37 : decode cX2_takeNumber 37 = .ok (.iconst 2, 1) := by decide +kernel
theorem dX2_takeNumber_38 : decode cX2_takeNumber 38 = .ok (.invokevirtual 57, 3) := by decide +kernel
theorem dX2_takeNumber_41 : decode cX2_takeNumber 41 = .ok (.aload_n 0, 1) := by decide +kernel
theorem dX2_takeNumber_42 : decode cX2_takeNumber 42 = .ok (.getfield 138, 3) := by decide +kernel
theorem dX2_takeNumber_45 : decode cX2_takeNumber 45 = .ok (.ireturn, 1) := by decide +kernel
theorem dX2_takeSign_0 : decode cX2_takeSign 0 = .ok (.aload_n 0, 1) := by decide +kernel
theorem dX2_takeSign_1 : decode cX2_takeSign 1 = .ok (.invokevirtual 33, 3) := by decide +kernel
theorem dX2_takeSign_4 : decode cX2_takeSign 4 = .ok (.aload_n 0, 1) := by decide +kernel
theorem dX2_takeSign_5 : decode cX2_takeSign 5 = .ok (.iload_n 1, 1) := by decide +kernel
theorem dX2_takeSign_6 : decode cX2_takeSign 6 = .ok (.invokevirtual 128, 3) := by decide +kernel
theorem dX2_takeSign_9 : decode cX2_takeSign 9 = .ok (.ifCond .ne 8, 3) := by decide +kernel
theorem dX2_takeSign_12 : decode cX2_takeSign 12 = .ok (.aload_n 0, 1) := by decide +kernel
theorem dX2_takeSign_13 : decode cX2_takeSign 13 = .ok (.iconst 1, 1) := by decide +kernel
theorem dX2_takeSign_14 : decode cX2_takeSign 14 = .ok (.invokevirtual 57, 3) := by decide +kernel
theorem dX2_takeSign_17 : decode cX2_takeSign 17 = .ok (.return_, 1) := by decide +kernel
theorem dX2_step_0 : decode cX2_step 0 = .ok (.aload_n 0, 1) := by decide +kernel
theorem dX2_step_1 : decode cX2_step 1 = .ok (.getfield 19, 3) := by decide +kernel
theorem dX2_step_4 : decode cX2_step 4 = .ok (.ifCond .eq 4, 3) := by decide +kernel
theorem dX2_step_7 : decode cX2_step 7 = .ok (.return_, 1) := by decide +kernel
theorem dX2_step_8 : decode cX2_step 8 = .ok (.aload_n 0, 1) := by decide +kernel
theorem dX2_step_9 : decode cX2_step 9 = .ok (.aload_n 0, 1) := by decide +kernel
theorem dX2_step_10 : decode cX2_step 10 = .ok (.getfield 65, 3) := by decide +kernel
theorem dX2_step_13 : decode cX2_step 13 = .ok (.putfield 135, 3) := by decide +kernel
theorem dX2_step_16 : decode cX2_step 16 = .ok (.aload_n 0, 1) := by decide +kernel
theorem dX2_step_17 : decode cX2_step 17 = .ok (.getfield 135, 3) := by decide +kernel
theorem dX2_step_20 : decode cX2_step 20 = .ok (.aload_n 0, 1) := by decide +kernel
theorem dX2_step_21 : decode cX2_step 21 = .ok (.getfield 15, 3) := by decide +kernel
theorem dX2_step_24 : decode cX2_step 24 = .ok (.if_icmp .ge 30, 3) := by decide +kernel
theorem dX2_step_27 : decode cX2_step 27 = .ok (.aload_n 0, 1) := by decide +kernel
theorem dX2_step_28 : decode cX2_step 28 = .ok (.getfield 9, 3) := by decide +kernel
theorem dX2_step_31 : decode cX2_step 31 = .ok (.aload_n 0, 1) := by decide +kernel
theorem dX2_step_32 : decode cX2_step 32 = .ok (.getfield 135, 3) := by decide +kernel
theorem dX2_step_35 : decode cX2_step 35 = .ok (.baload, 1) := by decide +kernel
theorem dX2_step_36 : decode cX2_step 36 = .ok (.bipush 32, 2) := by decide +kernel
theorem dX2_step_38 : decode cX2_step 38 = .ok (.if_icmp .ne 16, 3) := by decide +kernel
theorem dX2_step_41 : decode cX2_step 41 = .ok (.aload_n 0, 1) := by decide +kernel
theorem dX2_step_42 : decode cX2_step 42 = .ok (.dup, 1) := by decide +kernel
theorem dX2_step_43 : decode cX2_step 43 = .ok (.getfield 135, 3) := by decide +kernel
theorem dX2_step_46 : decode cX2_step 46 = .ok (.iconst 1, 1) := by decide +kernel
theorem dX2_step_47 : decode cX2_step 47 = .ok (.iadd, 1) := by decide +kernel
theorem dX2_step_48 : decode cX2_step 48 = .ok (.putfield 135, 3) := by decide +kernel
theorem dX2_step_51 : decode cX2_step 51 = .ok (.goto (-35), 3) := by decide +kernel
theorem dX2_step_54 : decode cX2_step 54 = .ok (.aload_n 0, 1) := by decide +kernel
theorem dX2_step_55 : decode cX2_step 55 = .ok (.aload_n 0, 1) := by decide +kernel
theorem dX2_step_56 : decode cX2_step 56 = .ok (.getfield 135, 3) := by decide +kernel
theorem dX2_step_59 : decode cX2_step 59 = .ok (.putfield 65, 3) := by decide +kernel
theorem dX2_step_62 : decode cX2_step 62 = .ok (.aload_n 0, 1) := by decide +kernel
theorem dX2_step_63 : decode cX2_step 63 = .ok (.getfield 135, 3) := by decide +kernel
theorem dX2_step_66 : decode cX2_step 66 = .ok (.aload_n 0, 1) := by decide +kernel
theorem dX2_step_67 : decode cX2_step 67 = .ok (.getfield 15, 3) := by decide +kernel
theorem dX2_step_70 : decode cX2_step 70 = .ok (.if_icmp .lt 11, 3) := by decide +kernel
theorem dX2_step_73 : decode cX2_step 73 = .ok (.aload_n 0, 1) := by decide +kernel
theorem dX2_step_74 : decode cX2_step 74 = .ok (.iconst 0, 1) := by decide +kernel
theorem dX2_step_75 : decode cX2_step 75 = .ok (.putfield 36, 3) := by decide +kernel
theorem dX2_step_78 : decode cX2_step 78 = .ok (.goto 168, 3) := by decide +kernel
theorem dX2_step_81 : decode cX2_step 81 = .ok (.aload_n 0, 1) := by decide +kernel
theorem dX2_step_82 : decode cX2_step 82 = .ok (.aload_n 0, 1) := by decide +kernel
theorem dX2_step_83 : decode cX2_step 83 = .ok (.getfield 135, 3) := by decide +kernel
theorem dX2_step_86 : decode cX2_step 86 = .ok (.invokevirtual 141, 3) := by decide +kernel
theorem dX2_step_89 : decode cX2_step 89 = .ok (.ifCond .eq 43, 3) := by decide +kernel
theorem dX2_step_92 : decode cX2_step 92 = .ok (.aload_n 0, 1) := by decide +kernel
theorem dX2_step_93 : decode cX2_step 93 = .ok (.iconst 1, 1) := by decide +kernel
theorem dX2_step_94 : decode cX2_step 94 = .ok (.putfield 36, 3) := by decide +kernel
theorem dX2_step_97 : decode cX2_step 97 = .ok (.aload_n 0, 1) := by decide +kernel
theorem dX2_step_98 : decode cX2_step 98 = .ok (.getfield 65, 3) := by decide +kernel
theorem dX2_step_101 : decode cX2_step 101 = .ok (.aload_n 0, 1) := by decide +kernel
theorem dX2_step_102 : decode cX2_step 102 = .ok (.getfield 15, 3) := by decide +kernel
theorem dX2_step_105 : decode cX2_step 105 = .ok (.if_icmp .ge 141, 3) := by decide +kernel
theorem dX2_step_108 : decode cX2_step 108 = .ok (.aload_n 0, 1) := by decide +kernel
theorem dX2_step_109 : decode cX2_step 109 = .ok (.aload_n 0, 1) := by decide +kernel
theorem dX2_step_110 : decode cX2_step 110 = .ok (.getfield 65, 3) := by decide +kernel
theorem dX2_step_113 : decode cX2_step 113 = .ok (.invokevirtual 141, 3) := by decide +kernel
theorem dX2_step_116 : decode cX2_step 116 = .ok (.ifCond .eq 130, 3) := by decide +kernel
theorem dX2_step_119 : decode cX2_step 119 = .ok (.aload_n 0, 1) := by decide +kernel
theorem dX2_step_120 : decode cX2_step 120 = .ok (.dup, 1) := by decide +kernel
theorem dX2_step_121 : decode cX2_step 121 = .ok (.getfield 65, 3) := by decide +kernel
theorem dX2_step_124 : decode cX2_step 124 = .ok (.iconst 1, 1) := by decide +kernel
theorem dX2_step_125 : decode cX2_step 125 = .ok (.iadd, 1) := by decide +kernel
theorem dX2_step_126 : decode cX2_step 126 = .ok (.putfield 65, 3) := by decide +kernel
theorem dX2_step_129 : decode cX2_step 129 = .ok (.goto (-32), 3) := by decide +kernel
theorem dX2_step_132 : decode cX2_step 132 = .ok (.aload_n 0, 1) := by decide +kernel
theorem dX2_step_133 : decode cX2_step 133 = .ok (.aload_n 0, 1) := by decide +kernel
theorem dX2_step_134 : decode cX2_step 134 = .ok (.getfield 135, 3) := by decide +kernel
theorem dX2_step_137 : decode cX2_step 137 = .ok (.invokevirtual 145, 3) := by decide +kernel
theorem dX2_step_140 : decode cX2_step 140 = .ok (.ifCond .eq 91, 3) := by decide +kernel
theorem dX2_step_143 : decode cX2_step 143 = .ok (.aload_n 0, 1) := by decide +kernel
theorem dX2_step_144 : decode cX2_step 144 = .ok (.iconst 2, 1) := by decide +kernel
theorem dX2_step_145 : decode cX2_step 145 = .ok (.putfield 36, 3) := by decide +kernel
theorem dX2_step_148 : decode cX2_step 148 = .ok (.aload_n 0, 1) := by decide +kernel
theorem dX2_step_149 : decode cX2_step 149 = .ok (.iconst 0, 1) := by decide +kernel
theorem dX2_step_150 : decode cX2_step 150 = .ok (.putfield 138, 3) := by decide +kernel
theorem dX2_step_153 : decode cX2_step 153 = .ok (.aload_n 0, 1) := by decide +kernel
theorem dX2_step_154 : decode cX2_step 154 = .ok (.getfield 65, 3) := by decide +kernel
theorem dX2_step_157 : decode cX2_step 157 = .ok (.aload_n 0, 1) := by decide +kernel
theorem dX2_step_158 : decode cX2_step 158 = .ok (.getfield 15, 3) := by decide +kernel
theorem dX2_step_161 : decode cX2_step 161 = .ok (.if_icmp .ge 85, 3) := by decide +kernel
theorem dX2_step_164 : decode cX2_step 164 = .ok (.aload_n 0, 1) := by decide +kernel
theorem dX2_step_165 : decode cX2_step 165 = .ok (.aload_n 0, 1) := by decide +kernel
theorem dX2_step_166 : decode cX2_step 166 = .ok (.getfield 65, 3) := by decide +kernel
theorem dX2_step_169 : decode cX2_step 169 = .ok (.invokevirtual 145, 3) := by decide +kernel
theorem dX2_step_172 : decode cX2_step 172 = .ok (.ifCond .eq 74, 3) := by decide +kernel
theorem dX2_step_175 : decode cX2_step 175 = .ok (.aload_n 0, 1) := by decide +kernel
theorem dX2_step_176 : decode cX2_step 176 = .ok (.aload_n 0, 1) := by decide +kernel
theorem dX2_step_177 : decode cX2_step 177 = .ok (.getfield 65, 3) := by decide +kernel
theorem dX2_step_180 : decode cX2_step 180 = .ok (.aload_n 0, 1) := by decide +kernel
theorem dX2_step_181 : decode cX2_step 181 = .ok (.getfield 135, 3) := by decide +kernel
theorem dX2_step_184 : decode cX2_step 184 = .ok (.isub, 1) := by decide +kernel
theorem dX2_step_185 : decode cX2_step 185 = .ok (.iconst 4, 1) := by decide +kernel
theorem dX2_step_186 : decode cX2_step 186 = .ok (.if_icmp .ge 26, 3) := by decide +kernel
theorem dX2_step_189 : decode cX2_step 189 = .ok (.aload_n 0, 1) := by decide +kernel
theorem dX2_step_190 : decode cX2_step 190 = .ok (.getfield 138, 3) := by decide +kernel
theorem dX2_step_193 : decode cX2_step 193 = .ok (.bipush 10, 2) := by decide +kernel
theorem dX2_step_195 : decode cX2_step 195 = .ok (.imul, 1) := by decide +kernel
theorem dX2_step_196 : decode cX2_step 196 = .ok (.aload_n 0, 1) := by decide +kernel
theorem dX2_step_197 : decode cX2_step 197 = .ok (.getfield 9, 3) := by decide +kernel
theorem dX2_step_200 : decode cX2_step 200 = .ok (.aload_n 0, 1) := by decide +kernel
theorem dX2_step_201 : decode cX2_step 201 = .ok (.getfield 65, 3) := by decide +kernel
theorem dX2_step_204 : decode cX2_step 204 = .ok (.baload, 1) := by decide +kernel
theorem dX2_step_205 : decode cX2_step 205 = .ok (.iadd, 1) := by decide +kernel
theorem dX2_step_206 : decode cX2_step 206 = .ok (.bipush 48, 2) := by decide +kernel
theorem dX2_step_208 : decode cX2_step 208 = .ok (.isub, 1) := by decide +kernel
theorem dX2_step_209 : decode cX2_step 209 = .ok (.goto 6, 3) := by decide +kernel
theorem dX2_step_212 : decode cX2_step 212 = .ok (.sipush 10000, 3) := by decide +kernel
theorem dX2_step_215 : decode cX2_step 215 = .ok (.putfield 138, 3) := by decide +kernel
theorem dX2_step_218 : decode cX2_step 218 = .ok (.aload_n 0, 1) := by decide +kernel
theorem dX2_step_219 : decode cX2_step 219 = .ok (.dup, 1) := by decide +kernel
theorem dX2_step_220 : decode cX2_step 220 = .ok (.getfield 65, 3) := by decide +kernel
theorem dX2_step_223 : decode cX2_step 223 = .ok (.iconst 1, 1) := by decide +kernel
theorem dX2_step_224 : decode cX2_step 224 = .ok (.iadd, 1) := by decide +kernel
theorem dX2_step_225 : decode cX2_step 225 = .ok (.putfield 65, 3) := by decide +kernel
theorem dX2_step_228 : decode cX2_step 228 = .ok (.goto (-75), 3) := by decide +kernel
theorem dX2_step_231 : decode cX2_step 231 = .ok (.aload_n 0, 1) := by decide +kernel
theorem dX2_step_232 : decode cX2_step 232 = .ok (.iconst 3, 1) := by decide +kernel
theorem dX2_step_233 : decode cX2_step 233 = .ok (.putfield 36, 3) := by decide +kernel
theorem dX2_step_236 : decode cX2_step 236 = .ok (.aload_n 0, 1) := by decide +kernel
theorem dX2_step_237 : decode cX2_step 237 = .ok (.dup, 1) := by decide +kernel
theorem dX2_step_238 : decode cX2_step 238 = .ok (.getfield 65, 3) := by decide +kernel
theorem dX2_step_241 : decode cX2_step 241 = .ok (.iconst 1, 1) := by decide +kernel
theorem dX2_step_242 : decode cX2_step 242 = .ok (.iadd, 1) := by decide +kernel
theorem dX2_step_243 : decode cX2_step 243 = .ok (.putfield 65, 3) := by decide +kernel
theorem dX2_step_246 : decode cX2_step 246 = .ok (.return_, 1) := by decide +kernel
theorem dX2_isLetter_0 : decode cX2_isLetter 0 = .ok (.iload_n 1, 1) := by decide +kernel
theorem dX2_isLetter_1 : decode cX2_isLetter 1 = .ok (.ifCond .lt 37, 3) := by decide +kernel
theorem dX2_isLetter_4 : decode cX2_isLetter 4 = .ok (.iload_n 1, 1) := by decide +kernel
theorem dX2_isLetter_5 : decode cX2_isLetter 5 = .ok (.aload_n 0, 1) := by decide +kernel
theorem dX2_isLetter_6 : decode cX2_isLetter 6 = .ok (.getfield 15, 3) := by decide +kernel
theorem dX2_isLetter_9 : decode cX2_isLetter 9 = .ok (.if_icmp .ge 29, 3) := by decide +kernel
theorem dX2_isLetter_12 : decode cX2_isLetter 12 = .ok (.aload_n 0, 1) := by decide +kernel
theorem dX2_isLetter_13 : decode cX2_isLetter 13 = .ok (.getfield 9, 3) := by decide +kernel
theorem dX2_isLetter_16 : decode cX2_isLetter 16 = .ok (.iload_n 1, 1) := by decide +kernel
theorem dX2_isLetter_17 : decode cX2_isLetter 17 = .ok (.baload, 1) := by decide +kernel
theorem dX2_isLetter_18 : decode cX2_isLetter 18 = .ok (.bipush 97, 2) := by decide +kernel
theorem dX2_isLetter_20 : decode cX2_isLetter 20 = .ok (.if_icmp .lt 18, 3) := by decide +kernel
theorem dX2_isLetter_23 : decode cX2_isLetter 23 = .ok (.aload_n 0, 1) := by decide +kernel
theorem dX2_isLetter_24 : decode cX2_isLetter 24 = .ok (.getfield 9, 3) := by decide +kernel
theorem dX2_isLetter_27 : decode cX2_isLetter 27 = .ok (.iload_n 1, 1) := by decide +kernel
theorem dX2_isLetter_28 : decode cX2_isLetter 28 = .ok (.baload, 1) := by decide +kernel
theorem dX2_isLetter_29 : decode cX2_isLetter 29 = .ok (.bipush 122, 2) := by decide +kernel
theorem dX2_isLetter_31 : decode cX2_isLetter 31 = .ok (.if_icmp .gt 7, 3) := by decide +kernel
theorem dX2_isLetter_34 : decode cX2_isLetter 34 = .ok (.iconst 1, 1) := by decide +kernel
theorem dX2_isLetter_35 : decode cX2_isLetter 35 = .ok (.goto 4, 3) := by decide +kernel
theorem dX2_isLetter_38 : decode cX2_isLetter 38 = .ok (.iconst 0, 1) := by decide +kernel
theorem dX2_isLetter_39 : decode cX2_isLetter 39 = .ok (.ireturn, 1) := by decide +kernel
theorem dX2_isFigure_0 : decode cX2_isFigure 0 = .ok (.iload_n 1, 1) := by decide +kernel
theorem dX2_isFigure_1 : decode cX2_isFigure 1 = .ok (.ifCond .lt 37, 3) := by decide +kernel
theorem dX2_isFigure_4 : decode cX2_isFigure 4 = .ok (.iload_n 1, 1) := by decide +kernel
theorem dX2_isFigure_5 : decode cX2_isFigure 5 = .ok (.aload_n 0, 1) := by decide +kernel
theorem dX2_isFigure_6 : decode cX2_isFigure 6 = .ok (.getfield 15, 3) := by decide +kernel
theorem dX2_isFigure_9 : decode cX2_isFigure 9 = .ok (.if_icmp .ge 29, 3) := by decide +kernel
theorem dX2_isFigure_12 : decode cX2_isFigure 12 = .ok (.aload_n 0, 1) := by decide +kernel
theorem dX2_isFigure_13 : decode cX2_isFigure 13 = .ok (.getfield 9, 3) := by decide +kernel
theorem dX2_isFigure_16 : decode cX2_isFigure 16 = .ok (.iload_n 1, 1) := by decide +kernel
theorem dX2_isFigure_17 : decode cX2_isFigure 17 = .ok (.baload, 1) := by decide +kernel
theorem dX2_isFigure_18 : decode cX2_isFigure 18 = .ok (.bipush 48, 2) := by decide +kernel
theorem dX2_isFigure_20 : decode cX2_isFigure 20 = .ok (.if_icmp .lt 18, 3) := by decide +kernel
theorem dX2_isFigure_23 : decode cX2_isFigure 23 = .ok (.aload_n 0, 1) := by decide +kernel
theorem dX2_isFigure_24 : decode cX2_isFigure 24 = .ok (.getfield 9, 3) := by decide +kernel
theorem dX2_isFigure_27 : decode cX2_isFigure 27 = .ok (.iload_n 1, 1) := by decide +kernel
theorem dX2_isFigure_28 : decode cX2_isFigure 28 = .ok (.baload, 1) := by decide +kernel
theorem dX2_isFigure_29 : decode cX2_isFigure 29 = .ok (.bipush 57, 2) := by decide +kernel
theorem dX2_isFigure_31 : decode cX2_isFigure 31 = .ok (.if_icmp .gt 7, 3) := by decide +kernel
theorem dX2_isFigure_34 : decode cX2_isFigure 34 = .ok (.iconst 1, 1) := by decide +kernel
theorem dX2_isFigure_35 : decode cX2_isFigure 35 = .ok (.goto 4, 3) := by decide +kernel
theorem dX2_isFigure_38 : decode cX2_isFigure 38 = .ok (.iconst 0, 1) := by decide +kernel
theorem dX2_isFigure_39 : decode cX2_isFigure 39 = .ok (.ireturn, 1) := by decide +kernel
theorem dX2_isSign_0 : decode cX2_isSign 0 = .ok (.aload_n 0, 1) := by decide +kernel
theorem dX2_isSign_1 : decode cX2_isSign 1 = .ok (.getfield 36, 3) := by decide +kernel
theorem dX2_isSign_4 : decode cX2_isSign 4 = .ok (.iconst 3, 1) := by decide +kernel
theorem dX2_isSign_5 : decode cX2_isSign 5 = .ok (.if_icmp .ne 31, 3) := by decide +kernel
theorem dX2_isSign_8 : decode cX2_isSign 8 = .ok (.aload_n 0, 1) := by decide +kernel
theorem dX2_isSign_9 : decode cX2_isSign 9 = .ok (.getfield 135, 3) := by decide +kernel
theorem dX2_isSign_12 : decode cX2_isSign 12 = .ok (.aload_n 0, 1) := by decide +kernel
theorem dX2_isSign_13 : decode cX2_isSign 13 = .ok (.getfield 15, 3) := by decide +kernel
theorem dX2_isSign_16 : decode cX2_isSign 16 = .ok (.if_icmp .ge 20, 3) := by decide +kernel
theorem dX2_isSign_19 : decode cX2_isSign 19 = .ok (.aload_n 0, 1) := by decide +kernel
theorem dX2_isSign_20 : decode cX2_isSign 20 = .ok (.getfield 9, 3) := by decide +kernel
theorem dX2_isSign_23 : decode cX2_isSign 23 = .ok (.aload_n 0, 1) := by decide +kernel
theorem dX2_isSign_24 : decode cX2_isSign 24 = .ok (.getfield 135, 3) := by decide +kernel
theorem dX2_isSign_27 : decode cX2_isSign 27 = .ok (.baload, 1) := by decide +kernel
theorem dX2_isSign_28 : decode cX2_isSign 28 = .ok (.iload_n 1, 1) := by decide +kernel
theorem dX2_isSign_29 : decode cX2_isSign 29 = .ok (.if_icmp .ne 7, 3) := by decide +kernel
theorem dX2_isSign_32 : decode cX2_isSign 32 = .ok (.iconst 1, 1) := by decide +kernel
theorem dX2_isSign_33 : decode cX2_isSign 33 = .ok (.goto 4, 3) := by decide +kernel
theorem dX2_isSign_36 : decode cX2_isSign 36 = .ok (.iconst 0, 1) := by decide +kernel
theorem dX2_isSign_37 : decode cX2_isSign 37 = .ok (.ireturn, 1) := by decide +kernel
theorem dX2_isWord_0 : decode cX2_isWord 0 = .ok (.aload_n 0, 1) := by decide +kernel
theorem dX2_isWord_1 : decode cX2_isWord 1 = .ok (.getfield 36, 3) := by decide +kernel
theorem dX2_isWord_4 : decode cX2_isWord 4 = .ok (.iconst 1, 1) := by decide +kernel
theorem dX2_isWord_5 : decode cX2_isWord 5 = .ok (.if_icmp .ne 19, 3) := by decide +kernel
theorem dX2_isWord_8 : decode cX2_isWord 8 = .ok (.aload_n 0, 1) := by decide +kernel
theorem dX2_isWord_9 : decode cX2_isWord 9 = .ok (.getfield 65, 3) := by decide +kernel
theorem dX2_isWord_12 : decode cX2_isWord 12 = .ok (.aload_n 0, 1) := by decide +kernel
theorem dX2_isWord_13 : decode cX2_isWord 13 = .ok (.getfield 135, 3) := by decide +kernel
theorem dX2_isWord_16 : decode cX2_isWord 16 = .ok (.isub, 1) := by decide +kernel
theorem dX2_isWord_17 : decode cX2_isWord 17 = .ok (.aload_n 1, 1) := by decide +kernel
theorem dX2_isWord_18 : decode cX2_isWord 18 = .ok (.invokevirtual 148, 3) := by decide +kernel
theorem dX2_isWord_21 : decode cX2_isWord 21 = .ok (.if_icmp .eq 5, 3) := by decide +kernel
theorem dX2_isWord_24 : decode cX2_isWord 24 = .ok (.iconst 0, 1) := by decide +kernel
theorem dX2_isWord_25 : decode cX2_isWord 25 = .ok (.ireturn, 1) := by decide +kernel
theorem dX2_isWord_26 : decode cX2_isWord 26 = .ok (.iconst 0, 1) := by decide +kernel
theorem dX2_isWord_27 : decode cX2_isWord 27 = .ok (.istore_n 2, 1) := by decide +kernel
theorem dX2_isWord_28 : decode cX2_isWord 28 = .ok (.iload_n 2, 1) := by decide +kernel
theorem dX2_isWord_29 : decode cX2_isWord 29 = .ok (.aload_n 1, 1) := by decide +kernel
theorem dX2_isWord_30 : decode cX2_isWord 30 = .ok (.invokevirtual 148, 3) := by decide +kernel
theorem dX2_isWord_33 : decode cX2_isWord 33 = .ok (.if_icmp .ge 30, 3) := by decide +kernel
theorem dX2_isWord_36 : decode cX2_isWord 36 = .ok (.aload_n 0, 1) := by decide +kernel
theorem dX2_isWord_37 : decode cX2_isWord 37 = .ok (.getfield 9, 3) := by decide +kernel
theorem dX2_isWord_40 : decode cX2_isWord 40 = .ok (.aload_n 0, 1) := by decide +kernel
theorem dX2_isWord_41 : decode cX2_isWord 41 = .ok (.getfield 135, 3) := by decide +kernel
theorem dX2_isWord_44 : decode cX2_isWord 44 = .ok (.iload_n 2, 1) := by decide +kernel
theorem dX2_isWord_45 : decode cX2_isWord 45 = .ok (.iadd, 1) := by decide +kernel
theorem dX2_isWord_46 : decode cX2_isWord 46 = .ok (.baload, 1) := by decide +kernel
theorem dX2_isWord_47 : decode cX2_isWord 47 = .ok (.aload_n 1, 1) := by decide +kernel
theorem dX2_isWord_48 : decode cX2_isWord 48 = .ok (.iload_n 2, 1) := by decide +kernel
theorem dX2_isWord_49 : decode cX2_isWord 49 = .ok (.invokevirtual 153, 3) := by decide +kernel
theorem dX2_isWord_52 : decode cX2_isWord 52 = .ok (.if_icmp .eq 5, 3) := by decide +kernel
theorem dX2_isWord_55 : decode cX2_isWord 55 = .ok (.iconst 0, 1) := by decide +kernel
theorem dX2_isWord_56 : decode cX2_isWord 56 = .ok (.ireturn, 1) := by decide +kernel
theorem dX2_isWord_57 : decode cX2_isWord 57 = .ok (.iinc 2 1, 3) := by decide +kernel
theorem dX2_isWord_60 : decode cX2_isWord 60 = .ok (.goto (-32), 3) := by decide +kernel
theorem dX2_isWord_63 : decode cX2_isWord 63 = .ok (.iconst 1, 1) := by decide +kernel
theorem dX2_isWord_64 : decode cX2_isWord 64 = .ok (.ireturn, 1) := by decide +kernel
