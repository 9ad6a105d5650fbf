theorem dX0_init_0 : decode cX0_init 0 = .ok (.aload_n 0, 1) := by decide +kernel
theorem dX0_init_1 : decode cX0_init 1 = .ok (.invokespecial 3, 3) := by decide +kernel
theorem dX0_init_4 : decode cX0_init 4 = .ok (.aload_n 0, 1) := by decide +kernel
theorem dX0_init_5 : decode cX0_init 5 = .ok (.iconst 5, 1) := by decide +kernel
theorem dX0_init_6 : decode cX0_init 6 = .ok (.anewarray 9, 3) := by decide +kernel
theorem dX0_init_9 : decode cX0_init 9 = .ok (.putfield 11, 3) := by decide +kernel
theorem dX0_init_12 : decode cX0_init 12 = .ok (.aload_n 0, 1) := by decide +kernel
theorem dX0_init_13 : decode cX0_init 13 = .ok (.iload_n 1, 1) := by decide +kernel
theorem dX0_init_14 : decode cX0_init 14 = .ok (.putfield 17, 3) := by decide +kernel
theorem dX0_init_17 : decode cX0_init 17 = .ok (.aload_n 0, 1) := by decide +kernel
theorem dX0_init_18 : decode cX0_init 18 = .ok (.iload_n 2, 1) := by decide +kernel
theorem dX0_init_19 : decode cX0_init 19 = .ok (.putfield 21, 3) := by decide +kernel
theorem dX0_init_22 : decode cX0_init 22 = .ok (.aload_n 0, 1) := by decide +kernel
theorem dX0_init_23 : decode cX0_init 23 = .ok (.dload_n 3, 1) := by decide +kernel
theorem dX0_init_24 : decode cX0_init 24 = .ok (.putfield 24, 3) := by decide +kernel
theorem dX0_init_27 : decode cX0_init 27 = .ok (.iconst 0, 1) := by decide +kernel
theorem dX0_init_28 : decode cX0_init 28 = .ok (.istore 5, 2) := by decide +kernel
theorem dX0_init_30 : decode cX0_init 30 = .ok (.iload 5, 2) := by decide +kernel
theorem dX0_init_32 : decode cX0_init 32 = .ok (.iconst 5, 1) := by decide +kernel
theorem dX0_init_33 : decode cX0_init 33 = .ok (.if_icmp .ge 23, 3) := by decide +kernel
theorem dX0_init_36 : decode cX0_init 36 = .ok (.aload_n 0, 1) := by decide +kernel
theorem dX0_init_37 : decode cX0_init 37 = .ok (.getfield 11, 3) := by decide +kernel
theorem dX0_init_40 : decode cX0_init 40 = .ok (.iload 5, 2) := by decide +kernel
theorem dX0_init_42 : decode cX0_init 42 = .ok (.new 9, 3) := by decide +kernel
theorem dX0_init_45 : decode cX0_init 45 = .ok (.dup, 1) := by decide +kernel
theorem dX0_init_46 : decode cX0_init 46 = .ok (.invokespecial 28, 3) := by decide +kernel
theorem dX0_init_49 : decode cX0_init 49 = .ok (.aastore, 1) := by decide +kernel
theorem dX0_init_50 : decode cX0_init 50 = .ok (.iinc 5 1, 3) := by decide +kernel
theorem dX0_init_53 : decode cX0_init 53 = .ok (.goto (-23), 3) := by decide +kernel
theorem dX0_init_56 : decode cX0_init 56 = .ok (.return_, 1) := by decide +kernel
theorem dX0_placeOf_0 : decode cX0_placeOf 0 = .ok (.dload_n 1, 1) := by decide +kernel
theorem dX0_placeOf_1 : decode cX0_placeOf 1 = .ok (.aload_n 0, 1) := by decide +kernel
theorem dX0_placeOf_2 : decode cX0_placeOf 2 = .ok (.getfield 24, 3) := by decide +kernel
theorem dX0_placeOf_5 : decode cX0_placeOf 5 = .ok (.ddiv, 1) := by decide +kernel
theorem dX0_placeOf_6 : decode cX0_placeOf 6 = .ok (.aload_n 0, 1) := by decide +kernel
theorem dX0_placeOf_7 : decode cX0_placeOf 7 = .ok (.getfield 21, 3) := by decide +kernel
theorem dX0_placeOf_10 : decode cX0_placeOf 10 = .ok (.i2d, 1) := by decide +kernel
theorem dX0_placeOf_11 : decode cX0_placeOf 11 = .ok (.dmul, 1) := by decide +kernel
theorem dX0_placeOf_12 : decode cX0_placeOf 12 = .ok (.d2i, 1) := by decide +kernel
theorem dX0_placeOf_13 : decode cX0_placeOf 13 = .ok (.ireturn, 1) := by decide +kernel
theorem dX0_movesAt_0 : decode cX0_movesAt 0 = .ok (.iload_n 1, 1) := by decide +kernel
theorem dX0_movesAt_1 : decode cX0_movesAt 1 = .ok (.aload_n 0, 1) := by decide +kernel
theorem dX0_movesAt_2 : decode cX0_movesAt 2 = .ok (.getfield 29, 3) := by decide +kernel
theorem dX0_movesAt_5 : decode cX0_movesAt 5 = .ok (.if_icmp .le 7, 3) := by decide +kernel
theorem dX0_movesAt_8 : decode cX0_movesAt 8 = .ok (.iconst 1, 1) := by decide +kernel
theorem dX0_movesAt_9 : decode cX0_movesAt 9 = .ok (.goto 4, 3) := by decide +kernel
theorem dX0_movesAt_12 : decode cX0_movesAt 12 = .ok (.iconst 0, 1) := by decide +kernel
theorem dX0_movesAt_13 : decode cX0_movesAt 13 = .ok (.ireturn, 1) := by decide +kernel
theorem dX0_refusesAt_0 : decode cX0_refusesAt 0 = .ok (.iload_n 1, 1) := by decide +kernel
theorem dX0_refusesAt_1 : decode cX0_refusesAt 1 = .ok (.aload_n 0, 1) := by decide +kernel
theorem dX0_refusesAt_2 : decode cX0_refusesAt 2 = .ok (.getfield 29, 3) := by decide +kernel
theorem dX0_refusesAt_5 : decode cX0_refusesAt 5 = .ok (.if_icmp .ge 7, 3) := by decide +kernel
theorem dX0_refusesAt_8 : decode cX0_refusesAt 8 = .ok (.iconst 1, 1) := by decide +kernel
theorem dX0_refusesAt_9 : decode cX0_refusesAt 9 = .ok (.goto 4, 3) := by decide +kernel
theorem dX0_refusesAt_12 : decode cX0_refusesAt 12 = .ok (.iconst 0, 1) := by decide +kernel
theorem dX0_refusesAt_13 : decode cX0_refusesAt 13 = .ok (.ireturn, 1) := by decide +kernel
theorem dX1_init_0 : decode cX1_init 0 = .ok (.aload_n 0, 1) := by decide +kernel
theorem dX1_init_1 : decode cX1_init 1 = .ok (.invokespecial 1, 3) := by decide +kernel
theorem dX1_init_4 : decode cX1_init 4 = .ok (.aload_n 0, 1) := by decide +kernel
theorem dX1_init_5 : decode cX1_init 5 = .ok (.iload_n 1, 1) := by decide +kernel
theorem dX1_init_6 : decode cX1_init 6 = .ok (.putfield 7, 3) := by decide +kernel
theorem dX1_init_9 : decode cX1_init 9 = .ok (.aload_n 0, 1) := by decide +kernel
theorem dX1_init_10 : decode cX1_init 10 = .ok (.dload_n 2, 1) := by decide +kernel
theorem dX1_init_11 : decode cX1_init 11 = .ok (.putfield 13, 3) := by decide +kernel
theorem dX1_init_14 : decode cX1_init 14 = .ok (.return_, 1) := by decide +kernel
theorem dX2_init_0 : decode cX2_init 0 = .ok (.aload_n 0, 1) := by decide +kernel
theorem dX2_init_1 : decode cX2_init 1 = .ok (.invokespecial 1, 3) := by decide +kernel
theorem dX2_init_4 : decode cX2_init 4 = .ok (.aload_n 0, 1) := by decide +kernel
theorem dX2_init_5 : decode cX2_init 5 = .ok (.aload_n 1, 1) := by decide +kernel
theorem dX2_init_6 : decode cX2_init 6 = .ok (.putfield 7, 3) := by decide +kernel
theorem dX2_init_9 : decode cX2_init 9 = .ok (.aload_n 0, 1) := by decide +kernel
theorem dX2_init_10 : decode cX2_init 10 = .ok (.iload_n 2, 1) := by decide +kernel
theorem dX2_init_11 : decode cX2_init 11 = .ok (.putfield 13, 3) := by decide +kernel
theorem dX2_init_14 : decode cX2_init 14 = .ok (.aload_n 0, 1) := by decide +kernel
theorem dX2_init_15 : decode cX2_init 15 = .ok (.dload_n 3, 1) := by decide +kernel
theorem dX2_init_16 : decode cX2_init 16 = .ok (.putfield 17, 3) := by decide +kernel
theorem dX2_init_19 : decode cX2_init 19 = .ok (.return_, 1) := by decide +kernel
theorem dX3_init_0 : decode cX3_init 0 = .ok (.aload_n 0, 1) := by decide +kernel
theorem dX3_init_1 : decode cX3_init 1 = .ok (.invokespecial 3, 3) := by decide +kernel
theorem dX3_init_4 : decode cX3_init 4 = .ok (.aload_n 0, 1) := by decide +kernel
theorem dX3_init_5 : decode cX3_init 5 = .ok (.iload_n 1, 1) := by decide +kernel
theorem dX3_init_6 : decode cX3_init 6 = .ok (.newarray .int, 2) := by decide +kernel
theorem dX3_init_8 : decode cX3_init 8 = .ok (.putfield 9, 3) := by decide +kernel
theorem dX3_init_11 : decode cX3_init 11 = .ok (.return_, 1) := by decide +kernel
theorem dX3_add_0 : decode cX3_add 0 = .ok (.aload_n 0, 1) := by decide +kernel
theorem dX3_add_1 : decode cX3_add 1 = .ok (.getfield 15, 3) := by decide +kernel
theorem dX3_add_4 : decode cX3_add 4 = .ok (.aload_n 0, 1) := by decide +kernel
theorem dX3_add_5 : decode cX3_add 5 = .ok (.getfield 9, 3) := by decide +kernel
theorem dX3_add_8 : decode cX3_add 8 = .ok (.arraylength, 1) := by decide +kernel
theorem dX3_add_9 : decode cX3_add 9 = .ok (.if_icmp .ge 29, 3) := by decide +kernel
theorem dX3_add_12 : decode cX3_add 12 = .ok (.aload_n 0, 1) := by decide +kernel
theorem dX3_add_13 : decode cX3_add 13 = .ok (.getfield 9, 3) := by decide +kernel
theorem dX3_add_16 : decode cX3_add 16 = .ok (.aload_n 0, 1) := by decide +kernel
theorem dX3_add_17 : decode cX3_add 17 = .ok (.getfield 15, 3) := by decide +kernel
theorem dX3_add_20 : decode cX3_add 20 = .ok (.iload_n 1, 1) := by decide +kernel
theorem dX3_add_21 : decode cX3_add 21 = .ok (.bipush 16, 2) := by decide +kernel
theorem dX3_add_23 : decode cX3_add 23 = .ok (.ishl, 1) := by decide +kernel
theorem dX3_add_24 : decode cX3_add 24 = .ok (.iload_n 2, 1) := by decide +kernel
theorem dX3_add_25 : decode cX3_add 25 = .ok (.bipush 10, 2) := by decide +kernel
theorem dX3_add_27 : decode cX3_add 27 = .ok (.ishl, 1) := by decide +kernel
theorem dX3_add_28 : decode cX3_add 28 = .ok (.ior, 1) := by decide +kernel
theorem dX3_add_29 : decode cX3_add 29 = .ok (.iload_n 3, 1) := by decide +kernel
theorem dX3_add_30 : decode cX3_add 30 = .ok (.bipush 6, 2) := by decide +kernel
theorem dX3_add_32 : decode cX3_add 32 = .ok (.ishl, 1) := by decide +kernel
theorem dX3_add_33 : decode cX3_add 33 = .ok (.ior, 1) := by decide +kernel
theorem dX3_add_34 : decode cX3_add 34 = .ok (.iload 4, 2) := by decide +kernel
theorem dX3_add_36 : decode cX3_add 36 = .ok (.ior, 1) := by decide +kernel
theorem dX3_add_37 : decode cX3_add 37 = .ok (.iastore, 1) := by decide +kernel
theorem dX3_add_38 : decode cX3_add 38 = .ok (.aload_n 0, 1) := by decide +kernel
theorem dX3_add_39 : decode cX3_add 39 = .ok (.dup, 1) := by decide +kernel
theorem dX3_add_40 : decode cX3_add 40 = .ok (.getfield 15, 3) := by decide +kernel
theorem dX3_add_43 : decode cX3_add 43 = .ok (.iconst 1, 1) := by decide +kernel
theorem dX3_add_44 : decode cX3_add 44 = .ok (.iadd, 1) := by decide +kernel
theorem dX3_add_45 : decode cX3_add 45 = .ok (.putfield 15, 3) := by decide +kernel
theorem dX3_add_48 : decode cX3_add 48 = .ok (.return_, 1) := by decide +kernel
theorem dX3_part_0 : decode cX3_part 0 = .ok (.iload_n 1, 1) := by decide +kernel
theorem dX3_part_1 : decode cX3_part 1 = .ok (.ifCond .lt 20, 3) := by decide +kernel
theorem dX3_part_4 : decode cX3_part 4 = .ok (.iload_n 1, 1) := by decide +kernel
theorem dX3_part_5 : decode cX3_part 5 = .ok (.aload_n 0, 1) := by decide +kernel
theorem dX3_part_6 : decode cX3_part 6 = .ok (.getfield 15, 3) := by decide +kernel
theorem dX3_part_9 : decode cX3_part 9 = .ok (.if_icmp .ge 12, 3) := by decide +kernel
theorem dX3_part_12 : decode cX3_part 12 = .ok (.iload_n 1, 1) := by decide +kernel
theorem dX3_part_13 : decode cX3_part 13 = .ok (.aload_n 0, 1) := by decide +kernel
theorem dX3_part_14 : decode cX3_part 14 = .ok (.getfield 9, 3) := by decide +kernel
theorem dX3_part_17 : decode cX3_part 17 = .ok (.arraylength, 1) := by decide +kernel
theorem dX3_part_18 : decode cX3_part 18 = .ok (.if_icmp .lt 5, 3) := by decide +kernel
theorem dX3_part_21 : decode cX3_part 21 = .ok (.iconst (-1), 1) := by decide +kernel
theorem dX3_part_22 : decode cX3_part 22 = .ok (.ireturn, 1) := by decide +kernel
theorem dX3_part_23 : decode cX3_part 23 = .ok (.aload_n 0, 1) := by decide +kernel
theorem dX3_part_24 : decode cX3_part 24 = .ok (.getfield 9, 3) := by decide +kernel
theorem dX3_part_27 : decode cX3_part 27 = .ok (.iload_n 1, 1) := by decide +kernel
theorem dX3_part_28 : decode cX3_part 28 = .ok (.iaload, 1) := by decide +kernel
theorem dX3_part_29 : decode cX3_part 29 = .ok (.istore_n 3, 1) := by decide +kernel
theorem dX3_part_30 : decode cX3_part 30 = .ok (.iload_n 2, 1) := by decide +kernel
theorem dX3_part_31 : decode cX3_part 31 = .ok (.tableswitch 55 0 3 #[29, 34, 42, 50], 29) := by decide +kernel
theorem dX3_part_60 : decode cX3_part 60 = .ok (.iload_n 3, 1) := by decide +kernel
theorem dX3_part_61 : decode cX3_part 61 = .ok (.bipush 16, 2) := by decide +kernel
theorem dX3_part_63 : decode cX3_part 63 = .ok (.ishr, 1) := by decide +kernel
theorem dX3_part_64 : decode cX3_part 64 = .ok (.ireturn, 1) := by decide +kernel
theorem dX3_part_65 : decode cX3_part 65 = .ok (.iload_n 3, 1) := by decide +kernel
theorem dX3_part_66 : decode cX3_part 66 = .ok (.bipush 10, 2) := by decide +kernel
theorem dX3_part_68 : decode cX3_part 68 = .ok (.ishr, 1) := by decide +kernel
theorem dX3_part_69 : decode cX3_part 69 = .ok (.bipush 63, 2) := by decide +kernel
theorem dX3_part_71 : decode cX3_part 71 = .ok (.iand, 1) := by decide +kernel
theorem dX3_part_72 : decode cX3_part 72 = .ok (.ireturn, 1) := by decide +kernel
theorem dX3_part_73 : decode cX3_part 73 = .ok (.iload_n 3, 1) := by decide +kernel
theorem dX3_part_74 : decode cX3_part 74 = .ok (.bipush 6, 2) := by decide +kernel
theorem dX3_part_76 : decode cX3_part 76 = .ok (.ishr, 1) := by decide +kernel
theorem dX3_part_77 : decode cX3_part 77 = .ok (.bipush 15, 2) := by decide +kernel
theorem dX3_part_79 : decode cX3_part 79 = .ok (.iand, 1) := by decide +kernel
theorem dX3_part_80 : decode cX3_part 80 = .ok (.ireturn, 1) := by decide +kernel
theorem dX3_part_81 : decode cX3_part 81 = .ok (.iload_n 3, 1) := by decide +kernel
theorem dX3_part_82 : decode cX3_part 82 = .ok (.bipush 63, 2) := by decide +kernel
theorem dX3_part_84 : decode cX3_part 84 = .ok (.iand, 1) := by decide +kernel
theorem dX3_part_85 : decode cX3_part 85 = .ok (.ireturn, 1) := by decide +kernel
theorem dX3_part_86 : decode cX3_part 86 = .ok (.iconst (-1), 1) := by decide +kernel
theorem dX3_part_87 : decode cX3_part 87 = .ok (.ireturn, 1) := by decide +kernel
theorem dX4_init_0 : decode cX4_init 0 = .ok (.aload_n 0, 1) := by decide +kernel
theorem dX4_init_1 : decode cX4_init 1 = .ok (.invokespecial 1, 3) := by decide +kernel
theorem dX4_init_4 : decode cX4_init 4 = .ok (.return_, 1) := by decide +kernel
theorem dX4_add_0 : decode cX4_add 0 = .ok (.iload_n 1, 1) := by decide +kernel
theorem dX4_add_1 : decode cX4_add 1 = .ok (.aload_n 0, 1) := by decide +kernel
theorem dX4_add_2 : decode cX4_add 2 = .ok (.getfield 7, 3) := by decide +kernel
theorem dX4_add_5 : decode cX4_add 5 = .ok (.isub, 1) := by decide +kernel
theorem dX4_add_6 : decode cX4_add 6 = .ok (.istore_n 2, 1) := by decide +kernel
theorem dX4_add_7 : decode cX4_add 7 = .ok (.aload_n 0, 1) := by decide +kernel
theorem dX4_add_8 : decode cX4_add 8 = .ok (.getfield 13, 3) := by decide +kernel
theorem dX4_add_11 : decode cX4_add 11 = .ok (.iconst 1, 1) := by decide +kernel
theorem dX4_add_12 : decode cX4_add 12 = .ok (.if_icmp .ne 16, 3) := by decide +kernel
theorem dX4_add_15 : decode cX4_add 15 = .ok (.aload_n 0, 1) := by decide +kernel
theorem dX4_add_16 : decode cX4_add 16 = .ok (.iload_n 2, 1) := by decide +kernel
theorem dX4_add_17 : decode cX4_add 17 = .ok (.putfield 16, 3) := by decide +kernel
theorem dX4_add_20 : decode cX4_add 20 = .ok (.aload_n 0, 1) := by decide +kernel
theorem dX4_add_21 : decode cX4_add 21 = .ok (.iload_n 2, 1) := by decide +kernel
theorem dX4_add_22 : decode cX4_add 22 = .ok (.putfield 19, 3) := by decide +kernel
theorem dX4_add_25 : decode cX4_add 25 = .ok (.goto 35, 3) := by decide +kernel
theorem dX4_add_28 : decode cX4_add 28 = .ok (.aload_n 0, 1) := by decide +kernel
theorem dX4_add_29 : decode cX4_add 29 = .ok (.getfield 13, 3) := by decide +kernel
theorem dX4_add_32 : decode cX4_add 32 = .ok (.iconst 1, 1) := by decide +kernel
theorem dX4_add_33 : decode cX4_add 33 = .ok (.if_icmp .le 27, 3) := by decide +kernel
theorem dX4_add_36 : decode cX4_add 36 = .ok (.aload_n 0, 1) := by decide +kernel
theorem dX4_add_37 : decode cX4_add 37 = .ok (.aload_n 0, 1) := by decide +kernel
theorem dX4_add_38 : decode cX4_add 38 = .ok (.getfield 16, 3) := by decide +kernel
theorem dX4_add_41 : decode cX4_add 41 = .ok (.iload_n 2, 1) := by decide +kernel
theorem dX4_add_42 : decode cX4_add 42 = .ok (.invokestatic 22, 3) := by decide +kernel
theorem dX4_add_45 : decode cX4_add 45 = .ok (.putfield 16, 3) := by decide +kernel
theorem dX4_add_48 : decode cX4_add 48 = .ok (.aload_n 0, 1) := by decide +kernel
theorem dX4_add_49 : decode cX4_add 49 = .ok (.aload_n 0, 1) := by decide +kernel
theorem dX4_add_50 : decode cX4_add 50 = .ok (.getfield 19, 3) := by decide +kernel
theorem dX4_add_53 : decode cX4_add 53 = .ok (.iload_n 2, 1) := by decide +kernel
theorem dX4_add_54 : decode cX4_add 54 = .ok (.invokestatic 28, 3) := by decide +kernel
theorem dX4_add_57 : decode cX4_add 57 = .ok (.putfield 19, 3) := by decide +kernel
theorem dX4_add_60 : decode cX4_add 60 = .ok (.aload_n 0, 1) := by decide +kernel
theorem dX4_add_61 : decode cX4_add 61 = .ok (.iload_n 1, 1) := by decide +kernel
theorem dX4_add_62 : decode cX4_add 62 = .ok (.putfield 7, 3) := by decide +kernel
theorem dX4_add_65 : decode cX4_add 65 = .ok (.aload_n 0, 1) := by decide +kernel
theorem dX4_add_66 : decode cX4_add 66 = .ok (.dup, 1) := by decide +kernel
theorem dX4_add_67 : decode cX4_add 67 = .ok (.getfield 13, 3) := by decide +kernel
theorem dX4_add_70 : decode cX4_add 70 = .ok (.iconst 1, 1) := by decide +kernel
theorem dX4_add_71 : decode cX4_add 71 = .ok (.iadd, 1) := by decide +kernel
theorem dX4_add_72 : decode cX4_add 72 = .ok (.putfield 13, 3) := by decide +kernel
theorem dX4_add_75 : decode cX4_add 75 = .ok (.return_, 1) := by decide +kernel
theorem dX5_init_0 : decode cX5_init 0 = .ok (.aload_n 0, 1) := by decide +kernel
theorem dX5_init_1 : decode cX5_init 1 = .ok (.invokespecial 1, 3) := by decide +kernel
theorem dX5_init_4 : decode cX5_init 4 = .ok (.aload_n 0, 1) := by decide +kernel
theorem dX5_init_5 : decode cX5_init 5 = .ok (.aload_n 1, 1) := by decide +kernel
theorem dX5_init_6 : decode cX5_init 6 = .ok (.putfield 7, 3) := by decide +kernel
theorem dX5_init_9 : decode cX5_init 9 = .ok (.aload_n 0, 1) := by decide +kernel
theorem dX5_init_10 : decode cX5_init 10 = .ok (.dload_n 2, 1) := by decide +kernel
theorem dX5_init_11 : decode cX5_init 11 = .ok (.putfield 13, 3) := by decide +kernel
theorem dX5_init_14 : decode cX5_init 14 = .ok (.aload_n 0, 1) := by decide +kernel
theorem dX5_init_15 : decode cX5_init 15 = .ok (.dload 4, 2) := by decide +kernel
theorem dX5_init_17 : decode cX5_init 17 = .ok (.putfield 17, 3) := by decide +kernel
theorem dX5_init_20 : decode cX5_init 20 = .ok (.return_, 1) := by decide +kernel
theorem dX5_take_0 : decode cX5_take 0 = .ok (.aload_n 0, 1) := by decide +kernel
theorem dX5_take_1 : decode cX5_take 1 = .ok (.iload_n 1, 1) := by decide +kernel
theorem dX5_take_2 : decode cX5_take 2 = .ok (.iconst 1, 1) := by decide +kernel
theorem dX5_take_3 : decode cX5_take 3 = .ok (.iadd, 1) := by decide +kernel
theorem dX5_take_4 : decode cX5_take 4 = .ok (.ldc2_w 20, 3) := by decide +kernel
theorem dX5_take_7 : decode cX5_take 7 = .ok (.aload_n 0, 1) := by decide +kernel
theorem dX5_take_8 : decode cX5_take 8 = .ok (.getfield 13, 3) := by decide +kernel
theorem dX5_take_11 : decode cX5_take 11 = .ok (.ddiv, 1) := by decide +kernel
theorem dX5_take_12 : decode cX5_take 12 = .ok (.dconst 1, 1) := by decide +kernel
theorem dX5_take_13 : decode cX5_take 13 = .ok (.aload_n 0, 1) := by decide +kernel
theorem dX5_take_14 : decode cX5_take 14 = .ok (.getfield 17, 3) := by decide +kernel
theorem dX5_take_17 : decode cX5_take 17 = .ok (.aload_n 0, 1) := by decide +kernel
theorem dX5_take_18 : decode cX5_take 18 = .ok (.getfield 22, 3) := by decide +kernel
theorem dX5_take_21 : decode cX5_take 21 = .ok (.i2d, 1) := by decide +kernel
theorem dX5_take_22 : decode cX5_take 22 = .ok (.dmul, 1) := by decide +kernel
theorem dX5_take_23 : decode cX5_take 23 = .ok (.dadd, 1) := by decide +kernel
theorem dX5_take_24 : decode cX5_take 24 = .ok (.dmul, 1) := by decide +kernel
theorem dX5_take_25 : decode cX5_take 25 = .ok (.d2i, 1) := by decide +kernel
theorem dX5_take_26 : decode cX5_take 26 = .ok (.iadd, 1) := by decide +kernel
theorem dX5_take_27 : decode cX5_take 27 = .ok (.putfield 26, 3) := by decide +kernel
theorem dX5_take_30 : decode cX5_take 30 = .ok (.aload_n 0, 1) := by decide +kernel
theorem dX5_take_31 : decode cX5_take 31 = .ok (.dup, 1) := by decide +kernel
theorem dX5_take_32 : decode cX5_take 32 = .ok (.getfield 22, 3) := by decide +kernel
theorem dX5_take_35 : decode cX5_take 35 = .ok (.iconst 1, 1) := by decide +kernel
theorem dX5_take_36 : decode cX5_take 36 = .ok (.iadd, 1) := by decide +kernel
theorem dX5_take_37 : decode cX5_take 37 = .ok (.putfield 22, 3) := by decide +kernel
theorem dX5_take_40 : decode cX5_take 40 = .ok (.return_, 1) := by decide +kernel
theorem dX6_init_0 : decode cX6_init 0 = .ok (.aload_n 0, 1) := by decide +kernel
theorem dX6_init_1 : decode cX6_init 1 = .ok (.invokespecial 1, 3) := by decide +kernel
theorem dX6_init_4 : decode cX6_init 4 = .ok (.aload_n 0, 1) := by decide +kernel
theorem dX6_init_5 : decode cX6_init 5 = .ok (.iload_n 1, 1) := by decide +kernel
theorem dX6_init_6 : decode cX6_init 6 = .ok (.putfield 7, 3) := by decide +kernel
theorem dX6_init_9 : decode cX6_init 9 = .ok (.aload_n 0, 1) := by decide +kernel
theorem dX6_init_10 : decode cX6_init 10 = .ok (.aload_n 2, 1) := by decide +kernel
theorem dX6_init_11 : decode cX6_init 11 = .ok (.putfield 13, 3) := by decide +kernel
theorem dX6_init_14 : decode cX6_init 14 = .ok (.aload_n 0, 1) := by decide +kernel
theorem dX6_init_15 : decode cX6_init 15 = .ok (.iload_n 3, 1) := by decide +kernel
theorem dX6_init_16 : decode cX6_init 16 = .ok (.putfield 17, 3) := by decide +kernel
theorem dX6_init_19 : decode cX6_init 19 = .ok (.aload_n 0, 1) := by decide +kernel
theorem dX6_init_20 : decode cX6_init 20 = .ok (.iload 4, 2) := by decide +kernel
theorem dX6_init_22 : decode cX6_init 22 = .ok (.putfield 20, 3) := by decide +kernel
theorem dX6_init_25 : decode cX6_init 25 = .ok (.aload_n 0, 1) := by decide +kernel
theorem dX6_init_26 : decode cX6_init 26 = .ok (.dload 5, 2) := by decide +kernel
theorem dX6_init_28 : decode cX6_init 28 = .ok (.putfield 23, 3) := by decide +kernel
theorem dX6_init_31 : decode cX6_init 31 = .ok (.return_, 1) := by decide +kernel
theorem dX7_init_0 : decode cX7_init 0 = .ok (.aload_n 0, 1) := by decide +kernel
theorem dX7_init_1 : decode cX7_init 1 = .ok (.invokespecial 1, 3) := by decide +kernel
theorem dX7_init_4 : decode cX7_init 4 = .ok (.aload_n 0, 1) := by decide +kernel
theorem dX7_init_5 : decode cX7_init 5 = .ok (.aload_n 1, 1) := by decide +kernel
theorem dX7_init_6 : decode cX7_init 6 = .ok (.putfield 7, 3) := by decide +kernel
theorem dX7_init_9 : decode cX7_init 9 = .ok (.aload_n 0, 1) := by decide +kernel
theorem dX7_init_10 : decode cX7_init 10 = .ok (.dload_n 2, 1) := by decide +kernel
theorem dX7_init_11 : decode cX7_init 11 = .ok (.putfield 13, 3) := by decide +kernel
theorem dX7_init_14 : decode cX7_init 14 = .ok (.aload_n 0, 1) := by decide +kernel
theorem dX7_init_15 : decode cX7_init 15 = .ok (.dload 4, 2) := by decide +kernel
theorem dX7_init_17 : decode cX7_init 17 = .ok (.putfield 17, 3) := by decide +kernel
theorem dX7_init_20 : decode cX7_init 20 = .ok (.return_, 1) := by decide +kernel
theorem dX8_init_0 : decode cX8_init 0 = .ok (.aload_n 0, 1) := by decide +kernel
theorem dX8_init_1 : decode cX8_init 1 = .ok (.invokespecial 3, 3) := by decide +kernel
theorem dX8_init_4 : decode cX8_init 4 = .ok (.aload_n 0, 1) := by decide +kernel
theorem dX8_init_5 : decode cX8_init 5 = .ok (.iconst 4, 1) := by decide +kernel
theorem dX8_init_6 : decode cX8_init 6 = .ok (.newarray .long, 2) := by decide +kernel
theorem dX8_init_8 : decode cX8_init 8 = .ok (.putfield 9, 3) := by decide +kernel
theorem dX8_init_11 : decode cX8_init 11 = .ok (.return_, 1) := by decide +kernel
theorem dX8_atRest_0 : decode cX8_atRest 0 = .ok (.aload_n 0, 1) := by decide +kernel
theorem dX8_atRest_1 : decode cX8_atRest 1 = .ok (.getfield 15, 3) := by decide +kernel
theorem dX8_atRest_4 : decode cX8_atRest 4 = .ok (.aload_n 0, 1) := by decide +kernel
theorem dX8_atRest_5 : decode cX8_atRest 5 = .ok (.getfield 19, 3) := by decide +kernel
theorem dX8_atRest_8 : decode cX8_atRest 8 = .ok (.iadd, 1) := by decide +kernel
theorem dX8_atRest_9 : decode cX8_atRest 9 = .ok (.aload_n 0, 1) := by decide +kernel
theorem dX8_atRest_10 : decode cX8_atRest 10 = .ok (.getfield 22, 3) := by decide +kernel
theorem dX8_atRest_13 : decode cX8_atRest 13 = .ok (.iadd, 1) := by decide +kernel
theorem dX8_atRest_14 : decode cX8_atRest 14 = .ok (.i2l, 1) := by decide +kernel
theorem dX8_atRest_15 : decode cX8_atRest 15 = .ok (.aload_n 0, 1) := by decide +kernel
theorem dX8_atRest_16 : decode cX8_atRest 16 = .ok (.getfield 9, 3) := by decide +kernel
theorem dX8_atRest_19 : decode cX8_atRest 19 = .ok (.iconst 0, 1) := by decide +kernel
theorem dX8_atRest_20 : decode cX8_atRest 20 = .ok (.laload, 1) := by decide +kernel
theorem dX8_atRest_21 : decode cX8_atRest 21 = .ok (.ladd, 1) := by decide +kernel
theorem dX8_atRest_22 : decode cX8_atRest 22 = .ok (.aload_n 0, 1) := by decide +kernel
theorem dX8_atRest_23 : decode cX8_atRest 23 = .ok (.getfield 9, 3) := by decide +kernel
theorem dX8_atRest_26 : decode cX8_atRest 26 = .ok (.iconst 1, 1) := by decide +kernel
theorem dX8_atRest_27 : decode cX8_atRest 27 = .ok (.laload, 1) := by decide +kernel
theorem dX8_atRest_28 : decode cX8_atRest 28 = .ok (.ladd, 1) := by decide +kernel
theorem dX8_atRest_29 : decode cX8_atRest 29 = .ok (.aload_n 0, 1) := by decide +kernel
theorem dX8_atRest_30 : decode cX8_atRest 30 = .ok (.getfield 9, 3) := by decide +kernel
theorem dX8_atRest_33 : decode cX8_atRest 33 = .ok (.iconst 2, 1) := by decide +kernel
theorem dX8_atRest_34 : decode cX8_atRest 34 = .ok (.laload, 1) := by decide +kernel
theorem dX8_atRest_35 : decode cX8_atRest 35 = .ok (.ladd, 1) := by decide +kernel
theorem dX8_atRest_36 : decode cX8_atRest 36 = .ok (.lreturn, 1) := by decide +kernel
theorem dX9_init_0 : decode cX9_init 0 = .ok (.aload_n 0, 1) := by decide +kernel
theorem dX9_init_1 : decode cX9_init 1 = .ok (.invokespecial 1, 3) := by decide +kernel
theorem dX9_init_4 : decode cX9_init 4 = .ok (.aload_n 0, 1) := by decide +kernel
theorem dX9_init_5 : decode cX9_init 5 = .ok (.bipush 6, 2) := by decide +kernel
theorem dX9_init_7 : decode cX9_init 7 = .ok (.anewarray 9, 3) := by decide +kernel
theorem dX9_init_10 : decode cX9_init 10 = .ok (.putfield 11, 3) := by decide +kernel
theorem dX9_init_13 : decode cX9_init 13 = .ok (.aload_n 0, 1) := by decide +kernel
theorem dX9_init_14 : decode cX9_init 14 = .ok (.bipush 8, 2) := by decide +kernel
theorem dX9_init_16 : decode cX9_init 16 = .ok (.anewarray 15, 3) := by decide +kernel
theorem dX9_init_19 : decode cX9_init 19 = .ok (.putfield 17, 3) := by decide +kernel
theorem dX9_init_22 : decode cX9_init 22 = .ok (.aload_n 0, 1) := by decide +kernel
theorem dX9_init_23 : decode cX9_init 23 = .ok (.iconst 4, 1) := by decide +kernel
theorem dX9_init_24 : decode cX9_init 24 = .ok (.anewarray 21, 3) := by decide +kernel
theorem dX9_init_27 : decode cX9_init 27 = .ok (.putfield 23, 3) := by decide +kernel
theorem dX9_init_30 : decode cX9_init 30 = .ok (.aload_n 0, 1) := by decide +kernel
theorem dX9_init_31 : decode cX9_init 31 = .ok (.iconst 4, 1) := by decide +kernel
theorem dX9_init_32 : decode cX9_init 32 = .ok (.anewarray 27, 3) := by decide +kernel
theorem dX9_init_35 : decode cX9_init 35 = .ok (.putfield 29, 3) := by decide +kernel
theorem dX9_init_38 : decode cX9_init 38 = .ok (.aload_n 0, 1) := by decide +kernel
theorem dX9_init_39 : decode cX9_init 39 = .ok (.iconst 4, 1) := by decide +kernel
theorem dX9_init_40 : decode cX9_init 40 = .ok (.anewarray 33, 3) := by decide +kernel
theorem dX9_init_43 : decode cX9_init 43 = .ok (.putfield 35, 3) := by decide +kernel
theorem dX9_init_46 : decode cX9_init 46 = .ok (.aload_n 0, 1) := by decide +kernel
theorem dX9_init_47 : decode cX9_init 47 = .ok (.bipush 60, 2) := by decide +kernel
theorem dX9_init_49 : decode cX9_init 49 = .ok (.anewarray 39, 3) := by decide +kernel
theorem dX9_init_52 : decode cX9_init 52 = .ok (.putfield 41, 3) := by decide +kernel
theorem dX9_init_55 : decode cX9_init 55 = .ok (.aload_n 0, 1) := by decide +kernel
theorem dX9_init_56 : decode cX9_init 56 = .ok (.new 45, 3) := by decide +kernel
theorem dX9_init_59 : decode cX9_init 59 = .ok (.dup, 1) := by decide +kernel
theorem dX9_init_60 : decode cX9_init 60 = .ok (.sipush 2000, 3) := by decide +kernel
theorem dX9_init_63 : decode cX9_init 63 = .ok (.invokespecial 47, 3) := by decide +kernel
theorem dX9_init_66 : decode cX9_init 66 = .ok (.putfield 50, 3) := by decide +kernel
theorem dX9_init_69 : decode cX9_init 69 = .ok (.aload_n 0, 1) := by decide +kernel
theorem dX9_init_70 : decode cX9_init 70 = .ok (.new 45, 3) := by decide +kernel
theorem dX9_init_73 : decode cX9_init 73 = .ok (.dup, 1) := by decide +kernel
theorem dX9_init_74 : decode cX9_init 74 = .ok (.bipush 60, 2) := by decide +kernel
theorem dX9_init_76 : decode cX9_init 76 = .ok (.invokespecial 47, 3) := by decide +kernel
theorem dX9_init_79 : decode cX9_init 79 = .ok (.putfield 54, 3) := by decide +kernel
theorem dX9_init_82 : decode cX9_init 82 = .ok (.aload_n 0, 1) := by decide +kernel
theorem dX9_init_83 : decode cX9_init 83 = .ok (.new 57, 3) := by decide +kernel
theorem dX9_init_86 : decode cX9_init 86 = .ok (.dup, 1) := by decide +kernel
theorem dX9_init_87 : decode cX9_init 87 = .ok (.invokespecial 59, 3) := by decide +kernel
theorem dX9_init_90 : decode cX9_init 90 = .ok (.putfield 60, 3) := by decide +kernel
theorem dX9_init_93 : decode cX9_init 93 = .ok (.aload_n 0, 1) := by decide +kernel
theorem dX9_init_94 : decode cX9_init 94 = .ok (.lload_n 1, 1) := by decide +kernel
theorem dX9_init_95 : decode cX9_init 95 = .ok (.putfield 64, 3) := by decide +kernel
theorem dX9_init_98 : decode cX9_init 98 = .ok (.return_, 1) := by decide +kernel
theorem dX9_belt_0 : decode cX9_belt 0 = .ok (.aload_n 0, 1) := by decide +kernel
theorem dX9_belt_1 : decode cX9_belt 1 = .ok (.invokevirtual 68, 3) := by decide +kernel
theorem dX9_belt_4 : decode cX9_belt 4 = .ok (.ifCond .ne 12, 3) := by decide +kernel
theorem dX9_belt_7 : decode cX9_belt 7 = .ok (.aload_n 0, 1) := by decide +kernel
theorem dX9_belt_8 : decode cX9_belt 8 = .ok (.getfield 72, 3) := by decide +kernel
theorem dX9_belt_11 : decode cX9_belt 11 = .ok (.bipush 6, 2) := by decide +kernel
theorem dX9_belt_13 : decode cX9_belt 13 = .ok (.if_icmp .lt 5, 3) := by decide +kernel
theorem dX9_belt_16 : decode cX9_belt 16 = .ok (.iconst (-1), 1) := by decide +kernel
theorem dX9_belt_17 : decode cX9_belt 17 = .ok (.ireturn, 1) := by decide +kernel
theorem dX9_belt_18 : decode cX9_belt 18 = .ok (.iload_n 1, 1) := by decide +kernel
theorem dX9_belt_19 : decode cX9_belt 19 = .ok (.i2d, 1) := by decide +kernel
theorem dX9_belt_20 : decode cX9_belt 20 = .ok (.dconst 1, 1) := by decide +kernel
theorem dX9_belt_21 : decode cX9_belt 21 = .ok (.ldc2_w 76, 3) := by decide +kernel
theorem dX9_belt_24 : decode cX9_belt 24 = .ok (.invokestatic 78, 3) := by decide +kernel
theorem dX9_belt_27 : decode cX9_belt 27 = .ok (.ifCond .eq 16, 3) := by decide +kernel
theorem dX9_belt_30 : decode cX9_belt 30 = .ok (.dload_n 2, 1) := by decide +kernel
theorem dX9_belt_31 : decode cX9_belt 31 = .ok (.ldc2_w 82, 3) := by decide +kernel
theorem dX9_belt_34 : decode cX9_belt 34 = .ok (.ldc2_w 76, 3) := by decide +kernel
theorem dX9_belt_37 : decode cX9_belt 37 = .ok (.invokestatic 78, 3) := by decide +kernel
theorem dX9_belt_40 : decode cX9_belt 40 = .ok (.ifCond .ne 5, 3) := by decide +kernel
theorem dX9_belt_43 : decode cX9_belt 43 = .ok (.iconst (-1), 1) := by decide +kernel
theorem dX9_belt_44 : decode cX9_belt 44 = .ok (.ireturn, 1) := by decide +kernel
theorem dX9_belt_45 : decode cX9_belt 45 = .ok (.aload_n 0, 1) := by decide +kernel
theorem dX9_belt_46 : decode cX9_belt 46 = .ok (.getfield 72, 3) := by decide +kernel
theorem dX9_belt_49 : decode cX9_belt 49 = .ok (.istore 4, 2) := by decide +kernel
theorem dX9_belt_51 : decode cX9_belt 51 = .ok (.aload_n 0, 1) := by decide +kernel
theorem dX9_belt_52 : decode cX9_belt 52 = .ok (.getfield 11, 3) := by decide +kernel
theorem dX9_belt_55 : decode cX9_belt 55 = .ok (.iload 4, 2) := by decide +kernel
theorem dX9_belt_57 : decode cX9_belt 57 = .ok (.new 9, 3) := by decide +kernel
theorem dX9_belt_60 : decode cX9_belt 60 = .ok (.dup, 1) := by decide +kernel
theorem dX9_belt_61 : decode cX9_belt 61 = .ok (.iload 4, 2) := by decide +kernel
theorem dX9_belt_63 : decode cX9_belt 63 = .ok (.iload_n 1, 1) := by decide +kernel
theorem dX9_belt_64 : decode cX9_belt 64 = .ok (.dload_n 2, 1) := by decide +kernel
theorem dX9_belt_65 : decode cX9_belt 65 = .ok (.invokespecial 84, 3) := by decide +kernel
theorem dX9_belt_68 : decode cX9_belt 68 = .ok (.aastore, 1) := by decide +kernel
theorem dX9_belt_69 : decode cX9_belt 69 = .ok (.aload_n 0, 1) := by decide +kernel
theorem dX9_belt_70 : decode cX9_belt 70 = .ok (.dup, 1) := by decide +kernel
theorem dX9_belt_71 : decode cX9_belt 71 = .ok (.getfield 72, 3) := by decide +kernel
theorem dX9_belt_74 : decode cX9_belt 74 = .ok (.iconst 1, 1) := by decide +kernel
theorem dX9_belt_75 : decode cX9_belt 75 = .ok (.iadd, 1) := by decide +kernel
theorem dX9_belt_76 : decode cX9_belt 76 = .ok (.putfield 72, 3) := by decide +kernel
theorem dX9_belt_79 : decode cX9_belt 79 = .ok (.iload 4, 2) := by decide +kernel
theorem dX9_belt_81 : decode cX9_belt 81 = .ok (.ireturn, 1) := by decide +kernel
theorem dX9_head_0 : decode cX9_head 0 = .ok (.aload_n 0, 1) := by decide +kernel
theorem dX9_head_1 : decode cX9_head 1 = .ok (.iload_n 1, 1) := by decide +kernel
theorem dX9_head_2 : decode cX9_head 2 = .ok (.invokevirtual 87, 3) := by decide +kernel
theorem dX9_head_5 : decode cX9_head 5 = .ok (.astore 6, 2) := by decide +kernel
theorem dX9_head_7 : decode cX9_head 7 = .ok (.aload_n 0, 1) := by decide +kernel
theorem dX9_head_8 : decode cX9_head 8 = .ok (.invokevirtual 68, 3) := by decide +kernel
theorem dX9_head_11 : decode cX9_head 11 = .ok (.ifCond .ne 17, 3) := by decide +kernel
theorem dX9_head_14 : decode cX9_head 14 = .ok (.aload_n 0, 1) := by decide +kernel
theorem dX9_head_15 : decode cX9_head 15 = .ok (.getfield 91, 3) := by decide +kernel
theorem dX9_head_18 : decode cX9_head 18 = .ok (.bipush 8, 2) := by decide +kernel
theorem dX9_head_20 : decode cX9_head 20 = .ok (.if_icmp .ge 8, 3) := by decide +kernel
theorem dX9_head_23 : decode cX9_head 23 = .ok (.aload 6, 2) := by decide +kernel
theorem dX9_head_25 : decode cX9_head 25 = .ok (.ifnonnull 5, 3) := by decide +kernel
theorem dX9_head_28 : decode cX9_head 28 = .ok (.iconst (-1), 1) := by decide +kernel
theorem dX9_head_29 : decode cX9_head 29 = .ok (.ireturn, 1) := by decide +kernel
theorem dX9_head_30 : decode cX9_head 30 = .ok (.dload_n 2, 1) := by decide +kernel
theorem dX9_head_31 : decode cX9_head 31 = .ok (.dconst 0, 1) := by decide +kernel
theorem dX9_head_32 : decode cX9_head 32 = .ok (.aload 6, 2) := by decide +kernel
theorem dX9_head_34 : decode cX9_head 34 = .ok (.getfield 94, 3) := by decide +kernel
theorem dX9_head_37 : decode cX9_head 37 = .ok (.invokestatic 78, 3) := by decide +kernel
theorem dX9_head_40 : decode cX9_head 40 = .ok (.ifCond .eq 13, 3) := by decide +kernel
theorem dX9_head_43 : decode cX9_head 43 = .ok (.dload 4, 2) := by decide +kernel
theorem dX9_head_45 : decode cX9_head 45 = .ok (.dconst 0, 1) := by decide +kernel
theorem dX9_head_46 : decode cX9_head 46 = .ok (.dconst 1, 1) := by decide +kernel
theorem dX9_head_47 : decode cX9_head 47 = .ok (.invokestatic 78, 3) := by decide +kernel
theorem dX9_head_50 : decode cX9_head 50 = .ok (.ifCond .ne 5, 3) := by decide +kernel
theorem dX9_head_53 : decode cX9_head 53 = .ok (.iconst (-1), 1) := by decide +kernel
theorem dX9_head_54 : decode cX9_head 54 = .ok (.ireturn, 1) := by decide +kernel
theorem dX9_head_55 : decode cX9_head 55 = .ok (.aload_n 0, 1) := by decide +kernel
theorem dX9_head_56 : decode cX9_head 56 = .ok (.getfield 91, 3) := by decide +kernel
theorem dX9_head_59 : decode cX9_head 59 = .ok (.istore 7, 2) := by decide +kernel
theorem dX9_head_61 : decode cX9_head 61 = .ok (.aload_n 0, 1) := by decide +kernel
theorem dX9_head_62 : decode cX9_head 62 = .ok (.getfield 17, 3) := by decide +kernel
theorem dX9_head_65 : decode cX9_head 65 = .ok (.iload 7, 2) := by decide +kernel
theorem dX9_head_67 : decode cX9_head 67 = .ok (.new 15, 3) := by decide +kernel
theorem dX9_head_70 : decode cX9_head 70 = .ok (.dup, 1) := by decide +kernel
theorem dX9_head_71 : decode cX9_head 71 = .ok (.aload 6, 2) := by decide +kernel
theorem dX9_head_73 : decode cX9_head 73 = .ok (.aload 6, 2) := by decide +kernel
theorem dX9_head_75 : decode cX9_head 75 = .ok (.dload_n 2, 1) := by decide +kernel
theorem dX9_head_76 : decode cX9_head 76 = .ok (.invokevirtual 98, 3) := by decide +kernel
theorem dX9_head_79 : decode cX9_head 79 = .ok (.dload 4, 2) := by decide +kernel
theorem dX9_head_81 : decode cX9_head 81 = .ok (.invokespecial 102, 3) := by decide +kernel
theorem dX9_head_84 : decode cX9_head 84 = .ok (.aastore, 1) := by decide +kernel
theorem dX9_head_85 : decode cX9_head 85 = .ok (.aload_n 0, 1) := by decide +kernel
theorem dX9_head_86 : decode cX9_head 86 = .ok (.dup, 1) := by decide +kernel
theorem dX9_head_87 : decode cX9_head 87 = .ok (.getfield 91, 3) := by decide +kernel
theorem dX9_head_90 : decode cX9_head 90 = .ok (.iconst 1, 1) := by decide +kernel
theorem dX9_head_91 : decode cX9_head 91 = .ok (.iadd, 1) := by decide +kernel
theorem dX9_head_92 : decode cX9_head 92 = .ok (.putfield 91, 3) := by decide +kernel
theorem dX9_head_95 : decode cX9_head 95 = .ok (.iload 7, 2) := by decide +kernel
theorem dX9_head_97 : decode cX9_head 97 = .ok (.ireturn, 1) := by decide +kernel
theorem dX9_bunker_0 : decode cX9_bunker 0 = .ok (.aload_n 0, 1) := by decide +kernel
theorem dX9_bunker_1 : decode cX9_bunker 1 = .ok (.invokevirtual 68, 3) := by decide +kernel
theorem dX9_bunker_4 : decode cX9_bunker 4 = .ok (.ifCond .ne 22, 3) := by decide +kernel
theorem dX9_bunker_7 : decode cX9_bunker 7 = .ok (.aload_n 0, 1) := by decide +kernel
theorem dX9_bunker_8 : decode cX9_bunker 8 = .ok (.getfield 105, 3) := by decide +kernel
theorem dX9_bunker_11 : decode cX9_bunker 11 = .ok (.iconst 4, 1) := by decide +kernel
theorem dX9_bunker_12 : decode cX9_bunker 12 = .ok (.if_icmp .ge 14, 3) := by decide +kernel
theorem dX9_bunker_15 : decode cX9_bunker 15 = .ok (.dload_n 1, 1) := by decide +kernel
theorem dX9_bunker_16 : decode cX9_bunker 16 = .ok (.dconst 0, 1) := by decide +kernel
theorem dX9_bunker_17 : decode cX9_bunker 17 = .ok (.ldc2_w 108, 3) := by decide +kernel
theorem dX9_bunker_20 : decode cX9_bunker 20 = .ok (.invokestatic 78, 3) := by decide +kernel
theorem dX9_bunker_23 : decode cX9_bunker 23 = .ok (.ifCond .ne 5, 3) := by decide +kernel
theorem dX9_bunker_26 : decode cX9_bunker 26 = .ok (.iconst (-1), 1) := by decide +kernel
theorem dX9_bunker_27 : decode cX9_bunker 27 = .ok (.ireturn, 1) := by decide +kernel
theorem dX9_bunker_28 : decode cX9_bunker 28 = .ok (.aload_n 0, 1) := by decide +kernel
theorem dX9_bunker_29 : decode cX9_bunker 29 = .ok (.getfield 105, 3) := by decide +kernel
theorem dX9_bunker_32 : decode cX9_bunker 32 = .ok (.istore_n 3, 1) := by decide +kernel
theorem dX9_bunker_33 : decode cX9_bunker 33 = .ok (.aload_n 0, 1) := by decide +kernel
theorem dX9_bunker_34 : decode cX9_bunker 34 = .ok (.getfield 23, 3) := by decide +kernel
theorem dX9_bunker_37 : decode cX9_bunker 37 = .ok (.iload_n 3, 1) := by decide +kernel
theorem dX9_bunker_38 : decode cX9_bunker 38 = .ok (.new 21, 3) := by decide +kernel
theorem dX9_bunker_41 : decode cX9_bunker 41 = .ok (.dup, 1) := by decide +kernel
theorem dX9_bunker_42 : decode cX9_bunker 42 = .ok (.iload_n 3, 1) := by decide +kernel
theorem dX9_bunker_43 : decode cX9_bunker 43 = .ok (.dload_n 1, 1) := by decide +kernel
theorem dX9_bunker_44 : decode cX9_bunker 44 = .ok (.invokespecial 110, 3) := by decide +kernel
theorem dX9_bunker_47 : decode cX9_bunker 47 = .ok (.aastore, 1) := by decide +kernel
theorem dX9_bunker_48 : decode cX9_bunker 48 = .ok (.aload_n 0, 1) := by decide +kernel
theorem dX9_bunker_49 : decode cX9_bunker 49 = .ok (.dup, 1) := by decide +kernel
theorem dX9_bunker_50 : decode cX9_bunker 50 = .ok (.getfield 105, 3) := by decide +kernel
theorem dX9_bunker_53 : decode cX9_bunker 53 = .ok (.iconst 1, 1) := by decide +kernel
theorem dX9_bunker_54 : decode cX9_bunker 54 = .ok (.iadd, 1) := by decide +kernel
theorem dX9_bunker_55 : decode cX9_bunker 55 = .ok (.putfield 105, 3) := by decide +kernel
theorem dX9_bunker_58 : decode cX9_bunker 58 = .ok (.iload_n 3, 1) := by decide +kernel
theorem dX9_bunker_59 : decode cX9_bunker 59 = .ok (.ireturn, 1) := by decide +kernel
theorem dX9_joinTo_0 : decode cX9_joinTo 0 = .ok (.aload_n 0, 1) := by decide +kernel
theorem dX9_joinTo_1 : decode cX9_joinTo 1 = .ok (.iload_n 1, 1) := by decide +kernel
theorem dX9_joinTo_2 : decode cX9_joinTo 2 = .ok (.invokevirtual 87, 3) := by decide +kernel
theorem dX9_joinTo_5 : decode cX9_joinTo 5 = .ok (.astore_n 3, 1) := by decide +kernel
theorem dX9_joinTo_6 : decode cX9_joinTo 6 = .ok (.aload_n 0, 1) := by decide +kernel
theorem dX9_joinTo_7 : decode cX9_joinTo 7 = .ok (.invokevirtual 68, 3) := by decide +kernel
theorem dX9_joinTo_10 : decode cX9_joinTo 10 = .ok (.ifCond .ne 7, 3) := by decide +kernel
theorem dX9_joinTo_13 : decode cX9_joinTo 13 = .ok (.aload_n 3, 1) := by decide +kernel
theorem dX9_joinTo_14 : decode cX9_joinTo 14 = .ok (.ifnonnull 5, 3) := by decide +kernel
theorem dX9_joinTo_17 : decode cX9_joinTo 17 = .ok (.iconst 0, 1) := by decide +kernel
theorem dX9_joinTo_18 : decode cX9_joinTo 18 = .ok (.ireturn, 1) := by decide +kernel
theorem dX9_joinTo_19 : decode cX9_joinTo 19 = .ok (.aload_n 0, 1) := by decide +kernel
theorem dX9_joinTo_20 : decode cX9_joinTo 20 = .ok (.iload_n 2, 1) := by decide +kernel
theorem dX9_joinTo_21 : decode cX9_joinTo 21 = .ok (.invokevirtual 87, 3) := by decide +kernel
theorem dX9_joinTo_24 : decode cX9_joinTo 24 = .ok (.astore 4, 2) := by decide +kernel
theorem dX9_joinTo_26 : decode cX9_joinTo 26 = .ok (.aload_n 0, 1) := by decide +kernel
theorem dX9_joinTo_27 : decode cX9_joinTo 27 = .ok (.iload_n 2, 1) := by decide +kernel
theorem dX9_joinTo_28 : decode cX9_joinTo 28 = .ok (.invokevirtual 113, 3) := by decide +kernel
theorem dX9_joinTo_31 : decode cX9_joinTo 31 = .ok (.astore 5, 2) := by decide +kernel
theorem dX9_joinTo_33 : decode cX9_joinTo 33 = .ok (.iload_n 2, 1) := by decide +kernel
theorem dX9_joinTo_34 : decode cX9_joinTo 34 = .ok (.iconst (-1), 1) := by decide +kernel
theorem dX9_joinTo_35 : decode cX9_joinTo 35 = .ok (.if_icmp .eq 15, 3) := by decide +kernel
theorem dX9_joinTo_38 : decode cX9_joinTo 38 = .ok (.aload 4, 2) := by decide +kernel
theorem dX9_joinTo_40 : decode cX9_joinTo 40 = .ok (.ifnonnull 10, 3) := by decide +kernel
theorem dX9_joinTo_43 : decode cX9_joinTo 43 = .ok (.aload 5, 2) := by decide +kernel
theorem dX9_joinTo_45 : decode cX9_joinTo 45 = .ok (.ifnonnull 5, 3) := by decide +kernel
theorem dX9_joinTo_48 : decode cX9_joinTo 48 = .ok (.iconst 0, 1) := by decide +kernel
theorem dX9_joinTo_49 : decode cX9_joinTo 49 = .ok (.ireturn, 1) := by decide +kernel
theorem dX9_joinTo_50 : decode cX9_joinTo 50 = .ok (.aload_n 3, 1) := by decide +kernel
theorem dX9_joinTo_51 : decode cX9_joinTo 51 = .ok (.aload 4, 2) := by decide +kernel
theorem dX9_joinTo_53 : decode cX9_joinTo 53 = .ok (.putfield 117, 3) := by decide +kernel
theorem dX9_joinTo_56 : decode cX9_joinTo 56 = .ok (.aload_n 3, 1) := by decide +kernel
theorem dX9_joinTo_57 : decode cX9_joinTo 57 = .ok (.aload 5, 2) := by decide +kernel
theorem dX9_joinTo_59 : decode cX9_joinTo 59 = .ok (.putfield 121, 3) := by decide +kernel
theorem dX9_joinTo_62 : decode cX9_joinTo 62 = .ok (.iconst 1, 1) := by decide +kernel
theorem dX9_joinTo_63 : decode cX9_joinTo 63 = .ok (.ireturn, 1) := by decide +kernel
theorem dX9_rule_0 : decode cX9_rule 0 = .ok (.aload_n 0, 1) := by decide +kernel
theorem dX9_rule_1 : decode cX9_rule 1 = .ok (.iload_n 1, 1) := by decide +kernel
theorem dX9_rule_2 : decode cX9_rule 2 = .ok (.invokevirtual 87, 3) := by decide +kernel
theorem dX9_rule_5 : decode cX9_rule 5 = .ok (.astore 5, 2) := by decide +kernel
theorem dX9_rule_7 : decode cX9_rule 7 = .ok (.aload_n 0, 1) := by decide +kernel
theorem dX9_rule_8 : decode cX9_rule 8 = .ok (.invokevirtual 68, 3) := by decide +kernel
theorem dX9_rule_11 : decode cX9_rule 11 = .ok (.ifCond .ne 8, 3) := by decide +kernel
theorem dX9_rule_14 : decode cX9_rule 14 = .ok (.aload 5, 2) := by decide +kernel
theorem dX9_rule_16 : decode cX9_rule 16 = .ok (.ifnonnull 5, 3) := by decide +kernel
theorem dX9_rule_19 : decode cX9_rule 19 = .ok (.iconst 0, 1) := by decide +kernel
theorem dX9_rule_20 : decode cX9_rule 20 = .ok (.ireturn, 1) := by decide +kernel
theorem dX9_rule_21 : decode cX9_rule 21 = .ok (.dload_n 2, 1) := by decide +kernel
theorem dX9_rule_22 : decode cX9_rule 22 = .ok (.dconst 0, 1) := by decide +kernel
theorem dX9_rule_23 : decode cX9_rule 23 = .ok (.ldc2_w 108, 3) := by decide +kernel
theorem dX9_rule_26 : decode cX9_rule 26 = .ok (.invokestatic 78, 3) := by decide +kernel
theorem dX9_rule_29 : decode cX9_rule 29 = .ok (.ifCond .eq 16, 3) := by decide +kernel
theorem dX9_rule_32 : decode cX9_rule 32 = .ok (.iload 4, 2) := by decide +kernel
theorem dX9_rule_34 : decode cX9_rule 34 = .ok (.i2d, 1) := by decide +kernel
theorem dX9_rule_35 : decode cX9_rule 35 = .ok (.dconst 1, 1) := by decide +kernel
theorem dX9_rule_36 : decode cX9_rule 36 = .ok (.ldc2_w 76, 3) := by decide +kernel
theorem dX9_rule_39 : decode cX9_rule 39 = .ok (.invokestatic 78, 3) := by decide +kernel
theorem dX9_rule_42 : decode cX9_rule 42 = .ok (.ifCond .ne 5, 3) := by decide +kernel
theorem dX9_rule_45 : decode cX9_rule 45 = .ok (.iconst 0, 1) := by decide +kernel
theorem dX9_rule_46 : decode cX9_rule 46 = .ok (.ireturn, 1) := by decide +kernel
theorem dX9_rule_47 : decode cX9_rule 47 = .ok (.aload 5, 2) := by decide +kernel
theorem dX9_rule_49 : decode cX9_rule 49 = .ok (.iconst 1, 1) := by decide +kernel
theorem dX9_rule_50 : decode cX9_rule 50 = .ok (.putfield 125, 3) := by decide +kernel
theorem dX9_rule_53 : decode cX9_rule 53 = .ok (.aload 5, 2) := by decide +kernel
theorem dX9_rule_55 : decode cX9_rule 55 = .ok (.dload_n 2, 1) := by decide +kernel
theorem dX9_rule_56 : decode cX9_rule 56 = .ok (.putfield 129, 3) := by decide +kernel
theorem dX9_rule_59 : decode cX9_rule 59 = .ok (.aload 5, 2) := by decide +kernel
theorem dX9_rule_61 : decode cX9_rule 61 = .ok (.iload 4, 2) := by decide +kernel
theorem dX9_rule_63 : decode cX9_rule 63 = .ok (.putfield 132, 3) := by decide +kernel
theorem dX9_rule_66 : decode cX9_rule 66 = .ok (.iconst 1, 1) := by decide +kernel
theorem dX9_rule_67 : decode cX9_rule 67 = .ok (.ireturn, 1) := by decide +kernel
theorem dX9_picker_0 : decode cX9_picker 0 = .ok (.aload_n 0, 1) := by decide +kernel
theorem dX9_picker_1 : decode cX9_picker 1 = .ok (.iload_n 1, 1) := by decide +kernel
theorem dX9_picker_2 : decode cX9_picker 2 = .ok (.invokevirtual 87, 3) := by decide +kernel
theorem dX9_picker_5 : decode cX9_picker 5 = .ok (.astore 6, 2) := by decide +kernel
theorem dX9_picker_7 : decode cX9_picker 7 = .ok (.aload_n 0, 1) := by decide +kernel
theorem dX9_picker_8 : decode cX9_picker 8 = .ok (.invokevirtual 68, 3) := by decide +kernel
theorem dX9_picker_11 : decode cX9_picker 11 = .ok (.ifCond .ne 16, 3) := by decide +kernel
theorem dX9_picker_14 : decode cX9_picker 14 = .ok (.aload_n 0, 1) := by decide +kernel
theorem dX9_picker_15 : decode cX9_picker 15 = .ok (.getfield 135, 3) := by decide +kernel
theorem dX9_picker_18 : decode cX9_picker 18 = .ok (.iconst 4, 1) := by decide +kernel
theorem dX9_picker_19 : decode cX9_picker 19 = .ok (.if_icmp .ge 8, 3) := by decide +kernel
theorem dX9_picker_22 : decode cX9_picker 22 = .ok (.aload 6, 2) := by decide +kernel
theorem dX9_picker_24 : decode cX9_picker 24 = .ok (.ifnonnull 5, 3) := by decide +kernel
theorem dX9_picker_27 : decode cX9_picker 27 = .ok (.iconst (-1), 1) := by decide +kernel
theorem dX9_picker_28 : decode cX9_picker 28 = .ok (.ireturn, 1) := by decide +kernel
theorem dX9_picker_29 : decode cX9_picker 29 = .ok (.dload_n 2, 1) := by decide +kernel
theorem dX9_picker_30 : decode cX9_picker 30 = .ok (.ldc2_w 138, 3) := by decide +kernel
theorem dX9_picker_33 : decode cX9_picker 33 = .ok (.ldc2_w 140, 3) := by decide +kernel
theorem dX9_picker_36 : decode cX9_picker 36 = .ok (.invokestatic 78, 3) := by decide +kernel
theorem dX9_picker_39 : decode cX9_picker 39 = .ok (.ifCond .eq 15, 3) := by decide +kernel
theorem dX9_picker_42 : decode cX9_picker 42 = .ok (.dload 4, 2) := by decide +kernel
theorem dX9_picker_44 : decode cX9_picker 44 = .ok (.dconst 0, 1) := by decide +kernel
theorem dX9_picker_45 : decode cX9_picker 45 = .ok (.ldc2_w 142, 3) := by decide +kernel
theorem dX9_picker_48 : decode cX9_picker 48 = .ok (.invokestatic 78, 3) := by decide +kernel
theorem dX9_picker_51 : decode cX9_picker 51 = .ok (.ifCond .ne 5, 3) := by decide +kernel
theorem dX9_picker_54 : decode cX9_picker 54 = .ok (.iconst (-1), 1) := by decide +kernel
theorem dX9_picker_55 : decode cX9_picker 55 = .ok (.ireturn, 1) := by decide +kernel
theorem dX9_picker_56 : decode cX9_picker 56 = .ok (.aload_n 0, 1) := by decide +kernel
theorem dX9_picker_57 : decode cX9_picker 57 = .ok (.getfield 135, 3) := by decide +kernel
theorem dX9_picker_60 : decode cX9_picker 60 = .ok (.istore 7, 2) := by decide +kernel
theorem dX9_picker_62 : decode cX9_picker 62 = .ok (.aload_n 0, 1) := by decide +kernel
theorem dX9_picker_63 : decode cX9_picker 63 = .ok (.getfield 29, 3) := by decide +kernel
theorem dX9_picker_66 : decode cX9_picker 66 = .ok (.iload 7, 2) := by decide +kernel
theorem dX9_picker_68 : decode cX9_picker 68 = .ok (.new 27, 3) := by decide +kernel
theorem dX9_picker_71 : decode cX9_picker 71 = .ok (.dup, 1) := by decide +kernel
theorem dX9_picker_72 : decode cX9_picker 72 = .ok (.aload 6, 2) := by decide +kernel
theorem dX9_picker_74 : decode cX9_picker 74 = .ok (.dload_n 2, 1) := by decide +kernel
theorem dX9_picker_75 : decode cX9_picker 75 = .ok (.dload 4, 2) := by decide +kernel
theorem dX9_picker_77 : decode cX9_picker 77 = .ok (.invokespecial 144, 3) := by decide +kernel
theorem dX9_picker_80 : decode cX9_picker 80 = .ok (.aastore, 1) := by decide +kernel
theorem dX9_picker_81 : decode cX9_picker 81 = .ok (.aload_n 0, 1) := by decide +kernel
theorem dX9_picker_82 : decode cX9_picker 82 = .ok (.dup, 1) := by decide +kernel
theorem dX9_picker_83 : decode cX9_picker 83 = .ok (.getfield 135, 3) := by decide +kernel
theorem dX9_picker_86 : decode cX9_picker 86 = .ok (.iconst 1, 1) := by decide +kernel
theorem dX9_picker_87 : decode cX9_picker 87 = .ok (.iadd, 1) := by decide +kernel
theorem dX9_picker_88 : decode cX9_picker 88 = .ok (.putfield 135, 3) := by decide +kernel
theorem dX9_picker_91 : decode cX9_picker 91 = .ok (.iload 7, 2) := by decide +kernel
theorem dX9_picker_93 : decode cX9_picker 93 = .ok (.ireturn, 1) := by decide +kernel
theorem dX9_robot_0 : decode cX9_robot 0 = .ok (.aload_n 0, 1) := by decide +kernel
theorem dX9_robot_1 : decode cX9_robot 1 = .ok (.iload_n 1, 1) := by decide +kernel
theorem dX9_robot_2 : decode cX9_robot 2 = .ok (.invokevirtual 87, 3) := by decide +kernel
theorem dX9_robot_5 : decode cX9_robot 5 = .ok (.astore 6, 2) := by decide +kernel
theorem dX9_robot_7 : decode cX9_robot 7 = .ok (.aload_n 0, 1) := by decide +kernel
theorem dX9_robot_8 : decode cX9_robot 8 = .ok (.invokevirtual 68, 3) := by decide +kernel
theorem dX9_robot_11 : decode cX9_robot 11 = .ok (.ifCond .ne 16, 3) := by decide +kernel
theorem dX9_robot_14 : decode cX9_robot 14 = .ok (.aload_n 0, 1) := by decide +kernel
theorem dX9_robot_15 : decode cX9_robot 15 = .ok (.getfield 147, 3) := by decide +kernel
theorem dX9_robot_18 : decode cX9_robot 18 = .ok (.iconst 4, 1) := by decide +kernel
theorem dX9_robot_19 : decode cX9_robot 19 = .ok (.if_icmp .ge 8, 3) := by decide +kernel
theorem dX9_robot_22 : decode cX9_robot 22 = .ok (.aload 6, 2) := by decide +kernel
theorem dX9_robot_24 : decode cX9_robot 24 = .ok (.ifnonnull 5, 3) := by decide +kernel
theorem dX9_robot_27 : decode cX9_robot 27 = .ok (.iconst (-1), 1) := by decide +kernel
theorem dX9_robot_28 : decode cX9_robot 28 = .ok (.ireturn, 1) := by decide +kernel
theorem dX9_robot_29 : decode cX9_robot 29 = .ok (.dload_n 2, 1) := by decide +kernel
theorem dX9_robot_30 : decode cX9_robot 30 = .ok (.dconst 0, 1) := by decide +kernel
theorem dX9_robot_31 : decode cX9_robot 31 = .ok (.ldc2_w 142, 3) := by decide +kernel
theorem dX9_robot_34 : decode cX9_robot 34 = .ok (.invokestatic 78, 3) := by decide +kernel
theorem dX9_robot_37 : decode cX9_robot 37 = .ok (.ifCond .eq 13, 3) := by decide +kernel
theorem dX9_robot_40 : decode cX9_robot 40 = .ok (.dload 4, 2) := by decide +kernel
theorem dX9_robot_42 : decode cX9_robot 42 = .ok (.dconst 0, 1) := by decide +kernel
theorem dX9_robot_43 : decode cX9_robot 43 = .ok (.dconst 1, 1) := by decide +kernel
theorem dX9_robot_44 : decode cX9_robot 44 = .ok (.invokestatic 78, 3) := by decide +kernel
theorem dX9_robot_47 : decode cX9_robot 47 = .ok (.ifCond .ne 5, 3) := by decide +kernel
theorem dX9_robot_50 : decode cX9_robot 50 = .ok (.iconst (-1), 1) := by decide +kernel
theorem dX9_robot_51 : decode cX9_robot 51 = .ok (.ireturn, 1) := by decide +kernel
theorem dX9_robot_52 : decode cX9_robot 52 = .ok (.aload_n 0, 1) := by decide +kernel
theorem dX9_robot_53 : decode cX9_robot 53 = .ok (.getfield 147, 3) := by decide +kernel
theorem dX9_robot_56 : decode cX9_robot 56 = .ok (.istore 7, 2) := by decide +kernel
theorem dX9_robot_58 : decode cX9_robot 58 = .ok (.aload_n 0, 1) := by decide +kernel
theorem dX9_robot_59 : decode cX9_robot 59 = .ok (.getfield 35, 3) := by decide +kernel
theorem dX9_robot_62 : decode cX9_robot 62 = .ok (.iload 7, 2) := by decide +kernel
theorem dX9_robot_64 : decode cX9_robot 64 = .ok (.new 33, 3) := by decide +kernel
theorem dX9_robot_67 : decode cX9_robot 67 = .ok (.dup, 1) := by decide +kernel
theorem dX9_robot_68 : decode cX9_robot 68 = .ok (.aload 6, 2) := by decide +kernel
theorem dX9_robot_70 : decode cX9_robot 70 = .ok (.dload_n 2, 1) := by decide +kernel
theorem dX9_robot_71 : decode cX9_robot 71 = .ok (.dload 4, 2) := by decide +kernel
theorem dX9_robot_73 : decode cX9_robot 73 = .ok (.invokespecial 150, 3) := by decide +kernel
theorem dX9_robot_76 : decode cX9_robot 76 = .ok (.aastore, 1) := by decide +kernel
theorem dX9_robot_77 : decode cX9_robot 77 = .ok (.aload_n 0, 1) := by decide +kernel
theorem dX9_robot_78 : decode cX9_robot 78 = .ok (.dup, 1) := by decide +kernel
theorem dX9_robot_79 : decode cX9_robot 79 = .ok (.getfield 147, 3) := by decide +kernel
theorem dX9_robot_82 : decode cX9_robot 82 = .ok (.iconst 1, 1) := by decide +kernel
theorem dX9_robot_83 : decode cX9_robot 83 = .ok (.iadd, 1) := by decide +kernel
theorem dX9_robot_84 : decode cX9_robot 84 = .ok (.putfield 147, 3) := by decide +kernel
theorem dX9_robot_87 : decode cX9_robot 87 = .ok (.iload 7, 2) := by decide +kernel
theorem dX9_robot_89 : decode cX9_robot 89 = .ok (.ireturn, 1) := by decide +kernel
theorem dX9_feed_0 : decode cX9_feed 0 = .ok (.aload_n 0, 1) := by decide +kernel
theorem dX9_feed_1 : decode cX9_feed 1 = .ok (.iload_n 1, 1) := by decide +kernel
theorem dX9_feed_2 : decode cX9_feed 2 = .ok (.invokevirtual 87, 3) := by decide +kernel
theorem dX9_feed_5 : decode cX9_feed 5 = .ok (.astore 6, 2) := by decide +kernel
theorem dX9_feed_7 : decode cX9_feed 7 = .ok (.aload_n 0, 1) := by decide +kernel
theorem dX9_feed_8 : decode cX9_feed 8 = .ok (.getfield 151, 3) := by decide +kernel
theorem dX9_feed_11 : decode cX9_feed 11 = .ok (.bipush 60, 2) := by decide +kernel
theorem dX9_feed_13 : decode cX9_feed 13 = .ok (.if_icmp .ge 15, 3) := by decide +kernel
theorem dX9_feed_16 : decode cX9_feed 16 = .ok (.aload 6, 2) := by decide +kernel
theorem dX9_feed_18 : decode cX9_feed 18 = .ok (.ifnull 10, 3) := by decide +kernel
theorem dX9_feed_21 : decode cX9_feed 21 = .ok (.iload_n 3, 1) := by decide +kernel
theorem dX9_feed_22 : decode cX9_feed 22 = .ok (.invokestatic 154, 3) := by decide +kernel
theorem dX9_feed_25 : decode cX9_feed 25 = .ok (.ifCond .ne 5, 3) := by decide +kernel
theorem dX9_feed_28 : decode cX9_feed 28 = .ok (.iconst 0, 1) := by decide +kernel
theorem dX9_feed_29 : decode cX9_feed 29 = .ok (.ireturn, 1) := by decide +kernel
theorem dX9_feed_30 : decode cX9_feed 30 = .ok (.iload_n 2, 1) := by decide +kernel
theorem dX9_feed_31 : decode cX9_feed 31 = .ok (.aload_n 0, 1) := by decide +kernel
theorem dX9_feed_32 : decode cX9_feed 32 = .ok (.getfield 158, 3) := by decide +kernel
theorem dX9_feed_35 : decode cX9_feed 35 = .ok (.if_icmp .le 22, 3) := by decide +kernel
theorem dX9_feed_38 : decode cX9_feed 38 = .ok (.iload_n 2, 1) := by decide +kernel
theorem dX9_feed_39 : decode cX9_feed 39 = .ok (.sipush 10000, 3) := by decide +kernel
theorem dX9_feed_42 : decode cX9_feed 42 = .ok (.if_icmp .gt 15, 3) := by decide +kernel
theorem dX9_feed_45 : decode cX9_feed 45 = .ok (.dload 4, 2) := by decide +kernel
theorem dX9_feed_47 : decode cX9_feed 47 = .ok (.dconst 0, 1) := by decide +kernel
theorem dX9_feed_48 : decode cX9_feed 48 = .ok (.ldc2_w 142, 3) := by decide +kernel
theorem dX9_feed_51 : decode cX9_feed 51 = .ok (.invokestatic 78, 3) := by decide +kernel
theorem dX9_feed_54 : decode cX9_feed 54 = .ok (.ifCond .ne 5, 3) := by decide +kernel
theorem dX9_feed_57 : decode cX9_feed 57 = .ok (.iconst 0, 1) := by decide +kernel
theorem dX9_feed_58 : decode cX9_feed 58 = .ok (.ireturn, 1) := by decide +kernel
theorem dX9_feed_59 : decode cX9_feed 59 = .ok (.aload_n 0, 1) := by decide +kernel
theorem dX9_feed_60 : decode cX9_feed 60 = .ok (.getfield 41, 3) := by decide +kernel
theorem dX9_feed_63 : decode cX9_feed 63 = .ok (.aload_n 0, 1) := by decide +kernel
theorem dX9_feed_64 : decode cX9_feed 64 = .ok (.getfield 151, 3) := by decide +kernel
theorem dX9_feed_67 : decode cX9_feed 67 = .ok (.new 39, 3) := by decide +kernel
theorem dX9_feed_70 : decode cX9_feed 70 = .ok (.dup, 1) := by decide +kernel
theorem dX9_feed_71 : decode cX9_feed 71 = .ok (.aload_n 0, 1) := by decide +kernel
theorem dX9_feed_72 : decode cX9_feed 72 = .ok (.getfield 151, 3) := by decide +kernel
theorem dX9_feed_75 : decode cX9_feed 75 = .ok (.aload 6, 2) := by decide +kernel
theorem dX9_feed_77 : decode cX9_feed 77 = .ok (.iload_n 2, 1) := by decide +kernel
theorem dX9_feed_78 : decode cX9_feed 78 = .ok (.iload_n 3, 1) := by decide +kernel
theorem dX9_feed_79 : decode cX9_feed 79 = .ok (.dload 4, 2) := by decide +kernel
theorem dX9_feed_81 : decode cX9_feed 81 = .ok (.invokespecial 161, 3) := by decide +kernel
theorem dX9_feed_84 : decode cX9_feed 84 = .ok (.aastore, 1) := by decide +kernel
theorem dX9_feed_85 : decode cX9_feed 85 = .ok (.aload_n 0, 1) := by decide +kernel
theorem dX9_feed_86 : decode cX9_feed 86 = .ok (.dup, 1) := by decide +kernel
theorem dX9_feed_87 : decode cX9_feed 87 = .ok (.getfield 151, 3) := by decide +kernel
theorem dX9_feed_90 : decode cX9_feed 90 = .ok (.iconst 1, 1) := by decide +kernel
theorem dX9_feed_91 : decode cX9_feed 91 = .ok (.iadd, 1) := by decide +kernel
theorem dX9_feed_92 : decode cX9_feed 92 = .ok (.putfield 151, 3) := by decide +kernel
theorem dX9_feed_95 : decode cX9_feed 95 = .ok (.iconst 1, 1) := by decide +kernel
theorem dX9_feed_96 : decode cX9_feed 96 = .ok (.ireturn, 1) := by decide +kernel
theorem dX9_run_0 : decode cX9_run 0 = .ok (.iload_n 1, 1) := by decide +kernel
theorem dX9_run_1 : decode cX9_run 1 = .ok (.aload_n 0, 1) := by decide +kernel
theorem dX9_run_2 : decode cX9_run 2 = .ok (.getfield 158, 3) := by decide +kernel
theorem dX9_run_5 : decode cX9_run 5 = .ok (.if_icmp .lt 10, 3) := by decide +kernel
theorem dX9_run_8 : decode cX9_run 8 = .ok (.iload_n 1, 1) := by decide +kernel
theorem dX9_run_9 : decode cX9_run 9 = .ok (.sipush 10000, 3) := by decide +kernel
theorem dX9_run_12 : decode cX9_run 12 = .ok (.if_icmp .le 5, 3) := by decide +kernel
theorem dX9_run_15 : decode cX9_run 15 = .ok (.iconst (-1), 1) := by decide +kernel
theorem dX9_run_16 : decode cX9_run 16 = .ok (.ireturn, 1) := by decide +kernel
theorem dX9_run_17 : decode cX9_run 17 = .ok (.aload_n 0, 1) := by decide +kernel
theorem dX9_run_18 : decode cX9_run 18 = .ok (.getfield 158, 3) := by decide +kernel
theorem dX9_run_21 : decode cX9_run 21 = .ok (.iconst 1, 1) := by decide +kernel
theorem dX9_run_22 : decode cX9_run 22 = .ok (.iadd, 1) := by decide +kernel
theorem dX9_run_23 : decode cX9_run 23 = .ok (.istore_n 2, 1) := by decide +kernel
theorem dX9_run_24 : decode cX9_run 24 = .ok (.iload_n 2, 1) := by decide +kernel
theorem dX9_run_25 : decode cX9_run 25 = .ok (.iload_n 1, 1) := by decide +kernel
theorem dX9_run_26 : decode cX9_run 26 = .ok (.if_icmp .gt 34, 3) := by decide +kernel
theorem dX9_run_29 : decode cX9_run 29 = .ok (.aload_n 0, 1) := by decide +kernel
theorem dX9_run_30 : decode cX9_run 30 = .ok (.getfield 60, 3) := by decide +kernel
theorem dX9_run_33 : decode cX9_run 33 = .ok (.invokevirtual 164, 3) := by decide +kernel
theorem dX9_run_36 : decode cX9_run 36 = .ok (.aload_n 0, 1) := by decide +kernel
theorem dX9_run_37 : decode cX9_run 37 = .ok (.getfield 151, 3) := by decide +kernel
theorem dX9_run_40 : decode cX9_run 40 = .ok (.i2l, 1) := by decide +kernel
theorem dX9_run_41 : decode cX9_run 41 = .ok (.lcmp, 1) := by decide +kernel
theorem dX9_run_42 : decode cX9_run 42 = .ok (.ifCond .ge 18, 3) := by decide +kernel
theorem dX9_run_45 : decode cX9_run 45 = .ok (.aload_n 0, 1) := by decide +kernel
theorem dX9_run_46 : decode cX9_run 46 = .ok (.iload_n 2, 1) := by decide +kernel
theorem dX9_run_47 : decode cX9_run 47 = .ok (.putfield 158, 3) := by decide +kernel
theorem dX9_run_50 : decode cX9_run 50 = .ok (.aload_n 0, 1) := by decide +kernel
theorem dX9_run_51 : decode cX9_run 51 = .ok (.invokevirtual 168, 3) := by decide +kernel
theorem dX9_run_54 : decode cX9_run 54 = .ok (.iinc 2 1, 3) := by decide +kernel
theorem dX9_run_57 : decode cX9_run 57 = .ok (.goto (-33), 3) := by decide +kernel
theorem dX9_run_60 : decode cX9_run 60 = .ok (.aload_n 0, 1) := by decide +kernel
theorem dX9_run_61 : decode cX9_run 61 = .ok (.iload_n 1, 1) := by decide +kernel
theorem dX9_run_62 : decode cX9_run 62 = .ok (.putfield 158, 3) := by decide +kernel
theorem dX9_run_65 : decode cX9_run 65 = .ok (.aload_n 0, 1) := by decide +kernel
theorem dX9_run_66 : decode cX9_run 66 = .ok (.getfield 50, 3) := by decide +kernel
theorem dX9_run_69 : decode cX9_run 69 = .ok (.getfield 171, 3) := by decide +kernel
theorem dX9_run_72 : decode cX9_run 72 = .ok (.ireturn, 1) := by decide +kernel
theorem dX9_event_0 : decode cX9_event 0 = .ok (.aload_n 0, 1) := by decide +kernel
theorem dX9_event_1 : decode cX9_event 1 = .ok (.getfield 50, 3) := by decide +kernel
theorem dX9_event_4 : decode cX9_event 4 = .ok (.iload_n 1, 1) := by decide +kernel
theorem dX9_event_5 : decode cX9_event 5 = .ok (.iload_n 2, 1) := by decide +kernel
theorem dX9_event_6 : decode cX9_event 6 = .ok (.invokevirtual 174, 3) := by decide +kernel
theorem dX9_event_9 : decode cX9_event 9 = .ok (.ireturn, 1) := by decide +kernel
theorem dX9_out_0 : decode cX9_out 0 = .ok (.aload_n 0, 1) := by decide +kernel
theorem dX9_out_1 : decode cX9_out 1 = .ok (.iload_n 1, 1) := by decide +kernel
theorem dX9_out_2 : decode cX9_out 2 = .ok (.invokevirtual 87, 3) := by decide +kernel
theorem dX9_out_5 : decode cX9_out 5 = .ok (.astore_n 3, 1) := by decide +kernel
theorem dX9_out_6 : decode cX9_out 6 = .ok (.aload_n 3, 1) := by decide +kernel
theorem dX9_out_7 : decode cX9_out 7 = .ok (.ifnull 10, 3) := by decide +kernel
theorem dX9_out_10 : decode cX9_out 10 = .ok (.iload_n 2, 1) := by decide +kernel
theorem dX9_out_11 : decode cX9_out 11 = .ok (.invokestatic 154, 3) := by decide +kernel
theorem dX9_out_14 : decode cX9_out 14 = .ok (.ifCond .ne 7, 3) := by decide +kernel
theorem dX9_out_17 : decode cX9_out 17 = .ok (.ldc2_w 178, 3) := by decide +kernel
theorem dX9_out_20 : decode cX9_out 20 = .ok (.lreturn, 1) := by decide +kernel
theorem dX9_out_21 : decode cX9_out 21 = .ok (.aload_n 3, 1) := by decide +kernel
theorem dX9_out_22 : decode cX9_out 22 = .ok (.getfield 180, 3) := by decide +kernel
theorem dX9_out_25 : decode cX9_out 25 = .ok (.iload_n 2, 1) := by decide +kernel
theorem dX9_out_26 : decode cX9_out 26 = .ok (.aaload, 1) := by decide +kernel
theorem dX9_out_27 : decode cX9_out 27 = .ok (.getfield 184, 3) := by decide +kernel
theorem dX9_out_30 : decode cX9_out 30 = .ok (.i2l, 1) := by decide +kernel
theorem dX9_out_31 : decode cX9_out 31 = .ok (.lreturn, 1) := by decide +kernel
theorem dX9_inside_0 : decode cX9_inside 0 = .ok (.aload_n 0, 1) := by decide +kernel
theorem dX9_inside_1 : decode cX9_inside 1 = .ok (.invokevirtual 189, 3) := by decide +kernel
theorem dX9_inside_4 : decode cX9_inside 4 = .ok (.aload_n 0, 1) := by decide +kernel
theorem dX9_inside_5 : decode cX9_inside 5 = .ok (.getfield 60, 3) := by decide +kernel
theorem dX9_inside_8 : decode cX9_inside 8 = .ok (.getfield 193, 3) := by decide +kernel
theorem dX9_inside_11 : decode cX9_inside 11 = .ok (.iadd, 1) := by decide +kernel
theorem dX9_inside_12 : decode cX9_inside 12 = .ok (.i2l, 1) := by decide +kernel
theorem dX9_inside_13 : decode cX9_inside 13 = .ok (.lreturn, 1) := by decide +kernel
theorem dX9_jam_0 : decode cX9_jam 0 = .ok (.aload_n 0, 1) := by decide +kernel
theorem dX9_jam_1 : decode cX9_jam 1 = .ok (.getfield 54, 3) := by decide +kernel
theorem dX9_jam_4 : decode cX9_jam 4 = .ok (.iload_n 1, 1) := by decide +kernel
theorem dX9_jam_5 : decode cX9_jam 5 = .ok (.iload_n 2, 1) := by decide +kernel
theorem dX9_jam_6 : decode cX9_jam 6 = .ok (.invokevirtual 174, 3) := by decide +kernel
theorem dX9_jam_9 : decode cX9_jam 9 = .ok (.ireturn, 1) := by decide +kernel
theorem dX9_lost_0 : decode cX9_lost 0 = .ok (.iload_n 1, 1) := by decide +kernel
theorem dX9_lost_1 : decode cX9_lost 1 = .ok (.ifCond .lt 20, 3) := by decide +kernel
theorem dX9_lost_4 : decode cX9_lost 4 = .ok (.iload_n 1, 1) := by decide +kernel
theorem dX9_lost_5 : decode cX9_lost 5 = .ok (.iconst 4, 1) := by decide +kernel
theorem dX9_lost_6 : decode cX9_lost 6 = .ok (.if_icmp .ge 15, 3) := by decide +kernel
theorem dX9_lost_9 : decode cX9_lost 9 = .ok (.aload_n 0, 1) := by decide +kernel
theorem dX9_lost_10 : decode cX9_lost 10 = .ok (.getfield 60, 3) := by decide +kernel
theorem dX9_lost_13 : decode cX9_lost 13 = .ok (.getfield 196, 3) := by decide +kernel
theorem dX9_lost_16 : decode cX9_lost 16 = .ok (.iload_n 1, 1) := by decide +kernel
theorem dX9_lost_17 : decode cX9_lost 17 = .ok (.laload, 1) := by decide +kernel
theorem dX9_lost_18 : decode cX9_lost 18 = .ok (.goto 6, 3) := by decide +kernel
theorem dX9_lost_21 : decode cX9_lost 21 = .ok (.ldc2_w 178, 3) := by decide +kernel
theorem dX9_lost_24 : decode cX9_lost 24 = .ok (.lreturn, 1) := by decide +kernel
theorem dX9_interval_0 : decode cX9_interval 0 = .ok (.aload_n 0, 1) := by decide +kernel
theorem dX9_interval_1 : decode cX9_interval 1 = .ok (.iload_n 1, 1) := by decide +kernel
theorem dX9_interval_2 : decode cX9_interval 2 = .ok (.invokevirtual 87, 3) := by decide +kernel
theorem dX9_interval_5 : decode cX9_interval 5 = .ok (.astore 4, 2) := by decide +kernel
theorem dX9_interval_7 : decode cX9_interval 7 = .ok (.aload 4, 2) := by decide +kernel
theorem dX9_interval_9 : decode cX9_interval 9 = .ok (.ifnull 19, 3) := by decide +kernel
theorem dX9_interval_12 : decode cX9_interval 12 = .ok (.iload_n 2, 1) := by decide +kernel
theorem dX9_interval_13 : decode cX9_interval 13 = .ok (.invokestatic 154, 3) := by decide +kernel
theorem dX9_interval_16 : decode cX9_interval 16 = .ok (.ifCond .eq 12, 3) := by decide +kernel
theorem dX9_interval_19 : decode cX9_interval 19 = .ok (.iload_n 3, 1) := by decide +kernel
theorem dX9_interval_20 : decode cX9_interval 20 = .ok (.ifCond .lt 8, 3) := by decide +kernel
theorem dX9_interval_23 : decode cX9_interval 23 = .ok (.iload_n 3, 1) := by decide +kernel
theorem dX9_interval_24 : decode cX9_interval 24 = .ok (.iconst 1, 1) := by decide +kernel
theorem dX9_interval_25 : decode cX9_interval 25 = .ok (.if_icmp .le 7, 3) := by decide +kernel
theorem dX9_interval_28 : decode cX9_interval 28 = .ok (.ldc2_w 200, 3) := by decide +kernel
theorem dX9_interval_31 : decode cX9_interval 31 = .ok (.dreturn, 1) := by decide +kernel
theorem dX9_interval_32 : decode cX9_interval 32 = .ok (.aload 4, 2) := by decide +kernel
theorem dX9_interval_34 : decode cX9_interval 34 = .ok (.getfield 180, 3) := by decide +kernel
theorem dX9_interval_37 : decode cX9_interval 37 = .ok (.iload_n 2, 1) := by decide +kernel
theorem dX9_interval_38 : decode cX9_interval 38 = .ok (.aaload, 1) := by decide +kernel
theorem dX9_interval_39 : decode cX9_interval 39 = .ok (.astore 5, 2) := by decide +kernel
theorem dX9_interval_41 : decode cX9_interval 41 = .ok (.aload 5, 2) := by decide +kernel
theorem dX9_interval_43 : decode cX9_interval 43 = .ok (.getfield 184, 3) := by decide +kernel
theorem dX9_interval_46 : decode cX9_interval 46 = .ok (.iconst 2, 1) := by decide +kernel
theorem dX9_interval_47 : decode cX9_interval 47 = .ok (.if_icmp .ge 7, 3) := by decide +kernel
theorem dX9_interval_50 : decode cX9_interval 50 = .ok (.ldc2_w 200, 3) := by decide +kernel
theorem dX9_interval_53 : decode cX9_interval 53 = .ok (.dreturn, 1) := by decide +kernel
theorem dX9_interval_54 : decode cX9_interval 54 = .ok (.iload_n 3, 1) := by decide +kernel
theorem dX9_interval_55 : decode cX9_interval 55 = .ok (.ifCond .ne 11, 3) := by decide +kernel
theorem dX9_interval_58 : decode cX9_interval 58 = .ok (.aload 5, 2) := by decide +kernel
theorem dX9_interval_60 : decode cX9_interval 60 = .ok (.getfield 202, 3) := by decide +kernel
theorem dX9_interval_63 : decode cX9_interval 63 = .ok (.goto 8, 3) := by decide +kernel
theorem dX9_interval_66 : decode cX9_interval 66 = .ok (.aload 5, 2) := by decide +kernel
theorem dX9_interval_68 : decode cX9_interval 68 = .ok (.getfield 205, 3) := by decide +kernel
theorem dX9_interval_71 : decode cX9_interval 71 = .ok (.i2d, 1) := by decide +kernel
theorem dX9_interval_72 : decode cX9_interval 72 = .ok (.ldc2_w 142, 3) := by decide +kernel
theorem dX9_interval_75 : decode cX9_interval 75 = .ok (.ddiv, 1) := by decide +kernel
theorem dX9_interval_76 : decode cX9_interval 76 = .ok (.dreturn, 1) := by decide +kernel
theorem dX9_same_0 : decode cX9_same 0 = .ok (.iconst 0, 1) := by decide +kernel
theorem dX9_same_1 : decode cX9_same 1 = .ok (.istore_n 1, 1) := by decide +kernel
theorem dX9_same_2 : decode cX9_same 2 = .ok (.iconst 0, 1) := by decide +kernel
theorem dX9_same_3 : decode cX9_same 3 = .ok (.istore_n 2, 1) := by decide +kernel
theorem dX9_same_4 : decode cX9_same 4 = .ok (.iload_n 2, 1) := by decide +kernel
theorem dX9_same_5 : decode cX9_same 5 = .ok (.aload_n 0, 1) := by decide +kernel
theorem dX9_same_6 : decode cX9_same 6 = .ok (.getfield 151, 3) := by decide +kernel
theorem dX9_same_9 : decode cX9_same 9 = .ok (.if_icmp .ge 28, 3) := by decide +kernel
theorem dX9_same_12 : decode cX9_same 12 = .ok (.aload_n 0, 1) := by decide +kernel
theorem dX9_same_13 : decode cX9_same 13 = .ok (.getfield 41, 3) := by decide +kernel
theorem dX9_same_16 : decode cX9_same 16 = .ok (.iload_n 2, 1) := by decide +kernel
theorem dX9_same_17 : decode cX9_same 17 = .ok (.aaload, 1) := by decide +kernel
theorem dX9_same_18 : decode cX9_same 18 = .ok (.getfield 208, 3) := by decide +kernel
theorem dX9_same_21 : decode cX9_same 21 = .ok (.aload_n 0, 1) := by decide +kernel
theorem dX9_same_22 : decode cX9_same 22 = .ok (.getfield 158, 3) := by decide +kernel
theorem dX9_same_25 : decode cX9_same 25 = .ok (.if_icmp .gt 6, 3) := by decide +kernel
theorem dX9_same_28 : decode cX9_same 28 = .ok (.iinc 1 1, 3) := by decide +kernel
theorem dX9_same_31 : decode cX9_same 31 = .ok (.iinc 2 1, 3) := by decide +kernel
theorem dX9_same_34 : decode cX9_same 34 = .ok (.goto (-30), 3) := by decide +kernel
theorem dX9_same_37 : decode cX9_same 37 = .ok (.iload_n 1, 1) := by decide +kernel
theorem dX9_same_38 : decode cX9_same 38 = .ok (.i2l, 1) := by decide +kernel
theorem dX9_same_39 : decode cX9_same 39 = .ok (.aload_n 0, 1) := by decide +kernel
theorem dX9_same_40 : decode cX9_same 40 = .ok (.invokevirtual 189, 3) := by decide +kernel
theorem dX9_same_43 : decode cX9_same 43 = .ok (.i2l, 1) := by decide +kernel
theorem dX9_same_44 : decode cX9_same 44 = .ok (.aload_n 0, 1) := by decide +kernel
theorem dX9_same_45 : decode cX9_same 45 = .ok (.getfield 60, 3) := by decide +kernel
theorem dX9_same_48 : decode cX9_same 48 = .ok (.invokevirtual 164, 3) := by decide +kernel
theorem dX9_same_51 : decode cX9_same 51 = .ok (.ladd, 1) := by decide +kernel
theorem dX9_same_52 : decode cX9_same 52 = .ok (.lcmp, 1) := by decide +kernel
theorem dX9_same_53 : decode cX9_same 53 = .ok (.ifCond .ne 7, 3) := by decide +kernel
theorem dX9_same_56 : decode cX9_same 56 = .ok (.iconst 1, 1) := by decide +kernel
theorem dX9_same_57 : decode cX9_same 57 = .ok (.goto 4, 3) := by decide +kernel
theorem dX9_same_60 : decode cX9_same 60 = .ok (.iconst 0, 1) := by decide +kernel
theorem dX9_same_61 : decode cX9_same 61 = .ok (.ireturn, 1) := by decide +kernel
theorem dX9_pieceKind_0 : decode cX9_pieceKind 0 = .ok (.lload_n 1, 1) := by decide +kernel
theorem dX9_pieceKind_1 : decode cX9_pieceKind 1 = .ok (.lconst 0, 1) := by decide +kernel
theorem dX9_pieceKind_2 : decode cX9_pieceKind 2 = .ok (.lcmp, 1) := by decide +kernel
theorem dX9_pieceKind_3 : decode cX9_pieceKind 3 = .ok (.ifCond .lt 26, 3) := by decide +kernel
theorem dX9_pieceKind_6 : decode cX9_pieceKind 6 = .ok (.lload_n 1, 1) := by decide +kernel
theorem dX9_pieceKind_7 : decode cX9_pieceKind 7 = .ok (.aload_n 0, 1) := by decide +kernel
theorem dX9_pieceKind_8 : decode cX9_pieceKind 8 = .ok (.getfield 151, 3) := by decide +kernel
theorem dX9_pieceKind_11 : decode cX9_pieceKind 11 = .ok (.i2l, 1) := by decide +kernel
theorem dX9_pieceKind_12 : decode cX9_pieceKind 12 = .ok (.lcmp, 1) := by decide +kernel
theorem dX9_pieceKind_13 : decode cX9_pieceKind 13 = .ok (.ifCond .ge 16, 3) := by decide +kernel
theorem dX9_pieceKind_16 : decode cX9_pieceKind 16 = .ok (.aload_n 0, 1) := by decide +kernel
theorem dX9_pieceKind_17 : decode cX9_pieceKind 17 = .ok (.getfield 41, 3) := by decide +kernel
theorem dX9_pieceKind_20 : decode cX9_pieceKind 20 = .ok (.lload_n 1, 1) := by decide +kernel
theorem dX9_pieceKind_21 : decode cX9_pieceKind 21 = .ok (.l2i, 1) := by decide +kernel
theorem dX9_pieceKind_22 : decode cX9_pieceKind 22 = .ok (.aaload, 1) := by decide +kernel
theorem dX9_pieceKind_23 : decode cX9_pieceKind 23 = .ok (.getfield 211, 3) := by decide +kernel
theorem dX9_pieceKind_26 : decode cX9_pieceKind 26 = .ok (.goto 4, 3) := by decide +kernel
theorem dX9_pieceKind_29 : decode cX9_pieceKind 29 = .ok (.iconst (-1), 1) := by decide +kernel
theorem dX9_pieceKind_30 : decode cX9_pieceKind 30 = .ok (.ireturn, 1) := by decide +kernel
theorem dX9_isClosed_0 : decode cX9_isClosed 0 = .ok (.aload_n 0, 1) := by decide +kernel
theorem dX9_isClosed_1 : decode cX9_isClosed 1 = .ok (.getfield 151, 3) := by decide +kernel
theorem dX9_isClosed_4 : decode cX9_isClosed 4 = .ok (.ifCond .le 7, 3) := by decide +kernel
theorem dX9_isClosed_7 : decode cX9_isClosed 7 = .ok (.iconst 1, 1) := by decide +kernel
theorem dX9_isClosed_8 : decode cX9_isClosed 8 = .ok (.goto 4, 3) := by decide +kernel
theorem dX9_isClosed_11 : decode cX9_isClosed 11 = .ok (.iconst 0, 1) := by decide +kernel
theorem dX9_isClosed_12 : decode cX9_isClosed 12 = .ok (.ireturn, 1) := by decide +kernel
theorem dX9_within_0 : decode cX9_within 0 = .ok (.dload_n 0, 1) := by decide +kernel
theorem dX9_within_1 : decode cX9_within 1 = .ok (.dload_n 2, 1) := by decide +kernel
theorem dX9_within_2 : decode cX9_within 2 = .ok (.dcmp .l, 1) := by decide +kernel
theorem dX9_within_3 : decode cX9_within 3 = .ok (.ifCond .lt 14, 3) := by decide +kernel
theorem dX9_within_6 : decode cX9_within 6 = .ok (.dload_n 0, 1) := by decide +kernel
theorem dX9_within_7 : decode cX9_within 7 = .ok (.dload 4, 2) := by decide +kernel
theorem dX9_within_9 : decode cX9_within 9 = .ok (.dcmp .g, 1) := by decide +kernel
theorem dX9_within_10 : decode cX9_within 10 = .ok (.ifCond .gt 7, 3) := by decide +kernel
theorem dX9_within_13 : decode cX9_within 13 = .ok (.iconst 1, 1) := by decide +kernel
theorem dX9_within_14 : decode cX9_within 14 = .ok (.goto 4, 3) := by decide +kernel
theorem dX9_within_17 : decode cX9_within 17 = .ok (.iconst 0, 1) := by decide +kernel
theorem dX9_within_18 : decode cX9_within 18 = .ok (.ireturn, 1) := by decide +kernel
theorem dX9_isKind_0 : decode cX9_isKind 0 = .ok (.iload_n 0, 1) := by decide +kernel
theorem dX9_isKind_1 : decode cX9_isKind 1 = .ok (.ifCond .lt 12, 3) := by decide +kernel
theorem dX9_isKind_4 : decode cX9_isKind 4 = .ok (.iload_n 0, 1) := by decide +kernel
theorem dX9_isKind_5 : decode cX9_isKind 5 = .ok (.iconst 5, 1) := by decide +kernel
theorem dX9_isKind_6 : decode cX9_isKind 6 = .ok (.if_icmp .ge 7, 3) := by decide +kernel
theorem dX9_isKind_9 : decode cX9_isKind 9 = .ok (.iconst 1, 1) := by decide +kernel
theorem dX9_isKind_10 : decode cX9_isKind 10 = .ok (.goto 4, 3) := by decide +kernel
theorem dX9_isKind_13 : decode cX9_isKind 13 = .ok (.iconst 0, 1) := by decide +kernel
theorem dX9_isKind_14 : decode cX9_isKind 14 = .ok (.ireturn, 1) := by decide +kernel
theorem dX9_beltNumbered_0 : decode cX9_beltNumbered 0 = .ok (.iload_n 1, 1) := by decide +kernel
theorem dX9_beltNumbered_1 : decode cX9_beltNumbered 1 = .ok (.ifCond .lt 20, 3) := by decide +kernel
theorem dX9_beltNumbered_4 : decode cX9_beltNumbered 4 = .ok (.iload_n 1, 1) := by decide +kernel
theorem dX9_beltNumbered_5 : decode cX9_beltNumbered 5 = .ok (.aload_n 0, 1) := by decide +kernel
theorem dX9_beltNumbered_6 : decode cX9_beltNumbered 6 = .ok (.getfield 72, 3) := by decide +kernel
theorem dX9_beltNumbered_9 : decode cX9_beltNumbered 9 = .ok (.if_icmp .ge 12, 3) := by decide +kernel
theorem dX9_beltNumbered_12 : decode cX9_beltNumbered 12 = .ok (.aload_n 0, 1) := by decide +kernel
theorem dX9_beltNumbered_13 : decode cX9_beltNumbered 13 = .ok (.getfield 11, 3) := by decide +kernel
theorem dX9_beltNumbered_16 : decode cX9_beltNumbered 16 = .ok (.iload_n 1, 1) := by decide +kernel
theorem dX9_beltNumbered_17 : decode cX9_beltNumbered 17 = .ok (.aaload, 1) := by decide +kernel
theorem dX9_beltNumbered_18 : decode cX9_beltNumbered 18 = .ok (.goto 4, 3) := by decide +kernel
theorem dX9_beltNumbered_21 : decode cX9_beltNumbered 21 = .ok (.aconst_null, 1) := by decide +kernel
theorem dX9_beltNumbered_22 : decode cX9_beltNumbered 22 = .ok (.areturn, 1) := by decide +kernel
theorem dX9_bunkerJoinedBy_0 : decode cX9_bunkerJoinedBy 0 = .ok (.iload_n 1, 1) := by decide +kernel
theorem dX9_bunkerJoinedBy_1 : decode cX9_bunkerJoinedBy 1 = .ok (.bipush (-2), 2) := by decide +kernel
theorem dX9_bunkerJoinedBy_3 : decode cX9_bunkerJoinedBy 3 = .ok (.if_icmp .le 5, 3) := by decide +kernel
theorem dX9_bunkerJoinedBy_6 : decode cX9_bunkerJoinedBy 6 = .ok (.aconst_null, 1) := by decide +kernel
theorem dX9_bunkerJoinedBy_7 : decode cX9_bunkerJoinedBy 7 = .ok (.areturn, 1) := by decide +kernel
theorem dX9_bunkerJoinedBy_8 : decode cX9_bunkerJoinedBy 8 = .ok (.bipush (-2), 2) := by decide +kernel
theorem dX9_bunkerJoinedBy_10 : decode cX9_bunkerJoinedBy 10 = .ok (.iload_n 1, 1) := by decide +kernel
theorem dX9_bunkerJoinedBy_11 : decode cX9_bunkerJoinedBy 11 = .ok (.isub, 1) := by decide +kernel
theorem dX9_bunkerJoinedBy_12 : decode cX9_bunkerJoinedBy 12 = .ok (.istore_n 2, 1) := by decide +kernel
theorem dX9_bunkerJoinedBy_13 : decode cX9_bunkerJoinedBy 13 = .ok (.iload_n 2, 1) := by decide +kernel
theorem dX9_bunkerJoinedBy_14 : decode cX9_bunkerJoinedBy 14 = .ok (.ifCond .lt 20, 3) := by decide +kernel
theorem dX9_bunkerJoinedBy_17 : decode cX9_bunkerJoinedBy 17 = .ok (.iload_n 2, 1) := by decide +kernel
theorem dX9_bunkerJoinedBy_18 : decode cX9_bunkerJoinedBy 18 = .ok (.aload_n 0, 1) := by decide +kernel
theorem dX9_bunkerJoinedBy_19 : decode cX9_bunkerJoinedBy 19 = .ok (.getfield 105, 3) := by decide +kernel
theorem dX9_bunkerJoinedBy_22 : decode cX9_bunkerJoinedBy 22 = .ok (.if_icmp .ge 12, 3) := by decide +kernel
theorem dX9_bunkerJoinedBy_25 : decode cX9_bunkerJoinedBy 25 = .ok (.aload_n 0, 1) := by decide +kernel
theorem dX9_bunkerJoinedBy_26 : decode cX9_bunkerJoinedBy 26 = .ok (.getfield 23, 3) := by decide +kernel
theorem dX9_bunkerJoinedBy_29 : decode cX9_bunkerJoinedBy 29 = .ok (.iload_n 2, 1) := by decide +kernel
theorem dX9_bunkerJoinedBy_30 : decode cX9_bunkerJoinedBy 30 = .ok (.aaload, 1) := by decide +kernel
theorem dX9_bunkerJoinedBy_31 : decode cX9_bunkerJoinedBy 31 = .ok (.goto 4, 3) := by decide +kernel
theorem dX9_bunkerJoinedBy_34 : decode cX9_bunkerJoinedBy 34 = .ok (.aconst_null, 1) := by decide +kernel
theorem dX9_bunkerJoinedBy_35 : decode cX9_bunkerJoinedBy 35 = .ok (.areturn, 1) := by decide +kernel
theorem dX9_onBelts_0 : decode cX9_onBelts 0 = .ok (.iconst 0, 1) := by decide +kernel
theorem dX9_onBelts_1 : decode cX9_onBelts 1 = .ok (.istore_n 1, 1) := by decide +kernel
theorem dX9_onBelts_2 : decode cX9_onBelts 2 = .ok (.iconst 0, 1) := by decide +kernel
theorem dX9_onBelts_3 : decode cX9_onBelts 3 = .ok (.istore_n 2, 1) := by decide +kernel
theorem dX9_onBelts_4 : decode cX9_onBelts 4 = .ok (.iload_n 2, 1) := by decide +kernel
theorem dX9_onBelts_5 : decode cX9_onBelts 5 = .ok (.aload_n 0, 1) := by decide +kernel
theorem dX9_onBelts_6 : decode cX9_onBelts 6 = .ok (.getfield 151, 3) := by decide +kernel
theorem dX9_onBelts_9 : decode cX9_onBelts 9 = .ok (.if_icmp .ge 24, 3) := by decide +kernel
theorem dX9_onBelts_12 : decode cX9_onBelts 12 = .ok (.aload_n 0, 1) := by decide +kernel
theorem dX9_onBelts_13 : decode cX9_onBelts 13 = .ok (.getfield 41, 3) := by decide +kernel
theorem dX9_onBelts_16 : decode cX9_onBelts 16 = .ok (.iload_n 2, 1) := by decide +kernel
theorem dX9_onBelts_17 : decode cX9_onBelts 17 = .ok (.aaload, 1) := by decide +kernel
theorem dX9_onBelts_18 : decode cX9_onBelts 18 = .ok (.getfield 214, 3) := by decide +kernel
theorem dX9_onBelts_21 : decode cX9_onBelts 21 = .ok (.ifnull 6, 3) := by decide +kernel
theorem dX9_onBelts_24 : decode cX9_onBelts 24 = .ok (.iinc 1 1, 3) := by decide +kernel
theorem dX9_onBelts_27 : decode cX9_onBelts 27 = .ok (.iinc 2 1, 3) := by decide +kernel
theorem dX9_onBelts_30 : decode cX9_onBelts 30 = .ok (.goto (-26), 3) := by decide +kernel
theorem dX9_onBelts_33 : decode cX9_onBelts 33 = .ok (.iload_n 1, 1) := by decide +kernel
theorem dX9_onBelts_34 : decode cX9_onBelts 34 = .ok (.ireturn, 1) := by decide +kernel
theorem dX9_passOneTenth_0 : decode cX9_passOneTenth 0 = .ok (.iconst 0, 1) := by decide +kernel
theorem dX9_passOneTenth_1 : decode cX9_passOneTenth 1 = .ok (.istore_n 1, 1) := by decide +kernel
theorem dX9_passOneTenth_2 : decode cX9_passOneTenth 2 = .ok (.iload_n 1, 1) := by decide +kernel
theorem dX9_passOneTenth_3 : decode cX9_passOneTenth 3 = .ok (.aload_n 0, 1) := by decide +kernel
theorem dX9_passOneTenth_4 : decode cX9_passOneTenth 4 = .ok (.getfield 151, 3) := by decide +kernel
theorem dX9_passOneTenth_7 : decode cX9_passOneTenth 7 = .ok (.if_icmp .ge 19, 3) := by decide +kernel
theorem dX9_passOneTenth_10 : decode cX9_passOneTenth 10 = .ok (.aload_n 0, 1) := by decide +kernel
theorem dX9_passOneTenth_11 : decode cX9_passOneTenth 11 = .ok (.aload_n 0, 1) := by decide +kernel
theorem dX9_passOneTenth_12 : decode cX9_passOneTenth 12 = .ok (.getfield 41, 3) := by decide +kernel
theorem dX9_passOneTenth_15 : decode cX9_passOneTenth 15 = .ok (.iload_n 1, 1) := by decide +kernel
theorem dX9_passOneTenth_16 : decode cX9_passOneTenth 16 = .ok (.aaload, 1) := by decide +kernel
theorem dX9_passOneTenth_17 : decode cX9_passOneTenth 17 = .ok (.invokevirtual 217, 3) := by decide +kernel
theorem dX9_passOneTenth_20 : decode cX9_passOneTenth 20 = .ok (.iinc 1 1, 3) := by decide +kernel
theorem dX9_passOneTenth_23 : decode cX9_passOneTenth 23 = .ok (.goto (-21), 3) := by decide +kernel
theorem dX9_passOneTenth_26 : decode cX9_passOneTenth 26 = .ok (.iconst 0, 1) := by decide +kernel
theorem dX9_passOneTenth_27 : decode cX9_passOneTenth 27 = .ok (.istore_n 1, 1) := by decide +kernel
theorem dX9_passOneTenth_28 : decode cX9_passOneTenth 28 = .ok (.iload_n 1, 1) := by decide +kernel
theorem dX9_passOneTenth_29 : decode cX9_passOneTenth 29 = .ok (.aload_n 0, 1) := by decide +kernel
theorem dX9_passOneTenth_30 : decode cX9_passOneTenth 30 = .ok (.getfield 151, 3) := by decide +kernel
theorem dX9_passOneTenth_33 : decode cX9_passOneTenth 33 = .ok (.if_icmp .ge 19, 3) := by decide +kernel
theorem dX9_passOneTenth_36 : decode cX9_passOneTenth 36 = .ok (.aload_n 0, 1) := by decide +kernel
theorem dX9_passOneTenth_37 : decode cX9_passOneTenth 37 = .ok (.aload_n 0, 1) := by decide +kernel
theorem dX9_passOneTenth_38 : decode cX9_passOneTenth 38 = .ok (.getfield 41, 3) := by decide +kernel
theorem dX9_passOneTenth_41 : decode cX9_passOneTenth 41 = .ok (.iload_n 1, 1) := by decide +kernel
theorem dX9_passOneTenth_42 : decode cX9_passOneTenth 42 = .ok (.aaload, 1) := by decide +kernel
theorem dX9_passOneTenth_43 : decode cX9_passOneTenth 43 = .ok (.invokevirtual 221, 3) := by decide +kernel
theorem dX9_passOneTenth_46 : decode cX9_passOneTenth 46 = .ok (.iinc 1 1, 3) := by decide +kernel
theorem dX9_passOneTenth_49 : decode cX9_passOneTenth 49 = .ok (.goto (-21), 3) := by decide +kernel
theorem dX9_passOneTenth_52 : decode cX9_passOneTenth 52 = .ok (.return_, 1) := by decide +kernel
theorem dX9_comeOn_0 : decode cX9_comeOn 0 = .ok (.aload_n 1, 1) := by decide +kernel
theorem dX9_comeOn_1 : decode cX9_comeOn 1 = .ok (.getfield 214, 3) := by decide +kernel
theorem dX9_comeOn_4 : decode cX9_comeOn 4 = .ok (.astore_n 2, 1) := by decide +kernel
theorem dX9_comeOn_5 : decode cX9_comeOn 5 = .ok (.aload_n 1, 1) := by decide +kernel
theorem dX9_comeOn_6 : decode cX9_comeOn 6 = .ok (.aload_n 2, 1) := by decide +kernel
theorem dX9_comeOn_7 : decode cX9_comeOn 7 = .ok (.ifnull 18, 3) := by decide +kernel
theorem dX9_comeOn_10 : decode cX9_comeOn 10 = .ok (.aload_n 2, 1) := by decide +kernel
theorem dX9_comeOn_11 : decode cX9_comeOn 11 = .ok (.aload_n 0, 1) := by decide +kernel
theorem dX9_comeOn_12 : decode cX9_comeOn 12 = .ok (.getfield 158, 3) := by decide +kernel
theorem dX9_comeOn_15 : decode cX9_comeOn 15 = .ok (.invokevirtual 224, 3) := by decide +kernel
theorem dX9_comeOn_18 : decode cX9_comeOn 18 = .ok (.ifCond .eq 7, 3) := by decide +kernel
theorem dX9_comeOn_21 : decode cX9_comeOn 21 = .ok (.iconst 1, 1) := by decide +kernel
theorem dX9_comeOn_22 : decode cX9_comeOn 22 = .ok (.goto 4, 3) := by decide +kernel
theorem dX9_comeOn_25 : decode cX9_comeOn 25 = .ok (.iconst 0, 1) := by decide +kernel
theorem dX9_comeOn_26 : decode cX9_comeOn 26 = .ok (.putfield 227, 3) := by decide +kernel
theorem dX9_comeOn_29 : decode cX9_comeOn 29 = .ok (.aload_n 1, 1) := by decide +kernel
theorem dX9_comeOn_30 : decode cX9_comeOn 30 = .ok (.getfield 227, 3) := by decide +kernel
theorem dX9_comeOn_33 : decode cX9_comeOn 33 = .ok (.ifCond .eq 13, 3) := by decide +kernel
theorem dX9_comeOn_36 : decode cX9_comeOn 36 = .ok (.aload_n 1, 1) := by decide +kernel
theorem dX9_comeOn_37 : decode cX9_comeOn 37 = .ok (.dup, 1) := by decide +kernel
theorem dX9_comeOn_38 : decode cX9_comeOn 38 = .ok (.getfield 230, 3) := by decide +kernel
theorem dX9_comeOn_41 : decode cX9_comeOn 41 = .ok (.iconst 1, 1) := by decide +kernel
theorem dX9_comeOn_42 : decode cX9_comeOn 42 = .ok (.iadd, 1) := by decide +kernel
theorem dX9_comeOn_43 : decode cX9_comeOn 43 = .ok (.putfield 230, 3) := by decide +kernel
theorem dX9_comeOn_46 : decode cX9_comeOn 46 = .ok (.return_, 1) := by decide +kernel
theorem dX9_act_0 : decode cX9_act 0 = .ok (.aload_n 1, 1) := by decide +kernel
theorem dX9_act_1 : decode cX9_act 1 = .ok (.getfield 214, 3) := by decide +kernel
theorem dX9_act_4 : decode cX9_act 4 = .ok (.astore_n 2, 1) := by decide +kernel
theorem dX9_act_5 : decode cX9_act 5 = .ok (.aload_n 1, 1) := by decide +kernel
theorem dX9_act_6 : decode cX9_act 6 = .ok (.getfield 208, 3) := by decide +kernel
theorem dX9_act_9 : decode cX9_act 9 = .ok (.aload_n 0, 1) := by decide +kernel
theorem dX9_act_10 : decode cX9_act 10 = .ok (.getfield 158, 3) := by decide +kernel
theorem dX9_act_13 : decode cX9_act 13 = .ok (.if_icmp .ne 15, 3) := by decide +kernel
theorem dX9_act_16 : decode cX9_act 16 = .ok (.aload_n 0, 1) := by decide +kernel
theorem dX9_act_17 : decode cX9_act 17 = .ok (.aload_n 1, 1) := by decide +kernel
theorem dX9_act_18 : decode cX9_act 18 = .ok (.aload_n 1, 1) := by decide +kernel
theorem dX9_act_19 : decode cX9_act 19 = .ok (.getfield 233, 3) := by decide +kernel
theorem dX9_act_22 : decode cX9_act 22 = .ok (.invokevirtual 236, 3) := by decide +kernel
theorem dX9_act_25 : decode cX9_act 25 = .ok (.goto 37, 3) := by decide +kernel
theorem dX9_act_28 : decode cX9_act 28 = .ok (.aload_n 2, 1) := by decide +kernel
theorem dX9_act_29 : decode cX9_act 29 = .ok (.ifnull 33, 3) := by decide +kernel
theorem dX9_act_32 : decode cX9_act 32 = .ok (.aload_n 1, 1) := by decide +kernel
theorem dX9_act_33 : decode cX9_act 33 = .ok (.getfield 227, 3) := by decide +kernel
theorem dX9_act_36 : decode cX9_act 36 = .ok (.ifCond .eq 26, 3) := by decide +kernel
theorem dX9_act_39 : decode cX9_act 39 = .ok (.aload_n 0, 1) := by decide +kernel
theorem dX9_act_40 : decode cX9_act 40 = .ok (.aload_n 1, 1) := by decide +kernel
theorem dX9_act_41 : decode cX9_act 41 = .ok (.aload_n 2, 1) := by decide +kernel
theorem dX9_act_42 : decode cX9_act 42 = .ok (.invokevirtual 240, 3) := by decide +kernel
theorem dX9_act_45 : decode cX9_act 45 = .ok (.aload_n 1, 1) := by decide +kernel
theorem dX9_act_46 : decode cX9_act 46 = .ok (.getfield 230, 3) := by decide +kernel
theorem dX9_act_49 : decode cX9_act 49 = .ok (.aload_n 2, 1) := by decide +kernel
theorem dX9_act_50 : decode cX9_act 50 = .ok (.getfield 243, 3) := by decide +kernel
theorem dX9_act_53 : decode cX9_act 53 = .ok (.if_icmp .ne 9, 3) := by decide +kernel
theorem dX9_act_56 : decode cX9_act 56 = .ok (.aload_n 0, 1) := by decide +kernel
theorem dX9_act_57 : decode cX9_act 57 = .ok (.aload_n 1, 1) := by decide +kernel
theorem dX9_act_58 : decode cX9_act 58 = .ok (.aload_n 2, 1) := by decide +kernel
theorem dX9_act_59 : decode cX9_act 59 = .ok (.invokevirtual 246, 3) := by decide +kernel
theorem dX9_act_62 : decode cX9_act 62 = .ok (.return_, 1) := by decide +kernel
theorem dX9_enter_0 : decode cX9_enter 0 = .ok (.aload_n 2, 1) := by decide +kernel
theorem dX9_enter_1 : decode cX9_enter 1 = .ok (.aload_n 0, 1) := by decide +kernel
theorem dX9_enter_2 : decode cX9_enter 2 = .ok (.getfield 158, 3) := by decide +kernel
theorem dX9_enter_5 : decode cX9_enter 5 = .ok (.invokevirtual 249, 3) := by decide +kernel
theorem dX9_enter_8 : decode cX9_enter 8 = .ok (.ifCond .eq 40, 3) := by decide +kernel
theorem dX9_enter_11 : decode cX9_enter 11 = .ok (.aload_n 0, 1) := by decide +kernel
theorem dX9_enter_12 : decode cX9_enter 12 = .ok (.getfield 60, 3) := by decide +kernel
theorem dX9_enter_15 : decode cX9_enter 15 = .ok (.getfield 196, 3) := by decide +kernel
theorem dX9_enter_18 : decode cX9_enter 18 = .ok (.iconst 1, 1) := by decide +kernel
theorem dX9_enter_19 : decode cX9_enter 19 = .ok (.dup2, 1) := by decide +kernel
theorem dX9_enter_20 : decode cX9_enter 20 = .ok (.laload, 1) := by decide +kernel
theorem dX9_enter_21 : decode cX9_enter 21 = .ok (.lconst 1, 1) := by decide +kernel
theorem dX9_enter_22 : decode cX9_enter 22 = .ok (.ladd, 1) := by decide +kernel
theorem dX9_enter_23 : decode cX9_enter 23 = .ok (.lastore, 1) := by decide +kernel
theorem dX9_enter_24 : decode cX9_enter 24 = .ok (.aload_n 0, 1) := by decide +kernel
theorem dX9_enter_25 : decode cX9_enter 25 = .ok (.getfield 50, 3) := by decide +kernel
theorem dX9_enter_28 : decode cX9_enter 28 = .ok (.aload_n 0, 1) := by decide +kernel
theorem dX9_enter_29 : decode cX9_enter 29 = .ok (.getfield 158, 3) := by decide +kernel
theorem dX9_enter_32 : decode cX9_enter 32 = .ok (.aload_n 1, 1) := by decide +kernel
theorem dX9_enter_33 : decode cX9_enter 33 = .ok (.getfield 252, 3) := by decide +kernel
theorem dX9_enter_36 : decode cX9_enter 36 = .ok (.bipush 7, 2) := by decide +kernel
theorem dX9_enter_38 : decode cX9_enter 38 = .ok (.aload_n 2, 1) := by decide +kernel
theorem dX9_enter_39 : decode cX9_enter 39 = .ok (.getfield 255, 3) := by decide +kernel
theorem dX9_enter_42 : decode cX9_enter 42 = .ok (.invokevirtual 256, 3) := by decide +kernel
theorem dX9_enter_45 : decode cX9_enter 45 = .ok (.goto 69, 3) := by decide +kernel
theorem dX9_enter_48 : decode cX9_enter 48 = .ok (.aload_n 2, 1) := by decide +kernel
theorem dX9_enter_49 : decode cX9_enter 49 = .ok (.getfield 125, 3) := by decide +kernel
theorem dX9_enter_52 : decode cX9_enter 52 = .ok (.ifCond .eq 26, 3) := by decide +kernel
theorem dX9_enter_55 : decode cX9_enter 55 = .ok (.aload_n 0, 1) := by decide +kernel
theorem dX9_enter_56 : decode cX9_enter 56 = .ok (.aload_n 1, 1) := by decide +kernel
theorem dX9_enter_57 : decode cX9_enter 57 = .ok (.aload_n 2, 1) := by decide +kernel
theorem dX9_enter_58 : decode cX9_enter 58 = .ok (.invokevirtual 260, 3) := by decide +kernel
theorem dX9_enter_61 : decode cX9_enter 61 = .ok (.aload_n 2, 1) := by decide +kernel
theorem dX9_enter_62 : decode cX9_enter 62 = .ok (.getfield 129, 3) := by decide +kernel
theorem dX9_enter_65 : decode cX9_enter 65 = .ok (.dcmp .l, 1) := by decide +kernel
theorem dX9_enter_66 : decode cX9_enter 66 = .ok (.ifCond .le 12, 3) := by decide +kernel
theorem dX9_enter_69 : decode cX9_enter 69 = .ok (.aload_n 0, 1) := by decide +kernel
theorem dX9_enter_70 : decode cX9_enter 70 = .ok (.aload_n 1, 1) := by decide +kernel
theorem dX9_enter_71 : decode cX9_enter 71 = .ok (.aload_n 2, 1) := by decide +kernel
theorem dX9_enter_72 : decode cX9_enter 72 = .ok (.invokevirtual 264, 3) := by decide +kernel
theorem dX9_enter_75 : decode cX9_enter 75 = .ok (.goto 39, 3) := by decide +kernel
theorem dX9_enter_78 : decode cX9_enter 78 = .ok (.aload_n 1, 1) := by decide +kernel
theorem dX9_enter_79 : decode cX9_enter 79 = .ok (.aload_n 2, 1) := by decide +kernel
theorem dX9_enter_80 : decode cX9_enter 80 = .ok (.putfield 214, 3) := by decide +kernel
theorem dX9_enter_83 : decode cX9_enter 83 = .ok (.aload_n 1, 1) := by decide +kernel
theorem dX9_enter_84 : decode cX9_enter 84 = .ok (.iconst 0, 1) := by decide +kernel
theorem dX9_enter_85 : decode cX9_enter 85 = .ok (.putfield 230, 3) := by decide +kernel
theorem dX9_enter_88 : decode cX9_enter 88 = .ok (.aload_n 0, 1) := by decide +kernel
theorem dX9_enter_89 : decode cX9_enter 89 = .ok (.getfield 50, 3) := by decide +kernel
theorem dX9_enter_92 : decode cX9_enter 92 = .ok (.aload_n 0, 1) := by decide +kernel
theorem dX9_enter_93 : decode cX9_enter 93 = .ok (.getfield 158, 3) := by decide +kernel
theorem dX9_enter_96 : decode cX9_enter 96 = .ok (.aload_n 1, 1) := by decide +kernel
theorem dX9_enter_97 : decode cX9_enter 97 = .ok (.getfield 252, 3) := by decide +kernel
theorem dX9_enter_100 : decode cX9_enter 100 = .ok (.iconst 0, 1) := by decide +kernel
theorem dX9_enter_101 : decode cX9_enter 101 = .ok (.aload_n 2, 1) := by decide +kernel
theorem dX9_enter_102 : decode cX9_enter 102 = .ok (.getfield 255, 3) := by decide +kernel
theorem dX9_enter_105 : decode cX9_enter 105 = .ok (.invokevirtual 256, 3) := by decide +kernel
theorem dX9_enter_108 : decode cX9_enter 108 = .ok (.aload_n 0, 1) := by decide +kernel
theorem dX9_enter_109 : decode cX9_enter 109 = .ok (.aload_n 1, 1) := by decide +kernel
theorem dX9_enter_110 : decode cX9_enter 110 = .ok (.aload_n 2, 1) := by decide +kernel
theorem dX9_enter_111 : decode cX9_enter 111 = .ok (.invokevirtual 240, 3) := by decide +kernel
theorem dX9_enter_114 : decode cX9_enter 114 = .ok (.return_, 1) := by decide +kernel
theorem dX9_loadWith_0 : decode cX9_loadWith 0 = .ok (.dconst 0, 1) := by decide +kernel
theorem dX9_loadWith_1 : decode cX9_loadWith 1 = .ok (.dstore_n 3, 1) := by decide +kernel
theorem dX9_loadWith_2 : decode cX9_loadWith 2 = .ok (.iconst 0, 1) := by decide +kernel
theorem dX9_loadWith_3 : decode cX9_loadWith 3 = .ok (.istore 5, 2) := by decide +kernel
theorem dX9_loadWith_5 : decode cX9_loadWith 5 = .ok (.iload 5, 2) := by decide +kernel
theorem dX9_loadWith_7 : decode cX9_loadWith 7 = .ok (.aload_n 0, 1) := by decide +kernel
theorem dX9_loadWith_8 : decode cX9_loadWith 8 = .ok (.getfield 151, 3) := by decide +kernel
theorem dX9_loadWith_11 : decode cX9_loadWith 11 = .ok (.if_icmp .ge 41, 3) := by decide +kernel
theorem dX9_loadWith_14 : decode cX9_loadWith 14 = .ok (.aload_n 0, 1) := by decide +kernel
theorem dX9_loadWith_15 : decode cX9_loadWith 15 = .ok (.getfield 41, 3) := by decide +kernel
theorem dX9_loadWith_18 : decode cX9_loadWith 18 = .ok (.iload 5, 2) := by decide +kernel
theorem dX9_loadWith_20 : decode cX9_loadWith 20 = .ok (.aaload, 1) := by decide +kernel
theorem dX9_loadWith_21 : decode cX9_loadWith 21 = .ok (.astore 6, 2) := by decide +kernel
theorem dX9_loadWith_23 : decode cX9_loadWith 23 = .ok (.aload 6, 2) := by decide +kernel
theorem dX9_loadWith_25 : decode cX9_loadWith 25 = .ok (.aload_n 1, 1) := by decide +kernel
theorem dX9_loadWith_26 : decode cX9_loadWith 26 = .ok (.if_acmp .eq 12, 3) := by decide +kernel
theorem dX9_loadWith_29 : decode cX9_loadWith 29 = .ok (.aload 6, 2) := by decide +kernel
theorem dX9_loadWith_31 : decode cX9_loadWith 31 = .ok (.getfield 214, 3) := by decide +kernel
theorem dX9_loadWith_34 : decode cX9_loadWith 34 = .ok (.aload_n 2, 1) := by decide +kernel
theorem dX9_loadWith_35 : decode cX9_loadWith 35 = .ok (.if_acmp .ne 11, 3) := by decide +kernel
theorem dX9_loadWith_38 : decode cX9_loadWith 38 = .ok (.dload_n 3, 1) := by decide +kernel
theorem dX9_loadWith_39 : decode cX9_loadWith 39 = .ok (.aload 6, 2) := by decide +kernel
theorem dX9_loadWith_41 : decode cX9_loadWith 41 = .ok (.getfield 267, 3) := by decide +kernel
theorem dX9_loadWith_44 : decode cX9_loadWith 44 = .ok (.dadd, 1) := by decide +kernel
theorem dX9_loadWith_45 : decode cX9_loadWith 45 = .ok (.dstore_n 3, 1) := by decide +kernel
theorem dX9_loadWith_46 : decode cX9_loadWith 46 = .ok (.iinc 5 1, 3) := by decide +kernel
theorem dX9_loadWith_49 : decode cX9_loadWith 49 = .ok (.goto (-44), 3) := by decide +kernel
theorem dX9_loadWith_52 : decode cX9_loadWith 52 = .ok (.dload_n 3, 1) := by decide +kernel
theorem dX9_loadWith_53 : decode cX9_loadWith 53 = .ok (.dreturn, 1) := by decide +kernel
theorem dX9_jamBy_0 : decode cX9_jamBy 0 = .ok (.iconst 0, 1) := by decide +kernel
theorem dX9_jamBy_1 : decode cX9_jamBy 1 = .ok (.istore_n 3, 1) := by decide +kernel
theorem dX9_jamBy_2 : decode cX9_jamBy 2 = .ok (.iconst 0, 1) := by decide +kernel
theorem dX9_jamBy_3 : decode cX9_jamBy 3 = .ok (.istore 4, 2) := by decide +kernel
theorem dX9_jamBy_5 : decode cX9_jamBy 5 = .ok (.iload 4, 2) := by decide +kernel
theorem dX9_jamBy_7 : decode cX9_jamBy 7 = .ok (.aload_n 0, 1) := by decide +kernel
theorem dX9_jamBy_8 : decode cX9_jamBy 8 = .ok (.getfield 151, 3) := by decide +kernel
theorem dX9_jamBy_11 : decode cX9_jamBy 11 = .ok (.if_icmp .ge 26, 3) := by decide +kernel
theorem dX9_jamBy_14 : decode cX9_jamBy 14 = .ok (.aload_n 0, 1) := by decide +kernel
theorem dX9_jamBy_15 : decode cX9_jamBy 15 = .ok (.getfield 41, 3) := by decide +kernel
theorem dX9_jamBy_18 : decode cX9_jamBy 18 = .ok (.iload 4, 2) := by decide +kernel
theorem dX9_jamBy_20 : decode cX9_jamBy 20 = .ok (.aaload, 1) := by decide +kernel
theorem dX9_jamBy_21 : decode cX9_jamBy 21 = .ok (.getfield 214, 3) := by decide +kernel
theorem dX9_jamBy_24 : decode cX9_jamBy 24 = .ok (.aload_n 2, 1) := by decide +kernel
theorem dX9_jamBy_25 : decode cX9_jamBy 25 = .ok (.if_acmp .ne 6, 3) := by decide +kernel
theorem dX9_jamBy_28 : decode cX9_jamBy 28 = .ok (.iinc 3 1, 3) := by decide +kernel
theorem dX9_jamBy_31 : decode cX9_jamBy 31 = .ok (.iinc 4 1, 3) := by decide +kernel
theorem dX9_jamBy_34 : decode cX9_jamBy 34 = .ok (.goto (-29), 3) := by decide +kernel
theorem dX9_jamBy_37 : decode cX9_jamBy 37 = .ok (.aload_n 2, 1) := by decide +kernel
theorem dX9_jamBy_38 : decode cX9_jamBy 38 = .ok (.aload_n 0, 1) := by decide +kernel
theorem dX9_jamBy_39 : decode cX9_jamBy 39 = .ok (.getfield 158, 3) := by decide +kernel
theorem dX9_jamBy_42 : decode cX9_jamBy 42 = .ok (.aload_n 2, 1) := by decide +kernel
theorem dX9_jamBy_43 : decode cX9_jamBy 43 = .ok (.getfield 132, 3) := by decide +kernel
theorem dX9_jamBy_46 : decode cX9_jamBy 46 = .ok (.iadd, 1) := by decide +kernel
theorem dX9_jamBy_47 : decode cX9_jamBy 47 = .ok (.putfield 270, 3) := by decide +kernel
theorem dX9_jamBy_50 : decode cX9_jamBy 50 = .ok (.aload_n 0, 1) := by decide +kernel
theorem dX9_jamBy_51 : decode cX9_jamBy 51 = .ok (.getfield 60, 3) := by decide +kernel
theorem dX9_jamBy_54 : decode cX9_jamBy 54 = .ok (.getfield 196, 3) := by decide +kernel
theorem dX9_jamBy_57 : decode cX9_jamBy 57 = .ok (.iconst 0, 1) := by decide +kernel
theorem dX9_jamBy_58 : decode cX9_jamBy 58 = .ok (.dup2, 1) := by decide +kernel
theorem dX9_jamBy_59 : decode cX9_jamBy 59 = .ok (.laload, 1) := by decide +kernel
theorem dX9_jamBy_60 : decode cX9_jamBy 60 = .ok (.lconst 1, 1) := by decide +kernel
theorem dX9_jamBy_61 : decode cX9_jamBy 61 = .ok (.ladd, 1) := by decide +kernel
theorem dX9_jamBy_62 : decode cX9_jamBy 62 = .ok (.lastore, 1) := by decide +kernel
theorem dX9_jamBy_63 : decode cX9_jamBy 63 = .ok (.aload_n 0, 1) := by decide +kernel
theorem dX9_jamBy_64 : decode cX9_jamBy 64 = .ok (.getfield 60, 3) := by decide +kernel
theorem dX9_jamBy_67 : decode cX9_jamBy 67 = .ok (.getfield 196, 3) := by decide +kernel
theorem dX9_jamBy_70 : decode cX9_jamBy 70 = .ok (.iconst 3, 1) := by decide +kernel
theorem dX9_jamBy_71 : decode cX9_jamBy 71 = .ok (.dup2, 1) := by decide +kernel
theorem dX9_jamBy_72 : decode cX9_jamBy 72 = .ok (.laload, 1) := by decide +kernel
theorem dX9_jamBy_73 : decode cX9_jamBy 73 = .ok (.aload_n 2, 1) := by decide +kernel
theorem dX9_jamBy_74 : decode cX9_jamBy 74 = .ok (.getfield 132, 3) := by decide +kernel
theorem dX9_jamBy_77 : decode cX9_jamBy 77 = .ok (.i2l, 1) := by decide +kernel
theorem dX9_jamBy_78 : decode cX9_jamBy 78 = .ok (.ladd, 1) := by decide +kernel
theorem dX9_jamBy_79 : decode cX9_jamBy 79 = .ok (.lastore, 1) := by decide +kernel
theorem dX9_jamBy_80 : decode cX9_jamBy 80 = .ok (.aload_n 0, 1) := by decide +kernel
theorem dX9_jamBy_81 : decode cX9_jamBy 81 = .ok (.getfield 54, 3) := by decide +kernel
theorem dX9_jamBy_84 : decode cX9_jamBy 84 = .ok (.aload_n 0, 1) := by decide +kernel
theorem dX9_jamBy_85 : decode cX9_jamBy 85 = .ok (.getfield 158, 3) := by decide +kernel
theorem dX9_jamBy_88 : decode cX9_jamBy 88 = .ok (.aload_n 1, 1) := by decide +kernel
theorem dX9_jamBy_89 : decode cX9_jamBy 89 = .ok (.getfield 252, 3) := by decide +kernel
theorem dX9_jamBy_92 : decode cX9_jamBy 92 = .ok (.aload_n 2, 1) := by decide +kernel
theorem dX9_jamBy_93 : decode cX9_jamBy 93 = .ok (.getfield 255, 3) := by decide +kernel
theorem dX9_jamBy_96 : decode cX9_jamBy 96 = .ok (.iload_n 3, 1) := by decide +kernel
theorem dX9_jamBy_97 : decode cX9_jamBy 97 = .ok (.invokevirtual 256, 3) := by decide +kernel
theorem dX9_jamBy_100 : decode cX9_jamBy 100 = .ok (.aload_n 0, 1) := by decide +kernel
theorem dX9_jamBy_101 : decode cX9_jamBy 101 = .ok (.getfield 50, 3) := by decide +kernel
theorem dX9_jamBy_104 : decode cX9_jamBy 104 = .ok (.aload_n 0, 1) := by decide +kernel
theorem dX9_jamBy_105 : decode cX9_jamBy 105 = .ok (.getfield 158, 3) := by decide +kernel
theorem dX9_jamBy_108 : decode cX9_jamBy 108 = .ok (.aload_n 1, 1) := by decide +kernel
theorem dX9_jamBy_109 : decode cX9_jamBy 109 = .ok (.getfield 252, 3) := by decide +kernel
theorem dX9_jamBy_112 : decode cX9_jamBy 112 = .ok (.iconst 3, 1) := by decide +kernel
theorem dX9_jamBy_113 : decode cX9_jamBy 113 = .ok (.aload_n 2, 1) := by decide +kernel
theorem dX9_jamBy_114 : decode cX9_jamBy 114 = .ok (.getfield 255, 3) := by decide +kernel
theorem dX9_jamBy_117 : decode cX9_jamBy 117 = .ok (.invokevirtual 256, 3) := by decide +kernel
theorem dX9_jamBy_120 : decode cX9_jamBy 120 = .ok (.return_, 1) := by decide +kernel
theorem dX9_passHeads_0 : decode cX9_passHeads 0 = .ok (.iconst 0, 1) := by decide +kernel
theorem dX9_passHeads_1 : decode cX9_passHeads 1 = .ok (.istore_n 3, 1) := by decide +kernel
theorem dX9_passHeads_2 : decode cX9_passHeads 2 = .ok (.iload_n 3, 1) := by decide +kernel
theorem dX9_passHeads_3 : decode cX9_passHeads 3 = .ok (.aload_n 0, 1) := by decide +kernel
theorem dX9_passHeads_4 : decode cX9_passHeads 4 = .ok (.getfield 91, 3) := by decide +kernel
theorem dX9_passHeads_7 : decode cX9_passHeads 7 = .ok (.if_icmp .ge 89, 3) := by decide +kernel
theorem dX9_passHeads_10 : decode cX9_passHeads 10 = .ok (.aload_n 0, 1) := by decide +kernel
theorem dX9_passHeads_11 : decode cX9_passHeads 11 = .ok (.getfield 17, 3) := by decide +kernel
theorem dX9_passHeads_14 : decode cX9_passHeads 14 = .ok (.iload_n 3, 1) := by decide +kernel
theorem dX9_passHeads_15 : decode cX9_passHeads 15 = .ok (.aaload, 1) := by decide +kernel
theorem dX9_passHeads_16 : decode cX9_passHeads 16 = .ok (.astore 4, 2) := by decide +kernel
theorem dX9_passHeads_18 : decode cX9_passHeads 18 = .ok (.aload 4, 2) := by decide +kernel
theorem dX9_passHeads_20 : decode cX9_passHeads 20 = .ok (.getfield 273, 3) := by decide +kernel
theorem dX9_passHeads_23 : decode cX9_passHeads 23 = .ok (.aload_n 2, 1) := by decide +kernel
theorem dX9_passHeads_24 : decode cX9_passHeads 24 = .ok (.if_acmp .ne 66, 3) := by decide +kernel
theorem dX9_passHeads_27 : decode cX9_passHeads 27 = .ok (.aload 4, 2) := by decide +kernel
theorem dX9_passHeads_29 : decode cX9_passHeads 29 = .ok (.getfield 274, 3) := by decide +kernel
theorem dX9_passHeads_32 : decode cX9_passHeads 32 = .ok (.aload_n 1, 1) := by decide +kernel
theorem dX9_passHeads_33 : decode cX9_passHeads 33 = .ok (.getfield 230, 3) := by decide +kernel
theorem dX9_passHeads_36 : decode cX9_passHeads 36 = .ok (.if_icmp .ne 54, 3) := by decide +kernel
theorem dX9_passHeads_39 : decode cX9_passHeads 39 = .ok (.aload_n 0, 1) := by decide +kernel
theorem dX9_passHeads_40 : decode cX9_passHeads 40 = .ok (.aload_n 1, 1) := by decide +kernel
theorem dX9_passHeads_41 : decode cX9_passHeads 41 = .ok (.getfield 252, 3) := by decide +kernel
theorem dX9_passHeads_44 : decode cX9_passHeads 44 = .ok (.iload_n 3, 1) := by decide +kernel
theorem dX9_passHeads_45 : decode cX9_passHeads 45 = .ok (.invokevirtual 275, 3) := by decide +kernel
theorem dX9_passHeads_48 : decode cX9_passHeads 48 = .ok (.aload 4, 2) := by decide +kernel
theorem dX9_passHeads_50 : decode cX9_passHeads 50 = .ok (.getfield 279, 3) := by decide +kernel
theorem dX9_passHeads_53 : decode cX9_passHeads 53 = .ok (.dcmp .g, 1) := by decide +kernel
theorem dX9_passHeads_54 : decode cX9_passHeads 54 = .ok (.ifCond .ge 7, 3) := by decide +kernel
theorem dX9_passHeads_57 : decode cX9_passHeads 57 = .ok (.iconst 1, 1) := by decide +kernel
theorem dX9_passHeads_58 : decode cX9_passHeads 58 = .ok (.goto 4, 3) := by decide +kernel
theorem dX9_passHeads_61 : decode cX9_passHeads 61 = .ok (.iconst 0, 1) := by decide +kernel
theorem dX9_passHeads_62 : decode cX9_passHeads 62 = .ok (.istore 5, 2) := by decide +kernel
theorem dX9_passHeads_64 : decode cX9_passHeads 64 = .ok (.aload_n 0, 1) := by decide +kernel
theorem dX9_passHeads_65 : decode cX9_passHeads 65 = .ok (.getfield 50, 3) := by decide +kernel
theorem dX9_passHeads_68 : decode cX9_passHeads 68 = .ok (.aload_n 0, 1) := by decide +kernel
theorem dX9_passHeads_69 : decode cX9_passHeads 69 = .ok (.getfield 158, 3) := by decide +kernel
theorem dX9_passHeads_72 : decode cX9_passHeads 72 = .ok (.aload_n 1, 1) := by decide +kernel
theorem dX9_passHeads_73 : decode cX9_passHeads 73 = .ok (.getfield 252, 3) := by decide +kernel
theorem dX9_passHeads_76 : decode cX9_passHeads 76 = .ok (.iload 5, 2) := by decide +kernel
theorem dX9_passHeads_78 : decode cX9_passHeads 78 = .ok (.ifCond .eq 7, 3) := by decide +kernel
theorem dX9_passHeads_81 : decode cX9_passHeads 81 = .ok (.iconst 2, 1) := by decide +kernel
theorem dX9_passHeads_82 : decode cX9_passHeads 82 = .ok (.goto 4, 3) := by decide +kernel
theorem dX9_passHeads_85 : decode cX9_passHeads 85 = .ok (.iconst 1, 1) := by decide +kernel
theorem dX9_passHeads_86 : decode cX9_passHeads 86 = .ok (.iload_n 3, 1) := by decide +kernel
theorem dX9_passHeads_87 : decode cX9_passHeads 87 = .ok (.invokevirtual 256, 3) := by decide +kernel
theorem dX9_passHeads_90 : decode cX9_passHeads 90 = .ok (.iinc 3 1, 3) := by decide +kernel
theorem dX9_passHeads_93 : decode cX9_passHeads 93 = .ok (.goto (-91), 3) := by decide +kernel
theorem dX9_passHeads_96 : decode cX9_passHeads 96 = .ok (.return_, 1) := by decide +kernel
theorem dX9_leave_0 : decode cX9_leave 0 = .ok (.aload_n 1, 1) := by decide +kernel
theorem dX9_leave_1 : decode cX9_leave 1 = .ok (.aconst_null, 1) := by decide +kernel
theorem dX9_leave_2 : decode cX9_leave 2 = .ok (.putfield 214, 3) := by decide +kernel
theorem dX9_leave_5 : decode cX9_leave 5 = .ok (.aload_n 0, 1) := by decide +kernel
theorem dX9_leave_6 : decode cX9_leave 6 = .ok (.aload_n 1, 1) := by decide +kernel
theorem dX9_leave_7 : decode cX9_leave 7 = .ok (.aload_n 2, 1) := by decide +kernel
theorem dX9_leave_8 : decode cX9_leave 8 = .ok (.invokevirtual 282, 3) := by decide +kernel
theorem dX9_leave_11 : decode cX9_leave 11 = .ok (.ifCond .ne 12, 3) := by decide +kernel
theorem dX9_leave_14 : decode cX9_leave 14 = .ok (.aload_n 0, 1) := by decide +kernel
theorem dX9_leave_15 : decode cX9_leave 15 = .ok (.aload_n 1, 1) := by decide +kernel
theorem dX9_leave_16 : decode cX9_leave 16 = .ok (.aload_n 2, 1) := by decide +kernel
theorem dX9_leave_17 : decode cX9_leave 17 = .ok (.invokevirtual 286, 3) := by decide +kernel
theorem dX9_leave_20 : decode cX9_leave 20 = .ok (.ifCond .eq 19, 3) := by decide +kernel
theorem dX9_leave_23 : decode cX9_leave 23 = .ok (.aload_n 0, 1) := by decide +kernel
theorem dX9_leave_24 : decode cX9_leave 24 = .ok (.getfield 60, 3) := by decide +kernel
theorem dX9_leave_27 : decode cX9_leave 27 = .ok (.dup, 1) := by decide +kernel
theorem dX9_leave_28 : decode cX9_leave 28 = .ok (.getfield 289, 3) := by decide +kernel
theorem dX9_leave_31 : decode cX9_leave 31 = .ok (.iconst 1, 1) := by decide +kernel
theorem dX9_leave_32 : decode cX9_leave 32 = .ok (.iadd, 1) := by decide +kernel
theorem dX9_leave_33 : decode cX9_leave 33 = .ok (.putfield 289, 3) := by decide +kernel
theorem dX9_leave_36 : decode cX9_leave 36 = .ok (.goto 90, 3) := by decide +kernel
theorem dX9_leave_39 : decode cX9_leave 39 = .ok (.aload_n 2, 1) := by decide +kernel
theorem dX9_leave_40 : decode cX9_leave 40 = .ok (.getfield 117, 3) := by decide +kernel
theorem dX9_leave_43 : decode cX9_leave 43 = .ok (.ifnull 15, 3) := by decide +kernel
theorem dX9_leave_46 : decode cX9_leave 46 = .ok (.aload_n 0, 1) := by decide +kernel
theorem dX9_leave_47 : decode cX9_leave 47 = .ok (.aload_n 1, 1) := by decide +kernel
theorem dX9_leave_48 : decode cX9_leave 48 = .ok (.aload_n 2, 1) := by decide +kernel
theorem dX9_leave_49 : decode cX9_leave 49 = .ok (.getfield 117, 3) := by decide +kernel
theorem dX9_leave_52 : decode cX9_leave 52 = .ok (.invokevirtual 236, 3) := by decide +kernel
theorem dX9_leave_55 : decode cX9_leave 55 = .ok (.goto 71, 3) := by decide +kernel
theorem dX9_leave_58 : decode cX9_leave 58 = .ok (.aload_n 2, 1) := by decide +kernel
theorem dX9_leave_59 : decode cX9_leave 59 = .ok (.getfield 121, 3) := by decide +kernel
theorem dX9_leave_62 : decode cX9_leave 62 = .ok (.ifnull 15, 3) := by decide +kernel
theorem dX9_leave_65 : decode cX9_leave 65 = .ok (.aload_n 0, 1) := by decide +kernel
theorem dX9_leave_66 : decode cX9_leave 66 = .ok (.aload_n 1, 1) := by decide +kernel
theorem dX9_leave_67 : decode cX9_leave 67 = .ok (.aload_n 2, 1) := by decide +kernel
theorem dX9_leave_68 : decode cX9_leave 68 = .ok (.getfield 121, 3) := by decide +kernel
theorem dX9_leave_71 : decode cX9_leave 71 = .ok (.invokevirtual 292, 3) := by decide +kernel
theorem dX9_leave_74 : decode cX9_leave 74 = .ok (.goto 52, 3) := by decide +kernel
theorem dX9_leave_77 : decode cX9_leave 77 = .ok (.aload_n 0, 1) := by decide +kernel
theorem dX9_leave_78 : decode cX9_leave 78 = .ok (.getfield 60, 3) := by decide +kernel
theorem dX9_leave_81 : decode cX9_leave 81 = .ok (.dup, 1) := by decide +kernel
theorem dX9_leave_82 : decode cX9_leave 82 = .ok (.getfield 296, 3) := by decide +kernel
theorem dX9_leave_85 : decode cX9_leave 85 = .ok (.iconst 1, 1) := by decide +kernel
theorem dX9_leave_86 : decode cX9_leave 86 = .ok (.iadd, 1) := by decide +kernel
theorem dX9_leave_87 : decode cX9_leave 87 = .ok (.putfield 296, 3) := by decide +kernel
theorem dX9_leave_90 : decode cX9_leave 90 = .ok (.aload_n 2, 1) := by decide +kernel
theorem dX9_leave_91 : decode cX9_leave 91 = .ok (.getfield 180, 3) := by decide +kernel
theorem dX9_leave_94 : decode cX9_leave 94 = .ok (.aload_n 1, 1) := by decide +kernel
theorem dX9_leave_95 : decode cX9_leave 95 = .ok (.getfield 211, 3) := by decide +kernel
theorem dX9_leave_98 : decode cX9_leave 98 = .ok (.aaload, 1) := by decide +kernel
theorem dX9_leave_99 : decode cX9_leave 99 = .ok (.aload_n 0, 1) := by decide +kernel
theorem dX9_leave_100 : decode cX9_leave 100 = .ok (.getfield 158, 3) := by decide +kernel
theorem dX9_leave_103 : decode cX9_leave 103 = .ok (.invokevirtual 299, 3) := by decide +kernel
theorem dX9_leave_106 : decode cX9_leave 106 = .ok (.aload_n 0, 1) := by decide +kernel
theorem dX9_leave_107 : decode cX9_leave 107 = .ok (.getfield 50, 3) := by decide +kernel
theorem dX9_leave_110 : decode cX9_leave 110 = .ok (.aload_n 0, 1) := by decide +kernel
theorem dX9_leave_111 : decode cX9_leave 111 = .ok (.getfield 158, 3) := by decide +kernel
theorem dX9_leave_114 : decode cX9_leave 114 = .ok (.aload_n 1, 1) := by decide +kernel
theorem dX9_leave_115 : decode cX9_leave 115 = .ok (.getfield 252, 3) := by decide +kernel
theorem dX9_leave_118 : decode cX9_leave 118 = .ok (.iconst 4, 1) := by decide +kernel
theorem dX9_leave_119 : decode cX9_leave 119 = .ok (.aload_n 2, 1) := by decide +kernel
theorem dX9_leave_120 : decode cX9_leave 120 = .ok (.getfield 255, 3) := by decide +kernel
theorem dX9_leave_123 : decode cX9_leave 123 = .ok (.invokevirtual 256, 3) := by decide +kernel
theorem dX9_leave_126 : decode cX9_leave 126 = .ok (.return_, 1) := by decide +kernel
theorem dX9_takenByRobot_0 : decode cX9_takenByRobot 0 = .ok (.aload_n 1, 1) := by decide +kernel
theorem dX9_takenByRobot_1 : decode cX9_takenByRobot 1 = .ok (.getfield 211, 3) := by decide +kernel
theorem dX9_takenByRobot_4 : decode cX9_takenByRobot 4 = .ok (.ifCond .ne 5, 3) := by decide +kernel
theorem dX9_takenByRobot_7 : decode cX9_takenByRobot 7 = .ok (.iconst 0, 1) := by decide +kernel
theorem dX9_takenByRobot_8 : decode cX9_takenByRobot 8 = .ok (.ireturn, 1) := by decide +kernel
theorem dX9_takenByRobot_9 : decode cX9_takenByRobot 9 = .ok (.iconst 0, 1) := by decide +kernel
theorem dX9_takenByRobot_10 : decode cX9_takenByRobot 10 = .ok (.istore_n 3, 1) := by decide +kernel
theorem dX9_takenByRobot_11 : decode cX9_takenByRobot 11 = .ok (.iload_n 3, 1) := by decide +kernel
theorem dX9_takenByRobot_12 : decode cX9_takenByRobot 12 = .ok (.aload_n 0, 1) := by decide +kernel
theorem dX9_takenByRobot_13 : decode cX9_takenByRobot 13 = .ok (.getfield 147, 3) := by decide +kernel
theorem dX9_takenByRobot_16 : decode cX9_takenByRobot 16 = .ok (.if_icmp .ge 80, 3) := by decide +kernel
theorem dX9_takenByRobot_19 : decode cX9_takenByRobot 19 = .ok (.aload_n 0, 1) := by decide +kernel
theorem dX9_takenByRobot_20 : decode cX9_takenByRobot 20 = .ok (.getfield 35, 3) := by decide +kernel
theorem dX9_takenByRobot_23 : decode cX9_takenByRobot 23 = .ok (.iload_n 3, 1) := by decide +kernel
theorem dX9_takenByRobot_24 : decode cX9_takenByRobot 24 = .ok (.aaload, 1) := by decide +kernel
theorem dX9_takenByRobot_25 : decode cX9_takenByRobot 25 = .ok (.astore 4, 2) := by decide +kernel
theorem dX9_takenByRobot_27 : decode cX9_takenByRobot 27 = .ok (.aload 4, 2) := by decide +kernel
theorem dX9_takenByRobot_29 : decode cX9_takenByRobot 29 = .ok (.getfield 301, 3) := by decide +kernel
theorem dX9_takenByRobot_32 : decode cX9_takenByRobot 32 = .ok (.aload_n 2, 1) := by decide +kernel
theorem dX9_takenByRobot_33 : decode cX9_takenByRobot 33 = .ok (.if_acmp .ne 57, 3) := by decide +kernel
theorem dX9_takenByRobot_36 : decode cX9_takenByRobot 36 = .ok (.aload_n 1, 1) := by decide +kernel
theorem dX9_takenByRobot_37 : decode cX9_takenByRobot 37 = .ok (.getfield 267, 3) := by decide +kernel
theorem dX9_takenByRobot_40 : decode cX9_takenByRobot 40 = .ok (.aload 4, 2) := by decide +kernel
theorem dX9_takenByRobot_42 : decode cX9_takenByRobot 42 = .ok (.getfield 302, 3) := by decide +kernel
theorem dX9_takenByRobot_45 : decode cX9_takenByRobot 45 = .ok (.dcmp .g, 1) := by decide +kernel
theorem dX9_takenByRobot_46 : decode cX9_takenByRobot 46 = .ok (.ifCond .gt 44, 3) := by decide +kernel
theorem dX9_takenByRobot_49 : decode cX9_takenByRobot 49 = .ok (.aload_n 0, 1) := by decide +kernel
theorem dX9_takenByRobot_50 : decode cX9_takenByRobot 50 = .ok (.aload_n 1, 1) := by decide +kernel
theorem dX9_takenByRobot_51 : decode cX9_takenByRobot 51 = .ok (.getfield 252, 3) := by decide +kernel
theorem dX9_takenByRobot_54 : decode cX9_takenByRobot 54 = .ok (.bipush 100, 2) := by decide +kernel
theorem dX9_takenByRobot_56 : decode cX9_takenByRobot 56 = .ok (.iload_n 3, 1) := by decide +kernel
theorem dX9_takenByRobot_57 : decode cX9_takenByRobot 57 = .ok (.iadd, 1) := by decide +kernel
theorem dX9_takenByRobot_58 : decode cX9_takenByRobot 58 = .ok (.invokevirtual 275, 3) := by decide +kernel
theorem dX9_takenByRobot_61 : decode cX9_takenByRobot 61 = .ok (.aload 4, 2) := by decide +kernel
theorem dX9_takenByRobot_63 : decode cX9_takenByRobot 63 = .ok (.getfield 305, 3) := by decide +kernel
theorem dX9_takenByRobot_66 : decode cX9_takenByRobot 66 = .ok (.dcmp .l, 1) := by decide +kernel
theorem dX9_takenByRobot_67 : decode cX9_takenByRobot 67 = .ok (.ifCond .lt 23, 3) := by decide +kernel
theorem dX9_takenByRobot_70 : decode cX9_takenByRobot 70 = .ok (.aload_n 0, 1) := by decide +kernel
theorem dX9_takenByRobot_71 : decode cX9_takenByRobot 71 = .ok (.getfield 50, 3) := by decide +kernel
theorem dX9_takenByRobot_74 : decode cX9_takenByRobot 74 = .ok (.aload_n 0, 1) := by decide +kernel
theorem dX9_takenByRobot_75 : decode cX9_takenByRobot 75 = .ok (.getfield 158, 3) := by decide +kernel
theorem dX9_takenByRobot_78 : decode cX9_takenByRobot 78 = .ok (.aload_n 1, 1) := by decide +kernel
theorem dX9_takenByRobot_79 : decode cX9_takenByRobot 79 = .ok (.getfield 252, 3) := by decide +kernel
theorem dX9_takenByRobot_82 : decode cX9_takenByRobot 82 = .ok (.bipush 6, 2) := by decide +kernel
theorem dX9_takenByRobot_84 : decode cX9_takenByRobot 84 = .ok (.iload_n 3, 1) := by decide +kernel
theorem dX9_takenByRobot_85 : decode cX9_takenByRobot 85 = .ok (.invokevirtual 256, 3) := by decide +kernel
theorem dX9_takenByRobot_88 : decode cX9_takenByRobot 88 = .ok (.iconst 1, 1) := by decide +kernel
theorem dX9_takenByRobot_89 : decode cX9_takenByRobot 89 = .ok (.ireturn, 1) := by decide +kernel
theorem dX9_takenByRobot_90 : decode cX9_takenByRobot 90 = .ok (.iinc 3 1, 3) := by decide +kernel
theorem dX9_takenByRobot_93 : decode cX9_takenByRobot 93 = .ok (.goto (-82), 3) := by decide +kernel
theorem dX9_takenByRobot_96 : decode cX9_takenByRobot 96 = .ok (.iconst 0, 1) := by decide +kernel
theorem dX9_takenByRobot_97 : decode cX9_takenByRobot 97 = .ok (.ireturn, 1) := by decide +kernel
theorem dX9_takenByPicker_0 : decode cX9_takenByPicker 0 = .ok (.aload_n 1, 1) := by decide +kernel
theorem dX9_takenByPicker_1 : decode cX9_takenByPicker 1 = .ok (.getfield 211, 3) := by decide +kernel
theorem dX9_takenByPicker_4 : decode cX9_takenByPicker 4 = .ok (.ifCond .ne 5, 3) := by decide +kernel
theorem dX9_takenByPicker_7 : decode cX9_takenByPicker 7 = .ok (.iconst 0, 1) := by decide +kernel
theorem dX9_takenByPicker_8 : decode cX9_takenByPicker 8 = .ok (.ireturn, 1) := by decide +kernel
theorem dX9_takenByPicker_9 : decode cX9_takenByPicker 9 = .ok (.iconst 0, 1) := by decide +kernel
theorem dX9_takenByPicker_10 : decode cX9_takenByPicker 10 = .ok (.istore_n 3, 1) := by decide +kernel
theorem dX9_takenByPicker_11 : decode cX9_takenByPicker 11 = .ok (.iload_n 3, 1) := by decide +kernel
theorem dX9_takenByPicker_12 : decode cX9_takenByPicker 12 = .ok (.aload_n 0, 1) := by decide +kernel
theorem dX9_takenByPicker_13 : decode cX9_takenByPicker 13 = .ok (.getfield 135, 3) := by decide +kernel
theorem dX9_takenByPicker_16 : decode cX9_takenByPicker 16 = .ok (.if_icmp .ge 66, 3) := by decide +kernel
theorem dX9_takenByPicker_19 : decode cX9_takenByPicker 19 = .ok (.aload_n 0, 1) := by decide +kernel
theorem dX9_takenByPicker_20 : decode cX9_takenByPicker 20 = .ok (.getfield 29, 3) := by decide +kernel
theorem dX9_takenByPicker_23 : decode cX9_takenByPicker 23 = .ok (.iload_n 3, 1) := by decide +kernel
theorem dX9_takenByPicker_24 : decode cX9_takenByPicker 24 = .ok (.aaload, 1) := by decide +kernel
theorem dX9_takenByPicker_25 : decode cX9_takenByPicker 25 = .ok (.astore 4, 2) := by decide +kernel
theorem dX9_takenByPicker_27 : decode cX9_takenByPicker 27 = .ok (.aload 4, 2) := by decide +kernel
theorem dX9_takenByPicker_29 : decode cX9_takenByPicker 29 = .ok (.getfield 306, 3) := by decide +kernel
theorem dX9_takenByPicker_32 : decode cX9_takenByPicker 32 = .ok (.aload_n 2, 1) := by decide +kernel
theorem dX9_takenByPicker_33 : decode cX9_takenByPicker 33 = .ok (.if_acmp .ne 43, 3) := by decide +kernel
theorem dX9_takenByPicker_36 : decode cX9_takenByPicker 36 = .ok (.aload_n 0, 1) := by decide +kernel
theorem dX9_takenByPicker_37 : decode cX9_takenByPicker 37 = .ok (.getfield 158, 3) := by decide +kernel
theorem dX9_takenByPicker_40 : decode cX9_takenByPicker 40 = .ok (.aload 4, 2) := by decide +kernel
theorem dX9_takenByPicker_42 : decode cX9_takenByPicker 42 = .ok (.getfield 307, 3) := by decide +kernel
theorem dX9_takenByPicker_45 : decode cX9_takenByPicker 45 = .ok (.if_icmp .lt 31, 3) := by decide +kernel
theorem dX9_takenByPicker_48 : decode cX9_takenByPicker 48 = .ok (.aload 4, 2) := by decide +kernel
theorem dX9_takenByPicker_50 : decode cX9_takenByPicker 50 = .ok (.aload_n 0, 1) := by decide +kernel
theorem dX9_takenByPicker_51 : decode cX9_takenByPicker 51 = .ok (.getfield 158, 3) := by decide +kernel
theorem dX9_takenByPicker_54 : decode cX9_takenByPicker 54 = .ok (.invokevirtual 310, 3) := by decide +kernel
theorem dX9_takenByPicker_57 : decode cX9_takenByPicker 57 = .ok (.aload_n 0, 1) := by decide +kernel
theorem dX9_takenByPicker_58 : decode cX9_takenByPicker 58 = .ok (.getfield 50, 3) := by decide +kernel
theorem dX9_takenByPicker_61 : decode cX9_takenByPicker 61 = .ok (.aload_n 0, 1) := by decide +kernel
theorem dX9_takenByPicker_62 : decode cX9_takenByPicker 62 = .ok (.getfield 158, 3) := by decide +kernel
theorem dX9_takenByPicker_65 : decode cX9_takenByPicker 65 = .ok (.aload_n 1, 1) := by decide +kernel
theorem dX9_takenByPicker_66 : decode cX9_takenByPicker 66 = .ok (.getfield 252, 3) := by decide +kernel
theorem dX9_takenByPicker_69 : decode cX9_takenByPicker 69 = .ok (.iconst 5, 1) := by decide +kernel
theorem dX9_takenByPicker_70 : decode cX9_takenByPicker 70 = .ok (.iload_n 3, 1) := by decide +kernel
theorem dX9_takenByPicker_71 : decode cX9_takenByPicker 71 = .ok (.invokevirtual 256, 3) := by decide +kernel
theorem dX9_takenByPicker_74 : decode cX9_takenByPicker 74 = .ok (.iconst 1, 1) := by decide +kernel
theorem dX9_takenByPicker_75 : decode cX9_takenByPicker 75 = .ok (.ireturn, 1) := by decide +kernel
theorem dX9_takenByPicker_76 : decode cX9_takenByPicker 76 = .ok (.iinc 3 1, 3) := by decide +kernel
theorem dX9_takenByPicker_79 : decode cX9_takenByPicker 79 = .ok (.goto (-68), 3) := by decide +kernel
theorem dX9_takenByPicker_82 : decode cX9_takenByPicker 82 = .ok (.iconst 0, 1) := by decide +kernel
theorem dX9_takenByPicker_83 : decode cX9_takenByPicker 83 = .ok (.ireturn, 1) := by decide +kernel
theorem dX9_fill_0 : decode cX9_fill 0 = .ok (.aload_n 2, 1) := by decide +kernel
theorem dX9_fill_1 : decode cX9_fill 1 = .ok (.getfield 313, 3) := by decide +kernel
theorem dX9_fill_4 : decode cX9_fill 4 = .ok (.aload_n 1, 1) := by decide +kernel
theorem dX9_fill_5 : decode cX9_fill 5 = .ok (.getfield 267, 3) := by decide +kernel
theorem dX9_fill_8 : decode cX9_fill 8 = .ok (.dadd, 1) := by decide +kernel
theorem dX9_fill_9 : decode cX9_fill 9 = .ok (.dstore_n 3, 1) := by decide +kernel
theorem dX9_fill_10 : decode cX9_fill 10 = .ok (.dload_n 3, 1) := by decide +kernel
theorem dX9_fill_11 : decode cX9_fill 11 = .ok (.aload_n 2, 1) := by decide +kernel
theorem dX9_fill_12 : decode cX9_fill 12 = .ok (.getfield 316, 3) := by decide +kernel
theorem dX9_fill_15 : decode cX9_fill 15 = .ok (.dcmp .g, 1) := by decide +kernel
theorem dX9_fill_16 : decode cX9_fill 16 = .ok (.ifCond .gt 45, 3) := by decide +kernel
theorem dX9_fill_19 : decode cX9_fill 19 = .ok (.aload_n 2, 1) := by decide +kernel
theorem dX9_fill_20 : decode cX9_fill 20 = .ok (.dload_n 3, 1) := by decide +kernel
theorem dX9_fill_21 : decode cX9_fill 21 = .ok (.putfield 313, 3) := by decide +kernel
theorem dX9_fill_24 : decode cX9_fill 24 = .ok (.aload_n 0, 1) := by decide +kernel
theorem dX9_fill_25 : decode cX9_fill 25 = .ok (.getfield 60, 3) := by decide +kernel
theorem dX9_fill_28 : decode cX9_fill 28 = .ok (.dup, 1) := by decide +kernel
theorem dX9_fill_29 : decode cX9_fill 29 = .ok (.getfield 193, 3) := by decide +kernel
theorem dX9_fill_32 : decode cX9_fill 32 = .ok (.iconst 1, 1) := by decide +kernel
theorem dX9_fill_33 : decode cX9_fill 33 = .ok (.iadd, 1) := by decide +kernel
theorem dX9_fill_34 : decode cX9_fill 34 = .ok (.putfield 193, 3) := by decide +kernel
theorem dX9_fill_37 : decode cX9_fill 37 = .ok (.aload_n 0, 1) := by decide +kernel
theorem dX9_fill_38 : decode cX9_fill 38 = .ok (.getfield 50, 3) := by decide +kernel
theorem dX9_fill_41 : decode cX9_fill 41 = .ok (.aload_n 0, 1) := by decide +kernel
theorem dX9_fill_42 : decode cX9_fill 42 = .ok (.getfield 158, 3) := by decide +kernel
theorem dX9_fill_45 : decode cX9_fill 45 = .ok (.aload_n 1, 1) := by decide +kernel
theorem dX9_fill_46 : decode cX9_fill 46 = .ok (.getfield 252, 3) := by decide +kernel
theorem dX9_fill_49 : decode cX9_fill 49 = .ok (.bipush 9, 2) := by decide +kernel
theorem dX9_fill_51 : decode cX9_fill 51 = .ok (.aload_n 2, 1) := by decide +kernel
theorem dX9_fill_52 : decode cX9_fill 52 = .ok (.getfield 319, 3) := by decide +kernel
theorem dX9_fill_55 : decode cX9_fill 55 = .ok (.invokevirtual 256, 3) := by decide +kernel
theorem dX9_fill_58 : decode cX9_fill 58 = .ok (.goto 37, 3) := by decide +kernel
theorem dX9_fill_61 : decode cX9_fill 61 = .ok (.aload_n 0, 1) := by decide +kernel
theorem dX9_fill_62 : decode cX9_fill 62 = .ok (.getfield 60, 3) := by decide +kernel
theorem dX9_fill_65 : decode cX9_fill 65 = .ok (.getfield 196, 3) := by decide +kernel
theorem dX9_fill_68 : decode cX9_fill 68 = .ok (.iconst 2, 1) := by decide +kernel
theorem dX9_fill_69 : decode cX9_fill 69 = .ok (.dup2, 1) := by decide +kernel
theorem dX9_fill_70 : decode cX9_fill 70 = .ok (.laload, 1) := by decide +kernel
theorem dX9_fill_71 : decode cX9_fill 71 = .ok (.lconst 1, 1) := by decide +kernel
theorem dX9_fill_72 : decode cX9_fill 72 = .ok (.ladd, 1) := by decide +kernel
theorem dX9_fill_73 : decode cX9_fill 73 = .ok (.lastore, 1) := by decide +kernel
theorem dX9_fill_74 : decode cX9_fill 74 = .ok (.aload_n 0, 1) := by decide +kernel
theorem dX9_fill_75 : decode cX9_fill 75 = .ok (.getfield 50, 3) := by decide +kernel
theorem dX9_fill_78 : decode cX9_fill 78 = .ok (.aload_n 0, 1) := by decide +kernel
theorem dX9_fill_79 : decode cX9_fill 79 = .ok (.getfield 158, 3) := by decide +kernel
theorem dX9_fill_82 : decode cX9_fill 82 = .ok (.aload_n 1, 1) := by decide +kernel
theorem dX9_fill_83 : decode cX9_fill 83 = .ok (.getfield 252, 3) := by decide +kernel
theorem dX9_fill_86 : decode cX9_fill 86 = .ok (.bipush 8, 2) := by decide +kernel
theorem dX9_fill_88 : decode cX9_fill 88 = .ok (.aload_n 2, 1) := by decide +kernel
theorem dX9_fill_89 : decode cX9_fill 89 = .ok (.getfield 319, 3) := by decide +kernel
theorem dX9_fill_92 : decode cX9_fill 92 = .ok (.invokevirtual 256, 3) := by decide +kernel
theorem dX9_fill_95 : decode cX9_fill 95 = .ok (.return_, 1) := by decide +kernel
theorem dX9_chance_0 : decode cX9_chance 0 = .ok (.aload_n 0, 1) := by decide +kernel
theorem dX9_chance_1 : decode cX9_chance 1 = .ok (.getfield 64, 3) := by decide +kernel
theorem dX9_chance_4 : decode cX9_chance 4 = .ok (.ldc2_w 320, 3) := by decide +kernel
theorem dX9_chance_7 : decode cX9_chance 7 = .ok (.lmul, 1) := by decide +kernel
theorem dX9_chance_8 : decode cX9_chance 8 = .ok (.iload_n 1, 1) := by decide +kernel
theorem dX9_chance_9 : decode cX9_chance 9 = .ok (.i2l, 1) := by decide +kernel
theorem dX9_chance_10 : decode cX9_chance 10 = .ok (.ldc2_w 322, 3) := by decide +kernel
theorem dX9_chance_13 : decode cX9_chance 13 = .ok (.lmul, 1) := by decide +kernel
theorem dX9_chance_14 : decode cX9_chance 14 = .ok (.ladd, 1) := by decide +kernel
theorem dX9_chance_15 : decode cX9_chance 15 = .ok (.iload_n 2, 1) := by decide +kernel
theorem dX9_chance_16 : decode cX9_chance 16 = .ok (.i2l, 1) := by decide +kernel
theorem dX9_chance_17 : decode cX9_chance 17 = .ok (.ldc2_w 324, 3) := by decide +kernel
theorem dX9_chance_20 : decode cX9_chance 20 = .ok (.lmul, 1) := by decide +kernel
theorem dX9_chance_21 : decode cX9_chance 21 = .ok (.ladd, 1) := by decide +kernel
theorem dX9_chance_22 : decode cX9_chance 22 = .ok (.lstore_n 3, 1) := by decide +kernel
theorem dX9_chance_23 : decode cX9_chance 23 = .ok (.lload_n 3, 1) := by decide +kernel
theorem dX9_chance_24 : decode cX9_chance 24 = .ok (.lload_n 3, 1) := by decide +kernel
theorem dX9_chance_25 : decode cX9_chance 25 = .ok (.bipush 29, 2) := by decide +kernel
theorem dX9_chance_27 : decode cX9_chance 27 = .ok (.lushr, 1) := by decide +kernel
theorem dX9_chance_28 : decode cX9_chance 28 = .ok (.lxor, 1) := by decide +kernel
theorem dX9_chance_29 : decode cX9_chance 29 = .ok (.ldc2_w 326, 3) := by decide +kernel
theorem dX9_chance_32 : decode cX9_chance 32 = .ok (.lmul, 1) := by decide +kernel
theorem dX9_chance_33 : decode cX9_chance 33 = .ok (.lstore_n 3, 1) := by decide +kernel
theorem dX9_chance_34 : decode cX9_chance 34 = .ok (.lload_n 3, 1) := by decide +kernel
theorem dX9_chance_35 : decode cX9_chance 35 = .ok (.lload_n 3, 1) := by decide +kernel
theorem dX9_chance_36 : decode cX9_chance 36 = .ok (.bipush 32, 2) := by decide +kernel
theorem dX9_chance_38 : decode cX9_chance 38 = .ok (.lushr, 1) := by decide +kernel
theorem dX9_chance_39 : decode cX9_chance 39 = .ok (.lxor, 1) := by decide +kernel
theorem dX9_chance_40 : decode cX9_chance 40 = .ok (.lstore_n 3, 1) := by decide +kernel
theorem dX9_chance_41 : decode cX9_chance 41 = .ok (.lload_n 3, 1) := by decide +kernel
theorem dX9_chance_42 : decode cX9_chance 42 = .ok (.bipush 11, 2) := by decide +kernel
theorem dX9_chance_44 : decode cX9_chance 44 = .ok (.lushr, 1) := by decide +kernel
theorem dX9_chance_45 : decode cX9_chance 45 = .ok (.l2d, 1) := by decide +kernel
theorem dX9_chance_46 : decode cX9_chance 46 = .ok (.ldc2_w 328, 3) := by decide +kernel
theorem dX9_chance_49 : decode cX9_chance 49 = .ok (.ddiv, 1) := by decide +kernel
theorem dX9_chance_50 : decode cX9_chance 50 = .ok (.dreturn, 1) := by decide +kernel
