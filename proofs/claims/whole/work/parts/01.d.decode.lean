theorem dX9_size_19 : decode cX9_size 19 = .ok (.bipush 13, 2) := by decide +kernel
theorem dX9_size_21 : decode cX9_size 21 = .ok (.if_icmp .le 8, 3) := by decide +kernel
theorem dX9_size_24 : decode cX9_size 24 = .ok (.bipush (-6), 2) := by decide +kernel
theorem dX9_size_26 : decode cX9_size 26 = .ok (.goto 5, 3) := by decide +kernel
theorem dX9_size_29 : decode cX9_size 29 = .ok (.bipush (-3), 2) := by decide +kernel
theorem dX9_size_31 : decode cX9_size 31 = .ok (.invokevirtual 90, 3) := by decide +kernel
theorem dX9_size_34 : decode cX9_size 34 = .ok (.ireturn, 1) := by decide +kernel
theorem dX9_size_35 : decode cX9_size 35 = .ok (.aload_n 0, 1) := by decide +kernel
theorem dX9_size_36 : decode cX9_size 36 = .ok (.getfield 7, 3) := by decide +kernel
theorem dX9_size_39 : decode cX9_size 39 = .ok (.istore_n 2, 1) := by decide +kernel
theorem dX9_size_40 : decode cX9_size 40 = .ok (.aload_n 0, 1) := by decide +kernel
theorem dX9_size_41 : decode cX9_size 41 = .ok (.iload_n 1, 1) := by decide +kernel
theorem dX9_size_42 : decode cX9_size 42 = .ok (.invokevirtual 109, 3) := by decide +kernel
theorem dX9_size_45 : decode cX9_size 45 = .ok (.iload_n 2, 1) := by decide +kernel
theorem dX9_size_46 : decode cX9_size 46 = .ok (.ireturn, 1) := by decide +kernel
theorem dX9_comes_0 : decode cX9_comes 0 = .ok (.aload_n 0, 1) := by decide +kernel
theorem dX9_comes_1 : decode cX9_comes 1 = .ok (.getfield 13, 3) := by decide +kernel
theorem dX9_comes_4 : decode cX9_comes 4 = .ok (.iconst 3, 1) := by decide +kernel
theorem dX9_comes_5 : decode cX9_comes 5 = .ok (.aload_n 0, 1) := by decide +kernel
theorem dX9_comes_6 : decode cX9_comes 6 = .ok (.getfield 87, 3) := by decide +kernel
theorem dX9_comes_9 : decode cX9_comes 9 = .ok (.imul, 1) := by decide +kernel
theorem dX9_comes_10 : decode cX9_comes 10 = .ok (.iload_n 1, 1) := by decide +kernel
theorem dX9_comes_11 : decode cX9_comes 11 = .ok (.iastore, 1) := by decide +kernel
theorem dX9_comes_12 : decode cX9_comes 12 = .ok (.aload_n 0, 1) := by decide +kernel
theorem dX9_comes_13 : decode cX9_comes 13 = .ok (.getfield 13, 3) := by decide +kernel
theorem dX9_comes_16 : decode cX9_comes 16 = .ok (.iconst 3, 1) := by decide +kernel
theorem dX9_comes_17 : decode cX9_comes 17 = .ok (.aload_n 0, 1) := by decide +kernel
theorem dX9_comes_18 : decode cX9_comes 18 = .ok (.getfield 87, 3) := by decide +kernel
theorem dX9_comes_21 : decode cX9_comes 21 = .ok (.imul, 1) := by decide +kernel
theorem dX9_comes_22 : decode cX9_comes 22 = .ok (.iconst 1, 1) := by decide +kernel
theorem dX9_comes_23 : decode cX9_comes 23 = .ok (.iadd, 1) := by decide +kernel
theorem dX9_comes_24 : decode cX9_comes 24 = .ok (.iload_n 2, 1) := by decide +kernel
theorem dX9_comes_25 : decode cX9_comes 25 = .ok (.iastore, 1) := by decide +kernel
theorem dX9_comes_26 : decode cX9_comes 26 = .ok (.aload_n 0, 1) := by decide +kernel
theorem dX9_comes_27 : decode cX9_comes 27 = .ok (.getfield 13, 3) := by decide +kernel
theorem dX9_comes_30 : decode cX9_comes 30 = .ok (.iconst 3, 1) := by decide +kernel
theorem dX9_comes_31 : decode cX9_comes 31 = .ok (.aload_n 0, 1) := by decide +kernel
theorem dX9_comes_32 : decode cX9_comes 32 = .ok (.getfield 87, 3) := by decide +kernel
theorem dX9_comes_35 : decode cX9_comes 35 = .ok (.imul, 1) := by decide +kernel
theorem dX9_comes_36 : decode cX9_comes 36 = .ok (.iconst 2, 1) := by decide +kernel
theorem dX9_comes_37 : decode cX9_comes 37 = .ok (.iadd, 1) := by decide +kernel
theorem dX9_comes_38 : decode cX9_comes 38 = .ok (.iload_n 3, 1) := by decide +kernel
theorem dX9_comes_39 : decode cX9_comes 39 = .ok (.iastore, 1) := by decide +kernel
theorem dX9_comes_40 : decode cX9_comes 40 = .ok (.aload_n 0, 1) := by decide +kernel
theorem dX9_comes_41 : decode cX9_comes 41 = .ok (.dup, 1) := by decide +kernel
theorem dX9_comes_42 : decode cX9_comes 42 = .ok (.getfield 87, 3) := by decide +kernel
theorem dX9_comes_45 : decode cX9_comes 45 = .ok (.iconst 1, 1) := by decide +kernel
theorem dX9_comes_46 : decode cX9_comes 46 = .ok (.iadd, 1) := by decide +kernel
theorem dX9_comes_47 : decode cX9_comes 47 = .ok (.putfield 87, 3) := by decide +kernel
theorem dX9_comes_50 : decode cX9_comes 50 = .ok (.return_, 1) := by decide +kernel
theorem dX9_pair_0 : decode cX9_pair 0 = .ok (.iload_n 1, 1) := by decide +kernel
theorem dX9_pair_1 : decode cX9_pair 1 = .ok (.iconst 1, 1) := by decide +kernel
theorem dX9_pair_2 : decode cX9_pair 2 = .ok (.if_icmp .lt 8, 3) := by decide +kernel
theorem dX9_pair_5 : decode cX9_pair 5 = .ok (.iload_n 2, 1) := by decide +kernel
theorem dX9_pair_6 : decode cX9_pair 6 = .ok (.iconst 1, 1) := by decide +kernel
theorem dX9_pair_7 : decode cX9_pair 7 = .ok (.if_icmp .ge 10, 3) := by decide +kernel
theorem dX9_pair_10 : decode cX9_pair 10 = .ok (.aload_n 0, 1) := by decide +kernel
theorem dX9_pair_11 : decode cX9_pair 11 = .ok (.bipush (-4), 2) := by decide +kernel
theorem dX9_pair_13 : decode cX9_pair 13 = .ok (.invokevirtual 90, 3) := by decide +kernel
theorem dX9_pair_16 : decode cX9_pair 16 = .ok (.ireturn, 1) := by decide +kernel
theorem dX9_pair_17 : decode cX9_pair 17 = .ok (.iload_n 1, 1) := by decide +kernel
theorem dX9_pair_18 : decode cX9_pair 18 = .ok (.aload_n 0, 1) := by decide +kernel
theorem dX9_pair_19 : decode cX9_pair 19 = .ok (.getfield 7, 3) := by decide +kernel
theorem dX9_pair_22 : decode cX9_pair 22 = .ok (.if_icmp .ge 22, 3) := by decide +kernel
theorem dX9_pair_25 : decode cX9_pair 25 = .ok (.iload_n 2, 1) := by decide +kernel
theorem dX9_pair_26 : decode cX9_pair 26 = .ok (.aload_n 0, 1) := by decide +kernel
theorem dX9_pair_27 : decode cX9_pair 27 = .ok (.getfield 7, 3) := by decide +kernel
theorem dX9_pair_30 : decode cX9_pair 30 = .ok (.if_icmp .ge 14, 3) := by decide +kernel
theorem dX9_pair_33 : decode cX9_pair 33 = .ok (.aload_n 0, 1) := by decide +kernel
theorem dX9_pair_34 : decode cX9_pair 34 = .ok (.getfield 87, 3) := by decide +kernel
theorem dX9_pair_37 : decode cX9_pair 37 = .ok (.aload_n 0, 1) := by decide +kernel
theorem dX9_pair_38 : decode cX9_pair 38 = .ok (.invokevirtual 113, 3) := by decide +kernel
theorem dX9_pair_41 : decode cX9_pair 41 = .ok (.if_icmp .ne 10, 3) := by decide +kernel
theorem dX9_pair_44 : decode cX9_pair 44 = .ok (.aload_n 0, 1) := by decide +kernel
theorem dX9_pair_45 : decode cX9_pair 45 = .ok (.bipush (-6), 2) := by decide +kernel
theorem dX9_pair_47 : decode cX9_pair 47 = .ok (.invokevirtual 90, 3) := by decide +kernel
theorem dX9_pair_50 : decode cX9_pair 50 = .ok (.ireturn, 1) := by decide +kernel
theorem dX9_pair_51 : decode cX9_pair 51 = .ok (.iload_n 1, 1) := by decide +kernel
theorem dX9_pair_52 : decode cX9_pair 52 = .ok (.iload_n 2, 1) := by decide +kernel
theorem dX9_pair_53 : decode cX9_pair 53 = .ok (.if_icmp .ne 10, 3) := by decide +kernel
theorem dX9_pair_56 : decode cX9_pair 56 = .ok (.aload_n 0, 1) := by decide +kernel
theorem dX9_pair_57 : decode cX9_pair 57 = .ok (.bipush (-3), 2) := by decide +kernel
theorem dX9_pair_59 : decode cX9_pair 59 = .ok (.invokevirtual 90, 3) := by decide +kernel
theorem dX9_pair_62 : decode cX9_pair 62 = .ok (.ireturn, 1) := by decide +kernel
theorem dX9_pair_63 : decode cX9_pair 63 = .ok (.aload_n 0, 1) := by decide +kernel
theorem dX9_pair_64 : decode cX9_pair 64 = .ok (.iload_n 1, 1) := by decide +kernel
theorem dX9_pair_65 : decode cX9_pair 65 = .ok (.iload_n 2, 1) := by decide +kernel
theorem dX9_pair_66 : decode cX9_pair 66 = .ok (.iconst 0, 1) := by decide +kernel
theorem dX9_pair_67 : decode cX9_pair 67 = .ok (.invokevirtual 117, 3) := by decide +kernel
theorem dX9_pair_70 : decode cX9_pair 70 = .ok (.aload_n 0, 1) := by decide +kernel
theorem dX9_pair_71 : decode cX9_pair 71 = .ok (.iconst 0, 1) := by decide +kernel
theorem dX9_pair_72 : decode cX9_pair 72 = .ok (.putfield 80, 3) := by decide +kernel
theorem dX9_pair_75 : decode cX9_pair 75 = .ok (.aload_n 0, 1) := by decide +kernel
theorem dX9_pair_76 : decode cX9_pair 76 = .ok (.getfield 87, 3) := by decide +kernel
theorem dX9_pair_79 : decode cX9_pair 79 = .ok (.iconst 1, 1) := by decide +kernel
theorem dX9_pair_80 : decode cX9_pair 80 = .ok (.isub, 1) := by decide +kernel
theorem dX9_pair_81 : decode cX9_pair 81 = .ok (.ireturn, 1) := by decide +kernel
theorem dX9_drop_0 : decode cX9_drop 0 = .ok (.aload_n 0, 1) := by decide +kernel
theorem dX9_drop_1 : decode cX9_drop 1 = .ok (.getfield 87, 3) := by decide +kernel
theorem dX9_drop_4 : decode cX9_drop 4 = .ok (.ifCond .ne 10, 3) := by decide +kernel
theorem dX9_drop_7 : decode cX9_drop 7 = .ok (.aload_n 0, 1) := by decide +kernel
theorem dX9_drop_8 : decode cX9_drop 8 = .ok (.bipush (-3), 2) := by decide +kernel
theorem dX9_drop_10 : decode cX9_drop 10 = .ok (.invokevirtual 90, 3) := by decide +kernel
theorem dX9_drop_13 : decode cX9_drop 13 = .ok (.ireturn, 1) := by decide +kernel
theorem dX9_drop_14 : decode cX9_drop 14 = .ok (.aload_n 0, 1) := by decide +kernel
theorem dX9_drop_15 : decode cX9_drop 15 = .ok (.dup, 1) := by decide +kernel
theorem dX9_drop_16 : decode cX9_drop 16 = .ok (.getfield 87, 3) := by decide +kernel
theorem dX9_drop_19 : decode cX9_drop 19 = .ok (.iconst 1, 1) := by decide +kernel
theorem dX9_drop_20 : decode cX9_drop 20 = .ok (.isub, 1) := by decide +kernel
theorem dX9_drop_21 : decode cX9_drop 21 = .ok (.putfield 87, 3) := by decide +kernel
theorem dX9_drop_24 : decode cX9_drop 24 = .ok (.aload_n 0, 1) := by decide +kernel
theorem dX9_drop_25 : decode cX9_drop 25 = .ok (.iconst 0, 1) := by decide +kernel
theorem dX9_drop_26 : decode cX9_drop 26 = .ok (.putfield 80, 3) := by decide +kernel
theorem dX9_drop_29 : decode cX9_drop 29 = .ok (.aload_n 0, 1) := by decide +kernel
theorem dX9_drop_30 : decode cX9_drop 30 = .ok (.getfield 87, 3) := by decide +kernel
theorem dX9_drop_33 : decode cX9_drop 33 = .ok (.ireturn, 1) := by decide +kernel
theorem dX9_isPair_0 : decode cX9_isPair 0 = .ok (.iload_n 1, 1) := by decide +kernel
theorem dX9_isPair_1 : decode cX9_isPair 1 = .ok (.i2l, 1) := by decide +kernel
theorem dX9_isPair_2 : decode cX9_isPair 2 = .ok (.lconst 0, 1) := by decide +kernel
theorem dX9_isPair_3 : decode cX9_isPair 3 = .ok (.aload_n 0, 1) := by decide +kernel
theorem dX9_isPair_4 : decode cX9_isPair 4 = .ok (.getfield 87, 3) := by decide +kernel
theorem dX9_isPair_7 : decode cX9_isPair 7 = .ok (.iconst 1, 1) := by decide +kernel
theorem dX9_isPair_8 : decode cX9_isPair 8 = .ok (.isub, 1) := by decide +kernel
theorem dX9_isPair_9 : decode cX9_isPair 9 = .ok (.i2l, 1) := by decide +kernel
theorem dX9_isPair_10 : decode cX9_isPair 10 = .ok (.invokestatic 98, 3) := by decide +kernel
theorem dX9_isPair_13 : decode cX9_isPair 13 = .ok (.ireturn, 1) := by decide +kernel
theorem dX9_adder_0 : decode cX9_adder 0 = .ok (.aload_n 0, 1) := by decide +kernel
theorem dX9_adder_1 : decode cX9_adder 1 = .ok (.iload_n 1, 1) := by decide +kernel
theorem dX9_adder_2 : decode cX9_adder 2 = .ok (.invokevirtual 121, 3) := by decide +kernel
theorem dX9_adder_5 : decode cX9_adder 5 = .ok (.ifCond .ne 9, 3) := by decide +kernel
theorem dX9_adder_8 : decode cX9_adder 8 = .ok (.aload_n 0, 1) := by decide +kernel
theorem dX9_adder_9 : decode cX9_adder 9 = .ok (.iconst (-1), 1) := by decide +kernel
theorem dX9_adder_10 : decode cX9_adder 10 = .ok (.invokevirtual 90, 3) := by decide +kernel
theorem dX9_adder_13 : decode cX9_adder 13 = .ok (.ireturn, 1) := by decide +kernel
theorem dX9_adder_14 : decode cX9_adder 14 = .ok (.iload_n 2, 1) := by decide +kernel
theorem dX9_adder_15 : decode cX9_adder 15 = .ok (.i2l, 1) := by decide +kernel
theorem dX9_adder_16 : decode cX9_adder 16 = .ok (.lconst 0, 1) := by decide +kernel
theorem dX9_adder_17 : decode cX9_adder 17 = .ok (.aload_n 0, 1) := by decide +kernel
theorem dX9_adder_18 : decode cX9_adder 18 = .ok (.getfield 7, 3) := by decide +kernel
theorem dX9_adder_21 : decode cX9_adder 21 = .ok (.iconst 1, 1) := by decide +kernel
theorem dX9_adder_22 : decode cX9_adder 22 = .ok (.isub, 1) := by decide +kernel
theorem dX9_adder_23 : decode cX9_adder 23 = .ok (.i2l, 1) := by decide +kernel
theorem dX9_adder_24 : decode cX9_adder 24 = .ok (.invokestatic 98, 3) := by decide +kernel
theorem dX9_adder_27 : decode cX9_adder 27 = .ok (.ifCond .ne 19, 3) := by decide +kernel
theorem dX9_adder_30 : decode cX9_adder 30 = .ok (.aload_n 0, 1) := by decide +kernel
theorem dX9_adder_31 : decode cX9_adder 31 = .ok (.iload_n 2, 1) := by decide +kernel
theorem dX9_adder_32 : decode cX9_adder 32 = .ok (.ifCond .ge 8, 3) := by decide +kernel
theorem dX9_adder_35 : decode cX9_adder 35 = .ok (.bipush (-4), 2) := by decide +kernel
theorem dX9_adder_37 : decode cX9_adder 37 = .ok (.goto 5, 3) := by decide +kernel
theorem dX9_adder_40 : decode cX9_adder 40 = .ok (.bipush (-6), 2) := by decide +kernel
theorem dX9_adder_42 : decode cX9_adder 42 = .ok (.invokevirtual 90, 3) := by decide +kernel
theorem dX9_adder_45 : decode cX9_adder 45 = .ok (.ireturn, 1) := by decide +kernel
theorem dX9_adder_46 : decode cX9_adder 46 = .ok (.aload_n 0, 1) := by decide +kernel
theorem dX9_adder_47 : decode cX9_adder 47 = .ok (.invokevirtual 124, 3) := by decide +kernel
theorem dX9_adder_50 : decode cX9_adder 50 = .ok (.aload_n 0, 1) := by decide +kernel
theorem dX9_adder_51 : decode cX9_adder 51 = .ok (.getfield 13, 3) := by decide +kernel
theorem dX9_adder_54 : decode cX9_adder 54 = .ok (.iconst 3, 1) := by decide +kernel
theorem dX9_adder_55 : decode cX9_adder 55 = .ok (.iload_n 1, 1) := by decide +kernel
theorem dX9_adder_56 : decode cX9_adder 56 = .ok (.imul, 1) := by decide +kernel
theorem dX9_adder_57 : decode cX9_adder 57 = .ok (.iconst 2, 1) := by decide +kernel
theorem dX9_adder_58 : decode cX9_adder 58 = .ok (.iadd, 1) := by decide +kernel
theorem dX9_adder_59 : decode cX9_adder 59 = .ok (.iaload, 1) := by decide +kernel
theorem dX9_adder_60 : decode cX9_adder 60 = .ok (.istore_n 3, 1) := by decide +kernel
theorem dX9_adder_61 : decode cX9_adder 61 = .ok (.aload_n 0, 1) := by decide +kernel
theorem dX9_adder_62 : decode cX9_adder 62 = .ok (.getfield 13, 3) := by decide +kernel
theorem dX9_adder_65 : decode cX9_adder 65 = .ok (.iconst 3, 1) := by decide +kernel
theorem dX9_adder_66 : decode cX9_adder 66 = .ok (.iload_n 1, 1) := by decide +kernel
theorem dX9_adder_67 : decode cX9_adder 67 = .ok (.imul, 1) := by decide +kernel
theorem dX9_adder_68 : decode cX9_adder 68 = .ok (.iconst 2, 1) := by decide +kernel
theorem dX9_adder_69 : decode cX9_adder 69 = .ok (.iadd, 1) := by decide +kernel
theorem dX9_adder_70 : decode cX9_adder 70 = .ok (.iload_n 2, 1) := by decide +kernel
theorem dX9_adder_71 : decode cX9_adder 71 = .ok (.iastore, 1) := by decide +kernel
theorem dX9_adder_72 : decode cX9_adder 72 = .ok (.iload_n 3, 1) := by decide +kernel
theorem dX9_adder_73 : decode cX9_adder 73 = .ok (.ireturn, 1) := by decide +kernel
theorem dX9_sumOf_0 : decode cX9_sumOf 0 = .ok (.aload_n 0, 1) := by decide +kernel
theorem dX9_sumOf_1 : decode cX9_sumOf 1 = .ok (.getfield 13, 3) := by decide +kernel
theorem dX9_sumOf_4 : decode cX9_sumOf 4 = .ok (.iconst 3, 1) := by decide +kernel
theorem dX9_sumOf_5 : decode cX9_sumOf 5 = .ok (.iload_n 1, 1) := by decide +kernel
theorem dX9_sumOf_6 : decode cX9_sumOf 6 = .ok (.imul, 1) := by decide +kernel
theorem dX9_sumOf_7 : decode cX9_sumOf 7 = .ok (.iaload, 1) := by decide +kernel
theorem dX9_sumOf_8 : decode cX9_sumOf 8 = .ok (.aload_n 0, 1) := by decide +kernel
theorem dX9_sumOf_9 : decode cX9_sumOf 9 = .ok (.getfield 13, 3) := by decide +kernel
theorem dX9_sumOf_12 : decode cX9_sumOf 12 = .ok (.iconst 3, 1) := by decide +kernel
theorem dX9_sumOf_13 : decode cX9_sumOf 13 = .ok (.iload_n 1, 1) := by decide +kernel
theorem dX9_sumOf_14 : decode cX9_sumOf 14 = .ok (.imul, 1) := by decide +kernel
theorem dX9_sumOf_15 : decode cX9_sumOf 15 = .ok (.iconst 1, 1) := by decide +kernel
theorem dX9_sumOf_16 : decode cX9_sumOf 16 = .ok (.iadd, 1) := by decide +kernel
theorem dX9_sumOf_17 : decode cX9_sumOf 17 = .ok (.iaload, 1) := by decide +kernel
theorem dX9_sumOf_18 : decode cX9_sumOf 18 = .ok (.iadd, 1) := by decide +kernel
theorem dX9_sumOf_19 : decode cX9_sumOf 19 = .ok (.aload_n 0, 1) := by decide +kernel
theorem dX9_sumOf_20 : decode cX9_sumOf 20 = .ok (.getfield 7, 3) := by decide +kernel
theorem dX9_sumOf_23 : decode cX9_sumOf 23 = .ok (.irem, 1) := by decide +kernel
theorem dX9_sumOf_24 : decode cX9_sumOf 24 = .ok (.ireturn, 1) := by decide +kernel
theorem dX9_of_0 : decode cX9_of 0 = .ok (.aload_n 0, 1) := by decide +kernel
theorem dX9_of_1 : decode cX9_of 1 = .ok (.iload_n 1, 1) := by decide +kernel
theorem dX9_of_2 : decode cX9_of 2 = .ok (.invokevirtual 121, 3) := by decide +kernel
theorem dX9_of_5 : decode cX9_of 5 = .ok (.ifCond .ne 9, 3) := by decide +kernel
theorem dX9_of_8 : decode cX9_of 8 = .ok (.aload_n 0, 1) := by decide +kernel
theorem dX9_of_9 : decode cX9_of 9 = .ok (.iconst (-1), 1) := by decide +kernel
theorem dX9_of_10 : decode cX9_of 10 = .ok (.invokevirtual 90, 3) := by decide +kernel
theorem dX9_of_13 : decode cX9_of 13 = .ok (.ireturn, 1) := by decide +kernel
theorem dX9_of_14 : decode cX9_of 14 = .ok (.iload_n 2, 1) := by decide +kernel
theorem dX9_of_15 : decode cX9_of 15 = .ok (.i2l, 1) := by decide +kernel
theorem dX9_of_16 : decode cX9_of 16 = .ok (.lconst 0, 1) := by decide +kernel
theorem dX9_of_17 : decode cX9_of 17 = .ok (.ldc2_w 127, 3) := by decide +kernel
theorem dX9_of_20 : decode cX9_of 20 = .ok (.invokestatic 98, 3) := by decide +kernel
theorem dX9_of_23 : decode cX9_of 23 = .ok (.ifCond .ne 10, 3) := by decide +kernel
theorem dX9_of_26 : decode cX9_of 26 = .ok (.aload_n 0, 1) := by decide +kernel
theorem dX9_of_27 : decode cX9_of 27 = .ok (.bipush (-2), 2) := by decide +kernel
theorem dX9_of_29 : decode cX9_of 29 = .ok (.invokevirtual 90, 3) := by decide +kernel
theorem dX9_of_32 : decode cX9_of 32 = .ok (.ireturn, 1) := by decide +kernel
theorem dX9_of_33 : decode cX9_of 33 = .ok (.aload_n 0, 1) := by decide +kernel
theorem dX9_of_34 : decode cX9_of 34 = .ok (.aload_n 0, 1) := by decide +kernel
theorem dX9_of_35 : decode cX9_of 35 = .ok (.getfield 13, 3) := by decide +kernel
theorem dX9_of_38 : decode cX9_of 38 = .ok (.iconst 3, 1) := by decide +kernel
theorem dX9_of_39 : decode cX9_of 39 = .ok (.iload_n 1, 1) := by decide +kernel
theorem dX9_of_40 : decode cX9_of 40 = .ok (.imul, 1) := by decide +kernel
theorem dX9_of_41 : decode cX9_of 41 = .ok (.iaload, 1) := by decide +kernel
theorem dX9_of_42 : decode cX9_of 42 = .ok (.aload_n 0, 1) := by decide +kernel
theorem dX9_of_43 : decode cX9_of 43 = .ok (.getfield 13, 3) := by decide +kernel
theorem dX9_of_46 : decode cX9_of 46 = .ok (.iconst 3, 1) := by decide +kernel
theorem dX9_of_47 : decode cX9_of 47 = .ok (.iload_n 1, 1) := by decide +kernel
theorem dX9_of_48 : decode cX9_of 48 = .ok (.imul, 1) := by decide +kernel
theorem dX9_of_49 : decode cX9_of 49 = .ok (.iconst 1, 1) := by decide +kernel
theorem dX9_of_50 : decode cX9_of 50 = .ok (.iadd, 1) := by decide +kernel
theorem dX9_of_51 : decode cX9_of 51 = .ok (.iaload, 1) := by decide +kernel
theorem dX9_of_52 : decode cX9_of 52 = .ok (.isub, 1) := by decide +kernel
theorem dX9_of_53 : decode cX9_of 53 = .ok (.invokevirtual 129, 3) := by decide +kernel
theorem dX9_of_56 : decode cX9_of 56 = .ok (.istore_n 3, 1) := by decide +kernel
theorem dX9_of_57 : decode cX9_of 57 = .ok (.iload_n 2, 1) := by decide +kernel
theorem dX9_of_58 : decode cX9_of 58 = .ok (.iconst 3, 1) := by decide +kernel
theorem dX9_of_59 : decode cX9_of 59 = .ok (.if_icmp .ge 16, 3) := by decide +kernel
theorem dX9_of_62 : decode cX9_of 62 = .ok (.aload_n 0, 1) := by decide +kernel
theorem dX9_of_63 : decode cX9_of 63 = .ok (.getfield 13, 3) := by decide +kernel
theorem dX9_of_66 : decode cX9_of 66 = .ok (.iconst 3, 1) := by decide +kernel
theorem dX9_of_67 : decode cX9_of 67 = .ok (.iload_n 1, 1) := by decide +kernel
theorem dX9_of_68 : decode cX9_of 68 = .ok (.imul, 1) := by decide +kernel
theorem dX9_of_69 : decode cX9_of 69 = .ok (.iload_n 2, 1) := by decide +kernel
theorem dX9_of_70 : decode cX9_of 70 = .ok (.iadd, 1) := by decide +kernel
theorem dX9_of_71 : decode cX9_of 71 = .ok (.iaload, 1) := by decide +kernel
theorem dX9_of_72 : decode cX9_of 72 = .ok (.goto 26, 3) := by decide +kernel
theorem dX9_of_75 : decode cX9_of 75 = .ok (.iload_n 2, 1) := by decide +kernel
theorem dX9_of_76 : decode cX9_of 76 = .ok (.iconst 3, 1) := by decide +kernel
theorem dX9_of_77 : decode cX9_of 77 = .ok (.if_icmp .ne 11, 3) := by decide +kernel
theorem dX9_of_80 : decode cX9_of 80 = .ok (.aload_n 0, 1) := by decide +kernel
theorem dX9_of_81 : decode cX9_of 81 = .ok (.iload_n 1, 1) := by decide +kernel
theorem dX9_of_82 : decode cX9_of 82 = .ok (.invokevirtual 132, 3) := by decide +kernel
theorem dX9_of_85 : decode cX9_of 85 = .ok (.goto 13, 3) := by decide +kernel
theorem dX9_of_88 : decode cX9_of 88 = .ok (.iload_n 3, 1) := by decide +kernel
theorem dX9_of_89 : decode cX9_of 89 = .ok (.aload_n 0, 1) := by decide +kernel
theorem dX9_of_90 : decode cX9_of 90 = .ok (.getfield 7, 3) := by decide +kernel
theorem dX9_of_93 : decode cX9_of 93 = .ok (.iload_n 3, 1) := by decide +kernel
theorem dX9_of_94 : decode cX9_of 94 = .ok (.isub, 1) := by decide +kernel
theorem dX9_of_95 : decode cX9_of 95 = .ok (.invokestatic 135, 3) := by decide +kernel
theorem dX9_of_98 : decode cX9_of 98 = .ok (.ireturn, 1) := by decide +kernel
theorem dX9_isStarter_0 : decode cX9_isStarter 0 = .ok (.iconst 0, 1) := by decide +kernel
theorem dX9_isStarter_1 : decode cX9_isStarter 1 = .ok (.istore 5, 2) := by decide +kernel
theorem dX9_isStarter_3 : decode cX9_isStarter 3 = .ok (.iconst 0, 1) := by decide +kernel
theorem dX9_isStarter_4 : decode cX9_isStarter 4 = .ok (.istore 6, 2) := by decide +kernel
theorem dX9_isStarter_6 : decode cX9_isStarter 6 = .ok (.iconst 0, 1) := by decide +kernel
theorem dX9_isStarter_7 : decode cX9_isStarter 7 = .ok (.istore 7, 2) := by decide +kernel
theorem dX9_isStarter_9 : decode cX9_isStarter 9 = .ok (.iload 7, 2) := by decide +kernel
theorem dX9_isStarter_11 : decode cX9_isStarter 11 = .ok (.iload_n 3, 1) := by decide +kernel
theorem dX9_isStarter_12 : decode cX9_isStarter 12 = .ok (.if_icmp .ge 109, 3) := by decide +kernel
theorem dX9_isStarter_15 : decode cX9_isStarter 15 = .ok (.aload_n 0, 1) := by decide +kernel
theorem dX9_isStarter_16 : decode cX9_isStarter 16 = .ok (.iload_n 1, 1) := by decide +kernel
theorem dX9_isStarter_17 : decode cX9_isStarter 17 = .ok (.iload_n 2, 1) := by decide +kernel
theorem dX9_isStarter_18 : decode cX9_isStarter 18 = .ok (.iload 7, 2) := by decide +kernel
theorem dX9_isStarter_20 : decode cX9_isStarter 20 = .ok (.imul, 1) := by decide +kernel
theorem dX9_isStarter_21 : decode cX9_isStarter 21 = .ok (.iadd, 1) := by decide +kernel
theorem dX9_isStarter_22 : decode cX9_isStarter 22 = .ok (.iaload, 1) := by decide +kernel
theorem dX9_isStarter_23 : decode cX9_isStarter 23 = .ok (.istore 8, 2) := by decide +kernel
theorem dX9_isStarter_25 : decode cX9_isStarter 25 = .ok (.aload_n 0, 1) := by decide +kernel
theorem dX9_isStarter_26 : decode cX9_isStarter 26 = .ok (.iload_n 1, 1) := by decide +kernel
theorem dX9_isStarter_27 : decode cX9_isStarter 27 = .ok (.iload_n 2, 1) := by decide +kernel
theorem dX9_isStarter_28 : decode cX9_isStarter 28 = .ok (.iload 7, 2) := by decide +kernel
theorem dX9_isStarter_30 : decode cX9_isStarter 30 = .ok (.imul, 1) := by decide +kernel
theorem dX9_isStarter_31 : decode cX9_isStarter 31 = .ok (.iadd, 1) := by decide +kernel
theorem dX9_isStarter_32 : decode cX9_isStarter 32 = .ok (.iconst 1, 1) := by decide +kernel
theorem dX9_isStarter_33 : decode cX9_isStarter 33 = .ok (.iadd, 1) := by decide +kernel
theorem dX9_isStarter_34 : decode cX9_isStarter 34 = .ok (.iaload, 1) := by decide +kernel
theorem dX9_isStarter_35 : decode cX9_isStarter 35 = .ok (.istore 9, 2) := by decide +kernel
theorem dX9_isStarter_37 : decode cX9_isStarter 37 = .ok (.iload 8, 2) := by decide +kernel
theorem dX9_isStarter_39 : decode cX9_isStarter 39 = .ok (.i2l, 1) := by decide +kernel
theorem dX9_isStarter_40 : decode cX9_isStarter 40 = .ok (.lconst 1, 1) := by decide +kernel
theorem dX9_isStarter_41 : decode cX9_isStarter 41 = .ok (.iload 4, 2) := by decide +kernel
theorem dX9_isStarter_43 : decode cX9_isStarter 43 = .ok (.iconst 1, 1) := by decide +kernel
theorem dX9_isStarter_44 : decode cX9_isStarter 44 = .ok (.isub, 1) := by decide +kernel
theorem dX9_isStarter_45 : decode cX9_isStarter 45 = .ok (.i2l, 1) := by decide +kernel
theorem dX9_isStarter_46 : decode cX9_isStarter 46 = .ok (.invokestatic 98, 3) := by decide +kernel
theorem dX9_isStarter_49 : decode cX9_isStarter 49 = .ok (.ifCond .eq 18, 3) := by decide +kernel
theorem dX9_isStarter_52 : decode cX9_isStarter 52 = .ok (.iload 9, 2) := by decide +kernel
theorem dX9_isStarter_54 : decode cX9_isStarter 54 = .ok (.i2l, 1) := by decide +kernel
theorem dX9_isStarter_55 : decode cX9_isStarter 55 = .ok (.lconst 1, 1) := by decide +kernel
theorem dX9_isStarter_56 : decode cX9_isStarter 56 = .ok (.iload 4, 2) := by decide +kernel
theorem dX9_isStarter_58 : decode cX9_isStarter 58 = .ok (.iconst 1, 1) := by decide +kernel
theorem dX9_isStarter_59 : decode cX9_isStarter 59 = .ok (.isub, 1) := by decide +kernel
theorem dX9_isStarter_60 : decode cX9_isStarter 60 = .ok (.i2l, 1) := by decide +kernel
theorem dX9_isStarter_61 : decode cX9_isStarter 61 = .ok (.invokestatic 98, 3) := by decide +kernel
theorem dX9_isStarter_64 : decode cX9_isStarter 64 = .ok (.ifCond .ne 5, 3) := by decide +kernel
theorem dX9_isStarter_67 : decode cX9_isStarter 67 = .ok (.iconst 0, 1) := by decide +kernel
theorem dX9_isStarter_68 : decode cX9_isStarter 68 = .ok (.ireturn, 1) := by decide +kernel
theorem dX9_isStarter_69 : decode cX9_isStarter 69 = .ok (.iload 5, 2) := by decide +kernel
theorem dX9_isStarter_71 : decode cX9_isStarter 71 = .ok (.iconst 1, 1) := by decide +kernel
theorem dX9_isStarter_72 : decode cX9_isStarter 72 = .ok (.iload 8, 2) := by decide +kernel
theorem dX9_isStarter_74 : decode cX9_isStarter 74 = .ok (.ishl, 1) := by decide +kernel
theorem dX9_isStarter_75 : decode cX9_isStarter 75 = .ok (.iconst 1, 1) := by decide +kernel
theorem dX9_isStarter_76 : decode cX9_isStarter 76 = .ok (.iload 9, 2) := by decide +kernel
theorem dX9_isStarter_78 : decode cX9_isStarter 78 = .ok (.ishl, 1) := by decide +kernel
theorem dX9_isStarter_79 : decode cX9_isStarter 79 = .ok (.ior, 1) := by decide +kernel
theorem dX9_isStarter_80 : decode cX9_isStarter 80 = .ok (.ior, 1) := by decide +kernel
theorem dX9_isStarter_81 : decode cX9_isStarter 81 = .ok (.istore 5, 2) := by decide +kernel
theorem dX9_isStarter_83 : decode cX9_isStarter 83 = .ok (.iload 6, 2) := by decide +kernel
theorem dX9_isStarter_85 : decode cX9_isStarter 85 = .ok (.iconst 1, 1) := by decide +kernel
theorem dX9_isStarter_86 : decode cX9_isStarter 86 = .ok (.iload 8, 2) := by decide +kernel
theorem dX9_isStarter_88 : decode cX9_isStarter 88 = .ok (.iload 9, 2) := by decide +kernel
theorem dX9_isStarter_90 : decode cX9_isStarter 90 = .ok (.isub, 1) := by decide +kernel
theorem dX9_isStarter_91 : decode cX9_isStarter 91 = .ok (.iload 4, 2) := by decide +kernel
theorem dX9_isStarter_93 : decode cX9_isStarter 93 = .ok (.iadd, 1) := by decide +kernel
theorem dX9_isStarter_94 : decode cX9_isStarter 94 = .ok (.iload 4, 2) := by decide +kernel
theorem dX9_isStarter_96 : decode cX9_isStarter 96 = .ok (.irem, 1) := by decide +kernel
theorem dX9_isStarter_97 : decode cX9_isStarter 97 = .ok (.ishl, 1) := by decide +kernel
theorem dX9_isStarter_98 : decode cX9_isStarter 98 = .ok (.iconst 1, 1) := by decide +kernel
theorem dX9_isStarter_99 : decode cX9_isStarter 99 = .ok (.iload 9, 2) := by decide +kernel
theorem dX9_isStarter_101 : decode cX9_isStarter 101 = .ok (.iload 8, 2) := by decide +kernel
theorem dX9_isStarter_103 : decode cX9_isStarter 103 = .ok (.isub, 1) := by decide +kernel
theorem dX9_isStarter_104 : decode cX9_isStarter 104 = .ok (.iload 4, 2) := by decide +kernel
theorem dX9_isStarter_106 : decode cX9_isStarter 106 = .ok (.iadd, 1) := by decide +kernel
theorem dX9_isStarter_107 : decode cX9_isStarter 107 = .ok (.iload 4, 2) := by decide +kernel
theorem dX9_isStarter_109 : decode cX9_isStarter 109 = .ok (.irem, 1) := by decide +kernel
theorem dX9_isStarter_110 : decode cX9_isStarter 110 = .ok (.ishl, 1) := by decide +kernel
theorem dX9_isStarter_111 : decode cX9_isStarter 111 = .ok (.ior, 1) := by decide +kernel
theorem dX9_isStarter_112 : decode cX9_isStarter 112 = .ok (.ior, 1) := by decide +kernel
theorem dX9_isStarter_113 : decode cX9_isStarter 113 = .ok (.istore 6, 2) := by decide +kernel
theorem dX9_isStarter_115 : decode cX9_isStarter 115 = .ok (.iinc 7 1, 3) := by decide +kernel
theorem dX9_isStarter_118 : decode cX9_isStarter 118 = .ok (.goto (-109), 3) := by decide +kernel
theorem dX9_isStarter_121 : decode cX9_isStarter 121 = .ok (.iconst 1, 1) := by decide +kernel
theorem dX9_isStarter_122 : decode cX9_isStarter 122 = .ok (.iload 4, 2) := by decide +kernel
theorem dX9_isStarter_124 : decode cX9_isStarter 124 = .ok (.ishl, 1) := by decide +kernel
theorem dX9_isStarter_125 : decode cX9_isStarter 125 = .ok (.iconst 2, 1) := by decide +kernel
theorem dX9_isStarter_126 : decode cX9_isStarter 126 = .ok (.isub, 1) := by decide +kernel
theorem dX9_isStarter_127 : decode cX9_isStarter 127 = .ok (.istore 7, 2) := by decide +kernel
theorem dX9_isStarter_129 : decode cX9_isStarter 129 = .ok (.iload_n 3, 1) := by decide +kernel
theorem dX9_isStarter_130 : decode cX9_isStarter 130 = .ok (.iload 4, 2) := by decide +kernel
theorem dX9_isStarter_132 : decode cX9_isStarter 132 = .ok (.iconst 1, 1) := by decide +kernel
theorem dX9_isStarter_133 : decode cX9_isStarter 133 = .ok (.isub, 1) := by decide +kernel
theorem dX9_isStarter_134 : decode cX9_isStarter 134 = .ok (.iconst 2, 1) := by decide +kernel
theorem dX9_isStarter_135 : decode cX9_isStarter 135 = .ok (.idiv, 1) := by decide +kernel
theorem dX9_isStarter_136 : decode cX9_isStarter 136 = .ok (.if_icmp .ne 21, 3) := by decide +kernel
theorem dX9_isStarter_139 : decode cX9_isStarter 139 = .ok (.iload 5, 2) := by decide +kernel
theorem dX9_isStarter_141 : decode cX9_isStarter 141 = .ok (.iload 7, 2) := by decide +kernel
theorem dX9_isStarter_143 : decode cX9_isStarter 143 = .ok (.if_icmp .ne 14, 3) := by decide +kernel
theorem dX9_isStarter_146 : decode cX9_isStarter 146 = .ok (.iload 6, 2) := by decide +kernel
theorem dX9_isStarter_148 : decode cX9_isStarter 148 = .ok (.iload 7, 2) := by decide +kernel
theorem dX9_isStarter_150 : decode cX9_isStarter 150 = .ok (.if_icmp .ne 7, 3) := by decide +kernel
theorem dX9_isStarter_153 : decode cX9_isStarter 153 = .ok (.iconst 1, 1) := by decide +kernel
theorem dX9_isStarter_154 : decode cX9_isStarter 154 = .ok (.goto 4, 3) := by decide +kernel
theorem dX9_isStarter_157 : decode cX9_isStarter 157 = .ok (.iconst 0, 1) := by decide +kernel
theorem dX9_isStarter_158 : decode cX9_isStarter 158 = .ok (.ireturn, 1) := by decide +kernel
theorem dX9_isOne_0 : decode cX9_isOne 0 = .ok (.aload_n 0, 1) := by decide +kernel
theorem dX9_isOne_1 : decode cX9_isOne 1 = .ok (.getfield 13, 3) := by decide +kernel
theorem dX9_isOne_4 : decode cX9_isOne 4 = .ok (.iconst 0, 1) := by decide +kernel
theorem dX9_isOne_5 : decode cX9_isOne 5 = .ok (.iconst 3, 1) := by decide +kernel
theorem dX9_isOne_6 : decode cX9_isOne 6 = .ok (.aload_n 0, 1) := by decide +kernel
theorem dX9_isOne_7 : decode cX9_isOne 7 = .ok (.getfield 87, 3) := by decide +kernel
theorem dX9_isOne_10 : decode cX9_isOne 10 = .ok (.aload_n 0, 1) := by decide +kernel
theorem dX9_isOne_11 : decode cX9_isOne 11 = .ok (.getfield 7, 3) := by decide +kernel
theorem dX9_isOne_14 : decode cX9_isOne 14 = .ok (.invokestatic 141, 3) := by decide +kernel
theorem dX9_isOne_17 : decode cX9_isOne 17 = .ok (.ireturn, 1) := by decide +kernel
theorem dX9_areUnlike_0 : decode cX9_areUnlike 0 = .ok (.iconst 1, 1) := by decide +kernel
theorem dX9_areUnlike_1 : decode cX9_areUnlike 1 = .ok (.istore 4, 2) := by decide +kernel
theorem dX9_areUnlike_3 : decode cX9_areUnlike 3 = .ok (.iconst 0, 1) := by decide +kernel
theorem dX9_areUnlike_4 : decode cX9_areUnlike 4 = .ok (.istore 5, 2) := by decide +kernel
theorem dX9_areUnlike_6 : decode cX9_areUnlike 6 = .ok (.iload 5, 2) := by decide +kernel
theorem dX9_areUnlike_8 : decode cX9_areUnlike 8 = .ok (.aload_n 0, 1) := by decide +kernel
theorem dX9_areUnlike_9 : decode cX9_areUnlike 9 = .ok (.invokevirtual 113, 3) := by decide +kernel
theorem dX9_areUnlike_12 : decode cX9_areUnlike 12 = .ok (.if_icmp .ge 118, 3) := by decide +kernel
theorem dX9_areUnlike_15 : decode cX9_areUnlike 15 = .ok (.aload_n 1, 1) := by decide +kernel
theorem dX9_areUnlike_16 : decode cX9_areUnlike 16 = .ok (.iload_n 2, 1) := by decide +kernel
theorem dX9_areUnlike_17 : decode cX9_areUnlike 17 = .ok (.iload 5, 2) := by decide +kernel
theorem dX9_areUnlike_19 : decode cX9_areUnlike 19 = .ok (.imul, 1) := by decide +kernel
theorem dX9_areUnlike_20 : decode cX9_areUnlike 20 = .ok (.iaload, 1) := by decide +kernel
theorem dX9_areUnlike_21 : decode cX9_areUnlike 21 = .ok (.aload_n 1, 1) := by decide +kernel
theorem dX9_areUnlike_22 : decode cX9_areUnlike 22 = .ok (.iload_n 2, 1) := by decide +kernel
theorem dX9_areUnlike_23 : decode cX9_areUnlike 23 = .ok (.iload 5, 2) := by decide +kernel
theorem dX9_areUnlike_25 : decode cX9_areUnlike 25 = .ok (.imul, 1) := by decide +kernel
theorem dX9_areUnlike_26 : decode cX9_areUnlike 26 = .ok (.iconst 1, 1) := by decide +kernel
theorem dX9_areUnlike_27 : decode cX9_areUnlike 27 = .ok (.iadd, 1) := by decide +kernel
theorem dX9_areUnlike_28 : decode cX9_areUnlike 28 = .ok (.iaload, 1) := by decide +kernel
theorem dX9_areUnlike_29 : decode cX9_areUnlike 29 = .ok (.iadd, 1) := by decide +kernel
theorem dX9_areUnlike_30 : decode cX9_areUnlike 30 = .ok (.aload_n 0, 1) := by decide +kernel
theorem dX9_areUnlike_31 : decode cX9_areUnlike 31 = .ok (.getfield 7, 3) := by decide +kernel
theorem dX9_areUnlike_34 : decode cX9_areUnlike 34 = .ok (.irem, 1) := by decide +kernel
theorem dX9_areUnlike_35 : decode cX9_areUnlike 35 = .ok (.istore 6, 2) := by decide +kernel
theorem dX9_areUnlike_37 : decode cX9_areUnlike 37 = .ok (.iload 4, 2) := by decide +kernel
theorem dX9_areUnlike_39 : decode cX9_areUnlike 39 = .ok (.iload 6, 2) := by decide +kernel
theorem dX9_areUnlike_41 : decode cX9_areUnlike 41 = .ok (.ifCond .eq 7, 3) := by decide +kernel
theorem dX9_areUnlike_44 : decode cX9_areUnlike 44 = .ok (.iconst 1, 1) := by decide +kernel
theorem dX9_areUnlike_45 : decode cX9_areUnlike 45 = .ok (.goto 4, 3) := by decide +kernel
theorem dX9_areUnlike_48 : decode cX9_areUnlike 48 = .ok (.iconst 0, 1) := by decide +kernel
theorem dX9_areUnlike_49 : decode cX9_areUnlike 49 = .ok (.iand, 1) := by decide +kernel
theorem dX9_areUnlike_50 : decode cX9_areUnlike 50 = .ok (.istore 4, 2) := by decide +kernel
theorem dX9_areUnlike_52 : decode cX9_areUnlike 52 = .ok (.iconst 0, 1) := by decide +kernel
theorem dX9_areUnlike_53 : decode cX9_areUnlike 53 = .ok (.istore 7, 2) := by decide +kernel
theorem dX9_areUnlike_55 : decode cX9_areUnlike 55 = .ok (.iload 7, 2) := by decide +kernel
theorem dX9_areUnlike_57 : decode cX9_areUnlike 57 = .ok (.iload 5, 2) := by decide +kernel
theorem dX9_areUnlike_59 : decode cX9_areUnlike 59 = .ok (.if_icmp .ge 65, 3) := by decide +kernel
theorem dX9_areUnlike_62 : decode cX9_areUnlike 62 = .ok (.aload_n 1, 1) := by decide +kernel
theorem dX9_areUnlike_63 : decode cX9_areUnlike 63 = .ok (.iload_n 2, 1) := by decide +kernel
theorem dX9_areUnlike_64 : decode cX9_areUnlike 64 = .ok (.iload 7, 2) := by decide +kernel
theorem dX9_areUnlike_66 : decode cX9_areUnlike 66 = .ok (.imul, 1) := by decide +kernel
theorem dX9_areUnlike_67 : decode cX9_areUnlike 67 = .ok (.iaload, 1) := by decide +kernel
theorem dX9_areUnlike_68 : decode cX9_areUnlike 68 = .ok (.aload_n 1, 1) := by decide +kernel
theorem dX9_areUnlike_69 : decode cX9_areUnlike 69 = .ok (.iload_n 2, 1) := by decide +kernel
theorem dX9_areUnlike_70 : decode cX9_areUnlike 70 = .ok (.iload 7, 2) := by decide +kernel
theorem dX9_areUnlike_72 : decode cX9_areUnlike 72 = .ok (.imul, 1) := by decide +kernel
theorem dX9_areUnlike_73 : decode cX9_areUnlike 73 = .ok (.iconst 1, 1) := by decide +kernel
theorem dX9_areUnlike_74 : decode cX9_areUnlike 74 = .ok (.iadd, 1) := by decide +kernel
theorem dX9_areUnlike_75 : decode cX9_areUnlike 75 = .ok (.iaload, 1) := by decide +kernel
theorem dX9_areUnlike_76 : decode cX9_areUnlike 76 = .ok (.iadd, 1) := by decide +kernel
theorem dX9_areUnlike_77 : decode cX9_areUnlike 77 = .ok (.aload_n 0, 1) := by decide +kernel
theorem dX9_areUnlike_78 : decode cX9_areUnlike 78 = .ok (.getfield 7, 3) := by decide +kernel
theorem dX9_areUnlike_81 : decode cX9_areUnlike 81 = .ok (.irem, 1) := by decide +kernel
theorem dX9_areUnlike_82 : decode cX9_areUnlike 82 = .ok (.istore 8, 2) := by decide +kernel
theorem dX9_areUnlike_84 : decode cX9_areUnlike 84 = .ok (.iload 4, 2) := by decide +kernel
theorem dX9_areUnlike_86 : decode cX9_areUnlike 86 = .ok (.iload 6, 2) := by decide +kernel
theorem dX9_areUnlike_88 : decode cX9_areUnlike 88 = .ok (.iload 8, 2) := by decide +kernel
theorem dX9_areUnlike_90 : decode cX9_areUnlike 90 = .ok (.if_icmp .eq 24, 3) := by decide +kernel
theorem dX9_areUnlike_93 : decode cX9_areUnlike 93 = .ok (.iload_n 3, 1) := by decide +kernel
theorem dX9_areUnlike_94 : decode cX9_areUnlike 94 = .ok (.ifCond .eq 16, 3) := by decide +kernel
theorem dX9_areUnlike_97 : decode cX9_areUnlike 97 = .ok (.iload 6, 2) := by decide +kernel
theorem dX9_areUnlike_99 : decode cX9_areUnlike 99 = .ok (.iload 8, 2) := by decide +kernel
theorem dX9_areUnlike_101 : decode cX9_areUnlike 101 = .ok (.iadd, 1) := by decide +kernel
theorem dX9_areUnlike_102 : decode cX9_areUnlike 102 = .ok (.aload_n 0, 1) := by decide +kernel
theorem dX9_areUnlike_103 : decode cX9_areUnlike 103 = .ok (.getfield 7, 3) := by decide +kernel
theorem dX9_areUnlike_106 : decode cX9_areUnlike 106 = .ok (.irem, 1) := by decide +kernel
theorem dX9_areUnlike_107 : decode cX9_areUnlike 107 = .ok (.ifCond .eq 7, 3) := by decide +kernel
theorem dX9_areUnlike_110 : decode cX9_areUnlike 110 = .ok (.iconst 1, 1) := by decide +kernel
theorem dX9_areUnlike_111 : decode cX9_areUnlike 111 = .ok (.goto 4, 3) := by decide +kernel
theorem dX9_areUnlike_114 : decode cX9_areUnlike 114 = .ok (.iconst 0, 1) := by decide +kernel
theorem dX9_areUnlike_115 : decode cX9_areUnlike 115 = .ok (.iand, 1) := by decide +kernel
theorem dX9_areUnlike_116 : decode cX9_areUnlike 116 = .ok (.istore 4, 2) := by decide +kernel
theorem dX9_areUnlike_118 : decode cX9_areUnlike 118 = .ok (.iinc 7 1, 3) := by decide +kernel
theorem dX9_areUnlike_121 : decode cX9_areUnlike 121 = .ok (.goto (-66), 3) := by decide +kernel
theorem dX9_areUnlike_124 : decode cX9_areUnlike 124 = .ok (.iinc 5 1, 3) := by decide +kernel
theorem dX9_areUnlike_127 : decode cX9_areUnlike 127 = .ok (.goto (-121), 3) := by decide +kernel
theorem dX9_areUnlike_130 : decode cX9_areUnlike 130 = .ok (.iload 4, 2) := by decide +kernel
theorem dX9_areUnlike_132 : decode cX9_areUnlike 132 = .ok (.ireturn, 1) := by decide +kernel
theorem dX9_isAdded_0 : decode cX9_isAdded 0 = .ok (.iconst 0, 1) := by decide +kernel
theorem dX9_isAdded_1 : decode cX9_isAdded 1 = .ok (.istore_n 1, 1) := by decide +kernel
theorem dX9_isAdded_2 : decode cX9_isAdded 2 = .ok (.iconst 0, 1) := by decide +kernel
theorem dX9_isAdded_3 : decode cX9_isAdded 3 = .ok (.istore_n 2, 1) := by decide +kernel
theorem dX9_isAdded_4 : decode cX9_isAdded 4 = .ok (.iconst 0, 1) := by decide +kernel
theorem dX9_isAdded_5 : decode cX9_isAdded 5 = .ok (.istore_n 3, 1) := by decide +kernel
theorem dX9_isAdded_6 : decode cX9_isAdded 6 = .ok (.iload_n 3, 1) := by decide +kernel
theorem dX9_isAdded_7 : decode cX9_isAdded 7 = .ok (.aload_n 0, 1) := by decide +kernel
theorem dX9_isAdded_8 : decode cX9_isAdded 8 = .ok (.getfield 87, 3) := by decide +kernel
theorem dX9_isAdded_11 : decode cX9_isAdded 11 = .ok (.if_icmp .ge 70, 3) := by decide +kernel
theorem dX9_isAdded_14 : decode cX9_isAdded 14 = .ok (.aload_n 0, 1) := by decide +kernel
theorem dX9_isAdded_15 : decode cX9_isAdded 15 = .ok (.getfield 13, 3) := by decide +kernel
theorem dX9_isAdded_18 : decode cX9_isAdded 18 = .ok (.iconst 3, 1) := by decide +kernel
theorem dX9_isAdded_19 : decode cX9_isAdded 19 = .ok (.iload_n 3, 1) := by decide +kernel
theorem dX9_isAdded_20 : decode cX9_isAdded 20 = .ok (.imul, 1) := by decide +kernel
theorem dX9_isAdded_21 : decode cX9_isAdded 21 = .ok (.iconst 2, 1) := by decide +kernel
theorem dX9_isAdded_22 : decode cX9_isAdded 22 = .ok (.iadd, 1) := by decide +kernel
theorem dX9_isAdded_23 : decode cX9_isAdded 23 = .ok (.iaload, 1) := by decide +kernel
theorem dX9_isAdded_24 : decode cX9_isAdded 24 = .ok (.istore 4, 2) := by decide +kernel
theorem dX9_isAdded_26 : decode cX9_isAdded 26 = .ok (.iload_n 1, 1) := by decide +kernel
theorem dX9_isAdded_27 : decode cX9_isAdded 27 = .ok (.iconst 1, 1) := by decide +kernel
theorem dX9_isAdded_28 : decode cX9_isAdded 28 = .ok (.iload 4, 2) := by decide +kernel
theorem dX9_isAdded_30 : decode cX9_isAdded 30 = .ok (.ishl, 1) := by decide +kernel
theorem dX9_isAdded_31 : decode cX9_isAdded 31 = .ok (.ior, 1) := by decide +kernel
theorem dX9_isAdded_32 : decode cX9_isAdded 32 = .ok (.istore_n 1, 1) := by decide +kernel
theorem dX9_isAdded_33 : decode cX9_isAdded 33 = .ok (.iload_n 2, 1) := by decide +kernel
theorem dX9_isAdded_34 : decode cX9_isAdded 34 = .ok (.iconst 1, 1) := by decide +kernel
theorem dX9_isAdded_35 : decode cX9_isAdded 35 = .ok (.aload_n 0, 1) := by decide +kernel
theorem dX9_isAdded_36 : decode cX9_isAdded 36 = .ok (.getfield 13, 3) := by decide +kernel
theorem dX9_isAdded_39 : decode cX9_isAdded 39 = .ok (.iconst 3, 1) := by decide +kernel
theorem dX9_isAdded_40 : decode cX9_isAdded 40 = .ok (.iload_n 3, 1) := by decide +kernel
theorem dX9_isAdded_41 : decode cX9_isAdded 41 = .ok (.imul, 1) := by decide +kernel
theorem dX9_isAdded_42 : decode cX9_isAdded 42 = .ok (.iaload, 1) := by decide +kernel
theorem dX9_isAdded_43 : decode cX9_isAdded 43 = .ok (.iload 4, 2) := by decide +kernel
theorem dX9_isAdded_45 : decode cX9_isAdded 45 = .ok (.iadd, 1) := by decide +kernel
theorem dX9_isAdded_46 : decode cX9_isAdded 46 = .ok (.aload_n 0, 1) := by decide +kernel
theorem dX9_isAdded_47 : decode cX9_isAdded 47 = .ok (.getfield 7, 3) := by decide +kernel
theorem dX9_isAdded_50 : decode cX9_isAdded 50 = .ok (.irem, 1) := by decide +kernel
theorem dX9_isAdded_51 : decode cX9_isAdded 51 = .ok (.ishl, 1) := by decide +kernel
theorem dX9_isAdded_52 : decode cX9_isAdded 52 = .ok (.iconst 1, 1) := by decide +kernel
theorem dX9_isAdded_53 : decode cX9_isAdded 53 = .ok (.aload_n 0, 1) := by decide +kernel
theorem dX9_isAdded_54 : decode cX9_isAdded 54 = .ok (.getfield 13, 3) := by decide +kernel
theorem dX9_isAdded_57 : decode cX9_isAdded 57 = .ok (.iconst 3, 1) := by decide +kernel
theorem dX9_isAdded_58 : decode cX9_isAdded 58 = .ok (.iload_n 3, 1) := by decide +kernel
theorem dX9_isAdded_59 : decode cX9_isAdded 59 = .ok (.imul, 1) := by decide +kernel
theorem dX9_isAdded_60 : decode cX9_isAdded 60 = .ok (.iconst 1, 1) := by decide +kernel
theorem dX9_isAdded_61 : decode cX9_isAdded 61 = .ok (.iadd, 1) := by decide +kernel
theorem dX9_isAdded_62 : decode cX9_isAdded 62 = .ok (.iaload, 1) := by decide +kernel
theorem dX9_isAdded_63 : decode cX9_isAdded 63 = .ok (.iload 4, 2) := by decide +kernel
theorem dX9_isAdded_65 : decode cX9_isAdded 65 = .ok (.iadd, 1) := by decide +kernel
theorem dX9_isAdded_66 : decode cX9_isAdded 66 = .ok (.aload_n 0, 1) := by decide +kernel
theorem dX9_isAdded_67 : decode cX9_isAdded 67 = .ok (.getfield 7, 3) := by decide +kernel
theorem dX9_isAdded_70 : decode cX9_isAdded 70 = .ok (.irem, 1) := by decide +kernel
theorem dX9_isAdded_71 : decode cX9_isAdded 71 = .ok (.ishl, 1) := by decide +kernel
theorem dX9_isAdded_72 : decode cX9_isAdded 72 = .ok (.ior, 1) := by decide +kernel
theorem dX9_isAdded_73 : decode cX9_isAdded 73 = .ok (.ior, 1) := by decide +kernel
theorem dX9_isAdded_74 : decode cX9_isAdded 74 = .ok (.istore_n 2, 1) := by decide +kernel
theorem dX9_isAdded_75 : decode cX9_isAdded 75 = .ok (.iinc 3 1, 3) := by decide +kernel
theorem dX9_isAdded_78 : decode cX9_isAdded 78 = .ok (.goto (-72), 3) := by decide +kernel
theorem dX9_isAdded_81 : decode cX9_isAdded 81 = .ok (.aload_n 0, 1) := by decide +kernel
theorem dX9_isAdded_82 : decode cX9_isAdded 82 = .ok (.invokevirtual 145, 3) := by decide +kernel
theorem dX9_isAdded_85 : decode cX9_isAdded 85 = .ok (.ifCond .eq 36, 3) := by decide +kernel
theorem dX9_isAdded_88 : decode cX9_isAdded 88 = .ok (.iload_n 1, 1) := by decide +kernel
theorem dX9_isAdded_89 : decode cX9_isAdded 89 = .ok (.invokestatic 149, 3) := by decide +kernel
theorem dX9_isAdded_92 : decode cX9_isAdded 92 = .ok (.aload_n 0, 1) := by decide +kernel
theorem dX9_isAdded_93 : decode cX9_isAdded 93 = .ok (.getfield 87, 3) := by decide +kernel
theorem dX9_isAdded_96 : decode cX9_isAdded 96 = .ok (.if_icmp .ne 25, 3) := by decide +kernel
theorem dX9_isAdded_99 : decode cX9_isAdded 99 = .ok (.iload_n 1, 1) := by decide +kernel
theorem dX9_isAdded_100 : decode cX9_isAdded 100 = .ok (.iconst 1, 1) := by decide +kernel
theorem dX9_isAdded_101 : decode cX9_isAdded 101 = .ok (.iand, 1) := by decide +kernel
theorem dX9_isAdded_102 : decode cX9_isAdded 102 = .ok (.ifCond .ne 19, 3) := by decide +kernel
theorem dX9_isAdded_105 : decode cX9_isAdded 105 = .ok (.iload_n 2, 1) := by decide +kernel
theorem dX9_isAdded_106 : decode cX9_isAdded 106 = .ok (.iconst 1, 1) := by decide +kernel
theorem dX9_isAdded_107 : decode cX9_isAdded 107 = .ok (.aload_n 0, 1) := by decide +kernel
theorem dX9_isAdded_108 : decode cX9_isAdded 108 = .ok (.getfield 7, 3) := by decide +kernel
theorem dX9_isAdded_111 : decode cX9_isAdded 111 = .ok (.ishl, 1) := by decide +kernel
theorem dX9_isAdded_112 : decode cX9_isAdded 112 = .ok (.iconst 2, 1) := by decide +kernel
theorem dX9_isAdded_113 : decode cX9_isAdded 113 = .ok (.isub, 1) := by decide +kernel
theorem dX9_isAdded_114 : decode cX9_isAdded 114 = .ok (.if_icmp .ne 7, 3) := by decide +kernel
theorem dX9_isAdded_117 : decode cX9_isAdded 117 = .ok (.iconst 1, 1) := by decide +kernel
theorem dX9_isAdded_118 : decode cX9_isAdded 118 = .ok (.goto 4, 3) := by decide +kernel
theorem dX9_isAdded_121 : decode cX9_isAdded 121 = .ok (.iconst 0, 1) := by decide +kernel
theorem dX9_isAdded_122 : decode cX9_isAdded 122 = .ok (.ireturn, 1) := by decide +kernel
theorem dX9_is_0 : decode cX9_is 0 = .ok (.iload_n 1, 1) := by decide +kernel
theorem dX9_is_1 : decode cX9_is 1 = .ok (.tableswitch 130 0 4 #[35, 52, 65, 91, 117], 35) := by decide +kernel
theorem dX9_is_36 : decode cX9_is 36 = .ok (.aload_n 0, 1) := by decide +kernel
theorem dX9_is_37 : decode cX9_is 37 = .ok (.getfield 87, 3) := by decide +kernel
theorem dX9_is_40 : decode cX9_is 40 = .ok (.aload_n 0, 1) := by decide +kernel
theorem dX9_is_41 : decode cX9_is 41 = .ok (.invokevirtual 113, 3) := by decide +kernel
theorem dX9_is_44 : decode cX9_is 44 = .ok (.if_icmp .ne 7, 3) := by decide +kernel
theorem dX9_is_47 : decode cX9_is 47 = .ok (.iconst 1, 1) := by decide +kernel
theorem dX9_is_48 : decode cX9_is 48 = .ok (.goto 4, 3) := by decide +kernel
theorem dX9_is_51 : decode cX9_is 51 = .ok (.iconst 0, 1) := by decide +kernel
theorem dX9_is_52 : decode cX9_is 52 = .ok (.ireturn, 1) := by decide +kernel
theorem dX9_is_53 : decode cX9_is 53 = .ok (.aload_n 0, 1) := by decide +kernel
theorem dX9_is_54 : decode cX9_is 54 = .ok (.invokevirtual 145, 3) := by decide +kernel
theorem dX9_is_57 : decode cX9_is 57 = .ok (.ifCond .eq 7, 3) := by decide +kernel
theorem dX9_is_60 : decode cX9_is 60 = .ok (.iconst 1, 1) := by decide +kernel
theorem dX9_is_61 : decode cX9_is 61 = .ok (.goto 4, 3) := by decide +kernel
theorem dX9_is_64 : decode cX9_is 64 = .ok (.iconst 0, 1) := by decide +kernel
theorem dX9_is_65 : decode cX9_is 65 = .ok (.ireturn, 1) := by decide +kernel
theorem dX9_is_66 : decode cX9_is 66 = .ok (.aload_n 0, 1) := by decide +kernel
theorem dX9_is_67 : decode cX9_is 67 = .ok (.invokevirtual 145, 3) := by decide +kernel
theorem dX9_is_70 : decode cX9_is 70 = .ok (.ifCond .eq 20, 3) := by decide +kernel
theorem dX9_is_73 : decode cX9_is 73 = .ok (.aload_n 0, 1) := by decide +kernel
theorem dX9_is_74 : decode cX9_is 74 = .ok (.aload_n 0, 1) := by decide +kernel
theorem dX9_is_75 : decode cX9_is 75 = .ok (.getfield 13, 3) := by decide +kernel
theorem dX9_is_78 : decode cX9_is 78 = .ok (.iconst 3, 1) := by decide +kernel
theorem dX9_is_79 : decode cX9_is 79 = .ok (.iconst 0, 1) := by decide +kernel
theorem dX9_is_80 : decode cX9_is 80 = .ok (.invokevirtual 154, 3) := by decide +kernel
theorem dX9_is_83 : decode cX9_is 83 = .ok (.ifCond .eq 7, 3) := by decide +kernel
theorem dX9_is_86 : decode cX9_is 86 = .ok (.iconst 1, 1) := by decide +kernel
theorem dX9_is_87 : decode cX9_is 87 = .ok (.goto 4, 3) := by decide +kernel
theorem dX9_is_90 : decode cX9_is 90 = .ok (.iconst 0, 1) := by decide +kernel
theorem dX9_is_91 : decode cX9_is 91 = .ok (.ireturn, 1) := by decide +kernel
theorem dX9_is_92 : decode cX9_is 92 = .ok (.aload_n 0, 1) := by decide +kernel
theorem dX9_is_93 : decode cX9_is 93 = .ok (.invokevirtual 145, 3) := by decide +kernel
theorem dX9_is_96 : decode cX9_is 96 = .ok (.ifCond .eq 20, 3) := by decide +kernel
theorem dX9_is_99 : decode cX9_is 99 = .ok (.aload_n 0, 1) := by decide +kernel
theorem dX9_is_100 : decode cX9_is 100 = .ok (.aload_n 0, 1) := by decide +kernel
theorem dX9_is_101 : decode cX9_is 101 = .ok (.getfield 13, 3) := by decide +kernel
theorem dX9_is_104 : decode cX9_is 104 = .ok (.iconst 3, 1) := by decide +kernel
theorem dX9_is_105 : decode cX9_is 105 = .ok (.iconst 1, 1) := by decide +kernel
theorem dX9_is_106 : decode cX9_is 106 = .ok (.invokevirtual 154, 3) := by decide +kernel
theorem dX9_is_109 : decode cX9_is 109 = .ok (.ifCond .eq 7, 3) := by decide +kernel
theorem dX9_is_112 : decode cX9_is 112 = .ok (.iconst 1, 1) := by decide +kernel
theorem dX9_is_113 : decode cX9_is 113 = .ok (.goto 4, 3) := by decide +kernel
theorem dX9_is_116 : decode cX9_is 116 = .ok (.iconst 0, 1) := by decide +kernel
theorem dX9_is_117 : decode cX9_is 117 = .ok (.ireturn, 1) := by decide +kernel
theorem dX9_is_118 : decode cX9_is 118 = .ok (.aload_n 0, 1) := by decide +kernel
theorem dX9_is_119 : decode cX9_is 119 = .ok (.invokevirtual 158, 3) := by decide +kernel
theorem dX9_is_122 : decode cX9_is 122 = .ok (.ifCond .eq 7, 3) := by decide +kernel
theorem dX9_is_125 : decode cX9_is 125 = .ok (.iconst 1, 1) := by decide +kernel
theorem dX9_is_126 : decode cX9_is 126 = .ok (.goto 4, 3) := by decide +kernel
theorem dX9_is_129 : decode cX9_is 129 = .ok (.iconst 0, 1) := by decide +kernel
theorem dX9_is_130 : decode cX9_is 130 = .ok (.ireturn, 1) := by decide +kernel
theorem dX9_is_131 : decode cX9_is 131 = .ok (.aload_n 0, 1) := by decide +kernel
theorem dX9_is_132 : decode cX9_is 132 = .ok (.bipush (-2), 2) := by decide +kernel
theorem dX9_is_134 : decode cX9_is 134 = .ok (.invokevirtual 90, 3) := by decide +kernel
theorem dX9_is_137 : decode cX9_is 137 = .ok (.ireturn, 1) := by decide +kernel
theorem dX9_searches_0 : decode cX9_searches 0 = .ok (.iload_n 1, 1) := by decide +kernel
theorem dX9_searches_1 : decode cX9_searches 1 = .ok (.aload_n 0, 1) := by decide +kernel
theorem dX9_searches_2 : decode cX9_searches 2 = .ok (.invokevirtual 113, 3) := by decide +kernel
theorem dX9_searches_5 : decode cX9_searches 5 = .ok (.if_icmp .ne 112, 3) := by decide +kernel
theorem dX9_searches_8 : decode cX9_searches 8 = .ok (.iconst 0, 1) := by decide +kernel
theorem dX9_searches_9 : decode cX9_searches 9 = .ok (.istore 4, 2) := by decide +kernel
theorem dX9_searches_11 : decode cX9_searches 11 = .ok (.iload 4, 2) := by decide +kernel
theorem dX9_searches_13 : decode cX9_searches 13 = .ok (.iload_n 1, 1) := by decide +kernel
theorem dX9_searches_14 : decode cX9_searches 14 = .ok (.if_icmp .ge 38, 3) := by decide +kernel
theorem dX9_searches_17 : decode cX9_searches 17 = .ok (.aload_n 0, 1) := by decide +kernel
theorem dX9_searches_18 : decode cX9_searches 18 = .ok (.getfield 161, 3) := by decide +kernel
theorem dX9_searches_21 : decode cX9_searches 21 = .ok (.aload_n 0, 1) := by decide +kernel
theorem dX9_searches_22 : decode cX9_searches 22 = .ok (.getfield 164, 3) := by decide +kernel
theorem dX9_searches_25 : decode cX9_searches 25 = .ok (.if_icmp .ne 27, 3) := by decide +kernel
theorem dX9_searches_28 : decode cX9_searches 28 = .ok (.aload_n 0, 1) := by decide +kernel
theorem dX9_searches_29 : decode cX9_searches 29 = .ok (.getfield 38, 3) := by decide +kernel
theorem dX9_searches_32 : decode cX9_searches 32 = .ok (.iload 4, 2) := by decide +kernel
theorem dX9_searches_34 : decode cX9_searches 34 = .ok (.aload_n 0, 1) := by decide +kernel
theorem dX9_searches_35 : decode cX9_searches 35 = .ok (.getfield 35, 3) := by decide +kernel
theorem dX9_searches_38 : decode cX9_searches 38 = .ok (.iconst 2, 1) := by decide +kernel
theorem dX9_searches_39 : decode cX9_searches 39 = .ok (.iload 4, 2) := by decide +kernel
theorem dX9_searches_41 : decode cX9_searches 41 = .ok (.imul, 1) := by decide +kernel
theorem dX9_searches_42 : decode cX9_searches 42 = .ok (.iconst 1, 1) := by decide +kernel
theorem dX9_searches_43 : decode cX9_searches 43 = .ok (.iadd, 1) := by decide +kernel
theorem dX9_searches_44 : decode cX9_searches 44 = .ok (.iaload, 1) := by decide +kernel
theorem dX9_searches_45 : decode cX9_searches 45 = .ok (.iastore, 1) := by decide +kernel
theorem dX9_searches_46 : decode cX9_searches 46 = .ok (.iinc 4 1, 3) := by decide +kernel
theorem dX9_searches_49 : decode cX9_searches 49 = .ok (.goto (-38), 3) := by decide +kernel
theorem dX9_searches_52 : decode cX9_searches 52 = .ok (.aload_n 0, 1) := by decide +kernel
theorem dX9_searches_53 : decode cX9_searches 53 = .ok (.dup, 1) := by decide +kernel
theorem dX9_searches_54 : decode cX9_searches 54 = .ok (.getfield 167, 3) := by decide +kernel
theorem dX9_searches_57 : decode cX9_searches 57 = .ok (.aload_n 0, 1) := by decide +kernel
theorem dX9_searches_58 : decode cX9_searches 58 = .ok (.aload_n 0, 1) := by decide +kernel
theorem dX9_searches_59 : decode cX9_searches 59 = .ok (.getfield 35, 3) := by decide +kernel
theorem dX9_searches_62 : decode cX9_searches 62 = .ok (.iconst 2, 1) := by decide +kernel
theorem dX9_searches_63 : decode cX9_searches 63 = .ok (.iconst 0, 1) := by decide +kernel
theorem dX9_searches_64 : decode cX9_searches 64 = .ok (.invokevirtual 154, 3) := by decide +kernel
theorem dX9_searches_67 : decode cX9_searches 67 = .ok (.ifCond .eq 7, 3) := by decide +kernel
theorem dX9_searches_70 : decode cX9_searches 70 = .ok (.iconst 1, 1) := by decide +kernel
theorem dX9_searches_71 : decode cX9_searches 71 = .ok (.goto 4, 3) := by decide +kernel
theorem dX9_searches_74 : decode cX9_searches 74 = .ok (.iconst 0, 1) := by decide +kernel
theorem dX9_searches_75 : decode cX9_searches 75 = .ok (.iadd, 1) := by decide +kernel
theorem dX9_searches_76 : decode cX9_searches 76 = .ok (.putfield 167, 3) := by decide +kernel
theorem dX9_searches_79 : decode cX9_searches 79 = .ok (.aload_n 0, 1) := by decide +kernel
theorem dX9_searches_80 : decode cX9_searches 80 = .ok (.dup, 1) := by decide +kernel
theorem dX9_searches_81 : decode cX9_searches 81 = .ok (.getfield 170, 3) := by decide +kernel
theorem dX9_searches_84 : decode cX9_searches 84 = .ok (.aload_n 0, 1) := by decide +kernel
theorem dX9_searches_85 : decode cX9_searches 85 = .ok (.aload_n 0, 1) := by decide +kernel
theorem dX9_searches_86 : decode cX9_searches 86 = .ok (.getfield 35, 3) := by decide +kernel
theorem dX9_searches_89 : decode cX9_searches 89 = .ok (.iconst 2, 1) := by decide +kernel
theorem dX9_searches_90 : decode cX9_searches 90 = .ok (.iconst 1, 1) := by decide +kernel
theorem dX9_searches_91 : decode cX9_searches 91 = .ok (.invokevirtual 154, 3) := by decide +kernel
theorem dX9_searches_94 : decode cX9_searches 94 = .ok (.ifCond .eq 7, 3) := by decide +kernel
theorem dX9_searches_97 : decode cX9_searches 97 = .ok (.iconst 1, 1) := by decide +kernel
theorem dX9_searches_98 : decode cX9_searches 98 = .ok (.goto 4, 3) := by decide +kernel
theorem dX9_searches_101 : decode cX9_searches 101 = .ok (.iconst 0, 1) := by decide +kernel
theorem dX9_searches_102 : decode cX9_searches 102 = .ok (.iadd, 1) := by decide +kernel
theorem dX9_searches_103 : decode cX9_searches 103 = .ok (.putfield 170, 3) := by decide +kernel
theorem dX9_searches_106 : decode cX9_searches 106 = .ok (.aload_n 0, 1) := by decide +kernel
theorem dX9_searches_107 : decode cX9_searches 107 = .ok (.dup, 1) := by decide +kernel
theorem dX9_searches_108 : decode cX9_searches 108 = .ok (.getfield 161, 3) := by decide +kernel
theorem dX9_searches_111 : decode cX9_searches 111 = .ok (.iconst 1, 1) := by decide +kernel
theorem dX9_searches_112 : decode cX9_searches 112 = .ok (.iadd, 1) := by decide +kernel
theorem dX9_searches_113 : decode cX9_searches 113 = .ok (.putfield 161, 3) := by decide +kernel
theorem dX9_searches_116 : decode cX9_searches 116 = .ok (.return_, 1) := by decide +kernel
theorem dX9_searches_117 : decode cX9_searches 117 = .ok (.iconst 1, 1) := by decide +kernel
theorem dX9_searches_118 : decode cX9_searches 118 = .ok (.istore 4, 2) := by decide +kernel
theorem dX9_searches_120 : decode cX9_searches 120 = .ok (.iload_n 2, 1) := by decide +kernel
theorem dX9_searches_121 : decode cX9_searches 121 = .ok (.iload 4, 2) := by decide +kernel
theorem dX9_searches_123 : decode cX9_searches 123 = .ok (.ishr, 1) := by decide +kernel
theorem dX9_searches_124 : decode cX9_searches 124 = .ok (.iconst 1, 1) := by decide +kernel
theorem dX9_searches_125 : decode cX9_searches 125 = .ok (.iand, 1) := by decide +kernel
theorem dX9_searches_126 : decode cX9_searches 126 = .ok (.ifCond .eq 9, 3) := by decide +kernel
theorem dX9_searches_129 : decode cX9_searches 129 = .ok (.iinc 4 1, 3) := by decide +kernel
theorem dX9_searches_132 : decode cX9_searches 132 = .ok (.goto (-12), 3) := by decide +kernel
theorem dX9_searches_135 : decode cX9_searches 135 = .ok (.iload 4, 2) := by decide +kernel
theorem dX9_searches_137 : decode cX9_searches 137 = .ok (.iconst 1, 1) := by decide +kernel
theorem dX9_searches_138 : decode cX9_searches 138 = .ok (.iadd, 1) := by decide +kernel
theorem dX9_searches_139 : decode cX9_searches 139 = .ok (.istore 5, 2) := by decide +kernel
theorem dX9_searches_141 : decode cX9_searches 141 = .ok (.iload 5, 2) := by decide +kernel
theorem dX9_searches_143 : decode cX9_searches 143 = .ok (.aload_n 0, 1) := by decide +kernel
theorem dX9_searches_144 : decode cX9_searches 144 = .ok (.getfield 7, 3) := by decide +kernel
theorem dX9_searches_147 : decode cX9_searches 147 = .ok (.if_icmp .ge 91, 3) := by decide +kernel
theorem dX9_searches_150 : decode cX9_searches 150 = .ok (.iconst 1, 1) := by decide +kernel
theorem dX9_searches_151 : decode cX9_searches 151 = .ok (.iload 5, 2) := by decide +kernel
theorem dX9_searches_153 : decode cX9_searches 153 = .ok (.iload 4, 2) := by decide +kernel
theorem dX9_searches_155 : decode cX9_searches 155 = .ok (.isub, 1) := by decide +kernel
theorem dX9_searches_156 : decode cX9_searches 156 = .ok (.ishl, 1) := by decide +kernel
theorem dX9_searches_157 : decode cX9_searches 157 = .ok (.iconst 1, 1) := by decide +kernel
theorem dX9_searches_158 : decode cX9_searches 158 = .ok (.aload_n 0, 1) := by decide +kernel
theorem dX9_searches_159 : decode cX9_searches 159 = .ok (.getfield 7, 3) := by decide +kernel
theorem dX9_searches_162 : decode cX9_searches 162 = .ok (.iload 5, 2) := by decide +kernel
theorem dX9_searches_164 : decode cX9_searches 164 = .ok (.isub, 1) := by decide +kernel
theorem dX9_searches_165 : decode cX9_searches 165 = .ok (.iload 4, 2) := by decide +kernel
theorem dX9_searches_167 : decode cX9_searches 167 = .ok (.iadd, 1) := by decide +kernel
theorem dX9_searches_168 : decode cX9_searches 168 = .ok (.ishl, 1) := by decide +kernel
theorem dX9_searches_169 : decode cX9_searches 169 = .ok (.ior, 1) := by decide +kernel
theorem dX9_searches_170 : decode cX9_searches 170 = .ok (.istore 6, 2) := by decide +kernel
theorem dX9_searches_172 : decode cX9_searches 172 = .ok (.iload_n 2, 1) := by decide +kernel
theorem dX9_searches_173 : decode cX9_searches 173 = .ok (.iload 5, 2) := by decide +kernel
theorem dX9_searches_175 : decode cX9_searches 175 = .ok (.ishr, 1) := by decide +kernel
theorem dX9_searches_176 : decode cX9_searches 176 = .ok (.iconst 1, 1) := by decide +kernel
theorem dX9_searches_177 : decode cX9_searches 177 = .ok (.iand, 1) := by decide +kernel
theorem dX9_searches_178 : decode cX9_searches 178 = .ok (.ifCond .ne 54, 3) := by decide +kernel
theorem dX9_searches_181 : decode cX9_searches 181 = .ok (.iload_n 3, 1) := by decide +kernel
theorem dX9_searches_182 : decode cX9_searches 182 = .ok (.iload 6, 2) := by decide +kernel
theorem dX9_searches_184 : decode cX9_searches 184 = .ok (.iand, 1) := by decide +kernel
theorem dX9_searches_185 : decode cX9_searches 185 = .ok (.ifCond .ne 47, 3) := by decide +kernel
theorem dX9_searches_188 : decode cX9_searches 188 = .ok (.aload_n 0, 1) := by decide +kernel
theorem dX9_searches_189 : decode cX9_searches 189 = .ok (.getfield 35, 3) := by decide +kernel
theorem dX9_searches_192 : decode cX9_searches 192 = .ok (.iconst 2, 1) := by decide +kernel
theorem dX9_searches_193 : decode cX9_searches 193 = .ok (.iload_n 1, 1) := by decide +kernel
theorem dX9_searches_194 : decode cX9_searches 194 = .ok (.imul, 1) := by decide +kernel
theorem dX9_searches_195 : decode cX9_searches 195 = .ok (.iload 4, 2) := by decide +kernel
theorem dX9_searches_197 : decode cX9_searches 197 = .ok (.iastore, 1) := by decide +kernel
theorem dX9_searches_198 : decode cX9_searches 198 = .ok (.aload_n 0, 1) := by decide +kernel
theorem dX9_searches_199 : decode cX9_searches 199 = .ok (.getfield 35, 3) := by decide +kernel
theorem dX9_searches_202 : decode cX9_searches 202 = .ok (.iconst 2, 1) := by decide +kernel
theorem dX9_searches_203 : decode cX9_searches 203 = .ok (.iload_n 1, 1) := by decide +kernel
theorem dX9_searches_204 : decode cX9_searches 204 = .ok (.imul, 1) := by decide +kernel
theorem dX9_searches_205 : decode cX9_searches 205 = .ok (.iconst 1, 1) := by decide +kernel
theorem dX9_searches_206 : decode cX9_searches 206 = .ok (.iadd, 1) := by decide +kernel
theorem dX9_searches_207 : decode cX9_searches 207 = .ok (.iload 5, 2) := by decide +kernel
theorem dX9_searches_209 : decode cX9_searches 209 = .ok (.iastore, 1) := by decide +kernel
theorem dX9_searches_210 : decode cX9_searches 210 = .ok (.aload_n 0, 1) := by decide +kernel
theorem dX9_searches_211 : decode cX9_searches 211 = .ok (.iload_n 1, 1) := by decide +kernel
theorem dX9_searches_212 : decode cX9_searches 212 = .ok (.iconst 1, 1) := by decide +kernel
theorem dX9_searches_213 : decode cX9_searches 213 = .ok (.iadd, 1) := by decide +kernel
theorem dX9_searches_214 : decode cX9_searches 214 = .ok (.iload_n 2, 1) := by decide +kernel
theorem dX9_searches_215 : decode cX9_searches 215 = .ok (.iconst 1, 1) := by decide +kernel
theorem dX9_searches_216 : decode cX9_searches 216 = .ok (.iload 4, 2) := by decide +kernel
theorem dX9_searches_218 : decode cX9_searches 218 = .ok (.ishl, 1) := by decide +kernel
theorem dX9_searches_219 : decode cX9_searches 219 = .ok (.ior, 1) := by decide +kernel
theorem dX9_searches_220 : decode cX9_searches 220 = .ok (.iconst 1, 1) := by decide +kernel
theorem dX9_searches_221 : decode cX9_searches 221 = .ok (.iload 5, 2) := by decide +kernel
theorem dX9_searches_223 : decode cX9_searches 223 = .ok (.ishl, 1) := by decide +kernel
theorem dX9_searches_224 : decode cX9_searches 224 = .ok (.ior, 1) := by decide +kernel
theorem dX9_searches_225 : decode cX9_searches 225 = .ok (.iload_n 3, 1) := by decide +kernel
theorem dX9_searches_226 : decode cX9_searches 226 = .ok (.iload 6, 2) := by decide +kernel
theorem dX9_searches_228 : decode cX9_searches 228 = .ok (.ior, 1) := by decide +kernel
theorem dX9_searches_229 : decode cX9_searches 229 = .ok (.invokevirtual 173, 3) := by decide +kernel
theorem dX9_searches_232 : decode cX9_searches 232 = .ok (.iinc 5 1, 3) := by decide +kernel
theorem dX9_searches_235 : decode cX9_searches 235 = .ok (.goto (-94), 3) := by decide +kernel
theorem dX9_searches_238 : decode cX9_searches 238 = .ok (.return_, 1) := by decide +kernel
theorem dX9_findsStarters_0 : decode cX9_findsStarters 0 = .ok (.aload_n 0, 1) := by decide +kernel
theorem dX9_findsStarters_1 : decode cX9_findsStarters 1 = .ok (.iconst 0, 1) := by decide +kernel
theorem dX9_findsStarters_2 : decode cX9_findsStarters 2 = .ok (.putfield 161, 3) := by decide +kernel
theorem dX9_findsStarters_5 : decode cX9_findsStarters 5 = .ok (.aload_n 0, 1) := by decide +kernel
theorem dX9_findsStarters_6 : decode cX9_findsStarters 6 = .ok (.iload_n 1, 1) := by decide +kernel
theorem dX9_findsStarters_7 : decode cX9_findsStarters 7 = .ok (.putfield 164, 3) := by decide +kernel
theorem dX9_findsStarters_10 : decode cX9_findsStarters 10 = .ok (.aload_n 0, 1) := by decide +kernel
theorem dX9_findsStarters_11 : decode cX9_findsStarters 11 = .ok (.iconst 0, 1) := by decide +kernel
theorem dX9_findsStarters_12 : decode cX9_findsStarters 12 = .ok (.putfield 167, 3) := by decide +kernel
theorem dX9_findsStarters_15 : decode cX9_findsStarters 15 = .ok (.aload_n 0, 1) := by decide +kernel
theorem dX9_findsStarters_16 : decode cX9_findsStarters 16 = .ok (.iconst 0, 1) := by decide +kernel
theorem dX9_findsStarters_17 : decode cX9_findsStarters 17 = .ok (.putfield 170, 3) := by decide +kernel
theorem dX9_findsStarters_20 : decode cX9_findsStarters 20 = .ok (.aload_n 0, 1) := by decide +kernel
theorem dX9_findsStarters_21 : decode cX9_findsStarters 21 = .ok (.iconst 0, 1) := by decide +kernel
theorem dX9_findsStarters_22 : decode cX9_findsStarters 22 = .ok (.iconst 0, 1) := by decide +kernel
theorem dX9_findsStarters_23 : decode cX9_findsStarters 23 = .ok (.iconst 0, 1) := by decide +kernel
theorem dX9_findsStarters_24 : decode cX9_findsStarters 24 = .ok (.invokevirtual 173, 3) := by decide +kernel
theorem dX9_findsStarters_27 : decode cX9_findsStarters 27 = .ok (.return_, 1) := by decide +kernel
theorem dX9_searchesAdders_0 : decode cX9_searchesAdders 0 = .ok (.iload_n 1, 1) := by decide +kernel
theorem dX9_searchesAdders_1 : decode cX9_searchesAdders 1 = .ok (.aload_n 0, 1) := by decide +kernel
theorem dX9_searchesAdders_2 : decode cX9_searchesAdders 2 = .ok (.getfield 87, 3) := by decide +kernel
theorem dX9_searchesAdders_5 : decode cX9_searchesAdders 5 = .ok (.if_icmp .ne 54, 3) := by decide +kernel
theorem dX9_searchesAdders_8 : decode cX9_searchesAdders 8 = .ok (.iconst 0, 1) := by decide +kernel
theorem dX9_searchesAdders_9 : decode cX9_searchesAdders 9 = .ok (.istore 4, 2) := by decide +kernel
theorem dX9_searchesAdders_11 : decode cX9_searchesAdders 11 = .ok (.iload 4, 2) := by decide +kernel
theorem dX9_searchesAdders_13 : decode cX9_searchesAdders 13 = .ok (.iload_n 1, 1) := by decide +kernel
theorem dX9_searchesAdders_14 : decode cX9_searchesAdders 14 = .ok (.if_icmp .ge 34, 3) := by decide +kernel
theorem dX9_searchesAdders_17 : decode cX9_searchesAdders 17 = .ok (.aload_n 0, 1) := by decide +kernel
theorem dX9_searchesAdders_18 : decode cX9_searchesAdders 18 = .ok (.getfield 161, 3) := by decide +kernel
theorem dX9_searchesAdders_21 : decode cX9_searchesAdders 21 = .ok (.aload_n 0, 1) := by decide +kernel
theorem dX9_searchesAdders_22 : decode cX9_searchesAdders 22 = .ok (.getfield 164, 3) := by decide +kernel
theorem dX9_searchesAdders_25 : decode cX9_searchesAdders 25 = .ok (.if_icmp .ne 23, 3) := by decide +kernel
theorem dX9_searchesAdders_28 : decode cX9_searchesAdders 28 = .ok (.aload_n 0, 1) := by decide +kernel
theorem dX9_searchesAdders_29 : decode cX9_searchesAdders 29 = .ok (.getfield 38, 3) := by decide +kernel
theorem dX9_searchesAdders_32 : decode cX9_searchesAdders 32 = .ok (.iload 4, 2) := by decide +kernel
theorem dX9_searchesAdders_34 : decode cX9_searchesAdders 34 = .ok (.aload_n 0, 1) := by decide +kernel
theorem dX9_searchesAdders_35 : decode cX9_searchesAdders 35 = .ok (.getfield 35, 3) := by decide +kernel
theorem dX9_searchesAdders_38 : decode cX9_searchesAdders 38 = .ok (.iload 4, 2) := by decide +kernel
theorem dX9_searchesAdders_40 : decode cX9_searchesAdders 40 = .ok (.iaload, 1) := by decide +kernel
theorem dX9_searchesAdders_41 : decode cX9_searchesAdders 41 = .ok (.iastore, 1) := by decide +kernel
theorem dX9_searchesAdders_42 : decode cX9_searchesAdders 42 = .ok (.iinc 4 1, 3) := by decide +kernel
theorem dX9_searchesAdders_45 : decode cX9_searchesAdders 45 = .ok (.goto (-34), 3) := by decide +kernel
theorem dX9_searchesAdders_48 : decode cX9_searchesAdders 48 = .ok (.aload_n 0, 1) := by decide +kernel
theorem dX9_searchesAdders_49 : decode cX9_searchesAdders 49 = .ok (.dup, 1) := by decide +kernel
theorem dX9_searchesAdders_50 : decode cX9_searchesAdders 50 = .ok (.getfield 161, 3) := by decide +kernel
theorem dX9_searchesAdders_53 : decode cX9_searchesAdders 53 = .ok (.iconst 1, 1) := by decide +kernel
theorem dX9_searchesAdders_54 : decode cX9_searchesAdders 54 = .ok (.iadd, 1) := by decide +kernel
theorem dX9_searchesAdders_55 : decode cX9_searchesAdders 55 = .ok (.putfield 161, 3) := by decide +kernel
theorem dX9_searchesAdders_58 : decode cX9_searchesAdders 58 = .ok (.return_, 1) := by decide +kernel
theorem dX9_searchesAdders_59 : decode cX9_searchesAdders 59 = .ok (.iconst 1, 1) := by decide +kernel
theorem dX9_searchesAdders_60 : decode cX9_searchesAdders 60 = .ok (.istore 4, 2) := by decide +kernel
theorem dX9_searchesAdders_62 : decode cX9_searchesAdders 62 = .ok (.iload 4, 2) := by decide +kernel
theorem dX9_searchesAdders_64 : decode cX9_searchesAdders 64 = .ok (.aload_n 0, 1) := by decide +kernel
theorem dX9_searchesAdders_65 : decode cX9_searchesAdders 65 = .ok (.getfield 7, 3) := by decide +kernel
theorem dX9_searchesAdders_68 : decode cX9_searchesAdders 68 = .ok (.if_icmp .ge 116, 3) := by decide +kernel
theorem dX9_searchesAdders_71 : decode cX9_searchesAdders 71 = .ok (.aload_n 0, 1) := by decide +kernel
theorem dX9_searchesAdders_72 : decode cX9_searchesAdders 72 = .ok (.getfield 13, 3) := by decide +kernel
theorem dX9_searchesAdders_75 : decode cX9_searchesAdders 75 = .ok (.iconst 3, 1) := by decide +kernel
theorem dX9_searchesAdders_76 : decode cX9_searchesAdders 76 = .ok (.iload_n 1, 1) := by decide +kernel
theorem dX9_searchesAdders_77 : decode cX9_searchesAdders 77 = .ok (.imul, 1) := by decide +kernel
theorem dX9_searchesAdders_78 : decode cX9_searchesAdders 78 = .ok (.iaload, 1) := by decide +kernel
theorem dX9_searchesAdders_79 : decode cX9_searchesAdders 79 = .ok (.iload 4, 2) := by decide +kernel
theorem dX9_searchesAdders_81 : decode cX9_searchesAdders 81 = .ok (.iadd, 1) := by decide +kernel
theorem dX9_searchesAdders_82 : decode cX9_searchesAdders 82 = .ok (.aload_n 0, 1) := by decide +kernel
theorem dX9_searchesAdders_83 : decode cX9_searchesAdders 83 = .ok (.getfield 7, 3) := by decide +kernel
theorem dX9_searchesAdders_86 : decode cX9_searchesAdders 86 = .ok (.irem, 1) := by decide +kernel
theorem dX9_searchesAdders_87 : decode cX9_searchesAdders 87 = .ok (.istore 5, 2) := by decide +kernel
theorem dX9_searchesAdders_89 : decode cX9_searchesAdders 89 = .ok (.aload_n 0, 1) := by decide +kernel
theorem dX9_searchesAdders_90 : decode cX9_searchesAdders 90 = .ok (.getfield 13, 3) := by decide +kernel
theorem dX9_searchesAdders_93 : decode cX9_searchesAdders 93 = .ok (.iconst 3, 1) := by decide +kernel
theorem dX9_searchesAdders_94 : decode cX9_searchesAdders 94 = .ok (.iload_n 1, 1) := by decide +kernel
theorem dX9_searchesAdders_95 : decode cX9_searchesAdders 95 = .ok (.imul, 1) := by decide +kernel
theorem dX9_searchesAdders_96 : decode cX9_searchesAdders 96 = .ok (.iconst 1, 1) := by decide +kernel
theorem dX9_searchesAdders_97 : decode cX9_searchesAdders 97 = .ok (.iadd, 1) := by decide +kernel
theorem dX9_searchesAdders_98 : decode cX9_searchesAdders 98 = .ok (.iaload, 1) := by decide +kernel
theorem dX9_searchesAdders_99 : decode cX9_searchesAdders 99 = .ok (.iload 4, 2) := by decide +kernel
theorem dX9_searchesAdders_101 : decode cX9_searchesAdders 101 = .ok (.iadd, 1) := by decide +kernel
theorem dX9_searchesAdders_102 : decode cX9_searchesAdders 102 = .ok (.aload_n 0, 1) := by decide +kernel
theorem dX9_searchesAdders_103 : decode cX9_searchesAdders 103 = .ok (.getfield 7, 3) := by decide +kernel
theorem dX9_searchesAdders_106 : decode cX9_searchesAdders 106 = .ok (.irem, 1) := by decide +kernel
theorem dX9_searchesAdders_107 : decode cX9_searchesAdders 107 = .ok (.istore 6, 2) := by decide +kernel
theorem dX9_searchesAdders_109 : decode cX9_searchesAdders 109 = .ok (.iload_n 2, 1) := by decide +kernel
theorem dX9_searchesAdders_110 : decode cX9_searchesAdders 110 = .ok (.iload 4, 2) := by decide +kernel
theorem dX9_searchesAdders_112 : decode cX9_searchesAdders 112 = .ok (.ishr, 1) := by decide +kernel
theorem dX9_searchesAdders_113 : decode cX9_searchesAdders 113 = .ok (.iconst 1, 1) := by decide +kernel
theorem dX9_searchesAdders_114 : decode cX9_searchesAdders 114 = .ok (.iand, 1) := by decide +kernel
theorem dX9_searchesAdders_115 : decode cX9_searchesAdders 115 = .ok (.ifCond .ne 63, 3) := by decide +kernel
theorem dX9_searchesAdders_118 : decode cX9_searchesAdders 118 = .ok (.iload 5, 2) := by decide +kernel
theorem dX9_searchesAdders_120 : decode cX9_searchesAdders 120 = .ok (.ifCond .eq 58, 3) := by decide +kernel
theorem dX9_searchesAdders_123 : decode cX9_searchesAdders 123 = .ok (.iload 6, 2) := by decide +kernel
theorem dX9_searchesAdders_125 : decode cX9_searchesAdders 125 = .ok (.ifCond .eq 53, 3) := by decide +kernel
theorem dX9_searchesAdders_128 : decode cX9_searchesAdders 128 = .ok (.iload_n 3, 1) := by decide +kernel
theorem dX9_searchesAdders_129 : decode cX9_searchesAdders 129 = .ok (.iload 5, 2) := by decide +kernel
theorem dX9_searchesAdders_131 : decode cX9_searchesAdders 131 = .ok (.ishr, 1) := by decide +kernel
theorem dX9_searchesAdders_132 : decode cX9_searchesAdders 132 = .ok (.iconst 1, 1) := by decide +kernel
theorem dX9_searchesAdders_133 : decode cX9_searchesAdders 133 = .ok (.iand, 1) := by decide +kernel
theorem dX9_searchesAdders_134 : decode cX9_searchesAdders 134 = .ok (.ifCond .ne 44, 3) := by decide +kernel
theorem dX9_searchesAdders_137 : decode cX9_searchesAdders 137 = .ok (.iload_n 3, 1) := by decide +kernel
theorem dX9_searchesAdders_138 : decode cX9_searchesAdders 138 = .ok (.iload 6, 2) := by decide +kernel
theorem dX9_searchesAdders_140 : decode cX9_searchesAdders 140 = .ok (.ishr, 1) := by decide +kernel
theorem dX9_searchesAdders_141 : decode cX9_searchesAdders 141 = .ok (.iconst 1, 1) := by decide +kernel
theorem dX9_searchesAdders_142 : decode cX9_searchesAdders 142 = .ok (.iand, 1) := by decide +kernel
theorem dX9_searchesAdders_143 : decode cX9_searchesAdders 143 = .ok (.ifCond .ne 35, 3) := by decide +kernel
theorem dX9_searchesAdders_146 : decode cX9_searchesAdders 146 = .ok (.aload_n 0, 1) := by decide +kernel
theorem dX9_searchesAdders_147 : decode cX9_searchesAdders 147 = .ok (.getfield 35, 3) := by decide +kernel
theorem dX9_searchesAdders_150 : decode cX9_searchesAdders 150 = .ok (.iload_n 1, 1) := by decide +kernel
theorem dX9_searchesAdders_151 : decode cX9_searchesAdders 151 = .ok (.iload 4, 2) := by decide +kernel
theorem dX9_searchesAdders_153 : decode cX9_searchesAdders 153 = .ok (.iastore, 1) := by decide +kernel
theorem dX9_searchesAdders_154 : decode cX9_searchesAdders 154 = .ok (.aload_n 0, 1) := by decide +kernel
theorem dX9_searchesAdders_155 : decode cX9_searchesAdders 155 = .ok (.iload_n 1, 1) := by decide +kernel
theorem dX9_searchesAdders_156 : decode cX9_searchesAdders 156 = .ok (.iconst 1, 1) := by decide +kernel
theorem dX9_searchesAdders_157 : decode cX9_searchesAdders 157 = .ok (.iadd, 1) := by decide +kernel
theorem dX9_searchesAdders_158 : decode cX9_searchesAdders 158 = .ok (.iload_n 2, 1) := by decide +kernel
theorem dX9_searchesAdders_159 : decode cX9_searchesAdders 159 = .ok (.iconst 1, 1) := by decide +kernel
theorem dX9_searchesAdders_160 : decode cX9_searchesAdders 160 = .ok (.iload 4, 2) := by decide +kernel
theorem dX9_searchesAdders_162 : decode cX9_searchesAdders 162 = .ok (.ishl, 1) := by decide +kernel
theorem dX9_searchesAdders_163 : decode cX9_searchesAdders 163 = .ok (.ior, 1) := by decide +kernel
theorem dX9_searchesAdders_164 : decode cX9_searchesAdders 164 = .ok (.iload_n 3, 1) := by decide +kernel
theorem dX9_searchesAdders_165 : decode cX9_searchesAdders 165 = .ok (.iconst 1, 1) := by decide +kernel
theorem dX9_searchesAdders_166 : decode cX9_searchesAdders 166 = .ok (.iload 5, 2) := by decide +kernel
theorem dX9_searchesAdders_168 : decode cX9_searchesAdders 168 = .ok (.ishl, 1) := by decide +kernel
theorem dX9_searchesAdders_169 : decode cX9_searchesAdders 169 = .ok (.ior, 1) := by decide +kernel
theorem dX9_searchesAdders_170 : decode cX9_searchesAdders 170 = .ok (.iconst 1, 1) := by decide +kernel
theorem dX9_searchesAdders_171 : decode cX9_searchesAdders 171 = .ok (.iload 6, 2) := by decide +kernel
theorem dX9_searchesAdders_173 : decode cX9_searchesAdders 173 = .ok (.ishl, 1) := by decide +kernel
theorem dX9_searchesAdders_174 : decode cX9_searchesAdders 174 = .ok (.ior, 1) := by decide +kernel
theorem dX9_searchesAdders_175 : decode cX9_searchesAdders 175 = .ok (.invokevirtual 176, 3) := by decide +kernel
theorem dX9_searchesAdders_178 : decode cX9_searchesAdders 178 = .ok (.iinc 4 1, 3) := by decide +kernel
theorem dX9_searchesAdders_181 : decode cX9_searchesAdders 181 = .ok (.goto (-119), 3) := by decide +kernel
theorem dX9_searchesAdders_184 : decode cX9_searchesAdders 184 = .ok (.return_, 1) := by decide +kernel
theorem dX9_findsAdders_0 : decode cX9_findsAdders 0 = .ok (.aload_n 0, 1) := by decide +kernel
theorem dX9_findsAdders_1 : decode cX9_findsAdders 1 = .ok (.iconst 0, 1) := by decide +kernel
theorem dX9_findsAdders_2 : decode cX9_findsAdders 2 = .ok (.putfield 161, 3) := by decide +kernel
theorem dX9_findsAdders_5 : decode cX9_findsAdders 5 = .ok (.aload_n 0, 1) := by decide +kernel
theorem dX9_findsAdders_6 : decode cX9_findsAdders 6 = .ok (.iload_n 1, 1) := by decide +kernel
theorem dX9_findsAdders_7 : decode cX9_findsAdders 7 = .ok (.putfield 164, 3) := by decide +kernel
theorem dX9_findsAdders_10 : decode cX9_findsAdders 10 = .ok (.aload_n 0, 1) := by decide +kernel
theorem dX9_findsAdders_11 : decode cX9_findsAdders 11 = .ok (.iconst 0, 1) := by decide +kernel
theorem dX9_findsAdders_12 : decode cX9_findsAdders 12 = .ok (.iconst 0, 1) := by decide +kernel
theorem dX9_findsAdders_13 : decode cX9_findsAdders 13 = .ok (.iconst 0, 1) := by decide +kernel
theorem dX9_findsAdders_14 : decode cX9_findsAdders 14 = .ok (.invokevirtual 176, 3) := by decide +kernel
theorem dX9_findsAdders_17 : decode cX9_findsAdders 17 = .ok (.return_, 1) := by decide +kernel
theorem dX9_starters_0 : decode cX9_starters 0 = .ok (.iload_n 1, 1) := by decide +kernel
theorem dX9_starters_1 : decode cX9_starters 1 = .ok (.iconst (-1), 1) := by decide +kernel
theorem dX9_starters_2 : decode cX9_starters 2 = .ok (.if_icmp .ge 10, 3) := by decide +kernel
theorem dX9_starters_5 : decode cX9_starters 5 = .ok (.aload_n 0, 1) := by decide +kernel
theorem dX9_starters_6 : decode cX9_starters 6 = .ok (.bipush (-4), 2) := by decide +kernel
theorem dX9_starters_8 : decode cX9_starters 8 = .ok (.invokevirtual 90, 3) := by decide +kernel
theorem dX9_starters_11 : decode cX9_starters 11 = .ok (.ireturn, 1) := by decide +kernel
theorem dX9_starters_12 : decode cX9_starters 12 = .ok (.aload_n 0, 1) := by decide +kernel
theorem dX9_starters_13 : decode cX9_starters 13 = .ok (.getfield 7, 3) := by decide +kernel
theorem dX9_starters_16 : decode cX9_starters 16 = .ok (.bipush 11, 2) := by decide +kernel
theorem dX9_starters_18 : decode cX9_starters 18 = .ok (.if_icmp .le 10, 3) := by decide +kernel
theorem dX9_starters_21 : decode cX9_starters 21 = .ok (.aload_n 0, 1) := by decide +kernel
theorem dX9_starters_22 : decode cX9_starters 22 = .ok (.bipush (-3), 2) := by decide +kernel
theorem dX9_starters_24 : decode cX9_starters 24 = .ok (.invokevirtual 90, 3) := by decide +kernel
theorem dX9_starters_27 : decode cX9_starters 27 = .ok (.ireturn, 1) := by decide +kernel
theorem dX9_starters_28 : decode cX9_starters 28 = .ok (.iload_n 1, 1) := by decide +kernel
theorem dX9_starters_29 : decode cX9_starters 29 = .ok (.ifCond .lt 25, 3) := by decide +kernel
theorem dX9_starters_32 : decode cX9_starters 32 = .ok (.iload_n 2, 1) := by decide +kernel
theorem dX9_starters_33 : decode cX9_starters 33 = .ok (.i2l, 1) := by decide +kernel
theorem dX9_starters_34 : decode cX9_starters 34 = .ok (.lconst 0, 1) := by decide +kernel
theorem dX9_starters_35 : decode cX9_starters 35 = .ok (.aload_n 0, 1) := by decide +kernel
theorem dX9_starters_36 : decode cX9_starters 36 = .ok (.invokevirtual 113, 3) := by decide +kernel
theorem dX9_starters_39 : decode cX9_starters 39 = .ok (.iconst 1, 1) := by decide +kernel
theorem dX9_starters_40 : decode cX9_starters 40 = .ok (.isub, 1) := by decide +kernel
theorem dX9_starters_41 : decode cX9_starters 41 = .ok (.i2l, 1) := by decide +kernel
theorem dX9_starters_42 : decode cX9_starters 42 = .ok (.invokestatic 98, 3) := by decide +kernel
theorem dX9_starters_45 : decode cX9_starters 45 = .ok (.ifCond .ne 9, 3) := by decide +kernel
theorem dX9_starters_48 : decode cX9_starters 48 = .ok (.aload_n 0, 1) := by decide +kernel
theorem dX9_starters_49 : decode cX9_starters 49 = .ok (.iconst (-1), 1) := by decide +kernel
theorem dX9_starters_50 : decode cX9_starters 50 = .ok (.invokevirtual 90, 3) := by decide +kernel
theorem dX9_starters_53 : decode cX9_starters 53 = .ok (.ireturn, 1) := by decide +kernel
theorem dX9_starters_54 : decode cX9_starters 54 = .ok (.aload_n 0, 1) := by decide +kernel
theorem dX9_starters_55 : decode cX9_starters 55 = .ok (.iload_n 1, 1) := by decide +kernel
theorem dX9_starters_56 : decode cX9_starters 56 = .ok (.invokevirtual 179, 3) := by decide +kernel
theorem dX9_starters_59 : decode cX9_starters 59 = .ok (.iload_n 1, 1) := by decide +kernel
theorem dX9_starters_60 : decode cX9_starters 60 = .ok (.iconst (-1), 1) := by decide +kernel
theorem dX9_starters_61 : decode cX9_starters 61 = .ok (.if_icmp .ne 10, 3) := by decide +kernel
theorem dX9_starters_64 : decode cX9_starters 64 = .ok (.aload_n 0, 1) := by decide +kernel
theorem dX9_starters_65 : decode cX9_starters 65 = .ok (.getfield 161, 3) := by decide +kernel
theorem dX9_starters_68 : decode cX9_starters 68 = .ok (.goto 22, 3) := by decide +kernel
theorem dX9_starters_71 : decode cX9_starters 71 = .ok (.iload_n 1, 1) := by decide +kernel
theorem dX9_starters_72 : decode cX9_starters 72 = .ok (.aload_n 0, 1) := by decide +kernel
theorem dX9_starters_73 : decode cX9_starters 73 = .ok (.getfield 161, 3) := by decide +kernel
theorem dX9_starters_76 : decode cX9_starters 76 = .ok (.if_icmp .ge 12, 3) := by decide +kernel
theorem dX9_starters_79 : decode cX9_starters 79 = .ok (.aload_n 0, 1) := by decide +kernel
theorem dX9_starters_80 : decode cX9_starters 80 = .ok (.getfield 38, 3) := by decide +kernel
theorem dX9_starters_83 : decode cX9_starters 83 = .ok (.iload_n 2, 1) := by decide +kernel
theorem dX9_starters_84 : decode cX9_starters 84 = .ok (.iaload, 1) := by decide +kernel
theorem dX9_starters_85 : decode cX9_starters 85 = .ok (.goto 5, 3) := by decide +kernel
theorem dX9_starters_88 : decode cX9_starters 88 = .ok (.bipush (-9), 2) := by decide +kernel
theorem dX9_starters_90 : decode cX9_starters 90 = .ok (.ireturn, 1) := by decide +kernel
theorem dX9_strong_0 : decode cX9_strong 0 = .ok (.iload_n 1, 1) := by decide +kernel
theorem dX9_strong_1 : decode cX9_strong 1 = .ok (.i2l, 1) := by decide +kernel
theorem dX9_strong_2 : decode cX9_strong 2 = .ok (.lconst 0, 1) := by decide +kernel
theorem dX9_strong_3 : decode cX9_strong 3 = .ok (.lconst 1, 1) := by decide +kernel
theorem dX9_strong_4 : decode cX9_strong 4 = .ok (.invokestatic 98, 3) := by decide +kernel
theorem dX9_strong_7 : decode cX9_strong 7 = .ok (.ifCond .ne 10, 3) := by decide +kernel
theorem dX9_strong_10 : decode cX9_strong 10 = .ok (.aload_n 0, 1) := by decide +kernel
theorem dX9_strong_11 : decode cX9_strong 11 = .ok (.bipush (-2), 2) := by decide +kernel
theorem dX9_strong_13 : decode cX9_strong 13 = .ok (.invokevirtual 90, 3) := by decide +kernel
theorem dX9_strong_16 : decode cX9_strong 16 = .ok (.ireturn, 1) := by decide +kernel
theorem dX9_strong_17 : decode cX9_strong 17 = .ok (.aload_n 0, 1) := by decide +kernel
theorem dX9_strong_18 : decode cX9_strong 18 = .ok (.getfield 7, 3) := by decide +kernel
theorem dX9_strong_21 : decode cX9_strong 21 = .ok (.bipush 11, 2) := by decide +kernel
theorem dX9_strong_23 : decode cX9_strong 23 = .ok (.if_icmp .le 10, 3) := by decide +kernel
theorem dX9_strong_26 : decode cX9_strong 26 = .ok (.aload_n 0, 1) := by decide +kernel
theorem dX9_strong_27 : decode cX9_strong 27 = .ok (.bipush (-3), 2) := by decide +kernel
theorem dX9_strong_29 : decode cX9_strong 29 = .ok (.invokevirtual 90, 3) := by decide +kernel
theorem dX9_strong_32 : decode cX9_strong 32 = .ok (.ireturn, 1) := by decide +kernel
theorem dX9_strong_33 : decode cX9_strong 33 = .ok (.aload_n 0, 1) := by decide +kernel
theorem dX9_strong_34 : decode cX9_strong 34 = .ok (.iconst (-1), 1) := by decide +kernel
theorem dX9_strong_35 : decode cX9_strong 35 = .ok (.invokevirtual 179, 3) := by decide +kernel
theorem dX9_strong_38 : decode cX9_strong 38 = .ok (.iload_n 1, 1) := by decide +kernel
theorem dX9_strong_39 : decode cX9_strong 39 = .ok (.ifCond .ne 10, 3) := by decide +kernel
theorem dX9_strong_42 : decode cX9_strong 42 = .ok (.aload_n 0, 1) := by decide +kernel
theorem dX9_strong_43 : decode cX9_strong 43 = .ok (.getfield 167, 3) := by decide +kernel
theorem dX9_strong_46 : decode cX9_strong 46 = .ok (.goto 7, 3) := by decide +kernel
theorem dX9_strong_49 : decode cX9_strong 49 = .ok (.aload_n 0, 1) := by decide +kernel
theorem dX9_strong_50 : decode cX9_strong 50 = .ok (.getfield 170, 3) := by decide +kernel
theorem dX9_strong_53 : decode cX9_strong 53 = .ok (.ireturn, 1) := by decide +kernel
theorem dX9_adders_0 : decode cX9_adders 0 = .ok (.iload_n 1, 1) := by decide +kernel
theorem dX9_adders_1 : decode cX9_adders 1 = .ok (.iconst (-1), 1) := by decide +kernel
theorem dX9_adders_2 : decode cX9_adders 2 = .ok (.if_icmp .ge 10, 3) := by decide +kernel
theorem dX9_adders_5 : decode cX9_adders 5 = .ok (.aload_n 0, 1) := by decide +kernel
theorem dX9_adders_6 : decode cX9_adders 6 = .ok (.bipush (-4), 2) := by decide +kernel
theorem dX9_adders_8 : decode cX9_adders 8 = .ok (.invokevirtual 90, 3) := by decide +kernel
theorem dX9_adders_11 : decode cX9_adders 11 = .ok (.ireturn, 1) := by decide +kernel
theorem dX9_adders_12 : decode cX9_adders 12 = .ok (.aload_n 0, 1) := by decide +kernel
theorem dX9_adders_13 : decode cX9_adders 13 = .ok (.getfield 7, 3) := by decide +kernel
theorem dX9_adders_16 : decode cX9_adders 16 = .ok (.bipush 11, 2) := by decide +kernel
theorem dX9_adders_18 : decode cX9_adders 18 = .ok (.if_icmp .gt 10, 3) := by decide +kernel
theorem dX9_adders_21 : decode cX9_adders 21 = .ok (.aload_n 0, 1) := by decide +kernel
theorem dX9_adders_22 : decode cX9_adders 22 = .ok (.invokevirtual 145, 3) := by decide +kernel
theorem dX9_adders_25 : decode cX9_adders 25 = .ok (.ifCond .ne 10, 3) := by decide +kernel
theorem dX9_adders_28 : decode cX9_adders 28 = .ok (.aload_n 0, 1) := by decide +kernel
theorem dX9_adders_29 : decode cX9_adders 29 = .ok (.bipush (-3), 2) := by decide +kernel
theorem dX9_adders_31 : decode cX9_adders 31 = .ok (.invokevirtual 90, 3) := by decide +kernel
theorem dX9_adders_34 : decode cX9_adders 34 = .ok (.ireturn, 1) := by decide +kernel
theorem dX9_adders_35 : decode cX9_adders 35 = .ok (.iload_n 1, 1) := by decide +kernel
theorem dX9_adders_36 : decode cX9_adders 36 = .ok (.ifCond .lt 17, 3) := by decide +kernel
theorem dX9_adders_39 : decode cX9_adders 39 = .ok (.aload_n 0, 1) := by decide +kernel
theorem dX9_adders_40 : decode cX9_adders 40 = .ok (.iload_n 2, 1) := by decide +kernel
theorem dX9_adders_41 : decode cX9_adders 41 = .ok (.invokevirtual 121, 3) := by decide +kernel
theorem dX9_adders_44 : decode cX9_adders 44 = .ok (.ifCond .ne 9, 3) := by decide +kernel
theorem dX9_adders_47 : decode cX9_adders 47 = .ok (.aload_n 0, 1) := by decide +kernel
theorem dX9_adders_48 : decode cX9_adders 48 = .ok (.iconst (-1), 1) := by decide +kernel
theorem dX9_adders_49 : decode cX9_adders 49 = .ok (.invokevirtual 90, 3) := by decide +kernel
theorem dX9_adders_52 : decode cX9_adders 52 = .ok (.ireturn, 1) := by decide +kernel
theorem dX9_adders_53 : decode cX9_adders 53 = .ok (.aload_n 0, 1) := by decide +kernel
theorem dX9_adders_54 : decode cX9_adders 54 = .ok (.iload_n 1, 1) := by decide +kernel
theorem dX9_adders_55 : decode cX9_adders 55 = .ok (.invokevirtual 182, 3) := by decide +kernel
theorem dX9_adders_58 : decode cX9_adders 58 = .ok (.iload_n 1, 1) := by decide +kernel
theorem dX9_adders_59 : decode cX9_adders 59 = .ok (.iconst (-1), 1) := by decide +kernel
theorem dX9_adders_60 : decode cX9_adders 60 = .ok (.if_icmp .ne 10, 3) := by decide +kernel
theorem dX9_adders_63 : decode cX9_adders 63 = .ok (.aload_n 0, 1) := by decide +kernel
theorem dX9_adders_64 : decode cX9_adders 64 = .ok (.getfield 161, 3) := by decide +kernel
theorem dX9_adders_67 : decode cX9_adders 67 = .ok (.goto 22, 3) := by decide +kernel
theorem dX9_adders_70 : decode cX9_adders 70 = .ok (.iload_n 1, 1) := by decide +kernel
theorem dX9_adders_71 : decode cX9_adders 71 = .ok (.aload_n 0, 1) := by decide +kernel
theorem dX9_adders_72 : decode cX9_adders 72 = .ok (.getfield 161, 3) := by decide +kernel
theorem dX9_adders_75 : decode cX9_adders 75 = .ok (.if_icmp .ge 12, 3) := by decide +kernel
theorem dX9_adders_78 : decode cX9_adders 78 = .ok (.aload_n 0, 1) := by decide +kernel
theorem dX9_adders_79 : decode cX9_adders 79 = .ok (.getfield 38, 3) := by decide +kernel
theorem dX9_adders_82 : decode cX9_adders 82 = .ok (.iload_n 2, 1) := by decide +kernel
theorem dX9_adders_83 : decode cX9_adders 83 = .ok (.iaload, 1) := by decide +kernel
theorem dX9_adders_84 : decode cX9_adders 84 = .ok (.goto 5, 3) := by decide +kernel
theorem dX9_adders_87 : decode cX9_adders 87 = .ok (.bipush (-9), 2) := by decide +kernel
theorem dX9_adders_89 : decode cX9_adders 89 = .ok (.ireturn, 1) := by decide +kernel
theorem dX9_lowest_0 : decode cX9_lowest 0 = .ok (.lload_n 0, 1) := by decide +kernel
theorem dX9_lowest_1 : decode cX9_lowest 1 = .ok (.lstore 5, 2) := by decide +kernel
theorem dX9_lowest_3 : decode cX9_lowest 3 = .ok (.lload_n 2, 1) := by decide +kernel
theorem dX9_lowest_4 : decode cX9_lowest 4 = .ok (.lstore 7, 2) := by decide +kernel
theorem dX9_lowest_6 : decode cX9_lowest 6 = .ok (.lload 7, 2) := by decide +kernel
theorem dX9_lowest_8 : decode cX9_lowest 8 = .ok (.lconst 0, 1) := by decide +kernel
theorem dX9_lowest_9 : decode cX9_lowest 9 = .ok (.lcmp, 1) := by decide +kernel
theorem dX9_lowest_10 : decode cX9_lowest 10 = .ok (.ifCond .eq 21, 3) := by decide +kernel
theorem dX9_lowest_13 : decode cX9_lowest 13 = .ok (.lload 5, 2) := by decide +kernel
theorem dX9_lowest_15 : decode cX9_lowest 15 = .ok (.lload 7, 2) := by decide +kernel
theorem dX9_lowest_17 : decode cX9_lowest 17 = .ok (.lrem, 1) := by decide +kernel
theorem dX9_lowest_18 : decode cX9_lowest 18 = .ok (.lstore 9, 2) := by decide +kernel
theorem dX9_lowest_20 : decode cX9_lowest 20 = .ok (.lload 7, 2) := by decide +kernel
theorem dX9_lowest_22 : decode cX9_lowest 22 = .ok (.lstore 5, 2) := by decide +kernel
theorem dX9_lowest_24 : decode cX9_lowest 24 = .ok (.lload 9, 2) := by decide +kernel
theorem dX9_lowest_26 : decode cX9_lowest 26 = .ok (.lstore 7, 2) := by decide +kernel
theorem dX9_lowest_28 : decode cX9_lowest 28 = .ok (.goto (-22), 3) := by decide +kernel
theorem dX9_lowest_31 : decode cX9_lowest 31 = .ok (.iload 4, 2) := by decide +kernel
theorem dX9_lowest_33 : decode cX9_lowest 33 = .ok (.ifCond .ne 7, 3) := by decide +kernel
theorem dX9_lowest_36 : decode cX9_lowest 36 = .ok (.lload_n 0, 1) := by decide +kernel
theorem dX9_lowest_37 : decode cX9_lowest 37 = .ok (.goto 4, 3) := by decide +kernel
theorem dX9_lowest_40 : decode cX9_lowest 40 = .ok (.lload_n 2, 1) := by decide +kernel
theorem dX9_lowest_41 : decode cX9_lowest 41 = .ok (.lload 5, 2) := by decide +kernel
theorem dX9_lowest_43 : decode cX9_lowest 43 = .ok (.ldiv, 1) := by decide +kernel
theorem dX9_lowest_44 : decode cX9_lowest 44 = .ok (.lreturn, 1) := by decide +kernel
theorem dX9_odds_0 : decode cX9_odds 0 = .ok (.iload_n 1, 1) := by decide +kernel
theorem dX9_odds_1 : decode cX9_odds 1 = .ok (.i2l, 1) := by decide +kernel
theorem dX9_odds_2 : decode cX9_odds 2 = .ok (.lconst 0, 1) := by decide +kernel
theorem dX9_odds_3 : decode cX9_odds 3 = .ok (.lconst 1, 1) := by decide +kernel
theorem dX9_odds_4 : decode cX9_odds 4 = .ok (.invokestatic 98, 3) := by decide +kernel
theorem dX9_odds_7 : decode cX9_odds 7 = .ok (.ifCond .ne 15, 3) := by decide +kernel
theorem dX9_odds_10 : decode cX9_odds 10 = .ok (.ldc2_w 185, 3) := by decide +kernel
theorem dX9_odds_13 : decode cX9_odds 13 = .ok (.aload_n 0, 1) := by decide +kernel
theorem dX9_odds_14 : decode cX9_odds 14 = .ok (.bipush (-2), 2) := by decide +kernel
theorem dX9_odds_16 : decode cX9_odds 16 = .ok (.invokevirtual 90, 3) := by decide +kernel
theorem dX9_odds_19 : decode cX9_odds 19 = .ok (.i2l, 1) := by decide +kernel
theorem dX9_odds_20 : decode cX9_odds 20 = .ok (.lsub, 1) := by decide +kernel
theorem dX9_odds_21 : decode cX9_odds 21 = .ok (.lreturn, 1) := by decide +kernel
theorem dX9_odds_22 : decode cX9_odds 22 = .ok (.aload_n 0, 1) := by decide +kernel
theorem dX9_odds_23 : decode cX9_odds 23 = .ok (.getfield 7, 3) := by decide +kernel
theorem dX9_odds_26 : decode cX9_odds 26 = .ok (.bipush 11, 2) := by decide +kernel
theorem dX9_odds_28 : decode cX9_odds 28 = .ok (.if_icmp .le 15, 3) := by decide +kernel
theorem dX9_odds_31 : decode cX9_odds 31 = .ok (.ldc2_w 185, 3) := by decide +kernel
theorem dX9_odds_34 : decode cX9_odds 34 = .ok (.aload_n 0, 1) := by decide +kernel
theorem dX9_odds_35 : decode cX9_odds 35 = .ok (.bipush (-3), 2) := by decide +kernel
theorem dX9_odds_37 : decode cX9_odds 37 = .ok (.invokevirtual 90, 3) := by decide +kernel
theorem dX9_odds_40 : decode cX9_odds 40 = .ok (.i2l, 1) := by decide +kernel
theorem dX9_odds_41 : decode cX9_odds 41 = .ok (.lsub, 1) := by decide +kernel
theorem dX9_odds_42 : decode cX9_odds 42 = .ok (.lreturn, 1) := by decide +kernel
theorem dX9_odds_43 : decode cX9_odds 43 = .ok (.aload_n 0, 1) := by decide +kernel
theorem dX9_odds_44 : decode cX9_odds 44 = .ok (.iconst (-1), 1) := by decide +kernel
theorem dX9_odds_45 : decode cX9_odds 45 = .ok (.invokevirtual 179, 3) := by decide +kernel
theorem dX9_odds_48 : decode cX9_odds 48 = .ok (.aload_n 0, 1) := by decide +kernel
theorem dX9_odds_49 : decode cX9_odds 49 = .ok (.getfield 161, 3) := by decide +kernel
theorem dX9_odds_52 : decode cX9_odds 52 = .ok (.ifCond .ne 8, 3) := by decide +kernel
theorem dX9_odds_55 : decode cX9_odds 55 = .ok (.iload_n 1, 1) := by decide +kernel
theorem dX9_odds_56 : decode cX9_odds 56 = .ok (.i2l, 1) := by decide +kernel
theorem dX9_odds_57 : decode cX9_odds 57 = .ok (.goto 17, 3) := by decide +kernel
theorem dX9_odds_60 : decode cX9_odds 60 = .ok (.aload_n 0, 1) := by decide +kernel
theorem dX9_odds_61 : decode cX9_odds 61 = .ok (.getfield 167, 3) := by decide +kernel
theorem dX9_odds_64 : decode cX9_odds 64 = .ok (.i2l, 1) := by decide +kernel
theorem dX9_odds_65 : decode cX9_odds 65 = .ok (.aload_n 0, 1) := by decide +kernel
theorem dX9_odds_66 : decode cX9_odds 66 = .ok (.getfield 161, 3) := by decide +kernel
theorem dX9_odds_69 : decode cX9_odds 69 = .ok (.i2l, 1) := by decide +kernel
theorem dX9_odds_70 : decode cX9_odds 70 = .ok (.iload_n 1, 1) := by decide +kernel
theorem dX9_odds_71 : decode cX9_odds 71 = .ok (.invokestatic 187, 3) := by decide +kernel
theorem dX9_odds_74 : decode cX9_odds 74 = .ok (.lreturn, 1) := by decide +kernel
theorem dX9_book_0 : decode cX9_book 0 = .ok (.aload_n 0, 1) := by decide +kernel
theorem dX9_book_1 : decode cX9_book 1 = .ok (.getfield 7, 3) := by decide +kernel
theorem dX9_book_4 : decode cX9_book 4 = .ok (.bipush 11, 2) := by decide +kernel
theorem dX9_book_6 : decode cX9_book 6 = .ok (.if_icmp .le 10, 3) := by decide +kernel
theorem dX9_book_9 : decode cX9_book 9 = .ok (.aload_n 0, 1) := by decide +kernel
theorem dX9_book_10 : decode cX9_book 10 = .ok (.bipush (-6), 2) := by decide +kernel
theorem dX9_book_12 : decode cX9_book 12 = .ok (.invokevirtual 90, 3) := by decide +kernel
theorem dX9_book_15 : decode cX9_book 15 = .ok (.ireturn, 1) := by decide +kernel
theorem dX9_book_16 : decode cX9_book 16 = .ok (.aload_n 0, 1) := by decide +kernel
theorem dX9_book_17 : decode cX9_book 17 = .ok (.iconst 0, 1) := by decide +kernel
theorem dX9_book_18 : decode cX9_book 18 = .ok (.putfield 87, 3) := by decide +kernel
theorem dX9_book_21 : decode cX9_book 21 = .ok (.iconst 1, 1) := by decide +kernel
theorem dX9_book_22 : decode cX9_book 22 = .ok (.istore_n 1, 1) := by decide +kernel
theorem dX9_book_23 : decode cX9_book 23 = .ok (.iload_n 1, 1) := by decide +kernel
theorem dX9_book_24 : decode cX9_book 24 = .ok (.aload_n 0, 1) := by decide +kernel
theorem dX9_book_25 : decode cX9_book 25 = .ok (.invokevirtual 113, 3) := by decide +kernel
theorem dX9_book_28 : decode cX9_book 28 = .ok (.if_icmp .gt 21, 3) := by decide +kernel
theorem dX9_book_31 : decode cX9_book 31 = .ok (.aload_n 0, 1) := by decide +kernel
theorem dX9_book_32 : decode cX9_book 32 = .ok (.iload_n 1, 1) := by decide +kernel
theorem dX9_book_33 : decode cX9_book 33 = .ok (.aload_n 0, 1) := by decide +kernel
theorem dX9_book_34 : decode cX9_book 34 = .ok (.getfield 7, 3) := by decide +kernel
theorem dX9_book_37 : decode cX9_book 37 = .ok (.iload_n 1, 1) := by decide +kernel
theorem dX9_book_38 : decode cX9_book 38 = .ok (.isub, 1) := by decide +kernel
theorem dX9_book_39 : decode cX9_book 39 = .ok (.iconst 0, 1) := by decide +kernel
theorem dX9_book_40 : decode cX9_book 40 = .ok (.invokevirtual 117, 3) := by decide +kernel
theorem dX9_book_43 : decode cX9_book 43 = .ok (.iinc 1 1, 3) := by decide +kernel
theorem dX9_book_46 : decode cX9_book 46 = .ok (.goto (-23), 3) := by decide +kernel
theorem dX9_book_49 : decode cX9_book 49 = .ok (.aload_n 0, 1) := by decide +kernel
theorem dX9_book_50 : decode cX9_book 50 = .ok (.iconst 0, 1) := by decide +kernel
theorem dX9_book_51 : decode cX9_book 51 = .ok (.putfield 80, 3) := by decide +kernel
theorem dX9_book_54 : decode cX9_book 54 = .ok (.aload_n 0, 1) := by decide +kernel
theorem dX9_book_55 : decode cX9_book 55 = .ok (.iconst 0, 1) := by decide +kernel
theorem dX9_book_56 : decode cX9_book 56 = .ok (.invokevirtual 182, 3) := by decide +kernel
theorem dX9_book_59 : decode cX9_book 59 = .ok (.iconst 0, 1) := by decide +kernel
theorem dX9_book_60 : decode cX9_book 60 = .ok (.istore_n 1, 1) := by decide +kernel
theorem dX9_book_61 : decode cX9_book 61 = .ok (.iload_n 1, 1) := by decide +kernel
theorem dX9_book_62 : decode cX9_book 62 = .ok (.aload_n 0, 1) := by decide +kernel
theorem dX9_book_63 : decode cX9_book 63 = .ok (.getfield 87, 3) := by decide +kernel
theorem dX9_book_66 : decode cX9_book 66 = .ok (.if_icmp .ge 32, 3) := by decide +kernel
theorem dX9_book_69 : decode cX9_book 69 = .ok (.aload_n 0, 1) := by decide +kernel
theorem dX9_book_70 : decode cX9_book 70 = .ok (.getfield 161, 3) := by decide +kernel
theorem dX9_book_73 : decode cX9_book 73 = .ok (.ifCond .le 25, 3) := by decide +kernel
theorem dX9_book_76 : decode cX9_book 76 = .ok (.aload_n 0, 1) := by decide +kernel
theorem dX9_book_77 : decode cX9_book 77 = .ok (.getfield 13, 3) := by decide +kernel
theorem dX9_book_80 : decode cX9_book 80 = .ok (.iconst 3, 1) := by decide +kernel
theorem dX9_book_81 : decode cX9_book 81 = .ok (.iload_n 1, 1) := by decide +kernel
theorem dX9_book_82 : decode cX9_book 82 = .ok (.imul, 1) := by decide +kernel
theorem dX9_book_83 : decode cX9_book 83 = .ok (.iconst 2, 1) := by decide +kernel
theorem dX9_book_84 : decode cX9_book 84 = .ok (.iadd, 1) := by decide +kernel
theorem dX9_book_85 : decode cX9_book 85 = .ok (.aload_n 0, 1) := by decide +kernel
theorem dX9_book_86 : decode cX9_book 86 = .ok (.getfield 38, 3) := by decide +kernel
theorem dX9_book_89 : decode cX9_book 89 = .ok (.iload_n 1, 1) := by decide +kernel
theorem dX9_book_90 : decode cX9_book 90 = .ok (.iaload, 1) := by decide +kernel
theorem dX9_book_91 : decode cX9_book 91 = .ok (.iastore, 1) := by decide +kernel
theorem dX9_book_92 : decode cX9_book 92 = .ok (.iinc 1 1, 3) := by decide +kernel
theorem dX9_book_95 : decode cX9_book 95 = .ok (.goto (-34), 3) := by decide +kernel
theorem dX9_book_98 : decode cX9_book 98 = .ok (.aload_n 0, 1) := by decide +kernel
theorem dX9_book_99 : decode cX9_book 99 = .ok (.getfield 87, 3) := by decide +kernel
theorem dX9_book_102 : decode cX9_book 102 = .ok (.ireturn, 1) := by decide +kernel
theorem dX9_shift_0 : decode cX9_shift 0 = .ok (.iconst 0, 1) := by decide +kernel
theorem dX9_shift_1 : decode cX9_shift 1 = .ok (.istore_n 2, 1) := by decide +kernel
theorem dX9_shift_2 : decode cX9_shift 2 = .ok (.iconst 0, 1) := by decide +kernel
theorem dX9_shift_3 : decode cX9_shift 3 = .ok (.istore_n 3, 1) := by decide +kernel
theorem dX9_shift_4 : decode cX9_shift 4 = .ok (.iload_n 3, 1) := by decide +kernel
theorem dX9_shift_5 : decode cX9_shift 5 = .ok (.aload_n 0, 1) := by decide +kernel
theorem dX9_shift_6 : decode cX9_shift 6 = .ok (.getfield 87, 3) := by decide +kernel
theorem dX9_shift_9 : decode cX9_shift 9 = .ok (.if_icmp .ge 91, 3) := by decide +kernel
theorem dX9_shift_12 : decode cX9_shift 12 = .ok (.aload_n 0, 1) := by decide +kernel
theorem dX9_shift_13 : decode cX9_shift 13 = .ok (.aload_n 0, 1) := by decide +kernel
theorem dX9_shift_14 : decode cX9_shift 14 = .ok (.getfield 13, 3) := by decide +kernel
theorem dX9_shift_17 : decode cX9_shift 17 = .ok (.iconst 3, 1) := by decide +kernel
theorem dX9_shift_18 : decode cX9_shift 18 = .ok (.iload_n 3, 1) := by decide +kernel
theorem dX9_shift_19 : decode cX9_shift 19 = .ok (.imul, 1) := by decide +kernel
theorem dX9_shift_20 : decode cX9_shift 20 = .ok (.iaload, 1) := by decide +kernel
theorem dX9_shift_21 : decode cX9_shift 21 = .ok (.aload_n 0, 1) := by decide +kernel
theorem dX9_shift_22 : decode cX9_shift 22 = .ok (.getfield 13, 3) := by decide +kernel
theorem dX9_shift_25 : decode cX9_shift 25 = .ok (.iconst 3, 1) := by decide +kernel
theorem dX9_shift_26 : decode cX9_shift 26 = .ok (.iload_n 3, 1) := by decide +kernel
theorem dX9_shift_27 : decode cX9_shift 27 = .ok (.imul, 1) := by decide +kernel
theorem dX9_shift_28 : decode cX9_shift 28 = .ok (.iconst 1, 1) := by decide +kernel
theorem dX9_shift_29 : decode cX9_shift 29 = .ok (.iadd, 1) := by decide +kernel
theorem dX9_shift_30 : decode cX9_shift 30 = .ok (.iaload, 1) := by decide +kernel
theorem dX9_shift_31 : decode cX9_shift 31 = .ok (.isub, 1) := by decide +kernel
theorem dX9_shift_32 : decode cX9_shift 32 = .ok (.invokevirtual 129, 3) := by decide +kernel
theorem dX9_shift_35 : decode cX9_shift 35 = .ok (.iload_n 1, 1) := by decide +kernel
theorem dX9_shift_36 : decode cX9_shift 36 = .ok (.if_icmp .ne 14, 3) := by decide +kernel
theorem dX9_shift_39 : decode cX9_shift 39 = .ok (.aload_n 0, 1) := by decide +kernel
theorem dX9_shift_40 : decode cX9_shift 40 = .ok (.getfield 13, 3) := by decide +kernel
theorem dX9_shift_43 : decode cX9_shift 43 = .ok (.iconst 3, 1) := by decide +kernel
theorem dX9_shift_44 : decode cX9_shift 44 = .ok (.iload_n 3, 1) := by decide +kernel
theorem dX9_shift_45 : decode cX9_shift 45 = .ok (.imul, 1) := by decide +kernel
theorem dX9_shift_46 : decode cX9_shift 46 = .ok (.iaload, 1) := by decide +kernel
theorem dX9_shift_47 : decode cX9_shift 47 = .ok (.goto 4, 3) := by decide +kernel
theorem dX9_shift_50 : decode cX9_shift 50 = .ok (.iload_n 2, 1) := by decide +kernel
theorem dX9_shift_51 : decode cX9_shift 51 = .ok (.istore_n 2, 1) := by decide +kernel
theorem dX9_shift_52 : decode cX9_shift 52 = .ok (.aload_n 0, 1) := by decide +kernel
theorem dX9_shift_53 : decode cX9_shift 53 = .ok (.aload_n 0, 1) := by decide +kernel
theorem dX9_shift_54 : decode cX9_shift 54 = .ok (.getfield 13, 3) := by decide +kernel
theorem dX9_shift_57 : decode cX9_shift 57 = .ok (.iconst 3, 1) := by decide +kernel
theorem dX9_shift_58 : decode cX9_shift 58 = .ok (.iload_n 3, 1) := by decide +kernel
theorem dX9_shift_59 : decode cX9_shift 59 = .ok (.imul, 1) := by decide +kernel
theorem dX9_shift_60 : decode cX9_shift 60 = .ok (.iconst 1, 1) := by decide +kernel
theorem dX9_shift_61 : decode cX9_shift 61 = .ok (.iadd, 1) := by decide +kernel
theorem dX9_shift_62 : decode cX9_shift 62 = .ok (.iaload, 1) := by decide +kernel
theorem dX9_shift_63 : decode cX9_shift 63 = .ok (.aload_n 0, 1) := by decide +kernel
theorem dX9_shift_64 : decode cX9_shift 64 = .ok (.getfield 13, 3) := by decide +kernel
theorem dX9_shift_67 : decode cX9_shift 67 = .ok (.iconst 3, 1) := by decide +kernel
theorem dX9_shift_68 : decode cX9_shift 68 = .ok (.iload_n 3, 1) := by decide +kernel
theorem dX9_shift_69 : decode cX9_shift 69 = .ok (.imul, 1) := by decide +kernel
theorem dX9_shift_70 : decode cX9_shift 70 = .ok (.iaload, 1) := by decide +kernel
theorem dX9_shift_71 : decode cX9_shift 71 = .ok (.isub, 1) := by decide +kernel
theorem dX9_shift_72 : decode cX9_shift 72 = .ok (.invokevirtual 129, 3) := by decide +kernel
theorem dX9_shift_75 : decode cX9_shift 75 = .ok (.iload_n 1, 1) := by decide +kernel
theorem dX9_shift_76 : decode cX9_shift 76 = .ok (.if_icmp .ne 16, 3) := by decide +kernel
theorem dX9_shift_79 : decode cX9_shift 79 = .ok (.aload_n 0, 1) := by decide +kernel
theorem dX9_shift_80 : decode cX9_shift 80 = .ok (.getfield 13, 3) := by decide +kernel
theorem dX9_shift_83 : decode cX9_shift 83 = .ok (.iconst 3, 1) := by decide +kernel
theorem dX9_shift_84 : decode cX9_shift 84 = .ok (.iload_n 3, 1) := by decide +kernel
theorem dX9_shift_85 : decode cX9_shift 85 = .ok (.imul, 1) := by decide +kernel
theorem dX9_shift_86 : decode cX9_shift 86 = .ok (.iconst 1, 1) := by decide +kernel
theorem dX9_shift_87 : decode cX9_shift 87 = .ok (.iadd, 1) := by decide +kernel
theorem dX9_shift_88 : decode cX9_shift 88 = .ok (.iaload, 1) := by decide +kernel
theorem dX9_shift_89 : decode cX9_shift 89 = .ok (.goto 4, 3) := by decide +kernel
theorem dX9_shift_92 : decode cX9_shift 92 = .ok (.iload_n 2, 1) := by decide +kernel
theorem dX9_shift_93 : decode cX9_shift 93 = .ok (.istore_n 2, 1) := by decide +kernel
theorem dX9_shift_94 : decode cX9_shift 94 = .ok (.iinc 3 1, 3) := by decide +kernel
theorem dX9_shift_97 : decode cX9_shift 97 = .ok (.goto (-93), 3) := by decide +kernel
theorem dX9_shift_100 : decode cX9_shift 100 = .ok (.iconst 1, 1) := by decide +kernel
theorem dX9_shift_101 : decode cX9_shift 101 = .ok (.istore_n 3, 1) := by decide +kernel
theorem dX9_shift_102 : decode cX9_shift 102 = .ok (.iconst 2, 1) := by decide +kernel
theorem dX9_shift_103 : decode cX9_shift 103 = .ok (.iload_n 3, 1) := by decide +kernel
theorem dX9_shift_104 : decode cX9_shift 104 = .ok (.imul, 1) := by decide +kernel
theorem dX9_shift_105 : decode cX9_shift 105 = .ok (.aload_n 0, 1) := by decide +kernel
theorem dX9_shift_106 : decode cX9_shift 106 = .ok (.getfield 7, 3) := by decide +kernel
theorem dX9_shift_109 : decode cX9_shift 109 = .ok (.irem, 1) := by decide +kernel
theorem dX9_shift_110 : decode cX9_shift 110 = .ok (.iload_n 1, 1) := by decide +kernel
theorem dX9_shift_111 : decode cX9_shift 111 = .ok (.if_icmp .eq 9, 3) := by decide +kernel
theorem dX9_shift_114 : decode cX9_shift 114 = .ok (.iinc 3 1, 3) := by decide +kernel
theorem dX9_shift_117 : decode cX9_shift 117 = .ok (.goto (-15), 3) := by decide +kernel
theorem dX9_shift_120 : decode cX9_shift 120 = .ok (.aload_n 0, 1) := by decide +kernel
theorem dX9_shift_121 : decode cX9_shift 121 = .ok (.iload_n 2, 1) := by decide +kernel
theorem dX9_shift_122 : decode cX9_shift 122 = .ok (.iload_n 3, 1) := by decide +kernel
theorem dX9_shift_123 : decode cX9_shift 123 = .ok (.isub, 1) := by decide +kernel
theorem dX9_shift_124 : decode cX9_shift 124 = .ok (.invokevirtual 129, 3) := by decide +kernel
theorem dX9_shift_127 : decode cX9_shift 127 = .ok (.ireturn, 1) := by decide +kernel
theorem dX9_right_0 : decode cX9_right 0 = .ok (.iload_n 1, 1) := by decide +kernel
theorem dX9_right_1 : decode cX9_right 1 = .ok (.i2l, 1) := by decide +kernel
theorem dX9_right_2 : decode cX9_right 2 = .ok (.lconst 0, 1) := by decide +kernel
theorem dX9_right_3 : decode cX9_right 3 = .ok (.aload_n 0, 1) := by decide +kernel
theorem dX9_right_4 : decode cX9_right 4 = .ok (.invokevirtual 113, 3) := by decide +kernel
theorem dX9_right_7 : decode cX9_right 7 = .ok (.i2l, 1) := by decide +kernel
theorem dX9_right_8 : decode cX9_right 8 = .ok (.invokestatic 98, 3) := by decide +kernel
theorem dX9_right_11 : decode cX9_right 11 = .ok (.ifCond .ne 19, 3) := by decide +kernel
theorem dX9_right_14 : decode cX9_right 14 = .ok (.aload_n 0, 1) := by decide +kernel
theorem dX9_right_15 : decode cX9_right 15 = .ok (.iload_n 1, 1) := by decide +kernel
theorem dX9_right_16 : decode cX9_right 16 = .ok (.ifCond .ge 8, 3) := by decide +kernel
theorem dX9_right_19 : decode cX9_right 19 = .ok (.bipush (-4), 2) := by decide +kernel
theorem dX9_right_21 : decode cX9_right 21 = .ok (.goto 5, 3) := by decide +kernel
theorem dX9_right_24 : decode cX9_right 24 = .ok (.bipush (-6), 2) := by decide +kernel
theorem dX9_right_26 : decode cX9_right 26 = .ok (.invokevirtual 90, 3) := by decide +kernel
theorem dX9_right_29 : decode cX9_right 29 = .ok (.ireturn, 1) := by decide +kernel
theorem dX9_right_30 : decode cX9_right 30 = .ok (.aload_n 0, 1) := by decide +kernel
theorem dX9_right_31 : decode cX9_right 31 = .ok (.invokevirtual 145, 3) := by decide +kernel
theorem dX9_right_34 : decode cX9_right 34 = .ok (.ifCond .ne 10, 3) := by decide +kernel
theorem dX9_right_37 : decode cX9_right 37 = .ok (.aload_n 0, 1) := by decide +kernel
theorem dX9_right_38 : decode cX9_right 38 = .ok (.bipush (-3), 2) := by decide +kernel
theorem dX9_right_40 : decode cX9_right 40 = .ok (.invokevirtual 90, 3) := by decide +kernel
theorem dX9_right_43 : decode cX9_right 43 = .ok (.ireturn, 1) := by decide +kernel
theorem dX9_right_44 : decode cX9_right 44 = .ok (.iload_n 1, 1) := by decide +kernel
theorem dX9_right_45 : decode cX9_right 45 = .ok (.ifCond .le 9, 3) := by decide +kernel
theorem dX9_right_48 : decode cX9_right 48 = .ok (.aload_n 0, 1) := by decide +kernel
theorem dX9_right_49 : decode cX9_right 49 = .ok (.iload_n 1, 1) := by decide +kernel
theorem dX9_right_50 : decode cX9_right 50 = .ok (.invokevirtual 191, 3) := by decide +kernel
theorem dX9_right_53 : decode cX9_right 53 = .ok (.ireturn, 1) := by decide +kernel
theorem dX9_right_54 : decode cX9_right 54 = .ok (.iconst 0, 1) := by decide +kernel
theorem dX9_right_55 : decode cX9_right 55 = .ok (.istore_n 2, 1) := by decide +kernel
theorem dX9_right_56 : decode cX9_right 56 = .ok (.iconst 1, 1) := by decide +kernel
theorem dX9_right_57 : decode cX9_right 57 = .ok (.istore_n 3, 1) := by decide +kernel
theorem dX9_right_58 : decode cX9_right 58 = .ok (.iload_n 3, 1) := by decide +kernel
theorem dX9_right_59 : decode cX9_right 59 = .ok (.aload_n 0, 1) := by decide +kernel
theorem dX9_right_60 : decode cX9_right 60 = .ok (.invokevirtual 113, 3) := by decide +kernel
theorem dX9_right_63 : decode cX9_right 63 = .ok (.if_icmp .gt 19, 3) := by decide +kernel
theorem dX9_right_66 : decode cX9_right 66 = .ok (.iload_n 2, 1) := by decide +kernel
theorem dX9_right_67 : decode cX9_right 67 = .ok (.iconst 1, 1) := by decide +kernel
theorem dX9_right_68 : decode cX9_right 68 = .ok (.aload_n 0, 1) := by decide +kernel
theorem dX9_right_69 : decode cX9_right 69 = .ok (.iload_n 3, 1) := by decide +kernel
theorem dX9_right_70 : decode cX9_right 70 = .ok (.invokevirtual 191, 3) := by decide +kernel
theorem dX9_right_73 : decode cX9_right 73 = .ok (.ishl, 1) := by decide +kernel
theorem dX9_right_74 : decode cX9_right 74 = .ok (.ior, 1) := by decide +kernel
theorem dX9_right_75 : decode cX9_right 75 = .ok (.istore_n 2, 1) := by decide +kernel
theorem dX9_right_76 : decode cX9_right 76 = .ok (.iinc 3 1, 3) := by decide +kernel
theorem dX9_right_79 : decode cX9_right 79 = .ok (.goto (-21), 3) := by decide +kernel
theorem dX9_right_82 : decode cX9_right 82 = .ok (.iload_n 2, 1) := by decide +kernel
theorem dX9_right_83 : decode cX9_right 83 = .ok (.invokestatic 149, 3) := by decide +kernel
theorem dX9_right_86 : decode cX9_right 86 = .ok (.aload_n 0, 1) := by decide +kernel
theorem dX9_right_87 : decode cX9_right 87 = .ok (.invokevirtual 113, 3) := by decide +kernel
theorem dX9_right_90 : decode cX9_right 90 = .ok (.if_icmp .ne 13, 3) := by decide +kernel
theorem dX9_right_93 : decode cX9_right 93 = .ok (.iload_n 2, 1) := by decide +kernel
theorem dX9_right_94 : decode cX9_right 94 = .ok (.iconst 1, 1) := by decide +kernel
theorem dX9_right_95 : decode cX9_right 95 = .ok (.iand, 1) := by decide +kernel
theorem dX9_right_96 : decode cX9_right 96 = .ok (.ifCond .ne 7, 3) := by decide +kernel
theorem dX9_right_99 : decode cX9_right 99 = .ok (.iconst 1, 1) := by decide +kernel
theorem dX9_right_100 : decode cX9_right 100 = .ok (.goto 4, 3) := by decide +kernel
theorem dX9_right_103 : decode cX9_right 103 = .ok (.iconst 0, 1) := by decide +kernel
theorem dX9_right_104 : decode cX9_right 104 = .ok (.ireturn, 1) := by decide +kernel
theorem dX9_cellAt_0 : decode cX9_cellAt 0 = .ok (.iconst 2, 1) := by decide +kernel
theorem dX9_cellAt_1 : decode cX9_cellAt 1 = .ok (.bipush 13, 2) := by decide +kernel
theorem dX9_cellAt_3 : decode cX9_cellAt 3 = .ok (.iload_n 1, 1) := by decide +kernel
theorem dX9_cellAt_4 : decode cX9_cellAt 4 = .ok (.imul, 1) := by decide +kernel
theorem dX9_cellAt_5 : decode cX9_cellAt 5 = .ok (.iload_n 2, 1) := by decide +kernel
theorem dX9_cellAt_6 : decode cX9_cellAt 6 = .ok (.iadd, 1) := by decide +kernel
theorem dX9_cellAt_7 : decode cX9_cellAt 7 = .ok (.imul, 1) := by decide +kernel
theorem dX9_cellAt_8 : decode cX9_cellAt 8 = .ok (.ireturn, 1) := by decide +kernel
theorem dX9_fills_0 : decode cX9_fills 0 = .ok (.aload_n 0, 1) := by decide +kernel
theorem dX9_fills_1 : decode cX9_fills 1 = .ok (.getfield 17, 3) := by decide +kernel
theorem dX9_fills_4 : decode cX9_fills 4 = .ok (.iload_n 1, 1) := by decide +kernel
theorem dX9_fills_5 : decode cX9_fills 5 = .ok (.iload_n 2, 1) := by decide +kernel
theorem dX9_fills_6 : decode cX9_fills 6 = .ok (.iload_n 3, 1) := by decide +kernel
theorem dX9_fills_7 : decode cX9_fills 7 = .ok (.if_icmp .ge 7, 3) := by decide +kernel
theorem dX9_fills_10 : decode cX9_fills 10 = .ok (.iload_n 2, 1) := by decide +kernel
theorem dX9_fills_11 : decode cX9_fills 11 = .ok (.goto 4, 3) := by decide +kernel
theorem dX9_fills_14 : decode cX9_fills 14 = .ok (.iload_n 3, 1) := by decide +kernel
theorem dX9_fills_15 : decode cX9_fills 15 = .ok (.iastore, 1) := by decide +kernel
theorem dX9_fills_16 : decode cX9_fills 16 = .ok (.aload_n 0, 1) := by decide +kernel
theorem dX9_fills_17 : decode cX9_fills 17 = .ok (.getfield 17, 3) := by decide +kernel
theorem dX9_fills_20 : decode cX9_fills 20 = .ok (.iload_n 1, 1) := by decide +kernel
theorem dX9_fills_21 : decode cX9_fills 21 = .ok (.iconst 1, 1) := by decide +kernel
theorem dX9_fills_22 : decode cX9_fills 22 = .ok (.iadd, 1) := by decide +kernel
theorem dX9_fills_23 : decode cX9_fills 23 = .ok (.iload_n 2, 1) := by decide +kernel
theorem dX9_fills_24 : decode cX9_fills 24 = .ok (.iload_n 3, 1) := by decide +kernel
theorem dX9_fills_25 : decode cX9_fills 25 = .ok (.if_icmp .ge 7, 3) := by decide +kernel
theorem dX9_fills_28 : decode cX9_fills 28 = .ok (.iload_n 3, 1) := by decide +kernel
theorem dX9_fills_29 : decode cX9_fills 29 = .ok (.goto 4, 3) := by decide +kernel
theorem dX9_fills_32 : decode cX9_fills 32 = .ok (.iload_n 2, 1) := by decide +kernel
theorem dX9_fills_33 : decode cX9_fills 33 = .ok (.iastore, 1) := by decide +kernel
theorem dX9_fills_34 : decode cX9_fills 34 = .ok (.return_, 1) := by decide +kernel
theorem dX9_build_0 : decode cX9_build 0 = .ok (.aload_n 0, 1) := by decide +kernel
theorem dX9_build_1 : decode cX9_build 1 = .ok (.getfield 87, 3) := by decide +kernel
theorem dX9_build_4 : decode cX9_build 4 = .ok (.aload_n 0, 1) := by decide +kernel
theorem dX9_build_5 : decode cX9_build 5 = .ok (.invokevirtual 113, 3) := by decide +kernel
theorem dX9_build_8 : decode cX9_build 8 = .ok (.if_icmp .ge 10, 3) := by decide +kernel
theorem dX9_build_11 : decode cX9_build 11 = .ok (.aload_n 0, 1) := by decide +kernel
theorem dX9_build_12 : decode cX9_build 12 = .ok (.bipush (-3), 2) := by decide +kernel
theorem dX9_build_14 : decode cX9_build 14 = .ok (.invokevirtual 90, 3) := by decide +kernel
theorem dX9_build_17 : decode cX9_build 17 = .ok (.ireturn, 1) := by decide +kernel
theorem dX9_build_18 : decode cX9_build 18 = .ok (.aload_n 0, 1) := by decide +kernel
theorem dX9_build_19 : decode cX9_build 19 = .ok (.invokevirtual 77, 3) := by decide +kernel
theorem dX9_build_22 : decode cX9_build 22 = .ok (.aload_n 0, 1) := by decide +kernel
theorem dX9_build_23 : decode cX9_build 23 = .ok (.iconst 0, 1) := by decide +kernel
theorem dX9_build_24 : decode cX9_build 24 = .ok (.putfield 80, 3) := by decide +kernel
theorem dX9_build_27 : decode cX9_build 27 = .ok (.iconst 0, 1) := by decide +kernel
theorem dX9_build_28 : decode cX9_build 28 = .ok (.istore_n 1, 1) := by decide +kernel
theorem dX9_build_29 : decode cX9_build 29 = .ok (.iconst 0, 1) := by decide +kernel
theorem dX9_build_30 : decode cX9_build 30 = .ok (.istore_n 2, 1) := by decide +kernel
theorem dX9_build_31 : decode cX9_build 31 = .ok (.iload_n 2, 1) := by decide +kernel
theorem dX9_build_32 : decode cX9_build 32 = .ok (.aload_n 0, 1) := by decide +kernel
theorem dX9_build_33 : decode cX9_build 33 = .ok (.getfield 7, 3) := by decide +kernel
theorem dX9_build_36 : decode cX9_build 36 = .ok (.if_icmp .ge 117, 3) := by decide +kernel
theorem dX9_build_39 : decode cX9_build 39 = .ok (.aload_n 0, 1) := by decide +kernel
theorem dX9_build_40 : decode cX9_build 40 = .ok (.aload_n 0, 1) := by decide +kernel
theorem dX9_build_41 : decode cX9_build 41 = .ok (.iload_n 2, 1) := by decide +kernel
theorem dX9_build_42 : decode cX9_build 42 = .ok (.iload_n 2, 1) := by decide +kernel
theorem dX9_build_43 : decode cX9_build 43 = .ok (.invokevirtual 194, 3) := by decide +kernel
theorem dX9_build_46 : decode cX9_build 46 = .ok (.aload_n 0, 1) := by decide +kernel
theorem dX9_build_47 : decode cX9_build 47 = .ok (.getfield 7, 3) := by decide +kernel
theorem dX9_build_50 : decode cX9_build 50 = .ok (.iload_n 2, 1) := by decide +kernel
theorem dX9_build_51 : decode cX9_build 51 = .ok (.invokevirtual 197, 3) := by decide +kernel
theorem dX9_build_54 : decode cX9_build 54 = .ok (.iconst 0, 1) := by decide +kernel
theorem dX9_build_55 : decode cX9_build 55 = .ok (.istore_n 3, 1) := by decide +kernel
theorem dX9_build_56 : decode cX9_build 56 = .ok (.iload_n 3, 1) := by decide +kernel
theorem dX9_build_57 : decode cX9_build 57 = .ok (.aload_n 0, 1) := by decide +kernel
theorem dX9_build_58 : decode cX9_build 58 = .ok (.getfield 87, 3) := by decide +kernel
theorem dX9_build_61 : decode cX9_build 61 = .ok (.if_icmp .ge 86, 3) := by decide +kernel
theorem dX9_build_64 : decode cX9_build 64 = .ok (.aload_n 0, 1) := by decide +kernel
theorem dX9_build_65 : decode cX9_build 65 = .ok (.iload_n 2, 1) := by decide +kernel
theorem dX9_build_66 : decode cX9_build 66 = .ok (.aload_n 0, 1) := by decide +kernel
theorem dX9_build_67 : decode cX9_build 67 = .ok (.iload_n 2, 1) := by decide +kernel
theorem dX9_build_68 : decode cX9_build 68 = .ok (.aload_n 0, 1) := by decide +kernel
theorem dX9_build_69 : decode cX9_build 69 = .ok (.getfield 13, 3) := by decide +kernel
theorem dX9_build_72 : decode cX9_build 72 = .ok (.iconst 3, 1) := by decide +kernel
theorem dX9_build_73 : decode cX9_build 73 = .ok (.iload_n 3, 1) := by decide +kernel
theorem dX9_build_74 : decode cX9_build 74 = .ok (.imul, 1) := by decide +kernel
theorem dX9_build_75 : decode cX9_build 75 = .ok (.iconst 2, 1) := by decide +kernel
theorem dX9_build_76 : decode cX9_build 76 = .ok (.iadd, 1) := by decide +kernel
theorem dX9_build_77 : decode cX9_build 77 = .ok (.iaload, 1) := by decide +kernel
theorem dX9_build_78 : decode cX9_build 78 = .ok (.isub, 1) := by decide +kernel
theorem dX9_build_79 : decode cX9_build 79 = .ok (.invokevirtual 129, 3) := by decide +kernel
theorem dX9_build_82 : decode cX9_build 82 = .ok (.invokevirtual 194, 3) := by decide +kernel
theorem dX9_build_85 : decode cX9_build 85 = .ok (.istore 4, 2) := by decide +kernel
theorem dX9_build_87 : decode cX9_build 87 = .ok (.aload_n 0, 1) := by decide +kernel
theorem dX9_build_88 : decode cX9_build 88 = .ok (.getfield 17, 3) := by decide +kernel
theorem dX9_build_91 : decode cX9_build 91 = .ok (.iload 4, 2) := by decide +kernel
theorem dX9_build_93 : decode cX9_build 93 = .ok (.iaload, 1) := by decide +kernel
theorem dX9_build_94 : decode cX9_build 94 = .ok (.ifCond .ge 44, 3) := by decide +kernel
theorem dX9_build_97 : decode cX9_build 97 = .ok (.aload_n 0, 1) := by decide +kernel
theorem dX9_build_98 : decode cX9_build 98 = .ok (.iload 4, 2) := by decide +kernel
theorem dX9_build_100 : decode cX9_build 100 = .ok (.aload_n 0, 1) := by decide +kernel
theorem dX9_build_101 : decode cX9_build 101 = .ok (.getfield 13, 3) := by decide +kernel
theorem dX9_build_104 : decode cX9_build 104 = .ok (.iconst 3, 1) := by decide +kernel
theorem dX9_build_105 : decode cX9_build 105 = .ok (.iload_n 3, 1) := by decide +kernel
theorem dX9_build_106 : decode cX9_build 106 = .ok (.imul, 1) := by decide +kernel
theorem dX9_build_107 : decode cX9_build 107 = .ok (.iaload, 1) := by decide +kernel
theorem dX9_build_108 : decode cX9_build 108 = .ok (.iload_n 2, 1) := by decide +kernel
theorem dX9_build_109 : decode cX9_build 109 = .ok (.iadd, 1) := by decide +kernel
theorem dX9_build_110 : decode cX9_build 110 = .ok (.aload_n 0, 1) := by decide +kernel
theorem dX9_build_111 : decode cX9_build 111 = .ok (.getfield 7, 3) := by decide +kernel
theorem dX9_build_114 : decode cX9_build 114 = .ok (.irem, 1) := by decide +kernel
theorem dX9_build_115 : decode cX9_build 115 = .ok (.aload_n 0, 1) := by decide +kernel
theorem dX9_build_116 : decode cX9_build 116 = .ok (.getfield 13, 3) := by decide +kernel
theorem dX9_build_119 : decode cX9_build 119 = .ok (.iconst 3, 1) := by decide +kernel
theorem dX9_build_120 : decode cX9_build 120 = .ok (.iload_n 3, 1) := by decide +kernel
theorem dX9_build_121 : decode cX9_build 121 = .ok (.imul, 1) := by decide +kernel
theorem dX9_build_122 : decode cX9_build 122 = .ok (.iconst 1, 1) := by decide +kernel
theorem dX9_build_123 : decode cX9_build 123 = .ok (.iadd, 1) := by decide +kernel
theorem dX9_build_124 : decode cX9_build 124 = .ok (.iaload, 1) := by decide +kernel
theorem dX9_build_125 : decode cX9_build 125 = .ok (.iload_n 2, 1) := by decide +kernel
theorem dX9_build_126 : decode cX9_build 126 = .ok (.iadd, 1) := by decide +kernel
theorem dX9_build_127 : decode cX9_build 127 = .ok (.aload_n 0, 1) := by decide +kernel
theorem dX9_build_128 : decode cX9_build 128 = .ok (.getfield 7, 3) := by decide +kernel
theorem dX9_build_131 : decode cX9_build 131 = .ok (.irem, 1) := by decide +kernel
theorem dX9_build_132 : decode cX9_build 132 = .ok (.invokevirtual 197, 3) := by decide +kernel
theorem dX9_build_135 : decode cX9_build 135 = .ok (.goto 6, 3) := by decide +kernel
theorem dX9_build_138 : decode cX9_build 138 = .ok (.iinc 1 1, 3) := by decide +kernel
theorem dX9_build_141 : decode cX9_build 141 = .ok (.iinc 3 1, 3) := by decide +kernel
theorem dX9_build_144 : decode cX9_build 144 = .ok (.goto (-88), 3) := by decide +kernel
theorem dX9_build_147 : decode cX9_build 147 = .ok (.iinc 2 1, 3) := by decide +kernel
theorem dX9_build_150 : decode cX9_build 150 = .ok (.goto (-119), 3) := by decide +kernel
theorem dX9_build_153 : decode cX9_build 153 = .ok (.iload_n 1, 1) := by decide +kernel
theorem dX9_build_154 : decode cX9_build 154 = .ok (.ireturn, 1) := by decide +kernel
theorem dX9_isCell_0 : decode cX9_isCell 0 = .ok (.iload_n 1, 1) := by decide +kernel
theorem dX9_isCell_1 : decode cX9_isCell 1 = .ok (.i2l, 1) := by decide +kernel
theorem dX9_isCell_2 : decode cX9_isCell 2 = .ok (.lconst 0, 1) := by decide +kernel
theorem dX9_isCell_3 : decode cX9_isCell 3 = .ok (.aload_n 0, 1) := by decide +kernel
theorem dX9_isCell_4 : decode cX9_isCell 4 = .ok (.getfield 7, 3) := by decide +kernel
theorem dX9_isCell_7 : decode cX9_isCell 7 = .ok (.iconst 1, 1) := by decide +kernel
theorem dX9_isCell_8 : decode cX9_isCell 8 = .ok (.isub, 1) := by decide +kernel
theorem dX9_isCell_9 : decode cX9_isCell 9 = .ok (.i2l, 1) := by decide +kernel
theorem dX9_isCell_10 : decode cX9_isCell 10 = .ok (.invokestatic 98, 3) := by decide +kernel
theorem dX9_isCell_13 : decode cX9_isCell 13 = .ok (.ifCond .eq 23, 3) := by decide +kernel
theorem dX9_isCell_16 : decode cX9_isCell 16 = .ok (.iload_n 2, 1) := by decide +kernel
theorem dX9_isCell_17 : decode cX9_isCell 17 = .ok (.i2l, 1) := by decide +kernel
theorem dX9_isCell_18 : decode cX9_isCell 18 = .ok (.lconst 0, 1) := by decide +kernel
theorem dX9_isCell_19 : decode cX9_isCell 19 = .ok (.aload_n 0, 1) := by decide +kernel
theorem dX9_isCell_20 : decode cX9_isCell 20 = .ok (.getfield 7, 3) := by decide +kernel
theorem dX9_isCell_23 : decode cX9_isCell 23 = .ok (.iconst 1, 1) := by decide +kernel
theorem dX9_isCell_24 : decode cX9_isCell 24 = .ok (.isub, 1) := by decide +kernel
theorem dX9_isCell_25 : decode cX9_isCell 25 = .ok (.i2l, 1) := by decide +kernel
theorem dX9_isCell_26 : decode cX9_isCell 26 = .ok (.invokestatic 98, 3) := by decide +kernel
theorem dX9_isCell_29 : decode cX9_isCell 29 = .ok (.ifCond .eq 7, 3) := by decide +kernel
theorem dX9_isCell_32 : decode cX9_isCell 32 = .ok (.iconst 1, 1) := by decide +kernel
theorem dX9_isCell_33 : decode cX9_isCell 33 = .ok (.goto 4, 3) := by decide +kernel
theorem dX9_isCell_36 : decode cX9_isCell 36 = .ok (.iconst 0, 1) := by decide +kernel
theorem dX9_isCell_37 : decode cX9_isCell 37 = .ok (.ireturn, 1) := by decide +kernel
theorem dX9_cell_0 : decode cX9_cell 0 = .ok (.aload_n 0, 1) := by decide +kernel
theorem dX9_cell_1 : decode cX9_cell 1 = .ok (.iload_n 1, 1) := by decide +kernel
theorem dX9_cell_2 : decode cX9_cell 2 = .ok (.iload_n 2, 1) := by decide +kernel
theorem dX9_cell_3 : decode cX9_cell 3 = .ok (.invokevirtual 200, 3) := by decide +kernel
theorem dX9_cell_6 : decode cX9_cell 6 = .ok (.ifCond .ne 9, 3) := by decide +kernel
theorem dX9_cell_9 : decode cX9_cell 9 = .ok (.aload_n 0, 1) := by decide +kernel
theorem dX9_cell_10 : decode cX9_cell 10 = .ok (.iconst (-1), 1) := by decide +kernel
theorem dX9_cell_11 : decode cX9_cell 11 = .ok (.invokevirtual 90, 3) := by decide +kernel
theorem dX9_cell_14 : decode cX9_cell 14 = .ok (.ireturn, 1) := by decide +kernel
theorem dX9_cell_15 : decode cX9_cell 15 = .ok (.iload_n 3, 1) := by decide +kernel
theorem dX9_cell_16 : decode cX9_cell 16 = .ok (.iconst (-1), 1) := by decide +kernel
theorem dX9_cell_17 : decode cX9_cell 17 = .ok (.if_icmp .lt 12, 3) := by decide +kernel
theorem dX9_cell_20 : decode cX9_cell 20 = .ok (.iload_n 3, 1) := by decide +kernel
theorem dX9_cell_21 : decode cX9_cell 21 = .ok (.ifCond .lt 15, 3) := by decide +kernel
theorem dX9_cell_24 : decode cX9_cell 24 = .ok (.iload 4, 2) := by decide +kernel
theorem dX9_cell_26 : decode cX9_cell 26 = .ok (.ifCond .ge 10, 3) := by decide +kernel
theorem dX9_cell_29 : decode cX9_cell 29 = .ok (.aload_n 0, 1) := by decide +kernel
theorem dX9_cell_30 : decode cX9_cell 30 = .ok (.bipush (-4), 2) := by decide +kernel
theorem dX9_cell_32 : decode cX9_cell 32 = .ok (.invokevirtual 90, 3) := by decide +kernel
theorem dX9_cell_35 : decode cX9_cell 35 = .ok (.ireturn, 1) := by decide +kernel
theorem dX9_cell_36 : decode cX9_cell 36 = .ok (.iload_n 3, 1) := by decide +kernel
theorem dX9_cell_37 : decode cX9_cell 37 = .ok (.aload_n 0, 1) := by decide +kernel
theorem dX9_cell_38 : decode cX9_cell 38 = .ok (.getfield 7, 3) := by decide +kernel
theorem dX9_cell_41 : decode cX9_cell 41 = .ok (.if_icmp .gt 16, 3) := by decide +kernel
theorem dX9_cell_44 : decode cX9_cell 44 = .ok (.iload_n 3, 1) := by decide +kernel
theorem dX9_cell_45 : decode cX9_cell 45 = .ok (.ifCond .lt 19, 3) := by decide +kernel
theorem dX9_cell_48 : decode cX9_cell 48 = .ok (.iload 4, 2) := by decide +kernel
theorem dX9_cell_50 : decode cX9_cell 50 = .ok (.aload_n 0, 1) := by decide +kernel
theorem dX9_cell_51 : decode cX9_cell 51 = .ok (.getfield 7, 3) := by decide +kernel
theorem dX9_cell_54 : decode cX9_cell 54 = .ok (.if_icmp .le 10, 3) := by decide +kernel
theorem dX9_cell_57 : decode cX9_cell 57 = .ok (.aload_n 0, 1) := by decide +kernel
theorem dX9_cell_58 : decode cX9_cell 58 = .ok (.bipush (-6), 2) := by decide +kernel
theorem dX9_cell_60 : decode cX9_cell 60 = .ok (.invokevirtual 90, 3) := by decide +kernel
theorem dX9_cell_63 : decode cX9_cell 63 = .ok (.ireturn, 1) := by decide +kernel
theorem dX9_cell_64 : decode cX9_cell 64 = .ok (.iload_n 3, 1) := by decide +kernel
theorem dX9_cell_65 : decode cX9_cell 65 = .ok (.ifCond .lt 16, 3) := by decide +kernel
theorem dX9_cell_68 : decode cX9_cell 68 = .ok (.iload_n 3, 1) := by decide +kernel
theorem dX9_cell_69 : decode cX9_cell 69 = .ok (.iload 4, 2) := by decide +kernel
theorem dX9_cell_71 : decode cX9_cell 71 = .ok (.if_icmp .ne 10, 3) := by decide +kernel
theorem dX9_cell_74 : decode cX9_cell 74 = .ok (.aload_n 0, 1) := by decide +kernel
theorem dX9_cell_75 : decode cX9_cell 75 = .ok (.bipush (-3), 2) := by decide +kernel
theorem dX9_cell_77 : decode cX9_cell 77 = .ok (.invokevirtual 90, 3) := by decide +kernel
theorem dX9_cell_80 : decode cX9_cell 80 = .ok (.ireturn, 1) := by decide +kernel
theorem dX9_cell_81 : decode cX9_cell 81 = .ok (.aload_n 0, 1) := by decide +kernel
theorem dX9_cell_82 : decode cX9_cell 82 = .ok (.invokevirtual 124, 3) := by decide +kernel
theorem dX9_cell_85 : decode cX9_cell 85 = .ok (.aload_n 0, 1) := by decide +kernel
theorem dX9_cell_86 : decode cX9_cell 86 = .ok (.iload_n 1, 1) := by decide +kernel
theorem dX9_cell_87 : decode cX9_cell 87 = .ok (.iload_n 2, 1) := by decide +kernel
theorem dX9_cell_88 : decode cX9_cell 88 = .ok (.invokevirtual 194, 3) := by decide +kernel
theorem dX9_cell_91 : decode cX9_cell 91 = .ok (.istore 5, 2) := by decide +kernel
theorem dX9_cell_93 : decode cX9_cell 93 = .ok (.aload_n 0, 1) := by decide +kernel
theorem dX9_cell_94 : decode cX9_cell 94 = .ok (.getfield 17, 3) := by decide +kernel
theorem dX9_cell_97 : decode cX9_cell 97 = .ok (.iload 5, 2) := by decide +kernel
theorem dX9_cell_99 : decode cX9_cell 99 = .ok (.iaload, 1) := by decide +kernel
theorem dX9_cell_100 : decode cX9_cell 100 = .ok (.ifCond .ge 7, 3) := by decide +kernel
theorem dX9_cell_103 : decode cX9_cell 103 = .ok (.iconst 0, 1) := by decide +kernel
theorem dX9_cell_104 : decode cX9_cell 104 = .ok (.goto 4, 3) := by decide +kernel
theorem dX9_cell_107 : decode cX9_cell 107 = .ok (.iconst 1, 1) := by decide +kernel
theorem dX9_cell_108 : decode cX9_cell 108 = .ok (.istore 6, 2) := by decide +kernel
theorem dX9_cell_110 : decode cX9_cell 110 = .ok (.iload_n 3, 1) := by decide +kernel
theorem dX9_cell_111 : decode cX9_cell 111 = .ok (.ifCond .ge 24, 3) := by decide +kernel
theorem dX9_cell_114 : decode cX9_cell 114 = .ok (.aload_n 0, 1) := by decide +kernel
theorem dX9_cell_115 : decode cX9_cell 115 = .ok (.getfield 17, 3) := by decide +kernel
theorem dX9_cell_118 : decode cX9_cell 118 = .ok (.iload 5, 2) := by decide +kernel
theorem dX9_cell_120 : decode cX9_cell 120 = .ok (.iconst (-1), 1) := by decide +kernel
theorem dX9_cell_121 : decode cX9_cell 121 = .ok (.iastore, 1) := by decide +kernel
theorem dX9_cell_122 : decode cX9_cell 122 = .ok (.aload_n 0, 1) := by decide +kernel
theorem dX9_cell_123 : decode cX9_cell 123 = .ok (.getfield 17, 3) := by decide +kernel
theorem dX9_cell_126 : decode cX9_cell 126 = .ok (.iload 5, 2) := by decide +kernel
theorem dX9_cell_128 : decode cX9_cell 128 = .ok (.iconst 1, 1) := by decide +kernel
theorem dX9_cell_129 : decode cX9_cell 129 = .ok (.iadd, 1) := by decide +kernel
theorem dX9_cell_130 : decode cX9_cell 130 = .ok (.iconst (-1), 1) := by decide +kernel
theorem dX9_cell_131 : decode cX9_cell 131 = .ok (.iastore, 1) := by decide +kernel
theorem dX9_cell_132 : decode cX9_cell 132 = .ok (.goto 12, 3) := by decide +kernel
theorem dX9_cell_135 : decode cX9_cell 135 = .ok (.aload_n 0, 1) := by decide +kernel
theorem dX9_cell_136 : decode cX9_cell 136 = .ok (.iload 5, 2) := by decide +kernel
theorem dX9_cell_138 : decode cX9_cell 138 = .ok (.iload_n 3, 1) := by decide +kernel
theorem dX9_cell_139 : decode cX9_cell 139 = .ok (.iload 4, 2) := by decide +kernel
theorem dX9_cell_141 : decode cX9_cell 141 = .ok (.invokevirtual 197, 3) := by decide +kernel
theorem dX9_cell_144 : decode cX9_cell 144 = .ok (.iload 6, 2) := by decide +kernel
theorem dX9_cell_146 : decode cX9_cell 146 = .ok (.ireturn, 1) := by decide +kernel
theorem dX9_at_0 : decode cX9_at 0 = .ok (.aload_n 0, 1) := by decide +kernel
theorem dX9_at_1 : decode cX9_at 1 = .ok (.iload_n 1, 1) := by decide +kernel
theorem dX9_at_2 : decode cX9_at 2 = .ok (.iload_n 2, 1) := by decide +kernel
theorem dX9_at_3 : decode cX9_at 3 = .ok (.invokevirtual 200, 3) := by decide +kernel
theorem dX9_at_6 : decode cX9_at 6 = .ok (.ifCond .ne 9, 3) := by decide +kernel
theorem dX9_at_9 : decode cX9_at 9 = .ok (.aload_n 0, 1) := by decide +kernel
theorem dX9_at_10 : decode cX9_at 10 = .ok (.iconst (-1), 1) := by decide +kernel
theorem dX9_at_11 : decode cX9_at 11 = .ok (.invokevirtual 90, 3) := by decide +kernel
theorem dX9_at_14 : decode cX9_at 14 = .ok (.ireturn, 1) := by decide +kernel
theorem dX9_at_15 : decode cX9_at 15 = .ok (.iload_n 3, 1) := by decide +kernel
theorem dX9_at_16 : decode cX9_at 16 = .ok (.i2l, 1) := by decide +kernel
theorem dX9_at_17 : decode cX9_at 17 = .ok (.lconst 0, 1) := by decide +kernel
theorem dX9_at_18 : decode cX9_at 18 = .ok (.lconst 1, 1) := by decide +kernel
theorem dX9_at_19 : decode cX9_at 19 = .ok (.invokestatic 98, 3) := by decide +kernel
theorem dX9_at_22 : decode cX9_at 22 = .ok (.ifCond .ne 10, 3) := by decide +kernel
theorem dX9_at_25 : decode cX9_at 25 = .ok (.aload_n 0, 1) := by decide +kernel
theorem dX9_at_26 : decode cX9_at 26 = .ok (.bipush (-2), 2) := by decide +kernel
theorem dX9_at_28 : decode cX9_at 28 = .ok (.invokevirtual 90, 3) := by decide +kernel
theorem dX9_at_31 : decode cX9_at 31 = .ok (.ireturn, 1) := by decide +kernel
theorem dX9_at_32 : decode cX9_at 32 = .ok (.aload_n 0, 1) := by decide +kernel
theorem dX9_at_33 : decode cX9_at 33 = .ok (.getfield 17, 3) := by decide +kernel
theorem dX9_at_36 : decode cX9_at 36 = .ok (.aload_n 0, 1) := by decide +kernel
theorem dX9_at_37 : decode cX9_at 37 = .ok (.iload_n 1, 1) := by decide +kernel
theorem dX9_at_38 : decode cX9_at 38 = .ok (.iload_n 2, 1) := by decide +kernel
theorem dX9_at_39 : decode cX9_at 39 = .ok (.invokevirtual 194, 3) := by decide +kernel
theorem dX9_at_42 : decode cX9_at 42 = .ok (.iaload, 1) := by decide +kernel
theorem dX9_at_43 : decode cX9_at 43 = .ok (.ifCond .ge 8, 3) := by decide +kernel
theorem dX9_at_46 : decode cX9_at 46 = .ok (.bipush (-9), 2) := by decide +kernel
theorem dX9_at_48 : decode cX9_at 48 = .ok (.goto 16, 3) := by decide +kernel
theorem dX9_at_51 : decode cX9_at 51 = .ok (.aload_n 0, 1) := by decide +kernel
theorem dX9_at_52 : decode cX9_at 52 = .ok (.getfield 17, 3) := by decide +kernel
theorem dX9_at_55 : decode cX9_at 55 = .ok (.aload_n 0, 1) := by decide +kernel
theorem dX9_at_56 : decode cX9_at 56 = .ok (.iload_n 1, 1) := by decide +kernel
theorem dX9_at_57 : decode cX9_at 57 = .ok (.iload_n 2, 1) := by decide +kernel
theorem dX9_at_58 : decode cX9_at 58 = .ok (.invokevirtual 194, 3) := by decide +kernel
theorem dX9_at_61 : decode cX9_at 61 = .ok (.iload_n 3, 1) := by decide +kernel
theorem dX9_at_62 : decode cX9_at 62 = .ok (.iadd, 1) := by decide +kernel
theorem dX9_at_63 : decode cX9_at 63 = .ok (.iaload, 1) := by decide +kernel
theorem dX9_at_64 : decode cX9_at 64 = .ok (.ireturn, 1) := by decide +kernel
theorem dX9_otherThanOne_0 : decode cX9_otherThanOne 0 = .ok (.iconst 0, 1) := by decide +kernel
theorem dX9_otherThanOne_1 : decode cX9_otherThanOne 1 = .ok (.istore_n 2, 1) := by decide +kernel
theorem dX9_otherThanOne_2 : decode cX9_otherThanOne 2 = .ok (.iconst 0, 1) := by decide +kernel
theorem dX9_otherThanOne_3 : decode cX9_otherThanOne 3 = .ok (.istore_n 3, 1) := by decide +kernel
theorem dX9_otherThanOne_4 : decode cX9_otherThanOne 4 = .ok (.iload_n 3, 1) := by decide +kernel
theorem dX9_otherThanOne_5 : decode cX9_otherThanOne 5 = .ok (.iload_n 1, 1) := by decide +kernel
theorem dX9_otherThanOne_6 : decode cX9_otherThanOne 6 = .ok (.if_icmp .ge 27, 3) := by decide +kernel
theorem dX9_otherThanOne_9 : decode cX9_otherThanOne 9 = .ok (.iload_n 2, 1) := by decide +kernel
theorem dX9_otherThanOne_10 : decode cX9_otherThanOne 10 = .ok (.aload_n 0, 1) := by decide +kernel
theorem dX9_otherThanOne_11 : decode cX9_otherThanOne 11 = .ok (.getfield 41, 3) := by decide +kernel
theorem dX9_otherThanOne_14 : decode cX9_otherThanOne 14 = .ok (.iload_n 3, 1) := by decide +kernel
theorem dX9_otherThanOne_15 : decode cX9_otherThanOne 15 = .ok (.iaload, 1) := by decide +kernel
theorem dX9_otherThanOne_16 : decode cX9_otherThanOne 16 = .ok (.iconst 1, 1) := by decide +kernel
theorem dX9_otherThanOne_17 : decode cX9_otherThanOne 17 = .ok (.if_icmp .ne 7, 3) := by decide +kernel
theorem dX9_otherThanOne_20 : decode cX9_otherThanOne 20 = .ok (.iconst 0, 1) := by decide +kernel
theorem dX9_otherThanOne_21 : decode cX9_otherThanOne 21 = .ok (.goto 4, 3) := by decide +kernel
theorem dX9_otherThanOne_24 : decode cX9_otherThanOne 24 = .ok (.iconst 1, 1) := by decide +kernel
theorem dX9_otherThanOne_25 : decode cX9_otherThanOne 25 = .ok (.iadd, 1) := by decide +kernel
theorem dX9_otherThanOne_26 : decode cX9_otherThanOne 26 = .ok (.istore_n 2, 1) := by decide +kernel
theorem dX9_otherThanOne_27 : decode cX9_otherThanOne 27 = .ok (.iinc 3 1, 3) := by decide +kernel
theorem dX9_otherThanOne_30 : decode cX9_otherThanOne 30 = .ok (.goto (-26), 3) := by decide +kernel
theorem dX9_otherThanOne_33 : decode cX9_otherThanOne 33 = .ok (.iload_n 2, 1) := by decide +kernel
theorem dX9_otherThanOne_34 : decode cX9_otherThanOne 34 = .ok (.ireturn, 1) := by decide +kernel
theorem dX9_lineFaults_0 : decode cX9_lineFaults 0 = .ok (.iconst 0, 1) := by decide +kernel
theorem dX9_lineFaults_1 : decode cX9_lineFaults 1 = .ok (.istore_n 3, 1) := by decide +kernel
theorem dX9_lineFaults_2 : decode cX9_lineFaults 2 = .ok (.iload_n 3, 1) := by decide +kernel
theorem dX9_lineFaults_3 : decode cX9_lineFaults 3 = .ok (.aload_n 0, 1) := by decide +kernel
theorem dX9_lineFaults_4 : decode cX9_lineFaults 4 = .ok (.getfield 7, 3) := by decide +kernel
theorem dX9_lineFaults_7 : decode cX9_lineFaults 7 = .ok (.if_icmp .gt 16, 3) := by decide +kernel
theorem dX9_lineFaults_10 : decode cX9_lineFaults 10 = .ok (.aload_n 0, 1) := by decide +kernel
theorem dX9_lineFaults_11 : decode cX9_lineFaults 11 = .ok (.getfield 41, 3) := by decide +kernel
theorem dX9_lineFaults_14 : decode cX9_lineFaults 14 = .ok (.iload_n 3, 1) := by decide +kernel
theorem dX9_lineFaults_15 : decode cX9_lineFaults 15 = .ok (.iconst 0, 1) := by decide +kernel
theorem dX9_lineFaults_16 : decode cX9_lineFaults 16 = .ok (.iastore, 1) := by decide +kernel
theorem dX9_lineFaults_17 : decode cX9_lineFaults 17 = .ok (.iinc 3 1, 3) := by decide +kernel
theorem dX9_lineFaults_20 : decode cX9_lineFaults 20 = .ok (.goto (-18), 3) := by decide +kernel
theorem dX9_lineFaults_23 : decode cX9_lineFaults 23 = .ok (.iconst 0, 1) := by decide +kernel
theorem dX9_lineFaults_24 : decode cX9_lineFaults 24 = .ok (.istore_n 3, 1) := by decide +kernel
theorem dX9_lineFaults_25 : decode cX9_lineFaults 25 = .ok (.iload_n 3, 1) := by decide +kernel
theorem dX9_lineFaults_26 : decode cX9_lineFaults 26 = .ok (.aload_n 0, 1) := by decide +kernel
theorem dX9_lineFaults_27 : decode cX9_lineFaults 27 = .ok (.getfield 7, 3) := by decide +kernel
theorem dX9_lineFaults_30 : decode cX9_lineFaults 30 = .ok (.if_icmp .ge 74, 3) := by decide +kernel
theorem dX9_lineFaults_33 : decode cX9_lineFaults 33 = .ok (.iload_n 1, 1) := by decide +kernel
theorem dX9_lineFaults_34 : decode cX9_lineFaults 34 = .ok (.ifCond .ne 12, 3) := by decide +kernel
theorem dX9_lineFaults_37 : decode cX9_lineFaults 37 = .ok (.aload_n 0, 1) := by decide +kernel
theorem dX9_lineFaults_38 : decode cX9_lineFaults 38 = .ok (.iload_n 2, 1) := by decide +kernel
theorem dX9_lineFaults_39 : decode cX9_lineFaults 39 = .ok (.iload_n 3, 1) := by decide +kernel
theorem dX9_lineFaults_40 : decode cX9_lineFaults 40 = .ok (.invokevirtual 194, 3) := by decide +kernel
theorem dX9_lineFaults_43 : decode cX9_lineFaults 43 = .ok (.goto 9, 3) := by decide +kernel
theorem dX9_lineFaults_46 : decode cX9_lineFaults 46 = .ok (.aload_n 0, 1) := by decide +kernel
theorem dX9_lineFaults_47 : decode cX9_lineFaults 47 = .ok (.iload_n 3, 1) := by decide +kernel
theorem dX9_lineFaults_48 : decode cX9_lineFaults 48 = .ok (.iload_n 2, 1) := by decide +kernel
theorem dX9_lineFaults_49 : decode cX9_lineFaults 49 = .ok (.invokevirtual 194, 3) := by decide +kernel
theorem dX9_lineFaults_52 : decode cX9_lineFaults 52 = .ok (.istore 4, 2) := by decide +kernel
theorem dX9_lineFaults_54 : decode cX9_lineFaults 54 = .ok (.iconst 0, 1) := by decide +kernel
theorem dX9_lineFaults_55 : decode cX9_lineFaults 55 = .ok (.istore 5, 2) := by decide +kernel
theorem dX9_lineFaults_57 : decode cX9_lineFaults 57 = .ok (.iload 5, 2) := by decide +kernel
theorem dX9_lineFaults_59 : decode cX9_lineFaults 59 = .ok (.iconst 2, 1) := by decide +kernel
theorem dX9_lineFaults_60 : decode cX9_lineFaults 60 = .ok (.if_icmp .ge 38, 3) := by decide +kernel
theorem dX9_lineFaults_63 : decode cX9_lineFaults 63 = .ok (.aload_n 0, 1) := by decide +kernel
theorem dX9_lineFaults_64 : decode cX9_lineFaults 64 = .ok (.getfield 17, 3) := by decide +kernel
theorem dX9_lineFaults_67 : decode cX9_lineFaults 67 = .ok (.iload 4, 2) := by decide +kernel
theorem dX9_lineFaults_69 : decode cX9_lineFaults 69 = .ok (.iaload, 1) := by decide +kernel
theorem dX9_lineFaults_70 : decode cX9_lineFaults 70 = .ok (.ifCond .lt 28, 3) := by decide +kernel
theorem dX9_lineFaults_73 : decode cX9_lineFaults 73 = .ok (.aload_n 0, 1) := by decide +kernel
theorem dX9_lineFaults_74 : decode cX9_lineFaults 74 = .ok (.getfield 41, 3) := by decide +kernel
theorem dX9_lineFaults_77 : decode cX9_lineFaults 77 = .ok (.aload_n 0, 1) := by decide +kernel
theorem dX9_lineFaults_78 : decode cX9_lineFaults 78 = .ok (.getfield 17, 3) := by decide +kernel
theorem dX9_lineFaults_81 : decode cX9_lineFaults 81 = .ok (.iload 4, 2) := by decide +kernel
theorem dX9_lineFaults_83 : decode cX9_lineFaults 83 = .ok (.iload 5, 2) := by decide +kernel
theorem dX9_lineFaults_85 : decode cX9_lineFaults 85 = .ok (.iadd, 1) := by decide +kernel
theorem dX9_lineFaults_86 : decode cX9_lineFaults 86 = .ok (.iaload, 1) := by decide +kernel
theorem dX9_lineFaults_87 : decode cX9_lineFaults 87 = .ok (.dup2, 1) := by decide +kernel
theorem dX9_lineFaults_88 : decode cX9_lineFaults 88 = .ok (.iaload, 1) := by decide +kernel
theorem dX9_lineFaults_89 : decode cX9_lineFaults 89 = .ok (.iconst 1, 1) := by decide +kernel
theorem dX9_lineFaults_90 : decode cX9_lineFaults 90 = .ok (.iadd, 1) := by decide +kernel
theorem dX9_lineFaults_91 : decode cX9_lineFaults 91 = .ok (.iastore, 1) := by decide +kernel
theorem dX9_lineFaults_92 : decode cX9_lineFaults 92 = .ok (.iinc 5 1, 3) := by decide +kernel
theorem dX9_lineFaults_95 : decode cX9_lineFaults 95 = .ok (.goto (-38), 3) := by decide +kernel
theorem dX9_lineFaults_98 : decode cX9_lineFaults 98 = .ok (.iinc 3 1, 3) := by decide +kernel
theorem dX9_lineFaults_101 : decode cX9_lineFaults 101 = .ok (.goto (-76), 3) := by decide +kernel
theorem dX9_lineFaults_104 : decode cX9_lineFaults 104 = .ok (.aload_n 0, 1) := by decide +kernel
theorem dX9_lineFaults_105 : decode cX9_lineFaults 105 = .ok (.aload_n 0, 1) := by decide +kernel
theorem dX9_lineFaults_106 : decode cX9_lineFaults 106 = .ok (.getfield 7, 3) := by decide +kernel
theorem dX9_lineFaults_109 : decode cX9_lineFaults 109 = .ok (.iconst 1, 1) := by decide +kernel
theorem dX9_lineFaults_110 : decode cX9_lineFaults 110 = .ok (.iadd, 1) := by decide +kernel
theorem dX9_lineFaults_111 : decode cX9_lineFaults 111 = .ok (.invokevirtual 204, 3) := by decide +kernel
theorem dX9_lineFaults_114 : decode cX9_lineFaults 114 = .ok (.ireturn, 1) := by decide +kernel
theorem dX9_pairFaults_0 : decode cX9_pairFaults 0 = .ok (.iconst 0, 1) := by decide +kernel
theorem dX9_pairFaults_1 : decode cX9_pairFaults 1 = .ok (.istore_n 1, 1) := by decide +kernel
theorem dX9_pairFaults_2 : decode cX9_pairFaults 2 = .ok (.iconst 0, 1) := by decide +kernel
theorem dX9_pairFaults_3 : decode cX9_pairFaults 3 = .ok (.istore_n 2, 1) := by decide +kernel
theorem dX9_pairFaults_4 : decode cX9_pairFaults 4 = .ok (.iload_n 2, 1) := by decide +kernel
theorem dX9_pairFaults_5 : decode cX9_pairFaults 5 = .ok (.aload_n 0, 1) := by decide +kernel
theorem dX9_pairFaults_6 : decode cX9_pairFaults 6 = .ok (.getfield 7, 3) := by decide +kernel
theorem dX9_pairFaults_9 : decode cX9_pairFaults 9 = .ok (.if_icmp .gt 126, 3) := by decide +kernel
theorem dX9_pairFaults_12 : decode cX9_pairFaults 12 = .ok (.iload_n 2, 1) := by decide +kernel
theorem dX9_pairFaults_13 : decode cX9_pairFaults 13 = .ok (.iconst 1, 1) := by decide +kernel
theorem dX9_pairFaults_14 : decode cX9_pairFaults 14 = .ok (.iadd, 1) := by decide +kernel
theorem dX9_pairFaults_15 : decode cX9_pairFaults 15 = .ok (.istore_n 3, 1) := by decide +kernel
theorem dX9_pairFaults_16 : decode cX9_pairFaults 16 = .ok (.iload_n 3, 1) := by decide +kernel
theorem dX9_pairFaults_17 : decode cX9_pairFaults 17 = .ok (.aload_n 0, 1) := by decide +kernel
theorem dX9_pairFaults_18 : decode cX9_pairFaults 18 = .ok (.getfield 7, 3) := by decide +kernel
theorem dX9_pairFaults_21 : decode cX9_pairFaults 21 = .ok (.if_icmp .gt 108, 3) := by decide +kernel
theorem dX9_pairFaults_24 : decode cX9_pairFaults 24 = .ok (.iconst 0, 1) := by decide +kernel
theorem dX9_pairFaults_25 : decode cX9_pairFaults 25 = .ok (.istore 4, 2) := by decide +kernel
theorem dX9_pairFaults_27 : decode cX9_pairFaults 27 = .ok (.iconst 0, 1) := by decide +kernel
theorem dX9_pairFaults_28 : decode cX9_pairFaults 28 = .ok (.istore 5, 2) := by decide +kernel
theorem dX9_pairFaults_30 : decode cX9_pairFaults 30 = .ok (.iload 5, 2) := by decide +kernel
theorem dX9_pairFaults_32 : decode cX9_pairFaults 32 = .ok (.aload_n 0, 1) := by decide +kernel
theorem dX9_pairFaults_33 : decode cX9_pairFaults 33 = .ok (.getfield 7, 3) := by decide +kernel
theorem dX9_pairFaults_36 : decode cX9_pairFaults 36 = .ok (.if_icmp .ge 73, 3) := by decide +kernel
theorem dX9_pairFaults_39 : decode cX9_pairFaults 39 = .ok (.iconst 0, 1) := by decide +kernel
theorem dX9_pairFaults_40 : decode cX9_pairFaults 40 = .ok (.istore 6, 2) := by decide +kernel
theorem dX9_pairFaults_42 : decode cX9_pairFaults 42 = .ok (.iload 6, 2) := by decide +kernel
theorem dX9_pairFaults_44 : decode cX9_pairFaults 44 = .ok (.aload_n 0, 1) := by decide +kernel
theorem dX9_pairFaults_45 : decode cX9_pairFaults 45 = .ok (.getfield 7, 3) := by decide +kernel
theorem dX9_pairFaults_48 : decode cX9_pairFaults 48 = .ok (.if_icmp .ge 55, 3) := by decide +kernel
theorem dX9_pairFaults_51 : decode cX9_pairFaults 51 = .ok (.iload 4, 2) := by decide +kernel
theorem dX9_pairFaults_53 : decode cX9_pairFaults 53 = .ok (.aload_n 0, 1) := by decide +kernel
theorem dX9_pairFaults_54 : decode cX9_pairFaults 54 = .ok (.getfield 17, 3) := by decide +kernel
theorem dX9_pairFaults_57 : decode cX9_pairFaults 57 = .ok (.aload_n 0, 1) := by decide +kernel
theorem dX9_pairFaults_58 : decode cX9_pairFaults 58 = .ok (.iload 5, 2) := by decide +kernel
theorem dX9_pairFaults_60 : decode cX9_pairFaults 60 = .ok (.iload 6, 2) := by decide +kernel
theorem dX9_pairFaults_62 : decode cX9_pairFaults 62 = .ok (.invokevirtual 194, 3) := by decide +kernel
theorem dX9_pairFaults_65 : decode cX9_pairFaults 65 = .ok (.iaload, 1) := by decide +kernel
theorem dX9_pairFaults_66 : decode cX9_pairFaults 66 = .ok (.iload_n 2, 1) := by decide +kernel
theorem dX9_pairFaults_67 : decode cX9_pairFaults 67 = .ok (.if_icmp .ne 26, 3) := by decide +kernel
theorem dX9_pairFaults_70 : decode cX9_pairFaults 70 = .ok (.aload_n 0, 1) := by decide +kernel
theorem dX9_pairFaults_71 : decode cX9_pairFaults 71 = .ok (.getfield 17, 3) := by decide +kernel
theorem dX9_pairFaults_74 : decode cX9_pairFaults 74 = .ok (.aload_n 0, 1) := by decide +kernel
theorem dX9_pairFaults_75 : decode cX9_pairFaults 75 = .ok (.iload 5, 2) := by decide +kernel
theorem dX9_pairFaults_77 : decode cX9_pairFaults 77 = .ok (.iload 6, 2) := by decide +kernel
theorem dX9_pairFaults_79 : decode cX9_pairFaults 79 = .ok (.invokevirtual 194, 3) := by decide +kernel
theorem dX9_pairFaults_82 : decode cX9_pairFaults 82 = .ok (.iconst 1, 1) := by decide +kernel
theorem dX9_pairFaults_83 : decode cX9_pairFaults 83 = .ok (.iadd, 1) := by decide +kernel
theorem dX9_pairFaults_84 : decode cX9_pairFaults 84 = .ok (.iaload, 1) := by decide +kernel
theorem dX9_pairFaults_85 : decode cX9_pairFaults 85 = .ok (.iload_n 3, 1) := by decide +kernel
theorem dX9_pairFaults_86 : decode cX9_pairFaults 86 = .ok (.if_icmp .ne 7, 3) := by decide +kernel
theorem dX9_pairFaults_89 : decode cX9_pairFaults 89 = .ok (.iconst 1, 1) := by decide +kernel
theorem dX9_pairFaults_90 : decode cX9_pairFaults 90 = .ok (.goto 4, 3) := by decide +kernel
theorem dX9_pairFaults_93 : decode cX9_pairFaults 93 = .ok (.iconst 0, 1) := by decide +kernel
theorem dX9_pairFaults_94 : decode cX9_pairFaults 94 = .ok (.iadd, 1) := by decide +kernel
theorem dX9_pairFaults_95 : decode cX9_pairFaults 95 = .ok (.istore 4, 2) := by decide +kernel
theorem dX9_pairFaults_97 : decode cX9_pairFaults 97 = .ok (.iinc 6 1, 3) := by decide +kernel
theorem dX9_pairFaults_100 : decode cX9_pairFaults 100 = .ok (.goto (-58), 3) := by decide +kernel
theorem dX9_pairFaults_103 : decode cX9_pairFaults 103 = .ok (.iinc 5 1, 3) := by decide +kernel
theorem dX9_pairFaults_106 : decode cX9_pairFaults 106 = .ok (.goto (-76), 3) := by decide +kernel
theorem dX9_pairFaults_109 : decode cX9_pairFaults 109 = .ok (.iload_n 1, 1) := by decide +kernel
theorem dX9_pairFaults_110 : decode cX9_pairFaults 110 = .ok (.iload 4, 2) := by decide +kernel
theorem dX9_pairFaults_112 : decode cX9_pairFaults 112 = .ok (.iconst 1, 1) := by decide +kernel
theorem dX9_pairFaults_113 : decode cX9_pairFaults 113 = .ok (.if_icmp .ne 7, 3) := by decide +kernel
theorem dX9_pairFaults_116 : decode cX9_pairFaults 116 = .ok (.iconst 0, 1) := by decide +kernel
theorem dX9_pairFaults_117 : decode cX9_pairFaults 117 = .ok (.goto 4, 3) := by decide +kernel
theorem dX9_pairFaults_120 : decode cX9_pairFaults 120 = .ok (.iconst 1, 1) := by decide +kernel
theorem dX9_pairFaults_121 : decode cX9_pairFaults 121 = .ok (.iadd, 1) := by decide +kernel
theorem dX9_pairFaults_122 : decode cX9_pairFaults 122 = .ok (.istore_n 1, 1) := by decide +kernel
theorem dX9_pairFaults_123 : decode cX9_pairFaults 123 = .ok (.iinc 3 1, 3) := by decide +kernel
theorem dX9_pairFaults_126 : decode cX9_pairFaults 126 = .ok (.goto (-110), 3) := by decide +kernel
theorem dX9_pairFaults_129 : decode cX9_pairFaults 129 = .ok (.iinc 2 1, 3) := by decide +kernel
theorem dX9_pairFaults_132 : decode cX9_pairFaults 132 = .ok (.goto (-128), 3) := by decide +kernel
theorem dX9_pairFaults_135 : decode cX9_pairFaults 135 = .ok (.iload_n 1, 1) := by decide +kernel
theorem dX9_pairFaults_136 : decode cX9_pairFaults 136 = .ok (.ireturn, 1) := by decide +kernel
theorem dX9_faults_0 : decode cX9_faults 0 = .ok (.iload_n 1, 1) := by decide +kernel
theorem dX9_faults_1 : decode cX9_faults 1 = .ok (.i2l, 1) := by decide +kernel
theorem dX9_faults_2 : decode cX9_faults 2 = .ok (.lconst 0, 1) := by decide +kernel
theorem dX9_faults_3 : decode cX9_faults 3 = .ok (.ldc2_w 207, 3) := by decide +kernel
theorem dX9_faults_6 : decode cX9_faults 6 = .ok (.invokestatic 98, 3) := by decide +kernel
theorem dX9_faults_9 : decode cX9_faults 9 = .ok (.ifCond .ne 10, 3) := by decide +kernel
theorem dX9_faults_12 : decode cX9_faults 12 = .ok (.aload_n 0, 1) := by decide +kernel
theorem dX9_faults_13 : decode cX9_faults 13 = .ok (.bipush (-2), 2) := by decide +kernel
theorem dX9_faults_15 : decode cX9_faults 15 = .ok (.invokevirtual 90, 3) := by decide +kernel
theorem dX9_faults_18 : decode cX9_faults 18 = .ok (.ireturn, 1) := by decide +kernel
theorem dX9_faults_19 : decode cX9_faults 19 = .ok (.iload_n 1, 1) := by decide +kernel
theorem dX9_faults_20 : decode cX9_faults 20 = .ok (.iconst 2, 1) := by decide +kernel
theorem dX9_faults_21 : decode cX9_faults 21 = .ok (.if_icmp .ge 25, 3) := by decide +kernel
theorem dX9_faults_24 : decode cX9_faults 24 = .ok (.iload_n 2, 1) := by decide +kernel
theorem dX9_faults_25 : decode cX9_faults 25 = .ok (.i2l, 1) := by decide +kernel
theorem dX9_faults_26 : decode cX9_faults 26 = .ok (.lconst 0, 1) := by decide +kernel
theorem dX9_faults_27 : decode cX9_faults 27 = .ok (.aload_n 0, 1) := by decide +kernel
theorem dX9_faults_28 : decode cX9_faults 28 = .ok (.getfield 7, 3) := by decide +kernel
theorem dX9_faults_31 : decode cX9_faults 31 = .ok (.iconst 1, 1) := by decide +kernel
theorem dX9_faults_32 : decode cX9_faults 32 = .ok (.isub, 1) := by decide +kernel
theorem dX9_faults_33 : decode cX9_faults 33 = .ok (.i2l, 1) := by decide +kernel
theorem dX9_faults_34 : decode cX9_faults 34 = .ok (.invokestatic 98, 3) := by decide +kernel
theorem dX9_faults_37 : decode cX9_faults 37 = .ok (.ifCond .ne 9, 3) := by decide +kernel
theorem dX9_faults_40 : decode cX9_faults 40 = .ok (.aload_n 0, 1) := by decide +kernel
theorem dX9_faults_41 : decode cX9_faults 41 = .ok (.iconst (-1), 1) := by decide +kernel
theorem dX9_faults_42 : decode cX9_faults 42 = .ok (.invokevirtual 90, 3) := by decide +kernel
theorem dX9_faults_45 : decode cX9_faults 45 = .ok (.ireturn, 1) := by decide +kernel
theorem dX9_faults_46 : decode cX9_faults 46 = .ok (.iload_n 1, 1) := by decide +kernel
theorem dX9_faults_47 : decode cX9_faults 47 = .ok (.iconst 2, 1) := by decide +kernel
theorem dX9_faults_48 : decode cX9_faults 48 = .ok (.if_icmp .ne 10, 3) := by decide +kernel
theorem dX9_faults_51 : decode cX9_faults 51 = .ok (.aload_n 0, 1) := by decide +kernel
theorem dX9_faults_52 : decode cX9_faults 52 = .ok (.invokevirtual 209, 3) := by decide +kernel
theorem dX9_faults_55 : decode cX9_faults 55 = .ok (.goto 9, 3) := by decide +kernel
theorem dX9_faults_58 : decode cX9_faults 58 = .ok (.aload_n 0, 1) := by decide +kernel
theorem dX9_faults_59 : decode cX9_faults 59 = .ok (.iload_n 1, 1) := by decide +kernel
theorem dX9_faults_60 : decode cX9_faults 60 = .ok (.iload_n 2, 1) := by decide +kernel
theorem dX9_faults_61 : decode cX9_faults 61 = .ok (.invokevirtual 212, 3) := by decide +kernel
theorem dX9_faults_64 : decode cX9_faults 64 = .ok (.ireturn, 1) := by decide +kernel
theorem dX9_indeed_0 : decode cX9_indeed 0 = .ok (.aload_n 0, 1) := by decide +kernel
theorem dX9_indeed_1 : decode cX9_indeed 1 = .ok (.invokevirtual 209, 3) := by decide +kernel
theorem dX9_indeed_4 : decode cX9_indeed 4 = .ok (.istore_n 1, 1) := by decide +kernel
theorem dX9_indeed_5 : decode cX9_indeed 5 = .ok (.iconst 0, 1) := by decide +kernel
theorem dX9_indeed_6 : decode cX9_indeed 6 = .ok (.istore_n 2, 1) := by decide +kernel
theorem dX9_indeed_7 : decode cX9_indeed 7 = .ok (.iload_n 2, 1) := by decide +kernel
theorem dX9_indeed_8 : decode cX9_indeed 8 = .ok (.aload_n 0, 1) := by decide +kernel
theorem dX9_indeed_9 : decode cX9_indeed 9 = .ok (.getfield 7, 3) := by decide +kernel
theorem dX9_indeed_12 : decode cX9_indeed 12 = .ok (.if_icmp .ge 25, 3) := by decide +kernel
theorem dX9_indeed_15 : decode cX9_indeed 15 = .ok (.iload_n 1, 1) := by decide +kernel
theorem dX9_indeed_16 : decode cX9_indeed 16 = .ok (.aload_n 0, 1) := by decide +kernel
theorem dX9_indeed_17 : decode cX9_indeed 17 = .ok (.iconst 0, 1) := by decide +kernel
theorem dX9_indeed_18 : decode cX9_indeed 18 = .ok (.iload_n 2, 1) := by decide +kernel
theorem dX9_indeed_19 : decode cX9_indeed 19 = .ok (.invokevirtual 212, 3) := by decide +kernel
theorem dX9_indeed_22 : decode cX9_indeed 22 = .ok (.aload_n 0, 1) := by decide +kernel
theorem dX9_indeed_23 : decode cX9_indeed 23 = .ok (.iconst 1, 1) := by decide +kernel
theorem dX9_indeed_24 : decode cX9_indeed 24 = .ok (.iload_n 2, 1) := by decide +kernel
theorem dX9_indeed_25 : decode cX9_indeed 25 = .ok (.invokevirtual 212, 3) := by decide +kernel
theorem dX9_indeed_28 : decode cX9_indeed 28 = .ok (.iadd, 1) := by decide +kernel
theorem dX9_indeed_29 : decode cX9_indeed 29 = .ok (.iadd, 1) := by decide +kernel
theorem dX9_indeed_30 : decode cX9_indeed 30 = .ok (.istore_n 1, 1) := by decide +kernel
theorem dX9_indeed_31 : decode cX9_indeed 31 = .ok (.iinc 2 1, 3) := by decide +kernel
theorem dX9_indeed_34 : decode cX9_indeed 34 = .ok (.goto (-27), 3) := by decide +kernel
theorem dX9_indeed_37 : decode cX9_indeed 37 = .ok (.iload_n 1, 1) := by decide +kernel
theorem dX9_indeed_38 : decode cX9_indeed 38 = .ok (.ifCond .ne 7, 3) := by decide +kernel
theorem dX9_indeed_41 : decode cX9_indeed 41 = .ok (.iconst 1, 1) := by decide +kernel
theorem dX9_indeed_42 : decode cX9_indeed 42 = .ok (.goto 4, 3) := by decide +kernel
theorem dX9_indeed_45 : decode cX9_indeed 45 = .ok (.iconst 0, 1) := by decide +kernel
theorem dX9_indeed_46 : decode cX9_indeed 46 = .ok (.ireturn, 1) := by decide +kernel
theorem dX9_faced_0 : decode cX9_faced 0 = .ok (.iconst 0, 1) := by decide +kernel
theorem dX9_faced_1 : decode cX9_faced 1 = .ok (.istore_n 1, 1) := by decide +kernel
theorem dX9_faced_2 : decode cX9_faced 2 = .ok (.iconst 0, 1) := by decide +kernel
theorem dX9_faced_3 : decode cX9_faced 3 = .ok (.istore_n 2, 1) := by decide +kernel
theorem dX9_faced_4 : decode cX9_faced 4 = .ok (.iload_n 2, 1) := by decide +kernel
theorem dX9_faced_5 : decode cX9_faced 5 = .ok (.aload_n 0, 1) := by decide +kernel
theorem dX9_faced_6 : decode cX9_faced 6 = .ok (.getfield 7, 3) := by decide +kernel
theorem dX9_faced_9 : decode cX9_faced 9 = .ok (.if_icmp .ge 79, 3) := by decide +kernel
theorem dX9_faced_12 : decode cX9_faced 12 = .ok (.iconst 0, 1) := by decide +kernel
theorem dX9_faced_13 : decode cX9_faced 13 = .ok (.istore_n 3, 1) := by decide +kernel
theorem dX9_faced_14 : decode cX9_faced 14 = .ok (.iload_n 3, 1) := by decide +kernel
theorem dX9_faced_15 : decode cX9_faced 15 = .ok (.aload_n 0, 1) := by decide +kernel
theorem dX9_faced_16 : decode cX9_faced 16 = .ok (.getfield 7, 3) := by decide +kernel
theorem dX9_faced_19 : decode cX9_faced 19 = .ok (.if_icmp .ge 63, 3) := by decide +kernel
theorem dX9_faced_22 : decode cX9_faced 22 = .ok (.iload_n 1, 1) := by decide +kernel
theorem dX9_faced_23 : decode cX9_faced 23 = .ok (.iload_n 2, 1) := by decide +kernel
theorem dX9_faced_24 : decode cX9_faced 24 = .ok (.iload_n 3, 1) := by decide +kernel
theorem dX9_faced_25 : decode cX9_faced 25 = .ok (.if_icmp .eq 48, 3) := by decide +kernel
theorem dX9_faced_28 : decode cX9_faced 28 = .ok (.aload_n 0, 1) := by decide +kernel
theorem dX9_faced_29 : decode cX9_faced 29 = .ok (.getfield 17, 3) := by decide +kernel
theorem dX9_faced_32 : decode cX9_faced 32 = .ok (.aload_n 0, 1) := by decide +kernel
theorem dX9_faced_33 : decode cX9_faced 33 = .ok (.iload_n 2, 1) := by decide +kernel
theorem dX9_faced_34 : decode cX9_faced 34 = .ok (.iload_n 3, 1) := by decide +kernel
theorem dX9_faced_35 : decode cX9_faced 35 = .ok (.invokevirtual 194, 3) := by decide +kernel
theorem dX9_faced_38 : decode cX9_faced 38 = .ok (.iaload, 1) := by decide +kernel
theorem dX9_faced_39 : decode cX9_faced 39 = .ok (.ifCond .ge 7, 3) := by decide +kernel
theorem dX9_faced_42 : decode cX9_faced 42 = .ok (.iconst 1, 1) := by decide +kernel
theorem dX9_faced_43 : decode cX9_faced 43 = .ok (.goto 4, 3) := by decide +kernel
theorem dX9_faced_46 : decode cX9_faced 46 = .ok (.iconst 0, 1) := by decide +kernel
theorem dX9_faced_47 : decode cX9_faced 47 = .ok (.aload_n 0, 1) := by decide +kernel
theorem dX9_faced_48 : decode cX9_faced 48 = .ok (.getfield 17, 3) := by decide +kernel
theorem dX9_faced_51 : decode cX9_faced 51 = .ok (.aload_n 0, 1) := by decide +kernel
theorem dX9_faced_52 : decode cX9_faced 52 = .ok (.iload_n 3, 1) := by decide +kernel
theorem dX9_faced_53 : decode cX9_faced 53 = .ok (.iload_n 2, 1) := by decide +kernel
theorem dX9_faced_54 : decode cX9_faced 54 = .ok (.invokevirtual 194, 3) := by decide +kernel
theorem dX9_faced_57 : decode cX9_faced 57 = .ok (.iaload, 1) := by decide +kernel
theorem dX9_faced_58 : decode cX9_faced 58 = .ok (.ifCond .ge 7, 3) := by decide +kernel
theorem dX9_faced_61 : decode cX9_faced 61 = .ok (.iconst 1, 1) := by decide +kernel
theorem dX9_faced_62 : decode cX9_faced 62 = .ok (.goto 4, 3) := by decide +kernel
theorem dX9_faced_65 : decode cX9_faced 65 = .ok (.iconst 0, 1) := by decide +kernel
theorem dX9_faced_66 : decode cX9_faced 66 = .ok (.if_icmp .ne 7, 3) := by decide +kernel
theorem dX9_faced_69 : decode cX9_faced 69 = .ok (.iconst 1, 1) := by decide +kernel
theorem dX9_faced_70 : decode cX9_faced 70 = .ok (.goto 4, 3) := by decide +kernel
theorem dX9_faced_73 : decode cX9_faced 73 = .ok (.iconst 0, 1) := by decide +kernel
theorem dX9_faced_74 : decode cX9_faced 74 = .ok (.iadd, 1) := by decide +kernel
theorem dX9_faced_75 : decode cX9_faced 75 = .ok (.istore_n 1, 1) := by decide +kernel
theorem dX9_faced_76 : decode cX9_faced 76 = .ok (.iinc 3 1, 3) := by decide +kernel
theorem dX9_faced_79 : decode cX9_faced 79 = .ok (.goto (-65), 3) := by decide +kernel
theorem dX9_faced_82 : decode cX9_faced 82 = .ok (.iinc 2 1, 3) := by decide +kernel
theorem dX9_faced_85 : decode cX9_faced 85 = .ok (.goto (-81), 3) := by decide +kernel
theorem dX9_faced_88 : decode cX9_faced 88 = .ok (.iload_n 1, 1) := by decide +kernel
theorem dX9_faced_89 : decode cX9_faced 89 = .ok (.ireturn, 1) := by decide +kernel
theorem dX9_where_0 : decode cX9_where 0 = .ok (.iload_n 1, 1) := by decide +kernel
theorem dX9_where_1 : decode cX9_where 1 = .ok (.ifCond .lt 7, 3) := by decide +kernel
theorem dX9_where_4 : decode cX9_where 4 = .ok (.iload_n 2, 1) := by decide +kernel
theorem dX9_where_5 : decode cX9_where 5 = .ok (.ifCond .ge 10, 3) := by decide +kernel
theorem dX9_where_8 : decode cX9_where 8 = .ok (.aload_n 0, 1) := by decide +kernel
theorem dX9_where_9 : decode cX9_where 9 = .ok (.bipush (-4), 2) := by decide +kernel
theorem dX9_where_11 : decode cX9_where 11 = .ok (.invokevirtual 90, 3) := by decide +kernel
theorem dX9_where_14 : decode cX9_where 14 = .ok (.ireturn, 1) := by decide +kernel
theorem dX9_where_15 : decode cX9_where 15 = .ok (.iload_n 1, 1) := by decide +kernel
theorem dX9_where_16 : decode cX9_where 16 = .ok (.aload_n 0, 1) := by decide +kernel
theorem dX9_where_17 : decode cX9_where 17 = .ok (.getfield 7, 3) := by decide +kernel
theorem dX9_where_20 : decode cX9_where 20 = .ok (.if_icmp .gt 11, 3) := by decide +kernel
theorem dX9_where_23 : decode cX9_where 23 = .ok (.iload_n 2, 1) := by decide +kernel
theorem dX9_where_24 : decode cX9_where 24 = .ok (.aload_n 0, 1) := by decide +kernel
theorem dX9_where_25 : decode cX9_where 25 = .ok (.getfield 7, 3) := by decide +kernel
theorem dX9_where_28 : decode cX9_where 28 = .ok (.if_icmp .le 10, 3) := by decide +kernel
theorem dX9_where_31 : decode cX9_where 31 = .ok (.aload_n 0, 1) := by decide +kernel
theorem dX9_where_32 : decode cX9_where 32 = .ok (.bipush (-6), 2) := by decide +kernel
theorem dX9_where_34 : decode cX9_where 34 = .ok (.invokevirtual 90, 3) := by decide +kernel
theorem dX9_where_37 : decode cX9_where 37 = .ok (.ireturn, 1) := by decide +kernel
theorem dX9_where_38 : decode cX9_where 38 = .ok (.iload_n 1, 1) := by decide +kernel
theorem dX9_where_39 : decode cX9_where 39 = .ok (.iload_n 2, 1) := by decide +kernel
theorem dX9_where_40 : decode cX9_where 40 = .ok (.if_icmp .ne 10, 3) := by decide +kernel
theorem dX9_where_43 : decode cX9_where 43 = .ok (.aload_n 0, 1) := by decide +kernel
theorem dX9_where_44 : decode cX9_where 44 = .ok (.bipush (-3), 2) := by decide +kernel
theorem dX9_where_46 : decode cX9_where 46 = .ok (.invokevirtual 90, 3) := by decide +kernel
theorem dX9_where_49 : decode cX9_where 49 = .ok (.ireturn, 1) := by decide +kernel
theorem dX9_where_50 : decode cX9_where 50 = .ok (.iconst 0, 1) := by decide +kernel
theorem dX9_where_51 : decode cX9_where 51 = .ok (.istore_n 3, 1) := by decide +kernel
theorem dX9_where_52 : decode cX9_where 52 = .ok (.iload_n 3, 1) := by decide +kernel
theorem dX9_where_53 : decode cX9_where 53 = .ok (.aload_n 0, 1) := by decide +kernel
theorem dX9_where_54 : decode cX9_where 54 = .ok (.getfield 7, 3) := by decide +kernel
theorem dX9_where_57 : decode cX9_where 57 = .ok (.if_icmp .ge 77, 3) := by decide +kernel
theorem dX9_where_60 : decode cX9_where 60 = .ok (.iconst 0, 1) := by decide +kernel
theorem dX9_where_61 : decode cX9_where 61 = .ok (.istore 4, 2) := by decide +kernel
theorem dX9_where_63 : decode cX9_where 63 = .ok (.iload 4, 2) := by decide +kernel
theorem dX9_where_65 : decode cX9_where 65 = .ok (.aload_n 0, 1) := by decide +kernel
theorem dX9_where_66 : decode cX9_where 66 = .ok (.getfield 7, 3) := by decide +kernel
theorem dX9_where_69 : decode cX9_where 69 = .ok (.if_icmp .ge 59, 3) := by decide +kernel
theorem dX9_where_72 : decode cX9_where 72 = .ok (.aload_n 0, 1) := by decide +kernel
theorem dX9_where_73 : decode cX9_where 73 = .ok (.getfield 17, 3) := by decide +kernel
theorem dX9_where_76 : decode cX9_where 76 = .ok (.aload_n 0, 1) := by decide +kernel
theorem dX9_where_77 : decode cX9_where 77 = .ok (.iload_n 3, 1) := by decide +kernel
theorem dX9_where_78 : decode cX9_where 78 = .ok (.iload 4, 2) := by decide +kernel
theorem dX9_where_80 : decode cX9_where 80 = .ok (.invokevirtual 194, 3) := by decide +kernel
theorem dX9_where_83 : decode cX9_where 83 = .ok (.iaload, 1) := by decide +kernel
theorem dX9_where_84 : decode cX9_where 84 = .ok (.iload_n 1, 1) := by decide +kernel
theorem dX9_where_85 : decode cX9_where 85 = .ok (.iload_n 2, 1) := by decide +kernel
theorem dX9_where_86 : decode cX9_where 86 = .ok (.invokestatic 135, 3) := by decide +kernel
theorem dX9_where_89 : decode cX9_where 89 = .ok (.if_icmp .ne 33, 3) := by decide +kernel
theorem dX9_where_92 : decode cX9_where 92 = .ok (.aload_n 0, 1) := by decide +kernel
theorem dX9_where_93 : decode cX9_where 93 = .ok (.getfield 17, 3) := by decide +kernel
theorem dX9_where_96 : decode cX9_where 96 = .ok (.aload_n 0, 1) := by decide +kernel
theorem dX9_where_97 : decode cX9_where 97 = .ok (.iload_n 3, 1) := by decide +kernel
theorem dX9_where_98 : decode cX9_where 98 = .ok (.iload 4, 2) := by decide +kernel
theorem dX9_where_100 : decode cX9_where 100 = .ok (.invokevirtual 194, 3) := by decide +kernel
theorem dX9_where_103 : decode cX9_where 103 = .ok (.iconst 1, 1) := by decide +kernel
theorem dX9_where_104 : decode cX9_where 104 = .ok (.iadd, 1) := by decide +kernel
theorem dX9_where_105 : decode cX9_where 105 = .ok (.iaload, 1) := by decide +kernel
theorem dX9_where_106 : decode cX9_where 106 = .ok (.iload_n 1, 1) := by decide +kernel
theorem dX9_where_107 : decode cX9_where 107 = .ok (.iload_n 2, 1) := by decide +kernel
theorem dX9_where_108 : decode cX9_where 108 = .ok (.invokestatic 215, 3) := by decide +kernel
theorem dX9_where_111 : decode cX9_where 111 = .ok (.if_icmp .ne 11, 3) := by decide +kernel
theorem dX9_where_114 : decode cX9_where 114 = .ok (.bipush 100, 2) := by decide +kernel
theorem dX9_where_116 : decode cX9_where 116 = .ok (.iload_n 3, 1) := by decide +kernel
theorem dX9_where_117 : decode cX9_where 117 = .ok (.imul, 1) := by decide +kernel
theorem dX9_where_118 : decode cX9_where 118 = .ok (.iload 4, 2) := by decide +kernel
theorem dX9_where_120 : decode cX9_where 120 = .ok (.iadd, 1) := by decide +kernel
theorem dX9_where_121 : decode cX9_where 121 = .ok (.ireturn, 1) := by decide +kernel
theorem dX9_where_122 : decode cX9_where 122 = .ok (.iinc 4 1, 3) := by decide +kernel
theorem dX9_where_125 : decode cX9_where 125 = .ok (.goto (-62), 3) := by decide +kernel
theorem dX9_where_128 : decode cX9_where 128 = .ok (.iinc 3 1, 3) := by decide +kernel
theorem dX9_where_131 : decode cX9_where 131 = .ok (.goto (-79), 3) := by decide +kernel
theorem dX9_where_134 : decode cX9_where 134 = .ok (.bipush (-9), 2) := by decide +kernel
theorem dX9_where_136 : decode cX9_where 136 = .ok (.ireturn, 1) := by decide +kernel
theorem dX9_draws_0 : decode cX9_draws 0 = .ok (.aload_n 0, 1) := by decide +kernel
theorem dX9_draws_1 : decode cX9_draws 1 = .ok (.aload_n 0, 1) := by decide +kernel
theorem dX9_draws_2 : decode cX9_draws 2 = .ok (.getfield 218, 3) := by decide +kernel
theorem dX9_draws_5 : decode cX9_draws 5 = .ok (.ldc 221, 2) := by decide +kernel
theorem dX9_draws_7 : decode cX9_draws 7 = .ok (.imul, 1) := by decide +kernel
theorem dX9_draws_8 : decode cX9_draws 8 = .ok (.ldc 222, 2) := by decide +kernel
theorem dX9_draws_10 : decode cX9_draws 10 = .ok (.iadd, 1) := by decide +kernel
theorem dX9_draws_11 : decode cX9_draws 11 = .ok (.putfield 218, 3) := by decide +kernel
theorem dX9_draws_14 : decode cX9_draws 14 = .ok (.aload_n 0, 1) := by decide +kernel
theorem dX9_draws_15 : decode cX9_draws 15 = .ok (.getfield 218, 3) := by decide +kernel
theorem dX9_draws_18 : decode cX9_draws 18 = .ok (.ldc 223, 2) := by decide +kernel
theorem dX9_draws_20 : decode cX9_draws 20 = .ok (.iand, 1) := by decide +kernel
theorem dX9_draws_21 : decode cX9_draws 21 = .ok (.sipush 256, 3) := by decide +kernel
theorem dX9_draws_24 : decode cX9_draws 24 = .ok (.idiv, 1) := by decide +kernel
theorem dX9_draws_25 : decode cX9_draws 25 = .ok (.iload_n 1, 1) := by decide +kernel
theorem dX9_draws_26 : decode cX9_draws 26 = .ok (.irem, 1) := by decide +kernel
theorem dX9_draws_27 : decode cX9_draws 27 = .ok (.ireturn, 1) := by decide +kernel
theorem dX9_lots_0 : decode cX9_lots 0 = .ok (.iload_n 1, 1) := by decide +kernel
theorem dX9_lots_1 : decode cX9_lots 1 = .ok (.i2l, 1) := by decide +kernel
theorem dX9_lots_2 : decode cX9_lots 2 = .ok (.lconst 1, 1) := by decide +kernel
theorem dX9_lots_3 : decode cX9_lots 3 = .ok (.ldc2_w 224, 3) := by decide +kernel
theorem dX9_lots_6 : decode cX9_lots 6 = .ok (.invokestatic 98, 3) := by decide +kernel
theorem dX9_lots_9 : decode cX9_lots 9 = .ok (.ifCond .ne 20, 3) := by decide +kernel
theorem dX9_lots_12 : decode cX9_lots 12 = .ok (.aload_n 0, 1) := by decide +kernel
theorem dX9_lots_13 : decode cX9_lots 13 = .ok (.iload_n 1, 1) := by decide +kernel
theorem dX9_lots_14 : decode cX9_lots 14 = .ok (.iconst 1, 1) := by decide +kernel
theorem dX9_lots_15 : decode cX9_lots 15 = .ok (.if_icmp .ge 8, 3) := by decide +kernel
theorem dX9_lots_18 : decode cX9_lots 18 = .ok (.bipush (-4), 2) := by decide +kernel
theorem dX9_lots_20 : decode cX9_lots 20 = .ok (.goto 5, 3) := by decide +kernel
theorem dX9_lots_23 : decode cX9_lots 23 = .ok (.bipush (-6), 2) := by decide +kernel
theorem dX9_lots_25 : decode cX9_lots 25 = .ok (.invokevirtual 90, 3) := by decide +kernel
theorem dX9_lots_28 : decode cX9_lots 28 = .ok (.ireturn, 1) := by decide +kernel
theorem dX9_lots_29 : decode cX9_lots 29 = .ok (.iload_n 3, 1) := by decide +kernel
theorem dX9_lots_30 : decode cX9_lots 30 = .ok (.i2l, 1) := by decide +kernel
theorem dX9_lots_31 : decode cX9_lots 31 = .ok (.lconst 0, 1) := by decide +kernel
theorem dX9_lots_32 : decode cX9_lots 32 = .ok (.lconst 1, 1) := by decide +kernel
theorem dX9_lots_33 : decode cX9_lots 33 = .ok (.invokestatic 98, 3) := by decide +kernel
theorem dX9_lots_36 : decode cX9_lots 36 = .ok (.ifCond .ne 10, 3) := by decide +kernel
theorem dX9_lots_39 : decode cX9_lots 39 = .ok (.aload_n 0, 1) := by decide +kernel
theorem dX9_lots_40 : decode cX9_lots 40 = .ok (.bipush (-2), 2) := by decide +kernel
theorem dX9_lots_42 : decode cX9_lots 42 = .ok (.invokevirtual 90, 3) := by decide +kernel
theorem dX9_lots_45 : decode cX9_lots 45 = .ok (.ireturn, 1) := by decide +kernel
theorem dX9_lots_46 : decode cX9_lots 46 = .ok (.aload_n 0, 1) := by decide +kernel
theorem dX9_lots_47 : decode cX9_lots 47 = .ok (.getfield 87, 3) := by decide +kernel
theorem dX9_lots_50 : decode cX9_lots 50 = .ok (.ifCond .ne 10, 3) := by decide +kernel
theorem dX9_lots_53 : decode cX9_lots 53 = .ok (.aload_n 0, 1) := by decide +kernel
theorem dX9_lots_54 : decode cX9_lots 54 = .ok (.bipush (-3), 2) := by decide +kernel
theorem dX9_lots_56 : decode cX9_lots 56 = .ok (.invokevirtual 90, 3) := by decide +kernel
theorem dX9_lots_59 : decode cX9_lots 59 = .ok (.ireturn, 1) := by decide +kernel
theorem dX9_lots_60 : decode cX9_lots 60 = .ok (.aload_n 0, 1) := by decide +kernel
theorem dX9_lots_61 : decode cX9_lots 61 = .ok (.iload_n 2, 1) := by decide +kernel
theorem dX9_lots_62 : decode cX9_lots 62 = .ok (.putfield 218, 3) := by decide +kernel
theorem dX9_lots_65 : decode cX9_lots 65 = .ok (.aload_n 0, 1) := by decide +kernel
theorem dX9_lots_66 : decode cX9_lots 66 = .ok (.getfield 13, 3) := by decide +kernel
theorem dX9_lots_69 : decode cX9_lots 69 = .ok (.iconst 0, 1) := by decide +kernel
theorem dX9_lots_70 : decode cX9_lots 70 = .ok (.aload_n 0, 1) := by decide +kernel
theorem dX9_lots_71 : decode cX9_lots 71 = .ok (.getfield 44, 3) := by decide +kernel
theorem dX9_lots_74 : decode cX9_lots 74 = .ok (.iconst 0, 1) := by decide +kernel
theorem dX9_lots_75 : decode cX9_lots 75 = .ok (.bipush 18, 2) := by decide +kernel
theorem dX9_lots_77 : decode cX9_lots 77 = .ok (.invokestatic 83, 3) := by decide +kernel
theorem dX9_lots_80 : decode cX9_lots 80 = .ok (.iconst 0, 1) := by decide +kernel
theorem dX9_lots_81 : decode cX9_lots 81 = .ok (.istore 4, 2) := by decide +kernel
theorem dX9_lots_83 : decode cX9_lots 83 = .ok (.iconst 0, 1) := by decide +kernel
theorem dX9_lots_84 : decode cX9_lots 84 = .ok (.istore 5, 2) := by decide +kernel
theorem dX9_lots_86 : decode cX9_lots 86 = .ok (.iload 5, 2) := by decide +kernel
theorem dX9_lots_88 : decode cX9_lots 88 = .ok (.iload_n 1, 1) := by decide +kernel
theorem dX9_lots_89 : decode cX9_lots 89 = .ok (.if_icmp .ge 133, 3) := by decide +kernel
theorem dX9_lots_92 : decode cX9_lots 92 = .ok (.aload_n 0, 1) := by decide +kernel
theorem dX9_lots_93 : decode cX9_lots 93 = .ok (.aload_n 0, 1) := by decide +kernel
theorem dX9_lots_94 : decode cX9_lots 94 = .ok (.getfield 87, 3) := by decide +kernel
theorem dX9_lots_97 : decode cX9_lots 97 = .ok (.invokevirtual 226, 3) := by decide +kernel
theorem dX9_lots_100 : decode cX9_lots 100 = .ok (.istore 6, 2) := by decide +kernel
theorem dX9_lots_102 : decode cX9_lots 102 = .ok (.aload_n 0, 1) := by decide +kernel
theorem dX9_lots_103 : decode cX9_lots 103 = .ok (.aload_n 0, 1) := by decide +kernel
theorem dX9_lots_104 : decode cX9_lots 104 = .ok (.getfield 87, 3) := by decide +kernel
theorem dX9_lots_107 : decode cX9_lots 107 = .ok (.invokevirtual 226, 3) := by decide +kernel
theorem dX9_lots_110 : decode cX9_lots 110 = .ok (.istore 7, 2) := by decide +kernel
theorem dX9_lots_112 : decode cX9_lots 112 = .ok (.iload 6, 2) := by decide +kernel
theorem dX9_lots_114 : decode cX9_lots 114 = .ok (.iload 7, 2) := by decide +kernel
theorem dX9_lots_116 : decode cX9_lots 116 = .ok (.if_icmp .eq 49, 3) := by decide +kernel
theorem dX9_lots_119 : decode cX9_lots 119 = .ok (.aload_n 0, 1) := by decide +kernel
theorem dX9_lots_120 : decode cX9_lots 120 = .ok (.getfield 44, 3) := by decide +kernel
theorem dX9_lots_123 : decode cX9_lots 123 = .ok (.iconst 3, 1) := by decide +kernel
theorem dX9_lots_124 : decode cX9_lots 124 = .ok (.iload 6, 2) := by decide +kernel
theorem dX9_lots_126 : decode cX9_lots 126 = .ok (.imul, 1) := by decide +kernel
theorem dX9_lots_127 : decode cX9_lots 127 = .ok (.iaload, 1) := by decide +kernel
theorem dX9_lots_128 : decode cX9_lots 128 = .ok (.aload_n 0, 1) := by decide +kernel
theorem dX9_lots_129 : decode cX9_lots 129 = .ok (.getfield 44, 3) := by decide +kernel
theorem dX9_lots_132 : decode cX9_lots 132 = .ok (.iconst 3, 1) := by decide +kernel
theorem dX9_lots_133 : decode cX9_lots 133 = .ok (.iload 7, 2) := by decide +kernel
theorem dX9_lots_135 : decode cX9_lots 135 = .ok (.imul, 1) := by decide +kernel
theorem dX9_lots_136 : decode cX9_lots 136 = .ok (.iconst 1, 1) := by decide +kernel
theorem dX9_lots_137 : decode cX9_lots 137 = .ok (.iadd, 1) := by decide +kernel
theorem dX9_lots_138 : decode cX9_lots 138 = .ok (.iaload, 1) := by decide +kernel
theorem dX9_lots_139 : decode cX9_lots 139 = .ok (.if_icmp .eq 77, 3) := by decide +kernel
theorem dX9_lots_142 : decode cX9_lots 142 = .ok (.aload_n 0, 1) := by decide +kernel
theorem dX9_lots_143 : decode cX9_lots 143 = .ok (.getfield 44, 3) := by decide +kernel
theorem dX9_lots_146 : decode cX9_lots 146 = .ok (.iconst 3, 1) := by decide +kernel
theorem dX9_lots_147 : decode cX9_lots 147 = .ok (.iload 7, 2) := by decide +kernel
theorem dX9_lots_149 : decode cX9_lots 149 = .ok (.imul, 1) := by decide +kernel
theorem dX9_lots_150 : decode cX9_lots 150 = .ok (.iaload, 1) := by decide +kernel
theorem dX9_lots_151 : decode cX9_lots 151 = .ok (.aload_n 0, 1) := by decide +kernel
theorem dX9_lots_152 : decode cX9_lots 152 = .ok (.getfield 44, 3) := by decide +kernel
theorem dX9_lots_155 : decode cX9_lots 155 = .ok (.iconst 3, 1) := by decide +kernel
theorem dX9_lots_156 : decode cX9_lots 156 = .ok (.iload 6, 2) := by decide +kernel
theorem dX9_lots_158 : decode cX9_lots 158 = .ok (.imul, 1) := by decide +kernel
theorem dX9_lots_159 : decode cX9_lots 159 = .ok (.iconst 1, 1) := by decide +kernel
theorem dX9_lots_160 : decode cX9_lots 160 = .ok (.iadd, 1) := by decide +kernel
theorem dX9_lots_161 : decode cX9_lots 161 = .ok (.iaload, 1) := by decide +kernel
theorem dX9_lots_162 : decode cX9_lots 162 = .ok (.if_icmp .eq 54, 3) := by decide +kernel
theorem dX9_lots_165 : decode cX9_lots 165 = .ok (.aload_n 0, 1) := by decide +kernel
theorem dX9_lots_166 : decode cX9_lots 166 = .ok (.getfield 44, 3) := by decide +kernel
theorem dX9_lots_169 : decode cX9_lots 169 = .ok (.iconst 3, 1) := by decide +kernel
theorem dX9_lots_170 : decode cX9_lots 170 = .ok (.iload 6, 2) := by decide +kernel
theorem dX9_lots_172 : decode cX9_lots 172 = .ok (.imul, 1) := by decide +kernel
theorem dX9_lots_173 : decode cX9_lots 173 = .ok (.iconst 1, 1) := by decide +kernel
theorem dX9_lots_174 : decode cX9_lots 174 = .ok (.iadd, 1) := by decide +kernel
theorem dX9_lots_175 : decode cX9_lots 175 = .ok (.iaload, 1) := by decide +kernel
theorem dX9_lots_176 : decode cX9_lots 176 = .ok (.istore 8, 2) := by decide +kernel
theorem dX9_lots_178 : decode cX9_lots 178 = .ok (.aload_n 0, 1) := by decide +kernel
theorem dX9_lots_179 : decode cX9_lots 179 = .ok (.getfield 44, 3) := by decide +kernel
theorem dX9_lots_182 : decode cX9_lots 182 = .ok (.iconst 3, 1) := by decide +kernel
theorem dX9_lots_183 : decode cX9_lots 183 = .ok (.iload 6, 2) := by decide +kernel
theorem dX9_lots_185 : decode cX9_lots 185 = .ok (.imul, 1) := by decide +kernel
theorem dX9_lots_186 : decode cX9_lots 186 = .ok (.iconst 1, 1) := by decide +kernel
theorem dX9_lots_187 : decode cX9_lots 187 = .ok (.iadd, 1) := by decide +kernel
theorem dX9_lots_188 : decode cX9_lots 188 = .ok (.aload_n 0, 1) := by decide +kernel
theorem dX9_lots_189 : decode cX9_lots 189 = .ok (.getfield 44, 3) := by decide +kernel
theorem dX9_lots_192 : decode cX9_lots 192 = .ok (.iconst 3, 1) := by decide +kernel
theorem dX9_lots_193 : decode cX9_lots 193 = .ok (.iload 7, 2) := by decide +kernel
theorem dX9_lots_195 : decode cX9_lots 195 = .ok (.imul, 1) := by decide +kernel
theorem dX9_lots_196 : decode cX9_lots 196 = .ok (.iconst 1, 1) := by decide +kernel
theorem dX9_lots_197 : decode cX9_lots 197 = .ok (.iadd, 1) := by decide +kernel
theorem dX9_lots_198 : decode cX9_lots 198 = .ok (.iaload, 1) := by decide +kernel
theorem dX9_lots_199 : decode cX9_lots 199 = .ok (.iastore, 1) := by decide +kernel
theorem dX9_lots_200 : decode cX9_lots 200 = .ok (.aload_n 0, 1) := by decide +kernel
theorem dX9_lots_201 : decode cX9_lots 201 = .ok (.getfield 44, 3) := by decide +kernel
theorem dX9_lots_204 : decode cX9_lots 204 = .ok (.iconst 3, 1) := by decide +kernel
theorem dX9_lots_205 : decode cX9_lots 205 = .ok (.iload 7, 2) := by decide +kernel
theorem dX9_lots_207 : decode cX9_lots 207 = .ok (.imul, 1) := by decide +kernel
theorem dX9_lots_208 : decode cX9_lots 208 = .ok (.iconst 1, 1) := by decide +kernel
theorem dX9_lots_209 : decode cX9_lots 209 = .ok (.iadd, 1) := by decide +kernel
theorem dX9_lots_210 : decode cX9_lots 210 = .ok (.iload 8, 2) := by decide +kernel
theorem dX9_lots_212 : decode cX9_lots 212 = .ok (.iastore, 1) := by decide +kernel
theorem dX9_lots_213 : decode cX9_lots 213 = .ok (.iinc 4 1, 3) := by decide +kernel
theorem dX9_lots_216 : decode cX9_lots 216 = .ok (.iinc 5 1, 3) := by decide +kernel
theorem dX9_lots_219 : decode cX9_lots 219 = .ok (.goto (-133), 3) := by decide +kernel
theorem dX9_lots_222 : decode cX9_lots 222 = .ok (.iconst 0, 1) := by decide +kernel
theorem dX9_lots_223 : decode cX9_lots 223 = .ok (.istore 5, 2) := by decide +kernel
theorem dX9_lots_225 : decode cX9_lots 225 = .ok (.iconst 0, 1) := by decide +kernel
theorem dX9_lots_226 : decode cX9_lots 226 = .ok (.istore 6, 2) := by decide +kernel
theorem dX9_lots_228 : decode cX9_lots 228 = .ok (.iload 6, 2) := by decide +kernel
theorem dX9_lots_230 : decode cX9_lots 230 = .ok (.aload_n 0, 1) := by decide +kernel
