theorem dX6_copyFrom_15 : decode cX6_copyFrom 15 = .ok (.aload_n 1, 1) := by decide +kernel
theorem dX6_copyFrom_16 : decode cX6_copyFrom 16 = .ok (.getfield 21, 3) := by decide +kernel
theorem dX6_copyFrom_19 : decode cX6_copyFrom 19 = .ok (.invokevirtual 36, 3) := by decide +kernel
theorem dX6_copyFrom_22 : decode cX6_copyFrom 22 = .ok (.aload_n 0, 1) := by decide +kernel
theorem dX6_copyFrom_23 : decode cX6_copyFrom 23 = .ok (.getfield 28, 3) := by decide +kernel
theorem dX6_copyFrom_26 : decode cX6_copyFrom 26 = .ok (.aload_n 1, 1) := by decide +kernel
theorem dX6_copyFrom_27 : decode cX6_copyFrom 27 = .ok (.getfield 28, 3) := by decide +kernel
theorem dX6_copyFrom_30 : decode cX6_copyFrom 30 = .ok (.invokevirtual 39, 3) := by decide +kernel
theorem dX6_copyFrom_33 : decode cX6_copyFrom 33 = .ok (.return_, 1) := by decide +kernel
theorem dX6_resize_0 : decode cX6_resize 0 = .ok (.aload_n 0, 1) := by decide +kernel
theorem dX6_resize_1 : decode cX6_resize 1 = .ok (.getfield 12, 3) := by decide +kernel
theorem dX6_resize_4 : decode cX6_resize 4 = .ok (.iload_n 1, 1) := by decide +kernel
theorem dX6_resize_5 : decode cX6_resize 5 = .ok (.invokevirtual 42, 3) := by decide +kernel
theorem dX6_resize_8 : decode cX6_resize 8 = .ok (.aload_n 0, 1) := by decide +kernel
theorem dX6_resize_9 : decode cX6_resize 9 = .ok (.getfield 21, 3) := by decide +kernel
theorem dX6_resize_12 : decode cX6_resize 12 = .ok (.iconst 0, 1) := by decide +kernel
theorem dX6_resize_13 : decode cX6_resize 13 = .ok (.putfield 46, 3) := by decide +kernel
theorem dX6_resize_16 : decode cX6_resize 16 = .ok (.aload_n 0, 1) := by decide +kernel
theorem dX6_resize_17 : decode cX6_resize 17 = .ok (.getfield 28, 3) := by decide +kernel
theorem dX6_resize_20 : decode cX6_resize 20 = .ok (.iload_n 1, 1) := by decide +kernel
theorem dX6_resize_21 : decode cX6_resize 21 = .ok (.invokevirtual 50, 3) := by decide +kernel
theorem dX6_resize_24 : decode cX6_resize 24 = .ok (.return_, 1) := by decide +kernel
theorem dX6_refusalOfSize_0 : decode cX6_refusalOfSize 0 = .ok (.iload_n 0, 1) := by decide +kernel
theorem dX6_refusalOfSize_1 : decode cX6_refusalOfSize 1 = .ok (.iconst 3, 1) := by decide +kernel
theorem dX6_refusalOfSize_2 : decode cX6_refusalOfSize 2 = .ok (.if_icmp .ge 6, 3) := by decide +kernel
theorem dX6_refusalOfSize_5 : decode cX6_refusalOfSize 5 = .ok (.bipush (-4), 2) := by decide +kernel
theorem dX6_refusalOfSize_7 : decode cX6_refusalOfSize 7 = .ok (.ireturn, 1) := by decide +kernel
theorem dX6_refusalOfSize_8 : decode cX6_refusalOfSize 8 = .ok (.iload_n 0, 1) := by decide +kernel
theorem dX6_refusalOfSize_9 : decode cX6_refusalOfSize 9 = .ok (.bipush 13, 2) := by decide +kernel
theorem dX6_refusalOfSize_11 : decode cX6_refusalOfSize 11 = .ok (.if_icmp .le 6, 3) := by decide +kernel
theorem dX6_refusalOfSize_14 : decode cX6_refusalOfSize 14 = .ok (.bipush (-6), 2) := by decide +kernel
theorem dX6_refusalOfSize_16 : decode cX6_refusalOfSize 16 = .ok (.ireturn, 1) := by decide +kernel
theorem dX6_refusalOfSize_17 : decode cX6_refusalOfSize 17 = .ok (.iload_n 0, 1) := by decide +kernel
theorem dX6_refusalOfSize_18 : decode cX6_refusalOfSize 18 = .ok (.iconst 2, 1) := by decide +kernel
theorem dX6_refusalOfSize_19 : decode cX6_refusalOfSize 19 = .ok (.irem, 1) := by decide +kernel
theorem dX6_refusalOfSize_20 : decode cX6_refusalOfSize 20 = .ok (.ifCond .ne 8, 3) := by decide +kernel
theorem dX6_refusalOfSize_23 : decode cX6_refusalOfSize 23 = .ok (.bipush (-3), 2) := by decide +kernel
theorem dX6_refusalOfSize_25 : decode cX6_refusalOfSize 25 = .ok (.goto 4, 3) := by decide +kernel
theorem dX6_refusalOfSize_28 : decode cX6_refusalOfSize 28 = .ok (.iconst 0, 1) := by decide +kernel
theorem dX6_refusalOfSize_29 : decode cX6_refusalOfSize 29 = .ok (.ireturn, 1) := by decide +kernel
theorem dX6_refusalOfPair_0 : decode cX6_refusalOfPair 0 = .ok (.aload_n 0, 1) := by decide +kernel
theorem dX6_refusalOfPair_1 : decode cX6_refusalOfPair 1 = .ok (.getfield 12, 3) := by decide +kernel
theorem dX6_refusalOfPair_4 : decode cX6_refusalOfPair 4 = .ok (.getfield 51, 3) := by decide +kernel
theorem dX6_refusalOfPair_7 : decode cX6_refusalOfPair 7 = .ok (.istore_n 3, 1) := by decide +kernel
theorem dX6_refusalOfPair_8 : decode cX6_refusalOfPair 8 = .ok (.iload_n 1, 1) := by decide +kernel
theorem dX6_refusalOfPair_9 : decode cX6_refusalOfPair 9 = .ok (.iconst 1, 1) := by decide +kernel
theorem dX6_refusalOfPair_10 : decode cX6_refusalOfPair 10 = .ok (.if_icmp .lt 8, 3) := by decide +kernel
theorem dX6_refusalOfPair_13 : decode cX6_refusalOfPair 13 = .ok (.iload_n 2, 1) := by decide +kernel
theorem dX6_refusalOfPair_14 : decode cX6_refusalOfPair 14 = .ok (.iconst 1, 1) := by decide +kernel
theorem dX6_refusalOfPair_15 : decode cX6_refusalOfPair 15 = .ok (.if_icmp .ge 6, 3) := by decide +kernel
theorem dX6_refusalOfPair_18 : decode cX6_refusalOfPair 18 = .ok (.bipush (-4), 2) := by decide +kernel
theorem dX6_refusalOfPair_20 : decode cX6_refusalOfPair 20 = .ok (.ireturn, 1) := by decide +kernel
theorem dX6_refusalOfPair_21 : decode cX6_refusalOfPair 21 = .ok (.iload_n 1, 1) := by decide +kernel
theorem dX6_refusalOfPair_22 : decode cX6_refusalOfPair 22 = .ok (.iload_n 3, 1) := by decide +kernel
theorem dX6_refusalOfPair_23 : decode cX6_refusalOfPair 23 = .ok (.if_icmp .ge 18, 3) := by decide +kernel
theorem dX6_refusalOfPair_26 : decode cX6_refusalOfPair 26 = .ok (.iload_n 2, 1) := by decide +kernel
theorem dX6_refusalOfPair_27 : decode cX6_refusalOfPair 27 = .ok (.iload_n 3, 1) := by decide +kernel
theorem dX6_refusalOfPair_28 : decode cX6_refusalOfPair 28 = .ok (.if_icmp .ge 13, 3) := by decide +kernel
theorem dX6_refusalOfPair_31 : decode cX6_refusalOfPair 31 = .ok (.aload_n 0, 1) := by decide +kernel
theorem dX6_refusalOfPair_32 : decode cX6_refusalOfPair 32 = .ok (.getfield 12, 3) := by decide +kernel
theorem dX6_refusalOfPair_35 : decode cX6_refusalOfPair 35 = .ok (.invokevirtual 54, 3) := by decide +kernel
theorem dX6_refusalOfPair_38 : decode cX6_refusalOfPair 38 = .ok (.ifCond .eq 6, 3) := by decide +kernel
theorem dX6_refusalOfPair_41 : decode cX6_refusalOfPair 41 = .ok (.bipush (-6), 2) := by decide +kernel
theorem dX6_refusalOfPair_43 : decode cX6_refusalOfPair 43 = .ok (.ireturn, 1) := by decide +kernel
theorem dX6_refusalOfPair_44 : decode cX6_refusalOfPair 44 = .ok (.iload_n 1, 1) := by decide +kernel
theorem dX6_refusalOfPair_45 : decode cX6_refusalOfPair 45 = .ok (.iload_n 2, 1) := by decide +kernel
theorem dX6_refusalOfPair_46 : decode cX6_refusalOfPair 46 = .ok (.if_icmp .ne 8, 3) := by decide +kernel
theorem dX6_refusalOfPair_49 : decode cX6_refusalOfPair 49 = .ok (.bipush (-3), 2) := by decide +kernel
theorem dX6_refusalOfPair_51 : decode cX6_refusalOfPair 51 = .ok (.goto 4, 3) := by decide +kernel
theorem dX6_refusalOfPair_54 : decode cX6_refusalOfPair 54 = .ok (.iconst 0, 1) := by decide +kernel
theorem dX6_refusalOfPair_55 : decode cX6_refusalOfPair 55 = .ok (.ireturn, 1) := by decide +kernel
theorem dX6_refusalOfAdder_0 : decode cX6_refusalOfAdder 0 = .ok (.aload_n 0, 1) := by decide +kernel
theorem dX6_refusalOfAdder_1 : decode cX6_refusalOfAdder 1 = .ok (.getfield 12, 3) := by decide +kernel
theorem dX6_refusalOfAdder_4 : decode cX6_refusalOfAdder 4 = .ok (.iload_n 1, 1) := by decide +kernel
theorem dX6_refusalOfAdder_5 : decode cX6_refusalOfAdder 5 = .ok (.invokevirtual 58, 3) := by decide +kernel
theorem dX6_refusalOfAdder_8 : decode cX6_refusalOfAdder 8 = .ok (.ifCond .ne 5, 3) := by decide +kernel
theorem dX6_refusalOfAdder_11 : decode cX6_refusalOfAdder 11 = .ok (.iconst (-1), 1) := by decide +kernel
theorem dX6_refusalOfAdder_12 : decode cX6_refusalOfAdder 12 = .ok (.ireturn, 1) := by decide +kernel
theorem dX6_refusalOfAdder_13 : decode cX6_refusalOfAdder 13 = .ok (.iload_n 2, 1) := by decide +kernel
theorem dX6_refusalOfAdder_14 : decode cX6_refusalOfAdder 14 = .ok (.ifCond .ge 6, 3) := by decide +kernel
theorem dX6_refusalOfAdder_17 : decode cX6_refusalOfAdder 17 = .ok (.bipush (-4), 2) := by decide +kernel
theorem dX6_refusalOfAdder_19 : decode cX6_refusalOfAdder 19 = .ok (.ireturn, 1) := by decide +kernel
theorem dX6_refusalOfAdder_20 : decode cX6_refusalOfAdder 20 = .ok (.iload_n 2, 1) := by decide +kernel
theorem dX6_refusalOfAdder_21 : decode cX6_refusalOfAdder 21 = .ok (.aload_n 0, 1) := by decide +kernel
theorem dX6_refusalOfAdder_22 : decode cX6_refusalOfAdder 22 = .ok (.getfield 12, 3) := by decide +kernel
theorem dX6_refusalOfAdder_25 : decode cX6_refusalOfAdder 25 = .ok (.getfield 51, 3) := by decide +kernel
theorem dX6_refusalOfAdder_28 : decode cX6_refusalOfAdder 28 = .ok (.if_icmp .lt 8, 3) := by decide +kernel
theorem dX6_refusalOfAdder_31 : decode cX6_refusalOfAdder 31 = .ok (.bipush (-6), 2) := by decide +kernel
theorem dX6_refusalOfAdder_33 : decode cX6_refusalOfAdder 33 = .ok (.goto 4, 3) := by decide +kernel
theorem dX6_refusalOfAdder_36 : decode cX6_refusalOfAdder 36 = .ok (.iconst 0, 1) := by decide +kernel
theorem dX6_refusalOfAdder_37 : decode cX6_refusalOfAdder 37 = .ok (.ireturn, 1) := by decide +kernel
theorem dX6_refusalOfTurn_0 : decode cX6_refusalOfTurn 0 = .ok (.iload_n 1, 1) := by decide +kernel
theorem dX6_refusalOfTurn_1 : decode cX6_refusalOfTurn 1 = .ok (.ifCond .lt 8, 3) := by decide +kernel
theorem dX6_refusalOfTurn_4 : decode cX6_refusalOfTurn 4 = .ok (.iload_n 1, 1) := by decide +kernel
theorem dX6_refusalOfTurn_5 : decode cX6_refusalOfTurn 5 = .ok (.iconst 5, 1) := by decide +kernel
theorem dX6_refusalOfTurn_6 : decode cX6_refusalOfTurn 6 = .ok (.if_icmp .le 6, 3) := by decide +kernel
theorem dX6_refusalOfTurn_9 : decode cX6_refusalOfTurn 9 = .ok (.bipush (-2), 2) := by decide +kernel
theorem dX6_refusalOfTurn_11 : decode cX6_refusalOfTurn 11 = .ok (.ireturn, 1) := by decide +kernel
theorem dX6_refusalOfTurn_12 : decode cX6_refusalOfTurn 12 = .ok (.iload_n 2, 1) := by decide +kernel
theorem dX6_refusalOfTurn_13 : decode cX6_refusalOfTurn 13 = .ok (.ifCond .ge 6, 3) := by decide +kernel
theorem dX6_refusalOfTurn_16 : decode cX6_refusalOfTurn 16 = .ok (.bipush (-4), 2) := by decide +kernel
theorem dX6_refusalOfTurn_18 : decode cX6_refusalOfTurn 18 = .ok (.ireturn, 1) := by decide +kernel
theorem dX6_refusalOfTurn_19 : decode cX6_refusalOfTurn 19 = .ok (.iload_n 2, 1) := by decide +kernel
theorem dX6_refusalOfTurn_20 : decode cX6_refusalOfTurn 20 = .ok (.bipush 12, 2) := by decide +kernel
theorem dX6_refusalOfTurn_22 : decode cX6_refusalOfTurn 22 = .ok (.if_icmp .gt 15, 3) := by decide +kernel
theorem dX6_refusalOfTurn_25 : decode cX6_refusalOfTurn 25 = .ok (.aload_n 0, 1) := by decide +kernel
theorem dX6_refusalOfTurn_26 : decode cX6_refusalOfTurn 26 = .ok (.getfield 21, 3) := by decide +kernel
theorem dX6_refusalOfTurn_29 : decode cX6_refusalOfTurn 29 = .ok (.getfield 46, 3) := by decide +kernel
theorem dX6_refusalOfTurn_32 : decode cX6_refusalOfTurn 32 = .ok (.bipush 6, 2) := by decide +kernel
theorem dX6_refusalOfTurn_34 : decode cX6_refusalOfTurn 34 = .ok (.if_icmp .lt 8, 3) := by decide +kernel
theorem dX6_refusalOfTurn_37 : decode cX6_refusalOfTurn 37 = .ok (.bipush (-6), 2) := by decide +kernel
theorem dX6_refusalOfTurn_39 : decode cX6_refusalOfTurn 39 = .ok (.goto 4, 3) := by decide +kernel
theorem dX6_refusalOfTurn_42 : decode cX6_refusalOfTurn 42 = .ok (.iconst 0, 1) := by decide +kernel
theorem dX6_refusalOfTurn_43 : decode cX6_refusalOfTurn 43 = .ok (.ireturn, 1) := by decide +kernel
theorem dX7_init_0 : decode cX7_init 0 = .ok (.aload_n 0, 1) := by decide +kernel
theorem dX7_init_1 : decode cX7_init 1 = .ok (.invokespecial 3, 3) := by decide +kernel
theorem dX7_init_4 : decode cX7_init 4 = .ok (.aload_n 0, 1) := by decide +kernel
theorem dX7_init_5 : decode cX7_init 5 = .ok (.bipush 6, 2) := by decide +kernel
theorem dX7_init_7 : decode cX7_init 7 = .ok (.newarray .int, 2) := by decide +kernel
theorem dX7_init_9 : decode cX7_init 9 = .ok (.putfield 9, 3) := by decide +kernel
theorem dX7_init_12 : decode cX7_init 12 = .ok (.aload_n 0, 1) := by decide +kernel
theorem dX7_init_13 : decode cX7_init 13 = .ok (.bipush 6, 2) := by decide +kernel
theorem dX7_init_15 : decode cX7_init 15 = .ok (.newarray .int, 2) := by decide +kernel
theorem dX7_init_17 : decode cX7_init 17 = .ok (.putfield 15, 3) := by decide +kernel
theorem dX7_init_20 : decode cX7_init 20 = .ok (.aload_n 0, 1) := by decide +kernel
theorem dX7_init_21 : decode cX7_init 21 = .ok (.iconst 0, 1) := by decide +kernel
theorem dX7_init_22 : decode cX7_init 22 = .ok (.putfield 18, 3) := by decide +kernel
theorem dX7_init_25 : decode cX7_init 25 = .ok (.return_, 1) := by decide +kernel
theorem dX7_copyFrom_0 : decode cX7_copyFrom 0 = .ok (.aload_n 0, 1) := by decide +kernel
theorem dX7_copyFrom_1 : decode cX7_copyFrom 1 = .ok (.aload_n 1, 1) := by decide +kernel
theorem dX7_copyFrom_2 : decode cX7_copyFrom 2 = .ok (.getfield 18, 3) := by decide +kernel
theorem dX7_copyFrom_5 : decode cX7_copyFrom 5 = .ok (.putfield 18, 3) := by decide +kernel
theorem dX7_copyFrom_8 : decode cX7_copyFrom 8 = .ok (.aload_n 1, 1) := by decide +kernel
theorem dX7_copyFrom_9 : decode cX7_copyFrom 9 = .ok (.getfield 9, 3) := by decide +kernel
theorem dX7_copyFrom_12 : decode cX7_copyFrom 12 = .ok (.iconst 0, 1) := by decide +kernel
theorem dX7_copyFrom_13 : decode cX7_copyFrom 13 = .ok (.aload_n 0, 1) := by decide +kernel
theorem dX7_copyFrom_14 : decode cX7_copyFrom 14 = .ok (.getfield 9, 3) := by decide +kernel
theorem dX7_copyFrom_17 : decode cX7_copyFrom 17 = .ok (.iconst 0, 1) := by decide +kernel
theorem dX7_copyFrom_18 : decode cX7_copyFrom 18 = .ok (.bipush 6, 2) := by decide +kernel
theorem dX7_copyFrom_20 : decode cX7_copyFrom 20 = .ok (.invokestatic 22, 3) := by decide +kernel
theorem dX7_copyFrom_23 : decode cX7_copyFrom 23 = .ok (.aload_n 1, 1) := by decide +kernel
theorem dX7_copyFrom_24 : decode cX7_copyFrom 24 = .ok (.getfield 15, 3) := by decide +kernel
theorem dX7_copyFrom_27 : decode cX7_copyFrom 27 = .ok (.iconst 0, 1) := by decide +kernel
theorem dX7_copyFrom_28 : decode cX7_copyFrom 28 = .ok (.aload_n 0, 1) := by decide +kernel
theorem dX7_copyFrom_29 : decode cX7_copyFrom 29 = .ok (.getfield 15, 3) := by decide +kernel
theorem dX7_copyFrom_32 : decode cX7_copyFrom 32 = .ok (.iconst 0, 1) := by decide +kernel
theorem dX7_copyFrom_33 : decode cX7_copyFrom 33 = .ok (.bipush 6, 2) := by decide +kernel
theorem dX7_copyFrom_35 : decode cX7_copyFrom 35 = .ok (.invokestatic 22, 3) := by decide +kernel
theorem dX7_copyFrom_38 : decode cX7_copyFrom 38 = .ok (.return_, 1) := by decide +kernel
theorem dX7_append_0 : decode cX7_append 0 = .ok (.aload_n 0, 1) := by decide +kernel
theorem dX7_append_1 : decode cX7_append 1 = .ok (.getfield 18, 3) := by decide +kernel
theorem dX7_append_4 : decode cX7_append 4 = .ok (.bipush 6, 2) := by decide +kernel
theorem dX7_append_6 : decode cX7_append 6 = .ok (.if_icmp .ge 33, 3) := by decide +kernel
theorem dX7_append_9 : decode cX7_append 9 = .ok (.aload_n 0, 1) := by decide +kernel
theorem dX7_append_10 : decode cX7_append 10 = .ok (.getfield 9, 3) := by decide +kernel
theorem dX7_append_13 : decode cX7_append 13 = .ok (.aload_n 0, 1) := by decide +kernel
theorem dX7_append_14 : decode cX7_append 14 = .ok (.getfield 18, 3) := by decide +kernel
theorem dX7_append_17 : decode cX7_append 17 = .ok (.iload_n 1, 1) := by decide +kernel
theorem dX7_append_18 : decode cX7_append 18 = .ok (.iastore, 1) := by decide +kernel
theorem dX7_append_19 : decode cX7_append 19 = .ok (.aload_n 0, 1) := by decide +kernel
theorem dX7_append_20 : decode cX7_append 20 = .ok (.getfield 15, 3) := by decide +kernel
theorem dX7_append_23 : decode cX7_append 23 = .ok (.aload_n 0, 1) := by decide +kernel
theorem dX7_append_24 : decode cX7_append 24 = .ok (.getfield 18, 3) := by decide +kernel
theorem dX7_append_27 : decode cX7_append 27 = .ok (.iload_n 2, 1) := by decide +kernel
theorem dX7_append_28 : decode cX7_append 28 = .ok (.iastore, 1) := by decide +kernel
theorem dX7_append_29 : decode cX7_append 29 = .ok (.aload_n 0, 1) := by decide +kernel
theorem dX7_append_30 : decode cX7_append 30 = .ok (.dup, 1) := by decide +kernel
theorem dX7_append_31 : decode cX7_append 31 = .ok (.getfield 18, 3) := by decide +kernel
theorem dX7_append_34 : decode cX7_append 34 = .ok (.iconst 1, 1) := by decide +kernel
theorem dX7_append_35 : decode cX7_append 35 = .ok (.iadd, 1) := by decide +kernel
theorem dX7_append_36 : decode cX7_append 36 = .ok (.putfield 18, 3) := by decide +kernel
theorem dX7_append_39 : decode cX7_append 39 = .ok (.return_, 1) := by decide +kernel
theorem dX7_turnAll_0 : decode cX7_turnAll 0 = .ok (.iconst 0, 1) := by decide +kernel
theorem dX7_turnAll_1 : decode cX7_turnAll 1 = .ok (.istore_n 3, 1) := by decide +kernel
theorem dX7_turnAll_2 : decode cX7_turnAll 2 = .ok (.iload_n 3, 1) := by decide +kernel
theorem dX7_turnAll_3 : decode cX7_turnAll 3 = .ok (.aload_n 0, 1) := by decide +kernel
theorem dX7_turnAll_4 : decode cX7_turnAll 4 = .ok (.getfield 18, 3) := by decide +kernel
theorem dX7_turnAll_7 : decode cX7_turnAll 7 = .ok (.if_icmp .ge 26, 3) := by decide +kernel
theorem dX7_turnAll_10 : decode cX7_turnAll 10 = .ok (.aload_n 1, 1) := by decide +kernel
theorem dX7_turnAll_11 : decode cX7_turnAll 11 = .ok (.aload_n 2, 1) := by decide +kernel
theorem dX7_turnAll_12 : decode cX7_turnAll 12 = .ok (.aload_n 0, 1) := by decide +kernel
theorem dX7_turnAll_13 : decode cX7_turnAll 13 = .ok (.getfield 9, 3) := by decide +kernel
theorem dX7_turnAll_16 : decode cX7_turnAll 16 = .ok (.iload_n 3, 1) := by decide +kernel
theorem dX7_turnAll_17 : decode cX7_turnAll 17 = .ok (.iaload, 1) := by decide +kernel
theorem dX7_turnAll_18 : decode cX7_turnAll 18 = .ok (.aload_n 0, 1) := by decide +kernel
theorem dX7_turnAll_19 : decode cX7_turnAll 19 = .ok (.getfield 15, 3) := by decide +kernel
theorem dX7_turnAll_22 : decode cX7_turnAll 22 = .ok (.iload_n 3, 1) := by decide +kernel
theorem dX7_turnAll_23 : decode cX7_turnAll 23 = .ok (.iaload, 1) := by decide +kernel
theorem dX7_turnAll_24 : decode cX7_turnAll 24 = .ok (.invokestatic 28, 3) := by decide +kernel
theorem dX7_turnAll_27 : decode cX7_turnAll 27 = .ok (.iinc 3 1, 3) := by decide +kernel
theorem dX7_turnAll_30 : decode cX7_turnAll 30 = .ok (.goto (-28), 3) := by decide +kernel
theorem dX7_turnAll_33 : decode cX7_turnAll 33 = .ok (.return_, 1) := by decide +kernel
theorem dX7_turnOnce_0 : decode cX7_turnOnce 0 = .ok (.iload_n 2, 1) := by decide +kernel
theorem dX7_turnOnce_1 : decode cX7_turnOnce 1 = .ok (.tableswitch 90 0 5 #[39, 47, 55, 63, 72, 81], 39) := by decide +kernel
theorem dX7_turnOnce_40 : decode cX7_turnOnce 40 = .ok (.aload_n 0, 1) := by decide +kernel
theorem dX7_turnOnce_41 : decode cX7_turnOnce 41 = .ok (.iload_n 3, 1) := by decide +kernel
theorem dX7_turnOnce_42 : decode cX7_turnOnce 42 = .ok (.invokestatic 32, 3) := by decide +kernel
theorem dX7_turnOnce_45 : decode cX7_turnOnce 45 = .ok (.goto 46, 3) := by decide +kernel
theorem dX7_turnOnce_48 : decode cX7_turnOnce 48 = .ok (.aload_n 0, 1) := by decide +kernel
theorem dX7_turnOnce_49 : decode cX7_turnOnce 49 = .ok (.iconst (-1), 1) := by decide +kernel
theorem dX7_turnOnce_50 : decode cX7_turnOnce 50 = .ok (.invokestatic 32, 3) := by decide +kernel
theorem dX7_turnOnce_53 : decode cX7_turnOnce 53 = .ok (.goto 38, 3) := by decide +kernel
theorem dX7_turnOnce_56 : decode cX7_turnOnce 56 = .ok (.aload_n 0, 1) := by decide +kernel
theorem dX7_turnOnce_57 : decode cX7_turnOnce 57 = .ok (.aload_n 1, 1) := by decide +kernel
theorem dX7_turnOnce_58 : decode cX7_turnOnce 58 = .ok (.invokestatic 36, 3) := by decide +kernel
theorem dX7_turnOnce_61 : decode cX7_turnOnce 61 = .ok (.goto 30, 3) := by decide +kernel
theorem dX7_turnOnce_64 : decode cX7_turnOnce 64 = .ok (.aload_n 0, 1) := by decide +kernel
theorem dX7_turnOnce_65 : decode cX7_turnOnce 65 = .ok (.aload_n 1, 1) := by decide +kernel
theorem dX7_turnOnce_66 : decode cX7_turnOnce 66 = .ok (.iload_n 3, 1) := by decide +kernel
theorem dX7_turnOnce_67 : decode cX7_turnOnce 67 = .ok (.invokestatic 40, 3) := by decide +kernel
theorem dX7_turnOnce_70 : decode cX7_turnOnce 70 = .ok (.goto 21, 3) := by decide +kernel
theorem dX7_turnOnce_73 : decode cX7_turnOnce 73 = .ok (.aload_n 0, 1) := by decide +kernel
theorem dX7_turnOnce_74 : decode cX7_turnOnce 74 = .ok (.aload_n 1, 1) := by decide +kernel
theorem dX7_turnOnce_75 : decode cX7_turnOnce 75 = .ok (.iload_n 3, 1) := by decide +kernel
theorem dX7_turnOnce_76 : decode cX7_turnOnce 76 = .ok (.invokestatic 44, 3) := by decide +kernel
theorem dX7_turnOnce_79 : decode cX7_turnOnce 79 = .ok (.goto 12, 3) := by decide +kernel
theorem dX7_turnOnce_82 : decode cX7_turnOnce 82 = .ok (.aload_n 0, 1) := by decide +kernel
theorem dX7_turnOnce_83 : decode cX7_turnOnce 83 = .ok (.aload_n 1, 1) := by decide +kernel
theorem dX7_turnOnce_84 : decode cX7_turnOnce 84 = .ok (.iload_n 3, 1) := by decide +kernel
theorem dX7_turnOnce_85 : decode cX7_turnOnce 85 = .ok (.invokestatic 47, 3) := by decide +kernel
theorem dX7_turnOnce_88 : decode cX7_turnOnce 88 = .ok (.goto 3, 3) := by decide +kernel
theorem dX7_turnOnce_91 : decode cX7_turnOnce 91 = .ok (.return_, 1) := by decide +kernel
theorem dX7_multiply_0 : decode cX7_multiply 0 = .ok (.iconst 0, 1) := by decide +kernel
theorem dX7_multiply_1 : decode cX7_multiply 1 = .ok (.istore_n 2, 1) := by decide +kernel
theorem dX7_multiply_2 : decode cX7_multiply 2 = .ok (.iload_n 2, 1) := by decide +kernel
theorem dX7_multiply_3 : decode cX7_multiply 3 = .ok (.aload_n 0, 1) := by decide +kernel
theorem dX7_multiply_4 : decode cX7_multiply 4 = .ok (.getfield 50, 3) := by decide +kernel
theorem dX7_multiply_7 : decode cX7_multiply 7 = .ok (.if_icmp .ge 72, 3) := by decide +kernel
theorem dX7_multiply_10 : decode cX7_multiply 10 = .ok (.aload_n 0, 1) := by decide +kernel
theorem dX7_multiply_11 : decode cX7_multiply 11 = .ok (.getfield 53, 3) := by decide +kernel
theorem dX7_multiply_14 : decode cX7_multiply 14 = .ok (.iload_n 2, 1) := by decide +kernel
theorem dX7_multiply_15 : decode cX7_multiply 15 = .ok (.iload_n 1, 1) := by decide +kernel
theorem dX7_multiply_16 : decode cX7_multiply 16 = .ok (.aload_n 0, 1) := by decide +kernel
theorem dX7_multiply_17 : decode cX7_multiply 17 = .ok (.getfield 53, 3) := by decide +kernel
theorem dX7_multiply_20 : decode cX7_multiply 20 = .ok (.iload_n 2, 1) := by decide +kernel
theorem dX7_multiply_21 : decode cX7_multiply 21 = .ok (.iaload, 1) := by decide +kernel
theorem dX7_multiply_22 : decode cX7_multiply 22 = .ok (.imul, 1) := by decide +kernel
theorem dX7_multiply_23 : decode cX7_multiply 23 = .ok (.aload_n 0, 1) := by decide +kernel
theorem dX7_multiply_24 : decode cX7_multiply 24 = .ok (.getfield 56, 3) := by decide +kernel
theorem dX7_multiply_27 : decode cX7_multiply 27 = .ok (.invokestatic 59, 3) := by decide +kernel
theorem dX7_multiply_30 : decode cX7_multiply 30 = .ok (.iastore, 1) := by decide +kernel
theorem dX7_multiply_31 : decode cX7_multiply 31 = .ok (.aload_n 0, 1) := by decide +kernel
theorem dX7_multiply_32 : decode cX7_multiply 32 = .ok (.getfield 63, 3) := by decide +kernel
theorem dX7_multiply_35 : decode cX7_multiply 35 = .ok (.iload_n 2, 1) := by decide +kernel
theorem dX7_multiply_36 : decode cX7_multiply 36 = .ok (.iload_n 1, 1) := by decide +kernel
theorem dX7_multiply_37 : decode cX7_multiply 37 = .ok (.aload_n 0, 1) := by decide +kernel
theorem dX7_multiply_38 : decode cX7_multiply 38 = .ok (.getfield 63, 3) := by decide +kernel
theorem dX7_multiply_41 : decode cX7_multiply 41 = .ok (.iload_n 2, 1) := by decide +kernel
theorem dX7_multiply_42 : decode cX7_multiply 42 = .ok (.iaload, 1) := by decide +kernel
theorem dX7_multiply_43 : decode cX7_multiply 43 = .ok (.imul, 1) := by decide +kernel
theorem dX7_multiply_44 : decode cX7_multiply 44 = .ok (.aload_n 0, 1) := by decide +kernel
theorem dX7_multiply_45 : decode cX7_multiply 45 = .ok (.getfield 56, 3) := by decide +kernel
theorem dX7_multiply_48 : decode cX7_multiply 48 = .ok (.invokestatic 59, 3) := by decide +kernel
theorem dX7_multiply_51 : decode cX7_multiply 51 = .ok (.iastore, 1) := by decide +kernel
theorem dX7_multiply_52 : decode cX7_multiply 52 = .ok (.aload_n 0, 1) := by decide +kernel
theorem dX7_multiply_53 : decode cX7_multiply 53 = .ok (.getfield 66, 3) := by decide +kernel
theorem dX7_multiply_56 : decode cX7_multiply 56 = .ok (.iload_n 2, 1) := by decide +kernel
theorem dX7_multiply_57 : decode cX7_multiply 57 = .ok (.iload_n 1, 1) := by decide +kernel
theorem dX7_multiply_58 : decode cX7_multiply 58 = .ok (.aload_n 0, 1) := by decide +kernel
theorem dX7_multiply_59 : decode cX7_multiply 59 = .ok (.getfield 66, 3) := by decide +kernel
theorem dX7_multiply_62 : decode cX7_multiply 62 = .ok (.iload_n 2, 1) := by decide +kernel
theorem dX7_multiply_63 : decode cX7_multiply 63 = .ok (.iaload, 1) := by decide +kernel
theorem dX7_multiply_64 : decode cX7_multiply 64 = .ok (.imul, 1) := by decide +kernel
theorem dX7_multiply_65 : decode cX7_multiply 65 = .ok (.aload_n 0, 1) := by decide +kernel
theorem dX7_multiply_66 : decode cX7_multiply 66 = .ok (.getfield 56, 3) := by decide +kernel
theorem dX7_multiply_69 : decode cX7_multiply 69 = .ok (.invokestatic 59, 3) := by decide +kernel
theorem dX7_multiply_72 : decode cX7_multiply 72 = .ok (.iastore, 1) := by decide +kernel
theorem dX7_multiply_73 : decode cX7_multiply 73 = .ok (.iinc 2 1, 3) := by decide +kernel
theorem dX7_multiply_76 : decode cX7_multiply 76 = .ok (.goto (-74), 3) := by decide +kernel
theorem dX7_multiply_79 : decode cX7_multiply 79 = .ok (.return_, 1) := by decide +kernel
theorem dX7_reverse_0 : decode cX7_reverse 0 = .ok (.aload_n 1, 1) := by decide +kernel
theorem dX7_reverse_1 : decode cX7_reverse 1 = .ok (.aload_n 0, 1) := by decide +kernel
theorem dX7_reverse_2 : decode cX7_reverse 2 = .ok (.invokevirtual 69, 3) := by decide +kernel
theorem dX7_reverse_5 : decode cX7_reverse 5 = .ok (.iconst 0, 1) := by decide +kernel
theorem dX7_reverse_6 : decode cX7_reverse 6 = .ok (.istore_n 2, 1) := by decide +kernel
theorem dX7_reverse_7 : decode cX7_reverse 7 = .ok (.iload_n 2, 1) := by decide +kernel
theorem dX7_reverse_8 : decode cX7_reverse 8 = .ok (.aload_n 0, 1) := by decide +kernel
theorem dX7_reverse_9 : decode cX7_reverse 9 = .ok (.getfield 50, 3) := by decide +kernel
theorem dX7_reverse_12 : decode cX7_reverse 12 = .ok (.if_icmp .ge 23, 3) := by decide +kernel
theorem dX7_reverse_15 : decode cX7_reverse 15 = .ok (.aload_n 0, 1) := by decide +kernel
theorem dX7_reverse_16 : decode cX7_reverse 16 = .ok (.iload_n 2, 1) := by decide +kernel
theorem dX7_reverse_17 : decode cX7_reverse 17 = .ok (.aload_n 1, 1) := by decide +kernel
theorem dX7_reverse_18 : decode cX7_reverse 18 = .ok (.aload_n 0, 1) := by decide +kernel
theorem dX7_reverse_19 : decode cX7_reverse 19 = .ok (.getfield 50, 3) := by decide +kernel
theorem dX7_reverse_22 : decode cX7_reverse 22 = .ok (.iconst 1, 1) := by decide +kernel
theorem dX7_reverse_23 : decode cX7_reverse 23 = .ok (.isub, 1) := by decide +kernel
theorem dX7_reverse_24 : decode cX7_reverse 24 = .ok (.iload_n 2, 1) := by decide +kernel
theorem dX7_reverse_25 : decode cX7_reverse 25 = .ok (.isub, 1) := by decide +kernel
theorem dX7_reverse_26 : decode cX7_reverse 26 = .ok (.invokestatic 73, 3) := by decide +kernel
theorem dX7_reverse_29 : decode cX7_reverse 29 = .ok (.iinc 2 1, 3) := by decide +kernel
theorem dX7_reverse_32 : decode cX7_reverse 32 = .ok (.goto (-25), 3) := by decide +kernel
theorem dX7_reverse_35 : decode cX7_reverse 35 = .ok (.return_, 1) := by decide +kernel
theorem dX7_rotate_0 : decode cX7_rotate 0 = .ok (.aload_n 1, 1) := by decide +kernel
theorem dX7_rotate_1 : decode cX7_rotate 1 = .ok (.aload_n 0, 1) := by decide +kernel
theorem dX7_rotate_2 : decode cX7_rotate 2 = .ok (.invokevirtual 69, 3) := by decide +kernel
theorem dX7_rotate_5 : decode cX7_rotate 5 = .ok (.iconst 0, 1) := by decide +kernel
theorem dX7_rotate_6 : decode cX7_rotate 6 = .ok (.istore_n 3, 1) := by decide +kernel
theorem dX7_rotate_7 : decode cX7_rotate 7 = .ok (.iload_n 3, 1) := by decide +kernel
theorem dX7_rotate_8 : decode cX7_rotate 8 = .ok (.aload_n 0, 1) := by decide +kernel
theorem dX7_rotate_9 : decode cX7_rotate 9 = .ok (.getfield 50, 3) := by decide +kernel
theorem dX7_rotate_12 : decode cX7_rotate 12 = .ok (.if_icmp .ge 25, 3) := by decide +kernel
theorem dX7_rotate_15 : decode cX7_rotate 15 = .ok (.aload_n 0, 1) := by decide +kernel
theorem dX7_rotate_16 : decode cX7_rotate 16 = .ok (.iload_n 3, 1) := by decide +kernel
theorem dX7_rotate_17 : decode cX7_rotate 17 = .ok (.aload_n 1, 1) := by decide +kernel
theorem dX7_rotate_18 : decode cX7_rotate 18 = .ok (.iload_n 3, 1) := by decide +kernel
theorem dX7_rotate_19 : decode cX7_rotate 19 = .ok (.iload_n 2, 1) := by decide +kernel
theorem dX7_rotate_20 : decode cX7_rotate 20 = .ok (.iadd, 1) := by decide +kernel
theorem dX7_rotate_21 : decode cX7_rotate 21 = .ok (.aload_n 0, 1) := by decide +kernel
theorem dX7_rotate_22 : decode cX7_rotate 22 = .ok (.getfield 50, 3) := by decide +kernel
theorem dX7_rotate_25 : decode cX7_rotate 25 = .ok (.invokestatic 59, 3) := by decide +kernel
theorem dX7_rotate_28 : decode cX7_rotate 28 = .ok (.invokestatic 73, 3) := by decide +kernel
theorem dX7_rotate_31 : decode cX7_rotate 31 = .ok (.iinc 3 1, 3) := by decide +kernel
theorem dX7_rotate_34 : decode cX7_rotate 34 = .ok (.goto (-27), 3) := by decide +kernel
theorem dX7_rotate_37 : decode cX7_rotate 37 = .ok (.return_, 1) := by decide +kernel
theorem dX7_takeOver_0 : decode cX7_takeOver 0 = .ok (.aload_n 0, 1) := by decide +kernel
theorem dX7_takeOver_1 : decode cX7_takeOver 1 = .ok (.getfield 53, 3) := by decide +kernel
theorem dX7_takeOver_4 : decode cX7_takeOver 4 = .ok (.iload_n 1, 1) := by decide +kernel
theorem dX7_takeOver_5 : decode cX7_takeOver 5 = .ok (.aload_n 2, 1) := by decide +kernel
theorem dX7_takeOver_6 : decode cX7_takeOver 6 = .ok (.getfield 53, 3) := by decide +kernel
theorem dX7_takeOver_9 : decode cX7_takeOver 9 = .ok (.iload_n 3, 1) := by decide +kernel
theorem dX7_takeOver_10 : decode cX7_takeOver 10 = .ok (.iaload, 1) := by decide +kernel
theorem dX7_takeOver_11 : decode cX7_takeOver 11 = .ok (.iastore, 1) := by decide +kernel
theorem dX7_takeOver_12 : decode cX7_takeOver 12 = .ok (.aload_n 0, 1) := by decide +kernel
theorem dX7_takeOver_13 : decode cX7_takeOver 13 = .ok (.getfield 63, 3) := by decide +kernel
theorem dX7_takeOver_16 : decode cX7_takeOver 16 = .ok (.iload_n 1, 1) := by decide +kernel
theorem dX7_takeOver_17 : decode cX7_takeOver 17 = .ok (.aload_n 2, 1) := by decide +kernel
theorem dX7_takeOver_18 : decode cX7_takeOver 18 = .ok (.getfield 63, 3) := by decide +kernel
theorem dX7_takeOver_21 : decode cX7_takeOver 21 = .ok (.iload_n 3, 1) := by decide +kernel
theorem dX7_takeOver_22 : decode cX7_takeOver 22 = .ok (.iaload, 1) := by decide +kernel
theorem dX7_takeOver_23 : decode cX7_takeOver 23 = .ok (.iastore, 1) := by decide +kernel
theorem dX7_takeOver_24 : decode cX7_takeOver 24 = .ok (.aload_n 0, 1) := by decide +kernel
theorem dX7_takeOver_25 : decode cX7_takeOver 25 = .ok (.getfield 66, 3) := by decide +kernel
theorem dX7_takeOver_28 : decode cX7_takeOver 28 = .ok (.iload_n 1, 1) := by decide +kernel
theorem dX7_takeOver_29 : decode cX7_takeOver 29 = .ok (.aload_n 2, 1) := by decide +kernel
theorem dX7_takeOver_30 : decode cX7_takeOver 30 = .ok (.getfield 66, 3) := by decide +kernel
theorem dX7_takeOver_33 : decode cX7_takeOver 33 = .ok (.iload_n 3, 1) := by decide +kernel
theorem dX7_takeOver_34 : decode cX7_takeOver 34 = .ok (.iaload, 1) := by decide +kernel
theorem dX7_takeOver_35 : decode cX7_takeOver 35 = .ok (.iastore, 1) := by decide +kernel
theorem dX7_takeOver_36 : decode cX7_takeOver 36 = .ok (.return_, 1) := by decide +kernel
theorem dX7_swap_0 : decode cX7_swap 0 = .ok (.iload_n 2, 1) := by decide +kernel
theorem dX7_swap_1 : decode cX7_swap 1 = .ok (.iconst 2, 1) := by decide +kernel
theorem dX7_swap_2 : decode cX7_swap 2 = .ok (.irem, 1) := by decide +kernel
theorem dX7_swap_3 : decode cX7_swap 3 = .ok (.ifCond .ne 4, 3) := by decide +kernel
theorem dX7_swap_6 : decode cX7_swap 6 = .ok (.return_, 1) := by decide +kernel
theorem dX7_swap_7 : decode cX7_swap 7 = .ok (.aload_n 1, 1) := by decide +kernel
theorem dX7_swap_8 : decode cX7_swap 8 = .ok (.aload_n 0, 1) := by decide +kernel
theorem dX7_swap_9 : decode cX7_swap 9 = .ok (.invokevirtual 69, 3) := by decide +kernel
theorem dX7_swap_12 : decode cX7_swap 12 = .ok (.iconst 0, 1) := by decide +kernel
theorem dX7_swap_13 : decode cX7_swap 13 = .ok (.istore_n 3, 1) := by decide +kernel
theorem dX7_swap_14 : decode cX7_swap 14 = .ok (.iload_n 3, 1) := by decide +kernel
theorem dX7_swap_15 : decode cX7_swap 15 = .ok (.aload_n 0, 1) := by decide +kernel
theorem dX7_swap_16 : decode cX7_swap 16 = .ok (.getfield 50, 3) := by decide +kernel
theorem dX7_swap_19 : decode cX7_swap 19 = .ok (.if_icmp .ge 33, 3) := by decide +kernel
theorem dX7_swap_22 : decode cX7_swap 22 = .ok (.aload_n 0, 1) := by decide +kernel
theorem dX7_swap_23 : decode cX7_swap 23 = .ok (.getfield 53, 3) := by decide +kernel
theorem dX7_swap_26 : decode cX7_swap 26 = .ok (.iload_n 3, 1) := by decide +kernel
theorem dX7_swap_27 : decode cX7_swap 27 = .ok (.aload_n 1, 1) := by decide +kernel
theorem dX7_swap_28 : decode cX7_swap 28 = .ok (.getfield 63, 3) := by decide +kernel
theorem dX7_swap_31 : decode cX7_swap 31 = .ok (.iload_n 3, 1) := by decide +kernel
theorem dX7_swap_32 : decode cX7_swap 32 = .ok (.iaload, 1) := by decide +kernel
theorem dX7_swap_33 : decode cX7_swap 33 = .ok (.iastore, 1) := by decide +kernel
theorem dX7_swap_34 : decode cX7_swap 34 = .ok (.aload_n 0, 1) := by decide +kernel
theorem dX7_swap_35 : decode cX7_swap 35 = .ok (.getfield 63, 3) := by decide +kernel
theorem dX7_swap_38 : decode cX7_swap 38 = .ok (.iload_n 3, 1) := by decide +kernel
theorem dX7_swap_39 : decode cX7_swap 39 = .ok (.aload_n 1, 1) := by decide +kernel
theorem dX7_swap_40 : decode cX7_swap 40 = .ok (.getfield 53, 3) := by decide +kernel
theorem dX7_swap_43 : decode cX7_swap 43 = .ok (.iload_n 3, 1) := by decide +kernel
theorem dX7_swap_44 : decode cX7_swap 44 = .ok (.iaload, 1) := by decide +kernel
theorem dX7_swap_45 : decode cX7_swap 45 = .ok (.iastore, 1) := by decide +kernel
theorem dX7_swap_46 : decode cX7_swap 46 = .ok (.iinc 3 1, 3) := by decide +kernel
theorem dX7_swap_49 : decode cX7_swap 49 = .ok (.goto (-35), 3) := by decide +kernel
theorem dX7_swap_52 : decode cX7_swap 52 = .ok (.return_, 1) := by decide +kernel
theorem dX7_share_0 : decode cX7_share 0 = .ok (.aload_n 1, 1) := by decide +kernel
theorem dX7_share_1 : decode cX7_share 1 = .ok (.aload_n 0, 1) := by decide +kernel
theorem dX7_share_2 : decode cX7_share 2 = .ok (.invokevirtual 69, 3) := by decide +kernel
theorem dX7_share_5 : decode cX7_share 5 = .ok (.iconst 0, 1) := by decide +kernel
theorem dX7_share_6 : decode cX7_share 6 = .ok (.istore_n 3, 1) := by decide +kernel
theorem dX7_share_7 : decode cX7_share 7 = .ok (.iload_n 3, 1) := by decide +kernel
theorem dX7_share_8 : decode cX7_share 8 = .ok (.aload_n 0, 1) := by decide +kernel
theorem dX7_share_9 : decode cX7_share 9 = .ok (.getfield 50, 3) := by decide +kernel
theorem dX7_share_12 : decode cX7_share 12 = .ok (.if_icmp .ge 30, 3) := by decide +kernel
theorem dX7_share_15 : decode cX7_share 15 = .ok (.aload_n 0, 1) := by decide +kernel
theorem dX7_share_16 : decode cX7_share 16 = .ok (.getfield 66, 3) := by decide +kernel
theorem dX7_share_19 : decode cX7_share 19 = .ok (.iload_n 3, 1) := by decide +kernel
theorem dX7_share_20 : decode cX7_share 20 = .ok (.aload_n 1, 1) := by decide +kernel
theorem dX7_share_21 : decode cX7_share 21 = .ok (.getfield 66, 3) := by decide +kernel
theorem dX7_share_24 : decode cX7_share 24 = .ok (.iload_n 3, 1) := by decide +kernel
theorem dX7_share_25 : decode cX7_share 25 = .ok (.iload_n 2, 1) := by decide +kernel
theorem dX7_share_26 : decode cX7_share 26 = .ok (.iadd, 1) := by decide +kernel
theorem dX7_share_27 : decode cX7_share 27 = .ok (.aload_n 0, 1) := by decide +kernel
theorem dX7_share_28 : decode cX7_share 28 = .ok (.getfield 50, 3) := by decide +kernel
theorem dX7_share_31 : decode cX7_share 31 = .ok (.invokestatic 59, 3) := by decide +kernel
theorem dX7_share_34 : decode cX7_share 34 = .ok (.iaload, 1) := by decide +kernel
theorem dX7_share_35 : decode cX7_share 35 = .ok (.iastore, 1) := by decide +kernel
theorem dX7_share_36 : decode cX7_share 36 = .ok (.iinc 3 1, 3) := by decide +kernel
theorem dX7_share_39 : decode cX7_share 39 = .ok (.goto (-32), 3) := by decide +kernel
theorem dX7_share_42 : decode cX7_share 42 = .ok (.return_, 1) := by decide +kernel
theorem dX8_init_0 : decode cX8_init 0 = .ok (.aload_n 0, 1) := by decide +kernel
theorem dX8_init_1 : decode cX8_init 1 = .ok (.invokespecial 1, 3) := by decide +kernel
theorem dX8_init_4 : decode cX8_init 4 = .ok (.aload_n 0, 1) := by decide +kernel
theorem dX8_init_5 : decode cX8_init 5 = .ok (.new 7, 3) := by decide +kernel
theorem dX8_init_8 : decode cX8_init 8 = .ok (.dup, 1) := by decide +kernel
theorem dX8_init_9 : decode cX8_init 9 = .ok (.invokespecial 9, 3) := by decide +kernel
theorem dX8_init_12 : decode cX8_init 12 = .ok (.putfield 10, 3) := by decide +kernel
theorem dX8_init_15 : decode cX8_init 15 = .ok (.aload_n 0, 1) := by decide +kernel
theorem dX8_init_16 : decode cX8_init 16 = .ok (.new 7, 3) := by decide +kernel
theorem dX8_init_19 : decode cX8_init 19 = .ok (.dup, 1) := by decide +kernel
theorem dX8_init_20 : decode cX8_init 20 = .ok (.invokespecial 9, 3) := by decide +kernel
theorem dX8_init_23 : decode cX8_init 23 = .ok (.putfield 16, 3) := by decide +kernel
theorem dX8_init_26 : decode cX8_init 26 = .ok (.aload_n 0, 1) := by decide +kernel
theorem dX8_init_27 : decode cX8_init 27 = .ok (.new 7, 3) := by decide +kernel
theorem dX8_init_30 : decode cX8_init 30 = .ok (.dup, 1) := by decide +kernel
theorem dX8_init_31 : decode cX8_init 31 = .ok (.invokespecial 9, 3) := by decide +kernel
theorem dX8_init_34 : decode cX8_init 34 = .ok (.putfield 19, 3) := by decide +kernel
theorem dX8_init_37 : decode cX8_init 37 = .ok (.aload_n 0, 1) := by decide +kernel
theorem dX8_init_38 : decode cX8_init 38 = .ok (.iconst 0, 1) := by decide +kernel
theorem dX8_init_39 : decode cX8_init 39 = .ok (.putfield 22, 3) := by decide +kernel
theorem dX8_init_42 : decode cX8_init 42 = .ok (.aload_n 0, 1) := by decide +kernel
theorem dX8_init_43 : decode cX8_init 43 = .ok (.new 26, 3) := by decide +kernel
theorem dX8_init_46 : decode cX8_init 46 = .ok (.dup, 1) := by decide +kernel
theorem dX8_init_47 : decode cX8_init 47 = .ok (.invokespecial 28, 3) := by decide +kernel
theorem dX8_init_50 : decode cX8_init 50 = .ok (.putfield 29, 3) := by decide +kernel
theorem dX8_init_53 : decode cX8_init 53 = .ok (.aload_n 0, 1) := by decide +kernel
theorem dX8_init_54 : decode cX8_init 54 = .ok (.new 33, 3) := by decide +kernel
theorem dX8_init_57 : decode cX8_init 57 = .ok (.dup, 1) := by decide +kernel
theorem dX8_init_58 : decode cX8_init 58 = .ok (.invokespecial 35, 3) := by decide +kernel
theorem dX8_init_61 : decode cX8_init 61 = .ok (.putfield 36, 3) := by decide +kernel
theorem dX8_init_64 : decode cX8_init 64 = .ok (.aload_n 0, 1) := by decide +kernel
theorem dX8_init_65 : decode cX8_init 65 = .ok (.new 40, 3) := by decide +kernel
theorem dX8_init_68 : decode cX8_init 68 = .ok (.dup, 1) := by decide +kernel
theorem dX8_init_69 : decode cX8_init 69 = .ok (.invokespecial 42, 3) := by decide +kernel
theorem dX8_init_72 : decode cX8_init 72 = .ok (.putfield 43, 3) := by decide +kernel
theorem dX8_init_75 : decode cX8_init 75 = .ok (.aload_n 0, 1) := by decide +kernel
theorem dX8_init_76 : decode cX8_init 76 = .ok (.new 47, 3) := by decide +kernel
theorem dX8_init_79 : decode cX8_init 79 = .ok (.dup, 1) := by decide +kernel
theorem dX8_init_80 : decode cX8_init 80 = .ok (.invokespecial 49, 3) := by decide +kernel
theorem dX8_init_83 : decode cX8_init 83 = .ok (.putfield 50, 3) := by decide +kernel
theorem dX8_init_86 : decode cX8_init 86 = .ok (.aload_n 0, 1) := by decide +kernel
theorem dX8_init_87 : decode cX8_init 87 = .ok (.new 54, 3) := by decide +kernel
theorem dX8_init_90 : decode cX8_init 90 = .ok (.dup, 1) := by decide +kernel
theorem dX8_init_91 : decode cX8_init 91 = .ok (.invokespecial 56, 3) := by decide +kernel
theorem dX8_init_94 : decode cX8_init 94 = .ok (.putfield 57, 3) := by decide +kernel
theorem dX8_init_97 : decode cX8_init 97 = .ok (.aload_n 0, 1) := by decide +kernel
theorem dX8_init_98 : decode cX8_init 98 = .ok (.new 54, 3) := by decide +kernel
theorem dX8_init_101 : decode cX8_init 101 = .ok (.dup, 1) := by decide +kernel
theorem dX8_init_102 : decode cX8_init 102 = .ok (.invokespecial 56, 3) := by decide +kernel
theorem dX8_init_105 : decode cX8_init 105 = .ok (.putfield 61, 3) := by decide +kernel
theorem dX8_init_108 : decode cX8_init 108 = .ok (.aload_n 0, 1) := by decide +kernel
theorem dX8_init_109 : decode cX8_init 109 = .ok (.bipush 7, 2) := by decide +kernel
theorem dX8_init_111 : decode cX8_init 111 = .ok (.newarray .int, 2) := by decide +kernel
theorem dX8_init_113 : decode cX8_init 113 = .ok (.putfield 64, 3) := by decide +kernel
theorem dX8_init_116 : decode cX8_init 116 = .ok (.return_, 1) := by decide +kernel
theorem dX8_letter_0 : decode cX8_letter 0 = .ok (.iload_n 1, 1) := by decide +kernel
theorem dX8_letter_1 : decode cX8_letter 1 = .ok (.ifCond .ge 10, 3) := by decide +kernel
theorem dX8_letter_4 : decode cX8_letter 4 = .ok (.aload_n 0, 1) := by decide +kernel
theorem dX8_letter_5 : decode cX8_letter 5 = .ok (.bipush (-4), 2) := by decide +kernel
theorem dX8_letter_7 : decode cX8_letter 7 = .ok (.invokevirtual 68, 3) := by decide +kernel
theorem dX8_letter_10 : decode cX8_letter 10 = .ok (.ireturn, 1) := by decide +kernel
theorem dX8_letter_11 : decode cX8_letter 11 = .ok (.iload_n 1, 1) := by decide +kernel
theorem dX8_letter_12 : decode cX8_letter 12 = .ok (.sipush 255, 3) := by decide +kernel
theorem dX8_letter_15 : decode cX8_letter 15 = .ok (.if_icmp .gt 15, 3) := by decide +kernel
theorem dX8_letter_18 : decode cX8_letter 18 = .ok (.aload_n 0, 1) := by decide +kernel
theorem dX8_letter_19 : decode cX8_letter 19 = .ok (.getfield 29, 3) := by decide +kernel
theorem dX8_letter_22 : decode cX8_letter 22 = .ok (.getfield 72, 3) := by decide +kernel
theorem dX8_letter_25 : decode cX8_letter 25 = .ok (.bipush 72, 2) := by decide +kernel
theorem dX8_letter_27 : decode cX8_letter 27 = .ok (.if_icmp .lt 10, 3) := by decide +kernel
theorem dX8_letter_30 : decode cX8_letter 30 = .ok (.aload_n 0, 1) := by decide +kernel
theorem dX8_letter_31 : decode cX8_letter 31 = .ok (.bipush (-6), 2) := by decide +kernel
theorem dX8_letter_33 : decode cX8_letter 33 = .ok (.invokevirtual 68, 3) := by decide +kernel
theorem dX8_letter_36 : decode cX8_letter 36 = .ok (.ireturn, 1) := by decide +kernel
theorem dX8_letter_37 : decode cX8_letter 37 = .ok (.aload_n 0, 1) := by decide +kernel
theorem dX8_letter_38 : decode cX8_letter 38 = .ok (.getfield 29, 3) := by decide +kernel
theorem dX8_letter_41 : decode cX8_letter 41 = .ok (.iload_n 1, 1) := by decide +kernel
theorem dX8_letter_42 : decode cX8_letter 42 = .ok (.invokevirtual 76, 3) := by decide +kernel
theorem dX8_letter_45 : decode cX8_letter 45 = .ok (.ireturn, 1) := by decide +kernel
theorem dX8_text_0 : decode cX8_text 0 = .ok (.aload_n 0, 1) := by decide +kernel
theorem dX8_text_1 : decode cX8_text 1 = .ok (.getfield 29, 3) := by decide +kernel
theorem dX8_text_4 : decode cX8_text 4 = .ok (.invokevirtual 79, 3) := by decide +kernel
theorem dX8_text_7 : decode cX8_text 7 = .ok (.istore_n 1, 1) := by decide +kernel
theorem dX8_text_8 : decode cX8_text 8 = .ok (.sipush (-1000), 3) := by decide +kernel
theorem dX8_text_11 : decode cX8_text 11 = .ok (.iload_n 1, 1) := by decide +kernel
theorem dX8_text_12 : decode cX8_text 12 = .ok (.isub, 1) := by decide +kernel
theorem dX8_text_13 : decode cX8_text 13 = .ok (.istore_n 2, 1) := by decide +kernel
theorem dX8_text_14 : decode cX8_text 14 = .ok (.iload_n 1, 1) := by decide +kernel
theorem dX8_text_15 : decode cX8_text 15 = .ok (.ifCond .ge 26, 3) := by decide +kernel
theorem dX8_text_18 : decode cX8_text 18 = .ok (.aload_n 0, 1) := by decide +kernel
theorem dX8_text_19 : decode cX8_text 19 = .ok (.getfield 19, 3) := by decide +kernel
theorem dX8_text_22 : decode cX8_text 22 = .ok (.aload_n 0, 1) := by decide +kernel
theorem dX8_text_23 : decode cX8_text 23 = .ok (.getfield 10, 3) := by decide +kernel
theorem dX8_text_26 : decode cX8_text 26 = .ok (.invokevirtual 83, 3) := by decide +kernel
theorem dX8_text_29 : decode cX8_text 29 = .ok (.aload_n 0, 1) := by decide +kernel
theorem dX8_text_30 : decode cX8_text 30 = .ok (.getfield 29, 3) := by decide +kernel
theorem dX8_text_33 : decode cX8_text 33 = .ok (.aload_n 0, 1) := by decide +kernel
theorem dX8_text_34 : decode cX8_text 34 = .ok (.getfield 19, 3) := by decide +kernel
theorem dX8_text_37 : decode cX8_text 37 = .ok (.invokevirtual 87, 3) := by decide +kernel
theorem dX8_text_40 : decode cX8_text 40 = .ok (.istore_n 2, 1) := by decide +kernel
theorem dX8_text_41 : decode cX8_text 41 = .ok (.aload_n 0, 1) := by decide +kernel
theorem dX8_text_42 : decode cX8_text 42 = .ok (.getfield 29, 3) := by decide +kernel
theorem dX8_text_45 : decode cX8_text 45 = .ok (.iconst 0, 1) := by decide +kernel
theorem dX8_text_46 : decode cX8_text 46 = .ok (.putfield 72, 3) := by decide +kernel
theorem dX8_text_49 : decode cX8_text 49 = .ok (.iload_n 2, 1) := by decide +kernel
theorem dX8_text_50 : decode cX8_text 50 = .ok (.ifCond .lt 21, 3) := by decide +kernel
theorem dX8_text_53 : decode cX8_text 53 = .ok (.aload_n 0, 1) := by decide +kernel
theorem dX8_text_54 : decode cX8_text 54 = .ok (.getfield 10, 3) := by decide +kernel
theorem dX8_text_57 : decode cX8_text 57 = .ok (.aload_n 0, 1) := by decide +kernel
theorem dX8_text_58 : decode cX8_text 58 = .ok (.getfield 19, 3) := by decide +kernel
theorem dX8_text_61 : decode cX8_text 61 = .ok (.invokevirtual 83, 3) := by decide +kernel
theorem dX8_text_64 : decode cX8_text 64 = .ok (.aload_n 0, 1) := by decide +kernel
theorem dX8_text_65 : decode cX8_text 65 = .ok (.getfield 43, 3) := by decide +kernel
theorem dX8_text_68 : decode cX8_text 68 = .ok (.invokevirtual 91, 3) := by decide +kernel
theorem dX8_text_71 : decode cX8_text 71 = .ok (.iload_n 2, 1) := by decide +kernel
theorem dX8_text_72 : decode cX8_text 72 = .ok (.ireturn, 1) := by decide +kernel
theorem dX8_size_0 : decode cX8_size 0 = .ok (.iload_n 1, 1) := by decide +kernel
theorem dX8_size_1 : decode cX8_size 1 = .ok (.invokestatic 94, 3) := by decide +kernel
theorem dX8_size_4 : decode cX8_size 4 = .ok (.istore_n 2, 1) := by decide +kernel
theorem dX8_size_5 : decode cX8_size 5 = .ok (.iload_n 2, 1) := by decide +kernel
theorem dX8_size_6 : decode cX8_size 6 = .ok (.ifCond .eq 9, 3) := by decide +kernel
theorem dX8_size_9 : decode cX8_size 9 = .ok (.aload_n 0, 1) := by decide +kernel
theorem dX8_size_10 : decode cX8_size 10 = .ok (.iload_n 2, 1) := by decide +kernel
theorem dX8_size_11 : decode cX8_size 11 = .ok (.invokevirtual 68, 3) := by decide +kernel
theorem dX8_size_14 : decode cX8_size 14 = .ok (.ireturn, 1) := by decide +kernel
theorem dX8_size_15 : decode cX8_size 15 = .ok (.aload_n 0, 1) := by decide +kernel
theorem dX8_size_16 : decode cX8_size 16 = .ok (.getfield 10, 3) := by decide +kernel
theorem dX8_size_19 : decode cX8_size 19 = .ok (.getfield 97, 3) := by decide +kernel
theorem dX8_size_22 : decode cX8_size 22 = .ok (.getfield 100, 3) := by decide +kernel
theorem dX8_size_25 : decode cX8_size 25 = .ok (.istore_n 3, 1) := by decide +kernel
theorem dX8_size_26 : decode cX8_size 26 = .ok (.aload_n 0, 1) := by decide +kernel
theorem dX8_size_27 : decode cX8_size 27 = .ok (.getfield 10, 3) := by decide +kernel
theorem dX8_size_30 : decode cX8_size 30 = .ok (.iload_n 1, 1) := by decide +kernel
theorem dX8_size_31 : decode cX8_size 31 = .ok (.invokevirtual 103, 3) := by decide +kernel
theorem dX8_size_34 : decode cX8_size 34 = .ok (.aload_n 0, 1) := by decide +kernel
theorem dX8_size_35 : decode cX8_size 35 = .ok (.getfield 43, 3) := by decide +kernel
theorem dX8_size_38 : decode cX8_size 38 = .ok (.invokevirtual 91, 3) := by decide +kernel
theorem dX8_size_41 : decode cX8_size 41 = .ok (.iload_n 3, 1) := by decide +kernel
theorem dX8_size_42 : decode cX8_size 42 = .ok (.ireturn, 1) := by decide +kernel
theorem dX8_pair_0 : decode cX8_pair 0 = .ok (.aload_n 0, 1) := by decide +kernel
theorem dX8_pair_1 : decode cX8_pair 1 = .ok (.getfield 10, 3) := by decide +kernel
theorem dX8_pair_4 : decode cX8_pair 4 = .ok (.iload_n 1, 1) := by decide +kernel
theorem dX8_pair_5 : decode cX8_pair 5 = .ok (.iload_n 2, 1) := by decide +kernel
theorem dX8_pair_6 : decode cX8_pair 6 = .ok (.invokevirtual 107, 3) := by decide +kernel
theorem dX8_pair_9 : decode cX8_pair 9 = .ok (.istore_n 3, 1) := by decide +kernel
theorem dX8_pair_10 : decode cX8_pair 10 = .ok (.iload_n 3, 1) := by decide +kernel
theorem dX8_pair_11 : decode cX8_pair 11 = .ok (.ifCond .eq 9, 3) := by decide +kernel
theorem dX8_pair_14 : decode cX8_pair 14 = .ok (.aload_n 0, 1) := by decide +kernel
theorem dX8_pair_15 : decode cX8_pair 15 = .ok (.iload_n 3, 1) := by decide +kernel
theorem dX8_pair_16 : decode cX8_pair 16 = .ok (.invokevirtual 68, 3) := by decide +kernel
theorem dX8_pair_19 : decode cX8_pair 19 = .ok (.ireturn, 1) := by decide +kernel
theorem dX8_pair_20 : decode cX8_pair 20 = .ok (.aload_n 0, 1) := by decide +kernel
theorem dX8_pair_21 : decode cX8_pair 21 = .ok (.getfield 43, 3) := by decide +kernel
theorem dX8_pair_24 : decode cX8_pair 24 = .ok (.invokevirtual 91, 3) := by decide +kernel
theorem dX8_pair_27 : decode cX8_pair 27 = .ok (.aload_n 0, 1) := by decide +kernel
theorem dX8_pair_28 : decode cX8_pair 28 = .ok (.getfield 10, 3) := by decide +kernel
theorem dX8_pair_31 : decode cX8_pair 31 = .ok (.getfield 97, 3) := by decide +kernel
theorem dX8_pair_34 : decode cX8_pair 34 = .ok (.iload_n 1, 1) := by decide +kernel
theorem dX8_pair_35 : decode cX8_pair 35 = .ok (.iload_n 2, 1) := by decide +kernel
theorem dX8_pair_36 : decode cX8_pair 36 = .ok (.invokevirtual 111, 3) := by decide +kernel
theorem dX8_pair_39 : decode cX8_pair 39 = .ok (.aload_n 0, 1) := by decide +kernel
theorem dX8_pair_40 : decode cX8_pair 40 = .ok (.getfield 10, 3) := by decide +kernel
theorem dX8_pair_43 : decode cX8_pair 43 = .ok (.getfield 97, 3) := by decide +kernel
theorem dX8_pair_46 : decode cX8_pair 46 = .ok (.getfield 115, 3) := by decide +kernel
theorem dX8_pair_49 : decode cX8_pair 49 = .ok (.iconst 1, 1) := by decide +kernel
theorem dX8_pair_50 : decode cX8_pair 50 = .ok (.isub, 1) := by decide +kernel
theorem dX8_pair_51 : decode cX8_pair 51 = .ok (.ireturn, 1) := by decide +kernel
theorem dX8_drop_0 : decode cX8_drop 0 = .ok (.aload_n 0, 1) := by decide +kernel
theorem dX8_drop_1 : decode cX8_drop 1 = .ok (.getfield 10, 3) := by decide +kernel
theorem dX8_drop_4 : decode cX8_drop 4 = .ok (.getfield 97, 3) := by decide +kernel
theorem dX8_drop_7 : decode cX8_drop 7 = .ok (.getfield 115, 3) := by decide +kernel
theorem dX8_drop_10 : decode cX8_drop 10 = .ok (.iconst 1, 1) := by decide +kernel
theorem dX8_drop_11 : decode cX8_drop 11 = .ok (.if_icmp .ge 10, 3) := by decide +kernel
theorem dX8_drop_14 : decode cX8_drop 14 = .ok (.aload_n 0, 1) := by decide +kernel
theorem dX8_drop_15 : decode cX8_drop 15 = .ok (.bipush (-3), 2) := by decide +kernel
theorem dX8_drop_17 : decode cX8_drop 17 = .ok (.invokevirtual 68, 3) := by decide +kernel
theorem dX8_drop_20 : decode cX8_drop 20 = .ok (.ireturn, 1) := by decide +kernel
theorem dX8_drop_21 : decode cX8_drop 21 = .ok (.aload_n 0, 1) := by decide +kernel
theorem dX8_drop_22 : decode cX8_drop 22 = .ok (.getfield 43, 3) := by decide +kernel
theorem dX8_drop_25 : decode cX8_drop 25 = .ok (.invokevirtual 91, 3) := by decide +kernel
theorem dX8_drop_28 : decode cX8_drop 28 = .ok (.aload_n 0, 1) := by decide +kernel
theorem dX8_drop_29 : decode cX8_drop 29 = .ok (.getfield 10, 3) := by decide +kernel
theorem dX8_drop_32 : decode cX8_drop 32 = .ok (.getfield 97, 3) := by decide +kernel
theorem dX8_drop_35 : decode cX8_drop 35 = .ok (.dup, 1) := by decide +kernel
theorem dX8_drop_36 : decode cX8_drop 36 = .ok (.getfield 115, 3) := by decide +kernel
theorem dX8_drop_39 : decode cX8_drop 39 = .ok (.iconst 1, 1) := by decide +kernel
theorem dX8_drop_40 : decode cX8_drop 40 = .ok (.isub, 1) := by decide +kernel
theorem dX8_drop_41 : decode cX8_drop 41 = .ok (.putfield 115, 3) := by decide +kernel
theorem dX8_drop_44 : decode cX8_drop 44 = .ok (.aload_n 0, 1) := by decide +kernel
theorem dX8_drop_45 : decode cX8_drop 45 = .ok (.getfield 10, 3) := by decide +kernel
theorem dX8_drop_48 : decode cX8_drop 48 = .ok (.getfield 97, 3) := by decide +kernel
theorem dX8_drop_51 : decode cX8_drop 51 = .ok (.getfield 115, 3) := by decide +kernel
theorem dX8_drop_54 : decode cX8_drop 54 = .ok (.ireturn, 1) := by decide +kernel
theorem dX8_adder_0 : decode cX8_adder 0 = .ok (.aload_n 0, 1) := by decide +kernel
theorem dX8_adder_1 : decode cX8_adder 1 = .ok (.getfield 10, 3) := by decide +kernel
theorem dX8_adder_4 : decode cX8_adder 4 = .ok (.iload_n 1, 1) := by decide +kernel
theorem dX8_adder_5 : decode cX8_adder 5 = .ok (.iload_n 2, 1) := by decide +kernel
theorem dX8_adder_6 : decode cX8_adder 6 = .ok (.invokevirtual 116, 3) := by decide +kernel
theorem dX8_adder_9 : decode cX8_adder 9 = .ok (.istore_n 3, 1) := by decide +kernel
theorem dX8_adder_10 : decode cX8_adder 10 = .ok (.iload_n 3, 1) := by decide +kernel
theorem dX8_adder_11 : decode cX8_adder 11 = .ok (.ifCond .eq 9, 3) := by decide +kernel
theorem dX8_adder_14 : decode cX8_adder 14 = .ok (.aload_n 0, 1) := by decide +kernel
theorem dX8_adder_15 : decode cX8_adder 15 = .ok (.iload_n 3, 1) := by decide +kernel
theorem dX8_adder_16 : decode cX8_adder 16 = .ok (.invokevirtual 68, 3) := by decide +kernel
theorem dX8_adder_19 : decode cX8_adder 19 = .ok (.ireturn, 1) := by decide +kernel
theorem dX8_adder_20 : decode cX8_adder 20 = .ok (.aload_n 0, 1) := by decide +kernel
theorem dX8_adder_21 : decode cX8_adder 21 = .ok (.getfield 43, 3) := by decide +kernel
theorem dX8_adder_24 : decode cX8_adder 24 = .ok (.aload_n 0, 1) := by decide +kernel
theorem dX8_adder_25 : decode cX8_adder 25 = .ok (.getfield 10, 3) := by decide +kernel
theorem dX8_adder_28 : decode cX8_adder 28 = .ok (.getfield 97, 3) := by decide +kernel
theorem dX8_adder_31 : decode cX8_adder 31 = .ok (.invokevirtual 119, 3) := by decide +kernel
theorem dX8_adder_34 : decode cX8_adder 34 = .ok (.aload_n 0, 1) := by decide +kernel
theorem dX8_adder_35 : decode cX8_adder 35 = .ok (.getfield 10, 3) := by decide +kernel
theorem dX8_adder_38 : decode cX8_adder 38 = .ok (.getfield 97, 3) := by decide +kernel
theorem dX8_adder_41 : decode cX8_adder 41 = .ok (.getfield 123, 3) := by decide +kernel
theorem dX8_adder_44 : decode cX8_adder 44 = .ok (.iload_n 1, 1) := by decide +kernel
theorem dX8_adder_45 : decode cX8_adder 45 = .ok (.iaload, 1) := by decide +kernel
theorem dX8_adder_46 : decode cX8_adder 46 = .ok (.istore 4, 2) := by decide +kernel
theorem dX8_adder_48 : decode cX8_adder 48 = .ok (.aload_n 0, 1) := by decide +kernel
theorem dX8_adder_49 : decode cX8_adder 49 = .ok (.getfield 10, 3) := by decide +kernel
theorem dX8_adder_52 : decode cX8_adder 52 = .ok (.getfield 97, 3) := by decide +kernel
theorem dX8_adder_55 : decode cX8_adder 55 = .ok (.getfield 123, 3) := by decide +kernel
theorem dX8_adder_58 : decode cX8_adder 58 = .ok (.iload_n 1, 1) := by decide +kernel
theorem dX8_adder_59 : decode cX8_adder 59 = .ok (.iload_n 2, 1) := by decide +kernel
theorem dX8_adder_60 : decode cX8_adder 60 = .ok (.iastore, 1) := by decide +kernel
theorem dX8_adder_61 : decode cX8_adder 61 = .ok (.iload 4, 2) := by decide +kernel
theorem dX8_adder_63 : decode cX8_adder 63 = .ok (.ireturn, 1) := by decide +kernel
theorem dX8_of_0 : decode cX8_of 0 = .ok (.aload_n 0, 1) := by decide +kernel
theorem dX8_of_1 : decode cX8_of 1 = .ok (.getfield 10, 3) := by decide +kernel
theorem dX8_of_4 : decode cX8_of 4 = .ok (.getfield 97, 3) := by decide +kernel
theorem dX8_of_7 : decode cX8_of 7 = .ok (.iload_n 1, 1) := by decide +kernel
theorem dX8_of_8 : decode cX8_of 8 = .ok (.invokevirtual 126, 3) := by decide +kernel
theorem dX8_of_11 : decode cX8_of 11 = .ok (.ifCond .ne 9, 3) := by decide +kernel
theorem dX8_of_14 : decode cX8_of 14 = .ok (.aload_n 0, 1) := by decide +kernel
theorem dX8_of_15 : decode cX8_of 15 = .ok (.iconst (-1), 1) := by decide +kernel
theorem dX8_of_16 : decode cX8_of 16 = .ok (.invokevirtual 68, 3) := by decide +kernel
theorem dX8_of_19 : decode cX8_of 19 = .ok (.ireturn, 1) := by decide +kernel
theorem dX8_of_20 : decode cX8_of 20 = .ok (.iload_n 2, 1) := by decide +kernel
theorem dX8_of_21 : decode cX8_of 21 = .ok (.ifCond .lt 8, 3) := by decide +kernel
theorem dX8_of_24 : decode cX8_of 24 = .ok (.iload_n 2, 1) := by decide +kernel
theorem dX8_of_25 : decode cX8_of 25 = .ok (.iconst 4, 1) := by decide +kernel
theorem dX8_of_26 : decode cX8_of 26 = .ok (.if_icmp .le 10, 3) := by decide +kernel
theorem dX8_of_29 : decode cX8_of 29 = .ok (.aload_n 0, 1) := by decide +kernel
theorem dX8_of_30 : decode cX8_of 30 = .ok (.bipush (-2), 2) := by decide +kernel
theorem dX8_of_32 : decode cX8_of 32 = .ok (.invokevirtual 68, 3) := by decide +kernel
theorem dX8_of_35 : decode cX8_of 35 = .ok (.ireturn, 1) := by decide +kernel
theorem dX8_of_36 : decode cX8_of 36 = .ok (.aload_n 0, 1) := by decide +kernel
theorem dX8_of_37 : decode cX8_of 37 = .ok (.getfield 10, 3) := by decide +kernel
theorem dX8_of_40 : decode cX8_of 40 = .ok (.getfield 97, 3) := by decide +kernel
theorem dX8_of_43 : decode cX8_of 43 = .ok (.iload_n 1, 1) := by decide +kernel
theorem dX8_of_44 : decode cX8_of 44 = .ok (.iload_n 2, 1) := by decide +kernel
theorem dX8_of_45 : decode cX8_of 45 = .ok (.invokevirtual 130, 3) := by decide +kernel
theorem dX8_of_48 : decode cX8_of 48 = .ok (.ireturn, 1) := by decide +kernel
theorem dX8_is_0 : decode cX8_is 0 = .ok (.iload_n 1, 1) := by decide +kernel
theorem dX8_is_1 : decode cX8_is 1 = .ok (.ifCond .lt 8, 3) := by decide +kernel
theorem dX8_is_4 : decode cX8_is 4 = .ok (.iload_n 1, 1) := by decide +kernel
theorem dX8_is_5 : decode cX8_is 5 = .ok (.iconst 4, 1) := by decide +kernel
theorem dX8_is_6 : decode cX8_is 6 = .ok (.if_icmp .le 10, 3) := by decide +kernel
theorem dX8_is_9 : decode cX8_is 9 = .ok (.aload_n 0, 1) := by decide +kernel
theorem dX8_is_10 : decode cX8_is 10 = .ok (.bipush (-2), 2) := by decide +kernel
theorem dX8_is_12 : decode cX8_is 12 = .ok (.invokevirtual 68, 3) := by decide +kernel
theorem dX8_is_15 : decode cX8_is 15 = .ok (.ireturn, 1) := by decide +kernel
theorem dX8_is_16 : decode cX8_is 16 = .ok (.aload_n 0, 1) := by decide +kernel
theorem dX8_is_17 : decode cX8_is 17 = .ok (.getfield 10, 3) := by decide +kernel
theorem dX8_is_20 : decode cX8_is 20 = .ok (.getfield 97, 3) := by decide +kernel
theorem dX8_is_23 : decode cX8_is 23 = .ok (.iload_n 1, 1) := by decide +kernel
theorem dX8_is_24 : decode cX8_is 24 = .ok (.invokevirtual 133, 3) := by decide +kernel
theorem dX8_is_27 : decode cX8_is 27 = .ok (.invokestatic 136, 3) := by decide +kernel
theorem dX8_is_30 : decode cX8_is 30 = .ok (.ireturn, 1) := by decide +kernel
theorem dX8_book_0 : decode cX8_book 0 = .ok (.aload_n 0, 1) := by decide +kernel
theorem dX8_book_1 : decode cX8_book 1 = .ok (.getfield 10, 3) := by decide +kernel
theorem dX8_book_4 : decode cX8_book 4 = .ok (.getfield 97, 3) := by decide +kernel
theorem dX8_book_7 : decode cX8_book 7 = .ok (.astore_n 1, 1) := by decide +kernel
theorem dX8_book_8 : decode cX8_book 8 = .ok (.aload_n 1, 1) := by decide +kernel
theorem dX8_book_9 : decode cX8_book 9 = .ok (.getfield 100, 3) := by decide +kernel
theorem dX8_book_12 : decode cX8_book 12 = .ok (.bipush 11, 2) := by decide +kernel
theorem dX8_book_14 : decode cX8_book 14 = .ok (.if_icmp .le 10, 3) := by decide +kernel
theorem dX8_book_17 : decode cX8_book 17 = .ok (.aload_n 0, 1) := by decide +kernel
theorem dX8_book_18 : decode cX8_book 18 = .ok (.bipush (-6), 2) := by decide +kernel
theorem dX8_book_20 : decode cX8_book 20 = .ok (.invokevirtual 68, 3) := by decide +kernel
theorem dX8_book_23 : decode cX8_book 23 = .ok (.ireturn, 1) := by decide +kernel
theorem dX8_book_24 : decode cX8_book 24 = .ok (.aload_n 0, 1) := by decide +kernel
theorem dX8_book_25 : decode cX8_book 25 = .ok (.getfield 43, 3) := by decide +kernel
theorem dX8_book_28 : decode cX8_book 28 = .ok (.invokevirtual 91, 3) := by decide +kernel
theorem dX8_book_31 : decode cX8_book 31 = .ok (.aload_n 1, 1) := by decide +kernel
theorem dX8_book_32 : decode cX8_book 32 = .ok (.aload_n 1, 1) := by decide +kernel
theorem dX8_book_33 : decode cX8_book 33 = .ok (.getfield 100, 3) := by decide +kernel
theorem dX8_book_36 : decode cX8_book 36 = .ok (.invokevirtual 140, 3) := by decide +kernel
theorem dX8_book_39 : decode cX8_book 39 = .ok (.aload_n 0, 1) := by decide +kernel
theorem dX8_book_40 : decode cX8_book 40 = .ok (.getfield 50, 3) := by decide +kernel
theorem dX8_book_43 : decode cX8_book 43 = .ok (.aload_n 1, 1) := by decide +kernel
theorem dX8_book_44 : decode cX8_book 44 = .ok (.iconst 0, 1) := by decide +kernel
theorem dX8_book_45 : decode cX8_book 45 = .ok (.invokevirtual 143, 3) := by decide +kernel
theorem dX8_book_48 : decode cX8_book 48 = .ok (.aload_n 0, 1) := by decide +kernel
theorem dX8_book_49 : decode cX8_book 49 = .ok (.getfield 50, 3) := by decide +kernel
theorem dX8_book_52 : decode cX8_book 52 = .ok (.getfield 147, 3) := by decide +kernel
theorem dX8_book_55 : decode cX8_book 55 = .ok (.ifCond .le 14, 3) := by decide +kernel
theorem dX8_book_58 : decode cX8_book 58 = .ok (.aload_n 1, 1) := by decide +kernel
theorem dX8_book_59 : decode cX8_book 59 = .ok (.aload_n 0, 1) := by decide +kernel
theorem dX8_book_60 : decode cX8_book 60 = .ok (.getfield 50, 3) := by decide +kernel
theorem dX8_book_63 : decode cX8_book 63 = .ok (.getfield 150, 3) := by decide +kernel
theorem dX8_book_66 : decode cX8_book 66 = .ok (.invokevirtual 153, 3) := by decide +kernel
theorem dX8_book_69 : decode cX8_book 69 = .ok (.aload_n 1, 1) := by decide +kernel
theorem dX8_book_70 : decode cX8_book 70 = .ok (.getfield 115, 3) := by decide +kernel
theorem dX8_book_73 : decode cX8_book 73 = .ok (.ireturn, 1) := by decide +kernel
theorem dX8_right_0 : decode cX8_right 0 = .ok (.aload_n 0, 1) := by decide +kernel
theorem dX8_right_1 : decode cX8_right 1 = .ok (.getfield 10, 3) := by decide +kernel
theorem dX8_right_4 : decode cX8_right 4 = .ok (.getfield 97, 3) := by decide +kernel
theorem dX8_right_7 : decode cX8_right 7 = .ok (.astore_n 2, 1) := by decide +kernel
theorem dX8_right_8 : decode cX8_right 8 = .ok (.iload_n 1, 1) := by decide +kernel
theorem dX8_right_9 : decode cX8_right 9 = .ok (.ifCond .ge 10, 3) := by decide +kernel
theorem dX8_right_12 : decode cX8_right 12 = .ok (.aload_n 0, 1) := by decide +kernel
theorem dX8_right_13 : decode cX8_right 13 = .ok (.bipush (-4), 2) := by decide +kernel
theorem dX8_right_15 : decode cX8_right 15 = .ok (.invokevirtual 68, 3) := by decide +kernel
theorem dX8_right_18 : decode cX8_right 18 = .ok (.ireturn, 1) := by decide +kernel
theorem dX8_right_19 : decode cX8_right 19 = .ok (.iload_n 1, 1) := by decide +kernel
theorem dX8_right_20 : decode cX8_right 20 = .ok (.aload_n 2, 1) := by decide +kernel
theorem dX8_right_21 : decode cX8_right 21 = .ok (.invokevirtual 155, 3) := by decide +kernel
theorem dX8_right_24 : decode cX8_right 24 = .ok (.if_icmp .le 10, 3) := by decide +kernel
theorem dX8_right_27 : decode cX8_right 27 = .ok (.aload_n 0, 1) := by decide +kernel
theorem dX8_right_28 : decode cX8_right 28 = .ok (.bipush (-6), 2) := by decide +kernel
theorem dX8_right_30 : decode cX8_right 30 = .ok (.invokevirtual 68, 3) := by decide +kernel
theorem dX8_right_33 : decode cX8_right 33 = .ok (.ireturn, 1) := by decide +kernel
theorem dX8_right_34 : decode cX8_right 34 = .ok (.aload_n 2, 1) := by decide +kernel
theorem dX8_right_35 : decode cX8_right 35 = .ok (.invokevirtual 158, 3) := by decide +kernel
theorem dX8_right_38 : decode cX8_right 38 = .ok (.ifCond .ne 10, 3) := by decide +kernel
theorem dX8_right_41 : decode cX8_right 41 = .ok (.aload_n 0, 1) := by decide +kernel
theorem dX8_right_42 : decode cX8_right 42 = .ok (.bipush (-3), 2) := by decide +kernel
theorem dX8_right_44 : decode cX8_right 44 = .ok (.invokevirtual 68, 3) := by decide +kernel
theorem dX8_right_47 : decode cX8_right 47 = .ok (.ireturn, 1) := by decide +kernel
theorem dX8_right_48 : decode cX8_right 48 = .ok (.aload_n 0, 1) := by decide +kernel
theorem dX8_right_49 : decode cX8_right 49 = .ok (.getfield 57, 3) := by decide +kernel
theorem dX8_right_52 : decode cX8_right 52 = .ok (.aload_n 2, 1) := by decide +kernel
theorem dX8_right_53 : decode cX8_right 53 = .ok (.getfield 100, 3) := by decide +kernel
theorem dX8_right_56 : decode cX8_right 56 = .ok (.invokevirtual 140, 3) := by decide +kernel
theorem dX8_right_59 : decode cX8_right 59 = .ok (.iload_n 1, 1) := by decide +kernel
theorem dX8_right_60 : decode cX8_right 60 = .ok (.ifCond .ne 17, 3) := by decide +kernel
theorem dX8_right_63 : decode cX8_right 63 = .ok (.aload_n 2, 1) := by decide +kernel
theorem dX8_right_64 : decode cX8_right 64 = .ok (.aload_n 0, 1) := by decide +kernel
theorem dX8_right_65 : decode cX8_right 65 = .ok (.getfield 57, 3) := by decide +kernel
theorem dX8_right_68 : decode cX8_right 68 = .ok (.invokevirtual 162, 3) := by decide +kernel
theorem dX8_right_71 : decode cX8_right 71 = .ok (.invokestatic 136, 3) := by decide +kernel
theorem dX8_right_74 : decode cX8_right 74 = .ok (.goto 12, 3) := by decide +kernel
theorem dX8_right_77 : decode cX8_right 77 = .ok (.aload_n 2, 1) := by decide +kernel
theorem dX8_right_78 : decode cX8_right 78 = .ok (.aload_n 0, 1) := by decide +kernel
theorem dX8_right_79 : decode cX8_right 79 = .ok (.getfield 57, 3) := by decide +kernel
theorem dX8_right_82 : decode cX8_right 82 = .ok (.iload_n 1, 1) := by decide +kernel
theorem dX8_right_83 : decode cX8_right 83 = .ok (.invokevirtual 166, 3) := by decide +kernel
theorem dX8_right_86 : decode cX8_right 86 = .ok (.ireturn, 1) := by decide +kernel
theorem dX8_build_0 : decode cX8_build 0 = .ok (.aload_n 0, 1) := by decide +kernel
theorem dX8_build_1 : decode cX8_build 1 = .ok (.getfield 10, 3) := by decide +kernel
theorem dX8_build_4 : decode cX8_build 4 = .ok (.getfield 97, 3) := by decide +kernel
theorem dX8_build_7 : decode cX8_build 7 = .ok (.invokevirtual 170, 3) := by decide +kernel
theorem dX8_build_10 : decode cX8_build 10 = .ok (.ifCond .ne 10, 3) := by decide +kernel
theorem dX8_build_13 : decode cX8_build 13 = .ok (.aload_n 0, 1) := by decide +kernel
theorem dX8_build_14 : decode cX8_build 14 = .ok (.bipush (-3), 2) := by decide +kernel
theorem dX8_build_16 : decode cX8_build 16 = .ok (.invokevirtual 68, 3) := by decide +kernel
theorem dX8_build_19 : decode cX8_build 19 = .ok (.ireturn, 1) := by decide +kernel
theorem dX8_build_20 : decode cX8_build 20 = .ok (.aload_n 0, 1) := by decide +kernel
theorem dX8_build_21 : decode cX8_build 21 = .ok (.getfield 43, 3) := by decide +kernel
theorem dX8_build_24 : decode cX8_build 24 = .ok (.invokevirtual 91, 3) := by decide +kernel
theorem dX8_build_27 : decode cX8_build 27 = .ok (.aload_n 0, 1) := by decide +kernel
theorem dX8_build_28 : decode cX8_build 28 = .ok (.getfield 10, 3) := by decide +kernel
theorem dX8_build_31 : decode cX8_build 31 = .ok (.getfield 173, 3) := by decide +kernel
theorem dX8_build_34 : decode cX8_build 34 = .ok (.aload_n 0, 1) := by decide +kernel
theorem dX8_build_35 : decode cX8_build 35 = .ok (.getfield 10, 3) := by decide +kernel
theorem dX8_build_38 : decode cX8_build 38 = .ok (.getfield 97, 3) := by decide +kernel
theorem dX8_build_41 : decode cX8_build 41 = .ok (.invokevirtual 177, 3) := by decide +kernel
theorem dX8_build_44 : decode cX8_build 44 = .ok (.ireturn, 1) := by decide +kernel
theorem dX8_cell_0 : decode cX8_cell 0 = .ok (.aload_n 0, 1) := by decide +kernel
theorem dX8_cell_1 : decode cX8_cell 1 = .ok (.iload_n 1, 1) := by decide +kernel
theorem dX8_cell_2 : decode cX8_cell 2 = .ok (.iload_n 2, 1) := by decide +kernel
theorem dX8_cell_3 : decode cX8_cell 3 = .ok (.iload_n 3, 1) := by decide +kernel
theorem dX8_cell_4 : decode cX8_cell 4 = .ok (.iload 4, 2) := by decide +kernel
theorem dX8_cell_6 : decode cX8_cell 6 = .ok (.invokevirtual 183, 3) := by decide +kernel
theorem dX8_cell_9 : decode cX8_cell 9 = .ok (.istore 5, 2) := by decide +kernel
theorem dX8_cell_11 : decode cX8_cell 11 = .ok (.iload 5, 2) := by decide +kernel
theorem dX8_cell_13 : decode cX8_cell 13 = .ok (.ifCond .eq 10, 3) := by decide +kernel
theorem dX8_cell_16 : decode cX8_cell 16 = .ok (.aload_n 0, 1) := by decide +kernel
theorem dX8_cell_17 : decode cX8_cell 17 = .ok (.iload 5, 2) := by decide +kernel
theorem dX8_cell_19 : decode cX8_cell 19 = .ok (.invokevirtual 68, 3) := by decide +kernel
theorem dX8_cell_22 : decode cX8_cell 22 = .ok (.ireturn, 1) := by decide +kernel
theorem dX8_cell_23 : decode cX8_cell 23 = .ok (.aload_n 0, 1) := by decide +kernel
theorem dX8_cell_24 : decode cX8_cell 24 = .ok (.getfield 10, 3) := by decide +kernel
theorem dX8_cell_27 : decode cX8_cell 27 = .ok (.getfield 173, 3) := by decide +kernel
theorem dX8_cell_30 : decode cX8_cell 30 = .ok (.iload_n 1, 1) := by decide +kernel
theorem dX8_cell_31 : decode cX8_cell 31 = .ok (.iload_n 2, 1) := by decide +kernel
theorem dX8_cell_32 : decode cX8_cell 32 = .ok (.invokevirtual 187, 3) := by decide +kernel
theorem dX8_cell_35 : decode cX8_cell 35 = .ok (.istore 6, 2) := by decide +kernel
theorem dX8_cell_37 : decode cX8_cell 37 = .ok (.aload_n 0, 1) := by decide +kernel
theorem dX8_cell_38 : decode cX8_cell 38 = .ok (.getfield 10, 3) := by decide +kernel
theorem dX8_cell_41 : decode cX8_cell 41 = .ok (.getfield 173, 3) := by decide +kernel
theorem dX8_cell_44 : decode cX8_cell 44 = .ok (.getfield 190, 3) := by decide +kernel
theorem dX8_cell_47 : decode cX8_cell 47 = .ok (.iload 6, 2) := by decide +kernel
theorem dX8_cell_49 : decode cX8_cell 49 = .ok (.iaload, 1) := by decide +kernel
theorem dX8_cell_50 : decode cX8_cell 50 = .ok (.istore 7, 2) := by decide +kernel
theorem dX8_cell_52 : decode cX8_cell 52 = .ok (.aload_n 0, 1) := by decide +kernel
theorem dX8_cell_53 : decode cX8_cell 53 = .ok (.getfield 43, 3) := by decide +kernel
theorem dX8_cell_56 : decode cX8_cell 56 = .ok (.aload_n 0, 1) := by decide +kernel
theorem dX8_cell_57 : decode cX8_cell 57 = .ok (.getfield 10, 3) := by decide +kernel
theorem dX8_cell_60 : decode cX8_cell 60 = .ok (.getfield 97, 3) := by decide +kernel
theorem dX8_cell_63 : decode cX8_cell 63 = .ok (.iload 6, 2) := by decide +kernel
theorem dX8_cell_65 : decode cX8_cell 65 = .ok (.iload 7, 2) := by decide +kernel
theorem dX8_cell_67 : decode cX8_cell 67 = .ok (.invokevirtual 193, 3) := by decide +kernel
theorem dX8_cell_70 : decode cX8_cell 70 = .ok (.aload_n 0, 1) := by decide +kernel
theorem dX8_cell_71 : decode cX8_cell 71 = .ok (.getfield 10, 3) := by decide +kernel
theorem dX8_cell_74 : decode cX8_cell 74 = .ok (.getfield 173, 3) := by decide +kernel
theorem dX8_cell_77 : decode cX8_cell 77 = .ok (.getfield 190, 3) := by decide +kernel
theorem dX8_cell_80 : decode cX8_cell 80 = .ok (.iload 6, 2) := by decide +kernel
theorem dX8_cell_82 : decode cX8_cell 82 = .ok (.iload_n 3, 1) := by decide +kernel
theorem dX8_cell_83 : decode cX8_cell 83 = .ok (.ifCond .ge 7, 3) := by decide +kernel
theorem dX8_cell_86 : decode cX8_cell 86 = .ok (.iconst 0, 1) := by decide +kernel
theorem dX8_cell_87 : decode cX8_cell 87 = .ok (.goto 9, 3) := by decide +kernel
theorem dX8_cell_90 : decode cX8_cell 90 = .ok (.iload_n 3, 1) := by decide +kernel
theorem dX8_cell_91 : decode cX8_cell 91 = .ok (.iload 4, 2) := by decide +kernel
theorem dX8_cell_93 : decode cX8_cell 93 = .ok (.invokestatic 197, 3) := by decide +kernel
theorem dX8_cell_96 : decode cX8_cell 96 = .ok (.iastore, 1) := by decide +kernel
theorem dX8_cell_97 : decode cX8_cell 97 = .ok (.iload 7, 2) := by decide +kernel
theorem dX8_cell_99 : decode cX8_cell 99 = .ok (.ifCond .eq 7, 3) := by decide +kernel
theorem dX8_cell_102 : decode cX8_cell 102 = .ok (.iconst 1, 1) := by decide +kernel
theorem dX8_cell_103 : decode cX8_cell 103 = .ok (.goto 4, 3) := by decide +kernel
theorem dX8_cell_106 : decode cX8_cell 106 = .ok (.iconst 0, 1) := by decide +kernel
theorem dX8_cell_107 : decode cX8_cell 107 = .ok (.invokestatic 136, 3) := by decide +kernel
theorem dX8_cell_110 : decode cX8_cell 110 = .ok (.ireturn, 1) := by decide +kernel
theorem dX8_at_0 : decode cX8_at 0 = .ok (.aload_n 0, 1) := by decide +kernel
theorem dX8_at_1 : decode cX8_at 1 = .ok (.getfield 10, 3) := by decide +kernel
theorem dX8_at_4 : decode cX8_at 4 = .ok (.getfield 173, 3) := by decide +kernel
theorem dX8_at_7 : decode cX8_at 7 = .ok (.iload_n 1, 1) := by decide +kernel
theorem dX8_at_8 : decode cX8_at 8 = .ok (.iload_n 2, 1) := by decide +kernel
theorem dX8_at_9 : decode cX8_at 9 = .ok (.invokevirtual 200, 3) := by decide +kernel
theorem dX8_at_12 : decode cX8_at 12 = .ok (.ifCond .ne 9, 3) := by decide +kernel
theorem dX8_at_15 : decode cX8_at 15 = .ok (.aload_n 0, 1) := by decide +kernel
theorem dX8_at_16 : decode cX8_at 16 = .ok (.iconst (-1), 1) := by decide +kernel
theorem dX8_at_17 : decode cX8_at 17 = .ok (.invokevirtual 68, 3) := by decide +kernel
theorem dX8_at_20 : decode cX8_at 20 = .ok (.ireturn, 1) := by decide +kernel
theorem dX8_at_21 : decode cX8_at 21 = .ok (.iload_n 3, 1) := by decide +kernel
theorem dX8_at_22 : decode cX8_at 22 = .ok (.ifCond .lt 8, 3) := by decide +kernel
theorem dX8_at_25 : decode cX8_at 25 = .ok (.iload_n 3, 1) := by decide +kernel
theorem dX8_at_26 : decode cX8_at 26 = .ok (.iconst 1, 1) := by decide +kernel
theorem dX8_at_27 : decode cX8_at 27 = .ok (.if_icmp .le 10, 3) := by decide +kernel
theorem dX8_at_30 : decode cX8_at 30 = .ok (.aload_n 0, 1) := by decide +kernel
theorem dX8_at_31 : decode cX8_at 31 = .ok (.bipush (-2), 2) := by decide +kernel
theorem dX8_at_33 : decode cX8_at 33 = .ok (.invokevirtual 68, 3) := by decide +kernel
theorem dX8_at_36 : decode cX8_at 36 = .ok (.ireturn, 1) := by decide +kernel
theorem dX8_at_37 : decode cX8_at 37 = .ok (.aload_n 0, 1) := by decide +kernel
theorem dX8_at_38 : decode cX8_at 38 = .ok (.getfield 10, 3) := by decide +kernel
theorem dX8_at_41 : decode cX8_at 41 = .ok (.getfield 173, 3) := by decide +kernel
theorem dX8_at_44 : decode cX8_at 44 = .ok (.getfield 190, 3) := by decide +kernel
theorem dX8_at_47 : decode cX8_at 47 = .ok (.aload_n 0, 1) := by decide +kernel
theorem dX8_at_48 : decode cX8_at 48 = .ok (.getfield 10, 3) := by decide +kernel
theorem dX8_at_51 : decode cX8_at 51 = .ok (.getfield 173, 3) := by decide +kernel
theorem dX8_at_54 : decode cX8_at 54 = .ok (.iload_n 1, 1) := by decide +kernel
theorem dX8_at_55 : decode cX8_at 55 = .ok (.iload_n 2, 1) := by decide +kernel
theorem dX8_at_56 : decode cX8_at 56 = .ok (.invokevirtual 187, 3) := by decide +kernel
theorem dX8_at_59 : decode cX8_at 59 = .ok (.iaload, 1) := by decide +kernel
theorem dX8_at_60 : decode cX8_at 60 = .ok (.istore 4, 2) := by decide +kernel
theorem dX8_at_62 : decode cX8_at 62 = .ok (.iload 4, 2) := by decide +kernel
theorem dX8_at_64 : decode cX8_at 64 = .ok (.ifCond .ne 6, 3) := by decide +kernel
theorem dX8_at_67 : decode cX8_at 67 = .ok (.bipush (-9), 2) := by decide +kernel
theorem dX8_at_69 : decode cX8_at 69 = .ok (.ireturn, 1) := by decide +kernel
theorem dX8_at_70 : decode cX8_at 70 = .ok (.iload_n 3, 1) := by decide +kernel
theorem dX8_at_71 : decode cX8_at 71 = .ok (.ifCond .ne 11, 3) := by decide +kernel
theorem dX8_at_74 : decode cX8_at 74 = .ok (.iload 4, 2) := by decide +kernel
theorem dX8_at_76 : decode cX8_at 76 = .ok (.invokestatic 203, 3) := by decide +kernel
theorem dX8_at_79 : decode cX8_at 79 = .ok (.goto 8, 3) := by decide +kernel
theorem dX8_at_82 : decode cX8_at 82 = .ok (.iload 4, 2) := by decide +kernel
theorem dX8_at_84 : decode cX8_at 84 = .ok (.invokestatic 206, 3) := by decide +kernel
theorem dX8_at_87 : decode cX8_at 87 = .ok (.ireturn, 1) := by decide +kernel
theorem dX8_faults_0 : decode cX8_faults 0 = .ok (.iload_n 1, 1) := by decide +kernel
theorem dX8_faults_1 : decode cX8_faults 1 = .ok (.ifCond .lt 8, 3) := by decide +kernel
theorem dX8_faults_4 : decode cX8_faults 4 = .ok (.iload_n 1, 1) := by decide +kernel
theorem dX8_faults_5 : decode cX8_faults 5 = .ok (.iconst 2, 1) := by decide +kernel
theorem dX8_faults_6 : decode cX8_faults 6 = .ok (.if_icmp .le 10, 3) := by decide +kernel
theorem dX8_faults_9 : decode cX8_faults 9 = .ok (.aload_n 0, 1) := by decide +kernel
theorem dX8_faults_10 : decode cX8_faults 10 = .ok (.bipush (-2), 2) := by decide +kernel
theorem dX8_faults_12 : decode cX8_faults 12 = .ok (.invokevirtual 68, 3) := by decide +kernel
theorem dX8_faults_15 : decode cX8_faults 15 = .ok (.ireturn, 1) := by decide +kernel
theorem dX8_faults_16 : decode cX8_faults 16 = .ok (.iload_n 1, 1) := by decide +kernel
theorem dX8_faults_17 : decode cX8_faults 17 = .ok (.iconst 2, 1) := by decide +kernel
theorem dX8_faults_18 : decode cX8_faults 18 = .ok (.if_icmp .ne 14, 3) := by decide +kernel
theorem dX8_faults_21 : decode cX8_faults 21 = .ok (.aload_n 0, 1) := by decide +kernel
theorem dX8_faults_22 : decode cX8_faults 22 = .ok (.getfield 10, 3) := by decide +kernel
theorem dX8_faults_25 : decode cX8_faults 25 = .ok (.getfield 173, 3) := by decide +kernel
theorem dX8_faults_28 : decode cX8_faults 28 = .ok (.invokevirtual 209, 3) := by decide +kernel
theorem dX8_faults_31 : decode cX8_faults 31 = .ok (.ireturn, 1) := by decide +kernel
theorem dX8_faults_32 : decode cX8_faults 32 = .ok (.iload_n 2, 1) := by decide +kernel
theorem dX8_faults_33 : decode cX8_faults 33 = .ok (.ifCond .lt 17, 3) := by decide +kernel
theorem dX8_faults_36 : decode cX8_faults 36 = .ok (.iload_n 2, 1) := by decide +kernel
theorem dX8_faults_37 : decode cX8_faults 37 = .ok (.aload_n 0, 1) := by decide +kernel
theorem dX8_faults_38 : decode cX8_faults 38 = .ok (.getfield 10, 3) := by decide +kernel
theorem dX8_faults_41 : decode cX8_faults 41 = .ok (.getfield 173, 3) := by decide +kernel
theorem dX8_faults_44 : decode cX8_faults 44 = .ok (.getfield 212, 3) := by decide +kernel
theorem dX8_faults_47 : decode cX8_faults 47 = .ok (.if_icmp .lt 9, 3) := by decide +kernel
theorem dX8_faults_50 : decode cX8_faults 50 = .ok (.aload_n 0, 1) := by decide +kernel
theorem dX8_faults_51 : decode cX8_faults 51 = .ok (.iconst (-1), 1) := by decide +kernel
theorem dX8_faults_52 : decode cX8_faults 52 = .ok (.invokevirtual 68, 3) := by decide +kernel
theorem dX8_faults_55 : decode cX8_faults 55 = .ok (.ireturn, 1) := by decide +kernel
theorem dX8_faults_56 : decode cX8_faults 56 = .ok (.aload_n 0, 1) := by decide +kernel
theorem dX8_faults_57 : decode cX8_faults 57 = .ok (.getfield 10, 3) := by decide +kernel
theorem dX8_faults_60 : decode cX8_faults 60 = .ok (.getfield 173, 3) := by decide +kernel
theorem dX8_faults_63 : decode cX8_faults 63 = .ok (.iload_n 1, 1) := by decide +kernel
theorem dX8_faults_64 : decode cX8_faults 64 = .ok (.ifCond .ne 7, 3) := by decide +kernel
theorem dX8_faults_67 : decode cX8_faults 67 = .ok (.iconst 1, 1) := by decide +kernel
theorem dX8_faults_68 : decode cX8_faults 68 = .ok (.goto 4, 3) := by decide +kernel
theorem dX8_faults_71 : decode cX8_faults 71 = .ok (.iconst 0, 1) := by decide +kernel
theorem dX8_faults_72 : decode cX8_faults 72 = .ok (.iload_n 2, 1) := by decide +kernel
theorem dX8_faults_73 : decode cX8_faults 73 = .ok (.invokevirtual 215, 3) := by decide +kernel
theorem dX8_faults_76 : decode cX8_faults 76 = .ok (.ireturn, 1) := by decide +kernel
theorem dX8_indeed_0 : decode cX8_indeed 0 = .ok (.aload_n 0, 1) := by decide +kernel
theorem dX8_indeed_1 : decode cX8_indeed 1 = .ok (.getfield 10, 3) := by decide +kernel
theorem dX8_indeed_4 : decode cX8_indeed 4 = .ok (.getfield 173, 3) := by decide +kernel
theorem dX8_indeed_7 : decode cX8_indeed 7 = .ok (.invokevirtual 219, 3) := by decide +kernel
theorem dX8_indeed_10 : decode cX8_indeed 10 = .ok (.invokestatic 136, 3) := by decide +kernel
theorem dX8_indeed_13 : decode cX8_indeed 13 = .ok (.ireturn, 1) := by decide +kernel
theorem dX8_faced_0 : decode cX8_faced 0 = .ok (.aload_n 0, 1) := by decide +kernel
theorem dX8_faced_1 : decode cX8_faced 1 = .ok (.getfield 10, 3) := by decide +kernel
theorem dX8_faced_4 : decode cX8_faced 4 = .ok (.getfield 173, 3) := by decide +kernel
theorem dX8_faced_7 : decode cX8_faced 7 = .ok (.invokevirtual 222, 3) := by decide +kernel
theorem dX8_faced_10 : decode cX8_faced 10 = .ok (.ireturn, 1) := by decide +kernel
theorem dX8_where_0 : decode cX8_where 0 = .ok (.aload_n 0, 1) := by decide +kernel
theorem dX8_where_1 : decode cX8_where 1 = .ok (.getfield 10, 3) := by decide +kernel
theorem dX8_where_4 : decode cX8_where 4 = .ok (.getfield 173, 3) := by decide +kernel
theorem dX8_where_7 : decode cX8_where 7 = .ok (.getfield 212, 3) := by decide +kernel
theorem dX8_where_10 : decode cX8_where 10 = .ok (.istore_n 3, 1) := by decide +kernel
theorem dX8_where_11 : decode cX8_where 11 = .ok (.iload_n 1, 1) := by decide +kernel
theorem dX8_where_12 : decode cX8_where 12 = .ok (.ifCond .lt 7, 3) := by decide +kernel
theorem dX8_where_15 : decode cX8_where 15 = .ok (.iload_n 2, 1) := by decide +kernel
theorem dX8_where_16 : decode cX8_where 16 = .ok (.ifCond .ge 10, 3) := by decide +kernel
theorem dX8_where_19 : decode cX8_where 19 = .ok (.aload_n 0, 1) := by decide +kernel
theorem dX8_where_20 : decode cX8_where 20 = .ok (.bipush (-4), 2) := by decide +kernel
theorem dX8_where_22 : decode cX8_where 22 = .ok (.invokevirtual 68, 3) := by decide +kernel
theorem dX8_where_25 : decode cX8_where 25 = .ok (.ireturn, 1) := by decide +kernel
theorem dX8_where_26 : decode cX8_where 26 = .ok (.iload_n 1, 1) := by decide +kernel
theorem dX8_where_27 : decode cX8_where 27 = .ok (.iload_n 3, 1) := by decide +kernel
theorem dX8_where_28 : decode cX8_where 28 = .ok (.if_icmp .gt 8, 3) := by decide +kernel
theorem dX8_where_31 : decode cX8_where 31 = .ok (.iload_n 2, 1) := by decide +kernel
theorem dX8_where_32 : decode cX8_where 32 = .ok (.iload_n 3, 1) := by decide +kernel
theorem dX8_where_33 : decode cX8_where 33 = .ok (.if_icmp .le 10, 3) := by decide +kernel
theorem dX8_where_36 : decode cX8_where 36 = .ok (.aload_n 0, 1) := by decide +kernel
theorem dX8_where_37 : decode cX8_where 37 = .ok (.bipush (-6), 2) := by decide +kernel
theorem dX8_where_39 : decode cX8_where 39 = .ok (.invokevirtual 68, 3) := by decide +kernel
theorem dX8_where_42 : decode cX8_where 42 = .ok (.ireturn, 1) := by decide +kernel
theorem dX8_where_43 : decode cX8_where 43 = .ok (.iload_n 1, 1) := by decide +kernel
theorem dX8_where_44 : decode cX8_where 44 = .ok (.iload_n 2, 1) := by decide +kernel
theorem dX8_where_45 : decode cX8_where 45 = .ok (.if_icmp .ne 10, 3) := by decide +kernel
theorem dX8_where_48 : decode cX8_where 48 = .ok (.aload_n 0, 1) := by decide +kernel
theorem dX8_where_49 : decode cX8_where 49 = .ok (.bipush (-3), 2) := by decide +kernel
theorem dX8_where_51 : decode cX8_where 51 = .ok (.invokevirtual 68, 3) := by decide +kernel
theorem dX8_where_54 : decode cX8_where 54 = .ok (.ireturn, 1) := by decide +kernel
theorem dX8_where_55 : decode cX8_where 55 = .ok (.aload_n 0, 1) := by decide +kernel
theorem dX8_where_56 : decode cX8_where 56 = .ok (.getfield 10, 3) := by decide +kernel
theorem dX8_where_59 : decode cX8_where 59 = .ok (.getfield 173, 3) := by decide +kernel
theorem dX8_where_62 : decode cX8_where 62 = .ok (.iload_n 1, 1) := by decide +kernel
theorem dX8_where_63 : decode cX8_where 63 = .ok (.iload_n 2, 1) := by decide +kernel
theorem dX8_where_64 : decode cX8_where 64 = .ok (.invokestatic 197, 3) := by decide +kernel
theorem dX8_where_67 : decode cX8_where 67 = .ok (.invokevirtual 225, 3) := by decide +kernel
theorem dX8_where_70 : decode cX8_where 70 = .ok (.ireturn, 1) := by decide +kernel
theorem dX8_starters_0 : decode cX8_starters 0 = .ok (.aload_n 0, 1) := by decide +kernel
theorem dX8_starters_1 : decode cX8_starters 1 = .ok (.getfield 10, 3) := by decide +kernel
theorem dX8_starters_4 : decode cX8_starters 4 = .ok (.getfield 97, 3) := by decide +kernel
theorem dX8_starters_7 : decode cX8_starters 7 = .ok (.getfield 100, 3) := by decide +kernel
theorem dX8_starters_10 : decode cX8_starters 10 = .ok (.istore_n 3, 1) := by decide +kernel
theorem dX8_starters_11 : decode cX8_starters 11 = .ok (.iload_n 1, 1) := by decide +kernel
theorem dX8_starters_12 : decode cX8_starters 12 = .ok (.iconst (-1), 1) := by decide +kernel
theorem dX8_starters_13 : decode cX8_starters 13 = .ok (.if_icmp .ge 10, 3) := by decide +kernel
theorem dX8_starters_16 : decode cX8_starters 16 = .ok (.aload_n 0, 1) := by decide +kernel
theorem dX8_starters_17 : decode cX8_starters 17 = .ok (.bipush (-4), 2) := by decide +kernel
theorem dX8_starters_19 : decode cX8_starters 19 = .ok (.invokevirtual 68, 3) := by decide +kernel
theorem dX8_starters_22 : decode cX8_starters 22 = .ok (.ireturn, 1) := by decide +kernel
theorem dX8_starters_23 : decode cX8_starters 23 = .ok (.iload_n 3, 1) := by decide +kernel
theorem dX8_starters_24 : decode cX8_starters 24 = .ok (.bipush 11, 2) := by decide +kernel
theorem dX8_starters_26 : decode cX8_starters 26 = .ok (.if_icmp .le 10, 3) := by decide +kernel
theorem dX8_starters_29 : decode cX8_starters 29 = .ok (.aload_n 0, 1) := by decide +kernel
theorem dX8_starters_30 : decode cX8_starters 30 = .ok (.bipush (-3), 2) := by decide +kernel
theorem dX8_starters_32 : decode cX8_starters 32 = .ok (.invokevirtual 68, 3) := by decide +kernel
theorem dX8_starters_35 : decode cX8_starters 35 = .ok (.ireturn, 1) := by decide +kernel
theorem dX8_starters_36 : decode cX8_starters 36 = .ok (.iload_n 1, 1) := by decide +kernel
theorem dX8_starters_37 : decode cX8_starters 37 = .ok (.ifCond .lt 27, 3) := by decide +kernel
theorem dX8_starters_40 : decode cX8_starters 40 = .ok (.iload_n 2, 1) := by decide +kernel
theorem dX8_starters_41 : decode cX8_starters 41 = .ok (.ifCond .lt 17, 3) := by decide +kernel
theorem dX8_starters_44 : decode cX8_starters 44 = .ok (.iload_n 2, 1) := by decide +kernel
theorem dX8_starters_45 : decode cX8_starters 45 = .ok (.aload_n 0, 1) := by decide +kernel
theorem dX8_starters_46 : decode cX8_starters 46 = .ok (.getfield 10, 3) := by decide +kernel
theorem dX8_starters_49 : decode cX8_starters 49 = .ok (.getfield 97, 3) := by decide +kernel
theorem dX8_starters_52 : decode cX8_starters 52 = .ok (.invokevirtual 155, 3) := by decide +kernel
theorem dX8_starters_55 : decode cX8_starters 55 = .ok (.if_icmp .lt 9, 3) := by decide +kernel
theorem dX8_starters_58 : decode cX8_starters 58 = .ok (.aload_n 0, 1) := by decide +kernel
theorem dX8_starters_59 : decode cX8_starters 59 = .ok (.iconst (-1), 1) := by decide +kernel
theorem dX8_starters_60 : decode cX8_starters 60 = .ok (.invokevirtual 68, 3) := by decide +kernel
theorem dX8_starters_63 : decode cX8_starters 63 = .ok (.ireturn, 1) := by decide +kernel
theorem dX8_starters_64 : decode cX8_starters 64 = .ok (.aload_n 0, 1) := by decide +kernel
theorem dX8_starters_65 : decode cX8_starters 65 = .ok (.getfield 50, 3) := by decide +kernel
theorem dX8_starters_68 : decode cX8_starters 68 = .ok (.iload_n 3, 1) := by decide +kernel
theorem dX8_starters_69 : decode cX8_starters 69 = .ok (.iload_n 1, 1) := by decide +kernel
theorem dX8_starters_70 : decode cX8_starters 70 = .ok (.invokevirtual 228, 3) := by decide +kernel
theorem dX8_starters_73 : decode cX8_starters 73 = .ok (.iload_n 1, 1) := by decide +kernel
theorem dX8_starters_74 : decode cX8_starters 74 = .ok (.ifCond .ge 11, 3) := by decide +kernel
theorem dX8_starters_77 : decode cX8_starters 77 = .ok (.aload_n 0, 1) := by decide +kernel
theorem dX8_starters_78 : decode cX8_starters 78 = .ok (.getfield 50, 3) := by decide +kernel
theorem dX8_starters_81 : decode cX8_starters 81 = .ok (.getfield 147, 3) := by decide +kernel
theorem dX8_starters_84 : decode cX8_starters 84 = .ok (.ireturn, 1) := by decide +kernel
theorem dX8_starters_85 : decode cX8_starters 85 = .ok (.aload_n 0, 1) := by decide +kernel
theorem dX8_starters_86 : decode cX8_starters 86 = .ok (.getfield 50, 3) := by decide +kernel
theorem dX8_starters_89 : decode cX8_starters 89 = .ok (.invokevirtual 231, 3) := by decide +kernel
theorem dX8_starters_92 : decode cX8_starters 92 = .ok (.ifCond .eq 18, 3) := by decide +kernel
theorem dX8_starters_95 : decode cX8_starters 95 = .ok (.aload_n 0, 1) := by decide +kernel
theorem dX8_starters_96 : decode cX8_starters 96 = .ok (.getfield 50, 3) := by decide +kernel
theorem dX8_starters_99 : decode cX8_starters 99 = .ok (.getfield 150, 3) := by decide +kernel
theorem dX8_starters_102 : decode cX8_starters 102 = .ok (.getfield 234, 3) := by decide +kernel
theorem dX8_starters_105 : decode cX8_starters 105 = .ok (.iload_n 2, 1) := by decide +kernel
theorem dX8_starters_106 : decode cX8_starters 106 = .ok (.iaload, 1) := by decide +kernel
theorem dX8_starters_107 : decode cX8_starters 107 = .ok (.goto 5, 3) := by decide +kernel
theorem dX8_starters_110 : decode cX8_starters 110 = .ok (.bipush (-9), 2) := by decide +kernel
theorem dX8_starters_112 : decode cX8_starters 112 = .ok (.ireturn, 1) := by decide +kernel
theorem dX8_strong_0 : decode cX8_strong 0 = .ok (.iload_n 1, 1) := by decide +kernel
theorem dX8_strong_1 : decode cX8_strong 1 = .ok (.ifCond .lt 8, 3) := by decide +kernel
theorem dX8_strong_4 : decode cX8_strong 4 = .ok (.iload_n 1, 1) := by decide +kernel
theorem dX8_strong_5 : decode cX8_strong 5 = .ok (.iconst 1, 1) := by decide +kernel
theorem dX8_strong_6 : decode cX8_strong 6 = .ok (.if_icmp .le 10, 3) := by decide +kernel
theorem dX8_strong_9 : decode cX8_strong 9 = .ok (.aload_n 0, 1) := by decide +kernel
theorem dX8_strong_10 : decode cX8_strong 10 = .ok (.bipush (-2), 2) := by decide +kernel
theorem dX8_strong_12 : decode cX8_strong 12 = .ok (.invokevirtual 68, 3) := by decide +kernel
theorem dX8_strong_15 : decode cX8_strong 15 = .ok (.ireturn, 1) := by decide +kernel
theorem dX8_strong_16 : decode cX8_strong 16 = .ok (.aload_n 0, 1) := by decide +kernel
theorem dX8_strong_17 : decode cX8_strong 17 = .ok (.getfield 10, 3) := by decide +kernel
theorem dX8_strong_20 : decode cX8_strong 20 = .ok (.getfield 97, 3) := by decide +kernel
theorem dX8_strong_23 : decode cX8_strong 23 = .ok (.getfield 100, 3) := by decide +kernel
theorem dX8_strong_26 : decode cX8_strong 26 = .ok (.bipush 11, 2) := by decide +kernel
theorem dX8_strong_28 : decode cX8_strong 28 = .ok (.if_icmp .le 10, 3) := by decide +kernel
theorem dX8_strong_31 : decode cX8_strong 31 = .ok (.aload_n 0, 1) := by decide +kernel
theorem dX8_strong_32 : decode cX8_strong 32 = .ok (.bipush (-3), 2) := by decide +kernel
theorem dX8_strong_34 : decode cX8_strong 34 = .ok (.invokevirtual 68, 3) := by decide +kernel
theorem dX8_strong_37 : decode cX8_strong 37 = .ok (.ireturn, 1) := by decide +kernel
theorem dX8_strong_38 : decode cX8_strong 38 = .ok (.aload_n 0, 1) := by decide +kernel
theorem dX8_strong_39 : decode cX8_strong 39 = .ok (.getfield 50, 3) := by decide +kernel
theorem dX8_strong_42 : decode cX8_strong 42 = .ok (.aload_n 0, 1) := by decide +kernel
theorem dX8_strong_43 : decode cX8_strong 43 = .ok (.getfield 10, 3) := by decide +kernel
theorem dX8_strong_46 : decode cX8_strong 46 = .ok (.getfield 97, 3) := by decide +kernel
theorem dX8_strong_49 : decode cX8_strong 49 = .ok (.getfield 100, 3) := by decide +kernel
theorem dX8_strong_52 : decode cX8_strong 52 = .ok (.iconst (-1), 1) := by decide +kernel
theorem dX8_strong_53 : decode cX8_strong 53 = .ok (.invokevirtual 228, 3) := by decide +kernel
theorem dX8_strong_56 : decode cX8_strong 56 = .ok (.iload_n 1, 1) := by decide +kernel
theorem dX8_strong_57 : decode cX8_strong 57 = .ok (.ifCond .ne 13, 3) := by decide +kernel
theorem dX8_strong_60 : decode cX8_strong 60 = .ok (.aload_n 0, 1) := by decide +kernel
theorem dX8_strong_61 : decode cX8_strong 61 = .ok (.getfield 50, 3) := by decide +kernel
theorem dX8_strong_64 : decode cX8_strong 64 = .ok (.getfield 237, 3) := by decide +kernel
theorem dX8_strong_67 : decode cX8_strong 67 = .ok (.goto 10, 3) := by decide +kernel
theorem dX8_strong_70 : decode cX8_strong 70 = .ok (.aload_n 0, 1) := by decide +kernel
theorem dX8_strong_71 : decode cX8_strong 71 = .ok (.getfield 50, 3) := by decide +kernel
theorem dX8_strong_74 : decode cX8_strong 74 = .ok (.getfield 240, 3) := by decide +kernel
theorem dX8_strong_77 : decode cX8_strong 77 = .ok (.ireturn, 1) := by decide +kernel
theorem dX8_adders_0 : decode cX8_adders 0 = .ok (.aload_n 0, 1) := by decide +kernel
theorem dX8_adders_1 : decode cX8_adders 1 = .ok (.getfield 10, 3) := by decide +kernel
theorem dX8_adders_4 : decode cX8_adders 4 = .ok (.getfield 97, 3) := by decide +kernel
theorem dX8_adders_7 : decode cX8_adders 7 = .ok (.astore_n 3, 1) := by decide +kernel
theorem dX8_adders_8 : decode cX8_adders 8 = .ok (.iload_n 1, 1) := by decide +kernel
theorem dX8_adders_9 : decode cX8_adders 9 = .ok (.iconst (-1), 1) := by decide +kernel
theorem dX8_adders_10 : decode cX8_adders 10 = .ok (.if_icmp .ge 10, 3) := by decide +kernel
theorem dX8_adders_13 : decode cX8_adders 13 = .ok (.aload_n 0, 1) := by decide +kernel
theorem dX8_adders_14 : decode cX8_adders 14 = .ok (.bipush (-4), 2) := by decide +kernel
theorem dX8_adders_16 : decode cX8_adders 16 = .ok (.invokevirtual 68, 3) := by decide +kernel
theorem dX8_adders_19 : decode cX8_adders 19 = .ok (.ireturn, 1) := by decide +kernel
theorem dX8_adders_20 : decode cX8_adders 20 = .ok (.aload_n 3, 1) := by decide +kernel
theorem dX8_adders_21 : decode cX8_adders 21 = .ok (.getfield 100, 3) := by decide +kernel
theorem dX8_adders_24 : decode cX8_adders 24 = .ok (.bipush 11, 2) := by decide +kernel
theorem dX8_adders_26 : decode cX8_adders 26 = .ok (.if_icmp .gt 10, 3) := by decide +kernel
theorem dX8_adders_29 : decode cX8_adders 29 = .ok (.aload_n 3, 1) := by decide +kernel
theorem dX8_adders_30 : decode cX8_adders 30 = .ok (.invokevirtual 158, 3) := by decide +kernel
theorem dX8_adders_33 : decode cX8_adders 33 = .ok (.ifCond .ne 10, 3) := by decide +kernel
theorem dX8_adders_36 : decode cX8_adders 36 = .ok (.aload_n 0, 1) := by decide +kernel
theorem dX8_adders_37 : decode cX8_adders 37 = .ok (.bipush (-3), 2) := by decide +kernel
theorem dX8_adders_39 : decode cX8_adders 39 = .ok (.invokevirtual 68, 3) := by decide +kernel
theorem dX8_adders_42 : decode cX8_adders 42 = .ok (.ireturn, 1) := by decide +kernel
theorem dX8_adders_43 : decode cX8_adders 43 = .ok (.iload_n 1, 1) := by decide +kernel
theorem dX8_adders_44 : decode cX8_adders 44 = .ok (.ifCond .lt 17, 3) := by decide +kernel
theorem dX8_adders_47 : decode cX8_adders 47 = .ok (.aload_n 3, 1) := by decide +kernel
theorem dX8_adders_48 : decode cX8_adders 48 = .ok (.iload_n 2, 1) := by decide +kernel
theorem dX8_adders_49 : decode cX8_adders 49 = .ok (.invokevirtual 126, 3) := by decide +kernel
theorem dX8_adders_52 : decode cX8_adders 52 = .ok (.ifCond .ne 9, 3) := by decide +kernel
theorem dX8_adders_55 : decode cX8_adders 55 = .ok (.aload_n 0, 1) := by decide +kernel
theorem dX8_adders_56 : decode cX8_adders 56 = .ok (.iconst (-1), 1) := by decide +kernel
theorem dX8_adders_57 : decode cX8_adders 57 = .ok (.invokevirtual 68, 3) := by decide +kernel
theorem dX8_adders_60 : decode cX8_adders 60 = .ok (.ireturn, 1) := by decide +kernel
theorem dX8_adders_61 : decode cX8_adders 61 = .ok (.aload_n 0, 1) := by decide +kernel
theorem dX8_adders_62 : decode cX8_adders 62 = .ok (.getfield 50, 3) := by decide +kernel
theorem dX8_adders_65 : decode cX8_adders 65 = .ok (.aload_n 3, 1) := by decide +kernel
theorem dX8_adders_66 : decode cX8_adders 66 = .ok (.iload_n 1, 1) := by decide +kernel
theorem dX8_adders_67 : decode cX8_adders 67 = .ok (.invokevirtual 143, 3) := by decide +kernel
theorem dX8_adders_70 : decode cX8_adders 70 = .ok (.iload_n 1, 1) := by decide +kernel
theorem dX8_adders_71 : decode cX8_adders 71 = .ok (.ifCond .ge 11, 3) := by decide +kernel
theorem dX8_adders_74 : decode cX8_adders 74 = .ok (.aload_n 0, 1) := by decide +kernel
theorem dX8_adders_75 : decode cX8_adders 75 = .ok (.getfield 50, 3) := by decide +kernel
theorem dX8_adders_78 : decode cX8_adders 78 = .ok (.getfield 147, 3) := by decide +kernel
theorem dX8_adders_81 : decode cX8_adders 81 = .ok (.ireturn, 1) := by decide +kernel
theorem dX8_adders_82 : decode cX8_adders 82 = .ok (.aload_n 0, 1) := by decide +kernel
theorem dX8_adders_83 : decode cX8_adders 83 = .ok (.getfield 50, 3) := by decide +kernel
theorem dX8_adders_86 : decode cX8_adders 86 = .ok (.invokevirtual 231, 3) := by decide +kernel
theorem dX8_adders_89 : decode cX8_adders 89 = .ok (.ifCond .eq 18, 3) := by decide +kernel
theorem dX8_adders_92 : decode cX8_adders 92 = .ok (.aload_n 0, 1) := by decide +kernel
theorem dX8_adders_93 : decode cX8_adders 93 = .ok (.getfield 50, 3) := by decide +kernel
theorem dX8_adders_96 : decode cX8_adders 96 = .ok (.getfield 150, 3) := by decide +kernel
theorem dX8_adders_99 : decode cX8_adders 99 = .ok (.getfield 123, 3) := by decide +kernel
theorem dX8_adders_102 : decode cX8_adders 102 = .ok (.iload_n 2, 1) := by decide +kernel
theorem dX8_adders_103 : decode cX8_adders 103 = .ok (.iaload, 1) := by decide +kernel
theorem dX8_adders_104 : decode cX8_adders 104 = .ok (.goto 5, 3) := by decide +kernel
theorem dX8_adders_107 : decode cX8_adders 107 = .ok (.bipush (-9), 2) := by decide +kernel
theorem dX8_adders_109 : decode cX8_adders 109 = .ok (.ireturn, 1) := by decide +kernel
theorem dX8_odds_0 : decode cX8_odds 0 = .ok (.iload_n 1, 1) := by decide +kernel
theorem dX8_odds_1 : decode cX8_odds 1 = .ok (.ifCond .lt 8, 3) := by decide +kernel
theorem dX8_odds_4 : decode cX8_odds 4 = .ok (.iload_n 1, 1) := by decide +kernel
theorem dX8_odds_5 : decode cX8_odds 5 = .ok (.iconst 1, 1) := by decide +kernel
theorem dX8_odds_6 : decode cX8_odds 6 = .ok (.if_icmp .le 10, 3) := by decide +kernel
theorem dX8_odds_9 : decode cX8_odds 9 = .ok (.aload_n 0, 1) := by decide +kernel
theorem dX8_odds_10 : decode cX8_odds 10 = .ok (.bipush (-2), 2) := by decide +kernel
theorem dX8_odds_12 : decode cX8_odds 12 = .ok (.invokevirtual 243, 3) := by decide +kernel
theorem dX8_odds_15 : decode cX8_odds 15 = .ok (.lreturn, 1) := by decide +kernel
theorem dX8_odds_16 : decode cX8_odds 16 = .ok (.aload_n 0, 1) := by decide +kernel
theorem dX8_odds_17 : decode cX8_odds 17 = .ok (.getfield 10, 3) := by decide +kernel
theorem dX8_odds_20 : decode cX8_odds 20 = .ok (.getfield 97, 3) := by decide +kernel
theorem dX8_odds_23 : decode cX8_odds 23 = .ok (.getfield 100, 3) := by decide +kernel
theorem dX8_odds_26 : decode cX8_odds 26 = .ok (.bipush 11, 2) := by decide +kernel
theorem dX8_odds_28 : decode cX8_odds 28 = .ok (.if_icmp .le 10, 3) := by decide +kernel
theorem dX8_odds_31 : decode cX8_odds 31 = .ok (.aload_n 0, 1) := by decide +kernel
theorem dX8_odds_32 : decode cX8_odds 32 = .ok (.bipush (-3), 2) := by decide +kernel
theorem dX8_odds_34 : decode cX8_odds 34 = .ok (.invokevirtual 243, 3) := by decide +kernel
theorem dX8_odds_37 : decode cX8_odds 37 = .ok (.lreturn, 1) := by decide +kernel
theorem dX8_odds_38 : decode cX8_odds 38 = .ok (.aload_n 0, 1) := by decide +kernel
theorem dX8_odds_39 : decode cX8_odds 39 = .ok (.getfield 50, 3) := by decide +kernel
theorem dX8_odds_42 : decode cX8_odds 42 = .ok (.aload_n 0, 1) := by decide +kernel
theorem dX8_odds_43 : decode cX8_odds 43 = .ok (.getfield 10, 3) := by decide +kernel
theorem dX8_odds_46 : decode cX8_odds 46 = .ok (.getfield 97, 3) := by decide +kernel
theorem dX8_odds_49 : decode cX8_odds 49 = .ok (.getfield 100, 3) := by decide +kernel
theorem dX8_odds_52 : decode cX8_odds 52 = .ok (.iconst (-1), 1) := by decide +kernel
theorem dX8_odds_53 : decode cX8_odds 53 = .ok (.invokevirtual 228, 3) := by decide +kernel
theorem dX8_odds_56 : decode cX8_odds 56 = .ok (.iconst 1, 1) := by decide +kernel
theorem dX8_odds_57 : decode cX8_odds 57 = .ok (.aload_n 0, 1) := by decide +kernel
theorem dX8_odds_58 : decode cX8_odds 58 = .ok (.getfield 50, 3) := by decide +kernel
theorem dX8_odds_61 : decode cX8_odds 61 = .ok (.getfield 147, 3) := by decide +kernel
theorem dX8_odds_64 : decode cX8_odds 64 = .ok (.invokestatic 247, 3) := by decide +kernel
theorem dX8_odds_67 : decode cX8_odds 67 = .ok (.istore_n 2, 1) := by decide +kernel
theorem dX8_odds_68 : decode cX8_odds 68 = .ok (.iconst 1, 1) := by decide +kernel
theorem dX8_odds_69 : decode cX8_odds 69 = .ok (.aload_n 0, 1) := by decide +kernel
theorem dX8_odds_70 : decode cX8_odds 70 = .ok (.getfield 50, 3) := by decide +kernel
theorem dX8_odds_73 : decode cX8_odds 73 = .ok (.getfield 237, 3) := by decide +kernel
theorem dX8_odds_76 : decode cX8_odds 76 = .ok (.iload_n 2, 1) := by decide +kernel
theorem dX8_odds_77 : decode cX8_odds 77 = .ok (.invokestatic 252, 3) := by decide +kernel
theorem dX8_odds_80 : decode cX8_odds 80 = .ok (.invokestatic 247, 3) := by decide +kernel
theorem dX8_odds_83 : decode cX8_odds 83 = .ok (.istore_n 3, 1) := by decide +kernel
theorem dX8_odds_84 : decode cX8_odds 84 = .ok (.iload_n 1, 1) := by decide +kernel
theorem dX8_odds_85 : decode cX8_odds 85 = .ok (.ifCond .ne 13, 3) := by decide +kernel
theorem dX8_odds_88 : decode cX8_odds 88 = .ok (.aload_n 0, 1) := by decide +kernel
theorem dX8_odds_89 : decode cX8_odds 89 = .ok (.getfield 50, 3) := by decide +kernel
theorem dX8_odds_92 : decode cX8_odds 92 = .ok (.getfield 237, 3) := by decide +kernel
theorem dX8_odds_95 : decode cX8_odds 95 = .ok (.goto 4, 3) := by decide +kernel
theorem dX8_odds_98 : decode cX8_odds 98 = .ok (.iload_n 2, 1) := by decide +kernel
theorem dX8_odds_99 : decode cX8_odds 99 = .ok (.iload_n 3, 1) := by decide +kernel
theorem dX8_odds_100 : decode cX8_odds 100 = .ok (.idiv, 1) := by decide +kernel
theorem dX8_odds_101 : decode cX8_odds 101 = .ok (.i2l, 1) := by decide +kernel
theorem dX8_odds_102 : decode cX8_odds 102 = .ok (.lreturn, 1) := by decide +kernel
theorem dX8_lots_0 : decode cX8_lots 0 = .ok (.iload_n 1, 1) := by decide +kernel
theorem dX8_lots_1 : decode cX8_lots 1 = .ok (.iconst 1, 1) := by decide +kernel
theorem dX8_lots_2 : decode cX8_lots 2 = .ok (.if_icmp .ge 10, 3) := by decide +kernel
theorem dX8_lots_5 : decode cX8_lots 5 = .ok (.aload_n 0, 1) := by decide +kernel
theorem dX8_lots_6 : decode cX8_lots 6 = .ok (.bipush (-4), 2) := by decide +kernel
theorem dX8_lots_8 : decode cX8_lots 8 = .ok (.invokevirtual 68, 3) := by decide +kernel
theorem dX8_lots_11 : decode cX8_lots 11 = .ok (.ireturn, 1) := by decide +kernel
theorem dX8_lots_12 : decode cX8_lots 12 = .ok (.iload_n 1, 1) := by decide +kernel
theorem dX8_lots_13 : decode cX8_lots 13 = .ok (.bipush 50, 2) := by decide +kernel
theorem dX8_lots_15 : decode cX8_lots 15 = .ok (.if_icmp .le 10, 3) := by decide +kernel
theorem dX8_lots_18 : decode cX8_lots 18 = .ok (.aload_n 0, 1) := by decide +kernel
theorem dX8_lots_19 : decode cX8_lots 19 = .ok (.bipush (-6), 2) := by decide +kernel
theorem dX8_lots_21 : decode cX8_lots 21 = .ok (.invokevirtual 68, 3) := by decide +kernel
theorem dX8_lots_24 : decode cX8_lots 24 = .ok (.ireturn, 1) := by decide +kernel
theorem dX8_lots_25 : decode cX8_lots 25 = .ok (.iload_n 3, 1) := by decide +kernel
theorem dX8_lots_26 : decode cX8_lots 26 = .ok (.ifCond .lt 8, 3) := by decide +kernel
theorem dX8_lots_29 : decode cX8_lots 29 = .ok (.iload_n 3, 1) := by decide +kernel
theorem dX8_lots_30 : decode cX8_lots 30 = .ok (.iconst 1, 1) := by decide +kernel
theorem dX8_lots_31 : decode cX8_lots 31 = .ok (.if_icmp .le 10, 3) := by decide +kernel
theorem dX8_lots_34 : decode cX8_lots 34 = .ok (.aload_n 0, 1) := by decide +kernel
theorem dX8_lots_35 : decode cX8_lots 35 = .ok (.bipush (-2), 2) := by decide +kernel
theorem dX8_lots_37 : decode cX8_lots 37 = .ok (.invokevirtual 68, 3) := by decide +kernel
theorem dX8_lots_40 : decode cX8_lots 40 = .ok (.ireturn, 1) := by decide +kernel
theorem dX8_lots_41 : decode cX8_lots 41 = .ok (.aload_n 0, 1) := by decide +kernel
theorem dX8_lots_42 : decode cX8_lots 42 = .ok (.getfield 10, 3) := by decide +kernel
theorem dX8_lots_45 : decode cX8_lots 45 = .ok (.getfield 97, 3) := by decide +kernel
theorem dX8_lots_48 : decode cX8_lots 48 = .ok (.getfield 115, 3) := by decide +kernel
theorem dX8_lots_51 : decode cX8_lots 51 = .ok (.iconst 1, 1) := by decide +kernel
theorem dX8_lots_52 : decode cX8_lots 52 = .ok (.if_icmp .ge 10, 3) := by decide +kernel
theorem dX8_lots_55 : decode cX8_lots 55 = .ok (.aload_n 0, 1) := by decide +kernel
theorem dX8_lots_56 : decode cX8_lots 56 = .ok (.bipush (-3), 2) := by decide +kernel
theorem dX8_lots_58 : decode cX8_lots 58 = .ok (.invokevirtual 68, 3) := by decide +kernel
theorem dX8_lots_61 : decode cX8_lots 61 = .ok (.ireturn, 1) := by decide +kernel
theorem dX8_lots_62 : decode cX8_lots 62 = .ok (.aload_n 0, 1) := by decide +kernel
theorem dX8_lots_63 : decode cX8_lots 63 = .ok (.getfield 57, 3) := by decide +kernel
theorem dX8_lots_66 : decode cX8_lots 66 = .ok (.aload_n 0, 1) := by decide +kernel
theorem dX8_lots_67 : decode cX8_lots 67 = .ok (.getfield 10, 3) := by decide +kernel
theorem dX8_lots_70 : decode cX8_lots 70 = .ok (.getfield 97, 3) := by decide +kernel
theorem dX8_lots_73 : decode cX8_lots 73 = .ok (.invokevirtual 153, 3) := by decide +kernel
theorem dX8_lots_76 : decode cX8_lots 76 = .ok (.aload_n 0, 1) := by decide +kernel
theorem dX8_lots_77 : decode cX8_lots 77 = .ok (.getfield 57, 3) := by decide +kernel
theorem dX8_lots_80 : decode cX8_lots 80 = .ok (.iload_n 1, 1) := by decide +kernel
theorem dX8_lots_81 : decode cX8_lots 81 = .ok (.iload_n 2, 1) := by decide +kernel
theorem dX8_lots_82 : decode cX8_lots 82 = .ok (.invokevirtual 255, 3) := by decide +kernel
theorem dX8_lots_85 : decode cX8_lots 85 = .ok (.istore 4, 2) := by decide +kernel
theorem dX8_lots_87 : decode cX8_lots 87 = .ok (.iload_n 3, 1) := by decide +kernel
theorem dX8_lots_88 : decode cX8_lots 88 = .ok (.ifCond .ne 8, 3) := by decide +kernel
theorem dX8_lots_91 : decode cX8_lots 91 = .ok (.iload 4, 2) := by decide +kernel
theorem dX8_lots_93 : decode cX8_lots 93 = .ok (.goto 13, 3) := by decide +kernel
theorem dX8_lots_96 : decode cX8_lots 96 = .ok (.aload_n 0, 1) := by decide +kernel
theorem dX8_lots_97 : decode cX8_lots 97 = .ok (.getfield 57, 3) := by decide +kernel
theorem dX8_lots_100 : decode cX8_lots 100 = .ok (.invokevirtual 258, 3) := by decide +kernel
theorem dX8_lots_103 : decode cX8_lots 103 = .ok (.invokestatic 261, 3) := by decide +kernel
theorem dX8_lots_106 : decode cX8_lots 106 = .ok (.ireturn, 1) := by decide +kernel
theorem dX8_turn_0 : decode cX8_turn 0 = .ok (.aload_n 0, 1) := by decide +kernel
theorem dX8_turn_1 : decode cX8_turn 1 = .ok (.getfield 10, 3) := by decide +kernel
theorem dX8_turn_4 : decode cX8_turn 4 = .ok (.iload_n 1, 1) := by decide +kernel
theorem dX8_turn_5 : decode cX8_turn 5 = .ok (.iload_n 2, 1) := by decide +kernel
theorem dX8_turn_6 : decode cX8_turn 6 = .ok (.invokevirtual 266, 3) := by decide +kernel
theorem dX8_turn_9 : decode cX8_turn 9 = .ok (.istore_n 3, 1) := by decide +kernel
theorem dX8_turn_10 : decode cX8_turn 10 = .ok (.iload_n 3, 1) := by decide +kernel
theorem dX8_turn_11 : decode cX8_turn 11 = .ok (.ifCond .eq 9, 3) := by decide +kernel
theorem dX8_turn_14 : decode cX8_turn 14 = .ok (.aload_n 0, 1) := by decide +kernel
theorem dX8_turn_15 : decode cX8_turn 15 = .ok (.iload_n 3, 1) := by decide +kernel
theorem dX8_turn_16 : decode cX8_turn 16 = .ok (.invokevirtual 68, 3) := by decide +kernel
theorem dX8_turn_19 : decode cX8_turn 19 = .ok (.ireturn, 1) := by decide +kernel
theorem dX8_turn_20 : decode cX8_turn 20 = .ok (.aload_n 0, 1) := by decide +kernel
theorem dX8_turn_21 : decode cX8_turn 21 = .ok (.getfield 10, 3) := by decide +kernel
theorem dX8_turn_24 : decode cX8_turn 24 = .ok (.getfield 269, 3) := by decide +kernel
theorem dX8_turn_27 : decode cX8_turn 27 = .ok (.iload_n 1, 1) := by decide +kernel
theorem dX8_turn_28 : decode cX8_turn 28 = .ok (.iload_n 2, 1) := by decide +kernel
theorem dX8_turn_29 : decode cX8_turn 29 = .ok (.invokevirtual 273, 3) := by decide +kernel
theorem dX8_turn_32 : decode cX8_turn 32 = .ok (.aload_n 0, 1) := by decide +kernel
theorem dX8_turn_33 : decode cX8_turn 33 = .ok (.getfield 10, 3) := by decide +kernel
theorem dX8_turn_36 : decode cX8_turn 36 = .ok (.getfield 269, 3) := by decide +kernel
theorem dX8_turn_39 : decode cX8_turn 39 = .ok (.getfield 276, 3) := by decide +kernel
theorem dX8_turn_42 : decode cX8_turn 42 = .ok (.ireturn, 1) := by decide +kernel
theorem dX8_still_0 : decode cX8_still 0 = .ok (.aload_n 0, 1) := by decide +kernel
theorem dX8_still_1 : decode cX8_still 1 = .ok (.getfield 10, 3) := by decide +kernel
theorem dX8_still_4 : decode cX8_still 4 = .ok (.getfield 269, 3) := by decide +kernel
theorem dX8_still_7 : decode cX8_still 7 = .ok (.getfield 276, 3) := by decide +kernel
theorem dX8_still_10 : decode cX8_still 10 = .ok (.istore_n 1, 1) := by decide +kernel
theorem dX8_still_11 : decode cX8_still 11 = .ok (.aload_n 0, 1) := by decide +kernel
theorem dX8_still_12 : decode cX8_still 12 = .ok (.getfield 10, 3) := by decide +kernel
theorem dX8_still_15 : decode cX8_still 15 = .ok (.getfield 269, 3) := by decide +kernel
theorem dX8_still_18 : decode cX8_still 18 = .ok (.iconst 0, 1) := by decide +kernel
theorem dX8_still_19 : decode cX8_still 19 = .ok (.putfield 276, 3) := by decide +kernel
theorem dX8_still_22 : decode cX8_still 22 = .ok (.iload_n 1, 1) := by decide +kernel
theorem dX8_still_23 : decode cX8_still 23 = .ok (.ireturn, 1) := by decide +kernel
theorem dX8_turned_0 : decode cX8_turned 0 = .ok (.aload_n 0, 1) := by decide +kernel
theorem dX8_turned_1 : decode cX8_turned 1 = .ok (.getfield 10, 3) := by decide +kernel
theorem dX8_turned_4 : decode cX8_turned 4 = .ok (.getfield 97, 3) := by decide +kernel
theorem dX8_turned_7 : decode cX8_turned 7 = .ok (.iload_n 1, 1) := by decide +kernel
theorem dX8_turned_8 : decode cX8_turned 8 = .ok (.invokevirtual 126, 3) := by decide +kernel
theorem dX8_turned_11 : decode cX8_turned 11 = .ok (.ifCond .ne 9, 3) := by decide +kernel
theorem dX8_turned_14 : decode cX8_turned 14 = .ok (.aload_n 0, 1) := by decide +kernel
theorem dX8_turned_15 : decode cX8_turned 15 = .ok (.iconst (-1), 1) := by decide +kernel
theorem dX8_turned_16 : decode cX8_turned 16 = .ok (.invokevirtual 68, 3) := by decide +kernel
theorem dX8_turned_19 : decode cX8_turned 19 = .ok (.ireturn, 1) := by decide +kernel
theorem dX8_turned_20 : decode cX8_turned 20 = .ok (.iload_n 2, 1) := by decide +kernel
theorem dX8_turned_21 : decode cX8_turned 21 = .ok (.ifCond .lt 8, 3) := by decide +kernel
theorem dX8_turned_24 : decode cX8_turned 24 = .ok (.iload_n 2, 1) := by decide +kernel
theorem dX8_turned_25 : decode cX8_turned 25 = .ok (.iconst 2, 1) := by decide +kernel
theorem dX8_turned_26 : decode cX8_turned 26 = .ok (.if_icmp .le 10, 3) := by decide +kernel
theorem dX8_turned_29 : decode cX8_turned 29 = .ok (.aload_n 0, 1) := by decide +kernel
theorem dX8_turned_30 : decode cX8_turned 30 = .ok (.bipush (-2), 2) := by decide +kernel
theorem dX8_turned_32 : decode cX8_turned 32 = .ok (.invokevirtual 68, 3) := by decide +kernel
theorem dX8_turned_35 : decode cX8_turned 35 = .ok (.ireturn, 1) := by decide +kernel
theorem dX8_turned_36 : decode cX8_turned 36 = .ok (.aload_n 0, 1) := by decide +kernel
theorem dX8_turned_37 : decode cX8_turned 37 = .ok (.invokevirtual 277, 3) := by decide +kernel
theorem dX8_turned_40 : decode cX8_turned 40 = .ok (.aload_n 0, 1) := by decide +kernel
theorem dX8_turned_41 : decode cX8_turned 41 = .ok (.getfield 57, 3) := by decide +kernel
theorem dX8_turned_44 : decode cX8_turned 44 = .ok (.iload_n 1, 1) := by decide +kernel
theorem dX8_turned_45 : decode cX8_turned 45 = .ok (.iload_n 2, 1) := by decide +kernel
theorem dX8_turned_46 : decode cX8_turned 46 = .ok (.invokevirtual 130, 3) := by decide +kernel
theorem dX8_turned_49 : decode cX8_turned 49 = .ok (.ireturn, 1) := by decide +kernel
theorem dX8_turns_0 : decode cX8_turns 0 = .ok (.aload_n 0, 1) := by decide +kernel
theorem dX8_turns_1 : decode cX8_turns 1 = .ok (.invokevirtual 277, 3) := by decide +kernel
theorem dX8_turns_4 : decode cX8_turns 4 = .ok (.aload_n 0, 1) := by decide +kernel
theorem dX8_turns_5 : decode cX8_turns 5 = .ok (.getfield 57, 3) := by decide +kernel
theorem dX8_turns_8 : decode cX8_turns 8 = .ok (.invokevirtual 280, 3) := by decide +kernel
theorem dX8_turns_11 : decode cX8_turns 11 = .ok (.ifCond .ne 10, 3) := by decide +kernel
theorem dX8_turns_14 : decode cX8_turns 14 = .ok (.aload_n 0, 1) := by decide +kernel
theorem dX8_turns_15 : decode cX8_turns 15 = .ok (.bipush (-3), 2) := by decide +kernel
theorem dX8_turns_17 : decode cX8_turns 17 = .ok (.invokevirtual 68, 3) := by decide +kernel
theorem dX8_turns_20 : decode cX8_turns 20 = .ok (.ireturn, 1) := by decide +kernel
theorem dX8_turns_21 : decode cX8_turns 21 = .ok (.aload_n 0, 1) := by decide +kernel
theorem dX8_turns_22 : decode cX8_turns 22 = .ok (.getfield 43, 3) := by decide +kernel
theorem dX8_turns_25 : decode cX8_turns 25 = .ok (.aload_n 0, 1) := by decide +kernel
theorem dX8_turns_26 : decode cX8_turns 26 = .ok (.getfield 10, 3) := by decide +kernel
theorem dX8_turns_29 : decode cX8_turns 29 = .ok (.getfield 97, 3) := by decide +kernel
theorem dX8_turns_32 : decode cX8_turns 32 = .ok (.invokevirtual 119, 3) := by decide +kernel
theorem dX8_turns_35 : decode cX8_turns 35 = .ok (.aload_n 0, 1) := by decide +kernel
theorem dX8_turns_36 : decode cX8_turns 36 = .ok (.getfield 10, 3) := by decide +kernel
theorem dX8_turns_39 : decode cX8_turns 39 = .ok (.getfield 97, 3) := by decide +kernel
theorem dX8_turns_42 : decode cX8_turns 42 = .ok (.aload_n 0, 1) := by decide +kernel
theorem dX8_turns_43 : decode cX8_turns 43 = .ok (.getfield 57, 3) := by decide +kernel
theorem dX8_turns_46 : decode cX8_turns 46 = .ok (.invokevirtual 153, 3) := by decide +kernel
theorem dX8_turns_49 : decode cX8_turns 49 = .ok (.aload_n 0, 1) := by decide +kernel
theorem dX8_turns_50 : decode cX8_turns 50 = .ok (.getfield 10, 3) := by decide +kernel
theorem dX8_turns_53 : decode cX8_turns 53 = .ok (.getfield 97, 3) := by decide +kernel
theorem dX8_turns_56 : decode cX8_turns 56 = .ok (.getfield 115, 3) := by decide +kernel
theorem dX8_turns_59 : decode cX8_turns 59 = .ok (.ireturn, 1) := by decide +kernel
theorem dX8_list_0 : decode cX8_list 0 = .ok (.aload_n 0, 1) := by decide +kernel
theorem dX8_list_1 : decode cX8_list 1 = .ok (.getfield 36, 3) := by decide +kernel
theorem dX8_list_4 : decode cX8_list 4 = .ok (.iload_n 1, 1) := by decide +kernel
theorem dX8_list_5 : decode cX8_list 5 = .ok (.invokevirtual 283, 3) := by decide +kernel
theorem dX8_list_8 : decode cX8_list 8 = .ok (.ifCond .ne 9, 3) := by decide +kernel
theorem dX8_list_11 : decode cX8_list 11 = .ok (.aload_n 0, 1) := by decide +kernel
theorem dX8_list_12 : decode cX8_list 12 = .ok (.iconst (-1), 1) := by decide +kernel
theorem dX8_list_13 : decode cX8_list 13 = .ok (.invokevirtual 68, 3) := by decide +kernel
theorem dX8_list_16 : decode cX8_list 16 = .ok (.ireturn, 1) := by decide +kernel
theorem dX8_list_17 : decode cX8_list 17 = .ok (.iload_n 2, 1) := by decide +kernel
theorem dX8_list_18 : decode cX8_list 18 = .ok (.bipush 40, 2) := by decide +kernel
theorem dX8_list_20 : decode cX8_list 20 = .ok (.if_icmp .le 10, 3) := by decide +kernel
theorem dX8_list_23 : decode cX8_list 23 = .ok (.aload_n 0, 1) := by decide +kernel
theorem dX8_list_24 : decode cX8_list 24 = .ok (.bipush (-6), 2) := by decide +kernel
theorem dX8_list_26 : decode cX8_list 26 = .ok (.invokevirtual 68, 3) := by decide +kernel
theorem dX8_list_29 : decode cX8_list 29 = .ok (.ireturn, 1) := by decide +kernel
theorem dX8_list_30 : decode cX8_list 30 = .ok (.iload_n 2, 1) := by decide +kernel
theorem dX8_list_31 : decode cX8_list 31 = .ok (.ifCond .ge 6, 3) := by decide +kernel
theorem dX8_list_34 : decode cX8_list 34 = .ok (.bipush (-14), 2) := by decide +kernel
theorem dX8_list_36 : decode cX8_list 36 = .ok (.ireturn, 1) := by decide +kernel
theorem dX8_list_37 : decode cX8_list 37 = .ok (.aload_n 0, 1) := by decide +kernel
theorem dX8_list_38 : decode cX8_list 38 = .ok (.getfield 36, 3) := by decide +kernel
theorem dX8_list_41 : decode cX8_list 41 = .ok (.iload_n 1, 1) := by decide +kernel
theorem dX8_list_42 : decode cX8_list 42 = .ok (.iload_n 2, 1) := by decide +kernel
theorem dX8_list_43 : decode cX8_list 43 = .ok (.invokevirtual 284, 3) := by decide +kernel
theorem dX8_list_46 : decode cX8_list 46 = .ok (.iconst 1, 1) := by decide +kernel
theorem dX8_list_47 : decode cX8_list 47 = .ok (.ireturn, 1) := by decide +kernel
theorem dX8_put_0 : decode cX8_put 0 = .ok (.aload_n 0, 1) := by decide +kernel
theorem dX8_put_1 : decode cX8_put 1 = .ok (.iload_n 1, 1) := by decide +kernel
theorem dX8_put_2 : decode cX8_put 2 = .ok (.iload_n 2, 1) := by decide +kernel
theorem dX8_put_3 : decode cX8_put 3 = .ok (.iconst 1, 1) := by decide +kernel
theorem dX8_put_4 : decode cX8_put 4 = .ok (.invokevirtual 287, 3) := by decide +kernel
theorem dX8_put_7 : decode cX8_put 7 = .ok (.istore 4, 2) := by decide +kernel
theorem dX8_put_9 : decode cX8_put 9 = .ok (.iload 4, 2) := by decide +kernel
theorem dX8_put_11 : decode cX8_put 11 = .ok (.ifCond .eq 6, 3) := by decide +kernel
theorem dX8_put_14 : decode cX8_put 14 = .ok (.iload 4, 2) := by decide +kernel
theorem dX8_put_16 : decode cX8_put 16 = .ok (.ireturn, 1) := by decide +kernel
theorem dX8_put_17 : decode cX8_put 17 = .ok (.aload_n 0, 1) := by decide +kernel
theorem dX8_put_18 : decode cX8_put 18 = .ok (.getfield 36, 3) := by decide +kernel
theorem dX8_put_21 : decode cX8_put 21 = .ok (.getfield 291, 3) := by decide +kernel
theorem dX8_put_24 : decode cX8_put 24 = .ok (.iload_n 1, 1) := by decide +kernel
theorem dX8_put_25 : decode cX8_put 25 = .ok (.aaload, 1) := by decide +kernel
theorem dX8_put_26 : decode cX8_put 26 = .ok (.iload_n 2, 1) := by decide +kernel
theorem dX8_put_27 : decode cX8_put 27 = .ok (.iload_n 3, 1) := by decide +kernel
theorem dX8_put_28 : decode cX8_put 28 = .ok (.iastore, 1) := by decide +kernel
theorem dX8_put_29 : decode cX8_put 29 = .ok (.iconst 1, 1) := by decide +kernel
theorem dX8_put_30 : decode cX8_put 30 = .ok (.ireturn, 1) := by decide +kernel
theorem dX8_look_0 : decode cX8_look 0 = .ok (.aload_n 0, 1) := by decide +kernel
theorem dX8_look_1 : decode cX8_look 1 = .ok (.iload_n 1, 1) := by decide +kernel
theorem dX8_look_2 : decode cX8_look 2 = .ok (.iload_n 2, 1) := by decide +kernel
theorem dX8_look_3 : decode cX8_look 3 = .ok (.iconst 1, 1) := by decide +kernel
theorem dX8_look_4 : decode cX8_look 4 = .ok (.invokevirtual 287, 3) := by decide +kernel
theorem dX8_look_7 : decode cX8_look 7 = .ok (.istore_n 3, 1) := by decide +kernel
theorem dX8_look_8 : decode cX8_look 8 = .ok (.iload_n 3, 1) := by decide +kernel
theorem dX8_look_9 : decode cX8_look 9 = .ok (.ifCond .eq 12, 3) := by decide +kernel
theorem dX8_look_12 : decode cX8_look 12 = .ok (.ldc2_w 295, 3) := by decide +kernel
theorem dX8_look_15 : decode cX8_look 15 = .ok (.iload_n 3, 1) := by decide +kernel
theorem dX8_look_16 : decode cX8_look 16 = .ok (.i2l, 1) := by decide +kernel
theorem dX8_look_17 : decode cX8_look 17 = .ok (.lsub, 1) := by decide +kernel
theorem dX8_look_18 : decode cX8_look 18 = .ok (.goto 15, 3) := by decide +kernel
theorem dX8_look_21 : decode cX8_look 21 = .ok (.aload_n 0, 1) := by decide +kernel
theorem dX8_look_22 : decode cX8_look 22 = .ok (.getfield 36, 3) := by decide +kernel
theorem dX8_look_25 : decode cX8_look 25 = .ok (.getfield 291, 3) := by decide +kernel
theorem dX8_look_28 : decode cX8_look 28 = .ok (.iload_n 1, 1) := by decide +kernel
theorem dX8_look_29 : decode cX8_look 29 = .ok (.aaload, 1) := by decide +kernel
theorem dX8_look_30 : decode cX8_look 30 = .ok (.iload_n 2, 1) := by decide +kernel
theorem dX8_look_31 : decode cX8_look 31 = .ok (.iaload, 1) := by decide +kernel
theorem dX8_look_32 : decode cX8_look 32 = .ok (.i2l, 1) := by decide +kernel
theorem dX8_look_33 : decode cX8_look 33 = .ok (.lreturn, 1) := by decide +kernel
theorem dX8_lays_0 : decode cX8_lays 0 = .ok (.iconst 2, 1) := by decide +kernel
theorem dX8_lays_1 : decode cX8_lays 1 = .ok (.aload_n 0, 1) := by decide +kernel
theorem dX8_lays_2 : decode cX8_lays 2 = .ok (.getfield 10, 3) := by decide +kernel
theorem dX8_lays_5 : decode cX8_lays 5 = .ok (.getfield 97, 3) := by decide +kernel
theorem dX8_lays_8 : decode cX8_lays 8 = .ok (.getfield 115, 3) := by decide +kernel
theorem dX8_lays_11 : decode cX8_lays 11 = .ok (.imul, 1) := by decide +kernel
theorem dX8_lays_12 : decode cX8_lays 12 = .ok (.istore_n 3, 1) := by decide +kernel
theorem dX8_lays_13 : decode cX8_lays 13 = .ok (.aload_n 0, 1) := by decide +kernel
theorem dX8_lays_14 : decode cX8_lays 14 = .ok (.iload_n 1, 1) := by decide +kernel
theorem dX8_lays_15 : decode cX8_lays 15 = .ok (.iload_n 2, 1) := by decide +kernel
theorem dX8_lays_16 : decode cX8_lays 16 = .ok (.iload_n 3, 1) := by decide +kernel
theorem dX8_lays_17 : decode cX8_lays 17 = .ok (.invokevirtual 287, 3) := by decide +kernel
theorem dX8_lays_20 : decode cX8_lays 20 = .ok (.istore 4, 2) := by decide +kernel
theorem dX8_lays_22 : decode cX8_lays 22 = .ok (.iload 4, 2) := by decide +kernel
theorem dX8_lays_24 : decode cX8_lays 24 = .ok (.ifCond .eq 6, 3) := by decide +kernel
theorem dX8_lays_27 : decode cX8_lays 27 = .ok (.iload 4, 2) := by decide +kernel
theorem dX8_lays_29 : decode cX8_lays 29 = .ok (.ireturn, 1) := by decide +kernel
theorem dX8_lays_30 : decode cX8_lays 30 = .ok (.iconst 0, 1) := by decide +kernel
theorem dX8_lays_31 : decode cX8_lays 31 = .ok (.istore 5, 2) := by decide +kernel
theorem dX8_lays_33 : decode cX8_lays 33 = .ok (.iload 5, 2) := by decide +kernel
theorem dX8_lays_35 : decode cX8_lays 35 = .ok (.iload_n 3, 1) := by decide +kernel
theorem dX8_lays_36 : decode cX8_lays 36 = .ok (.if_icmp .ge 35, 3) := by decide +kernel
theorem dX8_lays_39 : decode cX8_lays 39 = .ok (.aload_n 0, 1) := by decide +kernel
theorem dX8_lays_40 : decode cX8_lays 40 = .ok (.getfield 36, 3) := by decide +kernel
theorem dX8_lays_43 : decode cX8_lays 43 = .ok (.getfield 291, 3) := by decide +kernel
theorem dX8_lays_46 : decode cX8_lays 46 = .ok (.iload_n 1, 1) := by decide +kernel
theorem dX8_lays_47 : decode cX8_lays 47 = .ok (.aaload, 1) := by decide +kernel
theorem dX8_lays_48 : decode cX8_lays 48 = .ok (.iload_n 2, 1) := by decide +kernel
theorem dX8_lays_49 : decode cX8_lays 49 = .ok (.iload 5, 2) := by decide +kernel
theorem dX8_lays_51 : decode cX8_lays 51 = .ok (.iadd, 1) := by decide +kernel
theorem dX8_lays_52 : decode cX8_lays 52 = .ok (.aload_n 0, 1) := by decide +kernel
theorem dX8_lays_53 : decode cX8_lays 53 = .ok (.getfield 10, 3) := by decide +kernel
theorem dX8_lays_56 : decode cX8_lays 56 = .ok (.getfield 97, 3) := by decide +kernel
theorem dX8_lays_59 : decode cX8_lays 59 = .ok (.iload 5, 2) := by decide +kernel
theorem dX8_lays_61 : decode cX8_lays 61 = .ok (.invokevirtual 297, 3) := by decide +kernel
theorem dX8_lays_64 : decode cX8_lays 64 = .ok (.iastore, 1) := by decide +kernel
theorem dX8_lays_65 : decode cX8_lays 65 = .ok (.iinc 5 1, 3) := by decide +kernel
theorem dX8_lays_68 : decode cX8_lays 68 = .ok (.goto (-35), 3) := by decide +kernel
theorem dX8_lays_71 : decode cX8_lays 71 = .ok (.iload_n 3, 1) := by decide +kernel
theorem dX8_lays_72 : decode cX8_lays 72 = .ok (.ireturn, 1) := by decide +kernel
theorem dX8_judge_0 : decode cX8_judge 0 = .ok (.aload_n 0, 1) := by decide +kernel
theorem dX8_judge_1 : decode cX8_judge 1 = .ok (.iload_n 1, 1) := by decide +kernel
theorem dX8_judge_2 : decode cX8_judge 2 = .ok (.invokevirtual 300, 3) := by decide +kernel
theorem dX8_judge_5 : decode cX8_judge 5 = .ok (.istore_n 2, 1) := by decide +kernel
theorem dX8_judge_6 : decode cX8_judge 6 = .ok (.iload_n 2, 1) := by decide +kernel
theorem dX8_judge_7 : decode cX8_judge 7 = .ok (.ifCond .eq 7, 3) := by decide +kernel
theorem dX8_judge_10 : decode cX8_judge 10 = .ok (.iload_n 2, 1) := by decide +kernel
theorem dX8_judge_11 : decode cX8_judge 11 = .ok (.goto 18, 3) := by decide +kernel
theorem dX8_judge_14 : decode cX8_judge 14 = .ok (.aload_n 0, 1) := by decide +kernel
theorem dX8_judge_15 : decode cX8_judge 15 = .ok (.getfield 36, 3) := by decide +kernel
theorem dX8_judge_18 : decode cX8_judge 18 = .ok (.iload_n 1, 1) := by decide +kernel
theorem dX8_judge_19 : decode cX8_judge 19 = .ok (.aload_n 0, 1) := by decide +kernel
theorem dX8_judge_20 : decode cX8_judge 20 = .ok (.getfield 10, 3) := by decide +kernel
theorem dX8_judge_23 : decode cX8_judge 23 = .ok (.getfield 97, 3) := by decide +kernel
theorem dX8_judge_26 : decode cX8_judge 26 = .ok (.invokevirtual 303, 3) := by decide +kernel
theorem dX8_judge_29 : decode cX8_judge 29 = .ok (.ireturn, 1) := by decide +kernel
theorem dX8_sizes_0 : decode cX8_sizes 0 = .ok (.aload_n 0, 1) := by decide +kernel
theorem dX8_sizes_1 : decode cX8_sizes 1 = .ok (.iload_n 1, 1) := by decide +kernel
theorem dX8_sizes_2 : decode cX8_sizes 2 = .ok (.invokevirtual 300, 3) := by decide +kernel
theorem dX8_sizes_5 : decode cX8_sizes 5 = .ok (.istore_n 2, 1) := by decide +kernel
theorem dX8_sizes_6 : decode cX8_sizes 6 = .ok (.iload_n 2, 1) := by decide +kernel
theorem dX8_sizes_7 : decode cX8_sizes 7 = .ok (.ifCond .eq 5, 3) := by decide +kernel
theorem dX8_sizes_10 : decode cX8_sizes 10 = .ok (.iload_n 2, 1) := by decide +kernel
theorem dX8_sizes_11 : decode cX8_sizes 11 = .ok (.ireturn, 1) := by decide +kernel
theorem dX8_sizes_12 : decode cX8_sizes 12 = .ok (.aload_n 0, 1) := by decide +kernel
theorem dX8_sizes_13 : decode cX8_sizes 13 = .ok (.getfield 36, 3) := by decide +kernel
theorem dX8_sizes_16 : decode cX8_sizes 16 = .ok (.getfield 307, 3) := by decide +kernel
theorem dX8_sizes_19 : decode cX8_sizes 19 = .ok (.iload_n 1, 1) := by decide +kernel
theorem dX8_sizes_20 : decode cX8_sizes 20 = .ok (.iaload, 1) := by decide +kernel
theorem dX8_sizes_21 : decode cX8_sizes 21 = .ok (.iconst 2, 1) := by decide +kernel
theorem dX8_sizes_22 : decode cX8_sizes 22 = .ok (.irem, 1) := by decide +kernel
theorem dX8_sizes_23 : decode cX8_sizes 23 = .ok (.ifCond .eq 10, 3) := by decide +kernel
theorem dX8_sizes_26 : decode cX8_sizes 26 = .ok (.aload_n 0, 1) := by decide +kernel
theorem dX8_sizes_27 : decode cX8_sizes 27 = .ok (.bipush (-3), 2) := by decide +kernel
theorem dX8_sizes_29 : decode cX8_sizes 29 = .ok (.invokevirtual 68, 3) := by decide +kernel
theorem dX8_sizes_32 : decode cX8_sizes 32 = .ok (.ireturn, 1) := by decide +kernel
theorem dX8_sizes_33 : decode cX8_sizes 33 = .ok (.aload_n 0, 1) := by decide +kernel
theorem dX8_sizes_34 : decode cX8_sizes 34 = .ok (.getfield 36, 3) := by decide +kernel
theorem dX8_sizes_37 : decode cX8_sizes 37 = .ok (.iload_n 1, 1) := by decide +kernel
theorem dX8_sizes_38 : decode cX8_sizes 38 = .ok (.aload_n 0, 1) := by decide +kernel
theorem dX8_sizes_39 : decode cX8_sizes 39 = .ok (.getfield 57, 3) := by decide +kernel
theorem dX8_sizes_42 : decode cX8_sizes 42 = .ok (.invokevirtual 310, 3) := by decide +kernel
theorem dX8_sizes_45 : decode cX8_sizes 45 = .ok (.ireturn, 1) := by decide +kernel
theorem dX8_undo_0 : decode cX8_undo 0 = .ok (.aload_n 0, 1) := by decide +kernel
theorem dX8_undo_1 : decode cX8_undo 1 = .ok (.getfield 43, 3) := by decide +kernel
theorem dX8_undo_4 : decode cX8_undo 4 = .ok (.getfield 313, 3) := by decide +kernel
theorem dX8_undo_7 : decode cX8_undo 7 = .ok (.iconst 1, 1) := by decide +kernel
theorem dX8_undo_8 : decode cX8_undo 8 = .ok (.if_icmp .ge 10, 3) := by decide +kernel
theorem dX8_undo_11 : decode cX8_undo 11 = .ok (.aload_n 0, 1) := by decide +kernel
theorem dX8_undo_12 : decode cX8_undo 12 = .ok (.bipush (-3), 2) := by decide +kernel
theorem dX8_undo_14 : decode cX8_undo 14 = .ok (.invokevirtual 68, 3) := by decide +kernel
theorem dX8_undo_17 : decode cX8_undo 17 = .ok (.ireturn, 1) := by decide +kernel
theorem dX8_undo_18 : decode cX8_undo 18 = .ok (.aload_n 0, 1) := by decide +kernel
theorem dX8_undo_19 : decode cX8_undo 19 = .ok (.getfield 43, 3) := by decide +kernel
theorem dX8_undo_22 : decode cX8_undo 22 = .ok (.aload_n 0, 1) := by decide +kernel
theorem dX8_undo_23 : decode cX8_undo 23 = .ok (.getfield 10, 3) := by decide +kernel
theorem dX8_undo_26 : decode cX8_undo 26 = .ok (.invokevirtual 314, 3) := by decide +kernel
theorem dX8_undo_29 : decode cX8_undo 29 = .ok (.aload_n 0, 1) := by decide +kernel
theorem dX8_undo_30 : decode cX8_undo 30 = .ok (.getfield 43, 3) := by decide +kernel
theorem dX8_undo_33 : decode cX8_undo 33 = .ok (.getfield 313, 3) := by decide +kernel
theorem dX8_undo_36 : decode cX8_undo 36 = .ok (.ireturn, 1) := by decide +kernel
theorem dX8_image_0 : decode cX8_image 0 = .ok (.aload_n 0, 1) := by decide +kernel
theorem dX8_image_1 : decode cX8_image 1 = .ok (.getfield 16, 3) := by decide +kernel
theorem dX8_image_4 : decode cX8_image 4 = .ok (.aload_n 0, 1) := by decide +kernel
theorem dX8_image_5 : decode cX8_image 5 = .ok (.getfield 10, 3) := by decide +kernel
theorem dX8_image_8 : decode cX8_image 8 = .ok (.invokevirtual 83, 3) := by decide +kernel
theorem dX8_image_11 : decode cX8_image 11 = .ok (.aload_n 0, 1) := by decide +kernel
theorem dX8_image_12 : decode cX8_image 12 = .ok (.iconst 1, 1) := by decide +kernel
theorem dX8_image_13 : decode cX8_image 13 = .ok (.putfield 22, 3) := by decide +kernel
theorem dX8_image_16 : decode cX8_image 16 = .ok (.aload_n 0, 1) := by decide +kernel
theorem dX8_image_17 : decode cX8_image 17 = .ok (.getfield 10, 3) := by decide +kernel
theorem dX8_image_20 : decode cX8_image 20 = .ok (.getfield 97, 3) := by decide +kernel
theorem dX8_image_23 : decode cX8_image 23 = .ok (.getfield 115, 3) := by decide +kernel
theorem dX8_image_26 : decode cX8_image 26 = .ok (.ireturn, 1) := by decide +kernel
theorem dX8_on_0 : decode cX8_on 0 = .ok (.aload_n 0, 1) := by decide +kernel
theorem dX8_on_1 : decode cX8_on 1 = .ok (.getfield 22, 3) := by decide +kernel
theorem dX8_on_4 : decode cX8_on 4 = .ok (.ifCond .ne 10, 3) := by decide +kernel
theorem dX8_on_7 : decode cX8_on 7 = .ok (.aload_n 0, 1) := by decide +kernel
theorem dX8_on_8 : decode cX8_on 8 = .ok (.bipush (-3), 2) := by decide +kernel
theorem dX8_on_10 : decode cX8_on 10 = .ok (.invokevirtual 68, 3) := by decide +kernel
theorem dX8_on_13 : decode cX8_on 13 = .ok (.ireturn, 1) := by decide +kernel
theorem dX8_on_14 : decode cX8_on 14 = .ok (.aload_n 0, 1) := by decide +kernel
theorem dX8_on_15 : decode cX8_on 15 = .ok (.getfield 10, 3) := by decide +kernel
theorem dX8_on_18 : decode cX8_on 18 = .ok (.aload_n 0, 1) := by decide +kernel
theorem dX8_on_19 : decode cX8_on 19 = .ok (.getfield 16, 3) := by decide +kernel
theorem dX8_on_22 : decode cX8_on 22 = .ok (.invokevirtual 83, 3) := by decide +kernel
theorem dX8_on_25 : decode cX8_on 25 = .ok (.aload_n 0, 1) := by decide +kernel
theorem dX8_on_26 : decode cX8_on 26 = .ok (.getfield 43, 3) := by decide +kernel
theorem dX8_on_29 : decode cX8_on 29 = .ok (.invokevirtual 91, 3) := by decide +kernel
theorem dX8_on_32 : decode cX8_on 32 = .ok (.aload_n 0, 1) := by decide +kernel
theorem dX8_on_33 : decode cX8_on 33 = .ok (.getfield 10, 3) := by decide +kernel
theorem dX8_on_36 : decode cX8_on 36 = .ok (.getfield 97, 3) := by decide +kernel
theorem dX8_on_39 : decode cX8_on 39 = .ok (.getfield 115, 3) := by decide +kernel
theorem dX8_on_42 : decode cX8_on 42 = .ok (.ireturn, 1) := by decide +kernel
theorem dX8_count_0 : decode cX8_count 0 = .ok (.iload_n 1, 1) := by decide +kernel
theorem dX8_count_1 : decode cX8_count 1 = .ok (.bipush 11, 2) := by decide +kernel
theorem dX8_count_3 : decode cX8_count 3 = .ok (.if_icmp .lt 19, 3) := by decide +kernel
theorem dX8_count_6 : decode cX8_count 6 = .ok (.iload_n 1, 1) := by decide +kernel
theorem dX8_count_7 : decode cX8_count 7 = .ok (.bipush 16, 2) := by decide +kernel
theorem dX8_count_9 : decode cX8_count 9 = .ok (.if_icmp .gt 13, 3) := by decide +kernel
theorem dX8_count_12 : decode cX8_count 12 = .ok (.aload_n 0, 1) := by decide +kernel
theorem dX8_count_13 : decode cX8_count 13 = .ok (.getfield 64, 3) := by decide +kernel
theorem dX8_count_16 : decode cX8_count 16 = .ok (.iload_n 1, 1) := by decide +kernel
theorem dX8_count_17 : decode cX8_count 17 = .ok (.bipush 10, 2) := by decide +kernel
theorem dX8_count_19 : decode cX8_count 19 = .ok (.isub, 1) := by decide +kernel
theorem dX8_count_20 : decode cX8_count 20 = .ok (.iaload, 1) := by decide +kernel
theorem dX8_count_21 : decode cX8_count 21 = .ok (.ireturn, 1) := by decide +kernel
theorem dX8_count_22 : decode cX8_count 22 = .ok (.iload_n 1, 1) := by decide +kernel
theorem dX8_count_23 : decode cX8_count 23 = .ok (.tableswitch 97 0 5 #[37, 48, 59, 70, 81, 89], 37) := by decide +kernel
theorem dX8_count_60 : decode cX8_count 60 = .ok (.aload_n 0, 1) := by decide +kernel
theorem dX8_count_61 : decode cX8_count 61 = .ok (.getfield 10, 3) := by decide +kernel
theorem dX8_count_64 : decode cX8_count 64 = .ok (.getfield 97, 3) := by decide +kernel
theorem dX8_count_67 : decode cX8_count 67 = .ok (.getfield 100, 3) := by decide +kernel
theorem dX8_count_70 : decode cX8_count 70 = .ok (.ireturn, 1) := by decide +kernel
theorem dX8_count_71 : decode cX8_count 71 = .ok (.aload_n 0, 1) := by decide +kernel
theorem dX8_count_72 : decode cX8_count 72 = .ok (.getfield 10, 3) := by decide +kernel
theorem dX8_count_75 : decode cX8_count 75 = .ok (.getfield 97, 3) := by decide +kernel
theorem dX8_count_78 : decode cX8_count 78 = .ok (.getfield 115, 3) := by decide +kernel
theorem dX8_count_81 : decode cX8_count 81 = .ok (.ireturn, 1) := by decide +kernel
theorem dX8_count_82 : decode cX8_count 82 = .ok (.aload_n 0, 1) := by decide +kernel
theorem dX8_count_83 : decode cX8_count 83 = .ok (.getfield 10, 3) := by decide +kernel
theorem dX8_count_86 : decode cX8_count 86 = .ok (.getfield 269, 3) := by decide +kernel
theorem dX8_count_89 : decode cX8_count 89 = .ok (.getfield 276, 3) := by decide +kernel
theorem dX8_count_92 : decode cX8_count 92 = .ok (.ireturn, 1) := by decide +kernel
theorem dX8_count_93 : decode cX8_count 93 = .ok (.aload_n 0, 1) := by decide +kernel
theorem dX8_count_94 : decode cX8_count 94 = .ok (.getfield 10, 3) := by decide +kernel
theorem dX8_count_97 : decode cX8_count 97 = .ok (.getfield 173, 3) := by decide +kernel
theorem dX8_count_100 : decode cX8_count 100 = .ok (.invokevirtual 317, 3) := by decide +kernel
theorem dX8_count_103 : decode cX8_count 103 = .ok (.ireturn, 1) := by decide +kernel
theorem dX8_count_104 : decode cX8_count 104 = .ok (.aload_n 0, 1) := by decide +kernel
theorem dX8_count_105 : decode cX8_count 105 = .ok (.getfield 29, 3) := by decide +kernel
theorem dX8_count_108 : decode cX8_count 108 = .ok (.getfield 72, 3) := by decide +kernel
theorem dX8_count_111 : decode cX8_count 111 = .ok (.ireturn, 1) := by decide +kernel
theorem dX8_count_112 : decode cX8_count 112 = .ok (.aload_n 0, 1) := by decide +kernel
theorem dX8_count_113 : decode cX8_count 113 = .ok (.getfield 43, 3) := by decide +kernel
theorem dX8_count_116 : decode cX8_count 116 = .ok (.getfield 313, 3) := by decide +kernel
theorem dX8_count_119 : decode cX8_count 119 = .ok (.ireturn, 1) := by decide +kernel
theorem dX8_count_120 : decode cX8_count 120 = .ok (.bipush (-9), 2) := by decide +kernel
theorem dX8_count_122 : decode cX8_count 122 = .ok (.ireturn, 1) := by decide +kernel
theorem dX8_refuse_0 : decode cX8_refuse 0 = .ok (.iload_n 1, 1) := by decide +kernel
theorem dX8_refuse_1 : decode cX8_refuse 1 = .ok (.ifCond .ge 24, 3) := by decide +kernel
theorem dX8_refuse_4 : decode cX8_refuse 4 = .ok (.iload_n 1, 1) := by decide +kernel
theorem dX8_refuse_5 : decode cX8_refuse 5 = .ok (.ineg, 1) := by decide +kernel
theorem dX8_refuse_6 : decode cX8_refuse 6 = .ok (.aload_n 0, 1) := by decide +kernel
theorem dX8_refuse_7 : decode cX8_refuse 7 = .ok (.getfield 64, 3) := by decide +kernel
theorem dX8_refuse_10 : decode cX8_refuse 10 = .ok (.arraylength, 1) := by decide +kernel
theorem dX8_refuse_11 : decode cX8_refuse 11 = .ok (.if_icmp .ge 14, 3) := by decide +kernel
theorem dX8_refuse_14 : decode cX8_refuse 14 = .ok (.aload_n 0, 1) := by decide +kernel
theorem dX8_refuse_15 : decode cX8_refuse 15 = .ok (.getfield 64, 3) := by decide +kernel
theorem dX8_refuse_18 : decode cX8_refuse 18 = .ok (.iload_n 1, 1) := by decide +kernel
theorem dX8_refuse_19 : decode cX8_refuse 19 = .ok (.ineg, 1) := by decide +kernel
theorem dX8_refuse_20 : decode cX8_refuse 20 = .ok (.dup2, 1) := by decide +kernel
theorem dX8_refuse_21 : decode cX8_refuse 21 = .ok (.iaload, 1) := by decide +kernel
theorem dX8_refuse_22 : decode cX8_refuse 22 = .ok (.iconst 1, 1) := by decide +kernel
theorem dX8_refuse_23 : decode cX8_refuse 23 = .ok (.iadd, 1) := by decide +kernel
theorem dX8_refuse_24 : decode cX8_refuse 24 = .ok (.iastore, 1) := by decide +kernel
theorem dX8_refuse_25 : decode cX8_refuse 25 = .ok (.iload_n 1, 1) := by decide +kernel
theorem dX8_refuse_26 : decode cX8_refuse 26 = .ok (.ireturn, 1) := by decide +kernel
theorem dX8_refuseLong_0 : decode cX8_refuseLong 0 = .ok (.ldc2_w 295, 3) := by decide +kernel
theorem dX8_refuseLong_3 : decode cX8_refuseLong 3 = .ok (.aload_n 0, 1) := by decide +kernel
theorem dX8_refuseLong_4 : decode cX8_refuseLong 4 = .ok (.iload_n 1, 1) := by decide +kernel
theorem dX8_refuseLong_5 : decode cX8_refuseLong 5 = .ok (.invokevirtual 68, 3) := by decide +kernel
theorem dX8_refuseLong_8 : decode cX8_refuseLong 8 = .ok (.i2l, 1) := by decide +kernel
theorem dX8_refuseLong_9 : decode cX8_refuseLong 9 = .ok (.lsub, 1) := by decide +kernel
theorem dX8_refuseLong_10 : decode cX8_refuseLong 10 = .ok (.lreturn, 1) := by decide +kernel
theorem dX8_refusalOfCell_0 : decode cX8_refusalOfCell 0 = .ok (.aload_n 0, 1) := by decide +kernel
theorem dX8_refusalOfCell_1 : decode cX8_refusalOfCell 1 = .ok (.getfield 10, 3) := by decide +kernel
theorem dX8_refusalOfCell_4 : decode cX8_refusalOfCell 4 = .ok (.getfield 173, 3) := by decide +kernel
theorem dX8_refusalOfCell_7 : decode cX8_refusalOfCell 7 = .ok (.getfield 212, 3) := by decide +kernel
theorem dX8_refusalOfCell_10 : decode cX8_refusalOfCell 10 = .ok (.istore 5, 2) := by decide +kernel
theorem dX8_refusalOfCell_12 : decode cX8_refusalOfCell 12 = .ok (.aload_n 0, 1) := by decide +kernel
theorem dX8_refusalOfCell_13 : decode cX8_refusalOfCell 13 = .ok (.getfield 10, 3) := by decide +kernel
theorem dX8_refusalOfCell_16 : decode cX8_refusalOfCell 16 = .ok (.getfield 173, 3) := by decide +kernel
theorem dX8_refusalOfCell_19 : decode cX8_refusalOfCell 19 = .ok (.iload_n 1, 1) := by decide +kernel
theorem dX8_refusalOfCell_20 : decode cX8_refusalOfCell 20 = .ok (.iload_n 2, 1) := by decide +kernel
theorem dX8_refusalOfCell_21 : decode cX8_refusalOfCell 21 = .ok (.invokevirtual 200, 3) := by decide +kernel
theorem dX8_refusalOfCell_24 : decode cX8_refusalOfCell 24 = .ok (.ifCond .ne 5, 3) := by decide +kernel
theorem dX8_refusalOfCell_27 : decode cX8_refusalOfCell 27 = .ok (.iconst (-1), 1) := by decide +kernel
theorem dX8_refusalOfCell_28 : decode cX8_refusalOfCell 28 = .ok (.ireturn, 1) := by decide +kernel
theorem dX8_refusalOfCell_29 : decode cX8_refusalOfCell 29 = .ok (.iload_n 3, 1) := by decide +kernel
theorem dX8_refusalOfCell_30 : decode cX8_refusalOfCell 30 = .ok (.iconst (-1), 1) := by decide +kernel
theorem dX8_refusalOfCell_31 : decode cX8_refusalOfCell 31 = .ok (.if_icmp .ne 5, 3) := by decide +kernel
theorem dX8_refusalOfCell_34 : decode cX8_refusalOfCell 34 = .ok (.iconst 0, 1) := by decide +kernel
theorem dX8_refusalOfCell_35 : decode cX8_refusalOfCell 35 = .ok (.ireturn, 1) := by decide +kernel
theorem dX8_refusalOfCell_36 : decode cX8_refusalOfCell 36 = .ok (.iload_n 3, 1) := by decide +kernel
theorem dX8_refusalOfCell_37 : decode cX8_refusalOfCell 37 = .ok (.iconst (-1), 1) := by decide +kernel
theorem dX8_refusalOfCell_38 : decode cX8_refusalOfCell 38 = .ok (.if_icmp .lt 8, 3) := by decide +kernel
theorem dX8_refusalOfCell_41 : decode cX8_refusalOfCell 41 = .ok (.iload 4, 2) := by decide +kernel
theorem dX8_refusalOfCell_43 : decode cX8_refusalOfCell 43 = .ok (.ifCond .ge 6, 3) := by decide +kernel
theorem dX8_refusalOfCell_46 : decode cX8_refusalOfCell 46 = .ok (.bipush (-4), 2) := by decide +kernel
theorem dX8_refusalOfCell_48 : decode cX8_refusalOfCell 48 = .ok (.ireturn, 1) := by decide +kernel
theorem dX8_refusalOfCell_49 : decode cX8_refusalOfCell 49 = .ok (.iload_n 3, 1) := by decide +kernel
theorem dX8_refusalOfCell_50 : decode cX8_refusalOfCell 50 = .ok (.iload 5, 2) := by decide +kernel
theorem dX8_refusalOfCell_52 : decode cX8_refusalOfCell 52 = .ok (.if_icmp .gt 10, 3) := by decide +kernel
theorem dX8_refusalOfCell_55 : decode cX8_refusalOfCell 55 = .ok (.iload 4, 2) := by decide +kernel
theorem dX8_refusalOfCell_57 : decode cX8_refusalOfCell 57 = .ok (.iload 5, 2) := by decide +kernel
theorem dX8_refusalOfCell_59 : decode cX8_refusalOfCell 59 = .ok (.if_icmp .le 6, 3) := by decide +kernel
theorem dX8_refusalOfCell_62 : decode cX8_refusalOfCell 62 = .ok (.bipush (-6), 2) := by decide +kernel
theorem dX8_refusalOfCell_64 : decode cX8_refusalOfCell 64 = .ok (.ireturn, 1) := by decide +kernel
theorem dX8_refusalOfCell_65 : decode cX8_refusalOfCell 65 = .ok (.iload_n 3, 1) := by decide +kernel
theorem dX8_refusalOfCell_66 : decode cX8_refusalOfCell 66 = .ok (.iload 4, 2) := by decide +kernel
theorem dX8_refusalOfCell_68 : decode cX8_refusalOfCell 68 = .ok (.if_icmp .ne 8, 3) := by decide +kernel
theorem dX8_refusalOfCell_71 : decode cX8_refusalOfCell 71 = .ok (.bipush (-3), 2) := by decide +kernel
theorem dX8_refusalOfCell_73 : decode cX8_refusalOfCell 73 = .ok (.goto 4, 3) := by decide +kernel
theorem dX8_refusalOfCell_76 : decode cX8_refusalOfCell 76 = .ok (.iconst 0, 1) := by decide +kernel
theorem dX8_refusalOfCell_77 : decode cX8_refusalOfCell 77 = .ok (.ireturn, 1) := by decide +kernel
theorem dX8_refusalOfList_0 : decode cX8_refusalOfList 0 = .ok (.aload_n 0, 1) := by decide +kernel
theorem dX8_refusalOfList_1 : decode cX8_refusalOfList 1 = .ok (.getfield 36, 3) := by decide +kernel
theorem dX8_refusalOfList_4 : decode cX8_refusalOfList 4 = .ok (.iload_n 1, 1) := by decide +kernel
theorem dX8_refusalOfList_5 : decode cX8_refusalOfList 5 = .ok (.invokevirtual 283, 3) := by decide +kernel
theorem dX8_refusalOfList_8 : decode cX8_refusalOfList 8 = .ok (.ifCond .ne 9, 3) := by decide +kernel
theorem dX8_refusalOfList_11 : decode cX8_refusalOfList 11 = .ok (.aload_n 0, 1) := by decide +kernel
theorem dX8_refusalOfList_12 : decode cX8_refusalOfList 12 = .ok (.iconst (-1), 1) := by decide +kernel
theorem dX8_refusalOfList_13 : decode cX8_refusalOfList 13 = .ok (.invokevirtual 68, 3) := by decide +kernel
theorem dX8_refusalOfList_16 : decode cX8_refusalOfList 16 = .ok (.ireturn, 1) := by decide +kernel
theorem dX8_refusalOfList_17 : decode cX8_refusalOfList 17 = .ok (.aload_n 0, 1) := by decide +kernel
theorem dX8_refusalOfList_18 : decode cX8_refusalOfList 18 = .ok (.getfield 36, 3) := by decide +kernel
theorem dX8_refusalOfList_21 : decode cX8_refusalOfList 21 = .ok (.getfield 307, 3) := by decide +kernel
theorem dX8_refusalOfList_24 : decode cX8_refusalOfList 24 = .ok (.iload_n 1, 1) := by decide +kernel
theorem dX8_refusalOfList_25 : decode cX8_refusalOfList 25 = .ok (.iaload, 1) := by decide +kernel
theorem dX8_refusalOfList_26 : decode cX8_refusalOfList 26 = .ok (.ifCond .ge 8, 3) := by decide +kernel
theorem dX8_refusalOfList_29 : decode cX8_refusalOfList 29 = .ok (.bipush (-11), 2) := by decide +kernel
theorem dX8_refusalOfList_31 : decode cX8_refusalOfList 31 = .ok (.goto 4, 3) := by decide +kernel
theorem dX8_refusalOfList_34 : decode cX8_refusalOfList 34 = .ok (.iconst 0, 1) := by decide +kernel
theorem dX8_refusalOfList_35 : decode cX8_refusalOfList 35 = .ok (.ireturn, 1) := by decide +kernel
theorem dX8_refusalOfPlace_0 : decode cX8_refusalOfPlace 0 = .ok (.aload_n 0, 1) := by decide +kernel
theorem dX8_refusalOfPlace_1 : decode cX8_refusalOfPlace 1 = .ok (.iload_n 1, 1) := by decide +kernel
theorem dX8_refusalOfPlace_2 : decode cX8_refusalOfPlace 2 = .ok (.invokevirtual 300, 3) := by decide +kernel
theorem dX8_refusalOfPlace_5 : decode cX8_refusalOfPlace 5 = .ok (.istore 4, 2) := by decide +kernel
theorem dX8_refusalOfPlace_7 : decode cX8_refusalOfPlace 7 = .ok (.iload 4, 2) := by decide +kernel
theorem dX8_refusalOfPlace_9 : decode cX8_refusalOfPlace 9 = .ok (.ifCond .eq 6, 3) := by decide +kernel
theorem dX8_refusalOfPlace_12 : decode cX8_refusalOfPlace 12 = .ok (.iload 4, 2) := by decide +kernel
theorem dX8_refusalOfPlace_14 : decode cX8_refusalOfPlace 14 = .ok (.ireturn, 1) := by decide +kernel
theorem dX8_refusalOfPlace_15 : decode cX8_refusalOfPlace 15 = .ok (.iload_n 3, 1) := by decide +kernel
theorem dX8_refusalOfPlace_16 : decode cX8_refusalOfPlace 16 = .ok (.iconst 1, 1) := by decide +kernel
theorem dX8_refusalOfPlace_17 : decode cX8_refusalOfPlace 17 = .ok (.if_icmp .lt 22, 3) := by decide +kernel
theorem dX8_refusalOfPlace_20 : decode cX8_refusalOfPlace 20 = .ok (.iload_n 2, 1) := by decide +kernel
theorem dX8_refusalOfPlace_21 : decode cX8_refusalOfPlace 21 = .ok (.ifCond .lt 22, 3) := by decide +kernel
theorem dX8_refusalOfPlace_24 : decode cX8_refusalOfPlace 24 = .ok (.iload_n 2, 1) := by decide +kernel
theorem dX8_refusalOfPlace_25 : decode cX8_refusalOfPlace 25 = .ok (.aload_n 0, 1) := by decide +kernel
theorem dX8_refusalOfPlace_26 : decode cX8_refusalOfPlace 26 = .ok (.getfield 36, 3) := by decide +kernel
theorem dX8_refusalOfPlace_29 : decode cX8_refusalOfPlace 29 = .ok (.getfield 307, 3) := by decide +kernel
theorem dX8_refusalOfPlace_32 : decode cX8_refusalOfPlace 32 = .ok (.iload_n 1, 1) := by decide +kernel
theorem dX8_refusalOfPlace_33 : decode cX8_refusalOfPlace 33 = .ok (.iaload, 1) := by decide +kernel
theorem dX8_refusalOfPlace_34 : decode cX8_refusalOfPlace 34 = .ok (.iload_n 3, 1) := by decide +kernel
theorem dX8_refusalOfPlace_35 : decode cX8_refusalOfPlace 35 = .ok (.isub, 1) := by decide +kernel
theorem dX8_refusalOfPlace_36 : decode cX8_refusalOfPlace 36 = .ok (.if_icmp .gt 7, 3) := by decide +kernel
theorem dX8_refusalOfPlace_39 : decode cX8_refusalOfPlace 39 = .ok (.iconst 1, 1) := by decide +kernel
theorem dX8_refusalOfPlace_40 : decode cX8_refusalOfPlace 40 = .ok (.goto 4, 3) := by decide +kernel
theorem dX8_refusalOfPlace_43 : decode cX8_refusalOfPlace 43 = .ok (.iconst 0, 1) := by decide +kernel
theorem dX8_refusalOfPlace_44 : decode cX8_refusalOfPlace 44 = .ok (.istore 5, 2) := by decide +kernel
theorem dX8_refusalOfPlace_46 : decode cX8_refusalOfPlace 46 = .ok (.iload 5, 2) := by decide +kernel
theorem dX8_refusalOfPlace_48 : decode cX8_refusalOfPlace 48 = .ok (.ifCond .eq 7, 3) := by decide +kernel
theorem dX8_refusalOfPlace_51 : decode cX8_refusalOfPlace 51 = .ok (.iconst 0, 1) := by decide +kernel
theorem dX8_refusalOfPlace_52 : decode cX8_refusalOfPlace 52 = .ok (.goto 5, 3) := by decide +kernel
theorem dX8_refusalOfPlace_55 : decode cX8_refusalOfPlace 55 = .ok (.bipush (-13), 2) := by decide +kernel
theorem dX8_refusalOfPlace_57 : decode cX8_refusalOfPlace 57 = .ok (.ireturn, 1) := by decide +kernel
theorem dX8_turnInThought_0 : decode cX8_turnInThought 0 = .ok (.aload_n 0, 1) := by decide +kernel
theorem dX8_turnInThought_1 : decode cX8_turnInThought 1 = .ok (.getfield 57, 3) := by decide +kernel
theorem dX8_turnInThought_4 : decode cX8_turnInThought 4 = .ok (.aload_n 0, 1) := by decide +kernel
theorem dX8_turnInThought_5 : decode cX8_turnInThought 5 = .ok (.getfield 10, 3) := by decide +kernel
theorem dX8_turnInThought_8 : decode cX8_turnInThought 8 = .ok (.getfield 97, 3) := by decide +kernel
theorem dX8_turnInThought_11 : decode cX8_turnInThought 11 = .ok (.invokevirtual 153, 3) := by decide +kernel
theorem dX8_turnInThought_14 : decode cX8_turnInThought 14 = .ok (.aload_n 0, 1) := by decide +kernel
theorem dX8_turnInThought_15 : decode cX8_turnInThought 15 = .ok (.getfield 10, 3) := by decide +kernel
theorem dX8_turnInThought_18 : decode cX8_turnInThought 18 = .ok (.getfield 269, 3) := by decide +kernel
theorem dX8_turnInThought_21 : decode cX8_turnInThought 21 = .ok (.aload_n 0, 1) := by decide +kernel
theorem dX8_turnInThought_22 : decode cX8_turnInThought 22 = .ok (.getfield 57, 3) := by decide +kernel
theorem dX8_turnInThought_25 : decode cX8_turnInThought 25 = .ok (.aload_n 0, 1) := by decide +kernel
theorem dX8_turnInThought_26 : decode cX8_turnInThought 26 = .ok (.getfield 61, 3) := by decide +kernel
theorem dX8_turnInThought_29 : decode cX8_turnInThought 29 = .ok (.invokevirtual 320, 3) := by decide +kernel
theorem dX8_turnInThought_32 : decode cX8_turnInThought 32 = .ok (.return_, 1) := by decide +kernel
theorem dX8_bit_0 : decode cX8_bit 0 = .ok (.iload_n 0, 1) := by decide +kernel
theorem dX8_bit_1 : decode cX8_bit 1 = .ok (.ifCond .eq 7, 3) := by decide +kernel
theorem dX8_bit_4 : decode cX8_bit 4 = .ok (.iconst 1, 1) := by decide +kernel
theorem dX8_bit_5 : decode cX8_bit 5 = .ok (.goto 4, 3) := by decide +kernel
theorem dX8_bit_8 : decode cX8_bit 8 = .ok (.iconst 0, 1) := by decide +kernel
theorem dX8_bit_9 : decode cX8_bit 9 = .ok (.ireturn, 1) := by decide +kernel
theorem dX8_wrap_0 : decode cX8_wrap 0 = .ok (.iload_n 1, 1) := by decide +kernel
theorem dX8_wrap_1 : decode cX8_wrap 1 = .ok (.iconst 1, 1) := by decide +kernel
theorem dX8_wrap_2 : decode cX8_wrap 2 = .ok (.if_icmp .ge 7, 3) := by decide +kernel
theorem dX8_wrap_5 : decode cX8_wrap 5 = .ok (.iconst 0, 1) := by decide +kernel
theorem dX8_wrap_6 : decode cX8_wrap 6 = .ok (.goto 8, 3) := by decide +kernel
theorem dX8_wrap_9 : decode cX8_wrap 9 = .ok (.iload_n 0, 1) := by decide +kernel
theorem dX8_wrap_10 : decode cX8_wrap 10 = .ok (.iload_n 1, 1) := by decide +kernel
theorem dX8_wrap_11 : decode cX8_wrap 11 = .ok (.invokestatic 324, 3) := by decide +kernel
theorem dX8_wrap_14 : decode cX8_wrap 14 = .ok (.ireturn, 1) := by decide +kernel
theorem dX8_greatestCommon_0 : decode cX8_greatestCommon 0 = .ok (.iload_n 1, 1) := by decide +kernel
theorem dX8_greatestCommon_1 : decode cX8_greatestCommon 1 = .ok (.istore_n 2, 1) := by decide +kernel
theorem dX8_greatestCommon_2 : decode cX8_greatestCommon 2 = .ok (.iload_n 2, 1) := by decide +kernel
theorem dX8_greatestCommon_3 : decode cX8_greatestCommon 3 = .ok (.iconst 1, 1) := by decide +kernel
theorem dX8_greatestCommon_4 : decode cX8_greatestCommon 4 = .ok (.if_icmp .le 23, 3) := by decide +kernel
theorem dX8_greatestCommon_7 : decode cX8_greatestCommon 7 = .ok (.iload_n 0, 1) := by decide +kernel
theorem dX8_greatestCommon_8 : decode cX8_greatestCommon 8 = .ok (.iload_n 2, 1) := by decide +kernel
theorem dX8_greatestCommon_9 : decode cX8_greatestCommon 9 = .ok (.irem, 1) := by decide +kernel
theorem dX8_greatestCommon_10 : decode cX8_greatestCommon 10 = .ok (.ifCond .ne 11, 3) := by decide +kernel
theorem dX8_greatestCommon_13 : decode cX8_greatestCommon 13 = .ok (.iload_n 1, 1) := by decide +kernel
theorem dX8_greatestCommon_14 : decode cX8_greatestCommon 14 = .ok (.iload_n 2, 1) := by decide +kernel
theorem dX8_greatestCommon_15 : decode cX8_greatestCommon 15 = .ok (.irem, 1) := by decide +kernel
theorem dX8_greatestCommon_16 : decode cX8_greatestCommon 16 = .ok (.ifCond .ne 5, 3) := by decide +kernel
theorem dX8_greatestCommon_19 : decode cX8_greatestCommon 19 = .ok (.iload_n 2, 1) := by decide +kernel
theorem dX8_greatestCommon_20 : decode cX8_greatestCommon 20 = .ok (.ireturn, 1) := by decide +kernel
theorem dX8_greatestCommon_21 : decode cX8_greatestCommon 21 = .ok (.iinc 2 (-1), 3) := by decide +kernel
theorem dX8_greatestCommon_24 : decode cX8_greatestCommon 24 = .ok (.goto (-22), 3) := by decide +kernel
theorem dX8_greatestCommon_27 : decode cX8_greatestCommon 27 = .ok (.iconst 1, 1) := by decide +kernel
theorem dX8_greatestCommon_28 : decode cX8_greatestCommon 28 = .ok (.ireturn, 1) := by decide +kernel
theorem dX9_init_0 : decode cX9_init 0 = .ok (.aload_n 0, 1) := by decide +kernel
theorem dX9_init_1 : decode cX9_init 1 = .ok (.invokespecial 1, 3) := by decide +kernel
theorem dX9_init_4 : decode cX9_init 4 = .ok (.aload_n 0, 1) := by decide +kernel
theorem dX9_init_5 : decode cX9_init 5 = .ok (.bipush 7, 2) := by decide +kernel
theorem dX9_init_7 : decode cX9_init 7 = .ok (.putfield 7, 3) := by decide +kernel
theorem dX9_init_10 : decode cX9_init 10 = .ok (.aload_n 0, 1) := by decide +kernel
theorem dX9_init_11 : decode cX9_init 11 = .ok (.bipush 18, 2) := by decide +kernel
theorem dX9_init_13 : decode cX9_init 13 = .ok (.newarray .int, 2) := by decide +kernel
theorem dX9_init_15 : decode cX9_init 15 = .ok (.putfield 13, 3) := by decide +kernel
theorem dX9_init_18 : decode cX9_init 18 = .ok (.aload_n 0, 1) := by decide +kernel
theorem dX9_init_19 : decode cX9_init 19 = .ok (.sipush 338, 3) := by decide +kernel
theorem dX9_init_22 : decode cX9_init 22 = .ok (.newarray .int, 2) := by decide +kernel
theorem dX9_init_24 : decode cX9_init 24 = .ok (.putfield 17, 3) := by decide +kernel
theorem dX9_init_27 : decode cX9_init 27 = .ok (.aload_n 0, 1) := by decide +kernel
theorem dX9_init_28 : decode cX9_init 28 = .ok (.bipush 12, 2) := by decide +kernel
theorem dX9_init_30 : decode cX9_init 30 = .ok (.newarray .int, 2) := by decide +kernel
theorem dX9_init_32 : decode cX9_init 32 = .ok (.putfield 20, 3) := by decide +kernel
theorem dX9_init_35 : decode cX9_init 35 = .ok (.aload_n 0, 1) := by decide +kernel
theorem dX9_init_36 : decode cX9_init 36 = .ok (.bipush 7, 2) := by decide +kernel
theorem dX9_init_38 : decode cX9_init 38 = .ok (.newarray .int, 2) := by decide +kernel
theorem dX9_init_40 : decode cX9_init 40 = .ok (.putfield 23, 3) := by decide +kernel
theorem dX9_init_43 : decode cX9_init 43 = .ok (.aload_n 0, 1) := by decide +kernel
theorem dX9_init_44 : decode cX9_init 44 = .ok (.bipush 12, 2) := by decide +kernel
theorem dX9_init_46 : decode cX9_init 46 = .ok (.newarray .int, 2) := by decide +kernel
theorem dX9_init_48 : decode cX9_init 48 = .ok (.putfield 26, 3) := by decide +kernel
theorem dX9_init_51 : decode cX9_init 51 = .ok (.aload_n 0, 1) := by decide +kernel
theorem dX9_init_52 : decode cX9_init 52 = .ok (.sipush 216, 3) := by decide +kernel
theorem dX9_init_55 : decode cX9_init 55 = .ok (.newarray .int, 2) := by decide +kernel
theorem dX9_init_57 : decode cX9_init 57 = .ok (.putfield 29, 3) := by decide +kernel
theorem dX9_init_60 : decode cX9_init 60 = .ok (.aload_n 0, 1) := by decide +kernel
theorem dX9_init_61 : decode cX9_init 61 = .ok (.sipush 4056, 3) := by decide +kernel
theorem dX9_init_64 : decode cX9_init 64 = .ok (.newarray .int, 2) := by decide +kernel
theorem dX9_init_66 : decode cX9_init 66 = .ok (.putfield 32, 3) := by decide +kernel
theorem dX9_init_69 : decode cX9_init 69 = .ok (.aload_n 0, 1) := by decide +kernel
theorem dX9_init_70 : decode cX9_init 70 = .ok (.bipush 12, 2) := by decide +kernel
theorem dX9_init_72 : decode cX9_init 72 = .ok (.newarray .int, 2) := by decide +kernel
theorem dX9_init_74 : decode cX9_init 74 = .ok (.putfield 35, 3) := by decide +kernel
theorem dX9_init_77 : decode cX9_init 77 = .ok (.aload_n 0, 1) := by decide +kernel
theorem dX9_init_78 : decode cX9_init 78 = .ok (.bipush 6, 2) := by decide +kernel
theorem dX9_init_80 : decode cX9_init 80 = .ok (.newarray .int, 2) := by decide +kernel
theorem dX9_init_82 : decode cX9_init 82 = .ok (.putfield 38, 3) := by decide +kernel
theorem dX9_init_85 : decode cX9_init 85 = .ok (.aload_n 0, 1) := by decide +kernel
theorem dX9_init_86 : decode cX9_init 86 = .ok (.sipush 196, 3) := by decide +kernel
theorem dX9_init_89 : decode cX9_init 89 = .ok (.newarray .int, 2) := by decide +kernel
theorem dX9_init_91 : decode cX9_init 91 = .ok (.putfield 41, 3) := by decide +kernel
theorem dX9_init_94 : decode cX9_init 94 = .ok (.aload_n 0, 1) := by decide +kernel
theorem dX9_init_95 : decode cX9_init 95 = .ok (.bipush 18, 2) := by decide +kernel
theorem dX9_init_97 : decode cX9_init 97 = .ok (.newarray .int, 2) := by decide +kernel
theorem dX9_init_99 : decode cX9_init 99 = .ok (.putfield 44, 3) := by decide +kernel
theorem dX9_init_102 : decode cX9_init 102 = .ok (.aload_n 0, 1) := by decide +kernel
theorem dX9_init_103 : decode cX9_init 103 = .ok (.bipush 18, 2) := by decide +kernel
theorem dX9_init_105 : decode cX9_init 105 = .ok (.newarray .int, 2) := by decide +kernel
theorem dX9_init_107 : decode cX9_init 107 = .ok (.putfield 47, 3) := by decide +kernel
theorem dX9_init_110 : decode cX9_init 110 = .ok (.aload_n 0, 1) := by decide +kernel
theorem dX9_init_111 : decode cX9_init 111 = .ok (.bipush 72, 2) := by decide +kernel
theorem dX9_init_113 : decode cX9_init 113 = .ok (.newarray .int, 2) := by decide +kernel
theorem dX9_init_115 : decode cX9_init 115 = .ok (.putfield 50, 3) := by decide +kernel
theorem dX9_init_118 : decode cX9_init 118 = .ok (.aload_n 0, 1) := by decide +kernel
theorem dX9_init_119 : decode cX9_init 119 = .ok (.bipush 18, 2) := by decide +kernel
theorem dX9_init_121 : decode cX9_init 121 = .ok (.newarray .int, 2) := by decide +kernel
theorem dX9_init_123 : decode cX9_init 123 = .ok (.putfield 53, 3) := by decide +kernel
theorem dX9_init_126 : decode cX9_init 126 = .ok (.aload_n 0, 1) := by decide +kernel
theorem dX9_init_127 : decode cX9_init 127 = .ok (.sipush 338, 3) := by decide +kernel
theorem dX9_init_130 : decode cX9_init 130 = .ok (.newarray .int, 2) := by decide +kernel
theorem dX9_init_132 : decode cX9_init 132 = .ok (.putfield 56, 3) := by decide +kernel
theorem dX9_init_135 : decode cX9_init 135 = .ok (.aload_n 0, 1) := by decide +kernel
theorem dX9_init_136 : decode cX9_init 136 = .ok (.bipush 12, 2) := by decide +kernel
theorem dX9_init_138 : decode cX9_init 138 = .ok (.newarray .int, 2) := by decide +kernel
theorem dX9_init_140 : decode cX9_init 140 = .ok (.putfield 59, 3) := by decide +kernel
theorem dX9_init_143 : decode cX9_init 143 = .ok (.aload_n 0, 1) := by decide +kernel
theorem dX9_init_144 : decode cX9_init 144 = .ok (.iconst 3, 1) := by decide +kernel
theorem dX9_init_145 : decode cX9_init 145 = .ok (.newarray .int, 2) := by decide +kernel
theorem dX9_init_147 : decode cX9_init 147 = .ok (.dup, 1) := by decide +kernel
theorem dX9_init_148 : decode cX9_init 148 = .ok (.iconst 0, 1) := by decide +kernel
theorem dX9_init_149 : decode cX9_init 149 = .ok (.iconst (-1), 1) := by decide +kernel
theorem dX9_init_150 : decode cX9_init 150 = .ok (.iastore, 1) := by decide +kernel
theorem dX9_init_151 : decode cX9_init 151 = .ok (.dup, 1) := by decide +kernel
theorem dX9_init_152 : decode cX9_init 152 = .ok (.iconst 1, 1) := by decide +kernel
theorem dX9_init_153 : decode cX9_init 153 = .ok (.iconst (-1), 1) := by decide +kernel
theorem dX9_init_154 : decode cX9_init 154 = .ok (.iastore, 1) := by decide +kernel
theorem dX9_init_155 : decode cX9_init 155 = .ok (.dup, 1) := by decide +kernel
theorem dX9_init_156 : decode cX9_init 156 = .ok (.iconst 2, 1) := by decide +kernel
theorem dX9_init_157 : decode cX9_init 157 = .ok (.iconst (-1), 1) := by decide +kernel
theorem dX9_init_158 : decode cX9_init 158 = .ok (.iastore, 1) := by decide +kernel
theorem dX9_init_159 : decode cX9_init 159 = .ok (.putfield 62, 3) := by decide +kernel
theorem dX9_init_162 : decode cX9_init 162 = .ok (.aload_n 0, 1) := by decide +kernel
theorem dX9_init_163 : decode cX9_init 163 = .ok (.bipush 120, 2) := by decide +kernel
theorem dX9_init_165 : decode cX9_init 165 = .ok (.newarray .int, 2) := by decide +kernel
theorem dX9_init_167 : decode cX9_init 167 = .ok (.putfield 65, 3) := by decide +kernel
theorem dX9_init_170 : decode cX9_init 170 = .ok (.aload_n 0, 1) := by decide +kernel
theorem dX9_init_171 : decode cX9_init 171 = .ok (.bipush 18, 2) := by decide +kernel
theorem dX9_init_173 : decode cX9_init 173 = .ok (.newarray .int, 2) := by decide +kernel
theorem dX9_init_175 : decode cX9_init 175 = .ok (.putfield 68, 3) := by decide +kernel
theorem dX9_init_178 : decode cX9_init 178 = .ok (.aload_n 0, 1) := by decide +kernel
theorem dX9_init_179 : decode cX9_init 179 = .ok (.sipush 338, 3) := by decide +kernel
theorem dX9_init_182 : decode cX9_init 182 = .ok (.newarray .int, 2) := by decide +kernel
theorem dX9_init_184 : decode cX9_init 184 = .ok (.putfield 71, 3) := by decide +kernel
theorem dX9_init_187 : decode cX9_init 187 = .ok (.aload_n 0, 1) := by decide +kernel
theorem dX9_init_188 : decode cX9_init 188 = .ok (.bipush 12, 2) := by decide +kernel
theorem dX9_init_190 : decode cX9_init 190 = .ok (.newarray .int, 2) := by decide +kernel
theorem dX9_init_192 : decode cX9_init 192 = .ok (.putfield 74, 3) := by decide +kernel
theorem dX9_init_195 : decode cX9_init 195 = .ok (.aload_n 0, 1) := by decide +kernel
theorem dX9_init_196 : decode cX9_init 196 = .ok (.invokevirtual 77, 3) := by decide +kernel
theorem dX9_init_199 : decode cX9_init 199 = .ok (.return_, 1) := by decide +kernel
theorem dX9_refused_0 : decode cX9_refused 0 = .ok (.aload_n 0, 1) := by decide +kernel
theorem dX9_refused_1 : decode cX9_refused 1 = .ok (.getfield 23, 3) := by decide +kernel
theorem dX9_refused_4 : decode cX9_refused 4 = .ok (.iload_n 1, 1) := by decide +kernel
theorem dX9_refused_5 : decode cX9_refused 5 = .ok (.ineg, 1) := by decide +kernel
theorem dX9_refused_6 : decode cX9_refused 6 = .ok (.dup2, 1) := by decide +kernel
theorem dX9_refused_7 : decode cX9_refused 7 = .ok (.iaload, 1) := by decide +kernel
theorem dX9_refused_8 : decode cX9_refused 8 = .ok (.iconst 1, 1) := by decide +kernel
theorem dX9_refused_9 : decode cX9_refused 9 = .ok (.iadd, 1) := by decide +kernel
theorem dX9_refused_10 : decode cX9_refused 10 = .ok (.iastore, 1) := by decide +kernel
theorem dX9_refused_11 : decode cX9_refused 11 = .ok (.iload_n 1, 1) := by decide +kernel
theorem dX9_refused_12 : decode cX9_refused 12 = .ok (.ireturn, 1) := by decide +kernel
theorem dX9_in_0 : decode cX9_in 0 = .ok (.lload_n 0, 1) := by decide +kernel
theorem dX9_in_1 : decode cX9_in 1 = .ok (.lload_n 2, 1) := by decide +kernel
theorem dX9_in_2 : decode cX9_in 2 = .ok (.lcmp, 1) := by decide +kernel
theorem dX9_in_3 : decode cX9_in 3 = .ok (.ifCond .lt 14, 3) := by decide +kernel
theorem dX9_in_6 : decode cX9_in 6 = .ok (.lload_n 0, 1) := by decide +kernel
theorem dX9_in_7 : decode cX9_in 7 = .ok (.lload 4, 2) := by decide +kernel
theorem dX9_in_9 : decode cX9_in 9 = .ok (.lcmp, 1) := by decide +kernel
theorem dX9_in_10 : decode cX9_in 10 = .ok (.ifCond .gt 7, 3) := by decide +kernel
theorem dX9_in_13 : decode cX9_in 13 = .ok (.iconst 1, 1) := by decide +kernel
theorem dX9_in_14 : decode cX9_in 14 = .ok (.goto 4, 3) := by decide +kernel
theorem dX9_in_17 : decode cX9_in 17 = .ok (.iconst 0, 1) := by decide +kernel
theorem dX9_in_18 : decode cX9_in 18 = .ok (.ireturn, 1) := by decide +kernel
theorem dX9_half_0 : decode cX9_half 0 = .ok (.aload_n 0, 1) := by decide +kernel
theorem dX9_half_1 : decode cX9_half 1 = .ok (.getfield 7, 3) := by decide +kernel
theorem dX9_half_4 : decode cX9_half 4 = .ok (.iconst 1, 1) := by decide +kernel
theorem dX9_half_5 : decode cX9_half 5 = .ok (.isub, 1) := by decide +kernel
theorem dX9_half_6 : decode cX9_half 6 = .ok (.iconst 2, 1) := by decide +kernel
theorem dX9_half_7 : decode cX9_half 7 = .ok (.idiv, 1) := by decide +kernel
theorem dX9_half_8 : decode cX9_half 8 = .ok (.ireturn, 1) := by decide +kernel
theorem dX9_whole_0 : decode cX9_whole 0 = .ok (.iload_n 1, 1) := by decide +kernel
theorem dX9_whole_1 : decode cX9_whole 1 = .ok (.aload_n 0, 1) := by decide +kernel
theorem dX9_whole_2 : decode cX9_whole 2 = .ok (.getfield 7, 3) := by decide +kernel
theorem dX9_whole_5 : decode cX9_whole 5 = .ok (.irem, 1) := by decide +kernel
theorem dX9_whole_6 : decode cX9_whole 6 = .ok (.aload_n 0, 1) := by decide +kernel
theorem dX9_whole_7 : decode cX9_whole 7 = .ok (.getfield 7, 3) := by decide +kernel
theorem dX9_whole_10 : decode cX9_whole 10 = .ok (.iadd, 1) := by decide +kernel
theorem dX9_whole_11 : decode cX9_whole 11 = .ok (.aload_n 0, 1) := by decide +kernel
theorem dX9_whole_12 : decode cX9_whole 12 = .ok (.getfield 7, 3) := by decide +kernel
theorem dX9_whole_15 : decode cX9_whole 15 = .ok (.irem, 1) := by decide +kernel
theorem dX9_whole_16 : decode cX9_whole 16 = .ok (.ireturn, 1) := by decide +kernel
theorem dX9_empties_0 : decode cX9_empties 0 = .ok (.iconst 0, 1) := by decide +kernel
theorem dX9_empties_1 : decode cX9_empties 1 = .ok (.istore_n 1, 1) := by decide +kernel
theorem dX9_empties_2 : decode cX9_empties 2 = .ok (.iload_n 1, 1) := by decide +kernel
theorem dX9_empties_3 : decode cX9_empties 3 = .ok (.sipush 338, 3) := by decide +kernel
theorem dX9_empties_6 : decode cX9_empties 6 = .ok (.if_icmp .ge 16, 3) := by decide +kernel
theorem dX9_empties_9 : decode cX9_empties 9 = .ok (.aload_n 0, 1) := by decide +kernel
theorem dX9_empties_10 : decode cX9_empties 10 = .ok (.getfield 17, 3) := by decide +kernel
theorem dX9_empties_13 : decode cX9_empties 13 = .ok (.iload_n 1, 1) := by decide +kernel
theorem dX9_empties_14 : decode cX9_empties 14 = .ok (.iconst (-1), 1) := by decide +kernel
theorem dX9_empties_15 : decode cX9_empties 15 = .ok (.iastore, 1) := by decide +kernel
theorem dX9_empties_16 : decode cX9_empties 16 = .ok (.iinc 1 1, 3) := by decide +kernel
theorem dX9_empties_19 : decode cX9_empties 19 = .ok (.goto (-17), 3) := by decide +kernel
theorem dX9_empties_22 : decode cX9_empties 22 = .ok (.return_, 1) := by decide +kernel
theorem dX9_lays_0 : decode cX9_lays 0 = .ok (.iconst 0, 1) := by decide +kernel
theorem dX9_lays_1 : decode cX9_lays 1 = .ok (.istore 5, 2) := by decide +kernel
theorem dX9_lays_3 : decode cX9_lays 3 = .ok (.iload 5, 2) := by decide +kernel
theorem dX9_lays_5 : decode cX9_lays 5 = .ok (.iload 4, 2) := by decide +kernel
theorem dX9_lays_7 : decode cX9_lays 7 = .ok (.if_icmp .ge 21, 3) := by decide +kernel
theorem dX9_lays_10 : decode cX9_lays 10 = .ok (.aload_n 2, 1) := by decide +kernel
theorem dX9_lays_11 : decode cX9_lays 11 = .ok (.iload_n 3, 1) := by decide +kernel
theorem dX9_lays_12 : decode cX9_lays 12 = .ok (.iload 5, 2) := by decide +kernel
theorem dX9_lays_14 : decode cX9_lays 14 = .ok (.iadd, 1) := by decide +kernel
theorem dX9_lays_15 : decode cX9_lays 15 = .ok (.aload_n 0, 1) := by decide +kernel
theorem dX9_lays_16 : decode cX9_lays 16 = .ok (.iload_n 1, 1) := by decide +kernel
theorem dX9_lays_17 : decode cX9_lays 17 = .ok (.iload 5, 2) := by decide +kernel
theorem dX9_lays_19 : decode cX9_lays 19 = .ok (.iadd, 1) := by decide +kernel
theorem dX9_lays_20 : decode cX9_lays 20 = .ok (.iaload, 1) := by decide +kernel
theorem dX9_lays_21 : decode cX9_lays 21 = .ok (.iastore, 1) := by decide +kernel
theorem dX9_lays_22 : decode cX9_lays 22 = .ok (.iinc 5 1, 3) := by decide +kernel
theorem dX9_lays_25 : decode cX9_lays 25 = .ok (.goto (-22), 3) := by decide +kernel
theorem dX9_lays_28 : decode cX9_lays 28 = .ok (.return_, 1) := by decide +kernel
theorem dX9_remembers_0 : decode cX9_remembers 0 = .ok (.aload_n 0, 1) := by decide +kernel
theorem dX9_remembers_1 : decode cX9_remembers 1 = .ok (.getfield 80, 3) := by decide +kernel
theorem dX9_remembers_4 : decode cX9_remembers 4 = .ok (.bipush 12, 2) := by decide +kernel
theorem dX9_remembers_6 : decode cX9_remembers 6 = .ok (.if_icmp .ne 63, 3) := by decide +kernel
theorem dX9_remembers_9 : decode cX9_remembers 9 = .ok (.aload_n 0, 1) := by decide +kernel
theorem dX9_remembers_10 : decode cX9_remembers 10 = .ok (.getfield 26, 3) := by decide +kernel
theorem dX9_remembers_13 : decode cX9_remembers 13 = .ok (.iconst 1, 1) := by decide +kernel
theorem dX9_remembers_14 : decode cX9_remembers 14 = .ok (.aload_n 0, 1) := by decide +kernel
theorem dX9_remembers_15 : decode cX9_remembers 15 = .ok (.getfield 26, 3) := by decide +kernel
theorem dX9_remembers_18 : decode cX9_remembers 18 = .ok (.iconst 0, 1) := by decide +kernel
theorem dX9_remembers_19 : decode cX9_remembers 19 = .ok (.bipush 11, 2) := by decide +kernel
theorem dX9_remembers_21 : decode cX9_remembers 21 = .ok (.invokestatic 83, 3) := by decide +kernel
theorem dX9_remembers_24 : decode cX9_remembers 24 = .ok (.aload_n 0, 1) := by decide +kernel
theorem dX9_remembers_25 : decode cX9_remembers 25 = .ok (.getfield 29, 3) := by decide +kernel
theorem dX9_remembers_28 : decode cX9_remembers 28 = .ok (.bipush 18, 2) := by decide +kernel
theorem dX9_remembers_30 : decode cX9_remembers 30 = .ok (.aload_n 0, 1) := by decide +kernel
theorem dX9_remembers_31 : decode cX9_remembers 31 = .ok (.getfield 29, 3) := by decide +kernel
theorem dX9_remembers_34 : decode cX9_remembers 34 = .ok (.iconst 0, 1) := by decide +kernel
theorem dX9_remembers_35 : decode cX9_remembers 35 = .ok (.sipush 198, 3) := by decide +kernel
theorem dX9_remembers_38 : decode cX9_remembers 38 = .ok (.invokestatic 83, 3) := by decide +kernel
theorem dX9_remembers_41 : decode cX9_remembers 41 = .ok (.aload_n 0, 1) := by decide +kernel
theorem dX9_remembers_42 : decode cX9_remembers 42 = .ok (.getfield 32, 3) := by decide +kernel
theorem dX9_remembers_45 : decode cX9_remembers 45 = .ok (.sipush 338, 3) := by decide +kernel
theorem dX9_remembers_48 : decode cX9_remembers 48 = .ok (.aload_n 0, 1) := by decide +kernel
theorem dX9_remembers_49 : decode cX9_remembers 49 = .ok (.getfield 32, 3) := by decide +kernel
theorem dX9_remembers_52 : decode cX9_remembers 52 = .ok (.iconst 0, 1) := by decide +kernel
theorem dX9_remembers_53 : decode cX9_remembers 53 = .ok (.sipush 3718, 3) := by decide +kernel
theorem dX9_remembers_56 : decode cX9_remembers 56 = .ok (.invokestatic 83, 3) := by decide +kernel
theorem dX9_remembers_59 : decode cX9_remembers 59 = .ok (.aload_n 0, 1) := by decide +kernel
theorem dX9_remembers_60 : decode cX9_remembers 60 = .ok (.dup, 1) := by decide +kernel
theorem dX9_remembers_61 : decode cX9_remembers 61 = .ok (.getfield 80, 3) := by decide +kernel
theorem dX9_remembers_64 : decode cX9_remembers 64 = .ok (.iconst 1, 1) := by decide +kernel
theorem dX9_remembers_65 : decode cX9_remembers 65 = .ok (.isub, 1) := by decide +kernel
theorem dX9_remembers_66 : decode cX9_remembers 66 = .ok (.putfield 80, 3) := by decide +kernel
theorem dX9_remembers_69 : decode cX9_remembers 69 = .ok (.aload_n 0, 1) := by decide +kernel
theorem dX9_remembers_70 : decode cX9_remembers 70 = .ok (.getfield 26, 3) := by decide +kernel
theorem dX9_remembers_73 : decode cX9_remembers 73 = .ok (.aload_n 0, 1) := by decide +kernel
theorem dX9_remembers_74 : decode cX9_remembers 74 = .ok (.getfield 80, 3) := by decide +kernel
theorem dX9_remembers_77 : decode cX9_remembers 77 = .ok (.aload_n 0, 1) := by decide +kernel
theorem dX9_remembers_78 : decode cX9_remembers 78 = .ok (.getfield 87, 3) := by decide +kernel
theorem dX9_remembers_81 : decode cX9_remembers 81 = .ok (.iastore, 1) := by decide +kernel
theorem dX9_remembers_82 : decode cX9_remembers 82 = .ok (.aload_n 0, 1) := by decide +kernel
theorem dX9_remembers_83 : decode cX9_remembers 83 = .ok (.getfield 13, 3) := by decide +kernel
theorem dX9_remembers_86 : decode cX9_remembers 86 = .ok (.iconst 0, 1) := by decide +kernel
theorem dX9_remembers_87 : decode cX9_remembers 87 = .ok (.aload_n 0, 1) := by decide +kernel
theorem dX9_remembers_88 : decode cX9_remembers 88 = .ok (.getfield 29, 3) := by decide +kernel
theorem dX9_remembers_91 : decode cX9_remembers 91 = .ok (.aload_n 0, 1) := by decide +kernel
theorem dX9_remembers_92 : decode cX9_remembers 92 = .ok (.getfield 80, 3) := by decide +kernel
theorem dX9_remembers_95 : decode cX9_remembers 95 = .ok (.iconst 3, 1) := by decide +kernel
theorem dX9_remembers_96 : decode cX9_remembers 96 = .ok (.imul, 1) := by decide +kernel
theorem dX9_remembers_97 : decode cX9_remembers 97 = .ok (.bipush 6, 2) := by decide +kernel
theorem dX9_remembers_99 : decode cX9_remembers 99 = .ok (.imul, 1) := by decide +kernel
theorem dX9_remembers_100 : decode cX9_remembers 100 = .ok (.bipush 18, 2) := by decide +kernel
theorem dX9_remembers_102 : decode cX9_remembers 102 = .ok (.invokestatic 83, 3) := by decide +kernel
theorem dX9_remembers_105 : decode cX9_remembers 105 = .ok (.aload_n 0, 1) := by decide +kernel
theorem dX9_remembers_106 : decode cX9_remembers 106 = .ok (.getfield 17, 3) := by decide +kernel
theorem dX9_remembers_109 : decode cX9_remembers 109 = .ok (.iconst 0, 1) := by decide +kernel
theorem dX9_remembers_110 : decode cX9_remembers 110 = .ok (.aload_n 0, 1) := by decide +kernel
theorem dX9_remembers_111 : decode cX9_remembers 111 = .ok (.getfield 32, 3) := by decide +kernel
theorem dX9_remembers_114 : decode cX9_remembers 114 = .ok (.aload_n 0, 1) := by decide +kernel
theorem dX9_remembers_115 : decode cX9_remembers 115 = .ok (.getfield 80, 3) := by decide +kernel
theorem dX9_remembers_118 : decode cX9_remembers 118 = .ok (.iconst 2, 1) := by decide +kernel
theorem dX9_remembers_119 : decode cX9_remembers 119 = .ok (.imul, 1) := by decide +kernel
theorem dX9_remembers_120 : decode cX9_remembers 120 = .ok (.sipush 169, 3) := by decide +kernel
theorem dX9_remembers_123 : decode cX9_remembers 123 = .ok (.imul, 1) := by decide +kernel
theorem dX9_remembers_124 : decode cX9_remembers 124 = .ok (.sipush 338, 3) := by decide +kernel
theorem dX9_remembers_127 : decode cX9_remembers 127 = .ok (.invokestatic 83, 3) := by decide +kernel
theorem dX9_remembers_130 : decode cX9_remembers 130 = .ok (.aload_n 0, 1) := by decide +kernel
theorem dX9_remembers_131 : decode cX9_remembers 131 = .ok (.dup, 1) := by decide +kernel
theorem dX9_remembers_132 : decode cX9_remembers 132 = .ok (.getfield 80, 3) := by decide +kernel
theorem dX9_remembers_135 : decode cX9_remembers 135 = .ok (.iconst 1, 1) := by decide +kernel
theorem dX9_remembers_136 : decode cX9_remembers 136 = .ok (.iadd, 1) := by decide +kernel
theorem dX9_remembers_137 : decode cX9_remembers 137 = .ok (.putfield 80, 3) := by decide +kernel
theorem dX9_remembers_140 : decode cX9_remembers 140 = .ok (.return_, 1) := by decide +kernel
theorem dX9_undo_0 : decode cX9_undo 0 = .ok (.aload_n 0, 1) := by decide +kernel
theorem dX9_undo_1 : decode cX9_undo 1 = .ok (.getfield 80, 3) := by decide +kernel
theorem dX9_undo_4 : decode cX9_undo 4 = .ok (.ifCond .ne 10, 3) := by decide +kernel
theorem dX9_undo_7 : decode cX9_undo 7 = .ok (.aload_n 0, 1) := by decide +kernel
theorem dX9_undo_8 : decode cX9_undo 8 = .ok (.bipush (-3), 2) := by decide +kernel
theorem dX9_undo_10 : decode cX9_undo 10 = .ok (.invokevirtual 90, 3) := by decide +kernel
theorem dX9_undo_13 : decode cX9_undo 13 = .ok (.ireturn, 1) := by decide +kernel
theorem dX9_undo_14 : decode cX9_undo 14 = .ok (.aload_n 0, 1) := by decide +kernel
theorem dX9_undo_15 : decode cX9_undo 15 = .ok (.dup, 1) := by decide +kernel
theorem dX9_undo_16 : decode cX9_undo 16 = .ok (.getfield 80, 3) := by decide +kernel
theorem dX9_undo_19 : decode cX9_undo 19 = .ok (.iconst 1, 1) := by decide +kernel
theorem dX9_undo_20 : decode cX9_undo 20 = .ok (.isub, 1) := by decide +kernel
theorem dX9_undo_21 : decode cX9_undo 21 = .ok (.putfield 80, 3) := by decide +kernel
theorem dX9_undo_24 : decode cX9_undo 24 = .ok (.aload_n 0, 1) := by decide +kernel
theorem dX9_undo_25 : decode cX9_undo 25 = .ok (.aload_n 0, 1) := by decide +kernel
theorem dX9_undo_26 : decode cX9_undo 26 = .ok (.getfield 26, 3) := by decide +kernel
theorem dX9_undo_29 : decode cX9_undo 29 = .ok (.aload_n 0, 1) := by decide +kernel
theorem dX9_undo_30 : decode cX9_undo 30 = .ok (.getfield 80, 3) := by decide +kernel
theorem dX9_undo_33 : decode cX9_undo 33 = .ok (.iaload, 1) := by decide +kernel
theorem dX9_undo_34 : decode cX9_undo 34 = .ok (.putfield 87, 3) := by decide +kernel
theorem dX9_undo_37 : decode cX9_undo 37 = .ok (.aload_n 0, 1) := by decide +kernel
theorem dX9_undo_38 : decode cX9_undo 38 = .ok (.getfield 29, 3) := by decide +kernel
theorem dX9_undo_41 : decode cX9_undo 41 = .ok (.aload_n 0, 1) := by decide +kernel
theorem dX9_undo_42 : decode cX9_undo 42 = .ok (.getfield 80, 3) := by decide +kernel
theorem dX9_undo_45 : decode cX9_undo 45 = .ok (.iconst 3, 1) := by decide +kernel
theorem dX9_undo_46 : decode cX9_undo 46 = .ok (.imul, 1) := by decide +kernel
theorem dX9_undo_47 : decode cX9_undo 47 = .ok (.bipush 6, 2) := by decide +kernel
theorem dX9_undo_49 : decode cX9_undo 49 = .ok (.imul, 1) := by decide +kernel
theorem dX9_undo_50 : decode cX9_undo 50 = .ok (.aload_n 0, 1) := by decide +kernel
theorem dX9_undo_51 : decode cX9_undo 51 = .ok (.getfield 13, 3) := by decide +kernel
theorem dX9_undo_54 : decode cX9_undo 54 = .ok (.iconst 0, 1) := by decide +kernel
theorem dX9_undo_55 : decode cX9_undo 55 = .ok (.bipush 18, 2) := by decide +kernel
theorem dX9_undo_57 : decode cX9_undo 57 = .ok (.invokestatic 83, 3) := by decide +kernel
theorem dX9_undo_60 : decode cX9_undo 60 = .ok (.aload_n 0, 1) := by decide +kernel
theorem dX9_undo_61 : decode cX9_undo 61 = .ok (.getfield 32, 3) := by decide +kernel
theorem dX9_undo_64 : decode cX9_undo 64 = .ok (.aload_n 0, 1) := by decide +kernel
theorem dX9_undo_65 : decode cX9_undo 65 = .ok (.getfield 80, 3) := by decide +kernel
theorem dX9_undo_68 : decode cX9_undo 68 = .ok (.iconst 2, 1) := by decide +kernel
theorem dX9_undo_69 : decode cX9_undo 69 = .ok (.imul, 1) := by decide +kernel
theorem dX9_undo_70 : decode cX9_undo 70 = .ok (.sipush 169, 3) := by decide +kernel
theorem dX9_undo_73 : decode cX9_undo 73 = .ok (.imul, 1) := by decide +kernel
theorem dX9_undo_74 : decode cX9_undo 74 = .ok (.aload_n 0, 1) := by decide +kernel
theorem dX9_undo_75 : decode cX9_undo 75 = .ok (.getfield 17, 3) := by decide +kernel
theorem dX9_undo_78 : decode cX9_undo 78 = .ok (.iconst 0, 1) := by decide +kernel
theorem dX9_undo_79 : decode cX9_undo 79 = .ok (.sipush 338, 3) := by decide +kernel
theorem dX9_undo_82 : decode cX9_undo 82 = .ok (.invokestatic 83, 3) := by decide +kernel
theorem dX9_undo_85 : decode cX9_undo 85 = .ok (.aload_n 0, 1) := by decide +kernel
theorem dX9_undo_86 : decode cX9_undo 86 = .ok (.getfield 80, 3) := by decide +kernel
theorem dX9_undo_89 : decode cX9_undo 89 = .ok (.ireturn, 1) := by decide +kernel
theorem dX9_isSize_0 : decode cX9_isSize 0 = .ok (.iload_n 0, 1) := by decide +kernel
theorem dX9_isSize_1 : decode cX9_isSize 1 = .ok (.i2l, 1) := by decide +kernel
theorem dX9_isSize_2 : decode cX9_isSize 2 = .ok (.ldc2_w 94, 3) := by decide +kernel
theorem dX9_isSize_5 : decode cX9_isSize 5 = .ok (.ldc2_w 96, 3) := by decide +kernel
theorem dX9_isSize_8 : decode cX9_isSize 8 = .ok (.invokestatic 98, 3) := by decide +kernel
theorem dX9_isSize_11 : decode cX9_isSize 11 = .ok (.ifCond .eq 14, 3) := by decide +kernel
theorem dX9_isSize_14 : decode cX9_isSize 14 = .ok (.iload_n 0, 1) := by decide +kernel
theorem dX9_isSize_15 : decode cX9_isSize 15 = .ok (.iconst 2, 1) := by decide +kernel
theorem dX9_isSize_16 : decode cX9_isSize 16 = .ok (.irem, 1) := by decide +kernel
theorem dX9_isSize_17 : decode cX9_isSize 17 = .ok (.iconst 1, 1) := by decide +kernel
theorem dX9_isSize_18 : decode cX9_isSize 18 = .ok (.if_icmp .ne 7, 3) := by decide +kernel
theorem dX9_isSize_21 : decode cX9_isSize 21 = .ok (.iconst 1, 1) := by decide +kernel
theorem dX9_isSize_22 : decode cX9_isSize 22 = .ok (.goto 4, 3) := by decide +kernel
theorem dX9_isSize_25 : decode cX9_isSize 25 = .ok (.iconst 0, 1) := by decide +kernel
theorem dX9_isSize_26 : decode cX9_isSize 26 = .ok (.ireturn, 1) := by decide +kernel
theorem dX9_becomesSize_0 : decode cX9_becomesSize 0 = .ok (.aload_n 0, 1) := by decide +kernel
theorem dX9_becomesSize_1 : decode cX9_becomesSize 1 = .ok (.iload_n 1, 1) := by decide +kernel
theorem dX9_becomesSize_2 : decode cX9_becomesSize 2 = .ok (.putfield 7, 3) := by decide +kernel
theorem dX9_becomesSize_5 : decode cX9_becomesSize 5 = .ok (.aload_n 0, 1) := by decide +kernel
theorem dX9_becomesSize_6 : decode cX9_becomesSize 6 = .ok (.iconst 0, 1) := by decide +kernel
theorem dX9_becomesSize_7 : decode cX9_becomesSize 7 = .ok (.putfield 87, 3) := by decide +kernel
theorem dX9_becomesSize_10 : decode cX9_becomesSize 10 = .ok (.aload_n 0, 1) := by decide +kernel
theorem dX9_becomesSize_11 : decode cX9_becomesSize 11 = .ok (.iconst 0, 1) := by decide +kernel
theorem dX9_becomesSize_12 : decode cX9_becomesSize 12 = .ok (.putfield 102, 3) := by decide +kernel
theorem dX9_becomesSize_15 : decode cX9_becomesSize 15 = .ok (.aload_n 0, 1) := by decide +kernel
theorem dX9_becomesSize_16 : decode cX9_becomesSize 16 = .ok (.iconst 0, 1) := by decide +kernel
theorem dX9_becomesSize_17 : decode cX9_becomesSize 17 = .ok (.putfield 80, 3) := by decide +kernel
theorem dX9_becomesSize_20 : decode cX9_becomesSize 20 = .ok (.aload_n 0, 1) := by decide +kernel
theorem dX9_becomesSize_21 : decode cX9_becomesSize 21 = .ok (.invokevirtual 77, 3) := by decide +kernel
theorem dX9_becomesSize_24 : decode cX9_becomesSize 24 = .ok (.return_, 1) := by decide +kernel
theorem dX9_size_0 : decode cX9_size 0 = .ok (.iload_n 1, 1) := by decide +kernel
theorem dX9_size_1 : decode cX9_size 1 = .ok (.invokestatic 105, 3) := by decide +kernel
theorem dX9_size_4 : decode cX9_size 4 = .ok (.ifCond .ne 31, 3) := by decide +kernel
theorem dX9_size_7 : decode cX9_size 7 = .ok (.aload_n 0, 1) := by decide +kernel
theorem dX9_size_8 : decode cX9_size 8 = .ok (.iload_n 1, 1) := by decide +kernel
theorem dX9_size_9 : decode cX9_size 9 = .ok (.iconst 3, 1) := by decide +kernel
theorem dX9_size_10 : decode cX9_size 10 = .ok (.if_icmp .ge 8, 3) := by decide +kernel
theorem dX9_size_13 : decode cX9_size 13 = .ok (.bipush (-4), 2) := by decide +kernel
theorem dX9_size_15 : decode cX9_size 15 = .ok (.goto 16, 3) := by decide +kernel
theorem dX9_size_18 : decode cX9_size 18 = .ok (.iload_n 1, 1) := by decide +kernel
