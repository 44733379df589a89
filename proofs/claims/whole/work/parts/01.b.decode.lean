theorem dX0_init_0 : decode cX0_init 0 = .ok (.aload_n 0, 1) := by decide +kernel
theorem dX0_init_1 : decode cX0_init 1 = .ok (.invokespecial 3, 3) := by decide +kernel
theorem dX0_init_4 : decode cX0_init 4 = .ok (.aload_n 0, 1) := by decide +kernel
theorem dX0_init_5 : decode cX0_init 5 = .ok (.bipush 12, 2) := by decide +kernel
theorem dX0_init_7 : decode cX0_init 7 = .ok (.bipush 6, 2) := by decide +kernel
theorem dX0_init_9 : decode cX0_init 9 = .ok (.multianewarray 9 2, 4) := by decide +kernel
theorem dX0_init_13 : decode cX0_init 13 = .ok (.putfield 11, 3) := by decide +kernel
theorem dX0_init_16 : decode cX0_init 16 = .ok (.aload_n 0, 1) := by decide +kernel
theorem dX0_init_17 : decode cX0_init 17 = .ok (.bipush 12, 2) := by decide +kernel
theorem dX0_init_19 : decode cX0_init 19 = .ok (.bipush 6, 2) := by decide +kernel
theorem dX0_init_21 : decode cX0_init 21 = .ok (.multianewarray 9 2, 4) := by decide +kernel
theorem dX0_init_25 : decode cX0_init 25 = .ok (.putfield 16, 3) := by decide +kernel
theorem dX0_init_28 : decode cX0_init 28 = .ok (.aload_n 0, 1) := by decide +kernel
theorem dX0_init_29 : decode cX0_init 29 = .ok (.bipush 12, 2) := by decide +kernel
theorem dX0_init_31 : decode cX0_init 31 = .ok (.bipush 6, 2) := by decide +kernel
theorem dX0_init_33 : decode cX0_init 33 = .ok (.multianewarray 9 2, 4) := by decide +kernel
theorem dX0_init_37 : decode cX0_init 37 = .ok (.putfield 19, 3) := by decide +kernel
theorem dX0_init_40 : decode cX0_init 40 = .ok (.aload_n 0, 1) := by decide +kernel
theorem dX0_init_41 : decode cX0_init 41 = .ok (.bipush 12, 2) := by decide +kernel
theorem dX0_init_43 : decode cX0_init 43 = .ok (.newarray .int, 2) := by decide +kernel
theorem dX0_init_45 : decode cX0_init 45 = .ok (.putfield 22, 3) := by decide +kernel
theorem dX0_init_48 : decode cX0_init 48 = .ok (.aload_n 0, 1) := by decide +kernel
theorem dX0_init_49 : decode cX0_init 49 = .ok (.bipush 12, 2) := by decide +kernel
theorem dX0_init_51 : decode cX0_init 51 = .ok (.newarray .int, 2) := by decide +kernel
theorem dX0_init_53 : decode cX0_init 53 = .ok (.putfield 26, 3) := by decide +kernel
theorem dX0_init_56 : decode cX0_init 56 = .ok (.aload_n 0, 1) := by decide +kernel
theorem dX0_init_57 : decode cX0_init 57 = .ok (.iconst 0, 1) := by decide +kernel
theorem dX0_init_58 : decode cX0_init 58 = .ok (.putfield 29, 3) := by decide +kernel
theorem dX0_init_61 : decode cX0_init 61 = .ok (.aload_n 0, 1) := by decide +kernel
theorem dX0_init_62 : decode cX0_init 62 = .ok (.iconst 0, 1) := by decide +kernel
theorem dX0_init_63 : decode cX0_init 63 = .ok (.putfield 33, 3) := by decide +kernel
theorem dX0_init_66 : decode cX0_init 66 = .ok (.return_, 1) := by decide +kernel
theorem dX0_forget_0 : decode cX0_forget 0 = .ok (.aload_n 0, 1) := by decide +kernel
theorem dX0_forget_1 : decode cX0_forget 1 = .ok (.iconst 0, 1) := by decide +kernel
theorem dX0_forget_2 : decode cX0_forget 2 = .ok (.putfield 33, 3) := by decide +kernel
theorem dX0_forget_5 : decode cX0_forget 5 = .ok (.return_, 1) := by decide +kernel
theorem dX0_keep_0 : decode cX0_keep 0 = .ok (.aload_n 0, 1) := by decide +kernel
theorem dX0_keep_1 : decode cX0_keep 1 = .ok (.aload_n 1, 1) := by decide +kernel
theorem dX0_keep_2 : decode cX0_keep 2 = .ok (.iconst (-1), 1) := by decide +kernel
theorem dX0_keep_3 : decode cX0_keep 3 = .ok (.iconst 0, 1) := by decide +kernel
theorem dX0_keep_4 : decode cX0_keep 4 = .ok (.invokevirtual 38, 3) := by decide +kernel
theorem dX0_keep_7 : decode cX0_keep 7 = .ok (.return_, 1) := by decide +kernel
theorem dX0_keepCell_0 : decode cX0_keepCell 0 = .ok (.aload_n 1, 1) := by decide +kernel
theorem dX0_keepCell_1 : decode cX0_keepCell 1 = .ok (.getfield 42, 3) := by decide +kernel
theorem dX0_keepCell_4 : decode cX0_keepCell 4 = .ok (.iconst 0, 1) := by decide +kernel
theorem dX0_keepCell_5 : decode cX0_keepCell 5 = .ok (.aload_n 0, 1) := by decide +kernel
theorem dX0_keepCell_6 : decode cX0_keepCell 6 = .ok (.getfield 11, 3) := by decide +kernel
theorem dX0_keepCell_9 : decode cX0_keepCell 9 = .ok (.aload_n 0, 1) := by decide +kernel
theorem dX0_keepCell_10 : decode cX0_keepCell 10 = .ok (.getfield 29, 3) := by decide +kernel
theorem dX0_keepCell_13 : decode cX0_keepCell 13 = .ok (.aaload, 1) := by decide +kernel
theorem dX0_keepCell_14 : decode cX0_keepCell 14 = .ok (.iconst 0, 1) := by decide +kernel
theorem dX0_keepCell_15 : decode cX0_keepCell 15 = .ok (.bipush 6, 2) := by decide +kernel
theorem dX0_keepCell_17 : decode cX0_keepCell 17 = .ok (.invokestatic 46, 3) := by decide +kernel
theorem dX0_keepCell_20 : decode cX0_keepCell 20 = .ok (.aload_n 1, 1) := by decide +kernel
theorem dX0_keepCell_21 : decode cX0_keepCell 21 = .ok (.getfield 52, 3) := by decide +kernel
theorem dX0_keepCell_24 : decode cX0_keepCell 24 = .ok (.iconst 0, 1) := by decide +kernel
theorem dX0_keepCell_25 : decode cX0_keepCell 25 = .ok (.aload_n 0, 1) := by decide +kernel
theorem dX0_keepCell_26 : decode cX0_keepCell 26 = .ok (.getfield 16, 3) := by decide +kernel
theorem dX0_keepCell_29 : decode cX0_keepCell 29 = .ok (.aload_n 0, 1) := by decide +kernel
theorem dX0_keepCell_30 : decode cX0_keepCell 30 = .ok (.getfield 29, 3) := by decide +kernel
theorem dX0_keepCell_33 : decode cX0_keepCell 33 = .ok (.aaload, 1) := by decide +kernel
theorem dX0_keepCell_34 : decode cX0_keepCell 34 = .ok (.iconst 0, 1) := by decide +kernel
theorem dX0_keepCell_35 : decode cX0_keepCell 35 = .ok (.bipush 6, 2) := by decide +kernel
theorem dX0_keepCell_37 : decode cX0_keepCell 37 = .ok (.invokestatic 46, 3) := by decide +kernel
theorem dX0_keepCell_40 : decode cX0_keepCell 40 = .ok (.aload_n 1, 1) := by decide +kernel
theorem dX0_keepCell_41 : decode cX0_keepCell 41 = .ok (.getfield 54, 3) := by decide +kernel
theorem dX0_keepCell_44 : decode cX0_keepCell 44 = .ok (.iconst 0, 1) := by decide +kernel
theorem dX0_keepCell_45 : decode cX0_keepCell 45 = .ok (.aload_n 0, 1) := by decide +kernel
theorem dX0_keepCell_46 : decode cX0_keepCell 46 = .ok (.getfield 19, 3) := by decide +kernel
theorem dX0_keepCell_49 : decode cX0_keepCell 49 = .ok (.aload_n 0, 1) := by decide +kernel
theorem dX0_keepCell_50 : decode cX0_keepCell 50 = .ok (.getfield 29, 3) := by decide +kernel
theorem dX0_keepCell_53 : decode cX0_keepCell 53 = .ok (.aaload, 1) := by decide +kernel
theorem dX0_keepCell_54 : decode cX0_keepCell 54 = .ok (.iconst 0, 1) := by decide +kernel
theorem dX0_keepCell_55 : decode cX0_keepCell 55 = .ok (.bipush 6, 2) := by decide +kernel
theorem dX0_keepCell_57 : decode cX0_keepCell 57 = .ok (.invokestatic 46, 3) := by decide +kernel
theorem dX0_keepCell_60 : decode cX0_keepCell 60 = .ok (.aload_n 0, 1) := by decide +kernel
theorem dX0_keepCell_61 : decode cX0_keepCell 61 = .ok (.getfield 22, 3) := by decide +kernel
theorem dX0_keepCell_64 : decode cX0_keepCell 64 = .ok (.aload_n 0, 1) := by decide +kernel
theorem dX0_keepCell_65 : decode cX0_keepCell 65 = .ok (.getfield 29, 3) := by decide +kernel
theorem dX0_keepCell_68 : decode cX0_keepCell 68 = .ok (.iload_n 2, 1) := by decide +kernel
theorem dX0_keepCell_69 : decode cX0_keepCell 69 = .ok (.iastore, 1) := by decide +kernel
theorem dX0_keepCell_70 : decode cX0_keepCell 70 = .ok (.aload_n 0, 1) := by decide +kernel
theorem dX0_keepCell_71 : decode cX0_keepCell 71 = .ok (.getfield 26, 3) := by decide +kernel
theorem dX0_keepCell_74 : decode cX0_keepCell 74 = .ok (.aload_n 0, 1) := by decide +kernel
theorem dX0_keepCell_75 : decode cX0_keepCell 75 = .ok (.getfield 29, 3) := by decide +kernel
theorem dX0_keepCell_78 : decode cX0_keepCell 78 = .ok (.iload_n 3, 1) := by decide +kernel
theorem dX0_keepCell_79 : decode cX0_keepCell 79 = .ok (.iastore, 1) := by decide +kernel
theorem dX0_keepCell_80 : decode cX0_keepCell 80 = .ok (.aload_n 0, 1) := by decide +kernel
theorem dX0_keepCell_81 : decode cX0_keepCell 81 = .ok (.aload_n 0, 1) := by decide +kernel
theorem dX0_keepCell_82 : decode cX0_keepCell 82 = .ok (.getfield 29, 3) := by decide +kernel
theorem dX0_keepCell_85 : decode cX0_keepCell 85 = .ok (.iconst 1, 1) := by decide +kernel
theorem dX0_keepCell_86 : decode cX0_keepCell 86 = .ok (.iadd, 1) := by decide +kernel
theorem dX0_keepCell_87 : decode cX0_keepCell 87 = .ok (.bipush 12, 2) := by decide +kernel
theorem dX0_keepCell_89 : decode cX0_keepCell 89 = .ok (.irem, 1) := by decide +kernel
theorem dX0_keepCell_90 : decode cX0_keepCell 90 = .ok (.putfield 29, 3) := by decide +kernel
theorem dX0_keepCell_93 : decode cX0_keepCell 93 = .ok (.aload_n 0, 1) := by decide +kernel
theorem dX0_keepCell_94 : decode cX0_keepCell 94 = .ok (.aload_n 0, 1) := by decide +kernel
theorem dX0_keepCell_95 : decode cX0_keepCell 95 = .ok (.getfield 33, 3) := by decide +kernel
theorem dX0_keepCell_98 : decode cX0_keepCell 98 = .ok (.iconst 1, 1) := by decide +kernel
theorem dX0_keepCell_99 : decode cX0_keepCell 99 = .ok (.iadd, 1) := by decide +kernel
theorem dX0_keepCell_100 : decode cX0_keepCell 100 = .ok (.bipush 12, 2) := by decide +kernel
theorem dX0_keepCell_102 : decode cX0_keepCell 102 = .ok (.invokestatic 56, 3) := by decide +kernel
theorem dX0_keepCell_105 : decode cX0_keepCell 105 = .ok (.putfield 33, 3) := by decide +kernel
theorem dX0_keepCell_108 : decode cX0_keepCell 108 = .ok (.return_, 1) := by decide +kernel
theorem dX0_goBack_0 : decode cX0_goBack 0 = .ok (.aload_n 0, 1) := by decide +kernel
theorem dX0_goBack_1 : decode cX0_goBack 1 = .ok (.aload_n 0, 1) := by decide +kernel
theorem dX0_goBack_2 : decode cX0_goBack 2 = .ok (.getfield 29, 3) := by decide +kernel
theorem dX0_goBack_5 : decode cX0_goBack 5 = .ok (.bipush 12, 2) := by decide +kernel
theorem dX0_goBack_7 : decode cX0_goBack 7 = .ok (.iadd, 1) := by decide +kernel
theorem dX0_goBack_8 : decode cX0_goBack 8 = .ok (.iconst 1, 1) := by decide +kernel
theorem dX0_goBack_9 : decode cX0_goBack 9 = .ok (.isub, 1) := by decide +kernel
theorem dX0_goBack_10 : decode cX0_goBack 10 = .ok (.bipush 12, 2) := by decide +kernel
theorem dX0_goBack_12 : decode cX0_goBack 12 = .ok (.irem, 1) := by decide +kernel
theorem dX0_goBack_13 : decode cX0_goBack 13 = .ok (.putfield 29, 3) := by decide +kernel
theorem dX0_goBack_16 : decode cX0_goBack 16 = .ok (.aload_n 0, 1) := by decide +kernel
theorem dX0_goBack_17 : decode cX0_goBack 17 = .ok (.dup, 1) := by decide +kernel
theorem dX0_goBack_18 : decode cX0_goBack 18 = .ok (.getfield 33, 3) := by decide +kernel
theorem dX0_goBack_21 : decode cX0_goBack 21 = .ok (.iconst 1, 1) := by decide +kernel
theorem dX0_goBack_22 : decode cX0_goBack 22 = .ok (.isub, 1) := by decide +kernel
theorem dX0_goBack_23 : decode cX0_goBack 23 = .ok (.putfield 33, 3) := by decide +kernel
theorem dX0_goBack_26 : decode cX0_goBack 26 = .ok (.aload_n 0, 1) := by decide +kernel
theorem dX0_goBack_27 : decode cX0_goBack 27 = .ok (.getfield 11, 3) := by decide +kernel
theorem dX0_goBack_30 : decode cX0_goBack 30 = .ok (.aload_n 0, 1) := by decide +kernel
theorem dX0_goBack_31 : decode cX0_goBack 31 = .ok (.getfield 29, 3) := by decide +kernel
theorem dX0_goBack_34 : decode cX0_goBack 34 = .ok (.aaload, 1) := by decide +kernel
theorem dX0_goBack_35 : decode cX0_goBack 35 = .ok (.iconst 0, 1) := by decide +kernel
theorem dX0_goBack_36 : decode cX0_goBack 36 = .ok (.aload_n 1, 1) := by decide +kernel
theorem dX0_goBack_37 : decode cX0_goBack 37 = .ok (.getfield 62, 3) := by decide +kernel
theorem dX0_goBack_40 : decode cX0_goBack 40 = .ok (.getfield 42, 3) := by decide +kernel
theorem dX0_goBack_43 : decode cX0_goBack 43 = .ok (.iconst 0, 1) := by decide +kernel
theorem dX0_goBack_44 : decode cX0_goBack 44 = .ok (.bipush 6, 2) := by decide +kernel
theorem dX0_goBack_46 : decode cX0_goBack 46 = .ok (.invokestatic 46, 3) := by decide +kernel
theorem dX0_goBack_49 : decode cX0_goBack 49 = .ok (.aload_n 0, 1) := by decide +kernel
theorem dX0_goBack_50 : decode cX0_goBack 50 = .ok (.getfield 16, 3) := by decide +kernel
theorem dX0_goBack_53 : decode cX0_goBack 53 = .ok (.aload_n 0, 1) := by decide +kernel
theorem dX0_goBack_54 : decode cX0_goBack 54 = .ok (.getfield 29, 3) := by decide +kernel
theorem dX0_goBack_57 : decode cX0_goBack 57 = .ok (.aaload, 1) := by decide +kernel
theorem dX0_goBack_58 : decode cX0_goBack 58 = .ok (.iconst 0, 1) := by decide +kernel
theorem dX0_goBack_59 : decode cX0_goBack 59 = .ok (.aload_n 1, 1) := by decide +kernel
theorem dX0_goBack_60 : decode cX0_goBack 60 = .ok (.getfield 62, 3) := by decide +kernel
theorem dX0_goBack_63 : decode cX0_goBack 63 = .ok (.getfield 52, 3) := by decide +kernel
theorem dX0_goBack_66 : decode cX0_goBack 66 = .ok (.iconst 0, 1) := by decide +kernel
theorem dX0_goBack_67 : decode cX0_goBack 67 = .ok (.bipush 6, 2) := by decide +kernel
theorem dX0_goBack_69 : decode cX0_goBack 69 = .ok (.invokestatic 46, 3) := by decide +kernel
theorem dX0_goBack_72 : decode cX0_goBack 72 = .ok (.aload_n 0, 1) := by decide +kernel
theorem dX0_goBack_73 : decode cX0_goBack 73 = .ok (.getfield 19, 3) := by decide +kernel
theorem dX0_goBack_76 : decode cX0_goBack 76 = .ok (.aload_n 0, 1) := by decide +kernel
theorem dX0_goBack_77 : decode cX0_goBack 77 = .ok (.getfield 29, 3) := by decide +kernel
theorem dX0_goBack_80 : decode cX0_goBack 80 = .ok (.aaload, 1) := by decide +kernel
theorem dX0_goBack_81 : decode cX0_goBack 81 = .ok (.iconst 0, 1) := by decide +kernel
theorem dX0_goBack_82 : decode cX0_goBack 82 = .ok (.aload_n 1, 1) := by decide +kernel
theorem dX0_goBack_83 : decode cX0_goBack 83 = .ok (.getfield 62, 3) := by decide +kernel
theorem dX0_goBack_86 : decode cX0_goBack 86 = .ok (.getfield 54, 3) := by decide +kernel
theorem dX0_goBack_89 : decode cX0_goBack 89 = .ok (.iconst 0, 1) := by decide +kernel
theorem dX0_goBack_90 : decode cX0_goBack 90 = .ok (.bipush 6, 2) := by decide +kernel
theorem dX0_goBack_92 : decode cX0_goBack 92 = .ok (.invokestatic 46, 3) := by decide +kernel
theorem dX0_goBack_95 : decode cX0_goBack 95 = .ok (.aload_n 0, 1) := by decide +kernel
theorem dX0_goBack_96 : decode cX0_goBack 96 = .ok (.getfield 22, 3) := by decide +kernel
theorem dX0_goBack_99 : decode cX0_goBack 99 = .ok (.aload_n 0, 1) := by decide +kernel
theorem dX0_goBack_100 : decode cX0_goBack 100 = .ok (.getfield 29, 3) := by decide +kernel
theorem dX0_goBack_103 : decode cX0_goBack 103 = .ok (.iaload, 1) := by decide +kernel
theorem dX0_goBack_104 : decode cX0_goBack 104 = .ok (.iconst (-1), 1) := by decide +kernel
theorem dX0_goBack_105 : decode cX0_goBack 105 = .ok (.if_icmp .eq 29, 3) := by decide +kernel
theorem dX0_goBack_108 : decode cX0_goBack 108 = .ok (.aload_n 1, 1) := by decide +kernel
theorem dX0_goBack_109 : decode cX0_goBack 109 = .ok (.getfield 68, 3) := by decide +kernel
theorem dX0_goBack_112 : decode cX0_goBack 112 = .ok (.getfield 72, 3) := by decide +kernel
theorem dX0_goBack_115 : decode cX0_goBack 115 = .ok (.aload_n 0, 1) := by decide +kernel
theorem dX0_goBack_116 : decode cX0_goBack 116 = .ok (.getfield 22, 3) := by decide +kernel
theorem dX0_goBack_119 : decode cX0_goBack 119 = .ok (.aload_n 0, 1) := by decide +kernel
theorem dX0_goBack_120 : decode cX0_goBack 120 = .ok (.getfield 29, 3) := by decide +kernel
theorem dX0_goBack_123 : decode cX0_goBack 123 = .ok (.iaload, 1) := by decide +kernel
theorem dX0_goBack_124 : decode cX0_goBack 124 = .ok (.aload_n 0, 1) := by decide +kernel
theorem dX0_goBack_125 : decode cX0_goBack 125 = .ok (.getfield 26, 3) := by decide +kernel
theorem dX0_goBack_128 : decode cX0_goBack 128 = .ok (.aload_n 0, 1) := by decide +kernel
theorem dX0_goBack_129 : decode cX0_goBack 129 = .ok (.getfield 29, 3) := by decide +kernel
theorem dX0_goBack_132 : decode cX0_goBack 132 = .ok (.iaload, 1) := by decide +kernel
theorem dX0_goBack_133 : decode cX0_goBack 133 = .ok (.iastore, 1) := by decide +kernel
theorem dX0_goBack_134 : decode cX0_goBack 134 = .ok (.return_, 1) := by decide +kernel
theorem dX1_init_0 : decode cX1_init 0 = .ok (.aload_n 0, 1) := by decide +kernel
theorem dX1_init_1 : decode cX1_init 1 = .ok (.invokespecial 3, 3) := by decide +kernel
theorem dX1_init_4 : decode cX1_init 4 = .ok (.aload_n 0, 1) := by decide +kernel
theorem dX1_init_5 : decode cX1_init 5 = .ok (.bipush 72, 2) := by decide +kernel
theorem dX1_init_7 : decode cX1_init 7 = .ok (.newarray .int, 2) := by decide +kernel
theorem dX1_init_9 : decode cX1_init 9 = .ok (.putfield 9, 3) := by decide +kernel
theorem dX1_init_12 : decode cX1_init 12 = .ok (.aload_n 0, 1) := by decide +kernel
theorem dX1_init_13 : decode cX1_init 13 = .ok (.iconst 0, 1) := by decide +kernel
theorem dX1_init_14 : decode cX1_init 14 = .ok (.putfield 15, 3) := by decide +kernel
theorem dX1_init_17 : decode cX1_init 17 = .ok (.return_, 1) := by decide +kernel
theorem dX1_come_0 : decode cX1_come 0 = .ok (.aload_n 0, 1) := by decide +kernel
theorem dX1_come_1 : decode cX1_come 1 = .ok (.getfield 15, 3) := by decide +kernel
theorem dX1_come_4 : decode cX1_come 4 = .ok (.bipush 72, 2) := by decide +kernel
theorem dX1_come_6 : decode cX1_come 6 = .ok (.if_icmp .ge 23, 3) := by decide +kernel
theorem dX1_come_9 : decode cX1_come 9 = .ok (.aload_n 0, 1) := by decide +kernel
theorem dX1_come_10 : decode cX1_come 10 = .ok (.getfield 9, 3) := by decide +kernel
theorem dX1_come_13 : decode cX1_come 13 = .ok (.aload_n 0, 1) := by decide +kernel
theorem dX1_come_14 : decode cX1_come 14 = .ok (.getfield 15, 3) := by decide +kernel
theorem dX1_come_17 : decode cX1_come 17 = .ok (.iload_n 1, 1) := by decide +kernel
theorem dX1_come_18 : decode cX1_come 18 = .ok (.iastore, 1) := by decide +kernel
theorem dX1_come_19 : decode cX1_come 19 = .ok (.aload_n 0, 1) := by decide +kernel
theorem dX1_come_20 : decode cX1_come 20 = .ok (.dup, 1) := by decide +kernel
theorem dX1_come_21 : decode cX1_come 21 = .ok (.getfield 15, 3) := by decide +kernel
theorem dX1_come_24 : decode cX1_come 24 = .ok (.iconst 1, 1) := by decide +kernel
theorem dX1_come_25 : decode cX1_come 25 = .ok (.iadd, 1) := by decide +kernel
theorem dX1_come_26 : decode cX1_come 26 = .ok (.putfield 15, 3) := by decide +kernel
theorem dX1_come_29 : decode cX1_come 29 = .ok (.aload_n 0, 1) := by decide +kernel
theorem dX1_come_30 : decode cX1_come 30 = .ok (.getfield 15, 3) := by decide +kernel
theorem dX1_come_33 : decode cX1_come 33 = .ok (.ireturn, 1) := by decide +kernel
theorem dX1_lengthOf_0 : decode cX1_lengthOf 0 = .ok (.iload_n 0, 1) := by decide +kernel
theorem dX1_lengthOf_1 : decode cX1_lengthOf 1 = .ok (.lookupswitch 50 #[(97, 48), (110, 43), (112, 45), (116, 48)], 43) := by decide +kernel
theorem dX1_lengthOf_44 : decode cX1_lengthOf 44 = .ok (.iconst 4, 1) := by decide +kernel
theorem dX1_lengthOf_45 : decode cX1_lengthOf 45 = .ok (.ireturn, 1) := by decide +kernel
theorem dX1_lengthOf_46 : decode cX1_lengthOf 46 = .ok (.bipush 6, 2) := by decide +kernel
theorem dX1_lengthOf_48 : decode cX1_lengthOf 48 = .ok (.ireturn, 1) := by decide +kernel
theorem dX1_lengthOf_49 : decode cX1_lengthOf 49 = .ok (.iconst 5, 1) := by decide +kernel
theorem dX1_lengthOf_50 : decode cX1_lengthOf 50 = .ok (.ireturn, 1) := by decide +kernel
theorem dX1_lengthOf_51 : decode cX1_lengthOf 51 = .ok (.iconst 0, 1) := by decide +kernel
theorem dX1_lengthOf_52 : decode cX1_lengthOf 52 = .ok (.ireturn, 1) := by decide +kernel
theorem dX1_wrongPlace_0 : decode cX1_wrongPlace 0 = .ok (.iconst 0, 1) := by decide +kernel
theorem dX1_wrongPlace_1 : decode cX1_wrongPlace 1 = .ok (.istore_n 1, 1) := by decide +kernel
theorem dX1_wrongPlace_2 : decode cX1_wrongPlace 2 = .ok (.iconst 0, 1) := by decide +kernel
theorem dX1_wrongPlace_3 : decode cX1_wrongPlace 3 = .ok (.istore_n 2, 1) := by decide +kernel
theorem dX1_wrongPlace_4 : decode cX1_wrongPlace 4 = .ok (.iload_n 2, 1) := by decide +kernel
theorem dX1_wrongPlace_5 : decode cX1_wrongPlace 5 = .ok (.aload_n 0, 1) := by decide +kernel
theorem dX1_wrongPlace_6 : decode cX1_wrongPlace 6 = .ok (.getfield 15, 3) := by decide +kernel
theorem dX1_wrongPlace_9 : decode cX1_wrongPlace 9 = .ok (.if_icmp .ge 62, 3) := by decide +kernel
theorem dX1_wrongPlace_12 : decode cX1_wrongPlace 12 = .ok (.aload_n 0, 1) := by decide +kernel
theorem dX1_wrongPlace_13 : decode cX1_wrongPlace 13 = .ok (.getfield 9, 3) := by decide +kernel
theorem dX1_wrongPlace_16 : decode cX1_wrongPlace 16 = .ok (.iload_n 2, 1) := by decide +kernel
theorem dX1_wrongPlace_17 : decode cX1_wrongPlace 17 = .ok (.iaload, 1) := by decide +kernel
theorem dX1_wrongPlace_18 : decode cX1_wrongPlace 18 = .ok (.istore_n 3, 1) := by decide +kernel
theorem dX1_wrongPlace_19 : decode cX1_wrongPlace 19 = .ok (.iload_n 1, 1) := by decide +kernel
theorem dX1_wrongPlace_20 : decode cX1_wrongPlace 20 = .ok (.ifCond .ne 14, 3) := by decide +kernel
theorem dX1_wrongPlace_23 : decode cX1_wrongPlace 23 = .ok (.iload_n 3, 1) := by decide +kernel
theorem dX1_wrongPlace_24 : decode cX1_wrongPlace 24 = .ok (.invokestatic 19, 3) := by decide +kernel
theorem dX1_wrongPlace_27 : decode cX1_wrongPlace 27 = .ok (.istore_n 1, 1) := by decide +kernel
theorem dX1_wrongPlace_28 : decode cX1_wrongPlace 28 = .ok (.iload_n 1, 1) := by decide +kernel
theorem dX1_wrongPlace_29 : decode cX1_wrongPlace 29 = .ok (.ifCond .ne 33, 3) := by decide +kernel
theorem dX1_wrongPlace_32 : decode cX1_wrongPlace 32 = .ok (.iload_n 2, 1) := by decide +kernel
theorem dX1_wrongPlace_33 : decode cX1_wrongPlace 33 = .ok (.ireturn, 1) := by decide +kernel
theorem dX1_wrongPlace_34 : decode cX1_wrongPlace 34 = .ok (.iload_n 1, 1) := by decide +kernel
theorem dX1_wrongPlace_35 : decode cX1_wrongPlace 35 = .ok (.iconst 1, 1) := by decide +kernel
theorem dX1_wrongPlace_36 : decode cX1_wrongPlace 36 = .ok (.if_icmp .ne 12, 3) := by decide +kernel
theorem dX1_wrongPlace_39 : decode cX1_wrongPlace 39 = .ok (.iload_n 3, 1) := by decide +kernel
theorem dX1_wrongPlace_40 : decode cX1_wrongPlace 40 = .ok (.bipush 59, 2) := by decide +kernel
theorem dX1_wrongPlace_42 : decode cX1_wrongPlace 42 = .ok (.if_icmp .eq 20, 3) := by decide +kernel
theorem dX1_wrongPlace_45 : decode cX1_wrongPlace 45 = .ok (.goto 15, 3) := by decide +kernel
theorem dX1_wrongPlace_48 : decode cX1_wrongPlace 48 = .ok (.iload_n 3, 1) := by decide +kernel
theorem dX1_wrongPlace_49 : decode cX1_wrongPlace 49 = .ok (.bipush 48, 2) := by decide +kernel
theorem dX1_wrongPlace_51 : decode cX1_wrongPlace 51 = .ok (.if_icmp .lt 9, 3) := by decide +kernel
theorem dX1_wrongPlace_54 : decode cX1_wrongPlace 54 = .ok (.iload_n 3, 1) := by decide +kernel
theorem dX1_wrongPlace_55 : decode cX1_wrongPlace 55 = .ok (.bipush 57, 2) := by decide +kernel
theorem dX1_wrongPlace_57 : decode cX1_wrongPlace 57 = .ok (.if_icmp .le 5, 3) := by decide +kernel
theorem dX1_wrongPlace_60 : decode cX1_wrongPlace 60 = .ok (.iload_n 2, 1) := by decide +kernel
theorem dX1_wrongPlace_61 : decode cX1_wrongPlace 61 = .ok (.ireturn, 1) := by decide +kernel
theorem dX1_wrongPlace_62 : decode cX1_wrongPlace 62 = .ok (.iinc 1 (-1), 3) := by decide +kernel
theorem dX1_wrongPlace_65 : decode cX1_wrongPlace 65 = .ok (.iinc 2 1, 3) := by decide +kernel
theorem dX1_wrongPlace_68 : decode cX1_wrongPlace 68 = .ok (.goto (-64), 3) := by decide +kernel
theorem dX1_wrongPlace_71 : decode cX1_wrongPlace 71 = .ok (.iload_n 1, 1) := by decide +kernel
theorem dX1_wrongPlace_72 : decode cX1_wrongPlace 72 = .ok (.ifCond .ne 10, 3) := by decide +kernel
theorem dX1_wrongPlace_75 : decode cX1_wrongPlace 75 = .ok (.aload_n 0, 1) := by decide +kernel
theorem dX1_wrongPlace_76 : decode cX1_wrongPlace 76 = .ok (.getfield 15, 3) := by decide +kernel
theorem dX1_wrongPlace_79 : decode cX1_wrongPlace 79 = .ok (.ifCond .ne 10, 3) := by decide +kernel
theorem dX1_wrongPlace_82 : decode cX1_wrongPlace 82 = .ok (.aload_n 0, 1) := by decide +kernel
theorem dX1_wrongPlace_83 : decode cX1_wrongPlace 83 = .ok (.getfield 15, 3) := by decide +kernel
theorem dX1_wrongPlace_86 : decode cX1_wrongPlace 86 = .ok (.goto 4, 3) := by decide +kernel
theorem dX1_wrongPlace_89 : decode cX1_wrongPlace 89 = .ok (.iconst (-1), 1) := by decide +kernel
theorem dX1_wrongPlace_90 : decode cX1_wrongPlace 90 = .ok (.ireturn, 1) := by decide +kernel
theorem dX1_layOn_0 : decode cX1_layOn 0 = .ok (.iconst 0, 1) := by decide +kernel
theorem dX1_layOn_1 : decode cX1_layOn 1 = .ok (.istore_n 2, 1) := by decide +kernel
theorem dX1_layOn_2 : decode cX1_layOn 2 = .ok (.iconst 0, 1) := by decide +kernel
theorem dX1_layOn_3 : decode cX1_layOn 3 = .ok (.istore_n 3, 1) := by decide +kernel
theorem dX1_layOn_4 : decode cX1_layOn 4 = .ok (.iload_n 3, 1) := by decide +kernel
theorem dX1_layOn_5 : decode cX1_layOn 5 = .ok (.aload_n 0, 1) := by decide +kernel
theorem dX1_layOn_6 : decode cX1_layOn 6 = .ok (.getfield 15, 3) := by decide +kernel
theorem dX1_layOn_9 : decode cX1_layOn 9 = .ok (.if_icmp .ge 40, 3) := by decide +kernel
theorem dX1_layOn_12 : decode cX1_layOn 12 = .ok (.aload_n 0, 1) := by decide +kernel
theorem dX1_layOn_13 : decode cX1_layOn 13 = .ok (.aload_n 1, 1) := by decide +kernel
theorem dX1_layOn_14 : decode cX1_layOn 14 = .ok (.iload_n 3, 1) := by decide +kernel
theorem dX1_layOn_15 : decode cX1_layOn 15 = .ok (.invokevirtual 23, 3) := by decide +kernel
theorem dX1_layOn_18 : decode cX1_layOn 18 = .ok (.ifCond .ne 9, 3) := by decide +kernel
theorem dX1_layOn_21 : decode cX1_layOn 21 = .ok (.sipush (-2000), 3) := by decide +kernel
theorem dX1_layOn_24 : decode cX1_layOn 24 = .ok (.iload_n 3, 1) := by decide +kernel
theorem dX1_layOn_25 : decode cX1_layOn 25 = .ok (.isub, 1) := by decide +kernel
theorem dX1_layOn_26 : decode cX1_layOn 26 = .ok (.ireturn, 1) := by decide +kernel
theorem dX1_layOn_27 : decode cX1_layOn 27 = .ok (.iinc 2 1, 3) := by decide +kernel
theorem dX1_layOn_30 : decode cX1_layOn 30 = .ok (.iload_n 3, 1) := by decide +kernel
theorem dX1_layOn_31 : decode cX1_layOn 31 = .ok (.iconst 1, 1) := by decide +kernel
theorem dX1_layOn_32 : decode cX1_layOn 32 = .ok (.aload_n 0, 1) := by decide +kernel
theorem dX1_layOn_33 : decode cX1_layOn 33 = .ok (.getfield 9, 3) := by decide +kernel
theorem dX1_layOn_36 : decode cX1_layOn 36 = .ok (.iload_n 3, 1) := by decide +kernel
theorem dX1_layOn_37 : decode cX1_layOn 37 = .ok (.iaload, 1) := by decide +kernel
theorem dX1_layOn_38 : decode cX1_layOn 38 = .ok (.invokestatic 19, 3) := by decide +kernel
theorem dX1_layOn_41 : decode cX1_layOn 41 = .ok (.invokestatic 27, 3) := by decide +kernel
theorem dX1_layOn_44 : decode cX1_layOn 44 = .ok (.iadd, 1) := by decide +kernel
theorem dX1_layOn_45 : decode cX1_layOn 45 = .ok (.istore_n 3, 1) := by decide +kernel
theorem dX1_layOn_46 : decode cX1_layOn 46 = .ok (.goto (-42), 3) := by decide +kernel
theorem dX1_layOn_49 : decode cX1_layOn 49 = .ok (.iload_n 2, 1) := by decide +kernel
theorem dX1_layOn_50 : decode cX1_layOn 50 = .ok (.ireturn, 1) := by decide +kernel
theorem dX1_comeOn_0 : decode cX1_comeOn 0 = .ok (.aload_n 0, 1) := by decide +kernel
theorem dX1_comeOn_1 : decode cX1_comeOn 1 = .ok (.getfield 9, 3) := by decide +kernel
theorem dX1_comeOn_4 : decode cX1_comeOn 4 = .ok (.iload_n 2, 1) := by decide +kernel
theorem dX1_comeOn_5 : decode cX1_comeOn 5 = .ok (.iaload, 1) := by decide +kernel
theorem dX1_comeOn_6 : decode cX1_comeOn 6 = .ok (.lookupswitch 89 #[(97, 68), (110, 34), (112, 47)], 34) := by decide +kernel
theorem dX1_comeOn_40 : decode cX1_comeOn 40 = .ok (.aload_n 1, 1) := by decide +kernel
theorem dX1_comeOn_41 : decode cX1_comeOn 41 = .ok (.aload_n 0, 1) := by decide +kernel
theorem dX1_comeOn_42 : decode cX1_comeOn 42 = .ok (.iload_n 2, 1) := by decide +kernel
theorem dX1_comeOn_43 : decode cX1_comeOn 43 = .ok (.iconst 1, 1) := by decide +kernel
theorem dX1_comeOn_44 : decode cX1_comeOn 44 = .ok (.iadd, 1) := by decide +kernel
theorem dX1_comeOn_45 : decode cX1_comeOn 45 = .ok (.iconst 2, 1) := by decide +kernel
theorem dX1_comeOn_46 : decode cX1_comeOn 46 = .ok (.invokevirtual 33, 3) := by decide +kernel
theorem dX1_comeOn_49 : decode cX1_comeOn 49 = .ok (.invokestatic 36, 3) := by decide +kernel
theorem dX1_comeOn_52 : decode cX1_comeOn 52 = .ok (.ireturn, 1) := by decide +kernel
theorem dX1_comeOn_53 : decode cX1_comeOn 53 = .ok (.aload_n 1, 1) := by decide +kernel
theorem dX1_comeOn_54 : decode cX1_comeOn 54 = .ok (.aload_n 0, 1) := by decide +kernel
theorem dX1_comeOn_55 : decode cX1_comeOn 55 = .ok (.iload_n 2, 1) := by decide +kernel
theorem dX1_comeOn_56 : decode cX1_comeOn 56 = .ok (.iconst 1, 1) := by decide +kernel
theorem dX1_comeOn_57 : decode cX1_comeOn 57 = .ok (.iadd, 1) := by decide +kernel
theorem dX1_comeOn_58 : decode cX1_comeOn 58 = .ok (.iconst 2, 1) := by decide +kernel
theorem dX1_comeOn_59 : decode cX1_comeOn 59 = .ok (.invokevirtual 33, 3) := by decide +kernel
theorem dX1_comeOn_62 : decode cX1_comeOn 62 = .ok (.aload_n 0, 1) := by decide +kernel
theorem dX1_comeOn_63 : decode cX1_comeOn 63 = .ok (.iload_n 2, 1) := by decide +kernel
theorem dX1_comeOn_64 : decode cX1_comeOn 64 = .ok (.iconst 3, 1) := by decide +kernel
theorem dX1_comeOn_65 : decode cX1_comeOn 65 = .ok (.iadd, 1) := by decide +kernel
theorem dX1_comeOn_66 : decode cX1_comeOn 66 = .ok (.iconst 2, 1) := by decide +kernel
theorem dX1_comeOn_67 : decode cX1_comeOn 67 = .ok (.invokevirtual 33, 3) := by decide +kernel
theorem dX1_comeOn_70 : decode cX1_comeOn 70 = .ok (.invokestatic 39, 3) := by decide +kernel
theorem dX1_comeOn_73 : decode cX1_comeOn 73 = .ok (.ireturn, 1) := by decide +kernel
theorem dX1_comeOn_74 : decode cX1_comeOn 74 = .ok (.aload_n 1, 1) := by decide +kernel
theorem dX1_comeOn_75 : decode cX1_comeOn 75 = .ok (.aload_n 0, 1) := by decide +kernel
theorem dX1_comeOn_76 : decode cX1_comeOn 76 = .ok (.iload_n 2, 1) := by decide +kernel
theorem dX1_comeOn_77 : decode cX1_comeOn 77 = .ok (.iconst 1, 1) := by decide +kernel
theorem dX1_comeOn_78 : decode cX1_comeOn 78 = .ok (.iadd, 1) := by decide +kernel
theorem dX1_comeOn_79 : decode cX1_comeOn 79 = .ok (.iconst 1, 1) := by decide +kernel
theorem dX1_comeOn_80 : decode cX1_comeOn 80 = .ok (.invokevirtual 33, 3) := by decide +kernel
theorem dX1_comeOn_83 : decode cX1_comeOn 83 = .ok (.aload_n 0, 1) := by decide +kernel
theorem dX1_comeOn_84 : decode cX1_comeOn 84 = .ok (.iload_n 2, 1) := by decide +kernel
theorem dX1_comeOn_85 : decode cX1_comeOn 85 = .ok (.iconst 2, 1) := by decide +kernel
theorem dX1_comeOn_86 : decode cX1_comeOn 86 = .ok (.iadd, 1) := by decide +kernel
theorem dX1_comeOn_87 : decode cX1_comeOn 87 = .ok (.iconst 2, 1) := by decide +kernel
theorem dX1_comeOn_88 : decode cX1_comeOn 88 = .ok (.invokevirtual 33, 3) := by decide +kernel
theorem dX1_comeOn_91 : decode cX1_comeOn 91 = .ok (.invokestatic 43, 3) := by decide +kernel
theorem dX1_comeOn_94 : decode cX1_comeOn 94 = .ok (.ireturn, 1) := by decide +kernel
theorem dX1_comeOn_95 : decode cX1_comeOn 95 = .ok (.aload_n 1, 1) := by decide +kernel
theorem dX1_comeOn_96 : decode cX1_comeOn 96 = .ok (.aload_n 0, 1) := by decide +kernel
theorem dX1_comeOn_97 : decode cX1_comeOn 97 = .ok (.iload_n 2, 1) := by decide +kernel
theorem dX1_comeOn_98 : decode cX1_comeOn 98 = .ok (.iconst 1, 1) := by decide +kernel
theorem dX1_comeOn_99 : decode cX1_comeOn 99 = .ok (.iadd, 1) := by decide +kernel
theorem dX1_comeOn_100 : decode cX1_comeOn 100 = .ok (.iconst 1, 1) := by decide +kernel
theorem dX1_comeOn_101 : decode cX1_comeOn 101 = .ok (.invokevirtual 33, 3) := by decide +kernel
theorem dX1_comeOn_104 : decode cX1_comeOn 104 = .ok (.aload_n 0, 1) := by decide +kernel
theorem dX1_comeOn_105 : decode cX1_comeOn 105 = .ok (.iload_n 2, 1) := by decide +kernel
theorem dX1_comeOn_106 : decode cX1_comeOn 106 = .ok (.iconst 2, 1) := by decide +kernel
theorem dX1_comeOn_107 : decode cX1_comeOn 107 = .ok (.iadd, 1) := by decide +kernel
theorem dX1_comeOn_108 : decode cX1_comeOn 108 = .ok (.iconst 2, 1) := by decide +kernel
theorem dX1_comeOn_109 : decode cX1_comeOn 109 = .ok (.invokevirtual 33, 3) := by decide +kernel
theorem dX1_comeOn_112 : decode cX1_comeOn 112 = .ok (.invokestatic 46, 3) := by decide +kernel
theorem dX1_comeOn_115 : decode cX1_comeOn 115 = .ok (.ireturn, 1) := by decide +kernel
theorem dX1_number_0 : decode cX1_number 0 = .ok (.iconst 0, 1) := by decide +kernel
theorem dX1_number_1 : decode cX1_number 1 = .ok (.istore_n 3, 1) := by decide +kernel
theorem dX1_number_2 : decode cX1_number 2 = .ok (.iload_n 1, 1) := by decide +kernel
theorem dX1_number_3 : decode cX1_number 3 = .ok (.istore 4, 2) := by decide +kernel
theorem dX1_number_5 : decode cX1_number 5 = .ok (.iload 4, 2) := by decide +kernel
theorem dX1_number_7 : decode cX1_number 7 = .ok (.iload_n 1, 1) := by decide +kernel
theorem dX1_number_8 : decode cX1_number 8 = .ok (.iload_n 2, 1) := by decide +kernel
theorem dX1_number_9 : decode cX1_number 9 = .ok (.iadd, 1) := by decide +kernel
theorem dX1_number_10 : decode cX1_number 10 = .ok (.if_icmp .ge 34, 3) := by decide +kernel
theorem dX1_number_13 : decode cX1_number 13 = .ok (.iload 4, 2) := by decide +kernel
theorem dX1_number_15 : decode cX1_number 15 = .ok (.aload_n 0, 1) := by decide +kernel
theorem dX1_number_16 : decode cX1_number 16 = .ok (.getfield 15, 3) := by decide +kernel
theorem dX1_number_19 : decode cX1_number 19 = .ok (.if_icmp .ge 25, 3) := by decide +kernel
theorem dX1_number_22 : decode cX1_number 22 = .ok (.bipush 10, 2) := by decide +kernel
theorem dX1_number_24 : decode cX1_number 24 = .ok (.iload_n 3, 1) := by decide +kernel
theorem dX1_number_25 : decode cX1_number 25 = .ok (.imul, 1) := by decide +kernel
theorem dX1_number_26 : decode cX1_number 26 = .ok (.aload_n 0, 1) := by decide +kernel
theorem dX1_number_27 : decode cX1_number 27 = .ok (.getfield 9, 3) := by decide +kernel
theorem dX1_number_30 : decode cX1_number 30 = .ok (.iload 4, 2) := by decide +kernel
theorem dX1_number_32 : decode cX1_number 32 = .ok (.iaload, 1) := by decide +kernel
theorem dX1_number_33 : decode cX1_number 33 = .ok (.iadd, 1) := by decide +kernel
theorem dX1_number_34 : decode cX1_number 34 = .ok (.bipush 48, 2) := by decide +kernel
theorem dX1_number_36 : decode cX1_number 36 = .ok (.isub, 1) := by decide +kernel
theorem dX1_number_37 : decode cX1_number 37 = .ok (.istore_n 3, 1) := by decide +kernel
theorem dX1_number_38 : decode cX1_number 38 = .ok (.iinc 4 1, 3) := by decide +kernel
theorem dX1_number_41 : decode cX1_number 41 = .ok (.goto (-36), 3) := by decide +kernel
theorem dX1_number_44 : decode cX1_number 44 = .ok (.iload_n 3, 1) := by decide +kernel
theorem dX1_number_45 : decode cX1_number 45 = .ok (.ireturn, 1) := by decide +kernel
theorem dX1_resize_0 : decode cX1_resize 0 = .ok (.iload_n 1, 1) := by decide +kernel
theorem dX1_resize_1 : decode cX1_resize 1 = .ok (.invokestatic 49, 3) := by decide +kernel
theorem dX1_resize_4 : decode cX1_resize 4 = .ok (.ifCond .ne 7, 3) := by decide +kernel
theorem dX1_resize_7 : decode cX1_resize 7 = .ok (.iconst 1, 1) := by decide +kernel
theorem dX1_resize_8 : decode cX1_resize 8 = .ok (.goto 4, 3) := by decide +kernel
theorem dX1_resize_11 : decode cX1_resize 11 = .ok (.iconst 0, 1) := by decide +kernel
theorem dX1_resize_12 : decode cX1_resize 12 = .ok (.istore_n 2, 1) := by decide +kernel
theorem dX1_resize_13 : decode cX1_resize 13 = .ok (.iload_n 2, 1) := by decide +kernel
theorem dX1_resize_14 : decode cX1_resize 14 = .ok (.ifCond .eq 8, 3) := by decide +kernel
theorem dX1_resize_17 : decode cX1_resize 17 = .ok (.aload_n 0, 1) := by decide +kernel
theorem dX1_resize_18 : decode cX1_resize 18 = .ok (.iload_n 1, 1) := by decide +kernel
theorem dX1_resize_19 : decode cX1_resize 19 = .ok (.invokevirtual 54, 3) := by decide +kernel
theorem dX1_resize_22 : decode cX1_resize 22 = .ok (.iload_n 2, 1) := by decide +kernel
theorem dX1_resize_23 : decode cX1_resize 23 = .ok (.ireturn, 1) := by decide +kernel
theorem dX1_addPair_0 : decode cX1_addPair 0 = .ok (.aload_n 0, 1) := by decide +kernel
theorem dX1_addPair_1 : decode cX1_addPair 1 = .ok (.iload_n 1, 1) := by decide +kernel
theorem dX1_addPair_2 : decode cX1_addPair 2 = .ok (.iload_n 2, 1) := by decide +kernel
theorem dX1_addPair_3 : decode cX1_addPair 3 = .ok (.invokevirtual 57, 3) := by decide +kernel
theorem dX1_addPair_6 : decode cX1_addPair 6 = .ok (.ifCond .ne 7, 3) := by decide +kernel
theorem dX1_addPair_9 : decode cX1_addPair 9 = .ok (.iconst 1, 1) := by decide +kernel
theorem dX1_addPair_10 : decode cX1_addPair 10 = .ok (.goto 4, 3) := by decide +kernel
theorem dX1_addPair_13 : decode cX1_addPair 13 = .ok (.iconst 0, 1) := by decide +kernel
theorem dX1_addPair_14 : decode cX1_addPair 14 = .ok (.istore_n 3, 1) := by decide +kernel
theorem dX1_addPair_15 : decode cX1_addPair 15 = .ok (.iload_n 3, 1) := by decide +kernel
theorem dX1_addPair_16 : decode cX1_addPair 16 = .ok (.ifCond .eq 12, 3) := by decide +kernel
theorem dX1_addPair_19 : decode cX1_addPair 19 = .ok (.aload_n 0, 1) := by decide +kernel
theorem dX1_addPair_20 : decode cX1_addPair 20 = .ok (.getfield 60, 3) := by decide +kernel
theorem dX1_addPair_23 : decode cX1_addPair 23 = .ok (.iload_n 1, 1) := by decide +kernel
theorem dX1_addPair_24 : decode cX1_addPair 24 = .ok (.iload_n 2, 1) := by decide +kernel
theorem dX1_addPair_25 : decode cX1_addPair 25 = .ok (.invokevirtual 64, 3) := by decide +kernel
theorem dX1_addPair_28 : decode cX1_addPair 28 = .ok (.iload_n 3, 1) := by decide +kernel
theorem dX1_addPair_29 : decode cX1_addPair 29 = .ok (.ireturn, 1) := by decide +kernel
theorem dX1_setAdder_0 : decode cX1_setAdder 0 = .ok (.aload_n 0, 1) := by decide +kernel
theorem dX1_setAdder_1 : decode cX1_setAdder 1 = .ok (.iload_n 1, 1) := by decide +kernel
theorem dX1_setAdder_2 : decode cX1_setAdder 2 = .ok (.iload_n 2, 1) := by decide +kernel
theorem dX1_setAdder_3 : decode cX1_setAdder 3 = .ok (.invokevirtual 70, 3) := by decide +kernel
theorem dX1_setAdder_6 : decode cX1_setAdder 6 = .ok (.ifCond .ne 7, 3) := by decide +kernel
theorem dX1_setAdder_9 : decode cX1_setAdder 9 = .ok (.iconst 1, 1) := by decide +kernel
theorem dX1_setAdder_10 : decode cX1_setAdder 10 = .ok (.goto 4, 3) := by decide +kernel
theorem dX1_setAdder_13 : decode cX1_setAdder 13 = .ok (.iconst 0, 1) := by decide +kernel
theorem dX1_setAdder_14 : decode cX1_setAdder 14 = .ok (.istore_n 3, 1) := by decide +kernel
theorem dX1_setAdder_15 : decode cX1_setAdder 15 = .ok (.iload_n 3, 1) := by decide +kernel
theorem dX1_setAdder_16 : decode cX1_setAdder 16 = .ok (.ifCond .eq 13, 3) := by decide +kernel
theorem dX1_setAdder_19 : decode cX1_setAdder 19 = .ok (.aload_n 0, 1) := by decide +kernel
theorem dX1_setAdder_20 : decode cX1_setAdder 20 = .ok (.getfield 60, 3) := by decide +kernel
theorem dX1_setAdder_23 : decode cX1_setAdder 23 = .ok (.getfield 73, 3) := by decide +kernel
theorem dX1_setAdder_26 : decode cX1_setAdder 26 = .ok (.iload_n 1, 1) := by decide +kernel
theorem dX1_setAdder_27 : decode cX1_setAdder 27 = .ok (.iload_n 2, 1) := by decide +kernel
theorem dX1_setAdder_28 : decode cX1_setAdder 28 = .ok (.iastore, 1) := by decide +kernel
theorem dX1_setAdder_29 : decode cX1_setAdder 29 = .ok (.iload_n 3, 1) := by decide +kernel
theorem dX1_setAdder_30 : decode cX1_setAdder 30 = .ok (.ireturn, 1) := by decide +kernel
theorem dX1_addTurn_0 : decode cX1_addTurn 0 = .ok (.aload_n 0, 1) := by decide +kernel
theorem dX1_addTurn_1 : decode cX1_addTurn 1 = .ok (.iload_n 1, 1) := by decide +kernel
theorem dX1_addTurn_2 : decode cX1_addTurn 2 = .ok (.iload_n 2, 1) := by decide +kernel
theorem dX1_addTurn_3 : decode cX1_addTurn 3 = .ok (.invokevirtual 76, 3) := by decide +kernel
theorem dX1_addTurn_6 : decode cX1_addTurn 6 = .ok (.ifCond .ne 7, 3) := by decide +kernel
theorem dX1_addTurn_9 : decode cX1_addTurn 9 = .ok (.iconst 1, 1) := by decide +kernel
theorem dX1_addTurn_10 : decode cX1_addTurn 10 = .ok (.goto 4, 3) := by decide +kernel
theorem dX1_addTurn_13 : decode cX1_addTurn 13 = .ok (.iconst 0, 1) := by decide +kernel
theorem dX1_addTurn_14 : decode cX1_addTurn 14 = .ok (.istore_n 3, 1) := by decide +kernel
theorem dX1_addTurn_15 : decode cX1_addTurn 15 = .ok (.iload_n 3, 1) := by decide +kernel
theorem dX1_addTurn_16 : decode cX1_addTurn 16 = .ok (.ifCond .eq 12, 3) := by decide +kernel
theorem dX1_addTurn_19 : decode cX1_addTurn 19 = .ok (.aload_n 0, 1) := by decide +kernel
theorem dX1_addTurn_20 : decode cX1_addTurn 20 = .ok (.getfield 79, 3) := by decide +kernel
theorem dX1_addTurn_23 : decode cX1_addTurn 23 = .ok (.iload_n 1, 1) := by decide +kernel
theorem dX1_addTurn_24 : decode cX1_addTurn 24 = .ok (.iload_n 2, 1) := by decide +kernel
theorem dX1_addTurn_25 : decode cX1_addTurn 25 = .ok (.invokevirtual 83, 3) := by decide +kernel
theorem dX1_addTurn_28 : decode cX1_addTurn 28 = .ok (.iload_n 3, 1) := by decide +kernel
theorem dX1_addTurn_29 : decode cX1_addTurn 29 = .ok (.ireturn, 1) := by decide +kernel
theorem dX2_init_0 : decode cX2_init 0 = .ok (.aload_n 0, 1) := by decide +kernel
theorem dX2_init_1 : decode cX2_init 1 = .ok (.invokespecial 3, 3) := by decide +kernel
theorem dX2_init_4 : decode cX2_init 4 = .ok (.aload_n 0, 1) := by decide +kernel
theorem dX2_init_5 : decode cX2_init 5 = .ok (.iconst 3, 1) := by decide +kernel
theorem dX2_init_6 : decode cX2_init 6 = .ok (.bipush 40, 2) := by decide +kernel
theorem dX2_init_8 : decode cX2_init 8 = .ok (.multianewarray 11 2, 4) := by decide +kernel
theorem dX2_init_12 : decode cX2_init 12 = .ok (.putfield 13, 3) := by decide +kernel
theorem dX2_init_15 : decode cX2_init 15 = .ok (.aload_n 0, 1) := by decide +kernel
theorem dX2_init_16 : decode cX2_init 16 = .ok (.iconst 3, 1) := by decide +kernel
theorem dX2_init_17 : decode cX2_init 17 = .ok (.newarray .int, 2) := by decide +kernel
theorem dX2_init_19 : decode cX2_init 19 = .ok (.dup, 1) := by decide +kernel
theorem dX2_init_20 : decode cX2_init 20 = .ok (.iconst 0, 1) := by decide +kernel
theorem dX2_init_21 : decode cX2_init 21 = .ok (.iconst (-1), 1) := by decide +kernel
theorem dX2_init_22 : decode cX2_init 22 = .ok (.iastore, 1) := by decide +kernel
theorem dX2_init_23 : decode cX2_init 23 = .ok (.dup, 1) := by decide +kernel
theorem dX2_init_24 : decode cX2_init 24 = .ok (.iconst 1, 1) := by decide +kernel
theorem dX2_init_25 : decode cX2_init 25 = .ok (.iconst (-1), 1) := by decide +kernel
theorem dX2_init_26 : decode cX2_init 26 = .ok (.iastore, 1) := by decide +kernel
theorem dX2_init_27 : decode cX2_init 27 = .ok (.dup, 1) := by decide +kernel
theorem dX2_init_28 : decode cX2_init 28 = .ok (.iconst 2, 1) := by decide +kernel
theorem dX2_init_29 : decode cX2_init 29 = .ok (.iconst (-1), 1) := by decide +kernel
theorem dX2_init_30 : decode cX2_init 30 = .ok (.iastore, 1) := by decide +kernel
theorem dX2_init_31 : decode cX2_init 31 = .ok (.putfield 16, 3) := by decide +kernel
theorem dX2_init_34 : decode cX2_init 34 = .ok (.return_, 1) := by decide +kernel
theorem dX2_has_0 : decode cX2_has 0 = .ok (.iload_n 1, 1) := by decide +kernel
theorem dX2_has_1 : decode cX2_has 1 = .ok (.ifCond .lt 12, 3) := by decide +kernel
theorem dX2_has_4 : decode cX2_has 4 = .ok (.iload_n 1, 1) := by decide +kernel
theorem dX2_has_5 : decode cX2_has 5 = .ok (.iconst 3, 1) := by decide +kernel
theorem dX2_has_6 : decode cX2_has 6 = .ok (.if_icmp .ge 7, 3) := by decide +kernel
theorem dX2_has_9 : decode cX2_has 9 = .ok (.iconst 1, 1) := by decide +kernel
theorem dX2_has_10 : decode cX2_has 10 = .ok (.goto 4, 3) := by decide +kernel
theorem dX2_has_13 : decode cX2_has 13 = .ok (.iconst 0, 1) := by decide +kernel
theorem dX2_has_14 : decode cX2_has 14 = .ok (.ireturn, 1) := by decide +kernel
theorem dX2_make_0 : decode cX2_make 0 = .ok (.aload_n 0, 1) := by decide +kernel
theorem dX2_make_1 : decode cX2_make 1 = .ok (.getfield 16, 3) := by decide +kernel
theorem dX2_make_4 : decode cX2_make 4 = .ok (.iload_n 1, 1) := by decide +kernel
theorem dX2_make_5 : decode cX2_make 5 = .ok (.iload_n 2, 1) := by decide +kernel
theorem dX2_make_6 : decode cX2_make 6 = .ok (.iastore, 1) := by decide +kernel
theorem dX2_make_7 : decode cX2_make 7 = .ok (.iconst 0, 1) := by decide +kernel
theorem dX2_make_8 : decode cX2_make 8 = .ok (.istore_n 3, 1) := by decide +kernel
theorem dX2_make_9 : decode cX2_make 9 = .ok (.iload_n 3, 1) := by decide +kernel
theorem dX2_make_10 : decode cX2_make 10 = .ok (.bipush 40, 2) := by decide +kernel
theorem dX2_make_12 : decode cX2_make 12 = .ok (.if_icmp .ge 18, 3) := by decide +kernel
theorem dX2_make_15 : decode cX2_make 15 = .ok (.aload_n 0, 1) := by decide +kernel
theorem dX2_make_16 : decode cX2_make 16 = .ok (.getfield 13, 3) := by decide +kernel
theorem dX2_make_19 : decode cX2_make 19 = .ok (.iload_n 1, 1) := by decide +kernel
theorem dX2_make_20 : decode cX2_make 20 = .ok (.aaload, 1) := by decide +kernel
theorem dX2_make_21 : decode cX2_make 21 = .ok (.iload_n 3, 1) := by decide +kernel
theorem dX2_make_22 : decode cX2_make 22 = .ok (.iconst 0, 1) := by decide +kernel
theorem dX2_make_23 : decode cX2_make 23 = .ok (.iastore, 1) := by decide +kernel
theorem dX2_make_24 : decode cX2_make 24 = .ok (.iinc 3 1, 3) := by decide +kernel
theorem dX2_make_27 : decode cX2_make 27 = .ok (.goto (-18), 3) := by decide +kernel
theorem dX2_make_30 : decode cX2_make 30 = .ok (.return_, 1) := by decide +kernel
theorem dX2_firstOtherwise_0 : decode cX2_firstOtherwise 0 = .ok (.iconst 0, 1) := by decide +kernel
theorem dX2_firstOtherwise_1 : decode cX2_firstOtherwise 1 = .ok (.istore_n 3, 1) := by decide +kernel
theorem dX2_firstOtherwise_2 : decode cX2_firstOtherwise 2 = .ok (.iload_n 3, 1) := by decide +kernel
theorem dX2_firstOtherwise_3 : decode cX2_firstOtherwise 3 = .ok (.aload_n 0, 1) := by decide +kernel
theorem dX2_firstOtherwise_4 : decode cX2_firstOtherwise 4 = .ok (.getfield 16, 3) := by decide +kernel
theorem dX2_firstOtherwise_7 : decode cX2_firstOtherwise 7 = .ok (.iload_n 1, 1) := by decide +kernel
theorem dX2_firstOtherwise_8 : decode cX2_firstOtherwise 8 = .ok (.iaload, 1) := by decide +kernel
theorem dX2_firstOtherwise_9 : decode cX2_firstOtherwise 9 = .ok (.if_icmp .ge 37, 3) := by decide +kernel
theorem dX2_firstOtherwise_12 : decode cX2_firstOtherwise 12 = .ok (.aload_n 2, 1) := by decide +kernel
theorem dX2_firstOtherwise_13 : decode cX2_firstOtherwise 13 = .ok (.iload_n 3, 1) := by decide +kernel
theorem dX2_firstOtherwise_14 : decode cX2_firstOtherwise 14 = .ok (.iconst 2, 1) := by decide +kernel
theorem dX2_firstOtherwise_15 : decode cX2_firstOtherwise 15 = .ok (.idiv, 1) := by decide +kernel
theorem dX2_firstOtherwise_16 : decode cX2_firstOtherwise 16 = .ok (.invokevirtual 20, 3) := by decide +kernel
theorem dX2_firstOtherwise_19 : decode cX2_firstOtherwise 19 = .ok (.ifCond .eq 19, 3) := by decide +kernel
theorem dX2_firstOtherwise_22 : decode cX2_firstOtherwise 22 = .ok (.aload_n 2, 1) := by decide +kernel
theorem dX2_firstOtherwise_23 : decode cX2_firstOtherwise 23 = .ok (.iload_n 3, 1) := by decide +kernel
theorem dX2_firstOtherwise_24 : decode cX2_firstOtherwise 24 = .ok (.invokevirtual 26, 3) := by decide +kernel
theorem dX2_firstOtherwise_27 : decode cX2_firstOtherwise 27 = .ok (.aload_n 0, 1) := by decide +kernel
theorem dX2_firstOtherwise_28 : decode cX2_firstOtherwise 28 = .ok (.getfield 13, 3) := by decide +kernel
theorem dX2_firstOtherwise_31 : decode cX2_firstOtherwise 31 = .ok (.iload_n 1, 1) := by decide +kernel
theorem dX2_firstOtherwise_32 : decode cX2_firstOtherwise 32 = .ok (.aaload, 1) := by decide +kernel
theorem dX2_firstOtherwise_33 : decode cX2_firstOtherwise 33 = .ok (.iload_n 3, 1) := by decide +kernel
theorem dX2_firstOtherwise_34 : decode cX2_firstOtherwise 34 = .ok (.iaload, 1) := by decide +kernel
theorem dX2_firstOtherwise_35 : decode cX2_firstOtherwise 35 = .ok (.if_icmp .eq 5, 3) := by decide +kernel
theorem dX2_firstOtherwise_38 : decode cX2_firstOtherwise 38 = .ok (.iload_n 3, 1) := by decide +kernel
theorem dX2_firstOtherwise_39 : decode cX2_firstOtherwise 39 = .ok (.ireturn, 1) := by decide +kernel
theorem dX2_firstOtherwise_40 : decode cX2_firstOtherwise 40 = .ok (.iinc 3 1, 3) := by decide +kernel
theorem dX2_firstOtherwise_43 : decode cX2_firstOtherwise 43 = .ok (.goto (-41), 3) := by decide +kernel
theorem dX2_firstOtherwise_46 : decode cX2_firstOtherwise 46 = .ok (.bipush (-9), 2) := by decide +kernel
theorem dX2_firstOtherwise_48 : decode cX2_firstOtherwise 48 = .ok (.ireturn, 1) := by decide +kernel
theorem dX2_sizesOfStarter_0 : decode cX2_sizesOfStarter 0 = .ok (.aload_n 0, 1) := by decide +kernel
theorem dX2_sizesOfStarter_1 : decode cX2_sizesOfStarter 1 = .ok (.getfield 16, 3) := by decide +kernel
theorem dX2_sizesOfStarter_4 : decode cX2_sizesOfStarter 4 = .ok (.iload_n 1, 1) := by decide +kernel
theorem dX2_sizesOfStarter_5 : decode cX2_sizesOfStarter 5 = .ok (.iaload, 1) := by decide +kernel
theorem dX2_sizesOfStarter_6 : decode cX2_sizesOfStarter 6 = .ok (.iconst 1, 1) := by decide +kernel
theorem dX2_sizesOfStarter_7 : decode cX2_sizesOfStarter 7 = .ok (.iadd, 1) := by decide +kernel
theorem dX2_sizesOfStarter_8 : decode cX2_sizesOfStarter 8 = .ok (.istore_n 3, 1) := by decide +kernel
theorem dX2_sizesOfStarter_9 : decode cX2_sizesOfStarter 9 = .ok (.iload_n 3, 1) := by decide +kernel
theorem dX2_sizesOfStarter_10 : decode cX2_sizesOfStarter 10 = .ok (.iconst 3, 1) := by decide +kernel
theorem dX2_sizesOfStarter_11 : decode cX2_sizesOfStarter 11 = .ok (.if_icmp .lt 9, 3) := by decide +kernel
theorem dX2_sizesOfStarter_14 : decode cX2_sizesOfStarter 14 = .ok (.iload_n 3, 1) := by decide +kernel
theorem dX2_sizesOfStarter_15 : decode cX2_sizesOfStarter 15 = .ok (.bipush 13, 2) := by decide +kernel
theorem dX2_sizesOfStarter_17 : decode cX2_sizesOfStarter 17 = .ok (.if_icmp .le 5, 3) := by decide +kernel
theorem dX2_sizesOfStarter_20 : decode cX2_sizesOfStarter 20 = .ok (.iconst 0, 1) := by decide +kernel
theorem dX2_sizesOfStarter_21 : decode cX2_sizesOfStarter 21 = .ok (.ireturn, 1) := by decide +kernel
theorem dX2_sizesOfStarter_22 : decode cX2_sizesOfStarter 22 = .ok (.aload_n 2, 1) := by decide +kernel
theorem dX2_sizesOfStarter_23 : decode cX2_sizesOfStarter 23 = .ok (.iload_n 3, 1) := by decide +kernel
theorem dX2_sizesOfStarter_24 : decode cX2_sizesOfStarter 24 = .ok (.invokevirtual 30, 3) := by decide +kernel
theorem dX2_sizesOfStarter_27 : decode cX2_sizesOfStarter 27 = .ok (.iconst 0, 1) := by decide +kernel
theorem dX2_sizesOfStarter_28 : decode cX2_sizesOfStarter 28 = .ok (.istore 4, 2) := by decide +kernel
theorem dX2_sizesOfStarter_30 : decode cX2_sizesOfStarter 30 = .ok (.iload 4, 2) := by decide +kernel
theorem dX2_sizesOfStarter_32 : decode cX2_sizesOfStarter 32 = .ok (.iconst 1, 1) := by decide +kernel
theorem dX2_sizesOfStarter_33 : decode cX2_sizesOfStarter 33 = .ok (.iadd, 1) := by decide +kernel
theorem dX2_sizesOfStarter_34 : decode cX2_sizesOfStarter 34 = .ok (.iload_n 3, 1) := by decide +kernel
theorem dX2_sizesOfStarter_35 : decode cX2_sizesOfStarter 35 = .ok (.if_icmp .ge 74, 3) := by decide +kernel
theorem dX2_sizesOfStarter_38 : decode cX2_sizesOfStarter 38 = .ok (.aload_n 0, 1) := by decide +kernel
theorem dX2_sizesOfStarter_39 : decode cX2_sizesOfStarter 39 = .ok (.getfield 13, 3) := by decide +kernel
theorem dX2_sizesOfStarter_42 : decode cX2_sizesOfStarter 42 = .ok (.iload_n 1, 1) := by decide +kernel
theorem dX2_sizesOfStarter_43 : decode cX2_sizesOfStarter 43 = .ok (.aaload, 1) := by decide +kernel
theorem dX2_sizesOfStarter_44 : decode cX2_sizesOfStarter 44 = .ok (.iload 4, 2) := by decide +kernel
theorem dX2_sizesOfStarter_46 : decode cX2_sizesOfStarter 46 = .ok (.iaload, 1) := by decide +kernel
theorem dX2_sizesOfStarter_47 : decode cX2_sizesOfStarter 47 = .ok (.istore 5, 2) := by decide +kernel
theorem dX2_sizesOfStarter_49 : decode cX2_sizesOfStarter 49 = .ok (.aload_n 0, 1) := by decide +kernel
theorem dX2_sizesOfStarter_50 : decode cX2_sizesOfStarter 50 = .ok (.getfield 13, 3) := by decide +kernel
theorem dX2_sizesOfStarter_53 : decode cX2_sizesOfStarter 53 = .ok (.iload_n 1, 1) := by decide +kernel
theorem dX2_sizesOfStarter_54 : decode cX2_sizesOfStarter 54 = .ok (.aaload, 1) := by decide +kernel
theorem dX2_sizesOfStarter_55 : decode cX2_sizesOfStarter 55 = .ok (.iload 4, 2) := by decide +kernel
theorem dX2_sizesOfStarter_57 : decode cX2_sizesOfStarter 57 = .ok (.iconst 1, 1) := by decide +kernel
theorem dX2_sizesOfStarter_58 : decode cX2_sizesOfStarter 58 = .ok (.iadd, 1) := by decide +kernel
theorem dX2_sizesOfStarter_59 : decode cX2_sizesOfStarter 59 = .ok (.iaload, 1) := by decide +kernel
theorem dX2_sizesOfStarter_60 : decode cX2_sizesOfStarter 60 = .ok (.istore 6, 2) := by decide +kernel
theorem dX2_sizesOfStarter_62 : decode cX2_sizesOfStarter 62 = .ok (.iload 5, 2) := by decide +kernel
theorem dX2_sizesOfStarter_64 : decode cX2_sizesOfStarter 64 = .ok (.iconst 1, 1) := by decide +kernel
theorem dX2_sizesOfStarter_65 : decode cX2_sizesOfStarter 65 = .ok (.if_icmp .lt 28, 3) := by decide +kernel
theorem dX2_sizesOfStarter_68 : decode cX2_sizesOfStarter 68 = .ok (.iload 5, 2) := by decide +kernel
theorem dX2_sizesOfStarter_70 : decode cX2_sizesOfStarter 70 = .ok (.iload_n 3, 1) := by decide +kernel
theorem dX2_sizesOfStarter_71 : decode cX2_sizesOfStarter 71 = .ok (.if_icmp .ge 22, 3) := by decide +kernel
theorem dX2_sizesOfStarter_74 : decode cX2_sizesOfStarter 74 = .ok (.iload 6, 2) := by decide +kernel
theorem dX2_sizesOfStarter_76 : decode cX2_sizesOfStarter 76 = .ok (.iconst 1, 1) := by decide +kernel
theorem dX2_sizesOfStarter_77 : decode cX2_sizesOfStarter 77 = .ok (.if_icmp .lt 16, 3) := by decide +kernel
theorem dX2_sizesOfStarter_80 : decode cX2_sizesOfStarter 80 = .ok (.iload 6, 2) := by decide +kernel
theorem dX2_sizesOfStarter_82 : decode cX2_sizesOfStarter 82 = .ok (.iload_n 3, 1) := by decide +kernel
theorem dX2_sizesOfStarter_83 : decode cX2_sizesOfStarter 83 = .ok (.if_icmp .ge 10, 3) := by decide +kernel
theorem dX2_sizesOfStarter_86 : decode cX2_sizesOfStarter 86 = .ok (.iload 5, 2) := by decide +kernel
theorem dX2_sizesOfStarter_88 : decode cX2_sizesOfStarter 88 = .ok (.iload 6, 2) := by decide +kernel
theorem dX2_sizesOfStarter_90 : decode cX2_sizesOfStarter 90 = .ok (.if_icmp .ne 5, 3) := by decide +kernel
theorem dX2_sizesOfStarter_93 : decode cX2_sizesOfStarter 93 = .ok (.iconst 0, 1) := by decide +kernel
theorem dX2_sizesOfStarter_94 : decode cX2_sizesOfStarter 94 = .ok (.ireturn, 1) := by decide +kernel
theorem dX2_sizesOfStarter_95 : decode cX2_sizesOfStarter 95 = .ok (.aload_n 2, 1) := by decide +kernel
theorem dX2_sizesOfStarter_96 : decode cX2_sizesOfStarter 96 = .ok (.iload 5, 2) := by decide +kernel
theorem dX2_sizesOfStarter_98 : decode cX2_sizesOfStarter 98 = .ok (.iload 6, 2) := by decide +kernel
theorem dX2_sizesOfStarter_100 : decode cX2_sizesOfStarter 100 = .ok (.invokevirtual 34, 3) := by decide +kernel
theorem dX2_sizesOfStarter_103 : decode cX2_sizesOfStarter 103 = .ok (.iinc 4 2, 3) := by decide +kernel
theorem dX2_sizesOfStarter_106 : decode cX2_sizesOfStarter 106 = .ok (.goto (-76), 3) := by decide +kernel
theorem dX2_sizesOfStarter_109 : decode cX2_sizesOfStarter 109 = .ok (.aload_n 2, 1) := by decide +kernel
theorem dX2_sizesOfStarter_110 : decode cX2_sizesOfStarter 110 = .ok (.invokevirtual 38, 3) := by decide +kernel
theorem dX2_sizesOfStarter_113 : decode cX2_sizesOfStarter 113 = .ok (.ifCond .eq 13, 3) := by decide +kernel
theorem dX2_sizesOfStarter_116 : decode cX2_sizesOfStarter 116 = .ok (.iconst 1, 1) := by decide +kernel
theorem dX2_sizesOfStarter_117 : decode cX2_sizesOfStarter 117 = .ok (.iload_n 3, 1) := by decide +kernel
theorem dX2_sizesOfStarter_118 : decode cX2_sizesOfStarter 118 = .ok (.iconst 3, 1) := by decide +kernel
theorem dX2_sizesOfStarter_119 : decode cX2_sizesOfStarter 119 = .ok (.isub, 1) := by decide +kernel
theorem dX2_sizesOfStarter_120 : decode cX2_sizesOfStarter 120 = .ok (.iconst 2, 1) := by decide +kernel
theorem dX2_sizesOfStarter_121 : decode cX2_sizesOfStarter 121 = .ok (.idiv, 1) := by decide +kernel
theorem dX2_sizesOfStarter_122 : decode cX2_sizesOfStarter 122 = .ok (.ishl, 1) := by decide +kernel
theorem dX2_sizesOfStarter_123 : decode cX2_sizesOfStarter 123 = .ok (.goto 4, 3) := by decide +kernel
theorem dX2_sizesOfStarter_126 : decode cX2_sizesOfStarter 126 = .ok (.iconst 0, 1) := by decide +kernel
theorem dX2_sizesOfStarter_127 : decode cX2_sizesOfStarter 127 = .ok (.ireturn, 1) := by decide +kernel
theorem dX3_init_0 : decode cX3_init 0 = .ok (.aload_n 0, 1) := by decide +kernel
theorem dX3_init_1 : decode cX3_init 1 = .ok (.invokespecial 3, 3) := by decide +kernel
theorem dX3_init_4 : decode cX3_init 4 = .ok (.aload_n 0, 1) := by decide +kernel
theorem dX3_init_5 : decode cX3_init 5 = .ok (.bipush 6, 2) := by decide +kernel
theorem dX3_init_7 : decode cX3_init 7 = .ok (.newarray .int, 2) := by decide +kernel
theorem dX3_init_9 : decode cX3_init 9 = .ok (.putfield 9, 3) := by decide +kernel
theorem dX3_init_12 : decode cX3_init 12 = .ok (.aload_n 0, 1) := by decide +kernel
theorem dX3_init_13 : decode cX3_init 13 = .ok (.bipush 6, 2) := by decide +kernel
theorem dX3_init_15 : decode cX3_init 15 = .ok (.newarray .int, 2) := by decide +kernel
theorem dX3_init_17 : decode cX3_init 17 = .ok (.putfield 15, 3) := by decide +kernel
theorem dX3_init_20 : decode cX3_init 20 = .ok (.aload_n 0, 1) := by decide +kernel
theorem dX3_init_21 : decode cX3_init 21 = .ok (.bipush 6, 2) := by decide +kernel
theorem dX3_init_23 : decode cX3_init 23 = .ok (.newarray .int, 2) := by decide +kernel
theorem dX3_init_25 : decode cX3_init 25 = .ok (.putfield 18, 3) := by decide +kernel
theorem dX3_init_28 : decode cX3_init 28 = .ok (.aload_n 0, 1) := by decide +kernel
theorem dX3_init_29 : decode cX3_init 29 = .ok (.bipush 7, 2) := by decide +kernel
theorem dX3_init_31 : decode cX3_init 31 = .ok (.putfield 21, 3) := by decide +kernel
theorem dX3_init_34 : decode cX3_init 34 = .ok (.aload_n 0, 1) := by decide +kernel
theorem dX3_init_35 : decode cX3_init 35 = .ok (.iconst 0, 1) := by decide +kernel
theorem dX3_init_36 : decode cX3_init 36 = .ok (.putfield 25, 3) := by decide +kernel
theorem dX3_init_39 : decode cX3_init 39 = .ok (.return_, 1) := by decide +kernel
theorem dX3_copyFrom_0 : decode cX3_copyFrom 0 = .ok (.aload_n 0, 1) := by decide +kernel
theorem dX3_copyFrom_1 : decode cX3_copyFrom 1 = .ok (.aload_n 1, 1) := by decide +kernel
theorem dX3_copyFrom_2 : decode cX3_copyFrom 2 = .ok (.getfield 21, 3) := by decide +kernel
theorem dX3_copyFrom_5 : decode cX3_copyFrom 5 = .ok (.putfield 21, 3) := by decide +kernel
theorem dX3_copyFrom_8 : decode cX3_copyFrom 8 = .ok (.aload_n 0, 1) := by decide +kernel
theorem dX3_copyFrom_9 : decode cX3_copyFrom 9 = .ok (.aload_n 1, 1) := by decide +kernel
theorem dX3_copyFrom_10 : decode cX3_copyFrom 10 = .ok (.getfield 25, 3) := by decide +kernel
theorem dX3_copyFrom_13 : decode cX3_copyFrom 13 = .ok (.putfield 25, 3) := by decide +kernel
theorem dX3_copyFrom_16 : decode cX3_copyFrom 16 = .ok (.aload_n 1, 1) := by decide +kernel
theorem dX3_copyFrom_17 : decode cX3_copyFrom 17 = .ok (.getfield 9, 3) := by decide +kernel
theorem dX3_copyFrom_20 : decode cX3_copyFrom 20 = .ok (.iconst 0, 1) := by decide +kernel
theorem dX3_copyFrom_21 : decode cX3_copyFrom 21 = .ok (.aload_n 0, 1) := by decide +kernel
theorem dX3_copyFrom_22 : decode cX3_copyFrom 22 = .ok (.getfield 9, 3) := by decide +kernel
theorem dX3_copyFrom_25 : decode cX3_copyFrom 25 = .ok (.iconst 0, 1) := by decide +kernel
theorem dX3_copyFrom_26 : decode cX3_copyFrom 26 = .ok (.bipush 6, 2) := by decide +kernel
theorem dX3_copyFrom_28 : decode cX3_copyFrom 28 = .ok (.invokestatic 28, 3) := by decide +kernel
theorem dX3_copyFrom_31 : decode cX3_copyFrom 31 = .ok (.aload_n 1, 1) := by decide +kernel
theorem dX3_copyFrom_32 : decode cX3_copyFrom 32 = .ok (.getfield 15, 3) := by decide +kernel
theorem dX3_copyFrom_35 : decode cX3_copyFrom 35 = .ok (.iconst 0, 1) := by decide +kernel
theorem dX3_copyFrom_36 : decode cX3_copyFrom 36 = .ok (.aload_n 0, 1) := by decide +kernel
theorem dX3_copyFrom_37 : decode cX3_copyFrom 37 = .ok (.getfield 15, 3) := by decide +kernel
theorem dX3_copyFrom_40 : decode cX3_copyFrom 40 = .ok (.iconst 0, 1) := by decide +kernel
theorem dX3_copyFrom_41 : decode cX3_copyFrom 41 = .ok (.bipush 6, 2) := by decide +kernel
theorem dX3_copyFrom_43 : decode cX3_copyFrom 43 = .ok (.invokestatic 28, 3) := by decide +kernel
theorem dX3_copyFrom_46 : decode cX3_copyFrom 46 = .ok (.aload_n 1, 1) := by decide +kernel
theorem dX3_copyFrom_47 : decode cX3_copyFrom 47 = .ok (.getfield 18, 3) := by decide +kernel
theorem dX3_copyFrom_50 : decode cX3_copyFrom 50 = .ok (.iconst 0, 1) := by decide +kernel
theorem dX3_copyFrom_51 : decode cX3_copyFrom 51 = .ok (.aload_n 0, 1) := by decide +kernel
theorem dX3_copyFrom_52 : decode cX3_copyFrom 52 = .ok (.getfield 18, 3) := by decide +kernel
theorem dX3_copyFrom_55 : decode cX3_copyFrom 55 = .ok (.iconst 0, 1) := by decide +kernel
theorem dX3_copyFrom_56 : decode cX3_copyFrom 56 = .ok (.bipush 6, 2) := by decide +kernel
theorem dX3_copyFrom_58 : decode cX3_copyFrom 58 = .ok (.invokestatic 28, 3) := by decide +kernel
theorem dX3_copyFrom_61 : decode cX3_copyFrom 61 = .ok (.return_, 1) := by decide +kernel
theorem dX3_becomeEmpty_0 : decode cX3_becomeEmpty 0 = .ok (.aload_n 0, 1) := by decide +kernel
theorem dX3_becomeEmpty_1 : decode cX3_becomeEmpty 1 = .ok (.iload_n 1, 1) := by decide +kernel
theorem dX3_becomeEmpty_2 : decode cX3_becomeEmpty 2 = .ok (.putfield 21, 3) := by decide +kernel
theorem dX3_becomeEmpty_5 : decode cX3_becomeEmpty 5 = .ok (.aload_n 0, 1) := by decide +kernel
theorem dX3_becomeEmpty_6 : decode cX3_becomeEmpty 6 = .ok (.iconst 0, 1) := by decide +kernel
theorem dX3_becomeEmpty_7 : decode cX3_becomeEmpty 7 = .ok (.putfield 25, 3) := by decide +kernel
theorem dX3_becomeEmpty_10 : decode cX3_becomeEmpty 10 = .ok (.return_, 1) := by decide +kernel
theorem dX3_becomeBook_0 : decode cX3_becomeBook 0 = .ok (.aload_n 0, 1) := by decide +kernel
theorem dX3_becomeBook_1 : decode cX3_becomeBook 1 = .ok (.iload_n 1, 1) := by decide +kernel
theorem dX3_becomeBook_2 : decode cX3_becomeBook 2 = .ok (.invokevirtual 34, 3) := by decide +kernel
theorem dX3_becomeBook_5 : decode cX3_becomeBook 5 = .ok (.iconst 1, 1) := by decide +kernel
theorem dX3_becomeBook_6 : decode cX3_becomeBook 6 = .ok (.istore_n 2, 1) := by decide +kernel
theorem dX3_becomeBook_7 : decode cX3_becomeBook 7 = .ok (.iload_n 2, 1) := by decide +kernel
theorem dX3_becomeBook_8 : decode cX3_becomeBook 8 = .ok (.aload_n 0, 1) := by decide +kernel
theorem dX3_becomeBook_9 : decode cX3_becomeBook 9 = .ok (.invokevirtual 38, 3) := by decide +kernel
theorem dX3_becomeBook_12 : decode cX3_becomeBook 12 = .ok (.if_icmp .gt 17, 3) := by decide +kernel
theorem dX3_becomeBook_15 : decode cX3_becomeBook 15 = .ok (.aload_n 0, 1) := by decide +kernel
theorem dX3_becomeBook_16 : decode cX3_becomeBook 16 = .ok (.iload_n 2, 1) := by decide +kernel
theorem dX3_becomeBook_17 : decode cX3_becomeBook 17 = .ok (.iload_n 1, 1) := by decide +kernel
theorem dX3_becomeBook_18 : decode cX3_becomeBook 18 = .ok (.iload_n 2, 1) := by decide +kernel
theorem dX3_becomeBook_19 : decode cX3_becomeBook 19 = .ok (.isub, 1) := by decide +kernel
theorem dX3_becomeBook_20 : decode cX3_becomeBook 20 = .ok (.invokevirtual 42, 3) := by decide +kernel
theorem dX3_becomeBook_23 : decode cX3_becomeBook 23 = .ok (.iinc 2 1, 3) := by decide +kernel
theorem dX3_becomeBook_26 : decode cX3_becomeBook 26 = .ok (.goto (-19), 3) := by decide +kernel
theorem dX3_becomeBook_29 : decode cX3_becomeBook 29 = .ok (.return_, 1) := by decide +kernel
theorem dX3_append_0 : decode cX3_append 0 = .ok (.aload_n 0, 1) := by decide +kernel
theorem dX3_append_1 : decode cX3_append 1 = .ok (.getfield 25, 3) := by decide +kernel
theorem dX3_append_4 : decode cX3_append 4 = .ok (.bipush 6, 2) := by decide +kernel
theorem dX3_append_6 : decode cX3_append 6 = .ok (.if_icmp .ge 43, 3) := by decide +kernel
theorem dX3_append_9 : decode cX3_append 9 = .ok (.aload_n 0, 1) := by decide +kernel
theorem dX3_append_10 : decode cX3_append 10 = .ok (.getfield 9, 3) := by decide +kernel
theorem dX3_append_13 : decode cX3_append 13 = .ok (.aload_n 0, 1) := by decide +kernel
theorem dX3_append_14 : decode cX3_append 14 = .ok (.getfield 25, 3) := by decide +kernel
theorem dX3_append_17 : decode cX3_append 17 = .ok (.iload_n 1, 1) := by decide +kernel
theorem dX3_append_18 : decode cX3_append 18 = .ok (.iastore, 1) := by decide +kernel
theorem dX3_append_19 : decode cX3_append 19 = .ok (.aload_n 0, 1) := by decide +kernel
theorem dX3_append_20 : decode cX3_append 20 = .ok (.getfield 15, 3) := by decide +kernel
theorem dX3_append_23 : decode cX3_append 23 = .ok (.aload_n 0, 1) := by decide +kernel
theorem dX3_append_24 : decode cX3_append 24 = .ok (.getfield 25, 3) := by decide +kernel
theorem dX3_append_27 : decode cX3_append 27 = .ok (.iload_n 2, 1) := by decide +kernel
theorem dX3_append_28 : decode cX3_append 28 = .ok (.iastore, 1) := by decide +kernel
theorem dX3_append_29 : decode cX3_append 29 = .ok (.aload_n 0, 1) := by decide +kernel
theorem dX3_append_30 : decode cX3_append 30 = .ok (.getfield 18, 3) := by decide +kernel
theorem dX3_append_33 : decode cX3_append 33 = .ok (.aload_n 0, 1) := by decide +kernel
theorem dX3_append_34 : decode cX3_append 34 = .ok (.getfield 25, 3) := by decide +kernel
theorem dX3_append_37 : decode cX3_append 37 = .ok (.iconst 0, 1) := by decide +kernel
theorem dX3_append_38 : decode cX3_append 38 = .ok (.iastore, 1) := by decide +kernel
theorem dX3_append_39 : decode cX3_append 39 = .ok (.aload_n 0, 1) := by decide +kernel
theorem dX3_append_40 : decode cX3_append 40 = .ok (.dup, 1) := by decide +kernel
theorem dX3_append_41 : decode cX3_append 41 = .ok (.getfield 25, 3) := by decide +kernel
theorem dX3_append_44 : decode cX3_append 44 = .ok (.iconst 1, 1) := by decide +kernel
theorem dX3_append_45 : decode cX3_append 45 = .ok (.iadd, 1) := by decide +kernel
theorem dX3_append_46 : decode cX3_append 46 = .ok (.putfield 25, 3) := by decide +kernel
theorem dX3_append_49 : decode cX3_append 49 = .ok (.return_, 1) := by decide +kernel
theorem dX3_most_0 : decode cX3_most 0 = .ok (.aload_n 0, 1) := by decide +kernel
theorem dX3_most_1 : decode cX3_most 1 = .ok (.getfield 21, 3) := by decide +kernel
theorem dX3_most_4 : decode cX3_most 4 = .ok (.iconst 1, 1) := by decide +kernel
theorem dX3_most_5 : decode cX3_most 5 = .ok (.isub, 1) := by decide +kernel
theorem dX3_most_6 : decode cX3_most 6 = .ok (.iconst 2, 1) := by decide +kernel
theorem dX3_most_7 : decode cX3_most 7 = .ok (.idiv, 1) := by decide +kernel
theorem dX3_most_8 : decode cX3_most 8 = .ok (.ireturn, 1) := by decide +kernel
theorem dX3_has_0 : decode cX3_has 0 = .ok (.iload_n 1, 1) := by decide +kernel
theorem dX3_has_1 : decode cX3_has 1 = .ok (.ifCond .lt 15, 3) := by decide +kernel
theorem dX3_has_4 : decode cX3_has 4 = .ok (.iload_n 1, 1) := by decide +kernel
theorem dX3_has_5 : decode cX3_has 5 = .ok (.aload_n 0, 1) := by decide +kernel
theorem dX3_has_6 : decode cX3_has 6 = .ok (.getfield 25, 3) := by decide +kernel
theorem dX3_has_9 : decode cX3_has 9 = .ok (.if_icmp .ge 7, 3) := by decide +kernel
theorem dX3_has_12 : decode cX3_has 12 = .ok (.iconst 1, 1) := by decide +kernel
theorem dX3_has_13 : decode cX3_has 13 = .ok (.goto 4, 3) := by decide +kernel
theorem dX3_has_16 : decode cX3_has 16 = .ok (.iconst 0, 1) := by decide +kernel
theorem dX3_has_17 : decode cX3_has 17 = .ok (.ireturn, 1) := by decide +kernel
theorem dX3_numberAt_0 : decode cX3_numberAt 0 = .ok (.iload_n 1, 1) := by decide +kernel
theorem dX3_numberAt_1 : decode cX3_numberAt 1 = .ok (.iconst 2, 1) := by decide +kernel
theorem dX3_numberAt_2 : decode cX3_numberAt 2 = .ok (.irem, 1) := by decide +kernel
theorem dX3_numberAt_3 : decode cX3_numberAt 3 = .ok (.ifCond .ne 14, 3) := by decide +kernel
theorem dX3_numberAt_6 : decode cX3_numberAt 6 = .ok (.aload_n 0, 1) := by decide +kernel
theorem dX3_numberAt_7 : decode cX3_numberAt 7 = .ok (.getfield 9, 3) := by decide +kernel
theorem dX3_numberAt_10 : decode cX3_numberAt 10 = .ok (.iload_n 1, 1) := by decide +kernel
theorem dX3_numberAt_11 : decode cX3_numberAt 11 = .ok (.iconst 2, 1) := by decide +kernel
theorem dX3_numberAt_12 : decode cX3_numberAt 12 = .ok (.idiv, 1) := by decide +kernel
theorem dX3_numberAt_13 : decode cX3_numberAt 13 = .ok (.iaload, 1) := by decide +kernel
theorem dX3_numberAt_14 : decode cX3_numberAt 14 = .ok (.goto 11, 3) := by decide +kernel
theorem dX3_numberAt_17 : decode cX3_numberAt 17 = .ok (.aload_n 0, 1) := by decide +kernel
theorem dX3_numberAt_18 : decode cX3_numberAt 18 = .ok (.getfield 15, 3) := by decide +kernel
theorem dX3_numberAt_21 : decode cX3_numberAt 21 = .ok (.iload_n 1, 1) := by decide +kernel
theorem dX3_numberAt_22 : decode cX3_numberAt 22 = .ok (.iconst 2, 1) := by decide +kernel
theorem dX3_numberAt_23 : decode cX3_numberAt 23 = .ok (.idiv, 1) := by decide +kernel
theorem dX3_numberAt_24 : decode cX3_numberAt 24 = .ok (.iaload, 1) := by decide +kernel
theorem dX3_numberAt_25 : decode cX3_numberAt 25 = .ok (.ireturn, 1) := by decide +kernel
theorem dX3_told_0 : decode cX3_told 0 = .ok (.iload_n 2, 1) := by decide +kernel
theorem dX3_told_1 : decode cX3_told 1 = .ok (.tableswitch 73 0 3 #[31, 38, 45, 52], 31) := by decide +kernel
theorem dX3_told_32 : decode cX3_told 32 = .ok (.aload_n 0, 1) := by decide +kernel
theorem dX3_told_33 : decode cX3_told 33 = .ok (.getfield 9, 3) := by decide +kernel
theorem dX3_told_36 : decode cX3_told 36 = .ok (.iload_n 1, 1) := by decide +kernel
theorem dX3_told_37 : decode cX3_told 37 = .ok (.iaload, 1) := by decide +kernel
theorem dX3_told_38 : decode cX3_told 38 = .ok (.ireturn, 1) := by decide +kernel
theorem dX3_told_39 : decode cX3_told 39 = .ok (.aload_n 0, 1) := by decide +kernel
theorem dX3_told_40 : decode cX3_told 40 = .ok (.getfield 15, 3) := by decide +kernel
theorem dX3_told_43 : decode cX3_told 43 = .ok (.iload_n 1, 1) := by decide +kernel
theorem dX3_told_44 : decode cX3_told 44 = .ok (.iaload, 1) := by decide +kernel
theorem dX3_told_45 : decode cX3_told 45 = .ok (.ireturn, 1) := by decide +kernel
theorem dX3_told_46 : decode cX3_told 46 = .ok (.aload_n 0, 1) := by decide +kernel
theorem dX3_told_47 : decode cX3_told 47 = .ok (.getfield 18, 3) := by decide +kernel
theorem dX3_told_50 : decode cX3_told 50 = .ok (.iload_n 1, 1) := by decide +kernel
theorem dX3_told_51 : decode cX3_told 51 = .ok (.iaload, 1) := by decide +kernel
theorem dX3_told_52 : decode cX3_told 52 = .ok (.ireturn, 1) := by decide +kernel
theorem dX3_told_53 : decode cX3_told 53 = .ok (.aload_n 0, 1) := by decide +kernel
theorem dX3_told_54 : decode cX3_told 54 = .ok (.getfield 9, 3) := by decide +kernel
theorem dX3_told_57 : decode cX3_told 57 = .ok (.iload_n 1, 1) := by decide +kernel
theorem dX3_told_58 : decode cX3_told 58 = .ok (.iaload, 1) := by decide +kernel
theorem dX3_told_59 : decode cX3_told 59 = .ok (.aload_n 0, 1) := by decide +kernel
theorem dX3_told_60 : decode cX3_told 60 = .ok (.getfield 15, 3) := by decide +kernel
theorem dX3_told_63 : decode cX3_told 63 = .ok (.iload_n 1, 1) := by decide +kernel
theorem dX3_told_64 : decode cX3_told 64 = .ok (.iaload, 1) := by decide +kernel
theorem dX3_told_65 : decode cX3_told 65 = .ok (.iadd, 1) := by decide +kernel
theorem dX3_told_66 : decode cX3_told 66 = .ok (.aload_n 0, 1) := by decide +kernel
theorem dX3_told_67 : decode cX3_told 67 = .ok (.getfield 21, 3) := by decide +kernel
theorem dX3_told_70 : decode cX3_told 70 = .ok (.invokestatic 46, 3) := by decide +kernel
theorem dX3_told_73 : decode cX3_told 73 = .ok (.ireturn, 1) := by decide +kernel
theorem dX3_told_74 : decode cX3_told 74 = .ok (.aload_n 0, 1) := by decide +kernel
theorem dX3_told_75 : decode cX3_told 75 = .ok (.iload_n 1, 1) := by decide +kernel
theorem dX3_told_76 : decode cX3_told 76 = .ok (.invokevirtual 50, 3) := by decide +kernel
theorem dX3_told_79 : decode cX3_told 79 = .ok (.ireturn, 1) := by decide +kernel
theorem dX3_lesserDifference_0 : decode cX3_lesserDifference 0 = .ok (.aload_n 0, 1) := by decide +kernel
theorem dX3_lesserDifference_1 : decode cX3_lesserDifference 1 = .ok (.getfield 9, 3) := by decide +kernel
theorem dX3_lesserDifference_4 : decode cX3_lesserDifference 4 = .ok (.iload_n 1, 1) := by decide +kernel
theorem dX3_lesserDifference_5 : decode cX3_lesserDifference 5 = .ok (.iaload, 1) := by decide +kernel
theorem dX3_lesserDifference_6 : decode cX3_lesserDifference 6 = .ok (.aload_n 0, 1) := by decide +kernel
theorem dX3_lesserDifference_7 : decode cX3_lesserDifference 7 = .ok (.getfield 15, 3) := by decide +kernel
theorem dX3_lesserDifference_10 : decode cX3_lesserDifference 10 = .ok (.iload_n 1, 1) := by decide +kernel
theorem dX3_lesserDifference_11 : decode cX3_lesserDifference 11 = .ok (.iaload, 1) := by decide +kernel
theorem dX3_lesserDifference_12 : decode cX3_lesserDifference 12 = .ok (.isub, 1) := by decide +kernel
theorem dX3_lesserDifference_13 : decode cX3_lesserDifference 13 = .ok (.aload_n 0, 1) := by decide +kernel
theorem dX3_lesserDifference_14 : decode cX3_lesserDifference 14 = .ok (.getfield 21, 3) := by decide +kernel
theorem dX3_lesserDifference_17 : decode cX3_lesserDifference 17 = .ok (.invokestatic 46, 3) := by decide +kernel
theorem dX3_lesserDifference_20 : decode cX3_lesserDifference 20 = .ok (.istore_n 2, 1) := by decide +kernel
theorem dX3_lesserDifference_21 : decode cX3_lesserDifference 21 = .ok (.iload_n 2, 1) := by decide +kernel
theorem dX3_lesserDifference_22 : decode cX3_lesserDifference 22 = .ok (.aload_n 0, 1) := by decide +kernel
theorem dX3_lesserDifference_23 : decode cX3_lesserDifference 23 = .ok (.getfield 21, 3) := by decide +kernel
theorem dX3_lesserDifference_26 : decode cX3_lesserDifference 26 = .ok (.iload_n 2, 1) := by decide +kernel
theorem dX3_lesserDifference_27 : decode cX3_lesserDifference 27 = .ok (.isub, 1) := by decide +kernel
theorem dX3_lesserDifference_28 : decode cX3_lesserDifference 28 = .ok (.invokestatic 54, 3) := by decide +kernel
theorem dX3_lesserDifference_31 : decode cX3_lesserDifference 31 = .ok (.ireturn, 1) := by decide +kernel
theorem dX3_areSuch_0 : decode cX3_areSuch 0 = .ok (.iload_n 1, 1) := by decide +kernel
theorem dX3_areSuch_1 : decode cX3_areSuch 1 = .ok (.tableswitch 88 0 3 #[31, 36, 41, 61], 31) := by decide +kernel
theorem dX3_areSuch_32 : decode cX3_areSuch 32 = .ok (.aload_n 0, 1) := by decide +kernel
theorem dX3_areSuch_33 : decode cX3_areSuch 33 = .ok (.invokevirtual 59, 3) := by decide +kernel
theorem dX3_areSuch_36 : decode cX3_areSuch 36 = .ok (.ireturn, 1) := by decide +kernel
theorem dX3_areSuch_37 : decode cX3_areSuch 37 = .ok (.aload_n 0, 1) := by decide +kernel
theorem dX3_areSuch_38 : decode cX3_areSuch 38 = .ok (.invokevirtual 63, 3) := by decide +kernel
theorem dX3_areSuch_41 : decode cX3_areSuch 41 = .ok (.ireturn, 1) := by decide +kernel
theorem dX3_areSuch_42 : decode cX3_areSuch 42 = .ok (.aload_n 0, 1) := by decide +kernel
theorem dX3_areSuch_43 : decode cX3_areSuch 43 = .ok (.invokevirtual 63, 3) := by decide +kernel
theorem dX3_areSuch_46 : decode cX3_areSuch 46 = .ok (.ifCond .eq 14, 3) := by decide +kernel
theorem dX3_areSuch_49 : decode cX3_areSuch 49 = .ok (.aload_n 0, 1) := by decide +kernel
theorem dX3_areSuch_50 : decode cX3_areSuch 50 = .ok (.invokevirtual 66, 3) := by decide +kernel
theorem dX3_areSuch_53 : decode cX3_areSuch 53 = .ok (.ifCond .eq 7, 3) := by decide +kernel
theorem dX3_areSuch_56 : decode cX3_areSuch 56 = .ok (.iconst 1, 1) := by decide +kernel
theorem dX3_areSuch_57 : decode cX3_areSuch 57 = .ok (.goto 4, 3) := by decide +kernel
theorem dX3_areSuch_60 : decode cX3_areSuch 60 = .ok (.iconst 0, 1) := by decide +kernel
theorem dX3_areSuch_61 : decode cX3_areSuch 61 = .ok (.ireturn, 1) := by decide +kernel
theorem dX3_areSuch_62 : decode cX3_areSuch 62 = .ok (.aload_n 0, 1) := by decide +kernel
theorem dX3_areSuch_63 : decode cX3_areSuch 63 = .ok (.invokevirtual 63, 3) := by decide +kernel
theorem dX3_areSuch_66 : decode cX3_areSuch 66 = .ok (.ifCond .eq 21, 3) := by decide +kernel
theorem dX3_areSuch_69 : decode cX3_areSuch 69 = .ok (.aload_n 0, 1) := by decide +kernel
theorem dX3_areSuch_70 : decode cX3_areSuch 70 = .ok (.invokevirtual 66, 3) := by decide +kernel
theorem dX3_areSuch_73 : decode cX3_areSuch 73 = .ok (.ifCond .eq 14, 3) := by decide +kernel
theorem dX3_areSuch_76 : decode cX3_areSuch 76 = .ok (.aload_n 0, 1) := by decide +kernel
theorem dX3_areSuch_77 : decode cX3_areSuch 77 = .ok (.invokevirtual 69, 3) := by decide +kernel
theorem dX3_areSuch_80 : decode cX3_areSuch 80 = .ok (.ifCond .eq 7, 3) := by decide +kernel
theorem dX3_areSuch_83 : decode cX3_areSuch 83 = .ok (.iconst 1, 1) := by decide +kernel
theorem dX3_areSuch_84 : decode cX3_areSuch 84 = .ok (.goto 4, 3) := by decide +kernel
theorem dX3_areSuch_87 : decode cX3_areSuch 87 = .ok (.iconst 0, 1) := by decide +kernel
theorem dX3_areSuch_88 : decode cX3_areSuch 88 = .ok (.ireturn, 1) := by decide +kernel
theorem dX3_areSuch_89 : decode cX3_areSuch 89 = .ok (.aload_n 0, 1) := by decide +kernel
theorem dX3_areSuch_90 : decode cX3_areSuch 90 = .ok (.invokevirtual 72, 3) := by decide +kernel
theorem dX3_areSuch_93 : decode cX3_areSuch 93 = .ok (.ireturn, 1) := by decide +kernel
theorem dX3_areWhole_0 : decode cX3_areWhole 0 = .ok (.aload_n 0, 1) := by decide +kernel
theorem dX3_areWhole_1 : decode cX3_areWhole 1 = .ok (.getfield 25, 3) := by decide +kernel
theorem dX3_areWhole_4 : decode cX3_areWhole 4 = .ok (.aload_n 0, 1) := by decide +kernel
theorem dX3_areWhole_5 : decode cX3_areWhole 5 = .ok (.invokevirtual 38, 3) := by decide +kernel
theorem dX3_areWhole_8 : decode cX3_areWhole 8 = .ok (.if_icmp .ne 7, 3) := by decide +kernel
theorem dX3_areWhole_11 : decode cX3_areWhole 11 = .ok (.iconst 1, 1) := by decide +kernel
theorem dX3_areWhole_12 : decode cX3_areWhole 12 = .ok (.goto 4, 3) := by decide +kernel
theorem dX3_areWhole_15 : decode cX3_areWhole 15 = .ok (.iconst 0, 1) := by decide +kernel
theorem dX3_areWhole_16 : decode cX3_areWhole 16 = .ok (.ireturn, 1) := by decide +kernel
theorem dX3_areStarter_0 : decode cX3_areStarter 0 = .ok (.aload_n 0, 1) := by decide +kernel
theorem dX3_areStarter_1 : decode cX3_areStarter 1 = .ok (.invokevirtual 59, 3) := by decide +kernel
theorem dX3_areStarter_4 : decode cX3_areStarter 4 = .ok (.ifCond .eq 29, 3) := by decide +kernel
theorem dX3_areStarter_7 : decode cX3_areStarter 7 = .ok (.aload_n 0, 1) := by decide +kernel
theorem dX3_areStarter_8 : decode cX3_areStarter 8 = .ok (.invokevirtual 75, 3) := by decide +kernel
theorem dX3_areStarter_11 : decode cX3_areStarter 11 = .ok (.aload_n 0, 1) := by decide +kernel
theorem dX3_areStarter_12 : decode cX3_areStarter 12 = .ok (.invokevirtual 78, 3) := by decide +kernel
theorem dX3_areStarter_15 : decode cX3_areStarter 15 = .ok (.if_icmp .ne 18, 3) := by decide +kernel
theorem dX3_areStarter_18 : decode cX3_areStarter 18 = .ok (.aload_n 0, 1) := by decide +kernel
theorem dX3_areStarter_19 : decode cX3_areStarter 19 = .ok (.invokevirtual 81, 3) := by decide +kernel
theorem dX3_areStarter_22 : decode cX3_areStarter 22 = .ok (.aload_n 0, 1) := by decide +kernel
theorem dX3_areStarter_23 : decode cX3_areStarter 23 = .ok (.invokevirtual 78, 3) := by decide +kernel
theorem dX3_areStarter_26 : decode cX3_areStarter 26 = .ok (.if_icmp .ne 7, 3) := by decide +kernel
theorem dX3_areStarter_29 : decode cX3_areStarter 29 = .ok (.iconst 1, 1) := by decide +kernel
theorem dX3_areStarter_30 : decode cX3_areStarter 30 = .ok (.goto 4, 3) := by decide +kernel
theorem dX3_areStarter_33 : decode cX3_areStarter 33 = .ok (.iconst 0, 1) := by decide +kernel
theorem dX3_areStarter_34 : decode cX3_areStarter 34 = .ok (.ireturn, 1) := by decide +kernel
theorem dX3_haveStrongSums_0 : decode cX3_haveStrongSums 0 = .ok (.aload_n 0, 1) := by decide +kernel
theorem dX3_haveStrongSums_1 : decode cX3_haveStrongSums 1 = .ok (.invokevirtual 84, 3) := by decide +kernel
theorem dX3_haveStrongSums_4 : decode cX3_haveStrongSums 4 = .ok (.istore_n 1, 1) := by decide +kernel
theorem dX3_haveStrongSums_5 : decode cX3_haveStrongSums 5 = .ok (.iload_n 1, 1) := by decide +kernel
theorem dX3_haveStrongSums_6 : decode cX3_haveStrongSums 6 = .ok (.iconst 1, 1) := by decide +kernel
theorem dX3_haveStrongSums_7 : decode cX3_haveStrongSums 7 = .ok (.iand, 1) := by decide +kernel
theorem dX3_haveStrongSums_8 : decode cX3_haveStrongSums 8 = .ok (.ifCond .ne 18, 3) := by decide +kernel
theorem dX3_haveStrongSums_11 : decode cX3_haveStrongSums 11 = .ok (.iload_n 1, 1) := by decide +kernel
theorem dX3_haveStrongSums_12 : decode cX3_haveStrongSums 12 = .ok (.invokestatic 87, 3) := by decide +kernel
theorem dX3_haveStrongSums_15 : decode cX3_haveStrongSums 15 = .ok (.aload_n 0, 1) := by decide +kernel
theorem dX3_haveStrongSums_16 : decode cX3_haveStrongSums 16 = .ok (.getfield 25, 3) := by decide +kernel
theorem dX3_haveStrongSums_19 : decode cX3_haveStrongSums 19 = .ok (.if_icmp .ne 7, 3) := by decide +kernel
theorem dX3_haveStrongSums_22 : decode cX3_haveStrongSums 22 = .ok (.iconst 1, 1) := by decide +kernel
theorem dX3_haveStrongSums_23 : decode cX3_haveStrongSums 23 = .ok (.goto 4, 3) := by decide +kernel
theorem dX3_haveStrongSums_26 : decode cX3_haveStrongSums 26 = .ok (.iconst 0, 1) := by decide +kernel
theorem dX3_haveStrongSums_27 : decode cX3_haveStrongSums 27 = .ok (.ireturn, 1) := by decide +kernel
theorem dX3_haveSkewSums_0 : decode cX3_haveSkewSums 0 = .ok (.aload_n 0, 1) := by decide +kernel
theorem dX3_haveSkewSums_1 : decode cX3_haveSkewSums 1 = .ok (.invokevirtual 84, 3) := by decide +kernel
theorem dX3_haveSkewSums_4 : decode cX3_haveSkewSums 4 = .ok (.istore_n 1, 1) := by decide +kernel
theorem dX3_haveSkewSums_5 : decode cX3_haveSkewSums 5 = .ok (.iconst 0, 1) := by decide +kernel
theorem dX3_haveSkewSums_6 : decode cX3_haveSkewSums 6 = .ok (.istore_n 2, 1) := by decide +kernel
theorem dX3_haveSkewSums_7 : decode cX3_haveSkewSums 7 = .ok (.iload_n 2, 1) := by decide +kernel
theorem dX3_haveSkewSums_8 : decode cX3_haveSkewSums 8 = .ok (.aload_n 0, 1) := by decide +kernel
theorem dX3_haveSkewSums_9 : decode cX3_haveSkewSums 9 = .ok (.getfield 25, 3) := by decide +kernel
theorem dX3_haveSkewSums_12 : decode cX3_haveSkewSums 12 = .ok (.if_icmp .ge 41, 3) := by decide +kernel
theorem dX3_haveSkewSums_15 : decode cX3_haveSkewSums 15 = .ok (.aload_n 0, 1) := by decide +kernel
theorem dX3_haveSkewSums_16 : decode cX3_haveSkewSums 16 = .ok (.getfield 9, 3) := by decide +kernel
theorem dX3_haveSkewSums_19 : decode cX3_haveSkewSums 19 = .ok (.iload_n 2, 1) := by decide +kernel
theorem dX3_haveSkewSums_20 : decode cX3_haveSkewSums 20 = .ok (.iaload, 1) := by decide +kernel
theorem dX3_haveSkewSums_21 : decode cX3_haveSkewSums 21 = .ok (.aload_n 0, 1) := by decide +kernel
theorem dX3_haveSkewSums_22 : decode cX3_haveSkewSums 22 = .ok (.getfield 15, 3) := by decide +kernel
theorem dX3_haveSkewSums_25 : decode cX3_haveSkewSums 25 = .ok (.iload_n 2, 1) := by decide +kernel
theorem dX3_haveSkewSums_26 : decode cX3_haveSkewSums 26 = .ok (.iaload, 1) := by decide +kernel
theorem dX3_haveSkewSums_27 : decode cX3_haveSkewSums 27 = .ok (.iadd, 1) := by decide +kernel
theorem dX3_haveSkewSums_28 : decode cX3_haveSkewSums 28 = .ok (.ineg, 1) := by decide +kernel
theorem dX3_haveSkewSums_29 : decode cX3_haveSkewSums 29 = .ok (.aload_n 0, 1) := by decide +kernel
theorem dX3_haveSkewSums_30 : decode cX3_haveSkewSums 30 = .ok (.getfield 21, 3) := by decide +kernel
theorem dX3_haveSkewSums_33 : decode cX3_haveSkewSums 33 = .ok (.invokestatic 46, 3) := by decide +kernel
theorem dX3_haveSkewSums_36 : decode cX3_haveSkewSums 36 = .ok (.istore_n 3, 1) := by decide +kernel
theorem dX3_haveSkewSums_37 : decode cX3_haveSkewSums 37 = .ok (.iload_n 1, 1) := by decide +kernel
theorem dX3_haveSkewSums_38 : decode cX3_haveSkewSums 38 = .ok (.iload_n 3, 1) := by decide +kernel
theorem dX3_haveSkewSums_39 : decode cX3_haveSkewSums 39 = .ok (.ishr, 1) := by decide +kernel
theorem dX3_haveSkewSums_40 : decode cX3_haveSkewSums 40 = .ok (.iconst 1, 1) := by decide +kernel
theorem dX3_haveSkewSums_41 : decode cX3_haveSkewSums 41 = .ok (.iand, 1) := by decide +kernel
theorem dX3_haveSkewSums_42 : decode cX3_haveSkewSums 42 = .ok (.ifCond .eq 5, 3) := by decide +kernel
theorem dX3_haveSkewSums_45 : decode cX3_haveSkewSums 45 = .ok (.iconst 0, 1) := by decide +kernel
theorem dX3_haveSkewSums_46 : decode cX3_haveSkewSums 46 = .ok (.ireturn, 1) := by decide +kernel
theorem dX3_haveSkewSums_47 : decode cX3_haveSkewSums 47 = .ok (.iinc 2 1, 3) := by decide +kernel
theorem dX3_haveSkewSums_50 : decode cX3_haveSkewSums 50 = .ok (.goto (-43), 3) := by decide +kernel
theorem dX3_haveSkewSums_53 : decode cX3_haveSkewSums 53 = .ok (.iconst 1, 1) := by decide +kernel
theorem dX3_haveSkewSums_54 : decode cX3_haveSkewSums 54 = .ok (.ireturn, 1) := by decide +kernel
theorem dX3_areAdded_0 : decode cX3_areAdded 0 = .ok (.aload_n 0, 1) := by decide +kernel
theorem dX3_areAdded_1 : decode cX3_areAdded 1 = .ok (.invokevirtual 63, 3) := by decide +kernel
theorem dX3_areAdded_4 : decode cX3_areAdded 4 = .ok (.ifCond .ne 5, 3) := by decide +kernel
theorem dX3_areAdded_7 : decode cX3_areAdded 7 = .ok (.iconst 0, 1) := by decide +kernel
theorem dX3_areAdded_8 : decode cX3_areAdded 8 = .ok (.ireturn, 1) := by decide +kernel
theorem dX3_areAdded_9 : decode cX3_areAdded 9 = .ok (.iconst 0, 1) := by decide +kernel
theorem dX3_areAdded_10 : decode cX3_areAdded 10 = .ok (.istore_n 1, 1) := by decide +kernel
theorem dX3_areAdded_11 : decode cX3_areAdded 11 = .ok (.iconst 0, 1) := by decide +kernel
theorem dX3_areAdded_12 : decode cX3_areAdded 12 = .ok (.istore_n 2, 1) := by decide +kernel
theorem dX3_areAdded_13 : decode cX3_areAdded 13 = .ok (.iconst 0, 1) := by decide +kernel
theorem dX3_areAdded_14 : decode cX3_areAdded 14 = .ok (.istore_n 3, 1) := by decide +kernel
theorem dX3_areAdded_15 : decode cX3_areAdded 15 = .ok (.iload_n 3, 1) := by decide +kernel
theorem dX3_areAdded_16 : decode cX3_areAdded 16 = .ok (.aload_n 0, 1) := by decide +kernel
theorem dX3_areAdded_17 : decode cX3_areAdded 17 = .ok (.getfield 25, 3) := by decide +kernel
theorem dX3_areAdded_20 : decode cX3_areAdded 20 = .ok (.if_icmp .ge 70, 3) := by decide +kernel
theorem dX3_areAdded_23 : decode cX3_areAdded 23 = .ok (.iload_n 1, 1) := by decide +kernel
theorem dX3_areAdded_24 : decode cX3_areAdded 24 = .ok (.iconst 1, 1) := by decide +kernel
theorem dX3_areAdded_25 : decode cX3_areAdded 25 = .ok (.aload_n 0, 1) := by decide +kernel
theorem dX3_areAdded_26 : decode cX3_areAdded 26 = .ok (.getfield 18, 3) := by decide +kernel
theorem dX3_areAdded_29 : decode cX3_areAdded 29 = .ok (.iload_n 3, 1) := by decide +kernel
theorem dX3_areAdded_30 : decode cX3_areAdded 30 = .ok (.iaload, 1) := by decide +kernel
theorem dX3_areAdded_31 : decode cX3_areAdded 31 = .ok (.ishl, 1) := by decide +kernel
theorem dX3_areAdded_32 : decode cX3_areAdded 32 = .ok (.ior, 1) := by decide +kernel
theorem dX3_areAdded_33 : decode cX3_areAdded 33 = .ok (.istore_n 1, 1) := by decide +kernel
theorem dX3_areAdded_34 : decode cX3_areAdded 34 = .ok (.iload_n 2, 1) := by decide +kernel
theorem dX3_areAdded_35 : decode cX3_areAdded 35 = .ok (.iconst 1, 1) := by decide +kernel
theorem dX3_areAdded_36 : decode cX3_areAdded 36 = .ok (.aload_n 0, 1) := by decide +kernel
theorem dX3_areAdded_37 : decode cX3_areAdded 37 = .ok (.getfield 9, 3) := by decide +kernel
theorem dX3_areAdded_40 : decode cX3_areAdded 40 = .ok (.iload_n 3, 1) := by decide +kernel
theorem dX3_areAdded_41 : decode cX3_areAdded 41 = .ok (.iaload, 1) := by decide +kernel
theorem dX3_areAdded_42 : decode cX3_areAdded 42 = .ok (.aload_n 0, 1) := by decide +kernel
theorem dX3_areAdded_43 : decode cX3_areAdded 43 = .ok (.getfield 18, 3) := by decide +kernel
theorem dX3_areAdded_46 : decode cX3_areAdded 46 = .ok (.iload_n 3, 1) := by decide +kernel
theorem dX3_areAdded_47 : decode cX3_areAdded 47 = .ok (.iaload, 1) := by decide +kernel
theorem dX3_areAdded_48 : decode cX3_areAdded 48 = .ok (.iadd, 1) := by decide +kernel
theorem dX3_areAdded_49 : decode cX3_areAdded 49 = .ok (.aload_n 0, 1) := by decide +kernel
theorem dX3_areAdded_50 : decode cX3_areAdded 50 = .ok (.getfield 21, 3) := by decide +kernel
theorem dX3_areAdded_53 : decode cX3_areAdded 53 = .ok (.invokestatic 46, 3) := by decide +kernel
theorem dX3_areAdded_56 : decode cX3_areAdded 56 = .ok (.ishl, 1) := by decide +kernel
theorem dX3_areAdded_57 : decode cX3_areAdded 57 = .ok (.ior, 1) := by decide +kernel
theorem dX3_areAdded_58 : decode cX3_areAdded 58 = .ok (.istore_n 2, 1) := by decide +kernel
theorem dX3_areAdded_59 : decode cX3_areAdded 59 = .ok (.iload_n 2, 1) := by decide +kernel
theorem dX3_areAdded_60 : decode cX3_areAdded 60 = .ok (.iconst 1, 1) := by decide +kernel
theorem dX3_areAdded_61 : decode cX3_areAdded 61 = .ok (.aload_n 0, 1) := by decide +kernel
theorem dX3_areAdded_62 : decode cX3_areAdded 62 = .ok (.getfield 15, 3) := by decide +kernel
theorem dX3_areAdded_65 : decode cX3_areAdded 65 = .ok (.iload_n 3, 1) := by decide +kernel
theorem dX3_areAdded_66 : decode cX3_areAdded 66 = .ok (.iaload, 1) := by decide +kernel
theorem dX3_areAdded_67 : decode cX3_areAdded 67 = .ok (.aload_n 0, 1) := by decide +kernel
theorem dX3_areAdded_68 : decode cX3_areAdded 68 = .ok (.getfield 18, 3) := by decide +kernel
theorem dX3_areAdded_71 : decode cX3_areAdded 71 = .ok (.iload_n 3, 1) := by decide +kernel
theorem dX3_areAdded_72 : decode cX3_areAdded 72 = .ok (.iaload, 1) := by decide +kernel
theorem dX3_areAdded_73 : decode cX3_areAdded 73 = .ok (.iadd, 1) := by decide +kernel
theorem dX3_areAdded_74 : decode cX3_areAdded 74 = .ok (.aload_n 0, 1) := by decide +kernel
theorem dX3_areAdded_75 : decode cX3_areAdded 75 = .ok (.getfield 21, 3) := by decide +kernel
theorem dX3_areAdded_78 : decode cX3_areAdded 78 = .ok (.invokestatic 46, 3) := by decide +kernel
theorem dX3_areAdded_81 : decode cX3_areAdded 81 = .ok (.ishl, 1) := by decide +kernel
theorem dX3_areAdded_82 : decode cX3_areAdded 82 = .ok (.ior, 1) := by decide +kernel
theorem dX3_areAdded_83 : decode cX3_areAdded 83 = .ok (.istore_n 2, 1) := by decide +kernel
theorem dX3_areAdded_84 : decode cX3_areAdded 84 = .ok (.iinc 3 1, 3) := by decide +kernel
theorem dX3_areAdded_87 : decode cX3_areAdded 87 = .ok (.goto (-72), 3) := by decide +kernel
theorem dX3_areAdded_90 : decode cX3_areAdded 90 = .ok (.iload_n 1, 1) := by decide +kernel
theorem dX3_areAdded_91 : decode cX3_areAdded 91 = .ok (.iconst 1, 1) := by decide +kernel
theorem dX3_areAdded_92 : decode cX3_areAdded 92 = .ok (.iand, 1) := by decide +kernel
theorem dX3_areAdded_93 : decode cX3_areAdded 93 = .ok (.ifCond .ne 26, 3) := by decide +kernel
theorem dX3_areAdded_96 : decode cX3_areAdded 96 = .ok (.iload_n 1, 1) := by decide +kernel
theorem dX3_areAdded_97 : decode cX3_areAdded 97 = .ok (.invokestatic 87, 3) := by decide +kernel
theorem dX3_areAdded_100 : decode cX3_areAdded 100 = .ok (.aload_n 0, 1) := by decide +kernel
theorem dX3_areAdded_101 : decode cX3_areAdded 101 = .ok (.getfield 25, 3) := by decide +kernel
theorem dX3_areAdded_104 : decode cX3_areAdded 104 = .ok (.if_icmp .ne 15, 3) := by decide +kernel
theorem dX3_areAdded_107 : decode cX3_areAdded 107 = .ok (.iload_n 2, 1) := by decide +kernel
theorem dX3_areAdded_108 : decode cX3_areAdded 108 = .ok (.aload_n 0, 1) := by decide +kernel
theorem dX3_areAdded_109 : decode cX3_areAdded 109 = .ok (.invokevirtual 78, 3) := by decide +kernel
theorem dX3_areAdded_112 : decode cX3_areAdded 112 = .ok (.if_icmp .ne 7, 3) := by decide +kernel
theorem dX3_areAdded_115 : decode cX3_areAdded 115 = .ok (.iconst 1, 1) := by decide +kernel
theorem dX3_areAdded_116 : decode cX3_areAdded 116 = .ok (.goto 4, 3) := by decide +kernel
theorem dX3_areAdded_119 : decode cX3_areAdded 119 = .ok (.iconst 0, 1) := by decide +kernel
theorem dX3_areAdded_120 : decode cX3_areAdded 120 = .ok (.ireturn, 1) := by decide +kernel
theorem dX3_canBe_0 : decode cX3_canBe 0 = .ok (.iconst 0, 1) := by decide +kernel
theorem dX3_canBe_1 : decode cX3_canBe 1 = .ok (.istore_n 1, 1) := by decide +kernel
theorem dX3_canBe_2 : decode cX3_canBe 2 = .ok (.iload_n 1, 1) := by decide +kernel
theorem dX3_canBe_3 : decode cX3_canBe 3 = .ok (.aload_n 0, 1) := by decide +kernel
theorem dX3_canBe_4 : decode cX3_canBe 4 = .ok (.getfield 25, 3) := by decide +kernel
theorem dX3_canBe_7 : decode cX3_canBe 7 = .ok (.if_icmp .ge 44, 3) := by decide +kernel
theorem dX3_canBe_10 : decode cX3_canBe 10 = .ok (.aload_n 0, 1) := by decide +kernel
theorem dX3_canBe_11 : decode cX3_canBe 11 = .ok (.getfield 9, 3) := by decide +kernel
theorem dX3_canBe_14 : decode cX3_canBe 14 = .ok (.iload_n 1, 1) := by decide +kernel
theorem dX3_canBe_15 : decode cX3_canBe 15 = .ok (.iaload, 1) := by decide +kernel
theorem dX3_canBe_16 : decode cX3_canBe 16 = .ok (.ifCond .eq 27, 3) := by decide +kernel
theorem dX3_canBe_19 : decode cX3_canBe 19 = .ok (.aload_n 0, 1) := by decide +kernel
theorem dX3_canBe_20 : decode cX3_canBe 20 = .ok (.getfield 15, 3) := by decide +kernel
theorem dX3_canBe_23 : decode cX3_canBe 23 = .ok (.iload_n 1, 1) := by decide +kernel
theorem dX3_canBe_24 : decode cX3_canBe 24 = .ok (.iaload, 1) := by decide +kernel
theorem dX3_canBe_25 : decode cX3_canBe 25 = .ok (.ifCond .eq 18, 3) := by decide +kernel
theorem dX3_canBe_28 : decode cX3_canBe 28 = .ok (.aload_n 0, 1) := by decide +kernel
theorem dX3_canBe_29 : decode cX3_canBe 29 = .ok (.getfield 9, 3) := by decide +kernel
theorem dX3_canBe_32 : decode cX3_canBe 32 = .ok (.iload_n 1, 1) := by decide +kernel
theorem dX3_canBe_33 : decode cX3_canBe 33 = .ok (.iaload, 1) := by decide +kernel
theorem dX3_canBe_34 : decode cX3_canBe 34 = .ok (.aload_n 0, 1) := by decide +kernel
theorem dX3_canBe_35 : decode cX3_canBe 35 = .ok (.getfield 15, 3) := by decide +kernel
theorem dX3_canBe_38 : decode cX3_canBe 38 = .ok (.iload_n 1, 1) := by decide +kernel
theorem dX3_canBe_39 : decode cX3_canBe 39 = .ok (.iaload, 1) := by decide +kernel
theorem dX3_canBe_40 : decode cX3_canBe 40 = .ok (.if_icmp .ne 5, 3) := by decide +kernel
theorem dX3_canBe_43 : decode cX3_canBe 43 = .ok (.iconst 0, 1) := by decide +kernel
theorem dX3_canBe_44 : decode cX3_canBe 44 = .ok (.ireturn, 1) := by decide +kernel
theorem dX3_canBe_45 : decode cX3_canBe 45 = .ok (.iinc 1 1, 3) := by decide +kernel
theorem dX3_canBe_48 : decode cX3_canBe 48 = .ok (.goto (-46), 3) := by decide +kernel
theorem dX3_canBe_51 : decode cX3_canBe 51 = .ok (.iconst 1, 1) := by decide +kernel
theorem dX3_canBe_52 : decode cX3_canBe 52 = .ok (.ireturn, 1) := by decide +kernel
theorem dX3_allButZero_0 : decode cX3_allButZero 0 = .ok (.iconst 1, 1) := by decide +kernel
theorem dX3_allButZero_1 : decode cX3_allButZero 1 = .ok (.aload_n 0, 1) := by decide +kernel
theorem dX3_allButZero_2 : decode cX3_allButZero 2 = .ok (.getfield 21, 3) := by decide +kernel
theorem dX3_allButZero_5 : decode cX3_allButZero 5 = .ok (.ishl, 1) := by decide +kernel
theorem dX3_allButZero_6 : decode cX3_allButZero 6 = .ok (.iconst 2, 1) := by decide +kernel
theorem dX3_allButZero_7 : decode cX3_allButZero 7 = .ok (.isub, 1) := by decide +kernel
theorem dX3_allButZero_8 : decode cX3_allButZero 8 = .ok (.ireturn, 1) := by decide +kernel
theorem dX3_numberBits_0 : decode cX3_numberBits 0 = .ok (.iconst 0, 1) := by decide +kernel
theorem dX3_numberBits_1 : decode cX3_numberBits 1 = .ok (.istore_n 1, 1) := by decide +kernel
theorem dX3_numberBits_2 : decode cX3_numberBits 2 = .ok (.iconst 0, 1) := by decide +kernel
theorem dX3_numberBits_3 : decode cX3_numberBits 3 = .ok (.istore_n 2, 1) := by decide +kernel
theorem dX3_numberBits_4 : decode cX3_numberBits 4 = .ok (.iload_n 2, 1) := by decide +kernel
theorem dX3_numberBits_5 : decode cX3_numberBits 5 = .ok (.aload_n 0, 1) := by decide +kernel
theorem dX3_numberBits_6 : decode cX3_numberBits 6 = .ok (.getfield 25, 3) := by decide +kernel
theorem dX3_numberBits_9 : decode cX3_numberBits 9 = .ok (.if_icmp .ge 29, 3) := by decide +kernel
theorem dX3_numberBits_12 : decode cX3_numberBits 12 = .ok (.iload_n 1, 1) := by decide +kernel
theorem dX3_numberBits_13 : decode cX3_numberBits 13 = .ok (.iconst 1, 1) := by decide +kernel
theorem dX3_numberBits_14 : decode cX3_numberBits 14 = .ok (.aload_n 0, 1) := by decide +kernel
theorem dX3_numberBits_15 : decode cX3_numberBits 15 = .ok (.getfield 9, 3) := by decide +kernel
theorem dX3_numberBits_18 : decode cX3_numberBits 18 = .ok (.iload_n 2, 1) := by decide +kernel
theorem dX3_numberBits_19 : decode cX3_numberBits 19 = .ok (.iaload, 1) := by decide +kernel
theorem dX3_numberBits_20 : decode cX3_numberBits 20 = .ok (.ishl, 1) := by decide +kernel
theorem dX3_numberBits_21 : decode cX3_numberBits 21 = .ok (.iconst 1, 1) := by decide +kernel
theorem dX3_numberBits_22 : decode cX3_numberBits 22 = .ok (.aload_n 0, 1) := by decide +kernel
theorem dX3_numberBits_23 : decode cX3_numberBits 23 = .ok (.getfield 15, 3) := by decide +kernel
theorem dX3_numberBits_26 : decode cX3_numberBits 26 = .ok (.iload_n 2, 1) := by decide +kernel
theorem dX3_numberBits_27 : decode cX3_numberBits 27 = .ok (.iaload, 1) := by decide +kernel
theorem dX3_numberBits_28 : decode cX3_numberBits 28 = .ok (.ishl, 1) := by decide +kernel
theorem dX3_numberBits_29 : decode cX3_numberBits 29 = .ok (.ior, 1) := by decide +kernel
theorem dX3_numberBits_30 : decode cX3_numberBits 30 = .ok (.ior, 1) := by decide +kernel
theorem dX3_numberBits_31 : decode cX3_numberBits 31 = .ok (.istore_n 1, 1) := by decide +kernel
theorem dX3_numberBits_32 : decode cX3_numberBits 32 = .ok (.iinc 2 1, 3) := by decide +kernel
theorem dX3_numberBits_35 : decode cX3_numberBits 35 = .ok (.goto (-31), 3) := by decide +kernel
theorem dX3_numberBits_38 : decode cX3_numberBits 38 = .ok (.iload_n 1, 1) := by decide +kernel
theorem dX3_numberBits_39 : decode cX3_numberBits 39 = .ok (.ireturn, 1) := by decide +kernel
theorem dX3_differenceBits_0 : decode cX3_differenceBits 0 = .ok (.iconst 0, 1) := by decide +kernel
theorem dX3_differenceBits_1 : decode cX3_differenceBits 1 = .ok (.istore_n 1, 1) := by decide +kernel
theorem dX3_differenceBits_2 : decode cX3_differenceBits 2 = .ok (.iconst 0, 1) := by decide +kernel
theorem dX3_differenceBits_3 : decode cX3_differenceBits 3 = .ok (.istore_n 2, 1) := by decide +kernel
theorem dX3_differenceBits_4 : decode cX3_differenceBits 4 = .ok (.iload_n 2, 1) := by decide +kernel
theorem dX3_differenceBits_5 : decode cX3_differenceBits 5 = .ok (.aload_n 0, 1) := by decide +kernel
theorem dX3_differenceBits_6 : decode cX3_differenceBits 6 = .ok (.getfield 25, 3) := by decide +kernel
theorem dX3_differenceBits_9 : decode cX3_differenceBits 9 = .ok (.if_icmp .ge 59, 3) := by decide +kernel
theorem dX3_differenceBits_12 : decode cX3_differenceBits 12 = .ok (.iload_n 1, 1) := by decide +kernel
theorem dX3_differenceBits_13 : decode cX3_differenceBits 13 = .ok (.iconst 1, 1) := by decide +kernel
theorem dX3_differenceBits_14 : decode cX3_differenceBits 14 = .ok (.aload_n 0, 1) := by decide +kernel
theorem dX3_differenceBits_15 : decode cX3_differenceBits 15 = .ok (.getfield 9, 3) := by decide +kernel
theorem dX3_differenceBits_18 : decode cX3_differenceBits 18 = .ok (.iload_n 2, 1) := by decide +kernel
theorem dX3_differenceBits_19 : decode cX3_differenceBits 19 = .ok (.iaload, 1) := by decide +kernel
theorem dX3_differenceBits_20 : decode cX3_differenceBits 20 = .ok (.aload_n 0, 1) := by decide +kernel
theorem dX3_differenceBits_21 : decode cX3_differenceBits 21 = .ok (.getfield 15, 3) := by decide +kernel
theorem dX3_differenceBits_24 : decode cX3_differenceBits 24 = .ok (.iload_n 2, 1) := by decide +kernel
theorem dX3_differenceBits_25 : decode cX3_differenceBits 25 = .ok (.iaload, 1) := by decide +kernel
theorem dX3_differenceBits_26 : decode cX3_differenceBits 26 = .ok (.isub, 1) := by decide +kernel
theorem dX3_differenceBits_27 : decode cX3_differenceBits 27 = .ok (.aload_n 0, 1) := by decide +kernel
theorem dX3_differenceBits_28 : decode cX3_differenceBits 28 = .ok (.getfield 21, 3) := by decide +kernel
theorem dX3_differenceBits_31 : decode cX3_differenceBits 31 = .ok (.invokestatic 46, 3) := by decide +kernel
theorem dX3_differenceBits_34 : decode cX3_differenceBits 34 = .ok (.ishl, 1) := by decide +kernel
theorem dX3_differenceBits_35 : decode cX3_differenceBits 35 = .ok (.ior, 1) := by decide +kernel
theorem dX3_differenceBits_36 : decode cX3_differenceBits 36 = .ok (.istore_n 1, 1) := by decide +kernel
theorem dX3_differenceBits_37 : decode cX3_differenceBits 37 = .ok (.iload_n 1, 1) := by decide +kernel
theorem dX3_differenceBits_38 : decode cX3_differenceBits 38 = .ok (.iconst 1, 1) := by decide +kernel
theorem dX3_differenceBits_39 : decode cX3_differenceBits 39 = .ok (.aload_n 0, 1) := by decide +kernel
theorem dX3_differenceBits_40 : decode cX3_differenceBits 40 = .ok (.getfield 15, 3) := by decide +kernel
theorem dX3_differenceBits_43 : decode cX3_differenceBits 43 = .ok (.iload_n 2, 1) := by decide +kernel
theorem dX3_differenceBits_44 : decode cX3_differenceBits 44 = .ok (.iaload, 1) := by decide +kernel
theorem dX3_differenceBits_45 : decode cX3_differenceBits 45 = .ok (.aload_n 0, 1) := by decide +kernel
theorem dX3_differenceBits_46 : decode cX3_differenceBits 46 = .ok (.getfield 9, 3) := by decide +kernel
theorem dX3_differenceBits_49 : decode cX3_differenceBits 49 = .ok (.iload_n 2, 1) := by decide +kernel
theorem dX3_differenceBits_50 : decode cX3_differenceBits 50 = .ok (.iaload, 1) := by decide +kernel
theorem dX3_differenceBits_51 : decode cX3_differenceBits 51 = .ok (.isub, 1) := by decide +kernel
theorem dX3_differenceBits_52 : decode cX3_differenceBits 52 = .ok (.aload_n 0, 1) := by decide +kernel
theorem dX3_differenceBits_53 : decode cX3_differenceBits 53 = .ok (.getfield 21, 3) := by decide +kernel
theorem dX3_differenceBits_56 : decode cX3_differenceBits 56 = .ok (.invokestatic 46, 3) := by decide +kernel
theorem dX3_differenceBits_59 : decode cX3_differenceBits 59 = .ok (.ishl, 1) := by decide +kernel
theorem dX3_differenceBits_60 : decode cX3_differenceBits 60 = .ok (.ior, 1) := by decide +kernel
theorem dX3_differenceBits_61 : decode cX3_differenceBits 61 = .ok (.istore_n 1, 1) := by decide +kernel
theorem dX3_differenceBits_62 : decode cX3_differenceBits 62 = .ok (.iinc 2 1, 3) := by decide +kernel
theorem dX3_differenceBits_65 : decode cX3_differenceBits 65 = .ok (.goto (-61), 3) := by decide +kernel
theorem dX3_differenceBits_68 : decode cX3_differenceBits 68 = .ok (.iload_n 1, 1) := by decide +kernel
theorem dX3_differenceBits_69 : decode cX3_differenceBits 69 = .ok (.ireturn, 1) := by decide +kernel
theorem dX3_sumBits_0 : decode cX3_sumBits 0 = .ok (.iconst 0, 1) := by decide +kernel
theorem dX3_sumBits_1 : decode cX3_sumBits 1 = .ok (.istore_n 1, 1) := by decide +kernel
theorem dX3_sumBits_2 : decode cX3_sumBits 2 = .ok (.iconst 0, 1) := by decide +kernel
theorem dX3_sumBits_3 : decode cX3_sumBits 3 = .ok (.istore_n 2, 1) := by decide +kernel
theorem dX3_sumBits_4 : decode cX3_sumBits 4 = .ok (.iload_n 2, 1) := by decide +kernel
theorem dX3_sumBits_5 : decode cX3_sumBits 5 = .ok (.aload_n 0, 1) := by decide +kernel
theorem dX3_sumBits_6 : decode cX3_sumBits 6 = .ok (.getfield 25, 3) := by decide +kernel
theorem dX3_sumBits_9 : decode cX3_sumBits 9 = .ok (.if_icmp .ge 34, 3) := by decide +kernel
theorem dX3_sumBits_12 : decode cX3_sumBits 12 = .ok (.iload_n 1, 1) := by decide +kernel
theorem dX3_sumBits_13 : decode cX3_sumBits 13 = .ok (.iconst 1, 1) := by decide +kernel
theorem dX3_sumBits_14 : decode cX3_sumBits 14 = .ok (.aload_n 0, 1) := by decide +kernel
theorem dX3_sumBits_15 : decode cX3_sumBits 15 = .ok (.getfield 9, 3) := by decide +kernel
theorem dX3_sumBits_18 : decode cX3_sumBits 18 = .ok (.iload_n 2, 1) := by decide +kernel
theorem dX3_sumBits_19 : decode cX3_sumBits 19 = .ok (.iaload, 1) := by decide +kernel
theorem dX3_sumBits_20 : decode cX3_sumBits 20 = .ok (.aload_n 0, 1) := by decide +kernel
theorem dX3_sumBits_21 : decode cX3_sumBits 21 = .ok (.getfield 15, 3) := by decide +kernel
theorem dX3_sumBits_24 : decode cX3_sumBits 24 = .ok (.iload_n 2, 1) := by decide +kernel
theorem dX3_sumBits_25 : decode cX3_sumBits 25 = .ok (.iaload, 1) := by decide +kernel
theorem dX3_sumBits_26 : decode cX3_sumBits 26 = .ok (.iadd, 1) := by decide +kernel
theorem dX3_sumBits_27 : decode cX3_sumBits 27 = .ok (.aload_n 0, 1) := by decide +kernel
theorem dX3_sumBits_28 : decode cX3_sumBits 28 = .ok (.getfield 21, 3) := by decide +kernel
theorem dX3_sumBits_31 : decode cX3_sumBits 31 = .ok (.invokestatic 46, 3) := by decide +kernel
theorem dX3_sumBits_34 : decode cX3_sumBits 34 = .ok (.ishl, 1) := by decide +kernel
theorem dX3_sumBits_35 : decode cX3_sumBits 35 = .ok (.ior, 1) := by decide +kernel
theorem dX3_sumBits_36 : decode cX3_sumBits 36 = .ok (.istore_n 1, 1) := by decide +kernel
theorem dX3_sumBits_37 : decode cX3_sumBits 37 = .ok (.iinc 2 1, 3) := by decide +kernel
theorem dX3_sumBits_40 : decode cX3_sumBits 40 = .ok (.goto (-36), 3) := by decide +kernel
theorem dX3_sumBits_43 : decode cX3_sumBits 43 = .ok (.iload_n 1, 1) := by decide +kernel
theorem dX3_sumBits_44 : decode cX3_sumBits 44 = .ok (.ireturn, 1) := by decide +kernel
theorem dX3_areRightTo_0 : decode cX3_areRightTo 0 = .ok (.iconst 0, 1) := by decide +kernel
theorem dX3_areRightTo_1 : decode cX3_areRightTo 1 = .ok (.istore_n 2, 1) := by decide +kernel
theorem dX3_areRightTo_2 : decode cX3_areRightTo 2 = .ok (.iconst 1, 1) := by decide +kernel
theorem dX3_areRightTo_3 : decode cX3_areRightTo 3 = .ok (.istore_n 3, 1) := by decide +kernel
theorem dX3_areRightTo_4 : decode cX3_areRightTo 4 = .ok (.iload_n 3, 1) := by decide +kernel
theorem dX3_areRightTo_5 : decode cX3_areRightTo 5 = .ok (.aload_n 0, 1) := by decide +kernel
theorem dX3_areRightTo_6 : decode cX3_areRightTo 6 = .ok (.invokevirtual 38, 3) := by decide +kernel
theorem dX3_areRightTo_9 : decode cX3_areRightTo 9 = .ok (.if_icmp .gt 20, 3) := by decide +kernel
theorem dX3_areRightTo_12 : decode cX3_areRightTo 12 = .ok (.iload_n 2, 1) := by decide +kernel
theorem dX3_areRightTo_13 : decode cX3_areRightTo 13 = .ok (.iconst 1, 1) := by decide +kernel
theorem dX3_areRightTo_14 : decode cX3_areRightTo 14 = .ok (.aload_n 0, 1) := by decide +kernel
theorem dX3_areRightTo_15 : decode cX3_areRightTo 15 = .ok (.aload_n 1, 1) := by decide +kernel
theorem dX3_areRightTo_16 : decode cX3_areRightTo 16 = .ok (.iload_n 3, 1) := by decide +kernel
theorem dX3_areRightTo_17 : decode cX3_areRightTo 17 = .ok (.invokevirtual 92, 3) := by decide +kernel
theorem dX3_areRightTo_20 : decode cX3_areRightTo 20 = .ok (.ishl, 1) := by decide +kernel
theorem dX3_areRightTo_21 : decode cX3_areRightTo 21 = .ok (.ior, 1) := by decide +kernel
theorem dX3_areRightTo_22 : decode cX3_areRightTo 22 = .ok (.istore_n 2, 1) := by decide +kernel
theorem dX3_areRightTo_23 : decode cX3_areRightTo 23 = .ok (.iinc 3 1, 3) := by decide +kernel
theorem dX3_areRightTo_26 : decode cX3_areRightTo 26 = .ok (.goto (-22), 3) := by decide +kernel
theorem dX3_areRightTo_29 : decode cX3_areRightTo 29 = .ok (.iload_n 2, 1) := by decide +kernel
theorem dX3_areRightTo_30 : decode cX3_areRightTo 30 = .ok (.iconst 1, 1) := by decide +kernel
theorem dX3_areRightTo_31 : decode cX3_areRightTo 31 = .ok (.iand, 1) := by decide +kernel
theorem dX3_areRightTo_32 : decode cX3_areRightTo 32 = .ok (.ifCond .ne 18, 3) := by decide +kernel
theorem dX3_areRightTo_35 : decode cX3_areRightTo 35 = .ok (.iload_n 2, 1) := by decide +kernel
theorem dX3_areRightTo_36 : decode cX3_areRightTo 36 = .ok (.invokestatic 87, 3) := by decide +kernel
theorem dX3_areRightTo_39 : decode cX3_areRightTo 39 = .ok (.aload_n 0, 1) := by decide +kernel
theorem dX3_areRightTo_40 : decode cX3_areRightTo 40 = .ok (.invokevirtual 38, 3) := by decide +kernel
theorem dX3_areRightTo_43 : decode cX3_areRightTo 43 = .ok (.if_icmp .ne 7, 3) := by decide +kernel
theorem dX3_areRightTo_46 : decode cX3_areRightTo 46 = .ok (.iconst 1, 1) := by decide +kernel
theorem dX3_areRightTo_47 : decode cX3_areRightTo 47 = .ok (.goto 4, 3) := by decide +kernel
theorem dX3_areRightTo_50 : decode cX3_areRightTo 50 = .ok (.iconst 0, 1) := by decide +kernel
theorem dX3_areRightTo_51 : decode cX3_areRightTo 51 = .ok (.ireturn, 1) := by decide +kernel
theorem dX3_shiftFrom_0 : decode cX3_shiftFrom 0 = .ok (.aload_n 0, 1) := by decide +kernel
theorem dX3_shiftFrom_1 : decode cX3_shiftFrom 1 = .ok (.iload_n 2, 1) := by decide +kernel
theorem dX3_shiftFrom_2 : decode cX3_shiftFrom 2 = .ok (.invokevirtual 96, 3) := by decide +kernel
theorem dX3_shiftFrom_5 : decode cX3_shiftFrom 5 = .ok (.aload_n 1, 1) := by decide +kernel
theorem dX3_shiftFrom_6 : decode cX3_shiftFrom 6 = .ok (.iload_n 2, 1) := by decide +kernel
theorem dX3_shiftFrom_7 : decode cX3_shiftFrom 7 = .ok (.invokevirtual 96, 3) := by decide +kernel
theorem dX3_shiftFrom_10 : decode cX3_shiftFrom 10 = .ok (.isub, 1) := by decide +kernel
theorem dX3_shiftFrom_11 : decode cX3_shiftFrom 11 = .ok (.aload_n 0, 1) := by decide +kernel
theorem dX3_shiftFrom_12 : decode cX3_shiftFrom 12 = .ok (.getfield 21, 3) := by decide +kernel
theorem dX3_shiftFrom_15 : decode cX3_shiftFrom 15 = .ok (.invokestatic 46, 3) := by decide +kernel
theorem dX3_shiftFrom_18 : decode cX3_shiftFrom 18 = .ok (.ireturn, 1) := by decide +kernel
theorem dX3_numberAhead_0 : decode cX3_numberAhead 0 = .ok (.iconst 0, 1) := by decide +kernel
theorem dX3_numberAhead_1 : decode cX3_numberAhead 1 = .ok (.istore_n 2, 1) := by decide +kernel
theorem dX3_numberAhead_2 : decode cX3_numberAhead 2 = .ok (.iload_n 2, 1) := by decide +kernel
theorem dX3_numberAhead_3 : decode cX3_numberAhead 3 = .ok (.aload_n 0, 1) := by decide +kernel
theorem dX3_numberAhead_4 : decode cX3_numberAhead 4 = .ok (.getfield 25, 3) := by decide +kernel
theorem dX3_numberAhead_7 : decode cX3_numberAhead 7 = .ok (.if_icmp .ge 59, 3) := by decide +kernel
theorem dX3_numberAhead_10 : decode cX3_numberAhead 10 = .ok (.aload_n 0, 1) := by decide +kernel
theorem dX3_numberAhead_11 : decode cX3_numberAhead 11 = .ok (.getfield 9, 3) := by decide +kernel
theorem dX3_numberAhead_14 : decode cX3_numberAhead 14 = .ok (.iload_n 2, 1) := by decide +kernel
theorem dX3_numberAhead_15 : decode cX3_numberAhead 15 = .ok (.iaload, 1) := by decide +kernel
theorem dX3_numberAhead_16 : decode cX3_numberAhead 16 = .ok (.aload_n 0, 1) := by decide +kernel
theorem dX3_numberAhead_17 : decode cX3_numberAhead 17 = .ok (.getfield 15, 3) := by decide +kernel
theorem dX3_numberAhead_20 : decode cX3_numberAhead 20 = .ok (.iload_n 2, 1) := by decide +kernel
theorem dX3_numberAhead_21 : decode cX3_numberAhead 21 = .ok (.iaload, 1) := by decide +kernel
theorem dX3_numberAhead_22 : decode cX3_numberAhead 22 = .ok (.isub, 1) := by decide +kernel
theorem dX3_numberAhead_23 : decode cX3_numberAhead 23 = .ok (.aload_n 0, 1) := by decide +kernel
theorem dX3_numberAhead_24 : decode cX3_numberAhead 24 = .ok (.getfield 21, 3) := by decide +kernel
theorem dX3_numberAhead_27 : decode cX3_numberAhead 27 = .ok (.invokestatic 46, 3) := by decide +kernel
theorem dX3_numberAhead_30 : decode cX3_numberAhead 30 = .ok (.istore_n 3, 1) := by decide +kernel
theorem dX3_numberAhead_31 : decode cX3_numberAhead 31 = .ok (.iload_n 3, 1) := by decide +kernel
theorem dX3_numberAhead_32 : decode cX3_numberAhead 32 = .ok (.iload_n 1, 1) := by decide +kernel
theorem dX3_numberAhead_33 : decode cX3_numberAhead 33 = .ok (.if_icmp .ne 10, 3) := by decide +kernel
theorem dX3_numberAhead_36 : decode cX3_numberAhead 36 = .ok (.aload_n 0, 1) := by decide +kernel
theorem dX3_numberAhead_37 : decode cX3_numberAhead 37 = .ok (.getfield 9, 3) := by decide +kernel
theorem dX3_numberAhead_40 : decode cX3_numberAhead 40 = .ok (.iload_n 2, 1) := by decide +kernel
theorem dX3_numberAhead_41 : decode cX3_numberAhead 41 = .ok (.iaload, 1) := by decide +kernel
theorem dX3_numberAhead_42 : decode cX3_numberAhead 42 = .ok (.ireturn, 1) := by decide +kernel
theorem dX3_numberAhead_43 : decode cX3_numberAhead 43 = .ok (.aload_n 0, 1) := by decide +kernel
theorem dX3_numberAhead_44 : decode cX3_numberAhead 44 = .ok (.getfield 21, 3) := by decide +kernel
theorem dX3_numberAhead_47 : decode cX3_numberAhead 47 = .ok (.iload_n 3, 1) := by decide +kernel
theorem dX3_numberAhead_48 : decode cX3_numberAhead 48 = .ok (.isub, 1) := by decide +kernel
theorem dX3_numberAhead_49 : decode cX3_numberAhead 49 = .ok (.iload_n 1, 1) := by decide +kernel
theorem dX3_numberAhead_50 : decode cX3_numberAhead 50 = .ok (.if_icmp .ne 10, 3) := by decide +kernel
theorem dX3_numberAhead_53 : decode cX3_numberAhead 53 = .ok (.aload_n 0, 1) := by decide +kernel
theorem dX3_numberAhead_54 : decode cX3_numberAhead 54 = .ok (.getfield 15, 3) := by decide +kernel
theorem dX3_numberAhead_57 : decode cX3_numberAhead 57 = .ok (.iload_n 2, 1) := by decide +kernel
theorem dX3_numberAhead_58 : decode cX3_numberAhead 58 = .ok (.iaload, 1) := by decide +kernel
theorem dX3_numberAhead_59 : decode cX3_numberAhead 59 = .ok (.ireturn, 1) := by decide +kernel
theorem dX3_numberAhead_60 : decode cX3_numberAhead 60 = .ok (.iinc 2 1, 3) := by decide +kernel
theorem dX3_numberAhead_63 : decode cX3_numberAhead 63 = .ok (.goto (-61), 3) := by decide +kernel
theorem dX3_numberAhead_66 : decode cX3_numberAhead 66 = .ok (.iconst 0, 1) := by decide +kernel
theorem dX3_numberAhead_67 : decode cX3_numberAhead 67 = .ok (.ireturn, 1) := by decide +kernel
theorem dX3_changeByLots_0 : decode cX3_changeByLots 0 = .ok (.iload_n 2, 1) := by decide +kernel
theorem dX3_changeByLots_1 : decode cX3_changeByLots 1 = .ok (.istore_n 3, 1) := by decide +kernel
theorem dX3_changeByLots_2 : decode cX3_changeByLots 2 = .ok (.iconst 0, 1) := by decide +kernel
theorem dX3_changeByLots_3 : decode cX3_changeByLots 3 = .ok (.istore 4, 2) := by decide +kernel
theorem dX3_changeByLots_5 : decode cX3_changeByLots 5 = .ok (.iconst 0, 1) := by decide +kernel
theorem dX3_changeByLots_6 : decode cX3_changeByLots 6 = .ok (.istore 5, 2) := by decide +kernel
theorem dX3_changeByLots_8 : decode cX3_changeByLots 8 = .ok (.iload 5, 2) := by decide +kernel
theorem dX3_changeByLots_10 : decode cX3_changeByLots 10 = .ok (.iload_n 1, 1) := by decide +kernel
theorem dX3_changeByLots_11 : decode cX3_changeByLots 11 = .ok (.if_icmp .ge 126, 3) := by decide +kernel
theorem dX3_changeByLots_14 : decode cX3_changeByLots 14 = .ok (.iload_n 3, 1) := by decide +kernel
theorem dX3_changeByLots_15 : decode cX3_changeByLots 15 = .ok (.invokestatic 99, 3) := by decide +kernel
theorem dX3_changeByLots_18 : decode cX3_changeByLots 18 = .ok (.istore_n 3, 1) := by decide +kernel
theorem dX3_changeByLots_19 : decode cX3_changeByLots 19 = .ok (.iload_n 3, 1) := by decide +kernel
theorem dX3_changeByLots_20 : decode cX3_changeByLots 20 = .ok (.aload_n 0, 1) := by decide +kernel
theorem dX3_changeByLots_21 : decode cX3_changeByLots 21 = .ok (.getfield 25, 3) := by decide +kernel
theorem dX3_changeByLots_24 : decode cX3_changeByLots 24 = .ok (.invokestatic 102, 3) := by decide +kernel
theorem dX3_changeByLots_27 : decode cX3_changeByLots 27 = .ok (.istore 6, 2) := by decide +kernel
theorem dX3_changeByLots_29 : decode cX3_changeByLots 29 = .ok (.iload_n 3, 1) := by decide +kernel
theorem dX3_changeByLots_30 : decode cX3_changeByLots 30 = .ok (.invokestatic 99, 3) := by decide +kernel
theorem dX3_changeByLots_33 : decode cX3_changeByLots 33 = .ok (.istore_n 3, 1) := by decide +kernel
theorem dX3_changeByLots_34 : decode cX3_changeByLots 34 = .ok (.iload_n 3, 1) := by decide +kernel
theorem dX3_changeByLots_35 : decode cX3_changeByLots 35 = .ok (.aload_n 0, 1) := by decide +kernel
theorem dX3_changeByLots_36 : decode cX3_changeByLots 36 = .ok (.getfield 25, 3) := by decide +kernel
theorem dX3_changeByLots_39 : decode cX3_changeByLots 39 = .ok (.invokestatic 102, 3) := by decide +kernel
theorem dX3_changeByLots_42 : decode cX3_changeByLots 42 = .ok (.istore 7, 2) := by decide +kernel
theorem dX3_changeByLots_44 : decode cX3_changeByLots 44 = .ok (.aload_n 0, 1) := by decide +kernel
theorem dX3_changeByLots_45 : decode cX3_changeByLots 45 = .ok (.iload 6, 2) := by decide +kernel
theorem dX3_changeByLots_47 : decode cX3_changeByLots 47 = .ok (.invokevirtual 105, 3) := by decide +kernel
theorem dX3_changeByLots_50 : decode cX3_changeByLots 50 = .ok (.ifCond .eq 81, 3) := by decide +kernel
theorem dX3_changeByLots_53 : decode cX3_changeByLots 53 = .ok (.aload_n 0, 1) := by decide +kernel
theorem dX3_changeByLots_54 : decode cX3_changeByLots 54 = .ok (.iload 7, 2) := by decide +kernel
theorem dX3_changeByLots_56 : decode cX3_changeByLots 56 = .ok (.invokevirtual 105, 3) := by decide +kernel
theorem dX3_changeByLots_59 : decode cX3_changeByLots 59 = .ok (.ifCond .eq 72, 3) := by decide +kernel
theorem dX3_changeByLots_62 : decode cX3_changeByLots 62 = .ok (.aload_n 0, 1) := by decide +kernel
theorem dX3_changeByLots_63 : decode cX3_changeByLots 63 = .ok (.getfield 9, 3) := by decide +kernel
theorem dX3_changeByLots_66 : decode cX3_changeByLots 66 = .ok (.iload 6, 2) := by decide +kernel
theorem dX3_changeByLots_68 : decode cX3_changeByLots 68 = .ok (.iaload, 1) := by decide +kernel
theorem dX3_changeByLots_69 : decode cX3_changeByLots 69 = .ok (.aload_n 0, 1) := by decide +kernel
theorem dX3_changeByLots_70 : decode cX3_changeByLots 70 = .ok (.getfield 15, 3) := by decide +kernel
theorem dX3_changeByLots_73 : decode cX3_changeByLots 73 = .ok (.iload 7, 2) := by decide +kernel
theorem dX3_changeByLots_75 : decode cX3_changeByLots 75 = .ok (.iaload, 1) := by decide +kernel
theorem dX3_changeByLots_76 : decode cX3_changeByLots 76 = .ok (.if_icmp .eq 55, 3) := by decide +kernel
theorem dX3_changeByLots_79 : decode cX3_changeByLots 79 = .ok (.aload_n 0, 1) := by decide +kernel
theorem dX3_changeByLots_80 : decode cX3_changeByLots 80 = .ok (.getfield 9, 3) := by decide +kernel
theorem dX3_changeByLots_83 : decode cX3_changeByLots 83 = .ok (.iload 7, 2) := by decide +kernel
theorem dX3_changeByLots_85 : decode cX3_changeByLots 85 = .ok (.iaload, 1) := by decide +kernel
theorem dX3_changeByLots_86 : decode cX3_changeByLots 86 = .ok (.aload_n 0, 1) := by decide +kernel
theorem dX3_changeByLots_87 : decode cX3_changeByLots 87 = .ok (.getfield 15, 3) := by decide +kernel
theorem dX3_changeByLots_90 : decode cX3_changeByLots 90 = .ok (.iload 6, 2) := by decide +kernel
theorem dX3_changeByLots_92 : decode cX3_changeByLots 92 = .ok (.iaload, 1) := by decide +kernel
theorem dX3_changeByLots_93 : decode cX3_changeByLots 93 = .ok (.if_icmp .eq 38, 3) := by decide +kernel
theorem dX3_changeByLots_96 : decode cX3_changeByLots 96 = .ok (.aload_n 0, 1) := by decide +kernel
theorem dX3_changeByLots_97 : decode cX3_changeByLots 97 = .ok (.getfield 15, 3) := by decide +kernel
theorem dX3_changeByLots_100 : decode cX3_changeByLots 100 = .ok (.iload 6, 2) := by decide +kernel
theorem dX3_changeByLots_102 : decode cX3_changeByLots 102 = .ok (.iaload, 1) := by decide +kernel
theorem dX3_changeByLots_103 : decode cX3_changeByLots 103 = .ok (.istore 8, 2) := by decide +kernel
theorem dX3_changeByLots_105 : decode cX3_changeByLots 105 = .ok (.aload_n 0, 1) := by decide +kernel
theorem dX3_changeByLots_106 : decode cX3_changeByLots 106 = .ok (.getfield 15, 3) := by decide +kernel
theorem dX3_changeByLots_109 : decode cX3_changeByLots 109 = .ok (.iload 6, 2) := by decide +kernel
theorem dX3_changeByLots_111 : decode cX3_changeByLots 111 = .ok (.aload_n 0, 1) := by decide +kernel
theorem dX3_changeByLots_112 : decode cX3_changeByLots 112 = .ok (.getfield 15, 3) := by decide +kernel
theorem dX3_changeByLots_115 : decode cX3_changeByLots 115 = .ok (.iload 7, 2) := by decide +kernel
theorem dX3_changeByLots_117 : decode cX3_changeByLots 117 = .ok (.iaload, 1) := by decide +kernel
theorem dX3_changeByLots_118 : decode cX3_changeByLots 118 = .ok (.iastore, 1) := by decide +kernel
theorem dX3_changeByLots_119 : decode cX3_changeByLots 119 = .ok (.aload_n 0, 1) := by decide +kernel
theorem dX3_changeByLots_120 : decode cX3_changeByLots 120 = .ok (.getfield 15, 3) := by decide +kernel
theorem dX3_changeByLots_123 : decode cX3_changeByLots 123 = .ok (.iload 7, 2) := by decide +kernel
theorem dX3_changeByLots_125 : decode cX3_changeByLots 125 = .ok (.iload 8, 2) := by decide +kernel
theorem dX3_changeByLots_127 : decode cX3_changeByLots 127 = .ok (.iastore, 1) := by decide +kernel
theorem dX3_changeByLots_128 : decode cX3_changeByLots 128 = .ok (.iinc 4 1, 3) := by decide +kernel
theorem dX3_changeByLots_131 : decode cX3_changeByLots 131 = .ok (.iinc 5 1, 3) := by decide +kernel
theorem dX3_changeByLots_134 : decode cX3_changeByLots 134 = .ok (.goto (-126), 3) := by decide +kernel
theorem dX3_changeByLots_137 : decode cX3_changeByLots 137 = .ok (.iload 4, 2) := by decide +kernel
theorem dX3_changeByLots_139 : decode cX3_changeByLots 139 = .ok (.ireturn, 1) := by decide +kernel
theorem dX3_drawn_0 : decode cX3_drawn 0 = .ok (.iload_n 0, 1) := by decide +kernel
theorem dX3_drawn_1 : decode cX3_drawn 1 = .ok (.ldc 109, 2) := by decide +kernel
theorem dX3_drawn_3 : decode cX3_drawn 3 = .ok (.imul, 1) := by decide +kernel
theorem dX3_drawn_4 : decode cX3_drawn 4 = .ok (.ldc 110, 2) := by decide +kernel
theorem dX3_drawn_6 : decode cX3_drawn 6 = .ok (.iadd, 1) := by decide +kernel
theorem dX3_drawn_7 : decode cX3_drawn 7 = .ok (.ireturn, 1) := by decide +kernel
theorem dX3_below_0 : decode cX3_below 0 = .ok (.iload_n 0, 1) := by decide +kernel
theorem dX3_below_1 : decode cX3_below 1 = .ok (.ldc 111, 2) := by decide +kernel
theorem dX3_below_3 : decode cX3_below 3 = .ok (.iand, 1) := by decide +kernel
theorem dX3_below_4 : decode cX3_below 4 = .ok (.sipush 256, 3) := by decide +kernel
theorem dX3_below_7 : decode cX3_below 7 = .ok (.idiv, 1) := by decide +kernel
theorem dX3_below_8 : decode cX3_below 8 = .ok (.iload_n 1, 1) := by decide +kernel
theorem dX3_below_9 : decode cX3_below 9 = .ok (.invokestatic 46, 3) := by decide +kernel
theorem dX3_below_12 : decode cX3_below 12 = .ok (.ireturn, 1) := by decide +kernel
theorem dX4_init_0 : decode cX4_init 0 = .ok (.aload_n 0, 1) := by decide +kernel
theorem dX4_init_1 : decode cX4_init 1 = .ok (.invokespecial 3, 3) := by decide +kernel
theorem dX4_init_4 : decode cX4_init 4 = .ok (.aload_n 0, 1) := by decide +kernel
theorem dX4_init_5 : decode cX4_init 5 = .ok (.sipush 169, 3) := by decide +kernel
theorem dX4_init_8 : decode cX4_init 8 = .ok (.newarray .int, 2) := by decide +kernel
theorem dX4_init_10 : decode cX4_init 10 = .ok (.putfield 9, 3) := by decide +kernel
theorem dX4_init_13 : decode cX4_init 13 = .ok (.aload_n 0, 1) := by decide +kernel
theorem dX4_init_14 : decode cX4_init 14 = .ok (.sipush 196, 3) := by decide +kernel
theorem dX4_init_17 : decode cX4_init 17 = .ok (.newarray .int, 2) := by decide +kernel
theorem dX4_init_19 : decode cX4_init 19 = .ok (.putfield 15, 3) := by decide +kernel
theorem dX4_init_22 : decode cX4_init 22 = .ok (.aload_n 0, 1) := by decide +kernel
theorem dX4_init_23 : decode cX4_init 23 = .ok (.bipush 7, 2) := by decide +kernel
theorem dX4_init_25 : decode cX4_init 25 = .ok (.putfield 18, 3) := by decide +kernel
theorem dX4_init_28 : decode cX4_init 28 = .ok (.return_, 1) := by decide +kernel
theorem dX4_codeOf_0 : decode cX4_codeOf 0 = .ok (.iload_n 0, 1) := by decide +kernel
theorem dX4_codeOf_1 : decode cX4_codeOf 1 = .ok (.iload_n 1, 1) := by decide +kernel
theorem dX4_codeOf_2 : decode cX4_codeOf 2 = .ok (.invokestatic 22, 3) := by decide +kernel
theorem dX4_codeOf_5 : decode cX4_codeOf 5 = .ok (.bipush 14, 2) := by decide +kernel
theorem dX4_codeOf_7 : decode cX4_codeOf 7 = .ok (.imul, 1) := by decide +kernel
theorem dX4_codeOf_8 : decode cX4_codeOf 8 = .ok (.iload_n 0, 1) := by decide +kernel
theorem dX4_codeOf_9 : decode cX4_codeOf 9 = .ok (.iload_n 1, 1) := by decide +kernel
theorem dX4_codeOf_10 : decode cX4_codeOf 10 = .ok (.invokestatic 28, 3) := by decide +kernel
theorem dX4_codeOf_13 : decode cX4_codeOf 13 = .ok (.iadd, 1) := by decide +kernel
theorem dX4_codeOf_14 : decode cX4_codeOf 14 = .ok (.ireturn, 1) := by decide +kernel
theorem dX4_lesserOf_0 : decode cX4_lesserOf 0 = .ok (.iload_n 0, 1) := by decide +kernel
theorem dX4_lesserOf_1 : decode cX4_lesserOf 1 = .ok (.bipush 14, 2) := by decide +kernel
theorem dX4_lesserOf_3 : decode cX4_lesserOf 3 = .ok (.idiv, 1) := by decide +kernel
theorem dX4_lesserOf_4 : decode cX4_lesserOf 4 = .ok (.ireturn, 1) := by decide +kernel
theorem dX4_greaterOf_0 : decode cX4_greaterOf 0 = .ok (.iload_n 0, 1) := by decide +kernel
theorem dX4_greaterOf_1 : decode cX4_greaterOf 1 = .ok (.bipush 14, 2) := by decide +kernel
theorem dX4_greaterOf_3 : decode cX4_greaterOf 3 = .ok (.irem, 1) := by decide +kernel
theorem dX4_greaterOf_4 : decode cX4_greaterOf 4 = .ok (.ireturn, 1) := by decide +kernel
theorem dX4_copyFrom_0 : decode cX4_copyFrom 0 = .ok (.aload_n 0, 1) := by decide +kernel
theorem dX4_copyFrom_1 : decode cX4_copyFrom 1 = .ok (.aload_n 1, 1) := by decide +kernel
theorem dX4_copyFrom_2 : decode cX4_copyFrom 2 = .ok (.getfield 18, 3) := by decide +kernel
theorem dX4_copyFrom_5 : decode cX4_copyFrom 5 = .ok (.putfield 18, 3) := by decide +kernel
theorem dX4_copyFrom_8 : decode cX4_copyFrom 8 = .ok (.aload_n 1, 1) := by decide +kernel
theorem dX4_copyFrom_9 : decode cX4_copyFrom 9 = .ok (.getfield 9, 3) := by decide +kernel
theorem dX4_copyFrom_12 : decode cX4_copyFrom 12 = .ok (.iconst 0, 1) := by decide +kernel
theorem dX4_copyFrom_13 : decode cX4_copyFrom 13 = .ok (.aload_n 0, 1) := by decide +kernel
theorem dX4_copyFrom_14 : decode cX4_copyFrom 14 = .ok (.getfield 9, 3) := by decide +kernel
theorem dX4_copyFrom_17 : decode cX4_copyFrom 17 = .ok (.iconst 0, 1) := by decide +kernel
theorem dX4_copyFrom_18 : decode cX4_copyFrom 18 = .ok (.sipush 169, 3) := by decide +kernel
theorem dX4_copyFrom_21 : decode cX4_copyFrom 21 = .ok (.invokestatic 31, 3) := by decide +kernel
theorem dX4_copyFrom_24 : decode cX4_copyFrom 24 = .ok (.return_, 1) := by decide +kernel
theorem dX4_becomeEmpty_0 : decode cX4_becomeEmpty 0 = .ok (.aload_n 0, 1) := by decide +kernel
theorem dX4_becomeEmpty_1 : decode cX4_becomeEmpty 1 = .ok (.iload_n 1, 1) := by decide +kernel
theorem dX4_becomeEmpty_2 : decode cX4_becomeEmpty 2 = .ok (.putfield 18, 3) := by decide +kernel
theorem dX4_becomeEmpty_5 : decode cX4_becomeEmpty 5 = .ok (.iconst 0, 1) := by decide +kernel
theorem dX4_becomeEmpty_6 : decode cX4_becomeEmpty 6 = .ok (.istore_n 2, 1) := by decide +kernel
theorem dX4_becomeEmpty_7 : decode cX4_becomeEmpty 7 = .ok (.iload_n 2, 1) := by decide +kernel
theorem dX4_becomeEmpty_8 : decode cX4_becomeEmpty 8 = .ok (.aload_n 0, 1) := by decide +kernel
theorem dX4_becomeEmpty_9 : decode cX4_becomeEmpty 9 = .ok (.getfield 9, 3) := by decide +kernel
theorem dX4_becomeEmpty_12 : decode cX4_becomeEmpty 12 = .ok (.arraylength, 1) := by decide +kernel
theorem dX4_becomeEmpty_13 : decode cX4_becomeEmpty 13 = .ok (.if_icmp .ge 16, 3) := by decide +kernel
theorem dX4_becomeEmpty_16 : decode cX4_becomeEmpty 16 = .ok (.aload_n 0, 1) := by decide +kernel
theorem dX4_becomeEmpty_17 : decode cX4_becomeEmpty 17 = .ok (.getfield 9, 3) := by decide +kernel
theorem dX4_becomeEmpty_20 : decode cX4_becomeEmpty 20 = .ok (.iload_n 2, 1) := by decide +kernel
theorem dX4_becomeEmpty_21 : decode cX4_becomeEmpty 21 = .ok (.iconst 0, 1) := by decide +kernel
theorem dX4_becomeEmpty_22 : decode cX4_becomeEmpty 22 = .ok (.iastore, 1) := by decide +kernel
theorem dX4_becomeEmpty_23 : decode cX4_becomeEmpty 23 = .ok (.iinc 2 1, 3) := by decide +kernel
theorem dX4_becomeEmpty_26 : decode cX4_becomeEmpty 26 = .ok (.goto (-19), 3) := by decide +kernel
theorem dX4_becomeEmpty_29 : decode cX4_becomeEmpty 29 = .ok (.return_, 1) := by decide +kernel
theorem dX4_has_0 : decode cX4_has 0 = .ok (.iload_n 1, 1) := by decide +kernel
theorem dX4_has_1 : decode cX4_has 1 = .ok (.ifCond .lt 27, 3) := by decide +kernel
theorem dX4_has_4 : decode cX4_has 4 = .ok (.iload_n 1, 1) := by decide +kernel
theorem dX4_has_5 : decode cX4_has 5 = .ok (.aload_n 0, 1) := by decide +kernel
theorem dX4_has_6 : decode cX4_has 6 = .ok (.getfield 18, 3) := by decide +kernel
theorem dX4_has_9 : decode cX4_has 9 = .ok (.if_icmp .ge 19, 3) := by decide +kernel
theorem dX4_has_12 : decode cX4_has 12 = .ok (.iload_n 2, 1) := by decide +kernel
theorem dX4_has_13 : decode cX4_has 13 = .ok (.ifCond .lt 15, 3) := by decide +kernel
theorem dX4_has_16 : decode cX4_has 16 = .ok (.iload_n 2, 1) := by decide +kernel
theorem dX4_has_17 : decode cX4_has 17 = .ok (.aload_n 0, 1) := by decide +kernel
theorem dX4_has_18 : decode cX4_has 18 = .ok (.getfield 18, 3) := by decide +kernel
theorem dX4_has_21 : decode cX4_has 21 = .ok (.if_icmp .ge 7, 3) := by decide +kernel
theorem dX4_has_24 : decode cX4_has 24 = .ok (.iconst 1, 1) := by decide +kernel
theorem dX4_has_25 : decode cX4_has 25 = .ok (.goto 4, 3) := by decide +kernel
theorem dX4_has_28 : decode cX4_has 28 = .ok (.iconst 0, 1) := by decide +kernel
theorem dX4_has_29 : decode cX4_has 29 = .ok (.ireturn, 1) := by decide +kernel
theorem dX4_placeOf_0 : decode cX4_placeOf 0 = .ok (.iload_n 1, 1) := by decide +kernel
theorem dX4_placeOf_1 : decode cX4_placeOf 1 = .ok (.aload_n 0, 1) := by decide +kernel
theorem dX4_placeOf_2 : decode cX4_placeOf 2 = .ok (.getfield 18, 3) := by decide +kernel
theorem dX4_placeOf_5 : decode cX4_placeOf 5 = .ok (.imul, 1) := by decide +kernel
theorem dX4_placeOf_6 : decode cX4_placeOf 6 = .ok (.iload_n 2, 1) := by decide +kernel
theorem dX4_placeOf_7 : decode cX4_placeOf 7 = .ok (.iadd, 1) := by decide +kernel
theorem dX4_placeOf_8 : decode cX4_placeOf 8 = .ok (.ireturn, 1) := by decide +kernel
theorem dX4_isFilled_0 : decode cX4_isFilled 0 = .ok (.aload_n 0, 1) := by decide +kernel
theorem dX4_isFilled_1 : decode cX4_isFilled 1 = .ok (.getfield 9, 3) := by decide +kernel
theorem dX4_isFilled_4 : decode cX4_isFilled 4 = .ok (.aload_n 0, 1) := by decide +kernel
theorem dX4_isFilled_5 : decode cX4_isFilled 5 = .ok (.iload_n 1, 1) := by decide +kernel
theorem dX4_isFilled_6 : decode cX4_isFilled 6 = .ok (.iload_n 2, 1) := by decide +kernel
theorem dX4_isFilled_7 : decode cX4_isFilled 7 = .ok (.invokevirtual 37, 3) := by decide +kernel
theorem dX4_isFilled_10 : decode cX4_isFilled 10 = .ok (.iaload, 1) := by decide +kernel
theorem dX4_isFilled_11 : decode cX4_isFilled 11 = .ok (.ifCond .eq 7, 3) := by decide +kernel
theorem dX4_isFilled_14 : decode cX4_isFilled 14 = .ok (.iconst 1, 1) := by decide +kernel
theorem dX4_isFilled_15 : decode cX4_isFilled 15 = .ok (.goto 4, 3) := by decide +kernel
theorem dX4_isFilled_18 : decode cX4_isFilled 18 = .ok (.iconst 0, 1) := by decide +kernel
theorem dX4_isFilled_19 : decode cX4_isFilled 19 = .ok (.ireturn, 1) := by decide +kernel
theorem dX4_becomeBuilt_0 : decode cX4_becomeBuilt 0 = .ok (.aload_n 0, 1) := by decide +kernel
theorem dX4_becomeBuilt_1 : decode cX4_becomeBuilt 1 = .ok (.aload_n 1, 1) := by decide +kernel
theorem dX4_becomeBuilt_2 : decode cX4_becomeBuilt 2 = .ok (.getfield 40, 3) := by decide +kernel
theorem dX4_becomeBuilt_5 : decode cX4_becomeBuilt 5 = .ok (.invokevirtual 45, 3) := by decide +kernel
theorem dX4_becomeBuilt_8 : decode cX4_becomeBuilt 8 = .ok (.iconst 0, 1) := by decide +kernel
theorem dX4_becomeBuilt_9 : decode cX4_becomeBuilt 9 = .ok (.istore_n 2, 1) := by decide +kernel
theorem dX4_becomeBuilt_10 : decode cX4_becomeBuilt 10 = .ok (.iconst 0, 1) := by decide +kernel
theorem dX4_becomeBuilt_11 : decode cX4_becomeBuilt 11 = .ok (.istore_n 3, 1) := by decide +kernel
theorem dX4_becomeBuilt_12 : decode cX4_becomeBuilt 12 = .ok (.iload_n 3, 1) := by decide +kernel
theorem dX4_becomeBuilt_13 : decode cX4_becomeBuilt 13 = .ok (.aload_n 0, 1) := by decide +kernel
theorem dX4_becomeBuilt_14 : decode cX4_becomeBuilt 14 = .ok (.getfield 18, 3) := by decide +kernel
theorem dX4_becomeBuilt_17 : decode cX4_becomeBuilt 17 = .ok (.if_icmp .ge 111, 3) := by decide +kernel
theorem dX4_becomeBuilt_20 : decode cX4_becomeBuilt 20 = .ok (.iload_n 2, 1) := by decide +kernel
theorem dX4_becomeBuilt_21 : decode cX4_becomeBuilt 21 = .ok (.aload_n 0, 1) := by decide +kernel
theorem dX4_becomeBuilt_22 : decode cX4_becomeBuilt 22 = .ok (.iload_n 3, 1) := by decide +kernel
theorem dX4_becomeBuilt_23 : decode cX4_becomeBuilt 23 = .ok (.iload_n 3, 1) := by decide +kernel
theorem dX4_becomeBuilt_24 : decode cX4_becomeBuilt 24 = .ok (.aload_n 0, 1) := by decide +kernel
theorem dX4_becomeBuilt_25 : decode cX4_becomeBuilt 25 = .ok (.getfield 18, 3) := by decide +kernel
theorem dX4_becomeBuilt_28 : decode cX4_becomeBuilt 28 = .ok (.iload_n 3, 1) := by decide +kernel
theorem dX4_becomeBuilt_29 : decode cX4_becomeBuilt 29 = .ok (.invokestatic 49, 3) := by decide +kernel
theorem dX4_becomeBuilt_32 : decode cX4_becomeBuilt 32 = .ok (.invokevirtual 52, 3) := by decide +kernel
theorem dX4_becomeBuilt_35 : decode cX4_becomeBuilt 35 = .ok (.iadd, 1) := by decide +kernel
theorem dX4_becomeBuilt_36 : decode cX4_becomeBuilt 36 = .ok (.istore_n 2, 1) := by decide +kernel
theorem dX4_becomeBuilt_37 : decode cX4_becomeBuilt 37 = .ok (.iconst 0, 1) := by decide +kernel
theorem dX4_becomeBuilt_38 : decode cX4_becomeBuilt 38 = .ok (.istore 4, 2) := by decide +kernel
theorem dX4_becomeBuilt_40 : decode cX4_becomeBuilt 40 = .ok (.iload 4, 2) := by decide +kernel
theorem dX4_becomeBuilt_42 : decode cX4_becomeBuilt 42 = .ok (.aload_n 1, 1) := by decide +kernel
theorem dX4_becomeBuilt_43 : decode cX4_becomeBuilt 43 = .ok (.getfield 56, 3) := by decide +kernel
theorem dX4_becomeBuilt_46 : decode cX4_becomeBuilt 46 = .ok (.if_icmp .ge 76, 3) := by decide +kernel
theorem dX4_becomeBuilt_49 : decode cX4_becomeBuilt 49 = .ok (.aload_n 1, 1) := by decide +kernel
theorem dX4_becomeBuilt_50 : decode cX4_becomeBuilt 50 = .ok (.getfield 59, 3) := by decide +kernel
theorem dX4_becomeBuilt_53 : decode cX4_becomeBuilt 53 = .ok (.iload 4, 2) := by decide +kernel
theorem dX4_becomeBuilt_55 : decode cX4_becomeBuilt 55 = .ok (.iaload, 1) := by decide +kernel
theorem dX4_becomeBuilt_56 : decode cX4_becomeBuilt 56 = .ok (.iload_n 3, 1) := by decide +kernel
theorem dX4_becomeBuilt_57 : decode cX4_becomeBuilt 57 = .ok (.iadd, 1) := by decide +kernel
theorem dX4_becomeBuilt_58 : decode cX4_becomeBuilt 58 = .ok (.aload_n 0, 1) := by decide +kernel
theorem dX4_becomeBuilt_59 : decode cX4_becomeBuilt 59 = .ok (.getfield 18, 3) := by decide +kernel
theorem dX4_becomeBuilt_62 : decode cX4_becomeBuilt 62 = .ok (.invokestatic 62, 3) := by decide +kernel
theorem dX4_becomeBuilt_65 : decode cX4_becomeBuilt 65 = .ok (.istore 5, 2) := by decide +kernel
theorem dX4_becomeBuilt_67 : decode cX4_becomeBuilt 67 = .ok (.aload_n 1, 1) := by decide +kernel
theorem dX4_becomeBuilt_68 : decode cX4_becomeBuilt 68 = .ok (.getfield 65, 3) := by decide +kernel
theorem dX4_becomeBuilt_71 : decode cX4_becomeBuilt 71 = .ok (.iload 4, 2) := by decide +kernel
theorem dX4_becomeBuilt_73 : decode cX4_becomeBuilt 73 = .ok (.iaload, 1) := by decide +kernel
theorem dX4_becomeBuilt_74 : decode cX4_becomeBuilt 74 = .ok (.iload_n 3, 1) := by decide +kernel
theorem dX4_becomeBuilt_75 : decode cX4_becomeBuilt 75 = .ok (.iadd, 1) := by decide +kernel
theorem dX4_becomeBuilt_76 : decode cX4_becomeBuilt 76 = .ok (.aload_n 0, 1) := by decide +kernel
theorem dX4_becomeBuilt_77 : decode cX4_becomeBuilt 77 = .ok (.getfield 18, 3) := by decide +kernel
theorem dX4_becomeBuilt_80 : decode cX4_becomeBuilt 80 = .ok (.invokestatic 62, 3) := by decide +kernel
theorem dX4_becomeBuilt_83 : decode cX4_becomeBuilt 83 = .ok (.istore 6, 2) := by decide +kernel
theorem dX4_becomeBuilt_85 : decode cX4_becomeBuilt 85 = .ok (.iload_n 2, 1) := by decide +kernel
theorem dX4_becomeBuilt_86 : decode cX4_becomeBuilt 86 = .ok (.aload_n 0, 1) := by decide +kernel
theorem dX4_becomeBuilt_87 : decode cX4_becomeBuilt 87 = .ok (.iload_n 3, 1) := by decide +kernel
theorem dX4_becomeBuilt_88 : decode cX4_becomeBuilt 88 = .ok (.iload_n 3, 1) := by decide +kernel
theorem dX4_becomeBuilt_89 : decode cX4_becomeBuilt 89 = .ok (.aload_n 1, 1) := by decide +kernel
theorem dX4_becomeBuilt_90 : decode cX4_becomeBuilt 90 = .ok (.getfield 68, 3) := by decide +kernel
theorem dX4_becomeBuilt_93 : decode cX4_becomeBuilt 93 = .ok (.iload 4, 2) := by decide +kernel
theorem dX4_becomeBuilt_95 : decode cX4_becomeBuilt 95 = .ok (.iaload, 1) := by decide +kernel
theorem dX4_becomeBuilt_96 : decode cX4_becomeBuilt 96 = .ok (.isub, 1) := by decide +kernel
theorem dX4_becomeBuilt_97 : decode cX4_becomeBuilt 97 = .ok (.aload_n 0, 1) := by decide +kernel
theorem dX4_becomeBuilt_98 : decode cX4_becomeBuilt 98 = .ok (.getfield 18, 3) := by decide +kernel
theorem dX4_becomeBuilt_101 : decode cX4_becomeBuilt 101 = .ok (.invokestatic 62, 3) := by decide +kernel
theorem dX4_becomeBuilt_104 : decode cX4_becomeBuilt 104 = .ok (.iload 5, 2) := by decide +kernel
theorem dX4_becomeBuilt_106 : decode cX4_becomeBuilt 106 = .ok (.iload 6, 2) := by decide +kernel
theorem dX4_becomeBuilt_108 : decode cX4_becomeBuilt 108 = .ok (.invokestatic 49, 3) := by decide +kernel
theorem dX4_becomeBuilt_111 : decode cX4_becomeBuilt 111 = .ok (.invokevirtual 52, 3) := by decide +kernel
theorem dX4_becomeBuilt_114 : decode cX4_becomeBuilt 114 = .ok (.iadd, 1) := by decide +kernel
theorem dX4_becomeBuilt_115 : decode cX4_becomeBuilt 115 = .ok (.istore_n 2, 1) := by decide +kernel
theorem dX4_becomeBuilt_116 : decode cX4_becomeBuilt 116 = .ok (.iinc 4 1, 3) := by decide +kernel
theorem dX4_becomeBuilt_119 : decode cX4_becomeBuilt 119 = .ok (.goto (-79), 3) := by decide +kernel
theorem dX4_becomeBuilt_122 : decode cX4_becomeBuilt 122 = .ok (.iinc 3 1, 3) := by decide +kernel
theorem dX4_becomeBuilt_125 : decode cX4_becomeBuilt 125 = .ok (.goto (-113), 3) := by decide +kernel
theorem dX4_becomeBuilt_128 : decode cX4_becomeBuilt 128 = .ok (.iload_n 2, 1) := by decide +kernel
theorem dX4_becomeBuilt_129 : decode cX4_becomeBuilt 129 = .ok (.ireturn, 1) := by decide +kernel
theorem dX4_lay_0 : decode cX4_lay 0 = .ok (.aload_n 0, 1) := by decide +kernel
theorem dX4_lay_1 : decode cX4_lay 1 = .ok (.iload_n 1, 1) := by decide +kernel
theorem dX4_lay_2 : decode cX4_lay 2 = .ok (.iload_n 2, 1) := by decide +kernel
theorem dX4_lay_3 : decode cX4_lay 3 = .ok (.invokevirtual 71, 3) := by decide +kernel
theorem dX4_lay_6 : decode cX4_lay 6 = .ok (.ifCond .eq 5, 3) := by decide +kernel
theorem dX4_lay_9 : decode cX4_lay 9 = .ok (.iconst 1, 1) := by decide +kernel
theorem dX4_lay_10 : decode cX4_lay 10 = .ok (.ireturn, 1) := by decide +kernel
theorem dX4_lay_11 : decode cX4_lay 11 = .ok (.aload_n 0, 1) := by decide +kernel
theorem dX4_lay_12 : decode cX4_lay 12 = .ok (.getfield 9, 3) := by decide +kernel
theorem dX4_lay_15 : decode cX4_lay 15 = .ok (.aload_n 0, 1) := by decide +kernel
theorem dX4_lay_16 : decode cX4_lay 16 = .ok (.iload_n 1, 1) := by decide +kernel
theorem dX4_lay_17 : decode cX4_lay 17 = .ok (.iload_n 2, 1) := by decide +kernel
theorem dX4_lay_18 : decode cX4_lay 18 = .ok (.invokevirtual 37, 3) := by decide +kernel
theorem dX4_lay_21 : decode cX4_lay 21 = .ok (.iload_n 3, 1) := by decide +kernel
theorem dX4_lay_22 : decode cX4_lay 22 = .ok (.iastore, 1) := by decide +kernel
theorem dX4_lay_23 : decode cX4_lay 23 = .ok (.iconst 0, 1) := by decide +kernel
theorem dX4_lay_24 : decode cX4_lay 24 = .ok (.ireturn, 1) := by decide +kernel
theorem dX4_filled_0 : decode cX4_filled 0 = .ok (.iconst 0, 1) := by decide +kernel
theorem dX4_filled_1 : decode cX4_filled 1 = .ok (.istore_n 1, 1) := by decide +kernel
theorem dX4_filled_2 : decode cX4_filled 2 = .ok (.iconst 0, 1) := by decide +kernel
theorem dX4_filled_3 : decode cX4_filled 3 = .ok (.istore_n 2, 1) := by decide +kernel
theorem dX4_filled_4 : decode cX4_filled 4 = .ok (.iload_n 2, 1) := by decide +kernel
theorem dX4_filled_5 : decode cX4_filled 5 = .ok (.aload_n 0, 1) := by decide +kernel
theorem dX4_filled_6 : decode cX4_filled 6 = .ok (.getfield 18, 3) := by decide +kernel
theorem dX4_filled_9 : decode cX4_filled 9 = .ok (.aload_n 0, 1) := by decide +kernel
theorem dX4_filled_10 : decode cX4_filled 10 = .ok (.getfield 18, 3) := by decide +kernel
theorem dX4_filled_13 : decode cX4_filled 13 = .ok (.imul, 1) := by decide +kernel
theorem dX4_filled_14 : decode cX4_filled 14 = .ok (.if_icmp .ge 29, 3) := by decide +kernel
theorem dX4_filled_17 : decode cX4_filled 17 = .ok (.iload_n 1, 1) := by decide +kernel
theorem dX4_filled_18 : decode cX4_filled 18 = .ok (.aload_n 0, 1) := by decide +kernel
theorem dX4_filled_19 : decode cX4_filled 19 = .ok (.getfield 9, 3) := by decide +kernel
theorem dX4_filled_22 : decode cX4_filled 22 = .ok (.iload_n 2, 1) := by decide +kernel
theorem dX4_filled_23 : decode cX4_filled 23 = .ok (.iaload, 1) := by decide +kernel
theorem dX4_filled_24 : decode cX4_filled 24 = .ok (.ifCond .eq 7, 3) := by decide +kernel
theorem dX4_filled_27 : decode cX4_filled 27 = .ok (.iconst 1, 1) := by decide +kernel
theorem dX4_filled_28 : decode cX4_filled 28 = .ok (.goto 4, 3) := by decide +kernel
theorem dX4_filled_31 : decode cX4_filled 31 = .ok (.iconst 0, 1) := by decide +kernel
theorem dX4_filled_32 : decode cX4_filled 32 = .ok (.invokestatic 75, 3) := by decide +kernel
theorem dX4_filled_35 : decode cX4_filled 35 = .ok (.iadd, 1) := by decide +kernel
theorem dX4_filled_36 : decode cX4_filled 36 = .ok (.istore_n 1, 1) := by decide +kernel
theorem dX4_filled_37 : decode cX4_filled 37 = .ok (.iinc 2 1, 3) := by decide +kernel
theorem dX4_filled_40 : decode cX4_filled 40 = .ok (.goto (-36), 3) := by decide +kernel
theorem dX4_filled_43 : decode cX4_filled 43 = .ok (.iload_n 1, 1) := by decide +kernel
theorem dX4_filled_44 : decode cX4_filled 44 = .ok (.ireturn, 1) := by decide +kernel
theorem dX4_faultsOfLine_0 : decode cX4_faultsOfLine 0 = .ok (.iconst 0, 1) := by decide +kernel
theorem dX4_faultsOfLine_1 : decode cX4_faultsOfLine 1 = .ok (.istore_n 3, 1) := by decide +kernel
theorem dX4_faultsOfLine_2 : decode cX4_faultsOfLine 2 = .ok (.iconst 0, 1) := by decide +kernel
theorem dX4_faultsOfLine_3 : decode cX4_faultsOfLine 3 = .ok (.istore 4, 2) := by decide +kernel
theorem dX4_faultsOfLine_5 : decode cX4_faultsOfLine 5 = .ok (.iconst 0, 1) := by decide +kernel
theorem dX4_faultsOfLine_6 : decode cX4_faultsOfLine 6 = .ok (.istore 5, 2) := by decide +kernel
theorem dX4_faultsOfLine_8 : decode cX4_faultsOfLine 8 = .ok (.iload 5, 2) := by decide +kernel
theorem dX4_faultsOfLine_10 : decode cX4_faultsOfLine 10 = .ok (.aload_n 0, 1) := by decide +kernel
theorem dX4_faultsOfLine_11 : decode cX4_faultsOfLine 11 = .ok (.getfield 18, 3) := by decide +kernel
theorem dX4_faultsOfLine_14 : decode cX4_faultsOfLine 14 = .ok (.if_icmp .ge 73, 3) := by decide +kernel
theorem dX4_faultsOfLine_17 : decode cX4_faultsOfLine 17 = .ok (.aload_n 0, 1) := by decide +kernel
theorem dX4_faultsOfLine_18 : decode cX4_faultsOfLine 18 = .ok (.getfield 9, 3) := by decide +kernel
theorem dX4_faultsOfLine_21 : decode cX4_faultsOfLine 21 = .ok (.iload_n 1, 1) := by decide +kernel
theorem dX4_faultsOfLine_22 : decode cX4_faultsOfLine 22 = .ok (.ifCond .eq 13, 3) := by decide +kernel
theorem dX4_faultsOfLine_25 : decode cX4_faultsOfLine 25 = .ok (.aload_n 0, 1) := by decide +kernel
theorem dX4_faultsOfLine_26 : decode cX4_faultsOfLine 26 = .ok (.iload_n 2, 1) := by decide +kernel
theorem dX4_faultsOfLine_27 : decode cX4_faultsOfLine 27 = .ok (.iload 5, 2) := by decide +kernel
theorem dX4_faultsOfLine_29 : decode cX4_faultsOfLine 29 = .ok (.invokevirtual 37, 3) := by decide +kernel
theorem dX4_faultsOfLine_32 : decode cX4_faultsOfLine 32 = .ok (.goto 10, 3) := by decide +kernel
theorem dX4_faultsOfLine_35 : decode cX4_faultsOfLine 35 = .ok (.aload_n 0, 1) := by decide +kernel
theorem dX4_faultsOfLine_36 : decode cX4_faultsOfLine 36 = .ok (.iload 5, 2) := by decide +kernel
theorem dX4_faultsOfLine_38 : decode cX4_faultsOfLine 38 = .ok (.iload_n 2, 1) := by decide +kernel
theorem dX4_faultsOfLine_39 : decode cX4_faultsOfLine 39 = .ok (.invokevirtual 37, 3) := by decide +kernel
theorem dX4_faultsOfLine_42 : decode cX4_faultsOfLine 42 = .ok (.iaload, 1) := by decide +kernel
theorem dX4_faultsOfLine_43 : decode cX4_faultsOfLine 43 = .ok (.istore 6, 2) := by decide +kernel
theorem dX4_faultsOfLine_45 : decode cX4_faultsOfLine 45 = .ok (.iload 6, 2) := by decide +kernel
theorem dX4_faultsOfLine_47 : decode cX4_faultsOfLine 47 = .ok (.ifCond .eq 34, 3) := by decide +kernel
theorem dX4_faultsOfLine_50 : decode cX4_faultsOfLine 50 = .ok (.iconst 1, 1) := by decide +kernel
theorem dX4_faultsOfLine_51 : decode cX4_faultsOfLine 51 = .ok (.iload 6, 2) := by decide +kernel
theorem dX4_faultsOfLine_53 : decode cX4_faultsOfLine 53 = .ok (.invokestatic 79, 3) := by decide +kernel
theorem dX4_faultsOfLine_56 : decode cX4_faultsOfLine 56 = .ok (.ishl, 1) := by decide +kernel
theorem dX4_faultsOfLine_57 : decode cX4_faultsOfLine 57 = .ok (.iconst 1, 1) := by decide +kernel
theorem dX4_faultsOfLine_58 : decode cX4_faultsOfLine 58 = .ok (.iload 6, 2) := by decide +kernel
theorem dX4_faultsOfLine_60 : decode cX4_faultsOfLine 60 = .ok (.invokestatic 83, 3) := by decide +kernel
theorem dX4_faultsOfLine_63 : decode cX4_faultsOfLine 63 = .ok (.ishl, 1) := by decide +kernel
theorem dX4_faultsOfLine_64 : decode cX4_faultsOfLine 64 = .ok (.ior, 1) := by decide +kernel
theorem dX4_faultsOfLine_65 : decode cX4_faultsOfLine 65 = .ok (.istore 7, 2) := by decide +kernel
theorem dX4_faultsOfLine_67 : decode cX4_faultsOfLine 67 = .ok (.iload 4, 2) := by decide +kernel
theorem dX4_faultsOfLine_69 : decode cX4_faultsOfLine 69 = .ok (.iload_n 3, 1) := by decide +kernel
theorem dX4_faultsOfLine_70 : decode cX4_faultsOfLine 70 = .ok (.iload 7, 2) := by decide +kernel
theorem dX4_faultsOfLine_72 : decode cX4_faultsOfLine 72 = .ok (.iand, 1) := by decide +kernel
theorem dX4_faultsOfLine_73 : decode cX4_faultsOfLine 73 = .ok (.ior, 1) := by decide +kernel
theorem dX4_faultsOfLine_74 : decode cX4_faultsOfLine 74 = .ok (.istore 4, 2) := by decide +kernel
theorem dX4_faultsOfLine_76 : decode cX4_faultsOfLine 76 = .ok (.iload_n 3, 1) := by decide +kernel
theorem dX4_faultsOfLine_77 : decode cX4_faultsOfLine 77 = .ok (.iload 7, 2) := by decide +kernel
theorem dX4_faultsOfLine_79 : decode cX4_faultsOfLine 79 = .ok (.ior, 1) := by decide +kernel
theorem dX4_faultsOfLine_80 : decode cX4_faultsOfLine 80 = .ok (.istore_n 3, 1) := by decide +kernel
theorem dX4_faultsOfLine_81 : decode cX4_faultsOfLine 81 = .ok (.iinc 5 1, 3) := by decide +kernel
theorem dX4_faultsOfLine_84 : decode cX4_faultsOfLine 84 = .ok (.goto (-76), 3) := by decide +kernel
theorem dX4_faultsOfLine_87 : decode cX4_faultsOfLine 87 = .ok (.aload_n 0, 1) := by decide +kernel
theorem dX4_faultsOfLine_88 : decode cX4_faultsOfLine 88 = .ok (.getfield 18, 3) := by decide +kernel
theorem dX4_faultsOfLine_91 : decode cX4_faultsOfLine 91 = .ok (.iconst 1, 1) := by decide +kernel
theorem dX4_faultsOfLine_92 : decode cX4_faultsOfLine 92 = .ok (.iadd, 1) := by decide +kernel
theorem dX4_faultsOfLine_93 : decode cX4_faultsOfLine 93 = .ok (.iload_n 3, 1) := by decide +kernel
theorem dX4_faultsOfLine_94 : decode cX4_faultsOfLine 94 = .ok (.iload 4, 2) := by decide +kernel
theorem dX4_faultsOfLine_96 : decode cX4_faultsOfLine 96 = .ok (.iconst (-1), 1) := by decide +kernel
theorem dX4_faultsOfLine_97 : decode cX4_faultsOfLine 97 = .ok (.ixor, 1) := by decide +kernel
theorem dX4_faultsOfLine_98 : decode cX4_faultsOfLine 98 = .ok (.iand, 1) := by decide +kernel
theorem dX4_faultsOfLine_99 : decode cX4_faultsOfLine 99 = .ok (.invokestatic 86, 3) := by decide +kernel
theorem dX4_faultsOfLine_102 : decode cX4_faultsOfLine 102 = .ok (.isub, 1) := by decide +kernel
theorem dX4_faultsOfLine_103 : decode cX4_faultsOfLine 103 = .ok (.ireturn, 1) := by decide +kernel
theorem dX4_faultsOfPairs_0 : decode cX4_faultsOfPairs 0 = .ok (.iconst 0, 1) := by decide +kernel
theorem dX4_faultsOfPairs_1 : decode cX4_faultsOfPairs 1 = .ok (.istore_n 1, 1) := by decide +kernel
theorem dX4_faultsOfPairs_2 : decode cX4_faultsOfPairs 2 = .ok (.iload_n 1, 1) := by decide +kernel
theorem dX4_faultsOfPairs_3 : decode cX4_faultsOfPairs 3 = .ok (.aload_n 0, 1) := by decide +kernel
theorem dX4_faultsOfPairs_4 : decode cX4_faultsOfPairs 4 = .ok (.getfield 15, 3) := by decide +kernel
theorem dX4_faultsOfPairs_7 : decode cX4_faultsOfPairs 7 = .ok (.arraylength, 1) := by decide +kernel
theorem dX4_faultsOfPairs_8 : decode cX4_faultsOfPairs 8 = .ok (.if_icmp .ge 16, 3) := by decide +kernel
theorem dX4_faultsOfPairs_11 : decode cX4_faultsOfPairs 11 = .ok (.aload_n 0, 1) := by decide +kernel
theorem dX4_faultsOfPairs_12 : decode cX4_faultsOfPairs 12 = .ok (.getfield 15, 3) := by decide +kernel
theorem dX4_faultsOfPairs_15 : decode cX4_faultsOfPairs 15 = .ok (.iload_n 1, 1) := by decide +kernel
theorem dX4_faultsOfPairs_16 : decode cX4_faultsOfPairs 16 = .ok (.iconst 0, 1) := by decide +kernel
theorem dX4_faultsOfPairs_17 : decode cX4_faultsOfPairs 17 = .ok (.iastore, 1) := by decide +kernel
theorem dX4_faultsOfPairs_18 : decode cX4_faultsOfPairs 18 = .ok (.iinc 1 1, 3) := by decide +kernel
theorem dX4_faultsOfPairs_21 : decode cX4_faultsOfPairs 21 = .ok (.goto (-19), 3) := by decide +kernel
theorem dX4_faultsOfPairs_24 : decode cX4_faultsOfPairs 24 = .ok (.iconst 0, 1) := by decide +kernel
theorem dX4_faultsOfPairs_25 : decode cX4_faultsOfPairs 25 = .ok (.istore_n 1, 1) := by decide +kernel
theorem dX4_faultsOfPairs_26 : decode cX4_faultsOfPairs 26 = .ok (.iload_n 1, 1) := by decide +kernel
theorem dX4_faultsOfPairs_27 : decode cX4_faultsOfPairs 27 = .ok (.aload_n 0, 1) := by decide +kernel
theorem dX4_faultsOfPairs_28 : decode cX4_faultsOfPairs 28 = .ok (.getfield 18, 3) := by decide +kernel
theorem dX4_faultsOfPairs_31 : decode cX4_faultsOfPairs 31 = .ok (.aload_n 0, 1) := by decide +kernel
theorem dX4_faultsOfPairs_32 : decode cX4_faultsOfPairs 32 = .ok (.getfield 18, 3) := by decide +kernel
theorem dX4_faultsOfPairs_35 : decode cX4_faultsOfPairs 35 = .ok (.imul, 1) := by decide +kernel
theorem dX4_faultsOfPairs_36 : decode cX4_faultsOfPairs 36 = .ok (.if_icmp .ge 24, 3) := by decide +kernel
theorem dX4_faultsOfPairs_39 : decode cX4_faultsOfPairs 39 = .ok (.aload_n 0, 1) := by decide +kernel
theorem dX4_faultsOfPairs_40 : decode cX4_faultsOfPairs 40 = .ok (.getfield 15, 3) := by decide +kernel
theorem dX4_faultsOfPairs_43 : decode cX4_faultsOfPairs 43 = .ok (.aload_n 0, 1) := by decide +kernel
theorem dX4_faultsOfPairs_44 : decode cX4_faultsOfPairs 44 = .ok (.getfield 9, 3) := by decide +kernel
theorem dX4_faultsOfPairs_47 : decode cX4_faultsOfPairs 47 = .ok (.iload_n 1, 1) := by decide +kernel
theorem dX4_faultsOfPairs_48 : decode cX4_faultsOfPairs 48 = .ok (.iaload, 1) := by decide +kernel
theorem dX4_faultsOfPairs_49 : decode cX4_faultsOfPairs 49 = .ok (.dup2, 1) := by decide +kernel
theorem dX4_faultsOfPairs_50 : decode cX4_faultsOfPairs 50 = .ok (.iaload, 1) := by decide +kernel
theorem dX4_faultsOfPairs_51 : decode cX4_faultsOfPairs 51 = .ok (.iconst 1, 1) := by decide +kernel
theorem dX4_faultsOfPairs_52 : decode cX4_faultsOfPairs 52 = .ok (.iadd, 1) := by decide +kernel
theorem dX4_faultsOfPairs_53 : decode cX4_faultsOfPairs 53 = .ok (.iastore, 1) := by decide +kernel
theorem dX4_faultsOfPairs_54 : decode cX4_faultsOfPairs 54 = .ok (.iinc 1 1, 3) := by decide +kernel
theorem dX4_faultsOfPairs_57 : decode cX4_faultsOfPairs 57 = .ok (.goto (-31), 3) := by decide +kernel
theorem dX4_faultsOfPairs_60 : decode cX4_faultsOfPairs 60 = .ok (.aload_n 0, 1) := by decide +kernel
theorem dX4_faultsOfPairs_61 : decode cX4_faultsOfPairs 61 = .ok (.getfield 18, 3) := by decide +kernel
theorem dX4_faultsOfPairs_64 : decode cX4_faultsOfPairs 64 = .ok (.aload_n 0, 1) := by decide +kernel
theorem dX4_faultsOfPairs_65 : decode cX4_faultsOfPairs 65 = .ok (.getfield 18, 3) := by decide +kernel
theorem dX4_faultsOfPairs_68 : decode cX4_faultsOfPairs 68 = .ok (.iconst 1, 1) := by decide +kernel
theorem dX4_faultsOfPairs_69 : decode cX4_faultsOfPairs 69 = .ok (.iadd, 1) := by decide +kernel
theorem dX4_faultsOfPairs_70 : decode cX4_faultsOfPairs 70 = .ok (.imul, 1) := by decide +kernel
theorem dX4_faultsOfPairs_71 : decode cX4_faultsOfPairs 71 = .ok (.iconst 2, 1) := by decide +kernel
theorem dX4_faultsOfPairs_72 : decode cX4_faultsOfPairs 72 = .ok (.idiv, 1) := by decide +kernel
theorem dX4_faultsOfPairs_73 : decode cX4_faultsOfPairs 73 = .ok (.istore_n 1, 1) := by decide +kernel
theorem dX4_faultsOfPairs_74 : decode cX4_faultsOfPairs 74 = .ok (.iconst 1, 1) := by decide +kernel
theorem dX4_faultsOfPairs_75 : decode cX4_faultsOfPairs 75 = .ok (.istore_n 2, 1) := by decide +kernel
theorem dX4_faultsOfPairs_76 : decode cX4_faultsOfPairs 76 = .ok (.iload_n 2, 1) := by decide +kernel
theorem dX4_faultsOfPairs_77 : decode cX4_faultsOfPairs 77 = .ok (.aload_n 0, 1) := by decide +kernel
theorem dX4_faultsOfPairs_78 : decode cX4_faultsOfPairs 78 = .ok (.getfield 15, 3) := by decide +kernel
theorem dX4_faultsOfPairs_81 : decode cX4_faultsOfPairs 81 = .ok (.arraylength, 1) := by decide +kernel
theorem dX4_faultsOfPairs_82 : decode cX4_faultsOfPairs 82 = .ok (.if_icmp .ge 30, 3) := by decide +kernel
theorem dX4_faultsOfPairs_85 : decode cX4_faultsOfPairs 85 = .ok (.iload_n 1, 1) := by decide +kernel
theorem dX4_faultsOfPairs_86 : decode cX4_faultsOfPairs 86 = .ok (.aload_n 0, 1) := by decide +kernel
theorem dX4_faultsOfPairs_87 : decode cX4_faultsOfPairs 87 = .ok (.getfield 15, 3) := by decide +kernel
theorem dX4_faultsOfPairs_90 : decode cX4_faultsOfPairs 90 = .ok (.iload_n 2, 1) := by decide +kernel
theorem dX4_faultsOfPairs_91 : decode cX4_faultsOfPairs 91 = .ok (.iaload, 1) := by decide +kernel
theorem dX4_faultsOfPairs_92 : decode cX4_faultsOfPairs 92 = .ok (.iconst 1, 1) := by decide +kernel
theorem dX4_faultsOfPairs_93 : decode cX4_faultsOfPairs 93 = .ok (.if_icmp .ne 7, 3) := by decide +kernel
theorem dX4_faultsOfPairs_96 : decode cX4_faultsOfPairs 96 = .ok (.iconst 1, 1) := by decide +kernel
theorem dX4_faultsOfPairs_97 : decode cX4_faultsOfPairs 97 = .ok (.goto 4, 3) := by decide +kernel
theorem dX4_faultsOfPairs_100 : decode cX4_faultsOfPairs 100 = .ok (.iconst 0, 1) := by decide +kernel
theorem dX4_faultsOfPairs_101 : decode cX4_faultsOfPairs 101 = .ok (.invokestatic 75, 3) := by decide +kernel
theorem dX4_faultsOfPairs_104 : decode cX4_faultsOfPairs 104 = .ok (.isub, 1) := by decide +kernel
theorem dX4_faultsOfPairs_105 : decode cX4_faultsOfPairs 105 = .ok (.istore_n 1, 1) := by decide +kernel
theorem dX4_faultsOfPairs_106 : decode cX4_faultsOfPairs 106 = .ok (.iinc 2 1, 3) := by decide +kernel
theorem dX4_faultsOfPairs_109 : decode cX4_faultsOfPairs 109 = .ok (.goto (-33), 3) := by decide +kernel
theorem dX4_faultsOfPairs_112 : decode cX4_faultsOfPairs 112 = .ok (.iload_n 1, 1) := by decide +kernel
theorem dX4_faultsOfPairs_113 : decode cX4_faultsOfPairs 113 = .ok (.ireturn, 1) := by decide +kernel
theorem dX4_isIndeed_0 : decode cX4_isIndeed 0 = .ok (.iconst 0, 1) := by decide +kernel
theorem dX4_isIndeed_1 : decode cX4_isIndeed 1 = .ok (.istore_n 1, 1) := by decide +kernel
theorem dX4_isIndeed_2 : decode cX4_isIndeed 2 = .ok (.iload_n 1, 1) := by decide +kernel
theorem dX4_isIndeed_3 : decode cX4_isIndeed 3 = .ok (.aload_n 0, 1) := by decide +kernel
theorem dX4_isIndeed_4 : decode cX4_isIndeed 4 = .ok (.getfield 18, 3) := by decide +kernel
theorem dX4_isIndeed_7 : decode cX4_isIndeed 7 = .ok (.if_icmp .ge 29, 3) := by decide +kernel
theorem dX4_isIndeed_10 : decode cX4_isIndeed 10 = .ok (.aload_n 0, 1) := by decide +kernel
theorem dX4_isIndeed_11 : decode cX4_isIndeed 11 = .ok (.iconst 1, 1) := by decide +kernel
theorem dX4_isIndeed_12 : decode cX4_isIndeed 12 = .ok (.iload_n 1, 1) := by decide +kernel
theorem dX4_isIndeed_13 : decode cX4_isIndeed 13 = .ok (.invokevirtual 91, 3) := by decide +kernel
theorem dX4_isIndeed_16 : decode cX4_isIndeed 16 = .ok (.ifCond .ne 12, 3) := by decide +kernel
theorem dX4_isIndeed_19 : decode cX4_isIndeed 19 = .ok (.aload_n 0, 1) := by decide +kernel
theorem dX4_isIndeed_20 : decode cX4_isIndeed 20 = .ok (.iconst 0, 1) := by decide +kernel
theorem dX4_isIndeed_21 : decode cX4_isIndeed 21 = .ok (.iload_n 1, 1) := by decide +kernel
theorem dX4_isIndeed_22 : decode cX4_isIndeed 22 = .ok (.invokevirtual 91, 3) := by decide +kernel
theorem dX4_isIndeed_25 : decode cX4_isIndeed 25 = .ok (.ifCond .eq 5, 3) := by decide +kernel
theorem dX4_isIndeed_28 : decode cX4_isIndeed 28 = .ok (.iconst 0, 1) := by decide +kernel
theorem dX4_isIndeed_29 : decode cX4_isIndeed 29 = .ok (.ireturn, 1) := by decide +kernel
theorem dX4_isIndeed_30 : decode cX4_isIndeed 30 = .ok (.iinc 1 1, 3) := by decide +kernel
theorem dX4_isIndeed_33 : decode cX4_isIndeed 33 = .ok (.goto (-31), 3) := by decide +kernel
theorem dX4_isIndeed_36 : decode cX4_isIndeed 36 = .ok (.aload_n 0, 1) := by decide +kernel
theorem dX4_isIndeed_37 : decode cX4_isIndeed 37 = .ok (.invokevirtual 95, 3) := by decide +kernel
theorem dX4_isIndeed_40 : decode cX4_isIndeed 40 = .ok (.ifCond .ne 7, 3) := by decide +kernel
theorem dX4_isIndeed_43 : decode cX4_isIndeed 43 = .ok (.iconst 1, 1) := by decide +kernel
theorem dX4_isIndeed_44 : decode cX4_isIndeed 44 = .ok (.goto 4, 3) := by decide +kernel
theorem dX4_isIndeed_47 : decode cX4_isIndeed 47 = .ok (.iconst 0, 1) := by decide +kernel
theorem dX4_isIndeed_48 : decode cX4_isIndeed 48 = .ok (.ireturn, 1) := by decide +kernel
theorem dX4_facing_0 : decode cX4_facing 0 = .ok (.iconst 0, 1) := by decide +kernel
theorem dX4_facing_1 : decode cX4_facing 1 = .ok (.istore_n 1, 1) := by decide +kernel
theorem dX4_facing_2 : decode cX4_facing 2 = .ok (.iconst 0, 1) := by decide +kernel
theorem dX4_facing_3 : decode cX4_facing 3 = .ok (.istore_n 2, 1) := by decide +kernel
theorem dX4_facing_4 : decode cX4_facing 4 = .ok (.iload_n 2, 1) := by decide +kernel
theorem dX4_facing_5 : decode cX4_facing 5 = .ok (.aload_n 0, 1) := by decide +kernel
theorem dX4_facing_6 : decode cX4_facing 6 = .ok (.getfield 18, 3) := by decide +kernel
theorem dX4_facing_9 : decode cX4_facing 9 = .ok (.if_icmp .ge 56, 3) := by decide +kernel
theorem dX4_facing_12 : decode cX4_facing 12 = .ok (.iconst 0, 1) := by decide +kernel
theorem dX4_facing_13 : decode cX4_facing 13 = .ok (.istore_n 3, 1) := by decide +kernel
theorem dX4_facing_14 : decode cX4_facing 14 = .ok (.iload_n 3, 1) := by decide +kernel
theorem dX4_facing_15 : decode cX4_facing 15 = .ok (.aload_n 0, 1) := by decide +kernel
theorem dX4_facing_16 : decode cX4_facing 16 = .ok (.getfield 18, 3) := by decide +kernel
theorem dX4_facing_19 : decode cX4_facing 19 = .ok (.if_icmp .ge 40, 3) := by decide +kernel
theorem dX4_facing_22 : decode cX4_facing 22 = .ok (.iload_n 1, 1) := by decide +kernel
theorem dX4_facing_23 : decode cX4_facing 23 = .ok (.iload_n 2, 1) := by decide +kernel
theorem dX4_facing_24 : decode cX4_facing 24 = .ok (.iload_n 3, 1) := by decide +kernel
theorem dX4_facing_25 : decode cX4_facing 25 = .ok (.if_icmp .eq 22, 3) := by decide +kernel
theorem dX4_facing_28 : decode cX4_facing 28 = .ok (.aload_n 0, 1) := by decide +kernel
theorem dX4_facing_29 : decode cX4_facing 29 = .ok (.iload_n 2, 1) := by decide +kernel
theorem dX4_facing_30 : decode cX4_facing 30 = .ok (.iload_n 3, 1) := by decide +kernel
theorem dX4_facing_31 : decode cX4_facing 31 = .ok (.invokevirtual 71, 3) := by decide +kernel
theorem dX4_facing_34 : decode cX4_facing 34 = .ok (.aload_n 0, 1) := by decide +kernel
theorem dX4_facing_35 : decode cX4_facing 35 = .ok (.iload_n 3, 1) := by decide +kernel
theorem dX4_facing_36 : decode cX4_facing 36 = .ok (.iload_n 2, 1) := by decide +kernel
theorem dX4_facing_37 : decode cX4_facing 37 = .ok (.invokevirtual 71, 3) := by decide +kernel
theorem dX4_facing_40 : decode cX4_facing 40 = .ok (.if_icmp .ne 7, 3) := by decide +kernel
theorem dX4_facing_43 : decode cX4_facing 43 = .ok (.iconst 1, 1) := by decide +kernel
theorem dX4_facing_44 : decode cX4_facing 44 = .ok (.goto 4, 3) := by decide +kernel
theorem dX4_facing_47 : decode cX4_facing 47 = .ok (.iconst 0, 1) := by decide +kernel
theorem dX4_facing_48 : decode cX4_facing 48 = .ok (.invokestatic 75, 3) := by decide +kernel
theorem dX4_facing_51 : decode cX4_facing 51 = .ok (.iadd, 1) := by decide +kernel
theorem dX4_facing_52 : decode cX4_facing 52 = .ok (.istore_n 1, 1) := by decide +kernel
theorem dX4_facing_53 : decode cX4_facing 53 = .ok (.iinc 3 1, 3) := by decide +kernel
theorem dX4_facing_56 : decode cX4_facing 56 = .ok (.goto (-42), 3) := by decide +kernel
theorem dX4_facing_59 : decode cX4_facing 59 = .ok (.iinc 2 1, 3) := by decide +kernel
theorem dX4_facing_62 : decode cX4_facing 62 = .ok (.goto (-58), 3) := by decide +kernel
theorem dX4_facing_65 : decode cX4_facing 65 = .ok (.iload_n 1, 1) := by decide +kernel
theorem dX4_facing_66 : decode cX4_facing 66 = .ok (.ireturn, 1) := by decide +kernel
theorem dX4_firstOf_0 : decode cX4_firstOf 0 = .ok (.iconst 0, 1) := by decide +kernel
theorem dX4_firstOf_1 : decode cX4_firstOf 1 = .ok (.istore_n 2, 1) := by decide +kernel
theorem dX4_firstOf_2 : decode cX4_firstOf 2 = .ok (.iload_n 2, 1) := by decide +kernel
theorem dX4_firstOf_3 : decode cX4_firstOf 3 = .ok (.aload_n 0, 1) := by decide +kernel
theorem dX4_firstOf_4 : decode cX4_firstOf 4 = .ok (.getfield 18, 3) := by decide +kernel
theorem dX4_firstOf_7 : decode cX4_firstOf 7 = .ok (.if_icmp .ge 47, 3) := by decide +kernel
theorem dX4_firstOf_10 : decode cX4_firstOf 10 = .ok (.iconst 0, 1) := by decide +kernel
theorem dX4_firstOf_11 : decode cX4_firstOf 11 = .ok (.istore_n 3, 1) := by decide +kernel
theorem dX4_firstOf_12 : decode cX4_firstOf 12 = .ok (.iload_n 3, 1) := by decide +kernel
theorem dX4_firstOf_13 : decode cX4_firstOf 13 = .ok (.aload_n 0, 1) := by decide +kernel
theorem dX4_firstOf_14 : decode cX4_firstOf 14 = .ok (.getfield 18, 3) := by decide +kernel
theorem dX4_firstOf_17 : decode cX4_firstOf 17 = .ok (.if_icmp .ge 31, 3) := by decide +kernel
theorem dX4_firstOf_20 : decode cX4_firstOf 20 = .ok (.aload_n 0, 1) := by decide +kernel
theorem dX4_firstOf_21 : decode cX4_firstOf 21 = .ok (.getfield 9, 3) := by decide +kernel
theorem dX4_firstOf_24 : decode cX4_firstOf 24 = .ok (.aload_n 0, 1) := by decide +kernel
theorem dX4_firstOf_25 : decode cX4_firstOf 25 = .ok (.iload_n 2, 1) := by decide +kernel
theorem dX4_firstOf_26 : decode cX4_firstOf 26 = .ok (.iload_n 3, 1) := by decide +kernel
theorem dX4_firstOf_27 : decode cX4_firstOf 27 = .ok (.invokevirtual 37, 3) := by decide +kernel
theorem dX4_firstOf_30 : decode cX4_firstOf 30 = .ok (.iaload, 1) := by decide +kernel
theorem dX4_firstOf_31 : decode cX4_firstOf 31 = .ok (.iload_n 1, 1) := by decide +kernel
theorem dX4_firstOf_32 : decode cX4_firstOf 32 = .ok (.if_icmp .ne 10, 3) := by decide +kernel
theorem dX4_firstOf_35 : decode cX4_firstOf 35 = .ok (.bipush 100, 2) := by decide +kernel
theorem dX4_firstOf_37 : decode cX4_firstOf 37 = .ok (.iload_n 2, 1) := by decide +kernel
theorem dX4_firstOf_38 : decode cX4_firstOf 38 = .ok (.imul, 1) := by decide +kernel
theorem dX4_firstOf_39 : decode cX4_firstOf 39 = .ok (.iload_n 3, 1) := by decide +kernel
theorem dX4_firstOf_40 : decode cX4_firstOf 40 = .ok (.iadd, 1) := by decide +kernel
theorem dX4_firstOf_41 : decode cX4_firstOf 41 = .ok (.ireturn, 1) := by decide +kernel
theorem dX4_firstOf_42 : decode cX4_firstOf 42 = .ok (.iinc 3 1, 3) := by decide +kernel
theorem dX4_firstOf_45 : decode cX4_firstOf 45 = .ok (.goto (-33), 3) := by decide +kernel
theorem dX4_firstOf_48 : decode cX4_firstOf 48 = .ok (.iinc 2 1, 3) := by decide +kernel
theorem dX4_firstOf_51 : decode cX4_firstOf 51 = .ok (.goto (-49), 3) := by decide +kernel
theorem dX4_firstOf_54 : decode cX4_firstOf 54 = .ok (.bipush (-9), 2) := by decide +kernel
theorem dX4_firstOf_56 : decode cX4_firstOf 56 = .ok (.ireturn, 1) := by decide +kernel
theorem dX5_init_0 : decode cX5_init 0 = .ok (.aload_n 0, 1) := by decide +kernel
theorem dX5_init_1 : decode cX5_init 1 = .ok (.invokespecial 1, 3) := by decide +kernel
theorem dX5_init_4 : decode cX5_init 4 = .ok (.aload_n 0, 1) := by decide +kernel
theorem dX5_init_5 : decode cX5_init 5 = .ok (.new 7, 3) := by decide +kernel
theorem dX5_init_8 : decode cX5_init 8 = .ok (.dup, 1) := by decide +kernel
theorem dX5_init_9 : decode cX5_init 9 = .ok (.invokespecial 9, 3) := by decide +kernel
theorem dX5_init_12 : decode cX5_init 12 = .ok (.putfield 10, 3) := by decide +kernel
theorem dX5_init_15 : decode cX5_init 15 = .ok (.aload_n 0, 1) := by decide +kernel
theorem dX5_init_16 : decode cX5_init 16 = .ok (.iconst (-1), 1) := by decide +kernel
theorem dX5_init_17 : decode cX5_init 17 = .ok (.putfield 16, 3) := by decide +kernel
theorem dX5_init_20 : decode cX5_init 20 = .ok (.aload_n 0, 1) := by decide +kernel
theorem dX5_init_21 : decode cX5_init 21 = .ok (.iconst 0, 1) := by decide +kernel
theorem dX5_init_22 : decode cX5_init 22 = .ok (.putfield 20, 3) := by decide +kernel
theorem dX5_init_25 : decode cX5_init 25 = .ok (.aload_n 0, 1) := by decide +kernel
theorem dX5_init_26 : decode cX5_init 26 = .ok (.iconst 0, 1) := by decide +kernel
theorem dX5_init_27 : decode cX5_init 27 = .ok (.putfield 23, 3) := by decide +kernel
theorem dX5_init_30 : decode cX5_init 30 = .ok (.aload_n 0, 1) := by decide +kernel
theorem dX5_init_31 : decode cX5_init 31 = .ok (.iconst 0, 1) := by decide +kernel
theorem dX5_init_32 : decode cX5_init 32 = .ok (.putfield 26, 3) := by decide +kernel
theorem dX5_init_35 : decode cX5_init 35 = .ok (.return_, 1) := by decide +kernel
theorem dX5_begin_0 : decode cX5_begin 0 = .ok (.aload_n 0, 1) := by decide +kernel
theorem dX5_begin_1 : decode cX5_begin 1 = .ok (.iload_n 1, 1) := by decide +kernel
theorem dX5_begin_2 : decode cX5_begin 2 = .ok (.putfield 16, 3) := by decide +kernel
theorem dX5_begin_5 : decode cX5_begin 5 = .ok (.aload_n 0, 1) := by decide +kernel
theorem dX5_begin_6 : decode cX5_begin 6 = .ok (.iconst 0, 1) := by decide +kernel
theorem dX5_begin_7 : decode cX5_begin 7 = .ok (.putfield 20, 3) := by decide +kernel
theorem dX5_begin_10 : decode cX5_begin 10 = .ok (.aload_n 0, 1) := by decide +kernel
theorem dX5_begin_11 : decode cX5_begin 11 = .ok (.iconst 0, 1) := by decide +kernel
theorem dX5_begin_12 : decode cX5_begin 12 = .ok (.putfield 23, 3) := by decide +kernel
theorem dX5_begin_15 : decode cX5_begin 15 = .ok (.aload_n 0, 1) := by decide +kernel
theorem dX5_begin_16 : decode cX5_begin 16 = .ok (.iconst 0, 1) := by decide +kernel
theorem dX5_begin_17 : decode cX5_begin 17 = .ok (.putfield 26, 3) := by decide +kernel
theorem dX5_begin_20 : decode cX5_begin 20 = .ok (.return_, 1) := by decide +kernel
theorem dX5_hasWanted_0 : decode cX5_hasWanted 0 = .ok (.aload_n 0, 1) := by decide +kernel
theorem dX5_hasWanted_1 : decode cX5_hasWanted 1 = .ok (.getfield 16, 3) := by decide +kernel
theorem dX5_hasWanted_4 : decode cX5_hasWanted 4 = .ok (.ifCond .lt 18, 3) := by decide +kernel
theorem dX5_hasWanted_7 : decode cX5_hasWanted 7 = .ok (.aload_n 0, 1) := by decide +kernel
theorem dX5_hasWanted_8 : decode cX5_hasWanted 8 = .ok (.getfield 20, 3) := by decide +kernel
theorem dX5_hasWanted_11 : decode cX5_hasWanted 11 = .ok (.aload_n 0, 1) := by decide +kernel
theorem dX5_hasWanted_12 : decode cX5_hasWanted 12 = .ok (.getfield 16, 3) := by decide +kernel
theorem dX5_hasWanted_15 : decode cX5_hasWanted 15 = .ok (.if_icmp .le 7, 3) := by decide +kernel
theorem dX5_hasWanted_18 : decode cX5_hasWanted 18 = .ok (.iconst 1, 1) := by decide +kernel
theorem dX5_hasWanted_19 : decode cX5_hasWanted 19 = .ok (.goto 4, 3) := by decide +kernel
theorem dX5_hasWanted_22 : decode cX5_hasWanted 22 = .ok (.iconst 0, 1) := by decide +kernel
theorem dX5_hasWanted_23 : decode cX5_hasWanted 23 = .ok (.ireturn, 1) := by decide +kernel
theorem dX5_goThroughStarters_0 : decode cX5_goThroughStarters 0 = .ok (.aload_n 0, 1) := by decide +kernel
theorem dX5_goThroughStarters_1 : decode cX5_goThroughStarters 1 = .ok (.iload_n 2, 1) := by decide +kernel
theorem dX5_goThroughStarters_2 : decode cX5_goThroughStarters 2 = .ok (.invokevirtual 29, 3) := by decide +kernel
theorem dX5_goThroughStarters_5 : decode cX5_goThroughStarters 5 = .ok (.aload_n 0, 1) := by decide +kernel
theorem dX5_goThroughStarters_6 : decode cX5_goThroughStarters 6 = .ok (.getfield 10, 3) := by decide +kernel
theorem dX5_goThroughStarters_9 : decode cX5_goThroughStarters 9 = .ok (.iload_n 1, 1) := by decide +kernel
theorem dX5_goThroughStarters_10 : decode cX5_goThroughStarters 10 = .ok (.invokevirtual 33, 3) := by decide +kernel
theorem dX5_goThroughStarters_13 : decode cX5_goThroughStarters 13 = .ok (.aload_n 0, 1) := by decide +kernel
theorem dX5_goThroughStarters_14 : decode cX5_goThroughStarters 14 = .ok (.iconst 0, 1) := by decide +kernel
theorem dX5_goThroughStarters_15 : decode cX5_goThroughStarters 15 = .ok (.iconst 1, 1) := by decide +kernel
theorem dX5_goThroughStarters_16 : decode cX5_goThroughStarters 16 = .ok (.iconst 0, 1) := by decide +kernel
theorem dX5_goThroughStarters_17 : decode cX5_goThroughStarters 17 = .ok (.invokestatic 36, 3) := by decide +kernel
theorem dX5_goThroughStarters_20 : decode cX5_goThroughStarters 20 = .ok (.return_, 1) := by decide +kernel
theorem dX5_goThroughAdders_0 : decode cX5_goThroughAdders 0 = .ok (.aload_n 0, 1) := by decide +kernel
theorem dX5_goThroughAdders_1 : decode cX5_goThroughAdders 1 = .ok (.iload_n 2, 1) := by decide +kernel
theorem dX5_goThroughAdders_2 : decode cX5_goThroughAdders 2 = .ok (.invokevirtual 29, 3) := by decide +kernel
theorem dX5_goThroughAdders_5 : decode cX5_goThroughAdders 5 = .ok (.aload_n 0, 1) := by decide +kernel
theorem dX5_goThroughAdders_6 : decode cX5_goThroughAdders 6 = .ok (.getfield 10, 3) := by decide +kernel
theorem dX5_goThroughAdders_9 : decode cX5_goThroughAdders 9 = .ok (.aload_n 1, 1) := by decide +kernel
theorem dX5_goThroughAdders_10 : decode cX5_goThroughAdders 10 = .ok (.invokevirtual 40, 3) := by decide +kernel
theorem dX5_goThroughAdders_13 : decode cX5_goThroughAdders 13 = .ok (.aload_n 0, 1) := by decide +kernel
theorem dX5_goThroughAdders_14 : decode cX5_goThroughAdders 14 = .ok (.iconst 0, 1) := by decide +kernel
theorem dX5_goThroughAdders_15 : decode cX5_goThroughAdders 15 = .ok (.iconst 1, 1) := by decide +kernel
theorem dX5_goThroughAdders_16 : decode cX5_goThroughAdders 16 = .ok (.iconst 1, 1) := by decide +kernel
theorem dX5_goThroughAdders_17 : decode cX5_goThroughAdders 17 = .ok (.invokestatic 44, 3) := by decide +kernel
theorem dX5_goThroughAdders_20 : decode cX5_goThroughAdders 20 = .ok (.return_, 1) := by decide +kernel
theorem dX5_noteStarter_0 : decode cX5_noteStarter 0 = .ok (.aload_n 0, 1) := by decide +kernel
theorem dX5_noteStarter_1 : decode cX5_noteStarter 1 = .ok (.dup, 1) := by decide +kernel
theorem dX5_noteStarter_2 : decode cX5_noteStarter 2 = .ok (.getfield 20, 3) := by decide +kernel
theorem dX5_noteStarter_5 : decode cX5_noteStarter 5 = .ok (.iconst 1, 1) := by decide +kernel
theorem dX5_noteStarter_6 : decode cX5_noteStarter 6 = .ok (.iadd, 1) := by decide +kernel
theorem dX5_noteStarter_7 : decode cX5_noteStarter 7 = .ok (.putfield 20, 3) := by decide +kernel
theorem dX5_noteStarter_10 : decode cX5_noteStarter 10 = .ok (.aload_n 0, 1) := by decide +kernel
theorem dX5_noteStarter_11 : decode cX5_noteStarter 11 = .ok (.getfield 10, 3) := by decide +kernel
theorem dX5_noteStarter_14 : decode cX5_noteStarter 14 = .ok (.invokevirtual 47, 3) := by decide +kernel
theorem dX5_noteStarter_17 : decode cX5_noteStarter 17 = .ok (.ifCond .eq 32, 3) := by decide +kernel
theorem dX5_noteStarter_20 : decode cX5_noteStarter 20 = .ok (.aload_n 0, 1) := by decide +kernel
theorem dX5_noteStarter_21 : decode cX5_noteStarter 21 = .ok (.dup, 1) := by decide +kernel
theorem dX5_noteStarter_22 : decode cX5_noteStarter 22 = .ok (.getfield 23, 3) := by decide +kernel
theorem dX5_noteStarter_25 : decode cX5_noteStarter 25 = .ok (.iconst 1, 1) := by decide +kernel
theorem dX5_noteStarter_26 : decode cX5_noteStarter 26 = .ok (.iadd, 1) := by decide +kernel
theorem dX5_noteStarter_27 : decode cX5_noteStarter 27 = .ok (.putfield 23, 3) := by decide +kernel
theorem dX5_noteStarter_30 : decode cX5_noteStarter 30 = .ok (.aload_n 0, 1) := by decide +kernel
theorem dX5_noteStarter_31 : decode cX5_noteStarter 31 = .ok (.dup, 1) := by decide +kernel
theorem dX5_noteStarter_32 : decode cX5_noteStarter 32 = .ok (.getfield 26, 3) := by decide +kernel
theorem dX5_noteStarter_35 : decode cX5_noteStarter 35 = .ok (.aload_n 0, 1) := by decide +kernel
theorem dX5_noteStarter_36 : decode cX5_noteStarter 36 = .ok (.getfield 10, 3) := by decide +kernel
theorem dX5_noteStarter_39 : decode cX5_noteStarter 39 = .ok (.invokevirtual 51, 3) := by decide +kernel
theorem dX5_noteStarter_42 : decode cX5_noteStarter 42 = .ok (.invokestatic 54, 3) := by decide +kernel
theorem dX5_noteStarter_45 : decode cX5_noteStarter 45 = .ok (.iadd, 1) := by decide +kernel
theorem dX5_noteStarter_46 : decode cX5_noteStarter 46 = .ok (.putfield 26, 3) := by decide +kernel
theorem dX5_noteStarter_49 : decode cX5_noteStarter 49 = .ok (.return_, 1) := by decide +kernel
theorem dX5_seekStarters_0 : decode cX5_seekStarters 0 = .ok (.aload_n 0, 1) := by decide +kernel
theorem dX5_seekStarters_1 : decode cX5_seekStarters 1 = .ok (.getfield 10, 3) := by decide +kernel
theorem dX5_seekStarters_4 : decode cX5_seekStarters 4 = .ok (.astore 4, 2) := by decide +kernel
theorem dX5_seekStarters_6 : decode cX5_seekStarters 6 = .ok (.aload 4, 2) := by decide +kernel
theorem dX5_seekStarters_8 : decode cX5_seekStarters 8 = .ok (.getfield 60, 3) := by decide +kernel
theorem dX5_seekStarters_11 : decode cX5_seekStarters 11 = .ok (.istore 5, 2) := by decide +kernel
theorem dX5_seekStarters_13 : decode cX5_seekStarters 13 = .ok (.iload_n 1, 1) := by decide +kernel
theorem dX5_seekStarters_14 : decode cX5_seekStarters 14 = .ok (.aload 4, 2) := by decide +kernel
theorem dX5_seekStarters_16 : decode cX5_seekStarters 16 = .ok (.getfield 63, 3) := by decide +kernel
theorem dX5_seekStarters_19 : decode cX5_seekStarters 19 = .ok (.if_icmp .lt 8, 3) := by decide +kernel
theorem dX5_seekStarters_22 : decode cX5_seekStarters 22 = .ok (.aload_n 0, 1) := by decide +kernel
theorem dX5_seekStarters_23 : decode cX5_seekStarters 23 = .ok (.invokevirtual 66, 3) := by decide +kernel
theorem dX5_seekStarters_26 : decode cX5_seekStarters 26 = .ok (.return_, 1) := by decide +kernel
theorem dX5_seekStarters_27 : decode cX5_seekStarters 27 = .ok (.iload_n 2, 1) := by decide +kernel
theorem dX5_seekStarters_28 : decode cX5_seekStarters 28 = .ok (.iload 5, 2) := by decide +kernel
theorem dX5_seekStarters_30 : decode cX5_seekStarters 30 = .ok (.invokestatic 69, 3) := by decide +kernel
theorem dX5_seekStarters_33 : decode cX5_seekStarters 33 = .ok (.istore 6, 2) := by decide +kernel
theorem dX5_seekStarters_35 : decode cX5_seekStarters 35 = .ok (.iload 6, 2) := by decide +kernel
theorem dX5_seekStarters_37 : decode cX5_seekStarters 37 = .ok (.iconst 1, 1) := by decide +kernel
theorem dX5_seekStarters_38 : decode cX5_seekStarters 38 = .ok (.iadd, 1) := by decide +kernel
theorem dX5_seekStarters_39 : decode cX5_seekStarters 39 = .ok (.istore 7, 2) := by decide +kernel
theorem dX5_seekStarters_41 : decode cX5_seekStarters 41 = .ok (.iload 7, 2) := by decide +kernel
theorem dX5_seekStarters_43 : decode cX5_seekStarters 43 = .ok (.iload 5, 2) := by decide +kernel
theorem dX5_seekStarters_45 : decode cX5_seekStarters 45 = .ok (.if_icmp .ge 94, 3) := by decide +kernel
theorem dX5_seekStarters_48 : decode cX5_seekStarters 48 = .ok (.aload_n 0, 1) := by decide +kernel
theorem dX5_seekStarters_49 : decode cX5_seekStarters 49 = .ok (.invokevirtual 73, 3) := by decide +kernel
theorem dX5_seekStarters_52 : decode cX5_seekStarters 52 = .ok (.ifCond .ne 87, 3) := by decide +kernel
theorem dX5_seekStarters_55 : decode cX5_seekStarters 55 = .ok (.iconst 1, 1) := by decide +kernel
theorem dX5_seekStarters_56 : decode cX5_seekStarters 56 = .ok (.iload 7, 2) := by decide +kernel
theorem dX5_seekStarters_58 : decode cX5_seekStarters 58 = .ok (.ishl, 1) := by decide +kernel
theorem dX5_seekStarters_59 : decode cX5_seekStarters 59 = .ok (.istore 8, 2) := by decide +kernel
theorem dX5_seekStarters_61 : decode cX5_seekStarters 61 = .ok (.iconst 1, 1) := by decide +kernel
theorem dX5_seekStarters_62 : decode cX5_seekStarters 62 = .ok (.iload 7, 2) := by decide +kernel
theorem dX5_seekStarters_64 : decode cX5_seekStarters 64 = .ok (.iload 6, 2) := by decide +kernel
theorem dX5_seekStarters_66 : decode cX5_seekStarters 66 = .ok (.isub, 1) := by decide +kernel
theorem dX5_seekStarters_67 : decode cX5_seekStarters 67 = .ok (.iload 5, 2) := by decide +kernel
theorem dX5_seekStarters_69 : decode cX5_seekStarters 69 = .ok (.iload 7, 2) := by decide +kernel
theorem dX5_seekStarters_71 : decode cX5_seekStarters 71 = .ok (.isub, 1) := by decide +kernel
theorem dX5_seekStarters_72 : decode cX5_seekStarters 72 = .ok (.iload 6, 2) := by decide +kernel
theorem dX5_seekStarters_74 : decode cX5_seekStarters 74 = .ok (.iadd, 1) := by decide +kernel
theorem dX5_seekStarters_75 : decode cX5_seekStarters 75 = .ok (.invokestatic 76, 3) := by decide +kernel
theorem dX5_seekStarters_78 : decode cX5_seekStarters 78 = .ok (.ishl, 1) := by decide +kernel
theorem dX5_seekStarters_79 : decode cX5_seekStarters 79 = .ok (.istore 9, 2) := by decide +kernel
theorem dX5_seekStarters_81 : decode cX5_seekStarters 81 = .ok (.iload_n 2, 1) := by decide +kernel
theorem dX5_seekStarters_82 : decode cX5_seekStarters 82 = .ok (.iload 8, 2) := by decide +kernel
theorem dX5_seekStarters_84 : decode cX5_seekStarters 84 = .ok (.iand, 1) := by decide +kernel
theorem dX5_seekStarters_85 : decode cX5_seekStarters 85 = .ok (.ifCond .ne 48, 3) := by decide +kernel
theorem dX5_seekStarters_88 : decode cX5_seekStarters 88 = .ok (.iload_n 3, 1) := by decide +kernel
theorem dX5_seekStarters_89 : decode cX5_seekStarters 89 = .ok (.iload 9, 2) := by decide +kernel
theorem dX5_seekStarters_91 : decode cX5_seekStarters 91 = .ok (.iand, 1) := by decide +kernel
theorem dX5_seekStarters_92 : decode cX5_seekStarters 92 = .ok (.ifCond .ne 41, 3) := by decide +kernel
theorem dX5_seekStarters_95 : decode cX5_seekStarters 95 = .ok (.aload 4, 2) := by decide +kernel
theorem dX5_seekStarters_97 : decode cX5_seekStarters 97 = .ok (.getfield 81, 3) := by decide +kernel
theorem dX5_seekStarters_100 : decode cX5_seekStarters 100 = .ok (.iload_n 1, 1) := by decide +kernel
theorem dX5_seekStarters_101 : decode cX5_seekStarters 101 = .ok (.iload 6, 2) := by decide +kernel
theorem dX5_seekStarters_103 : decode cX5_seekStarters 103 = .ok (.iastore, 1) := by decide +kernel
theorem dX5_seekStarters_104 : decode cX5_seekStarters 104 = .ok (.aload 4, 2) := by decide +kernel
theorem dX5_seekStarters_106 : decode cX5_seekStarters 106 = .ok (.getfield 85, 3) := by decide +kernel
theorem dX5_seekStarters_109 : decode cX5_seekStarters 109 = .ok (.iload_n 1, 1) := by decide +kernel
theorem dX5_seekStarters_110 : decode cX5_seekStarters 110 = .ok (.iload 7, 2) := by decide +kernel
theorem dX5_seekStarters_112 : decode cX5_seekStarters 112 = .ok (.iastore, 1) := by decide +kernel
theorem dX5_seekStarters_113 : decode cX5_seekStarters 113 = .ok (.aload_n 0, 1) := by decide +kernel
theorem dX5_seekStarters_114 : decode cX5_seekStarters 114 = .ok (.iload_n 1, 1) := by decide +kernel
theorem dX5_seekStarters_115 : decode cX5_seekStarters 115 = .ok (.iconst 1, 1) := by decide +kernel
theorem dX5_seekStarters_116 : decode cX5_seekStarters 116 = .ok (.iadd, 1) := by decide +kernel
theorem dX5_seekStarters_117 : decode cX5_seekStarters 117 = .ok (.iload_n 2, 1) := by decide +kernel
theorem dX5_seekStarters_118 : decode cX5_seekStarters 118 = .ok (.iconst 1, 1) := by decide +kernel
theorem dX5_seekStarters_119 : decode cX5_seekStarters 119 = .ok (.iload 6, 2) := by decide +kernel
theorem dX5_seekStarters_121 : decode cX5_seekStarters 121 = .ok (.ishl, 1) := by decide +kernel
theorem dX5_seekStarters_122 : decode cX5_seekStarters 122 = .ok (.ior, 1) := by decide +kernel
theorem dX5_seekStarters_123 : decode cX5_seekStarters 123 = .ok (.iload 8, 2) := by decide +kernel
theorem dX5_seekStarters_125 : decode cX5_seekStarters 125 = .ok (.ior, 1) := by decide +kernel
theorem dX5_seekStarters_126 : decode cX5_seekStarters 126 = .ok (.iload_n 3, 1) := by decide +kernel
theorem dX5_seekStarters_127 : decode cX5_seekStarters 127 = .ok (.iload 9, 2) := by decide +kernel
theorem dX5_seekStarters_129 : decode cX5_seekStarters 129 = .ok (.ior, 1) := by decide +kernel
theorem dX5_seekStarters_130 : decode cX5_seekStarters 130 = .ok (.invokestatic 36, 3) := by decide +kernel
theorem dX5_seekStarters_133 : decode cX5_seekStarters 133 = .ok (.iinc 7 1, 3) := by decide +kernel
theorem dX5_seekStarters_136 : decode cX5_seekStarters 136 = .ok (.goto (-95), 3) := by decide +kernel
theorem dX5_seekStarters_139 : decode cX5_seekStarters 139 = .ok (.return_, 1) := by decide +kernel
theorem dX5_leastFree_0 : decode cX5_leastFree 0 = .ok (.iconst 0, 1) := by decide +kernel
theorem dX5_leastFree_1 : decode cX5_leastFree 1 = .ok (.istore_n 2, 1) := by decide +kernel
theorem dX5_leastFree_2 : decode cX5_leastFree 2 = .ok (.iload_n 2, 1) := by decide +kernel
theorem dX5_leastFree_3 : decode cX5_leastFree 3 = .ok (.iload_n 1, 1) := by decide +kernel
theorem dX5_leastFree_4 : decode cX5_leastFree 4 = .ok (.if_icmp .ge 17, 3) := by decide +kernel
theorem dX5_leastFree_7 : decode cX5_leastFree 7 = .ok (.iload_n 0, 1) := by decide +kernel
theorem dX5_leastFree_8 : decode cX5_leastFree 8 = .ok (.iload_n 2, 1) := by decide +kernel
theorem dX5_leastFree_9 : decode cX5_leastFree 9 = .ok (.ishr, 1) := by decide +kernel
theorem dX5_leastFree_10 : decode cX5_leastFree 10 = .ok (.iconst 1, 1) := by decide +kernel
theorem dX5_leastFree_11 : decode cX5_leastFree 11 = .ok (.iand, 1) := by decide +kernel
theorem dX5_leastFree_12 : decode cX5_leastFree 12 = .ok (.ifCond .eq 9, 3) := by decide +kernel
theorem dX5_leastFree_15 : decode cX5_leastFree 15 = .ok (.iinc 2 1, 3) := by decide +kernel
theorem dX5_leastFree_18 : decode cX5_leastFree 18 = .ok (.goto (-16), 3) := by decide +kernel
theorem dX5_leastFree_21 : decode cX5_leastFree 21 = .ok (.iload_n 2, 1) := by decide +kernel
theorem dX5_leastFree_22 : decode cX5_leastFree 22 = .ok (.ireturn, 1) := by decide +kernel
theorem dX5_seekAdders_0 : decode cX5_seekAdders 0 = .ok (.aload_n 0, 1) := by decide +kernel
theorem dX5_seekAdders_1 : decode cX5_seekAdders 1 = .ok (.getfield 10, 3) := by decide +kernel
theorem dX5_seekAdders_4 : decode cX5_seekAdders 4 = .ok (.astore 4, 2) := by decide +kernel
theorem dX5_seekAdders_6 : decode cX5_seekAdders 6 = .ok (.aload 4, 2) := by decide +kernel
theorem dX5_seekAdders_8 : decode cX5_seekAdders 8 = .ok (.getfield 60, 3) := by decide +kernel
theorem dX5_seekAdders_11 : decode cX5_seekAdders 11 = .ok (.istore 5, 2) := by decide +kernel
theorem dX5_seekAdders_13 : decode cX5_seekAdders 13 = .ok (.iload_n 1, 1) := by decide +kernel
theorem dX5_seekAdders_14 : decode cX5_seekAdders 14 = .ok (.aload 4, 2) := by decide +kernel
theorem dX5_seekAdders_16 : decode cX5_seekAdders 16 = .ok (.getfield 63, 3) := by decide +kernel
theorem dX5_seekAdders_19 : decode cX5_seekAdders 19 = .ok (.if_icmp .lt 14, 3) := by decide +kernel
theorem dX5_seekAdders_22 : decode cX5_seekAdders 22 = .ok (.aload_n 0, 1) := by decide +kernel
theorem dX5_seekAdders_23 : decode cX5_seekAdders 23 = .ok (.dup, 1) := by decide +kernel
theorem dX5_seekAdders_24 : decode cX5_seekAdders 24 = .ok (.getfield 20, 3) := by decide +kernel
theorem dX5_seekAdders_27 : decode cX5_seekAdders 27 = .ok (.iconst 1, 1) := by decide +kernel
theorem dX5_seekAdders_28 : decode cX5_seekAdders 28 = .ok (.iadd, 1) := by decide +kernel
theorem dX5_seekAdders_29 : decode cX5_seekAdders 29 = .ok (.putfield 20, 3) := by decide +kernel
theorem dX5_seekAdders_32 : decode cX5_seekAdders 32 = .ok (.return_, 1) := by decide +kernel
theorem dX5_seekAdders_33 : decode cX5_seekAdders 33 = .ok (.iconst 1, 1) := by decide +kernel
theorem dX5_seekAdders_34 : decode cX5_seekAdders 34 = .ok (.istore 6, 2) := by decide +kernel
theorem dX5_seekAdders_36 : decode cX5_seekAdders 36 = .ok (.iload 6, 2) := by decide +kernel
theorem dX5_seekAdders_38 : decode cX5_seekAdders 38 = .ok (.iload 5, 2) := by decide +kernel
theorem dX5_seekAdders_40 : decode cX5_seekAdders 40 = .ok (.if_icmp .ge 95, 3) := by decide +kernel
theorem dX5_seekAdders_43 : decode cX5_seekAdders 43 = .ok (.aload_n 0, 1) := by decide +kernel
theorem dX5_seekAdders_44 : decode cX5_seekAdders 44 = .ok (.invokevirtual 73, 3) := by decide +kernel
theorem dX5_seekAdders_47 : decode cX5_seekAdders 47 = .ok (.ifCond .ne 88, 3) := by decide +kernel
theorem dX5_seekAdders_50 : decode cX5_seekAdders 50 = .ok (.iconst 1, 1) := by decide +kernel
theorem dX5_seekAdders_51 : decode cX5_seekAdders 51 = .ok (.aload 4, 2) := by decide +kernel
theorem dX5_seekAdders_53 : decode cX5_seekAdders 53 = .ok (.getfield 81, 3) := by decide +kernel
theorem dX5_seekAdders_56 : decode cX5_seekAdders 56 = .ok (.iload_n 1, 1) := by decide +kernel
theorem dX5_seekAdders_57 : decode cX5_seekAdders 57 = .ok (.iaload, 1) := by decide +kernel
theorem dX5_seekAdders_58 : decode cX5_seekAdders 58 = .ok (.iload 6, 2) := by decide +kernel
theorem dX5_seekAdders_60 : decode cX5_seekAdders 60 = .ok (.iadd, 1) := by decide +kernel
theorem dX5_seekAdders_61 : decode cX5_seekAdders 61 = .ok (.iload 5, 2) := by decide +kernel
theorem dX5_seekAdders_63 : decode cX5_seekAdders 63 = .ok (.invokestatic 88, 3) := by decide +kernel
theorem dX5_seekAdders_66 : decode cX5_seekAdders 66 = .ok (.ishl, 1) := by decide +kernel
theorem dX5_seekAdders_67 : decode cX5_seekAdders 67 = .ok (.iconst 1, 1) := by decide +kernel
theorem dX5_seekAdders_68 : decode cX5_seekAdders 68 = .ok (.aload 4, 2) := by decide +kernel
theorem dX5_seekAdders_70 : decode cX5_seekAdders 70 = .ok (.getfield 85, 3) := by decide +kernel
theorem dX5_seekAdders_73 : decode cX5_seekAdders 73 = .ok (.iload_n 1, 1) := by decide +kernel
theorem dX5_seekAdders_74 : decode cX5_seekAdders 74 = .ok (.iaload, 1) := by decide +kernel
theorem dX5_seekAdders_75 : decode cX5_seekAdders 75 = .ok (.iload 6, 2) := by decide +kernel
theorem dX5_seekAdders_77 : decode cX5_seekAdders 77 = .ok (.iadd, 1) := by decide +kernel
theorem dX5_seekAdders_78 : decode cX5_seekAdders 78 = .ok (.iload 5, 2) := by decide +kernel
theorem dX5_seekAdders_80 : decode cX5_seekAdders 80 = .ok (.invokestatic 88, 3) := by decide +kernel
theorem dX5_seekAdders_83 : decode cX5_seekAdders 83 = .ok (.ishl, 1) := by decide +kernel
theorem dX5_seekAdders_84 : decode cX5_seekAdders 84 = .ok (.ior, 1) := by decide +kernel
theorem dX5_seekAdders_85 : decode cX5_seekAdders 85 = .ok (.istore 7, 2) := by decide +kernel
theorem dX5_seekAdders_87 : decode cX5_seekAdders 87 = .ok (.iload_n 2, 1) := by decide +kernel
theorem dX5_seekAdders_88 : decode cX5_seekAdders 88 = .ok (.iload 6, 2) := by decide +kernel
theorem dX5_seekAdders_90 : decode cX5_seekAdders 90 = .ok (.ishr, 1) := by decide +kernel
theorem dX5_seekAdders_91 : decode cX5_seekAdders 91 = .ok (.iconst 1, 1) := by decide +kernel
theorem dX5_seekAdders_92 : decode cX5_seekAdders 92 = .ok (.iand, 1) := by decide +kernel
theorem dX5_seekAdders_93 : decode cX5_seekAdders 93 = .ok (.ifCond .ne 36, 3) := by decide +kernel
theorem dX5_seekAdders_96 : decode cX5_seekAdders 96 = .ok (.iload_n 3, 1) := by decide +kernel
theorem dX5_seekAdders_97 : decode cX5_seekAdders 97 = .ok (.iload 7, 2) := by decide +kernel
theorem dX5_seekAdders_99 : decode cX5_seekAdders 99 = .ok (.iand, 1) := by decide +kernel
theorem dX5_seekAdders_100 : decode cX5_seekAdders 100 = .ok (.ifCond .ne 29, 3) := by decide +kernel
theorem dX5_seekAdders_103 : decode cX5_seekAdders 103 = .ok (.aload 4, 2) := by decide +kernel
theorem dX5_seekAdders_105 : decode cX5_seekAdders 105 = .ok (.getfield 91, 3) := by decide +kernel
theorem dX5_seekAdders_108 : decode cX5_seekAdders 108 = .ok (.iload_n 1, 1) := by decide +kernel
theorem dX5_seekAdders_109 : decode cX5_seekAdders 109 = .ok (.iload 6, 2) := by decide +kernel
theorem dX5_seekAdders_111 : decode cX5_seekAdders 111 = .ok (.iastore, 1) := by decide +kernel
theorem dX5_seekAdders_112 : decode cX5_seekAdders 112 = .ok (.aload_n 0, 1) := by decide +kernel
theorem dX5_seekAdders_113 : decode cX5_seekAdders 113 = .ok (.iload_n 1, 1) := by decide +kernel
theorem dX5_seekAdders_114 : decode cX5_seekAdders 114 = .ok (.iconst 1, 1) := by decide +kernel
theorem dX5_seekAdders_115 : decode cX5_seekAdders 115 = .ok (.iadd, 1) := by decide +kernel
theorem dX5_seekAdders_116 : decode cX5_seekAdders 116 = .ok (.iload_n 2, 1) := by decide +kernel
theorem dX5_seekAdders_117 : decode cX5_seekAdders 117 = .ok (.iconst 1, 1) := by decide +kernel
theorem dX5_seekAdders_118 : decode cX5_seekAdders 118 = .ok (.iload 6, 2) := by decide +kernel
theorem dX5_seekAdders_120 : decode cX5_seekAdders 120 = .ok (.ishl, 1) := by decide +kernel
theorem dX5_seekAdders_121 : decode cX5_seekAdders 121 = .ok (.ior, 1) := by decide +kernel
theorem dX5_seekAdders_122 : decode cX5_seekAdders 122 = .ok (.iload_n 3, 1) := by decide +kernel
theorem dX5_seekAdders_123 : decode cX5_seekAdders 123 = .ok (.iload 7, 2) := by decide +kernel
theorem dX5_seekAdders_125 : decode cX5_seekAdders 125 = .ok (.ior, 1) := by decide +kernel
theorem dX5_seekAdders_126 : decode cX5_seekAdders 126 = .ok (.invokestatic 44, 3) := by decide +kernel
theorem dX5_seekAdders_129 : decode cX5_seekAdders 129 = .ok (.iinc 6 1, 3) := by decide +kernel
theorem dX5_seekAdders_132 : decode cX5_seekAdders 132 = .ok (.goto (-96), 3) := by decide +kernel
theorem dX5_seekAdders_135 : decode cX5_seekAdders 135 = .ok (.return_, 1) := by decide +kernel
theorem dX6_init_0 : decode cX6_init 0 = .ok (.aload_n 0, 1) := by decide +kernel
theorem dX6_init_1 : decode cX6_init 1 = .ok (.invokespecial 3, 3) := by decide +kernel
theorem dX6_init_4 : decode cX6_init 4 = .ok (.aload_n 0, 1) := by decide +kernel
theorem dX6_init_5 : decode cX6_init 5 = .ok (.new 9, 3) := by decide +kernel
theorem dX6_init_8 : decode cX6_init 8 = .ok (.dup, 1) := by decide +kernel
theorem dX6_init_9 : decode cX6_init 9 = .ok (.invokespecial 11, 3) := by decide +kernel
theorem dX6_init_12 : decode cX6_init 12 = .ok (.putfield 12, 3) := by decide +kernel
theorem dX6_init_15 : decode cX6_init 15 = .ok (.aload_n 0, 1) := by decide +kernel
theorem dX6_init_16 : decode cX6_init 16 = .ok (.new 18, 3) := by decide +kernel
theorem dX6_init_19 : decode cX6_init 19 = .ok (.dup, 1) := by decide +kernel
theorem dX6_init_20 : decode cX6_init 20 = .ok (.invokespecial 20, 3) := by decide +kernel
theorem dX6_init_23 : decode cX6_init 23 = .ok (.putfield 21, 3) := by decide +kernel
theorem dX6_init_26 : decode cX6_init 26 = .ok (.aload_n 0, 1) := by decide +kernel
theorem dX6_init_27 : decode cX6_init 27 = .ok (.new 25, 3) := by decide +kernel
theorem dX6_init_30 : decode cX6_init 30 = .ok (.dup, 1) := by decide +kernel
theorem dX6_init_31 : decode cX6_init 31 = .ok (.invokespecial 27, 3) := by decide +kernel
theorem dX6_init_34 : decode cX6_init 34 = .ok (.putfield 28, 3) := by decide +kernel
theorem dX6_init_37 : decode cX6_init 37 = .ok (.return_, 1) := by decide +kernel
theorem dX6_copyFrom_0 : decode cX6_copyFrom 0 = .ok (.aload_n 0, 1) := by decide +kernel
theorem dX6_copyFrom_1 : decode cX6_copyFrom 1 = .ok (.getfield 12, 3) := by decide +kernel
theorem dX6_copyFrom_4 : decode cX6_copyFrom 4 = .ok (.aload_n 1, 1) := by decide +kernel
theorem dX6_copyFrom_5 : decode cX6_copyFrom 5 = .ok (.getfield 12, 3) := by decide +kernel
theorem dX6_copyFrom_8 : decode cX6_copyFrom 8 = .ok (.invokevirtual 32, 3) := by decide +kernel
theorem dX6_copyFrom_11 : decode cX6_copyFrom 11 = .ok (.aload_n 0, 1) := by decide +kernel
theorem dX6_copyFrom_12 : decode cX6_copyFrom 12 = .ok (.getfield 21, 3) := by decide +kernel
