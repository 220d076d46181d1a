theorem dX12_adopt_0 : decode cX12_adopt 0 = .ok (.aload_n 0, 1) := by decide +kernel
theorem dX12_adopt_1 : decode cX12_adopt 1 = .ok (.invokevirtual 313, 3) := by decide +kernel
theorem dX12_adopt_4 : decode cX12_adopt 4 = .ok (.istore_n 1, 1) := by decide +kernel
theorem dX12_adopt_5 : decode cX12_adopt 5 = .ok (.iload_n 1, 1) := by decide +kernel
theorem dX12_adopt_6 : decode cX12_adopt 6 = .ok (.ifCond .eq 5, 3) := by decide +kernel
theorem dX12_adopt_9 : decode cX12_adopt 9 = .ok (.iload_n 1, 1) := by decide +kernel
theorem dX12_adopt_10 : decode cX12_adopt 10 = .ok (.ireturn, 1) := by decide +kernel
theorem dX12_adopt_11 : decode cX12_adopt 11 = .ok (.iconst 0, 1) := by decide +kernel
theorem dX12_adopt_12 : decode cX12_adopt 12 = .ok (.istore_n 2, 1) := by decide +kernel
theorem dX12_adopt_13 : decode cX12_adopt 13 = .ok (.iload_n 2, 1) := by decide +kernel
theorem dX12_adopt_14 : decode cX12_adopt 14 = .ok (.aload_n 0, 1) := by decide +kernel
theorem dX12_adopt_15 : decode cX12_adopt 15 = .ok (.getfield 197, 3) := by decide +kernel
theorem dX12_adopt_18 : decode cX12_adopt 18 = .ok (.if_icmp .ge 24, 3) := by decide +kernel
theorem dX12_adopt_21 : decode cX12_adopt 21 = .ok (.aload_n 0, 1) := by decide +kernel
theorem dX12_adopt_22 : decode cX12_adopt 22 = .ok (.getfield 19, 3) := by decide +kernel
theorem dX12_adopt_25 : decode cX12_adopt 25 = .ok (.bipush 74, 2) := by decide +kernel
theorem dX12_adopt_27 : decode cX12_adopt 27 = .ok (.iload_n 2, 1) := by decide +kernel
theorem dX12_adopt_28 : decode cX12_adopt 28 = .ok (.iadd, 1) := by decide +kernel
theorem dX12_adopt_29 : decode cX12_adopt 29 = .ok (.aload_n 0, 1) := by decide +kernel
theorem dX12_adopt_30 : decode cX12_adopt 30 = .ok (.getfield 68, 3) := by decide +kernel
theorem dX12_adopt_33 : decode cX12_adopt 33 = .ok (.iload_n 2, 1) := by decide +kernel
theorem dX12_adopt_34 : decode cX12_adopt 34 = .ok (.iaload, 1) := by decide +kernel
theorem dX12_adopt_35 : decode cX12_adopt 35 = .ok (.iastore, 1) := by decide +kernel
theorem dX12_adopt_36 : decode cX12_adopt 36 = .ok (.iinc 2 1, 3) := by decide +kernel
theorem dX12_adopt_39 : decode cX12_adopt 39 = .ok (.goto (-26), 3) := by decide +kernel
theorem dX12_adopt_42 : decode cX12_adopt 42 = .ok (.aload_n 0, 1) := by decide +kernel
theorem dX12_adopt_43 : decode cX12_adopt 43 = .ok (.getfield 19, 3) := by decide +kernel
theorem dX12_adopt_46 : decode cX12_adopt 46 = .ok (.bipush 86, 2) := by decide +kernel
theorem dX12_adopt_48 : decode cX12_adopt 48 = .ok (.aload_n 0, 1) := by decide +kernel
theorem dX12_adopt_49 : decode cX12_adopt 49 = .ok (.getfield 197, 3) := by decide +kernel
theorem dX12_adopt_52 : decode cX12_adopt 52 = .ok (.iastore, 1) := by decide +kernel
theorem dX12_adopt_53 : decode cX12_adopt 53 = .ok (.aload_n 0, 1) := by decide +kernel
theorem dX12_adopt_54 : decode cX12_adopt 54 = .ok (.getfield 197, 3) := by decide +kernel
theorem dX12_adopt_57 : decode cX12_adopt 57 = .ok (.ireturn, 1) := by decide +kernel
theorem dX12_arrives_0 : decode cX12_arrives 0 = .ok (.iconst 0, 1) := by decide +kernel
theorem dX12_arrives_1 : decode cX12_arrives 1 = .ok (.istore_n 2, 1) := by decide +kernel
theorem dX12_arrives_2 : decode cX12_arrives 2 = .ok (.iload_n 2, 1) := by decide +kernel
theorem dX12_arrives_3 : decode cX12_arrives 3 = .ok (.aload_n 0, 1) := by decide +kernel
theorem dX12_arrives_4 : decode cX12_arrives 4 = .ok (.getfield 19, 3) := by decide +kernel
theorem dX12_arrives_7 : decode cX12_arrives 7 = .ok (.bipush 72, 2) := by decide +kernel
theorem dX12_arrives_9 : decode cX12_arrives 9 = .ok (.iaload, 1) := by decide +kernel
theorem dX12_arrives_10 : decode cX12_arrives 10 = .ok (.if_icmp .ge 108, 3) := by decide +kernel
theorem dX12_arrives_13 : decode cX12_arrives 13 = .ok (.aload_n 0, 1) := by decide +kernel
theorem dX12_arrives_14 : decode cX12_arrives 14 = .ok (.iload_n 2, 1) := by decide +kernel
theorem dX12_arrives_15 : decode cX12_arrives 15 = .ok (.iconst 0, 1) := by decide +kernel
theorem dX12_arrives_16 : decode cX12_arrives 16 = .ok (.invokevirtual 168, 3) := by decide +kernel
theorem dX12_arrives_19 : decode cX12_arrives 19 = .ok (.iload_n 1, 1) := by decide +kernel
theorem dX12_arrives_20 : decode cX12_arrives 20 = .ok (.if_icmp .ne 17, 3) := by decide +kernel
theorem dX12_arrives_23 : decode cX12_arrives 23 = .ok (.aload_n 0, 1) := by decide +kernel
theorem dX12_arrives_24 : decode cX12_arrives 24 = .ok (.getfield 25, 3) := by decide +kernel
theorem dX12_arrives_27 : decode cX12_arrives 27 = .ok (.iload_n 2, 1) := by decide +kernel
theorem dX12_arrives_28 : decode cX12_arrives 28 = .ok (.iconst 1, 1) := by decide +kernel
theorem dX12_arrives_29 : decode cX12_arrives 29 = .ok (.bastore, 1) := by decide +kernel
theorem dX12_arrives_30 : decode cX12_arrives 30 = .ok (.aload_n 0, 1) := by decide +kernel
theorem dX12_arrives_31 : decode cX12_arrives 31 = .ok (.getfield 29, 3) := by decide +kernel
theorem dX12_arrives_34 : decode cX12_arrives 34 = .ok (.iload_n 2, 1) := by decide +kernel
theorem dX12_arrives_35 : decode cX12_arrives 35 = .ok (.iload_n 1, 1) := by decide +kernel
theorem dX12_arrives_36 : decode cX12_arrives 36 = .ok (.iastore, 1) := by decide +kernel
theorem dX12_arrives_37 : decode cX12_arrives 37 = .ok (.aload_n 0, 1) := by decide +kernel
theorem dX12_arrives_38 : decode cX12_arrives 38 = .ok (.iload_n 2, 1) := by decide +kernel
theorem dX12_arrives_39 : decode cX12_arrives 39 = .ok (.iconst 1, 1) := by decide +kernel
theorem dX12_arrives_40 : decode cX12_arrives 40 = .ok (.invokevirtual 168, 3) := by decide +kernel
theorem dX12_arrives_43 : decode cX12_arrives 43 = .ok (.iload_n 1, 1) := by decide +kernel
theorem dX12_arrives_44 : decode cX12_arrives 44 = .ok (.if_icmp .ne 24, 3) := by decide +kernel
theorem dX12_arrives_47 : decode cX12_arrives 47 = .ok (.aload_n 0, 1) := by decide +kernel
theorem dX12_arrives_48 : decode cX12_arrives 48 = .ok (.getfield 25, 3) := by decide +kernel
theorem dX12_arrives_51 : decode cX12_arrives 51 = .ok (.iload_n 2, 1) := by decide +kernel
theorem dX12_arrives_52 : decode cX12_arrives 52 = .ok (.iconst 0, 1) := by decide +kernel
theorem dX12_arrives_53 : decode cX12_arrives 53 = .ok (.bastore, 1) := by decide +kernel
theorem dX12_arrives_54 : decode cX12_arrives 54 = .ok (.aload_n 0, 1) := by decide +kernel
theorem dX12_arrives_55 : decode cX12_arrives 55 = .ok (.getfield 50, 3) := by decide +kernel
theorem dX12_arrives_58 : decode cX12_arrives 58 = .ok (.iload_n 2, 1) := by decide +kernel
theorem dX12_arrives_59 : decode cX12_arrives 59 = .ok (.aload_n 0, 1) := by decide +kernel
theorem dX12_arrives_60 : decode cX12_arrives 60 = .ok (.iload_n 2, 1) := by decide +kernel
theorem dX12_arrives_61 : decode cX12_arrives 61 = .ok (.invokevirtual 209, 3) := by decide +kernel
theorem dX12_arrives_64 : decode cX12_arrives 64 = .ok (.invokestatic 212, 3) := by decide +kernel
theorem dX12_arrives_67 : decode cX12_arrives 67 = .ok (.iastore, 1) := by decide +kernel
theorem dX12_arrives_68 : decode cX12_arrives 68 = .ok (.aload_n 0, 1) := by decide +kernel
theorem dX12_arrives_69 : decode cX12_arrives 69 = .ok (.getfield 25, 3) := by decide +kernel
theorem dX12_arrives_72 : decode cX12_arrives 72 = .ok (.iload_n 2, 1) := by decide +kernel
theorem dX12_arrives_73 : decode cX12_arrives 73 = .ok (.baload, 1) := by decide +kernel
theorem dX12_arrives_74 : decode cX12_arrives 74 = .ok (.ifCond .eq 38, 3) := by decide +kernel
theorem dX12_arrives_77 : decode cX12_arrives 77 = .ok (.aload_n 0, 1) := by decide +kernel
theorem dX12_arrives_78 : decode cX12_arrives 78 = .ok (.getfield 29, 3) := by decide +kernel
theorem dX12_arrives_81 : decode cX12_arrives 81 = .ok (.iload_n 2, 1) := by decide +kernel
theorem dX12_arrives_82 : decode cX12_arrives 82 = .ok (.iaload, 1) := by decide +kernel
theorem dX12_arrives_83 : decode cX12_arrives 83 = .ok (.bipush (-4), 2) := by decide +kernel
theorem dX12_arrives_85 : decode cX12_arrives 85 = .ok (.if_icmp .ne 27, 3) := by decide +kernel
theorem dX12_arrives_88 : decode cX12_arrives 88 = .ok (.iload_n 1, 1) := by decide +kernel
theorem dX12_arrives_89 : decode cX12_arrives 89 = .ok (.aload_n 0, 1) := by decide +kernel
theorem dX12_arrives_90 : decode cX12_arrives 90 = .ok (.getfield 32, 3) := by decide +kernel
theorem dX12_arrives_93 : decode cX12_arrives 93 = .ok (.iload_n 2, 1) := by decide +kernel
theorem dX12_arrives_94 : decode cX12_arrives 94 = .ok (.iaload, 1) := by decide +kernel
theorem dX12_arrives_95 : decode cX12_arrives 95 = .ok (.isub, 1) := by decide +kernel
theorem dX12_arrives_96 : decode cX12_arrives 96 = .ok (.aload_n 0, 1) := by decide +kernel
theorem dX12_arrives_97 : decode cX12_arrives 97 = .ok (.iload_n 2, 1) := by decide +kernel
theorem dX12_arrives_98 : decode cX12_arrives 98 = .ok (.iconst 3, 1) := by decide +kernel
theorem dX12_arrives_99 : decode cX12_arrives 99 = .ok (.invokevirtual 168, 3) := by decide +kernel
theorem dX12_arrives_102 : decode cX12_arrives 102 = .ok (.if_icmp .ne 10, 3) := by decide +kernel
theorem dX12_arrives_105 : decode cX12_arrives 105 = .ok (.aload_n 0, 1) := by decide +kernel
theorem dX12_arrives_106 : decode cX12_arrives 106 = .ok (.getfield 29, 3) := by decide +kernel
theorem dX12_arrives_109 : decode cX12_arrives 109 = .ok (.iload_n 2, 1) := by decide +kernel
theorem dX12_arrives_110 : decode cX12_arrives 110 = .ok (.iload_n 1, 1) := by decide +kernel
theorem dX12_arrives_111 : decode cX12_arrives 111 = .ok (.iastore, 1) := by decide +kernel
theorem dX12_arrives_112 : decode cX12_arrives 112 = .ok (.iinc 2 1, 3) := by decide +kernel
theorem dX12_arrives_115 : decode cX12_arrives 115 = .ok (.goto (-113), 3) := by decide +kernel
theorem dX12_arrives_118 : decode cX12_arrives 118 = .ok (.return_, 1) := by decide +kernel
theorem dX12_awake_0 : decode cX12_awake 0 = .ok (.aload_n 0, 1) := by decide +kernel
theorem dX12_awake_1 : decode cX12_awake 1 = .ok (.getfield 89, 3) := by decide +kernel
theorem dX12_awake_4 : decode cX12_awake 4 = .ok (.ifCond .ne 16, 3) := by decide +kernel
theorem dX12_awake_7 : decode cX12_awake 7 = .ok (.aload_n 0, 1) := by decide +kernel
theorem dX12_awake_8 : decode cX12_awake 8 = .ok (.getfield 19, 3) := by decide +kernel
theorem dX12_awake_11 : decode cX12_awake 11 = .ok (.bipush 73, 2) := by decide +kernel
theorem dX12_awake_13 : decode cX12_awake 13 = .ok (.iconst 1, 1) := by decide +kernel
theorem dX12_awake_14 : decode cX12_awake 14 = .ok (.iastore, 1) := by decide +kernel
theorem dX12_awake_15 : decode cX12_awake 15 = .ok (.aload_n 0, 1) := by decide +kernel
theorem dX12_awake_16 : decode cX12_awake 16 = .ok (.iconst 1, 1) := by decide +kernel
theorem dX12_awake_17 : decode cX12_awake 17 = .ok (.putfield 89, 3) := by decide +kernel
theorem dX12_awake_20 : decode cX12_awake 20 = .ok (.return_, 1) := by decide +kernel
theorem dX12_back_0 : decode cX12_back 0 = .ok (.iload_n 1, 1) := by decide +kernel
theorem dX12_back_1 : decode cX12_back 1 = .ok (.i2l, 1) := by decide +kernel
theorem dX12_back_2 : decode cX12_back 2 = .ok (.lconst 0, 1) := by decide +kernel
theorem dX12_back_3 : decode cX12_back 3 = .ok (.lconst 1, 1) := by decide +kernel
theorem dX12_back_4 : decode cX12_back 4 = .ok (.invokestatic 97, 3) := by decide +kernel
theorem dX12_back_7 : decode cX12_back 7 = .ok (.ifCond .ne 5, 3) := by decide +kernel
theorem dX12_back_10 : decode cX12_back 10 = .ok (.iconst (-1), 1) := by decide +kernel
theorem dX12_back_11 : decode cX12_back 11 = .ok (.ireturn, 1) := by decide +kernel
theorem dX12_back_12 : decode cX12_back 12 = .ok (.aload_n 0, 1) := by decide +kernel
theorem dX12_back_13 : decode cX12_back 13 = .ok (.getfield 77, 3) := by decide +kernel
theorem dX12_back_16 : decode cX12_back 16 = .ok (.iload_n 1, 1) := by decide +kernel
theorem dX12_back_17 : decode cX12_back 17 = .ok (.baload, 1) := by decide +kernel
theorem dX12_back_18 : decode cX12_back 18 = .ok (.ifCond .ne 6, 3) := by decide +kernel
theorem dX12_back_21 : decode cX12_back 21 = .ok (.bipush (-2), 2) := by decide +kernel
theorem dX12_back_23 : decode cX12_back 23 = .ok (.ireturn, 1) := by decide +kernel
theorem dX12_back_24 : decode cX12_back 24 = .ok (.iconst 0, 1) := by decide +kernel
theorem dX12_back_25 : decode cX12_back 25 = .ok (.istore_n 2, 1) := by decide +kernel
theorem dX12_back_26 : decode cX12_back 26 = .ok (.iload_n 2, 1) := by decide +kernel
theorem dX12_back_27 : decode cX12_back 27 = .ok (.bipush 100, 2) := by decide +kernel
theorem dX12_back_29 : decode cX12_back 29 = .ok (.if_icmp .ge 28, 3) := by decide +kernel
theorem dX12_back_32 : decode cX12_back 32 = .ok (.aload_n 0, 1) := by decide +kernel
theorem dX12_back_33 : decode cX12_back 33 = .ok (.getfield 19, 3) := by decide +kernel
theorem dX12_back_36 : decode cX12_back 36 = .ok (.iload_n 2, 1) := by decide +kernel
theorem dX12_back_37 : decode cX12_back 37 = .ok (.aload_n 0, 1) := by decide +kernel
theorem dX12_back_38 : decode cX12_back 38 = .ok (.getfield 19, 3) := by decide +kernel
theorem dX12_back_41 : decode cX12_back 41 = .ok (.bipush 100, 2) := by decide +kernel
theorem dX12_back_43 : decode cX12_back 43 = .ok (.iload_n 1, 1) := by decide +kernel
theorem dX12_back_44 : decode cX12_back 44 = .ok (.iconst 1, 1) := by decide +kernel
theorem dX12_back_45 : decode cX12_back 45 = .ok (.iadd, 1) := by decide +kernel
theorem dX12_back_46 : decode cX12_back 46 = .ok (.imul, 1) := by decide +kernel
theorem dX12_back_47 : decode cX12_back 47 = .ok (.iload_n 2, 1) := by decide +kernel
theorem dX12_back_48 : decode cX12_back 48 = .ok (.iadd, 1) := by decide +kernel
theorem dX12_back_49 : decode cX12_back 49 = .ok (.iaload, 1) := by decide +kernel
theorem dX12_back_50 : decode cX12_back 50 = .ok (.iastore, 1) := by decide +kernel
theorem dX12_back_51 : decode cX12_back 51 = .ok (.iinc 2 1, 3) := by decide +kernel
theorem dX12_back_54 : decode cX12_back 54 = .ok (.goto (-28), 3) := by decide +kernel
theorem dX12_back_57 : decode cX12_back 57 = .ok (.aload_n 0, 1) := by decide +kernel
theorem dX12_back_58 : decode cX12_back 58 = .ok (.getfield 19, 3) := by decide +kernel
theorem dX12_back_61 : decode cX12_back 61 = .ok (.bipush 72, 2) := by decide +kernel
theorem dX12_back_63 : decode cX12_back 63 = .ok (.iaload, 1) := by decide +kernel
theorem dX12_back_64 : decode cX12_back 64 = .ok (.ireturn, 1) := by decide +kernel
theorem dX12_best_0 : decode cX12_best 0 = .ok (.iload_n 1, 1) := by decide +kernel
theorem dX12_best_1 : decode cX12_best 1 = .ok (.i2l, 1) := by decide +kernel
theorem dX12_best_2 : decode cX12_best 2 = .ok (.lconst 0, 1) := by decide +kernel
theorem dX12_best_3 : decode cX12_best 3 = .ok (.lconst 1, 1) := by decide +kernel
theorem dX12_best_4 : decode cX12_best 4 = .ok (.invokestatic 97, 3) := by decide +kernel
theorem dX12_best_7 : decode cX12_best 7 = .ok (.ifCond .ne 19, 3) := by decide +kernel
theorem dX12_best_10 : decode cX12_best 10 = .ok (.iload_n 1, 1) := by decide +kernel
theorem dX12_best_11 : decode cX12_best 11 = .ok (.i2l, 1) := by decide +kernel
theorem dX12_best_12 : decode cX12_best 12 = .ok (.ldc2_w 309, 3) := by decide +kernel
theorem dX12_best_15 : decode cX12_best 15 = .ok (.ldc2_w 311, 3) := by decide +kernel
theorem dX12_best_18 : decode cX12_best 18 = .ok (.invokestatic 97, 3) := by decide +kernel
theorem dX12_best_21 : decode cX12_best 21 = .ok (.ifCond .ne 5, 3) := by decide +kernel
theorem dX12_best_24 : decode cX12_best 24 = .ok (.iconst (-1), 1) := by decide +kernel
theorem dX12_best_25 : decode cX12_best 25 = .ok (.ireturn, 1) := by decide +kernel
theorem dX12_best_26 : decode cX12_best 26 = .ok (.aload_n 0, 1) := by decide +kernel
theorem dX12_best_27 : decode cX12_best 27 = .ok (.invokevirtual 313, 3) := by decide +kernel
theorem dX12_best_30 : decode cX12_best 30 = .ok (.istore_n 2, 1) := by decide +kernel
theorem dX12_best_31 : decode cX12_best 31 = .ok (.iload_n 2, 1) := by decide +kernel
theorem dX12_best_32 : decode cX12_best 32 = .ok (.ifCond .eq 5, 3) := by decide +kernel
theorem dX12_best_35 : decode cX12_best 35 = .ok (.iload_n 2, 1) := by decide +kernel
theorem dX12_best_36 : decode cX12_best 36 = .ok (.ireturn, 1) := by decide +kernel
theorem dX12_best_37 : decode cX12_best 37 = .ok (.iload_n 1, 1) := by decide +kernel
theorem dX12_best_38 : decode cX12_best 38 = .ok (.ifCond .ne 10, 3) := by decide +kernel
theorem dX12_best_41 : decode cX12_best 41 = .ok (.aload_n 0, 1) := by decide +kernel
theorem dX12_best_42 : decode cX12_best 42 = .ok (.getfield 299, 3) := by decide +kernel
theorem dX12_best_45 : decode cX12_best 45 = .ok (.goto 39, 3) := by decide +kernel
theorem dX12_best_48 : decode cX12_best 48 = .ok (.iload_n 1, 1) := by decide +kernel
theorem dX12_best_49 : decode cX12_best 49 = .ok (.iconst 1, 1) := by decide +kernel
theorem dX12_best_50 : decode cX12_best 50 = .ok (.if_icmp .ne 10, 3) := by decide +kernel
theorem dX12_best_53 : decode cX12_best 53 = .ok (.aload_n 0, 1) := by decide +kernel
theorem dX12_best_54 : decode cX12_best 54 = .ok (.getfield 197, 3) := by decide +kernel
theorem dX12_best_57 : decode cX12_best 57 = .ok (.goto 27, 3) := by decide +kernel
theorem dX12_best_60 : decode cX12_best 60 = .ok (.iload_n 1, 1) := by decide +kernel
theorem dX12_best_61 : decode cX12_best 61 = .ok (.bipush 10, 2) := by decide +kernel
theorem dX12_best_63 : decode cX12_best 63 = .ok (.isub, 1) := by decide +kernel
theorem dX12_best_64 : decode cX12_best 64 = .ok (.aload_n 0, 1) := by decide +kernel
theorem dX12_best_65 : decode cX12_best 65 = .ok (.getfield 197, 3) := by decide +kernel
theorem dX12_best_68 : decode cX12_best 68 = .ok (.if_icmp .ge 15, 3) := by decide +kernel
theorem dX12_best_71 : decode cX12_best 71 = .ok (.aload_n 0, 1) := by decide +kernel
theorem dX12_best_72 : decode cX12_best 72 = .ok (.getfield 68, 3) := by decide +kernel
theorem dX12_best_75 : decode cX12_best 75 = .ok (.iload_n 1, 1) := by decide +kernel
theorem dX12_best_76 : decode cX12_best 76 = .ok (.bipush 10, 2) := by decide +kernel
theorem dX12_best_78 : decode cX12_best 78 = .ok (.isub, 1) := by decide +kernel
theorem dX12_best_79 : decode cX12_best 79 = .ok (.iaload, 1) := by decide +kernel
theorem dX12_best_80 : decode cX12_best 80 = .ok (.goto 4, 3) := by decide +kernel
theorem dX12_best_83 : decode cX12_best 83 = .ok (.iconst (-1), 1) := by decide +kernel
theorem dX12_best_84 : decode cX12_best 84 = .ok (.ireturn, 1) := by decide +kernel
theorem dX12_bitsOf_0 : decode cX12_bitsOf 0 = .ok (.iconst 0, 1) := by decide +kernel
theorem dX12_bitsOf_1 : decode cX12_bitsOf 1 = .ok (.istore_n 1, 1) := by decide +kernel
theorem dX12_bitsOf_2 : decode cX12_bitsOf 2 = .ok (.iconst 0, 1) := by decide +kernel
theorem dX12_bitsOf_3 : decode cX12_bitsOf 3 = .ok (.istore_n 2, 1) := by decide +kernel
theorem dX12_bitsOf_4 : decode cX12_bitsOf 4 = .ok (.iload_n 2, 1) := by decide +kernel
theorem dX12_bitsOf_5 : decode cX12_bitsOf 5 = .ok (.bipush 8, 2) := by decide +kernel
theorem dX12_bitsOf_7 : decode cX12_bitsOf 7 = .ok (.if_icmp .ge 17, 3) := by decide +kernel
theorem dX12_bitsOf_10 : decode cX12_bitsOf 10 = .ok (.iload_n 1, 1) := by decide +kernel
theorem dX12_bitsOf_11 : decode cX12_bitsOf 11 = .ok (.iload_n 0, 1) := by decide +kernel
theorem dX12_bitsOf_12 : decode cX12_bitsOf 12 = .ok (.iload_n 2, 1) := by decide +kernel
theorem dX12_bitsOf_13 : decode cX12_bitsOf 13 = .ok (.ishr, 1) := by decide +kernel
theorem dX12_bitsOf_14 : decode cX12_bitsOf 14 = .ok (.iconst 1, 1) := by decide +kernel
theorem dX12_bitsOf_15 : decode cX12_bitsOf 15 = .ok (.iand, 1) := by decide +kernel
theorem dX12_bitsOf_16 : decode cX12_bitsOf 16 = .ok (.iadd, 1) := by decide +kernel
theorem dX12_bitsOf_17 : decode cX12_bitsOf 17 = .ok (.istore_n 1, 1) := by decide +kernel
theorem dX12_bitsOf_18 : decode cX12_bitsOf 18 = .ok (.iinc 2 1, 3) := by decide +kernel
theorem dX12_bitsOf_21 : decode cX12_bitsOf 21 = .ok (.goto (-17), 3) := by decide +kernel
theorem dX12_bitsOf_24 : decode cX12_bitsOf 24 = .ok (.iload_n 1, 1) := by decide +kernel
theorem dX12_bitsOf_25 : decode cX12_bitsOf 25 = .ok (.ireturn, 1) := by decide +kernel
theorem dX12_book_0 : decode cX12_book 0 = .ok (.aload_n 0, 1) := by decide +kernel
theorem dX12_book_1 : decode cX12_book 1 = .ok (.iload_n 1, 1) := by decide +kernel
theorem dX12_book_2 : decode cX12_book 2 = .ok (.invokevirtual 162, 3) := by decide +kernel
theorem dX12_book_5 : decode cX12_book 5 = .ok (.ifCond .ne 5, 3) := by decide +kernel
theorem dX12_book_8 : decode cX12_book 8 = .ok (.iconst (-1), 1) := by decide +kernel
theorem dX12_book_9 : decode cX12_book 9 = .ok (.ireturn, 1) := by decide +kernel
theorem dX12_book_10 : decode cX12_book 10 = .ok (.aload_n 0, 1) := by decide +kernel
theorem dX12_book_11 : decode cX12_book 11 = .ok (.getfield 19, 3) := by decide +kernel
theorem dX12_book_14 : decode cX12_book 14 = .ok (.bipush 86, 2) := by decide +kernel
theorem dX12_book_16 : decode cX12_book 16 = .ok (.iaload, 1) := by decide +kernel
theorem dX12_book_17 : decode cX12_book 17 = .ok (.bipush 12, 2) := by decide +kernel
theorem dX12_book_19 : decode cX12_book 19 = .ok (.if_icmp .ne 6, 3) := by decide +kernel
theorem dX12_book_22 : decode cX12_book 22 = .ok (.bipush (-3), 2) := by decide +kernel
theorem dX12_book_24 : decode cX12_book 24 = .ok (.ireturn, 1) := by decide +kernel
theorem dX12_book_25 : decode cX12_book 25 = .ok (.aload_n 0, 1) := by decide +kernel
theorem dX12_book_26 : decode cX12_book 26 = .ok (.getfield 19, 3) := by decide +kernel
theorem dX12_book_29 : decode cX12_book 29 = .ok (.bipush 74, 2) := by decide +kernel
theorem dX12_book_31 : decode cX12_book 31 = .ok (.aload_n 0, 1) := by decide +kernel
theorem dX12_book_32 : decode cX12_book 32 = .ok (.getfield 19, 3) := by decide +kernel
theorem dX12_book_35 : decode cX12_book 35 = .ok (.bipush 86, 2) := by decide +kernel
theorem dX12_book_37 : decode cX12_book 37 = .ok (.iaload, 1) := by decide +kernel
theorem dX12_book_38 : decode cX12_book 38 = .ok (.iadd, 1) := by decide +kernel
theorem dX12_book_39 : decode cX12_book 39 = .ok (.iload_n 1, 1) := by decide +kernel
theorem dX12_book_40 : decode cX12_book 40 = .ok (.iastore, 1) := by decide +kernel
theorem dX12_book_41 : decode cX12_book 41 = .ok (.aload_n 0, 1) := by decide +kernel
theorem dX12_book_42 : decode cX12_book 42 = .ok (.getfield 19, 3) := by decide +kernel
theorem dX12_book_45 : decode cX12_book 45 = .ok (.bipush 86, 2) := by decide +kernel
theorem dX12_book_47 : decode cX12_book 47 = .ok (.dup2, 1) := by decide +kernel
theorem dX12_book_48 : decode cX12_book 48 = .ok (.iaload, 1) := by decide +kernel
theorem dX12_book_49 : decode cX12_book 49 = .ok (.iconst 1, 1) := by decide +kernel
theorem dX12_book_50 : decode cX12_book 50 = .ok (.iadd, 1) := by decide +kernel
theorem dX12_book_51 : decode cX12_book 51 = .ok (.iastore, 1) := by decide +kernel
theorem dX12_book_52 : decode cX12_book 52 = .ok (.aload_n 0, 1) := by decide +kernel
theorem dX12_book_53 : decode cX12_book 53 = .ok (.getfield 19, 3) := by decide +kernel
theorem dX12_book_56 : decode cX12_book 56 = .ok (.bipush 86, 2) := by decide +kernel
theorem dX12_book_58 : decode cX12_book 58 = .ok (.iaload, 1) := by decide +kernel
theorem dX12_book_59 : decode cX12_book 59 = .ok (.ireturn, 1) := by decide +kernel
theorem dX12_buyer_0 : decode cX12_buyer 0 = .ok (.iload_n 1, 1) := by decide +kernel
theorem dX12_buyer_1 : decode cX12_buyer 1 = .ok (.iconst 3, 1) := by decide +kernel
theorem dX12_buyer_2 : decode cX12_buyer 2 = .ok (.if_icmp .ne 9, 3) := by decide +kernel
theorem dX12_buyer_5 : decode cX12_buyer 5 = .ok (.aload_n 0, 1) := by decide +kernel
theorem dX12_buyer_6 : decode cX12_buyer 6 = .ok (.iload_n 2, 1) := by decide +kernel
theorem dX12_buyer_7 : decode cX12_buyer 7 = .ok (.invokevirtual 225, 3) := by decide +kernel
theorem dX12_buyer_10 : decode cX12_buyer 10 = .ok (.ireturn, 1) := by decide +kernel
theorem dX12_buyer_11 : decode cX12_buyer 11 = .ok (.iload_n 1, 1) := by decide +kernel
theorem dX12_buyer_12 : decode cX12_buyer 12 = .ok (.iconst 5, 1) := by decide +kernel
theorem dX12_buyer_13 : decode cX12_buyer 13 = .ok (.if_icmp .ne 32, 3) := by decide +kernel
theorem dX12_buyer_16 : decode cX12_buyer 16 = .ok (.aload_n 0, 1) := by decide +kernel
theorem dX12_buyer_17 : decode cX12_buyer 17 = .ok (.getfield 197, 3) := by decide +kernel
theorem dX12_buyer_20 : decode cX12_buyer 20 = .ok (.aload_n 0, 1) := by decide +kernel
theorem dX12_buyer_21 : decode cX12_buyer 21 = .ok (.getfield 19, 3) := by decide +kernel
theorem dX12_buyer_24 : decode cX12_buyer 24 = .ok (.bipush 86, 2) := by decide +kernel
theorem dX12_buyer_26 : decode cX12_buyer 26 = .ok (.iaload, 1) := by decide +kernel
theorem dX12_buyer_27 : decode cX12_buyer 27 = .ok (.if_icmp .ge 18, 3) := by decide +kernel
theorem dX12_buyer_30 : decode cX12_buyer 30 = .ok (.aload_n 0, 1) := by decide +kernel
theorem dX12_buyer_31 : decode cX12_buyer 31 = .ok (.getfield 19, 3) := by decide +kernel
theorem dX12_buyer_34 : decode cX12_buyer 34 = .ok (.bipush 74, 2) := by decide +kernel
theorem dX12_buyer_36 : decode cX12_buyer 36 = .ok (.aload_n 0, 1) := by decide +kernel
theorem dX12_buyer_37 : decode cX12_buyer 37 = .ok (.getfield 197, 3) := by decide +kernel
theorem dX12_buyer_40 : decode cX12_buyer 40 = .ok (.iadd, 1) := by decide +kernel
theorem dX12_buyer_41 : decode cX12_buyer 41 = .ok (.iaload, 1) := by decide +kernel
theorem dX12_buyer_42 : decode cX12_buyer 42 = .ok (.goto 5, 3) := by decide +kernel
theorem dX12_buyer_45 : decode cX12_buyer 45 = .ok (.bipush (-4), 2) := by decide +kernel
theorem dX12_buyer_47 : decode cX12_buyer 47 = .ok (.istore_n 3, 1) := by decide +kernel
theorem dX12_buyer_48 : decode cX12_buyer 48 = .ok (.iload_n 3, 1) := by decide +kernel
theorem dX12_buyer_49 : decode cX12_buyer 49 = .ok (.bipush (-4), 2) := by decide +kernel
theorem dX12_buyer_51 : decode cX12_buyer 51 = .ok (.if_icmp .eq 14, 3) := by decide +kernel
theorem dX12_buyer_54 : decode cX12_buyer 54 = .ok (.iload_n 2, 1) := by decide +kernel
theorem dX12_buyer_55 : decode cX12_buyer 55 = .ok (.iload_n 3, 1) := by decide +kernel
theorem dX12_buyer_56 : decode cX12_buyer 56 = .ok (.ishr, 1) := by decide +kernel
theorem dX12_buyer_57 : decode cX12_buyer 57 = .ok (.iconst 1, 1) := by decide +kernel
theorem dX12_buyer_58 : decode cX12_buyer 58 = .ok (.iand, 1) := by decide +kernel
theorem dX12_buyer_59 : decode cX12_buyer 59 = .ok (.iconst 1, 1) := by decide +kernel
theorem dX12_buyer_60 : decode cX12_buyer 60 = .ok (.if_icmp .ne 5, 3) := by decide +kernel
theorem dX12_buyer_63 : decode cX12_buyer 63 = .ok (.iload_n 3, 1) := by decide +kernel
theorem dX12_buyer_64 : decode cX12_buyer 64 = .ok (.ireturn, 1) := by decide +kernel
theorem dX12_buyer_65 : decode cX12_buyer 65 = .ok (.iload_n 1, 1) := by decide +kernel
theorem dX12_buyer_66 : decode cX12_buyer 66 = .ok (.ifCond .eq 8, 3) := by decide +kernel
theorem dX12_buyer_69 : decode cX12_buyer 69 = .ok (.iload_n 1, 1) := by decide +kernel
theorem dX12_buyer_70 : decode cX12_buyer 70 = .ok (.iconst 5, 1) := by decide +kernel
theorem dX12_buyer_71 : decode cX12_buyer 71 = .ok (.if_icmp .ne 9, 3) := by decide +kernel
theorem dX12_buyer_74 : decode cX12_buyer 74 = .ok (.aload_n 0, 1) := by decide +kernel
theorem dX12_buyer_75 : decode cX12_buyer 75 = .ok (.iload_n 2, 1) := by decide +kernel
theorem dX12_buyer_76 : decode cX12_buyer 76 = .ok (.invokevirtual 228, 3) := by decide +kernel
theorem dX12_buyer_79 : decode cX12_buyer 79 = .ok (.ireturn, 1) := by decide +kernel
theorem dX12_buyer_80 : decode cX12_buyer 80 = .ok (.bipush (-4), 2) := by decide +kernel
theorem dX12_buyer_82 : decode cX12_buyer 82 = .ok (.istore 4, 2) := by decide +kernel
theorem dX12_buyer_84 : decode cX12_buyer 84 = .ok (.iconst 0, 1) := by decide +kernel
theorem dX12_buyer_85 : decode cX12_buyer 85 = .ok (.istore 5, 2) := by decide +kernel
theorem dX12_buyer_87 : decode cX12_buyer 87 = .ok (.iload 5, 2) := by decide +kernel
theorem dX12_buyer_89 : decode cX12_buyer 89 = .ok (.aload_n 0, 1) := by decide +kernel
theorem dX12_buyer_90 : decode cX12_buyer 90 = .ok (.getfield 19, 3) := by decide +kernel
theorem dX12_buyer_93 : decode cX12_buyer 93 = .ok (.bipush 72, 2) := by decide +kernel
theorem dX12_buyer_95 : decode cX12_buyer 95 = .ok (.iaload, 1) := by decide +kernel
theorem dX12_buyer_96 : decode cX12_buyer 96 = .ok (.if_icmp .ge 53, 3) := by decide +kernel
theorem dX12_buyer_99 : decode cX12_buyer 99 = .ok (.iload_n 2, 1) := by decide +kernel
theorem dX12_buyer_100 : decode cX12_buyer 100 = .ok (.iload 5, 2) := by decide +kernel
theorem dX12_buyer_102 : decode cX12_buyer 102 = .ok (.ishr, 1) := by decide +kernel
theorem dX12_buyer_103 : decode cX12_buyer 103 = .ok (.iconst 1, 1) := by decide +kernel
theorem dX12_buyer_104 : decode cX12_buyer 104 = .ok (.iand, 1) := by decide +kernel
theorem dX12_buyer_105 : decode cX12_buyer 105 = .ok (.iconst 1, 1) := by decide +kernel
theorem dX12_buyer_106 : decode cX12_buyer 106 = .ok (.if_icmp .ne 33, 3) := by decide +kernel
theorem dX12_buyer_109 : decode cX12_buyer 109 = .ok (.iload 4, 2) := by decide +kernel
theorem dX12_buyer_111 : decode cX12_buyer 111 = .ok (.bipush (-4), 2) := by decide +kernel
theorem dX12_buyer_113 : decode cX12_buyer 113 = .ok (.if_icmp .eq 21, 3) := by decide +kernel
theorem dX12_buyer_116 : decode cX12_buyer 116 = .ok (.aload_n 0, 1) := by decide +kernel
theorem dX12_buyer_117 : decode cX12_buyer 117 = .ok (.iload 5, 2) := by decide +kernel
theorem dX12_buyer_119 : decode cX12_buyer 119 = .ok (.iload_n 1, 1) := by decide +kernel
theorem dX12_buyer_120 : decode cX12_buyer 120 = .ok (.invokevirtual 231, 3) := by decide +kernel
theorem dX12_buyer_123 : decode cX12_buyer 123 = .ok (.aload_n 0, 1) := by decide +kernel
theorem dX12_buyer_124 : decode cX12_buyer 124 = .ok (.iload 4, 2) := by decide +kernel
theorem dX12_buyer_126 : decode cX12_buyer 126 = .ok (.iload_n 1, 1) := by decide +kernel
theorem dX12_buyer_127 : decode cX12_buyer 127 = .ok (.invokevirtual 231, 3) := by decide +kernel
theorem dX12_buyer_130 : decode cX12_buyer 130 = .ok (.lcmp, 1) := by decide +kernel
theorem dX12_buyer_131 : decode cX12_buyer 131 = .ok (.ifCond .ge 8, 3) := by decide +kernel
theorem dX12_buyer_134 : decode cX12_buyer 134 = .ok (.iload 5, 2) := by decide +kernel
theorem dX12_buyer_136 : decode cX12_buyer 136 = .ok (.goto 5, 3) := by decide +kernel
theorem dX12_buyer_139 : decode cX12_buyer 139 = .ok (.iload 4, 2) := by decide +kernel
theorem dX12_buyer_141 : decode cX12_buyer 141 = .ok (.istore 4, 2) := by decide +kernel
theorem dX12_buyer_143 : decode cX12_buyer 143 = .ok (.iinc 5 1, 3) := by decide +kernel
theorem dX12_buyer_146 : decode cX12_buyer 146 = .ok (.goto (-59), 3) := by decide +kernel
theorem dX12_buyer_149 : decode cX12_buyer 149 = .ok (.iload 4, 2) := by decide +kernel
theorem dX12_buyer_151 : decode cX12_buyer 151 = .ok (.ireturn, 1) := by decide +kernel
theorem dX12_byLot_0 : decode cX12_byLot 0 = .ok (.aload_n 0, 1) := by decide +kernel
theorem dX12_byLot_1 : decode cX12_byLot 1 = .ok (.aload_n 0, 1) := by decide +kernel
theorem dX12_byLot_2 : decode cX12_byLot 2 = .ok (.getfield 194, 3) := by decide +kernel
theorem dX12_byLot_5 : decode cX12_byLot 5 = .ok (.ldc 221, 2) := by decide +kernel
theorem dX12_byLot_7 : decode cX12_byLot 7 = .ok (.imul, 1) := by decide +kernel
theorem dX12_byLot_8 : decode cX12_byLot 8 = .ok (.sipush 12345, 3) := by decide +kernel
theorem dX12_byLot_11 : decode cX12_byLot 11 = .ok (.iadd, 1) := by decide +kernel
theorem dX12_byLot_12 : decode cX12_byLot 12 = .ok (.putfield 194, 3) := by decide +kernel
theorem dX12_byLot_15 : decode cX12_byLot 15 = .ok (.aload_n 0, 1) := by decide +kernel
theorem dX12_byLot_16 : decode cX12_byLot 16 = .ok (.getfield 194, 3) := by decide +kernel
theorem dX12_byLot_19 : decode cX12_byLot 19 = .ok (.bipush 16, 2) := by decide +kernel
theorem dX12_byLot_21 : decode cX12_byLot 21 = .ok (.ishr, 1) := by decide +kernel
theorem dX12_byLot_22 : decode cX12_byLot 22 = .ok (.sipush 32767, 3) := by decide +kernel
theorem dX12_byLot_25 : decode cX12_byLot 25 = .ok (.iand, 1) := by decide +kernel
theorem dX12_byLot_26 : decode cX12_byLot 26 = .ok (.iload_n 1, 1) := by decide +kernel
theorem dX12_byLot_27 : decode cX12_byLot 27 = .ok (.invokestatic 222, 3) := by decide +kernel
theorem dX12_byLot_30 : decode cX12_byLot 30 = .ok (.irem, 1) := by decide +kernel
theorem dX12_byLot_31 : decode cX12_byLot 31 = .ok (.istore_n 2, 1) := by decide +kernel
theorem dX12_byLot_32 : decode cX12_byLot 32 = .ok (.iconst 0, 1) := by decide +kernel
theorem dX12_byLot_33 : decode cX12_byLot 33 = .ok (.istore_n 3, 1) := by decide +kernel
theorem dX12_byLot_34 : decode cX12_byLot 34 = .ok (.iload_n 1, 1) := by decide +kernel
theorem dX12_byLot_35 : decode cX12_byLot 35 = .ok (.iload_n 3, 1) := by decide +kernel
theorem dX12_byLot_36 : decode cX12_byLot 36 = .ok (.ishr, 1) := by decide +kernel
theorem dX12_byLot_37 : decode cX12_byLot 37 = .ok (.iconst 1, 1) := by decide +kernel
theorem dX12_byLot_38 : decode cX12_byLot 38 = .ok (.iand, 1) := by decide +kernel
theorem dX12_byLot_39 : decode cX12_byLot 39 = .ok (.ifCond .eq 7, 3) := by decide +kernel
theorem dX12_byLot_42 : decode cX12_byLot 42 = .ok (.iload_n 2, 1) := by decide +kernel
theorem dX12_byLot_43 : decode cX12_byLot 43 = .ok (.ifCond .le 17, 3) := by decide +kernel
theorem dX12_byLot_46 : decode cX12_byLot 46 = .ok (.iload_n 2, 1) := by decide +kernel
theorem dX12_byLot_47 : decode cX12_byLot 47 = .ok (.iload_n 1, 1) := by decide +kernel
theorem dX12_byLot_48 : decode cX12_byLot 48 = .ok (.iload_n 3, 1) := by decide +kernel
theorem dX12_byLot_49 : decode cX12_byLot 49 = .ok (.ishr, 1) := by decide +kernel
theorem dX12_byLot_50 : decode cX12_byLot 50 = .ok (.iconst 1, 1) := by decide +kernel
theorem dX12_byLot_51 : decode cX12_byLot 51 = .ok (.iand, 1) := by decide +kernel
theorem dX12_byLot_52 : decode cX12_byLot 52 = .ok (.isub, 1) := by decide +kernel
theorem dX12_byLot_53 : decode cX12_byLot 53 = .ok (.istore_n 2, 1) := by decide +kernel
theorem dX12_byLot_54 : decode cX12_byLot 54 = .ok (.iinc 3 1, 3) := by decide +kernel
theorem dX12_byLot_57 : decode cX12_byLot 57 = .ok (.goto (-23), 3) := by decide +kernel
theorem dX12_byLot_60 : decode cX12_byLot 60 = .ok (.iload_n 3, 1) := by decide +kernel
theorem dX12_byLot_61 : decode cX12_byLot 61 = .ok (.ireturn, 1) := by decide +kernel
theorem dX12_byTurn_0 : decode cX12_byTurn 0 = .ok (.aload_n 0, 1) := by decide +kernel
theorem dX12_byTurn_1 : decode cX12_byTurn 1 = .ok (.getfield 188, 3) := by decide +kernel
theorem dX12_byTurn_4 : decode cX12_byTurn 4 = .ok (.istore_n 2, 1) := by decide +kernel
theorem dX12_byTurn_5 : decode cX12_byTurn 5 = .ok (.iload_n 2, 1) := by decide +kernel
theorem dX12_byTurn_6 : decode cX12_byTurn 6 = .ok (.iconst 1, 1) := by decide +kernel
theorem dX12_byTurn_7 : decode cX12_byTurn 7 = .ok (.iadd, 1) := by decide +kernel
theorem dX12_byTurn_8 : decode cX12_byTurn 8 = .ok (.bipush 8, 2) := by decide +kernel
theorem dX12_byTurn_10 : decode cX12_byTurn 10 = .ok (.irem, 1) := by decide +kernel
theorem dX12_byTurn_11 : decode cX12_byTurn 11 = .ok (.istore_n 2, 1) := by decide +kernel
theorem dX12_byTurn_12 : decode cX12_byTurn 12 = .ok (.iload_n 1, 1) := by decide +kernel
theorem dX12_byTurn_13 : decode cX12_byTurn 13 = .ok (.iload_n 2, 1) := by decide +kernel
theorem dX12_byTurn_14 : decode cX12_byTurn 14 = .ok (.ishr, 1) := by decide +kernel
theorem dX12_byTurn_15 : decode cX12_byTurn 15 = .ok (.iconst 1, 1) := by decide +kernel
theorem dX12_byTurn_16 : decode cX12_byTurn 16 = .ok (.iand, 1) := by decide +kernel
theorem dX12_byTurn_17 : decode cX12_byTurn 17 = .ok (.ifCond .eq (-12), 3) := by decide +kernel
theorem dX12_byTurn_20 : decode cX12_byTurn 20 = .ok (.iload_n 2, 1) := by decide +kernel
theorem dX12_byTurn_21 : decode cX12_byTurn 21 = .ok (.ireturn, 1) := by decide +kernel
theorem dX12_byteAt_0 : decode cX12_byteAt 0 = .ok (.iload_n 1, 1) := by decide +kernel
theorem dX12_byteAt_1 : decode cX12_byteAt 1 = .ok (.aload_n 0, 1) := by decide +kernel
theorem dX12_byteAt_2 : decode cX12_byteAt 2 = .ok (.getfield 93, 3) := by decide +kernel
theorem dX12_byteAt_5 : decode cX12_byteAt 5 = .ok (.if_icmp .ge 12, 3) := by decide +kernel
theorem dX12_byteAt_8 : decode cX12_byteAt 8 = .ok (.aload_n 0, 1) := by decide +kernel
theorem dX12_byteAt_9 : decode cX12_byteAt 9 = .ok (.getfield 7, 3) := by decide +kernel
theorem dX12_byteAt_12 : decode cX12_byteAt 12 = .ok (.iload_n 1, 1) := by decide +kernel
theorem dX12_byteAt_13 : decode cX12_byteAt 13 = .ok (.iaload, 1) := by decide +kernel
theorem dX12_byteAt_14 : decode cX12_byteAt 14 = .ok (.goto 5, 3) := by decide +kernel
theorem dX12_byteAt_17 : decode cX12_byteAt 17 = .ok (.bipush (-4), 2) := by decide +kernel
theorem dX12_byteAt_19 : decode cX12_byteAt 19 = .ok (.ireturn, 1) := by decide +kernel
theorem dX12_carriedBy_0 : decode cX12_carriedBy 0 = .ok (.lconst 0, 1) := by decide +kernel
theorem dX12_carriedBy_1 : decode cX12_carriedBy 1 = .ok (.lstore_n 2, 1) := by decide +kernel
theorem dX12_carriedBy_2 : decode cX12_carriedBy 2 = .ok (.iconst 0, 1) := by decide +kernel
theorem dX12_carriedBy_3 : decode cX12_carriedBy 3 = .ok (.istore 4, 2) := by decide +kernel
theorem dX12_carriedBy_5 : decode cX12_carriedBy 5 = .ok (.iload 4, 2) := by decide +kernel
theorem dX12_carriedBy_7 : decode cX12_carriedBy 7 = .ok (.aload_n 0, 1) := by decide +kernel
theorem dX12_carriedBy_8 : decode cX12_carriedBy 8 = .ok (.getfield 19, 3) := by decide +kernel
theorem dX12_carriedBy_11 : decode cX12_carriedBy 11 = .ok (.bipush 72, 2) := by decide +kernel
theorem dX12_carriedBy_13 : decode cX12_carriedBy 13 = .ok (.iaload, 1) := by decide +kernel
theorem dX12_carriedBy_14 : decode cX12_carriedBy 14 = .ok (.if_icmp .ge 35, 3) := by decide +kernel
theorem dX12_carriedBy_17 : decode cX12_carriedBy 17 = .ok (.lload_n 2, 1) := by decide +kernel
theorem dX12_carriedBy_18 : decode cX12_carriedBy 18 = .ok (.iload_n 1, 1) := by decide +kernel
theorem dX12_carriedBy_19 : decode cX12_carriedBy 19 = .ok (.iload 4, 2) := by decide +kernel
theorem dX12_carriedBy_21 : decode cX12_carriedBy 21 = .ok (.ishr, 1) := by decide +kernel
theorem dX12_carriedBy_22 : decode cX12_carriedBy 22 = .ok (.iconst 1, 1) := by decide +kernel
theorem dX12_carriedBy_23 : decode cX12_carriedBy 23 = .ok (.iand, 1) := by decide +kernel
theorem dX12_carriedBy_24 : decode cX12_carriedBy 24 = .ok (.iconst 1, 1) := by decide +kernel
theorem dX12_carriedBy_25 : decode cX12_carriedBy 25 = .ok (.if_icmp .ne 15, 3) := by decide +kernel
theorem dX12_carriedBy_28 : decode cX12_carriedBy 28 = .ok (.aload_n 0, 1) := by decide +kernel
theorem dX12_carriedBy_29 : decode cX12_carriedBy 29 = .ok (.iload 4, 2) := by decide +kernel
theorem dX12_carriedBy_31 : decode cX12_carriedBy 31 = .ok (.bipush 7, 2) := by decide +kernel
theorem dX12_carriedBy_33 : decode cX12_carriedBy 33 = .ok (.invokevirtual 168, 3) := by decide +kernel
theorem dX12_carriedBy_36 : decode cX12_carriedBy 36 = .ok (.i2l, 1) := by decide +kernel
theorem dX12_carriedBy_37 : decode cX12_carriedBy 37 = .ok (.goto 4, 3) := by decide +kernel
theorem dX12_carriedBy_40 : decode cX12_carriedBy 40 = .ok (.lconst 0, 1) := by decide +kernel
theorem dX12_carriedBy_41 : decode cX12_carriedBy 41 = .ok (.ladd, 1) := by decide +kernel
theorem dX12_carriedBy_42 : decode cX12_carriedBy 42 = .ok (.lstore_n 2, 1) := by decide +kernel
theorem dX12_carriedBy_43 : decode cX12_carriedBy 43 = .ok (.iinc 4 1, 3) := by decide +kernel
theorem dX12_carriedBy_46 : decode cX12_carriedBy 46 = .ok (.goto (-41), 3) := by decide +kernel
theorem dX12_carriedBy_49 : decode cX12_carriedBy 49 = .ok (.lload_n 2, 1) := by decide +kernel
theorem dX12_carriedBy_50 : decode cX12_carriedBy 50 = .ok (.lreturn, 1) := by decide +kernel
theorem dX12_coins_0 : decode cX12_coins 0 = .ok (.iload_n 1, 1) := by decide +kernel
theorem dX12_coins_1 : decode cX12_coins 1 = .ok (.i2l, 1) := by decide +kernel
theorem dX12_coins_2 : decode cX12_coins 2 = .ok (.lconst 0, 1) := by decide +kernel
theorem dX12_coins_3 : decode cX12_coins 3 = .ok (.lconst 1, 1) := by decide +kernel
theorem dX12_coins_4 : decode cX12_coins 4 = .ok (.invokestatic 97, 3) := by decide +kernel
theorem dX12_coins_7 : decode cX12_coins 7 = .ok (.ifCond .ne 5, 3) := by decide +kernel
theorem dX12_coins_10 : decode cX12_coins 10 = .ok (.iconst (-1), 1) := by decide +kernel
theorem dX12_coins_11 : decode cX12_coins 11 = .ok (.ireturn, 1) := by decide +kernel
theorem dX12_coins_12 : decode cX12_coins 12 = .ok (.iconst 1, 1) := by decide +kernel
theorem dX12_coins_13 : decode cX12_coins 13 = .ok (.aload_n 0, 1) := by decide +kernel
theorem dX12_coins_14 : decode cX12_coins 14 = .ok (.getfield 19, 3) := by decide +kernel
theorem dX12_coins_17 : decode cX12_coins 17 = .ok (.bipush 72, 2) := by decide +kernel
theorem dX12_coins_19 : decode cX12_coins 19 = .ok (.iaload, 1) := by decide +kernel
theorem dX12_coins_20 : decode cX12_coins 20 = .ok (.ishl, 1) := by decide +kernel
theorem dX12_coins_21 : decode cX12_coins 21 = .ok (.iconst 1, 1) := by decide +kernel
theorem dX12_coins_22 : decode cX12_coins 22 = .ok (.isub, 1) := by decide +kernel
theorem dX12_coins_23 : decode cX12_coins 23 = .ok (.istore_n 2, 1) := by decide +kernel
theorem dX12_coins_24 : decode cX12_coins 24 = .ok (.aload_n 0, 1) := by decide +kernel
theorem dX12_coins_25 : decode cX12_coins 25 = .ok (.iload_n 2, 1) := by decide +kernel
theorem dX12_coins_26 : decode cX12_coins 26 = .ok (.invokevirtual 343, 3) := by decide +kernel
theorem dX12_coins_29 : decode cX12_coins 29 = .ok (.lconst 0, 1) := by decide +kernel
theorem dX12_coins_30 : decode cX12_coins 30 = .ok (.lcmp, 1) := by decide +kernel
theorem dX12_coins_31 : decode cX12_coins 31 = .ok (.ifCond .eq 6, 3) := by decide +kernel
theorem dX12_coins_34 : decode cX12_coins 34 = .ok (.bipush (-2), 2) := by decide +kernel
theorem dX12_coins_36 : decode cX12_coins 36 = .ok (.ireturn, 1) := by decide +kernel
theorem dX12_coins_37 : decode cX12_coins 37 = .ok (.iconst 1, 1) := by decide +kernel
theorem dX12_coins_38 : decode cX12_coins 38 = .ok (.istore_n 3, 1) := by decide +kernel
theorem dX12_coins_39 : decode cX12_coins 39 = .ok (.iload_n 3, 1) := by decide +kernel
theorem dX12_coins_40 : decode cX12_coins 40 = .ok (.iload_n 2, 1) := by decide +kernel
theorem dX12_coins_41 : decode cX12_coins 41 = .ok (.if_icmp .gt 139, 3) := by decide +kernel
theorem dX12_coins_44 : decode cX12_coins 44 = .ok (.aload_n 0, 1) := by decide +kernel
theorem dX12_coins_45 : decode cX12_coins 45 = .ok (.getfield 74, 3) := by decide +kernel
theorem dX12_coins_48 : decode cX12_coins 48 = .ok (.iload_n 3, 1) := by decide +kernel
theorem dX12_coins_49 : decode cX12_coins 49 = .ok (.aload_n 0, 1) := by decide +kernel
theorem dX12_coins_50 : decode cX12_coins 50 = .ok (.iload_n 3, 1) := by decide +kernel
theorem dX12_coins_51 : decode cX12_coins 51 = .ok (.invokevirtual 343, 3) := by decide +kernel
theorem dX12_coins_54 : decode cX12_coins 54 = .ok (.lconst 0, 1) := by decide +kernel
theorem dX12_coins_55 : decode cX12_coins 55 = .ok (.lcmp, 1) := by decide +kernel
theorem dX12_coins_56 : decode cX12_coins 56 = .ok (.ifCond .ne 7, 3) := by decide +kernel
theorem dX12_coins_59 : decode cX12_coins 59 = .ok (.iconst 1, 1) := by decide +kernel
theorem dX12_coins_60 : decode cX12_coins 60 = .ok (.goto 4, 3) := by decide +kernel
theorem dX12_coins_63 : decode cX12_coins 63 = .ok (.iconst (-1), 1) := by decide +kernel
theorem dX12_coins_64 : decode cX12_coins 64 = .ok (.iastore, 1) := by decide +kernel
theorem dX12_coins_65 : decode cX12_coins 65 = .ok (.iload_n 3, 1) := by decide +kernel
theorem dX12_coins_66 : decode cX12_coins 66 = .ok (.iconst 1, 1) := by decide +kernel
theorem dX12_coins_67 : decode cX12_coins 67 = .ok (.isub, 1) := by decide +kernel
theorem dX12_coins_68 : decode cX12_coins 68 = .ok (.iload_n 3, 1) := by decide +kernel
theorem dX12_coins_69 : decode cX12_coins 69 = .ok (.iand, 1) := by decide +kernel
theorem dX12_coins_70 : decode cX12_coins 70 = .ok (.istore 4, 2) := by decide +kernel
theorem dX12_coins_72 : decode cX12_coins 72 = .ok (.iload 4, 2) := by decide +kernel
theorem dX12_coins_74 : decode cX12_coins 74 = .ok (.ifCond .le 100, 3) := by decide +kernel
theorem dX12_coins_77 : decode cX12_coins 77 = .ok (.aload_n 0, 1) := by decide +kernel
theorem dX12_coins_78 : decode cX12_coins 78 = .ok (.getfield 74, 3) := by decide +kernel
theorem dX12_coins_81 : decode cX12_coins 81 = .ok (.iload_n 3, 1) := by decide +kernel
theorem dX12_coins_82 : decode cX12_coins 82 = .ok (.iaload, 1) := by decide +kernel
theorem dX12_coins_83 : decode cX12_coins 83 = .ok (.ifCond .le 91, 3) := by decide +kernel
theorem dX12_coins_86 : decode cX12_coins 86 = .ok (.iload_n 3, 1) := by decide +kernel
theorem dX12_coins_87 : decode cX12_coins 87 = .ok (.iload 4, 2) := by decide +kernel
theorem dX12_coins_89 : decode cX12_coins 89 = .ok (.iconst (-1), 1) := by decide +kernel
theorem dX12_coins_90 : decode cX12_coins 90 = .ok (.ixor, 1) := by decide +kernel
theorem dX12_coins_91 : decode cX12_coins 91 = .ok (.iand, 1) := by decide +kernel
theorem dX12_coins_92 : decode cX12_coins 92 = .ok (.istore 5, 2) := by decide +kernel
theorem dX12_coins_94 : decode cX12_coins 94 = .ok (.aload_n 0, 1) := by decide +kernel
theorem dX12_coins_95 : decode cX12_coins 95 = .ok (.getfield 74, 3) := by decide +kernel
theorem dX12_coins_98 : decode cX12_coins 98 = .ok (.iload 4, 2) := by decide +kernel
theorem dX12_coins_100 : decode cX12_coins 100 = .ok (.iaload, 1) := by decide +kernel
theorem dX12_coins_101 : decode cX12_coins 101 = .ok (.ifCond .le 31, 3) := by decide +kernel
theorem dX12_coins_104 : decode cX12_coins 104 = .ok (.aload_n 0, 1) := by decide +kernel
theorem dX12_coins_105 : decode cX12_coins 105 = .ok (.getfield 74, 3) := by decide +kernel
theorem dX12_coins_108 : decode cX12_coins 108 = .ok (.iload 5, 2) := by decide +kernel
theorem dX12_coins_110 : decode cX12_coins 110 = .ok (.iaload, 1) := by decide +kernel
theorem dX12_coins_111 : decode cX12_coins 111 = .ok (.ifCond .le 21, 3) := by decide +kernel
theorem dX12_coins_114 : decode cX12_coins 114 = .ok (.aload_n 0, 1) := by decide +kernel
theorem dX12_coins_115 : decode cX12_coins 115 = .ok (.getfield 74, 3) := by decide +kernel
theorem dX12_coins_118 : decode cX12_coins 118 = .ok (.iload 4, 2) := by decide +kernel
theorem dX12_coins_120 : decode cX12_coins 120 = .ok (.iaload, 1) := by decide +kernel
theorem dX12_coins_121 : decode cX12_coins 121 = .ok (.aload_n 0, 1) := by decide +kernel
theorem dX12_coins_122 : decode cX12_coins 122 = .ok (.getfield 74, 3) := by decide +kernel
theorem dX12_coins_125 : decode cX12_coins 125 = .ok (.iload 5, 2) := by decide +kernel
theorem dX12_coins_127 : decode cX12_coins 127 = .ok (.iaload, 1) := by decide +kernel
theorem dX12_coins_128 : decode cX12_coins 128 = .ok (.iadd, 1) := by decide +kernel
theorem dX12_coins_129 : decode cX12_coins 129 = .ok (.goto 4, 3) := by decide +kernel
theorem dX12_coins_132 : decode cX12_coins 132 = .ok (.iconst 0, 1) := by decide +kernel
theorem dX12_coins_133 : decode cX12_coins 133 = .ok (.istore 6, 2) := by decide +kernel
theorem dX12_coins_135 : decode cX12_coins 135 = .ok (.aload_n 0, 1) := by decide +kernel
theorem dX12_coins_136 : decode cX12_coins 136 = .ok (.getfield 74, 3) := by decide +kernel
theorem dX12_coins_139 : decode cX12_coins 139 = .ok (.iload_n 3, 1) := by decide +kernel
theorem dX12_coins_140 : decode cX12_coins 140 = .ok (.iload 6, 2) := by decide +kernel
theorem dX12_coins_142 : decode cX12_coins 142 = .ok (.aload_n 0, 1) := by decide +kernel
theorem dX12_coins_143 : decode cX12_coins 143 = .ok (.getfield 74, 3) := by decide +kernel
theorem dX12_coins_146 : decode cX12_coins 146 = .ok (.iload_n 3, 1) := by decide +kernel
theorem dX12_coins_147 : decode cX12_coins 147 = .ok (.iaload, 1) := by decide +kernel
theorem dX12_coins_148 : decode cX12_coins 148 = .ok (.if_icmp .le 8, 3) := by decide +kernel
theorem dX12_coins_151 : decode cX12_coins 151 = .ok (.iload 6, 2) := by decide +kernel
theorem dX12_coins_153 : decode cX12_coins 153 = .ok (.goto 9, 3) := by decide +kernel
theorem dX12_coins_156 : decode cX12_coins 156 = .ok (.aload_n 0, 1) := by decide +kernel
theorem dX12_coins_157 : decode cX12_coins 157 = .ok (.getfield 74, 3) := by decide +kernel
theorem dX12_coins_160 : decode cX12_coins 160 = .ok (.iload_n 3, 1) := by decide +kernel
theorem dX12_coins_161 : decode cX12_coins 161 = .ok (.iaload, 1) := by decide +kernel
theorem dX12_coins_162 : decode cX12_coins 162 = .ok (.iastore, 1) := by decide +kernel
theorem dX12_coins_163 : decode cX12_coins 163 = .ok (.iload 4, 2) := by decide +kernel
theorem dX12_coins_165 : decode cX12_coins 165 = .ok (.iconst 1, 1) := by decide +kernel
theorem dX12_coins_166 : decode cX12_coins 166 = .ok (.isub, 1) := by decide +kernel
theorem dX12_coins_167 : decode cX12_coins 167 = .ok (.iload_n 3, 1) := by decide +kernel
theorem dX12_coins_168 : decode cX12_coins 168 = .ok (.iand, 1) := by decide +kernel
theorem dX12_coins_169 : decode cX12_coins 169 = .ok (.istore 4, 2) := by decide +kernel
theorem dX12_coins_171 : decode cX12_coins 171 = .ok (.goto (-99), 3) := by decide +kernel
theorem dX12_coins_174 : decode cX12_coins 174 = .ok (.iinc 3 1, 3) := by decide +kernel
theorem dX12_coins_177 : decode cX12_coins 177 = .ok (.goto (-138), 3) := by decide +kernel
theorem dX12_coins_180 : decode cX12_coins 180 = .ok (.iload_n 2, 1) := by decide +kernel
theorem dX12_coins_181 : decode cX12_coins 181 = .ok (.ifCond .ne 7, 3) := by decide +kernel
theorem dX12_coins_184 : decode cX12_coins 184 = .ok (.iconst 0, 1) := by decide +kernel
theorem dX12_coins_185 : decode cX12_coins 185 = .ok (.goto 9, 3) := by decide +kernel
theorem dX12_coins_188 : decode cX12_coins 188 = .ok (.aload_n 0, 1) := by decide +kernel
theorem dX12_coins_189 : decode cX12_coins 189 = .ok (.getfield 74, 3) := by decide +kernel
theorem dX12_coins_192 : decode cX12_coins 192 = .ok (.iload_n 2, 1) := by decide +kernel
theorem dX12_coins_193 : decode cX12_coins 193 = .ok (.iaload, 1) := by decide +kernel
theorem dX12_coins_194 : decode cX12_coins 194 = .ok (.istore_n 3, 1) := by decide +kernel
theorem dX12_coins_195 : decode cX12_coins 195 = .ok (.iload_n 1, 1) := by decide +kernel
theorem dX12_coins_196 : decode cX12_coins 196 = .ok (.ifCond .ne 15, 3) := by decide +kernel
theorem dX12_coins_199 : decode cX12_coins 199 = .ok (.aload_n 0, 1) := by decide +kernel
theorem dX12_coins_200 : decode cX12_coins 200 = .ok (.getfield 19, 3) := by decide +kernel
theorem dX12_coins_203 : decode cX12_coins 203 = .ok (.bipush 72, 2) := by decide +kernel
theorem dX12_coins_205 : decode cX12_coins 205 = .ok (.iaload, 1) := by decide +kernel
theorem dX12_coins_206 : decode cX12_coins 206 = .ok (.iload_n 3, 1) := by decide +kernel
theorem dX12_coins_207 : decode cX12_coins 207 = .ok (.isub, 1) := by decide +kernel
theorem dX12_coins_208 : decode cX12_coins 208 = .ok (.goto 4, 3) := by decide +kernel
theorem dX12_coins_211 : decode cX12_coins 211 = .ok (.iload_n 3, 1) := by decide +kernel
theorem dX12_coins_212 : decode cX12_coins 212 = .ok (.ireturn, 1) := by decide +kernel
theorem dX12_count_0 : decode cX12_count 0 = .ok (.aload_n 0, 1) := by decide +kernel
theorem dX12_count_1 : decode cX12_count 1 = .ok (.invokevirtual 260, 3) := by decide +kernel
theorem dX12_count_4 : decode cX12_count 4 = .ok (.iconst 0, 1) := by decide +kernel
theorem dX12_count_5 : decode cX12_count 5 = .ok (.istore_n 2, 1) := by decide +kernel
theorem dX12_count_6 : decode cX12_count 6 = .ok (.iconst 0, 1) := by decide +kernel
theorem dX12_count_7 : decode cX12_count 7 = .ok (.istore_n 3, 1) := by decide +kernel
theorem dX12_count_8 : decode cX12_count 8 = .ok (.iload_n 3, 1) := by decide +kernel
theorem dX12_count_9 : decode cX12_count 9 = .ok (.aload_n 0, 1) := by decide +kernel
theorem dX12_count_10 : decode cX12_count 10 = .ok (.getfield 19, 3) := by decide +kernel
theorem dX12_count_13 : decode cX12_count 13 = .ok (.bipush 72, 2) := by decide +kernel
theorem dX12_count_15 : decode cX12_count 15 = .ok (.iaload, 1) := by decide +kernel
theorem dX12_count_16 : decode cX12_count 16 = .ok (.if_icmp .ge 19, 3) := by decide +kernel
theorem dX12_count_19 : decode cX12_count 19 = .ok (.iload_n 2, 1) := by decide +kernel
theorem dX12_count_20 : decode cX12_count 20 = .ok (.aload_n 0, 1) := by decide +kernel
theorem dX12_count_21 : decode cX12_count 21 = .ok (.iload_n 3, 1) := by decide +kernel
theorem dX12_count_22 : decode cX12_count 22 = .ok (.bipush 6, 2) := by decide +kernel
theorem dX12_count_24 : decode cX12_count 24 = .ok (.invokevirtual 168, 3) := by decide +kernel
theorem dX12_count_27 : decode cX12_count 27 = .ok (.iadd, 1) := by decide +kernel
theorem dX12_count_28 : decode cX12_count 28 = .ok (.istore_n 2, 1) := by decide +kernel
theorem dX12_count_29 : decode cX12_count 29 = .ok (.iinc 3 1, 3) := by decide +kernel
theorem dX12_count_32 : decode cX12_count 32 = .ok (.goto (-24), 3) := by decide +kernel
theorem dX12_count_35 : decode cX12_count 35 = .ok (.iload_n 1, 1) := by decide +kernel
theorem dX12_count_36 : decode cX12_count 36 = .ok (.tableswitch 128 0 6 #[44, 52, 54, 62, 92, 97, 120], 44) := by decide +kernel
theorem dX12_count_80 : decode cX12_count 80 = .ok (.aload_n 0, 1) := by decide +kernel
theorem dX12_count_81 : decode cX12_count 81 = .ok (.getfield 19, 3) := by decide +kernel
theorem dX12_count_84 : decode cX12_count 84 = .ok (.bipush 72, 2) := by decide +kernel
theorem dX12_count_86 : decode cX12_count 86 = .ok (.iaload, 1) := by decide +kernel
theorem dX12_count_87 : decode cX12_count 87 = .ok (.ireturn, 1) := by decide +kernel
theorem dX12_count_88 : decode cX12_count 88 = .ok (.iload_n 2, 1) := by decide +kernel
theorem dX12_count_89 : decode cX12_count 89 = .ok (.ireturn, 1) := by decide +kernel
theorem dX12_count_90 : decode cX12_count 90 = .ok (.aload_n 0, 1) := by decide +kernel
theorem dX12_count_91 : decode cX12_count 91 = .ok (.getfield 19, 3) := by decide +kernel
theorem dX12_count_94 : decode cX12_count 94 = .ok (.bipush 86, 2) := by decide +kernel
theorem dX12_count_96 : decode cX12_count 96 = .ok (.iaload, 1) := by decide +kernel
theorem dX12_count_97 : decode cX12_count 97 = .ok (.ireturn, 1) := by decide +kernel
theorem dX12_count_98 : decode cX12_count 98 = .ok (.aload_n 0, 1) := by decide +kernel
theorem dX12_count_99 : decode cX12_count 99 = .ok (.getfield 77, 3) := by decide +kernel
theorem dX12_count_102 : decode cX12_count 102 = .ok (.iconst 0, 1) := by decide +kernel
theorem dX12_count_103 : decode cX12_count 103 = .ok (.baload, 1) := by decide +kernel
theorem dX12_count_104 : decode cX12_count 104 = .ok (.ifCond .eq 7, 3) := by decide +kernel
theorem dX12_count_107 : decode cX12_count 107 = .ok (.iconst 1, 1) := by decide +kernel
theorem dX12_count_108 : decode cX12_count 108 = .ok (.goto 4, 3) := by decide +kernel
theorem dX12_count_111 : decode cX12_count 111 = .ok (.iconst 0, 1) := by decide +kernel
theorem dX12_count_112 : decode cX12_count 112 = .ok (.aload_n 0, 1) := by decide +kernel
theorem dX12_count_113 : decode cX12_count 113 = .ok (.getfield 77, 3) := by decide +kernel
theorem dX12_count_116 : decode cX12_count 116 = .ok (.iconst 1, 1) := by decide +kernel
theorem dX12_count_117 : decode cX12_count 117 = .ok (.baload, 1) := by decide +kernel
theorem dX12_count_118 : decode cX12_count 118 = .ok (.ifCond .eq 7, 3) := by decide +kernel
theorem dX12_count_121 : decode cX12_count 121 = .ok (.iconst 1, 1) := by decide +kernel
theorem dX12_count_122 : decode cX12_count 122 = .ok (.goto 4, 3) := by decide +kernel
theorem dX12_count_125 : decode cX12_count 125 = .ok (.iconst 0, 1) := by decide +kernel
theorem dX12_count_126 : decode cX12_count 126 = .ok (.iadd, 1) := by decide +kernel
theorem dX12_count_127 : decode cX12_count 127 = .ok (.ireturn, 1) := by decide +kernel
theorem dX12_count_128 : decode cX12_count 128 = .ok (.aload_n 0, 1) := by decide +kernel
theorem dX12_count_129 : decode cX12_count 129 = .ok (.getfield 93, 3) := by decide +kernel
theorem dX12_count_132 : decode cX12_count 132 = .ok (.ireturn, 1) := by decide +kernel
theorem dX12_count_133 : decode cX12_count 133 = .ok (.aload_n 0, 1) := by decide +kernel
theorem dX12_count_134 : decode cX12_count 134 = .ok (.getfield 80, 3) := by decide +kernel
theorem dX12_count_137 : decode cX12_count 137 = .ok (.iconst 0, 1) := by decide +kernel
theorem dX12_count_138 : decode cX12_count 138 = .ok (.iaload, 1) := by decide +kernel
theorem dX12_count_139 : decode cX12_count 139 = .ok (.bipush (-4), 2) := by decide +kernel
theorem dX12_count_141 : decode cX12_count 141 = .ok (.if_icmp .ne 8, 3) := by decide +kernel
theorem dX12_count_144 : decode cX12_count 144 = .ok (.bipush (-4), 2) := by decide +kernel
theorem dX12_count_146 : decode cX12_count 146 = .ok (.goto 9, 3) := by decide +kernel
theorem dX12_count_149 : decode cX12_count 149 = .ok (.aload_n 0, 1) := by decide +kernel
theorem dX12_count_150 : decode cX12_count 150 = .ok (.getfield 83, 3) := by decide +kernel
theorem dX12_count_153 : decode cX12_count 153 = .ok (.iconst 0, 1) := by decide +kernel
theorem dX12_count_154 : decode cX12_count 154 = .ok (.iaload, 1) := by decide +kernel
theorem dX12_count_155 : decode cX12_count 155 = .ok (.ireturn, 1) := by decide +kernel
theorem dX12_count_156 : decode cX12_count 156 = .ok (.aload_n 0, 1) := by decide +kernel
theorem dX12_count_157 : decode cX12_count 157 = .ok (.getfield 19, 3) := by decide +kernel
theorem dX12_count_160 : decode cX12_count 160 = .ok (.bipush 73, 2) := by decide +kernel
theorem dX12_count_162 : decode cX12_count 162 = .ok (.iaload, 1) := by decide +kernel
theorem dX12_count_163 : decode cX12_count 163 = .ok (.ireturn, 1) := by decide +kernel
theorem dX12_count_164 : decode cX12_count 164 = .ok (.iconst (-1), 1) := by decide +kernel
theorem dX12_count_165 : decode cX12_count 165 = .ok (.ireturn, 1) := by decide +kernel
theorem dX12_drinks_0 : decode cX12_drinks 0 = .ok (.iconst 5, 1) := by decide +kernel
theorem dX12_drinks_1 : decode cX12_drinks 1 = .ok (.aload_n 0, 1) := by decide +kernel
theorem dX12_drinks_2 : decode cX12_drinks 2 = .ok (.getfield 197, 3) := by decide +kernel
theorem dX12_drinks_5 : decode cX12_drinks 5 = .ok (.imul, 1) := by decide +kernel
theorem dX12_drinks_6 : decode cX12_drinks 6 = .ok (.istore 5, 2) := by decide +kernel
theorem dX12_drinks_8 : decode cX12_drinks 8 = .ok (.aload_n 0, 1) := by decide +kernel
theorem dX12_drinks_9 : decode cX12_drinks 9 = .ok (.getfield 59, 3) := by decide +kernel
theorem dX12_drinks_12 : decode cX12_drinks 12 = .ok (.iload 5, 2) := by decide +kernel
theorem dX12_drinks_14 : decode cX12_drinks 14 = .ok (.iload_n 1, 1) := by decide +kernel
theorem dX12_drinks_15 : decode cX12_drinks 15 = .ok (.iastore, 1) := by decide +kernel
theorem dX12_drinks_16 : decode cX12_drinks 16 = .ok (.aload_n 0, 1) := by decide +kernel
theorem dX12_drinks_17 : decode cX12_drinks 17 = .ok (.getfield 59, 3) := by decide +kernel
theorem dX12_drinks_20 : decode cX12_drinks 20 = .ok (.iload 5, 2) := by decide +kernel
theorem dX12_drinks_22 : decode cX12_drinks 22 = .ok (.iconst 1, 1) := by decide +kernel
theorem dX12_drinks_23 : decode cX12_drinks 23 = .ok (.iadd, 1) := by decide +kernel
theorem dX12_drinks_24 : decode cX12_drinks 24 = .ok (.iload_n 2, 1) := by decide +kernel
theorem dX12_drinks_25 : decode cX12_drinks 25 = .ok (.iastore, 1) := by decide +kernel
theorem dX12_drinks_26 : decode cX12_drinks 26 = .ok (.aload_n 0, 1) := by decide +kernel
theorem dX12_drinks_27 : decode cX12_drinks 27 = .ok (.getfield 59, 3) := by decide +kernel
theorem dX12_drinks_30 : decode cX12_drinks 30 = .ok (.iload 5, 2) := by decide +kernel
theorem dX12_drinks_32 : decode cX12_drinks 32 = .ok (.iconst 2, 1) := by decide +kernel
theorem dX12_drinks_33 : decode cX12_drinks 33 = .ok (.iadd, 1) := by decide +kernel
theorem dX12_drinks_34 : decode cX12_drinks 34 = .ok (.iload_n 3, 1) := by decide +kernel
theorem dX12_drinks_35 : decode cX12_drinks 35 = .ok (.iastore, 1) := by decide +kernel
theorem dX12_drinks_36 : decode cX12_drinks 36 = .ok (.aload_n 0, 1) := by decide +kernel
theorem dX12_drinks_37 : decode cX12_drinks 37 = .ok (.getfield 59, 3) := by decide +kernel
theorem dX12_drinks_40 : decode cX12_drinks 40 = .ok (.iload 5, 2) := by decide +kernel
theorem dX12_drinks_42 : decode cX12_drinks 42 = .ok (.iconst 3, 1) := by decide +kernel
theorem dX12_drinks_43 : decode cX12_drinks 43 = .ok (.iadd, 1) := by decide +kernel
theorem dX12_drinks_44 : decode cX12_drinks 44 = .ok (.iload 4, 2) := by decide +kernel
theorem dX12_drinks_46 : decode cX12_drinks 46 = .ok (.iastore, 1) := by decide +kernel
theorem dX12_drinks_47 : decode cX12_drinks 47 = .ok (.aload_n 0, 1) := by decide +kernel
theorem dX12_drinks_48 : decode cX12_drinks 48 = .ok (.getfield 59, 3) := by decide +kernel
theorem dX12_drinks_51 : decode cX12_drinks 51 = .ok (.iload 5, 2) := by decide +kernel
theorem dX12_drinks_53 : decode cX12_drinks 53 = .ok (.iconst 4, 1) := by decide +kernel
theorem dX12_drinks_54 : decode cX12_drinks 54 = .ok (.iadd, 1) := by decide +kernel
theorem dX12_drinks_55 : decode cX12_drinks 55 = .ok (.aload_n 0, 1) := by decide +kernel
theorem dX12_drinks_56 : decode cX12_drinks 56 = .ok (.invokevirtual 235, 3) := by decide +kernel
theorem dX12_drinks_59 : decode cX12_drinks 59 = .ok (.iastore, 1) := by decide +kernel
theorem dX12_drinks_60 : decode cX12_drinks 60 = .ok (.aload_n 0, 1) := by decide +kernel
theorem dX12_drinks_61 : decode cX12_drinks 61 = .ok (.dup, 1) := by decide +kernel
theorem dX12_drinks_62 : decode cX12_drinks 62 = .ok (.getfield 197, 3) := by decide +kernel
theorem dX12_drinks_65 : decode cX12_drinks 65 = .ok (.iconst 1, 1) := by decide +kernel
theorem dX12_drinks_66 : decode cX12_drinks 66 = .ok (.iadd, 1) := by decide +kernel
theorem dX12_drinks_67 : decode cX12_drinks 67 = .ok (.putfield 197, 3) := by decide +kernel
theorem dX12_drinks_70 : decode cX12_drinks 70 = .ok (.aload_n 0, 1) := by decide +kernel
theorem dX12_drinks_71 : decode cX12_drinks 71 = .ok (.dup, 1) := by decide +kernel
theorem dX12_drinks_72 : decode cX12_drinks 72 = .ok (.getfield 191, 3) := by decide +kernel
theorem dX12_drinks_75 : decode cX12_drinks 75 = .ok (.iconst 1, 1) := by decide +kernel
theorem dX12_drinks_76 : decode cX12_drinks 76 = .ok (.iadd, 1) := by decide +kernel
theorem dX12_drinks_77 : decode cX12_drinks 77 = .ok (.putfield 191, 3) := by decide +kernel
theorem dX12_drinks_80 : decode cX12_drinks 80 = .ok (.aload_n 0, 1) := by decide +kernel
theorem dX12_drinks_81 : decode cX12_drinks 81 = .ok (.dup, 1) := by decide +kernel
theorem dX12_drinks_82 : decode cX12_drinks 82 = .ok (.getfield 200, 3) := by decide +kernel
theorem dX12_drinks_85 : decode cX12_drinks 85 = .ok (.iload_n 3, 1) := by decide +kernel
theorem dX12_drinks_86 : decode cX12_drinks 86 = .ok (.iadd, 1) := by decide +kernel
theorem dX12_drinks_87 : decode cX12_drinks 87 = .ok (.putfield 200, 3) := by decide +kernel
theorem dX12_drinks_90 : decode cX12_drinks 90 = .ok (.iconst 0, 1) := by decide +kernel
theorem dX12_drinks_91 : decode cX12_drinks 91 = .ok (.istore 6, 2) := by decide +kernel
theorem dX12_drinks_93 : decode cX12_drinks 93 = .ok (.iload 6, 2) := by decide +kernel
theorem dX12_drinks_95 : decode cX12_drinks 95 = .ok (.aload_n 0, 1) := by decide +kernel
theorem dX12_drinks_96 : decode cX12_drinks 96 = .ok (.getfield 19, 3) := by decide +kernel
theorem dX12_drinks_99 : decode cX12_drinks 99 = .ok (.bipush 72, 2) := by decide +kernel
theorem dX12_drinks_101 : decode cX12_drinks 101 = .ok (.iaload, 1) := by decide +kernel
theorem dX12_drinks_102 : decode cX12_drinks 102 = .ok (.if_icmp .ge 65, 3) := by decide +kernel
theorem dX12_drinks_105 : decode cX12_drinks 105 = .ok (.iload 4, 2) := by decide +kernel
theorem dX12_drinks_107 : decode cX12_drinks 107 = .ok (.iload 6, 2) := by decide +kernel
theorem dX12_drinks_109 : decode cX12_drinks 109 = .ok (.ishr, 1) := by decide +kernel
theorem dX12_drinks_110 : decode cX12_drinks 110 = .ok (.iconst 1, 1) := by decide +kernel
theorem dX12_drinks_111 : decode cX12_drinks 111 = .ok (.iand, 1) := by decide +kernel
theorem dX12_drinks_112 : decode cX12_drinks 112 = .ok (.iconst 1, 1) := by decide +kernel
theorem dX12_drinks_113 : decode cX12_drinks 113 = .ok (.if_icmp .ne 48, 3) := by decide +kernel
theorem dX12_drinks_116 : decode cX12_drinks 116 = .ok (.aload_n 0, 1) := by decide +kernel
theorem dX12_drinks_117 : decode cX12_drinks 117 = .ok (.getfield 35, 3) := by decide +kernel
theorem dX12_drinks_120 : decode cX12_drinks 120 = .ok (.iload 6, 2) := by decide +kernel
theorem dX12_drinks_122 : decode cX12_drinks 122 = .ok (.dup2, 1) := by decide +kernel
theorem dX12_drinks_123 : decode cX12_drinks 123 = .ok (.iaload, 1) := by decide +kernel
theorem dX12_drinks_124 : decode cX12_drinks 124 = .ok (.aload_n 0, 1) := by decide +kernel
theorem dX12_drinks_125 : decode cX12_drinks 125 = .ok (.iload 6, 2) := by decide +kernel
theorem dX12_drinks_127 : decode cX12_drinks 127 = .ok (.iconst 2, 1) := by decide +kernel
theorem dX12_drinks_128 : decode cX12_drinks 128 = .ok (.invokevirtual 168, 3) := by decide +kernel
theorem dX12_drinks_131 : decode cX12_drinks 131 = .ok (.iadd, 1) := by decide +kernel
theorem dX12_drinks_132 : decode cX12_drinks 132 = .ok (.iastore, 1) := by decide +kernel
theorem dX12_drinks_133 : decode cX12_drinks 133 = .ok (.aload_n 0, 1) := by decide +kernel
theorem dX12_drinks_134 : decode cX12_drinks 134 = .ok (.getfield 41, 3) := by decide +kernel
theorem dX12_drinks_137 : decode cX12_drinks 137 = .ok (.iload 6, 2) := by decide +kernel
theorem dX12_drinks_139 : decode cX12_drinks 139 = .ok (.dup2, 1) := by decide +kernel
theorem dX12_drinks_140 : decode cX12_drinks 140 = .ok (.iaload, 1) := by decide +kernel
theorem dX12_drinks_141 : decode cX12_drinks 141 = .ok (.iconst 1, 1) := by decide +kernel
theorem dX12_drinks_142 : decode cX12_drinks 142 = .ok (.iadd, 1) := by decide +kernel
theorem dX12_drinks_143 : decode cX12_drinks 143 = .ok (.iastore, 1) := by decide +kernel
theorem dX12_drinks_144 : decode cX12_drinks 144 = .ok (.aload_n 0, 1) := by decide +kernel
theorem dX12_drinks_145 : decode cX12_drinks 145 = .ok (.getfield 32, 3) := by decide +kernel
theorem dX12_drinks_148 : decode cX12_drinks 148 = .ok (.iload 6, 2) := by decide +kernel
theorem dX12_drinks_150 : decode cX12_drinks 150 = .ok (.iload_n 1, 1) := by decide +kernel
theorem dX12_drinks_151 : decode cX12_drinks 151 = .ok (.iastore, 1) := by decide +kernel
theorem dX12_drinks_152 : decode cX12_drinks 152 = .ok (.aload_n 0, 1) := by decide +kernel
theorem dX12_drinks_153 : decode cX12_drinks 153 = .ok (.getfield 29, 3) := by decide +kernel
theorem dX12_drinks_156 : decode cX12_drinks 156 = .ok (.iload 6, 2) := by decide +kernel
theorem dX12_drinks_158 : decode cX12_drinks 158 = .ok (.bipush (-4), 2) := by decide +kernel
theorem dX12_drinks_160 : decode cX12_drinks 160 = .ok (.iastore, 1) := by decide +kernel
theorem dX12_drinks_161 : decode cX12_drinks 161 = .ok (.iinc 6 1, 3) := by decide +kernel
theorem dX12_drinks_164 : decode cX12_drinks 164 = .ok (.goto (-71), 3) := by decide +kernel
theorem dX12_drinks_167 : decode cX12_drinks 167 = .ok (.return_, 1) := by decide +kernel
theorem dX12_emptyOnes_0 : decode cX12_emptyOnes 0 = .ok (.iconst 0, 1) := by decide +kernel
theorem dX12_emptyOnes_1 : decode cX12_emptyOnes 1 = .ok (.istore_n 1, 1) := by decide +kernel
theorem dX12_emptyOnes_2 : decode cX12_emptyOnes 2 = .ok (.iconst 0, 1) := by decide +kernel
theorem dX12_emptyOnes_3 : decode cX12_emptyOnes 3 = .ok (.istore_n 2, 1) := by decide +kernel
theorem dX12_emptyOnes_4 : decode cX12_emptyOnes 4 = .ok (.iload_n 2, 1) := by decide +kernel
theorem dX12_emptyOnes_5 : decode cX12_emptyOnes 5 = .ok (.aload_n 0, 1) := by decide +kernel
theorem dX12_emptyOnes_6 : decode cX12_emptyOnes 6 = .ok (.getfield 19, 3) := by decide +kernel
theorem dX12_emptyOnes_9 : decode cX12_emptyOnes 9 = .ok (.bipush 72, 2) := by decide +kernel
theorem dX12_emptyOnes_11 : decode cX12_emptyOnes 11 = .ok (.iaload, 1) := by decide +kernel
theorem dX12_emptyOnes_12 : decode cX12_emptyOnes 12 = .ok (.if_icmp .ge 27, 3) := by decide +kernel
theorem dX12_emptyOnes_15 : decode cX12_emptyOnes 15 = .ok (.iload_n 1, 1) := by decide +kernel
theorem dX12_emptyOnes_16 : decode cX12_emptyOnes 16 = .ok (.aload_n 0, 1) := by decide +kernel
theorem dX12_emptyOnes_17 : decode cX12_emptyOnes 17 = .ok (.iload_n 2, 1) := by decide +kernel
theorem dX12_emptyOnes_18 : decode cX12_emptyOnes 18 = .ok (.invokevirtual 215, 3) := by decide +kernel
theorem dX12_emptyOnes_21 : decode cX12_emptyOnes 21 = .ok (.ifCond .eq 9, 3) := by decide +kernel
theorem dX12_emptyOnes_24 : decode cX12_emptyOnes 24 = .ok (.iconst 1, 1) := by decide +kernel
theorem dX12_emptyOnes_25 : decode cX12_emptyOnes 25 = .ok (.iload_n 2, 1) := by decide +kernel
theorem dX12_emptyOnes_26 : decode cX12_emptyOnes 26 = .ok (.ishl, 1) := by decide +kernel
theorem dX12_emptyOnes_27 : decode cX12_emptyOnes 27 = .ok (.goto 4, 3) := by decide +kernel
theorem dX12_emptyOnes_30 : decode cX12_emptyOnes 30 = .ok (.iconst 0, 1) := by decide +kernel
theorem dX12_emptyOnes_31 : decode cX12_emptyOnes 31 = .ok (.ior, 1) := by decide +kernel
theorem dX12_emptyOnes_32 : decode cX12_emptyOnes 32 = .ok (.istore_n 1, 1) := by decide +kernel
theorem dX12_emptyOnes_33 : decode cX12_emptyOnes 33 = .ok (.iinc 2 1, 3) := by decide +kernel
theorem dX12_emptyOnes_36 : decode cX12_emptyOnes 36 = .ok (.goto (-32), 3) := by decide +kernel
theorem dX12_emptyOnes_39 : decode cX12_emptyOnes 39 = .ok (.iload_n 1, 1) := by decide +kernel
theorem dX12_emptyOnes_40 : decode cX12_emptyOnes 40 = .ok (.ireturn, 1) := by decide +kernel
theorem dX12_end_0 : decode cX12_end 0 = .ok (.iload_n 1, 1) := by decide +kernel
theorem dX12_end_1 : decode cX12_end 1 = .ok (.i2l, 1) := by decide +kernel
theorem dX12_end_2 : decode cX12_end 2 = .ok (.lconst 0, 1) := by decide +kernel
theorem dX12_end_3 : decode cX12_end 3 = .ok (.aload_n 0, 1) := by decide +kernel
theorem dX12_end_4 : decode cX12_end 4 = .ok (.getfield 93, 3) := by decide +kernel
theorem dX12_end_7 : decode cX12_end 7 = .ok (.i2l, 1) := by decide +kernel
theorem dX12_end_8 : decode cX12_end 8 = .ok (.invokestatic 97, 3) := by decide +kernel
theorem dX12_end_11 : decode cX12_end 11 = .ok (.ifCond .ne 5, 3) := by decide +kernel
theorem dX12_end_14 : decode cX12_end 14 = .ok (.iconst (-1), 1) := by decide +kernel
theorem dX12_end_15 : decode cX12_end 15 = .ok (.ireturn, 1) := by decide +kernel
theorem dX12_end_16 : decode cX12_end 16 = .ok (.aload_n 0, 1) := by decide +kernel
theorem dX12_end_17 : decode cX12_end 17 = .ok (.getfield 93, 3) := by decide +kernel
theorem dX12_end_20 : decode cX12_end 20 = .ok (.istore_n 2, 1) := by decide +kernel
theorem dX12_end_21 : decode cX12_end 21 = .ok (.aload_n 0, 1) := by decide +kernel
theorem dX12_end_22 : decode cX12_end 22 = .ok (.iload_n 1, 1) := by decide +kernel
theorem dX12_end_23 : decode cX12_end 23 = .ok (.putfield 93, 3) := by decide +kernel
theorem dX12_end_26 : decode cX12_end 26 = .ok (.iload_n 2, 1) := by decide +kernel
theorem dX12_end_27 : decode cX12_end 27 = .ok (.ireturn, 1) := by decide +kernel
theorem dX12_evening_0 : decode cX12_evening 0 = .ok (.iload_n 1, 1) := by decide +kernel
theorem dX12_evening_1 : decode cX12_evening 1 = .ok (.invokestatic 283, 3) := by decide +kernel
theorem dX12_evening_4 : decode cX12_evening 4 = .ok (.ifCond .eq 15, 3) := by decide +kernel
theorem dX12_evening_7 : decode cX12_evening 7 = .ok (.iload_n 3, 1) := by decide +kernel
theorem dX12_evening_8 : decode cX12_evening 8 = .ok (.i2l, 1) := by decide +kernel
theorem dX12_evening_9 : decode cX12_evening 9 = .ok (.lconst 0, 1) := by decide +kernel
theorem dX12_evening_10 : decode cX12_evening 10 = .ok (.ldc2_w 278, 3) := by decide +kernel
theorem dX12_evening_13 : decode cX12_evening 13 = .ok (.invokestatic 97, 3) := by decide +kernel
theorem dX12_evening_16 : decode cX12_evening 16 = .ok (.ifCond .ne 5, 3) := by decide +kernel
theorem dX12_evening_19 : decode cX12_evening 19 = .ok (.iconst (-1), 1) := by decide +kernel
theorem dX12_evening_20 : decode cX12_evening 20 = .ok (.ireturn, 1) := by decide +kernel
theorem dX12_evening_21 : decode cX12_evening 21 = .ok (.aload_n 0, 1) := by decide +kernel
theorem dX12_evening_22 : decode cX12_evening 22 = .ok (.iload_n 1, 1) := by decide +kernel
theorem dX12_evening_23 : decode cX12_evening 23 = .ok (.iload_n 2, 1) := by decide +kernel
theorem dX12_evening_24 : decode cX12_evening 24 = .ok (.invokevirtual 286, 3) := by decide +kernel
theorem dX12_evening_27 : decode cX12_evening 27 = .ok (.iload_n 3, 1) := by decide +kernel
theorem dX12_evening_28 : decode cX12_evening 28 = .ok (.tableswitch 70 0 5 #[40, 45, 50, 55, 60, 65], 40) := by decide +kernel
theorem dX12_evening_68 : decode cX12_evening 68 = .ok (.aload_n 0, 1) := by decide +kernel
theorem dX12_evening_69 : decode cX12_evening 69 = .ok (.getfield 197, 3) := by decide +kernel
theorem dX12_evening_72 : decode cX12_evening 72 = .ok (.ireturn, 1) := by decide +kernel
theorem dX12_evening_73 : decode cX12_evening 73 = .ok (.aload_n 0, 1) := by decide +kernel
theorem dX12_evening_74 : decode cX12_evening 74 = .ok (.getfield 200, 3) := by decide +kernel
theorem dX12_evening_77 : decode cX12_evening 77 = .ok (.ireturn, 1) := by decide +kernel
theorem dX12_evening_78 : decode cX12_evening 78 = .ok (.aload_n 0, 1) := by decide +kernel
theorem dX12_evening_79 : decode cX12_evening 79 = .ok (.invokevirtual 289, 3) := by decide +kernel
theorem dX12_evening_82 : decode cX12_evening 82 = .ok (.ireturn, 1) := by decide +kernel
theorem dX12_evening_83 : decode cX12_evening 83 = .ok (.aload_n 0, 1) := by decide +kernel
theorem dX12_evening_84 : decode cX12_evening 84 = .ok (.invokevirtual 280, 3) := by decide +kernel
theorem dX12_evening_87 : decode cX12_evening 87 = .ok (.ireturn, 1) := by decide +kernel
theorem dX12_evening_88 : decode cX12_evening 88 = .ok (.aload_n 0, 1) := by decide +kernel
theorem dX12_evening_89 : decode cX12_evening 89 = .ok (.getfield 203, 3) := by decide +kernel
theorem dX12_evening_92 : decode cX12_evening 92 = .ok (.ireturn, 1) := by decide +kernel
theorem dX12_evening_93 : decode cX12_evening 93 = .ok (.aload_n 0, 1) := by decide +kernel
theorem dX12_evening_94 : decode cX12_evening 94 = .ok (.getfield 206, 3) := by decide +kernel
theorem dX12_evening_97 : decode cX12_evening 97 = .ok (.ireturn, 1) := by decide +kernel
theorem dX12_evening_98 : decode cX12_evening 98 = .ok (.aload_n 0, 1) := by decide +kernel
theorem dX12_evening_99 : decode cX12_evening 99 = .ok (.getfield 194, 3) := by decide +kernel
theorem dX12_evening_102 : decode cX12_evening 102 = .ok (.ireturn, 1) := by decide +kernel
theorem dX12_evenings_0 : decode cX12_evenings 0 = .ok (.aload_n 0, 1) := by decide +kernel
theorem dX12_evenings_1 : decode cX12_evenings 1 = .ok (.iconst 0, 1) := by decide +kernel
theorem dX12_evenings_2 : decode cX12_evenings 2 = .ok (.putfield 218, 3) := by decide +kernel
theorem dX12_evenings_5 : decode cX12_evenings 5 = .ok (.aload_n 0, 1) := by decide +kernel
theorem dX12_evenings_6 : decode cX12_evenings 6 = .ok (.iload_n 2, 1) := by decide +kernel
theorem dX12_evenings_7 : decode cX12_evenings 7 = .ok (.invokevirtual 272, 3) := by decide +kernel
theorem dX12_evenings_10 : decode cX12_evenings 10 = .ok (.aload_n 0, 1) := by decide +kernel
theorem dX12_evenings_11 : decode cX12_evenings 11 = .ok (.iload_n 1, 1) := by decide +kernel
theorem dX12_evenings_12 : decode cX12_evenings 12 = .ok (.invokevirtual 275, 3) := by decide +kernel
theorem dX12_evenings_15 : decode cX12_evenings 15 = .ok (.return_, 1) := by decide +kernel
theorem dX12_fails_0 : decode cX12_fails 0 = .ok (.aload_n 0, 1) := by decide +kernel
theorem dX12_fails_1 : decode cX12_fails 1 = .ok (.getfield 101, 3) := by decide +kernel
theorem dX12_fails_4 : decode cX12_fails 4 = .ok (.ifCond .ne 16, 3) := by decide +kernel
theorem dX12_fails_7 : decode cX12_fails 7 = .ok (.aload_n 0, 1) := by decide +kernel
theorem dX12_fails_8 : decode cX12_fails 8 = .ok (.iload_n 1, 1) := by decide +kernel
theorem dX12_fails_9 : decode cX12_fails 9 = .ok (.putfield 101, 3) := by decide +kernel
theorem dX12_fails_12 : decode cX12_fails 12 = .ok (.aload_n 0, 1) := by decide +kernel
theorem dX12_fails_13 : decode cX12_fails 13 = .ok (.aload_n 0, 1) := by decide +kernel
theorem dX12_fails_14 : decode cX12_fails 14 = .ok (.getfield 104, 3) := by decide +kernel
theorem dX12_fails_17 : decode cX12_fails 17 = .ok (.putfield 107, 3) := by decide +kernel
theorem dX12_fails_20 : decode cX12_fails 20 = .ok (.return_, 1) := by decide +kernel
theorem dX12_fairest_0 : decode cX12_fairest 0 = .ok (.iload_n 2, 1) := by decide +kernel
theorem dX12_fairest_1 : decode cX12_fairest 1 = .ok (.i2l, 1) := by decide +kernel
theorem dX12_fairest_2 : decode cX12_fairest 2 = .ok (.lconst 0, 1) := by decide +kernel
theorem dX12_fairest_3 : decode cX12_fairest 3 = .ok (.ldc2_w 294, 3) := by decide +kernel
theorem dX12_fairest_6 : decode cX12_fairest 6 = .ok (.invokestatic 97, 3) := by decide +kernel
theorem dX12_fairest_9 : decode cX12_fairest 9 = .ok (.ifCond .ne 5, 3) := by decide +kernel
theorem dX12_fairest_12 : decode cX12_fairest 12 = .ok (.iconst (-1), 1) := by decide +kernel
theorem dX12_fairest_13 : decode cX12_fairest 13 = .ok (.ireturn, 1) := by decide +kernel
theorem dX12_fairest_14 : decode cX12_fairest 14 = .ok (.aload_n 0, 1) := by decide +kernel
theorem dX12_fairest_15 : decode cX12_fairest 15 = .ok (.getfield 19, 3) := by decide +kernel
theorem dX12_fairest_18 : decode cX12_fairest 18 = .ok (.bipush 72, 2) := by decide +kernel
theorem dX12_fairest_20 : decode cX12_fairest 20 = .ok (.iaload, 1) := by decide +kernel
theorem dX12_fairest_21 : decode cX12_fairest 21 = .ok (.ifCond .ne 6, 3) := by decide +kernel
theorem dX12_fairest_24 : decode cX12_fairest 24 = .ok (.bipush (-2), 2) := by decide +kernel
theorem dX12_fairest_26 : decode cX12_fairest 26 = .ok (.ireturn, 1) := by decide +kernel
theorem dX12_fairest_27 : decode cX12_fairest 27 = .ok (.iconst 0, 1) := by decide +kernel
theorem dX12_fairest_28 : decode cX12_fairest 28 = .ok (.istore_n 3, 1) := by decide +kernel
theorem dX12_fairest_29 : decode cX12_fairest 29 = .ok (.iconst 0, 1) := by decide +kernel
theorem dX12_fairest_30 : decode cX12_fairest 30 = .ok (.istore 4, 2) := by decide +kernel
theorem dX12_fairest_32 : decode cX12_fairest 32 = .ok (.iconst 0, 1) := by decide +kernel
theorem dX12_fairest_33 : decode cX12_fairest 33 = .ok (.istore 5, 2) := by decide +kernel
theorem dX12_fairest_35 : decode cX12_fairest 35 = .ok (.iload 5, 2) := by decide +kernel
theorem dX12_fairest_37 : decode cX12_fairest 37 = .ok (.bipush 7, 2) := by decide +kernel
theorem dX12_fairest_39 : decode cX12_fairest 39 = .ok (.if_icmp .ge 80, 3) := by decide +kernel
theorem dX12_fairest_42 : decode cX12_fairest 42 = .ok (.aload_n 0, 1) := by decide +kernel
theorem dX12_fairest_43 : decode cX12_fairest 43 = .ok (.iload 5, 2) := by decide +kernel
theorem dX12_fairest_45 : decode cX12_fairest 45 = .ok (.iload_n 1, 1) := by decide +kernel
theorem dX12_fairest_46 : decode cX12_fairest 46 = .ok (.invokevirtual 286, 3) := by decide +kernel
theorem dX12_fairest_49 : decode cX12_fairest 49 = .ok (.iload_n 2, 1) := by decide +kernel
theorem dX12_fairest_50 : decode cX12_fairest 50 = .ok (.iconst 2, 1) := by decide +kernel
theorem dX12_fairest_51 : decode cX12_fairest 51 = .ok (.irem, 1) := by decide +kernel
theorem dX12_fairest_52 : decode cX12_fairest 52 = .ok (.ifCond .ne 10, 3) := by decide +kernel
theorem dX12_fairest_55 : decode cX12_fairest 55 = .ok (.aload_n 0, 1) := by decide +kernel
theorem dX12_fairest_56 : decode cX12_fairest 56 = .ok (.invokevirtual 289, 3) := by decide +kernel
theorem dX12_fairest_59 : decode cX12_fairest 59 = .ok (.goto 7, 3) := by decide +kernel
theorem dX12_fairest_62 : decode cX12_fairest 62 = .ok (.aload_n 0, 1) := by decide +kernel
theorem dX12_fairest_63 : decode cX12_fairest 63 = .ok (.getfield 203, 3) := by decide +kernel
theorem dX12_fairest_66 : decode cX12_fairest 66 = .ok (.istore 6, 2) := by decide +kernel
theorem dX12_fairest_68 : decode cX12_fairest 68 = .ok (.iload 5, 2) := by decide +kernel
theorem dX12_fairest_70 : decode cX12_fairest 70 = .ok (.ifCond .eq 10, 3) := by decide +kernel
theorem dX12_fairest_73 : decode cX12_fairest 73 = .ok (.iload 6, 2) := by decide +kernel
theorem dX12_fairest_75 : decode cX12_fairest 75 = .ok (.iload 4, 2) := by decide +kernel
theorem dX12_fairest_77 : decode cX12_fairest 77 = .ok (.if_icmp .ge 7, 3) := by decide +kernel
theorem dX12_fairest_80 : decode cX12_fairest 80 = .ok (.iconst 1, 1) := by decide +kernel
theorem dX12_fairest_81 : decode cX12_fairest 81 = .ok (.goto 4, 3) := by decide +kernel
theorem dX12_fairest_84 : decode cX12_fairest 84 = .ok (.iconst 0, 1) := by decide +kernel
theorem dX12_fairest_85 : decode cX12_fairest 85 = .ok (.istore 7, 2) := by decide +kernel
theorem dX12_fairest_87 : decode cX12_fairest 87 = .ok (.iload 7, 2) := by decide +kernel
theorem dX12_fairest_89 : decode cX12_fairest 89 = .ok (.ifCond .eq 8, 3) := by decide +kernel
theorem dX12_fairest_92 : decode cX12_fairest 92 = .ok (.iload 5, 2) := by decide +kernel
theorem dX12_fairest_94 : decode cX12_fairest 94 = .ok (.goto 4, 3) := by decide +kernel
theorem dX12_fairest_97 : decode cX12_fairest 97 = .ok (.iload_n 3, 1) := by decide +kernel
theorem dX12_fairest_98 : decode cX12_fairest 98 = .ok (.istore_n 3, 1) := by decide +kernel
theorem dX12_fairest_99 : decode cX12_fairest 99 = .ok (.iload 7, 2) := by decide +kernel
theorem dX12_fairest_101 : decode cX12_fairest 101 = .ok (.ifCond .eq 8, 3) := by decide +kernel
theorem dX12_fairest_104 : decode cX12_fairest 104 = .ok (.iload 6, 2) := by decide +kernel
theorem dX12_fairest_106 : decode cX12_fairest 106 = .ok (.goto 5, 3) := by decide +kernel
theorem dX12_fairest_109 : decode cX12_fairest 109 = .ok (.iload 4, 2) := by decide +kernel
theorem dX12_fairest_111 : decode cX12_fairest 111 = .ok (.istore 4, 2) := by decide +kernel
theorem dX12_fairest_113 : decode cX12_fairest 113 = .ok (.iinc 5 1, 3) := by decide +kernel
theorem dX12_fairest_116 : decode cX12_fairest 116 = .ok (.goto (-81), 3) := by decide +kernel
theorem dX12_fairest_119 : decode cX12_fairest 119 = .ok (.iload_n 2, 1) := by decide +kernel
theorem dX12_fairest_120 : decode cX12_fairest 120 = .ok (.iconst 2, 1) := by decide +kernel
theorem dX12_fairest_121 : decode cX12_fairest 121 = .ok (.if_icmp .ge 7, 3) := by decide +kernel
theorem dX12_fairest_124 : decode cX12_fairest 124 = .ok (.iload_n 3, 1) := by decide +kernel
theorem dX12_fairest_125 : decode cX12_fairest 125 = .ok (.goto 5, 3) := by decide +kernel
theorem dX12_fairest_128 : decode cX12_fairest 128 = .ok (.iload 4, 2) := by decide +kernel
theorem dX12_fairest_130 : decode cX12_fairest 130 = .ok (.ireturn, 1) := by decide +kernel
