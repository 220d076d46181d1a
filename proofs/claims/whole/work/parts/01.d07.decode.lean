theorem dX12_torn_0 : decode cX12_torn 0 = .ok (.aload_n 0, 1) := by decide +kernel
theorem dX12_torn_1 : decode cX12_torn 1 = .ok (.getfield 353, 3) := by decide +kernel
theorem dX12_torn_4 : decode cX12_torn 4 = .ok (.ireturn, 1) := by decide +kernel
theorem dX12_worst_0 : decode cX12_worst 0 = .ok (.aload_n 0, 1) := by decide +kernel
theorem dX12_worst_1 : decode cX12_worst 1 = .ok (.invokevirtual 280, 3) := by decide +kernel
theorem dX12_worst_4 : decode cX12_worst 4 = .ok (.istore_n 1, 1) := by decide +kernel
theorem dX12_worst_5 : decode cX12_worst 5 = .ok (.iload_n 1, 1) := by decide +kernel
theorem dX12_worst_6 : decode cX12_worst 6 = .ok (.bipush (-4), 2) := by decide +kernel
theorem dX12_worst_8 : decode cX12_worst 8 = .ok (.if_icmp .ne 7, 3) := by decide +kernel
theorem dX12_worst_11 : decode cX12_worst 11 = .ok (.iconst 0, 1) := by decide +kernel
theorem dX12_worst_12 : decode cX12_worst 12 = .ok (.goto 9, 3) := by decide +kernel
theorem dX12_worst_15 : decode cX12_worst 15 = .ok (.aload_n 0, 1) := by decide +kernel
theorem dX12_worst_16 : decode cX12_worst 16 = .ok (.getfield 50, 3) := by decide +kernel
theorem dX12_worst_19 : decode cX12_worst 19 = .ok (.iload_n 1, 1) := by decide +kernel
theorem dX12_worst_20 : decode cX12_worst 20 = .ok (.iaload, 1) := by decide +kernel
theorem dX12_worst_21 : decode cX12_worst 21 = .ok (.ireturn, 1) := by decide +kernel
theorem dX12_worstOf_0 : decode cX12_worstOf 0 = .ok (.iconst 0, 1) := by decide +kernel
theorem dX12_worstOf_1 : decode cX12_worstOf 1 = .ok (.istore_n 1, 1) := by decide +kernel
theorem dX12_worstOf_2 : decode cX12_worstOf 2 = .ok (.iconst 0, 1) := by decide +kernel
theorem dX12_worstOf_3 : decode cX12_worstOf 3 = .ok (.istore_n 2, 1) := by decide +kernel
theorem dX12_worstOf_4 : decode cX12_worstOf 4 = .ok (.iload_n 2, 1) := by decide +kernel
theorem dX12_worstOf_5 : decode cX12_worstOf 5 = .ok (.aload_n 0, 1) := by decide +kernel
theorem dX12_worstOf_6 : decode cX12_worstOf 6 = .ok (.getfield 19, 3) := by decide +kernel
theorem dX12_worstOf_9 : decode cX12_worstOf 9 = .ok (.bipush 72, 2) := by decide +kernel
theorem dX12_worstOf_11 : decode cX12_worstOf 11 = .ok (.iaload, 1) := by decide +kernel
theorem dX12_worstOf_12 : decode cX12_worstOf 12 = .ok (.if_icmp .ge 87, 3) := by decide +kernel
theorem dX12_worstOf_15 : decode cX12_worstOf 15 = .ok (.aload_n 0, 1) := by decide +kernel
theorem dX12_worstOf_16 : decode cX12_worstOf 16 = .ok (.getfield 53, 3) := by decide +kernel
theorem dX12_worstOf_19 : decode cX12_worstOf 19 = .ok (.iload_n 2, 1) := by decide +kernel
theorem dX12_worstOf_20 : decode cX12_worstOf 20 = .ok (.iaload, 1) := by decide +kernel
theorem dX12_worstOf_21 : decode cX12_worstOf 21 = .ok (.aload_n 0, 1) := by decide +kernel
theorem dX12_worstOf_22 : decode cX12_worstOf 22 = .ok (.getfield 35, 3) := by decide +kernel
theorem dX12_worstOf_25 : decode cX12_worstOf 25 = .ok (.iload_n 2, 1) := by decide +kernel
theorem dX12_worstOf_26 : decode cX12_worstOf 26 = .ok (.iaload, 1) := by decide +kernel
theorem dX12_worstOf_27 : decode cX12_worstOf 27 = .ok (.isub, 1) := by decide +kernel
theorem dX12_worstOf_28 : decode cX12_worstOf 28 = .ok (.istore_n 3, 1) := by decide +kernel
theorem dX12_worstOf_29 : decode cX12_worstOf 29 = .ok (.iconst 0, 1) := by decide +kernel
theorem dX12_worstOf_30 : decode cX12_worstOf 30 = .ok (.istore 4, 2) := by decide +kernel
theorem dX12_worstOf_32 : decode cX12_worstOf 32 = .ok (.iload 4, 2) := by decide +kernel
theorem dX12_worstOf_34 : decode cX12_worstOf 34 = .ok (.aload_n 0, 1) := by decide +kernel
theorem dX12_worstOf_35 : decode cX12_worstOf 35 = .ok (.getfield 197, 3) := by decide +kernel
theorem dX12_worstOf_38 : decode cX12_worstOf 38 = .ok (.if_icmp .ge 38, 3) := by decide +kernel
theorem dX12_worstOf_41 : decode cX12_worstOf 41 = .ok (.iload_n 3, 1) := by decide +kernel
theorem dX12_worstOf_42 : decode cX12_worstOf 42 = .ok (.aload_n 0, 1) := by decide +kernel
theorem dX12_worstOf_43 : decode cX12_worstOf 43 = .ok (.getfield 65, 3) := by decide +kernel
theorem dX12_worstOf_46 : decode cX12_worstOf 46 = .ok (.iload 4, 2) := by decide +kernel
theorem dX12_worstOf_48 : decode cX12_worstOf 48 = .ok (.iaload, 1) := by decide +kernel
theorem dX12_worstOf_49 : decode cX12_worstOf 49 = .ok (.iload_n 2, 1) := by decide +kernel
theorem dX12_worstOf_50 : decode cX12_worstOf 50 = .ok (.if_icmp .ne 17, 3) := by decide +kernel
theorem dX12_worstOf_53 : decode cX12_worstOf 53 = .ok (.aload_n 0, 1) := by decide +kernel
theorem dX12_worstOf_54 : decode cX12_worstOf 54 = .ok (.getfield 59, 3) := by decide +kernel
theorem dX12_worstOf_57 : decode cX12_worstOf 57 = .ok (.iconst 5, 1) := by decide +kernel
theorem dX12_worstOf_58 : decode cX12_worstOf 58 = .ok (.iload 4, 2) := by decide +kernel
theorem dX12_worstOf_60 : decode cX12_worstOf 60 = .ok (.imul, 1) := by decide +kernel
theorem dX12_worstOf_61 : decode cX12_worstOf 61 = .ok (.iconst 2, 1) := by decide +kernel
theorem dX12_worstOf_62 : decode cX12_worstOf 62 = .ok (.iadd, 1) := by decide +kernel
theorem dX12_worstOf_63 : decode cX12_worstOf 63 = .ok (.iaload, 1) := by decide +kernel
theorem dX12_worstOf_64 : decode cX12_worstOf 64 = .ok (.goto 4, 3) := by decide +kernel
theorem dX12_worstOf_67 : decode cX12_worstOf 67 = .ok (.iconst 0, 1) := by decide +kernel
theorem dX12_worstOf_68 : decode cX12_worstOf 68 = .ok (.iadd, 1) := by decide +kernel
theorem dX12_worstOf_69 : decode cX12_worstOf 69 = .ok (.istore_n 3, 1) := by decide +kernel
theorem dX12_worstOf_70 : decode cX12_worstOf 70 = .ok (.iinc 4 1, 3) := by decide +kernel
theorem dX12_worstOf_73 : decode cX12_worstOf 73 = .ok (.goto (-41), 3) := by decide +kernel
theorem dX12_worstOf_76 : decode cX12_worstOf 76 = .ok (.iload_n 3, 1) := by decide +kernel
theorem dX12_worstOf_77 : decode cX12_worstOf 77 = .ok (.invokestatic 212, 3) := by decide +kernel
theorem dX12_worstOf_80 : decode cX12_worstOf 80 = .ok (.iload_n 1, 1) := by decide +kernel
theorem dX12_worstOf_81 : decode cX12_worstOf 81 = .ok (.if_icmp .le 10, 3) := by decide +kernel
theorem dX12_worstOf_84 : decode cX12_worstOf 84 = .ok (.iload_n 3, 1) := by decide +kernel
theorem dX12_worstOf_85 : decode cX12_worstOf 85 = .ok (.invokestatic 212, 3) := by decide +kernel
theorem dX12_worstOf_88 : decode cX12_worstOf 88 = .ok (.goto 4, 3) := by decide +kernel
theorem dX12_worstOf_91 : decode cX12_worstOf 91 = .ok (.iload_n 1, 1) := by decide +kernel
theorem dX12_worstOf_92 : decode cX12_worstOf 92 = .ok (.istore_n 1, 1) := by decide +kernel
theorem dX12_worstOf_93 : decode cX12_worstOf 93 = .ok (.iinc 2 1, 3) := by decide +kernel
theorem dX12_worstOf_96 : decode cX12_worstOf 96 = .ok (.goto (-92), 3) := by decide +kernel
theorem dX12_worstOf_99 : decode cX12_worstOf 99 = .ok (.iload_n 1, 1) := by decide +kernel
theorem dX12_worstOf_100 : decode cX12_worstOf 100 = .ok (.ireturn, 1) := by decide +kernel
theorem dX12_worstOne_0 : decode cX12_worstOne 0 = .ok (.bipush (-4), 2) := by decide +kernel
theorem dX12_worstOne_2 : decode cX12_worstOne 2 = .ok (.istore_n 1, 1) := by decide +kernel
theorem dX12_worstOne_3 : decode cX12_worstOne 3 = .ok (.iconst 0, 1) := by decide +kernel
theorem dX12_worstOne_4 : decode cX12_worstOne 4 = .ok (.istore_n 2, 1) := by decide +kernel
theorem dX12_worstOne_5 : decode cX12_worstOne 5 = .ok (.iload_n 2, 1) := by decide +kernel
theorem dX12_worstOne_6 : decode cX12_worstOne 6 = .ok (.aload_n 0, 1) := by decide +kernel
theorem dX12_worstOne_7 : decode cX12_worstOne 7 = .ok (.getfield 19, 3) := by decide +kernel
theorem dX12_worstOne_10 : decode cX12_worstOne 10 = .ok (.bipush 72, 2) := by decide +kernel
theorem dX12_worstOne_12 : decode cX12_worstOne 12 = .ok (.iaload, 1) := by decide +kernel
theorem dX12_worstOne_13 : decode cX12_worstOne 13 = .ok (.if_icmp .ge 36, 3) := by decide +kernel
theorem dX12_worstOne_16 : decode cX12_worstOne 16 = .ok (.iload_n 1, 1) := by decide +kernel
theorem dX12_worstOne_17 : decode cX12_worstOne 17 = .ok (.bipush (-4), 2) := by decide +kernel
theorem dX12_worstOne_19 : decode cX12_worstOne 19 = .ok (.if_icmp .eq 18, 3) := by decide +kernel
theorem dX12_worstOne_22 : decode cX12_worstOne 22 = .ok (.aload_n 0, 1) := by decide +kernel
theorem dX12_worstOne_23 : decode cX12_worstOne 23 = .ok (.getfield 50, 3) := by decide +kernel
theorem dX12_worstOne_26 : decode cX12_worstOne 26 = .ok (.iload_n 2, 1) := by decide +kernel
theorem dX12_worstOne_27 : decode cX12_worstOne 27 = .ok (.iaload, 1) := by decide +kernel
theorem dX12_worstOne_28 : decode cX12_worstOne 28 = .ok (.aload_n 0, 1) := by decide +kernel
theorem dX12_worstOne_29 : decode cX12_worstOne 29 = .ok (.getfield 50, 3) := by decide +kernel
theorem dX12_worstOne_32 : decode cX12_worstOne 32 = .ok (.iload_n 1, 1) := by decide +kernel
theorem dX12_worstOne_33 : decode cX12_worstOne 33 = .ok (.iaload, 1) := by decide +kernel
theorem dX12_worstOne_34 : decode cX12_worstOne 34 = .ok (.if_icmp .le 7, 3) := by decide +kernel
theorem dX12_worstOne_37 : decode cX12_worstOne 37 = .ok (.iload_n 2, 1) := by decide +kernel
theorem dX12_worstOne_38 : decode cX12_worstOne 38 = .ok (.goto 4, 3) := by decide +kernel
theorem dX12_worstOne_41 : decode cX12_worstOne 41 = .ok (.iload_n 1, 1) := by decide +kernel
theorem dX12_worstOne_42 : decode cX12_worstOne 42 = .ok (.istore_n 1, 1) := by decide +kernel
theorem dX12_worstOne_43 : decode cX12_worstOne 43 = .ok (.iinc 2 1, 3) := by decide +kernel
theorem dX12_worstOne_46 : decode cX12_worstOne 46 = .ok (.goto (-41), 3) := by decide +kernel
theorem dX12_worstOne_49 : decode cX12_worstOne 49 = .ok (.iload_n 1, 1) := by decide +kernel
theorem dX12_worstOne_50 : decode cX12_worstOne 50 = .ok (.ireturn, 1) := by decide +kernel
theorem dX1_asTold_0 : decode cX1_asTold 0 = .ok (.aload_n 0, 1) := by decide +kernel
theorem dX1_asTold_1 : decode cX1_asTold 1 = .ok (.getfield 23, 3) := by decide +kernel
theorem dX1_asTold_4 : decode cX1_asTold 4 = .ok (.aload_n 0, 1) := by decide +kernel
theorem dX1_asTold_5 : decode cX1_asTold 5 = .ok (.getfield 58, 3) := by decide +kernel
theorem dX1_asTold_8 : decode cX1_asTold 8 = .ok (.getfield 221, 3) := by decide +kernel
theorem dX1_asTold_11 : decode cX1_asTold 11 = .ok (.if_icmp .ge 26, 3) := by decide +kernel
theorem dX1_asTold_14 : decode cX1_asTold 14 = .ok (.aload_n 0, 1) := by decide +kernel
theorem dX1_asTold_15 : decode cX1_asTold 15 = .ok (.getfield 58, 3) := by decide +kernel
theorem dX1_asTold_18 : decode cX1_asTold 18 = .ok (.getfield 224, 3) := by decide +kernel
theorem dX1_asTold_21 : decode cX1_asTold 21 = .ok (.aload_n 0, 1) := by decide +kernel
theorem dX1_asTold_22 : decode cX1_asTold 22 = .ok (.getfield 23, 3) := by decide +kernel
theorem dX1_asTold_25 : decode cX1_asTold 25 = .ok (.iaload, 1) := by decide +kernel
theorem dX1_asTold_26 : decode cX1_asTold 26 = .ok (.istore_n 2, 1) := by decide +kernel
theorem dX1_asTold_27 : decode cX1_asTold 27 = .ok (.iload_n 2, 1) := by decide +kernel
theorem dX1_asTold_28 : decode cX1_asTold 28 = .ok (.iload_n 1, 1) := by decide +kernel
theorem dX1_asTold_29 : decode cX1_asTold 29 = .ok (.invokestatic 117, 3) := by decide +kernel
theorem dX1_asTold_32 : decode cX1_asTold 32 = .ok (.ifCond .eq 5, 3) := by decide +kernel
theorem dX1_asTold_35 : decode cX1_asTold 35 = .ok (.iload_n 2, 1) := by decide +kernel
theorem dX1_asTold_36 : decode cX1_asTold 36 = .ok (.ireturn, 1) := by decide +kernel
theorem dX1_asTold_37 : decode cX1_asTold 37 = .ok (.aload_n 0, 1) := by decide +kernel
theorem dX1_asTold_38 : decode cX1_asTold 38 = .ok (.iload_n 1, 1) := by decide +kernel
theorem dX1_asTold_39 : decode cX1_asTold 39 = .ok (.invokevirtual 211, 3) := by decide +kernel
theorem dX1_asTold_42 : decode cX1_asTold 42 = .ok (.ireturn, 1) := by decide +kernel
theorem dX1_beginRound_0 : decode cX1_beginRound 0 = .ok (.aload_n 0, 1) := by decide +kernel
theorem dX1_beginRound_1 : decode cX1_beginRound 1 = .ok (.getfield 39, 3) := by decide +kernel
theorem dX1_beginRound_4 : decode cX1_beginRound 4 = .ok (.bipush 6, 2) := by decide +kernel
theorem dX1_beginRound_6 : decode cX1_beginRound 6 = .ok (.if_icmp .ne 10, 3) := by decide +kernel
theorem dX1_beginRound_9 : decode cX1_beginRound 9 = .ok (.aload_n 0, 1) := by decide +kernel
theorem dX1_beginRound_10 : decode cX1_beginRound 10 = .ok (.invokevirtual 133, 3) := by decide +kernel
theorem dX1_beginRound_13 : decode cX1_beginRound 13 = .ok (.goto 7, 3) := by decide +kernel
theorem dX1_beginRound_16 : decode cX1_beginRound 16 = .ok (.aload_n 0, 1) := by decide +kernel
theorem dX1_beginRound_17 : decode cX1_beginRound 17 = .ok (.getfield 55, 3) := by decide +kernel
theorem dX1_beginRound_20 : decode cX1_beginRound 20 = .ok (.istore_n 2, 1) := by decide +kernel
theorem dX1_beginRound_21 : decode cX1_beginRound 21 = .ok (.aload_n 0, 1) := by decide +kernel
theorem dX1_beginRound_22 : decode cX1_beginRound 22 = .ok (.iload_n 2, 1) := by decide +kernel
theorem dX1_beginRound_23 : decode cX1_beginRound 23 = .ok (.invokevirtual 136, 3) := by decide +kernel
theorem dX1_beginRound_26 : decode cX1_beginRound 26 = .ok (.istore_n 3, 1) := by decide +kernel
theorem dX1_beginRound_27 : decode cX1_beginRound 27 = .ok (.aload_n 0, 1) := by decide +kernel
theorem dX1_beginRound_28 : decode cX1_beginRound 28 = .ok (.getfield 39, 3) := by decide +kernel
theorem dX1_beginRound_31 : decode cX1_beginRound 31 = .ok (.bipush 6, 2) := by decide +kernel
theorem dX1_beginRound_33 : decode cX1_beginRound 33 = .ok (.if_icmp .ne 8, 3) := by decide +kernel
theorem dX1_beginRound_36 : decode cX1_beginRound 36 = .ok (.bipush (-4), 2) := by decide +kernel
theorem dX1_beginRound_38 : decode cX1_beginRound 38 = .ok (.goto 8, 3) := by decide +kernel
theorem dX1_beginRound_41 : decode cX1_beginRound 41 = .ok (.aload_n 0, 1) := by decide +kernel
theorem dX1_beginRound_42 : decode cX1_beginRound 42 = .ok (.iload_n 3, 1) := by decide +kernel
theorem dX1_beginRound_43 : decode cX1_beginRound 43 = .ok (.invokevirtual 139, 3) := by decide +kernel
theorem dX1_beginRound_46 : decode cX1_beginRound 46 = .ok (.istore 4, 2) := by decide +kernel
theorem dX1_beginRound_48 : decode cX1_beginRound 48 = .ok (.iload_n 2, 1) := by decide +kernel
theorem dX1_beginRound_49 : decode cX1_beginRound 49 = .ok (.ifCond .eq 19, 3) := by decide +kernel
theorem dX1_beginRound_52 : decode cX1_beginRound 52 = .ok (.iload 4, 2) := by decide +kernel
theorem dX1_beginRound_54 : decode cX1_beginRound 54 = .ok (.bipush (-4), 2) := by decide +kernel
theorem dX1_beginRound_56 : decode cX1_beginRound 56 = .ok (.if_icmp .ne 14, 3) := by decide +kernel
theorem dX1_beginRound_59 : decode cX1_beginRound 59 = .ok (.aload_n 0, 1) := by decide +kernel
theorem dX1_beginRound_60 : decode cX1_beginRound 60 = .ok (.getfield 39, 3) := by decide +kernel
theorem dX1_beginRound_63 : decode cX1_beginRound 63 = .ok (.bipush 6, 2) := by decide +kernel
theorem dX1_beginRound_65 : decode cX1_beginRound 65 = .ok (.if_icmp .eq 5, 3) := by decide +kernel
theorem dX1_beginRound_68 : decode cX1_beginRound 68 = .ok (.iconst 0, 1) := by decide +kernel
theorem dX1_beginRound_69 : decode cX1_beginRound 69 = .ok (.ireturn, 1) := by decide +kernel
theorem dX1_beginRound_70 : decode cX1_beginRound 70 = .ok (.aload_n 0, 1) := by decide +kernel
theorem dX1_beginRound_71 : decode cX1_beginRound 71 = .ok (.iload_n 1, 1) := by decide +kernel
theorem dX1_beginRound_72 : decode cX1_beginRound 72 = .ok (.iload 4, 2) := by decide +kernel
theorem dX1_beginRound_74 : decode cX1_beginRound 74 = .ok (.iload_n 3, 1) := by decide +kernel
theorem dX1_beginRound_75 : decode cX1_beginRound 75 = .ok (.iload_n 2, 1) := by decide +kernel
theorem dX1_beginRound_76 : decode cX1_beginRound 76 = .ok (.invokevirtual 142, 3) := by decide +kernel
theorem dX1_beginRound_79 : decode cX1_beginRound 79 = .ok (.aload_n 0, 1) := by decide +kernel
theorem dX1_beginRound_80 : decode cX1_beginRound 80 = .ok (.iload_n 2, 1) := by decide +kernel
theorem dX1_beginRound_81 : decode cX1_beginRound 81 = .ok (.iload_n 1, 1) := by decide +kernel
theorem dX1_beginRound_82 : decode cX1_beginRound 82 = .ok (.invokevirtual 146, 3) := by decide +kernel
theorem dX1_beginRound_85 : decode cX1_beginRound 85 = .ok (.iload 4, 2) := by decide +kernel
theorem dX1_beginRound_87 : decode cX1_beginRound 87 = .ok (.bipush (-4), 2) := by decide +kernel
theorem dX1_beginRound_89 : decode cX1_beginRound 89 = .ok (.if_icmp .ne 11, 3) := by decide +kernel
theorem dX1_beginRound_92 : decode cX1_beginRound 92 = .ok (.aload_n 0, 1) := by decide +kernel
theorem dX1_beginRound_93 : decode cX1_beginRound 93 = .ok (.iload_n 2, 1) := by decide +kernel
theorem dX1_beginRound_94 : decode cX1_beginRound 94 = .ok (.invokevirtual 149, 3) := by decide +kernel
theorem dX1_beginRound_97 : decode cX1_beginRound 97 = .ok (.goto 10, 3) := by decide +kernel
theorem dX1_beginRound_100 : decode cX1_beginRound 100 = .ok (.aload_n 0, 1) := by decide +kernel
theorem dX1_beginRound_101 : decode cX1_beginRound 101 = .ok (.iload 4, 2) := by decide +kernel
theorem dX1_beginRound_103 : decode cX1_beginRound 103 = .ok (.iload_n 3, 1) := by decide +kernel
theorem dX1_beginRound_104 : decode cX1_beginRound 104 = .ok (.invokevirtual 152, 3) := by decide +kernel
theorem dX1_beginRound_107 : decode cX1_beginRound 107 = .ok (.aload_n 0, 1) := by decide +kernel
theorem dX1_beginRound_108 : decode cX1_beginRound 108 = .ok (.aload_n 0, 1) := by decide +kernel
theorem dX1_beginRound_109 : decode cX1_beginRound 109 = .ok (.getfield 30, 3) := by decide +kernel
theorem dX1_beginRound_112 : decode cX1_beginRound 112 = .ok (.aload_n 0, 1) := by decide +kernel
theorem dX1_beginRound_113 : decode cX1_beginRound 113 = .ok (.invokevirtual 155, 3) := by decide +kernel
theorem dX1_beginRound_116 : decode cX1_beginRound 116 = .ok (.invokestatic 158, 3) := by decide +kernel
theorem dX1_beginRound_119 : decode cX1_beginRound 119 = .ok (.putfield 30, 3) := by decide +kernel
theorem dX1_beginRound_122 : decode cX1_beginRound 122 = .ok (.iconst 1, 1) := by decide +kernel
theorem dX1_beginRound_123 : decode cX1_beginRound 123 = .ok (.ireturn, 1) := by decide +kernel
theorem dX1_buyerOf_0 : decode cX1_buyerOf 0 = .ok (.aload_n 0, 1) := by decide +kernel
theorem dX1_buyerOf_1 : decode cX1_buyerOf 1 = .ok (.iload_n 1, 1) := by decide +kernel
theorem dX1_buyerOf_2 : decode cX1_buyerOf 2 = .ok (.invokevirtual 193, 3) := by decide +kernel
theorem dX1_buyerOf_5 : decode cX1_buyerOf 5 = .ok (.istore_n 2, 1) := by decide +kernel
theorem dX1_buyerOf_6 : decode cX1_buyerOf 6 = .ok (.iload_n 2, 1) := by decide +kernel
theorem dX1_buyerOf_7 : decode cX1_buyerOf 7 = .ok (.ifCond .ne 6, 3) := by decide +kernel
theorem dX1_buyerOf_10 : decode cX1_buyerOf 10 = .ok (.bipush (-4), 2) := by decide +kernel
theorem dX1_buyerOf_12 : decode cX1_buyerOf 12 = .ok (.ireturn, 1) := by decide +kernel
theorem dX1_buyerOf_13 : decode cX1_buyerOf 13 = .ok (.aload_n 0, 1) := by decide +kernel
theorem dX1_buyerOf_14 : decode cX1_buyerOf 14 = .ok (.getfield 39, 3) := by decide +kernel
theorem dX1_buyerOf_17 : decode cX1_buyerOf 17 = .ok (.tableswitch 65 1 5 #[35, 41, 47, 53, 59], 35) := by decide +kernel
theorem dX1_buyerOf_52 : decode cX1_buyerOf 52 = .ok (.aload_n 0, 1) := by decide +kernel
theorem dX1_buyerOf_53 : decode cX1_buyerOf 53 = .ok (.iload_n 2, 1) := by decide +kernel
theorem dX1_buyerOf_54 : decode cX1_buyerOf 54 = .ok (.invokevirtual 196, 3) := by decide +kernel
theorem dX1_buyerOf_57 : decode cX1_buyerOf 57 = .ok (.ireturn, 1) := by decide +kernel
theorem dX1_buyerOf_58 : decode cX1_buyerOf 58 = .ok (.aload_n 0, 1) := by decide +kernel
theorem dX1_buyerOf_59 : decode cX1_buyerOf 59 = .ok (.iload_n 2, 1) := by decide +kernel
theorem dX1_buyerOf_60 : decode cX1_buyerOf 60 = .ok (.invokevirtual 199, 3) := by decide +kernel
theorem dX1_buyerOf_63 : decode cX1_buyerOf 63 = .ok (.ireturn, 1) := by decide +kernel
theorem dX1_buyerOf_64 : decode cX1_buyerOf 64 = .ok (.aload_n 0, 1) := by decide +kernel
theorem dX1_buyerOf_65 : decode cX1_buyerOf 65 = .ok (.iload_n 2, 1) := by decide +kernel
theorem dX1_buyerOf_66 : decode cX1_buyerOf 66 = .ok (.invokevirtual 202, 3) := by decide +kernel
theorem dX1_buyerOf_69 : decode cX1_buyerOf 69 = .ok (.ireturn, 1) := by decide +kernel
theorem dX1_buyerOf_70 : decode cX1_buyerOf 70 = .ok (.aload_n 0, 1) := by decide +kernel
theorem dX1_buyerOf_71 : decode cX1_buyerOf 71 = .ok (.iload_n 2, 1) := by decide +kernel
theorem dX1_buyerOf_72 : decode cX1_buyerOf 72 = .ok (.invokevirtual 205, 3) := by decide +kernel
theorem dX1_buyerOf_75 : decode cX1_buyerOf 75 = .ok (.ireturn, 1) := by decide +kernel
theorem dX1_buyerOf_76 : decode cX1_buyerOf 76 = .ok (.aload_n 0, 1) := by decide +kernel
theorem dX1_buyerOf_77 : decode cX1_buyerOf 77 = .ok (.iload_n 2, 1) := by decide +kernel
theorem dX1_buyerOf_78 : decode cX1_buyerOf 78 = .ok (.invokevirtual 208, 3) := by decide +kernel
theorem dX1_buyerOf_81 : decode cX1_buyerOf 81 = .ok (.ireturn, 1) := by decide +kernel
theorem dX1_buyerOf_82 : decode cX1_buyerOf 82 = .ok (.aload_n 0, 1) := by decide +kernel
theorem dX1_buyerOf_83 : decode cX1_buyerOf 83 = .ok (.iload_n 2, 1) := by decide +kernel
theorem dX1_buyerOf_84 : decode cX1_buyerOf 84 = .ok (.invokevirtual 211, 3) := by decide +kernel
theorem dX1_buyerOf_87 : decode cX1_buyerOf 87 = .ok (.ireturn, 1) := by decide +kernel
theorem dX1_carryOn_0 : decode cX1_carryOn 0 = .ok (.iconst 0, 1) := by decide +kernel
theorem dX1_carryOn_1 : decode cX1_carryOn 1 = .ok (.istore_n 1, 1) := by decide +kernel
theorem dX1_carryOn_2 : decode cX1_carryOn 2 = .ok (.iload_n 1, 1) := by decide +kernel
theorem dX1_carryOn_3 : decode cX1_carryOn 3 = .ok (.aload_n 0, 1) := by decide +kernel
theorem dX1_carryOn_4 : decode cX1_carryOn 4 = .ok (.getfield 58, 3) := by decide +kernel
theorem dX1_carryOn_7 : decode cX1_carryOn 7 = .ok (.getfield 64, 3) := by decide +kernel
theorem dX1_carryOn_10 : decode cX1_carryOn 10 = .ok (.if_icmp .ge 27, 3) := by decide +kernel
theorem dX1_carryOn_13 : decode cX1_carryOn 13 = .ok (.aload_n 0, 1) := by decide +kernel
theorem dX1_carryOn_14 : decode cX1_carryOn 14 = .ok (.getfield 11, 3) := by decide +kernel
theorem dX1_carryOn_17 : decode cX1_carryOn 17 = .ok (.iload_n 1, 1) := by decide +kernel
theorem dX1_carryOn_18 : decode cX1_carryOn 18 = .ok (.aaload, 1) := by decide +kernel
theorem dX1_carryOn_19 : decode cX1_carryOn 19 = .ok (.aload_n 0, 1) := by decide +kernel
theorem dX1_carryOn_20 : decode cX1_carryOn 20 = .ok (.getfield 11, 3) := by decide +kernel
theorem dX1_carryOn_23 : decode cX1_carryOn 23 = .ok (.iload_n 1, 1) := by decide +kernel
theorem dX1_carryOn_24 : decode cX1_carryOn 24 = .ok (.aaload, 1) := by decide +kernel
theorem dX1_carryOn_25 : decode cX1_carryOn 25 = .ok (.invokevirtual 81, 3) := by decide +kernel
theorem dX1_carryOn_28 : decode cX1_carryOn 28 = .ok (.putfield 71, 3) := by decide +kernel
theorem dX1_carryOn_31 : decode cX1_carryOn 31 = .ok (.iinc 1 1, 3) := by decide +kernel
theorem dX1_carryOn_34 : decode cX1_carryOn 34 = .ok (.goto (-32), 3) := by decide +kernel
theorem dX1_carryOn_37 : decode cX1_carryOn 37 = .ok (.return_, 1) := by decide +kernel
theorem dX1_clear_0 : decode cX1_clear 0 = .ok (.aload_n 0, 1) := by decide +kernel
theorem dX1_clear_1 : decode cX1_clear 1 = .ok (.iconst 0, 1) := by decide +kernel
theorem dX1_clear_2 : decode cX1_clear 2 = .ok (.putfield 23, 3) := by decide +kernel
theorem dX1_clear_5 : decode cX1_clear 5 = .ok (.aload_n 0, 1) := by decide +kernel
theorem dX1_clear_6 : decode cX1_clear 6 = .ok (.iconst 0, 1) := by decide +kernel
theorem dX1_clear_7 : decode cX1_clear 7 = .ok (.putfield 27, 3) := by decide +kernel
theorem dX1_clear_10 : decode cX1_clear 10 = .ok (.aload_n 0, 1) := by decide +kernel
theorem dX1_clear_11 : decode cX1_clear 11 = .ok (.iconst 0, 1) := by decide +kernel
theorem dX1_clear_12 : decode cX1_clear 12 = .ok (.putfield 30, 3) := by decide +kernel
theorem dX1_clear_15 : decode cX1_clear 15 = .ok (.aload_n 0, 1) := by decide +kernel
theorem dX1_clear_16 : decode cX1_clear 16 = .ok (.iconst 0, 1) := by decide +kernel
theorem dX1_clear_17 : decode cX1_clear 17 = .ok (.putfield 33, 3) := by decide +kernel
theorem dX1_clear_20 : decode cX1_clear 20 = .ok (.aload_n 0, 1) := by decide +kernel
theorem dX1_clear_21 : decode cX1_clear 21 = .ok (.iconst 0, 1) := by decide +kernel
theorem dX1_clear_22 : decode cX1_clear 22 = .ok (.putfield 52, 3) := by decide +kernel
theorem dX1_clear_25 : decode cX1_clear 25 = .ok (.aload_n 0, 1) := by decide +kernel
theorem dX1_clear_26 : decode cX1_clear 26 = .ok (.iconst 0, 1) := by decide +kernel
theorem dX1_clear_27 : decode cX1_clear 27 = .ok (.putfield 55, 3) := by decide +kernel
theorem dX1_clear_30 : decode cX1_clear 30 = .ok (.iconst 0, 1) := by decide +kernel
theorem dX1_clear_31 : decode cX1_clear 31 = .ok (.istore_n 1, 1) := by decide +kernel
theorem dX1_clear_32 : decode cX1_clear 32 = .ok (.iload_n 1, 1) := by decide +kernel
theorem dX1_clear_33 : decode cX1_clear 33 = .ok (.aload_n 0, 1) := by decide +kernel
theorem dX1_clear_34 : decode cX1_clear 34 = .ok (.getfield 58, 3) := by decide +kernel
theorem dX1_clear_37 : decode cX1_clear 37 = .ok (.getfield 64, 3) := by decide +kernel
theorem dX1_clear_40 : decode cX1_clear 40 = .ok (.if_icmp .ge 18, 3) := by decide +kernel
theorem dX1_clear_43 : decode cX1_clear 43 = .ok (.aload_n 0, 1) := by decide +kernel
theorem dX1_clear_44 : decode cX1_clear 44 = .ok (.getfield 11, 3) := by decide +kernel
theorem dX1_clear_47 : decode cX1_clear 47 = .ok (.iload_n 1, 1) := by decide +kernel
theorem dX1_clear_48 : decode cX1_clear 48 = .ok (.aaload, 1) := by decide +kernel
theorem dX1_clear_49 : decode cX1_clear 49 = .ok (.invokevirtual 104, 3) := by decide +kernel
theorem dX1_clear_52 : decode cX1_clear 52 = .ok (.iinc 1 1, 3) := by decide +kernel
theorem dX1_clear_55 : decode cX1_clear 55 = .ok (.goto (-23), 3) := by decide +kernel
theorem dX1_clear_58 : decode cX1_clear 58 = .ok (.return_, 1) := by decide +kernel
theorem dX1_comeAndGo_0 : decode cX1_comeAndGo 0 = .ok (.iconst 0, 1) := by decide +kernel
theorem dX1_comeAndGo_1 : decode cX1_comeAndGo 1 = .ok (.istore_n 2, 1) := by decide +kernel
theorem dX1_comeAndGo_2 : decode cX1_comeAndGo 2 = .ok (.iload_n 2, 1) := by decide +kernel
theorem dX1_comeAndGo_3 : decode cX1_comeAndGo 3 = .ok (.aload_n 0, 1) := by decide +kernel
theorem dX1_comeAndGo_4 : decode cX1_comeAndGo 4 = .ok (.getfield 58, 3) := by decide +kernel
theorem dX1_comeAndGo_7 : decode cX1_comeAndGo 7 = .ok (.getfield 64, 3) := by decide +kernel
theorem dX1_comeAndGo_10 : decode cX1_comeAndGo 10 = .ok (.if_icmp .ge 116, 3) := by decide +kernel
theorem dX1_comeAndGo_13 : decode cX1_comeAndGo 13 = .ok (.iconst 1, 1) := by decide +kernel
theorem dX1_comeAndGo_14 : decode cX1_comeAndGo 14 = .ok (.iload_n 2, 1) := by decide +kernel
theorem dX1_comeAndGo_15 : decode cX1_comeAndGo 15 = .ok (.ishl, 1) := by decide +kernel
theorem dX1_comeAndGo_16 : decode cX1_comeAndGo 16 = .ok (.istore_n 3, 1) := by decide +kernel
theorem dX1_comeAndGo_17 : decode cX1_comeAndGo 17 = .ok (.aload_n 0, 1) := by decide +kernel
theorem dX1_comeAndGo_18 : decode cX1_comeAndGo 18 = .ok (.getfield 58, 3) := by decide +kernel
theorem dX1_comeAndGo_21 : decode cX1_comeAndGo 21 = .ok (.getfield 67, 3) := by decide +kernel
theorem dX1_comeAndGo_24 : decode cX1_comeAndGo 24 = .ok (.iconst 0, 1) := by decide +kernel
theorem dX1_comeAndGo_25 : decode cX1_comeAndGo 25 = .ok (.aaload, 1) := by decide +kernel
theorem dX1_comeAndGo_26 : decode cX1_comeAndGo 26 = .ok (.iload_n 2, 1) := by decide +kernel
theorem dX1_comeAndGo_27 : decode cX1_comeAndGo 27 = .ok (.iaload, 1) := by decide +kernel
theorem dX1_comeAndGo_28 : decode cX1_comeAndGo 28 = .ok (.iload_n 1, 1) := by decide +kernel
theorem dX1_comeAndGo_29 : decode cX1_comeAndGo 29 = .ok (.if_icmp .ne 22, 3) := by decide +kernel
theorem dX1_comeAndGo_32 : decode cX1_comeAndGo 32 = .ok (.aload_n 0, 1) := by decide +kernel
theorem dX1_comeAndGo_33 : decode cX1_comeAndGo 33 = .ok (.dup, 1) := by decide +kernel
theorem dX1_comeAndGo_34 : decode cX1_comeAndGo 34 = .ok (.getfield 52, 3) := by decide +kernel
theorem dX1_comeAndGo_37 : decode cX1_comeAndGo 37 = .ok (.iload_n 3, 1) := by decide +kernel
theorem dX1_comeAndGo_38 : decode cX1_comeAndGo 38 = .ok (.ior, 1) := by decide +kernel
theorem dX1_comeAndGo_39 : decode cX1_comeAndGo 39 = .ok (.putfield 52, 3) := by decide +kernel
theorem dX1_comeAndGo_42 : decode cX1_comeAndGo 42 = .ok (.aload_n 0, 1) := by decide +kernel
theorem dX1_comeAndGo_43 : decode cX1_comeAndGo 43 = .ok (.iload_n 2, 1) := by decide +kernel
theorem dX1_comeAndGo_44 : decode cX1_comeAndGo 44 = .ok (.iload_n 1, 1) := by decide +kernel
theorem dX1_comeAndGo_45 : decode cX1_comeAndGo 45 = .ok (.invokevirtual 105, 3) := by decide +kernel
theorem dX1_comeAndGo_48 : decode cX1_comeAndGo 48 = .ok (.goto 72, 3) := by decide +kernel
theorem dX1_comeAndGo_51 : decode cX1_comeAndGo 51 = .ok (.aload_n 0, 1) := by decide +kernel
theorem dX1_comeAndGo_52 : decode cX1_comeAndGo 52 = .ok (.getfield 58, 3) := by decide +kernel
theorem dX1_comeAndGo_55 : decode cX1_comeAndGo 55 = .ok (.getfield 67, 3) := by decide +kernel
theorem dX1_comeAndGo_58 : decode cX1_comeAndGo 58 = .ok (.iconst 1, 1) := by decide +kernel
theorem dX1_comeAndGo_59 : decode cX1_comeAndGo 59 = .ok (.aaload, 1) := by decide +kernel
theorem dX1_comeAndGo_60 : decode cX1_comeAndGo 60 = .ok (.iload_n 2, 1) := by decide +kernel
theorem dX1_comeAndGo_61 : decode cX1_comeAndGo 61 = .ok (.iaload, 1) := by decide +kernel
theorem dX1_comeAndGo_62 : decode cX1_comeAndGo 62 = .ok (.iload_n 1, 1) := by decide +kernel
theorem dX1_comeAndGo_63 : decode cX1_comeAndGo 63 = .ok (.if_icmp .ne 30, 3) := by decide +kernel
theorem dX1_comeAndGo_66 : decode cX1_comeAndGo 66 = .ok (.aload_n 0, 1) := by decide +kernel
theorem dX1_comeAndGo_67 : decode cX1_comeAndGo 67 = .ok (.dup, 1) := by decide +kernel
theorem dX1_comeAndGo_68 : decode cX1_comeAndGo 68 = .ok (.getfield 52, 3) := by decide +kernel
theorem dX1_comeAndGo_71 : decode cX1_comeAndGo 71 = .ok (.iload_n 3, 1) := by decide +kernel
theorem dX1_comeAndGo_72 : decode cX1_comeAndGo 72 = .ok (.iconst (-1), 1) := by decide +kernel
theorem dX1_comeAndGo_73 : decode cX1_comeAndGo 73 = .ok (.ixor, 1) := by decide +kernel
theorem dX1_comeAndGo_74 : decode cX1_comeAndGo 74 = .ok (.iand, 1) := by decide +kernel
theorem dX1_comeAndGo_75 : decode cX1_comeAndGo 75 = .ok (.putfield 52, 3) := by decide +kernel
theorem dX1_comeAndGo_78 : decode cX1_comeAndGo 78 = .ok (.aload_n 0, 1) := by decide +kernel
theorem dX1_comeAndGo_79 : decode cX1_comeAndGo 79 = .ok (.dup, 1) := by decide +kernel
theorem dX1_comeAndGo_80 : decode cX1_comeAndGo 80 = .ok (.getfield 55, 3) := by decide +kernel
theorem dX1_comeAndGo_83 : decode cX1_comeAndGo 83 = .ok (.iload_n 3, 1) := by decide +kernel
theorem dX1_comeAndGo_84 : decode cX1_comeAndGo 84 = .ok (.iconst (-1), 1) := by decide +kernel
theorem dX1_comeAndGo_85 : decode cX1_comeAndGo 85 = .ok (.ixor, 1) := by decide +kernel
theorem dX1_comeAndGo_86 : decode cX1_comeAndGo 86 = .ok (.iand, 1) := by decide +kernel
theorem dX1_comeAndGo_87 : decode cX1_comeAndGo 87 = .ok (.putfield 55, 3) := by decide +kernel
theorem dX1_comeAndGo_90 : decode cX1_comeAndGo 90 = .ok (.goto 30, 3) := by decide +kernel
theorem dX1_comeAndGo_93 : decode cX1_comeAndGo 93 = .ok (.aload_n 0, 1) := by decide +kernel
theorem dX1_comeAndGo_94 : decode cX1_comeAndGo 94 = .ok (.iload_n 2, 1) := by decide +kernel
theorem dX1_comeAndGo_95 : decode cX1_comeAndGo 95 = .ok (.invokevirtual 108, 3) := by decide +kernel
theorem dX1_comeAndGo_98 : decode cX1_comeAndGo 98 = .ok (.ifCond .eq 22, 3) := by decide +kernel
theorem dX1_comeAndGo_101 : decode cX1_comeAndGo 101 = .ok (.aload_n 0, 1) := by decide +kernel
theorem dX1_comeAndGo_102 : decode cX1_comeAndGo 102 = .ok (.getfield 11, 3) := by decide +kernel
theorem dX1_comeAndGo_105 : decode cX1_comeAndGo 105 = .ok (.iload_n 2, 1) := by decide +kernel
theorem dX1_comeAndGo_106 : decode cX1_comeAndGo 106 = .ok (.aaload, 1) := by decide +kernel
theorem dX1_comeAndGo_107 : decode cX1_comeAndGo 107 = .ok (.getfield 111, 3) := by decide +kernel
theorem dX1_comeAndGo_110 : decode cX1_comeAndGo 110 = .ok (.iload_n 1, 1) := by decide +kernel
theorem dX1_comeAndGo_111 : decode cX1_comeAndGo 111 = .ok (.if_icmp .ne 9, 3) := by decide +kernel
theorem dX1_comeAndGo_114 : decode cX1_comeAndGo 114 = .ok (.aload_n 0, 1) := by decide +kernel
theorem dX1_comeAndGo_115 : decode cX1_comeAndGo 115 = .ok (.iload_n 2, 1) := by decide +kernel
theorem dX1_comeAndGo_116 : decode cX1_comeAndGo 116 = .ok (.iload_n 1, 1) := by decide +kernel
theorem dX1_comeAndGo_117 : decode cX1_comeAndGo 117 = .ok (.invokevirtual 105, 3) := by decide +kernel
theorem dX1_comeAndGo_120 : decode cX1_comeAndGo 120 = .ok (.iinc 2 1, 3) := by decide +kernel
theorem dX1_comeAndGo_123 : decode cX1_comeAndGo 123 = .ok (.goto (-121), 3) := by decide +kernel
theorem dX1_comeAndGo_126 : decode cX1_comeAndGo 126 = .ok (.return_, 1) := by decide +kernel
theorem dX1_drawn_0 : decode cX1_drawn 0 = .ok (.iload_n 1, 1) := by decide +kernel
theorem dX1_drawn_1 : decode cX1_drawn 1 = .ok (.invokestatic 125, 3) := by decide +kernel
theorem dX1_drawn_4 : decode cX1_drawn 4 = .ok (.istore_n 2, 1) := by decide +kernel
theorem dX1_drawn_5 : decode cX1_drawn 5 = .ok (.iload_n 2, 1) := by decide +kernel
theorem dX1_drawn_6 : decode cX1_drawn 6 = .ok (.ifCond .ne 6, 3) := by decide +kernel
theorem dX1_drawn_9 : decode cX1_drawn 9 = .ok (.bipush (-4), 2) := by decide +kernel
theorem dX1_drawn_11 : decode cX1_drawn 11 = .ok (.ireturn, 1) := by decide +kernel
theorem dX1_drawn_12 : decode cX1_drawn 12 = .ok (.aload_n 0, 1) := by decide +kernel
theorem dX1_drawn_13 : decode cX1_drawn 13 = .ok (.aload_n 0, 1) := by decide +kernel
theorem dX1_drawn_14 : decode cX1_drawn 14 = .ok (.getfield 36, 3) := by decide +kernel
theorem dX1_drawn_17 : decode cX1_drawn 17 = .ok (.ldc 220, 2) := by decide +kernel
theorem dX1_drawn_19 : decode cX1_drawn 19 = .ok (.imul, 1) := by decide +kernel
theorem dX1_drawn_20 : decode cX1_drawn 20 = .ok (.sipush 12345, 3) := by decide +kernel
theorem dX1_drawn_23 : decode cX1_drawn 23 = .ok (.iadd, 1) := by decide +kernel
theorem dX1_drawn_24 : decode cX1_drawn 24 = .ok (.putfield 36, 3) := by decide +kernel
theorem dX1_drawn_27 : decode cX1_drawn 27 = .ok (.aload_n 0, 1) := by decide +kernel
theorem dX1_drawn_28 : decode cX1_drawn 28 = .ok (.iload_n 1, 1) := by decide +kernel
theorem dX1_drawn_29 : decode cX1_drawn 29 = .ok (.aload_n 0, 1) := by decide +kernel
theorem dX1_drawn_30 : decode cX1_drawn 30 = .ok (.getfield 36, 3) := by decide +kernel
theorem dX1_drawn_33 : decode cX1_drawn 33 = .ok (.bipush 16, 2) := by decide +kernel
theorem dX1_drawn_35 : decode cX1_drawn 35 = .ok (.iushr, 1) := by decide +kernel
theorem dX1_drawn_36 : decode cX1_drawn 36 = .ok (.sipush 32767, 3) := by decide +kernel
theorem dX1_drawn_39 : decode cX1_drawn 39 = .ok (.iand, 1) := by decide +kernel
theorem dX1_drawn_40 : decode cX1_drawn 40 = .ok (.iload_n 2, 1) := by decide +kernel
theorem dX1_drawn_41 : decode cX1_drawn 41 = .ok (.irem, 1) := by decide +kernel
theorem dX1_drawn_42 : decode cX1_drawn 42 = .ok (.invokevirtual 217, 3) := by decide +kernel
theorem dX1_drawn_45 : decode cX1_drawn 45 = .ok (.ireturn, 1) := by decide +kernel
theorem dX1_emptyLongest_0 : decode cX1_emptyLongest 0 = .ok (.iload_n 1, 1) := by decide +kernel
theorem dX1_emptyLongest_1 : decode cX1_emptyLongest 1 = .ok (.aload_n 0, 1) := by decide +kernel
theorem dX1_emptyLongest_2 : decode cX1_emptyLongest 2 = .ok (.getfield 55, 3) := by decide +kernel
theorem dX1_emptyLongest_5 : decode cX1_emptyLongest 5 = .ok (.iand, 1) := by decide +kernel
theorem dX1_emptyLongest_6 : decode cX1_emptyLongest 6 = .ok (.ifCond .ne 10, 3) := by decide +kernel
theorem dX1_emptyLongest_9 : decode cX1_emptyLongest 9 = .ok (.aload_n 0, 1) := by decide +kernel
theorem dX1_emptyLongest_10 : decode cX1_emptyLongest 10 = .ok (.iload_n 1, 1) := by decide +kernel
theorem dX1_emptyLongest_11 : decode cX1_emptyLongest 11 = .ok (.iconst 0, 1) := by decide +kernel
theorem dX1_emptyLongest_12 : decode cX1_emptyLongest 12 = .ok (.invokevirtual 217, 3) := by decide +kernel
theorem dX1_emptyLongest_15 : decode cX1_emptyLongest 15 = .ok (.ireturn, 1) := by decide +kernel
theorem dX1_emptyLongest_16 : decode cX1_emptyLongest 16 = .ok (.bipush (-4), 2) := by decide +kernel
theorem dX1_emptyLongest_18 : decode cX1_emptyLongest 18 = .ok (.istore_n 2, 1) := by decide +kernel
theorem dX1_emptyLongest_19 : decode cX1_emptyLongest 19 = .ok (.iconst 0, 1) := by decide +kernel
theorem dX1_emptyLongest_20 : decode cX1_emptyLongest 20 = .ok (.istore_n 3, 1) := by decide +kernel
theorem dX1_emptyLongest_21 : decode cX1_emptyLongest 21 = .ok (.iload_n 3, 1) := by decide +kernel
theorem dX1_emptyLongest_22 : decode cX1_emptyLongest 22 = .ok (.aload_n 0, 1) := by decide +kernel
theorem dX1_emptyLongest_23 : decode cX1_emptyLongest 23 = .ok (.getfield 58, 3) := by decide +kernel
theorem dX1_emptyLongest_26 : decode cX1_emptyLongest 26 = .ok (.getfield 64, 3) := by decide +kernel
theorem dX1_emptyLongest_29 : decode cX1_emptyLongest 29 = .ok (.if_icmp .ge 51, 3) := by decide +kernel
theorem dX1_emptyLongest_32 : decode cX1_emptyLongest 32 = .ok (.iload_n 3, 1) := by decide +kernel
theorem dX1_emptyLongest_33 : decode cX1_emptyLongest 33 = .ok (.iload_n 1, 1) := by decide +kernel
theorem dX1_emptyLongest_34 : decode cX1_emptyLongest 34 = .ok (.aload_n 0, 1) := by decide +kernel
theorem dX1_emptyLongest_35 : decode cX1_emptyLongest 35 = .ok (.getfield 55, 3) := by decide +kernel
theorem dX1_emptyLongest_38 : decode cX1_emptyLongest 38 = .ok (.iand, 1) := by decide +kernel
theorem dX1_emptyLongest_39 : decode cX1_emptyLongest 39 = .ok (.invokestatic 117, 3) := by decide +kernel
theorem dX1_emptyLongest_42 : decode cX1_emptyLongest 42 = .ok (.ifCond .eq 32, 3) := by decide +kernel
theorem dX1_emptyLongest_45 : decode cX1_emptyLongest 45 = .ok (.iload_n 2, 1) := by decide +kernel
theorem dX1_emptyLongest_46 : decode cX1_emptyLongest 46 = .ok (.bipush (-4), 2) := by decide +kernel
theorem dX1_emptyLongest_48 : decode cX1_emptyLongest 48 = .ok (.if_icmp .eq 24, 3) := by decide +kernel
theorem dX1_emptyLongest_51 : decode cX1_emptyLongest 51 = .ok (.aload_n 0, 1) := by decide +kernel
theorem dX1_emptyLongest_52 : decode cX1_emptyLongest 52 = .ok (.getfield 11, 3) := by decide +kernel
theorem dX1_emptyLongest_55 : decode cX1_emptyLongest 55 = .ok (.iload_n 3, 1) := by decide +kernel
theorem dX1_emptyLongest_56 : decode cX1_emptyLongest 56 = .ok (.aaload, 1) := by decide +kernel
theorem dX1_emptyLongest_57 : decode cX1_emptyLongest 57 = .ok (.getfield 114, 3) := by decide +kernel
theorem dX1_emptyLongest_60 : decode cX1_emptyLongest 60 = .ok (.aload_n 0, 1) := by decide +kernel
theorem dX1_emptyLongest_61 : decode cX1_emptyLongest 61 = .ok (.getfield 11, 3) := by decide +kernel
theorem dX1_emptyLongest_64 : decode cX1_emptyLongest 64 = .ok (.iload_n 2, 1) := by decide +kernel
theorem dX1_emptyLongest_65 : decode cX1_emptyLongest 65 = .ok (.aaload, 1) := by decide +kernel
theorem dX1_emptyLongest_66 : decode cX1_emptyLongest 66 = .ok (.getfield 114, 3) := by decide +kernel
theorem dX1_emptyLongest_69 : decode cX1_emptyLongest 69 = .ok (.if_icmp .ge 5, 3) := by decide +kernel
theorem dX1_emptyLongest_72 : decode cX1_emptyLongest 72 = .ok (.iload_n 3, 1) := by decide +kernel
theorem dX1_emptyLongest_73 : decode cX1_emptyLongest 73 = .ok (.istore_n 2, 1) := by decide +kernel
theorem dX1_emptyLongest_74 : decode cX1_emptyLongest 74 = .ok (.iinc 3 1, 3) := by decide +kernel
theorem dX1_emptyLongest_77 : decode cX1_emptyLongest 77 = .ok (.goto (-56), 3) := by decide +kernel
theorem dX1_emptyLongest_80 : decode cX1_emptyLongest 80 = .ok (.iload_n 2, 1) := by decide +kernel
theorem dX1_emptyLongest_81 : decode cX1_emptyLongest 81 = .ok (.ireturn, 1) := by decide +kernel
theorem dX1_greatestOut_0 : decode cX1_greatestOut 0 = .ok (.iconst 0, 1) := by decide +kernel
theorem dX1_greatestOut_1 : decode cX1_greatestOut 1 = .ok (.istore_n 1, 1) := by decide +kernel
theorem dX1_greatestOut_2 : decode cX1_greatestOut 2 = .ok (.iconst 0, 1) := by decide +kernel
theorem dX1_greatestOut_3 : decode cX1_greatestOut 3 = .ok (.istore_n 2, 1) := by decide +kernel
theorem dX1_greatestOut_4 : decode cX1_greatestOut 4 = .ok (.iload_n 2, 1) := by decide +kernel
theorem dX1_greatestOut_5 : decode cX1_greatestOut 5 = .ok (.aload_n 0, 1) := by decide +kernel
theorem dX1_greatestOut_6 : decode cX1_greatestOut 6 = .ok (.getfield 58, 3) := by decide +kernel
theorem dX1_greatestOut_9 : decode cX1_greatestOut 9 = .ok (.getfield 64, 3) := by decide +kernel
theorem dX1_greatestOut_12 : decode cX1_greatestOut 12 = .ok (.if_icmp .ge 37, 3) := by decide +kernel
theorem dX1_greatestOut_15 : decode cX1_greatestOut 15 = .ok (.iload_n 2, 1) := by decide +kernel
theorem dX1_greatestOut_16 : decode cX1_greatestOut 16 = .ok (.aload_n 0, 1) := by decide +kernel
theorem dX1_greatestOut_17 : decode cX1_greatestOut 17 = .ok (.getfield 52, 3) := by decide +kernel
theorem dX1_greatestOut_20 : decode cX1_greatestOut 20 = .ok (.invokestatic 117, 3) := by decide +kernel
theorem dX1_greatestOut_23 : decode cX1_greatestOut 23 = .ok (.ifCond .eq 20, 3) := by decide +kernel
theorem dX1_greatestOut_26 : decode cX1_greatestOut 26 = .ok (.iload_n 1, 1) := by decide +kernel
theorem dX1_greatestOut_27 : decode cX1_greatestOut 27 = .ok (.aload_n 0, 1) := by decide +kernel
theorem dX1_greatestOut_28 : decode cX1_greatestOut 28 = .ok (.getfield 11, 3) := by decide +kernel
theorem dX1_greatestOut_31 : decode cX1_greatestOut 31 = .ok (.iload_n 2, 1) := by decide +kernel
theorem dX1_greatestOut_32 : decode cX1_greatestOut 32 = .ok (.aaload, 1) := by decide +kernel
theorem dX1_greatestOut_33 : decode cX1_greatestOut 33 = .ok (.invokevirtual 81, 3) := by decide +kernel
theorem dX1_greatestOut_36 : decode cX1_greatestOut 36 = .ok (.invokestatic 190, 3) := by decide +kernel
theorem dX1_greatestOut_39 : decode cX1_greatestOut 39 = .ok (.invokestatic 158, 3) := by decide +kernel
theorem dX1_greatestOut_42 : decode cX1_greatestOut 42 = .ok (.istore_n 1, 1) := by decide +kernel
theorem dX1_greatestOut_43 : decode cX1_greatestOut 43 = .ok (.iinc 2 1, 3) := by decide +kernel
theorem dX1_greatestOut_46 : decode cX1_greatestOut 46 = .ok (.goto (-42), 3) := by decide +kernel
theorem dX1_greatestOut_49 : decode cX1_greatestOut 49 = .ok (.iload_n 1, 1) := by decide +kernel
theorem dX1_greatestOut_50 : decode cX1_greatestOut 50 = .ok (.ireturn, 1) := by decide +kernel
theorem dX1_hasGlass_0 : decode cX1_hasGlass 0 = .ok (.iload_n 1, 1) := by decide +kernel
theorem dX1_hasGlass_1 : decode cX1_hasGlass 1 = .ok (.aload_n 0, 1) := by decide +kernel
theorem dX1_hasGlass_2 : decode cX1_hasGlass 2 = .ok (.getfield 52, 3) := by decide +kernel
theorem dX1_hasGlass_5 : decode cX1_hasGlass 5 = .ok (.aload_n 0, 1) := by decide +kernel
theorem dX1_hasGlass_6 : decode cX1_hasGlass 6 = .ok (.getfield 55, 3) := by decide +kernel
theorem dX1_hasGlass_9 : decode cX1_hasGlass 9 = .ok (.iconst (-1), 1) := by decide +kernel
theorem dX1_hasGlass_10 : decode cX1_hasGlass 10 = .ok (.ixor, 1) := by decide +kernel
theorem dX1_hasGlass_11 : decode cX1_hasGlass 11 = .ok (.iand, 1) := by decide +kernel
theorem dX1_hasGlass_12 : decode cX1_hasGlass 12 = .ok (.invokestatic 117, 3) := by decide +kernel
theorem dX1_hasGlass_15 : decode cX1_hasGlass 15 = .ok (.ireturn, 1) := by decide +kernel
theorem dX1_inTurn_0 : decode cX1_inTurn 0 = .ok (.iconst 1, 1) := by decide +kernel
theorem dX1_inTurn_1 : decode cX1_inTurn 1 = .ok (.istore_n 2, 1) := by decide +kernel
theorem dX1_inTurn_2 : decode cX1_inTurn 2 = .ok (.iload_n 2, 1) := by decide +kernel
theorem dX1_inTurn_3 : decode cX1_inTurn 3 = .ok (.bipush 8, 2) := by decide +kernel
theorem dX1_inTurn_5 : decode cX1_inTurn 5 = .ok (.if_icmp .gt 29, 3) := by decide +kernel
theorem dX1_inTurn_8 : decode cX1_inTurn 8 = .ok (.aload_n 0, 1) := by decide +kernel
theorem dX1_inTurn_9 : decode cX1_inTurn 9 = .ok (.getfield 46, 3) := by decide +kernel
theorem dX1_inTurn_12 : decode cX1_inTurn 12 = .ok (.iload_n 2, 1) := by decide +kernel
theorem dX1_inTurn_13 : decode cX1_inTurn 13 = .ok (.iadd, 1) := by decide +kernel
theorem dX1_inTurn_14 : decode cX1_inTurn 14 = .ok (.bipush 8, 2) := by decide +kernel
theorem dX1_inTurn_16 : decode cX1_inTurn 16 = .ok (.irem, 1) := by decide +kernel
theorem dX1_inTurn_17 : decode cX1_inTurn 17 = .ok (.istore_n 3, 1) := by decide +kernel
theorem dX1_inTurn_18 : decode cX1_inTurn 18 = .ok (.iload_n 3, 1) := by decide +kernel
theorem dX1_inTurn_19 : decode cX1_inTurn 19 = .ok (.iload_n 1, 1) := by decide +kernel
theorem dX1_inTurn_20 : decode cX1_inTurn 20 = .ok (.invokestatic 117, 3) := by decide +kernel
theorem dX1_inTurn_23 : decode cX1_inTurn 23 = .ok (.ifCond .eq 5, 3) := by decide +kernel
theorem dX1_inTurn_26 : decode cX1_inTurn 26 = .ok (.iload_n 3, 1) := by decide +kernel
theorem dX1_inTurn_27 : decode cX1_inTurn 27 = .ok (.ireturn, 1) := by decide +kernel
theorem dX1_inTurn_28 : decode cX1_inTurn 28 = .ok (.iinc 2 1, 3) := by decide +kernel
theorem dX1_inTurn_31 : decode cX1_inTurn 31 = .ok (.goto (-29), 3) := by decide +kernel
theorem dX1_inTurn_34 : decode cX1_inTurn 34 = .ok (.bipush (-4), 2) := by decide +kernel
theorem dX1_inTurn_36 : decode cX1_inTurn 36 = .ok (.ireturn, 1) := by decide +kernel
theorem dX1_init_0 : decode cX1_init 0 = .ok (.aload_n 0, 1) := by decide +kernel
theorem dX1_init_1 : decode cX1_init 1 = .ok (.invokespecial 3, 3) := by decide +kernel
theorem dX1_init_4 : decode cX1_init 4 = .ok (.aload_n 0, 1) := by decide +kernel
theorem dX1_init_5 : decode cX1_init 5 = .ok (.bipush 8, 2) := by decide +kernel
theorem dX1_init_7 : decode cX1_init 7 = .ok (.anewarray 9, 3) := by decide +kernel
theorem dX1_init_10 : decode cX1_init 10 = .ok (.putfield 11, 3) := by decide +kernel
theorem dX1_init_13 : decode cX1_init 13 = .ok (.aload_n 0, 1) := by decide +kernel
theorem dX1_init_14 : decode cX1_init 14 = .ok (.bipush 40, 2) := by decide +kernel
theorem dX1_init_16 : decode cX1_init 16 = .ok (.anewarray 17, 3) := by decide +kernel
theorem dX1_init_19 : decode cX1_init 19 = .ok (.putfield 19, 3) := by decide +kernel
theorem dX1_init_22 : decode cX1_init 22 = .ok (.aload_n 0, 1) := by decide +kernel
theorem dX1_init_23 : decode cX1_init 23 = .ok (.iconst 0, 1) := by decide +kernel
theorem dX1_init_24 : decode cX1_init 24 = .ok (.putfield 23, 3) := by decide +kernel
theorem dX1_init_27 : decode cX1_init 27 = .ok (.aload_n 0, 1) := by decide +kernel
theorem dX1_init_28 : decode cX1_init 28 = .ok (.iconst 0, 1) := by decide +kernel
theorem dX1_init_29 : decode cX1_init 29 = .ok (.putfield 27, 3) := by decide +kernel
theorem dX1_init_32 : decode cX1_init 32 = .ok (.aload_n 0, 1) := by decide +kernel
theorem dX1_init_33 : decode cX1_init 33 = .ok (.iconst 0, 1) := by decide +kernel
theorem dX1_init_34 : decode cX1_init 34 = .ok (.putfield 30, 3) := by decide +kernel
theorem dX1_init_37 : decode cX1_init 37 = .ok (.aload_n 0, 1) := by decide +kernel
theorem dX1_init_38 : decode cX1_init 38 = .ok (.iconst 0, 1) := by decide +kernel
theorem dX1_init_39 : decode cX1_init 39 = .ok (.putfield 33, 3) := by decide +kernel
theorem dX1_init_42 : decode cX1_init 42 = .ok (.aload_n 0, 1) := by decide +kernel
theorem dX1_init_43 : decode cX1_init 43 = .ok (.iconst 0, 1) := by decide +kernel
theorem dX1_init_44 : decode cX1_init 44 = .ok (.putfield 36, 3) := by decide +kernel
theorem dX1_init_47 : decode cX1_init 47 = .ok (.aload_n 0, 1) := by decide +kernel
theorem dX1_init_48 : decode cX1_init 48 = .ok (.iconst 0, 1) := by decide +kernel
theorem dX1_init_49 : decode cX1_init 49 = .ok (.putfield 39, 3) := by decide +kernel
theorem dX1_init_52 : decode cX1_init 52 = .ok (.aload_n 0, 1) := by decide +kernel
theorem dX1_init_53 : decode cX1_init 53 = .ok (.iconst 1, 1) := by decide +kernel
theorem dX1_init_54 : decode cX1_init 54 = .ok (.putfield 42, 3) := by decide +kernel
theorem dX1_init_57 : decode cX1_init 57 = .ok (.aload_n 0, 1) := by decide +kernel
theorem dX1_init_58 : decode cX1_init 58 = .ok (.bipush 7, 2) := by decide +kernel
theorem dX1_init_60 : decode cX1_init 60 = .ok (.putfield 46, 3) := by decide +kernel
theorem dX1_init_63 : decode cX1_init 63 = .ok (.aload_n 0, 1) := by decide +kernel
theorem dX1_init_64 : decode cX1_init 64 = .ok (.iconst 0, 1) := by decide +kernel
theorem dX1_init_65 : decode cX1_init 65 = .ok (.putfield 49, 3) := by decide +kernel
theorem dX1_init_68 : decode cX1_init 68 = .ok (.aload_n 0, 1) := by decide +kernel
theorem dX1_init_69 : decode cX1_init 69 = .ok (.iconst 0, 1) := by decide +kernel
theorem dX1_init_70 : decode cX1_init 70 = .ok (.putfield 52, 3) := by decide +kernel
theorem dX1_init_73 : decode cX1_init 73 = .ok (.aload_n 0, 1) := by decide +kernel
theorem dX1_init_74 : decode cX1_init 74 = .ok (.iconst 0, 1) := by decide +kernel
theorem dX1_init_75 : decode cX1_init 75 = .ok (.putfield 55, 3) := by decide +kernel
theorem dX1_init_78 : decode cX1_init 78 = .ok (.aload_n 0, 1) := by decide +kernel
theorem dX1_init_79 : decode cX1_init 79 = .ok (.aload_n 1, 1) := by decide +kernel
theorem dX1_init_80 : decode cX1_init 80 = .ok (.putfield 58, 3) := by decide +kernel
theorem dX1_init_83 : decode cX1_init 83 = .ok (.iconst 0, 1) := by decide +kernel
theorem dX1_init_84 : decode cX1_init 84 = .ok (.istore_n 2, 1) := by decide +kernel
theorem dX1_init_85 : decode cX1_init 85 = .ok (.iload_n 2, 1) := by decide +kernel
theorem dX1_init_86 : decode cX1_init 86 = .ok (.bipush 8, 2) := by decide +kernel
theorem dX1_init_88 : decode cX1_init 88 = .ok (.if_icmp .ge 22, 3) := by decide +kernel
theorem dX1_init_91 : decode cX1_init 91 = .ok (.aload_n 0, 1) := by decide +kernel
theorem dX1_init_92 : decode cX1_init 92 = .ok (.getfield 11, 3) := by decide +kernel
theorem dX1_init_95 : decode cX1_init 95 = .ok (.iload_n 2, 1) := by decide +kernel
theorem dX1_init_96 : decode cX1_init 96 = .ok (.new 9, 3) := by decide +kernel
theorem dX1_init_99 : decode cX1_init 99 = .ok (.dup, 1) := by decide +kernel
theorem dX1_init_100 : decode cX1_init 100 = .ok (.invokespecial 62, 3) := by decide +kernel
theorem dX1_init_103 : decode cX1_init 103 = .ok (.aastore, 1) := by decide +kernel
theorem dX1_init_104 : decode cX1_init 104 = .ok (.iinc 2 1, 3) := by decide +kernel
theorem dX1_init_107 : decode cX1_init 107 = .ok (.goto (-22), 3) := by decide +kernel
theorem dX1_init_110 : decode cX1_init 110 = .ok (.iconst 0, 1) := by decide +kernel
theorem dX1_init_111 : decode cX1_init 111 = .ok (.istore_n 2, 1) := by decide +kernel
theorem dX1_init_112 : decode cX1_init 112 = .ok (.iload_n 2, 1) := by decide +kernel
theorem dX1_init_113 : decode cX1_init 113 = .ok (.bipush 40, 2) := by decide +kernel
theorem dX1_init_115 : decode cX1_init 115 = .ok (.if_icmp .ge 22, 3) := by decide +kernel
theorem dX1_init_118 : decode cX1_init 118 = .ok (.aload_n 0, 1) := by decide +kernel
theorem dX1_init_119 : decode cX1_init 119 = .ok (.getfield 19, 3) := by decide +kernel
theorem dX1_init_122 : decode cX1_init 122 = .ok (.iload_n 2, 1) := by decide +kernel
theorem dX1_init_123 : decode cX1_init 123 = .ok (.new 17, 3) := by decide +kernel
theorem dX1_init_126 : decode cX1_init 126 = .ok (.dup, 1) := by decide +kernel
theorem dX1_init_127 : decode cX1_init 127 = .ok (.invokespecial 63, 3) := by decide +kernel
theorem dX1_init_130 : decode cX1_init 130 = .ok (.aastore, 1) := by decide +kernel
theorem dX1_init_131 : decode cX1_init 131 = .ok (.iinc 2 1, 3) := by decide +kernel
theorem dX1_init_134 : decode cX1_init 134 = .ok (.goto (-22), 3) := by decide +kernel
theorem dX1_init_137 : decode cX1_init 137 = .ok (.return_, 1) := by decide +kernel
theorem dX1_leastOut_0 : decode cX1_leastOut 0 = .ok (.bipush (-4), 2) := by decide +kernel
theorem dX1_leastOut_2 : decode cX1_leastOut 2 = .ok (.istore_n 2, 1) := by decide +kernel
theorem dX1_leastOut_3 : decode cX1_leastOut 3 = .ok (.iconst 0, 1) := by decide +kernel
theorem dX1_leastOut_4 : decode cX1_leastOut 4 = .ok (.istore_n 3, 1) := by decide +kernel
theorem dX1_leastOut_5 : decode cX1_leastOut 5 = .ok (.iload_n 3, 1) := by decide +kernel
theorem dX1_leastOut_6 : decode cX1_leastOut 6 = .ok (.aload_n 0, 1) := by decide +kernel
theorem dX1_leastOut_7 : decode cX1_leastOut 7 = .ok (.getfield 58, 3) := by decide +kernel
theorem dX1_leastOut_10 : decode cX1_leastOut 10 = .ok (.getfield 64, 3) := by decide +kernel
theorem dX1_leastOut_13 : decode cX1_leastOut 13 = .ok (.if_icmp .ge 46, 3) := by decide +kernel
theorem dX1_leastOut_16 : decode cX1_leastOut 16 = .ok (.iload_n 3, 1) := by decide +kernel
theorem dX1_leastOut_17 : decode cX1_leastOut 17 = .ok (.iload_n 1, 1) := by decide +kernel
theorem dX1_leastOut_18 : decode cX1_leastOut 18 = .ok (.invokestatic 117, 3) := by decide +kernel
theorem dX1_leastOut_21 : decode cX1_leastOut 21 = .ok (.ifCond .eq 32, 3) := by decide +kernel
theorem dX1_leastOut_24 : decode cX1_leastOut 24 = .ok (.iload_n 2, 1) := by decide +kernel
theorem dX1_leastOut_25 : decode cX1_leastOut 25 = .ok (.bipush (-4), 2) := by decide +kernel
theorem dX1_leastOut_27 : decode cX1_leastOut 27 = .ok (.if_icmp .eq 24, 3) := by decide +kernel
theorem dX1_leastOut_30 : decode cX1_leastOut 30 = .ok (.aload_n 0, 1) := by decide +kernel
theorem dX1_leastOut_31 : decode cX1_leastOut 31 = .ok (.getfield 11, 3) := by decide +kernel
theorem dX1_leastOut_34 : decode cX1_leastOut 34 = .ok (.iload_n 3, 1) := by decide +kernel
theorem dX1_leastOut_35 : decode cX1_leastOut 35 = .ok (.aaload, 1) := by decide +kernel
theorem dX1_leastOut_36 : decode cX1_leastOut 36 = .ok (.invokevirtual 81, 3) := by decide +kernel
theorem dX1_leastOut_39 : decode cX1_leastOut 39 = .ok (.aload_n 0, 1) := by decide +kernel
theorem dX1_leastOut_40 : decode cX1_leastOut 40 = .ok (.getfield 11, 3) := by decide +kernel
theorem dX1_leastOut_43 : decode cX1_leastOut 43 = .ok (.iload_n 2, 1) := by decide +kernel
theorem dX1_leastOut_44 : decode cX1_leastOut 44 = .ok (.aaload, 1) := by decide +kernel
theorem dX1_leastOut_45 : decode cX1_leastOut 45 = .ok (.invokevirtual 81, 3) := by decide +kernel
theorem dX1_leastOut_48 : decode cX1_leastOut 48 = .ok (.if_icmp .ge 5, 3) := by decide +kernel
theorem dX1_leastOut_51 : decode cX1_leastOut 51 = .ok (.iload_n 3, 1) := by decide +kernel
theorem dX1_leastOut_52 : decode cX1_leastOut 52 = .ok (.istore_n 2, 1) := by decide +kernel
theorem dX1_leastOut_53 : decode cX1_leastOut 53 = .ok (.iinc 3 1, 3) := by decide +kernel
theorem dX1_leastOut_56 : decode cX1_leastOut 56 = .ok (.goto (-51), 3) := by decide +kernel
theorem dX1_leastOut_59 : decode cX1_leastOut 59 = .ok (.iload_n 2, 1) := by decide +kernel
theorem dX1_leastOut_60 : decode cX1_leastOut 60 = .ok (.ireturn, 1) := by decide +kernel
theorem dX1_left_0 : decode cX1_left 0 = .ok (.aload_n 0, 1) := by decide +kernel
theorem dX1_left_1 : decode cX1_left 1 = .ok (.getfield 58, 3) := by decide +kernel
theorem dX1_left_4 : decode cX1_left 4 = .ok (.getfield 67, 3) := by decide +kernel
theorem dX1_left_7 : decode cX1_left 7 = .ok (.iconst 4, 1) := by decide +kernel
theorem dX1_left_8 : decode cX1_left 8 = .ok (.aaload, 1) := by decide +kernel
theorem dX1_left_9 : decode cX1_left 9 = .ok (.iload_n 1, 1) := by decide +kernel
theorem dX1_left_10 : decode cX1_left 10 = .ok (.iaload, 1) := by decide +kernel
theorem dX1_left_11 : decode cX1_left 11 = .ok (.aload_n 0, 1) := by decide +kernel
theorem dX1_left_12 : decode cX1_left 12 = .ok (.getfield 11, 3) := by decide +kernel
theorem dX1_left_15 : decode cX1_left 15 = .ok (.iload_n 1, 1) := by decide +kernel
theorem dX1_left_16 : decode cX1_left 16 = .ok (.aaload, 1) := by decide +kernel
theorem dX1_left_17 : decode cX1_left 17 = .ok (.getfield 184, 3) := by decide +kernel
theorem dX1_left_20 : decode cX1_left 20 = .ok (.isub, 1) := by decide +kernel
theorem dX1_left_21 : decode cX1_left 21 = .ok (.ireturn, 1) := by decide +kernel
theorem dX1_longestAgo_0 : decode cX1_longestAgo 0 = .ok (.bipush (-4), 2) := by decide +kernel
theorem dX1_longestAgo_2 : decode cX1_longestAgo 2 = .ok (.istore_n 2, 1) := by decide +kernel
theorem dX1_longestAgo_3 : decode cX1_longestAgo 3 = .ok (.iconst 0, 1) := by decide +kernel
theorem dX1_longestAgo_4 : decode cX1_longestAgo 4 = .ok (.istore_n 3, 1) := by decide +kernel
theorem dX1_longestAgo_5 : decode cX1_longestAgo 5 = .ok (.iload_n 3, 1) := by decide +kernel
theorem dX1_longestAgo_6 : decode cX1_longestAgo 6 = .ok (.aload_n 0, 1) := by decide +kernel
theorem dX1_longestAgo_7 : decode cX1_longestAgo 7 = .ok (.getfield 58, 3) := by decide +kernel
theorem dX1_longestAgo_10 : decode cX1_longestAgo 10 = .ok (.getfield 64, 3) := by decide +kernel
theorem dX1_longestAgo_13 : decode cX1_longestAgo 13 = .ok (.if_icmp .ge 46, 3) := by decide +kernel
theorem dX1_longestAgo_16 : decode cX1_longestAgo 16 = .ok (.iload_n 3, 1) := by decide +kernel
theorem dX1_longestAgo_17 : decode cX1_longestAgo 17 = .ok (.iload_n 1, 1) := by decide +kernel
theorem dX1_longestAgo_18 : decode cX1_longestAgo 18 = .ok (.invokestatic 117, 3) := by decide +kernel
theorem dX1_longestAgo_21 : decode cX1_longestAgo 21 = .ok (.ifCond .eq 32, 3) := by decide +kernel
theorem dX1_longestAgo_24 : decode cX1_longestAgo 24 = .ok (.iload_n 2, 1) := by decide +kernel
theorem dX1_longestAgo_25 : decode cX1_longestAgo 25 = .ok (.bipush (-4), 2) := by decide +kernel
theorem dX1_longestAgo_27 : decode cX1_longestAgo 27 = .ok (.if_icmp .eq 24, 3) := by decide +kernel
theorem dX1_longestAgo_30 : decode cX1_longestAgo 30 = .ok (.aload_n 0, 1) := by decide +kernel
theorem dX1_longestAgo_31 : decode cX1_longestAgo 31 = .ok (.getfield 11, 3) := by decide +kernel
theorem dX1_longestAgo_34 : decode cX1_longestAgo 34 = .ok (.iload_n 3, 1) := by decide +kernel
theorem dX1_longestAgo_35 : decode cX1_longestAgo 35 = .ok (.aaload, 1) := by decide +kernel
theorem dX1_longestAgo_36 : decode cX1_longestAgo 36 = .ok (.getfield 74, 3) := by decide +kernel
theorem dX1_longestAgo_39 : decode cX1_longestAgo 39 = .ok (.aload_n 0, 1) := by decide +kernel
theorem dX1_longestAgo_40 : decode cX1_longestAgo 40 = .ok (.getfield 11, 3) := by decide +kernel
theorem dX1_longestAgo_43 : decode cX1_longestAgo 43 = .ok (.iload_n 2, 1) := by decide +kernel
theorem dX1_longestAgo_44 : decode cX1_longestAgo 44 = .ok (.aaload, 1) := by decide +kernel
theorem dX1_longestAgo_45 : decode cX1_longestAgo 45 = .ok (.getfield 74, 3) := by decide +kernel
theorem dX1_longestAgo_48 : decode cX1_longestAgo 48 = .ok (.if_icmp .ge 5, 3) := by decide +kernel
theorem dX1_longestAgo_51 : decode cX1_longestAgo 51 = .ok (.iload_n 3, 1) := by decide +kernel
theorem dX1_longestAgo_52 : decode cX1_longestAgo 52 = .ok (.istore_n 2, 1) := by decide +kernel
theorem dX1_longestAgo_53 : decode cX1_longestAgo 53 = .ok (.iinc 3 1, 3) := by decide +kernel
theorem dX1_longestAgo_56 : decode cX1_longestAgo 56 = .ok (.goto (-51), 3) := by decide +kernel
theorem dX1_longestAgo_59 : decode cX1_longestAgo 59 = .ok (.iload_n 2, 1) := by decide +kernel
theorem dX1_longestAgo_60 : decode cX1_longestAgo 60 = .ok (.ireturn, 1) := by decide +kernel
theorem dX1_nextChange_0 : decode cX1_nextChange 0 = .ok (.sipush 240, 3) := by decide +kernel
theorem dX1_nextChange_3 : decode cX1_nextChange 3 = .ok (.istore_n 2, 1) := by decide +kernel
theorem dX1_nextChange_4 : decode cX1_nextChange 4 = .ok (.iconst 0, 1) := by decide +kernel
theorem dX1_nextChange_5 : decode cX1_nextChange 5 = .ok (.istore_n 3, 1) := by decide +kernel
theorem dX1_nextChange_6 : decode cX1_nextChange 6 = .ok (.iload_n 3, 1) := by decide +kernel
theorem dX1_nextChange_7 : decode cX1_nextChange 7 = .ok (.aload_n 0, 1) := by decide +kernel
theorem dX1_nextChange_8 : decode cX1_nextChange 8 = .ok (.getfield 58, 3) := by decide +kernel
theorem dX1_nextChange_11 : decode cX1_nextChange 11 = .ok (.getfield 64, 3) := by decide +kernel
theorem dX1_nextChange_14 : decode cX1_nextChange 14 = .ok (.if_icmp .ge 66, 3) := by decide +kernel
theorem dX1_nextChange_17 : decode cX1_nextChange 17 = .ok (.iload_n 2, 1) := by decide +kernel
theorem dX1_nextChange_18 : decode cX1_nextChange 18 = .ok (.aload_n 0, 1) := by decide +kernel
theorem dX1_nextChange_19 : decode cX1_nextChange 19 = .ok (.getfield 58, 3) := by decide +kernel
theorem dX1_nextChange_22 : decode cX1_nextChange 22 = .ok (.getfield 67, 3) := by decide +kernel
theorem dX1_nextChange_25 : decode cX1_nextChange 25 = .ok (.iconst 0, 1) := by decide +kernel
theorem dX1_nextChange_26 : decode cX1_nextChange 26 = .ok (.aaload, 1) := by decide +kernel
theorem dX1_nextChange_27 : decode cX1_nextChange 27 = .ok (.iload_n 3, 1) := by decide +kernel
theorem dX1_nextChange_28 : decode cX1_nextChange 28 = .ok (.iaload, 1) := by decide +kernel
theorem dX1_nextChange_29 : decode cX1_nextChange 29 = .ok (.iload_n 1, 1) := by decide +kernel
theorem dX1_nextChange_30 : decode cX1_nextChange 30 = .ok (.invokestatic 121, 3) := by decide +kernel
theorem dX1_nextChange_33 : decode cX1_nextChange 33 = .ok (.istore_n 2, 1) := by decide +kernel
theorem dX1_nextChange_34 : decode cX1_nextChange 34 = .ok (.iload_n 2, 1) := by decide +kernel
theorem dX1_nextChange_35 : decode cX1_nextChange 35 = .ok (.aload_n 0, 1) := by decide +kernel
theorem dX1_nextChange_36 : decode cX1_nextChange 36 = .ok (.getfield 58, 3) := by decide +kernel
theorem dX1_nextChange_39 : decode cX1_nextChange 39 = .ok (.getfield 67, 3) := by decide +kernel
theorem dX1_nextChange_42 : decode cX1_nextChange 42 = .ok (.iconst 1, 1) := by decide +kernel
theorem dX1_nextChange_43 : decode cX1_nextChange 43 = .ok (.aaload, 1) := by decide +kernel
theorem dX1_nextChange_44 : decode cX1_nextChange 44 = .ok (.iload_n 3, 1) := by decide +kernel
theorem dX1_nextChange_45 : decode cX1_nextChange 45 = .ok (.iaload, 1) := by decide +kernel
theorem dX1_nextChange_46 : decode cX1_nextChange 46 = .ok (.iload_n 1, 1) := by decide +kernel
theorem dX1_nextChange_47 : decode cX1_nextChange 47 = .ok (.invokestatic 121, 3) := by decide +kernel
theorem dX1_nextChange_50 : decode cX1_nextChange 50 = .ok (.istore_n 2, 1) := by decide +kernel
theorem dX1_nextChange_51 : decode cX1_nextChange 51 = .ok (.aload_n 0, 1) := by decide +kernel
theorem dX1_nextChange_52 : decode cX1_nextChange 52 = .ok (.iload_n 3, 1) := by decide +kernel
theorem dX1_nextChange_53 : decode cX1_nextChange 53 = .ok (.invokevirtual 108, 3) := by decide +kernel
theorem dX1_nextChange_56 : decode cX1_nextChange 56 = .ok (.ifCond .eq 18, 3) := by decide +kernel
theorem dX1_nextChange_59 : decode cX1_nextChange 59 = .ok (.iload_n 2, 1) := by decide +kernel
theorem dX1_nextChange_60 : decode cX1_nextChange 60 = .ok (.aload_n 0, 1) := by decide +kernel
theorem dX1_nextChange_61 : decode cX1_nextChange 61 = .ok (.getfield 11, 3) := by decide +kernel
theorem dX1_nextChange_64 : decode cX1_nextChange 64 = .ok (.iload_n 3, 1) := by decide +kernel
theorem dX1_nextChange_65 : decode cX1_nextChange 65 = .ok (.aaload, 1) := by decide +kernel
theorem dX1_nextChange_66 : decode cX1_nextChange 66 = .ok (.getfield 111, 3) := by decide +kernel
theorem dX1_nextChange_69 : decode cX1_nextChange 69 = .ok (.iload_n 1, 1) := by decide +kernel
theorem dX1_nextChange_70 : decode cX1_nextChange 70 = .ok (.invokestatic 121, 3) := by decide +kernel
theorem dX1_nextChange_73 : decode cX1_nextChange 73 = .ok (.istore_n 2, 1) := by decide +kernel
theorem dX1_nextChange_74 : decode cX1_nextChange 74 = .ok (.iinc 3 1, 3) := by decide +kernel
theorem dX1_nextChange_77 : decode cX1_nextChange 77 = .ok (.goto (-71), 3) := by decide +kernel
theorem dX1_nextChange_80 : decode cX1_nextChange 80 = .ok (.iload_n 2, 1) := by decide +kernel
theorem dX1_nextChange_81 : decode cX1_nextChange 81 = .ok (.ireturn, 1) := by decide +kernel
theorem dX1_note_0 : decode cX1_note 0 = .ok (.aload_n 0, 1) := by decide +kernel
theorem dX1_note_1 : decode cX1_note 1 = .ok (.getfield 23, 3) := by decide +kernel
theorem dX1_note_4 : decode cX1_note 4 = .ok (.bipush 40, 2) := by decide +kernel
theorem dX1_note_6 : decode cX1_note 6 = .ok (.if_icmp .lt 4, 3) := by decide +kernel
theorem dX1_note_9 : decode cX1_note 9 = .ok (.return_, 1) := by decide +kernel
theorem dX1_note_10 : decode cX1_note 10 = .ok (.aload_n 0, 1) := by decide +kernel
theorem dX1_note_11 : decode cX1_note 11 = .ok (.getfield 19, 3) := by decide +kernel
theorem dX1_note_14 : decode cX1_note 14 = .ok (.aload_n 0, 1) := by decide +kernel
theorem dX1_note_15 : decode cX1_note 15 = .ok (.getfield 23, 3) := by decide +kernel
theorem dX1_note_18 : decode cX1_note 18 = .ok (.aaload, 1) := by decide +kernel
theorem dX1_note_19 : decode cX1_note 19 = .ok (.astore 5, 2) := by decide +kernel
theorem dX1_note_21 : decode cX1_note 21 = .ok (.aload 5, 2) := by decide +kernel
theorem dX1_note_23 : decode cX1_note 23 = .ok (.iload_n 1, 1) := by decide +kernel
theorem dX1_note_24 : decode cX1_note 24 = .ok (.putfield 167, 3) := by decide +kernel
theorem dX1_note_27 : decode cX1_note 27 = .ok (.aload 5, 2) := by decide +kernel
theorem dX1_note_29 : decode cX1_note 29 = .ok (.iload_n 2, 1) := by decide +kernel
theorem dX1_note_30 : decode cX1_note 30 = .ok (.putfield 170, 3) := by decide +kernel
theorem dX1_note_33 : decode cX1_note 33 = .ok (.aload 5, 2) := by decide +kernel
theorem dX1_note_35 : decode cX1_note 35 = .ok (.iload_n 3, 1) := by decide +kernel
theorem dX1_note_36 : decode cX1_note 36 = .ok (.putfield 173, 3) := by decide +kernel
theorem dX1_note_39 : decode cX1_note 39 = .ok (.aload 5, 2) := by decide +kernel
theorem dX1_note_41 : decode cX1_note 41 = .ok (.iload 4, 2) := by decide +kernel
theorem dX1_note_43 : decode cX1_note 43 = .ok (.putfield 174, 3) := by decide +kernel
theorem dX1_note_46 : decode cX1_note 46 = .ok (.aload 5, 2) := by decide +kernel
theorem dX1_note_48 : decode cX1_note 48 = .ok (.aload_n 0, 1) := by decide +kernel
theorem dX1_note_49 : decode cX1_note 49 = .ok (.getfield 52, 3) := by decide +kernel
theorem dX1_note_52 : decode cX1_note 52 = .ok (.putfield 177, 3) := by decide +kernel
theorem dX1_note_55 : decode cX1_note 55 = .ok (.aload_n 0, 1) := by decide +kernel
theorem dX1_note_56 : decode cX1_note 56 = .ok (.dup, 1) := by decide +kernel
theorem dX1_note_57 : decode cX1_note 57 = .ok (.getfield 23, 3) := by decide +kernel
theorem dX1_note_60 : decode cX1_note 60 = .ok (.iconst 1, 1) := by decide +kernel
theorem dX1_note_61 : decode cX1_note 61 = .ok (.iadd, 1) := by decide +kernel
theorem dX1_note_62 : decode cX1_note 62 = .ok (.putfield 23, 3) := by decide +kernel
theorem dX1_note_65 : decode cX1_note 65 = .ok (.aload_n 0, 1) := by decide +kernel
theorem dX1_note_66 : decode cX1_note 66 = .ok (.dup, 1) := by decide +kernel
theorem dX1_note_67 : decode cX1_note 67 = .ok (.getfield 49, 3) := by decide +kernel
theorem dX1_note_70 : decode cX1_note 70 = .ok (.iconst 1, 1) := by decide +kernel
theorem dX1_note_71 : decode cX1_note 71 = .ok (.iadd, 1) := by decide +kernel
theorem dX1_note_72 : decode cX1_note 72 = .ok (.putfield 49, 3) := by decide +kernel
theorem dX1_note_75 : decode cX1_note 75 = .ok (.aload_n 0, 1) := by decide +kernel
theorem dX1_note_76 : decode cX1_note 76 = .ok (.dup, 1) := by decide +kernel
theorem dX1_note_77 : decode cX1_note 77 = .ok (.getfield 27, 3) := by decide +kernel
theorem dX1_note_80 : decode cX1_note 80 = .ok (.iload_n 3, 1) := by decide +kernel
theorem dX1_note_81 : decode cX1_note 81 = .ok (.iadd, 1) := by decide +kernel
theorem dX1_note_82 : decode cX1_note 82 = .ok (.putfield 27, 3) := by decide +kernel
theorem dX1_note_85 : decode cX1_note 85 = .ok (.return_, 1) := by decide +kernel
theorem dX1_numberOf_0 : decode cX1_numberOf 0 = .ok (.iconst 0, 1) := by decide +kernel
theorem dX1_numberOf_1 : decode cX1_numberOf 1 = .ok (.istore_n 3, 1) := by decide +kernel
theorem dX1_numberOf_2 : decode cX1_numberOf 2 = .ok (.iconst 0, 1) := by decide +kernel
theorem dX1_numberOf_3 : decode cX1_numberOf 3 = .ok (.istore 4, 2) := by decide +kernel
theorem dX1_numberOf_5 : decode cX1_numberOf 5 = .ok (.iload 4, 2) := by decide +kernel
theorem dX1_numberOf_7 : decode cX1_numberOf 7 = .ok (.bipush 8, 2) := by decide +kernel
theorem dX1_numberOf_9 : decode cX1_numberOf 9 = .ok (.if_icmp .ge 29, 3) := by decide +kernel
theorem dX1_numberOf_12 : decode cX1_numberOf 12 = .ok (.iload 4, 2) := by decide +kernel
theorem dX1_numberOf_14 : decode cX1_numberOf 14 = .ok (.iload_n 1, 1) := by decide +kernel
theorem dX1_numberOf_15 : decode cX1_numberOf 15 = .ok (.invokestatic 117, 3) := by decide +kernel
theorem dX1_numberOf_18 : decode cX1_numberOf 18 = .ok (.ifCond .eq 14, 3) := by decide +kernel
theorem dX1_numberOf_21 : decode cX1_numberOf 21 = .ok (.iload_n 3, 1) := by decide +kernel
theorem dX1_numberOf_22 : decode cX1_numberOf 22 = .ok (.iload_n 2, 1) := by decide +kernel
theorem dX1_numberOf_23 : decode cX1_numberOf 23 = .ok (.if_icmp .ne 6, 3) := by decide +kernel
theorem dX1_numberOf_26 : decode cX1_numberOf 26 = .ok (.iload 4, 2) := by decide +kernel
theorem dX1_numberOf_28 : decode cX1_numberOf 28 = .ok (.ireturn, 1) := by decide +kernel
theorem dX1_numberOf_29 : decode cX1_numberOf 29 = .ok (.iinc 3 1, 3) := by decide +kernel
theorem dX1_numberOf_32 : decode cX1_numberOf 32 = .ok (.iinc 4 1, 3) := by decide +kernel
theorem dX1_numberOf_35 : decode cX1_numberOf 35 = .ok (.goto (-30), 3) := by decide +kernel
theorem dX1_numberOf_38 : decode cX1_numberOf 38 = .ok (.bipush (-4), 2) := by decide +kernel
theorem dX1_numberOf_40 : decode cX1_numberOf 40 = .ok (.ireturn, 1) := by decide +kernel
theorem dX1_open_0 : decode cX1_open 0 = .ok (.aload_n 0, 1) := by decide +kernel
theorem dX1_open_1 : decode cX1_open 1 = .ok (.iload_n 1, 1) := by decide +kernel
theorem dX1_open_2 : decode cX1_open 2 = .ok (.putfield 39, 3) := by decide +kernel
theorem dX1_open_5 : decode cX1_open 5 = .ok (.aload_n 0, 1) := by decide +kernel
theorem dX1_open_6 : decode cX1_open 6 = .ok (.iload_n 2, 1) := by decide +kernel
theorem dX1_open_7 : decode cX1_open 7 = .ok (.putfield 36, 3) := by decide +kernel
theorem dX1_open_10 : decode cX1_open 10 = .ok (.aload_n 0, 1) := by decide +kernel
theorem dX1_open_11 : decode cX1_open 11 = .ok (.iconst 1, 1) := by decide +kernel
theorem dX1_open_12 : decode cX1_open 12 = .ok (.putfield 42, 3) := by decide +kernel
theorem dX1_open_15 : decode cX1_open 15 = .ok (.aload_n 0, 1) := by decide +kernel
theorem dX1_open_16 : decode cX1_open 16 = .ok (.bipush 7, 2) := by decide +kernel
theorem dX1_open_18 : decode cX1_open 18 = .ok (.putfield 46, 3) := by decide +kernel
theorem dX1_open_21 : decode cX1_open 21 = .ok (.aload_n 0, 1) := by decide +kernel
theorem dX1_open_22 : decode cX1_open 22 = .ok (.iconst 0, 1) := by decide +kernel
theorem dX1_open_23 : decode cX1_open 23 = .ok (.putfield 49, 3) := by decide +kernel
theorem dX1_open_26 : decode cX1_open 26 = .ok (.iconst 0, 1) := by decide +kernel
theorem dX1_open_27 : decode cX1_open 27 = .ok (.istore_n 3, 1) := by decide +kernel
theorem dX1_open_28 : decode cX1_open 28 = .ok (.iload_n 3, 1) := by decide +kernel
theorem dX1_open_29 : decode cX1_open 29 = .ok (.aload_n 0, 1) := by decide +kernel
theorem dX1_open_30 : decode cX1_open 30 = .ok (.getfield 58, 3) := by decide +kernel
theorem dX1_open_33 : decode cX1_open 33 = .ok (.getfield 64, 3) := by decide +kernel
theorem dX1_open_36 : decode cX1_open 36 = .ok (.if_icmp .ge 40, 3) := by decide +kernel
theorem dX1_open_39 : decode cX1_open 39 = .ok (.aload_n 0, 1) := by decide +kernel
theorem dX1_open_40 : decode cX1_open 40 = .ok (.getfield 11, 3) := by decide +kernel
theorem dX1_open_43 : decode cX1_open 43 = .ok (.iload_n 3, 1) := by decide +kernel
theorem dX1_open_44 : decode cX1_open 44 = .ok (.aaload, 1) := by decide +kernel
theorem dX1_open_45 : decode cX1_open 45 = .ok (.aload_n 0, 1) := by decide +kernel
theorem dX1_open_46 : decode cX1_open 46 = .ok (.getfield 58, 3) := by decide +kernel
theorem dX1_open_49 : decode cX1_open 49 = .ok (.getfield 67, 3) := by decide +kernel
theorem dX1_open_52 : decode cX1_open 52 = .ok (.bipush 7, 2) := by decide +kernel
theorem dX1_open_54 : decode cX1_open 54 = .ok (.aaload, 1) := by decide +kernel
theorem dX1_open_55 : decode cX1_open 55 = .ok (.iload_n 3, 1) := by decide +kernel
theorem dX1_open_56 : decode cX1_open 56 = .ok (.iaload, 1) := by decide +kernel
theorem dX1_open_57 : decode cX1_open 57 = .ok (.putfield 71, 3) := by decide +kernel
theorem dX1_open_60 : decode cX1_open 60 = .ok (.aload_n 0, 1) := by decide +kernel
theorem dX1_open_61 : decode cX1_open 61 = .ok (.getfield 11, 3) := by decide +kernel
theorem dX1_open_64 : decode cX1_open 64 = .ok (.iload_n 3, 1) := by decide +kernel
theorem dX1_open_65 : decode cX1_open 65 = .ok (.aaload, 1) := by decide +kernel
theorem dX1_open_66 : decode cX1_open 66 = .ok (.iconst 0, 1) := by decide +kernel
theorem dX1_open_67 : decode cX1_open 67 = .ok (.putfield 74, 3) := by decide +kernel
theorem dX1_open_70 : decode cX1_open 70 = .ok (.iinc 3 1, 3) := by decide +kernel
theorem dX1_open_73 : decode cX1_open 73 = .ok (.goto (-45), 3) := by decide +kernel
theorem dX1_open_76 : decode cX1_open 76 = .ok (.return_, 1) := by decide +kernel
theorem dX1_openWithoutPurses_0 : decode cX1_openWithoutPurses 0 = .ok (.aload_n 0, 1) := by decide +kernel
theorem dX1_openWithoutPurses_1 : decode cX1_openWithoutPurses 1 = .ok (.iconst 0, 1) := by decide +kernel
theorem dX1_openWithoutPurses_2 : decode cX1_openWithoutPurses 2 = .ok (.iconst 0, 1) := by decide +kernel
theorem dX1_openWithoutPurses_3 : decode cX1_openWithoutPurses 3 = .ok (.invokevirtual 77, 3) := by decide +kernel
theorem dX1_openWithoutPurses_6 : decode cX1_openWithoutPurses 6 = .ok (.aload_n 0, 1) := by decide +kernel
theorem dX1_openWithoutPurses_7 : decode cX1_openWithoutPurses 7 = .ok (.iconst 0, 1) := by decide +kernel
theorem dX1_openWithoutPurses_8 : decode cX1_openWithoutPurses 8 = .ok (.putfield 42, 3) := by decide +kernel
theorem dX1_openWithoutPurses_11 : decode cX1_openWithoutPurses 11 = .ok (.return_, 1) := by decide +kernel
theorem dX1_pay_0 : decode cX1_pay 0 = .ok (.aload_n 0, 1) := by decide +kernel
theorem dX1_pay_1 : decode cX1_pay 1 = .ok (.getfield 11, 3) := by decide +kernel
theorem dX1_pay_4 : decode cX1_pay 4 = .ok (.iload_n 1, 1) := by decide +kernel
theorem dX1_pay_5 : decode cX1_pay 5 = .ok (.aaload, 1) := by decide +kernel
theorem dX1_pay_6 : decode cX1_pay 6 = .ok (.dup, 1) := by decide +kernel
theorem dX1_pay_7 : decode cX1_pay 7 = .ok (.getfield 184, 3) := by decide +kernel
theorem dX1_pay_10 : decode cX1_pay 10 = .ok (.iload_n 2, 1) := by decide +kernel
theorem dX1_pay_11 : decode cX1_pay 11 = .ok (.iadd, 1) := by decide +kernel
theorem dX1_pay_12 : decode cX1_pay 12 = .ok (.putfield 184, 3) := by decide +kernel
theorem dX1_pay_15 : decode cX1_pay 15 = .ok (.aload_n 0, 1) := by decide +kernel
theorem dX1_pay_16 : decode cX1_pay 16 = .ok (.getfield 11, 3) := by decide +kernel
theorem dX1_pay_19 : decode cX1_pay 19 = .ok (.iload_n 1, 1) := by decide +kernel
theorem dX1_pay_20 : decode cX1_pay 20 = .ok (.aaload, 1) := by decide +kernel
theorem dX1_pay_21 : decode cX1_pay 21 = .ok (.dup, 1) := by decide +kernel
theorem dX1_pay_22 : decode cX1_pay 22 = .ok (.getfield 187, 3) := by decide +kernel
theorem dX1_pay_25 : decode cX1_pay 25 = .ok (.iconst 1, 1) := by decide +kernel
theorem dX1_pay_26 : decode cX1_pay 26 = .ok (.iadd, 1) := by decide +kernel
theorem dX1_pay_27 : decode cX1_pay 27 = .ok (.putfield 187, 3) := by decide +kernel
theorem dX1_pay_30 : decode cX1_pay 30 = .ok (.aload_n 0, 1) := by decide +kernel
theorem dX1_pay_31 : decode cX1_pay 31 = .ok (.getfield 11, 3) := by decide +kernel
theorem dX1_pay_34 : decode cX1_pay 34 = .ok (.iload_n 1, 1) := by decide +kernel
theorem dX1_pay_35 : decode cX1_pay 35 = .ok (.aaload, 1) := by decide +kernel
theorem dX1_pay_36 : decode cX1_pay 36 = .ok (.aload_n 0, 1) := by decide +kernel
theorem dX1_pay_37 : decode cX1_pay 37 = .ok (.getfield 49, 3) := by decide +kernel
theorem dX1_pay_40 : decode cX1_pay 40 = .ok (.putfield 74, 3) := by decide +kernel
theorem dX1_pay_43 : decode cX1_pay 43 = .ok (.aload_n 0, 1) := by decide +kernel
theorem dX1_pay_44 : decode cX1_pay 44 = .ok (.iload_n 1, 1) := by decide +kernel
theorem dX1_pay_45 : decode cX1_pay 45 = .ok (.putfield 46, 3) := by decide +kernel
theorem dX1_pay_48 : decode cX1_pay 48 = .ok (.return_, 1) := by decide +kernel
theorem dX1_payOwn_0 : decode cX1_payOwn 0 = .ok (.iconst 0, 1) := by decide +kernel
theorem dX1_payOwn_1 : decode cX1_payOwn 1 = .ok (.istore_n 2, 1) := by decide +kernel
theorem dX1_payOwn_2 : decode cX1_payOwn 2 = .ok (.iload_n 2, 1) := by decide +kernel
theorem dX1_payOwn_3 : decode cX1_payOwn 3 = .ok (.aload_n 0, 1) := by decide +kernel
theorem dX1_payOwn_4 : decode cX1_payOwn 4 = .ok (.getfield 58, 3) := by decide +kernel
theorem dX1_payOwn_7 : decode cX1_payOwn 7 = .ok (.getfield 64, 3) := by decide +kernel
theorem dX1_payOwn_10 : decode cX1_payOwn 10 = .ok (.if_icmp .ge 42, 3) := by decide +kernel
theorem dX1_payOwn_13 : decode cX1_payOwn 13 = .ok (.iload_n 2, 1) := by decide +kernel
theorem dX1_payOwn_14 : decode cX1_payOwn 14 = .ok (.iload_n 1, 1) := by decide +kernel
theorem dX1_payOwn_15 : decode cX1_payOwn 15 = .ok (.invokestatic 117, 3) := by decide +kernel
theorem dX1_payOwn_18 : decode cX1_payOwn 18 = .ok (.ifCond .eq 28, 3) := by decide +kernel
theorem dX1_payOwn_21 : decode cX1_payOwn 21 = .ok (.aload_n 0, 1) := by decide +kernel
theorem dX1_payOwn_22 : decode cX1_payOwn 22 = .ok (.getfield 11, 3) := by decide +kernel
theorem dX1_payOwn_25 : decode cX1_payOwn 25 = .ok (.iload_n 2, 1) := by decide +kernel
theorem dX1_payOwn_26 : decode cX1_payOwn 26 = .ok (.aaload, 1) := by decide +kernel
theorem dX1_payOwn_27 : decode cX1_payOwn 27 = .ok (.dup, 1) := by decide +kernel
theorem dX1_payOwn_28 : decode cX1_payOwn 28 = .ok (.getfield 184, 3) := by decide +kernel
theorem dX1_payOwn_31 : decode cX1_payOwn 31 = .ok (.aload_n 0, 1) := by decide +kernel
theorem dX1_payOwn_32 : decode cX1_payOwn 32 = .ok (.getfield 58, 3) := by decide +kernel
theorem dX1_payOwn_35 : decode cX1_payOwn 35 = .ok (.getfield 67, 3) := by decide +kernel
theorem dX1_payOwn_38 : decode cX1_payOwn 38 = .ok (.iconst 2, 1) := by decide +kernel
theorem dX1_payOwn_39 : decode cX1_payOwn 39 = .ok (.aaload, 1) := by decide +kernel
theorem dX1_payOwn_40 : decode cX1_payOwn 40 = .ok (.iload_n 2, 1) := by decide +kernel
theorem dX1_payOwn_41 : decode cX1_payOwn 41 = .ok (.iaload, 1) := by decide +kernel
theorem dX1_payOwn_42 : decode cX1_payOwn 42 = .ok (.iadd, 1) := by decide +kernel
theorem dX1_payOwn_43 : decode cX1_payOwn 43 = .ok (.putfield 184, 3) := by decide +kernel
theorem dX1_payOwn_46 : decode cX1_payOwn 46 = .ok (.iinc 2 1, 3) := by decide +kernel
theorem dX1_payOwn_49 : decode cX1_payOwn 49 = .ok (.goto (-47), 3) := by decide +kernel
theorem dX1_payOwn_52 : decode cX1_payOwn 52 = .ok (.return_, 1) := by decide +kernel
theorem dX1_play_0 : decode cX1_play 0 = .ok (.aload_n 0, 1) := by decide +kernel
theorem dX1_play_1 : decode cX1_play 1 = .ok (.invokevirtual 85, 3) := by decide +kernel
theorem dX1_play_4 : decode cX1_play 4 = .ok (.iconst 0, 1) := by decide +kernel
theorem dX1_play_5 : decode cX1_play 5 = .ok (.istore_n 1, 1) := by decide +kernel
theorem dX1_play_6 : decode cX1_play 6 = .ok (.iconst 0, 1) := by decide +kernel
theorem dX1_play_7 : decode cX1_play 7 = .ok (.istore_n 2, 1) := by decide +kernel
theorem dX1_play_8 : decode cX1_play 8 = .ok (.iconst 0, 1) := by decide +kernel
theorem dX1_play_9 : decode cX1_play 9 = .ok (.istore_n 3, 1) := by decide +kernel
theorem dX1_play_10 : decode cX1_play 10 = .ok (.iload_n 3, 1) := by decide +kernel
theorem dX1_play_11 : decode cX1_play 11 = .ok (.sipush 240, 3) := by decide +kernel
theorem dX1_play_14 : decode cX1_play 14 = .ok (.if_icmp .ge 92, 3) := by decide +kernel
theorem dX1_play_17 : decode cX1_play 17 = .ok (.iload_n 3, 1) := by decide +kernel
theorem dX1_play_18 : decode cX1_play 18 = .ok (.iload_n 1, 1) := by decide +kernel
theorem dX1_play_19 : decode cX1_play 19 = .ok (.if_icmp .lt 67, 3) := by decide +kernel
theorem dX1_play_22 : decode cX1_play 22 = .ok (.aload_n 0, 1) := by decide +kernel
theorem dX1_play_23 : decode cX1_play 23 = .ok (.iload_n 3, 1) := by decide +kernel
theorem dX1_play_24 : decode cX1_play 24 = .ok (.invokevirtual 88, 3) := by decide +kernel
theorem dX1_play_27 : decode cX1_play 27 = .ok (.aload_n 0, 1) := by decide +kernel
theorem dX1_play_28 : decode cX1_play 28 = .ok (.invokevirtual 92, 3) := by decide +kernel
theorem dX1_play_31 : decode cX1_play 31 = .ok (.istore 4, 2) := by decide +kernel
theorem dX1_play_33 : decode cX1_play 33 = .ok (.iload 4, 2) := by decide +kernel
theorem dX1_play_35 : decode cX1_play 35 = .ok (.ifCond .eq 15, 3) := by decide +kernel
theorem dX1_play_38 : decode cX1_play 38 = .ok (.aload_n 0, 1) := by decide +kernel
theorem dX1_play_39 : decode cX1_play 39 = .ok (.iload_n 3, 1) := by decide +kernel
theorem dX1_play_40 : decode cX1_play 40 = .ok (.invokevirtual 96, 3) := by decide +kernel
theorem dX1_play_43 : decode cX1_play 43 = .ok (.ifCond .eq 7, 3) := by decide +kernel
theorem dX1_play_46 : decode cX1_play 46 = .ok (.iconst 1, 1) := by decide +kernel
theorem dX1_play_47 : decode cX1_play 47 = .ok (.goto 4, 3) := by decide +kernel
theorem dX1_play_50 : decode cX1_play 50 = .ok (.iconst 0, 1) := by decide +kernel
theorem dX1_play_51 : decode cX1_play 51 = .ok (.istore 5, 2) := by decide +kernel
theorem dX1_play_53 : decode cX1_play 53 = .ok (.iload 4, 2) := by decide +kernel
theorem dX1_play_55 : decode cX1_play 55 = .ok (.ifCond .eq 12, 3) := by decide +kernel
theorem dX1_play_58 : decode cX1_play 58 = .ok (.iload 5, 2) := by decide +kernel
theorem dX1_play_60 : decode cX1_play 60 = .ok (.ifCond .ne 7, 3) := by decide +kernel
theorem dX1_play_63 : decode cX1_play 63 = .ok (.iconst 1, 1) := by decide +kernel
theorem dX1_play_64 : decode cX1_play 64 = .ok (.goto 4, 3) := by decide +kernel
theorem dX1_play_67 : decode cX1_play 67 = .ok (.iconst 0, 1) := by decide +kernel
theorem dX1_play_68 : decode cX1_play 68 = .ok (.istore_n 2, 1) := by decide +kernel
theorem dX1_play_69 : decode cX1_play 69 = .ok (.iload 5, 2) := by decide +kernel
theorem dX1_play_71 : decode cX1_play 71 = .ok (.ifCond .eq 9, 3) := by decide +kernel
theorem dX1_play_74 : decode cX1_play 74 = .ok (.iload_n 3, 1) := by decide +kernel
theorem dX1_play_75 : decode cX1_play 75 = .ok (.iconst 1, 1) := by decide +kernel
theorem dX1_play_76 : decode cX1_play 76 = .ok (.iadd, 1) := by decide +kernel
theorem dX1_play_77 : decode cX1_play 77 = .ok (.goto 8, 3) := by decide +kernel
theorem dX1_play_80 : decode cX1_play 80 = .ok (.aload_n 0, 1) := by decide +kernel
theorem dX1_play_81 : decode cX1_play 81 = .ok (.iload_n 3, 1) := by decide +kernel
theorem dX1_play_82 : decode cX1_play 82 = .ok (.invokevirtual 100, 3) := by decide +kernel
theorem dX1_play_85 : decode cX1_play 85 = .ok (.istore_n 1, 1) := by decide +kernel
theorem dX1_play_86 : decode cX1_play 86 = .ok (.iload_n 2, 1) := by decide +kernel
theorem dX1_play_87 : decode cX1_play 87 = .ok (.ifCond .eq 13, 3) := by decide +kernel
theorem dX1_play_90 : decode cX1_play 90 = .ok (.aload_n 0, 1) := by decide +kernel
theorem dX1_play_91 : decode cX1_play 91 = .ok (.dup, 1) := by decide +kernel
theorem dX1_play_92 : decode cX1_play 92 = .ok (.getfield 33, 3) := by decide +kernel
theorem dX1_play_95 : decode cX1_play 95 = .ok (.iconst 1, 1) := by decide +kernel
theorem dX1_play_96 : decode cX1_play 96 = .ok (.iadd, 1) := by decide +kernel
theorem dX1_play_97 : decode cX1_play 97 = .ok (.putfield 33, 3) := by decide +kernel
theorem dX1_play_100 : decode cX1_play 100 = .ok (.iinc 3 1, 3) := by decide +kernel
theorem dX1_play_103 : decode cX1_play 103 = .ok (.goto (-93), 3) := by decide +kernel
theorem dX1_play_106 : decode cX1_play 106 = .ok (.return_, 1) := by decide +kernel
