theorem dX12_layFree_0 : decode cX12_layFree 0 = .ok (.aload_n 0, 1) := by decide +kernel
theorem dX12_layFree_1 : decode cX12_layFree 1 = .ok (.iconst 1, 1) := by decide +kernel
theorem dX12_layFree_2 : decode cX12_layFree 2 = .ok (.putfield 218, 3) := by decide +kernel
theorem dX12_layFree_5 : decode cX12_layFree 5 = .ok (.aload_n 0, 1) := by decide +kernel
theorem dX12_layFree_6 : decode cX12_layFree 6 = .ok (.iconst 0, 1) := by decide +kernel
theorem dX12_layFree_7 : decode cX12_layFree 7 = .ok (.invokevirtual 272, 3) := by decide +kernel
theorem dX12_layFree_10 : decode cX12_layFree 10 = .ok (.aload_n 0, 1) := by decide +kernel
theorem dX12_layFree_11 : decode cX12_layFree 11 = .ok (.iconst 0, 1) := by decide +kernel
theorem dX12_layFree_12 : decode cX12_layFree 12 = .ok (.invokevirtual 275, 3) := by decide +kernel
theorem dX12_layFree_15 : decode cX12_layFree 15 = .ok (.aload_n 0, 1) := by decide +kernel
theorem dX12_layFree_16 : decode cX12_layFree 16 = .ok (.iconst 0, 1) := by decide +kernel
theorem dX12_layFree_17 : decode cX12_layFree 17 = .ok (.putfield 218, 3) := by decide +kernel
theorem dX12_layFree_20 : decode cX12_layFree 20 = .ok (.aload_n 0, 1) := by decide +kernel
theorem dX12_layFree_21 : decode cX12_layFree 21 = .ok (.getfield 206, 3) := by decide +kernel
theorem dX12_layFree_24 : decode cX12_layFree 24 = .ok (.ifCond .le 8, 3) := by decide +kernel
theorem dX12_layFree_27 : decode cX12_layFree 27 = .ok (.bipush (-4), 2) := by decide +kernel
theorem dX12_layFree_29 : decode cX12_layFree 29 = .ok (.goto 4, 3) := by decide +kernel
theorem dX12_layFree_32 : decode cX12_layFree 32 = .ok (.iconst 0, 1) := by decide +kernel
theorem dX12_layFree_33 : decode cX12_layFree 33 = .ok (.istore_n 1, 1) := by decide +kernel
theorem dX12_layFree_34 : decode cX12_layFree 34 = .ok (.iconst 0, 1) := by decide +kernel
theorem dX12_layFree_35 : decode cX12_layFree 35 = .ok (.istore_n 2, 1) := by decide +kernel
theorem dX12_layFree_36 : decode cX12_layFree 36 = .ok (.iload_n 2, 1) := by decide +kernel
theorem dX12_layFree_37 : decode cX12_layFree 37 = .ok (.aload_n 0, 1) := by decide +kernel
theorem dX12_layFree_38 : decode cX12_layFree 38 = .ok (.getfield 197, 3) := by decide +kernel
theorem dX12_layFree_41 : decode cX12_layFree 41 = .ok (.if_icmp .ge 79, 3) := by decide +kernel
theorem dX12_layFree_44 : decode cX12_layFree 44 = .ok (.aload_n 0, 1) := by decide +kernel
theorem dX12_layFree_45 : decode cX12_layFree 45 = .ok (.getfield 62, 3) := by decide +kernel
theorem dX12_layFree_48 : decode cX12_layFree 48 = .ok (.iload_n 2, 1) := by decide +kernel
theorem dX12_layFree_49 : decode cX12_layFree 49 = .ok (.iconst 0, 1) := by decide +kernel
theorem dX12_layFree_50 : decode cX12_layFree 50 = .ok (.iastore, 1) := by decide +kernel
theorem dX12_layFree_51 : decode cX12_layFree 51 = .ok (.iconst 0, 1) := by decide +kernel
theorem dX12_layFree_52 : decode cX12_layFree 52 = .ok (.istore_n 3, 1) := by decide +kernel
theorem dX12_layFree_53 : decode cX12_layFree 53 = .ok (.iload_n 3, 1) := by decide +kernel
theorem dX12_layFree_54 : decode cX12_layFree 54 = .ok (.aload_n 0, 1) := by decide +kernel
theorem dX12_layFree_55 : decode cX12_layFree 55 = .ok (.getfield 19, 3) := by decide +kernel
theorem dX12_layFree_58 : decode cX12_layFree 58 = .ok (.bipush 72, 2) := by decide +kernel
theorem dX12_layFree_60 : decode cX12_layFree 60 = .ok (.iaload, 1) := by decide +kernel
theorem dX12_layFree_61 : decode cX12_layFree 61 = .ok (.if_icmp .ge 53, 3) := by decide +kernel
theorem dX12_layFree_64 : decode cX12_layFree 64 = .ok (.aload_n 0, 1) := by decide +kernel
theorem dX12_layFree_65 : decode cX12_layFree 65 = .ok (.getfield 62, 3) := by decide +kernel
theorem dX12_layFree_68 : decode cX12_layFree 68 = .ok (.iload_n 2, 1) := by decide +kernel
theorem dX12_layFree_69 : decode cX12_layFree 69 = .ok (.dup2, 1) := by decide +kernel
theorem dX12_layFree_70 : decode cX12_layFree 70 = .ok (.iaload, 1) := by decide +kernel
theorem dX12_layFree_71 : decode cX12_layFree 71 = .ok (.aload_n 0, 1) := by decide +kernel
theorem dX12_layFree_72 : decode cX12_layFree 72 = .ok (.getfield 59, 3) := by decide +kernel
theorem dX12_layFree_75 : decode cX12_layFree 75 = .ok (.iconst 5, 1) := by decide +kernel
theorem dX12_layFree_76 : decode cX12_layFree 76 = .ok (.iload_n 2, 1) := by decide +kernel
theorem dX12_layFree_77 : decode cX12_layFree 77 = .ok (.imul, 1) := by decide +kernel
theorem dX12_layFree_78 : decode cX12_layFree 78 = .ok (.iconst 4, 1) := by decide +kernel
theorem dX12_layFree_79 : decode cX12_layFree 79 = .ok (.iadd, 1) := by decide +kernel
theorem dX12_layFree_80 : decode cX12_layFree 80 = .ok (.iaload, 1) := by decide +kernel
theorem dX12_layFree_81 : decode cX12_layFree 81 = .ok (.iload_n 3, 1) := by decide +kernel
theorem dX12_layFree_82 : decode cX12_layFree 82 = .ok (.ishr, 1) := by decide +kernel
theorem dX12_layFree_83 : decode cX12_layFree 83 = .ok (.iconst 1, 1) := by decide +kernel
theorem dX12_layFree_84 : decode cX12_layFree 84 = .ok (.iand, 1) := by decide +kernel
theorem dX12_layFree_85 : decode cX12_layFree 85 = .ok (.iconst 1, 1) := by decide +kernel
theorem dX12_layFree_86 : decode cX12_layFree 86 = .ok (.if_icmp .ne 19, 3) := by decide +kernel
theorem dX12_layFree_89 : decode cX12_layFree 89 = .ok (.aload_n 0, 1) := by decide +kernel
theorem dX12_layFree_90 : decode cX12_layFree 90 = .ok (.iload_n 3, 1) := by decide +kernel
theorem dX12_layFree_91 : decode cX12_layFree 91 = .ok (.bipush 6, 2) := by decide +kernel
theorem dX12_layFree_93 : decode cX12_layFree 93 = .ok (.invokevirtual 168, 3) := by decide +kernel
theorem dX12_layFree_96 : decode cX12_layFree 96 = .ok (.ifCond .ne 9, 3) := by decide +kernel
theorem dX12_layFree_99 : decode cX12_layFree 99 = .ok (.iconst 1, 1) := by decide +kernel
theorem dX12_layFree_100 : decode cX12_layFree 100 = .ok (.iload_n 3, 1) := by decide +kernel
theorem dX12_layFree_101 : decode cX12_layFree 101 = .ok (.ishl, 1) := by decide +kernel
theorem dX12_layFree_102 : decode cX12_layFree 102 = .ok (.goto 4, 3) := by decide +kernel
theorem dX12_layFree_105 : decode cX12_layFree 105 = .ok (.iconst 0, 1) := by decide +kernel
theorem dX12_layFree_106 : decode cX12_layFree 106 = .ok (.ior, 1) := by decide +kernel
theorem dX12_layFree_107 : decode cX12_layFree 107 = .ok (.iastore, 1) := by decide +kernel
theorem dX12_layFree_108 : decode cX12_layFree 108 = .ok (.iinc 3 1, 3) := by decide +kernel
theorem dX12_layFree_111 : decode cX12_layFree 111 = .ok (.goto (-58), 3) := by decide +kernel
theorem dX12_layFree_114 : decode cX12_layFree 114 = .ok (.iinc 2 1, 3) := by decide +kernel
theorem dX12_layFree_117 : decode cX12_layFree 117 = .ok (.goto (-81), 3) := by decide +kernel
theorem dX12_layFree_120 : decode cX12_layFree 120 = .ok (.iload_n 1, 1) := by decide +kernel
theorem dX12_layFree_121 : decode cX12_layFree 121 = .ok (.ireturn, 1) := by decide +kernel
theorem dX12_layGain_0 : decode cX12_layGain 0 = .ok (.aload_n 0, 1) := by decide +kernel
theorem dX12_layGain_1 : decode cX12_layGain 1 = .ok (.iload_n 1, 1) := by decide +kernel
theorem dX12_layGain_2 : decode cX12_layGain 2 = .ok (.iload 4, 2) := by decide +kernel
theorem dX12_layGain_4 : decode cX12_layGain 4 = .ok (.invokevirtual 168, 3) := by decide +kernel
theorem dX12_layGain_7 : decode cX12_layGain 7 = .ok (.istore 7, 2) := by decide +kernel
theorem dX12_layGain_9 : decode cX12_layGain 9 = .ok (.aload_n 0, 1) := by decide +kernel
theorem dX12_layGain_10 : decode cX12_layGain 10 = .ok (.iload_n 2, 1) := by decide +kernel
theorem dX12_layGain_11 : decode cX12_layGain 11 = .ok (.iload_n 3, 1) := by decide +kernel
theorem dX12_layGain_12 : decode cX12_layGain 12 = .ok (.invokevirtual 286, 3) := by decide +kernel
theorem dX12_layGain_15 : decode cX12_layGain 15 = .ok (.aload_n 0, 1) := by decide +kernel
theorem dX12_layGain_16 : decode cX12_layGain 16 = .ok (.iload_n 1, 1) := by decide +kernel
theorem dX12_layGain_17 : decode cX12_layGain 17 = .ok (.invokevirtual 209, 3) := by decide +kernel
theorem dX12_layGain_20 : decode cX12_layGain 20 = .ok (.istore 8, 2) := by decide +kernel
theorem dX12_layGain_22 : decode cX12_layGain 22 = .ok (.aload_n 0, 1) := by decide +kernel
theorem dX12_layGain_23 : decode cX12_layGain 23 = .ok (.iconst 0, 1) := by decide +kernel
theorem dX12_layGain_24 : decode cX12_layGain 24 = .ok (.putfield 316, 3) := by decide +kernel
theorem dX12_layGain_27 : decode cX12_layGain 27 = .ok (.aload_n 0, 1) := by decide +kernel
theorem dX12_layGain_28 : decode cX12_layGain 28 = .ok (.iload 7, 2) := by decide +kernel
theorem dX12_layGain_30 : decode cX12_layGain 30 = .ok (.putfield 319, 3) := by decide +kernel
theorem dX12_layGain_33 : decode cX12_layGain 33 = .ok (.iload 5, 2) := by decide +kernel
theorem dX12_layGain_35 : decode cX12_layGain 35 = .ok (.istore 9, 2) := by decide +kernel
theorem dX12_layGain_37 : decode cX12_layGain 37 = .ok (.iload 9, 2) := by decide +kernel
theorem dX12_layGain_39 : decode cX12_layGain 39 = .ok (.iload 6, 2) := by decide +kernel
theorem dX12_layGain_41 : decode cX12_layGain 41 = .ok (.if_icmp .gt 62, 3) := by decide +kernel
theorem dX12_layGain_44 : decode cX12_layGain 44 = .ok (.aload_n 0, 1) := by decide +kernel
theorem dX12_layGain_45 : decode cX12_layGain 45 = .ok (.getfield 19, 3) := by decide +kernel
theorem dX12_layGain_48 : decode cX12_layGain 48 = .ok (.bipush 9, 2) := by decide +kernel
theorem dX12_layGain_50 : decode cX12_layGain 50 = .ok (.iload_n 1, 1) := by decide +kernel
theorem dX12_layGain_51 : decode cX12_layGain 51 = .ok (.imul, 1) := by decide +kernel
theorem dX12_layGain_52 : decode cX12_layGain 52 = .ok (.iload 4, 2) := by decide +kernel
theorem dX12_layGain_54 : decode cX12_layGain 54 = .ok (.iadd, 1) := by decide +kernel
theorem dX12_layGain_55 : decode cX12_layGain 55 = .ok (.iload 9, 2) := by decide +kernel
theorem dX12_layGain_57 : decode cX12_layGain 57 = .ok (.iastore, 1) := by decide +kernel
theorem dX12_layGain_58 : decode cX12_layGain 58 = .ok (.aload_n 0, 1) := by decide +kernel
theorem dX12_layGain_59 : decode cX12_layGain 59 = .ok (.iload_n 2, 1) := by decide +kernel
theorem dX12_layGain_60 : decode cX12_layGain 60 = .ok (.iload_n 3, 1) := by decide +kernel
theorem dX12_layGain_61 : decode cX12_layGain 61 = .ok (.invokevirtual 286, 3) := by decide +kernel
theorem dX12_layGain_64 : decode cX12_layGain 64 = .ok (.iload 8, 2) := by decide +kernel
theorem dX12_layGain_66 : decode cX12_layGain 66 = .ok (.aload_n 0, 1) := by decide +kernel
theorem dX12_layGain_67 : decode cX12_layGain 67 = .ok (.iload_n 1, 1) := by decide +kernel
theorem dX12_layGain_68 : decode cX12_layGain 68 = .ok (.invokevirtual 209, 3) := by decide +kernel
theorem dX12_layGain_71 : decode cX12_layGain 71 = .ok (.isub, 1) := by decide +kernel
theorem dX12_layGain_72 : decode cX12_layGain 72 = .ok (.aload_n 0, 1) := by decide +kernel
theorem dX12_layGain_73 : decode cX12_layGain 73 = .ok (.getfield 316, 3) := by decide +kernel
theorem dX12_layGain_76 : decode cX12_layGain 76 = .ok (.if_icmp .le 21, 3) := by decide +kernel
theorem dX12_layGain_79 : decode cX12_layGain 79 = .ok (.aload_n 0, 1) := by decide +kernel
theorem dX12_layGain_80 : decode cX12_layGain 80 = .ok (.iload 8, 2) := by decide +kernel
theorem dX12_layGain_82 : decode cX12_layGain 82 = .ok (.aload_n 0, 1) := by decide +kernel
theorem dX12_layGain_83 : decode cX12_layGain 83 = .ok (.iload_n 1, 1) := by decide +kernel
theorem dX12_layGain_84 : decode cX12_layGain 84 = .ok (.invokevirtual 209, 3) := by decide +kernel
theorem dX12_layGain_87 : decode cX12_layGain 87 = .ok (.isub, 1) := by decide +kernel
theorem dX12_layGain_88 : decode cX12_layGain 88 = .ok (.putfield 316, 3) := by decide +kernel
theorem dX12_layGain_91 : decode cX12_layGain 91 = .ok (.aload_n 0, 1) := by decide +kernel
theorem dX12_layGain_92 : decode cX12_layGain 92 = .ok (.iload 9, 2) := by decide +kernel
theorem dX12_layGain_94 : decode cX12_layGain 94 = .ok (.putfield 319, 3) := by decide +kernel
theorem dX12_layGain_97 : decode cX12_layGain 97 = .ok (.iinc 9 1, 3) := by decide +kernel
theorem dX12_layGain_100 : decode cX12_layGain 100 = .ok (.goto (-63), 3) := by decide +kernel
theorem dX12_layGain_103 : decode cX12_layGain 103 = .ok (.aload_n 0, 1) := by decide +kernel
theorem dX12_layGain_104 : decode cX12_layGain 104 = .ok (.getfield 19, 3) := by decide +kernel
theorem dX12_layGain_107 : decode cX12_layGain 107 = .ok (.bipush 9, 2) := by decide +kernel
theorem dX12_layGain_109 : decode cX12_layGain 109 = .ok (.iload_n 1, 1) := by decide +kernel
theorem dX12_layGain_110 : decode cX12_layGain 110 = .ok (.imul, 1) := by decide +kernel
theorem dX12_layGain_111 : decode cX12_layGain 111 = .ok (.iload 4, 2) := by decide +kernel
theorem dX12_layGain_113 : decode cX12_layGain 113 = .ok (.iadd, 1) := by decide +kernel
theorem dX12_layGain_114 : decode cX12_layGain 114 = .ok (.iload 7, 2) := by decide +kernel
theorem dX12_layGain_116 : decode cX12_layGain 116 = .ok (.iastore, 1) := by decide +kernel
theorem dX12_layGain_117 : decode cX12_layGain 117 = .ok (.return_, 1) := by decide +kernel
theorem dX12_lot_0 : decode cX12_lot 0 = .ok (.aload_n 0, 1) := by decide +kernel
theorem dX12_lot_1 : decode cX12_lot 1 = .ok (.iload_n 1, 1) := by decide +kernel
theorem dX12_lot_2 : decode cX12_lot 2 = .ok (.invokevirtual 162, 3) := by decide +kernel
theorem dX12_lot_5 : decode cX12_lot 5 = .ok (.ifCond .eq 15, 3) := by decide +kernel
theorem dX12_lot_8 : decode cX12_lot 8 = .ok (.iload_n 2, 1) := by decide +kernel
theorem dX12_lot_9 : decode cX12_lot 9 = .ok (.i2l, 1) := by decide +kernel
theorem dX12_lot_10 : decode cX12_lot 10 = .ok (.lconst 0, 1) := by decide +kernel
theorem dX12_lot_11 : decode cX12_lot 11 = .ok (.ldc2_w 294, 3) := by decide +kernel
theorem dX12_lot_14 : decode cX12_lot 14 = .ok (.invokestatic 97, 3) := by decide +kernel
theorem dX12_lot_17 : decode cX12_lot 17 = .ok (.ifCond .ne 7, 3) := by decide +kernel
theorem dX12_lot_20 : decode cX12_lot 20 = .ok (.ldc2_w 326, 3) := by decide +kernel
theorem dX12_lot_23 : decode cX12_lot 23 = .ok (.lreturn, 1) := by decide +kernel
theorem dX12_lot_24 : decode cX12_lot 24 = .ok (.aload_n 0, 1) := by decide +kernel
theorem dX12_lot_25 : decode cX12_lot 25 = .ok (.invokevirtual 296, 3) := by decide +kernel
theorem dX12_lot_28 : decode cX12_lot 28 = .ok (.ifCond .eq 7, 3) := by decide +kernel
theorem dX12_lot_31 : decode cX12_lot 31 = .ok (.ldc2_w 334, 3) := by decide +kernel
theorem dX12_lot_34 : decode cX12_lot 34 = .ok (.lreturn, 1) := by decide +kernel
theorem dX12_lot_35 : decode cX12_lot 35 = .ok (.lconst 0, 1) := by decide +kernel
theorem dX12_lot_36 : decode cX12_lot 36 = .ok (.lstore_n 3, 1) := by decide +kernel
theorem dX12_lot_37 : decode cX12_lot 37 = .ok (.lconst 0, 1) := by decide +kernel
theorem dX12_lot_38 : decode cX12_lot 38 = .ok (.lstore 5, 2) := by decide +kernel
theorem dX12_lot_40 : decode cX12_lot 40 = .ok (.iconst 0, 1) := by decide +kernel
theorem dX12_lot_41 : decode cX12_lot 41 = .ok (.istore 7, 2) := by decide +kernel
theorem dX12_lot_43 : decode cX12_lot 43 = .ok (.iload 7, 2) := by decide +kernel
theorem dX12_lot_45 : decode cX12_lot 45 = .ok (.aload_n 0, 1) := by decide +kernel
theorem dX12_lot_46 : decode cX12_lot 46 = .ok (.getfield 197, 3) := by decide +kernel
theorem dX12_lot_49 : decode cX12_lot 49 = .ok (.if_icmp .ge 90, 3) := by decide +kernel
theorem dX12_lot_52 : decode cX12_lot 52 = .ok (.aload_n 0, 1) := by decide +kernel
theorem dX12_lot_53 : decode cX12_lot 53 = .ok (.getfield 62, 3) := by decide +kernel
theorem dX12_lot_56 : decode cX12_lot 56 = .ok (.iload 7, 2) := by decide +kernel
theorem dX12_lot_58 : decode cX12_lot 58 = .ok (.iaload, 1) := by decide +kernel
theorem dX12_lot_59 : decode cX12_lot 59 = .ok (.iload_n 1, 1) := by decide +kernel
theorem dX12_lot_60 : decode cX12_lot 60 = .ok (.ishr, 1) := by decide +kernel
theorem dX12_lot_61 : decode cX12_lot 61 = .ok (.iconst 1, 1) := by decide +kernel
theorem dX12_lot_62 : decode cX12_lot 62 = .ok (.iand, 1) := by decide +kernel
theorem dX12_lot_63 : decode cX12_lot 63 = .ok (.iconst 1, 1) := by decide +kernel
theorem dX12_lot_64 : decode cX12_lot 64 = .ok (.if_icmp .ne 69, 3) := by decide +kernel
theorem dX12_lot_67 : decode cX12_lot 67 = .ok (.aload_n 0, 1) := by decide +kernel
theorem dX12_lot_68 : decode cX12_lot 68 = .ok (.getfield 62, 3) := by decide +kernel
theorem dX12_lot_71 : decode cX12_lot 71 = .ok (.iload 7, 2) := by decide +kernel
theorem dX12_lot_73 : decode cX12_lot 73 = .ok (.iaload, 1) := by decide +kernel
theorem dX12_lot_74 : decode cX12_lot 74 = .ok (.invokestatic 222, 3) := by decide +kernel
theorem dX12_lot_77 : decode cX12_lot 77 = .ok (.istore 8, 2) := by decide +kernel
theorem dX12_lot_79 : decode cX12_lot 79 = .ok (.aload_n 0, 1) := by decide +kernel
theorem dX12_lot_80 : decode cX12_lot 80 = .ok (.getfield 59, 3) := by decide +kernel
theorem dX12_lot_83 : decode cX12_lot 83 = .ok (.iconst 5, 1) := by decide +kernel
theorem dX12_lot_84 : decode cX12_lot 84 = .ok (.iload 7, 2) := by decide +kernel
theorem dX12_lot_86 : decode cX12_lot 86 = .ok (.imul, 1) := by decide +kernel
theorem dX12_lot_87 : decode cX12_lot 87 = .ok (.iconst 2, 1) := by decide +kernel
theorem dX12_lot_88 : decode cX12_lot 88 = .ok (.iadd, 1) := by decide +kernel
theorem dX12_lot_89 : decode cX12_lot 89 = .ok (.iaload, 1) := by decide +kernel
theorem dX12_lot_90 : decode cX12_lot 90 = .ok (.i2l, 1) := by decide +kernel
theorem dX12_lot_91 : decode cX12_lot 91 = .ok (.lstore 9, 2) := by decide +kernel
theorem dX12_lot_93 : decode cX12_lot 93 = .ok (.lload_n 3, 1) := by decide +kernel
theorem dX12_lot_94 : decode cX12_lot 94 = .ok (.lload 9, 2) := by decide +kernel
theorem dX12_lot_96 : decode cX12_lot 96 = .ok (.sipush 840, 3) := by decide +kernel
theorem dX12_lot_99 : decode cX12_lot 99 = .ok (.iload 8, 2) := by decide +kernel
theorem dX12_lot_101 : decode cX12_lot 101 = .ok (.idiv, 1) := by decide +kernel
theorem dX12_lot_102 : decode cX12_lot 102 = .ok (.i2l, 1) := by decide +kernel
theorem dX12_lot_103 : decode cX12_lot 103 = .ok (.lmul, 1) := by decide +kernel
theorem dX12_lot_104 : decode cX12_lot 104 = .ok (.ladd, 1) := by decide +kernel
theorem dX12_lot_105 : decode cX12_lot 105 = .ok (.lstore_n 3, 1) := by decide +kernel
theorem dX12_lot_106 : decode cX12_lot 106 = .ok (.lload 5, 2) := by decide +kernel
theorem dX12_lot_108 : decode cX12_lot 108 = .ok (.lload 9, 2) := by decide +kernel
theorem dX12_lot_110 : decode cX12_lot 110 = .ok (.lload 9, 2) := by decide +kernel
theorem dX12_lot_112 : decode cX12_lot 112 = .ok (.lmul, 1) := by decide +kernel
theorem dX12_lot_113 : decode cX12_lot 113 = .ok (.iload 8, 2) := by decide +kernel
theorem dX12_lot_115 : decode cX12_lot 115 = .ok (.iconst 1, 1) := by decide +kernel
theorem dX12_lot_116 : decode cX12_lot 116 = .ok (.isub, 1) := by decide +kernel
theorem dX12_lot_117 : decode cX12_lot 117 = .ok (.i2l, 1) := by decide +kernel
theorem dX12_lot_118 : decode cX12_lot 118 = .ok (.lmul, 1) := by decide +kernel
theorem dX12_lot_119 : decode cX12_lot 119 = .ok (.ldc_w 336, 3) := by decide +kernel
theorem dX12_lot_122 : decode cX12_lot 122 = .ok (.iload 8, 2) := by decide +kernel
theorem dX12_lot_124 : decode cX12_lot 124 = .ok (.iload 8, 2) := by decide +kernel
theorem dX12_lot_126 : decode cX12_lot 126 = .ok (.imul, 1) := by decide +kernel
theorem dX12_lot_127 : decode cX12_lot 127 = .ok (.idiv, 1) := by decide +kernel
theorem dX12_lot_128 : decode cX12_lot 128 = .ok (.i2l, 1) := by decide +kernel
theorem dX12_lot_129 : decode cX12_lot 129 = .ok (.lmul, 1) := by decide +kernel
theorem dX12_lot_130 : decode cX12_lot 130 = .ok (.ladd, 1) := by decide +kernel
theorem dX12_lot_131 : decode cX12_lot 131 = .ok (.lstore 5, 2) := by decide +kernel
theorem dX12_lot_133 : decode cX12_lot 133 = .ok (.iinc 7 1, 3) := by decide +kernel
theorem dX12_lot_136 : decode cX12_lot 136 = .ok (.goto (-93), 3) := by decide +kernel
theorem dX12_lot_139 : decode cX12_lot 139 = .ok (.iload_n 2, 1) := by decide +kernel
theorem dX12_lot_140 : decode cX12_lot 140 = .ok (.iconst 2, 1) := by decide +kernel
theorem dX12_lot_141 : decode cX12_lot 141 = .ok (.if_icmp .ge 14, 3) := by decide +kernel
theorem dX12_lot_144 : decode cX12_lot 144 = .ok (.lload_n 3, 1) := by decide +kernel
theorem dX12_lot_145 : decode cX12_lot 145 = .ok (.ldc2_w 337, 3) := by decide +kernel
theorem dX12_lot_148 : decode cX12_lot 148 = .ok (.iload_n 2, 1) := by decide +kernel
theorem dX12_lot_149 : decode cX12_lot 149 = .ok (.invokestatic 330, 3) := by decide +kernel
theorem dX12_lot_152 : decode cX12_lot 152 = .ok (.goto 12, 3) := by decide +kernel
theorem dX12_lot_155 : decode cX12_lot 155 = .ok (.lload 5, 2) := by decide +kernel
theorem dX12_lot_157 : decode cX12_lot 157 = .ok (.ldc2_w 339, 3) := by decide +kernel
theorem dX12_lot_160 : decode cX12_lot 160 = .ok (.iload_n 2, 1) := by decide +kernel
theorem dX12_lot_161 : decode cX12_lot 161 = .ok (.invokestatic 330, 3) := by decide +kernel
theorem dX12_lot_164 : decode cX12_lot 164 = .ok (.lreturn, 1) := by decide +kernel
theorem dX12_lowest_0 : decode cX12_lowest 0 = .ok (.lload_n 0, 1) := by decide +kernel
theorem dX12_lowest_1 : decode cX12_lowest 1 = .ok (.lconst 0, 1) := by decide +kernel
theorem dX12_lowest_2 : decode cX12_lowest 2 = .ok (.lcmp, 1) := by decide +kernel
theorem dX12_lowest_3 : decode cX12_lowest 3 = .ok (.ifCond .ge 8, 3) := by decide +kernel
theorem dX12_lowest_6 : decode cX12_lowest 6 = .ok (.lload_n 0, 1) := by decide +kernel
theorem dX12_lowest_7 : decode cX12_lowest 7 = .ok (.lneg, 1) := by decide +kernel
theorem dX12_lowest_8 : decode cX12_lowest 8 = .ok (.goto 4, 3) := by decide +kernel
theorem dX12_lowest_11 : decode cX12_lowest 11 = .ok (.lload_n 0, 1) := by decide +kernel
theorem dX12_lowest_12 : decode cX12_lowest 12 = .ok (.lstore 5, 2) := by decide +kernel
theorem dX12_lowest_14 : decode cX12_lowest 14 = .ok (.lload_n 2, 1) := by decide +kernel
theorem dX12_lowest_15 : decode cX12_lowest 15 = .ok (.lstore 7, 2) := by decide +kernel
theorem dX12_lowest_17 : decode cX12_lowest 17 = .ok (.lload 7, 2) := by decide +kernel
theorem dX12_lowest_19 : decode cX12_lowest 19 = .ok (.lconst 0, 1) := by decide +kernel
theorem dX12_lowest_20 : decode cX12_lowest 20 = .ok (.lcmp, 1) := by decide +kernel
theorem dX12_lowest_21 : decode cX12_lowest 21 = .ok (.ifCond .eq 21, 3) := by decide +kernel
theorem dX12_lowest_24 : decode cX12_lowest 24 = .ok (.lload 5, 2) := by decide +kernel
theorem dX12_lowest_26 : decode cX12_lowest 26 = .ok (.lload 7, 2) := by decide +kernel
theorem dX12_lowest_28 : decode cX12_lowest 28 = .ok (.lrem, 1) := by decide +kernel
theorem dX12_lowest_29 : decode cX12_lowest 29 = .ok (.lstore 9, 2) := by decide +kernel
theorem dX12_lowest_31 : decode cX12_lowest 31 = .ok (.lload 7, 2) := by decide +kernel
theorem dX12_lowest_33 : decode cX12_lowest 33 = .ok (.lstore 5, 2) := by decide +kernel
theorem dX12_lowest_35 : decode cX12_lowest 35 = .ok (.lload 9, 2) := by decide +kernel
theorem dX12_lowest_37 : decode cX12_lowest 37 = .ok (.lstore 7, 2) := by decide +kernel
theorem dX12_lowest_39 : decode cX12_lowest 39 = .ok (.goto (-22), 3) := by decide +kernel
theorem dX12_lowest_42 : decode cX12_lowest 42 = .ok (.iload 4, 2) := by decide +kernel
theorem dX12_lowest_44 : decode cX12_lowest 44 = .ok (.iconst 2, 1) := by decide +kernel
theorem dX12_lowest_45 : decode cX12_lowest 45 = .ok (.irem, 1) := by decide +kernel
theorem dX12_lowest_46 : decode cX12_lowest 46 = .ok (.ifCond .ne 7, 3) := by decide +kernel
theorem dX12_lowest_49 : decode cX12_lowest 49 = .ok (.lload_n 0, 1) := by decide +kernel
theorem dX12_lowest_50 : decode cX12_lowest 50 = .ok (.goto 4, 3) := by decide +kernel
theorem dX12_lowest_53 : decode cX12_lowest 53 = .ok (.lload_n 2, 1) := by decide +kernel
theorem dX12_lowest_54 : decode cX12_lowest 54 = .ok (.lload 5, 2) := by decide +kernel
theorem dX12_lowest_56 : decode cX12_lowest 56 = .ok (.ldiv, 1) := by decide +kernel
theorem dX12_lowest_57 : decode cX12_lowest 57 = .ok (.lreturn, 1) := by decide +kernel
theorem dX12_measures_0 : decode cX12_measures 0 = .ok (.iconst 0, 1) := by decide +kernel
theorem dX12_measures_1 : decode cX12_measures 1 = .ok (.istore_n 1, 1) := by decide +kernel
theorem dX12_measures_2 : decode cX12_measures 2 = .ok (.iload_n 1, 1) := by decide +kernel
theorem dX12_measures_3 : decode cX12_measures 3 = .ok (.aload_n 0, 1) := by decide +kernel
theorem dX12_measures_4 : decode cX12_measures 4 = .ok (.getfield 19, 3) := by decide +kernel
theorem dX12_measures_7 : decode cX12_measures 7 = .ok (.bipush 72, 2) := by decide +kernel
theorem dX12_measures_9 : decode cX12_measures 9 = .ok (.iaload, 1) := by decide +kernel
theorem dX12_measures_10 : decode cX12_measures 10 = .ok (.if_icmp .ge 52, 3) := by decide +kernel
theorem dX12_measures_13 : decode cX12_measures 13 = .ok (.aload_n 0, 1) := by decide +kernel
theorem dX12_measures_14 : decode cX12_measures 14 = .ok (.aload_n 0, 1) := by decide +kernel
theorem dX12_measures_15 : decode cX12_measures 15 = .ok (.getfield 25, 3) := by decide +kernel
theorem dX12_measures_18 : decode cX12_measures 18 = .ok (.iload_n 1, 1) := by decide +kernel
theorem dX12_measures_19 : decode cX12_measures 19 = .ok (.baload, 1) := by decide +kernel
theorem dX12_measures_20 : decode cX12_measures 20 = .ok (.ifCond .eq 29, 3) := by decide +kernel
theorem dX12_measures_23 : decode cX12_measures 23 = .ok (.aload_n 0, 1) := by decide +kernel
theorem dX12_measures_24 : decode cX12_measures 24 = .ok (.iload_n 1, 1) := by decide +kernel
theorem dX12_measures_25 : decode cX12_measures 25 = .ok (.invokevirtual 209, 3) := by decide +kernel
theorem dX12_measures_28 : decode cX12_measures 28 = .ok (.invokestatic 212, 3) := by decide +kernel
theorem dX12_measures_31 : decode cX12_measures 31 = .ok (.aload_n 0, 1) := by decide +kernel
theorem dX12_measures_32 : decode cX12_measures 32 = .ok (.getfield 203, 3) := by decide +kernel
theorem dX12_measures_35 : decode cX12_measures 35 = .ok (.if_icmp .le 14, 3) := by decide +kernel
theorem dX12_measures_38 : decode cX12_measures 38 = .ok (.aload_n 0, 1) := by decide +kernel
theorem dX12_measures_39 : decode cX12_measures 39 = .ok (.iload_n 1, 1) := by decide +kernel
theorem dX12_measures_40 : decode cX12_measures 40 = .ok (.invokevirtual 209, 3) := by decide +kernel
theorem dX12_measures_43 : decode cX12_measures 43 = .ok (.invokestatic 212, 3) := by decide +kernel
theorem dX12_measures_46 : decode cX12_measures 46 = .ok (.goto 7, 3) := by decide +kernel
theorem dX12_measures_49 : decode cX12_measures 49 = .ok (.aload_n 0, 1) := by decide +kernel
theorem dX12_measures_50 : decode cX12_measures 50 = .ok (.getfield 203, 3) := by decide +kernel
theorem dX12_measures_53 : decode cX12_measures 53 = .ok (.putfield 203, 3) := by decide +kernel
theorem dX12_measures_56 : decode cX12_measures 56 = .ok (.iinc 1 1, 3) := by decide +kernel
theorem dX12_measures_59 : decode cX12_measures 59 = .ok (.goto (-57), 3) := by decide +kernel
theorem dX12_measures_62 : decode cX12_measures 62 = .ok (.return_, 1) := by decide +kernel
theorem dX12_nameHere_0 : decode cX12_nameHere 0 = .ok (.iconst 0, 1) := by decide +kernel
theorem dX12_nameHere_1 : decode cX12_nameHere 1 = .ok (.istore_n 1, 1) := by decide +kernel
theorem dX12_nameHere_2 : decode cX12_nameHere 2 = .ok (.iload_n 1, 1) := by decide +kernel
theorem dX12_nameHere_3 : decode cX12_nameHere 3 = .ok (.iconst 5, 1) := by decide +kernel
theorem dX12_nameHere_4 : decode cX12_nameHere 4 = .ok (.if_icmp .ge 113, 3) := by decide +kernel
theorem dX12_nameHere_7 : decode cX12_nameHere 7 = .ok (.aload_n 0, 1) := by decide +kernel
theorem dX12_nameHere_8 : decode cX12_nameHere 8 = .ok (.getfield 110, 3) := by decide +kernel
theorem dX12_nameHere_11 : decode cX12_nameHere 11 = .ok (.iconst 1, 1) := by decide +kernel
theorem dX12_nameHere_12 : decode cX12_nameHere 12 = .ok (.if_icmp .ne 105, 3) := by decide +kernel
theorem dX12_nameHere_15 : decode cX12_nameHere 15 = .ok (.aload_n 0, 1) := by decide +kernel
theorem dX12_nameHere_16 : decode cX12_nameHere 16 = .ok (.getfield 113, 3) := by decide +kernel
theorem dX12_nameHere_19 : decode cX12_nameHere 19 = .ok (.aload_n 0, 1) := by decide +kernel
theorem dX12_nameHere_20 : decode cX12_nameHere 20 = .ok (.getfield 104, 3) := by decide +kernel
theorem dX12_nameHere_23 : decode cX12_nameHere 23 = .ok (.isub, 1) := by decide +kernel
theorem dX12_nameHere_24 : decode cX12_nameHere 24 = .ok (.aload_n 0, 1) := by decide +kernel
theorem dX12_nameHere_25 : decode cX12_nameHere 25 = .ok (.getfield 13, 3) := by decide +kernel
theorem dX12_nameHere_28 : decode cX12_nameHere 28 = .ok (.iload_n 1, 1) := by decide +kernel
theorem dX12_nameHere_29 : decode cX12_nameHere 29 = .ok (.iconst 1, 1) := by decide +kernel
theorem dX12_nameHere_30 : decode cX12_nameHere 30 = .ok (.iadd, 1) := by decide +kernel
theorem dX12_nameHere_31 : decode cX12_nameHere 31 = .ok (.iaload, 1) := by decide +kernel
theorem dX12_nameHere_32 : decode cX12_nameHere 32 = .ok (.aload_n 0, 1) := by decide +kernel
theorem dX12_nameHere_33 : decode cX12_nameHere 33 = .ok (.getfield 13, 3) := by decide +kernel
theorem dX12_nameHere_36 : decode cX12_nameHere 36 = .ok (.iload_n 1, 1) := by decide +kernel
theorem dX12_nameHere_37 : decode cX12_nameHere 37 = .ok (.iaload, 1) := by decide +kernel
theorem dX12_nameHere_38 : decode cX12_nameHere 38 = .ok (.isub, 1) := by decide +kernel
theorem dX12_nameHere_39 : decode cX12_nameHere 39 = .ok (.if_icmp .ne 7, 3) := by decide +kernel
theorem dX12_nameHere_42 : decode cX12_nameHere 42 = .ok (.iconst 1, 1) := by decide +kernel
theorem dX12_nameHere_43 : decode cX12_nameHere 43 = .ok (.goto 4, 3) := by decide +kernel
theorem dX12_nameHere_46 : decode cX12_nameHere 46 = .ok (.iconst 0, 1) := by decide +kernel
theorem dX12_nameHere_47 : decode cX12_nameHere 47 = .ok (.istore_n 2, 1) := by decide +kernel
theorem dX12_nameHere_48 : decode cX12_nameHere 48 = .ok (.iconst 0, 1) := by decide +kernel
theorem dX12_nameHere_49 : decode cX12_nameHere 49 = .ok (.istore_n 3, 1) := by decide +kernel
theorem dX12_nameHere_50 : decode cX12_nameHere 50 = .ok (.iload_n 2, 1) := by decide +kernel
theorem dX12_nameHere_51 : decode cX12_nameHere 51 = .ok (.ifCond .eq 54, 3) := by decide +kernel
theorem dX12_nameHere_54 : decode cX12_nameHere 54 = .ok (.iload_n 3, 1) := by decide +kernel
theorem dX12_nameHere_55 : decode cX12_nameHere 55 = .ok (.aload_n 0, 1) := by decide +kernel
theorem dX12_nameHere_56 : decode cX12_nameHere 56 = .ok (.getfield 113, 3) := by decide +kernel
theorem dX12_nameHere_59 : decode cX12_nameHere 59 = .ok (.aload_n 0, 1) := by decide +kernel
theorem dX12_nameHere_60 : decode cX12_nameHere 60 = .ok (.getfield 104, 3) := by decide +kernel
theorem dX12_nameHere_63 : decode cX12_nameHere 63 = .ok (.isub, 1) := by decide +kernel
theorem dX12_nameHere_64 : decode cX12_nameHere 64 = .ok (.if_icmp .ge 41, 3) := by decide +kernel
theorem dX12_nameHere_67 : decode cX12_nameHere 67 = .ok (.aload_n 0, 1) := by decide +kernel
theorem dX12_nameHere_68 : decode cX12_nameHere 68 = .ok (.aload_n 0, 1) := by decide +kernel
theorem dX12_nameHere_69 : decode cX12_nameHere 69 = .ok (.getfield 104, 3) := by decide +kernel
theorem dX12_nameHere_72 : decode cX12_nameHere 72 = .ok (.iload_n 3, 1) := by decide +kernel
theorem dX12_nameHere_73 : decode cX12_nameHere 73 = .ok (.iadd, 1) := by decide +kernel
theorem dX12_nameHere_74 : decode cX12_nameHere 74 = .ok (.invokevirtual 116, 3) := by decide +kernel
theorem dX12_nameHere_77 : decode cX12_nameHere 77 = .ok (.aload_n 0, 1) := by decide +kernel
theorem dX12_nameHere_78 : decode cX12_nameHere 78 = .ok (.getfield 16, 3) := by decide +kernel
theorem dX12_nameHere_81 : decode cX12_nameHere 81 = .ok (.aload_n 0, 1) := by decide +kernel
theorem dX12_nameHere_82 : decode cX12_nameHere 82 = .ok (.getfield 13, 3) := by decide +kernel
theorem dX12_nameHere_85 : decode cX12_nameHere 85 = .ok (.iload_n 1, 1) := by decide +kernel
theorem dX12_nameHere_86 : decode cX12_nameHere 86 = .ok (.iaload, 1) := by decide +kernel
theorem dX12_nameHere_87 : decode cX12_nameHere 87 = .ok (.iload_n 3, 1) := by decide +kernel
theorem dX12_nameHere_88 : decode cX12_nameHere 88 = .ok (.iadd, 1) := by decide +kernel
theorem dX12_nameHere_89 : decode cX12_nameHere 89 = .ok (.iaload, 1) := by decide +kernel
theorem dX12_nameHere_90 : decode cX12_nameHere 90 = .ok (.if_icmp .ne 7, 3) := by decide +kernel
theorem dX12_nameHere_93 : decode cX12_nameHere 93 = .ok (.iconst 1, 1) := by decide +kernel
theorem dX12_nameHere_94 : decode cX12_nameHere 94 = .ok (.goto 4, 3) := by decide +kernel
theorem dX12_nameHere_97 : decode cX12_nameHere 97 = .ok (.iconst 0, 1) := by decide +kernel
theorem dX12_nameHere_98 : decode cX12_nameHere 98 = .ok (.istore_n 2, 1) := by decide +kernel
theorem dX12_nameHere_99 : decode cX12_nameHere 99 = .ok (.iinc 3 1, 3) := by decide +kernel
theorem dX12_nameHere_102 : decode cX12_nameHere 102 = .ok (.goto (-52), 3) := by decide +kernel
theorem dX12_nameHere_105 : decode cX12_nameHere 105 = .ok (.iload_n 2, 1) := by decide +kernel
theorem dX12_nameHere_106 : decode cX12_nameHere 106 = .ok (.ifCond .eq 5, 3) := by decide +kernel
theorem dX12_nameHere_109 : decode cX12_nameHere 109 = .ok (.iload_n 1, 1) := by decide +kernel
theorem dX12_nameHere_110 : decode cX12_nameHere 110 = .ok (.ireturn, 1) := by decide +kernel
theorem dX12_nameHere_111 : decode cX12_nameHere 111 = .ok (.iinc 1 1, 3) := by decide +kernel
theorem dX12_nameHere_114 : decode cX12_nameHere 114 = .ok (.goto (-112), 3) := by decide +kernel
theorem dX12_nameHere_117 : decode cX12_nameHere 117 = .ok (.bipush (-4), 2) := by decide +kernel
theorem dX12_nameHere_119 : decode cX12_nameHere 119 = .ok (.ireturn, 1) := by decide +kernel
theorem dX12_next_0 : decode cX12_next 0 = .ok (.aload_n 0, 1) := by decide +kernel
theorem dX12_next_1 : decode cX12_next 1 = .ok (.getfield 101, 3) := by decide +kernel
theorem dX12_next_4 : decode cX12_next 4 = .ok (.ifCond .le 4, 3) := by decide +kernel
theorem dX12_next_7 : decode cX12_next 7 = .ok (.return_, 1) := by decide +kernel
theorem dX12_next_8 : decode cX12_next 8 = .ok (.aload_n 0, 1) := by decide +kernel
theorem dX12_next_9 : decode cX12_next 9 = .ok (.aload_n 0, 1) := by decide +kernel
theorem dX12_next_10 : decode cX12_next 10 = .ok (.getfield 113, 3) := by decide +kernel
theorem dX12_next_13 : decode cX12_next 13 = .ok (.invokevirtual 116, 3) := by decide +kernel
theorem dX12_next_16 : decode cX12_next 16 = .ok (.bipush 32, 2) := by decide +kernel
theorem dX12_next_18 : decode cX12_next 18 = .ok (.if_icmp .ne 16, 3) := by decide +kernel
theorem dX12_next_21 : decode cX12_next 21 = .ok (.aload_n 0, 1) := by decide +kernel
theorem dX12_next_22 : decode cX12_next 22 = .ok (.dup, 1) := by decide +kernel
theorem dX12_next_23 : decode cX12_next 23 = .ok (.getfield 113, 3) := by decide +kernel
theorem dX12_next_26 : decode cX12_next 26 = .ok (.iconst 1, 1) := by decide +kernel
theorem dX12_next_27 : decode cX12_next 27 = .ok (.iadd, 1) := by decide +kernel
theorem dX12_next_28 : decode cX12_next 28 = .ok (.putfield 113, 3) := by decide +kernel
theorem dX12_next_31 : decode cX12_next 31 = .ok (.goto (-23), 3) := by decide +kernel
theorem dX12_next_34 : decode cX12_next 34 = .ok (.aload_n 0, 1) := by decide +kernel
theorem dX12_next_35 : decode cX12_next 35 = .ok (.aload_n 0, 1) := by decide +kernel
theorem dX12_next_36 : decode cX12_next 36 = .ok (.getfield 113, 3) := by decide +kernel
theorem dX12_next_39 : decode cX12_next 39 = .ok (.putfield 104, 3) := by decide +kernel
theorem dX12_next_42 : decode cX12_next 42 = .ok (.aload_n 0, 1) := by decide +kernel
theorem dX12_next_43 : decode cX12_next 43 = .ok (.aload_n 0, 1) := by decide +kernel
theorem dX12_next_44 : decode cX12_next 44 = .ok (.getfield 113, 3) := by decide +kernel
theorem dX12_next_47 : decode cX12_next 47 = .ok (.invokevirtual 116, 3) := by decide +kernel
theorem dX12_next_50 : decode cX12_next 50 = .ok (.istore_n 1, 1) := by decide +kernel
theorem dX12_next_51 : decode cX12_next 51 = .ok (.aload_n 0, 1) := by decide +kernel
theorem dX12_next_52 : decode cX12_next 52 = .ok (.iconst 0, 1) := by decide +kernel
theorem dX12_next_53 : decode cX12_next 53 = .ok (.putfield 120, 3) := by decide +kernel
theorem dX12_next_56 : decode cX12_next 56 = .ok (.iload_n 1, 1) := by decide +kernel
theorem dX12_next_57 : decode cX12_next 57 = .ok (.bipush (-4), 2) := by decide +kernel
theorem dX12_next_59 : decode cX12_next 59 = .ok (.if_icmp .ne 11, 3) := by decide +kernel
theorem dX12_next_62 : decode cX12_next 62 = .ok (.aload_n 0, 1) := by decide +kernel
theorem dX12_next_63 : decode cX12_next 63 = .ok (.iconst 0, 1) := by decide +kernel
theorem dX12_next_64 : decode cX12_next 64 = .ok (.putfield 110, 3) := by decide +kernel
theorem dX12_next_67 : decode cX12_next 67 = .ok (.goto 202, 3) := by decide +kernel
theorem dX12_next_70 : decode cX12_next 70 = .ok (.iload_n 1, 1) := by decide +kernel
theorem dX12_next_71 : decode cX12_next 71 = .ok (.i2l, 1) := by decide +kernel
theorem dX12_next_72 : decode cX12_next 72 = .ok (.ldc2_w 123, 3) := by decide +kernel
theorem dX12_next_75 : decode cX12_next 75 = .ok (.ldc2_w 125, 3) := by decide +kernel
theorem dX12_next_78 : decode cX12_next 78 = .ok (.invokestatic 97, 3) := by decide +kernel
theorem dX12_next_81 : decode cX12_next 81 = .ok (.ifCond .eq 45, 3) := by decide +kernel
theorem dX12_next_84 : decode cX12_next 84 = .ok (.aload_n 0, 1) := by decide +kernel
theorem dX12_next_85 : decode cX12_next 85 = .ok (.aload_n 0, 1) := by decide +kernel
theorem dX12_next_86 : decode cX12_next 86 = .ok (.getfield 113, 3) := by decide +kernel
theorem dX12_next_89 : decode cX12_next 89 = .ok (.invokevirtual 116, 3) := by decide +kernel
theorem dX12_next_92 : decode cX12_next 92 = .ok (.i2l, 1) := by decide +kernel
theorem dX12_next_93 : decode cX12_next 93 = .ok (.ldc2_w 123, 3) := by decide +kernel
theorem dX12_next_96 : decode cX12_next 96 = .ok (.ldc2_w 125, 3) := by decide +kernel
theorem dX12_next_99 : decode cX12_next 99 = .ok (.invokestatic 97, 3) := by decide +kernel
theorem dX12_next_102 : decode cX12_next 102 = .ok (.ifCond .eq 16, 3) := by decide +kernel
theorem dX12_next_105 : decode cX12_next 105 = .ok (.aload_n 0, 1) := by decide +kernel
theorem dX12_next_106 : decode cX12_next 106 = .ok (.dup, 1) := by decide +kernel
theorem dX12_next_107 : decode cX12_next 107 = .ok (.getfield 113, 3) := by decide +kernel
theorem dX12_next_110 : decode cX12_next 110 = .ok (.iconst 1, 1) := by decide +kernel
theorem dX12_next_111 : decode cX12_next 111 = .ok (.iadd, 1) := by decide +kernel
theorem dX12_next_112 : decode cX12_next 112 = .ok (.putfield 113, 3) := by decide +kernel
theorem dX12_next_115 : decode cX12_next 115 = .ok (.goto (-31), 3) := by decide +kernel
theorem dX12_next_118 : decode cX12_next 118 = .ok (.aload_n 0, 1) := by decide +kernel
theorem dX12_next_119 : decode cX12_next 119 = .ok (.iconst 1, 1) := by decide +kernel
theorem dX12_next_120 : decode cX12_next 120 = .ok (.putfield 110, 3) := by decide +kernel
theorem dX12_next_123 : decode cX12_next 123 = .ok (.goto 146, 3) := by decide +kernel
theorem dX12_next_126 : decode cX12_next 126 = .ok (.iload_n 1, 1) := by decide +kernel
theorem dX12_next_127 : decode cX12_next 127 = .ok (.i2l, 1) := by decide +kernel
theorem dX12_next_128 : decode cX12_next 128 = .ok (.ldc2_w 127, 3) := by decide +kernel
theorem dX12_next_131 : decode cX12_next 131 = .ok (.ldc2_w 129, 3) := by decide +kernel
theorem dX12_next_134 : decode cX12_next 134 = .ok (.invokestatic 97, 3) := by decide +kernel
theorem dX12_next_137 : decode cX12_next 137 = .ok (.ifCond .eq 106, 3) := by decide +kernel
theorem dX12_next_140 : decode cX12_next 140 = .ok (.aload_n 0, 1) := by decide +kernel
theorem dX12_next_141 : decode cX12_next 141 = .ok (.aload_n 0, 1) := by decide +kernel
theorem dX12_next_142 : decode cX12_next 142 = .ok (.getfield 113, 3) := by decide +kernel
theorem dX12_next_145 : decode cX12_next 145 = .ok (.invokevirtual 116, 3) := by decide +kernel
theorem dX12_next_148 : decode cX12_next 148 = .ok (.i2l, 1) := by decide +kernel
theorem dX12_next_149 : decode cX12_next 149 = .ok (.ldc2_w 127, 3) := by decide +kernel
theorem dX12_next_152 : decode cX12_next 152 = .ok (.ldc2_w 129, 3) := by decide +kernel
theorem dX12_next_155 : decode cX12_next 155 = .ok (.invokestatic 97, 3) := by decide +kernel
theorem dX12_next_158 : decode cX12_next 158 = .ok (.ifCond .eq 59, 3) := by decide +kernel
theorem dX12_next_161 : decode cX12_next 161 = .ok (.aload_n 0, 1) := by decide +kernel
theorem dX12_next_162 : decode cX12_next 162 = .ok (.aload_n 0, 1) := by decide +kernel
theorem dX12_next_163 : decode cX12_next 163 = .ok (.getfield 113, 3) := by decide +kernel
theorem dX12_next_166 : decode cX12_next 166 = .ok (.aload_n 0, 1) := by decide +kernel
theorem dX12_next_167 : decode cX12_next 167 = .ok (.getfield 104, 3) := by decide +kernel
theorem dX12_next_170 : decode cX12_next 170 = .ok (.isub, 1) := by decide +kernel
theorem dX12_next_171 : decode cX12_next 171 = .ok (.iconst 3, 1) := by decide +kernel
theorem dX12_next_172 : decode cX12_next 172 = .ok (.if_icmp .ge 25, 3) := by decide +kernel
theorem dX12_next_175 : decode cX12_next 175 = .ok (.bipush 10, 2) := by decide +kernel
theorem dX12_next_177 : decode cX12_next 177 = .ok (.aload_n 0, 1) := by decide +kernel
theorem dX12_next_178 : decode cX12_next 178 = .ok (.getfield 120, 3) := by decide +kernel
theorem dX12_next_181 : decode cX12_next 181 = .ok (.imul, 1) := by decide +kernel
theorem dX12_next_182 : decode cX12_next 182 = .ok (.aload_n 0, 1) := by decide +kernel
theorem dX12_next_183 : decode cX12_next 183 = .ok (.aload_n 0, 1) := by decide +kernel
theorem dX12_next_184 : decode cX12_next 184 = .ok (.getfield 113, 3) := by decide +kernel
theorem dX12_next_187 : decode cX12_next 187 = .ok (.invokevirtual 116, 3) := by decide +kernel
theorem dX12_next_190 : decode cX12_next 190 = .ok (.iadd, 1) := by decide +kernel
theorem dX12_next_191 : decode cX12_next 191 = .ok (.bipush 48, 2) := by decide +kernel
theorem dX12_next_193 : decode cX12_next 193 = .ok (.isub, 1) := by decide +kernel
theorem dX12_next_194 : decode cX12_next 194 = .ok (.goto 7, 3) := by decide +kernel
theorem dX12_next_197 : decode cX12_next 197 = .ok (.aload_n 0, 1) := by decide +kernel
theorem dX12_next_198 : decode cX12_next 198 = .ok (.getfield 120, 3) := by decide +kernel
theorem dX12_next_201 : decode cX12_next 201 = .ok (.putfield 120, 3) := by decide +kernel
theorem dX12_next_204 : decode cX12_next 204 = .ok (.aload_n 0, 1) := by decide +kernel
theorem dX12_next_205 : decode cX12_next 205 = .ok (.dup, 1) := by decide +kernel
theorem dX12_next_206 : decode cX12_next 206 = .ok (.getfield 113, 3) := by decide +kernel
theorem dX12_next_209 : decode cX12_next 209 = .ok (.iconst 1, 1) := by decide +kernel
theorem dX12_next_210 : decode cX12_next 210 = .ok (.iadd, 1) := by decide +kernel
theorem dX12_next_211 : decode cX12_next 211 = .ok (.putfield 113, 3) := by decide +kernel
theorem dX12_next_214 : decode cX12_next 214 = .ok (.goto (-74), 3) := by decide +kernel
theorem dX12_next_217 : decode cX12_next 217 = .ok (.aload_n 0, 1) := by decide +kernel
theorem dX12_next_218 : decode cX12_next 218 = .ok (.iconst 2, 1) := by decide +kernel
theorem dX12_next_219 : decode cX12_next 219 = .ok (.putfield 110, 3) := by decide +kernel
theorem dX12_next_222 : decode cX12_next 222 = .ok (.aload_n 0, 1) := by decide +kernel
theorem dX12_next_223 : decode cX12_next 223 = .ok (.getfield 113, 3) := by decide +kernel
theorem dX12_next_226 : decode cX12_next 226 = .ok (.aload_n 0, 1) := by decide +kernel
theorem dX12_next_227 : decode cX12_next 227 = .ok (.getfield 104, 3) := by decide +kernel
theorem dX12_next_230 : decode cX12_next 230 = .ok (.isub, 1) := by decide +kernel
theorem dX12_next_231 : decode cX12_next 231 = .ok (.iconst 3, 1) := by decide +kernel
theorem dX12_next_232 : decode cX12_next 232 = .ok (.if_icmp .le 37, 3) := by decide +kernel
theorem dX12_next_235 : decode cX12_next 235 = .ok (.aload_n 0, 1) := by decide +kernel
theorem dX12_next_236 : decode cX12_next 236 = .ok (.iconst 1, 1) := by decide +kernel
theorem dX12_next_237 : decode cX12_next 237 = .ok (.invokevirtual 131, 3) := by decide +kernel
theorem dX12_next_240 : decode cX12_next 240 = .ok (.goto 29, 3) := by decide +kernel
theorem dX12_next_243 : decode cX12_next 243 = .ok (.aload_n 0, 1) := by decide +kernel
theorem dX12_next_244 : decode cX12_next 244 = .ok (.iconst 3, 1) := by decide +kernel
theorem dX12_next_245 : decode cX12_next 245 = .ok (.putfield 110, 3) := by decide +kernel
theorem dX12_next_248 : decode cX12_next 248 = .ok (.aload_n 0, 1) := by decide +kernel
theorem dX12_next_249 : decode cX12_next 249 = .ok (.dup, 1) := by decide +kernel
theorem dX12_next_250 : decode cX12_next 250 = .ok (.getfield 113, 3) := by decide +kernel
theorem dX12_next_253 : decode cX12_next 253 = .ok (.iconst 1, 1) := by decide +kernel
theorem dX12_next_254 : decode cX12_next 254 = .ok (.iadd, 1) := by decide +kernel
theorem dX12_next_255 : decode cX12_next 255 = .ok (.putfield 113, 3) := by decide +kernel
theorem dX12_next_258 : decode cX12_next 258 = .ok (.iload_n 1, 1) := by decide +kernel
theorem dX12_next_259 : decode cX12_next 259 = .ok (.bipush 59, 2) := by decide +kernel
theorem dX12_next_261 : decode cX12_next 261 = .ok (.if_icmp .eq 8, 3) := by decide +kernel
theorem dX12_next_264 : decode cX12_next 264 = .ok (.aload_n 0, 1) := by decide +kernel
theorem dX12_next_265 : decode cX12_next 265 = .ok (.iconst 1, 1) := by decide +kernel
theorem dX12_next_266 : decode cX12_next 266 = .ok (.invokevirtual 131, 3) := by decide +kernel
theorem dX12_next_269 : decode cX12_next 269 = .ok (.return_, 1) := by decide +kernel
theorem dX12_nextRow_0 : decode cX12_nextRow 0 = .ok (.aload_n 0, 1) := by decide +kernel
theorem dX12_nextRow_1 : decode cX12_nextRow 1 = .ok (.getfield 197, 3) := by decide +kernel
theorem dX12_nextRow_4 : decode cX12_nextRow 4 = .ok (.iconst 1, 1) := by decide +kernel
theorem dX12_nextRow_5 : decode cX12_nextRow 5 = .ok (.isub, 1) := by decide +kernel
theorem dX12_nextRow_6 : decode cX12_nextRow 6 = .ok (.istore_n 1, 1) := by decide +kernel
theorem dX12_nextRow_7 : decode cX12_nextRow 7 = .ok (.iload_n 1, 1) := by decide +kernel
theorem dX12_nextRow_8 : decode cX12_nextRow 8 = .ok (.ifCond .lt 96, 3) := by decide +kernel
theorem dX12_nextRow_11 : decode cX12_nextRow 11 = .ok (.aload_n 0, 1) := by decide +kernel
theorem dX12_nextRow_12 : decode cX12_nextRow 12 = .ok (.getfield 65, 3) := by decide +kernel
theorem dX12_nextRow_15 : decode cX12_nextRow 15 = .ok (.iload_n 1, 1) := by decide +kernel
theorem dX12_nextRow_16 : decode cX12_nextRow 16 = .ok (.iaload, 1) := by decide +kernel
theorem dX12_nextRow_17 : decode cX12_nextRow 17 = .ok (.iconst 1, 1) := by decide +kernel
theorem dX12_nextRow_18 : decode cX12_nextRow 18 = .ok (.iadd, 1) := by decide +kernel
theorem dX12_nextRow_19 : decode cX12_nextRow 19 = .ok (.istore_n 2, 1) := by decide +kernel
theorem dX12_nextRow_20 : decode cX12_nextRow 20 = .ok (.iload_n 2, 1) := by decide +kernel
theorem dX12_nextRow_21 : decode cX12_nextRow 21 = .ok (.bipush 8, 2) := by decide +kernel
theorem dX12_nextRow_23 : decode cX12_nextRow 23 = .ok (.if_icmp .ge 22, 3) := by decide +kernel
theorem dX12_nextRow_26 : decode cX12_nextRow 26 = .ok (.aload_n 0, 1) := by decide +kernel
theorem dX12_nextRow_27 : decode cX12_nextRow 27 = .ok (.getfield 62, 3) := by decide +kernel
theorem dX12_nextRow_30 : decode cX12_nextRow 30 = .ok (.iload_n 1, 1) := by decide +kernel
theorem dX12_nextRow_31 : decode cX12_nextRow 31 = .ok (.iaload, 1) := by decide +kernel
theorem dX12_nextRow_32 : decode cX12_nextRow 32 = .ok (.iload_n 2, 1) := by decide +kernel
theorem dX12_nextRow_33 : decode cX12_nextRow 33 = .ok (.ishr, 1) := by decide +kernel
theorem dX12_nextRow_34 : decode cX12_nextRow 34 = .ok (.iconst 1, 1) := by decide +kernel
theorem dX12_nextRow_35 : decode cX12_nextRow 35 = .ok (.iand, 1) := by decide +kernel
theorem dX12_nextRow_36 : decode cX12_nextRow 36 = .ok (.ifCond .ne 9, 3) := by decide +kernel
theorem dX12_nextRow_39 : decode cX12_nextRow 39 = .ok (.iinc 2 1, 3) := by decide +kernel
theorem dX12_nextRow_42 : decode cX12_nextRow 42 = .ok (.goto (-22), 3) := by decide +kernel
theorem dX12_nextRow_45 : decode cX12_nextRow 45 = .ok (.iload_n 2, 1) := by decide +kernel
theorem dX12_nextRow_46 : decode cX12_nextRow 46 = .ok (.bipush 8, 2) := by decide +kernel
theorem dX12_nextRow_48 : decode cX12_nextRow 48 = .ok (.if_icmp .ge 12, 3) := by decide +kernel
theorem dX12_nextRow_51 : decode cX12_nextRow 51 = .ok (.aload_n 0, 1) := by decide +kernel
theorem dX12_nextRow_52 : decode cX12_nextRow 52 = .ok (.getfield 65, 3) := by decide +kernel
theorem dX12_nextRow_55 : decode cX12_nextRow 55 = .ok (.iload_n 1, 1) := by decide +kernel
theorem dX12_nextRow_56 : decode cX12_nextRow 56 = .ok (.iload_n 2, 1) := by decide +kernel
theorem dX12_nextRow_57 : decode cX12_nextRow 57 = .ok (.iastore, 1) := by decide +kernel
theorem dX12_nextRow_58 : decode cX12_nextRow 58 = .ok (.iconst 1, 1) := by decide +kernel
theorem dX12_nextRow_59 : decode cX12_nextRow 59 = .ok (.ireturn, 1) := by decide +kernel
theorem dX12_nextRow_60 : decode cX12_nextRow 60 = .ok (.aload_n 0, 1) := by decide +kernel
theorem dX12_nextRow_61 : decode cX12_nextRow 61 = .ok (.getfield 65, 3) := by decide +kernel
theorem dX12_nextRow_64 : decode cX12_nextRow 64 = .ok (.iload_n 1, 1) := by decide +kernel
theorem dX12_nextRow_65 : decode cX12_nextRow 65 = .ok (.iconst 0, 1) := by decide +kernel
theorem dX12_nextRow_66 : decode cX12_nextRow 66 = .ok (.iastore, 1) := by decide +kernel
theorem dX12_nextRow_67 : decode cX12_nextRow 67 = .ok (.aload_n 0, 1) := by decide +kernel
theorem dX12_nextRow_68 : decode cX12_nextRow 68 = .ok (.getfield 62, 3) := by decide +kernel
theorem dX12_nextRow_71 : decode cX12_nextRow 71 = .ok (.iload_n 1, 1) := by decide +kernel
theorem dX12_nextRow_72 : decode cX12_nextRow 72 = .ok (.iaload, 1) := by decide +kernel
theorem dX12_nextRow_73 : decode cX12_nextRow 73 = .ok (.aload_n 0, 1) := by decide +kernel
theorem dX12_nextRow_74 : decode cX12_nextRow 74 = .ok (.getfield 65, 3) := by decide +kernel
theorem dX12_nextRow_77 : decode cX12_nextRow 77 = .ok (.iload_n 1, 1) := by decide +kernel
theorem dX12_nextRow_78 : decode cX12_nextRow 78 = .ok (.iaload, 1) := by decide +kernel
theorem dX12_nextRow_79 : decode cX12_nextRow 79 = .ok (.ishr, 1) := by decide +kernel
theorem dX12_nextRow_80 : decode cX12_nextRow 80 = .ok (.iconst 1, 1) := by decide +kernel
theorem dX12_nextRow_81 : decode cX12_nextRow 81 = .ok (.iand, 1) := by decide +kernel
theorem dX12_nextRow_82 : decode cX12_nextRow 82 = .ok (.ifCond .ne 16, 3) := by decide +kernel
theorem dX12_nextRow_85 : decode cX12_nextRow 85 = .ok (.aload_n 0, 1) := by decide +kernel
theorem dX12_nextRow_86 : decode cX12_nextRow 86 = .ok (.getfield 65, 3) := by decide +kernel
theorem dX12_nextRow_89 : decode cX12_nextRow 89 = .ok (.iload_n 1, 1) := by decide +kernel
theorem dX12_nextRow_90 : decode cX12_nextRow 90 = .ok (.dup2, 1) := by decide +kernel
theorem dX12_nextRow_91 : decode cX12_nextRow 91 = .ok (.iaload, 1) := by decide +kernel
theorem dX12_nextRow_92 : decode cX12_nextRow 92 = .ok (.iconst 1, 1) := by decide +kernel
theorem dX12_nextRow_93 : decode cX12_nextRow 93 = .ok (.iadd, 1) := by decide +kernel
theorem dX12_nextRow_94 : decode cX12_nextRow 94 = .ok (.iastore, 1) := by decide +kernel
theorem dX12_nextRow_95 : decode cX12_nextRow 95 = .ok (.goto (-28), 3) := by decide +kernel
theorem dX12_nextRow_98 : decode cX12_nextRow 98 = .ok (.iinc 1 (-1), 3) := by decide +kernel
theorem dX12_nextRow_101 : decode cX12_nextRow 101 = .ok (.goto (-94), 3) := by decide +kernel
theorem dX12_nextRow_104 : decode cX12_nextRow 104 = .ok (.iconst 0, 1) := by decide +kernel
theorem dX12_nextRow_105 : decode cX12_nextRow 105 = .ok (.ireturn, 1) := by decide +kernel
theorem dX12_number_0 : decode cX12_number 0 = .ok (.aload_n 0, 1) := by decide +kernel
theorem dX12_number_1 : decode cX12_number 1 = .ok (.getfield 101, 3) := by decide +kernel
theorem dX12_number_4 : decode cX12_number 4 = .ok (.ifCond .ne 16, 3) := by decide +kernel
theorem dX12_number_7 : decode cX12_number 7 = .ok (.aload_n 0, 1) := by decide +kernel
theorem dX12_number_8 : decode cX12_number 8 = .ok (.getfield 110, 3) := by decide +kernel
theorem dX12_number_11 : decode cX12_number 11 = .ok (.iconst 2, 1) := by decide +kernel
theorem dX12_number_12 : decode cX12_number 12 = .ok (.if_icmp .eq 8, 3) := by decide +kernel
theorem dX12_number_15 : decode cX12_number 15 = .ok (.aload_n 0, 1) := by decide +kernel
theorem dX12_number_16 : decode cX12_number 16 = .ok (.iconst 2, 1) := by decide +kernel
theorem dX12_number_17 : decode cX12_number 17 = .ok (.invokevirtual 131, 3) := by decide +kernel
theorem dX12_number_20 : decode cX12_number 20 = .ok (.aload_n 0, 1) := by decide +kernel
theorem dX12_number_21 : decode cX12_number 21 = .ok (.getfield 101, 3) := by decide +kernel
theorem dX12_number_24 : decode cX12_number 24 = .ok (.ifCond .ne 23, 3) := by decide +kernel
theorem dX12_number_27 : decode cX12_number 27 = .ok (.aload_n 0, 1) := by decide +kernel
theorem dX12_number_28 : decode cX12_number 28 = .ok (.getfield 120, 3) := by decide +kernel
theorem dX12_number_31 : decode cX12_number 31 = .ok (.i2l, 1) := by decide +kernel
theorem dX12_number_32 : decode cX12_number 32 = .ok (.iload_n 1, 1) := by decide +kernel
theorem dX12_number_33 : decode cX12_number 33 = .ok (.i2l, 1) := by decide +kernel
theorem dX12_number_34 : decode cX12_number 34 = .ok (.iload_n 2, 1) := by decide +kernel
theorem dX12_number_35 : decode cX12_number 35 = .ok (.i2l, 1) := by decide +kernel
theorem dX12_number_36 : decode cX12_number 36 = .ok (.invokestatic 97, 3) := by decide +kernel
theorem dX12_number_39 : decode cX12_number 39 = .ok (.ifCond .ne 8, 3) := by decide +kernel
theorem dX12_number_42 : decode cX12_number 42 = .ok (.aload_n 0, 1) := by decide +kernel
theorem dX12_number_43 : decode cX12_number 43 = .ok (.iconst 3, 1) := by decide +kernel
theorem dX12_number_44 : decode cX12_number 44 = .ok (.invokevirtual 131, 3) := by decide +kernel
theorem dX12_number_47 : decode cX12_number 47 = .ok (.aload_n 0, 1) := by decide +kernel
theorem dX12_number_48 : decode cX12_number 48 = .ok (.getfield 101, 3) := by decide +kernel
theorem dX12_number_51 : decode cX12_number 51 = .ok (.ifCond .ne 10, 3) := by decide +kernel
theorem dX12_number_54 : decode cX12_number 54 = .ok (.aload_n 0, 1) := by decide +kernel
theorem dX12_number_55 : decode cX12_number 55 = .ok (.getfield 120, 3) := by decide +kernel
theorem dX12_number_58 : decode cX12_number 58 = .ok (.goto 4, 3) := by decide +kernel
theorem dX12_number_61 : decode cX12_number 61 = .ok (.iload_n 1, 1) := by decide +kernel
theorem dX12_number_62 : decode cX12_number 62 = .ok (.istore_n 3, 1) := by decide +kernel
theorem dX12_number_63 : decode cX12_number 63 = .ok (.aload_n 0, 1) := by decide +kernel
theorem dX12_number_64 : decode cX12_number 64 = .ok (.invokevirtual 135, 3) := by decide +kernel
theorem dX12_number_67 : decode cX12_number 67 = .ok (.iload_n 3, 1) := by decide +kernel
theorem dX12_number_68 : decode cX12_number 68 = .ok (.ireturn, 1) := by decide +kernel
theorem dX12_of_0 : decode cX12_of 0 = .ok (.iload_n 1, 1) := by decide +kernel
theorem dX12_of_1 : decode cX12_of 1 = .ok (.invokestatic 283, 3) := by decide +kernel
theorem dX12_of_4 : decode cX12_of 4 = .ok (.ifCond .eq 24, 3) := by decide +kernel
theorem dX12_of_7 : decode cX12_of 7 = .ok (.aload_n 0, 1) := by decide +kernel
theorem dX12_of_8 : decode cX12_of 8 = .ok (.iload_n 3, 1) := by decide +kernel
theorem dX12_of_9 : decode cX12_of 9 = .ok (.invokevirtual 162, 3) := by decide +kernel
theorem dX12_of_12 : decode cX12_of 12 = .ok (.ifCond .eq 16, 3) := by decide +kernel
theorem dX12_of_15 : decode cX12_of 15 = .ok (.iload 4, 2) := by decide +kernel
theorem dX12_of_17 : decode cX12_of 17 = .ok (.i2l, 1) := by decide +kernel
theorem dX12_of_18 : decode cX12_of 18 = .ok (.lconst 0, 1) := by decide +kernel
theorem dX12_of_19 : decode cX12_of 19 = .ok (.ldc2_w 278, 3) := by decide +kernel
theorem dX12_of_22 : decode cX12_of 22 = .ok (.invokestatic 97, 3) := by decide +kernel
theorem dX12_of_25 : decode cX12_of 25 = .ok (.ifCond .ne 6, 3) := by decide +kernel
theorem dX12_of_28 : decode cX12_of 28 = .ok (.ldc 171, 2) := by decide +kernel
theorem dX12_of_30 : decode cX12_of 30 = .ok (.ireturn, 1) := by decide +kernel
theorem dX12_of_31 : decode cX12_of 31 = .ok (.aload_n 0, 1) := by decide +kernel
theorem dX12_of_32 : decode cX12_of 32 = .ok (.iload_n 1, 1) := by decide +kernel
theorem dX12_of_33 : decode cX12_of 33 = .ok (.iload_n 2, 1) := by decide +kernel
theorem dX12_of_34 : decode cX12_of 34 = .ok (.invokevirtual 286, 3) := by decide +kernel
theorem dX12_of_37 : decode cX12_of 37 = .ok (.iload 4, 2) := by decide +kernel
theorem dX12_of_39 : decode cX12_of 39 = .ok (.tableswitch 78 0 5 #[37, 44, 51, 58, 65, 71], 37) := by decide +kernel
theorem dX12_of_76 : decode cX12_of 76 = .ok (.aload_n 0, 1) := by decide +kernel
theorem dX12_of_77 : decode cX12_of 77 = .ok (.getfield 35, 3) := by decide +kernel
theorem dX12_of_80 : decode cX12_of 80 = .ok (.iload_n 3, 1) := by decide +kernel
theorem dX12_of_81 : decode cX12_of 81 = .ok (.iaload, 1) := by decide +kernel
theorem dX12_of_82 : decode cX12_of 82 = .ok (.ireturn, 1) := by decide +kernel
theorem dX12_of_83 : decode cX12_of 83 = .ok (.aload_n 0, 1) := by decide +kernel
theorem dX12_of_84 : decode cX12_of 84 = .ok (.getfield 38, 3) := by decide +kernel
theorem dX12_of_87 : decode cX12_of 87 = .ok (.iload_n 3, 1) := by decide +kernel
theorem dX12_of_88 : decode cX12_of 88 = .ok (.iaload, 1) := by decide +kernel
theorem dX12_of_89 : decode cX12_of 89 = .ok (.ireturn, 1) := by decide +kernel
theorem dX12_of_90 : decode cX12_of 90 = .ok (.aload_n 0, 1) := by decide +kernel
theorem dX12_of_91 : decode cX12_of 91 = .ok (.getfield 41, 3) := by decide +kernel
theorem dX12_of_94 : decode cX12_of 94 = .ok (.iload_n 3, 1) := by decide +kernel
theorem dX12_of_95 : decode cX12_of 95 = .ok (.iaload, 1) := by decide +kernel
theorem dX12_of_96 : decode cX12_of 96 = .ok (.ireturn, 1) := by decide +kernel
theorem dX12_of_97 : decode cX12_of 97 = .ok (.aload_n 0, 1) := by decide +kernel
theorem dX12_of_98 : decode cX12_of 98 = .ok (.getfield 44, 3) := by decide +kernel
theorem dX12_of_101 : decode cX12_of 101 = .ok (.iload_n 3, 1) := by decide +kernel
theorem dX12_of_102 : decode cX12_of 102 = .ok (.iaload, 1) := by decide +kernel
theorem dX12_of_103 : decode cX12_of 103 = .ok (.ireturn, 1) := by decide +kernel
theorem dX12_of_104 : decode cX12_of 104 = .ok (.aload_n 0, 1) := by decide +kernel
theorem dX12_of_105 : decode cX12_of 105 = .ok (.iload_n 3, 1) := by decide +kernel
theorem dX12_of_106 : decode cX12_of 106 = .ok (.invokevirtual 209, 3) := by decide +kernel
theorem dX12_of_109 : decode cX12_of 109 = .ok (.ireturn, 1) := by decide +kernel
theorem dX12_of_110 : decode cX12_of 110 = .ok (.aload_n 0, 1) := by decide +kernel
theorem dX12_of_111 : decode cX12_of 111 = .ok (.getfield 50, 3) := by decide +kernel
theorem dX12_of_114 : decode cX12_of 114 = .ok (.iload_n 3, 1) := by decide +kernel
theorem dX12_of_115 : decode cX12_of 115 = .ok (.iaload, 1) := by decide +kernel
theorem dX12_of_116 : decode cX12_of 116 = .ok (.ireturn, 1) := by decide +kernel
theorem dX12_of_117 : decode cX12_of 117 = .ok (.aload_n 0, 1) := by decide +kernel
theorem dX12_of_118 : decode cX12_of 118 = .ok (.getfield 47, 3) := by decide +kernel
theorem dX12_of_121 : decode cX12_of 121 = .ok (.iload_n 3, 1) := by decide +kernel
theorem dX12_of_122 : decode cX12_of 122 = .ok (.iaload, 1) := by decide +kernel
theorem dX12_of_123 : decode cX12_of 123 = .ok (.ireturn, 1) := by decide +kernel
theorem dX12_one_0 : decode cX12_one 0 = .ok (.aload_n 0, 1) := by decide +kernel
theorem dX12_one_1 : decode cX12_one 1 = .ok (.iload_n 1, 1) := by decide +kernel
theorem dX12_one_2 : decode cX12_one 2 = .ok (.invokevirtual 162, 3) := by decide +kernel
theorem dX12_one_5 : decode cX12_one 5 = .ok (.ifCond .eq 24, 3) := by decide +kernel
theorem dX12_one_8 : decode cX12_one 8 = .ok (.iload_n 2, 1) := by decide +kernel
theorem dX12_one_9 : decode cX12_one 9 = .ok (.i2l, 1) := by decide +kernel
theorem dX12_one_10 : decode cX12_one 10 = .ok (.lconst 0, 1) := by decide +kernel
theorem dX12_one_11 : decode cX12_one 11 = .ok (.ldc2_w 166, 3) := by decide +kernel
theorem dX12_one_14 : decode cX12_one 14 = .ok (.invokestatic 97, 3) := by decide +kernel
theorem dX12_one_17 : decode cX12_one 17 = .ok (.ifCond .eq 12, 3) := by decide +kernel
theorem dX12_one_20 : decode cX12_one 20 = .ok (.aload_n 0, 1) := by decide +kernel
theorem dX12_one_21 : decode cX12_one 21 = .ok (.iload_n 1, 1) := by decide +kernel
theorem dX12_one_22 : decode cX12_one 22 = .ok (.iload_n 2, 1) := by decide +kernel
theorem dX12_one_23 : decode cX12_one 23 = .ok (.invokevirtual 168, 3) := by decide +kernel
theorem dX12_one_26 : decode cX12_one 26 = .ok (.goto 5, 3) := by decide +kernel
theorem dX12_one_29 : decode cX12_one 29 = .ok (.ldc 171, 2) := by decide +kernel
theorem dX12_one_31 : decode cX12_one 31 = .ok (.ireturn, 1) := by decide +kernel
theorem dX12_oneRound_0 : decode cX12_oneRound 0 = .ok (.aload_n 0, 1) := by decide +kernel
theorem dX12_oneRound_1 : decode cX12_oneRound 1 = .ok (.invokevirtual 248, 3) := by decide +kernel
theorem dX12_oneRound_4 : decode cX12_oneRound 4 = .ok (.istore_n 3, 1) := by decide +kernel
theorem dX12_oneRound_5 : decode cX12_oneRound 5 = .ok (.iload_n 3, 1) := by decide +kernel
theorem dX12_oneRound_6 : decode cX12_oneRound 6 = .ok (.invokestatic 222, 3) := by decide +kernel
theorem dX12_oneRound_9 : decode cX12_oneRound 9 = .ok (.istore 4, 2) := by decide +kernel
theorem dX12_oneRound_11 : decode cX12_oneRound 11 = .ok (.iload 4, 2) := by decide +kernel
theorem dX12_oneRound_13 : decode cX12_oneRound 13 = .ok (.aload_n 0, 1) := by decide +kernel
theorem dX12_oneRound_14 : decode cX12_oneRound 14 = .ok (.getfield 19, 3) := by decide +kernel
theorem dX12_oneRound_17 : decode cX12_oneRound 17 = .ok (.bipush 73, 2) := by decide +kernel
theorem dX12_oneRound_19 : decode cX12_oneRound 19 = .ok (.iaload, 1) := by decide +kernel
theorem dX12_oneRound_20 : decode cX12_oneRound 20 = .ok (.if_icmp .ge 16, 3) := by decide +kernel
theorem dX12_oneRound_23 : decode cX12_oneRound 23 = .ok (.iload 4, 2) := by decide +kernel
theorem dX12_oneRound_25 : decode cX12_oneRound 25 = .ok (.ifCond .le 15, 3) := by decide +kernel
theorem dX12_oneRound_28 : decode cX12_oneRound 28 = .ok (.iload_n 3, 1) := by decide +kernel
theorem dX12_oneRound_29 : decode cX12_oneRound 29 = .ok (.aload_n 0, 1) := by decide +kernel
theorem dX12_oneRound_30 : decode cX12_oneRound 30 = .ok (.invokevirtual 235, 3) := by decide +kernel
theorem dX12_oneRound_33 : decode cX12_oneRound 33 = .ok (.if_icmp .ne 7, 3) := by decide +kernel
theorem dX12_oneRound_36 : decode cX12_oneRound 36 = .ok (.iconst 1, 1) := by decide +kernel
theorem dX12_oneRound_37 : decode cX12_oneRound 37 = .ok (.goto 4, 3) := by decide +kernel
theorem dX12_oneRound_40 : decode cX12_oneRound 40 = .ok (.iconst 0, 1) := by decide +kernel
theorem dX12_oneRound_41 : decode cX12_oneRound 41 = .ok (.istore 5, 2) := by decide +kernel
theorem dX12_oneRound_43 : decode cX12_oneRound 43 = .ok (.iload 5, 2) := by decide +kernel
theorem dX12_oneRound_45 : decode cX12_oneRound 45 = .ok (.ifCond .eq 12, 3) := by decide +kernel
theorem dX12_oneRound_48 : decode cX12_oneRound 48 = .ok (.aload_n 0, 1) := by decide +kernel
theorem dX12_oneRound_49 : decode cX12_oneRound 49 = .ok (.getfield 197, 3) := by decide +kernel
theorem dX12_oneRound_52 : decode cX12_oneRound 52 = .ok (.bipush 40, 2) := by decide +kernel
theorem dX12_oneRound_54 : decode cX12_oneRound 54 = .ok (.if_icmp .ne 4, 3) := by decide +kernel
theorem dX12_oneRound_57 : decode cX12_oneRound 57 = .ok (.return_, 1) := by decide +kernel
theorem dX12_oneRound_58 : decode cX12_oneRound 58 = .ok (.iload_n 2, 1) := by decide +kernel
theorem dX12_oneRound_59 : decode cX12_oneRound 59 = .ok (.bipush 6, 2) := by decide +kernel
theorem dX12_oneRound_61 : decode cX12_oneRound 61 = .ok (.if_icmp .ne 10, 3) := by decide +kernel
theorem dX12_oneRound_64 : decode cX12_oneRound 64 = .ok (.aload_n 0, 1) := by decide +kernel
theorem dX12_oneRound_65 : decode cX12_oneRound 65 = .ok (.iload_n 1, 1) := by decide +kernel
theorem dX12_oneRound_66 : decode cX12_oneRound 66 = .ok (.iload_n 3, 1) := by decide +kernel
theorem dX12_oneRound_67 : decode cX12_oneRound 67 = .ok (.invokevirtual 251, 3) := by decide +kernel
theorem dX12_oneRound_70 : decode cX12_oneRound 70 = .ok (.return_, 1) := by decide +kernel
theorem dX12_oneRound_71 : decode cX12_oneRound 71 = .ok (.aload_n 0, 1) := by decide +kernel
theorem dX12_oneRound_72 : decode cX12_oneRound 72 = .ok (.iload_n 3, 1) := by decide +kernel
theorem dX12_oneRound_73 : decode cX12_oneRound 73 = .ok (.invokevirtual 238, 3) := by decide +kernel
theorem dX12_oneRound_76 : decode cX12_oneRound 76 = .ok (.istore 6, 2) := by decide +kernel
theorem dX12_oneRound_78 : decode cX12_oneRound 78 = .ok (.aload_n 0, 1) := by decide +kernel
theorem dX12_oneRound_79 : decode cX12_oneRound 79 = .ok (.iload 6, 2) := by decide +kernel
theorem dX12_oneRound_81 : decode cX12_oneRound 81 = .ok (.invokevirtual 254, 3) := by decide +kernel
theorem dX12_oneRound_84 : decode cX12_oneRound 84 = .ok (.istore 7, 2) := by decide +kernel
theorem dX12_oneRound_86 : decode cX12_oneRound 86 = .ok (.iload 7, 2) := by decide +kernel
theorem dX12_oneRound_88 : decode cX12_oneRound 88 = .ok (.ifCond .ne 14, 3) := by decide +kernel
theorem dX12_oneRound_91 : decode cX12_oneRound 91 = .ok (.aload_n 0, 1) := by decide +kernel
theorem dX12_oneRound_92 : decode cX12_oneRound 92 = .ok (.dup, 1) := by decide +kernel
theorem dX12_oneRound_93 : decode cX12_oneRound 93 = .ok (.getfield 206, 3) := by decide +kernel
theorem dX12_oneRound_96 : decode cX12_oneRound 96 = .ok (.iconst 1, 1) := by decide +kernel
theorem dX12_oneRound_97 : decode cX12_oneRound 97 = .ok (.iadd, 1) := by decide +kernel
theorem dX12_oneRound_98 : decode cX12_oneRound 98 = .ok (.putfield 206, 3) := by decide +kernel
theorem dX12_oneRound_101 : decode cX12_oneRound 101 = .ok (.return_, 1) := by decide +kernel
theorem dX12_oneRound_102 : decode cX12_oneRound 102 = .ok (.aload_n 0, 1) := by decide +kernel
theorem dX12_oneRound_103 : decode cX12_oneRound 103 = .ok (.iload_n 2, 1) := by decide +kernel
theorem dX12_oneRound_104 : decode cX12_oneRound 104 = .ok (.iload 7, 2) := by decide +kernel
theorem dX12_oneRound_106 : decode cX12_oneRound 106 = .ok (.invokevirtual 257, 3) := by decide +kernel
theorem dX12_oneRound_109 : decode cX12_oneRound 109 = .ok (.istore 8, 2) := by decide +kernel
theorem dX12_oneRound_111 : decode cX12_oneRound 111 = .ok (.aload_n 0, 1) := by decide +kernel
theorem dX12_oneRound_112 : decode cX12_oneRound 112 = .ok (.getfield 38, 3) := by decide +kernel
theorem dX12_oneRound_115 : decode cX12_oneRound 115 = .ok (.iload 8, 2) := by decide +kernel
theorem dX12_oneRound_117 : decode cX12_oneRound 117 = .ok (.dup2, 1) := by decide +kernel
theorem dX12_oneRound_118 : decode cX12_oneRound 118 = .ok (.iaload, 1) := by decide +kernel
theorem dX12_oneRound_119 : decode cX12_oneRound 119 = .ok (.iload 6, 2) := by decide +kernel
theorem dX12_oneRound_121 : decode cX12_oneRound 121 = .ok (.iadd, 1) := by decide +kernel
theorem dX12_oneRound_122 : decode cX12_oneRound 122 = .ok (.iastore, 1) := by decide +kernel
theorem dX12_oneRound_123 : decode cX12_oneRound 123 = .ok (.aload_n 0, 1) := by decide +kernel
theorem dX12_oneRound_124 : decode cX12_oneRound 124 = .ok (.getfield 47, 3) := by decide +kernel
theorem dX12_oneRound_127 : decode cX12_oneRound 127 = .ok (.iload 8, 2) := by decide +kernel
theorem dX12_oneRound_129 : decode cX12_oneRound 129 = .ok (.dup2, 1) := by decide +kernel
theorem dX12_oneRound_130 : decode cX12_oneRound 130 = .ok (.iaload, 1) := by decide +kernel
theorem dX12_oneRound_131 : decode cX12_oneRound 131 = .ok (.iload 6, 2) := by decide +kernel
theorem dX12_oneRound_133 : decode cX12_oneRound 133 = .ok (.isub, 1) := by decide +kernel
theorem dX12_oneRound_134 : decode cX12_oneRound 134 = .ok (.iastore, 1) := by decide +kernel
theorem dX12_oneRound_135 : decode cX12_oneRound 135 = .ok (.aload_n 0, 1) := by decide +kernel
theorem dX12_oneRound_136 : decode cX12_oneRound 136 = .ok (.getfield 44, 3) := by decide +kernel
theorem dX12_oneRound_139 : decode cX12_oneRound 139 = .ok (.iload 8, 2) := by decide +kernel
theorem dX12_oneRound_141 : decode cX12_oneRound 141 = .ok (.dup2, 1) := by decide +kernel
theorem dX12_oneRound_142 : decode cX12_oneRound 142 = .ok (.iaload, 1) := by decide +kernel
theorem dX12_oneRound_143 : decode cX12_oneRound 143 = .ok (.iconst 1, 1) := by decide +kernel
theorem dX12_oneRound_144 : decode cX12_oneRound 144 = .ok (.iadd, 1) := by decide +kernel
theorem dX12_oneRound_145 : decode cX12_oneRound 145 = .ok (.iastore, 1) := by decide +kernel
theorem dX12_oneRound_146 : decode cX12_oneRound 146 = .ok (.aload_n 0, 1) := by decide +kernel
theorem dX12_oneRound_147 : decode cX12_oneRound 147 = .ok (.iload_n 1, 1) := by decide +kernel
theorem dX12_oneRound_148 : decode cX12_oneRound 148 = .ok (.iload 8, 2) := by decide +kernel
theorem dX12_oneRound_150 : decode cX12_oneRound 150 = .ok (.iload 6, 2) := by decide +kernel
theorem dX12_oneRound_152 : decode cX12_oneRound 152 = .ok (.iload_n 3, 1) := by decide +kernel
theorem dX12_oneRound_153 : decode cX12_oneRound 153 = .ok (.invokevirtual 241, 3) := by decide +kernel
theorem dX12_oneRound_156 : decode cX12_oneRound 156 = .ok (.aload_n 0, 1) := by decide +kernel
theorem dX12_oneRound_157 : decode cX12_oneRound 157 = .ok (.iload 8, 2) := by decide +kernel
theorem dX12_oneRound_159 : decode cX12_oneRound 159 = .ok (.putfield 188, 3) := by decide +kernel
theorem dX12_oneRound_162 : decode cX12_oneRound 162 = .ok (.aload_n 0, 1) := by decide +kernel
theorem dX12_oneRound_163 : decode cX12_oneRound 163 = .ok (.getfield 56, 3) := by decide +kernel
theorem dX12_oneRound_166 : decode cX12_oneRound 166 = .ok (.iload 8, 2) := by decide +kernel
theorem dX12_oneRound_168 : decode cX12_oneRound 168 = .ok (.aload_n 0, 1) := by decide +kernel
theorem dX12_oneRound_169 : decode cX12_oneRound 169 = .ok (.getfield 191, 3) := by decide +kernel
theorem dX12_oneRound_172 : decode cX12_oneRound 172 = .ok (.iastore, 1) := by decide +kernel
theorem dX12_oneRound_173 : decode cX12_oneRound 173 = .ok (.aload_n 0, 1) := by decide +kernel
theorem dX12_oneRound_174 : decode cX12_oneRound 174 = .ok (.invokevirtual 245, 3) := by decide +kernel
theorem dX12_oneRound_177 : decode cX12_oneRound 177 = .ok (.return_, 1) := by decide +kernel
theorem dX12_opens_0 : decode cX12_opens 0 = .ok (.aload_n 0, 1) := by decide +kernel
theorem dX12_opens_1 : decode cX12_opens 1 = .ok (.iconst 0, 1) := by decide +kernel
theorem dX12_opens_2 : decode cX12_opens 2 = .ok (.putfield 197, 3) := by decide +kernel
theorem dX12_opens_5 : decode cX12_opens 5 = .ok (.aload_n 0, 1) := by decide +kernel
theorem dX12_opens_6 : decode cX12_opens 6 = .ok (.iconst 0, 1) := by decide +kernel
theorem dX12_opens_7 : decode cX12_opens 7 = .ok (.putfield 200, 3) := by decide +kernel
theorem dX12_opens_10 : decode cX12_opens 10 = .ok (.aload_n 0, 1) := by decide +kernel
theorem dX12_opens_11 : decode cX12_opens 11 = .ok (.iconst 0, 1) := by decide +kernel
theorem dX12_opens_12 : decode cX12_opens 12 = .ok (.putfield 203, 3) := by decide +kernel
theorem dX12_opens_15 : decode cX12_opens 15 = .ok (.aload_n 0, 1) := by decide +kernel
theorem dX12_opens_16 : decode cX12_opens 16 = .ok (.iconst 0, 1) := by decide +kernel
theorem dX12_opens_17 : decode cX12_opens 17 = .ok (.putfield 206, 3) := by decide +kernel
theorem dX12_opens_20 : decode cX12_opens 20 = .ok (.iconst 0, 1) := by decide +kernel
theorem dX12_opens_21 : decode cX12_opens 21 = .ok (.istore_n 1, 1) := by decide +kernel
theorem dX12_opens_22 : decode cX12_opens 22 = .ok (.iload_n 1, 1) := by decide +kernel
theorem dX12_opens_23 : decode cX12_opens 23 = .ok (.bipush 8, 2) := by decide +kernel
theorem dX12_opens_25 : decode cX12_opens 25 = .ok (.if_icmp .ge 94, 3) := by decide +kernel
theorem dX12_opens_28 : decode cX12_opens 28 = .ok (.aload_n 0, 1) := by decide +kernel
theorem dX12_opens_29 : decode cX12_opens 29 = .ok (.getfield 25, 3) := by decide +kernel
theorem dX12_opens_32 : decode cX12_opens 32 = .ok (.iload_n 1, 1) := by decide +kernel
theorem dX12_opens_33 : decode cX12_opens 33 = .ok (.iconst 0, 1) := by decide +kernel
theorem dX12_opens_34 : decode cX12_opens 34 = .ok (.bastore, 1) := by decide +kernel
theorem dX12_opens_35 : decode cX12_opens 35 = .ok (.aload_n 0, 1) := by decide +kernel
theorem dX12_opens_36 : decode cX12_opens 36 = .ok (.getfield 29, 3) := by decide +kernel
theorem dX12_opens_39 : decode cX12_opens 39 = .ok (.iload_n 1, 1) := by decide +kernel
theorem dX12_opens_40 : decode cX12_opens 40 = .ok (.bipush (-4), 2) := by decide +kernel
theorem dX12_opens_42 : decode cX12_opens 42 = .ok (.iastore, 1) := by decide +kernel
theorem dX12_opens_43 : decode cX12_opens 43 = .ok (.aload_n 0, 1) := by decide +kernel
theorem dX12_opens_44 : decode cX12_opens 44 = .ok (.getfield 32, 3) := by decide +kernel
theorem dX12_opens_47 : decode cX12_opens 47 = .ok (.iload_n 1, 1) := by decide +kernel
theorem dX12_opens_48 : decode cX12_opens 48 = .ok (.bipush (-4), 2) := by decide +kernel
theorem dX12_opens_50 : decode cX12_opens 50 = .ok (.iastore, 1) := by decide +kernel
theorem dX12_opens_51 : decode cX12_opens 51 = .ok (.aload_n 0, 1) := by decide +kernel
theorem dX12_opens_52 : decode cX12_opens 52 = .ok (.getfield 35, 3) := by decide +kernel
theorem dX12_opens_55 : decode cX12_opens 55 = .ok (.iload_n 1, 1) := by decide +kernel
theorem dX12_opens_56 : decode cX12_opens 56 = .ok (.iconst 0, 1) := by decide +kernel
theorem dX12_opens_57 : decode cX12_opens 57 = .ok (.iastore, 1) := by decide +kernel
theorem dX12_opens_58 : decode cX12_opens 58 = .ok (.aload_n 0, 1) := by decide +kernel
theorem dX12_opens_59 : decode cX12_opens 59 = .ok (.getfield 38, 3) := by decide +kernel
theorem dX12_opens_62 : decode cX12_opens 62 = .ok (.iload_n 1, 1) := by decide +kernel
theorem dX12_opens_63 : decode cX12_opens 63 = .ok (.iconst 0, 1) := by decide +kernel
theorem dX12_opens_64 : decode cX12_opens 64 = .ok (.iastore, 1) := by decide +kernel
theorem dX12_opens_65 : decode cX12_opens 65 = .ok (.aload_n 0, 1) := by decide +kernel
theorem dX12_opens_66 : decode cX12_opens 66 = .ok (.getfield 41, 3) := by decide +kernel
theorem dX12_opens_69 : decode cX12_opens 69 = .ok (.iload_n 1, 1) := by decide +kernel
theorem dX12_opens_70 : decode cX12_opens 70 = .ok (.iconst 0, 1) := by decide +kernel
theorem dX12_opens_71 : decode cX12_opens 71 = .ok (.iastore, 1) := by decide +kernel
theorem dX12_opens_72 : decode cX12_opens 72 = .ok (.aload_n 0, 1) := by decide +kernel
theorem dX12_opens_73 : decode cX12_opens 73 = .ok (.getfield 44, 3) := by decide +kernel
theorem dX12_opens_76 : decode cX12_opens 76 = .ok (.iload_n 1, 1) := by decide +kernel
theorem dX12_opens_77 : decode cX12_opens 77 = .ok (.iconst 0, 1) := by decide +kernel
theorem dX12_opens_78 : decode cX12_opens 78 = .ok (.iastore, 1) := by decide +kernel
theorem dX12_opens_79 : decode cX12_opens 79 = .ok (.aload_n 0, 1) := by decide +kernel
theorem dX12_opens_80 : decode cX12_opens 80 = .ok (.getfield 47, 3) := by decide +kernel
theorem dX12_opens_83 : decode cX12_opens 83 = .ok (.iload_n 1, 1) := by decide +kernel
theorem dX12_opens_84 : decode cX12_opens 84 = .ok (.iload_n 1, 1) := by decide +kernel
theorem dX12_opens_85 : decode cX12_opens 85 = .ok (.aload_n 0, 1) := by decide +kernel
theorem dX12_opens_86 : decode cX12_opens 86 = .ok (.getfield 19, 3) := by decide +kernel
theorem dX12_opens_89 : decode cX12_opens 89 = .ok (.bipush 72, 2) := by decide +kernel
theorem dX12_opens_91 : decode cX12_opens 91 = .ok (.iaload, 1) := by decide +kernel
theorem dX12_opens_92 : decode cX12_opens 92 = .ok (.if_icmp .ge 12, 3) := by decide +kernel
theorem dX12_opens_95 : decode cX12_opens 95 = .ok (.aload_n 0, 1) := by decide +kernel
theorem dX12_opens_96 : decode cX12_opens 96 = .ok (.iload_n 1, 1) := by decide +kernel
theorem dX12_opens_97 : decode cX12_opens 97 = .ok (.iconst 4, 1) := by decide +kernel
theorem dX12_opens_98 : decode cX12_opens 98 = .ok (.invokevirtual 168, 3) := by decide +kernel
theorem dX12_opens_101 : decode cX12_opens 101 = .ok (.goto 4, 3) := by decide +kernel
theorem dX12_opens_104 : decode cX12_opens 104 = .ok (.iconst 0, 1) := by decide +kernel
theorem dX12_opens_105 : decode cX12_opens 105 = .ok (.iastore, 1) := by decide +kernel
theorem dX12_opens_106 : decode cX12_opens 106 = .ok (.aload_n 0, 1) := by decide +kernel
theorem dX12_opens_107 : decode cX12_opens 107 = .ok (.getfield 50, 3) := by decide +kernel
theorem dX12_opens_110 : decode cX12_opens 110 = .ok (.iload_n 1, 1) := by decide +kernel
theorem dX12_opens_111 : decode cX12_opens 111 = .ok (.iconst 0, 1) := by decide +kernel
theorem dX12_opens_112 : decode cX12_opens 112 = .ok (.iastore, 1) := by decide +kernel
theorem dX12_opens_113 : decode cX12_opens 113 = .ok (.iinc 1 1, 3) := by decide +kernel
theorem dX12_opens_116 : decode cX12_opens 116 = .ok (.goto (-94), 3) := by decide +kernel
theorem dX12_opens_119 : decode cX12_opens 119 = .ok (.return_, 1) := by decide +kernel
theorem dX12_outOf_0 : decode cX12_outOf 0 = .ok (.aload_n 0, 1) := by decide +kernel
theorem dX12_outOf_1 : decode cX12_outOf 1 = .ok (.getfield 38, 3) := by decide +kernel
theorem dX12_outOf_4 : decode cX12_outOf 4 = .ok (.iload_n 1, 1) := by decide +kernel
theorem dX12_outOf_5 : decode cX12_outOf 5 = .ok (.iaload, 1) := by decide +kernel
theorem dX12_outOf_6 : decode cX12_outOf 6 = .ok (.aload_n 0, 1) := by decide +kernel
theorem dX12_outOf_7 : decode cX12_outOf 7 = .ok (.getfield 35, 3) := by decide +kernel
theorem dX12_outOf_10 : decode cX12_outOf 10 = .ok (.iload_n 1, 1) := by decide +kernel
theorem dX12_outOf_11 : decode cX12_outOf 11 = .ok (.iaload, 1) := by decide +kernel
theorem dX12_outOf_12 : decode cX12_outOf 12 = .ok (.isub, 1) := by decide +kernel
theorem dX12_outOf_13 : decode cX12_outOf 13 = .ok (.aload_n 0, 1) := by decide +kernel
theorem dX12_outOf_14 : decode cX12_outOf 14 = .ok (.getfield 53, 3) := by decide +kernel
theorem dX12_outOf_17 : decode cX12_outOf 17 = .ok (.iload_n 1, 1) := by decide +kernel
theorem dX12_outOf_18 : decode cX12_outOf 18 = .ok (.iaload, 1) := by decide +kernel
theorem dX12_outOf_19 : decode cX12_outOf 19 = .ok (.iadd, 1) := by decide +kernel
theorem dX12_outOf_20 : decode cX12_outOf 20 = .ok (.ireturn, 1) := by decide +kernel
theorem dX12_ownRound_0 : decode cX12_ownRound 0 = .ok (.iconst 0, 1) := by decide +kernel
theorem dX12_ownRound_1 : decode cX12_ownRound 1 = .ok (.istore_n 3, 1) := by decide +kernel
theorem dX12_ownRound_2 : decode cX12_ownRound 2 = .ok (.iconst 0, 1) := by decide +kernel
theorem dX12_ownRound_3 : decode cX12_ownRound 3 = .ok (.istore 4, 2) := by decide +kernel
theorem dX12_ownRound_5 : decode cX12_ownRound 5 = .ok (.iload 4, 2) := by decide +kernel
theorem dX12_ownRound_7 : decode cX12_ownRound 7 = .ok (.aload_n 0, 1) := by decide +kernel
theorem dX12_ownRound_8 : decode cX12_ownRound 8 = .ok (.getfield 19, 3) := by decide +kernel
theorem dX12_ownRound_11 : decode cX12_ownRound 11 = .ok (.bipush 72, 2) := by decide +kernel
theorem dX12_ownRound_13 : decode cX12_ownRound 13 = .ok (.iaload, 1) := by decide +kernel
theorem dX12_ownRound_14 : decode cX12_ownRound 14 = .ok (.if_icmp .ge 77, 3) := by decide +kernel
theorem dX12_ownRound_17 : decode cX12_ownRound 17 = .ok (.iload_n 2, 1) := by decide +kernel
theorem dX12_ownRound_18 : decode cX12_ownRound 18 = .ok (.iload 4, 2) := by decide +kernel
theorem dX12_ownRound_20 : decode cX12_ownRound 20 = .ok (.ishr, 1) := by decide +kernel
theorem dX12_ownRound_21 : decode cX12_ownRound 21 = .ok (.iconst 1, 1) := by decide +kernel
theorem dX12_ownRound_22 : decode cX12_ownRound 22 = .ok (.iand, 1) := by decide +kernel
theorem dX12_ownRound_23 : decode cX12_ownRound 23 = .ok (.iconst 1, 1) := by decide +kernel
theorem dX12_ownRound_24 : decode cX12_ownRound 24 = .ok (.if_icmp .ne 61, 3) := by decide +kernel
theorem dX12_ownRound_27 : decode cX12_ownRound 27 = .ok (.aload_n 0, 1) := by decide +kernel
theorem dX12_ownRound_28 : decode cX12_ownRound 28 = .ok (.getfield 47, 3) := by decide +kernel
theorem dX12_ownRound_31 : decode cX12_ownRound 31 = .ok (.iload 4, 2) := by decide +kernel
theorem dX12_ownRound_33 : decode cX12_ownRound 33 = .ok (.iaload, 1) := by decide +kernel
theorem dX12_ownRound_34 : decode cX12_ownRound 34 = .ok (.aload_n 0, 1) := by decide +kernel
theorem dX12_ownRound_35 : decode cX12_ownRound 35 = .ok (.iload 4, 2) := by decide +kernel
theorem dX12_ownRound_37 : decode cX12_ownRound 37 = .ok (.iconst 2, 1) := by decide +kernel
theorem dX12_ownRound_38 : decode cX12_ownRound 38 = .ok (.invokevirtual 168, 3) := by decide +kernel
theorem dX12_ownRound_41 : decode cX12_ownRound 41 = .ok (.if_icmp .lt 44, 3) := by decide +kernel
theorem dX12_ownRound_44 : decode cX12_ownRound 44 = .ok (.iload_n 3, 1) := by decide +kernel
theorem dX12_ownRound_45 : decode cX12_ownRound 45 = .ok (.iconst 1, 1) := by decide +kernel
theorem dX12_ownRound_46 : decode cX12_ownRound 46 = .ok (.iload 4, 2) := by decide +kernel
theorem dX12_ownRound_48 : decode cX12_ownRound 48 = .ok (.ishl, 1) := by decide +kernel
theorem dX12_ownRound_49 : decode cX12_ownRound 49 = .ok (.ior, 1) := by decide +kernel
theorem dX12_ownRound_50 : decode cX12_ownRound 50 = .ok (.istore_n 3, 1) := by decide +kernel
theorem dX12_ownRound_51 : decode cX12_ownRound 51 = .ok (.aload_n 0, 1) := by decide +kernel
theorem dX12_ownRound_52 : decode cX12_ownRound 52 = .ok (.getfield 47, 3) := by decide +kernel
theorem dX12_ownRound_55 : decode cX12_ownRound 55 = .ok (.iload 4, 2) := by decide +kernel
theorem dX12_ownRound_57 : decode cX12_ownRound 57 = .ok (.dup2, 1) := by decide +kernel
theorem dX12_ownRound_58 : decode cX12_ownRound 58 = .ok (.iaload, 1) := by decide +kernel
theorem dX12_ownRound_59 : decode cX12_ownRound 59 = .ok (.aload_n 0, 1) := by decide +kernel
theorem dX12_ownRound_60 : decode cX12_ownRound 60 = .ok (.iload 4, 2) := by decide +kernel
theorem dX12_ownRound_62 : decode cX12_ownRound 62 = .ok (.iconst 2, 1) := by decide +kernel
theorem dX12_ownRound_63 : decode cX12_ownRound 63 = .ok (.invokevirtual 168, 3) := by decide +kernel
theorem dX12_ownRound_66 : decode cX12_ownRound 66 = .ok (.isub, 1) := by decide +kernel
theorem dX12_ownRound_67 : decode cX12_ownRound 67 = .ok (.iastore, 1) := by decide +kernel
theorem dX12_ownRound_68 : decode cX12_ownRound 68 = .ok (.aload_n 0, 1) := by decide +kernel
theorem dX12_ownRound_69 : decode cX12_ownRound 69 = .ok (.getfield 38, 3) := by decide +kernel
theorem dX12_ownRound_72 : decode cX12_ownRound 72 = .ok (.iload 4, 2) := by decide +kernel
theorem dX12_ownRound_74 : decode cX12_ownRound 74 = .ok (.dup2, 1) := by decide +kernel
theorem dX12_ownRound_75 : decode cX12_ownRound 75 = .ok (.iaload, 1) := by decide +kernel
theorem dX12_ownRound_76 : decode cX12_ownRound 76 = .ok (.aload_n 0, 1) := by decide +kernel
theorem dX12_ownRound_77 : decode cX12_ownRound 77 = .ok (.iload 4, 2) := by decide +kernel
theorem dX12_ownRound_79 : decode cX12_ownRound 79 = .ok (.iconst 2, 1) := by decide +kernel
theorem dX12_ownRound_80 : decode cX12_ownRound 80 = .ok (.invokevirtual 168, 3) := by decide +kernel
theorem dX12_ownRound_83 : decode cX12_ownRound 83 = .ok (.iadd, 1) := by decide +kernel
theorem dX12_ownRound_84 : decode cX12_ownRound 84 = .ok (.iastore, 1) := by decide +kernel
theorem dX12_ownRound_85 : decode cX12_ownRound 85 = .ok (.iinc 4 1, 3) := by decide +kernel
theorem dX12_ownRound_88 : decode cX12_ownRound 88 = .ok (.goto (-83), 3) := by decide +kernel
theorem dX12_ownRound_91 : decode cX12_ownRound 91 = .ok (.iload_n 3, 1) := by decide +kernel
theorem dX12_ownRound_92 : decode cX12_ownRound 92 = .ok (.ifCond .ne 14, 3) := by decide +kernel
theorem dX12_ownRound_95 : decode cX12_ownRound 95 = .ok (.aload_n 0, 1) := by decide +kernel
theorem dX12_ownRound_96 : decode cX12_ownRound 96 = .ok (.dup, 1) := by decide +kernel
theorem dX12_ownRound_97 : decode cX12_ownRound 97 = .ok (.getfield 206, 3) := by decide +kernel
theorem dX12_ownRound_100 : decode cX12_ownRound 100 = .ok (.iconst 1, 1) := by decide +kernel
theorem dX12_ownRound_101 : decode cX12_ownRound 101 = .ok (.iadd, 1) := by decide +kernel
theorem dX12_ownRound_102 : decode cX12_ownRound 102 = .ok (.putfield 206, 3) := by decide +kernel
theorem dX12_ownRound_105 : decode cX12_ownRound 105 = .ok (.return_, 1) := by decide +kernel
theorem dX12_ownRound_106 : decode cX12_ownRound 106 = .ok (.aload_n 0, 1) := by decide +kernel
theorem dX12_ownRound_107 : decode cX12_ownRound 107 = .ok (.iload_n 1, 1) := by decide +kernel
theorem dX12_ownRound_108 : decode cX12_ownRound 108 = .ok (.bipush (-4), 2) := by decide +kernel
theorem dX12_ownRound_110 : decode cX12_ownRound 110 = .ok (.aload_n 0, 1) := by decide +kernel
theorem dX12_ownRound_111 : decode cX12_ownRound 111 = .ok (.iload_n 3, 1) := by decide +kernel
theorem dX12_ownRound_112 : decode cX12_ownRound 112 = .ok (.invokevirtual 238, 3) := by decide +kernel
theorem dX12_ownRound_115 : decode cX12_ownRound 115 = .ok (.iload_n 3, 1) := by decide +kernel
theorem dX12_ownRound_116 : decode cX12_ownRound 116 = .ok (.invokevirtual 241, 3) := by decide +kernel
theorem dX12_ownRound_119 : decode cX12_ownRound 119 = .ok (.aload_n 0, 1) := by decide +kernel
theorem dX12_ownRound_120 : decode cX12_ownRound 120 = .ok (.invokevirtual 245, 3) := by decide +kernel
theorem dX12_ownRound_123 : decode cX12_ownRound 123 = .ok (.return_, 1) := by decide +kernel
