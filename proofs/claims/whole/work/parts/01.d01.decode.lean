theorem dX0_init_0 : decode cX0_init 0 = .ok (.aload_n 0, 1) := by decide +kernel
theorem dX0_init_1 : decode cX0_init 1 = .ok (.invokespecial 3, 3) := by decide +kernel
theorem dX0_init_4 : decode cX0_init 4 = .ok (.aload_n 0, 1) := by decide +kernel
theorem dX0_init_5 : decode cX0_init 5 = .ok (.sipush 256, 3) := by decide +kernel
theorem dX0_init_8 : decode cX0_init 8 = .ok (.newarray .int, 2) := by decide +kernel
theorem dX0_init_10 : decode cX0_init 10 = .ok (.putfield 9, 3) := by decide +kernel
theorem dX0_init_13 : decode cX0_init 13 = .ok (.aload_n 0, 1) := by decide +kernel
theorem dX0_init_14 : decode cX0_init 14 = .ok (.sipush 256, 3) := by decide +kernel
theorem dX0_init_17 : decode cX0_init 17 = .ok (.newarray .int, 2) := by decide +kernel
theorem dX0_init_19 : decode cX0_init 19 = .ok (.putfield 15, 3) := by decide +kernel
theorem dX0_init_22 : decode cX0_init 22 = .ok (.aload_n 0, 1) := by decide +kernel
theorem dX0_init_23 : decode cX0_init 23 = .ok (.aload_n 1, 1) := by decide +kernel
theorem dX0_init_24 : decode cX0_init 24 = .ok (.putfield 18, 3) := by decide +kernel
theorem dX0_init_27 : decode cX0_init 27 = .ok (.return_, 1) := by decide +kernel
theorem dX0_most_0 : decode cX0_most 0 = .ok (.iconst 1, 1) := by decide +kernel
theorem dX0_most_1 : decode cX0_most 1 = .ok (.aload_n 0, 1) := by decide +kernel
theorem dX0_most_2 : decode cX0_most 2 = .ok (.getfield 18, 3) := by decide +kernel
theorem dX0_most_5 : decode cX0_most 5 = .ok (.getfield 22, 3) := by decide +kernel
theorem dX0_most_8 : decode cX0_most 8 = .ok (.ishl, 1) := by decide +kernel
theorem dX0_most_9 : decode cX0_most 9 = .ok (.iconst 1, 1) := by decide +kernel
theorem dX0_most_10 : decode cX0_most 10 = .ok (.isub, 1) := by decide +kernel
theorem dX0_most_11 : decode cX0_most 11 = .ok (.istore_n 1, 1) := by decide +kernel
theorem dX0_most_12 : decode cX0_most 12 = .ok (.iconst 1, 1) := by decide +kernel
theorem dX0_most_13 : decode cX0_most 13 = .ok (.istore_n 2, 1) := by decide +kernel
theorem dX0_most_14 : decode cX0_most 14 = .ok (.iload_n 2, 1) := by decide +kernel
theorem dX0_most_15 : decode cX0_most 15 = .ok (.iload_n 1, 1) := by decide +kernel
theorem dX0_most_16 : decode cX0_most 16 = .ok (.if_icmp .gt 115, 3) := by decide +kernel
theorem dX0_most_19 : decode cX0_most 19 = .ok (.iconst 0, 1) := by decide +kernel
theorem dX0_most_20 : decode cX0_most 20 = .ok (.istore_n 3, 1) := by decide +kernel
theorem dX0_most_21 : decode cX0_most 21 = .ok (.iconst 0, 1) := by decide +kernel
theorem dX0_most_22 : decode cX0_most 22 = .ok (.istore 4, 2) := by decide +kernel
theorem dX0_most_24 : decode cX0_most 24 = .ok (.iconst 0, 1) := by decide +kernel
theorem dX0_most_25 : decode cX0_most 25 = .ok (.istore 5, 2) := by decide +kernel
theorem dX0_most_27 : decode cX0_most 27 = .ok (.iload 5, 2) := by decide +kernel
theorem dX0_most_29 : decode cX0_most 29 = .ok (.aload_n 0, 1) := by decide +kernel
theorem dX0_most_30 : decode cX0_most 30 = .ok (.getfield 18, 3) := by decide +kernel
theorem dX0_most_33 : decode cX0_most 33 = .ok (.getfield 22, 3) := by decide +kernel
theorem dX0_most_36 : decode cX0_most 36 = .ok (.if_icmp .ge 63, 3) := by decide +kernel
theorem dX0_most_39 : decode cX0_most 39 = .ok (.iload 5, 2) := by decide +kernel
theorem dX0_most_41 : decode cX0_most 41 = .ok (.iload_n 2, 1) := by decide +kernel
theorem dX0_most_42 : decode cX0_most 42 = .ok (.invokestatic 28, 3) := by decide +kernel
theorem dX0_most_45 : decode cX0_most 45 = .ok (.ifCond .eq 48, 3) := by decide +kernel
theorem dX0_most_48 : decode cX0_most 48 = .ok (.iload_n 2, 1) := by decide +kernel
theorem dX0_most_49 : decode cX0_most 49 = .ok (.iconst 1, 1) := by decide +kernel
theorem dX0_most_50 : decode cX0_most 50 = .ok (.iload 5, 2) := by decide +kernel
theorem dX0_most_52 : decode cX0_most 52 = .ok (.ishl, 1) := by decide +kernel
theorem dX0_most_53 : decode cX0_most 53 = .ok (.iconst (-1), 1) := by decide +kernel
theorem dX0_most_54 : decode cX0_most 54 = .ok (.ixor, 1) := by decide +kernel
theorem dX0_most_55 : decode cX0_most 55 = .ok (.iand, 1) := by decide +kernel
theorem dX0_most_56 : decode cX0_most 56 = .ok (.istore 6, 2) := by decide +kernel
theorem dX0_most_58 : decode cX0_most 58 = .ok (.iload_n 3, 1) := by decide +kernel
theorem dX0_most_59 : decode cX0_most 59 = .ok (.aload_n 0, 1) := by decide +kernel
theorem dX0_most_60 : decode cX0_most 60 = .ok (.getfield 15, 3) := by decide +kernel
theorem dX0_most_63 : decode cX0_most 63 = .ok (.iload 6, 2) := by decide +kernel
theorem dX0_most_65 : decode cX0_most 65 = .ok (.iaload, 1) := by decide +kernel
theorem dX0_most_66 : decode cX0_most 66 = .ok (.invokestatic 32, 3) := by decide +kernel
theorem dX0_most_69 : decode cX0_most 69 = .ok (.istore_n 3, 1) := by decide +kernel
theorem dX0_most_70 : decode cX0_most 70 = .ok (.aload_n 0, 1) := by decide +kernel
theorem dX0_most_71 : decode cX0_most 71 = .ok (.getfield 9, 3) := by decide +kernel
theorem dX0_most_74 : decode cX0_most 74 = .ok (.iload 6, 2) := by decide +kernel
theorem dX0_most_76 : decode cX0_most 76 = .ok (.iaload, 1) := by decide +kernel
theorem dX0_most_77 : decode cX0_most 77 = .ok (.aload_n 0, 1) := by decide +kernel
theorem dX0_most_78 : decode cX0_most 78 = .ok (.getfield 18, 3) := by decide +kernel
theorem dX0_most_81 : decode cX0_most 81 = .ok (.getfield 38, 3) := by decide +kernel
theorem dX0_most_84 : decode cX0_most 84 = .ok (.bipush 7, 2) := by decide +kernel
theorem dX0_most_86 : decode cX0_most 86 = .ok (.aaload, 1) := by decide +kernel
theorem dX0_most_87 : decode cX0_most 87 = .ok (.iload 5, 2) := by decide +kernel
theorem dX0_most_89 : decode cX0_most 89 = .ok (.iaload, 1) := by decide +kernel
theorem dX0_most_90 : decode cX0_most 90 = .ok (.iadd, 1) := by decide +kernel
theorem dX0_most_91 : decode cX0_most 91 = .ok (.istore 4, 2) := by decide +kernel
theorem dX0_most_93 : decode cX0_most 93 = .ok (.iinc 5 1, 3) := by decide +kernel
theorem dX0_most_96 : decode cX0_most 96 = .ok (.goto (-69), 3) := by decide +kernel
theorem dX0_most_99 : decode cX0_most 99 = .ok (.aload_n 0, 1) := by decide +kernel
theorem dX0_most_100 : decode cX0_most 100 = .ok (.getfield 9, 3) := by decide +kernel
theorem dX0_most_103 : decode cX0_most 103 = .ok (.iload_n 2, 1) := by decide +kernel
theorem dX0_most_104 : decode cX0_most 104 = .ok (.iload 4, 2) := by decide +kernel
theorem dX0_most_106 : decode cX0_most 106 = .ok (.iastore, 1) := by decide +kernel
theorem dX0_most_107 : decode cX0_most 107 = .ok (.aload_n 0, 1) := by decide +kernel
theorem dX0_most_108 : decode cX0_most 108 = .ok (.getfield 15, 3) := by decide +kernel
theorem dX0_most_111 : decode cX0_most 111 = .ok (.iload_n 2, 1) := by decide +kernel
theorem dX0_most_112 : decode cX0_most 112 = .ok (.iload_n 3, 1) := by decide +kernel
theorem dX0_most_113 : decode cX0_most 113 = .ok (.iload 4, 2) := by decide +kernel
theorem dX0_most_115 : decode cX0_most 115 = .ok (.ifCond .ne 7, 3) := by decide +kernel
theorem dX0_most_118 : decode cX0_most 118 = .ok (.iconst 1, 1) := by decide +kernel
theorem dX0_most_119 : decode cX0_most 119 = .ok (.goto 4, 3) := by decide +kernel
theorem dX0_most_122 : decode cX0_most 122 = .ok (.iconst 0, 1) := by decide +kernel
theorem dX0_most_123 : decode cX0_most 123 = .ok (.iadd, 1) := by decide +kernel
theorem dX0_most_124 : decode cX0_most 124 = .ok (.iastore, 1) := by decide +kernel
theorem dX0_most_125 : decode cX0_most 125 = .ok (.iinc 2 1, 3) := by decide +kernel
theorem dX0_most_128 : decode cX0_most 128 = .ok (.goto (-114), 3) := by decide +kernel
theorem dX0_most_131 : decode cX0_most 131 = .ok (.aload_n 0, 1) := by decide +kernel
theorem dX0_most_132 : decode cX0_most 132 = .ok (.getfield 15, 3) := by decide +kernel
theorem dX0_most_135 : decode cX0_most 135 = .ok (.iload_n 1, 1) := by decide +kernel
theorem dX0_most_136 : decode cX0_most 136 = .ok (.iaload, 1) := by decide +kernel
theorem dX0_most_137 : decode cX0_most 137 = .ok (.ireturn, 1) := by decide +kernel
theorem dX10_append_0 : decode cX10_append 0 = .ok (.aload_n 0, 1) := by decide +kernel
theorem dX10_append_1 : decode cX10_append 1 = .ok (.getfield 15, 3) := by decide +kernel
theorem dX10_append_4 : decode cX10_append 4 = .ok (.sipush 312, 3) := by decide +kernel
theorem dX10_append_7 : decode cX10_append 7 = .ok (.if_icmp .le 5, 3) := by decide +kernel
theorem dX10_append_10 : decode cX10_append 10 = .ok (.iconst 0, 1) := by decide +kernel
theorem dX10_append_11 : decode cX10_append 11 = .ok (.ireturn, 1) := by decide +kernel
theorem dX10_append_12 : decode cX10_append 12 = .ok (.bipush 56, 2) := by decide +kernel
theorem dX10_append_14 : decode cX10_append 14 = .ok (.istore_n 3, 1) := by decide +kernel
theorem dX10_append_15 : decode cX10_append 15 = .ok (.iload_n 3, 1) := by decide +kernel
theorem dX10_append_16 : decode cX10_append 16 = .ok (.ifCond .lt 33, 3) := by decide +kernel
theorem dX10_append_19 : decode cX10_append 19 = .ok (.aload_n 0, 1) := by decide +kernel
theorem dX10_append_20 : decode cX10_append 20 = .ok (.getfield 9, 3) := by decide +kernel
theorem dX10_append_23 : decode cX10_append 23 = .ok (.aload_n 0, 1) := by decide +kernel
theorem dX10_append_24 : decode cX10_append 24 = .ok (.getfield 15, 3) := by decide +kernel
theorem dX10_append_27 : decode cX10_append 27 = .ok (.lload_n 1, 1) := by decide +kernel
theorem dX10_append_28 : decode cX10_append 28 = .ok (.iload_n 3, 1) := by decide +kernel
theorem dX10_append_29 : decode cX10_append 29 = .ok (.lushr, 1) := by decide +kernel
theorem dX10_append_30 : decode cX10_append 30 = .ok (.l2i, 1) := by decide +kernel
theorem dX10_append_31 : decode cX10_append 31 = .ok (.i2b, 1) := by decide +kernel
theorem dX10_append_32 : decode cX10_append 32 = .ok (.bastore, 1) := by decide +kernel
theorem dX10_append_33 : decode cX10_append 33 = .ok (.aload_n 0, 1) := by decide +kernel
theorem dX10_append_34 : decode cX10_append 34 = .ok (.dup, 1) := by decide +kernel
theorem dX10_append_35 : decode cX10_append 35 = .ok (.getfield 15, 3) := by decide +kernel
theorem dX10_append_38 : decode cX10_append 38 = .ok (.iconst 1, 1) := by decide +kernel
theorem dX10_append_39 : decode cX10_append 39 = .ok (.iadd, 1) := by decide +kernel
theorem dX10_append_40 : decode cX10_append 40 = .ok (.putfield 15, 3) := by decide +kernel
theorem dX10_append_43 : decode cX10_append 43 = .ok (.iinc 3 (-8), 3) := by decide +kernel
theorem dX10_append_46 : decode cX10_append 46 = .ok (.goto (-31), 3) := by decide +kernel
theorem dX10_append_49 : decode cX10_append 49 = .ok (.iconst 1, 1) := by decide +kernel
theorem dX10_append_50 : decode cX10_append 50 = .ok (.ireturn, 1) := by decide +kernel
theorem dX10_cut_0 : decode cX10_cut 0 = .ok (.aload_n 0, 1) := by decide +kernel
theorem dX10_cut_1 : decode cX10_cut 1 = .ok (.iload_n 1, 1) := by decide +kernel
theorem dX10_cut_2 : decode cX10_cut 2 = .ok (.putfield 15, 3) := by decide +kernel
theorem dX10_cut_5 : decode cX10_cut 5 = .ok (.return_, 1) := by decide +kernel
theorem dX10_init_0 : decode cX10_init 0 = .ok (.aload_n 0, 1) := by decide +kernel
theorem dX10_init_1 : decode cX10_init 1 = .ok (.invokespecial 3, 3) := by decide +kernel
theorem dX10_init_4 : decode cX10_init 4 = .ok (.aload_n 0, 1) := by decide +kernel
theorem dX10_init_5 : decode cX10_init 5 = .ok (.sipush 320, 3) := by decide +kernel
theorem dX10_init_8 : decode cX10_init 8 = .ok (.newarray .byte, 2) := by decide +kernel
theorem dX10_init_10 : decode cX10_init 10 = .ok (.putfield 9, 3) := by decide +kernel
theorem dX10_init_13 : decode cX10_init 13 = .ok (.aload_n 0, 1) := by decide +kernel
theorem dX10_init_14 : decode cX10_init 14 = .ok (.iconst 0, 1) := by decide +kernel
theorem dX10_init_15 : decode cX10_init 15 = .ok (.putfield 15, 3) := by decide +kernel
theorem dX10_init_18 : decode cX10_init 18 = .ok (.aload_n 0, 1) := by decide +kernel
theorem dX10_init_19 : decode cX10_init 19 = .ok (.iconst 0, 1) := by decide +kernel
theorem dX10_init_20 : decode cX10_init 20 = .ok (.putfield 19, 3) := by decide +kernel
theorem dX10_init_23 : decode cX10_init 23 = .ok (.aload_n 0, 1) := by decide +kernel
theorem dX10_init_24 : decode cX10_init 24 = .ok (.iconst 0, 1) := by decide +kernel
theorem dX10_init_25 : decode cX10_init 25 = .ok (.putfield 22, 3) := by decide +kernel
theorem dX10_init_28 : decode cX10_init 28 = .ok (.aload_n 0, 1) := by decide +kernel
theorem dX10_init_29 : decode cX10_init 29 = .ok (.iconst 0, 1) := by decide +kernel
theorem dX10_init_30 : decode cX10_init 30 = .ok (.putfield 25, 3) := by decide +kernel
theorem dX10_init_33 : decode cX10_init 33 = .ok (.aload_n 0, 1) := by decide +kernel
theorem dX10_init_34 : decode cX10_init 34 = .ok (.iconst 0, 1) := by decide +kernel
theorem dX10_init_35 : decode cX10_init 35 = .ok (.putfield 28, 3) := by decide +kernel
theorem dX10_init_38 : decode cX10_init 38 = .ok (.return_, 1) := by decide +kernel
theorem dX10_isFigure_0 : decode cX10_isFigure 0 = .ok (.iload_n 0, 1) := by decide +kernel
theorem dX10_isFigure_1 : decode cX10_isFigure 1 = .ok (.bipush 48, 2) := by decide +kernel
theorem dX10_isFigure_3 : decode cX10_isFigure 3 = .ok (.if_icmp .lt 13, 3) := by decide +kernel
theorem dX10_isFigure_6 : decode cX10_isFigure 6 = .ok (.iload_n 0, 1) := by decide +kernel
theorem dX10_isFigure_7 : decode cX10_isFigure 7 = .ok (.bipush 57, 2) := by decide +kernel
theorem dX10_isFigure_9 : decode cX10_isFigure 9 = .ok (.if_icmp .gt 7, 3) := by decide +kernel
theorem dX10_isFigure_12 : decode cX10_isFigure 12 = .ok (.iconst 1, 1) := by decide +kernel
theorem dX10_isFigure_13 : decode cX10_isFigure 13 = .ok (.goto 4, 3) := by decide +kernel
theorem dX10_isFigure_16 : decode cX10_isFigure 16 = .ok (.iconst 0, 1) := by decide +kernel
theorem dX10_isFigure_17 : decode cX10_isFigure 17 = .ok (.ireturn, 1) := by decide +kernel
theorem dX10_isLetter_0 : decode cX10_isLetter 0 = .ok (.iload_n 0, 1) := by decide +kernel
theorem dX10_isLetter_1 : decode cX10_isLetter 1 = .ok (.bipush 97, 2) := by decide +kernel
theorem dX10_isLetter_3 : decode cX10_isLetter 3 = .ok (.if_icmp .lt 13, 3) := by decide +kernel
theorem dX10_isLetter_6 : decode cX10_isLetter 6 = .ok (.iload_n 0, 1) := by decide +kernel
theorem dX10_isLetter_7 : decode cX10_isLetter 7 = .ok (.bipush 122, 2) := by decide +kernel
theorem dX10_isLetter_9 : decode cX10_isLetter 9 = .ok (.if_icmp .gt 7, 3) := by decide +kernel
theorem dX10_isLetter_12 : decode cX10_isLetter 12 = .ok (.iconst 1, 1) := by decide +kernel
theorem dX10_isLetter_13 : decode cX10_isLetter 13 = .ok (.goto 4, 3) := by decide +kernel
theorem dX10_isLetter_16 : decode cX10_isLetter 16 = .ok (.iconst 0, 1) := by decide +kernel
theorem dX10_isLetter_17 : decode cX10_isLetter 17 = .ok (.ireturn, 1) := by decide +kernel
theorem dX10_isName_0 : decode cX10_isName 0 = .ok (.aload_n 0, 1) := by decide +kernel
theorem dX10_isName_1 : decode cX10_isName 1 = .ok (.getfield 22, 3) := by decide +kernel
theorem dX10_isName_4 : decode cX10_isName 4 = .ok (.iconst 1, 1) := by decide +kernel
theorem dX10_isName_5 : decode cX10_isName 5 = .ok (.if_icmp .ne 19, 3) := by decide +kernel
theorem dX10_isName_8 : decode cX10_isName 8 = .ok (.aload_n 0, 1) := by decide +kernel
theorem dX10_isName_9 : decode cX10_isName 9 = .ok (.getfield 19, 3) := by decide +kernel
theorem dX10_isName_12 : decode cX10_isName 12 = .ok (.aload_n 0, 1) := by decide +kernel
theorem dX10_isName_13 : decode cX10_isName 13 = .ok (.getfield 25, 3) := by decide +kernel
theorem dX10_isName_16 : decode cX10_isName 16 = .ok (.isub, 1) := by decide +kernel
theorem dX10_isName_17 : decode cX10_isName 17 = .ok (.aload_n 1, 1) := by decide +kernel
theorem dX10_isName_18 : decode cX10_isName 18 = .ok (.invokevirtual 44, 3) := by decide +kernel
theorem dX10_isName_21 : decode cX10_isName 21 = .ok (.if_icmp .eq 5, 3) := by decide +kernel
theorem dX10_isName_24 : decode cX10_isName 24 = .ok (.iconst 0, 1) := by decide +kernel
theorem dX10_isName_25 : decode cX10_isName 25 = .ok (.ireturn, 1) := by decide +kernel
theorem dX10_isName_26 : decode cX10_isName 26 = .ok (.iconst 0, 1) := by decide +kernel
theorem dX10_isName_27 : decode cX10_isName 27 = .ok (.istore_n 2, 1) := by decide +kernel
theorem dX10_isName_28 : decode cX10_isName 28 = .ok (.iload_n 2, 1) := by decide +kernel
theorem dX10_isName_29 : decode cX10_isName 29 = .ok (.aload_n 1, 1) := by decide +kernel
theorem dX10_isName_30 : decode cX10_isName 30 = .ok (.invokevirtual 44, 3) := by decide +kernel
theorem dX10_isName_33 : decode cX10_isName 33 = .ok (.if_icmp .ge 30, 3) := by decide +kernel
theorem dX10_isName_36 : decode cX10_isName 36 = .ok (.aload_n 0, 1) := by decide +kernel
theorem dX10_isName_37 : decode cX10_isName 37 = .ok (.getfield 9, 3) := by decide +kernel
theorem dX10_isName_40 : decode cX10_isName 40 = .ok (.aload_n 0, 1) := by decide +kernel
theorem dX10_isName_41 : decode cX10_isName 41 = .ok (.getfield 25, 3) := by decide +kernel
theorem dX10_isName_44 : decode cX10_isName 44 = .ok (.iload_n 2, 1) := by decide +kernel
theorem dX10_isName_45 : decode cX10_isName 45 = .ok (.iadd, 1) := by decide +kernel
theorem dX10_isName_46 : decode cX10_isName 46 = .ok (.baload, 1) := by decide +kernel
theorem dX10_isName_47 : decode cX10_isName 47 = .ok (.aload_n 1, 1) := by decide +kernel
theorem dX10_isName_48 : decode cX10_isName 48 = .ok (.iload_n 2, 1) := by decide +kernel
theorem dX10_isName_49 : decode cX10_isName 49 = .ok (.invokevirtual 49, 3) := by decide +kernel
theorem dX10_isName_52 : decode cX10_isName 52 = .ok (.if_icmp .eq 5, 3) := by decide +kernel
theorem dX10_isName_55 : decode cX10_isName 55 = .ok (.iconst 0, 1) := by decide +kernel
theorem dX10_isName_56 : decode cX10_isName 56 = .ok (.ireturn, 1) := by decide +kernel
theorem dX10_isName_57 : decode cX10_isName 57 = .ok (.iinc 2 1, 3) := by decide +kernel
theorem dX10_isName_60 : decode cX10_isName 60 = .ok (.goto (-32), 3) := by decide +kernel
theorem dX10_isName_63 : decode cX10_isName 63 = .ok (.iconst 1, 1) := by decide +kernel
theorem dX10_isName_64 : decode cX10_isName 64 = .ok (.ireturn, 1) := by decide +kernel
theorem dX10_takeName_0 : decode cX10_takeName 0 = .ok (.aload_n 0, 1) := by decide +kernel
theorem dX10_takeName_1 : decode cX10_takeName 1 = .ok (.iconst 1, 1) := by decide +kernel
theorem dX10_takeName_2 : decode cX10_takeName 2 = .ok (.putfield 22, 3) := by decide +kernel
theorem dX10_takeName_5 : decode cX10_takeName 5 = .ok (.aload_n 0, 1) := by decide +kernel
theorem dX10_takeName_6 : decode cX10_takeName 6 = .ok (.getfield 19, 3) := by decide +kernel
theorem dX10_takeName_9 : decode cX10_takeName 9 = .ok (.aload_n 0, 1) := by decide +kernel
theorem dX10_takeName_10 : decode cX10_takeName 10 = .ok (.getfield 15, 3) := by decide +kernel
theorem dX10_takeName_13 : decode cX10_takeName 13 = .ok (.if_icmp .ge 31, 3) := by decide +kernel
theorem dX10_takeName_16 : decode cX10_takeName 16 = .ok (.aload_n 0, 1) := by decide +kernel
theorem dX10_takeName_17 : decode cX10_takeName 17 = .ok (.getfield 9, 3) := by decide +kernel
theorem dX10_takeName_20 : decode cX10_takeName 20 = .ok (.aload_n 0, 1) := by decide +kernel
theorem dX10_takeName_21 : decode cX10_takeName 21 = .ok (.getfield 19, 3) := by decide +kernel
theorem dX10_takeName_24 : decode cX10_takeName 24 = .ok (.baload, 1) := by decide +kernel
theorem dX10_takeName_25 : decode cX10_takeName 25 = .ok (.invokestatic 31, 3) := by decide +kernel
theorem dX10_takeName_28 : decode cX10_takeName 28 = .ok (.ifCond .eq 16, 3) := by decide +kernel
theorem dX10_takeName_31 : decode cX10_takeName 31 = .ok (.aload_n 0, 1) := by decide +kernel
theorem dX10_takeName_32 : decode cX10_takeName 32 = .ok (.dup, 1) := by decide +kernel
theorem dX10_takeName_33 : decode cX10_takeName 33 = .ok (.getfield 19, 3) := by decide +kernel
theorem dX10_takeName_36 : decode cX10_takeName 36 = .ok (.iconst 1, 1) := by decide +kernel
theorem dX10_takeName_37 : decode cX10_takeName 37 = .ok (.iadd, 1) := by decide +kernel
theorem dX10_takeName_38 : decode cX10_takeName 38 = .ok (.putfield 19, 3) := by decide +kernel
theorem dX10_takeName_41 : decode cX10_takeName 41 = .ok (.goto (-36), 3) := by decide +kernel
theorem dX10_takeName_44 : decode cX10_takeName 44 = .ok (.return_, 1) := by decide +kernel
theorem dX10_takeNumber_0 : decode cX10_takeNumber 0 = .ok (.aload_n 0, 1) := by decide +kernel
theorem dX10_takeNumber_1 : decode cX10_takeNumber 1 = .ok (.iconst 2, 1) := by decide +kernel
theorem dX10_takeNumber_2 : decode cX10_takeNumber 2 = .ok (.putfield 22, 3) := by decide +kernel
theorem dX10_takeNumber_5 : decode cX10_takeNumber 5 = .ok (.aload_n 0, 1) := by decide +kernel
theorem dX10_takeNumber_6 : decode cX10_takeNumber 6 = .ok (.iconst 0, 1) := by decide +kernel
theorem dX10_takeNumber_7 : decode cX10_takeNumber 7 = .ok (.putfield 28, 3) := by decide +kernel
theorem dX10_takeNumber_10 : decode cX10_takeNumber 10 = .ok (.aload_n 0, 1) := by decide +kernel
theorem dX10_takeNumber_11 : decode cX10_takeNumber 11 = .ok (.getfield 19, 3) := by decide +kernel
theorem dX10_takeNumber_14 : decode cX10_takeNumber 14 = .ok (.aload_n 0, 1) := by decide +kernel
theorem dX10_takeNumber_15 : decode cX10_takeNumber 15 = .ok (.getfield 15, 3) := by decide +kernel
theorem dX10_takeNumber_18 : decode cX10_takeNumber 18 = .ok (.if_icmp .ge 76, 3) := by decide +kernel
theorem dX10_takeNumber_21 : decode cX10_takeNumber 21 = .ok (.aload_n 0, 1) := by decide +kernel
theorem dX10_takeNumber_22 : decode cX10_takeNumber 22 = .ok (.getfield 9, 3) := by decide +kernel
theorem dX10_takeNumber_25 : decode cX10_takeNumber 25 = .ok (.aload_n 0, 1) := by decide +kernel
theorem dX10_takeNumber_26 : decode cX10_takeNumber 26 = .ok (.getfield 19, 3) := by decide +kernel
theorem dX10_takeNumber_29 : decode cX10_takeNumber 29 = .ok (.baload, 1) := by decide +kernel
theorem dX10_takeNumber_30 : decode cX10_takeNumber 30 = .ok (.invokestatic 38, 3) := by decide +kernel
theorem dX10_takeNumber_33 : decode cX10_takeNumber 33 = .ok (.ifCond .eq 61, 3) := by decide +kernel
theorem dX10_takeNumber_36 : decode cX10_takeNumber 36 = .ok (.aload_n 0, 1) := by decide +kernel
theorem dX10_takeNumber_37 : decode cX10_takeNumber 37 = .ok (.getfield 19, 3) := by decide +kernel
theorem dX10_takeNumber_40 : decode cX10_takeNumber 40 = .ok (.aload_n 0, 1) := by decide +kernel
theorem dX10_takeNumber_41 : decode cX10_takeNumber 41 = .ok (.getfield 25, 3) := by decide +kernel
theorem dX10_takeNumber_44 : decode cX10_takeNumber 44 = .ok (.isub, 1) := by decide +kernel
theorem dX10_takeNumber_45 : decode cX10_takeNumber 45 = .ok (.iconst 3, 1) := by decide +kernel
theorem dX10_takeNumber_46 : decode cX10_takeNumber 46 = .ok (.if_icmp .ge 30, 3) := by decide +kernel
theorem dX10_takeNumber_49 : decode cX10_takeNumber 49 = .ok (.aload_n 0, 1) := by decide +kernel
theorem dX10_takeNumber_50 : decode cX10_takeNumber 50 = .ok (.aload_n 0, 1) := by decide +kernel
theorem dX10_takeNumber_51 : decode cX10_takeNumber 51 = .ok (.getfield 28, 3) := by decide +kernel
theorem dX10_takeNumber_54 : decode cX10_takeNumber 54 = .ok (.bipush 10, 2) := by decide +kernel
theorem dX10_takeNumber_56 : decode cX10_takeNumber 56 = .ok (.imul, 1) := by decide +kernel
theorem dX10_takeNumber_57 : decode cX10_takeNumber 57 = .ok (.aload_n 0, 1) := by decide +kernel
theorem dX10_takeNumber_58 : decode cX10_takeNumber 58 = .ok (.getfield 9, 3) := by decide +kernel
theorem dX10_takeNumber_61 : decode cX10_takeNumber 61 = .ok (.aload_n 0, 1) := by decide +kernel
theorem dX10_takeNumber_62 : decode cX10_takeNumber 62 = .ok (.getfield 19, 3) := by decide +kernel
theorem dX10_takeNumber_65 : decode cX10_takeNumber 65 = .ok (.baload, 1) := by decide +kernel
theorem dX10_takeNumber_66 : decode cX10_takeNumber 66 = .ok (.iadd, 1) := by decide +kernel
theorem dX10_takeNumber_67 : decode cX10_takeNumber 67 = .ok (.bipush 48, 2) := by decide +kernel
theorem dX10_takeNumber_69 : decode cX10_takeNumber 69 = .ok (.isub, 1) := by decide +kernel
theorem dX10_takeNumber_70 : decode cX10_takeNumber 70 = .ok (.putfield 28, 3) := by decide +kernel
theorem dX10_takeNumber_73 : decode cX10_takeNumber 73 = .ok (.goto 8, 3) := by decide +kernel
theorem dX10_takeNumber_76 : decode cX10_takeNumber 76 = .ok (.aload_n 0, 1) := by decide +kernel
theorem dX10_takeNumber_77 : decode cX10_takeNumber 77 = .ok (.iconst 4, 1) := by decide +kernel
theorem dX10_takeNumber_78 : decode cX10_takeNumber 78 = .ok (.putfield 22, 3) := by decide +kernel
theorem dX10_takeNumber_81 : decode cX10_takeNumber 81 = .ok (.aload_n 0, 1) := by decide +kernel
theorem dX10_takeNumber_82 : decode cX10_takeNumber 82 = .ok (.dup, 1) := by decide +kernel
theorem dX10_takeNumber_83 : decode cX10_takeNumber 83 = .ok (.getfield 19, 3) := by decide +kernel
theorem dX10_takeNumber_86 : decode cX10_takeNumber 86 = .ok (.iconst 1, 1) := by decide +kernel
theorem dX10_takeNumber_87 : decode cX10_takeNumber 87 = .ok (.iadd, 1) := by decide +kernel
theorem dX10_takeNumber_88 : decode cX10_takeNumber 88 = .ok (.putfield 19, 3) := by decide +kernel
theorem dX10_takeNumber_91 : decode cX10_takeNumber 91 = .ok (.goto (-81), 3) := by decide +kernel
theorem dX10_takeNumber_94 : decode cX10_takeNumber 94 = .ok (.return_, 1) := by decide +kernel
theorem dX10_takeToken_0 : decode cX10_takeToken 0 = .ok (.aload_n 0, 1) := by decide +kernel
theorem dX10_takeToken_1 : decode cX10_takeToken 1 = .ok (.getfield 19, 3) := by decide +kernel
theorem dX10_takeToken_4 : decode cX10_takeToken 4 = .ok (.aload_n 0, 1) := by decide +kernel
theorem dX10_takeToken_5 : decode cX10_takeToken 5 = .ok (.getfield 15, 3) := by decide +kernel
theorem dX10_takeToken_8 : decode cX10_takeToken 8 = .ok (.if_icmp .ge 30, 3) := by decide +kernel
theorem dX10_takeToken_11 : decode cX10_takeToken 11 = .ok (.aload_n 0, 1) := by decide +kernel
theorem dX10_takeToken_12 : decode cX10_takeToken 12 = .ok (.getfield 9, 3) := by decide +kernel
theorem dX10_takeToken_15 : decode cX10_takeToken 15 = .ok (.aload_n 0, 1) := by decide +kernel
theorem dX10_takeToken_16 : decode cX10_takeToken 16 = .ok (.getfield 19, 3) := by decide +kernel
theorem dX10_takeToken_19 : decode cX10_takeToken 19 = .ok (.baload, 1) := by decide +kernel
theorem dX10_takeToken_20 : decode cX10_takeToken 20 = .ok (.bipush 32, 2) := by decide +kernel
theorem dX10_takeToken_22 : decode cX10_takeToken 22 = .ok (.if_icmp .ne 16, 3) := by decide +kernel
theorem dX10_takeToken_25 : decode cX10_takeToken 25 = .ok (.aload_n 0, 1) := by decide +kernel
theorem dX10_takeToken_26 : decode cX10_takeToken 26 = .ok (.dup, 1) := by decide +kernel
theorem dX10_takeToken_27 : decode cX10_takeToken 27 = .ok (.getfield 19, 3) := by decide +kernel
theorem dX10_takeToken_30 : decode cX10_takeToken 30 = .ok (.iconst 1, 1) := by decide +kernel
theorem dX10_takeToken_31 : decode cX10_takeToken 31 = .ok (.iadd, 1) := by decide +kernel
theorem dX10_takeToken_32 : decode cX10_takeToken 32 = .ok (.putfield 19, 3) := by decide +kernel
theorem dX10_takeToken_35 : decode cX10_takeToken 35 = .ok (.goto (-35), 3) := by decide +kernel
theorem dX10_takeToken_38 : decode cX10_takeToken 38 = .ok (.aload_n 0, 1) := by decide +kernel
theorem dX10_takeToken_39 : decode cX10_takeToken 39 = .ok (.aload_n 0, 1) := by decide +kernel
theorem dX10_takeToken_40 : decode cX10_takeToken 40 = .ok (.getfield 19, 3) := by decide +kernel
theorem dX10_takeToken_43 : decode cX10_takeToken 43 = .ok (.putfield 25, 3) := by decide +kernel
theorem dX10_takeToken_46 : decode cX10_takeToken 46 = .ok (.aload_n 0, 1) := by decide +kernel
theorem dX10_takeToken_47 : decode cX10_takeToken 47 = .ok (.getfield 19, 3) := by decide +kernel
theorem dX10_takeToken_50 : decode cX10_takeToken 50 = .ok (.aload_n 0, 1) := by decide +kernel
theorem dX10_takeToken_51 : decode cX10_takeToken 51 = .ok (.getfield 15, 3) := by decide +kernel
theorem dX10_takeToken_54 : decode cX10_takeToken 54 = .ok (.if_icmp .lt 11, 3) := by decide +kernel
theorem dX10_takeToken_57 : decode cX10_takeToken 57 = .ok (.aload_n 0, 1) := by decide +kernel
theorem dX10_takeToken_58 : decode cX10_takeToken 58 = .ok (.iconst 0, 1) := by decide +kernel
theorem dX10_takeToken_59 : decode cX10_takeToken 59 = .ok (.putfield 22, 3) := by decide +kernel
theorem dX10_takeToken_62 : decode cX10_takeToken 62 = .ok (.goto 80, 3) := by decide +kernel
theorem dX10_takeToken_65 : decode cX10_takeToken 65 = .ok (.aload_n 0, 1) := by decide +kernel
theorem dX10_takeToken_66 : decode cX10_takeToken 66 = .ok (.getfield 9, 3) := by decide +kernel
theorem dX10_takeToken_69 : decode cX10_takeToken 69 = .ok (.aload_n 0, 1) := by decide +kernel
theorem dX10_takeToken_70 : decode cX10_takeToken 70 = .ok (.getfield 19, 3) := by decide +kernel
theorem dX10_takeToken_73 : decode cX10_takeToken 73 = .ok (.baload, 1) := by decide +kernel
theorem dX10_takeToken_74 : decode cX10_takeToken 74 = .ok (.invokestatic 31, 3) := by decide +kernel
theorem dX10_takeToken_77 : decode cX10_takeToken 77 = .ok (.ifCond .eq 10, 3) := by decide +kernel
theorem dX10_takeToken_80 : decode cX10_takeToken 80 = .ok (.aload_n 0, 1) := by decide +kernel
theorem dX10_takeToken_81 : decode cX10_takeToken 81 = .ok (.invokevirtual 35, 3) := by decide +kernel
theorem dX10_takeToken_84 : decode cX10_takeToken 84 = .ok (.goto 58, 3) := by decide +kernel
theorem dX10_takeToken_87 : decode cX10_takeToken 87 = .ok (.aload_n 0, 1) := by decide +kernel
theorem dX10_takeToken_88 : decode cX10_takeToken 88 = .ok (.getfield 9, 3) := by decide +kernel
theorem dX10_takeToken_91 : decode cX10_takeToken 91 = .ok (.aload_n 0, 1) := by decide +kernel
theorem dX10_takeToken_92 : decode cX10_takeToken 92 = .ok (.getfield 19, 3) := by decide +kernel
theorem dX10_takeToken_95 : decode cX10_takeToken 95 = .ok (.baload, 1) := by decide +kernel
theorem dX10_takeToken_96 : decode cX10_takeToken 96 = .ok (.invokestatic 38, 3) := by decide +kernel
theorem dX10_takeToken_99 : decode cX10_takeToken 99 = .ok (.ifCond .eq 10, 3) := by decide +kernel
theorem dX10_takeToken_102 : decode cX10_takeToken 102 = .ok (.aload_n 0, 1) := by decide +kernel
theorem dX10_takeToken_103 : decode cX10_takeToken 103 = .ok (.invokevirtual 41, 3) := by decide +kernel
theorem dX10_takeToken_106 : decode cX10_takeToken 106 = .ok (.goto 36, 3) := by decide +kernel
theorem dX10_takeToken_109 : decode cX10_takeToken 109 = .ok (.aload_n 0, 1) := by decide +kernel
theorem dX10_takeToken_110 : decode cX10_takeToken 110 = .ok (.aload_n 0, 1) := by decide +kernel
theorem dX10_takeToken_111 : decode cX10_takeToken 111 = .ok (.getfield 9, 3) := by decide +kernel
theorem dX10_takeToken_114 : decode cX10_takeToken 114 = .ok (.aload_n 0, 1) := by decide +kernel
theorem dX10_takeToken_115 : decode cX10_takeToken 115 = .ok (.getfield 19, 3) := by decide +kernel
theorem dX10_takeToken_118 : decode cX10_takeToken 118 = .ok (.baload, 1) := by decide +kernel
theorem dX10_takeToken_119 : decode cX10_takeToken 119 = .ok (.bipush 59, 2) := by decide +kernel
theorem dX10_takeToken_121 : decode cX10_takeToken 121 = .ok (.if_icmp .ne 7, 3) := by decide +kernel
theorem dX10_takeToken_124 : decode cX10_takeToken 124 = .ok (.iconst 3, 1) := by decide +kernel
theorem dX10_takeToken_125 : decode cX10_takeToken 125 = .ok (.goto 4, 3) := by decide +kernel
theorem dX10_takeToken_128 : decode cX10_takeToken 128 = .ok (.iconst 4, 1) := by decide +kernel
theorem dX10_takeToken_129 : decode cX10_takeToken 129 = .ok (.putfield 22, 3) := by decide +kernel
theorem dX10_takeToken_132 : decode cX10_takeToken 132 = .ok (.aload_n 0, 1) := by decide +kernel
theorem dX10_takeToken_133 : decode cX10_takeToken 133 = .ok (.dup, 1) := by decide +kernel
theorem dX10_takeToken_134 : decode cX10_takeToken 134 = .ok (.getfield 19, 3) := by decide +kernel
theorem dX10_takeToken_137 : decode cX10_takeToken 137 = .ok (.iconst 1, 1) := by decide +kernel
theorem dX10_takeToken_138 : decode cX10_takeToken 138 = .ok (.iadd, 1) := by decide +kernel
theorem dX10_takeToken_139 : decode cX10_takeToken 139 = .ok (.putfield 19, 3) := by decide +kernel
theorem dX10_takeToken_142 : decode cX10_takeToken 142 = .ok (.return_, 1) := by decide +kernel
theorem dX11_adopt_0 : decode cX11_adopt 0 = .ok (.aload_n 0, 1) := by decide +kernel
theorem dX11_adopt_1 : decode cX11_adopt 1 = .ok (.getfield 58, 3) := by decide +kernel
theorem dX11_adopt_4 : decode cX11_adopt 4 = .ok (.invokevirtual 202, 3) := by decide +kernel
theorem dX11_adopt_7 : decode cX11_adopt 7 = .ok (.istore_n 1, 1) := by decide +kernel
theorem dX11_adopt_8 : decode cX11_adopt 8 = .ok (.iload_n 1, 1) := by decide +kernel
theorem dX11_adopt_9 : decode cX11_adopt 9 = .ok (.ifCond .ge 5, 3) := by decide +kernel
theorem dX11_adopt_12 : decode cX11_adopt 12 = .ok (.iload_n 1, 1) := by decide +kernel
theorem dX11_adopt_13 : decode cX11_adopt 13 = .ok (.ireturn, 1) := by decide +kernel
theorem dX11_adopt_14 : decode cX11_adopt 14 = .ok (.aload_n 0, 1) := by decide +kernel
theorem dX11_adopt_15 : decode cX11_adopt 15 = .ok (.getfield 28, 3) := by decide +kernel
theorem dX11_adopt_18 : decode cX11_adopt 18 = .ok (.iconst 0, 1) := by decide +kernel
theorem dX11_adopt_19 : decode cX11_adopt 19 = .ok (.putfield 211, 3) := by decide +kernel
theorem dX11_adopt_22 : decode cX11_adopt 22 = .ok (.iconst 0, 1) := by decide +kernel
theorem dX11_adopt_23 : decode cX11_adopt 23 = .ok (.istore_n 2, 1) := by decide +kernel
theorem dX11_adopt_24 : decode cX11_adopt 24 = .ok (.iload_n 2, 1) := by decide +kernel
theorem dX11_adopt_25 : decode cX11_adopt 25 = .ok (.iload_n 1, 1) := by decide +kernel
theorem dX11_adopt_26 : decode cX11_adopt 26 = .ok (.if_icmp .ge 25, 3) := by decide +kernel
theorem dX11_adopt_29 : decode cX11_adopt 29 = .ok (.aload_n 0, 1) := by decide +kernel
theorem dX11_adopt_30 : decode cX11_adopt 30 = .ok (.getfield 28, 3) := by decide +kernel
theorem dX11_adopt_33 : decode cX11_adopt 33 = .ok (.aload_n 0, 1) := by decide +kernel
theorem dX11_adopt_34 : decode cX11_adopt 34 = .ok (.getfield 58, 3) := by decide +kernel
theorem dX11_adopt_37 : decode cX11_adopt 37 = .ok (.getfield 207, 3) := by decide +kernel
theorem dX11_adopt_40 : decode cX11_adopt 40 = .ok (.iload_n 2, 1) := by decide +kernel
theorem dX11_adopt_41 : decode cX11_adopt 41 = .ok (.iaload, 1) := by decide +kernel
theorem dX11_adopt_42 : decode cX11_adopt 42 = .ok (.invokevirtual 213, 3) := by decide +kernel
theorem dX11_adopt_45 : decode cX11_adopt 45 = .ok (.iinc 2 1, 3) := by decide +kernel
theorem dX11_adopt_48 : decode cX11_adopt 48 = .ok (.goto (-24), 3) := by decide +kernel
theorem dX11_adopt_51 : decode cX11_adopt 51 = .ok (.iload_n 1, 1) := by decide +kernel
theorem dX11_adopt_52 : decode cX11_adopt 52 = .ok (.ireturn, 1) := by decide +kernel
theorem dX11_back_0 : decode cX11_back 0 = .ok (.iload_n 1, 1) := by decide +kernel
theorem dX11_back_1 : decode cX11_back 1 = .ok (.iconst 2, 1) := by decide +kernel
theorem dX11_back_2 : decode cX11_back 2 = .ok (.invokestatic 113, 3) := by decide +kernel
theorem dX11_back_5 : decode cX11_back 5 = .ok (.ifCond .ne 5, 3) := by decide +kernel
theorem dX11_back_8 : decode cX11_back 8 = .ok (.iconst (-1), 1) := by decide +kernel
theorem dX11_back_9 : decode cX11_back 9 = .ok (.ireturn, 1) := by decide +kernel
theorem dX11_back_10 : decode cX11_back 10 = .ok (.aload_n 0, 1) := by decide +kernel
theorem dX11_back_11 : decode cX11_back 11 = .ok (.getfield 34, 3) := by decide +kernel
theorem dX11_back_14 : decode cX11_back 14 = .ok (.iload_n 1, 1) := by decide +kernel
theorem dX11_back_15 : decode cX11_back 15 = .ok (.aaload, 1) := by decide +kernel
theorem dX11_back_16 : decode cX11_back 16 = .ok (.getfield 281, 3) := by decide +kernel
theorem dX11_back_19 : decode cX11_back 19 = .ok (.ifCond .ne 6, 3) := by decide +kernel
theorem dX11_back_22 : decode cX11_back 22 = .ok (.bipush (-2), 2) := by decide +kernel
theorem dX11_back_24 : decode cX11_back 24 = .ok (.ireturn, 1) := by decide +kernel
theorem dX11_back_25 : decode cX11_back 25 = .ok (.aload_n 0, 1) := by decide +kernel
theorem dX11_back_26 : decode cX11_back 26 = .ok (.getfield 28, 3) := by decide +kernel
theorem dX11_back_29 : decode cX11_back 29 = .ok (.aload_n 0, 1) := by decide +kernel
theorem dX11_back_30 : decode cX11_back 30 = .ok (.getfield 34, 3) := by decide +kernel
theorem dX11_back_33 : decode cX11_back 33 = .ok (.iload_n 1, 1) := by decide +kernel
theorem dX11_back_34 : decode cX11_back 34 = .ok (.aaload, 1) := by decide +kernel
theorem dX11_back_35 : decode cX11_back 35 = .ok (.getfield 285, 3) := by decide +kernel
theorem dX11_back_38 : decode cX11_back 38 = .ok (.invokevirtual 106, 3) := by decide +kernel
theorem dX11_back_41 : decode cX11_back 41 = .ok (.aload_n 0, 1) := by decide +kernel
theorem dX11_back_42 : decode cX11_back 42 = .ok (.getfield 28, 3) := by decide +kernel
theorem dX11_back_45 : decode cX11_back 45 = .ok (.getfield 200, 3) := by decide +kernel
theorem dX11_back_48 : decode cX11_back 48 = .ok (.ireturn, 1) := by decide +kernel
theorem dX11_best_0 : decode cX11_best 0 = .ok (.iload_n 1, 1) := by decide +kernel
theorem dX11_best_1 : decode cX11_best 1 = .ok (.bipush 10, 2) := by decide +kernel
theorem dX11_best_3 : decode cX11_best 3 = .ok (.isub, 1) := by decide +kernel
theorem dX11_best_4 : decode cX11_best 4 = .ok (.istore_n 2, 1) := by decide +kernel
theorem dX11_best_5 : decode cX11_best 5 = .ok (.iload_n 1, 1) := by decide +kernel
theorem dX11_best_6 : decode cX11_best 6 = .ok (.ifCond .eq 22, 3) := by decide +kernel
theorem dX11_best_9 : decode cX11_best 9 = .ok (.iload_n 1, 1) := by decide +kernel
theorem dX11_best_10 : decode cX11_best 10 = .ok (.iconst 1, 1) := by decide +kernel
theorem dX11_best_11 : decode cX11_best 11 = .ok (.if_icmp .eq 17, 3) := by decide +kernel
theorem dX11_best_14 : decode cX11_best 14 = .ok (.iload_n 1, 1) := by decide +kernel
theorem dX11_best_15 : decode cX11_best 15 = .ok (.bipush 10, 2) := by decide +kernel
theorem dX11_best_17 : decode cX11_best 17 = .ok (.if_icmp .lt 9, 3) := by decide +kernel
theorem dX11_best_20 : decode cX11_best 20 = .ok (.iload_n 2, 1) := by decide +kernel
theorem dX11_best_21 : decode cX11_best 21 = .ok (.bipush 6, 2) := by decide +kernel
theorem dX11_best_23 : decode cX11_best 23 = .ok (.if_icmp .lt 5, 3) := by decide +kernel
theorem dX11_best_26 : decode cX11_best 26 = .ok (.iconst (-1), 1) := by decide +kernel
theorem dX11_best_27 : decode cX11_best 27 = .ok (.ireturn, 1) := by decide +kernel
theorem dX11_best_28 : decode cX11_best 28 = .ok (.aload_n 0, 1) := by decide +kernel
theorem dX11_best_29 : decode cX11_best 29 = .ok (.getfield 58, 3) := by decide +kernel
theorem dX11_best_32 : decode cX11_best 32 = .ok (.invokevirtual 202, 3) := by decide +kernel
theorem dX11_best_35 : decode cX11_best 35 = .ok (.istore_n 3, 1) := by decide +kernel
theorem dX11_best_36 : decode cX11_best 36 = .ok (.iload_n 3, 1) := by decide +kernel
theorem dX11_best_37 : decode cX11_best 37 = .ok (.ifCond .lt 8, 3) := by decide +kernel
theorem dX11_best_40 : decode cX11_best 40 = .ok (.iload_n 1, 1) := by decide +kernel
theorem dX11_best_41 : decode cX11_best 41 = .ok (.iconst 1, 1) := by decide +kernel
theorem dX11_best_42 : decode cX11_best 42 = .ok (.if_icmp .ne 5, 3) := by decide +kernel
theorem dX11_best_45 : decode cX11_best 45 = .ok (.iload_n 3, 1) := by decide +kernel
theorem dX11_best_46 : decode cX11_best 46 = .ok (.ireturn, 1) := by decide +kernel
theorem dX11_best_47 : decode cX11_best 47 = .ok (.iload_n 1, 1) := by decide +kernel
theorem dX11_best_48 : decode cX11_best 48 = .ok (.ifCond .ne 11, 3) := by decide +kernel
theorem dX11_best_51 : decode cX11_best 51 = .ok (.aload_n 0, 1) := by decide +kernel
theorem dX11_best_52 : decode cX11_best 52 = .ok (.getfield 58, 3) := by decide +kernel
theorem dX11_best_55 : decode cX11_best 55 = .ok (.getfield 205, 3) := by decide +kernel
theorem dX11_best_58 : decode cX11_best 58 = .ok (.ireturn, 1) := by decide +kernel
theorem dX11_best_59 : decode cX11_best 59 = .ok (.iload_n 2, 1) := by decide +kernel
theorem dX11_best_60 : decode cX11_best 60 = .ok (.iload_n 3, 1) := by decide +kernel
theorem dX11_best_61 : decode cX11_best 61 = .ok (.if_icmp .ge 15, 3) := by decide +kernel
theorem dX11_best_64 : decode cX11_best 64 = .ok (.aload_n 0, 1) := by decide +kernel
theorem dX11_best_65 : decode cX11_best 65 = .ok (.getfield 58, 3) := by decide +kernel
theorem dX11_best_68 : decode cX11_best 68 = .ok (.getfield 207, 3) := by decide +kernel
theorem dX11_best_71 : decode cX11_best 71 = .ok (.iload_n 2, 1) := by decide +kernel
theorem dX11_best_72 : decode cX11_best 72 = .ok (.iaload, 1) := by decide +kernel
theorem dX11_best_73 : decode cX11_best 73 = .ok (.goto 4, 3) := by decide +kernel
theorem dX11_best_76 : decode cX11_best 76 = .ok (.iconst (-1), 1) := by decide +kernel
theorem dX11_best_77 : decode cX11_best 77 = .ok (.ireturn, 1) := by decide +kernel
theorem dX11_book_0 : decode cX11_book 0 = .ok (.aload_n 0, 1) := by decide +kernel
theorem dX11_book_1 : decode cX11_book 1 = .ok (.getfield 28, 3) := by decide +kernel
theorem dX11_book_4 : decode cX11_book 4 = .ok (.iload_n 1, 1) := by decide +kernel
theorem dX11_book_5 : decode cX11_book 5 = .ok (.invokevirtual 109, 3) := by decide +kernel
theorem dX11_book_8 : decode cX11_book 8 = .ok (.ifCond .ne 5, 3) := by decide +kernel
theorem dX11_book_11 : decode cX11_book 11 = .ok (.iconst (-1), 1) := by decide +kernel
theorem dX11_book_12 : decode cX11_book 12 = .ok (.ireturn, 1) := by decide +kernel
theorem dX11_book_13 : decode cX11_book 13 = .ok (.aload_n 0, 1) := by decide +kernel
theorem dX11_book_14 : decode cX11_book 14 = .ok (.getfield 28, 3) := by decide +kernel
theorem dX11_book_17 : decode cX11_book 17 = .ok (.getfield 211, 3) := by decide +kernel
theorem dX11_book_20 : decode cX11_book 20 = .ok (.bipush 12, 2) := by decide +kernel
theorem dX11_book_22 : decode cX11_book 22 = .ok (.if_icmp .lt 6, 3) := by decide +kernel
theorem dX11_book_25 : decode cX11_book 25 = .ok (.bipush (-3), 2) := by decide +kernel
theorem dX11_book_27 : decode cX11_book 27 = .ok (.ireturn, 1) := by decide +kernel
theorem dX11_book_28 : decode cX11_book 28 = .ok (.aload_n 0, 1) := by decide +kernel
theorem dX11_book_29 : decode cX11_book 29 = .ok (.getfield 28, 3) := by decide +kernel
theorem dX11_book_32 : decode cX11_book 32 = .ok (.iload_n 1, 1) := by decide +kernel
theorem dX11_book_33 : decode cX11_book 33 = .ok (.invokevirtual 213, 3) := by decide +kernel
theorem dX11_book_36 : decode cX11_book 36 = .ok (.aload_n 0, 1) := by decide +kernel
theorem dX11_book_37 : decode cX11_book 37 = .ok (.getfield 28, 3) := by decide +kernel
theorem dX11_book_40 : decode cX11_book 40 = .ok (.getfield 211, 3) := by decide +kernel
theorem dX11_book_43 : decode cX11_book 43 = .ok (.ireturn, 1) := by decide +kernel
theorem dX11_coins_0 : decode cX11_coins 0 = .ok (.iload_n 1, 1) := by decide +kernel
theorem dX11_coins_1 : decode cX11_coins 1 = .ok (.iconst 2, 1) := by decide +kernel
theorem dX11_coins_2 : decode cX11_coins 2 = .ok (.invokestatic 113, 3) := by decide +kernel
theorem dX11_coins_5 : decode cX11_coins 5 = .ok (.ifCond .ne 5, 3) := by decide +kernel
theorem dX11_coins_8 : decode cX11_coins 8 = .ok (.iconst (-1), 1) := by decide +kernel
theorem dX11_coins_9 : decode cX11_coins 9 = .ok (.ireturn, 1) := by decide +kernel
theorem dX11_coins_10 : decode cX11_coins 10 = .ok (.aload_n 0, 1) := by decide +kernel
theorem dX11_coins_11 : decode cX11_coins 11 = .ok (.getfield 28, 3) := by decide +kernel
theorem dX11_coins_14 : decode cX11_coins 14 = .ok (.bipush 7, 2) := by decide +kernel
theorem dX11_coins_16 : decode cX11_coins 16 = .ok (.invokevirtual 241, 3) := by decide +kernel
theorem dX11_coins_19 : decode cX11_coins 19 = .ok (.ifCond .eq 6, 3) := by decide +kernel
theorem dX11_coins_22 : decode cX11_coins 22 = .ok (.bipush (-2), 2) := by decide +kernel
theorem dX11_coins_24 : decode cX11_coins 24 = .ok (.ireturn, 1) := by decide +kernel
theorem dX11_coins_25 : decode cX11_coins 25 = .ok (.aload_n 0, 1) := by decide +kernel
theorem dX11_coins_26 : decode cX11_coins 26 = .ok (.getfield 72, 3) := by decide +kernel
theorem dX11_coins_29 : decode cX11_coins 29 = .ok (.invokevirtual 275, 3) := by decide +kernel
theorem dX11_coins_32 : decode cX11_coins 32 = .ok (.istore_n 2, 1) := by decide +kernel
theorem dX11_coins_33 : decode cX11_coins 33 = .ok (.iload_n 1, 1) := by decide +kernel
theorem dX11_coins_34 : decode cX11_coins 34 = .ok (.ifCond .ne 15, 3) := by decide +kernel
theorem dX11_coins_37 : decode cX11_coins 37 = .ok (.aload_n 0, 1) := by decide +kernel
theorem dX11_coins_38 : decode cX11_coins 38 = .ok (.getfield 28, 3) := by decide +kernel
theorem dX11_coins_41 : decode cX11_coins 41 = .ok (.getfield 200, 3) := by decide +kernel
theorem dX11_coins_44 : decode cX11_coins 44 = .ok (.iload_n 2, 1) := by decide +kernel
theorem dX11_coins_45 : decode cX11_coins 45 = .ok (.isub, 1) := by decide +kernel
theorem dX11_coins_46 : decode cX11_coins 46 = .ok (.goto 4, 3) := by decide +kernel
theorem dX11_coins_49 : decode cX11_coins 49 = .ok (.iload_n 2, 1) := by decide +kernel
theorem dX11_coins_50 : decode cX11_coins 50 = .ok (.ireturn, 1) := by decide +kernel
theorem dX11_commonDivisor_0 : decode cX11_commonDivisor 0 = .ok (.iconst 0, 1) := by decide +kernel
theorem dX11_commonDivisor_1 : decode cX11_commonDivisor 1 = .ok (.istore 4, 2) := by decide +kernel
theorem dX11_commonDivisor_3 : decode cX11_commonDivisor 3 = .ok (.iload 4, 2) := by decide +kernel
theorem dX11_commonDivisor_5 : decode cX11_commonDivisor 5 = .ok (.bipush 100, 2) := by decide +kernel
theorem dX11_commonDivisor_7 : decode cX11_commonDivisor 7 = .ok (.if_icmp .ge 25, 3) := by decide +kernel
theorem dX11_commonDivisor_10 : decode cX11_commonDivisor 10 = .ok (.lload_n 2, 1) := by decide +kernel
theorem dX11_commonDivisor_11 : decode cX11_commonDivisor 11 = .ok (.lconst 0, 1) := by decide +kernel
theorem dX11_commonDivisor_12 : decode cX11_commonDivisor 12 = .ok (.lcmp, 1) := by decide +kernel
theorem dX11_commonDivisor_13 : decode cX11_commonDivisor 13 = .ok (.ifCond .eq 19, 3) := by decide +kernel
theorem dX11_commonDivisor_16 : decode cX11_commonDivisor 16 = .ok (.lload_n 0, 1) := by decide +kernel
theorem dX11_commonDivisor_17 : decode cX11_commonDivisor 17 = .ok (.lload_n 2, 1) := by decide +kernel
theorem dX11_commonDivisor_18 : decode cX11_commonDivisor 18 = .ok (.lrem, 1) := by decide +kernel
theorem dX11_commonDivisor_19 : decode cX11_commonDivisor 19 = .ok (.lstore 5, 2) := by decide +kernel
theorem dX11_commonDivisor_21 : decode cX11_commonDivisor 21 = .ok (.lload_n 2, 1) := by decide +kernel
theorem dX11_commonDivisor_22 : decode cX11_commonDivisor 22 = .ok (.lstore_n 0, 1) := by decide +kernel
theorem dX11_commonDivisor_23 : decode cX11_commonDivisor 23 = .ok (.lload 5, 2) := by decide +kernel
theorem dX11_commonDivisor_25 : decode cX11_commonDivisor 25 = .ok (.lstore_n 2, 1) := by decide +kernel
theorem dX11_commonDivisor_26 : decode cX11_commonDivisor 26 = .ok (.iinc 4 1, 3) := by decide +kernel
theorem dX11_commonDivisor_29 : decode cX11_commonDivisor 29 = .ok (.goto (-26), 3) := by decide +kernel
theorem dX11_commonDivisor_32 : decode cX11_commonDivisor 32 = .ok (.lload_n 0, 1) := by decide +kernel
theorem dX11_commonDivisor_33 : decode cX11_commonDivisor 33 = .ok (.lreturn, 1) := by decide +kernel
theorem dX11_count_0 : decode cX11_count 0 = .ok (.iload_n 1, 1) := by decide +kernel
theorem dX11_count_1 : decode cX11_count 1 = .ok (.tableswitch 148 0 6 #[43, 51, 61, 69, 105, 113, 140], 43) := by decide +kernel
theorem dX11_count_44 : decode cX11_count 44 = .ok (.aload_n 0, 1) := by decide +kernel
theorem dX11_count_45 : decode cX11_count 45 = .ok (.getfield 28, 3) := by decide +kernel
theorem dX11_count_48 : decode cX11_count 48 = .ok (.getfield 200, 3) := by decide +kernel
theorem dX11_count_51 : decode cX11_count 51 = .ok (.ireturn, 1) := by decide +kernel
theorem dX11_count_52 : decode cX11_count 52 = .ok (.aload_n 0, 1) := by decide +kernel
theorem dX11_count_53 : decode cX11_count 53 = .ok (.getfield 28, 3) := by decide +kernel
theorem dX11_count_56 : decode cX11_count 56 = .ok (.bipush 6, 2) := by decide +kernel
theorem dX11_count_58 : decode cX11_count 58 = .ok (.invokevirtual 241, 3) := by decide +kernel
theorem dX11_count_61 : decode cX11_count 61 = .ok (.ireturn, 1) := by decide +kernel
theorem dX11_count_62 : decode cX11_count 62 = .ok (.aload_n 0, 1) := by decide +kernel
theorem dX11_count_63 : decode cX11_count 63 = .ok (.getfield 28, 3) := by decide +kernel
theorem dX11_count_66 : decode cX11_count 66 = .ok (.getfield 211, 3) := by decide +kernel
theorem dX11_count_69 : decode cX11_count 69 = .ok (.ireturn, 1) := by decide +kernel
theorem dX11_count_70 : decode cX11_count 70 = .ok (.aload_n 0, 1) := by decide +kernel
theorem dX11_count_71 : decode cX11_count 71 = .ok (.getfield 34, 3) := by decide +kernel
theorem dX11_count_74 : decode cX11_count 74 = .ok (.iconst 0, 1) := by decide +kernel
theorem dX11_count_75 : decode cX11_count 75 = .ok (.aaload, 1) := by decide +kernel
theorem dX11_count_76 : decode cX11_count 76 = .ok (.getfield 281, 3) := by decide +kernel
theorem dX11_count_79 : decode cX11_count 79 = .ok (.ifCond .eq 7, 3) := by decide +kernel
theorem dX11_count_82 : decode cX11_count 82 = .ok (.iconst 1, 1) := by decide +kernel
theorem dX11_count_83 : decode cX11_count 83 = .ok (.goto 4, 3) := by decide +kernel
theorem dX11_count_86 : decode cX11_count 86 = .ok (.iconst 0, 1) := by decide +kernel
theorem dX11_count_87 : decode cX11_count 87 = .ok (.aload_n 0, 1) := by decide +kernel
theorem dX11_count_88 : decode cX11_count 88 = .ok (.getfield 34, 3) := by decide +kernel
theorem dX11_count_91 : decode cX11_count 91 = .ok (.iconst 1, 1) := by decide +kernel
theorem dX11_count_92 : decode cX11_count 92 = .ok (.aaload, 1) := by decide +kernel
theorem dX11_count_93 : decode cX11_count 93 = .ok (.getfield 281, 3) := by decide +kernel
theorem dX11_count_96 : decode cX11_count 96 = .ok (.ifCond .eq 7, 3) := by decide +kernel
theorem dX11_count_99 : decode cX11_count 99 = .ok (.iconst 1, 1) := by decide +kernel
theorem dX11_count_100 : decode cX11_count 100 = .ok (.goto 4, 3) := by decide +kernel
theorem dX11_count_103 : decode cX11_count 103 = .ok (.iconst 0, 1) := by decide +kernel
theorem dX11_count_104 : decode cX11_count 104 = .ok (.iadd, 1) := by decide +kernel
theorem dX11_count_105 : decode cX11_count 105 = .ok (.ireturn, 1) := by decide +kernel
theorem dX11_count_106 : decode cX11_count 106 = .ok (.aload_n 0, 1) := by decide +kernel
theorem dX11_count_107 : decode cX11_count 107 = .ok (.getfield 10, 3) := by decide +kernel
theorem dX11_count_110 : decode cX11_count 110 = .ok (.getfield 86, 3) := by decide +kernel
theorem dX11_count_113 : decode cX11_count 113 = .ok (.ireturn, 1) := by decide +kernel
theorem dX11_count_114 : decode cX11_count 114 = .ok (.aload_n 0, 1) := by decide +kernel
theorem dX11_count_115 : decode cX11_count 115 = .ok (.getfield 40, 3) := by decide +kernel
theorem dX11_count_118 : decode cX11_count 118 = .ok (.iconst 0, 1) := by decide +kernel
theorem dX11_count_119 : decode cX11_count 119 = .ok (.aaload, 1) := by decide +kernel
theorem dX11_count_120 : decode cX11_count 120 = .ok (.getfield 301, 3) := by decide +kernel
theorem dX11_count_123 : decode cX11_count 123 = .ok (.ifCond .ge 8, 3) := by decide +kernel
theorem dX11_count_126 : decode cX11_count 126 = .ok (.bipush (-4), 2) := by decide +kernel
theorem dX11_count_128 : decode cX11_count 128 = .ok (.goto 12, 3) := by decide +kernel
theorem dX11_count_131 : decode cX11_count 131 = .ok (.aload_n 0, 1) := by decide +kernel
theorem dX11_count_132 : decode cX11_count 132 = .ok (.getfield 40, 3) := by decide +kernel
theorem dX11_count_135 : decode cX11_count 135 = .ok (.iconst 0, 1) := by decide +kernel
theorem dX11_count_136 : decode cX11_count 136 = .ok (.aaload, 1) := by decide +kernel
theorem dX11_count_137 : decode cX11_count 137 = .ok (.getfield 301, 3) := by decide +kernel
theorem dX11_count_140 : decode cX11_count 140 = .ok (.ireturn, 1) := by decide +kernel
theorem dX11_count_141 : decode cX11_count 141 = .ok (.aload_n 0, 1) := by decide +kernel
theorem dX11_count_142 : decode cX11_count 142 = .ok (.getfield 28, 3) := by decide +kernel
theorem dX11_count_145 : decode cX11_count 145 = .ok (.getfield 304, 3) := by decide +kernel
theorem dX11_count_148 : decode cX11_count 148 = .ok (.ireturn, 1) := by decide +kernel
theorem dX11_count_149 : decode cX11_count 149 = .ok (.iconst (-1), 1) := by decide +kernel
theorem dX11_count_150 : decode cX11_count 150 = .ok (.ireturn, 1) := by decide +kernel
theorem dX11_end_0 : decode cX11_end 0 = .ok (.iload_n 1, 1) := by decide +kernel
theorem dX11_end_1 : decode cX11_end 1 = .ok (.ifCond .lt 14, 3) := by decide +kernel
theorem dX11_end_4 : decode cX11_end 4 = .ok (.iload_n 1, 1) := by decide +kernel
theorem dX11_end_5 : decode cX11_end 5 = .ok (.aload_n 0, 1) := by decide +kernel
theorem dX11_end_6 : decode cX11_end 6 = .ok (.getfield 10, 3) := by decide +kernel
theorem dX11_end_9 : decode cX11_end 9 = .ok (.getfield 86, 3) := by decide +kernel
theorem dX11_end_12 : decode cX11_end 12 = .ok (.if_icmp .le 5, 3) := by decide +kernel
theorem dX11_end_15 : decode cX11_end 15 = .ok (.iconst (-1), 1) := by decide +kernel
theorem dX11_end_16 : decode cX11_end 16 = .ok (.ireturn, 1) := by decide +kernel
theorem dX11_end_17 : decode cX11_end 17 = .ok (.aload_n 0, 1) := by decide +kernel
theorem dX11_end_18 : decode cX11_end 18 = .ok (.getfield 10, 3) := by decide +kernel
theorem dX11_end_21 : decode cX11_end 21 = .ok (.getfield 86, 3) := by decide +kernel
theorem dX11_end_24 : decode cX11_end 24 = .ok (.istore_n 2, 1) := by decide +kernel
theorem dX11_end_25 : decode cX11_end 25 = .ok (.aload_n 0, 1) := by decide +kernel
theorem dX11_end_26 : decode cX11_end 26 = .ok (.getfield 10, 3) := by decide +kernel
theorem dX11_end_29 : decode cX11_end 29 = .ok (.iload_n 1, 1) := by decide +kernel
theorem dX11_end_30 : decode cX11_end 30 = .ok (.invokevirtual 89, 3) := by decide +kernel
theorem dX11_end_33 : decode cX11_end 33 = .ok (.iload_n 2, 1) := by decide +kernel
theorem dX11_end_34 : decode cX11_end 34 = .ok (.ireturn, 1) := by decide +kernel
theorem dX11_evening_0 : decode cX11_evening 0 = .ok (.iload_n 1, 1) := by decide +kernel
theorem dX11_evening_1 : decode cX11_evening 1 = .ok (.bipush 7, 2) := by decide +kernel
theorem dX11_evening_3 : decode cX11_evening 3 = .ok (.invokestatic 113, 3) := by decide +kernel
theorem dX11_evening_6 : decode cX11_evening 6 = .ok (.ifCond .eq 12, 3) := by decide +kernel
theorem dX11_evening_9 : decode cX11_evening 9 = .ok (.iload_n 3, 1) := by decide +kernel
theorem dX11_evening_10 : decode cX11_evening 10 = .ok (.bipush 7, 2) := by decide +kernel
theorem dX11_evening_12 : decode cX11_evening 12 = .ok (.invokestatic 113, 3) := by decide +kernel
theorem dX11_evening_15 : decode cX11_evening 15 = .ok (.ifCond .ne 5, 3) := by decide +kernel
theorem dX11_evening_18 : decode cX11_evening 18 = .ok (.iconst (-1), 1) := by decide +kernel
theorem dX11_evening_19 : decode cX11_evening 19 = .ok (.ireturn, 1) := by decide +kernel
theorem dX11_evening_20 : decode cX11_evening 20 = .ok (.aload_n 0, 1) := by decide +kernel
theorem dX11_evening_21 : decode cX11_evening 21 = .ok (.iload_n 1, 1) := by decide +kernel
theorem dX11_evening_22 : decode cX11_evening 22 = .ok (.iload_n 2, 1) := by decide +kernel
theorem dX11_evening_23 : decode cX11_evening 23 = .ok (.invokevirtual 126, 3) := by decide +kernel
theorem dX11_evening_26 : decode cX11_evening 26 = .ok (.iload_n 3, 1) := by decide +kernel
theorem dX11_evening_27 : decode cX11_evening 27 = .ok (.tableswitch 85 0 5 #[37, 45, 53, 61, 69, 77], 37) := by decide +kernel
theorem dX11_evening_64 : decode cX11_evening 64 = .ok (.aload_n 0, 1) := by decide +kernel
theorem dX11_evening_65 : decode cX11_evening 65 = .ok (.getfield 49, 3) := by decide +kernel
theorem dX11_evening_68 : decode cX11_evening 68 = .ok (.getfield 130, 3) := by decide +kernel
theorem dX11_evening_71 : decode cX11_evening 71 = .ok (.ireturn, 1) := by decide +kernel
theorem dX11_evening_72 : decode cX11_evening 72 = .ok (.aload_n 0, 1) := by decide +kernel
theorem dX11_evening_73 : decode cX11_evening 73 = .ok (.getfield 49, 3) := by decide +kernel
theorem dX11_evening_76 : decode cX11_evening 76 = .ok (.getfield 133, 3) := by decide +kernel
theorem dX11_evening_79 : decode cX11_evening 79 = .ok (.ireturn, 1) := by decide +kernel
theorem dX11_evening_80 : decode cX11_evening 80 = .ok (.aload_n 0, 1) := by decide +kernel
theorem dX11_evening_81 : decode cX11_evening 81 = .ok (.getfield 49, 3) := by decide +kernel
theorem dX11_evening_84 : decode cX11_evening 84 = .ok (.invokevirtual 136, 3) := by decide +kernel
theorem dX11_evening_87 : decode cX11_evening 87 = .ok (.ireturn, 1) := by decide +kernel
theorem dX11_evening_88 : decode cX11_evening 88 = .ok (.aload_n 0, 1) := by decide +kernel
theorem dX11_evening_89 : decode cX11_evening 89 = .ok (.getfield 49, 3) := by decide +kernel
theorem dX11_evening_92 : decode cX11_evening 92 = .ok (.invokevirtual 139, 3) := by decide +kernel
theorem dX11_evening_95 : decode cX11_evening 95 = .ok (.ireturn, 1) := by decide +kernel
theorem dX11_evening_96 : decode cX11_evening 96 = .ok (.aload_n 0, 1) := by decide +kernel
theorem dX11_evening_97 : decode cX11_evening 97 = .ok (.getfield 49, 3) := by decide +kernel
theorem dX11_evening_100 : decode cX11_evening 100 = .ok (.getfield 142, 3) := by decide +kernel
theorem dX11_evening_103 : decode cX11_evening 103 = .ok (.ireturn, 1) := by decide +kernel
theorem dX11_evening_104 : decode cX11_evening 104 = .ok (.aload_n 0, 1) := by decide +kernel
theorem dX11_evening_105 : decode cX11_evening 105 = .ok (.getfield 49, 3) := by decide +kernel
theorem dX11_evening_108 : decode cX11_evening 108 = .ok (.getfield 145, 3) := by decide +kernel
theorem dX11_evening_111 : decode cX11_evening 111 = .ok (.ireturn, 1) := by decide +kernel
theorem dX11_evening_112 : decode cX11_evening 112 = .ok (.aload_n 0, 1) := by decide +kernel
theorem dX11_evening_113 : decode cX11_evening 113 = .ok (.getfield 49, 3) := by decide +kernel
theorem dX11_evening_116 : decode cX11_evening 116 = .ok (.getfield 148, 3) := by decide +kernel
theorem dX11_evening_119 : decode cX11_evening 119 = .ok (.ireturn, 1) := by decide +kernel
theorem dX11_fairest_0 : decode cX11_fairest 0 = .ok (.iload_n 2, 1) := by decide +kernel
theorem dX11_fairest_1 : decode cX11_fairest 1 = .ok (.iconst 4, 1) := by decide +kernel
theorem dX11_fairest_2 : decode cX11_fairest 2 = .ok (.invokestatic 113, 3) := by decide +kernel
theorem dX11_fairest_5 : decode cX11_fairest 5 = .ok (.ifCond .ne 5, 3) := by decide +kernel
theorem dX11_fairest_8 : decode cX11_fairest 8 = .ok (.iconst (-1), 1) := by decide +kernel
theorem dX11_fairest_9 : decode cX11_fairest 9 = .ok (.ireturn, 1) := by decide +kernel
theorem dX11_fairest_10 : decode cX11_fairest 10 = .ok (.aload_n 0, 1) := by decide +kernel
theorem dX11_fairest_11 : decode cX11_fairest 11 = .ok (.getfield 28, 3) := by decide +kernel
theorem dX11_fairest_14 : decode cX11_fairest 14 = .ok (.getfield 200, 3) := by decide +kernel
theorem dX11_fairest_17 : decode cX11_fairest 17 = .ok (.ifCond .ne 6, 3) := by decide +kernel
theorem dX11_fairest_20 : decode cX11_fairest 20 = .ok (.bipush (-2), 2) := by decide +kernel
theorem dX11_fairest_22 : decode cX11_fairest 22 = .ok (.ireturn, 1) := by decide +kernel
theorem dX11_fairest_23 : decode cX11_fairest 23 = .ok (.iload_n 2, 1) := by decide +kernel
theorem dX11_fairest_24 : decode cX11_fairest 24 = .ok (.iconst 2, 1) := by decide +kernel
theorem dX11_fairest_25 : decode cX11_fairest 25 = .ok (.irem, 1) := by decide +kernel
theorem dX11_fairest_26 : decode cX11_fairest 26 = .ok (.ifCond .ne 7, 3) := by decide +kernel
theorem dX11_fairest_29 : decode cX11_fairest 29 = .ok (.iconst 1, 1) := by decide +kernel
theorem dX11_fairest_30 : decode cX11_fairest 30 = .ok (.goto 4, 3) := by decide +kernel
theorem dX11_fairest_33 : decode cX11_fairest 33 = .ok (.iconst 0, 1) := by decide +kernel
theorem dX11_fairest_34 : decode cX11_fairest 34 = .ok (.istore_n 3, 1) := by decide +kernel
theorem dX11_fairest_35 : decode cX11_fairest 35 = .ok (.iconst 0, 1) := by decide +kernel
theorem dX11_fairest_36 : decode cX11_fairest 36 = .ok (.istore 4, 2) := by decide +kernel
theorem dX11_fairest_38 : decode cX11_fairest 38 = .ok (.ldc 201, 2) := by decide +kernel
theorem dX11_fairest_40 : decode cX11_fairest 40 = .ok (.istore 5, 2) := by decide +kernel
theorem dX11_fairest_42 : decode cX11_fairest 42 = .ok (.iconst 0, 1) := by decide +kernel
theorem dX11_fairest_43 : decode cX11_fairest 43 = .ok (.istore 6, 2) := by decide +kernel
theorem dX11_fairest_45 : decode cX11_fairest 45 = .ok (.iload 6, 2) := by decide +kernel
theorem dX11_fairest_47 : decode cX11_fairest 47 = .ok (.bipush 7, 2) := by decide +kernel
theorem dX11_fairest_49 : decode cX11_fairest 49 = .ok (.if_icmp .ge 54, 3) := by decide +kernel
theorem dX11_fairest_52 : decode cX11_fairest 52 = .ok (.aload_n 0, 1) := by decide +kernel
theorem dX11_fairest_53 : decode cX11_fairest 53 = .ok (.iload 6, 2) := by decide +kernel
theorem dX11_fairest_55 : decode cX11_fairest 55 = .ok (.iload_n 1, 1) := by decide +kernel
theorem dX11_fairest_56 : decode cX11_fairest 56 = .ok (.invokevirtual 126, 3) := by decide +kernel
theorem dX11_fairest_59 : decode cX11_fairest 59 = .ok (.iload_n 3, 1) := by decide +kernel
theorem dX11_fairest_60 : decode cX11_fairest 60 = .ok (.ifCond .eq 13, 3) := by decide +kernel
theorem dX11_fairest_63 : decode cX11_fairest 63 = .ok (.aload_n 0, 1) := by decide +kernel
theorem dX11_fairest_64 : decode cX11_fairest 64 = .ok (.getfield 49, 3) := by decide +kernel
theorem dX11_fairest_67 : decode cX11_fairest 67 = .ok (.invokevirtual 136, 3) := by decide +kernel
theorem dX11_fairest_70 : decode cX11_fairest 70 = .ok (.goto 10, 3) := by decide +kernel
theorem dX11_fairest_73 : decode cX11_fairest 73 = .ok (.aload_n 0, 1) := by decide +kernel
theorem dX11_fairest_74 : decode cX11_fairest 74 = .ok (.getfield 49, 3) := by decide +kernel
theorem dX11_fairest_77 : decode cX11_fairest 77 = .ok (.getfield 142, 3) := by decide +kernel
theorem dX11_fairest_80 : decode cX11_fairest 80 = .ok (.istore 7, 2) := by decide +kernel
theorem dX11_fairest_82 : decode cX11_fairest 82 = .ok (.iload 7, 2) := by decide +kernel
theorem dX11_fairest_84 : decode cX11_fairest 84 = .ok (.iload 5, 2) := by decide +kernel
theorem dX11_fairest_86 : decode cX11_fairest 86 = .ok (.if_icmp .ge 11, 3) := by decide +kernel
theorem dX11_fairest_89 : decode cX11_fairest 89 = .ok (.iload 7, 2) := by decide +kernel
theorem dX11_fairest_91 : decode cX11_fairest 91 = .ok (.istore 5, 2) := by decide +kernel
theorem dX11_fairest_93 : decode cX11_fairest 93 = .ok (.iload 6, 2) := by decide +kernel
theorem dX11_fairest_95 : decode cX11_fairest 95 = .ok (.istore 4, 2) := by decide +kernel
theorem dX11_fairest_97 : decode cX11_fairest 97 = .ok (.iinc 6 1, 3) := by decide +kernel
theorem dX11_fairest_100 : decode cX11_fairest 100 = .ok (.goto (-55), 3) := by decide +kernel
theorem dX11_fairest_103 : decode cX11_fairest 103 = .ok (.iload_n 2, 1) := by decide +kernel
theorem dX11_fairest_104 : decode cX11_fairest 104 = .ok (.iconst 2, 1) := by decide +kernel
theorem dX11_fairest_105 : decode cX11_fairest 105 = .ok (.if_icmp .ge 8, 3) := by decide +kernel
theorem dX11_fairest_108 : decode cX11_fairest 108 = .ok (.iload 4, 2) := by decide +kernel
theorem dX11_fairest_110 : decode cX11_fairest 110 = .ok (.goto 5, 3) := by decide +kernel
theorem dX11_fairest_113 : decode cX11_fairest 113 = .ok (.iload 5, 2) := by decide +kernel
theorem dX11_fairest_115 : decode cX11_fairest 115 = .ok (.ireturn, 1) := by decide +kernel
theorem dX11_fault_0 : decode cX11_fault 0 = .ok (.aload_n 0, 1) := by decide +kernel
theorem dX11_fault_1 : decode cX11_fault 1 = .ok (.getfield 21, 3) := by decide +kernel
theorem dX11_fault_4 : decode cX11_fault 4 = .ok (.getfield 97, 3) := by decide +kernel
theorem dX11_fault_7 : decode cX11_fault 7 = .ok (.ireturn, 1) := by decide +kernel
theorem dX11_feed_0 : decode cX11_feed 0 = .ok (.aload_n 0, 1) := by decide +kernel
theorem dX11_feed_1 : decode cX11_feed 1 = .ok (.getfield 10, 3) := by decide +kernel
theorem dX11_feed_4 : decode cX11_feed 4 = .ok (.lload_n 1, 1) := by decide +kernel
theorem dX11_feed_5 : decode cX11_feed 5 = .ok (.invokevirtual 82, 3) := by decide +kernel
theorem dX11_feed_8 : decode cX11_feed 8 = .ok (.ifCond .eq 13, 3) := by decide +kernel
theorem dX11_feed_11 : decode cX11_feed 11 = .ok (.aload_n 0, 1) := by decide +kernel
theorem dX11_feed_12 : decode cX11_feed 12 = .ok (.getfield 10, 3) := by decide +kernel
theorem dX11_feed_15 : decode cX11_feed 15 = .ok (.getfield 86, 3) := by decide +kernel
theorem dX11_feed_18 : decode cX11_feed 18 = .ok (.goto 5, 3) := by decide +kernel
theorem dX11_feed_21 : decode cX11_feed 21 = .ok (.bipush (-3), 2) := by decide +kernel
theorem dX11_feed_23 : decode cX11_feed 23 = .ok (.ireturn, 1) := by decide +kernel
theorem dX11_fridays_0 : decode cX11_fridays 0 = .ok (.iload_n 1, 1) := by decide +kernel
theorem dX11_fridays_1 : decode cX11_fridays 1 = .ok (.bipush 7, 2) := by decide +kernel
theorem dX11_fridays_3 : decode cX11_fridays 3 = .ok (.invokestatic 113, 3) := by decide +kernel
theorem dX11_fridays_6 : decode cX11_fridays 6 = .ok (.ifCond .eq 23, 3) := by decide +kernel
theorem dX11_fridays_9 : decode cX11_fridays 9 = .ok (.iload_n 3, 1) := by decide +kernel
theorem dX11_fridays_10 : decode cX11_fridays 10 = .ok (.iconst 1, 1) := by decide +kernel
theorem dX11_fridays_11 : decode cX11_fridays 11 = .ok (.if_icmp .lt 18, 3) := by decide +kernel
theorem dX11_fridays_14 : decode cX11_fridays 14 = .ok (.iload_n 3, 1) := by decide +kernel
theorem dX11_fridays_15 : decode cX11_fridays 15 = .ok (.bipush 60, 2) := by decide +kernel
theorem dX11_fridays_17 : decode cX11_fridays 17 = .ok (.if_icmp .gt 12, 3) := by decide +kernel
theorem dX11_fridays_20 : decode cX11_fridays 20 = .ok (.iload 4, 2) := by decide +kernel
theorem dX11_fridays_22 : decode cX11_fridays 22 = .ok (.iconst 4, 1) := by decide +kernel
theorem dX11_fridays_23 : decode cX11_fridays 23 = .ok (.invokestatic 113, 3) := by decide +kernel
theorem dX11_fridays_26 : decode cX11_fridays 26 = .ok (.ifCond .ne 5, 3) := by decide +kernel
theorem dX11_fridays_29 : decode cX11_fridays 29 = .ok (.iconst (-1), 1) := by decide +kernel
theorem dX11_fridays_30 : decode cX11_fridays 30 = .ok (.ireturn, 1) := by decide +kernel
theorem dX11_fridays_31 : decode cX11_fridays 31 = .ok (.iconst 0, 1) := by decide +kernel
theorem dX11_fridays_32 : decode cX11_fridays 32 = .ok (.istore 5, 2) := by decide +kernel
theorem dX11_fridays_34 : decode cX11_fridays 34 = .ok (.iconst 0, 1) := by decide +kernel
theorem dX11_fridays_35 : decode cX11_fridays 35 = .ok (.istore 6, 2) := by decide +kernel
theorem dX11_fridays_37 : decode cX11_fridays 37 = .ok (.bipush (-4), 2) := by decide +kernel
theorem dX11_fridays_39 : decode cX11_fridays 39 = .ok (.istore 7, 2) := by decide +kernel
theorem dX11_fridays_41 : decode cX11_fridays 41 = .ok (.iconst 0, 1) := by decide +kernel
theorem dX11_fridays_42 : decode cX11_fridays 42 = .ok (.istore 8, 2) := by decide +kernel
theorem dX11_fridays_44 : decode cX11_fridays 44 = .ok (.aload_n 0, 1) := by decide +kernel
theorem dX11_fridays_45 : decode cX11_fridays 45 = .ok (.getfield 49, 3) := by decide +kernel
theorem dX11_fridays_48 : decode cX11_fridays 48 = .ok (.iload_n 1, 1) := by decide +kernel
theorem dX11_fridays_49 : decode cX11_fridays 49 = .ok (.iload_n 2, 1) := by decide +kernel
theorem dX11_fridays_50 : decode cX11_fridays 50 = .ok (.invokevirtual 269, 3) := by decide +kernel
theorem dX11_fridays_53 : decode cX11_fridays 53 = .ok (.iconst 1, 1) := by decide +kernel
theorem dX11_fridays_54 : decode cX11_fridays 54 = .ok (.istore 9, 2) := by decide +kernel
theorem dX11_fridays_56 : decode cX11_fridays 56 = .ok (.iload 9, 2) := by decide +kernel
theorem dX11_fridays_58 : decode cX11_fridays 58 = .ok (.iload_n 3, 1) := by decide +kernel
theorem dX11_fridays_59 : decode cX11_fridays 59 = .ok (.if_icmp .gt 69, 3) := by decide +kernel
theorem dX11_fridays_62 : decode cX11_fridays 62 = .ok (.aload_n 0, 1) := by decide +kernel
theorem dX11_fridays_63 : decode cX11_fridays 63 = .ok (.getfield 49, 3) := by decide +kernel
theorem dX11_fridays_66 : decode cX11_fridays 66 = .ok (.invokevirtual 253, 3) := by decide +kernel
theorem dX11_fridays_69 : decode cX11_fridays 69 = .ok (.aload_n 0, 1) := by decide +kernel
theorem dX11_fridays_70 : decode cX11_fridays 70 = .ok (.getfield 49, 3) := by decide +kernel
theorem dX11_fridays_73 : decode cX11_fridays 73 = .ok (.invokevirtual 136, 3) := by decide +kernel
theorem dX11_fridays_76 : decode cX11_fridays 76 = .ok (.istore 5, 2) := by decide +kernel
theorem dX11_fridays_78 : decode cX11_fridays 78 = .ok (.iload 6, 2) := by decide +kernel
theorem dX11_fridays_80 : decode cX11_fridays 80 = .ok (.iload 5, 2) := by decide +kernel
theorem dX11_fridays_82 : decode cX11_fridays 82 = .ok (.invokestatic 236, 3) := by decide +kernel
theorem dX11_fridays_85 : decode cX11_fridays 85 = .ok (.istore 6, 2) := by decide +kernel
theorem dX11_fridays_87 : decode cX11_fridays 87 = .ok (.iload 5, 2) := by decide +kernel
theorem dX11_fridays_89 : decode cX11_fridays 89 = .ok (.ifCond .ne 14, 3) := by decide +kernel
theorem dX11_fridays_92 : decode cX11_fridays 92 = .ok (.iload 7, 2) := by decide +kernel
theorem dX11_fridays_94 : decode cX11_fridays 94 = .ok (.bipush (-4), 2) := by decide +kernel
theorem dX11_fridays_96 : decode cX11_fridays 96 = .ok (.if_icmp .ne 7, 3) := by decide +kernel
theorem dX11_fridays_99 : decode cX11_fridays 99 = .ok (.iload 9, 2) := by decide +kernel
theorem dX11_fridays_101 : decode cX11_fridays 101 = .ok (.istore 7, 2) := by decide +kernel
theorem dX11_fridays_103 : decode cX11_fridays 103 = .ok (.iload 8, 2) := by decide +kernel
theorem dX11_fridays_105 : decode cX11_fridays 105 = .ok (.aload_n 0, 1) := by decide +kernel
theorem dX11_fridays_106 : decode cX11_fridays 106 = .ok (.getfield 49, 3) := by decide +kernel
theorem dX11_fridays_109 : decode cX11_fridays 109 = .ok (.getfield 133, 3) := by decide +kernel
theorem dX11_fridays_112 : decode cX11_fridays 112 = .ok (.iadd, 1) := by decide +kernel
theorem dX11_fridays_113 : decode cX11_fridays 113 = .ok (.istore 8, 2) := by decide +kernel
theorem dX11_fridays_115 : decode cX11_fridays 115 = .ok (.aload_n 0, 1) := by decide +kernel
theorem dX11_fridays_116 : decode cX11_fridays 116 = .ok (.getfield 49, 3) := by decide +kernel
theorem dX11_fridays_119 : decode cX11_fridays 119 = .ok (.invokevirtual 272, 3) := by decide +kernel
theorem dX11_fridays_122 : decode cX11_fridays 122 = .ok (.iinc 9 1, 3) := by decide +kernel
theorem dX11_fridays_125 : decode cX11_fridays 125 = .ok (.goto (-69), 3) := by decide +kernel
theorem dX11_fridays_128 : decode cX11_fridays 128 = .ok (.iload 4, 2) := by decide +kernel
theorem dX11_fridays_130 : decode cX11_fridays 130 = .ok (.tableswitch 35 0 2 #[26, 29, 32], 26) := by decide +kernel
theorem dX11_fridays_156 : decode cX11_fridays 156 = .ok (.iload 5, 2) := by decide +kernel
theorem dX11_fridays_158 : decode cX11_fridays 158 = .ok (.ireturn, 1) := by decide +kernel
theorem dX11_fridays_159 : decode cX11_fridays 159 = .ok (.iload 6, 2) := by decide +kernel
theorem dX11_fridays_161 : decode cX11_fridays 161 = .ok (.ireturn, 1) := by decide +kernel
theorem dX11_fridays_162 : decode cX11_fridays 162 = .ok (.iload 7, 2) := by decide +kernel
theorem dX11_fridays_164 : decode cX11_fridays 164 = .ok (.ireturn, 1) := by decide +kernel
theorem dX11_fridays_165 : decode cX11_fridays 165 = .ok (.iload 8, 2) := by decide +kernel
theorem dX11_fridays_167 : decode cX11_fridays 167 = .ok (.ireturn, 1) := by decide +kernel
theorem dX11_goes_0 : decode cX11_goes 0 = .ok (.iload_n 1, 1) := by decide +kernel
theorem dX11_goes_1 : decode cX11_goes 1 = .ok (.bipush 7, 2) := by decide +kernel
theorem dX11_goes_3 : decode cX11_goes 3 = .ok (.invokestatic 113, 3) := by decide +kernel
theorem dX11_goes_6 : decode cX11_goes 6 = .ok (.ifCond .ne 5, 3) := by decide +kernel
theorem dX11_goes_9 : decode cX11_goes 9 = .ok (.iconst (-1), 1) := by decide +kernel
theorem dX11_goes_10 : decode cX11_goes 10 = .ok (.ireturn, 1) := by decide +kernel
theorem dX11_goes_11 : decode cX11_goes 11 = .ok (.aload_n 0, 1) := by decide +kernel
theorem dX11_goes_12 : decode cX11_goes 12 = .ok (.iload_n 1, 1) := by decide +kernel
theorem dX11_goes_13 : decode cX11_goes 13 = .ok (.iload_n 2, 1) := by decide +kernel
theorem dX11_goes_14 : decode cX11_goes 14 = .ok (.invokevirtual 126, 3) := by decide +kernel
theorem dX11_goes_17 : decode cX11_goes 17 = .ok (.iconst 0, 1) := by decide +kernel
theorem dX11_goes_18 : decode cX11_goes 18 = .ok (.istore_n 3, 1) := by decide +kernel
theorem dX11_goes_19 : decode cX11_goes 19 = .ok (.iload_n 3, 1) := by decide +kernel
theorem dX11_goes_20 : decode cX11_goes 20 = .ok (.aload_n 0, 1) := by decide +kernel
theorem dX11_goes_21 : decode cX11_goes 21 = .ok (.getfield 28, 3) := by decide +kernel
theorem dX11_goes_24 : decode cX11_goes 24 = .ok (.getfield 200, 3) := by decide +kernel
theorem dX11_goes_27 : decode cX11_goes 27 = .ok (.if_icmp .ge 33, 3) := by decide +kernel
theorem dX11_goes_30 : decode cX11_goes 30 = .ok (.aload_n 0, 1) := by decide +kernel
theorem dX11_goes_31 : decode cX11_goes 31 = .ok (.getfield 28, 3) := by decide +kernel
theorem dX11_goes_34 : decode cX11_goes 34 = .ok (.getfield 118, 3) := by decide +kernel
theorem dX11_goes_37 : decode cX11_goes 37 = .ok (.bipush 7, 2) := by decide +kernel
theorem dX11_goes_39 : decode cX11_goes 39 = .ok (.aaload, 1) := by decide +kernel
theorem dX11_goes_40 : decode cX11_goes 40 = .ok (.iload_n 3, 1) := by decide +kernel
theorem dX11_goes_41 : decode cX11_goes 41 = .ok (.aload_n 0, 1) := by decide +kernel
theorem dX11_goes_42 : decode cX11_goes 42 = .ok (.getfield 49, 3) := by decide +kernel
theorem dX11_goes_45 : decode cX11_goes 45 = .ok (.getfield 170, 3) := by decide +kernel
theorem dX11_goes_48 : decode cX11_goes 48 = .ok (.iload_n 3, 1) := by decide +kernel
theorem dX11_goes_49 : decode cX11_goes 49 = .ok (.aaload, 1) := by decide +kernel
theorem dX11_goes_50 : decode cX11_goes 50 = .ok (.invokevirtual 188, 3) := by decide +kernel
theorem dX11_goes_53 : decode cX11_goes 53 = .ok (.iastore, 1) := by decide +kernel
theorem dX11_goes_54 : decode cX11_goes 54 = .ok (.iinc 3 1, 3) := by decide +kernel
theorem dX11_goes_57 : decode cX11_goes 57 = .ok (.goto (-38), 3) := by decide +kernel
theorem dX11_goes_60 : decode cX11_goes 60 = .ok (.aload_n 0, 1) := by decide +kernel
theorem dX11_goes_61 : decode cX11_goes 61 = .ok (.getfield 49, 3) := by decide +kernel
theorem dX11_goes_64 : decode cX11_goes 64 = .ok (.getfield 130, 3) := by decide +kernel
theorem dX11_goes_67 : decode cX11_goes 67 = .ok (.ireturn, 1) := by decide +kernel
theorem dX11_hold_0 : decode cX11_hold 0 = .ok (.aload_n 0, 1) := by decide +kernel
theorem dX11_hold_1 : decode cX11_hold 1 = .ok (.getfield 49, 3) := by decide +kernel
theorem dX11_hold_4 : decode cX11_hold 4 = .ok (.iload_n 1, 1) := by decide +kernel
theorem dX11_hold_5 : decode cX11_hold 5 = .ok (.iload_n 2, 1) := by decide +kernel
theorem dX11_hold_6 : decode cX11_hold 6 = .ok (.invokevirtual 269, 3) := by decide +kernel
theorem dX11_hold_9 : decode cX11_hold 9 = .ok (.aload_n 0, 1) := by decide +kernel
theorem dX11_hold_10 : decode cX11_hold 10 = .ok (.getfield 49, 3) := by decide +kernel
theorem dX11_hold_13 : decode cX11_hold 13 = .ok (.invokevirtual 253, 3) := by decide +kernel
theorem dX11_hold_16 : decode cX11_hold 16 = .ok (.return_, 1) := by decide +kernel
theorem dX11_init_0 : decode cX11_init 0 = .ok (.aload_n 0, 1) := by decide +kernel
theorem dX11_init_1 : decode cX11_init 1 = .ok (.invokespecial 1, 3) := by decide +kernel
theorem dX11_init_4 : decode cX11_init 4 = .ok (.aload_n 0, 1) := by decide +kernel
theorem dX11_init_5 : decode cX11_init 5 = .ok (.new 7, 3) := by decide +kernel
theorem dX11_init_8 : decode cX11_init 8 = .ok (.dup, 1) := by decide +kernel
theorem dX11_init_9 : decode cX11_init 9 = .ok (.invokespecial 9, 3) := by decide +kernel
theorem dX11_init_12 : decode cX11_init 12 = .ok (.putfield 10, 3) := by decide +kernel
theorem dX11_init_15 : decode cX11_init 15 = .ok (.aload_n 0, 1) := by decide +kernel
theorem dX11_init_16 : decode cX11_init 16 = .ok (.new 16, 3) := by decide +kernel
theorem dX11_init_19 : decode cX11_init 19 = .ok (.dup, 1) := by decide +kernel
theorem dX11_init_20 : decode cX11_init 20 = .ok (.aload_n 0, 1) := by decide +kernel
theorem dX11_init_21 : decode cX11_init 21 = .ok (.getfield 10, 3) := by decide +kernel
theorem dX11_init_24 : decode cX11_init 24 = .ok (.invokespecial 18, 3) := by decide +kernel
theorem dX11_init_27 : decode cX11_init 27 = .ok (.putfield 21, 3) := by decide +kernel
theorem dX11_init_30 : decode cX11_init 30 = .ok (.aload_n 0, 1) := by decide +kernel
theorem dX11_init_31 : decode cX11_init 31 = .ok (.new 25, 3) := by decide +kernel
theorem dX11_init_34 : decode cX11_init 34 = .ok (.dup, 1) := by decide +kernel
theorem dX11_init_35 : decode cX11_init 35 = .ok (.invokespecial 27, 3) := by decide +kernel
theorem dX11_init_38 : decode cX11_init 38 = .ok (.putfield 28, 3) := by decide +kernel
theorem dX11_init_41 : decode cX11_init 41 = .ok (.aload_n 0, 1) := by decide +kernel
theorem dX11_init_42 : decode cX11_init 42 = .ok (.iconst 2, 1) := by decide +kernel
theorem dX11_init_43 : decode cX11_init 43 = .ok (.anewarray 32, 3) := by decide +kernel
theorem dX11_init_46 : decode cX11_init 46 = .ok (.putfield 34, 3) := by decide +kernel
theorem dX11_init_49 : decode cX11_init 49 = .ok (.aload_n 0, 1) := by decide +kernel
theorem dX11_init_50 : decode cX11_init 50 = .ok (.iconst 4, 1) := by decide +kernel
theorem dX11_init_51 : decode cX11_init 51 = .ok (.anewarray 38, 3) := by decide +kernel
theorem dX11_init_54 : decode cX11_init 54 = .ok (.putfield 40, 3) := by decide +kernel
theorem dX11_init_57 : decode cX11_init 57 = .ok (.aload_n 0, 1) := by decide +kernel
theorem dX11_init_58 : decode cX11_init 58 = .ok (.new 44, 3) := by decide +kernel
theorem dX11_init_61 : decode cX11_init 61 = .ok (.dup, 1) := by decide +kernel
theorem dX11_init_62 : decode cX11_init 62 = .ok (.aload_n 0, 1) := by decide +kernel
theorem dX11_init_63 : decode cX11_init 63 = .ok (.getfield 28, 3) := by decide +kernel
theorem dX11_init_66 : decode cX11_init 66 = .ok (.invokespecial 46, 3) := by decide +kernel
theorem dX11_init_69 : decode cX11_init 69 = .ok (.putfield 49, 3) := by decide +kernel
theorem dX11_init_72 : decode cX11_init 72 = .ok (.aload_n 0, 1) := by decide +kernel
theorem dX11_init_73 : decode cX11_init 73 = .ok (.new 53, 3) := by decide +kernel
theorem dX11_init_76 : decode cX11_init 76 = .ok (.dup, 1) := by decide +kernel
theorem dX11_init_77 : decode cX11_init 77 = .ok (.aload_n 0, 1) := by decide +kernel
theorem dX11_init_78 : decode cX11_init 78 = .ok (.getfield 28, 3) := by decide +kernel
theorem dX11_init_81 : decode cX11_init 81 = .ok (.aload_n 0, 1) := by decide +kernel
theorem dX11_init_82 : decode cX11_init 82 = .ok (.getfield 49, 3) := by decide +kernel
theorem dX11_init_85 : decode cX11_init 85 = .ok (.invokespecial 55, 3) := by decide +kernel
theorem dX11_init_88 : decode cX11_init 88 = .ok (.putfield 58, 3) := by decide +kernel
theorem dX11_init_91 : decode cX11_init 91 = .ok (.aload_n 0, 1) := by decide +kernel
theorem dX11_init_92 : decode cX11_init 92 = .ok (.new 62, 3) := by decide +kernel
theorem dX11_init_95 : decode cX11_init 95 = .ok (.dup, 1) := by decide +kernel
theorem dX11_init_96 : decode cX11_init 96 = .ok (.aload_n 0, 1) := by decide +kernel
theorem dX11_init_97 : decode cX11_init 97 = .ok (.getfield 28, 3) := by decide +kernel
theorem dX11_init_100 : decode cX11_init 100 = .ok (.aload_n 0, 1) := by decide +kernel
theorem dX11_init_101 : decode cX11_init 101 = .ok (.getfield 49, 3) := by decide +kernel
theorem dX11_init_104 : decode cX11_init 104 = .ok (.invokespecial 64, 3) := by decide +kernel
theorem dX11_init_107 : decode cX11_init 107 = .ok (.putfield 65, 3) := by decide +kernel
theorem dX11_init_110 : decode cX11_init 110 = .ok (.aload_n 0, 1) := by decide +kernel
theorem dX11_init_111 : decode cX11_init 111 = .ok (.new 69, 3) := by decide +kernel
theorem dX11_init_114 : decode cX11_init 114 = .ok (.dup, 1) := by decide +kernel
theorem dX11_init_115 : decode cX11_init 115 = .ok (.aload_n 0, 1) := by decide +kernel
theorem dX11_init_116 : decode cX11_init 116 = .ok (.getfield 28, 3) := by decide +kernel
theorem dX11_init_119 : decode cX11_init 119 = .ok (.invokespecial 71, 3) := by decide +kernel
theorem dX11_init_122 : decode cX11_init 122 = .ok (.putfield 72, 3) := by decide +kernel
theorem dX11_init_125 : decode cX11_init 125 = .ok (.aload_n 0, 1) := by decide +kernel
theorem dX11_init_126 : decode cX11_init 126 = .ok (.iconst 0, 1) := by decide +kernel
theorem dX11_init_127 : decode cX11_init 127 = .ok (.putfield 76, 3) := by decide +kernel
theorem dX11_init_130 : decode cX11_init 130 = .ok (.iconst 0, 1) := by decide +kernel
theorem dX11_init_131 : decode cX11_init 131 = .ok (.istore_n 1, 1) := by decide +kernel
theorem dX11_init_132 : decode cX11_init 132 = .ok (.iload_n 1, 1) := by decide +kernel
theorem dX11_init_133 : decode cX11_init 133 = .ok (.iconst 2, 1) := by decide +kernel
theorem dX11_init_134 : decode cX11_init 134 = .ok (.if_icmp .ge 22, 3) := by decide +kernel
theorem dX11_init_137 : decode cX11_init 137 = .ok (.aload_n 0, 1) := by decide +kernel
theorem dX11_init_138 : decode cX11_init 138 = .ok (.getfield 34, 3) := by decide +kernel
theorem dX11_init_141 : decode cX11_init 141 = .ok (.iload_n 1, 1) := by decide +kernel
theorem dX11_init_142 : decode cX11_init 142 = .ok (.new 32, 3) := by decide +kernel
theorem dX11_init_145 : decode cX11_init 145 = .ok (.dup, 1) := by decide +kernel
theorem dX11_init_146 : decode cX11_init 146 = .ok (.invokespecial 80, 3) := by decide +kernel
theorem dX11_init_149 : decode cX11_init 149 = .ok (.aastore, 1) := by decide +kernel
theorem dX11_init_150 : decode cX11_init 150 = .ok (.iinc 1 1, 3) := by decide +kernel
theorem dX11_init_153 : decode cX11_init 153 = .ok (.goto (-21), 3) := by decide +kernel
theorem dX11_init_156 : decode cX11_init 156 = .ok (.iconst 0, 1) := by decide +kernel
theorem dX11_init_157 : decode cX11_init 157 = .ok (.istore_n 1, 1) := by decide +kernel
theorem dX11_init_158 : decode cX11_init 158 = .ok (.iload_n 1, 1) := by decide +kernel
theorem dX11_init_159 : decode cX11_init 159 = .ok (.iconst 4, 1) := by decide +kernel
theorem dX11_init_160 : decode cX11_init 160 = .ok (.if_icmp .ge 22, 3) := by decide +kernel
theorem dX11_init_163 : decode cX11_init 163 = .ok (.aload_n 0, 1) := by decide +kernel
theorem dX11_init_164 : decode cX11_init 164 = .ok (.getfield 40, 3) := by decide +kernel
theorem dX11_init_167 : decode cX11_init 167 = .ok (.iload_n 1, 1) := by decide +kernel
theorem dX11_init_168 : decode cX11_init 168 = .ok (.new 38, 3) := by decide +kernel
theorem dX11_init_171 : decode cX11_init 171 = .ok (.dup, 1) := by decide +kernel
theorem dX11_init_172 : decode cX11_init 172 = .ok (.invokespecial 81, 3) := by decide +kernel
theorem dX11_init_175 : decode cX11_init 175 = .ok (.aastore, 1) := by decide +kernel
theorem dX11_init_176 : decode cX11_init 176 = .ok (.iinc 1 1, 3) := by decide +kernel
theorem dX11_init_179 : decode cX11_init 179 = .ok (.goto (-21), 3) := by decide +kernel
theorem dX11_init_182 : decode cX11_init 182 = .ok (.return_, 1) := by decide +kernel
