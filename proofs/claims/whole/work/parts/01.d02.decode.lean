theorem dX11_isAmong_0 : decode cX11_isAmong 0 = .ok (.iload_n 1, 1) := by decide +kernel
theorem dX11_isAmong_1 : decode cX11_isAmong 1 = .ok (.iload_n 0, 1) := by decide +kernel
theorem dX11_isAmong_2 : decode cX11_isAmong 2 = .ok (.ishr, 1) := by decide +kernel
theorem dX11_isAmong_3 : decode cX11_isAmong 3 = .ok (.iconst 1, 1) := by decide +kernel
theorem dX11_isAmong_4 : decode cX11_isAmong 4 = .ok (.iand, 1) := by decide +kernel
theorem dX11_isAmong_5 : decode cX11_isAmong 5 = .ok (.ifCond .eq 7, 3) := by decide +kernel
theorem dX11_isAmong_8 : decode cX11_isAmong 8 = .ok (.iconst 1, 1) := by decide +kernel
theorem dX11_isAmong_9 : decode cX11_isAmong 9 = .ok (.goto 4, 3) := by decide +kernel
theorem dX11_isAmong_12 : decode cX11_isAmong 12 = .ok (.iconst 0, 1) := by decide +kernel
theorem dX11_isAmong_13 : decode cX11_isAmong 13 = .ok (.ireturn, 1) := by decide +kernel
theorem dX11_judge_0 : decode cX11_judge 0 = .ok (.iload_n 1, 1) := by decide +kernel
theorem dX11_judge_1 : decode cX11_judge 1 = .ok (.bipush 7, 2) := by decide +kernel
theorem dX11_judge_3 : decode cX11_judge 3 = .ok (.invokestatic 113, 3) := by decide +kernel
theorem dX11_judge_6 : decode cX11_judge 6 = .ok (.ifCond .eq 11, 3) := by decide +kernel
theorem dX11_judge_9 : decode cX11_judge 9 = .ok (.iload_n 3, 1) := by decide +kernel
theorem dX11_judge_10 : decode cX11_judge 10 = .ok (.iconst 2, 1) := by decide +kernel
theorem dX11_judge_11 : decode cX11_judge 11 = .ok (.invokestatic 113, 3) := by decide +kernel
theorem dX11_judge_14 : decode cX11_judge 14 = .ok (.ifCond .ne 5, 3) := by decide +kernel
theorem dX11_judge_17 : decode cX11_judge 17 = .ok (.iconst (-1), 1) := by decide +kernel
theorem dX11_judge_18 : decode cX11_judge 18 = .ok (.ireturn, 1) := by decide +kernel
theorem dX11_judge_19 : decode cX11_judge 19 = .ok (.aload_n 0, 1) := by decide +kernel
theorem dX11_judge_20 : decode cX11_judge 20 = .ok (.iload_n 1, 1) := by decide +kernel
theorem dX11_judge_21 : decode cX11_judge 21 = .ok (.iload_n 2, 1) := by decide +kernel
theorem dX11_judge_22 : decode cX11_judge 22 = .ok (.invokevirtual 126, 3) := by decide +kernel
theorem dX11_judge_25 : decode cX11_judge 25 = .ok (.aload_n 0, 1) := by decide +kernel
theorem dX11_judge_26 : decode cX11_judge 26 = .ok (.getfield 49, 3) := by decide +kernel
theorem dX11_judge_29 : decode cX11_judge 29 = .ok (.getfield 130, 3) := by decide +kernel
theorem dX11_judge_32 : decode cX11_judge 32 = .ok (.aload_n 0, 1) := by decide +kernel
theorem dX11_judge_33 : decode cX11_judge 33 = .ok (.getfield 28, 3) := by decide +kernel
theorem dX11_judge_36 : decode cX11_judge 36 = .ok (.getfield 211, 3) := by decide +kernel
theorem dX11_judge_39 : decode cX11_judge 39 = .ok (.invokestatic 216, 3) := by decide +kernel
theorem dX11_judge_42 : decode cX11_judge 42 = .ok (.istore 4, 2) := by decide +kernel
theorem dX11_judge_44 : decode cX11_judge 44 = .ok (.iconst 0, 1) := by decide +kernel
theorem dX11_judge_45 : decode cX11_judge 45 = .ok (.istore 5, 2) := by decide +kernel
theorem dX11_judge_47 : decode cX11_judge 47 = .ok (.iload 5, 2) := by decide +kernel
theorem dX11_judge_49 : decode cX11_judge 49 = .ok (.iload 4, 2) := by decide +kernel
theorem dX11_judge_51 : decode cX11_judge 51 = .ok (.if_icmp .ge 51, 3) := by decide +kernel
theorem dX11_judge_54 : decode cX11_judge 54 = .ok (.aload_n 0, 1) := by decide +kernel
theorem dX11_judge_55 : decode cX11_judge 55 = .ok (.getfield 49, 3) := by decide +kernel
theorem dX11_judge_58 : decode cX11_judge 58 = .ok (.getfield 151, 3) := by decide +kernel
theorem dX11_judge_61 : decode cX11_judge 61 = .ok (.iload 5, 2) := by decide +kernel
theorem dX11_judge_63 : decode cX11_judge 63 = .ok (.aaload, 1) := by decide +kernel
theorem dX11_judge_64 : decode cX11_judge 64 = .ok (.getfield 160, 3) := by decide +kernel
theorem dX11_judge_67 : decode cX11_judge 67 = .ok (.istore 6, 2) := by decide +kernel
theorem dX11_judge_69 : decode cX11_judge 69 = .ok (.iload 6, 2) := by decide +kernel
theorem dX11_judge_71 : decode cX11_judge 71 = .ok (.aload_n 0, 1) := by decide +kernel
theorem dX11_judge_72 : decode cX11_judge 72 = .ok (.getfield 28, 3) := by decide +kernel
theorem dX11_judge_75 : decode cX11_judge 75 = .ok (.getfield 220, 3) := by decide +kernel
theorem dX11_judge_78 : decode cX11_judge 78 = .ok (.iload 5, 2) := by decide +kernel
theorem dX11_judge_80 : decode cX11_judge 80 = .ok (.iaload, 1) := by decide +kernel
theorem dX11_judge_81 : decode cX11_judge 81 = .ok (.if_icmp .eq 15, 3) := by decide +kernel
theorem dX11_judge_84 : decode cX11_judge 84 = .ok (.iload_n 3, 1) := by decide +kernel
theorem dX11_judge_85 : decode cX11_judge 85 = .ok (.ifCond .ne 8, 3) := by decide +kernel
theorem dX11_judge_88 : decode cX11_judge 88 = .ok (.iload 5, 2) := by decide +kernel
theorem dX11_judge_90 : decode cX11_judge 90 = .ok (.goto 5, 3) := by decide +kernel
theorem dX11_judge_93 : decode cX11_judge 93 = .ok (.iload 6, 2) := by decide +kernel
theorem dX11_judge_95 : decode cX11_judge 95 = .ok (.ireturn, 1) := by decide +kernel
theorem dX11_judge_96 : decode cX11_judge 96 = .ok (.iinc 5 1, 3) := by decide +kernel
theorem dX11_judge_99 : decode cX11_judge 99 = .ok (.goto (-52), 3) := by decide +kernel
theorem dX11_judge_102 : decode cX11_judge 102 = .ok (.bipush (-4), 2) := by decide +kernel
theorem dX11_judge_104 : decode cX11_judge 104 = .ok (.ireturn, 1) := by decide +kernel
theorem dX11_keep_0 : decode cX11_keep 0 = .ok (.iload_n 1, 1) := by decide +kernel
theorem dX11_keep_1 : decode cX11_keep 1 = .ok (.iconst 2, 1) := by decide +kernel
theorem dX11_keep_2 : decode cX11_keep 2 = .ok (.invokestatic 113, 3) := by decide +kernel
theorem dX11_keep_5 : decode cX11_keep 5 = .ok (.ifCond .ne 5, 3) := by decide +kernel
theorem dX11_keep_8 : decode cX11_keep 8 = .ok (.iconst (-1), 1) := by decide +kernel
theorem dX11_keep_9 : decode cX11_keep 9 = .ok (.ireturn, 1) := by decide +kernel
theorem dX11_keep_10 : decode cX11_keep 10 = .ok (.aload_n 0, 1) := by decide +kernel
theorem dX11_keep_11 : decode cX11_keep 11 = .ok (.getfield 34, 3) := by decide +kernel
theorem dX11_keep_14 : decode cX11_keep 14 = .ok (.iload_n 1, 1) := by decide +kernel
theorem dX11_keep_15 : decode cX11_keep 15 = .ok (.aaload, 1) := by decide +kernel
theorem dX11_keep_16 : decode cX11_keep 16 = .ok (.getfield 281, 3) := by decide +kernel
theorem dX11_keep_19 : decode cX11_keep 19 = .ok (.ifCond .eq 7, 3) := by decide +kernel
theorem dX11_keep_22 : decode cX11_keep 22 = .ok (.iconst 1, 1) := by decide +kernel
theorem dX11_keep_23 : decode cX11_keep 23 = .ok (.goto 4, 3) := by decide +kernel
theorem dX11_keep_26 : decode cX11_keep 26 = .ok (.iconst 0, 1) := by decide +kernel
theorem dX11_keep_27 : decode cX11_keep 27 = .ok (.istore_n 2, 1) := by decide +kernel
theorem dX11_keep_28 : decode cX11_keep 28 = .ok (.aload_n 0, 1) := by decide +kernel
theorem dX11_keep_29 : decode cX11_keep 29 = .ok (.getfield 34, 3) := by decide +kernel
theorem dX11_keep_32 : decode cX11_keep 32 = .ok (.iload_n 1, 1) := by decide +kernel
theorem dX11_keep_33 : decode cX11_keep 33 = .ok (.aaload, 1) := by decide +kernel
theorem dX11_keep_34 : decode cX11_keep 34 = .ok (.getfield 285, 3) := by decide +kernel
theorem dX11_keep_37 : decode cX11_keep 37 = .ok (.aload_n 0, 1) := by decide +kernel
theorem dX11_keep_38 : decode cX11_keep 38 = .ok (.getfield 28, 3) := by decide +kernel
theorem dX11_keep_41 : decode cX11_keep 41 = .ok (.invokevirtual 106, 3) := by decide +kernel
theorem dX11_keep_44 : decode cX11_keep 44 = .ok (.aload_n 0, 1) := by decide +kernel
theorem dX11_keep_45 : decode cX11_keep 45 = .ok (.getfield 34, 3) := by decide +kernel
theorem dX11_keep_48 : decode cX11_keep 48 = .ok (.iload_n 1, 1) := by decide +kernel
theorem dX11_keep_49 : decode cX11_keep 49 = .ok (.aaload, 1) := by decide +kernel
theorem dX11_keep_50 : decode cX11_keep 50 = .ok (.iconst 1, 1) := by decide +kernel
theorem dX11_keep_51 : decode cX11_keep 51 = .ok (.putfield 281, 3) := by decide +kernel
theorem dX11_keep_54 : decode cX11_keep 54 = .ok (.iload_n 2, 1) := by decide +kernel
theorem dX11_keep_55 : decode cX11_keep 55 = .ok (.ireturn, 1) := by decide +kernel
theorem dX11_late_0 : decode cX11_late 0 = .ok (.aload_n 0, 1) := by decide +kernel
theorem dX11_late_1 : decode cX11_late 1 = .ok (.getfield 28, 3) := by decide +kernel
theorem dX11_late_4 : decode cX11_late 4 = .ok (.iload_n 1, 1) := by decide +kernel
theorem dX11_late_5 : decode cX11_late 5 = .ok (.invokevirtual 109, 3) := by decide +kernel
theorem dX11_late_8 : decode cX11_late 8 = .ok (.ifCond .eq 21, 3) := by decide +kernel
theorem dX11_late_11 : decode cX11_late 11 = .ok (.iload_n 2, 1) := by decide +kernel
theorem dX11_late_12 : decode cX11_late 12 = .ok (.bipush 7, 2) := by decide +kernel
theorem dX11_late_14 : decode cX11_late 14 = .ok (.invokestatic 113, 3) := by decide +kernel
theorem dX11_late_17 : decode cX11_late 17 = .ok (.ifCond .eq 12, 3) := by decide +kernel
theorem dX11_late_20 : decode cX11_late 20 = .ok (.iload 4, 2) := by decide +kernel
theorem dX11_late_22 : decode cX11_late 22 = .ok (.iconst 2, 1) := by decide +kernel
theorem dX11_late_23 : decode cX11_late 23 = .ok (.invokestatic 113, 3) := by decide +kernel
theorem dX11_late_26 : decode cX11_late 26 = .ok (.ifCond .ne 5, 3) := by decide +kernel
theorem dX11_late_29 : decode cX11_late 29 = .ok (.iconst (-1), 1) := by decide +kernel
theorem dX11_late_30 : decode cX11_late 30 = .ok (.ireturn, 1) := by decide +kernel
theorem dX11_late_31 : decode cX11_late 31 = .ok (.aload_n 0, 1) := by decide +kernel
theorem dX11_late_32 : decode cX11_late 32 = .ok (.getfield 65, 3) := by decide +kernel
theorem dX11_late_35 : decode cX11_late 35 = .ok (.iload_n 1, 1) := by decide +kernel
theorem dX11_late_36 : decode cX11_late 36 = .ok (.iconst 0, 1) := by decide +kernel
theorem dX11_late_37 : decode cX11_late 37 = .ok (.aload_n 0, 1) := by decide +kernel
theorem dX11_late_38 : decode cX11_late 38 = .ok (.getfield 28, 3) := by decide +kernel
theorem dX11_late_41 : decode cX11_late 41 = .ok (.getfield 118, 3) := by decide +kernel
theorem dX11_late_44 : decode cX11_late 44 = .ok (.iconst 1, 1) := by decide +kernel
theorem dX11_late_45 : decode cX11_late 45 = .ok (.aaload, 1) := by decide +kernel
theorem dX11_late_46 : decode cX11_late 46 = .ok (.iload_n 1, 1) := by decide +kernel
theorem dX11_late_47 : decode cX11_late 47 = .ok (.iaload, 1) := by decide +kernel
theorem dX11_late_48 : decode cX11_late 48 = .ok (.iconst 1, 1) := by decide +kernel
theorem dX11_late_49 : decode cX11_late 49 = .ok (.isub, 1) := by decide +kernel
theorem dX11_late_50 : decode cX11_late 50 = .ok (.iload_n 2, 1) := by decide +kernel
theorem dX11_late_51 : decode cX11_late 51 = .ok (.iload_n 3, 1) := by decide +kernel
theorem dX11_late_52 : decode cX11_late 52 = .ok (.invokevirtual 223, 3) := by decide +kernel
theorem dX11_late_55 : decode cX11_late 55 = .ok (.iload 4, 2) := by decide +kernel
theorem dX11_late_57 : decode cX11_late 57 = .ok (.ifCond .ne 13, 3) := by decide +kernel
theorem dX11_late_60 : decode cX11_late 60 = .ok (.aload_n 0, 1) := by decide +kernel
theorem dX11_late_61 : decode cX11_late 61 = .ok (.getfield 65, 3) := by decide +kernel
theorem dX11_late_64 : decode cX11_late 64 = .ok (.getfield 227, 3) := by decide +kernel
theorem dX11_late_67 : decode cX11_late 67 = .ok (.goto 10, 3) := by decide +kernel
theorem dX11_late_70 : decode cX11_late 70 = .ok (.aload_n 0, 1) := by decide +kernel
theorem dX11_late_71 : decode cX11_late 71 = .ok (.getfield 65, 3) := by decide +kernel
theorem dX11_late_74 : decode cX11_late 74 = .ok (.getfield 230, 3) := by decide +kernel
theorem dX11_late_77 : decode cX11_late 77 = .ok (.ireturn, 1) := by decide +kernel
theorem dX11_lay_0 : decode cX11_lay 0 = .ok (.iload_n 1, 1) := by decide +kernel
theorem dX11_lay_1 : decode cX11_lay 1 = .ok (.iconst 4, 1) := by decide +kernel
theorem dX11_lay_2 : decode cX11_lay 2 = .ok (.invokestatic 113, 3) := by decide +kernel
theorem dX11_lay_5 : decode cX11_lay 5 = .ok (.ifCond .ne 5, 3) := by decide +kernel
theorem dX11_lay_8 : decode cX11_lay 8 = .ok (.iconst (-1), 1) := by decide +kernel
theorem dX11_lay_9 : decode cX11_lay 9 = .ok (.ireturn, 1) := by decide +kernel
theorem dX11_lay_10 : decode cX11_lay 10 = .ok (.aload_n 0, 1) := by decide +kernel
theorem dX11_lay_11 : decode cX11_lay 11 = .ok (.getfield 40, 3) := by decide +kernel
theorem dX11_lay_14 : decode cX11_lay 14 = .ok (.iload_n 1, 1) := by decide +kernel
theorem dX11_lay_15 : decode cX11_lay 15 = .ok (.aaload, 1) := by decide +kernel
theorem dX11_lay_16 : decode cX11_lay 16 = .ok (.aload_n 0, 1) := by decide +kernel
theorem dX11_lay_17 : decode cX11_lay 17 = .ok (.getfield 40, 3) := by decide +kernel
theorem dX11_lay_20 : decode cX11_lay 20 = .ok (.iload_n 1, 1) := by decide +kernel
theorem dX11_lay_21 : decode cX11_lay 21 = .ok (.aaload, 1) := by decide +kernel
theorem dX11_lay_22 : decode cX11_lay 22 = .ok (.getfield 289, 3) := by decide +kernel
theorem dX11_lay_25 : decode cX11_lay 25 = .ok (.iload_n 2, 1) := by decide +kernel
theorem dX11_lay_26 : decode cX11_lay 26 = .ok (.invokevirtual 292, 3) := by decide +kernel
theorem dX11_lay_29 : decode cX11_lay 29 = .ok (.istore 4, 2) := by decide +kernel
theorem dX11_lay_31 : decode cX11_lay 31 = .ok (.iload 4, 2) := by decide +kernel
theorem dX11_lay_33 : decode cX11_lay 33 = .ok (.ifCond .eq 9, 3) := by decide +kernel
theorem dX11_lay_36 : decode cX11_lay 36 = .ok (.bipush (-10), 2) := by decide +kernel
theorem dX11_lay_38 : decode cX11_lay 38 = .ok (.iload 4, 2) := by decide +kernel
theorem dX11_lay_40 : decode cX11_lay 40 = .ok (.isub, 1) := by decide +kernel
theorem dX11_lay_41 : decode cX11_lay 41 = .ok (.ireturn, 1) := by decide +kernel
theorem dX11_lay_42 : decode cX11_lay 42 = .ok (.aload_n 0, 1) := by decide +kernel
theorem dX11_lay_43 : decode cX11_lay 43 = .ok (.getfield 40, 3) := by decide +kernel
theorem dX11_lay_46 : decode cX11_lay 46 = .ok (.iload_n 1, 1) := by decide +kernel
theorem dX11_lay_47 : decode cX11_lay 47 = .ok (.aaload, 1) := by decide +kernel
theorem dX11_lay_48 : decode cX11_lay 48 = .ok (.iload_n 2, 1) := by decide +kernel
theorem dX11_lay_49 : decode cX11_lay 49 = .ok (.iload_n 3, 1) := by decide +kernel
theorem dX11_lay_50 : decode cX11_lay 50 = .ok (.invokevirtual 295, 3) := by decide +kernel
theorem dX11_lay_53 : decode cX11_lay 53 = .ok (.iconst 1, 1) := by decide +kernel
theorem dX11_lay_54 : decode cX11_lay 54 = .ok (.ireturn, 1) := by decide +kernel
theorem dX11_lot_0 : decode cX11_lot 0 = .ok (.aload_n 0, 1) := by decide +kernel
theorem dX11_lot_1 : decode cX11_lot 1 = .ok (.getfield 28, 3) := by decide +kernel
theorem dX11_lot_4 : decode cX11_lot 4 = .ok (.iload_n 1, 1) := by decide +kernel
theorem dX11_lot_5 : decode cX11_lot 5 = .ok (.invokevirtual 109, 3) := by decide +kernel
theorem dX11_lot_8 : decode cX11_lot 8 = .ok (.ifCond .eq 11, 3) := by decide +kernel
theorem dX11_lot_11 : decode cX11_lot 11 = .ok (.iload_n 2, 1) := by decide +kernel
theorem dX11_lot_12 : decode cX11_lot 12 = .ok (.iconst 4, 1) := by decide +kernel
theorem dX11_lot_13 : decode cX11_lot 13 = .ok (.invokestatic 113, 3) := by decide +kernel
theorem dX11_lot_16 : decode cX11_lot 16 = .ok (.ifCond .ne 7, 3) := by decide +kernel
theorem dX11_lot_19 : decode cX11_lot 19 = .ok (.ldc2_w 239, 3) := by decide +kernel
theorem dX11_lot_22 : decode cX11_lot 22 = .ok (.lreturn, 1) := by decide +kernel
theorem dX11_lot_23 : decode cX11_lot 23 = .ok (.aload_n 0, 1) := by decide +kernel
theorem dX11_lot_24 : decode cX11_lot 24 = .ok (.getfield 49, 3) := by decide +kernel
theorem dX11_lot_27 : decode cX11_lot 27 = .ok (.invokevirtual 250, 3) := by decide +kernel
theorem dX11_lot_30 : decode cX11_lot 30 = .ok (.aload_n 0, 1) := by decide +kernel
theorem dX11_lot_31 : decode cX11_lot 31 = .ok (.getfield 49, 3) := by decide +kernel
theorem dX11_lot_34 : decode cX11_lot 34 = .ok (.invokevirtual 253, 3) := by decide +kernel
theorem dX11_lot_37 : decode cX11_lot 37 = .ok (.aload_n 0, 1) := by decide +kernel
theorem dX11_lot_38 : decode cX11_lot 38 = .ok (.getfield 49, 3) := by decide +kernel
theorem dX11_lot_41 : decode cX11_lot 41 = .ok (.getfield 145, 3) := by decide +kernel
theorem dX11_lot_44 : decode cX11_lot 44 = .ok (.ifCond .le 7, 3) := by decide +kernel
theorem dX11_lot_47 : decode cX11_lot 47 = .ok (.ldc2_w 256, 3) := by decide +kernel
theorem dX11_lot_50 : decode cX11_lot 50 = .ok (.lreturn, 1) := by decide +kernel
theorem dX11_lot_51 : decode cX11_lot 51 = .ok (.iload_n 2, 1) := by decide +kernel
theorem dX11_lot_52 : decode cX11_lot 52 = .ok (.iconst 2, 1) := by decide +kernel
theorem dX11_lot_53 : decode cX11_lot 53 = .ok (.irem, 1) := by decide +kernel
theorem dX11_lot_54 : decode cX11_lot 54 = .ok (.ifCond .ne 7, 3) := by decide +kernel
theorem dX11_lot_57 : decode cX11_lot 57 = .ok (.iconst 1, 1) := by decide +kernel
theorem dX11_lot_58 : decode cX11_lot 58 = .ok (.goto 4, 3) := by decide +kernel
theorem dX11_lot_61 : decode cX11_lot 61 = .ok (.iconst 0, 1) := by decide +kernel
theorem dX11_lot_62 : decode cX11_lot 62 = .ok (.istore_n 3, 1) := by decide +kernel
theorem dX11_lot_63 : decode cX11_lot 63 = .ok (.iload_n 2, 1) := by decide +kernel
theorem dX11_lot_64 : decode cX11_lot 64 = .ok (.iconst 2, 1) := by decide +kernel
theorem dX11_lot_65 : decode cX11_lot 65 = .ok (.if_icmp .ge 16, 3) := by decide +kernel
theorem dX11_lot_68 : decode cX11_lot 68 = .ok (.aload_n 0, 1) := by decide +kernel
theorem dX11_lot_69 : decode cX11_lot 69 = .ok (.iload_n 1, 1) := by decide +kernel
theorem dX11_lot_70 : decode cX11_lot 70 = .ok (.invokevirtual 258, 3) := by decide +kernel
theorem dX11_lot_73 : decode cX11_lot 73 = .ok (.ldc2_w 262, 3) := by decide +kernel
theorem dX11_lot_76 : decode cX11_lot 76 = .ok (.iload_n 3, 1) := by decide +kernel
theorem dX11_lot_77 : decode cX11_lot 77 = .ok (.invokestatic 246, 3) := by decide +kernel
theorem dX11_lot_80 : decode cX11_lot 80 = .ok (.lreturn, 1) := by decide +kernel
theorem dX11_lot_81 : decode cX11_lot 81 = .ok (.aload_n 0, 1) := by decide +kernel
theorem dX11_lot_82 : decode cX11_lot 82 = .ok (.iload_n 1, 1) := by decide +kernel
theorem dX11_lot_83 : decode cX11_lot 83 = .ok (.invokevirtual 264, 3) := by decide +kernel
theorem dX11_lot_86 : decode cX11_lot 86 = .ok (.ldc2_w 267, 3) := by decide +kernel
theorem dX11_lot_89 : decode cX11_lot 89 = .ok (.iload_n 3, 1) := by decide +kernel
theorem dX11_lot_90 : decode cX11_lot 90 = .ok (.invokestatic 246, 3) := by decide +kernel
theorem dX11_lot_93 : decode cX11_lot 93 = .ok (.lreturn, 1) := by decide +kernel
theorem dX11_lowest_0 : decode cX11_lowest 0 = .ok (.lload_n 0, 1) := by decide +kernel
theorem dX11_lowest_1 : decode cX11_lowest 1 = .ok (.lload_n 2, 1) := by decide +kernel
theorem dX11_lowest_2 : decode cX11_lowest 2 = .ok (.invokestatic 322, 3) := by decide +kernel
theorem dX11_lowest_5 : decode cX11_lowest 5 = .ok (.lstore 5, 2) := by decide +kernel
theorem dX11_lowest_7 : decode cX11_lowest 7 = .ok (.lload 5, 2) := by decide +kernel
theorem dX11_lowest_9 : decode cX11_lowest 9 = .ok (.lconst 0, 1) := by decide +kernel
theorem dX11_lowest_10 : decode cX11_lowest 10 = .ok (.lcmp, 1) := by decide +kernel
theorem dX11_lowest_11 : decode cX11_lowest 11 = .ok (.ifCond .ne 5, 3) := by decide +kernel
theorem dX11_lowest_14 : decode cX11_lowest 14 = .ok (.lconst 0, 1) := by decide +kernel
theorem dX11_lowest_15 : decode cX11_lowest 15 = .ok (.lreturn, 1) := by decide +kernel
theorem dX11_lowest_16 : decode cX11_lowest 16 = .ok (.iload 4, 2) := by decide +kernel
theorem dX11_lowest_18 : decode cX11_lowest 18 = .ok (.ifCond .eq 7, 3) := by decide +kernel
theorem dX11_lowest_21 : decode cX11_lowest 21 = .ok (.lload_n 0, 1) := by decide +kernel
theorem dX11_lowest_22 : decode cX11_lowest 22 = .ok (.goto 4, 3) := by decide +kernel
theorem dX11_lowest_25 : decode cX11_lowest 25 = .ok (.lload_n 2, 1) := by decide +kernel
theorem dX11_lowest_26 : decode cX11_lowest 26 = .ok (.lload 5, 2) := by decide +kernel
theorem dX11_lowest_28 : decode cX11_lowest 28 = .ok (.ldiv, 1) := by decide +kernel
theorem dX11_lowest_29 : decode cX11_lowest 29 = .ok (.lreturn, 1) := by decide +kernel
theorem dX11_meanShares_0 : decode cX11_meanShares 0 = .ok (.lconst 0, 1) := by decide +kernel
theorem dX11_meanShares_1 : decode cX11_meanShares 1 = .ok (.lstore_n 2, 1) := by decide +kernel
theorem dX11_meanShares_2 : decode cX11_meanShares 2 = .ok (.iconst 0, 1) := by decide +kernel
theorem dX11_meanShares_3 : decode cX11_meanShares 3 = .ok (.istore 4, 2) := by decide +kernel
theorem dX11_meanShares_5 : decode cX11_meanShares 5 = .ok (.iload 4, 2) := by decide +kernel
theorem dX11_meanShares_7 : decode cX11_meanShares 7 = .ok (.aload_n 0, 1) := by decide +kernel
theorem dX11_meanShares_8 : decode cX11_meanShares 8 = .ok (.getfield 49, 3) := by decide +kernel
theorem dX11_meanShares_11 : decode cX11_meanShares 11 = .ok (.getfield 130, 3) := by decide +kernel
theorem dX11_meanShares_14 : decode cX11_meanShares 14 = .ok (.if_icmp .ge 27, 3) := by decide +kernel
theorem dX11_meanShares_17 : decode cX11_meanShares 17 = .ok (.lload_n 2, 1) := by decide +kernel
theorem dX11_meanShares_18 : decode cX11_meanShares 18 = .ok (.aload_n 0, 1) := by decide +kernel
theorem dX11_meanShares_19 : decode cX11_meanShares 19 = .ok (.aload_n 0, 1) := by decide +kernel
theorem dX11_meanShares_20 : decode cX11_meanShares 20 = .ok (.getfield 49, 3) := by decide +kernel
theorem dX11_meanShares_23 : decode cX11_meanShares 23 = .ok (.getfield 151, 3) := by decide +kernel
theorem dX11_meanShares_26 : decode cX11_meanShares 26 = .ok (.iload 4, 2) := by decide +kernel
theorem dX11_meanShares_28 : decode cX11_meanShares 28 = .ok (.aaload, 1) := by decide +kernel
theorem dX11_meanShares_29 : decode cX11_meanShares 29 = .ok (.iload_n 1, 1) := by decide +kernel
theorem dX11_meanShares_30 : decode cX11_meanShares 30 = .ok (.invokevirtual 307, 3) := by decide +kernel
theorem dX11_meanShares_33 : decode cX11_meanShares 33 = .ok (.ladd, 1) := by decide +kernel
theorem dX11_meanShares_34 : decode cX11_meanShares 34 = .ok (.lstore_n 2, 1) := by decide +kernel
theorem dX11_meanShares_35 : decode cX11_meanShares 35 = .ok (.iinc 4 1, 3) := by decide +kernel
theorem dX11_meanShares_38 : decode cX11_meanShares 38 = .ok (.goto (-33), 3) := by decide +kernel
theorem dX11_meanShares_41 : decode cX11_meanShares 41 = .ok (.lload_n 2, 1) := by decide +kernel
theorem dX11_meanShares_42 : decode cX11_meanShares 42 = .ok (.lreturn, 1) := by decide +kernel
theorem dX11_of_0 : decode cX11_of 0 = .ok (.iload_n 1, 1) := by decide +kernel
theorem dX11_of_1 : decode cX11_of 1 = .ok (.bipush 7, 2) := by decide +kernel
theorem dX11_of_3 : decode cX11_of 3 = .ok (.invokestatic 113, 3) := by decide +kernel
theorem dX11_of_6 : decode cX11_of 6 = .ok (.ifCond .eq 24, 3) := by decide +kernel
theorem dX11_of_9 : decode cX11_of 9 = .ok (.aload_n 0, 1) := by decide +kernel
theorem dX11_of_10 : decode cX11_of 10 = .ok (.getfield 28, 3) := by decide +kernel
theorem dX11_of_13 : decode cX11_of 13 = .ok (.iload_n 3, 1) := by decide +kernel
theorem dX11_of_14 : decode cX11_of 14 = .ok (.invokevirtual 109, 3) := by decide +kernel
theorem dX11_of_17 : decode cX11_of 17 = .ok (.ifCond .eq 13, 3) := by decide +kernel
theorem dX11_of_20 : decode cX11_of 20 = .ok (.iload 4, 2) := by decide +kernel
theorem dX11_of_22 : decode cX11_of 22 = .ok (.bipush 7, 2) := by decide +kernel
theorem dX11_of_24 : decode cX11_of 24 = .ok (.invokestatic 113, 3) := by decide +kernel
theorem dX11_of_27 : decode cX11_of 27 = .ok (.ifCond .ne 6, 3) := by decide +kernel
theorem dX11_of_30 : decode cX11_of 30 = .ok (.ldc 117, 2) := by decide +kernel
theorem dX11_of_32 : decode cX11_of 32 = .ok (.ireturn, 1) := by decide +kernel
theorem dX11_of_33 : decode cX11_of 33 = .ok (.aload_n 0, 1) := by decide +kernel
theorem dX11_of_34 : decode cX11_of 34 = .ok (.iload_n 1, 1) := by decide +kernel
theorem dX11_of_35 : decode cX11_of 35 = .ok (.iload_n 2, 1) := by decide +kernel
theorem dX11_of_36 : decode cX11_of 36 = .ok (.invokevirtual 126, 3) := by decide +kernel
theorem dX11_of_39 : decode cX11_of 39 = .ok (.aload_n 0, 1) := by decide +kernel
theorem dX11_of_40 : decode cX11_of 40 = .ok (.getfield 49, 3) := by decide +kernel
theorem dX11_of_43 : decode cX11_of 43 = .ok (.getfield 170, 3) := by decide +kernel
theorem dX11_of_46 : decode cX11_of 46 = .ok (.iload_n 3, 1) := by decide +kernel
theorem dX11_of_47 : decode cX11_of 47 = .ok (.aaload, 1) := by decide +kernel
theorem dX11_of_48 : decode cX11_of 48 = .ok (.astore 5, 2) := by decide +kernel
theorem dX11_of_50 : decode cX11_of 50 = .ok (.iload 4, 2) := by decide +kernel
theorem dX11_of_52 : decode cX11_of 52 = .ok (.tableswitch 79 0 5 #[40, 46, 52, 58, 64, 70], 40) := by decide +kernel
theorem dX11_of_92 : decode cX11_of 92 = .ok (.aload 5, 2) := by decide +kernel
theorem dX11_of_94 : decode cX11_of 94 = .ok (.getfield 174, 3) := by decide +kernel
theorem dX11_of_97 : decode cX11_of 97 = .ok (.ireturn, 1) := by decide +kernel
theorem dX11_of_98 : decode cX11_of 98 = .ok (.aload 5, 2) := by decide +kernel
theorem dX11_of_100 : decode cX11_of 100 = .ok (.getfield 179, 3) := by decide +kernel
theorem dX11_of_103 : decode cX11_of 103 = .ok (.ireturn, 1) := by decide +kernel
theorem dX11_of_104 : decode cX11_of 104 = .ok (.aload 5, 2) := by decide +kernel
theorem dX11_of_106 : decode cX11_of 106 = .ok (.getfield 182, 3) := by decide +kernel
theorem dX11_of_109 : decode cX11_of 109 = .ok (.ireturn, 1) := by decide +kernel
theorem dX11_of_110 : decode cX11_of 110 = .ok (.aload 5, 2) := by decide +kernel
theorem dX11_of_112 : decode cX11_of 112 = .ok (.getfield 185, 3) := by decide +kernel
theorem dX11_of_115 : decode cX11_of 115 = .ok (.ireturn, 1) := by decide +kernel
theorem dX11_of_116 : decode cX11_of 116 = .ok (.aload 5, 2) := by decide +kernel
theorem dX11_of_118 : decode cX11_of 118 = .ok (.invokevirtual 188, 3) := by decide +kernel
theorem dX11_of_121 : decode cX11_of 121 = .ok (.ireturn, 1) := by decide +kernel
theorem dX11_of_122 : decode cX11_of 122 = .ok (.aload 5, 2) := by decide +kernel
theorem dX11_of_124 : decode cX11_of 124 = .ok (.invokevirtual 188, 3) := by decide +kernel
theorem dX11_of_127 : decode cX11_of 127 = .ok (.invokestatic 191, 3) := by decide +kernel
theorem dX11_of_130 : decode cX11_of 130 = .ok (.ireturn, 1) := by decide +kernel
theorem dX11_of_131 : decode cX11_of 131 = .ok (.aload_n 0, 1) := by decide +kernel
theorem dX11_of_132 : decode cX11_of 132 = .ok (.getfield 49, 3) := by decide +kernel
theorem dX11_of_135 : decode cX11_of 135 = .ok (.iload_n 3, 1) := by decide +kernel
theorem dX11_of_136 : decode cX11_of 136 = .ok (.invokevirtual 197, 3) := by decide +kernel
theorem dX11_of_139 : decode cX11_of 139 = .ok (.ireturn, 1) := by decide +kernel
theorem dX11_one_0 : decode cX11_one 0 = .ok (.aload_n 0, 1) := by decide +kernel
theorem dX11_one_1 : decode cX11_one 1 = .ok (.getfield 28, 3) := by decide +kernel
theorem dX11_one_4 : decode cX11_one 4 = .ok (.iload_n 1, 1) := by decide +kernel
theorem dX11_one_5 : decode cX11_one 5 = .ok (.invokevirtual 109, 3) := by decide +kernel
theorem dX11_one_8 : decode cX11_one 8 = .ok (.ifCond .eq 12, 3) := by decide +kernel
theorem dX11_one_11 : decode cX11_one 11 = .ok (.iload_n 2, 1) := by decide +kernel
theorem dX11_one_12 : decode cX11_one 12 = .ok (.bipush 8, 2) := by decide +kernel
theorem dX11_one_14 : decode cX11_one 14 = .ok (.invokestatic 113, 3) := by decide +kernel
theorem dX11_one_17 : decode cX11_one 17 = .ok (.ifCond .ne 6, 3) := by decide +kernel
theorem dX11_one_20 : decode cX11_one 20 = .ok (.ldc 117, 2) := by decide +kernel
theorem dX11_one_22 : decode cX11_one 22 = .ok (.ireturn, 1) := by decide +kernel
theorem dX11_one_23 : decode cX11_one 23 = .ok (.aload_n 0, 1) := by decide +kernel
theorem dX11_one_24 : decode cX11_one 24 = .ok (.getfield 28, 3) := by decide +kernel
theorem dX11_one_27 : decode cX11_one 27 = .ok (.getfield 118, 3) := by decide +kernel
theorem dX11_one_30 : decode cX11_one 30 = .ok (.iload_n 2, 1) := by decide +kernel
theorem dX11_one_31 : decode cX11_one 31 = .ok (.aaload, 1) := by decide +kernel
theorem dX11_one_32 : decode cX11_one 32 = .ok (.iload_n 1, 1) := by decide +kernel
theorem dX11_one_33 : decode cX11_one 33 = .ok (.iaload, 1) := by decide +kernel
theorem dX11_one_34 : decode cX11_one 34 = .ok (.ireturn, 1) := by decide +kernel
theorem dX11_read_0 : decode cX11_read 0 = .ok (.iload_n 1, 1) := by decide +kernel
theorem dX11_read_1 : decode cX11_read 1 = .ok (.iconst 4, 1) := by decide +kernel
theorem dX11_read_2 : decode cX11_read 2 = .ok (.invokestatic 113, 3) := by decide +kernel
theorem dX11_read_5 : decode cX11_read 5 = .ok (.ifCond .eq 23, 3) := by decide +kernel
theorem dX11_read_8 : decode cX11_read 8 = .ok (.iload_n 2, 1) := by decide +kernel
theorem dX11_read_9 : decode cX11_read 9 = .ok (.iconst 3, 1) := by decide +kernel
theorem dX11_read_10 : decode cX11_read 10 = .ok (.invokestatic 113, 3) := by decide +kernel
theorem dX11_read_13 : decode cX11_read 13 = .ok (.ifCond .eq 15, 3) := by decide +kernel
theorem dX11_read_16 : decode cX11_read 16 = .ok (.iload 4, 2) := by decide +kernel
theorem dX11_read_18 : decode cX11_read 18 = .ok (.ifCond .lt 10, 3) := by decide +kernel
theorem dX11_read_21 : decode cX11_read 21 = .ok (.iload 4, 2) := by decide +kernel
theorem dX11_read_23 : decode cX11_read 23 = .ok (.bipush 12, 2) := by decide +kernel
theorem dX11_read_25 : decode cX11_read 25 = .ok (.if_icmp .le 5, 3) := by decide +kernel
theorem dX11_read_28 : decode cX11_read 28 = .ok (.iconst (-1), 1) := by decide +kernel
theorem dX11_read_29 : decode cX11_read 29 = .ok (.ireturn, 1) := by decide +kernel
theorem dX11_read_30 : decode cX11_read 30 = .ok (.aload_n 0, 1) := by decide +kernel
theorem dX11_read_31 : decode cX11_read 31 = .ok (.getfield 40, 3) := by decide +kernel
theorem dX11_read_34 : decode cX11_read 34 = .ok (.iload_n 1, 1) := by decide +kernel
theorem dX11_read_35 : decode cX11_read 35 = .ok (.aaload, 1) := by decide +kernel
theorem dX11_read_36 : decode cX11_read 36 = .ok (.astore 5, 2) := by decide +kernel
theorem dX11_read_38 : decode cX11_read 38 = .ok (.iconst 0, 1) := by decide +kernel
theorem dX11_read_39 : decode cX11_read 39 = .ok (.istore 6, 2) := by decide +kernel
theorem dX11_read_41 : decode cX11_read 41 = .ok (.iconst 0, 1) := by decide +kernel
theorem dX11_read_42 : decode cX11_read 42 = .ok (.istore 7, 2) := by decide +kernel
theorem dX11_read_44 : decode cX11_read 44 = .ok (.iload 7, 2) := by decide +kernel
theorem dX11_read_46 : decode cX11_read 46 = .ok (.iload 4, 2) := by decide +kernel
theorem dX11_read_48 : decode cX11_read 48 = .ok (.if_icmp .ge 73, 3) := by decide +kernel
theorem dX11_read_51 : decode cX11_read 51 = .ok (.aload 5, 2) := by decide +kernel
theorem dX11_read_53 : decode cX11_read 53 = .ok (.iload_n 2, 1) := by decide +kernel
theorem dX11_read_54 : decode cX11_read 54 = .ok (.iload_n 3, 1) := by decide +kernel
theorem dX11_read_55 : decode cX11_read 55 = .ok (.iload 7, 2) := by decide +kernel
theorem dX11_read_57 : decode cX11_read 57 = .ok (.iadd, 1) := by decide +kernel
theorem dX11_read_58 : decode cX11_read 58 = .ok (.invokevirtual 292, 3) := by decide +kernel
theorem dX11_read_61 : decode cX11_read 61 = .ok (.istore 6, 2) := by decide +kernel
theorem dX11_read_63 : decode cX11_read 63 = .ok (.iload 6, 2) := by decide +kernel
theorem dX11_read_65 : decode cX11_read 65 = .ok (.ifCond .eq 6, 3) := by decide +kernel
theorem dX11_read_68 : decode cX11_read 68 = .ok (.goto 53, 3) := by decide +kernel
theorem dX11_read_71 : decode cX11_read 71 = .ok (.aload_n 0, 1) := by decide +kernel
theorem dX11_read_72 : decode cX11_read 72 = .ok (.getfield 28, 3) := by decide +kernel
theorem dX11_read_75 : decode cX11_read 75 = .ok (.aload 5, 2) := by decide +kernel
theorem dX11_read_77 : decode cX11_read 77 = .ok (.getfield 298, 3) := by decide +kernel
theorem dX11_read_80 : decode cX11_read 80 = .ok (.iload_n 3, 1) := by decide +kernel
theorem dX11_read_81 : decode cX11_read 81 = .ok (.iload 7, 2) := by decide +kernel
theorem dX11_read_83 : decode cX11_read 83 = .ok (.iadd, 1) := by decide +kernel
theorem dX11_read_84 : decode cX11_read 84 = .ok (.iaload, 1) := by decide +kernel
theorem dX11_read_85 : decode cX11_read 85 = .ok (.invokevirtual 109, 3) := by decide +kernel
theorem dX11_read_88 : decode cX11_read 88 = .ok (.ifCond .ne 9, 3) := by decide +kernel
theorem dX11_read_91 : decode cX11_read 91 = .ok (.bipush (-20), 2) := by decide +kernel
theorem dX11_read_93 : decode cX11_read 93 = .ok (.iload 7, 2) := by decide +kernel
theorem dX11_read_95 : decode cX11_read 95 = .ok (.isub, 1) := by decide +kernel
theorem dX11_read_96 : decode cX11_read 96 = .ok (.ireturn, 1) := by decide +kernel
theorem dX11_read_97 : decode cX11_read 97 = .ok (.aload_n 0, 1) := by decide +kernel
theorem dX11_read_98 : decode cX11_read 98 = .ok (.getfield 28, 3) := by decide +kernel
theorem dX11_read_101 : decode cX11_read 101 = .ok (.getfield 211, 3) := by decide +kernel
theorem dX11_read_104 : decode cX11_read 104 = .ok (.iload 7, 2) := by decide +kernel
theorem dX11_read_106 : decode cX11_read 106 = .ok (.iadd, 1) := by decide +kernel
theorem dX11_read_107 : decode cX11_read 107 = .ok (.bipush 12, 2) := by decide +kernel
theorem dX11_read_109 : decode cX11_read 109 = .ok (.if_icmp .lt 6, 3) := by decide +kernel
theorem dX11_read_112 : decode cX11_read 112 = .ok (.bipush (-3), 2) := by decide +kernel
theorem dX11_read_114 : decode cX11_read 114 = .ok (.ireturn, 1) := by decide +kernel
theorem dX11_read_115 : decode cX11_read 115 = .ok (.iinc 7 1, 3) := by decide +kernel
theorem dX11_read_118 : decode cX11_read 118 = .ok (.goto (-74), 3) := by decide +kernel
theorem dX11_read_121 : decode cX11_read 121 = .ok (.iconst 0, 1) := by decide +kernel
theorem dX11_read_122 : decode cX11_read 122 = .ok (.istore 8, 2) := by decide +kernel
theorem dX11_read_124 : decode cX11_read 124 = .ok (.iload 8, 2) := by decide +kernel
theorem dX11_read_126 : decode cX11_read 126 = .ok (.iload 7, 2) := by decide +kernel
theorem dX11_read_128 : decode cX11_read 128 = .ok (.if_icmp .ge 26, 3) := by decide +kernel
theorem dX11_read_131 : decode cX11_read 131 = .ok (.aload_n 0, 1) := by decide +kernel
theorem dX11_read_132 : decode cX11_read 132 = .ok (.getfield 28, 3) := by decide +kernel
theorem dX11_read_135 : decode cX11_read 135 = .ok (.aload 5, 2) := by decide +kernel
theorem dX11_read_137 : decode cX11_read 137 = .ok (.getfield 298, 3) := by decide +kernel
theorem dX11_read_140 : decode cX11_read 140 = .ok (.iload_n 3, 1) := by decide +kernel
theorem dX11_read_141 : decode cX11_read 141 = .ok (.iload 8, 2) := by decide +kernel
theorem dX11_read_143 : decode cX11_read 143 = .ok (.iadd, 1) := by decide +kernel
theorem dX11_read_144 : decode cX11_read 144 = .ok (.iaload, 1) := by decide +kernel
theorem dX11_read_145 : decode cX11_read 145 = .ok (.invokevirtual 213, 3) := by decide +kernel
theorem dX11_read_148 : decode cX11_read 148 = .ok (.iinc 8 1, 3) := by decide +kernel
theorem dX11_read_151 : decode cX11_read 151 = .ok (.goto (-27), 3) := by decide +kernel
theorem dX11_read_154 : decode cX11_read 154 = .ok (.aload_n 0, 1) := by decide +kernel
theorem dX11_read_155 : decode cX11_read 155 = .ok (.iload 6, 2) := by decide +kernel
theorem dX11_read_157 : decode cX11_read 157 = .ok (.putfield 76, 3) := by decide +kernel
theorem dX11_read_160 : decode cX11_read 160 = .ok (.iload 7, 2) := by decide +kernel
theorem dX11_read_162 : decode cX11_read 162 = .ok (.ireturn, 1) := by decide +kernel
theorem dX11_right_0 : decode cX11_right 0 = .ok (.iload_n 1, 1) := by decide +kernel
theorem dX11_right_1 : decode cX11_right 1 = .ok (.bipush 7, 2) := by decide +kernel
theorem dX11_right_3 : decode cX11_right 3 = .ok (.invokestatic 113, 3) := by decide +kernel
theorem dX11_right_6 : decode cX11_right 6 = .ok (.ifCond .eq 23, 3) := by decide +kernel
theorem dX11_right_9 : decode cX11_right 9 = .ok (.aload_n 0, 1) := by decide +kernel
theorem dX11_right_10 : decode cX11_right 10 = .ok (.getfield 28, 3) := by decide +kernel
theorem dX11_right_13 : decode cX11_right 13 = .ok (.iload_n 3, 1) := by decide +kernel
theorem dX11_right_14 : decode cX11_right 14 = .ok (.invokevirtual 109, 3) := by decide +kernel
theorem dX11_right_17 : decode cX11_right 17 = .ok (.ifCond .eq 12, 3) := by decide +kernel
theorem dX11_right_20 : decode cX11_right 20 = .ok (.iload 4, 2) := by decide +kernel
theorem dX11_right_22 : decode cX11_right 22 = .ok (.iconst 2, 1) := by decide +kernel
theorem dX11_right_23 : decode cX11_right 23 = .ok (.invokestatic 113, 3) := by decide +kernel
theorem dX11_right_26 : decode cX11_right 26 = .ok (.ifCond .ne 7, 3) := by decide +kernel
theorem dX11_right_29 : decode cX11_right 29 = .ok (.ldc2_w 239, 3) := by decide +kernel
theorem dX11_right_32 : decode cX11_right 32 = .ok (.lreturn, 1) := by decide +kernel
theorem dX11_right_33 : decode cX11_right 33 = .ok (.aload_n 0, 1) := by decide +kernel
theorem dX11_right_34 : decode cX11_right 34 = .ok (.getfield 28, 3) := by decide +kernel
theorem dX11_right_37 : decode cX11_right 37 = .ok (.iconst 5, 1) := by decide +kernel
theorem dX11_right_38 : decode cX11_right 38 = .ok (.invokevirtual 241, 3) := by decide +kernel
theorem dX11_right_41 : decode cX11_right 41 = .ok (.istore 5, 2) := by decide +kernel
theorem dX11_right_43 : decode cX11_right 43 = .ok (.iload 5, 2) := by decide +kernel
theorem dX11_right_45 : decode cX11_right 45 = .ok (.ifCond .ne 7, 3) := by decide +kernel
theorem dX11_right_48 : decode cX11_right 48 = .ok (.ldc2_w 244, 3) := by decide +kernel
theorem dX11_right_51 : decode cX11_right 51 = .ok (.lreturn, 1) := by decide +kernel
theorem dX11_right_52 : decode cX11_right 52 = .ok (.aload_n 0, 1) := by decide +kernel
theorem dX11_right_53 : decode cX11_right 53 = .ok (.iload_n 1, 1) := by decide +kernel
theorem dX11_right_54 : decode cX11_right 54 = .ok (.iload_n 2, 1) := by decide +kernel
theorem dX11_right_55 : decode cX11_right 55 = .ok (.invokevirtual 126, 3) := by decide +kernel
theorem dX11_right_58 : decode cX11_right 58 = .ok (.aload_n 0, 1) := by decide +kernel
theorem dX11_right_59 : decode cX11_right 59 = .ok (.getfield 49, 3) := by decide +kernel
theorem dX11_right_62 : decode cX11_right 62 = .ok (.getfield 133, 3) := by decide +kernel
theorem dX11_right_65 : decode cX11_right 65 = .ok (.i2l, 1) := by decide +kernel
theorem dX11_right_66 : decode cX11_right 66 = .ok (.aload_n 0, 1) := by decide +kernel
theorem dX11_right_67 : decode cX11_right 67 = .ok (.getfield 28, 3) := by decide +kernel
theorem dX11_right_70 : decode cX11_right 70 = .ok (.getfield 118, 3) := by decide +kernel
theorem dX11_right_73 : decode cX11_right 73 = .ok (.iconst 5, 1) := by decide +kernel
theorem dX11_right_74 : decode cX11_right 74 = .ok (.aaload, 1) := by decide +kernel
theorem dX11_right_75 : decode cX11_right 75 = .ok (.iload_n 3, 1) := by decide +kernel
theorem dX11_right_76 : decode cX11_right 76 = .ok (.iaload, 1) := by decide +kernel
theorem dX11_right_77 : decode cX11_right 77 = .ok (.i2l, 1) := by decide +kernel
theorem dX11_right_78 : decode cX11_right 78 = .ok (.lmul, 1) := by decide +kernel
theorem dX11_right_79 : decode cX11_right 79 = .ok (.iload 5, 2) := by decide +kernel
theorem dX11_right_81 : decode cX11_right 81 = .ok (.i2l, 1) := by decide +kernel
theorem dX11_right_82 : decode cX11_right 82 = .ok (.iload 4, 2) := by decide +kernel
theorem dX11_right_84 : decode cX11_right 84 = .ok (.ifCond .ne 7, 3) := by decide +kernel
theorem dX11_right_87 : decode cX11_right 87 = .ok (.iconst 1, 1) := by decide +kernel
theorem dX11_right_88 : decode cX11_right 88 = .ok (.goto 4, 3) := by decide +kernel
theorem dX11_right_91 : decode cX11_right 91 = .ok (.iconst 0, 1) := by decide +kernel
theorem dX11_right_92 : decode cX11_right 92 = .ok (.invokestatic 246, 3) := by decide +kernel
theorem dX11_right_95 : decode cX11_right 95 = .ok (.lreturn, 1) := by decide +kernel
theorem dX11_round_0 : decode cX11_round 0 = .ok (.iload_n 1, 1) := by decide +kernel
theorem dX11_round_1 : decode cX11_round 1 = .ok (.bipush 7, 2) := by decide +kernel
theorem dX11_round_3 : decode cX11_round 3 = .ok (.invokestatic 113, 3) := by decide +kernel
theorem dX11_round_6 : decode cX11_round 6 = .ok (.ifCond .eq 12, 3) := by decide +kernel
theorem dX11_round_9 : decode cX11_round 9 = .ok (.iload 4, 2) := by decide +kernel
theorem dX11_round_11 : decode cX11_round 11 = .ok (.iconst 5, 1) := by decide +kernel
theorem dX11_round_12 : decode cX11_round 12 = .ok (.invokestatic 113, 3) := by decide +kernel
theorem dX11_round_15 : decode cX11_round 15 = .ok (.ifCond .ne 5, 3) := by decide +kernel
theorem dX11_round_18 : decode cX11_round 18 = .ok (.iconst (-1), 1) := by decide +kernel
theorem dX11_round_19 : decode cX11_round 19 = .ok (.ireturn, 1) := by decide +kernel
theorem dX11_round_20 : decode cX11_round 20 = .ok (.aload_n 0, 1) := by decide +kernel
theorem dX11_round_21 : decode cX11_round 21 = .ok (.iload_n 1, 1) := by decide +kernel
theorem dX11_round_22 : decode cX11_round 22 = .ok (.iload_n 2, 1) := by decide +kernel
theorem dX11_round_23 : decode cX11_round 23 = .ok (.invokevirtual 126, 3) := by decide +kernel
theorem dX11_round_26 : decode cX11_round 26 = .ok (.iload_n 3, 1) := by decide +kernel
theorem dX11_round_27 : decode cX11_round 27 = .ok (.aload_n 0, 1) := by decide +kernel
theorem dX11_round_28 : decode cX11_round 28 = .ok (.getfield 49, 3) := by decide +kernel
theorem dX11_round_31 : decode cX11_round 31 = .ok (.getfield 130, 3) := by decide +kernel
theorem dX11_round_34 : decode cX11_round 34 = .ok (.invokestatic 113, 3) := by decide +kernel
theorem dX11_round_37 : decode cX11_round 37 = .ok (.ifCond .ne 5, 3) := by decide +kernel
theorem dX11_round_40 : decode cX11_round 40 = .ok (.iconst (-1), 1) := by decide +kernel
theorem dX11_round_41 : decode cX11_round 41 = .ok (.ireturn, 1) := by decide +kernel
theorem dX11_round_42 : decode cX11_round 42 = .ok (.aload_n 0, 1) := by decide +kernel
theorem dX11_round_43 : decode cX11_round 43 = .ok (.getfield 49, 3) := by decide +kernel
theorem dX11_round_46 : decode cX11_round 46 = .ok (.getfield 151, 3) := by decide +kernel
theorem dX11_round_49 : decode cX11_round 49 = .ok (.iload_n 3, 1) := by decide +kernel
theorem dX11_round_50 : decode cX11_round 50 = .ok (.aaload, 1) := by decide +kernel
theorem dX11_round_51 : decode cX11_round 51 = .ok (.astore 5, 2) := by decide +kernel
theorem dX11_round_53 : decode cX11_round 53 = .ok (.iload 4, 2) := by decide +kernel
theorem dX11_round_55 : decode cX11_round 55 = .ok (.tableswitch 53 0 3 #[29, 35, 41, 47], 29) := by decide +kernel
theorem dX11_round_84 : decode cX11_round 84 = .ok (.aload 5, 2) := by decide +kernel
theorem dX11_round_86 : decode cX11_round 86 = .ok (.getfield 155, 3) := by decide +kernel
theorem dX11_round_89 : decode cX11_round 89 = .ok (.ireturn, 1) := by decide +kernel
theorem dX11_round_90 : decode cX11_round 90 = .ok (.aload 5, 2) := by decide +kernel
theorem dX11_round_92 : decode cX11_round 92 = .ok (.getfield 160, 3) := by decide +kernel
theorem dX11_round_95 : decode cX11_round 95 = .ok (.ireturn, 1) := by decide +kernel
theorem dX11_round_96 : decode cX11_round 96 = .ok (.aload 5, 2) := by decide +kernel
theorem dX11_round_98 : decode cX11_round 98 = .ok (.getfield 163, 3) := by decide +kernel
theorem dX11_round_101 : decode cX11_round 101 = .ok (.ireturn, 1) := by decide +kernel
theorem dX11_round_102 : decode cX11_round 102 = .ok (.aload 5, 2) := by decide +kernel
theorem dX11_round_104 : decode cX11_round 104 = .ok (.getfield 164, 3) := by decide +kernel
theorem dX11_round_107 : decode cX11_round 107 = .ok (.ireturn, 1) := by decide +kernel
theorem dX11_round_108 : decode cX11_round 108 = .ok (.aload 5, 2) := by decide +kernel
theorem dX11_round_110 : decode cX11_round 110 = .ok (.getfield 167, 3) := by decide +kernel
theorem dX11_round_113 : decode cX11_round 113 = .ok (.ireturn, 1) := by decide +kernel
theorem dX11_set_0 : decode cX11_set 0 = .ok (.aload_n 0, 1) := by decide +kernel
theorem dX11_set_1 : decode cX11_set 1 = .ok (.getfield 28, 3) := by decide +kernel
theorem dX11_set_4 : decode cX11_set 4 = .ok (.iload_n 1, 1) := by decide +kernel
theorem dX11_set_5 : decode cX11_set 5 = .ok (.invokevirtual 109, 3) := by decide +kernel
theorem dX11_set_8 : decode cX11_set 8 = .ok (.ifCond .eq 25, 3) := by decide +kernel
theorem dX11_set_11 : decode cX11_set 11 = .ok (.iload_n 2, 1) := by decide +kernel
theorem dX11_set_12 : decode cX11_set 12 = .ok (.bipush 8, 2) := by decide +kernel
theorem dX11_set_14 : decode cX11_set 14 = .ok (.invokestatic 113, 3) := by decide +kernel
theorem dX11_set_17 : decode cX11_set 17 = .ok (.ifCond .eq 16, 3) := by decide +kernel
theorem dX11_set_20 : decode cX11_set 20 = .ok (.aload_n 0, 1) := by decide +kernel
theorem dX11_set_21 : decode cX11_set 21 = .ok (.getfield 28, 3) := by decide +kernel
theorem dX11_set_24 : decode cX11_set 24 = .ok (.iload_n 1, 1) := by decide +kernel
theorem dX11_set_25 : decode cX11_set 25 = .ok (.iload_n 2, 1) := by decide +kernel
theorem dX11_set_26 : decode cX11_set 26 = .ok (.iload_n 3, 1) := by decide +kernel
theorem dX11_set_27 : decode cX11_set 27 = .ok (.invokevirtual 122, 3) := by decide +kernel
theorem dX11_set_30 : decode cX11_set 30 = .ok (.ifCond .ne 6, 3) := by decide +kernel
theorem dX11_set_33 : decode cX11_set 33 = .ok (.ldc 117, 2) := by decide +kernel
theorem dX11_set_35 : decode cX11_set 35 = .ok (.ireturn, 1) := by decide +kernel
theorem dX11_set_36 : decode cX11_set 36 = .ok (.aload_n 0, 1) := by decide +kernel
theorem dX11_set_37 : decode cX11_set 37 = .ok (.getfield 28, 3) := by decide +kernel
theorem dX11_set_40 : decode cX11_set 40 = .ok (.getfield 118, 3) := by decide +kernel
theorem dX11_set_43 : decode cX11_set 43 = .ok (.iload_n 2, 1) := by decide +kernel
theorem dX11_set_44 : decode cX11_set 44 = .ok (.aaload, 1) := by decide +kernel
theorem dX11_set_45 : decode cX11_set 45 = .ok (.iload_n 1, 1) := by decide +kernel
theorem dX11_set_46 : decode cX11_set 46 = .ok (.iaload, 1) := by decide +kernel
theorem dX11_set_47 : decode cX11_set 47 = .ok (.istore 4, 2) := by decide +kernel
theorem dX11_set_49 : decode cX11_set 49 = .ok (.aload_n 0, 1) := by decide +kernel
theorem dX11_set_50 : decode cX11_set 50 = .ok (.getfield 28, 3) := by decide +kernel
theorem dX11_set_53 : decode cX11_set 53 = .ok (.getfield 118, 3) := by decide +kernel
theorem dX11_set_56 : decode cX11_set 56 = .ok (.iload_n 2, 1) := by decide +kernel
theorem dX11_set_57 : decode cX11_set 57 = .ok (.aaload, 1) := by decide +kernel
theorem dX11_set_58 : decode cX11_set 58 = .ok (.iload_n 1, 1) := by decide +kernel
theorem dX11_set_59 : decode cX11_set 59 = .ok (.iload_n 3, 1) := by decide +kernel
theorem dX11_set_60 : decode cX11_set 60 = .ok (.iastore, 1) := by decide +kernel
theorem dX11_set_61 : decode cX11_set 61 = .ok (.iload 4, 2) := by decide +kernel
theorem dX11_set_63 : decode cX11_set 63 = .ok (.ireturn, 1) := by decide +kernel
theorem dX11_shareOf_0 : decode cX11_shareOf 0 = .ok (.aload_n 0, 1) := by decide +kernel
theorem dX11_shareOf_1 : decode cX11_shareOf 1 = .ok (.getfield 28, 3) := by decide +kernel
theorem dX11_shareOf_4 : decode cX11_shareOf 4 = .ok (.aload_n 1, 1) := by decide +kernel
theorem dX11_shareOf_5 : decode cX11_shareOf 5 = .ok (.getfield 167, 3) := by decide +kernel
theorem dX11_shareOf_8 : decode cX11_shareOf 8 = .ok (.invokevirtual 311, 3) := by decide +kernel
theorem dX11_shareOf_11 : decode cX11_shareOf 11 = .ok (.istore_n 3, 1) := by decide +kernel
theorem dX11_shareOf_12 : decode cX11_shareOf 12 = .ok (.iload_n 3, 1) := by decide +kernel
theorem dX11_shareOf_13 : decode cX11_shareOf 13 = .ok (.invokestatic 314, 3) := by decide +kernel
theorem dX11_shareOf_16 : decode cX11_shareOf 16 = .ok (.istore 4, 2) := by decide +kernel
theorem dX11_shareOf_18 : decode cX11_shareOf 18 = .ok (.iload 4, 2) := by decide +kernel
theorem dX11_shareOf_20 : decode cX11_shareOf 20 = .ok (.ifCond .eq 11, 3) := by decide +kernel
theorem dX11_shareOf_23 : decode cX11_shareOf 23 = .ok (.iload_n 2, 1) := by decide +kernel
theorem dX11_shareOf_24 : decode cX11_shareOf 24 = .ok (.iload_n 3, 1) := by decide +kernel
theorem dX11_shareOf_25 : decode cX11_shareOf 25 = .ok (.invokestatic 319, 3) := by decide +kernel
theorem dX11_shareOf_28 : decode cX11_shareOf 28 = .ok (.ifCond .ne 5, 3) := by decide +kernel
theorem dX11_shareOf_31 : decode cX11_shareOf 31 = .ok (.lconst 0, 1) := by decide +kernel
theorem dX11_shareOf_32 : decode cX11_shareOf 32 = .ok (.lreturn, 1) := by decide +kernel
theorem dX11_shareOf_33 : decode cX11_shareOf 33 = .ok (.aload_n 1, 1) := by decide +kernel
theorem dX11_shareOf_34 : decode cX11_shareOf 34 = .ok (.getfield 163, 3) := by decide +kernel
theorem dX11_shareOf_37 : decode cX11_shareOf 37 = .ok (.i2l, 1) := by decide +kernel
theorem dX11_shareOf_38 : decode cX11_shareOf 38 = .ok (.sipush 840, 3) := by decide +kernel
theorem dX11_shareOf_41 : decode cX11_shareOf 41 = .ok (.iload 4, 2) := by decide +kernel
theorem dX11_shareOf_43 : decode cX11_shareOf 43 = .ok (.idiv, 1) := by decide +kernel
theorem dX11_shareOf_44 : decode cX11_shareOf 44 = .ok (.i2l, 1) := by decide +kernel
theorem dX11_shareOf_45 : decode cX11_shareOf 45 = .ok (.lmul, 1) := by decide +kernel
theorem dX11_shareOf_46 : decode cX11_shareOf 46 = .ok (.lreturn, 1) := by decide +kernel
theorem dX11_sheet_0 : decode cX11_sheet 0 = .ok (.iload_n 1, 1) := by decide +kernel
theorem dX11_sheet_1 : decode cX11_sheet 1 = .ok (.iconst 4, 1) := by decide +kernel
theorem dX11_sheet_2 : decode cX11_sheet 2 = .ok (.invokestatic 113, 3) := by decide +kernel
theorem dX11_sheet_5 : decode cX11_sheet 5 = .ok (.ifCond .eq 17, 3) := by decide +kernel
theorem dX11_sheet_8 : decode cX11_sheet 8 = .ok (.iload_n 2, 1) := by decide +kernel
theorem dX11_sheet_9 : decode cX11_sheet 9 = .ok (.iconst 3, 1) := by decide +kernel
theorem dX11_sheet_10 : decode cX11_sheet 10 = .ok (.invokestatic 113, 3) := by decide +kernel
theorem dX11_sheet_13 : decode cX11_sheet 13 = .ok (.ifCond .eq 9, 3) := by decide +kernel
theorem dX11_sheet_16 : decode cX11_sheet 16 = .ok (.iload_n 3, 1) := by decide +kernel
theorem dX11_sheet_17 : decode cX11_sheet 17 = .ok (.bipush 40, 2) := by decide +kernel
theorem dX11_sheet_19 : decode cX11_sheet 19 = .ok (.if_icmp .le 5, 3) := by decide +kernel
theorem dX11_sheet_22 : decode cX11_sheet 22 = .ok (.iconst (-1), 1) := by decide +kernel
theorem dX11_sheet_23 : decode cX11_sheet 23 = .ok (.ireturn, 1) := by decide +kernel
theorem dX11_sheet_24 : decode cX11_sheet 24 = .ok (.iload_n 3, 1) := by decide +kernel
theorem dX11_sheet_25 : decode cX11_sheet 25 = .ok (.ifCond .ge 6, 3) := by decide +kernel
theorem dX11_sheet_28 : decode cX11_sheet 28 = .ok (.bipush (-14), 2) := by decide +kernel
theorem dX11_sheet_30 : decode cX11_sheet 30 = .ok (.ireturn, 1) := by decide +kernel
theorem dX11_sheet_31 : decode cX11_sheet 31 = .ok (.aload_n 0, 1) := by decide +kernel
theorem dX11_sheet_32 : decode cX11_sheet 32 = .ok (.getfield 40, 3) := by decide +kernel
theorem dX11_sheet_35 : decode cX11_sheet 35 = .ok (.iload_n 1, 1) := by decide +kernel
theorem dX11_sheet_36 : decode cX11_sheet 36 = .ok (.aaload, 1) := by decide +kernel
theorem dX11_sheet_37 : decode cX11_sheet 37 = .ok (.iload_n 2, 1) := by decide +kernel
theorem dX11_sheet_38 : decode cX11_sheet 38 = .ok (.iload_n 3, 1) := by decide +kernel
theorem dX11_sheet_39 : decode cX11_sheet 39 = .ok (.invokevirtual 286, 3) := by decide +kernel
theorem dX11_sheet_42 : decode cX11_sheet 42 = .ok (.iconst 1, 1) := by decide +kernel
theorem dX11_sheet_43 : decode cX11_sheet 43 = .ok (.ireturn, 1) := by decide +kernel
theorem dX11_shut_0 : decode cX11_shut 0 = .ok (.aload_n 0, 1) := by decide +kernel
theorem dX11_shut_1 : decode cX11_shut 1 = .ok (.getfield 28, 3) := by decide +kernel
theorem dX11_shut_4 : decode cX11_shut 4 = .ok (.getfield 211, 3) := by decide +kernel
theorem dX11_shut_7 : decode cX11_shut 7 = .ok (.istore_n 1, 1) := by decide +kernel
theorem dX11_shut_8 : decode cX11_shut 8 = .ok (.aload_n 0, 1) := by decide +kernel
theorem dX11_shut_9 : decode cX11_shut 9 = .ok (.getfield 28, 3) := by decide +kernel
theorem dX11_shut_12 : decode cX11_shut 12 = .ok (.iconst 0, 1) := by decide +kernel
theorem dX11_shut_13 : decode cX11_shut 13 = .ok (.putfield 211, 3) := by decide +kernel
theorem dX11_shut_16 : decode cX11_shut 16 = .ok (.iload_n 1, 1) := by decide +kernel
theorem dX11_shut_17 : decode cX11_shut 17 = .ok (.ireturn, 1) := by decide +kernel
theorem dX11_slow_0 : decode cX11_slow 0 = .ok (.aload_n 0, 1) := by decide +kernel
theorem dX11_slow_1 : decode cX11_slow 1 = .ok (.getfield 28, 3) := by decide +kernel
theorem dX11_slow_4 : decode cX11_slow 4 = .ok (.iload_n 1, 1) := by decide +kernel
theorem dX11_slow_5 : decode cX11_slow 5 = .ok (.invokevirtual 109, 3) := by decide +kernel
theorem dX11_slow_8 : decode cX11_slow 8 = .ok (.ifCond .eq 21, 3) := by decide +kernel
theorem dX11_slow_11 : decode cX11_slow 11 = .ok (.iload_n 2, 1) := by decide +kernel
theorem dX11_slow_12 : decode cX11_slow 12 = .ok (.bipush 7, 2) := by decide +kernel
theorem dX11_slow_14 : decode cX11_slow 14 = .ok (.invokestatic 113, 3) := by decide +kernel
theorem dX11_slow_17 : decode cX11_slow 17 = .ok (.ifCond .eq 12, 3) := by decide +kernel
theorem dX11_slow_20 : decode cX11_slow 20 = .ok (.iload 4, 2) := by decide +kernel
theorem dX11_slow_22 : decode cX11_slow 22 = .ok (.iconst 2, 1) := by decide +kernel
theorem dX11_slow_23 : decode cX11_slow 23 = .ok (.invokestatic 113, 3) := by decide +kernel
theorem dX11_slow_26 : decode cX11_slow 26 = .ok (.ifCond .ne 5, 3) := by decide +kernel
theorem dX11_slow_29 : decode cX11_slow 29 = .ok (.iconst (-1), 1) := by decide +kernel
theorem dX11_slow_30 : decode cX11_slow 30 = .ok (.ireturn, 1) := by decide +kernel
theorem dX11_slow_31 : decode cX11_slow 31 = .ok (.aload_n 0, 1) := by decide +kernel
theorem dX11_slow_32 : decode cX11_slow 32 = .ok (.getfield 65, 3) := by decide +kernel
theorem dX11_slow_35 : decode cX11_slow 35 = .ok (.iload_n 1, 1) := by decide +kernel
theorem dX11_slow_36 : decode cX11_slow 36 = .ok (.iconst 3, 1) := by decide +kernel
theorem dX11_slow_37 : decode cX11_slow 37 = .ok (.getstatic 233, 3) := by decide +kernel
theorem dX11_slow_40 : decode cX11_slow 40 = .ok (.iconst 3, 1) := by decide +kernel
theorem dX11_slow_41 : decode cX11_slow 41 = .ok (.iaload, 1) := by decide +kernel
theorem dX11_slow_42 : decode cX11_slow 42 = .ok (.iload_n 2, 1) := by decide +kernel
theorem dX11_slow_43 : decode cX11_slow 43 = .ok (.iload_n 3, 1) := by decide +kernel
theorem dX11_slow_44 : decode cX11_slow 44 = .ok (.invokevirtual 223, 3) := by decide +kernel
theorem dX11_slow_47 : decode cX11_slow 47 = .ok (.iload 4, 2) := by decide +kernel
theorem dX11_slow_49 : decode cX11_slow 49 = .ok (.ifCond .ne 13, 3) := by decide +kernel
theorem dX11_slow_52 : decode cX11_slow 52 = .ok (.aload_n 0, 1) := by decide +kernel
theorem dX11_slow_53 : decode cX11_slow 53 = .ok (.getfield 65, 3) := by decide +kernel
theorem dX11_slow_56 : decode cX11_slow 56 = .ok (.getfield 227, 3) := by decide +kernel
theorem dX11_slow_59 : decode cX11_slow 59 = .ok (.goto 10, 3) := by decide +kernel
theorem dX11_slow_62 : decode cX11_slow 62 = .ok (.aload_n 0, 1) := by decide +kernel
theorem dX11_slow_63 : decode cX11_slow 63 = .ok (.getfield 65, 3) := by decide +kernel
theorem dX11_slow_66 : decode cX11_slow 66 = .ok (.getfield 230, 3) := by decide +kernel
theorem dX11_slow_69 : decode cX11_slow 69 = .ok (.ireturn, 1) := by decide +kernel
theorem dX11_spreadShares_0 : decode cX11_spreadShares 0 = .ok (.lconst 0, 1) := by decide +kernel
theorem dX11_spreadShares_1 : decode cX11_spreadShares 1 = .ok (.lstore_n 2, 1) := by decide +kernel
theorem dX11_spreadShares_2 : decode cX11_spreadShares 2 = .ok (.iconst 0, 1) := by decide +kernel
theorem dX11_spreadShares_3 : decode cX11_spreadShares 3 = .ok (.istore 4, 2) := by decide +kernel
theorem dX11_spreadShares_5 : decode cX11_spreadShares 5 = .ok (.iload 4, 2) := by decide +kernel
theorem dX11_spreadShares_7 : decode cX11_spreadShares 7 = .ok (.aload_n 0, 1) := by decide +kernel
theorem dX11_spreadShares_8 : decode cX11_spreadShares 8 = .ok (.getfield 49, 3) := by decide +kernel
theorem dX11_spreadShares_11 : decode cX11_spreadShares 11 = .ok (.getfield 130, 3) := by decide +kernel
theorem dX11_spreadShares_14 : decode cX11_spreadShares 14 = .ok (.if_icmp .ge 53, 3) := by decide +kernel
theorem dX11_spreadShares_17 : decode cX11_spreadShares 17 = .ok (.aload_n 0, 1) := by decide +kernel
theorem dX11_spreadShares_18 : decode cX11_spreadShares 18 = .ok (.aload_n 0, 1) := by decide +kernel
theorem dX11_spreadShares_19 : decode cX11_spreadShares 19 = .ok (.getfield 49, 3) := by decide +kernel
theorem dX11_spreadShares_22 : decode cX11_spreadShares 22 = .ok (.getfield 151, 3) := by decide +kernel
theorem dX11_spreadShares_25 : decode cX11_spreadShares 25 = .ok (.iload 4, 2) := by decide +kernel
theorem dX11_spreadShares_27 : decode cX11_spreadShares 27 = .ok (.aaload, 1) := by decide +kernel
theorem dX11_spreadShares_28 : decode cX11_spreadShares 28 = .ok (.iload_n 1, 1) := by decide +kernel
theorem dX11_spreadShares_29 : decode cX11_spreadShares 29 = .ok (.invokevirtual 307, 3) := by decide +kernel
theorem dX11_spreadShares_32 : decode cX11_spreadShares 32 = .ok (.lstore 5, 2) := by decide +kernel
theorem dX11_spreadShares_34 : decode cX11_spreadShares 34 = .ok (.lload_n 2, 1) := by decide +kernel
theorem dX11_spreadShares_35 : decode cX11_spreadShares 35 = .ok (.lload 5, 2) := by decide +kernel
theorem dX11_spreadShares_37 : decode cX11_spreadShares 37 = .ok (.aload_n 0, 1) := by decide +kernel
theorem dX11_spreadShares_38 : decode cX11_spreadShares 38 = .ok (.getfield 49, 3) := by decide +kernel
theorem dX11_spreadShares_41 : decode cX11_spreadShares 41 = .ok (.getfield 151, 3) := by decide +kernel
theorem dX11_spreadShares_44 : decode cX11_spreadShares 44 = .ok (.iload 4, 2) := by decide +kernel
theorem dX11_spreadShares_46 : decode cX11_spreadShares 46 = .ok (.aaload, 1) := by decide +kernel
theorem dX11_spreadShares_47 : decode cX11_spreadShares 47 = .ok (.getfield 163, 3) := by decide +kernel
theorem dX11_spreadShares_50 : decode cX11_spreadShares 50 = .ok (.i2l, 1) := by decide +kernel
theorem dX11_spreadShares_51 : decode cX11_spreadShares 51 = .ok (.ldc2_w 262, 3) := by decide +kernel
theorem dX11_spreadShares_54 : decode cX11_spreadShares 54 = .ok (.lmul, 1) := by decide +kernel
theorem dX11_spreadShares_55 : decode cX11_spreadShares 55 = .ok (.lload 5, 2) := by decide +kernel
theorem dX11_spreadShares_57 : decode cX11_spreadShares 57 = .ok (.lsub, 1) := by decide +kernel
theorem dX11_spreadShares_58 : decode cX11_spreadShares 58 = .ok (.lmul, 1) := by decide +kernel
theorem dX11_spreadShares_59 : decode cX11_spreadShares 59 = .ok (.ladd, 1) := by decide +kernel
theorem dX11_spreadShares_60 : decode cX11_spreadShares 60 = .ok (.lstore_n 2, 1) := by decide +kernel
theorem dX11_spreadShares_61 : decode cX11_spreadShares 61 = .ok (.iinc 4 1, 3) := by decide +kernel
theorem dX11_spreadShares_64 : decode cX11_spreadShares 64 = .ok (.goto (-59), 3) := by decide +kernel
theorem dX11_spreadShares_67 : decode cX11_spreadShares 67 = .ok (.lload_n 2, 1) := by decide +kernel
theorem dX11_spreadShares_68 : decode cX11_spreadShares 68 = .ok (.lreturn, 1) := by decide +kernel
theorem dX11_sure_0 : decode cX11_sure 0 = .ok (.iload_n 2, 1) := by decide +kernel
theorem dX11_sure_1 : decode cX11_sure 1 = .ok (.iconst 2, 1) := by decide +kernel
theorem dX11_sure_2 : decode cX11_sure 2 = .ok (.invokestatic 113, 3) := by decide +kernel
theorem dX11_sure_5 : decode cX11_sure 5 = .ok (.ifCond .ne 5, 3) := by decide +kernel
theorem dX11_sure_8 : decode cX11_sure 8 = .ok (.iconst (-1), 1) := by decide +kernel
theorem dX11_sure_9 : decode cX11_sure 9 = .ok (.ireturn, 1) := by decide +kernel
theorem dX11_sure_10 : decode cX11_sure 10 = .ok (.aload_n 0, 1) := by decide +kernel
theorem dX11_sure_11 : decode cX11_sure 11 = .ok (.getfield 28, 3) := by decide +kernel
theorem dX11_sure_14 : decode cX11_sure 14 = .ok (.getfield 200, 3) := by decide +kernel
theorem dX11_sure_17 : decode cX11_sure 17 = .ok (.ifCond .ne 6, 3) := by decide +kernel
theorem dX11_sure_20 : decode cX11_sure 20 = .ok (.bipush (-2), 2) := by decide +kernel
theorem dX11_sure_22 : decode cX11_sure 22 = .ok (.ireturn, 1) := by decide +kernel
theorem dX11_sure_23 : decode cX11_sure 23 = .ok (.iconst 0, 1) := by decide +kernel
theorem dX11_sure_24 : decode cX11_sure 24 = .ok (.istore_n 3, 1) := by decide +kernel
theorem dX11_sure_25 : decode cX11_sure 25 = .ok (.ldc 201, 2) := by decide +kernel
theorem dX11_sure_27 : decode cX11_sure 27 = .ok (.istore 4, 2) := by decide +kernel
theorem dX11_sure_29 : decode cX11_sure 29 = .ok (.iconst 0, 1) := by decide +kernel
theorem dX11_sure_30 : decode cX11_sure 30 = .ok (.istore 5, 2) := by decide +kernel
theorem dX11_sure_32 : decode cX11_sure 32 = .ok (.iload 5, 2) := by decide +kernel
theorem dX11_sure_34 : decode cX11_sure 34 = .ok (.bipush 7, 2) := by decide +kernel
theorem dX11_sure_36 : decode cX11_sure 36 = .ok (.if_icmp .ge 79, 3) := by decide +kernel
theorem dX11_sure_39 : decode cX11_sure 39 = .ok (.iconst 0, 1) := by decide +kernel
theorem dX11_sure_40 : decode cX11_sure 40 = .ok (.istore 6, 2) := by decide +kernel
theorem dX11_sure_42 : decode cX11_sure 42 = .ok (.iconst 0, 1) := by decide +kernel
theorem dX11_sure_43 : decode cX11_sure 43 = .ok (.istore 7, 2) := by decide +kernel
theorem dX11_sure_45 : decode cX11_sure 45 = .ok (.iload 7, 2) := by decide +kernel
theorem dX11_sure_47 : decode cX11_sure 47 = .ok (.aload_n 0, 1) := by decide +kernel
theorem dX11_sure_48 : decode cX11_sure 48 = .ok (.getfield 28, 3) := by decide +kernel
theorem dX11_sure_51 : decode cX11_sure 51 = .ok (.getfield 200, 3) := by decide +kernel
theorem dX11_sure_54 : decode cX11_sure 54 = .ok (.if_icmp .ge 41, 3) := by decide +kernel
theorem dX11_sure_57 : decode cX11_sure 57 = .ok (.aload_n 0, 1) := by decide +kernel
theorem dX11_sure_58 : decode cX11_sure 58 = .ok (.getfield 65, 3) := by decide +kernel
theorem dX11_sure_61 : decode cX11_sure 61 = .ok (.iload 7, 2) := by decide +kernel
theorem dX11_sure_63 : decode cX11_sure 63 = .ok (.iconst 3, 1) := by decide +kernel
theorem dX11_sure_64 : decode cX11_sure 64 = .ok (.getstatic 233, 3) := by decide +kernel
theorem dX11_sure_67 : decode cX11_sure 67 = .ok (.iconst 3, 1) := by decide +kernel
theorem dX11_sure_68 : decode cX11_sure 68 = .ok (.iaload, 1) := by decide +kernel
theorem dX11_sure_69 : decode cX11_sure 69 = .ok (.iload 5, 2) := by decide +kernel
theorem dX11_sure_71 : decode cX11_sure 71 = .ok (.iload_n 1, 1) := by decide +kernel
theorem dX11_sure_72 : decode cX11_sure 72 = .ok (.invokevirtual 223, 3) := by decide +kernel
theorem dX11_sure_75 : decode cX11_sure 75 = .ok (.iload 6, 2) := by decide +kernel
theorem dX11_sure_77 : decode cX11_sure 77 = .ok (.aload_n 0, 1) := by decide +kernel
theorem dX11_sure_78 : decode cX11_sure 78 = .ok (.getfield 65, 3) := by decide +kernel
theorem dX11_sure_81 : decode cX11_sure 81 = .ok (.getfield 227, 3) := by decide +kernel
theorem dX11_sure_84 : decode cX11_sure 84 = .ok (.invokestatic 236, 3) := by decide +kernel
theorem dX11_sure_87 : decode cX11_sure 87 = .ok (.istore 6, 2) := by decide +kernel
theorem dX11_sure_89 : decode cX11_sure 89 = .ok (.iinc 7 1, 3) := by decide +kernel
theorem dX11_sure_92 : decode cX11_sure 92 = .ok (.goto (-47), 3) := by decide +kernel
theorem dX11_sure_95 : decode cX11_sure 95 = .ok (.iload 6, 2) := by decide +kernel
theorem dX11_sure_97 : decode cX11_sure 97 = .ok (.iload 4, 2) := by decide +kernel
theorem dX11_sure_99 : decode cX11_sure 99 = .ok (.if_icmp .ge 10, 3) := by decide +kernel
theorem dX11_sure_102 : decode cX11_sure 102 = .ok (.iload 6, 2) := by decide +kernel
theorem dX11_sure_104 : decode cX11_sure 104 = .ok (.istore 4, 2) := by decide +kernel
theorem dX11_sure_106 : decode cX11_sure 106 = .ok (.iload 5, 2) := by decide +kernel
theorem dX11_sure_108 : decode cX11_sure 108 = .ok (.istore_n 3, 1) := by decide +kernel
theorem dX11_sure_109 : decode cX11_sure 109 = .ok (.iinc 5 1, 3) := by decide +kernel
theorem dX11_sure_112 : decode cX11_sure 112 = .ok (.goto (-80), 3) := by decide +kernel
theorem dX11_sure_115 : decode cX11_sure 115 = .ok (.iload_n 2, 1) := by decide +kernel
theorem dX11_sure_116 : decode cX11_sure 116 = .ok (.ifCond .ne 7, 3) := by decide +kernel
theorem dX11_sure_119 : decode cX11_sure 119 = .ok (.iload_n 3, 1) := by decide +kernel
theorem dX11_sure_120 : decode cX11_sure 120 = .ok (.goto 5, 3) := by decide +kernel
theorem dX11_sure_123 : decode cX11_sure 123 = .ok (.iload 4, 2) := by decide +kernel
theorem dX11_sure_125 : decode cX11_sure 125 = .ok (.ireturn, 1) := by decide +kernel
theorem dX11_table_0 : decode cX11_table 0 = .ok (.aload_n 0, 1) := by decide +kernel
theorem dX11_table_1 : decode cX11_table 1 = .ok (.getfield 21, 3) := by decide +kernel
theorem dX11_table_4 : decode cX11_table 4 = .ok (.invokevirtual 93, 3) := by decide +kernel
theorem dX11_table_7 : decode cX11_table 7 = .ok (.istore_n 1, 1) := by decide +kernel
theorem dX11_table_8 : decode cX11_table 8 = .ok (.aload_n 0, 1) := by decide +kernel
theorem dX11_table_9 : decode cX11_table 9 = .ok (.getfield 10, 3) := by decide +kernel
theorem dX11_table_12 : decode cX11_table 12 = .ok (.iconst 0, 1) := by decide +kernel
theorem dX11_table_13 : decode cX11_table 13 = .ok (.invokevirtual 89, 3) := by decide +kernel
theorem dX11_table_16 : decode cX11_table 16 = .ok (.aload_n 0, 1) := by decide +kernel
theorem dX11_table_17 : decode cX11_table 17 = .ok (.getfield 21, 3) := by decide +kernel
theorem dX11_table_20 : decode cX11_table 20 = .ok (.getfield 97, 3) := by decide +kernel
theorem dX11_table_23 : decode cX11_table 23 = .ok (.ifCond .eq 14, 3) := by decide +kernel
theorem dX11_table_26 : decode cX11_table 26 = .ok (.bipush (-10), 2) := by decide +kernel
theorem dX11_table_28 : decode cX11_table 28 = .ok (.aload_n 0, 1) := by decide +kernel
theorem dX11_table_29 : decode cX11_table 29 = .ok (.getfield 21, 3) := by decide +kernel
theorem dX11_table_32 : decode cX11_table 32 = .ok (.getfield 100, 3) := by decide +kernel
theorem dX11_table_35 : decode cX11_table 35 = .ok (.isub, 1) := by decide +kernel
theorem dX11_table_36 : decode cX11_table 36 = .ok (.ireturn, 1) := by decide +kernel
theorem dX11_table_37 : decode cX11_table 37 = .ok (.aload_n 0, 1) := by decide +kernel
theorem dX11_table_38 : decode cX11_table 38 = .ok (.getfield 28, 3) := by decide +kernel
theorem dX11_table_41 : decode cX11_table 41 = .ok (.aload_n 0, 1) := by decide +kernel
theorem dX11_table_42 : decode cX11_table 42 = .ok (.getfield 21, 3) := by decide +kernel
theorem dX11_table_45 : decode cX11_table 45 = .ok (.getfield 103, 3) := by decide +kernel
theorem dX11_table_48 : decode cX11_table 48 = .ok (.invokevirtual 106, 3) := by decide +kernel
theorem dX11_table_51 : decode cX11_table 51 = .ok (.iload_n 1, 1) := by decide +kernel
theorem dX11_table_52 : decode cX11_table 52 = .ok (.ireturn, 1) := by decide +kernel
theorem dX11_think_0 : decode cX11_think 0 = .ok (.aload_n 0, 1) := by decide +kernel
theorem dX11_think_1 : decode cX11_think 1 = .ok (.getfield 28, 3) := by decide +kernel
theorem dX11_think_4 : decode cX11_think 4 = .ok (.iload_n 1, 1) := by decide +kernel
theorem dX11_think_5 : decode cX11_think 5 = .ok (.invokevirtual 109, 3) := by decide +kernel
theorem dX11_think_8 : decode cX11_think 8 = .ok (.ifCond .eq 14, 3) := by decide +kernel
theorem dX11_think_11 : decode cX11_think 11 = .ok (.iload_n 2, 1) := by decide +kernel
theorem dX11_think_12 : decode cX11_think 12 = .ok (.ifCond .lt 10, 3) := by decide +kernel
theorem dX11_think_15 : decode cX11_think 15 = .ok (.iload_n 2, 1) := by decide +kernel
theorem dX11_think_16 : decode cX11_think 16 = .ok (.sipush 9999, 3) := by decide +kernel
theorem dX11_think_19 : decode cX11_think 19 = .ok (.if_icmp .le 5, 3) := by decide +kernel
theorem dX11_think_22 : decode cX11_think 22 = .ok (.iconst (-1), 1) := by decide +kernel
theorem dX11_think_23 : decode cX11_think 23 = .ok (.ireturn, 1) := by decide +kernel
theorem dX11_think_24 : decode cX11_think 24 = .ok (.aload_n 0, 1) := by decide +kernel
theorem dX11_think_25 : decode cX11_think 25 = .ok (.getfield 28, 3) := by decide +kernel
theorem dX11_think_28 : decode cX11_think 28 = .ok (.getfield 278, 3) := by decide +kernel
theorem dX11_think_31 : decode cX11_think 31 = .ok (.iload_n 1, 1) := by decide +kernel
theorem dX11_think_32 : decode cX11_think 32 = .ok (.iaload, 1) := by decide +kernel
theorem dX11_think_33 : decode cX11_think 33 = .ok (.istore_n 3, 1) := by decide +kernel
theorem dX11_think_34 : decode cX11_think 34 = .ok (.aload_n 0, 1) := by decide +kernel
theorem dX11_think_35 : decode cX11_think 35 = .ok (.getfield 28, 3) := by decide +kernel
theorem dX11_think_38 : decode cX11_think 38 = .ok (.getfield 278, 3) := by decide +kernel
theorem dX11_think_41 : decode cX11_think 41 = .ok (.iload_n 1, 1) := by decide +kernel
theorem dX11_think_42 : decode cX11_think 42 = .ok (.iload_n 2, 1) := by decide +kernel
theorem dX11_think_43 : decode cX11_think 43 = .ok (.iastore, 1) := by decide +kernel
theorem dX11_think_44 : decode cX11_think 44 = .ok (.iload_n 3, 1) := by decide +kernel
theorem dX11_think_45 : decode cX11_think 45 = .ok (.ireturn, 1) := by decide +kernel
theorem dX11_thought_0 : decode cX11_thought 0 = .ok (.iload_n 1, 1) := by decide +kernel
theorem dX11_thought_1 : decode cX11_thought 1 = .ok (.bipush 7, 2) := by decide +kernel
theorem dX11_thought_3 : decode cX11_thought 3 = .ok (.invokestatic 113, 3) := by decide +kernel
theorem dX11_thought_6 : decode cX11_thought 6 = .ok (.ifCond .eq 11, 3) := by decide +kernel
theorem dX11_thought_9 : decode cX11_thought 9 = .ok (.iload_n 3, 1) := by decide +kernel
theorem dX11_thought_10 : decode cX11_thought 10 = .ok (.iconst 3, 1) := by decide +kernel
theorem dX11_thought_11 : decode cX11_thought 11 = .ok (.invokestatic 113, 3) := by decide +kernel
theorem dX11_thought_14 : decode cX11_thought 14 = .ok (.ifCond .ne 6, 3) := by decide +kernel
theorem dX11_thought_17 : decode cX11_thought 17 = .ok (.ldc 117, 2) := by decide +kernel
theorem dX11_thought_19 : decode cX11_thought 19 = .ok (.ireturn, 1) := by decide +kernel
theorem dX11_thought_20 : decode cX11_thought 20 = .ok (.aload_n 0, 1) := by decide +kernel
theorem dX11_thought_21 : decode cX11_thought 21 = .ok (.iload_n 1, 1) := by decide +kernel
theorem dX11_thought_22 : decode cX11_thought 22 = .ok (.iload_n 2, 1) := by decide +kernel
theorem dX11_thought_23 : decode cX11_thought 23 = .ok (.invokevirtual 126, 3) := by decide +kernel
theorem dX11_thought_26 : decode cX11_thought 26 = .ok (.iconst 0, 1) := by decide +kernel
theorem dX11_thought_27 : decode cX11_thought 27 = .ok (.istore 4, 2) := by decide +kernel
theorem dX11_thought_29 : decode cX11_thought 29 = .ok (.iconst 0, 1) := by decide +kernel
theorem dX11_thought_30 : decode cX11_thought 30 = .ok (.istore 5, 2) := by decide +kernel
theorem dX11_thought_32 : decode cX11_thought 32 = .ok (.bipush (-4), 2) := by decide +kernel
theorem dX11_thought_34 : decode cX11_thought 34 = .ok (.istore 6, 2) := by decide +kernel
theorem dX11_thought_36 : decode cX11_thought 36 = .ok (.iconst 0, 1) := by decide +kernel
theorem dX11_thought_37 : decode cX11_thought 37 = .ok (.istore 7, 2) := by decide +kernel
theorem dX11_thought_39 : decode cX11_thought 39 = .ok (.iconst 0, 1) := by decide +kernel
theorem dX11_thought_40 : decode cX11_thought 40 = .ok (.istore 8, 2) := by decide +kernel
theorem dX11_thought_42 : decode cX11_thought 42 = .ok (.iload 8, 2) := by decide +kernel
theorem dX11_thought_44 : decode cX11_thought 44 = .ok (.aload_n 0, 1) := by decide +kernel
theorem dX11_thought_45 : decode cX11_thought 45 = .ok (.getfield 28, 3) := by decide +kernel
theorem dX11_thought_48 : decode cX11_thought 48 = .ok (.getfield 200, 3) := by decide +kernel
theorem dX11_thought_51 : decode cX11_thought 51 = .ok (.if_icmp .ge 73, 3) := by decide +kernel
theorem dX11_thought_54 : decode cX11_thought 54 = .ok (.aload_n 0, 1) := by decide +kernel
theorem dX11_thought_55 : decode cX11_thought 55 = .ok (.getfield 28, 3) := by decide +kernel
theorem dX11_thought_58 : decode cX11_thought 58 = .ok (.getfield 278, 3) := by decide +kernel
theorem dX11_thought_61 : decode cX11_thought 61 = .ok (.iload 8, 2) := by decide +kernel
theorem dX11_thought_63 : decode cX11_thought 63 = .ok (.iaload, 1) := by decide +kernel
theorem dX11_thought_64 : decode cX11_thought 64 = .ok (.aload_n 0, 1) := by decide +kernel
theorem dX11_thought_65 : decode cX11_thought 65 = .ok (.getfield 49, 3) := by decide +kernel
theorem dX11_thought_68 : decode cX11_thought 68 = .ok (.getfield 170, 3) := by decide +kernel
theorem dX11_thought_71 : decode cX11_thought 71 = .ok (.iload 8, 2) := by decide +kernel
theorem dX11_thought_73 : decode cX11_thought 73 = .ok (.aaload, 1) := by decide +kernel
theorem dX11_thought_74 : decode cX11_thought 74 = .ok (.getfield 179, 3) := by decide +kernel
theorem dX11_thought_77 : decode cX11_thought 77 = .ok (.isub, 1) := by decide +kernel
theorem dX11_thought_78 : decode cX11_thought 78 = .ok (.istore 9, 2) := by decide +kernel
theorem dX11_thought_80 : decode cX11_thought 80 = .ok (.iload 4, 2) := by decide +kernel
theorem dX11_thought_82 : decode cX11_thought 82 = .ok (.aload_n 0, 1) := by decide +kernel
theorem dX11_thought_83 : decode cX11_thought 83 = .ok (.getfield 28, 3) := by decide +kernel
theorem dX11_thought_86 : decode cX11_thought 86 = .ok (.getfield 278, 3) := by decide +kernel
theorem dX11_thought_89 : decode cX11_thought 89 = .ok (.iload 8, 2) := by decide +kernel
theorem dX11_thought_91 : decode cX11_thought 91 = .ok (.iaload, 1) := by decide +kernel
theorem dX11_thought_92 : decode cX11_thought 92 = .ok (.iadd, 1) := by decide +kernel
theorem dX11_thought_93 : decode cX11_thought 93 = .ok (.istore 4, 2) := by decide +kernel
theorem dX11_thought_95 : decode cX11_thought 95 = .ok (.iload 9, 2) := by decide +kernel
theorem dX11_thought_97 : decode cX11_thought 97 = .ok (.ifCond .ne 6, 3) := by decide +kernel
theorem dX11_thought_100 : decode cX11_thought 100 = .ok (.iinc 5 1, 3) := by decide +kernel
theorem dX11_thought_103 : decode cX11_thought 103 = .ok (.iload 9, 2) := by decide +kernel
theorem dX11_thought_105 : decode cX11_thought 105 = .ok (.iload 7, 2) := by decide +kernel
theorem dX11_thought_107 : decode cX11_thought 107 = .ok (.if_icmp .le 11, 3) := by decide +kernel
theorem dX11_thought_110 : decode cX11_thought 110 = .ok (.iload 9, 2) := by decide +kernel
theorem dX11_thought_112 : decode cX11_thought 112 = .ok (.istore 7, 2) := by decide +kernel
theorem dX11_thought_114 : decode cX11_thought 114 = .ok (.iload 8, 2) := by decide +kernel
theorem dX11_thought_116 : decode cX11_thought 116 = .ok (.istore 6, 2) := by decide +kernel
theorem dX11_thought_118 : decode cX11_thought 118 = .ok (.iinc 8 1, 3) := by decide +kernel
theorem dX11_thought_121 : decode cX11_thought 121 = .ok (.goto (-79), 3) := by decide +kernel
theorem dX11_thought_124 : decode cX11_thought 124 = .ok (.iload_n 3, 1) := by decide +kernel
theorem dX11_thought_125 : decode cX11_thought 125 = .ok (.lookupswitch 41 #[(0, 27), (1, 38)], 27) := by decide +kernel
theorem dX11_thought_152 : decode cX11_thought 152 = .ok (.iload 4, 2) := by decide +kernel
theorem dX11_thought_154 : decode cX11_thought 154 = .ok (.aload_n 0, 1) := by decide +kernel
theorem dX11_thought_155 : decode cX11_thought 155 = .ok (.getfield 49, 3) := by decide +kernel
theorem dX11_thought_158 : decode cX11_thought 158 = .ok (.getfield 133, 3) := by decide +kernel
theorem dX11_thought_161 : decode cX11_thought 161 = .ok (.isub, 1) := by decide +kernel
theorem dX11_thought_162 : decode cX11_thought 162 = .ok (.ireturn, 1) := by decide +kernel
theorem dX11_thought_163 : decode cX11_thought 163 = .ok (.iload 5, 2) := by decide +kernel
theorem dX11_thought_165 : decode cX11_thought 165 = .ok (.ireturn, 1) := by decide +kernel
theorem dX11_thought_166 : decode cX11_thought 166 = .ok (.iload 6, 2) := by decide +kernel
theorem dX11_thought_168 : decode cX11_thought 168 = .ok (.ireturn, 1) := by decide +kernel
theorem dX11_torn_0 : decode cX11_torn 0 = .ok (.aload_n 0, 1) := by decide +kernel
theorem dX11_torn_1 : decode cX11_torn 1 = .ok (.getfield 76, 3) := by decide +kernel
theorem dX11_torn_4 : decode cX11_torn 4 = .ok (.ireturn, 1) := by decide +kernel
theorem dX11_within_0 : decode cX11_within 0 = .ok (.iload_n 0, 1) := by decide +kernel
theorem dX11_within_1 : decode cX11_within 1 = .ok (.ifCond .lt 12, 3) := by decide +kernel
theorem dX11_within_4 : decode cX11_within 4 = .ok (.iload_n 0, 1) := by decide +kernel
theorem dX11_within_5 : decode cX11_within 5 = .ok (.iload_n 1, 1) := by decide +kernel
theorem dX11_within_6 : decode cX11_within 6 = .ok (.if_icmp .ge 7, 3) := by decide +kernel
theorem dX11_within_9 : decode cX11_within 9 = .ok (.iconst 1, 1) := by decide +kernel
theorem dX11_within_10 : decode cX11_within 10 = .ok (.goto 4, 3) := by decide +kernel
theorem dX11_within_13 : decode cX11_within 13 = .ok (.iconst 0, 1) := by decide +kernel
theorem dX11_within_14 : decode cX11_within 14 = .ok (.ireturn, 1) := by decide +kernel
theorem dX12_able_0 : decode cX12_able 0 = .ok (.iconst 0, 1) := by decide +kernel
theorem dX12_able_1 : decode cX12_able 1 = .ok (.istore_n 2, 1) := by decide +kernel
theorem dX12_able_2 : decode cX12_able 2 = .ok (.iconst 0, 1) := by decide +kernel
theorem dX12_able_3 : decode cX12_able 3 = .ok (.istore_n 3, 1) := by decide +kernel
theorem dX12_able_4 : decode cX12_able 4 = .ok (.iload_n 3, 1) := by decide +kernel
theorem dX12_able_5 : decode cX12_able 5 = .ok (.aload_n 0, 1) := by decide +kernel
theorem dX12_able_6 : decode cX12_able 6 = .ok (.getfield 19, 3) := by decide +kernel
theorem dX12_able_9 : decode cX12_able 9 = .ok (.bipush 72, 2) := by decide +kernel
theorem dX12_able_11 : decode cX12_able 11 = .ok (.iaload, 1) := by decide +kernel
theorem dX12_able_12 : decode cX12_able 12 = .ok (.if_icmp .ge 55, 3) := by decide +kernel
theorem dX12_able_15 : decode cX12_able 15 = .ok (.iload_n 2, 1) := by decide +kernel
theorem dX12_able_16 : decode cX12_able 16 = .ok (.aload_n 0, 1) := by decide +kernel
theorem dX12_able_17 : decode cX12_able 17 = .ok (.getfield 25, 3) := by decide +kernel
theorem dX12_able_20 : decode cX12_able 20 = .ok (.iload_n 3, 1) := by decide +kernel
theorem dX12_able_21 : decode cX12_able 21 = .ok (.baload, 1) := by decide +kernel
theorem dX12_able_22 : decode cX12_able 22 = .ok (.ifCond .eq 36, 3) := by decide +kernel
theorem dX12_able_25 : decode cX12_able 25 = .ok (.aload_n 0, 1) := by decide +kernel
theorem dX12_able_26 : decode cX12_able 26 = .ok (.iload_n 3, 1) := by decide +kernel
theorem dX12_able_27 : decode cX12_able 27 = .ok (.bipush 6, 2) := by decide +kernel
theorem dX12_able_29 : decode cX12_able 29 = .ok (.invokevirtual 168, 3) := by decide +kernel
theorem dX12_able_32 : decode cX12_able 32 = .ok (.ifCond .ne 26, 3) := by decide +kernel
theorem dX12_able_35 : decode cX12_able 35 = .ok (.aload_n 0, 1) := by decide +kernel
theorem dX12_able_36 : decode cX12_able 36 = .ok (.getfield 218, 3) := by decide +kernel
theorem dX12_able_39 : decode cX12_able 39 = .ok (.ifCond .ne 13, 3) := by decide +kernel
theorem dX12_able_42 : decode cX12_able 42 = .ok (.aload_n 0, 1) := by decide +kernel
theorem dX12_able_43 : decode cX12_able 43 = .ok (.getfield 47, 3) := by decide +kernel
theorem dX12_able_46 : decode cX12_able 46 = .ok (.iload_n 3, 1) := by decide +kernel
theorem dX12_able_47 : decode cX12_able 47 = .ok (.iaload, 1) := by decide +kernel
theorem dX12_able_48 : decode cX12_able 48 = .ok (.iload_n 1, 1) := by decide +kernel
theorem dX12_able_49 : decode cX12_able 49 = .ok (.if_icmp .lt 9, 3) := by decide +kernel
theorem dX12_able_52 : decode cX12_able 52 = .ok (.iconst 1, 1) := by decide +kernel
theorem dX12_able_53 : decode cX12_able 53 = .ok (.iload_n 3, 1) := by decide +kernel
theorem dX12_able_54 : decode cX12_able 54 = .ok (.ishl, 1) := by decide +kernel
theorem dX12_able_55 : decode cX12_able 55 = .ok (.goto 4, 3) := by decide +kernel
theorem dX12_able_58 : decode cX12_able 58 = .ok (.iconst 0, 1) := by decide +kernel
theorem dX12_able_59 : decode cX12_able 59 = .ok (.ior, 1) := by decide +kernel
theorem dX12_able_60 : decode cX12_able 60 = .ok (.istore_n 2, 1) := by decide +kernel
theorem dX12_able_61 : decode cX12_able 61 = .ok (.iinc 3 1, 3) := by decide +kernel
theorem dX12_able_64 : decode cX12_able 64 = .ok (.goto (-60), 3) := by decide +kernel
theorem dX12_able_67 : decode cX12_able 67 = .ok (.iload_n 2, 1) := by decide +kernel
theorem dX12_able_68 : decode cX12_able 68 = .ok (.ireturn, 1) := by decide +kernel
