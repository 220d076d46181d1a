theorem dX1_pour_0 : decode cX1_pour 0 = .ok (.iconst 0, 1) := by decide +kernel
theorem dX1_pour_1 : decode cX1_pour 1 = .ok (.istore_n 3, 1) := by decide +kernel
theorem dX1_pour_2 : decode cX1_pour 2 = .ok (.iload_n 3, 1) := by decide +kernel
theorem dX1_pour_3 : decode cX1_pour 3 = .ok (.aload_n 0, 1) := by decide +kernel
theorem dX1_pour_4 : decode cX1_pour 4 = .ok (.getfield 58, 3) := by decide +kernel
theorem dX1_pour_7 : decode cX1_pour 7 = .ok (.getfield 64, 3) := by decide +kernel
theorem dX1_pour_10 : decode cX1_pour 10 = .ok (.if_icmp .ge 79, 3) := by decide +kernel
theorem dX1_pour_13 : decode cX1_pour 13 = .ok (.iload_n 3, 1) := by decide +kernel
theorem dX1_pour_14 : decode cX1_pour 14 = .ok (.iload_n 1, 1) := by decide +kernel
theorem dX1_pour_15 : decode cX1_pour 15 = .ok (.invokestatic 117, 3) := by decide +kernel
theorem dX1_pour_18 : decode cX1_pour 18 = .ok (.ifCond .eq 65, 3) := by decide +kernel
theorem dX1_pour_21 : decode cX1_pour 21 = .ok (.aload_n 0, 1) := by decide +kernel
theorem dX1_pour_22 : decode cX1_pour 22 = .ok (.getfield 11, 3) := by decide +kernel
theorem dX1_pour_25 : decode cX1_pour 25 = .ok (.iload_n 3, 1) := by decide +kernel
theorem dX1_pour_26 : decode cX1_pour 26 = .ok (.aaload, 1) := by decide +kernel
theorem dX1_pour_27 : decode cX1_pour 27 = .ok (.dup, 1) := by decide +kernel
theorem dX1_pour_28 : decode cX1_pour 28 = .ok (.getfield 178, 3) := by decide +kernel
theorem dX1_pour_31 : decode cX1_pour 31 = .ok (.aload_n 0, 1) := by decide +kernel
theorem dX1_pour_32 : decode cX1_pour 32 = .ok (.getfield 58, 3) := by decide +kernel
theorem dX1_pour_35 : decode cX1_pour 35 = .ok (.getfield 67, 3) := by decide +kernel
theorem dX1_pour_38 : decode cX1_pour 38 = .ok (.iconst 2, 1) := by decide +kernel
theorem dX1_pour_39 : decode cX1_pour 39 = .ok (.aaload, 1) := by decide +kernel
theorem dX1_pour_40 : decode cX1_pour 40 = .ok (.iload_n 3, 1) := by decide +kernel
theorem dX1_pour_41 : decode cX1_pour 41 = .ok (.iaload, 1) := by decide +kernel
theorem dX1_pour_42 : decode cX1_pour 42 = .ok (.iadd, 1) := by decide +kernel
theorem dX1_pour_43 : decode cX1_pour 43 = .ok (.putfield 178, 3) := by decide +kernel
theorem dX1_pour_46 : decode cX1_pour 46 = .ok (.aload_n 0, 1) := by decide +kernel
theorem dX1_pour_47 : decode cX1_pour 47 = .ok (.getfield 11, 3) := by decide +kernel
theorem dX1_pour_50 : decode cX1_pour 50 = .ok (.iload_n 3, 1) := by decide +kernel
theorem dX1_pour_51 : decode cX1_pour 51 = .ok (.aaload, 1) := by decide +kernel
theorem dX1_pour_52 : decode cX1_pour 52 = .ok (.dup, 1) := by decide +kernel
theorem dX1_pour_53 : decode cX1_pour 53 = .ok (.getfield 181, 3) := by decide +kernel
theorem dX1_pour_56 : decode cX1_pour 56 = .ok (.iconst 1, 1) := by decide +kernel
theorem dX1_pour_57 : decode cX1_pour 57 = .ok (.iadd, 1) := by decide +kernel
theorem dX1_pour_58 : decode cX1_pour 58 = .ok (.putfield 181, 3) := by decide +kernel
theorem dX1_pour_61 : decode cX1_pour 61 = .ok (.aload_n 0, 1) := by decide +kernel
theorem dX1_pour_62 : decode cX1_pour 62 = .ok (.getfield 11, 3) := by decide +kernel
theorem dX1_pour_65 : decode cX1_pour 65 = .ok (.iload_n 3, 1) := by decide +kernel
theorem dX1_pour_66 : decode cX1_pour 66 = .ok (.aaload, 1) := by decide +kernel
theorem dX1_pour_67 : decode cX1_pour 67 = .ok (.iload_n 2, 1) := by decide +kernel
theorem dX1_pour_68 : decode cX1_pour 68 = .ok (.aload_n 0, 1) := by decide +kernel
theorem dX1_pour_69 : decode cX1_pour 69 = .ok (.getfield 58, 3) := by decide +kernel
theorem dX1_pour_72 : decode cX1_pour 72 = .ok (.getfield 67, 3) := by decide +kernel
theorem dX1_pour_75 : decode cX1_pour 75 = .ok (.iconst 3, 1) := by decide +kernel
theorem dX1_pour_76 : decode cX1_pour 76 = .ok (.aaload, 1) := by decide +kernel
theorem dX1_pour_77 : decode cX1_pour 77 = .ok (.iload_n 3, 1) := by decide +kernel
theorem dX1_pour_78 : decode cX1_pour 78 = .ok (.iaload, 1) := by decide +kernel
theorem dX1_pour_79 : decode cX1_pour 79 = .ok (.iadd, 1) := by decide +kernel
theorem dX1_pour_80 : decode cX1_pour 80 = .ok (.putfield 111, 3) := by decide +kernel
theorem dX1_pour_83 : decode cX1_pour 83 = .ok (.iinc 3 1, 3) := by decide +kernel
theorem dX1_pour_86 : decode cX1_pour 86 = .ok (.goto (-84), 3) := by decide +kernel
theorem dX1_pour_89 : decode cX1_pour 89 = .ok (.aload_n 0, 1) := by decide +kernel
theorem dX1_pour_90 : decode cX1_pour 90 = .ok (.dup, 1) := by decide +kernel
theorem dX1_pour_91 : decode cX1_pour 91 = .ok (.getfield 55, 3) := by decide +kernel
theorem dX1_pour_94 : decode cX1_pour 94 = .ok (.iload_n 1, 1) := by decide +kernel
theorem dX1_pour_95 : decode cX1_pour 95 = .ok (.iconst (-1), 1) := by decide +kernel
theorem dX1_pour_96 : decode cX1_pour 96 = .ok (.ixor, 1) := by decide +kernel
theorem dX1_pour_97 : decode cX1_pour 97 = .ok (.iand, 1) := by decide +kernel
theorem dX1_pour_98 : decode cX1_pour 98 = .ok (.putfield 55, 3) := by decide +kernel
theorem dX1_pour_101 : decode cX1_pour 101 = .ok (.return_, 1) := by decide +kernel
theorem dX1_sooner_0 : decode cX1_sooner 0 = .ok (.iload_n 1, 1) := by decide +kernel
theorem dX1_sooner_1 : decode cX1_sooner 1 = .ok (.iload_n 2, 1) := by decide +kernel
theorem dX1_sooner_2 : decode cX1_sooner 2 = .ok (.if_icmp .le 12, 3) := by decide +kernel
theorem dX1_sooner_5 : decode cX1_sooner 5 = .ok (.iload_n 1, 1) := by decide +kernel
theorem dX1_sooner_6 : decode cX1_sooner 6 = .ok (.iload_n 0, 1) := by decide +kernel
theorem dX1_sooner_7 : decode cX1_sooner 7 = .ok (.if_icmp .ge 7, 3) := by decide +kernel
theorem dX1_sooner_10 : decode cX1_sooner 10 = .ok (.iload_n 1, 1) := by decide +kernel
theorem dX1_sooner_11 : decode cX1_sooner 11 = .ok (.goto 4, 3) := by decide +kernel
theorem dX1_sooner_14 : decode cX1_sooner 14 = .ok (.iload_n 0, 1) := by decide +kernel
theorem dX1_sooner_15 : decode cX1_sooner 15 = .ok (.ireturn, 1) := by decide +kernel
theorem dX1_sumOfPrices_0 : decode cX1_sumOfPrices 0 = .ok (.iconst 0, 1) := by decide +kernel
theorem dX1_sumOfPrices_1 : decode cX1_sumOfPrices 1 = .ok (.istore_n 2, 1) := by decide +kernel
theorem dX1_sumOfPrices_2 : decode cX1_sumOfPrices 2 = .ok (.iconst 0, 1) := by decide +kernel
theorem dX1_sumOfPrices_3 : decode cX1_sumOfPrices 3 = .ok (.istore_n 3, 1) := by decide +kernel
theorem dX1_sumOfPrices_4 : decode cX1_sumOfPrices 4 = .ok (.iload_n 3, 1) := by decide +kernel
theorem dX1_sumOfPrices_5 : decode cX1_sumOfPrices 5 = .ok (.aload_n 0, 1) := by decide +kernel
theorem dX1_sumOfPrices_6 : decode cX1_sumOfPrices 6 = .ok (.getfield 58, 3) := by decide +kernel
theorem dX1_sumOfPrices_9 : decode cX1_sumOfPrices 9 = .ok (.getfield 64, 3) := by decide +kernel
theorem dX1_sumOfPrices_12 : decode cX1_sumOfPrices 12 = .ok (.if_icmp .ge 31, 3) := by decide +kernel
theorem dX1_sumOfPrices_15 : decode cX1_sumOfPrices 15 = .ok (.iload_n 3, 1) := by decide +kernel
theorem dX1_sumOfPrices_16 : decode cX1_sumOfPrices 16 = .ok (.iload_n 1, 1) := by decide +kernel
theorem dX1_sumOfPrices_17 : decode cX1_sumOfPrices 17 = .ok (.invokestatic 117, 3) := by decide +kernel
theorem dX1_sumOfPrices_20 : decode cX1_sumOfPrices 20 = .ok (.ifCond .eq 17, 3) := by decide +kernel
theorem dX1_sumOfPrices_23 : decode cX1_sumOfPrices 23 = .ok (.iload_n 2, 1) := by decide +kernel
theorem dX1_sumOfPrices_24 : decode cX1_sumOfPrices 24 = .ok (.aload_n 0, 1) := by decide +kernel
theorem dX1_sumOfPrices_25 : decode cX1_sumOfPrices 25 = .ok (.getfield 58, 3) := by decide +kernel
theorem dX1_sumOfPrices_28 : decode cX1_sumOfPrices 28 = .ok (.getfield 67, 3) := by decide +kernel
theorem dX1_sumOfPrices_31 : decode cX1_sumOfPrices 31 = .ok (.iconst 2, 1) := by decide +kernel
theorem dX1_sumOfPrices_32 : decode cX1_sumOfPrices 32 = .ok (.aaload, 1) := by decide +kernel
theorem dX1_sumOfPrices_33 : decode cX1_sumOfPrices 33 = .ok (.iload_n 3, 1) := by decide +kernel
theorem dX1_sumOfPrices_34 : decode cX1_sumOfPrices 34 = .ok (.iaload, 1) := by decide +kernel
theorem dX1_sumOfPrices_35 : decode cX1_sumOfPrices 35 = .ok (.iadd, 1) := by decide +kernel
theorem dX1_sumOfPrices_36 : decode cX1_sumOfPrices 36 = .ok (.istore_n 2, 1) := by decide +kernel
theorem dX1_sumOfPrices_37 : decode cX1_sumOfPrices 37 = .ok (.iinc 3 1, 3) := by decide +kernel
theorem dX1_sumOfPrices_40 : decode cX1_sumOfPrices 40 = .ok (.goto (-36), 3) := by decide +kernel
theorem dX1_sumOfPrices_43 : decode cX1_sumOfPrices 43 = .ok (.iload_n 2, 1) := by decide +kernel
theorem dX1_sumOfPrices_44 : decode cX1_sumOfPrices 44 = .ok (.ireturn, 1) := by decide +kernel
theorem dX1_turnEmpty_0 : decode cX1_turnEmpty 0 = .ok (.aload_n 0, 1) := by decide +kernel
theorem dX1_turnEmpty_1 : decode cX1_turnEmpty 1 = .ok (.dup, 1) := by decide +kernel
theorem dX1_turnEmpty_2 : decode cX1_turnEmpty 2 = .ok (.getfield 55, 3) := by decide +kernel
theorem dX1_turnEmpty_5 : decode cX1_turnEmpty 5 = .ok (.iconst 1, 1) := by decide +kernel
theorem dX1_turnEmpty_6 : decode cX1_turnEmpty 6 = .ok (.iload_n 1, 1) := by decide +kernel
theorem dX1_turnEmpty_7 : decode cX1_turnEmpty 7 = .ok (.ishl, 1) := by decide +kernel
theorem dX1_turnEmpty_8 : decode cX1_turnEmpty 8 = .ok (.ior, 1) := by decide +kernel
theorem dX1_turnEmpty_9 : decode cX1_turnEmpty 9 = .ok (.putfield 55, 3) := by decide +kernel
theorem dX1_turnEmpty_12 : decode cX1_turnEmpty 12 = .ok (.aload_n 0, 1) := by decide +kernel
theorem dX1_turnEmpty_13 : decode cX1_turnEmpty 13 = .ok (.getfield 11, 3) := by decide +kernel
theorem dX1_turnEmpty_16 : decode cX1_turnEmpty 16 = .ok (.iload_n 1, 1) := by decide +kernel
theorem dX1_turnEmpty_17 : decode cX1_turnEmpty 17 = .ok (.aaload, 1) := by decide +kernel
theorem dX1_turnEmpty_18 : decode cX1_turnEmpty 18 = .ok (.iload_n 2, 1) := by decide +kernel
theorem dX1_turnEmpty_19 : decode cX1_turnEmpty 19 = .ok (.putfield 114, 3) := by decide +kernel
theorem dX1_turnEmpty_22 : decode cX1_turnEmpty 22 = .ok (.return_, 1) := by decide +kernel
theorem dX1_wantsRound_0 : decode cX1_wantsRound 0 = .ok (.aload_n 0, 1) := by decide +kernel
theorem dX1_wantsRound_1 : decode cX1_wantsRound 1 = .ok (.getfield 55, 3) := by decide +kernel
theorem dX1_wantsRound_4 : decode cX1_wantsRound 4 = .ok (.ifCond .eq 12, 3) := by decide +kernel
theorem dX1_wantsRound_7 : decode cX1_wantsRound 7 = .ok (.aload_n 0, 1) := by decide +kernel
theorem dX1_wantsRound_8 : decode cX1_wantsRound 8 = .ok (.getfield 23, 3) := by decide +kernel
theorem dX1_wantsRound_11 : decode cX1_wantsRound 11 = .ok (.bipush 40, 2) := by decide +kernel
theorem dX1_wantsRound_13 : decode cX1_wantsRound 13 = .ok (.if_icmp .lt 5, 3) := by decide +kernel
theorem dX1_wantsRound_16 : decode cX1_wantsRound 16 = .ok (.iconst 0, 1) := by decide +kernel
theorem dX1_wantsRound_17 : decode cX1_wantsRound 17 = .ok (.ireturn, 1) := by decide +kernel
theorem dX1_wantsRound_18 : decode cX1_wantsRound 18 = .ok (.aload_n 0, 1) := by decide +kernel
theorem dX1_wantsRound_19 : decode cX1_wantsRound 19 = .ok (.getfield 55, 3) := by decide +kernel
theorem dX1_wantsRound_22 : decode cX1_wantsRound 22 = .ok (.aload_n 0, 1) := by decide +kernel
theorem dX1_wantsRound_23 : decode cX1_wantsRound 23 = .ok (.getfield 52, 3) := by decide +kernel
theorem dX1_wantsRound_26 : decode cX1_wantsRound 26 = .ok (.if_icmp .eq 20, 3) := by decide +kernel
theorem dX1_wantsRound_29 : decode cX1_wantsRound 29 = .ok (.aload_n 0, 1) := by decide +kernel
theorem dX1_wantsRound_30 : decode cX1_wantsRound 30 = .ok (.getfield 55, 3) := by decide +kernel
theorem dX1_wantsRound_33 : decode cX1_wantsRound 33 = .ok (.invokestatic 125, 3) := by decide +kernel
theorem dX1_wantsRound_36 : decode cX1_wantsRound 36 = .ok (.aload_n 0, 1) := by decide +kernel
theorem dX1_wantsRound_37 : decode cX1_wantsRound 37 = .ok (.getfield 58, 3) := by decide +kernel
theorem dX1_wantsRound_40 : decode cX1_wantsRound 40 = .ok (.getfield 130, 3) := by decide +kernel
theorem dX1_wantsRound_43 : decode cX1_wantsRound 43 = .ok (.if_icmp .lt 7, 3) := by decide +kernel
theorem dX1_wantsRound_46 : decode cX1_wantsRound 46 = .ok (.iconst 1, 1) := by decide +kernel
theorem dX1_wantsRound_47 : decode cX1_wantsRound 47 = .ok (.goto 4, 3) := by decide +kernel
theorem dX1_wantsRound_50 : decode cX1_wantsRound 50 = .ok (.iconst 0, 1) := by decide +kernel
theorem dX1_wantsRound_51 : decode cX1_wantsRound 51 = .ok (.ireturn, 1) := by decide +kernel
theorem dX1_whoCanPay_0 : decode cX1_whoCanPay 0 = .ok (.aload_n 0, 1) := by decide +kernel
theorem dX1_whoCanPay_1 : decode cX1_whoCanPay 1 = .ok (.getfield 58, 3) := by decide +kernel
theorem dX1_whoCanPay_4 : decode cX1_whoCanPay 4 = .ok (.aload_n 0, 1) := by decide +kernel
theorem dX1_whoCanPay_5 : decode cX1_whoCanPay 5 = .ok (.getfield 52, 3) := by decide +kernel
theorem dX1_whoCanPay_8 : decode cX1_whoCanPay 8 = .ok (.invokevirtual 214, 3) := by decide +kernel
theorem dX1_whoCanPay_11 : decode cX1_whoCanPay 11 = .ok (.istore_n 2, 1) := by decide +kernel
theorem dX1_whoCanPay_12 : decode cX1_whoCanPay 12 = .ok (.iconst 0, 1) := by decide +kernel
theorem dX1_whoCanPay_13 : decode cX1_whoCanPay 13 = .ok (.istore_n 3, 1) := by decide +kernel
theorem dX1_whoCanPay_14 : decode cX1_whoCanPay 14 = .ok (.iload_n 3, 1) := by decide +kernel
theorem dX1_whoCanPay_15 : decode cX1_whoCanPay 15 = .ok (.aload_n 0, 1) := by decide +kernel
theorem dX1_whoCanPay_16 : decode cX1_whoCanPay 16 = .ok (.getfield 58, 3) := by decide +kernel
theorem dX1_whoCanPay_19 : decode cX1_whoCanPay 19 = .ok (.getfield 64, 3) := by decide +kernel
theorem dX1_whoCanPay_22 : decode cX1_whoCanPay 22 = .ok (.if_icmp .ge 33, 3) := by decide +kernel
theorem dX1_whoCanPay_25 : decode cX1_whoCanPay 25 = .ok (.aload_n 0, 1) := by decide +kernel
theorem dX1_whoCanPay_26 : decode cX1_whoCanPay 26 = .ok (.getfield 42, 3) := by decide +kernel
theorem dX1_whoCanPay_29 : decode cX1_whoCanPay 29 = .ok (.ifCond .eq 20, 3) := by decide +kernel
theorem dX1_whoCanPay_32 : decode cX1_whoCanPay 32 = .ok (.aload_n 0, 1) := by decide +kernel
theorem dX1_whoCanPay_33 : decode cX1_whoCanPay 33 = .ok (.iload_n 3, 1) := by decide +kernel
theorem dX1_whoCanPay_34 : decode cX1_whoCanPay 34 = .ok (.invokevirtual 164, 3) := by decide +kernel
theorem dX1_whoCanPay_37 : decode cX1_whoCanPay 37 = .ok (.iload_n 1, 1) := by decide +kernel
theorem dX1_whoCanPay_38 : decode cX1_whoCanPay 38 = .ok (.if_icmp .ge 11, 3) := by decide +kernel
theorem dX1_whoCanPay_41 : decode cX1_whoCanPay 41 = .ok (.iload_n 2, 1) := by decide +kernel
theorem dX1_whoCanPay_42 : decode cX1_whoCanPay 42 = .ok (.iconst 1, 1) := by decide +kernel
theorem dX1_whoCanPay_43 : decode cX1_whoCanPay 43 = .ok (.iload_n 3, 1) := by decide +kernel
theorem dX1_whoCanPay_44 : decode cX1_whoCanPay 44 = .ok (.ishl, 1) := by decide +kernel
theorem dX1_whoCanPay_45 : decode cX1_whoCanPay 45 = .ok (.iconst (-1), 1) := by decide +kernel
theorem dX1_whoCanPay_46 : decode cX1_whoCanPay 46 = .ok (.ixor, 1) := by decide +kernel
theorem dX1_whoCanPay_47 : decode cX1_whoCanPay 47 = .ok (.iand, 1) := by decide +kernel
theorem dX1_whoCanPay_48 : decode cX1_whoCanPay 48 = .ok (.istore_n 2, 1) := by decide +kernel
theorem dX1_whoCanPay_49 : decode cX1_whoCanPay 49 = .ok (.iinc 3 1, 3) := by decide +kernel
theorem dX1_whoCanPay_52 : decode cX1_whoCanPay 52 = .ok (.goto (-38), 3) := by decide +kernel
theorem dX1_whoCanPay_55 : decode cX1_whoCanPay 55 = .ok (.iload_n 2, 1) := by decide +kernel
theorem dX1_whoCanPay_56 : decode cX1_whoCanPay 56 = .ok (.ireturn, 1) := by decide +kernel
theorem dX1_whoCanPayOwn_0 : decode cX1_whoCanPayOwn 0 = .ok (.iconst 0, 1) := by decide +kernel
theorem dX1_whoCanPayOwn_1 : decode cX1_whoCanPayOwn 1 = .ok (.istore_n 1, 1) := by decide +kernel
theorem dX1_whoCanPayOwn_2 : decode cX1_whoCanPayOwn 2 = .ok (.iconst 0, 1) := by decide +kernel
theorem dX1_whoCanPayOwn_3 : decode cX1_whoCanPayOwn 3 = .ok (.istore_n 2, 1) := by decide +kernel
theorem dX1_whoCanPayOwn_4 : decode cX1_whoCanPayOwn 4 = .ok (.iload_n 2, 1) := by decide +kernel
theorem dX1_whoCanPayOwn_5 : decode cX1_whoCanPayOwn 5 = .ok (.aload_n 0, 1) := by decide +kernel
theorem dX1_whoCanPayOwn_6 : decode cX1_whoCanPayOwn 6 = .ok (.getfield 58, 3) := by decide +kernel
theorem dX1_whoCanPayOwn_9 : decode cX1_whoCanPayOwn 9 = .ok (.getfield 64, 3) := by decide +kernel
theorem dX1_whoCanPayOwn_12 : decode cX1_whoCanPayOwn 12 = .ok (.if_icmp .ge 45, 3) := by decide +kernel
theorem dX1_whoCanPayOwn_15 : decode cX1_whoCanPayOwn 15 = .ok (.iload_n 2, 1) := by decide +kernel
theorem dX1_whoCanPayOwn_16 : decode cX1_whoCanPayOwn 16 = .ok (.aload_n 0, 1) := by decide +kernel
theorem dX1_whoCanPayOwn_17 : decode cX1_whoCanPayOwn 17 = .ok (.getfield 55, 3) := by decide +kernel
theorem dX1_whoCanPayOwn_20 : decode cX1_whoCanPayOwn 20 = .ok (.invokestatic 117, 3) := by decide +kernel
theorem dX1_whoCanPayOwn_23 : decode cX1_whoCanPayOwn 23 = .ok (.ifCond .eq 28, 3) := by decide +kernel
theorem dX1_whoCanPayOwn_26 : decode cX1_whoCanPayOwn 26 = .ok (.aload_n 0, 1) := by decide +kernel
theorem dX1_whoCanPayOwn_27 : decode cX1_whoCanPayOwn 27 = .ok (.iload_n 2, 1) := by decide +kernel
theorem dX1_whoCanPayOwn_28 : decode cX1_whoCanPayOwn 28 = .ok (.invokevirtual 164, 3) := by decide +kernel
theorem dX1_whoCanPayOwn_31 : decode cX1_whoCanPayOwn 31 = .ok (.aload_n 0, 1) := by decide +kernel
theorem dX1_whoCanPayOwn_32 : decode cX1_whoCanPayOwn 32 = .ok (.getfield 58, 3) := by decide +kernel
theorem dX1_whoCanPayOwn_35 : decode cX1_whoCanPayOwn 35 = .ok (.getfield 67, 3) := by decide +kernel
theorem dX1_whoCanPayOwn_38 : decode cX1_whoCanPayOwn 38 = .ok (.iconst 2, 1) := by decide +kernel
theorem dX1_whoCanPayOwn_39 : decode cX1_whoCanPayOwn 39 = .ok (.aaload, 1) := by decide +kernel
theorem dX1_whoCanPayOwn_40 : decode cX1_whoCanPayOwn 40 = .ok (.iload_n 2, 1) := by decide +kernel
theorem dX1_whoCanPayOwn_41 : decode cX1_whoCanPayOwn 41 = .ok (.iaload, 1) := by decide +kernel
theorem dX1_whoCanPayOwn_42 : decode cX1_whoCanPayOwn 42 = .ok (.if_icmp .lt 9, 3) := by decide +kernel
theorem dX1_whoCanPayOwn_45 : decode cX1_whoCanPayOwn 45 = .ok (.iload_n 1, 1) := by decide +kernel
theorem dX1_whoCanPayOwn_46 : decode cX1_whoCanPayOwn 46 = .ok (.iconst 1, 1) := by decide +kernel
theorem dX1_whoCanPayOwn_47 : decode cX1_whoCanPayOwn 47 = .ok (.iload_n 2, 1) := by decide +kernel
theorem dX1_whoCanPayOwn_48 : decode cX1_whoCanPayOwn 48 = .ok (.ishl, 1) := by decide +kernel
theorem dX1_whoCanPayOwn_49 : decode cX1_whoCanPayOwn 49 = .ok (.ior, 1) := by decide +kernel
theorem dX1_whoCanPayOwn_50 : decode cX1_whoCanPayOwn 50 = .ok (.istore_n 1, 1) := by decide +kernel
theorem dX1_whoCanPayOwn_51 : decode cX1_whoCanPayOwn 51 = .ok (.iinc 2 1, 3) := by decide +kernel
theorem dX1_whoCanPayOwn_54 : decode cX1_whoCanPayOwn 54 = .ok (.goto (-50), 3) := by decide +kernel
theorem dX1_whoCanPayOwn_57 : decode cX1_whoCanPayOwn 57 = .ok (.iload_n 1, 1) := by decide +kernel
theorem dX1_whoCanPayOwn_58 : decode cX1_whoCanPayOwn 58 = .ok (.ireturn, 1) := by decide +kernel
theorem dX1_whoIsWorst_0 : decode cX1_whoIsWorst 0 = .ok (.bipush (-4), 2) := by decide +kernel
theorem dX1_whoIsWorst_2 : decode cX1_whoIsWorst 2 = .ok (.istore_n 1, 1) := by decide +kernel
theorem dX1_whoIsWorst_3 : decode cX1_whoIsWorst 3 = .ok (.iconst 0, 1) := by decide +kernel
theorem dX1_whoIsWorst_4 : decode cX1_whoIsWorst 4 = .ok (.istore_n 2, 1) := by decide +kernel
theorem dX1_whoIsWorst_5 : decode cX1_whoIsWorst 5 = .ok (.iload_n 2, 1) := by decide +kernel
theorem dX1_whoIsWorst_6 : decode cX1_whoIsWorst 6 = .ok (.aload_n 0, 1) := by decide +kernel
theorem dX1_whoIsWorst_7 : decode cX1_whoIsWorst 7 = .ok (.getfield 58, 3) := by decide +kernel
theorem dX1_whoIsWorst_10 : decode cX1_whoIsWorst 10 = .ok (.getfield 64, 3) := by decide +kernel
theorem dX1_whoIsWorst_13 : decode cX1_whoIsWorst 13 = .ok (.if_icmp .ge 44, 3) := by decide +kernel
theorem dX1_whoIsWorst_16 : decode cX1_whoIsWorst 16 = .ok (.iload_n 1, 1) := by decide +kernel
theorem dX1_whoIsWorst_17 : decode cX1_whoIsWorst 17 = .ok (.bipush (-4), 2) := by decide +kernel
theorem dX1_whoIsWorst_19 : decode cX1_whoIsWorst 19 = .ok (.if_icmp .eq 30, 3) := by decide +kernel
theorem dX1_whoIsWorst_22 : decode cX1_whoIsWorst 22 = .ok (.aload_n 0, 1) := by decide +kernel
theorem dX1_whoIsWorst_23 : decode cX1_whoIsWorst 23 = .ok (.getfield 11, 3) := by decide +kernel
theorem dX1_whoIsWorst_26 : decode cX1_whoIsWorst 26 = .ok (.iload_n 2, 1) := by decide +kernel
theorem dX1_whoIsWorst_27 : decode cX1_whoIsWorst 27 = .ok (.aaload, 1) := by decide +kernel
theorem dX1_whoIsWorst_28 : decode cX1_whoIsWorst 28 = .ok (.invokevirtual 81, 3) := by decide +kernel
theorem dX1_whoIsWorst_31 : decode cX1_whoIsWorst 31 = .ok (.invokestatic 190, 3) := by decide +kernel
theorem dX1_whoIsWorst_34 : decode cX1_whoIsWorst 34 = .ok (.aload_n 0, 1) := by decide +kernel
theorem dX1_whoIsWorst_35 : decode cX1_whoIsWorst 35 = .ok (.getfield 11, 3) := by decide +kernel
theorem dX1_whoIsWorst_38 : decode cX1_whoIsWorst 38 = .ok (.iload_n 1, 1) := by decide +kernel
theorem dX1_whoIsWorst_39 : decode cX1_whoIsWorst 39 = .ok (.aaload, 1) := by decide +kernel
theorem dX1_whoIsWorst_40 : decode cX1_whoIsWorst 40 = .ok (.invokevirtual 81, 3) := by decide +kernel
theorem dX1_whoIsWorst_43 : decode cX1_whoIsWorst 43 = .ok (.invokestatic 190, 3) := by decide +kernel
theorem dX1_whoIsWorst_46 : decode cX1_whoIsWorst 46 = .ok (.if_icmp .le 5, 3) := by decide +kernel
theorem dX1_whoIsWorst_49 : decode cX1_whoIsWorst 49 = .ok (.iload_n 2, 1) := by decide +kernel
theorem dX1_whoIsWorst_50 : decode cX1_whoIsWorst 50 = .ok (.istore_n 1, 1) := by decide +kernel
theorem dX1_whoIsWorst_51 : decode cX1_whoIsWorst 51 = .ok (.iinc 2 1, 3) := by decide +kernel
theorem dX1_whoIsWorst_54 : decode cX1_whoIsWorst 54 = .ok (.goto (-49), 3) := by decide +kernel
theorem dX1_whoIsWorst_57 : decode cX1_whoIsWorst 57 = .ok (.iload_n 1, 1) := by decide +kernel
theorem dX1_whoIsWorst_58 : decode cX1_whoIsWorst 58 = .ok (.ireturn, 1) := by decide +kernel
theorem dX1_worst_0 : decode cX1_worst 0 = .ok (.aload_n 0, 1) := by decide +kernel
theorem dX1_worst_1 : decode cX1_worst 1 = .ok (.invokevirtual 228, 3) := by decide +kernel
theorem dX1_worst_4 : decode cX1_worst 4 = .ok (.istore_n 1, 1) := by decide +kernel
theorem dX1_worst_5 : decode cX1_worst 5 = .ok (.iload_n 1, 1) := by decide +kernel
theorem dX1_worst_6 : decode cX1_worst 6 = .ok (.bipush (-4), 2) := by decide +kernel
theorem dX1_worst_8 : decode cX1_worst 8 = .ok (.if_icmp .ne 7, 3) := by decide +kernel
theorem dX1_worst_11 : decode cX1_worst 11 = .ok (.iconst 0, 1) := by decide +kernel
theorem dX1_worst_12 : decode cX1_worst 12 = .ok (.goto 15, 3) := by decide +kernel
theorem dX1_worst_15 : decode cX1_worst 15 = .ok (.aload_n 0, 1) := by decide +kernel
theorem dX1_worst_16 : decode cX1_worst 16 = .ok (.getfield 11, 3) := by decide +kernel
theorem dX1_worst_19 : decode cX1_worst 19 = .ok (.iload_n 1, 1) := by decide +kernel
theorem dX1_worst_20 : decode cX1_worst 20 = .ok (.aaload, 1) := by decide +kernel
theorem dX1_worst_21 : decode cX1_worst 21 = .ok (.invokevirtual 81, 3) := by decide +kernel
theorem dX1_worst_24 : decode cX1_worst 24 = .ok (.invokestatic 190, 3) := by decide +kernel
theorem dX1_worst_27 : decode cX1_worst 27 = .ok (.ireturn, 1) := by decide +kernel
theorem dX2_init_0 : decode cX2_init 0 = .ok (.aload_n 0, 1) := by decide +kernel
theorem dX2_init_1 : decode cX2_init 1 = .ok (.invokespecial 1, 3) := by decide +kernel
theorem dX2_init_4 : decode cX2_init 4 = .ok (.aload_n 0, 1) := by decide +kernel
theorem dX2_init_5 : decode cX2_init 5 = .ok (.iconst 0, 1) := by decide +kernel
theorem dX2_init_6 : decode cX2_init 6 = .ok (.putfield 7, 3) := by decide +kernel
theorem dX2_init_9 : decode cX2_init 9 = .ok (.aload_n 0, 1) := by decide +kernel
theorem dX2_init_10 : decode cX2_init 10 = .ok (.iconst 0, 1) := by decide +kernel
theorem dX2_init_11 : decode cX2_init 11 = .ok (.putfield 13, 3) := by decide +kernel
theorem dX2_init_14 : decode cX2_init 14 = .ok (.aload_n 0, 1) := by decide +kernel
theorem dX2_init_15 : decode cX2_init 15 = .ok (.aload_n 1, 1) := by decide +kernel
theorem dX2_init_16 : decode cX2_init 16 = .ok (.putfield 16, 3) := by decide +kernel
theorem dX2_init_19 : decode cX2_init 19 = .ok (.aload_n 0, 1) := by decide +kernel
theorem dX2_init_20 : decode cX2_init 20 = .ok (.aload_n 2, 1) := by decide +kernel
theorem dX2_init_21 : decode cX2_init 21 = .ok (.putfield 20, 3) := by decide +kernel
theorem dX2_init_24 : decode cX2_init 24 = .ok (.return_, 1) := by decide +kernel
theorem dX2_search_0 : decode cX2_search 0 = .ok (.aload_n 0, 1) := by decide +kernel
theorem dX2_search_1 : decode cX2_search 1 = .ok (.getfield 16, 3) := by decide +kernel
theorem dX2_search_4 : decode cX2_search 4 = .ok (.getfield 24, 3) := by decide +kernel
theorem dX2_search_7 : decode cX2_search 7 = .ok (.iload_n 2, 1) := by decide +kernel
theorem dX2_search_8 : decode cX2_search 8 = .ok (.aaload, 1) := by decide +kernel
theorem dX2_search_9 : decode cX2_search 9 = .ok (.iload_n 1, 1) := by decide +kernel
theorem dX2_search_10 : decode cX2_search 10 = .ok (.iaload, 1) := by decide +kernel
theorem dX2_search_11 : decode cX2_search 11 = .ok (.istore 6, 2) := by decide +kernel
theorem dX2_search_13 : decode cX2_search 13 = .ok (.aload_n 0, 1) := by decide +kernel
theorem dX2_search_14 : decode cX2_search 14 = .ok (.getfield 20, 3) := by decide +kernel
theorem dX2_search_17 : decode cX2_search 17 = .ok (.iload 4, 2) := by decide +kernel
theorem dX2_search_19 : decode cX2_search 19 = .ok (.iload 5, 2) := by decide +kernel
theorem dX2_search_21 : decode cX2_search 21 = .ok (.invokevirtual 30, 3) := by decide +kernel
theorem dX2_search_24 : decode cX2_search 24 = .ok (.aload_n 0, 1) := by decide +kernel
theorem dX2_search_25 : decode cX2_search 25 = .ok (.getfield 20, 3) := by decide +kernel
theorem dX2_search_28 : decode cX2_search 28 = .ok (.invokevirtual 36, 3) := by decide +kernel
theorem dX2_search_31 : decode cX2_search 31 = .ok (.aload_n 0, 1) := by decide +kernel
theorem dX2_search_32 : decode cX2_search 32 = .ok (.getfield 20, 3) := by decide +kernel
theorem dX2_search_35 : decode cX2_search 35 = .ok (.getfield 39, 3) := by decide +kernel
theorem dX2_search_38 : decode cX2_search 38 = .ok (.iload_n 1, 1) := by decide +kernel
theorem dX2_search_39 : decode cX2_search 39 = .ok (.aaload, 1) := by decide +kernel
theorem dX2_search_40 : decode cX2_search 40 = .ok (.invokevirtual 43, 3) := by decide +kernel
theorem dX2_search_43 : decode cX2_search 43 = .ok (.istore 7, 2) := by decide +kernel
theorem dX2_search_45 : decode cX2_search 45 = .ok (.aload_n 0, 1) := by decide +kernel
theorem dX2_search_46 : decode cX2_search 46 = .ok (.iconst 0, 1) := by decide +kernel
theorem dX2_search_47 : decode cX2_search 47 = .ok (.putfield 7, 3) := by decide +kernel
theorem dX2_search_50 : decode cX2_search 50 = .ok (.aload_n 0, 1) := by decide +kernel
theorem dX2_search_51 : decode cX2_search 51 = .ok (.iload 6, 2) := by decide +kernel
theorem dX2_search_53 : decode cX2_search 53 = .ok (.putfield 13, 3) := by decide +kernel
theorem dX2_search_56 : decode cX2_search 56 = .ok (.getstatic 49, 3) := by decide +kernel
theorem dX2_search_59 : decode cX2_search 59 = .ok (.iload_n 2, 1) := by decide +kernel
theorem dX2_search_60 : decode cX2_search 60 = .ok (.iaload, 1) := by decide +kernel
theorem dX2_search_61 : decode cX2_search 61 = .ok (.istore 8, 2) := by decide +kernel
theorem dX2_search_63 : decode cX2_search 63 = .ok (.iload 8, 2) := by decide +kernel
theorem dX2_search_65 : decode cX2_search 65 = .ok (.iload_n 3, 1) := by decide +kernel
theorem dX2_search_66 : decode cX2_search 66 = .ok (.if_icmp .gt 78, 3) := by decide +kernel
theorem dX2_search_69 : decode cX2_search 69 = .ok (.aload_n 0, 1) := by decide +kernel
theorem dX2_search_70 : decode cX2_search 70 = .ok (.getfield 16, 3) := by decide +kernel
theorem dX2_search_73 : decode cX2_search 73 = .ok (.getfield 24, 3) := by decide +kernel
theorem dX2_search_76 : decode cX2_search 76 = .ok (.iload_n 2, 1) := by decide +kernel
theorem dX2_search_77 : decode cX2_search 77 = .ok (.aaload, 1) := by decide +kernel
theorem dX2_search_78 : decode cX2_search 78 = .ok (.iload_n 1, 1) := by decide +kernel
theorem dX2_search_79 : decode cX2_search 79 = .ok (.iload 8, 2) := by decide +kernel
theorem dX2_search_81 : decode cX2_search 81 = .ok (.iastore, 1) := by decide +kernel
theorem dX2_search_82 : decode cX2_search 82 = .ok (.aload_n 0, 1) := by decide +kernel
theorem dX2_search_83 : decode cX2_search 83 = .ok (.getfield 20, 3) := by decide +kernel
theorem dX2_search_86 : decode cX2_search 86 = .ok (.iload 4, 2) := by decide +kernel
theorem dX2_search_88 : decode cX2_search 88 = .ok (.iload 5, 2) := by decide +kernel
theorem dX2_search_90 : decode cX2_search 90 = .ok (.invokevirtual 30, 3) := by decide +kernel
theorem dX2_search_93 : decode cX2_search 93 = .ok (.aload_n 0, 1) := by decide +kernel
theorem dX2_search_94 : decode cX2_search 94 = .ok (.getfield 20, 3) := by decide +kernel
theorem dX2_search_97 : decode cX2_search 97 = .ok (.invokevirtual 36, 3) := by decide +kernel
theorem dX2_search_100 : decode cX2_search 100 = .ok (.iload 7, 2) := by decide +kernel
theorem dX2_search_102 : decode cX2_search 102 = .ok (.aload_n 0, 1) := by decide +kernel
theorem dX2_search_103 : decode cX2_search 103 = .ok (.getfield 20, 3) := by decide +kernel
theorem dX2_search_106 : decode cX2_search 106 = .ok (.getfield 39, 3) := by decide +kernel
theorem dX2_search_109 : decode cX2_search 109 = .ok (.iload_n 1, 1) := by decide +kernel
theorem dX2_search_110 : decode cX2_search 110 = .ok (.aaload, 1) := by decide +kernel
theorem dX2_search_111 : decode cX2_search 111 = .ok (.invokevirtual 43, 3) := by decide +kernel
theorem dX2_search_114 : decode cX2_search 114 = .ok (.isub, 1) := by decide +kernel
theorem dX2_search_115 : decode cX2_search 115 = .ok (.istore 9, 2) := by decide +kernel
theorem dX2_search_117 : decode cX2_search 117 = .ok (.iload 9, 2) := by decide +kernel
theorem dX2_search_119 : decode cX2_search 119 = .ok (.aload_n 0, 1) := by decide +kernel
theorem dX2_search_120 : decode cX2_search 120 = .ok (.getfield 7, 3) := by decide +kernel
theorem dX2_search_123 : decode cX2_search 123 = .ok (.if_icmp .le 15, 3) := by decide +kernel
theorem dX2_search_126 : decode cX2_search 126 = .ok (.aload_n 0, 1) := by decide +kernel
theorem dX2_search_127 : decode cX2_search 127 = .ok (.iload 9, 2) := by decide +kernel
theorem dX2_search_129 : decode cX2_search 129 = .ok (.putfield 7, 3) := by decide +kernel
theorem dX2_search_132 : decode cX2_search 132 = .ok (.aload_n 0, 1) := by decide +kernel
theorem dX2_search_133 : decode cX2_search 133 = .ok (.iload 8, 2) := by decide +kernel
theorem dX2_search_135 : decode cX2_search 135 = .ok (.putfield 13, 3) := by decide +kernel
theorem dX2_search_138 : decode cX2_search 138 = .ok (.iinc 8 1, 3) := by decide +kernel
theorem dX2_search_141 : decode cX2_search 141 = .ok (.goto (-78), 3) := by decide +kernel
theorem dX2_search_144 : decode cX2_search 144 = .ok (.aload_n 0, 1) := by decide +kernel
theorem dX2_search_145 : decode cX2_search 145 = .ok (.getfield 16, 3) := by decide +kernel
theorem dX2_search_148 : decode cX2_search 148 = .ok (.getfield 24, 3) := by decide +kernel
theorem dX2_search_151 : decode cX2_search 151 = .ok (.iload_n 2, 1) := by decide +kernel
theorem dX2_search_152 : decode cX2_search 152 = .ok (.aaload, 1) := by decide +kernel
theorem dX2_search_153 : decode cX2_search 153 = .ok (.iload_n 1, 1) := by decide +kernel
theorem dX2_search_154 : decode cX2_search 154 = .ok (.iload 6, 2) := by decide +kernel
theorem dX2_search_156 : decode cX2_search 156 = .ok (.iastore, 1) := by decide +kernel
theorem dX2_search_157 : decode cX2_search 157 = .ok (.return_, 1) := by decide +kernel
theorem dX3_init_0 : decode cX3_init 0 = .ok (.aload_n 0, 1) := by decide +kernel
theorem dX3_init_1 : decode cX3_init 1 = .ok (.invokespecial 1, 3) := by decide +kernel
theorem dX3_init_4 : decode cX3_init 4 = .ok (.aload_n 0, 1) := by decide +kernel
theorem dX3_init_5 : decode cX3_init 5 = .ok (.new 7, 3) := by decide +kernel
theorem dX3_init_8 : decode cX3_init 8 = .ok (.dup, 1) := by decide +kernel
theorem dX3_init_9 : decode cX3_init 9 = .ok (.invokespecial 9, 3) := by decide +kernel
theorem dX3_init_12 : decode cX3_init 12 = .ok (.putfield 10, 3) := by decide +kernel
theorem dX3_init_15 : decode cX3_init 15 = .ok (.aload_n 0, 1) := by decide +kernel
theorem dX3_init_16 : decode cX3_init 16 = .ok (.iconst 0, 1) := by decide +kernel
theorem dX3_init_17 : decode cX3_init 17 = .ok (.putfield 16, 3) := by decide +kernel
theorem dX3_init_20 : decode cX3_init 20 = .ok (.return_, 1) := by decide +kernel
theorem dX4_add_0 : decode cX4_add 0 = .ok (.aload_n 0, 1) := by decide +kernel
theorem dX4_add_1 : decode cX4_add 1 = .ok (.getfield 23, 3) := by decide +kernel
theorem dX4_add_4 : decode cX4_add 4 = .ok (.istore_n 1, 1) := by decide +kernel
theorem dX4_add_5 : decode cX4_add 5 = .ok (.iconst 0, 1) := by decide +kernel
theorem dX4_add_6 : decode cX4_add 6 = .ok (.istore_n 2, 1) := by decide +kernel
theorem dX4_add_7 : decode cX4_add 7 = .ok (.iload_n 2, 1) := by decide +kernel
theorem dX4_add_8 : decode cX4_add 8 = .ok (.bipush 8, 2) := by decide +kernel
theorem dX4_add_10 : decode cX4_add 10 = .ok (.if_icmp .ge 18, 3) := by decide +kernel
theorem dX4_add_13 : decode cX4_add 13 = .ok (.aload_n 0, 1) := by decide +kernel
theorem dX4_add_14 : decode cX4_add 14 = .ok (.getfield 11, 3) := by decide +kernel
theorem dX4_add_17 : decode cX4_add 17 = .ok (.iload_n 2, 1) := by decide +kernel
theorem dX4_add_18 : decode cX4_add 18 = .ok (.aaload, 1) := by decide +kernel
theorem dX4_add_19 : decode cX4_add 19 = .ok (.iload_n 1, 1) := by decide +kernel
theorem dX4_add_20 : decode cX4_add 20 = .ok (.iconst 0, 1) := by decide +kernel
theorem dX4_add_21 : decode cX4_add 21 = .ok (.iastore, 1) := by decide +kernel
theorem dX4_add_22 : decode cX4_add 22 = .ok (.iinc 2 1, 3) := by decide +kernel
theorem dX4_add_25 : decode cX4_add 25 = .ok (.goto (-18), 3) := by decide +kernel
theorem dX4_add_28 : decode cX4_add 28 = .ok (.aload_n 0, 1) := by decide +kernel
theorem dX4_add_29 : decode cX4_add 29 = .ok (.getfield 11, 3) := by decide +kernel
theorem dX4_add_32 : decode cX4_add 32 = .ok (.iconst 4, 1) := by decide +kernel
theorem dX4_add_33 : decode cX4_add 33 = .ok (.aaload, 1) := by decide +kernel
theorem dX4_add_34 : decode cX4_add 34 = .ok (.iload_n 1, 1) := by decide +kernel
theorem dX4_add_35 : decode cX4_add 35 = .ok (.getstatic 33, 3) := by decide +kernel
theorem dX4_add_38 : decode cX4_add 38 = .ok (.iconst 4, 1) := by decide +kernel
theorem dX4_add_39 : decode cX4_add 39 = .ok (.iaload, 1) := by decide +kernel
theorem dX4_add_40 : decode cX4_add 40 = .ok (.iastore, 1) := by decide +kernel
theorem dX4_add_41 : decode cX4_add 41 = .ok (.aload_n 0, 1) := by decide +kernel
theorem dX4_add_42 : decode cX4_add 42 = .ok (.getfield 11, 3) := by decide +kernel
theorem dX4_add_45 : decode cX4_add 45 = .ok (.iconst 5, 1) := by decide +kernel
theorem dX4_add_46 : decode cX4_add 46 = .ok (.aaload, 1) := by decide +kernel
theorem dX4_add_47 : decode cX4_add 47 = .ok (.iload_n 1, 1) := by decide +kernel
theorem dX4_add_48 : decode cX4_add 48 = .ok (.iconst 1, 1) := by decide +kernel
theorem dX4_add_49 : decode cX4_add 49 = .ok (.iastore, 1) := by decide +kernel
theorem dX4_add_50 : decode cX4_add 50 = .ok (.aload_n 0, 1) := by decide +kernel
theorem dX4_add_51 : decode cX4_add 51 = .ok (.getfield 16, 3) := by decide +kernel
theorem dX4_add_54 : decode cX4_add 54 = .ok (.iload_n 1, 1) := by decide +kernel
theorem dX4_add_55 : decode cX4_add 55 = .ok (.iconst 0, 1) := by decide +kernel
theorem dX4_add_56 : decode cX4_add 56 = .ok (.iastore, 1) := by decide +kernel
theorem dX4_add_57 : decode cX4_add 57 = .ok (.aload_n 0, 1) := by decide +kernel
theorem dX4_add_58 : decode cX4_add 58 = .ok (.dup, 1) := by decide +kernel
theorem dX4_add_59 : decode cX4_add 59 = .ok (.getfield 23, 3) := by decide +kernel
theorem dX4_add_62 : decode cX4_add 62 = .ok (.iconst 1, 1) := by decide +kernel
theorem dX4_add_63 : decode cX4_add 63 = .ok (.iadd, 1) := by decide +kernel
theorem dX4_add_64 : decode cX4_add 64 = .ok (.putfield 23, 3) := by decide +kernel
theorem dX4_add_67 : decode cX4_add 67 = .ok (.iload_n 1, 1) := by decide +kernel
theorem dX4_add_68 : decode cX4_add 68 = .ok (.ireturn, 1) := by decide +kernel
theorem dX4_clear_0 : decode cX4_clear 0 = .ok (.aload_n 0, 1) := by decide +kernel
theorem dX4_clear_1 : decode cX4_clear 1 = .ok (.iconst 0, 1) := by decide +kernel
theorem dX4_clear_2 : decode cX4_clear 2 = .ok (.putfield 23, 3) := by decide +kernel
theorem dX4_clear_5 : decode cX4_clear 5 = .ok (.aload_n 0, 1) := by decide +kernel
theorem dX4_clear_6 : decode cX4_clear 6 = .ok (.iconst 1, 1) := by decide +kernel
theorem dX4_clear_7 : decode cX4_clear 7 = .ok (.putfield 27, 3) := by decide +kernel
theorem dX4_clear_10 : decode cX4_clear 10 = .ok (.aload_n 0, 1) := by decide +kernel
theorem dX4_clear_11 : decode cX4_clear 11 = .ok (.iconst 0, 1) := by decide +kernel
theorem dX4_clear_12 : decode cX4_clear 12 = .ok (.putfield 30, 3) := by decide +kernel
theorem dX4_clear_15 : decode cX4_clear 15 = .ok (.return_, 1) := by decide +kernel
theorem dX4_copy_0 : decode cX4_copy 0 = .ok (.iconst 0, 1) := by decide +kernel
theorem dX4_copy_1 : decode cX4_copy 1 = .ok (.istore_n 2, 1) := by decide +kernel
theorem dX4_copy_2 : decode cX4_copy 2 = .ok (.iload_n 2, 1) := by decide +kernel
theorem dX4_copy_3 : decode cX4_copy 3 = .ok (.bipush 8, 2) := by decide +kernel
theorem dX4_copy_5 : decode cX4_copy 5 = .ok (.if_icmp .ge 28, 3) := by decide +kernel
theorem dX4_copy_8 : decode cX4_copy 8 = .ok (.aload_n 1, 1) := by decide +kernel
theorem dX4_copy_9 : decode cX4_copy 9 = .ok (.getfield 11, 3) := by decide +kernel
theorem dX4_copy_12 : decode cX4_copy 12 = .ok (.iload_n 2, 1) := by decide +kernel
theorem dX4_copy_13 : decode cX4_copy 13 = .ok (.aaload, 1) := by decide +kernel
theorem dX4_copy_14 : decode cX4_copy 14 = .ok (.iconst 0, 1) := by decide +kernel
theorem dX4_copy_15 : decode cX4_copy 15 = .ok (.aload_n 0, 1) := by decide +kernel
theorem dX4_copy_16 : decode cX4_copy 16 = .ok (.getfield 11, 3) := by decide +kernel
theorem dX4_copy_19 : decode cX4_copy 19 = .ok (.iload_n 2, 1) := by decide +kernel
theorem dX4_copy_20 : decode cX4_copy 20 = .ok (.aaload, 1) := by decide +kernel
theorem dX4_copy_21 : decode cX4_copy 21 = .ok (.iconst 0, 1) := by decide +kernel
theorem dX4_copy_22 : decode cX4_copy 22 = .ok (.bipush 8, 2) := by decide +kernel
theorem dX4_copy_24 : decode cX4_copy 24 = .ok (.invokestatic 36, 3) := by decide +kernel
theorem dX4_copy_27 : decode cX4_copy 27 = .ok (.iinc 2 1, 3) := by decide +kernel
theorem dX4_copy_30 : decode cX4_copy 30 = .ok (.goto (-28), 3) := by decide +kernel
theorem dX4_copy_33 : decode cX4_copy 33 = .ok (.aload_n 1, 1) := by decide +kernel
theorem dX4_copy_34 : decode cX4_copy 34 = .ok (.getfield 16, 3) := by decide +kernel
theorem dX4_copy_37 : decode cX4_copy 37 = .ok (.iconst 0, 1) := by decide +kernel
theorem dX4_copy_38 : decode cX4_copy 38 = .ok (.aload_n 0, 1) := by decide +kernel
theorem dX4_copy_39 : decode cX4_copy 39 = .ok (.getfield 16, 3) := by decide +kernel
theorem dX4_copy_42 : decode cX4_copy 42 = .ok (.iconst 0, 1) := by decide +kernel
theorem dX4_copy_43 : decode cX4_copy 43 = .ok (.bipush 8, 2) := by decide +kernel
theorem dX4_copy_45 : decode cX4_copy 45 = .ok (.invokestatic 36, 3) := by decide +kernel
theorem dX4_copy_48 : decode cX4_copy 48 = .ok (.aload_n 1, 1) := by decide +kernel
theorem dX4_copy_49 : decode cX4_copy 49 = .ok (.getfield 20, 3) := by decide +kernel
theorem dX4_copy_52 : decode cX4_copy 52 = .ok (.iconst 0, 1) := by decide +kernel
theorem dX4_copy_53 : decode cX4_copy 53 = .ok (.aload_n 0, 1) := by decide +kernel
theorem dX4_copy_54 : decode cX4_copy 54 = .ok (.getfield 20, 3) := by decide +kernel
theorem dX4_copy_57 : decode cX4_copy 57 = .ok (.iconst 0, 1) := by decide +kernel
theorem dX4_copy_58 : decode cX4_copy 58 = .ok (.bipush 12, 2) := by decide +kernel
theorem dX4_copy_60 : decode cX4_copy 60 = .ok (.invokestatic 36, 3) := by decide +kernel
theorem dX4_copy_63 : decode cX4_copy 63 = .ok (.aload_n 0, 1) := by decide +kernel
theorem dX4_copy_64 : decode cX4_copy 64 = .ok (.aload_n 1, 1) := by decide +kernel
theorem dX4_copy_65 : decode cX4_copy 65 = .ok (.getfield 23, 3) := by decide +kernel
theorem dX4_copy_68 : decode cX4_copy 68 = .ok (.putfield 23, 3) := by decide +kernel
theorem dX4_copy_71 : decode cX4_copy 71 = .ok (.aload_n 0, 1) := by decide +kernel
theorem dX4_copy_72 : decode cX4_copy 72 = .ok (.aload_n 1, 1) := by decide +kernel
theorem dX4_copy_73 : decode cX4_copy 73 = .ok (.getfield 27, 3) := by decide +kernel
theorem dX4_copy_76 : decode cX4_copy 76 = .ok (.putfield 27, 3) := by decide +kernel
theorem dX4_copy_79 : decode cX4_copy 79 = .ok (.aload_n 0, 1) := by decide +kernel
theorem dX4_copy_80 : decode cX4_copy 80 = .ok (.aload_n 1, 1) := by decide +kernel
theorem dX4_copy_81 : decode cX4_copy 81 = .ok (.getfield 30, 3) := by decide +kernel
theorem dX4_copy_84 : decode cX4_copy 84 = .ok (.putfield 30, 3) := by decide +kernel
theorem dX4_copy_87 : decode cX4_copy 87 = .ok (.return_, 1) := by decide +kernel
theorem dX4_has_0 : decode cX4_has 0 = .ok (.iload_n 1, 1) := by decide +kernel
theorem dX4_has_1 : decode cX4_has 1 = .ok (.ifCond .lt 21, 3) := by decide +kernel
theorem dX4_has_4 : decode cX4_has 4 = .ok (.iload_n 1, 1) := by decide +kernel
theorem dX4_has_5 : decode cX4_has 5 = .ok (.aload_n 0, 1) := by decide +kernel
theorem dX4_has_6 : decode cX4_has 6 = .ok (.getfield 23, 3) := by decide +kernel
theorem dX4_has_9 : decode cX4_has 9 = .ok (.if_icmp .ge 13, 3) := by decide +kernel
theorem dX4_has_12 : decode cX4_has 12 = .ok (.iload_n 1, 1) := by decide +kernel
theorem dX4_has_13 : decode cX4_has 13 = .ok (.bipush 8, 2) := by decide +kernel
theorem dX4_has_15 : decode cX4_has 15 = .ok (.if_icmp .ge 7, 3) := by decide +kernel
theorem dX4_has_18 : decode cX4_has 18 = .ok (.iconst 1, 1) := by decide +kernel
theorem dX4_has_19 : decode cX4_has 19 = .ok (.goto 4, 3) := by decide +kernel
theorem dX4_has_22 : decode cX4_has 22 = .ok (.iconst 0, 1) := by decide +kernel
theorem dX4_has_23 : decode cX4_has 23 = .ok (.ireturn, 1) := by decide +kernel
theorem dX4_init_0 : decode cX4_init 0 = .ok (.aload_n 0, 1) := by decide +kernel
theorem dX4_init_1 : decode cX4_init 1 = .ok (.invokespecial 3, 3) := by decide +kernel
theorem dX4_init_4 : decode cX4_init 4 = .ok (.aload_n 0, 1) := by decide +kernel
theorem dX4_init_5 : decode cX4_init 5 = .ok (.bipush 8, 2) := by decide +kernel
theorem dX4_init_7 : decode cX4_init 7 = .ok (.bipush 8, 2) := by decide +kernel
theorem dX4_init_9 : decode cX4_init 9 = .ok (.multianewarray 9 2, 4) := by decide +kernel
theorem dX4_init_13 : decode cX4_init 13 = .ok (.putfield 11, 3) := by decide +kernel
theorem dX4_init_16 : decode cX4_init 16 = .ok (.aload_n 0, 1) := by decide +kernel
theorem dX4_init_17 : decode cX4_init 17 = .ok (.bipush 8, 2) := by decide +kernel
theorem dX4_init_19 : decode cX4_init 19 = .ok (.newarray .int, 2) := by decide +kernel
theorem dX4_init_21 : decode cX4_init 21 = .ok (.putfield 16, 3) := by decide +kernel
theorem dX4_init_24 : decode cX4_init 24 = .ok (.aload_n 0, 1) := by decide +kernel
theorem dX4_init_25 : decode cX4_init 25 = .ok (.bipush 12, 2) := by decide +kernel
theorem dX4_init_27 : decode cX4_init 27 = .ok (.newarray .int, 2) := by decide +kernel
theorem dX4_init_29 : decode cX4_init 29 = .ok (.putfield 20, 3) := by decide +kernel
theorem dX4_init_32 : decode cX4_init 32 = .ok (.aload_n 0, 1) := by decide +kernel
theorem dX4_init_33 : decode cX4_init 33 = .ok (.iconst 0, 1) := by decide +kernel
theorem dX4_init_34 : decode cX4_init 34 = .ok (.putfield 23, 3) := by decide +kernel
theorem dX4_init_37 : decode cX4_init 37 = .ok (.aload_n 0, 1) := by decide +kernel
theorem dX4_init_38 : decode cX4_init 38 = .ok (.iconst 1, 1) := by decide +kernel
theorem dX4_init_39 : decode cX4_init 39 = .ok (.putfield 27, 3) := by decide +kernel
theorem dX4_init_42 : decode cX4_init 42 = .ok (.aload_n 0, 1) := by decide +kernel
theorem dX4_init_43 : decode cX4_init 43 = .ok (.iconst 0, 1) := by decide +kernel
theorem dX4_init_44 : decode cX4_init 44 = .ok (.putfield 30, 3) := by decide +kernel
theorem dX4_init_47 : decode cX4_init 47 = .ok (.return_, 1) := by decide +kernel
theorem dX4_mayBecome_0 : decode cX4_mayBecome 0 = .ok (.iload_n 3, 1) := by decide +kernel
theorem dX4_mayBecome_1 : decode cX4_mayBecome 1 = .ok (.getstatic 42, 3) := by decide +kernel
theorem dX4_mayBecome_4 : decode cX4_mayBecome 4 = .ok (.iload_n 2, 1) := by decide +kernel
theorem dX4_mayBecome_5 : decode cX4_mayBecome 5 = .ok (.iaload, 1) := by decide +kernel
theorem dX4_mayBecome_6 : decode cX4_mayBecome 6 = .ok (.if_icmp .lt 12, 3) := by decide +kernel
theorem dX4_mayBecome_9 : decode cX4_mayBecome 9 = .ok (.iload_n 3, 1) := by decide +kernel
theorem dX4_mayBecome_10 : decode cX4_mayBecome 10 = .ok (.getstatic 33, 3) := by decide +kernel
theorem dX4_mayBecome_13 : decode cX4_mayBecome 13 = .ok (.iload_n 2, 1) := by decide +kernel
theorem dX4_mayBecome_14 : decode cX4_mayBecome 14 = .ok (.iaload, 1) := by decide +kernel
theorem dX4_mayBecome_15 : decode cX4_mayBecome 15 = .ok (.if_icmp .le 5, 3) := by decide +kernel
theorem dX4_mayBecome_18 : decode cX4_mayBecome 18 = .ok (.iconst 0, 1) := by decide +kernel
theorem dX4_mayBecome_19 : decode cX4_mayBecome 19 = .ok (.ireturn, 1) := by decide +kernel
theorem dX4_mayBecome_20 : decode cX4_mayBecome 20 = .ok (.iload_n 2, 1) := by decide +kernel
theorem dX4_mayBecome_21 : decode cX4_mayBecome 21 = .ok (.ifCond .ne 21, 3) := by decide +kernel
theorem dX4_mayBecome_24 : decode cX4_mayBecome 24 = .ok (.iload_n 3, 1) := by decide +kernel
theorem dX4_mayBecome_25 : decode cX4_mayBecome 25 = .ok (.aload_n 0, 1) := by decide +kernel
theorem dX4_mayBecome_26 : decode cX4_mayBecome 26 = .ok (.getfield 11, 3) := by decide +kernel
theorem dX4_mayBecome_29 : decode cX4_mayBecome 29 = .ok (.iconst 1, 1) := by decide +kernel
theorem dX4_mayBecome_30 : decode cX4_mayBecome 30 = .ok (.aaload, 1) := by decide +kernel
theorem dX4_mayBecome_31 : decode cX4_mayBecome 31 = .ok (.iload_n 1, 1) := by decide +kernel
theorem dX4_mayBecome_32 : decode cX4_mayBecome 32 = .ok (.iaload, 1) := by decide +kernel
theorem dX4_mayBecome_33 : decode cX4_mayBecome 33 = .ok (.if_icmp .ge 7, 3) := by decide +kernel
theorem dX4_mayBecome_36 : decode cX4_mayBecome 36 = .ok (.iconst 1, 1) := by decide +kernel
theorem dX4_mayBecome_37 : decode cX4_mayBecome 37 = .ok (.goto 4, 3) := by decide +kernel
theorem dX4_mayBecome_40 : decode cX4_mayBecome 40 = .ok (.iconst 0, 1) := by decide +kernel
theorem dX4_mayBecome_41 : decode cX4_mayBecome 41 = .ok (.ireturn, 1) := by decide +kernel
theorem dX4_mayBecome_42 : decode cX4_mayBecome 42 = .ok (.iload_n 2, 1) := by decide +kernel
theorem dX4_mayBecome_43 : decode cX4_mayBecome 43 = .ok (.iconst 1, 1) := by decide +kernel
theorem dX4_mayBecome_44 : decode cX4_mayBecome 44 = .ok (.if_icmp .ne 15, 3) := by decide +kernel
theorem dX4_mayBecome_47 : decode cX4_mayBecome 47 = .ok (.iload_n 3, 1) := by decide +kernel
theorem dX4_mayBecome_48 : decode cX4_mayBecome 48 = .ok (.aload_n 0, 1) := by decide +kernel
theorem dX4_mayBecome_49 : decode cX4_mayBecome 49 = .ok (.getfield 11, 3) := by decide +kernel
theorem dX4_mayBecome_52 : decode cX4_mayBecome 52 = .ok (.iconst 0, 1) := by decide +kernel
theorem dX4_mayBecome_53 : decode cX4_mayBecome 53 = .ok (.aaload, 1) := by decide +kernel
theorem dX4_mayBecome_54 : decode cX4_mayBecome 54 = .ok (.iload_n 1, 1) := by decide +kernel
theorem dX4_mayBecome_55 : decode cX4_mayBecome 55 = .ok (.iaload, 1) := by decide +kernel
theorem dX4_mayBecome_56 : decode cX4_mayBecome 56 = .ok (.if_icmp .le 7, 3) := by decide +kernel
theorem dX4_mayBecome_59 : decode cX4_mayBecome 59 = .ok (.iconst 1, 1) := by decide +kernel
theorem dX4_mayBecome_60 : decode cX4_mayBecome 60 = .ok (.goto 4, 3) := by decide +kernel
theorem dX4_mayBecome_63 : decode cX4_mayBecome 63 = .ok (.iconst 0, 1) := by decide +kernel
theorem dX4_mayBecome_64 : decode cX4_mayBecome 64 = .ok (.ireturn, 1) := by decide +kernel
theorem dX4_notPoor_0 : decode cX4_notPoor 0 = .ok (.iload_n 1, 1) := by decide +kernel
theorem dX4_notPoor_1 : decode cX4_notPoor 1 = .ok (.istore_n 2, 1) := by decide +kernel
theorem dX4_notPoor_2 : decode cX4_notPoor 2 = .ok (.iconst 0, 1) := by decide +kernel
theorem dX4_notPoor_3 : decode cX4_notPoor 3 = .ok (.istore_n 3, 1) := by decide +kernel
theorem dX4_notPoor_4 : decode cX4_notPoor 4 = .ok (.iload_n 3, 1) := by decide +kernel
theorem dX4_notPoor_5 : decode cX4_notPoor 5 = .ok (.aload_n 0, 1) := by decide +kernel
theorem dX4_notPoor_6 : decode cX4_notPoor 6 = .ok (.getfield 23, 3) := by decide +kernel
theorem dX4_notPoor_9 : decode cX4_notPoor 9 = .ok (.if_icmp .ge 29, 3) := by decide +kernel
theorem dX4_notPoor_12 : decode cX4_notPoor 12 = .ok (.aload_n 0, 1) := by decide +kernel
theorem dX4_notPoor_13 : decode cX4_notPoor 13 = .ok (.getfield 11, 3) := by decide +kernel
theorem dX4_notPoor_16 : decode cX4_notPoor 16 = .ok (.bipush 6, 2) := by decide +kernel
theorem dX4_notPoor_18 : decode cX4_notPoor 18 = .ok (.aaload, 1) := by decide +kernel
theorem dX4_notPoor_19 : decode cX4_notPoor 19 = .ok (.iload_n 3, 1) := by decide +kernel
theorem dX4_notPoor_20 : decode cX4_notPoor 20 = .ok (.iaload, 1) := by decide +kernel
theorem dX4_notPoor_21 : decode cX4_notPoor 21 = .ok (.ifCond .eq 11, 3) := by decide +kernel
theorem dX4_notPoor_24 : decode cX4_notPoor 24 = .ok (.iload_n 2, 1) := by decide +kernel
theorem dX4_notPoor_25 : decode cX4_notPoor 25 = .ok (.iconst 1, 1) := by decide +kernel
theorem dX4_notPoor_26 : decode cX4_notPoor 26 = .ok (.iload_n 3, 1) := by decide +kernel
theorem dX4_notPoor_27 : decode cX4_notPoor 27 = .ok (.ishl, 1) := by decide +kernel
theorem dX4_notPoor_28 : decode cX4_notPoor 28 = .ok (.iconst (-1), 1) := by decide +kernel
theorem dX4_notPoor_29 : decode cX4_notPoor 29 = .ok (.ixor, 1) := by decide +kernel
theorem dX4_notPoor_30 : decode cX4_notPoor 30 = .ok (.iand, 1) := by decide +kernel
theorem dX4_notPoor_31 : decode cX4_notPoor 31 = .ok (.istore_n 2, 1) := by decide +kernel
theorem dX4_notPoor_32 : decode cX4_notPoor 32 = .ok (.iinc 3 1, 3) := by decide +kernel
theorem dX4_notPoor_35 : decode cX4_notPoor 35 = .ok (.goto (-31), 3) := by decide +kernel
theorem dX4_notPoor_38 : decode cX4_notPoor 38 = .ok (.iload_n 2, 1) := by decide +kernel
theorem dX4_notPoor_39 : decode cX4_notPoor 39 = .ok (.ireturn, 1) := by decide +kernel
theorem dX4_sum_0 : decode cX4_sum 0 = .ok (.iconst 0, 1) := by decide +kernel
theorem dX4_sum_1 : decode cX4_sum 1 = .ok (.istore_n 2, 1) := by decide +kernel
theorem dX4_sum_2 : decode cX4_sum 2 = .ok (.iconst 0, 1) := by decide +kernel
theorem dX4_sum_3 : decode cX4_sum 3 = .ok (.istore_n 3, 1) := by decide +kernel
theorem dX4_sum_4 : decode cX4_sum 4 = .ok (.iload_n 3, 1) := by decide +kernel
theorem dX4_sum_5 : decode cX4_sum 5 = .ok (.aload_n 0, 1) := by decide +kernel
theorem dX4_sum_6 : decode cX4_sum 6 = .ok (.getfield 23, 3) := by decide +kernel
theorem dX4_sum_9 : decode cX4_sum 9 = .ok (.if_icmp .ge 20, 3) := by decide +kernel
theorem dX4_sum_12 : decode cX4_sum 12 = .ok (.iload_n 2, 1) := by decide +kernel
theorem dX4_sum_13 : decode cX4_sum 13 = .ok (.aload_n 0, 1) := by decide +kernel
theorem dX4_sum_14 : decode cX4_sum 14 = .ok (.getfield 11, 3) := by decide +kernel
theorem dX4_sum_17 : decode cX4_sum 17 = .ok (.iload_n 1, 1) := by decide +kernel
theorem dX4_sum_18 : decode cX4_sum 18 = .ok (.aaload, 1) := by decide +kernel
theorem dX4_sum_19 : decode cX4_sum 19 = .ok (.iload_n 3, 1) := by decide +kernel
theorem dX4_sum_20 : decode cX4_sum 20 = .ok (.iaload, 1) := by decide +kernel
theorem dX4_sum_21 : decode cX4_sum 21 = .ok (.iadd, 1) := by decide +kernel
theorem dX4_sum_22 : decode cX4_sum 22 = .ok (.istore_n 2, 1) := by decide +kernel
theorem dX4_sum_23 : decode cX4_sum 23 = .ok (.iinc 3 1, 3) := by decide +kernel
theorem dX4_sum_26 : decode cX4_sum 26 = .ok (.goto (-22), 3) := by decide +kernel
theorem dX4_sum_29 : decode cX4_sum 29 = .ok (.iload_n 2, 1) := by decide +kernel
theorem dX4_sum_30 : decode cX4_sum 30 = .ok (.ireturn, 1) := by decide +kernel
theorem dX4_tell_0 : decode cX4_tell 0 = .ok (.aload_n 0, 1) := by decide +kernel
theorem dX4_tell_1 : decode cX4_tell 1 = .ok (.getfield 30, 3) := by decide +kernel
theorem dX4_tell_4 : decode cX4_tell 4 = .ok (.bipush 12, 2) := by decide +kernel
theorem dX4_tell_6 : decode cX4_tell 6 = .ok (.if_icmp .ge 23, 3) := by decide +kernel
theorem dX4_tell_9 : decode cX4_tell 9 = .ok (.aload_n 0, 1) := by decide +kernel
theorem dX4_tell_10 : decode cX4_tell 10 = .ok (.getfield 20, 3) := by decide +kernel
theorem dX4_tell_13 : decode cX4_tell 13 = .ok (.aload_n 0, 1) := by decide +kernel
theorem dX4_tell_14 : decode cX4_tell 14 = .ok (.getfield 30, 3) := by decide +kernel
theorem dX4_tell_17 : decode cX4_tell 17 = .ok (.iload_n 1, 1) := by decide +kernel
theorem dX4_tell_18 : decode cX4_tell 18 = .ok (.iastore, 1) := by decide +kernel
theorem dX4_tell_19 : decode cX4_tell 19 = .ok (.aload_n 0, 1) := by decide +kernel
theorem dX4_tell_20 : decode cX4_tell 20 = .ok (.dup, 1) := by decide +kernel
theorem dX4_tell_21 : decode cX4_tell 21 = .ok (.getfield 30, 3) := by decide +kernel
theorem dX4_tell_24 : decode cX4_tell 24 = .ok (.iconst 1, 1) := by decide +kernel
theorem dX4_tell_25 : decode cX4_tell 25 = .ok (.iadd, 1) := by decide +kernel
theorem dX4_tell_26 : decode cX4_tell 26 = .ok (.putfield 30, 3) := by decide +kernel
theorem dX4_tell_29 : decode cX4_tell 29 = .ok (.return_, 1) := by decide +kernel
theorem dX5_init_0 : decode cX5_init 0 = .ok (.aload_n 0, 1) := by decide +kernel
theorem dX5_init_1 : decode cX5_init 1 = .ok (.invokespecial 3, 3) := by decide +kernel
theorem dX5_init_4 : decode cX5_init 4 = .ok (.aload_n 0, 1) := by decide +kernel
theorem dX5_init_5 : decode cX5_init 5 = .ok (.bipush 6, 2) := by decide +kernel
theorem dX5_init_7 : decode cX5_init 7 = .ok (.newarray .int, 2) := by decide +kernel
theorem dX5_init_9 : decode cX5_init 9 = .ok (.putfield 9, 3) := by decide +kernel
theorem dX5_init_12 : decode cX5_init 12 = .ok (.aload_n 0, 1) := by decide +kernel
theorem dX5_init_13 : decode cX5_init 13 = .ok (.iconst 0, 1) := by decide +kernel
theorem dX5_init_14 : decode cX5_init 14 = .ok (.putfield 15, 3) := by decide +kernel
theorem dX5_init_17 : decode cX5_init 17 = .ok (.aload_n 0, 1) := by decide +kernel
theorem dX5_init_18 : decode cX5_init 18 = .ok (.bipush 6, 2) := by decide +kernel
theorem dX5_init_20 : decode cX5_init 20 = .ok (.newarray .int, 2) := by decide +kernel
theorem dX5_init_22 : decode cX5_init 22 = .ok (.putfield 19, 3) := by decide +kernel
theorem dX5_init_25 : decode cX5_init 25 = .ok (.aload_n 0, 1) := by decide +kernel
theorem dX5_init_26 : decode cX5_init 26 = .ok (.bipush 8, 2) := by decide +kernel
theorem dX5_init_28 : decode cX5_init 28 = .ok (.newarray .int, 2) := by decide +kernel
theorem dX5_init_30 : decode cX5_init 30 = .ok (.putfield 22, 3) := by decide +kernel
theorem dX5_init_33 : decode cX5_init 33 = .ok (.aload_n 0, 1) := by decide +kernel
theorem dX5_init_34 : decode cX5_init 34 = .ok (.iconst 0, 1) := by decide +kernel
theorem dX5_init_35 : decode cX5_init 35 = .ok (.putfield 25, 3) := by decide +kernel
theorem dX5_init_38 : decode cX5_init 38 = .ok (.aload_n 0, 1) := by decide +kernel
theorem dX5_init_39 : decode cX5_init 39 = .ok (.aload_n 1, 1) := by decide +kernel
theorem dX5_init_40 : decode cX5_init 40 = .ok (.putfield 28, 3) := by decide +kernel
theorem dX5_init_43 : decode cX5_init 43 = .ok (.aload_n 0, 1) := by decide +kernel
theorem dX5_init_44 : decode cX5_init 44 = .ok (.aload_n 2, 1) := by decide +kernel
theorem dX5_init_45 : decode cX5_init 45 = .ok (.putfield 32, 3) := by decide +kernel
theorem dX5_init_48 : decode cX5_init 48 = .ok (.return_, 1) := by decide +kernel
theorem dX5_make_0 : decode cX5_make 0 = .ok (.aload_n 0, 1) := by decide +kernel
theorem dX5_make_1 : decode cX5_make 1 = .ok (.getfield 32, 3) := by decide +kernel
theorem dX5_make_4 : decode cX5_make 4 = .ok (.invokevirtual 36, 3) := by decide +kernel
theorem dX5_make_7 : decode cX5_make 7 = .ok (.aload_n 0, 1) := by decide +kernel
theorem dX5_make_8 : decode cX5_make 8 = .ok (.getfield 32, 3) := by decide +kernel
theorem dX5_make_11 : decode cX5_make 11 = .ok (.invokevirtual 41, 3) := by decide +kernel
theorem dX5_make_14 : decode cX5_make 14 = .ok (.aload_n 0, 1) := by decide +kernel
theorem dX5_make_15 : decode cX5_make 15 = .ok (.getfield 32, 3) := by decide +kernel
theorem dX5_make_18 : decode cX5_make 18 = .ok (.getfield 44, 3) := by decide +kernel
theorem dX5_make_21 : decode cX5_make 21 = .ok (.bipush 6, 2) := by decide +kernel
theorem dX5_make_23 : decode cX5_make 23 = .ok (.if_icmp .le 6, 3) := by decide +kernel
theorem dX5_make_26 : decode cX5_make 26 = .ok (.bipush (-2), 2) := by decide +kernel
theorem dX5_make_28 : decode cX5_make 28 = .ok (.ireturn, 1) := by decide +kernel
theorem dX5_make_29 : decode cX5_make 29 = .ok (.aload_n 0, 1) := by decide +kernel
theorem dX5_make_30 : decode cX5_make 30 = .ok (.getfield 32, 3) := by decide +kernel
theorem dX5_make_33 : decode cX5_make 33 = .ok (.getfield 47, 3) := by decide +kernel
theorem dX5_make_36 : decode cX5_make 36 = .ok (.ifCond .le 6, 3) := by decide +kernel
theorem dX5_make_39 : decode cX5_make 39 = .ok (.bipush (-4), 2) := by decide +kernel
theorem dX5_make_41 : decode cX5_make 41 = .ok (.ireturn, 1) := by decide +kernel
theorem dX5_make_42 : decode cX5_make 42 = .ok (.aload_n 0, 1) := by decide +kernel
theorem dX5_make_43 : decode cX5_make 43 = .ok (.aload_n 0, 1) := by decide +kernel
theorem dX5_make_44 : decode cX5_make 44 = .ok (.getfield 32, 3) := by decide +kernel
theorem dX5_make_47 : decode cX5_make 47 = .ok (.getfield 44, 3) := by decide +kernel
theorem dX5_make_50 : decode cX5_make 50 = .ok (.putfield 25, 3) := by decide +kernel
theorem dX5_make_53 : decode cX5_make 53 = .ok (.aload_n 0, 1) := by decide +kernel
theorem dX5_make_54 : decode cX5_make 54 = .ok (.ldc 50, 2) := by decide +kernel
theorem dX5_make_56 : decode cX5_make 56 = .ok (.putfield 15, 3) := by decide +kernel
theorem dX5_make_59 : decode cX5_make 59 = .ok (.iconst 0, 1) := by decide +kernel
theorem dX5_make_60 : decode cX5_make 60 = .ok (.istore_n 1, 1) := by decide +kernel
theorem dX5_make_61 : decode cX5_make 61 = .ok (.iload_n 1, 1) := by decide +kernel
theorem dX5_make_62 : decode cX5_make 62 = .ok (.aload_n 0, 1) := by decide +kernel
theorem dX5_make_63 : decode cX5_make 63 = .ok (.getfield 28, 3) := by decide +kernel
theorem dX5_make_66 : decode cX5_make 66 = .ok (.getfield 51, 3) := by decide +kernel
theorem dX5_make_69 : decode cX5_make 69 = .ok (.if_icmp .ge 40, 3) := by decide +kernel
theorem dX5_make_72 : decode cX5_make 72 = .ok (.aload_n 0, 1) := by decide +kernel
theorem dX5_make_73 : decode cX5_make 73 = .ok (.getfield 22, 3) := by decide +kernel
theorem dX5_make_76 : decode cX5_make 76 = .ok (.iload_n 1, 1) := by decide +kernel
theorem dX5_make_77 : decode cX5_make 77 = .ok (.aload_n 0, 1) := by decide +kernel
theorem dX5_make_78 : decode cX5_make 78 = .ok (.getfield 28, 3) := by decide +kernel
theorem dX5_make_81 : decode cX5_make 81 = .ok (.getfield 54, 3) := by decide +kernel
theorem dX5_make_84 : decode cX5_make 84 = .ok (.bipush 7, 2) := by decide +kernel
theorem dX5_make_86 : decode cX5_make 86 = .ok (.aaload, 1) := by decide +kernel
theorem dX5_make_87 : decode cX5_make 87 = .ok (.iload_n 1, 1) := by decide +kernel
theorem dX5_make_88 : decode cX5_make 88 = .ok (.iaload, 1) := by decide +kernel
theorem dX5_make_89 : decode cX5_make 89 = .ok (.aload_n 0, 1) := by decide +kernel
theorem dX5_make_90 : decode cX5_make 90 = .ok (.getfield 32, 3) := by decide +kernel
theorem dX5_make_93 : decode cX5_make 93 = .ok (.getfield 58, 3) := by decide +kernel
theorem dX5_make_96 : decode cX5_make 96 = .ok (.iload_n 1, 1) := by decide +kernel
theorem dX5_make_97 : decode cX5_make 97 = .ok (.aaload, 1) := by decide +kernel
theorem dX5_make_98 : decode cX5_make 98 = .ok (.getfield 62, 3) := by decide +kernel
theorem dX5_make_101 : decode cX5_make 101 = .ok (.isub, 1) := by decide +kernel
theorem dX5_make_102 : decode cX5_make 102 = .ok (.iastore, 1) := by decide +kernel
theorem dX5_make_103 : decode cX5_make 103 = .ok (.iinc 1 1, 3) := by decide +kernel
theorem dX5_make_106 : decode cX5_make 106 = .ok (.goto (-45), 3) := by decide +kernel
theorem dX5_make_109 : decode cX5_make 109 = .ok (.aload_n 0, 1) := by decide +kernel
theorem dX5_make_110 : decode cX5_make 110 = .ok (.iconst 0, 1) := by decide +kernel
theorem dX5_make_111 : decode cX5_make 111 = .ok (.aload_n 0, 1) := by decide +kernel
theorem dX5_make_112 : decode cX5_make 112 = .ok (.getfield 32, 3) := by decide +kernel
theorem dX5_make_115 : decode cX5_make 115 = .ok (.getfield 67, 3) := by decide +kernel
theorem dX5_make_118 : decode cX5_make 118 = .ok (.invokestatic 70, 3) := by decide +kernel
theorem dX5_make_121 : decode cX5_make 121 = .ok (.aload_n 0, 1) := by decide +kernel
theorem dX5_make_122 : decode cX5_make 122 = .ok (.getfield 25, 3) := by decide +kernel
theorem dX5_make_125 : decode cX5_make 125 = .ok (.ireturn, 1) := by decide +kernel
theorem dX5_mayBeBetter_0 : decode cX5_mayBeBetter 0 = .ok (.iconst 0, 1) := by decide +kernel
theorem dX5_mayBeBetter_1 : decode cX5_mayBeBetter 1 = .ok (.istore_n 2, 1) := by decide +kernel
theorem dX5_mayBeBetter_2 : decode cX5_mayBeBetter 2 = .ok (.iload_n 2, 1) := by decide +kernel
theorem dX5_mayBeBetter_3 : decode cX5_mayBeBetter 3 = .ok (.aload_n 0, 1) := by decide +kernel
theorem dX5_mayBeBetter_4 : decode cX5_mayBeBetter 4 = .ok (.getfield 28, 3) := by decide +kernel
theorem dX5_mayBeBetter_7 : decode cX5_mayBeBetter 7 = .ok (.getfield 51, 3) := by decide +kernel
theorem dX5_mayBeBetter_10 : decode cX5_mayBeBetter 10 = .ok (.if_icmp .ge 40, 3) := by decide +kernel
theorem dX5_mayBeBetter_13 : decode cX5_mayBeBetter 13 = .ok (.aload_n 0, 1) := by decide +kernel
theorem dX5_mayBeBetter_14 : decode cX5_mayBeBetter 14 = .ok (.getfield 22, 3) := by decide +kernel
theorem dX5_mayBeBetter_17 : decode cX5_mayBeBetter 17 = .ok (.iload_n 2, 1) := by decide +kernel
theorem dX5_mayBeBetter_18 : decode cX5_mayBeBetter 18 = .ok (.iaload, 1) := by decide +kernel
theorem dX5_mayBeBetter_19 : decode cX5_mayBeBetter 19 = .ok (.aload_n 0, 1) := by decide +kernel
theorem dX5_mayBeBetter_20 : decode cX5_mayBeBetter 20 = .ok (.getfield 15, 3) := by decide +kernel
theorem dX5_mayBeBetter_23 : decode cX5_mayBeBetter 23 = .ok (.if_icmp .ge 19, 3) := by decide +kernel
theorem dX5_mayBeBetter_26 : decode cX5_mayBeBetter 26 = .ok (.aload_n 0, 1) := by decide +kernel
theorem dX5_mayBeBetter_27 : decode cX5_mayBeBetter 27 = .ok (.getfield 22, 3) := by decide +kernel
theorem dX5_mayBeBetter_30 : decode cX5_mayBeBetter 30 = .ok (.iload_n 2, 1) := by decide +kernel
theorem dX5_mayBeBetter_31 : decode cX5_mayBeBetter 31 = .ok (.iaload, 1) := by decide +kernel
theorem dX5_mayBeBetter_32 : decode cX5_mayBeBetter 32 = .ok (.iload_n 1, 1) := by decide +kernel
theorem dX5_mayBeBetter_33 : decode cX5_mayBeBetter 33 = .ok (.iadd, 1) := by decide +kernel
theorem dX5_mayBeBetter_34 : decode cX5_mayBeBetter 34 = .ok (.ineg, 1) := by decide +kernel
theorem dX5_mayBeBetter_35 : decode cX5_mayBeBetter 35 = .ok (.aload_n 0, 1) := by decide +kernel
theorem dX5_mayBeBetter_36 : decode cX5_mayBeBetter 36 = .ok (.getfield 15, 3) := by decide +kernel
theorem dX5_mayBeBetter_39 : decode cX5_mayBeBetter 39 = .ok (.if_icmp .lt 5, 3) := by decide +kernel
theorem dX5_mayBeBetter_42 : decode cX5_mayBeBetter 42 = .ok (.iconst 0, 1) := by decide +kernel
theorem dX5_mayBeBetter_43 : decode cX5_mayBeBetter 43 = .ok (.ireturn, 1) := by decide +kernel
theorem dX5_mayBeBetter_44 : decode cX5_mayBeBetter 44 = .ok (.iinc 2 1, 3) := by decide +kernel
theorem dX5_mayBeBetter_47 : decode cX5_mayBeBetter 47 = .ok (.goto (-45), 3) := by decide +kernel
theorem dX5_mayBeBetter_50 : decode cX5_mayBeBetter 50 = .ok (.iconst 1, 1) := by decide +kernel
theorem dX5_mayBeBetter_51 : decode cX5_mayBeBetter 51 = .ok (.ireturn, 1) := by decide +kernel
theorem dX5_search_0 : decode cX5_search 0 = .ok (.aload_n 0, 1) := by decide +kernel
theorem dX5_search_1 : decode cX5_search 1 = .ok (.iload_n 2, 1) := by decide +kernel
theorem dX5_search_2 : decode cX5_search 2 = .ok (.invokevirtual 74, 3) := by decide +kernel
theorem dX5_search_5 : decode cX5_search 5 = .ok (.ifCond .ne 4, 3) := by decide +kernel
theorem dX5_search_8 : decode cX5_search 8 = .ok (.return_, 1) := by decide +kernel
theorem dX5_search_9 : decode cX5_search 9 = .ok (.iload_n 1, 1) := by decide +kernel
theorem dX5_search_10 : decode cX5_search 10 = .ok (.aload_n 0, 1) := by decide +kernel
theorem dX5_search_11 : decode cX5_search 11 = .ok (.getfield 25, 3) := by decide +kernel
theorem dX5_search_14 : decode cX5_search 14 = .ok (.if_icmp .ge 9, 3) := by decide +kernel
theorem dX5_search_17 : decode cX5_search 17 = .ok (.iload_n 1, 1) := by decide +kernel
theorem dX5_search_18 : decode cX5_search 18 = .ok (.bipush 6, 2) := by decide +kernel
theorem dX5_search_20 : decode cX5_search 20 = .ok (.if_icmp .lt 8, 3) := by decide +kernel
theorem dX5_search_23 : decode cX5_search 23 = .ok (.aload_n 0, 1) := by decide +kernel
theorem dX5_search_24 : decode cX5_search 24 = .ok (.invokevirtual 78, 3) := by decide +kernel
theorem dX5_search_27 : decode cX5_search 27 = .ok (.return_, 1) := by decide +kernel
theorem dX5_search_28 : decode cX5_search 28 = .ok (.aload_n 0, 1) := by decide +kernel
theorem dX5_search_29 : decode cX5_search 29 = .ok (.getfield 28, 3) := by decide +kernel
theorem dX5_search_32 : decode cX5_search 32 = .ok (.aload_n 0, 1) := by decide +kernel
theorem dX5_search_33 : decode cX5_search 33 = .ok (.getfield 32, 3) := by decide +kernel
theorem dX5_search_36 : decode cX5_search 36 = .ok (.getfield 81, 3) := by decide +kernel
theorem dX5_search_39 : decode cX5_search 39 = .ok (.iload_n 1, 1) := by decide +kernel
theorem dX5_search_40 : decode cX5_search 40 = .ok (.aaload, 1) := by decide +kernel
theorem dX5_search_41 : decode cX5_search 41 = .ok (.getfield 84, 3) := by decide +kernel
theorem dX5_search_44 : decode cX5_search 44 = .ok (.invokevirtual 89, 3) := by decide +kernel
theorem dX5_search_47 : decode cX5_search 47 = .ok (.istore_n 3, 1) := by decide +kernel
theorem dX5_search_48 : decode cX5_search 48 = .ok (.aload_n 0, 1) := by decide +kernel
theorem dX5_search_49 : decode cX5_search 49 = .ok (.getfield 32, 3) := by decide +kernel
theorem dX5_search_52 : decode cX5_search 52 = .ok (.getfield 81, 3) := by decide +kernel
theorem dX5_search_55 : decode cX5_search 55 = .ok (.iload_n 1, 1) := by decide +kernel
theorem dX5_search_56 : decode cX5_search 56 = .ok (.aaload, 1) := by decide +kernel
theorem dX5_search_57 : decode cX5_search 57 = .ok (.getfield 93, 3) := by decide +kernel
theorem dX5_search_60 : decode cX5_search 60 = .ok (.istore 4, 2) := by decide +kernel
theorem dX5_search_62 : decode cX5_search 62 = .ok (.iconst 0, 1) := by decide +kernel
theorem dX5_search_63 : decode cX5_search 63 = .ok (.istore 5, 2) := by decide +kernel
theorem dX5_search_65 : decode cX5_search 65 = .ok (.iload 5, 2) := by decide +kernel
theorem dX5_search_67 : decode cX5_search 67 = .ok (.bipush 8, 2) := by decide +kernel
theorem dX5_search_69 : decode cX5_search 69 = .ok (.if_icmp .ge 61, 3) := by decide +kernel
theorem dX5_search_72 : decode cX5_search 72 = .ok (.iload 5, 2) := by decide +kernel
theorem dX5_search_74 : decode cX5_search 74 = .ok (.iload_n 3, 1) := by decide +kernel
theorem dX5_search_75 : decode cX5_search 75 = .ok (.invokestatic 94, 3) := by decide +kernel
theorem dX5_search_78 : decode cX5_search 78 = .ok (.ifCond .eq 46, 3) := by decide +kernel
theorem dX5_search_81 : decode cX5_search 81 = .ok (.aload_n 0, 1) := by decide +kernel
theorem dX5_search_82 : decode cX5_search 82 = .ok (.getfield 19, 3) := by decide +kernel
theorem dX5_search_85 : decode cX5_search 85 = .ok (.iload_n 1, 1) := by decide +kernel
theorem dX5_search_86 : decode cX5_search 86 = .ok (.iload 5, 2) := by decide +kernel
theorem dX5_search_88 : decode cX5_search 88 = .ok (.iastore, 1) := by decide +kernel
theorem dX5_search_89 : decode cX5_search 89 = .ok (.aload_n 0, 1) := by decide +kernel
theorem dX5_search_90 : decode cX5_search 90 = .ok (.getfield 22, 3) := by decide +kernel
theorem dX5_search_93 : decode cX5_search 93 = .ok (.iload 5, 2) := by decide +kernel
theorem dX5_search_95 : decode cX5_search 95 = .ok (.dup2, 1) := by decide +kernel
theorem dX5_search_96 : decode cX5_search 96 = .ok (.iaload, 1) := by decide +kernel
theorem dX5_search_97 : decode cX5_search 97 = .ok (.iload 4, 2) := by decide +kernel
theorem dX5_search_99 : decode cX5_search 99 = .ok (.iadd, 1) := by decide +kernel
theorem dX5_search_100 : decode cX5_search 100 = .ok (.iastore, 1) := by decide +kernel
theorem dX5_search_101 : decode cX5_search 101 = .ok (.aload_n 0, 1) := by decide +kernel
theorem dX5_search_102 : decode cX5_search 102 = .ok (.iload_n 1, 1) := by decide +kernel
theorem dX5_search_103 : decode cX5_search 103 = .ok (.iconst 1, 1) := by decide +kernel
theorem dX5_search_104 : decode cX5_search 104 = .ok (.iadd, 1) := by decide +kernel
theorem dX5_search_105 : decode cX5_search 105 = .ok (.iload_n 2, 1) := by decide +kernel
theorem dX5_search_106 : decode cX5_search 106 = .ok (.iload 4, 2) := by decide +kernel
theorem dX5_search_108 : decode cX5_search 108 = .ok (.isub, 1) := by decide +kernel
theorem dX5_search_109 : decode cX5_search 109 = .ok (.invokestatic 70, 3) := by decide +kernel
theorem dX5_search_112 : decode cX5_search 112 = .ok (.aload_n 0, 1) := by decide +kernel
theorem dX5_search_113 : decode cX5_search 113 = .ok (.getfield 22, 3) := by decide +kernel
theorem dX5_search_116 : decode cX5_search 116 = .ok (.iload 5, 2) := by decide +kernel
theorem dX5_search_118 : decode cX5_search 118 = .ok (.dup2, 1) := by decide +kernel
theorem dX5_search_119 : decode cX5_search 119 = .ok (.iaload, 1) := by decide +kernel
theorem dX5_search_120 : decode cX5_search 120 = .ok (.iload 4, 2) := by decide +kernel
theorem dX5_search_122 : decode cX5_search 122 = .ok (.isub, 1) := by decide +kernel
theorem dX5_search_123 : decode cX5_search 123 = .ok (.iastore, 1) := by decide +kernel
theorem dX5_search_124 : decode cX5_search 124 = .ok (.iinc 5 1, 3) := by decide +kernel
theorem dX5_search_127 : decode cX5_search 127 = .ok (.goto (-62), 3) := by decide +kernel
theorem dX5_search_130 : decode cX5_search 130 = .ok (.return_, 1) := by decide +kernel
theorem dX5_take_0 : decode cX5_take 0 = .ok (.aload_n 0, 1) := by decide +kernel
theorem dX5_take_1 : decode cX5_take 1 = .ok (.iconst 0, 1) := by decide +kernel
theorem dX5_take_2 : decode cX5_take 2 = .ok (.putfield 15, 3) := by decide +kernel
theorem dX5_take_5 : decode cX5_take 5 = .ok (.iconst 0, 1) := by decide +kernel
theorem dX5_take_6 : decode cX5_take 6 = .ok (.istore_n 1, 1) := by decide +kernel
theorem dX5_take_7 : decode cX5_take 7 = .ok (.iload_n 1, 1) := by decide +kernel
theorem dX5_take_8 : decode cX5_take 8 = .ok (.aload_n 0, 1) := by decide +kernel
theorem dX5_take_9 : decode cX5_take 9 = .ok (.getfield 28, 3) := by decide +kernel
theorem dX5_take_12 : decode cX5_take 12 = .ok (.getfield 51, 3) := by decide +kernel
theorem dX5_take_15 : decode cX5_take 15 = .ok (.if_icmp .ge 29, 3) := by decide +kernel
theorem dX5_take_18 : decode cX5_take 18 = .ok (.aload_n 0, 1) := by decide +kernel
theorem dX5_take_19 : decode cX5_take 19 = .ok (.aload_n 0, 1) := by decide +kernel
theorem dX5_take_20 : decode cX5_take 20 = .ok (.getfield 15, 3) := by decide +kernel
theorem dX5_take_23 : decode cX5_take 23 = .ok (.aload_n 0, 1) := by decide +kernel
theorem dX5_take_24 : decode cX5_take 24 = .ok (.getfield 22, 3) := by decide +kernel
theorem dX5_take_27 : decode cX5_take 27 = .ok (.iload_n 1, 1) := by decide +kernel
theorem dX5_take_28 : decode cX5_take 28 = .ok (.iaload, 1) := by decide +kernel
theorem dX5_take_29 : decode cX5_take 29 = .ok (.invokestatic 98, 3) := by decide +kernel
theorem dX5_take_32 : decode cX5_take 32 = .ok (.invokestatic 103, 3) := by decide +kernel
theorem dX5_take_35 : decode cX5_take 35 = .ok (.putfield 15, 3) := by decide +kernel
theorem dX5_take_38 : decode cX5_take 38 = .ok (.iinc 1 1, 3) := by decide +kernel
theorem dX5_take_41 : decode cX5_take 41 = .ok (.goto (-34), 3) := by decide +kernel
theorem dX5_take_44 : decode cX5_take 44 = .ok (.aload_n 0, 1) := by decide +kernel
theorem dX5_take_45 : decode cX5_take 45 = .ok (.getfield 19, 3) := by decide +kernel
theorem dX5_take_48 : decode cX5_take 48 = .ok (.iconst 0, 1) := by decide +kernel
theorem dX5_take_49 : decode cX5_take 49 = .ok (.aload_n 0, 1) := by decide +kernel
theorem dX5_take_50 : decode cX5_take 50 = .ok (.getfield 9, 3) := by decide +kernel
theorem dX5_take_53 : decode cX5_take 53 = .ok (.iconst 0, 1) := by decide +kernel
theorem dX5_take_54 : decode cX5_take 54 = .ok (.bipush 6, 2) := by decide +kernel
theorem dX5_take_56 : decode cX5_take 56 = .ok (.invokestatic 107, 3) := by decide +kernel
theorem dX5_take_59 : decode cX5_take 59 = .ok (.return_, 1) := by decide +kernel
theorem dX6_init_0 : decode cX6_init 0 = .ok (.aload_n 0, 1) := by decide +kernel
theorem dX6_init_1 : decode cX6_init 1 = .ok (.invokespecial 3, 3) := by decide +kernel
theorem dX6_init_4 : decode cX6_init 4 = .ok (.aload_n 0, 1) := by decide +kernel
theorem dX6_init_5 : decode cX6_init 5 = .ok (.iconst 0, 1) := by decide +kernel
theorem dX6_init_6 : decode cX6_init 6 = .ok (.putfield 9, 3) := by decide +kernel
theorem dX6_init_9 : decode cX6_init 9 = .ok (.aload_n 0, 1) := by decide +kernel
theorem dX6_init_10 : decode cX6_init 10 = .ok (.bipush (-4), 2) := by decide +kernel
theorem dX6_init_12 : decode cX6_init 12 = .ok (.putfield 15, 3) := by decide +kernel
theorem dX6_init_15 : decode cX6_init 15 = .ok (.aload_n 0, 1) := by decide +kernel
theorem dX6_init_16 : decode cX6_init 16 = .ok (.iconst 0, 1) := by decide +kernel
theorem dX6_init_17 : decode cX6_init 17 = .ok (.putfield 18, 3) := by decide +kernel
theorem dX6_init_20 : decode cX6_init 20 = .ok (.aload_n 0, 1) := by decide +kernel
theorem dX6_init_21 : decode cX6_init 21 = .ok (.iconst 0, 1) := by decide +kernel
theorem dX6_init_22 : decode cX6_init 22 = .ok (.putfield 21, 3) := by decide +kernel
theorem dX6_init_25 : decode cX6_init 25 = .ok (.aload_n 0, 1) := by decide +kernel
theorem dX6_init_26 : decode cX6_init 26 = .ok (.iconst 0, 1) := by decide +kernel
theorem dX6_init_27 : decode cX6_init 27 = .ok (.putfield 24, 3) := by decide +kernel
theorem dX6_init_30 : decode cX6_init 30 = .ok (.return_, 1) := by decide +kernel
theorem dX7_clear_0 : decode cX7_clear 0 = .ok (.aload_n 0, 1) := by decide +kernel
theorem dX7_clear_1 : decode cX7_clear 1 = .ok (.iconst 0, 1) := by decide +kernel
theorem dX7_clear_2 : decode cX7_clear 2 = .ok (.putfield 13, 3) := by decide +kernel
theorem dX7_clear_5 : decode cX7_clear 5 = .ok (.aload_n 0, 1) := by decide +kernel
theorem dX7_clear_6 : decode cX7_clear 6 = .ok (.iconst 0, 1) := by decide +kernel
theorem dX7_clear_7 : decode cX7_clear 7 = .ok (.putfield 16, 3) := by decide +kernel
theorem dX7_clear_10 : decode cX7_clear 10 = .ok (.aload_n 0, 1) := by decide +kernel
theorem dX7_clear_11 : decode cX7_clear 11 = .ok (.iconst 0, 1) := by decide +kernel
theorem dX7_clear_12 : decode cX7_clear 12 = .ok (.putfield 19, 3) := by decide +kernel
theorem dX7_clear_15 : decode cX7_clear 15 = .ok (.aload_n 0, 1) := by decide +kernel
theorem dX7_clear_16 : decode cX7_clear 16 = .ok (.iconst 0, 1) := by decide +kernel
theorem dX7_clear_17 : decode cX7_clear 17 = .ok (.putfield 22, 3) := by decide +kernel
theorem dX7_clear_20 : decode cX7_clear 20 = .ok (.return_, 1) := by decide +kernel
theorem dX7_init_0 : decode cX7_init 0 = .ok (.aload_n 0, 1) := by decide +kernel
theorem dX7_init_1 : decode cX7_init 1 = .ok (.invokespecial 1, 3) := by decide +kernel
theorem dX7_init_4 : decode cX7_init 4 = .ok (.aload_n 0, 1) := by decide +kernel
theorem dX7_init_5 : decode cX7_init 5 = .ok (.iconst 0, 1) := by decide +kernel
theorem dX7_init_6 : decode cX7_init 6 = .ok (.putfield 7, 3) := by decide +kernel
theorem dX7_init_9 : decode cX7_init 9 = .ok (.aload_n 0, 1) := by decide +kernel
theorem dX7_init_10 : decode cX7_init 10 = .ok (.iconst 0, 1) := by decide +kernel
theorem dX7_init_11 : decode cX7_init 11 = .ok (.putfield 13, 3) := by decide +kernel
theorem dX7_init_14 : decode cX7_init 14 = .ok (.aload_n 0, 1) := by decide +kernel
theorem dX7_init_15 : decode cX7_init 15 = .ok (.iconst 0, 1) := by decide +kernel
theorem dX7_init_16 : decode cX7_init 16 = .ok (.putfield 16, 3) := by decide +kernel
theorem dX7_init_19 : decode cX7_init 19 = .ok (.aload_n 0, 1) := by decide +kernel
theorem dX7_init_20 : decode cX7_init 20 = .ok (.iconst 0, 1) := by decide +kernel
theorem dX7_init_21 : decode cX7_init 21 = .ok (.putfield 19, 3) := by decide +kernel
theorem dX7_init_24 : decode cX7_init 24 = .ok (.aload_n 0, 1) := by decide +kernel
theorem dX7_init_25 : decode cX7_init 25 = .ok (.iconst 0, 1) := by decide +kernel
theorem dX7_init_26 : decode cX7_init 26 = .ok (.putfield 22, 3) := by decide +kernel
theorem dX7_init_29 : decode cX7_init 29 = .ok (.aload_n 0, 1) := by decide +kernel
theorem dX7_init_30 : decode cX7_init 30 = .ok (.iconst 0, 1) := by decide +kernel
theorem dX7_init_31 : decode cX7_init 31 = .ok (.putfield 25, 3) := by decide +kernel
theorem dX7_init_34 : decode cX7_init 34 = .ok (.aload_n 0, 1) := by decide +kernel
theorem dX7_init_35 : decode cX7_init 35 = .ok (.iconst 0, 1) := by decide +kernel
theorem dX7_init_36 : decode cX7_init 36 = .ok (.putfield 28, 3) := by decide +kernel
theorem dX7_init_39 : decode cX7_init 39 = .ok (.aload_n 0, 1) := by decide +kernel
theorem dX7_init_40 : decode cX7_init 40 = .ok (.iconst 0, 1) := by decide +kernel
theorem dX7_init_41 : decode cX7_init 41 = .ok (.putfield 31, 3) := by decide +kernel
theorem dX7_init_44 : decode cX7_init 44 = .ok (.return_, 1) := by decide +kernel
theorem dX7_out_0 : decode cX7_out 0 = .ok (.aload_n 0, 1) := by decide +kernel
theorem dX7_out_1 : decode cX7_out 1 = .ok (.getfield 16, 3) := by decide +kernel
theorem dX7_out_4 : decode cX7_out 4 = .ok (.aload_n 0, 1) := by decide +kernel
theorem dX7_out_5 : decode cX7_out 5 = .ok (.getfield 13, 3) := by decide +kernel
theorem dX7_out_8 : decode cX7_out 8 = .ok (.isub, 1) := by decide +kernel
theorem dX7_out_9 : decode cX7_out 9 = .ok (.aload_n 0, 1) := by decide +kernel
theorem dX7_out_10 : decode cX7_out 10 = .ok (.getfield 7, 3) := by decide +kernel
theorem dX7_out_13 : decode cX7_out 13 = .ok (.iadd, 1) := by decide +kernel
theorem dX7_out_14 : decode cX7_out 14 = .ok (.ireturn, 1) := by decide +kernel
theorem dX8_init_0 : decode cX8_init 0 = .ok (.aload_n 0, 1) := by decide +kernel
theorem dX8_init_1 : decode cX8_init 1 = .ok (.invokespecial 3, 3) := by decide +kernel
theorem dX8_init_4 : decode cX8_init 4 = .ok (.aload_n 0, 1) := by decide +kernel
theorem dX8_init_5 : decode cX8_init 5 = .ok (.bipush 40, 2) := by decide +kernel
theorem dX8_init_7 : decode cX8_init 7 = .ok (.newarray .int, 2) := by decide +kernel
theorem dX8_init_9 : decode cX8_init 9 = .ok (.putfield 9, 3) := by decide +kernel
theorem dX8_init_12 : decode cX8_init 12 = .ok (.aload_n 0, 1) := by decide +kernel
theorem dX8_init_13 : decode cX8_init 13 = .ok (.iconst 0, 1) := by decide +kernel
theorem dX8_init_14 : decode cX8_init 14 = .ok (.putfield 15, 3) := by decide +kernel
theorem dX8_init_17 : decode cX8_init 17 = .ok (.aload_n 0, 1) := by decide +kernel
theorem dX8_init_18 : decode cX8_init 18 = .ok (.iconst (-1), 1) := by decide +kernel
theorem dX8_init_19 : decode cX8_init 19 = .ok (.putfield 19, 3) := by decide +kernel
theorem dX8_init_22 : decode cX8_init 22 = .ok (.return_, 1) := by decide +kernel
