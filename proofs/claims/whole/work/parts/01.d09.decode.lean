theorem dX8_put_0 : decode cX8_put 0 = .ok (.iload_n 1, 1) := by decide +kernel
theorem dX8_put_1 : decode cX8_put 1 = .ok (.ifCond .lt 17, 3) := by decide +kernel
theorem dX8_put_4 : decode cX8_put 4 = .ok (.iload_n 1, 1) := by decide +kernel
theorem dX8_put_5 : decode cX8_put 5 = .ok (.aload_n 0, 1) := by decide +kernel
theorem dX8_put_6 : decode cX8_put 6 = .ok (.getfield 19, 3) := by decide +kernel
theorem dX8_put_9 : decode cX8_put 9 = .ok (.if_icmp .ge 9, 3) := by decide +kernel
theorem dX8_put_12 : decode cX8_put 12 = .ok (.iload_n 1, 1) := by decide +kernel
theorem dX8_put_13 : decode cX8_put 13 = .ok (.bipush 40, 2) := by decide +kernel
theorem dX8_put_15 : decode cX8_put 15 = .ok (.if_icmp .lt 4, 3) := by decide +kernel
theorem dX8_put_18 : decode cX8_put 18 = .ok (.return_, 1) := by decide +kernel
theorem dX8_put_19 : decode cX8_put 19 = .ok (.aload_n 0, 1) := by decide +kernel
theorem dX8_put_20 : decode cX8_put 20 = .ok (.getfield 15, 3) := by decide +kernel
theorem dX8_put_23 : decode cX8_put 23 = .ok (.lookupswitch 47 #[(0, 25), (1, 36)], 25) := by decide +kernel
theorem dX8_put_48 : decode cX8_put 48 = .ok (.aload_n 0, 1) := by decide +kernel
theorem dX8_put_49 : decode cX8_put 49 = .ok (.getfield 9, 3) := by decide +kernel
theorem dX8_put_52 : decode cX8_put 52 = .ok (.iload_n 1, 1) := by decide +kernel
theorem dX8_put_53 : decode cX8_put 53 = .ok (.iload_n 2, 1) := by decide +kernel
theorem dX8_put_54 : decode cX8_put 54 = .ok (.i2b, 1) := by decide +kernel
theorem dX8_put_55 : decode cX8_put 55 = .ok (.iastore, 1) := by decide +kernel
theorem dX8_put_56 : decode cX8_put 56 = .ok (.goto 21, 3) := by decide +kernel
theorem dX8_put_59 : decode cX8_put 59 = .ok (.aload_n 0, 1) := by decide +kernel
theorem dX8_put_60 : decode cX8_put 60 = .ok (.getfield 9, 3) := by decide +kernel
theorem dX8_put_63 : decode cX8_put 63 = .ok (.iload_n 1, 1) := by decide +kernel
theorem dX8_put_64 : decode cX8_put 64 = .ok (.iload_n 2, 1) := by decide +kernel
theorem dX8_put_65 : decode cX8_put 65 = .ok (.i2s, 1) := by decide +kernel
theorem dX8_put_66 : decode cX8_put 66 = .ok (.iastore, 1) := by decide +kernel
theorem dX8_put_67 : decode cX8_put 67 = .ok (.goto 10, 3) := by decide +kernel
theorem dX8_put_70 : decode cX8_put 70 = .ok (.aload_n 0, 1) := by decide +kernel
theorem dX8_put_71 : decode cX8_put 71 = .ok (.getfield 9, 3) := by decide +kernel
theorem dX8_put_74 : decode cX8_put 74 = .ok (.iload_n 1, 1) := by decide +kernel
theorem dX8_put_75 : decode cX8_put 75 = .ok (.iload_n 2, 1) := by decide +kernel
theorem dX8_put_76 : decode cX8_put 76 = .ok (.iastore, 1) := by decide +kernel
theorem dX8_put_77 : decode cX8_put 77 = .ok (.return_, 1) := by decide +kernel
theorem dX8_refusal_0 : decode cX8_refusal 0 = .ok (.aload_n 0, 1) := by decide +kernel
theorem dX8_refusal_1 : decode cX8_refusal 1 = .ok (.getfield 19, 3) := by decide +kernel
theorem dX8_refusal_4 : decode cX8_refusal 4 = .ok (.ifCond .ge 5, 3) := by decide +kernel
theorem dX8_refusal_7 : decode cX8_refusal 7 = .ok (.iconst 1, 1) := by decide +kernel
theorem dX8_refusal_8 : decode cX8_refusal 8 = .ok (.ireturn, 1) := by decide +kernel
theorem dX8_refusal_9 : decode cX8_refusal 9 = .ok (.iload_n 1, 1) := by decide +kernel
theorem dX8_refusal_10 : decode cX8_refusal 10 = .ok (.aload_n 0, 1) := by decide +kernel
theorem dX8_refusal_11 : decode cX8_refusal 11 = .ok (.getfield 15, 3) := by decide +kernel
theorem dX8_refusal_14 : decode cX8_refusal 14 = .ok (.if_icmp .eq 5, 3) := by decide +kernel
theorem dX8_refusal_17 : decode cX8_refusal 17 = .ok (.iconst 3, 1) := by decide +kernel
theorem dX8_refusal_18 : decode cX8_refusal 18 = .ok (.ireturn, 1) := by decide +kernel
theorem dX8_refusal_19 : decode cX8_refusal 19 = .ok (.iload_n 2, 1) := by decide +kernel
theorem dX8_refusal_20 : decode cX8_refusal 20 = .ok (.ifCond .lt 11, 3) := by decide +kernel
theorem dX8_refusal_23 : decode cX8_refusal 23 = .ok (.iload_n 2, 1) := by decide +kernel
theorem dX8_refusal_24 : decode cX8_refusal 24 = .ok (.aload_n 0, 1) := by decide +kernel
theorem dX8_refusal_25 : decode cX8_refusal 25 = .ok (.getfield 19, 3) := by decide +kernel
theorem dX8_refusal_28 : decode cX8_refusal 28 = .ok (.if_icmp .lt 7, 3) := by decide +kernel
theorem dX8_refusal_31 : decode cX8_refusal 31 = .ok (.iconst 2, 1) := by decide +kernel
theorem dX8_refusal_32 : decode cX8_refusal 32 = .ok (.goto 4, 3) := by decide +kernel
theorem dX8_refusal_35 : decode cX8_refusal 35 = .ok (.iconst 0, 1) := by decide +kernel
theorem dX8_refusal_36 : decode cX8_refusal 36 = .ok (.ireturn, 1) := by decide +kernel
theorem dX8_renew_0 : decode cX8_renew 0 = .ok (.aload_n 0, 1) := by decide +kernel
theorem dX8_renew_1 : decode cX8_renew 1 = .ok (.iload_n 1, 1) := by decide +kernel
theorem dX8_renew_2 : decode cX8_renew 2 = .ok (.putfield 15, 3) := by decide +kernel
theorem dX8_renew_5 : decode cX8_renew 5 = .ok (.aload_n 0, 1) := by decide +kernel
theorem dX8_renew_6 : decode cX8_renew 6 = .ok (.iload_n 2, 1) := by decide +kernel
theorem dX8_renew_7 : decode cX8_renew 7 = .ok (.putfield 19, 3) := by decide +kernel
theorem dX8_renew_10 : decode cX8_renew 10 = .ok (.aload_n 0, 1) := by decide +kernel
theorem dX8_renew_11 : decode cX8_renew 11 = .ok (.getfield 9, 3) := by decide +kernel
theorem dX8_renew_14 : decode cX8_renew 14 = .ok (.iconst 0, 1) := by decide +kernel
theorem dX8_renew_15 : decode cX8_renew 15 = .ok (.invokestatic 22, 3) := by decide +kernel
theorem dX8_renew_18 : decode cX8_renew 18 = .ok (.return_, 1) := by decide +kernel
theorem dX9_init_0 : decode cX9_init 0 = .ok (.aload_n 0, 1) := by decide +kernel
theorem dX9_init_1 : decode cX9_init 1 = .ok (.invokespecial 3, 3) := by decide +kernel
theorem dX9_init_4 : decode cX9_init 4 = .ok (.aload_n 0, 1) := by decide +kernel
theorem dX9_init_5 : decode cX9_init 5 = .ok (.new 9, 3) := by decide +kernel
theorem dX9_init_8 : decode cX9_init 8 = .ok (.dup, 1) := by decide +kernel
theorem dX9_init_9 : decode cX9_init 9 = .ok (.invokespecial 11, 3) := by decide +kernel
theorem dX9_init_12 : decode cX9_init 12 = .ok (.putfield 12, 3) := by decide +kernel
theorem dX9_init_15 : decode cX9_init 15 = .ok (.aload_n 0, 1) := by decide +kernel
theorem dX9_init_16 : decode cX9_init 16 = .ok (.iconst 0, 1) := by decide +kernel
theorem dX9_init_17 : decode cX9_init 17 = .ok (.putfield 18, 3) := by decide +kernel
theorem dX9_init_20 : decode cX9_init 20 = .ok (.aload_n 0, 1) := by decide +kernel
theorem dX9_init_21 : decode cX9_init 21 = .ok (.iconst 0, 1) := by decide +kernel
theorem dX9_init_22 : decode cX9_init 22 = .ok (.putfield 22, 3) := by decide +kernel
theorem dX9_init_25 : decode cX9_init 25 = .ok (.aload_n 0, 1) := by decide +kernel
theorem dX9_init_26 : decode cX9_init 26 = .ok (.iconst 0, 1) := by decide +kernel
theorem dX9_init_27 : decode cX9_init 27 = .ok (.putfield 25, 3) := by decide +kernel
theorem dX9_init_30 : decode cX9_init 30 = .ok (.aload_n 0, 1) := by decide +kernel
theorem dX9_init_31 : decode cX9_init 31 = .ok (.aload_n 1, 1) := by decide +kernel
theorem dX9_init_32 : decode cX9_init 32 = .ok (.putfield 29, 3) := by decide +kernel
theorem dX9_init_35 : decode cX9_init 35 = .ok (.return_, 1) := by decide +kernel
theorem dX9_misplaced_0 : decode cX9_misplaced 0 = .ok (.aload_n 0, 1) := by decide +kernel
theorem dX9_misplaced_1 : decode cX9_misplaced 1 = .ok (.aload_n 0, 1) := by decide +kernel
theorem dX9_misplaced_2 : decode cX9_misplaced 2 = .ok (.getfield 29, 3) := by decide +kernel
theorem dX9_misplaced_5 : decode cX9_misplaced 5 = .ok (.getfield 44, 3) := by decide +kernel
theorem dX9_misplaced_8 : decode cX9_misplaced 8 = .ok (.iconst 4, 1) := by decide +kernel
theorem dX9_misplaced_9 : decode cX9_misplaced 9 = .ok (.if_icmp .ne 7, 3) := by decide +kernel
theorem dX9_misplaced_12 : decode cX9_misplaced 12 = .ok (.iconst 1, 1) := by decide +kernel
theorem dX9_misplaced_13 : decode cX9_misplaced 13 = .ok (.goto 4, 3) := by decide +kernel
theorem dX9_misplaced_16 : decode cX9_misplaced 16 = .ok (.iconst 2, 1) := by decide +kernel
theorem dX9_misplaced_17 : decode cX9_misplaced 17 = .ok (.invokevirtual 75, 3) := by decide +kernel
theorem dX9_misplaced_20 : decode cX9_misplaced 20 = .ok (.ireturn, 1) := by decide +kernel
theorem dX9_readBegin_0 : decode cX9_readBegin 0 = .ok (.aload_n 0, 1) := by decide +kernel
theorem dX9_readBegin_1 : decode cX9_readBegin 1 = .ok (.getfield 25, 3) := by decide +kernel
theorem dX9_readBegin_4 : decode cX9_readBegin 4 = .ok (.ifCond .eq 9, 3) := by decide +kernel
theorem dX9_readBegin_7 : decode cX9_readBegin 7 = .ok (.aload_n 0, 1) := by decide +kernel
theorem dX9_readBegin_8 : decode cX9_readBegin 8 = .ok (.iconst 4, 1) := by decide +kernel
theorem dX9_readBegin_9 : decode cX9_readBegin 9 = .ok (.invokevirtual 75, 3) := by decide +kernel
theorem dX9_readBegin_12 : decode cX9_readBegin 12 = .ok (.ireturn, 1) := by decide +kernel
theorem dX9_readBegin_13 : decode cX9_readBegin 13 = .ok (.aload_n 0, 1) := by decide +kernel
theorem dX9_readBegin_14 : decode cX9_readBegin 14 = .ok (.iconst 1, 1) := by decide +kernel
theorem dX9_readBegin_15 : decode cX9_readBegin 15 = .ok (.putfield 25, 3) := by decide +kernel
theorem dX9_readBegin_18 : decode cX9_readBegin 18 = .ok (.aload_n 0, 1) := by decide +kernel
theorem dX9_readBegin_19 : decode cX9_readBegin 19 = .ok (.iconst 1, 1) := by decide +kernel
theorem dX9_readBegin_20 : decode cX9_readBegin 20 = .ok (.bipush 8, 2) := by decide +kernel
theorem dX9_readBegin_22 : decode cX9_readBegin 22 = .ok (.invokevirtual 93, 3) := by decide +kernel
theorem dX9_readBegin_25 : decode cX9_readBegin 25 = .ok (.ifCond .ne 5, 3) := by decide +kernel
theorem dX9_readBegin_28 : decode cX9_readBegin 28 = .ok (.iconst 0, 1) := by decide +kernel
theorem dX9_readBegin_29 : decode cX9_readBegin 29 = .ok (.ireturn, 1) := by decide +kernel
theorem dX9_readBegin_30 : decode cX9_readBegin 30 = .ok (.aload_n 0, 1) := by decide +kernel
theorem dX9_readBegin_31 : decode cX9_readBegin 31 = .ok (.getfield 12, 3) := by decide +kernel
theorem dX9_readBegin_34 : decode cX9_readBegin 34 = .ok (.aload_n 0, 1) := by decide +kernel
theorem dX9_readBegin_35 : decode cX9_readBegin 35 = .ok (.getfield 29, 3) := by decide +kernel
theorem dX9_readBegin_38 : decode cX9_readBegin 38 = .ok (.getfield 97, 3) := by decide +kernel
theorem dX9_readBegin_41 : decode cX9_readBegin 41 = .ok (.putfield 109, 3) := by decide +kernel
theorem dX9_readBegin_44 : decode cX9_readBegin 44 = .ok (.aload_n 0, 1) := by decide +kernel
theorem dX9_readBegin_45 : decode cX9_readBegin 45 = .ok (.getfield 29, 3) := by decide +kernel
theorem dX9_readBegin_48 : decode cX9_readBegin 48 = .ok (.invokevirtual 41, 3) := by decide +kernel
theorem dX9_readBegin_51 : decode cX9_readBegin 51 = .ok (.aload_n 0, 1) := by decide +kernel
theorem dX9_readBegin_52 : decode cX9_readBegin 52 = .ok (.getfield 29, 3) := by decide +kernel
theorem dX9_readBegin_55 : decode cX9_readBegin 55 = .ok (.getfield 44, 3) := by decide +kernel
theorem dX9_readBegin_58 : decode cX9_readBegin 58 = .ok (.iconst 3, 1) := by decide +kernel
theorem dX9_readBegin_59 : decode cX9_readBegin 59 = .ok (.if_icmp .eq 10, 3) := by decide +kernel
theorem dX9_readBegin_62 : decode cX9_readBegin 62 = .ok (.aload_n 0, 1) := by decide +kernel
theorem dX9_readBegin_63 : decode cX9_readBegin 63 = .ok (.invokevirtual 72, 3) := by decide +kernel
theorem dX9_readBegin_66 : decode cX9_readBegin 66 = .ok (.ifCond .eq 7, 3) := by decide +kernel
theorem dX9_readBegin_69 : decode cX9_readBegin 69 = .ok (.iconst 1, 1) := by decide +kernel
theorem dX9_readBegin_70 : decode cX9_readBegin 70 = .ok (.goto 4, 3) := by decide +kernel
theorem dX9_readBegin_73 : decode cX9_readBegin 73 = .ok (.iconst 0, 1) := by decide +kernel
theorem dX9_readBegin_74 : decode cX9_readBegin 74 = .ok (.ireturn, 1) := by decide +kernel
theorem dX9_readLine_0 : decode cX9_readLine 0 = .ok (.aload_n 0, 1) := by decide +kernel
theorem dX9_readLine_1 : decode cX9_readLine 1 = .ok (.getfield 29, 3) := by decide +kernel
theorem dX9_readLine_4 : decode cX9_readLine 4 = .ok (.ldc 51, 2) := by decide +kernel
theorem dX9_readLine_6 : decode cX9_readLine 6 = .ok (.invokevirtual 53, 3) := by decide +kernel
theorem dX9_readLine_9 : decode cX9_readLine 9 = .ok (.ifCond .eq 32, 3) := by decide +kernel
theorem dX9_readLine_12 : decode cX9_readLine 12 = .ok (.aload_n 0, 1) := by decide +kernel
theorem dX9_readLine_13 : decode cX9_readLine 13 = .ok (.invokevirtual 57, 3) := by decide +kernel
theorem dX9_readLine_16 : decode cX9_readLine 16 = .ok (.ifCond .eq 23, 3) := by decide +kernel
theorem dX9_readLine_19 : decode cX9_readLine 19 = .ok (.aload_n 0, 1) := by decide +kernel
theorem dX9_readLine_20 : decode cX9_readLine 20 = .ok (.aload_n 0, 1) := by decide +kernel
theorem dX9_readLine_21 : decode cX9_readLine 21 = .ok (.getfield 12, 3) := by decide +kernel
theorem dX9_readLine_24 : decode cX9_readLine 24 = .ok (.getfield 60, 3) := by decide +kernel
theorem dX9_readLine_27 : decode cX9_readLine 27 = .ok (.iconst 1, 1) := by decide +kernel
theorem dX9_readLine_28 : decode cX9_readLine 28 = .ok (.isub, 1) := by decide +kernel
theorem dX9_readLine_29 : decode cX9_readLine 29 = .ok (.invokevirtual 63, 3) := by decide +kernel
theorem dX9_readLine_32 : decode cX9_readLine 32 = .ok (.ifCond .eq 7, 3) := by decide +kernel
theorem dX9_readLine_35 : decode cX9_readLine 35 = .ok (.iconst 1, 1) := by decide +kernel
theorem dX9_readLine_36 : decode cX9_readLine 36 = .ok (.goto 4, 3) := by decide +kernel
theorem dX9_readLine_39 : decode cX9_readLine 39 = .ok (.iconst 0, 1) := by decide +kernel
theorem dX9_readLine_40 : decode cX9_readLine 40 = .ok (.ireturn, 1) := by decide +kernel
theorem dX9_readLine_41 : decode cX9_readLine 41 = .ok (.aload_n 0, 1) := by decide +kernel
theorem dX9_readLine_42 : decode cX9_readLine 42 = .ok (.getfield 29, 3) := by decide +kernel
theorem dX9_readLine_45 : decode cX9_readLine 45 = .ok (.ldc 67, 2) := by decide +kernel
theorem dX9_readLine_47 : decode cX9_readLine 47 = .ok (.invokevirtual 53, 3) := by decide +kernel
theorem dX9_readLine_50 : decode cX9_readLine 50 = .ok (.ifCond .eq 8, 3) := by decide +kernel
theorem dX9_readLine_53 : decode cX9_readLine 53 = .ok (.aload_n 0, 1) := by decide +kernel
theorem dX9_readLine_54 : decode cX9_readLine 54 = .ok (.invokevirtual 69, 3) := by decide +kernel
theorem dX9_readLine_57 : decode cX9_readLine 57 = .ok (.ireturn, 1) := by decide +kernel
theorem dX9_readLine_58 : decode cX9_readLine 58 = .ok (.aload_n 0, 1) := by decide +kernel
theorem dX9_readLine_59 : decode cX9_readLine 59 = .ok (.invokevirtual 72, 3) := by decide +kernel
theorem dX9_readLine_62 : decode cX9_readLine 62 = .ok (.ireturn, 1) := by decide +kernel
theorem dX9_readLines_0 : decode cX9_readLines 0 = .ok (.aload_n 0, 1) := by decide +kernel
theorem dX9_readLines_1 : decode cX9_readLines 1 = .ok (.getfield 12, 3) := by decide +kernel
theorem dX9_readLines_4 : decode cX9_readLines 4 = .ok (.invokevirtual 33, 3) := by decide +kernel
theorem dX9_readLines_7 : decode cX9_readLines 7 = .ok (.aload_n 0, 1) := by decide +kernel
theorem dX9_readLines_8 : decode cX9_readLines 8 = .ok (.iconst 0, 1) := by decide +kernel
theorem dX9_readLines_9 : decode cX9_readLines 9 = .ok (.putfield 18, 3) := by decide +kernel
theorem dX9_readLines_12 : decode cX9_readLines 12 = .ok (.aload_n 0, 1) := by decide +kernel
theorem dX9_readLines_13 : decode cX9_readLines 13 = .ok (.iconst 0, 1) := by decide +kernel
theorem dX9_readLines_14 : decode cX9_readLines 14 = .ok (.putfield 25, 3) := by decide +kernel
theorem dX9_readLines_17 : decode cX9_readLines 17 = .ok (.aload_n 0, 1) := by decide +kernel
theorem dX9_readLines_18 : decode cX9_readLines 18 = .ok (.getfield 29, 3) := by decide +kernel
theorem dX9_readLines_21 : decode cX9_readLines 21 = .ok (.iconst 0, 1) := by decide +kernel
theorem dX9_readLines_22 : decode cX9_readLines 22 = .ok (.putfield 36, 3) := by decide +kernel
theorem dX9_readLines_25 : decode cX9_readLines 25 = .ok (.aload_n 0, 1) := by decide +kernel
theorem dX9_readLines_26 : decode cX9_readLines 26 = .ok (.getfield 29, 3) := by decide +kernel
theorem dX9_readLines_29 : decode cX9_readLines 29 = .ok (.invokevirtual 41, 3) := by decide +kernel
theorem dX9_readLines_32 : decode cX9_readLines 32 = .ok (.iconst 0, 1) := by decide +kernel
theorem dX9_readLines_33 : decode cX9_readLines 33 = .ok (.istore_n 1, 1) := by decide +kernel
theorem dX9_readLines_34 : decode cX9_readLines 34 = .ok (.iload_n 1, 1) := by decide +kernel
theorem dX9_readLines_35 : decode cX9_readLines 35 = .ok (.sipush 320, 3) := by decide +kernel
theorem dX9_readLines_38 : decode cX9_readLines 38 = .ok (.if_icmp .ge 33, 3) := by decide +kernel
theorem dX9_readLines_41 : decode cX9_readLines 41 = .ok (.aload_n 0, 1) := by decide +kernel
theorem dX9_readLines_42 : decode cX9_readLines 42 = .ok (.getfield 29, 3) := by decide +kernel
theorem dX9_readLines_45 : decode cX9_readLines 45 = .ok (.getfield 44, 3) := by decide +kernel
theorem dX9_readLines_48 : decode cX9_readLines 48 = .ok (.ifCond .eq 23, 3) := by decide +kernel
theorem dX9_readLines_51 : decode cX9_readLines 51 = .ok (.aload_n 0, 1) := by decide +kernel
theorem dX9_readLines_52 : decode cX9_readLines 52 = .ok (.invokevirtual 47, 3) := by decide +kernel
theorem dX9_readLines_55 : decode cX9_readLines 55 = .ok (.ifCond .eq 16, 3) := by decide +kernel
theorem dX9_readLines_58 : decode cX9_readLines 58 = .ok (.iinc 1 1, 3) := by decide +kernel
theorem dX9_readLines_61 : decode cX9_readLines 61 = .ok (.aload_n 0, 1) := by decide +kernel
theorem dX9_readLines_62 : decode cX9_readLines 62 = .ok (.getfield 29, 3) := by decide +kernel
theorem dX9_readLines_65 : decode cX9_readLines 65 = .ok (.invokevirtual 41, 3) := by decide +kernel
theorem dX9_readLines_68 : decode cX9_readLines 68 = .ok (.goto (-34), 3) := by decide +kernel
theorem dX9_readLines_71 : decode cX9_readLines 71 = .ok (.iload_n 1, 1) := by decide +kernel
theorem dX9_readLines_72 : decode cX9_readLines 72 = .ok (.ireturn, 1) := by decide +kernel
theorem dX9_readNumber_0 : decode cX9_readNumber 0 = .ok (.aload_n 0, 1) := by decide +kernel
theorem dX9_readNumber_1 : decode cX9_readNumber 1 = .ok (.getfield 29, 3) := by decide +kernel
theorem dX9_readNumber_4 : decode cX9_readNumber 4 = .ok (.invokevirtual 41, 3) := by decide +kernel
theorem dX9_readNumber_7 : decode cX9_readNumber 7 = .ok (.aload_n 0, 1) := by decide +kernel
theorem dX9_readNumber_8 : decode cX9_readNumber 8 = .ok (.getfield 29, 3) := by decide +kernel
theorem dX9_readNumber_11 : decode cX9_readNumber 11 = .ok (.getfield 44, 3) := by decide +kernel
theorem dX9_readNumber_14 : decode cX9_readNumber 14 = .ok (.iconst 2, 1) := by decide +kernel
theorem dX9_readNumber_15 : decode cX9_readNumber 15 = .ok (.if_icmp .eq 8, 3) := by decide +kernel
theorem dX9_readNumber_18 : decode cX9_readNumber 18 = .ok (.aload_n 0, 1) := by decide +kernel
theorem dX9_readNumber_19 : decode cX9_readNumber 19 = .ok (.invokevirtual 72, 3) := by decide +kernel
theorem dX9_readNumber_22 : decode cX9_readNumber 22 = .ok (.ireturn, 1) := by decide +kernel
theorem dX9_readNumber_23 : decode cX9_readNumber 23 = .ok (.aload_n 0, 1) := by decide +kernel
theorem dX9_readNumber_24 : decode cX9_readNumber 24 = .ok (.getfield 29, 3) := by decide +kernel
theorem dX9_readNumber_27 : decode cX9_readNumber 27 = .ok (.getfield 97, 3) := by decide +kernel
theorem dX9_readNumber_30 : decode cX9_readNumber 30 = .ok (.iload_n 1, 1) := by decide +kernel
theorem dX9_readNumber_31 : decode cX9_readNumber 31 = .ok (.if_icmp .lt 14, 3) := by decide +kernel
theorem dX9_readNumber_34 : decode cX9_readNumber 34 = .ok (.aload_n 0, 1) := by decide +kernel
theorem dX9_readNumber_35 : decode cX9_readNumber 35 = .ok (.getfield 29, 3) := by decide +kernel
theorem dX9_readNumber_38 : decode cX9_readNumber 38 = .ok (.getfield 97, 3) := by decide +kernel
theorem dX9_readNumber_41 : decode cX9_readNumber 41 = .ok (.iload_n 2, 1) := by decide +kernel
theorem dX9_readNumber_42 : decode cX9_readNumber 42 = .ok (.if_icmp .le 11, 3) := by decide +kernel
theorem dX9_readNumber_45 : decode cX9_readNumber 45 = .ok (.aload_n 0, 1) := by decide +kernel
theorem dX9_readNumber_46 : decode cX9_readNumber 46 = .ok (.iconst 3, 1) := by decide +kernel
theorem dX9_readNumber_47 : decode cX9_readNumber 47 = .ok (.invokevirtual 75, 3) := by decide +kernel
theorem dX9_readNumber_50 : decode cX9_readNumber 50 = .ok (.ifCond .eq 7, 3) := by decide +kernel
theorem dX9_readNumber_53 : decode cX9_readNumber 53 = .ok (.iconst 1, 1) := by decide +kernel
theorem dX9_readNumber_54 : decode cX9_readNumber 54 = .ok (.goto 4, 3) := by decide +kernel
theorem dX9_readNumber_57 : decode cX9_readNumber 57 = .ok (.iconst 0, 1) := by decide +kernel
theorem dX9_readNumber_58 : decode cX9_readNumber 58 = .ok (.ireturn, 1) := by decide +kernel
theorem dX9_readOne_0 : decode cX9_readOne 0 = .ok (.aload_n 0, 1) := by decide +kernel
theorem dX9_readOne_1 : decode cX9_readOne 1 = .ok (.getfield 12, 3) := by decide +kernel
theorem dX9_readOne_4 : decode cX9_readOne 4 = .ok (.getfield 60, 3) := by decide +kernel
theorem dX9_readOne_7 : decode cX9_readOne 7 = .ok (.bipush 8, 2) := by decide +kernel
theorem dX9_readOne_9 : decode cX9_readOne 9 = .ok (.if_icmp .lt 9, 3) := by decide +kernel
theorem dX9_readOne_12 : decode cX9_readOne 12 = .ok (.aload_n 0, 1) := by decide +kernel
theorem dX9_readOne_13 : decode cX9_readOne 13 = .ok (.iconst 5, 1) := by decide +kernel
theorem dX9_readOne_14 : decode cX9_readOne 14 = .ok (.invokevirtual 75, 3) := by decide +kernel
theorem dX9_readOne_17 : decode cX9_readOne 17 = .ok (.ireturn, 1) := by decide +kernel
theorem dX9_readOne_18 : decode cX9_readOne 18 = .ok (.aload_n 0, 1) := by decide +kernel
theorem dX9_readOne_19 : decode cX9_readOne 19 = .ok (.getfield 12, 3) := by decide +kernel
theorem dX9_readOne_22 : decode cX9_readOne 22 = .ok (.invokevirtual 78, 3) := by decide +kernel
theorem dX9_readOne_25 : decode cX9_readOne 25 = .ok (.istore_n 1, 1) := by decide +kernel
theorem dX9_readOne_26 : decode cX9_readOne 26 = .ok (.iconst 0, 1) := by decide +kernel
theorem dX9_readOne_27 : decode cX9_readOne 27 = .ok (.istore_n 2, 1) := by decide +kernel
theorem dX9_readOne_28 : decode cX9_readOne 28 = .ok (.iload_n 2, 1) := by decide +kernel
theorem dX9_readOne_29 : decode cX9_readOne 29 = .ok (.iconst 3, 1) := by decide +kernel
theorem dX9_readOne_30 : decode cX9_readOne 30 = .ok (.if_icmp .gt 69, 3) := by decide +kernel
theorem dX9_readOne_33 : decode cX9_readOne 33 = .ok (.iload_n 2, 1) := by decide +kernel
theorem dX9_readOne_34 : decode cX9_readOne 34 = .ok (.iconst 1, 1) := by decide +kernel
theorem dX9_readOne_35 : decode cX9_readOne 35 = .ok (.if_icmp .ne 19, 3) := by decide +kernel
theorem dX9_readOne_38 : decode cX9_readOne 38 = .ok (.aload_n 0, 1) := by decide +kernel
theorem dX9_readOne_39 : decode cX9_readOne 39 = .ok (.getfield 12, 3) := by decide +kernel
theorem dX9_readOne_42 : decode cX9_readOne 42 = .ok (.getfield 82, 3) := by decide +kernel
theorem dX9_readOne_45 : decode cX9_readOne 45 = .ok (.iconst 0, 1) := by decide +kernel
theorem dX9_readOne_46 : decode cX9_readOne 46 = .ok (.aaload, 1) := by decide +kernel
theorem dX9_readOne_47 : decode cX9_readOne 47 = .ok (.iload_n 1, 1) := by decide +kernel
theorem dX9_readOne_48 : decode cX9_readOne 48 = .ok (.iaload, 1) := by decide +kernel
theorem dX9_readOne_49 : decode cX9_readOne 49 = .ok (.iconst 1, 1) := by decide +kernel
theorem dX9_readOne_50 : decode cX9_readOne 50 = .ok (.iadd, 1) := by decide +kernel
theorem dX9_readOne_51 : decode cX9_readOne 51 = .ok (.goto 8, 3) := by decide +kernel
theorem dX9_readOne_54 : decode cX9_readOne 54 = .ok (.getstatic 86, 3) := by decide +kernel
theorem dX9_readOne_57 : decode cX9_readOne 57 = .ok (.iload_n 2, 1) := by decide +kernel
theorem dX9_readOne_58 : decode cX9_readOne 58 = .ok (.iaload, 1) := by decide +kernel
theorem dX9_readOne_59 : decode cX9_readOne 59 = .ok (.istore_n 3, 1) := by decide +kernel
theorem dX9_readOne_60 : decode cX9_readOne 60 = .ok (.aload_n 0, 1) := by decide +kernel
theorem dX9_readOne_61 : decode cX9_readOne 61 = .ok (.iload_n 3, 1) := by decide +kernel
theorem dX9_readOne_62 : decode cX9_readOne 62 = .ok (.getstatic 90, 3) := by decide +kernel
theorem dX9_readOne_65 : decode cX9_readOne 65 = .ok (.iload_n 2, 1) := by decide +kernel
theorem dX9_readOne_66 : decode cX9_readOne 66 = .ok (.iaload, 1) := by decide +kernel
theorem dX9_readOne_67 : decode cX9_readOne 67 = .ok (.invokevirtual 93, 3) := by decide +kernel
theorem dX9_readOne_70 : decode cX9_readOne 70 = .ok (.ifCond .ne 5, 3) := by decide +kernel
theorem dX9_readOne_73 : decode cX9_readOne 73 = .ok (.iconst 0, 1) := by decide +kernel
theorem dX9_readOne_74 : decode cX9_readOne 74 = .ok (.ireturn, 1) := by decide +kernel
theorem dX9_readOne_75 : decode cX9_readOne 75 = .ok (.aload_n 0, 1) := by decide +kernel
theorem dX9_readOne_76 : decode cX9_readOne 76 = .ok (.getfield 12, 3) := by decide +kernel
theorem dX9_readOne_79 : decode cX9_readOne 79 = .ok (.getfield 82, 3) := by decide +kernel
theorem dX9_readOne_82 : decode cX9_readOne 82 = .ok (.iload_n 2, 1) := by decide +kernel
theorem dX9_readOne_83 : decode cX9_readOne 83 = .ok (.aaload, 1) := by decide +kernel
theorem dX9_readOne_84 : decode cX9_readOne 84 = .ok (.iload_n 1, 1) := by decide +kernel
theorem dX9_readOne_85 : decode cX9_readOne 85 = .ok (.aload_n 0, 1) := by decide +kernel
theorem dX9_readOne_86 : decode cX9_readOne 86 = .ok (.getfield 29, 3) := by decide +kernel
theorem dX9_readOne_89 : decode cX9_readOne 89 = .ok (.getfield 97, 3) := by decide +kernel
theorem dX9_readOne_92 : decode cX9_readOne 92 = .ok (.iastore, 1) := by decide +kernel
theorem dX9_readOne_93 : decode cX9_readOne 93 = .ok (.iinc 2 1, 3) := by decide +kernel
theorem dX9_readOne_96 : decode cX9_readOne 96 = .ok (.goto (-68), 3) := by decide +kernel
theorem dX9_readOne_99 : decode cX9_readOne 99 = .ok (.iconst 1, 1) := by decide +kernel
theorem dX9_readOne_100 : decode cX9_readOne 100 = .ok (.ireturn, 1) := by decide +kernel
theorem dX9_readWiths_0 : decode cX9_readWiths 0 = .ok (.iconst 0, 1) := by decide +kernel
theorem dX9_readWiths_1 : decode cX9_readWiths 1 = .ok (.istore_n 2, 1) := by decide +kernel
theorem dX9_readWiths_2 : decode cX9_readWiths 2 = .ok (.iconst 0, 1) := by decide +kernel
theorem dX9_readWiths_3 : decode cX9_readWiths 3 = .ok (.istore_n 3, 1) := by decide +kernel
theorem dX9_readWiths_4 : decode cX9_readWiths 4 = .ok (.iload_n 3, 1) := by decide +kernel
theorem dX9_readWiths_5 : decode cX9_readWiths 5 = .ok (.sipush 320, 3) := by decide +kernel
theorem dX9_readWiths_8 : decode cX9_readWiths 8 = .ok (.if_icmp .ge 127, 3) := by decide +kernel
theorem dX9_readWiths_11 : decode cX9_readWiths 11 = .ok (.aload_n 0, 1) := by decide +kernel
theorem dX9_readWiths_12 : decode cX9_readWiths 12 = .ok (.getfield 29, 3) := by decide +kernel
theorem dX9_readWiths_15 : decode cX9_readWiths 15 = .ok (.invokevirtual 41, 3) := by decide +kernel
theorem dX9_readWiths_18 : decode cX9_readWiths 18 = .ok (.aload_n 0, 1) := by decide +kernel
theorem dX9_readWiths_19 : decode cX9_readWiths 19 = .ok (.getfield 29, 3) := by decide +kernel
theorem dX9_readWiths_22 : decode cX9_readWiths 22 = .ok (.getfield 44, 3) := by decide +kernel
theorem dX9_readWiths_25 : decode cX9_readWiths 25 = .ok (.iconst 3, 1) := by decide +kernel
theorem dX9_readWiths_26 : decode cX9_readWiths 26 = .ok (.if_icmp .ne 5, 3) := by decide +kernel
theorem dX9_readWiths_29 : decode cX9_readWiths 29 = .ok (.iconst 1, 1) := by decide +kernel
theorem dX9_readWiths_30 : decode cX9_readWiths 30 = .ok (.ireturn, 1) := by decide +kernel
theorem dX9_readWiths_31 : decode cX9_readWiths 31 = .ok (.aload_n 0, 1) := by decide +kernel
theorem dX9_readWiths_32 : decode cX9_readWiths 32 = .ok (.invokevirtual 100, 3) := by decide +kernel
theorem dX9_readWiths_35 : decode cX9_readWiths 35 = .ok (.istore 4, 2) := by decide +kernel
theorem dX9_readWiths_37 : decode cX9_readWiths 37 = .ok (.iload 4, 2) := by decide +kernel
theorem dX9_readWiths_39 : decode cX9_readWiths 39 = .ok (.bipush (-4), 2) := by decide +kernel
theorem dX9_readWiths_41 : decode cX9_readWiths 41 = .ok (.if_icmp .ne 8, 3) := by decide +kernel
theorem dX9_readWiths_44 : decode cX9_readWiths 44 = .ok (.aload_n 0, 1) := by decide +kernel
theorem dX9_readWiths_45 : decode cX9_readWiths 45 = .ok (.invokevirtual 72, 3) := by decide +kernel
theorem dX9_readWiths_48 : decode cX9_readWiths 48 = .ok (.ireturn, 1) := by decide +kernel
theorem dX9_readWiths_49 : decode cX9_readWiths 49 = .ok (.iload_n 2, 1) := by decide +kernel
theorem dX9_readWiths_50 : decode cX9_readWiths 50 = .ok (.iload 4, 2) := by decide +kernel
theorem dX9_readWiths_52 : decode cX9_readWiths 52 = .ok (.ishr, 1) := by decide +kernel
theorem dX9_readWiths_53 : decode cX9_readWiths 53 = .ok (.iconst 1, 1) := by decide +kernel
theorem dX9_readWiths_54 : decode cX9_readWiths 54 = .ok (.iand, 1) := by decide +kernel
theorem dX9_readWiths_55 : decode cX9_readWiths 55 = .ok (.ifCond .eq 9, 3) := by decide +kernel
theorem dX9_readWiths_58 : decode cX9_readWiths 58 = .ok (.aload_n 0, 1) := by decide +kernel
theorem dX9_readWiths_59 : decode cX9_readWiths 59 = .ok (.iconst 4, 1) := by decide +kernel
theorem dX9_readWiths_60 : decode cX9_readWiths 60 = .ok (.invokevirtual 75, 3) := by decide +kernel
theorem dX9_readWiths_63 : decode cX9_readWiths 63 = .ok (.ireturn, 1) := by decide +kernel
theorem dX9_readWiths_64 : decode cX9_readWiths 64 = .ok (.iload_n 2, 1) := by decide +kernel
theorem dX9_readWiths_65 : decode cX9_readWiths 65 = .ok (.iconst 1, 1) := by decide +kernel
theorem dX9_readWiths_66 : decode cX9_readWiths 66 = .ok (.iload 4, 2) := by decide +kernel
theorem dX9_readWiths_68 : decode cX9_readWiths 68 = .ok (.ishl, 1) := by decide +kernel
theorem dX9_readWiths_69 : decode cX9_readWiths 69 = .ok (.ior, 1) := by decide +kernel
theorem dX9_readWiths_70 : decode cX9_readWiths 70 = .ok (.istore_n 2, 1) := by decide +kernel
theorem dX9_readWiths_71 : decode cX9_readWiths 71 = .ok (.iload 4, 2) := by decide +kernel
theorem dX9_readWiths_73 : decode cX9_readWiths 73 = .ok (.bipush 6, 2) := by decide +kernel
theorem dX9_readWiths_75 : decode cX9_readWiths 75 = .ok (.if_icmp .eq 24, 3) := by decide +kernel
theorem dX9_readWiths_78 : decode cX9_readWiths 78 = .ok (.aload_n 0, 1) := by decide +kernel
theorem dX9_readWiths_79 : decode cX9_readWiths 79 = .ok (.getstatic 86, 3) := by decide +kernel
theorem dX9_readWiths_82 : decode cX9_readWiths 82 = .ok (.iload 4, 2) := by decide +kernel
theorem dX9_readWiths_84 : decode cX9_readWiths 84 = .ok (.iaload, 1) := by decide +kernel
theorem dX9_readWiths_85 : decode cX9_readWiths 85 = .ok (.getstatic 90, 3) := by decide +kernel
theorem dX9_readWiths_88 : decode cX9_readWiths 88 = .ok (.iload 4, 2) := by decide +kernel
theorem dX9_readWiths_90 : decode cX9_readWiths 90 = .ok (.iaload, 1) := by decide +kernel
theorem dX9_readWiths_91 : decode cX9_readWiths 91 = .ok (.invokevirtual 93, 3) := by decide +kernel
theorem dX9_readWiths_94 : decode cX9_readWiths 94 = .ok (.ifCond .ne 5, 3) := by decide +kernel
theorem dX9_readWiths_97 : decode cX9_readWiths 97 = .ok (.iconst 0, 1) := by decide +kernel
theorem dX9_readWiths_98 : decode cX9_readWiths 98 = .ok (.ireturn, 1) := by decide +kernel
theorem dX9_readWiths_99 : decode cX9_readWiths 99 = .ok (.aload_n 0, 1) := by decide +kernel
theorem dX9_readWiths_100 : decode cX9_readWiths 100 = .ok (.getfield 12, 3) := by decide +kernel
theorem dX9_readWiths_103 : decode cX9_readWiths 103 = .ok (.getfield 82, 3) := by decide +kernel
theorem dX9_readWiths_106 : decode cX9_readWiths 106 = .ok (.iload 4, 2) := by decide +kernel
theorem dX9_readWiths_108 : decode cX9_readWiths 108 = .ok (.aaload, 1) := by decide +kernel
theorem dX9_readWiths_109 : decode cX9_readWiths 109 = .ok (.iload_n 1, 1) := by decide +kernel
theorem dX9_readWiths_110 : decode cX9_readWiths 110 = .ok (.iload 4, 2) := by decide +kernel
theorem dX9_readWiths_112 : decode cX9_readWiths 112 = .ok (.bipush 6, 2) := by decide +kernel
theorem dX9_readWiths_114 : decode cX9_readWiths 114 = .ok (.if_icmp .ne 7, 3) := by decide +kernel
theorem dX9_readWiths_117 : decode cX9_readWiths 117 = .ok (.iconst 1, 1) := by decide +kernel
theorem dX9_readWiths_118 : decode cX9_readWiths 118 = .ok (.goto 10, 3) := by decide +kernel
theorem dX9_readWiths_121 : decode cX9_readWiths 121 = .ok (.aload_n 0, 1) := by decide +kernel
theorem dX9_readWiths_122 : decode cX9_readWiths 122 = .ok (.getfield 29, 3) := by decide +kernel
theorem dX9_readWiths_125 : decode cX9_readWiths 125 = .ok (.getfield 97, 3) := by decide +kernel
theorem dX9_readWiths_128 : decode cX9_readWiths 128 = .ok (.iastore, 1) := by decide +kernel
theorem dX9_readWiths_129 : decode cX9_readWiths 129 = .ok (.iinc 3 1, 3) := by decide +kernel
theorem dX9_readWiths_132 : decode cX9_readWiths 132 = .ok (.goto (-128), 3) := by decide +kernel
theorem dX9_readWiths_135 : decode cX9_readWiths 135 = .ok (.aload_n 0, 1) := by decide +kernel
theorem dX9_readWiths_136 : decode cX9_readWiths 136 = .ok (.invokevirtual 72, 3) := by decide +kernel
theorem dX9_readWiths_139 : decode cX9_readWiths 139 = .ok (.ireturn, 1) := by decide +kernel
theorem dX9_refuse_0 : decode cX9_refuse 0 = .ok (.aload_n 0, 1) := by decide +kernel
theorem dX9_refuse_1 : decode cX9_refuse 1 = .ok (.iload_n 1, 1) := by decide +kernel
theorem dX9_refuse_2 : decode cX9_refuse 2 = .ok (.putfield 18, 3) := by decide +kernel
theorem dX9_refuse_5 : decode cX9_refuse 5 = .ok (.aload_n 0, 1) := by decide +kernel
theorem dX9_refuse_6 : decode cX9_refuse 6 = .ok (.aload_n 0, 1) := by decide +kernel
theorem dX9_refuse_7 : decode cX9_refuse 7 = .ok (.getfield 29, 3) := by decide +kernel
theorem dX9_refuse_10 : decode cX9_refuse 10 = .ok (.getfield 111, 3) := by decide +kernel
theorem dX9_refuse_13 : decode cX9_refuse 13 = .ok (.putfield 22, 3) := by decide +kernel
theorem dX9_refuse_16 : decode cX9_refuse 16 = .ok (.iconst 0, 1) := by decide +kernel
theorem dX9_refuse_17 : decode cX9_refuse 17 = .ok (.ireturn, 1) := by decide +kernel
theorem dX9_withFact_0 : decode cX9_withFact 0 = .ok (.aload_n 0, 1) := by decide +kernel
theorem dX9_withFact_1 : decode cX9_withFact 1 = .ok (.getfield 29, 3) := by decide +kernel
theorem dX9_withFact_4 : decode cX9_withFact 4 = .ok (.ldc 103, 2) := by decide +kernel
theorem dX9_withFact_6 : decode cX9_withFact 6 = .ok (.invokevirtual 53, 3) := by decide +kernel
theorem dX9_withFact_9 : decode cX9_withFact 9 = .ok (.ifCond .eq 5, 3) := by decide +kernel
theorem dX9_withFact_12 : decode cX9_withFact 12 = .ok (.iconst 4, 1) := by decide +kernel
theorem dX9_withFact_13 : decode cX9_withFact 13 = .ok (.ireturn, 1) := by decide +kernel
theorem dX9_withFact_14 : decode cX9_withFact 14 = .ok (.aload_n 0, 1) := by decide +kernel
theorem dX9_withFact_15 : decode cX9_withFact 15 = .ok (.getfield 29, 3) := by decide +kernel
theorem dX9_withFact_18 : decode cX9_withFact 18 = .ok (.ldc 105, 2) := by decide +kernel
theorem dX9_withFact_20 : decode cX9_withFact 20 = .ok (.invokevirtual 53, 3) := by decide +kernel
theorem dX9_withFact_23 : decode cX9_withFact 23 = .ok (.ifCond .eq 5, 3) := by decide +kernel
theorem dX9_withFact_26 : decode cX9_withFact 26 = .ok (.iconst 5, 1) := by decide +kernel
theorem dX9_withFact_27 : decode cX9_withFact 27 = .ok (.ireturn, 1) := by decide +kernel
theorem dX9_withFact_28 : decode cX9_withFact 28 = .ok (.aload_n 0, 1) := by decide +kernel
theorem dX9_withFact_29 : decode cX9_withFact 29 = .ok (.getfield 29, 3) := by decide +kernel
theorem dX9_withFact_32 : decode cX9_withFact 32 = .ok (.ldc 107, 2) := by decide +kernel
theorem dX9_withFact_34 : decode cX9_withFact 34 = .ok (.invokevirtual 53, 3) := by decide +kernel
theorem dX9_withFact_37 : decode cX9_withFact 37 = .ok (.ifCond .eq 8, 3) := by decide +kernel
theorem dX9_withFact_40 : decode cX9_withFact 40 = .ok (.bipush 6, 2) := by decide +kernel
theorem dX9_withFact_42 : decode cX9_withFact 42 = .ok (.goto 5, 3) := by decide +kernel
theorem dX9_withFact_45 : decode cX9_withFact 45 = .ok (.bipush (-4), 2) := by decide +kernel
theorem dX9_withFact_47 : decode cX9_withFact 47 = .ok (.ireturn, 1) := by decide +kernel
