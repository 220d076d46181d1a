theorem dX12_priceOf_0 : decode cX12_priceOf 0 = .ok (.iconst 0, 1) := by decide +kernel
theorem dX12_priceOf_1 : decode cX12_priceOf 1 = .ok (.istore_n 2, 1) := by decide +kernel
theorem dX12_priceOf_2 : decode cX12_priceOf 2 = .ok (.iconst 0, 1) := by decide +kernel
theorem dX12_priceOf_3 : decode cX12_priceOf 3 = .ok (.istore_n 3, 1) := by decide +kernel
theorem dX12_priceOf_4 : decode cX12_priceOf 4 = .ok (.iload_n 3, 1) := by decide +kernel
theorem dX12_priceOf_5 : decode cX12_priceOf 5 = .ok (.aload_n 0, 1) := by decide +kernel
theorem dX12_priceOf_6 : decode cX12_priceOf 6 = .ok (.getfield 19, 3) := by decide +kernel
theorem dX12_priceOf_9 : decode cX12_priceOf 9 = .ok (.bipush 72, 2) := by decide +kernel
theorem dX12_priceOf_11 : decode cX12_priceOf 11 = .ok (.iaload, 1) := by decide +kernel
theorem dX12_priceOf_12 : decode cX12_priceOf 12 = .ok (.if_icmp .ge 24, 3) := by decide +kernel
theorem dX12_priceOf_15 : decode cX12_priceOf 15 = .ok (.iload_n 2, 1) := by decide +kernel
theorem dX12_priceOf_16 : decode cX12_priceOf 16 = .ok (.iload_n 1, 1) := by decide +kernel
theorem dX12_priceOf_17 : decode cX12_priceOf 17 = .ok (.iload_n 3, 1) := by decide +kernel
theorem dX12_priceOf_18 : decode cX12_priceOf 18 = .ok (.ishr, 1) := by decide +kernel
theorem dX12_priceOf_19 : decode cX12_priceOf 19 = .ok (.iconst 1, 1) := by decide +kernel
theorem dX12_priceOf_20 : decode cX12_priceOf 20 = .ok (.iand, 1) := by decide +kernel
theorem dX12_priceOf_21 : decode cX12_priceOf 21 = .ok (.aload_n 0, 1) := by decide +kernel
theorem dX12_priceOf_22 : decode cX12_priceOf 22 = .ok (.iload_n 3, 1) := by decide +kernel
theorem dX12_priceOf_23 : decode cX12_priceOf 23 = .ok (.iconst 2, 1) := by decide +kernel
theorem dX12_priceOf_24 : decode cX12_priceOf 24 = .ok (.invokevirtual 168, 3) := by decide +kernel
theorem dX12_priceOf_27 : decode cX12_priceOf 27 = .ok (.imul, 1) := by decide +kernel
theorem dX12_priceOf_28 : decode cX12_priceOf 28 = .ok (.iadd, 1) := by decide +kernel
theorem dX12_priceOf_29 : decode cX12_priceOf 29 = .ok (.istore_n 2, 1) := by decide +kernel
theorem dX12_priceOf_30 : decode cX12_priceOf 30 = .ok (.iinc 3 1, 3) := by decide +kernel
theorem dX12_priceOf_33 : decode cX12_priceOf 33 = .ok (.goto (-29), 3) := by decide +kernel
theorem dX12_priceOf_36 : decode cX12_priceOf 36 = .ok (.iload_n 2, 1) := by decide +kernel
theorem dX12_priceOf_37 : decode cX12_priceOf 37 = .ok (.ireturn, 1) := by decide +kernel
theorem dX12_rankOf_0 : decode cX12_rankOf 0 = .ok (.iload_n 2, 1) := by decide +kernel
theorem dX12_rankOf_1 : decode cX12_rankOf 1 = .ok (.iconst 1, 1) := by decide +kernel
theorem dX12_rankOf_2 : decode cX12_rankOf 2 = .ok (.if_icmp .ne 12, 3) := by decide +kernel
theorem dX12_rankOf_5 : decode cX12_rankOf 5 = .ok (.aload_n 0, 1) := by decide +kernel
theorem dX12_rankOf_6 : decode cX12_rankOf 6 = .ok (.iload_n 1, 1) := by decide +kernel
theorem dX12_rankOf_7 : decode cX12_rankOf 7 = .ok (.invokevirtual 209, 3) := by decide +kernel
theorem dX12_rankOf_10 : decode cX12_rankOf 10 = .ok (.i2l, 1) := by decide +kernel
theorem dX12_rankOf_11 : decode cX12_rankOf 11 = .ok (.goto 39, 3) := by decide +kernel
theorem dX12_rankOf_14 : decode cX12_rankOf 14 = .ok (.iload_n 2, 1) := by decide +kernel
theorem dX12_rankOf_15 : decode cX12_rankOf 15 = .ok (.iconst 2, 1) := by decide +kernel
theorem dX12_rankOf_16 : decode cX12_rankOf 16 = .ok (.if_icmp .ne 27, 3) := by decide +kernel
theorem dX12_rankOf_19 : decode cX12_rankOf 19 = .ok (.aload_n 0, 1) := by decide +kernel
theorem dX12_rankOf_20 : decode cX12_rankOf 20 = .ok (.iload_n 1, 1) := by decide +kernel
theorem dX12_rankOf_21 : decode cX12_rankOf 21 = .ok (.invokevirtual 215, 3) := by decide +kernel
theorem dX12_rankOf_24 : decode cX12_rankOf 24 = .ok (.ifCond .eq 13, 3) := by decide +kernel
theorem dX12_rankOf_27 : decode cX12_rankOf 27 = .ok (.aload_n 0, 1) := by decide +kernel
theorem dX12_rankOf_28 : decode cX12_rankOf 28 = .ok (.getfield 29, 3) := by decide +kernel
theorem dX12_rankOf_31 : decode cX12_rankOf 31 = .ok (.iload_n 1, 1) := by decide +kernel
theorem dX12_rankOf_32 : decode cX12_rankOf 32 = .ok (.iaload, 1) := by decide +kernel
theorem dX12_rankOf_33 : decode cX12_rankOf 33 = .ok (.i2l, 1) := by decide +kernel
theorem dX12_rankOf_34 : decode cX12_rankOf 34 = .ok (.goto 16, 3) := by decide +kernel
theorem dX12_rankOf_37 : decode cX12_rankOf 37 = .ok (.ldc2_w 172, 3) := by decide +kernel
theorem dX12_rankOf_40 : decode cX12_rankOf 40 = .ok (.goto 10, 3) := by decide +kernel
theorem dX12_rankOf_43 : decode cX12_rankOf 43 = .ok (.aload_n 0, 1) := by decide +kernel
theorem dX12_rankOf_44 : decode cX12_rankOf 44 = .ok (.getfield 56, 3) := by decide +kernel
theorem dX12_rankOf_47 : decode cX12_rankOf 47 = .ok (.iload_n 1, 1) := by decide +kernel
theorem dX12_rankOf_48 : decode cX12_rankOf 48 = .ok (.iaload, 1) := by decide +kernel
theorem dX12_rankOf_49 : decode cX12_rankOf 49 = .ok (.i2l, 1) := by decide +kernel
theorem dX12_rankOf_50 : decode cX12_rankOf 50 = .ok (.lreturn, 1) := by decide +kernel
theorem dX12_read_0 : decode cX12_read 0 = .ok (.iload_n 1, 1) := by decide +kernel
theorem dX12_read_1 : decode cX12_read 1 = .ok (.i2l, 1) := by decide +kernel
theorem dX12_read_2 : decode cX12_read 2 = .ok (.lconst 0, 1) := by decide +kernel
theorem dX12_read_3 : decode cX12_read 3 = .ok (.ldc2_w 294, 3) := by decide +kernel
theorem dX12_read_6 : decode cX12_read 6 = .ok (.invokestatic 97, 3) := by decide +kernel
theorem dX12_read_9 : decode cX12_read 9 = .ok (.ifCond .eq 28, 3) := by decide +kernel
theorem dX12_read_12 : decode cX12_read 12 = .ok (.iload_n 2, 1) := by decide +kernel
theorem dX12_read_13 : decode cX12_read 13 = .ok (.i2l, 1) := by decide +kernel
theorem dX12_read_14 : decode cX12_read 14 = .ok (.lconst 0, 1) := by decide +kernel
theorem dX12_read_15 : decode cX12_read 15 = .ok (.ldc2_w 349, 3) := by decide +kernel
theorem dX12_read_18 : decode cX12_read 18 = .ok (.invokestatic 97, 3) := by decide +kernel
theorem dX12_read_21 : decode cX12_read 21 = .ok (.ifCond .eq 16, 3) := by decide +kernel
theorem dX12_read_24 : decode cX12_read 24 = .ok (.iload 4, 2) := by decide +kernel
theorem dX12_read_26 : decode cX12_read 26 = .ok (.i2l, 1) := by decide +kernel
theorem dX12_read_27 : decode cX12_read 27 = .ok (.lconst 0, 1) := by decide +kernel
theorem dX12_read_28 : decode cX12_read 28 = .ok (.ldc2_w 351, 3) := by decide +kernel
theorem dX12_read_31 : decode cX12_read 31 = .ok (.invokestatic 97, 3) := by decide +kernel
theorem dX12_read_34 : decode cX12_read 34 = .ok (.ifCond .ne 5, 3) := by decide +kernel
theorem dX12_read_37 : decode cX12_read 37 = .ok (.iconst (-1), 1) := by decide +kernel
theorem dX12_read_38 : decode cX12_read 38 = .ok (.ireturn, 1) := by decide +kernel
theorem dX12_read_39 : decode cX12_read 39 = .ok (.iconst 0, 1) := by decide +kernel
theorem dX12_read_40 : decode cX12_read 40 = .ok (.istore 5, 2) := by decide +kernel
theorem dX12_read_42 : decode cX12_read 42 = .ok (.iconst 0, 1) := by decide +kernel
theorem dX12_read_43 : decode cX12_read 43 = .ok (.istore 6, 2) := by decide +kernel
theorem dX12_read_45 : decode cX12_read 45 = .ok (.iconst 0, 1) := by decide +kernel
theorem dX12_read_46 : decode cX12_read 46 = .ok (.istore 7, 2) := by decide +kernel
theorem dX12_read_48 : decode cX12_read 48 = .ok (.iload 7, 2) := by decide +kernel
theorem dX12_read_50 : decode cX12_read 50 = .ok (.iload 4, 2) := by decide +kernel
theorem dX12_read_52 : decode cX12_read 52 = .ok (.if_icmp .ge 125, 3) := by decide +kernel
theorem dX12_read_55 : decode cX12_read 55 = .ok (.iload 5, 2) := by decide +kernel
theorem dX12_read_57 : decode cX12_read 57 = .ok (.ifCond .ne 120, 3) := by decide +kernel
theorem dX12_read_60 : decode cX12_read 60 = .ok (.aload_n 0, 1) := by decide +kernel
theorem dX12_read_61 : decode cX12_read 61 = .ok (.getfield 80, 3) := by decide +kernel
theorem dX12_read_64 : decode cX12_read 64 = .ok (.iload_n 1, 1) := by decide +kernel
theorem dX12_read_65 : decode cX12_read 65 = .ok (.iaload, 1) := by decide +kernel
theorem dX12_read_66 : decode cX12_read 66 = .ok (.bipush (-4), 2) := by decide +kernel
theorem dX12_read_68 : decode cX12_read 68 = .ok (.if_icmp .ne 7, 3) := by decide +kernel
theorem dX12_read_71 : decode cX12_read 71 = .ok (.iconst 1, 1) := by decide +kernel
theorem dX12_read_72 : decode cX12_read 72 = .ok (.goto 44, 3) := by decide +kernel
theorem dX12_read_75 : decode cX12_read 75 = .ok (.aload_n 0, 1) := by decide +kernel
theorem dX12_read_76 : decode cX12_read 76 = .ok (.getfield 80, 3) := by decide +kernel
theorem dX12_read_79 : decode cX12_read 79 = .ok (.iload_n 1, 1) := by decide +kernel
theorem dX12_read_80 : decode cX12_read 80 = .ok (.iaload, 1) := by decide +kernel
theorem dX12_read_81 : decode cX12_read 81 = .ok (.iload_n 2, 1) := by decide +kernel
theorem dX12_read_82 : decode cX12_read 82 = .ok (.if_icmp .eq 7, 3) := by decide +kernel
theorem dX12_read_85 : decode cX12_read 85 = .ok (.iconst 3, 1) := by decide +kernel
theorem dX12_read_86 : decode cX12_read 86 = .ok (.goto 30, 3) := by decide +kernel
theorem dX12_read_89 : decode cX12_read 89 = .ok (.iload_n 3, 1) := by decide +kernel
theorem dX12_read_90 : decode cX12_read 90 = .ok (.i2l, 1) := by decide +kernel
theorem dX12_read_91 : decode cX12_read 91 = .ok (.iload 7, 2) := by decide +kernel
theorem dX12_read_93 : decode cX12_read 93 = .ok (.i2l, 1) := by decide +kernel
theorem dX12_read_94 : decode cX12_read 94 = .ok (.ladd, 1) := by decide +kernel
theorem dX12_read_95 : decode cX12_read 95 = .ok (.lconst 0, 1) := by decide +kernel
theorem dX12_read_96 : decode cX12_read 96 = .ok (.aload_n 0, 1) := by decide +kernel
theorem dX12_read_97 : decode cX12_read 97 = .ok (.getfield 83, 3) := by decide +kernel
theorem dX12_read_100 : decode cX12_read 100 = .ok (.iload_n 1, 1) := by decide +kernel
theorem dX12_read_101 : decode cX12_read 101 = .ok (.iaload, 1) := by decide +kernel
theorem dX12_read_102 : decode cX12_read 102 = .ok (.iconst 1, 1) := by decide +kernel
theorem dX12_read_103 : decode cX12_read 103 = .ok (.isub, 1) := by decide +kernel
theorem dX12_read_104 : decode cX12_read 104 = .ok (.i2l, 1) := by decide +kernel
theorem dX12_read_105 : decode cX12_read 105 = .ok (.invokestatic 97, 3) := by decide +kernel
theorem dX12_read_108 : decode cX12_read 108 = .ok (.ifCond .ne 7, 3) := by decide +kernel
theorem dX12_read_111 : decode cX12_read 111 = .ok (.iconst 2, 1) := by decide +kernel
theorem dX12_read_112 : decode cX12_read 112 = .ok (.goto 4, 3) := by decide +kernel
theorem dX12_read_115 : decode cX12_read 115 = .ok (.iconst 0, 1) := by decide +kernel
theorem dX12_read_116 : decode cX12_read 116 = .ok (.istore 5, 2) := by decide +kernel
theorem dX12_read_118 : decode cX12_read 118 = .ok (.iload 5, 2) := by decide +kernel
theorem dX12_read_120 : decode cX12_read 120 = .ok (.ifCond .ne 51, 3) := by decide +kernel
theorem dX12_read_123 : decode cX12_read 123 = .ok (.aload_n 0, 1) := by decide +kernel
theorem dX12_read_124 : decode cX12_read 124 = .ok (.aload_n 0, 1) := by decide +kernel
theorem dX12_read_125 : decode cX12_read 125 = .ok (.getfield 86, 3) := by decide +kernel
theorem dX12_read_128 : decode cX12_read 128 = .ok (.bipush 40, 2) := by decide +kernel
theorem dX12_read_130 : decode cX12_read 130 = .ok (.iload_n 1, 1) := by decide +kernel
theorem dX12_read_131 : decode cX12_read 131 = .ok (.imul, 1) := by decide +kernel
theorem dX12_read_132 : decode cX12_read 132 = .ok (.iload_n 3, 1) := by decide +kernel
theorem dX12_read_133 : decode cX12_read 133 = .ok (.iadd, 1) := by decide +kernel
theorem dX12_read_134 : decode cX12_read 134 = .ok (.iload 7, 2) := by decide +kernel
theorem dX12_read_136 : decode cX12_read 136 = .ok (.iadd, 1) := by decide +kernel
theorem dX12_read_137 : decode cX12_read 137 = .ok (.iaload, 1) := by decide +kernel
theorem dX12_read_138 : decode cX12_read 138 = .ok (.invokevirtual 162, 3) := by decide +kernel
theorem dX12_read_141 : decode cX12_read 141 = .ok (.ifCond .ne 9, 3) := by decide +kernel
theorem dX12_read_144 : decode cX12_read 144 = .ok (.bipush (-20), 2) := by decide +kernel
theorem dX12_read_146 : decode cX12_read 146 = .ok (.iload 6, 2) := by decide +kernel
theorem dX12_read_148 : decode cX12_read 148 = .ok (.isub, 1) := by decide +kernel
theorem dX12_read_149 : decode cX12_read 149 = .ok (.ireturn, 1) := by decide +kernel
theorem dX12_read_150 : decode cX12_read 150 = .ok (.aload_n 0, 1) := by decide +kernel
theorem dX12_read_151 : decode cX12_read 151 = .ok (.getfield 19, 3) := by decide +kernel
theorem dX12_read_154 : decode cX12_read 154 = .ok (.bipush 86, 2) := by decide +kernel
theorem dX12_read_156 : decode cX12_read 156 = .ok (.iaload, 1) := by decide +kernel
theorem dX12_read_157 : decode cX12_read 157 = .ok (.iload 6, 2) := by decide +kernel
theorem dX12_read_159 : decode cX12_read 159 = .ok (.iadd, 1) := by decide +kernel
theorem dX12_read_160 : decode cX12_read 160 = .ok (.bipush 12, 2) := by decide +kernel
theorem dX12_read_162 : decode cX12_read 162 = .ok (.if_icmp .ne 6, 3) := by decide +kernel
theorem dX12_read_165 : decode cX12_read 165 = .ok (.bipush (-3), 2) := by decide +kernel
theorem dX12_read_167 : decode cX12_read 167 = .ok (.ireturn, 1) := by decide +kernel
theorem dX12_read_168 : decode cX12_read 168 = .ok (.iinc 6 1, 3) := by decide +kernel
theorem dX12_read_171 : decode cX12_read 171 = .ok (.iinc 7 1, 3) := by decide +kernel
theorem dX12_read_174 : decode cX12_read 174 = .ok (.goto (-126), 3) := by decide +kernel
theorem dX12_read_177 : decode cX12_read 177 = .ok (.iconst 0, 1) := by decide +kernel
theorem dX12_read_178 : decode cX12_read 178 = .ok (.istore 7, 2) := by decide +kernel
theorem dX12_read_180 : decode cX12_read 180 = .ok (.iload 7, 2) := by decide +kernel
theorem dX12_read_182 : decode cX12_read 182 = .ok (.iload 6, 2) := by decide +kernel
theorem dX12_read_184 : decode cX12_read 184 = .ok (.if_icmp .ge 49, 3) := by decide +kernel
theorem dX12_read_187 : decode cX12_read 187 = .ok (.aload_n 0, 1) := by decide +kernel
theorem dX12_read_188 : decode cX12_read 188 = .ok (.getfield 19, 3) := by decide +kernel
theorem dX12_read_191 : decode cX12_read 191 = .ok (.bipush 74, 2) := by decide +kernel
theorem dX12_read_193 : decode cX12_read 193 = .ok (.aload_n 0, 1) := by decide +kernel
theorem dX12_read_194 : decode cX12_read 194 = .ok (.getfield 19, 3) := by decide +kernel
theorem dX12_read_197 : decode cX12_read 197 = .ok (.bipush 86, 2) := by decide +kernel
theorem dX12_read_199 : decode cX12_read 199 = .ok (.iaload, 1) := by decide +kernel
theorem dX12_read_200 : decode cX12_read 200 = .ok (.iadd, 1) := by decide +kernel
theorem dX12_read_201 : decode cX12_read 201 = .ok (.aload_n 0, 1) := by decide +kernel
theorem dX12_read_202 : decode cX12_read 202 = .ok (.getfield 86, 3) := by decide +kernel
theorem dX12_read_205 : decode cX12_read 205 = .ok (.bipush 40, 2) := by decide +kernel
theorem dX12_read_207 : decode cX12_read 207 = .ok (.iload_n 1, 1) := by decide +kernel
theorem dX12_read_208 : decode cX12_read 208 = .ok (.imul, 1) := by decide +kernel
theorem dX12_read_209 : decode cX12_read 209 = .ok (.iload_n 3, 1) := by decide +kernel
theorem dX12_read_210 : decode cX12_read 210 = .ok (.iadd, 1) := by decide +kernel
theorem dX12_read_211 : decode cX12_read 211 = .ok (.iload 7, 2) := by decide +kernel
theorem dX12_read_213 : decode cX12_read 213 = .ok (.iadd, 1) := by decide +kernel
theorem dX12_read_214 : decode cX12_read 214 = .ok (.iaload, 1) := by decide +kernel
theorem dX12_read_215 : decode cX12_read 215 = .ok (.iastore, 1) := by decide +kernel
theorem dX12_read_216 : decode cX12_read 216 = .ok (.aload_n 0, 1) := by decide +kernel
theorem dX12_read_217 : decode cX12_read 217 = .ok (.getfield 19, 3) := by decide +kernel
theorem dX12_read_220 : decode cX12_read 220 = .ok (.bipush 86, 2) := by decide +kernel
theorem dX12_read_222 : decode cX12_read 222 = .ok (.dup2, 1) := by decide +kernel
theorem dX12_read_223 : decode cX12_read 223 = .ok (.iaload, 1) := by decide +kernel
theorem dX12_read_224 : decode cX12_read 224 = .ok (.iconst 1, 1) := by decide +kernel
theorem dX12_read_225 : decode cX12_read 225 = .ok (.iadd, 1) := by decide +kernel
theorem dX12_read_226 : decode cX12_read 226 = .ok (.iastore, 1) := by decide +kernel
theorem dX12_read_227 : decode cX12_read 227 = .ok (.iinc 7 1, 3) := by decide +kernel
theorem dX12_read_230 : decode cX12_read 230 = .ok (.goto (-50), 3) := by decide +kernel
theorem dX12_read_233 : decode cX12_read 233 = .ok (.aload_n 0, 1) := by decide +kernel
theorem dX12_read_234 : decode cX12_read 234 = .ok (.iload 5, 2) := by decide +kernel
theorem dX12_read_236 : decode cX12_read 236 = .ok (.putfield 353, 3) := by decide +kernel
theorem dX12_read_239 : decode cX12_read 239 = .ok (.iload 6, 2) := by decide +kernel
theorem dX12_read_241 : decode cX12_read 241 = .ok (.ireturn, 1) := by decide +kernel
theorem dX12_readLine_0 : decode cX12_readLine 0 = .ok (.aload_n 0, 1) := by decide +kernel
theorem dX12_readLine_1 : decode cX12_readLine 1 = .ok (.invokevirtual 142, 3) := by decide +kernel
theorem dX12_readLine_4 : decode cX12_readLine 4 = .ok (.istore_n 1, 1) := by decide +kernel
theorem dX12_readLine_5 : decode cX12_readLine 5 = .ok (.iload_n 1, 1) := by decide +kernel
theorem dX12_readLine_6 : decode cX12_readLine 6 = .ok (.ifCond .eq 14, 3) := by decide +kernel
theorem dX12_readLine_9 : decode cX12_readLine 9 = .ok (.iload_n 1, 1) := by decide +kernel
theorem dX12_readLine_10 : decode cX12_readLine 10 = .ok (.iconst 1, 1) := by decide +kernel
theorem dX12_readLine_11 : decode cX12_readLine 11 = .ok (.if_icmp .eq 9, 3) := by decide +kernel
theorem dX12_readLine_14 : decode cX12_readLine 14 = .ok (.aload_n 0, 1) := by decide +kernel
theorem dX12_readLine_15 : decode cX12_readLine 15 = .ok (.iconst 2, 1) := by decide +kernel
theorem dX12_readLine_16 : decode cX12_readLine 16 = .ok (.invokevirtual 131, 3) := by decide +kernel
theorem dX12_readLine_19 : decode cX12_readLine 19 = .ok (.return_, 1) := by decide +kernel
theorem dX12_readLine_20 : decode cX12_readLine 20 = .ok (.iload_n 1, 1) := by decide +kernel
theorem dX12_readLine_21 : decode cX12_readLine 21 = .ok (.ifCond .ne 10, 3) := by decide +kernel
theorem dX12_readLine_24 : decode cX12_readLine 24 = .ok (.aload_n 0, 1) := by decide +kernel
theorem dX12_readLine_25 : decode cX12_readLine 25 = .ok (.invokevirtual 150, 3) := by decide +kernel
theorem dX12_readLine_28 : decode cX12_readLine 28 = .ok (.goto 38, 3) := by decide +kernel
theorem dX12_readLine_31 : decode cX12_readLine 31 = .ok (.aload_n 0, 1) := by decide +kernel
theorem dX12_readLine_32 : decode cX12_readLine 32 = .ok (.getfield 153, 3) := by decide +kernel
theorem dX12_readLine_35 : decode cX12_readLine 35 = .ok (.ifCond .eq 8, 3) := by decide +kernel
theorem dX12_readLine_38 : decode cX12_readLine 38 = .ok (.aload_n 0, 1) := by decide +kernel
theorem dX12_readLine_39 : decode cX12_readLine 39 = .ok (.iconst 4, 1) := by decide +kernel
theorem dX12_readLine_40 : decode cX12_readLine 40 = .ok (.invokevirtual 131, 3) := by decide +kernel
theorem dX12_readLine_43 : decode cX12_readLine 43 = .ok (.aload_n 0, 1) := by decide +kernel
theorem dX12_readLine_44 : decode cX12_readLine 44 = .ok (.iconst 1, 1) := by decide +kernel
theorem dX12_readLine_45 : decode cX12_readLine 45 = .ok (.putfield 153, 3) := by decide +kernel
theorem dX12_readLine_48 : decode cX12_readLine 48 = .ok (.aload_n 0, 1) := by decide +kernel
theorem dX12_readLine_49 : decode cX12_readLine 49 = .ok (.invokevirtual 135, 3) := by decide +kernel
theorem dX12_readLine_52 : decode cX12_readLine 52 = .ok (.aload_n 0, 1) := by decide +kernel
theorem dX12_readLine_53 : decode cX12_readLine 53 = .ok (.getfield 22, 3) := by decide +kernel
theorem dX12_readLine_56 : decode cX12_readLine 56 = .ok (.bipush 73, 2) := by decide +kernel
theorem dX12_readLine_58 : decode cX12_readLine 58 = .ok (.aload_n 0, 1) := by decide +kernel
theorem dX12_readLine_59 : decode cX12_readLine 59 = .ok (.iconst 1, 1) := by decide +kernel
theorem dX12_readLine_60 : decode cX12_readLine 60 = .ok (.bipush 8, 2) := by decide +kernel
theorem dX12_readLine_62 : decode cX12_readLine 62 = .ok (.invokevirtual 138, 3) := by decide +kernel
theorem dX12_readLine_65 : decode cX12_readLine 65 = .ok (.iastore, 1) := by decide +kernel
theorem dX12_readLine_66 : decode cX12_readLine 66 = .ok (.aload_n 0, 1) := by decide +kernel
theorem dX12_readLine_67 : decode cX12_readLine 67 = .ok (.getfield 101, 3) := by decide +kernel
theorem dX12_readLine_70 : decode cX12_readLine 70 = .ok (.ifCond .ne 16, 3) := by decide +kernel
theorem dX12_readLine_73 : decode cX12_readLine 73 = .ok (.aload_n 0, 1) := by decide +kernel
theorem dX12_readLine_74 : decode cX12_readLine 74 = .ok (.getfield 110, 3) := by decide +kernel
theorem dX12_readLine_77 : decode cX12_readLine 77 = .ok (.iconst 3, 1) := by decide +kernel
theorem dX12_readLine_78 : decode cX12_readLine 78 = .ok (.if_icmp .eq 8, 3) := by decide +kernel
theorem dX12_readLine_81 : decode cX12_readLine 81 = .ok (.aload_n 0, 1) := by decide +kernel
theorem dX12_readLine_82 : decode cX12_readLine 82 = .ok (.iconst 2, 1) := by decide +kernel
theorem dX12_readLine_83 : decode cX12_readLine 83 = .ok (.invokevirtual 131, 3) := by decide +kernel
theorem dX12_readLine_86 : decode cX12_readLine 86 = .ok (.aload_n 0, 1) := by decide +kernel
theorem dX12_readLine_87 : decode cX12_readLine 87 = .ok (.invokevirtual 135, 3) := by decide +kernel
theorem dX12_readLine_90 : decode cX12_readLine 90 = .ok (.return_, 1) := by decide +kernel
theorem dX12_readOne_0 : decode cX12_readOne 0 = .ok (.aload_n 0, 1) := by decide +kernel
theorem dX12_readOne_1 : decode cX12_readOne 1 = .ok (.getfield 22, 3) := by decide +kernel
theorem dX12_readOne_4 : decode cX12_readOne 4 = .ok (.bipush 72, 2) := by decide +kernel
theorem dX12_readOne_6 : decode cX12_readOne 6 = .ok (.iaload, 1) := by decide +kernel
theorem dX12_readOne_7 : decode cX12_readOne 7 = .ok (.bipush 8, 2) := by decide +kernel
theorem dX12_readOne_9 : decode cX12_readOne 9 = .ok (.if_icmp .ne 9, 3) := by decide +kernel
theorem dX12_readOne_12 : decode cX12_readOne 12 = .ok (.aload_n 0, 1) := by decide +kernel
theorem dX12_readOne_13 : decode cX12_readOne 13 = .ok (.iconst 5, 1) := by decide +kernel
theorem dX12_readOne_14 : decode cX12_readOne 14 = .ok (.invokevirtual 131, 3) := by decide +kernel
theorem dX12_readOne_17 : decode cX12_readOne 17 = .ok (.return_, 1) := by decide +kernel
theorem dX12_readOne_18 : decode cX12_readOne 18 = .ok (.aload_n 0, 1) := by decide +kernel
theorem dX12_readOne_19 : decode cX12_readOne 19 = .ok (.invokevirtual 135, 3) := by decide +kernel
theorem dX12_readOne_22 : decode cX12_readOne 22 = .ok (.bipush 9, 2) := by decide +kernel
theorem dX12_readOne_24 : decode cX12_readOne 24 = .ok (.aload_n 0, 1) := by decide +kernel
theorem dX12_readOne_25 : decode cX12_readOne 25 = .ok (.getfield 22, 3) := by decide +kernel
theorem dX12_readOne_28 : decode cX12_readOne 28 = .ok (.bipush 72, 2) := by decide +kernel
theorem dX12_readOne_30 : decode cX12_readOne 30 = .ok (.iaload, 1) := by decide +kernel
theorem dX12_readOne_31 : decode cX12_readOne 31 = .ok (.imul, 1) := by decide +kernel
theorem dX12_readOne_32 : decode cX12_readOne 32 = .ok (.istore_n 1, 1) := by decide +kernel
theorem dX12_readOne_33 : decode cX12_readOne 33 = .ok (.aload_n 0, 1) := by decide +kernel
theorem dX12_readOne_34 : decode cX12_readOne 34 = .ok (.getfield 22, 3) := by decide +kernel
theorem dX12_readOne_37 : decode cX12_readOne 37 = .ok (.iload_n 1, 1) := by decide +kernel
theorem dX12_readOne_38 : decode cX12_readOne 38 = .ok (.iconst 0, 1) := by decide +kernel
theorem dX12_readOne_39 : decode cX12_readOne 39 = .ok (.iadd, 1) := by decide +kernel
theorem dX12_readOne_40 : decode cX12_readOne 40 = .ok (.aload_n 0, 1) := by decide +kernel
theorem dX12_readOne_41 : decode cX12_readOne 41 = .ok (.iconst 0, 1) := by decide +kernel
theorem dX12_readOne_42 : decode cX12_readOne 42 = .ok (.sipush 239, 3) := by decide +kernel
theorem dX12_readOne_45 : decode cX12_readOne 45 = .ok (.invokevirtual 138, 3) := by decide +kernel
theorem dX12_readOne_48 : decode cX12_readOne 48 = .ok (.iastore, 1) := by decide +kernel
theorem dX12_readOne_49 : decode cX12_readOne 49 = .ok (.aload_n 0, 1) := by decide +kernel
theorem dX12_readOne_50 : decode cX12_readOne 50 = .ok (.getfield 22, 3) := by decide +kernel
theorem dX12_readOne_53 : decode cX12_readOne 53 = .ok (.iload_n 1, 1) := by decide +kernel
theorem dX12_readOne_54 : decode cX12_readOne 54 = .ok (.iconst 1, 1) := by decide +kernel
theorem dX12_readOne_55 : decode cX12_readOne 55 = .ok (.iadd, 1) := by decide +kernel
theorem dX12_readOne_56 : decode cX12_readOne 56 = .ok (.aload_n 0, 1) := by decide +kernel
theorem dX12_readOne_57 : decode cX12_readOne 57 = .ok (.aload_n 0, 1) := by decide +kernel
theorem dX12_readOne_58 : decode cX12_readOne 58 = .ok (.getfield 22, 3) := by decide +kernel
theorem dX12_readOne_61 : decode cX12_readOne 61 = .ok (.iload_n 1, 1) := by decide +kernel
theorem dX12_readOne_62 : decode cX12_readOne 62 = .ok (.iconst 0, 1) := by decide +kernel
theorem dX12_readOne_63 : decode cX12_readOne 63 = .ok (.iadd, 1) := by decide +kernel
theorem dX12_readOne_64 : decode cX12_readOne 64 = .ok (.iaload, 1) := by decide +kernel
theorem dX12_readOne_65 : decode cX12_readOne 65 = .ok (.iconst 1, 1) := by decide +kernel
theorem dX12_readOne_66 : decode cX12_readOne 66 = .ok (.iadd, 1) := by decide +kernel
theorem dX12_readOne_67 : decode cX12_readOne 67 = .ok (.sipush 240, 3) := by decide +kernel
theorem dX12_readOne_70 : decode cX12_readOne 70 = .ok (.invokevirtual 138, 3) := by decide +kernel
theorem dX12_readOne_73 : decode cX12_readOne 73 = .ok (.iastore, 1) := by decide +kernel
theorem dX12_readOne_74 : decode cX12_readOne 74 = .ok (.aload_n 0, 1) := by decide +kernel
theorem dX12_readOne_75 : decode cX12_readOne 75 = .ok (.getfield 22, 3) := by decide +kernel
theorem dX12_readOne_78 : decode cX12_readOne 78 = .ok (.iload_n 1, 1) := by decide +kernel
theorem dX12_readOne_79 : decode cX12_readOne 79 = .ok (.iconst 2, 1) := by decide +kernel
theorem dX12_readOne_80 : decode cX12_readOne 80 = .ok (.iadd, 1) := by decide +kernel
theorem dX12_readOne_81 : decode cX12_readOne 81 = .ok (.aload_n 0, 1) := by decide +kernel
theorem dX12_readOne_82 : decode cX12_readOne 82 = .ok (.iconst 1, 1) := by decide +kernel
theorem dX12_readOne_83 : decode cX12_readOne 83 = .ok (.bipush 99, 2) := by decide +kernel
theorem dX12_readOne_85 : decode cX12_readOne 85 = .ok (.invokevirtual 138, 3) := by decide +kernel
theorem dX12_readOne_88 : decode cX12_readOne 88 = .ok (.iastore, 1) := by decide +kernel
theorem dX12_readOne_89 : decode cX12_readOne 89 = .ok (.aload_n 0, 1) := by decide +kernel
theorem dX12_readOne_90 : decode cX12_readOne 90 = .ok (.getfield 22, 3) := by decide +kernel
theorem dX12_readOne_93 : decode cX12_readOne 93 = .ok (.iload_n 1, 1) := by decide +kernel
theorem dX12_readOne_94 : decode cX12_readOne 94 = .ok (.iconst 3, 1) := by decide +kernel
theorem dX12_readOne_95 : decode cX12_readOne 95 = .ok (.iadd, 1) := by decide +kernel
theorem dX12_readOne_96 : decode cX12_readOne 96 = .ok (.aload_n 0, 1) := by decide +kernel
theorem dX12_readOne_97 : decode cX12_readOne 97 = .ok (.iconst 1, 1) := by decide +kernel
theorem dX12_readOne_98 : decode cX12_readOne 98 = .ok (.bipush 99, 2) := by decide +kernel
theorem dX12_readOne_100 : decode cX12_readOne 100 = .ok (.invokevirtual 138, 3) := by decide +kernel
theorem dX12_readOne_103 : decode cX12_readOne 103 = .ok (.iastore, 1) := by decide +kernel
theorem dX12_readOne_104 : decode cX12_readOne 104 = .ok (.aload_n 0, 1) := by decide +kernel
theorem dX12_readOne_105 : decode cX12_readOne 105 = .ok (.getfield 22, 3) := by decide +kernel
theorem dX12_readOne_108 : decode cX12_readOne 108 = .ok (.iload_n 1, 1) := by decide +kernel
theorem dX12_readOne_109 : decode cX12_readOne 109 = .ok (.iconst 4, 1) := by decide +kernel
theorem dX12_readOne_110 : decode cX12_readOne 110 = .ok (.iadd, 1) := by decide +kernel
theorem dX12_readOne_111 : decode cX12_readOne 111 = .ok (.sipush 999, 3) := by decide +kernel
theorem dX12_readOne_114 : decode cX12_readOne 114 = .ok (.iastore, 1) := by decide +kernel
theorem dX12_readOne_115 : decode cX12_readOne 115 = .ok (.aload_n 0, 1) := by decide +kernel
theorem dX12_readOne_116 : decode cX12_readOne 116 = .ok (.getfield 22, 3) := by decide +kernel
theorem dX12_readOne_119 : decode cX12_readOne 119 = .ok (.iload_n 1, 1) := by decide +kernel
theorem dX12_readOne_120 : decode cX12_readOne 120 = .ok (.iconst 5, 1) := by decide +kernel
theorem dX12_readOne_121 : decode cX12_readOne 121 = .ok (.iadd, 1) := by decide +kernel
theorem dX12_readOne_122 : decode cX12_readOne 122 = .ok (.iconst 1, 1) := by decide +kernel
theorem dX12_readOne_123 : decode cX12_readOne 123 = .ok (.iastore, 1) := by decide +kernel
theorem dX12_readOne_124 : decode cX12_readOne 124 = .ok (.aload_n 0, 1) := by decide +kernel
theorem dX12_readOne_125 : decode cX12_readOne 125 = .ok (.getfield 22, 3) := by decide +kernel
theorem dX12_readOne_128 : decode cX12_readOne 128 = .ok (.iload_n 1, 1) := by decide +kernel
theorem dX12_readOne_129 : decode cX12_readOne 129 = .ok (.bipush 6, 2) := by decide +kernel
theorem dX12_readOne_131 : decode cX12_readOne 131 = .ok (.iadd, 1) := by decide +kernel
theorem dX12_readOne_132 : decode cX12_readOne 132 = .ok (.iconst 0, 1) := by decide +kernel
theorem dX12_readOne_133 : decode cX12_readOne 133 = .ok (.iastore, 1) := by decide +kernel
theorem dX12_readOne_134 : decode cX12_readOne 134 = .ok (.aload_n 0, 1) := by decide +kernel
theorem dX12_readOne_135 : decode cX12_readOne 135 = .ok (.getfield 22, 3) := by decide +kernel
theorem dX12_readOne_138 : decode cX12_readOne 138 = .ok (.iload_n 1, 1) := by decide +kernel
theorem dX12_readOne_139 : decode cX12_readOne 139 = .ok (.bipush 7, 2) := by decide +kernel
theorem dX12_readOne_141 : decode cX12_readOne 141 = .ok (.iadd, 1) := by decide +kernel
theorem dX12_readOne_142 : decode cX12_readOne 142 = .ok (.iconst 0, 1) := by decide +kernel
theorem dX12_readOne_143 : decode cX12_readOne 143 = .ok (.iastore, 1) := by decide +kernel
theorem dX12_readOne_144 : decode cX12_readOne 144 = .ok (.aload_n 0, 1) := by decide +kernel
theorem dX12_readOne_145 : decode cX12_readOne 145 = .ok (.getfield 22, 3) := by decide +kernel
theorem dX12_readOne_148 : decode cX12_readOne 148 = .ok (.iload_n 1, 1) := by decide +kernel
theorem dX12_readOne_149 : decode cX12_readOne 149 = .ok (.bipush 8, 2) := by decide +kernel
theorem dX12_readOne_151 : decode cX12_readOne 151 = .ok (.iadd, 1) := by decide +kernel
theorem dX12_readOne_152 : decode cX12_readOne 152 = .ok (.iconst 0, 1) := by decide +kernel
theorem dX12_readOne_153 : decode cX12_readOne 153 = .ok (.iastore, 1) := by decide +kernel
theorem dX12_readOne_154 : decode cX12_readOne 154 = .ok (.iconst 0, 1) := by decide +kernel
theorem dX12_readOne_155 : decode cX12_readOne 155 = .ok (.istore_n 2, 1) := by decide +kernel
theorem dX12_readOne_156 : decode cX12_readOne 156 = .ok (.aload_n 0, 1) := by decide +kernel
theorem dX12_readOne_157 : decode cX12_readOne 157 = .ok (.invokevirtual 142, 3) := by decide +kernel
theorem dX12_readOne_160 : decode cX12_readOne 160 = .ok (.istore_n 3, 1) := by decide +kernel
theorem dX12_readOne_161 : decode cX12_readOne 161 = .ok (.aload_n 0, 1) := by decide +kernel
theorem dX12_readOne_162 : decode cX12_readOne 162 = .ok (.getfield 101, 3) := by decide +kernel
theorem dX12_readOne_165 : decode cX12_readOne 165 = .ok (.ifCond .ne 42, 3) := by decide +kernel
theorem dX12_readOne_168 : decode cX12_readOne 168 = .ok (.iload_n 3, 1) := by decide +kernel
theorem dX12_readOne_169 : decode cX12_readOne 169 = .ok (.iconst 2, 1) := by decide +kernel
theorem dX12_readOne_170 : decode cX12_readOne 170 = .ok (.if_icmp .lt 37, 3) := by decide +kernel
theorem dX12_readOne_173 : decode cX12_readOne 173 = .ok (.iload_n 2, 1) := by decide +kernel
theorem dX12_readOne_174 : decode cX12_readOne 174 = .ok (.iload_n 3, 1) := by decide +kernel
theorem dX12_readOne_175 : decode cX12_readOne 175 = .ok (.ishr, 1) := by decide +kernel
theorem dX12_readOne_176 : decode cX12_readOne 176 = .ok (.iconst 1, 1) := by decide +kernel
theorem dX12_readOne_177 : decode cX12_readOne 177 = .ok (.iand, 1) := by decide +kernel
theorem dX12_readOne_178 : decode cX12_readOne 178 = .ok (.iconst 1, 1) := by decide +kernel
theorem dX12_readOne_179 : decode cX12_readOne 179 = .ok (.if_icmp .ne 8, 3) := by decide +kernel
theorem dX12_readOne_182 : decode cX12_readOne 182 = .ok (.aload_n 0, 1) := by decide +kernel
theorem dX12_readOne_183 : decode cX12_readOne 183 = .ok (.iconst 4, 1) := by decide +kernel
theorem dX12_readOne_184 : decode cX12_readOne 184 = .ok (.invokevirtual 131, 3) := by decide +kernel
theorem dX12_readOne_187 : decode cX12_readOne 187 = .ok (.iload_n 2, 1) := by decide +kernel
theorem dX12_readOne_188 : decode cX12_readOne 188 = .ok (.iconst 1, 1) := by decide +kernel
theorem dX12_readOne_189 : decode cX12_readOne 189 = .ok (.iload_n 3, 1) := by decide +kernel
theorem dX12_readOne_190 : decode cX12_readOne 190 = .ok (.ishl, 1) := by decide +kernel
theorem dX12_readOne_191 : decode cX12_readOne 191 = .ok (.ior, 1) := by decide +kernel
theorem dX12_readOne_192 : decode cX12_readOne 192 = .ok (.istore_n 2, 1) := by decide +kernel
theorem dX12_readOne_193 : decode cX12_readOne 193 = .ok (.aload_n 0, 1) := by decide +kernel
theorem dX12_readOne_194 : decode cX12_readOne 194 = .ok (.iload_n 1, 1) := by decide +kernel
theorem dX12_readOne_195 : decode cX12_readOne 195 = .ok (.iload_n 3, 1) := by decide +kernel
theorem dX12_readOne_196 : decode cX12_readOne 196 = .ok (.invokevirtual 146, 3) := by decide +kernel
theorem dX12_readOne_199 : decode cX12_readOne 199 = .ok (.aload_n 0, 1) := by decide +kernel
theorem dX12_readOne_200 : decode cX12_readOne 200 = .ok (.invokevirtual 142, 3) := by decide +kernel
theorem dX12_readOne_203 : decode cX12_readOne 203 = .ok (.istore_n 3, 1) := by decide +kernel
theorem dX12_readOne_204 : decode cX12_readOne 204 = .ok (.goto (-43), 3) := by decide +kernel
theorem dX12_readOne_207 : decode cX12_readOne 207 = .ok (.aload_n 0, 1) := by decide +kernel
theorem dX12_readOne_208 : decode cX12_readOne 208 = .ok (.getfield 22, 3) := by decide +kernel
theorem dX12_readOne_211 : decode cX12_readOne 211 = .ok (.bipush 72, 2) := by decide +kernel
theorem dX12_readOne_213 : decode cX12_readOne 213 = .ok (.dup2, 1) := by decide +kernel
theorem dX12_readOne_214 : decode cX12_readOne 214 = .ok (.iaload, 1) := by decide +kernel
theorem dX12_readOne_215 : decode cX12_readOne 215 = .ok (.iconst 1, 1) := by decide +kernel
theorem dX12_readOne_216 : decode cX12_readOne 216 = .ok (.iadd, 1) := by decide +kernel
theorem dX12_readOne_217 : decode cX12_readOne 217 = .ok (.iastore, 1) := by decide +kernel
theorem dX12_readOne_218 : decode cX12_readOne 218 = .ok (.return_, 1) := by decide +kernel
theorem dX12_readWith_0 : decode cX12_readWith 0 = .ok (.aload_n 0, 1) := by decide +kernel
theorem dX12_readWith_1 : decode cX12_readWith 1 = .ok (.invokevirtual 135, 3) := by decide +kernel
theorem dX12_readWith_4 : decode cX12_readWith 4 = .ok (.iload_n 2, 1) := by decide +kernel
theorem dX12_readWith_5 : decode cX12_readWith 5 = .ok (.iconst 2, 1) := by decide +kernel
theorem dX12_readWith_6 : decode cX12_readWith 6 = .ok (.if_icmp .ne 22, 3) := by decide +kernel
theorem dX12_readWith_9 : decode cX12_readWith 9 = .ok (.aload_n 0, 1) := by decide +kernel
theorem dX12_readWith_10 : decode cX12_readWith 10 = .ok (.getfield 22, 3) := by decide +kernel
theorem dX12_readWith_13 : decode cX12_readWith 13 = .ok (.iload_n 1, 1) := by decide +kernel
theorem dX12_readWith_14 : decode cX12_readWith 14 = .ok (.iconst 4, 1) := by decide +kernel
theorem dX12_readWith_15 : decode cX12_readWith 15 = .ok (.iadd, 1) := by decide +kernel
theorem dX12_readWith_16 : decode cX12_readWith 16 = .ok (.aload_n 0, 1) := by decide +kernel
theorem dX12_readWith_17 : decode cX12_readWith 17 = .ok (.iconst 0, 1) := by decide +kernel
theorem dX12_readWith_18 : decode cX12_readWith 18 = .ok (.sipush 999, 3) := by decide +kernel
theorem dX12_readWith_21 : decode cX12_readWith 21 = .ok (.invokevirtual 138, 3) := by decide +kernel
theorem dX12_readWith_24 : decode cX12_readWith 24 = .ok (.iastore, 1) := by decide +kernel
theorem dX12_readWith_25 : decode cX12_readWith 25 = .ok (.goto 36, 3) := by decide +kernel
theorem dX12_readWith_28 : decode cX12_readWith 28 = .ok (.iload_n 2, 1) := by decide +kernel
theorem dX12_readWith_29 : decode cX12_readWith 29 = .ok (.iconst 3, 1) := by decide +kernel
theorem dX12_readWith_30 : decode cX12_readWith 30 = .ok (.if_icmp .ne 21, 3) := by decide +kernel
theorem dX12_readWith_33 : decode cX12_readWith 33 = .ok (.aload_n 0, 1) := by decide +kernel
theorem dX12_readWith_34 : decode cX12_readWith 34 = .ok (.getfield 22, 3) := by decide +kernel
theorem dX12_readWith_37 : decode cX12_readWith 37 = .ok (.iload_n 1, 1) := by decide +kernel
theorem dX12_readWith_38 : decode cX12_readWith 38 = .ok (.iconst 5, 1) := by decide +kernel
theorem dX12_readWith_39 : decode cX12_readWith 39 = .ok (.iadd, 1) := by decide +kernel
theorem dX12_readWith_40 : decode cX12_readWith 40 = .ok (.aload_n 0, 1) := by decide +kernel
theorem dX12_readWith_41 : decode cX12_readWith 41 = .ok (.iconst 0, 1) := by decide +kernel
theorem dX12_readWith_42 : decode cX12_readWith 42 = .ok (.bipush 9, 2) := by decide +kernel
theorem dX12_readWith_44 : decode cX12_readWith 44 = .ok (.invokevirtual 138, 3) := by decide +kernel
theorem dX12_readWith_47 : decode cX12_readWith 47 = .ok (.iastore, 1) := by decide +kernel
theorem dX12_readWith_48 : decode cX12_readWith 48 = .ok (.goto 13, 3) := by decide +kernel
theorem dX12_readWith_51 : decode cX12_readWith 51 = .ok (.aload_n 0, 1) := by decide +kernel
theorem dX12_readWith_52 : decode cX12_readWith 52 = .ok (.getfield 22, 3) := by decide +kernel
theorem dX12_readWith_55 : decode cX12_readWith 55 = .ok (.iload_n 1, 1) := by decide +kernel
theorem dX12_readWith_56 : decode cX12_readWith 56 = .ok (.bipush 6, 2) := by decide +kernel
theorem dX12_readWith_58 : decode cX12_readWith 58 = .ok (.iadd, 1) := by decide +kernel
theorem dX12_readWith_59 : decode cX12_readWith 59 = .ok (.iconst 1, 1) := by decide +kernel
theorem dX12_readWith_60 : decode cX12_readWith 60 = .ok (.iastore, 1) := by decide +kernel
theorem dX12_readWith_61 : decode cX12_readWith 61 = .ok (.return_, 1) := by decide +kernel
theorem dX12_right_0 : decode cX12_right 0 = .ok (.iload_n 1, 1) := by decide +kernel
theorem dX12_right_1 : decode cX12_right 1 = .ok (.invokestatic 283, 3) := by decide +kernel
theorem dX12_right_4 : decode cX12_right 4 = .ok (.ifCond .eq 22, 3) := by decide +kernel
theorem dX12_right_7 : decode cX12_right 7 = .ok (.aload_n 0, 1) := by decide +kernel
theorem dX12_right_8 : decode cX12_right 8 = .ok (.iload_n 3, 1) := by decide +kernel
theorem dX12_right_9 : decode cX12_right 9 = .ok (.invokevirtual 162, 3) := by decide +kernel
theorem dX12_right_12 : decode cX12_right 12 = .ok (.ifCond .eq 14, 3) := by decide +kernel
theorem dX12_right_15 : decode cX12_right 15 = .ok (.iload 4, 2) := by decide +kernel
theorem dX12_right_17 : decode cX12_right 17 = .ok (.i2l, 1) := by decide +kernel
theorem dX12_right_18 : decode cX12_right 18 = .ok (.lconst 0, 1) := by decide +kernel
theorem dX12_right_19 : decode cX12_right 19 = .ok (.lconst 1, 1) := by decide +kernel
theorem dX12_right_20 : decode cX12_right 20 = .ok (.invokestatic 97, 3) := by decide +kernel
theorem dX12_right_23 : decode cX12_right 23 = .ok (.ifCond .ne 7, 3) := by decide +kernel
theorem dX12_right_26 : decode cX12_right 26 = .ok (.ldc2_w 326, 3) := by decide +kernel
theorem dX12_right_29 : decode cX12_right 29 = .ok (.lreturn, 1) := by decide +kernel
theorem dX12_right_30 : decode cX12_right 30 = .ok (.iconst 0, 1) := by decide +kernel
theorem dX12_right_31 : decode cX12_right 31 = .ok (.istore 5, 2) := by decide +kernel
theorem dX12_right_33 : decode cX12_right 33 = .ok (.iconst 0, 1) := by decide +kernel
theorem dX12_right_34 : decode cX12_right 34 = .ok (.istore 6, 2) := by decide +kernel
theorem dX12_right_36 : decode cX12_right 36 = .ok (.iload 6, 2) := by decide +kernel
theorem dX12_right_38 : decode cX12_right 38 = .ok (.aload_n 0, 1) := by decide +kernel
theorem dX12_right_39 : decode cX12_right 39 = .ok (.getfield 19, 3) := by decide +kernel
theorem dX12_right_42 : decode cX12_right 42 = .ok (.bipush 72, 2) := by decide +kernel
theorem dX12_right_44 : decode cX12_right 44 = .ok (.iaload, 1) := by decide +kernel
theorem dX12_right_45 : decode cX12_right 45 = .ok (.if_icmp .ge 21, 3) := by decide +kernel
theorem dX12_right_48 : decode cX12_right 48 = .ok (.iload 5, 2) := by decide +kernel
theorem dX12_right_50 : decode cX12_right 50 = .ok (.aload_n 0, 1) := by decide +kernel
theorem dX12_right_51 : decode cX12_right 51 = .ok (.iload 6, 2) := by decide +kernel
theorem dX12_right_53 : decode cX12_right 53 = .ok (.iconst 5, 1) := by decide +kernel
theorem dX12_right_54 : decode cX12_right 54 = .ok (.invokevirtual 168, 3) := by decide +kernel
theorem dX12_right_57 : decode cX12_right 57 = .ok (.iadd, 1) := by decide +kernel
theorem dX12_right_58 : decode cX12_right 58 = .ok (.istore 5, 2) := by decide +kernel
theorem dX12_right_60 : decode cX12_right 60 = .ok (.iinc 6 1, 3) := by decide +kernel
theorem dX12_right_63 : decode cX12_right 63 = .ok (.goto (-27), 3) := by decide +kernel
theorem dX12_right_66 : decode cX12_right 66 = .ok (.iload 5, 2) := by decide +kernel
theorem dX12_right_68 : decode cX12_right 68 = .ok (.ifCond .ne 7, 3) := by decide +kernel
theorem dX12_right_71 : decode cX12_right 71 = .ok (.ldc2_w 328, 3) := by decide +kernel
theorem dX12_right_74 : decode cX12_right 74 = .ok (.lreturn, 1) := by decide +kernel
theorem dX12_right_75 : decode cX12_right 75 = .ok (.aload_n 0, 1) := by decide +kernel
theorem dX12_right_76 : decode cX12_right 76 = .ok (.iload_n 1, 1) := by decide +kernel
theorem dX12_right_77 : decode cX12_right 77 = .ok (.iload_n 2, 1) := by decide +kernel
theorem dX12_right_78 : decode cX12_right 78 = .ok (.invokevirtual 286, 3) := by decide +kernel
theorem dX12_right_81 : decode cX12_right 81 = .ok (.aload_n 0, 1) := by decide +kernel
theorem dX12_right_82 : decode cX12_right 82 = .ok (.getfield 200, 3) := by decide +kernel
theorem dX12_right_85 : decode cX12_right 85 = .ok (.i2l, 1) := by decide +kernel
theorem dX12_right_86 : decode cX12_right 86 = .ok (.aload_n 0, 1) := by decide +kernel
theorem dX12_right_87 : decode cX12_right 87 = .ok (.iload_n 3, 1) := by decide +kernel
theorem dX12_right_88 : decode cX12_right 88 = .ok (.iconst 5, 1) := by decide +kernel
theorem dX12_right_89 : decode cX12_right 89 = .ok (.invokevirtual 168, 3) := by decide +kernel
theorem dX12_right_92 : decode cX12_right 92 = .ok (.i2l, 1) := by decide +kernel
theorem dX12_right_93 : decode cX12_right 93 = .ok (.lmul, 1) := by decide +kernel
theorem dX12_right_94 : decode cX12_right 94 = .ok (.iload 5, 2) := by decide +kernel
theorem dX12_right_96 : decode cX12_right 96 = .ok (.i2l, 1) := by decide +kernel
theorem dX12_right_97 : decode cX12_right 97 = .ok (.iload 4, 2) := by decide +kernel
theorem dX12_right_99 : decode cX12_right 99 = .ok (.invokestatic 330, 3) := by decide +kernel
theorem dX12_right_102 : decode cX12_right 102 = .ok (.lreturn, 1) := by decide +kernel
theorem dX12_round_0 : decode cX12_round 0 = .ok (.iload_n 1, 1) := by decide +kernel
theorem dX12_round_1 : decode cX12_round 1 = .ok (.invokestatic 283, 3) := by decide +kernel
theorem dX12_round_4 : decode cX12_round 4 = .ok (.ifCond .eq 16, 3) := by decide +kernel
theorem dX12_round_7 : decode cX12_round 7 = .ok (.iload 4, 2) := by decide +kernel
theorem dX12_round_9 : decode cX12_round 9 = .ok (.i2l, 1) := by decide +kernel
theorem dX12_round_10 : decode cX12_round 10 = .ok (.lconst 0, 1) := by decide +kernel
theorem dX12_round_11 : decode cX12_round 11 = .ok (.ldc2_w 292, 3) := by decide +kernel
theorem dX12_round_14 : decode cX12_round 14 = .ok (.invokestatic 97, 3) := by decide +kernel
theorem dX12_round_17 : decode cX12_round 17 = .ok (.ifCond .ne 5, 3) := by decide +kernel
theorem dX12_round_20 : decode cX12_round 20 = .ok (.iconst (-1), 1) := by decide +kernel
theorem dX12_round_21 : decode cX12_round 21 = .ok (.ireturn, 1) := by decide +kernel
theorem dX12_round_22 : decode cX12_round 22 = .ok (.aload_n 0, 1) := by decide +kernel
theorem dX12_round_23 : decode cX12_round 23 = .ok (.iload_n 1, 1) := by decide +kernel
theorem dX12_round_24 : decode cX12_round 24 = .ok (.iload_n 2, 1) := by decide +kernel
theorem dX12_round_25 : decode cX12_round 25 = .ok (.invokevirtual 286, 3) := by decide +kernel
theorem dX12_round_28 : decode cX12_round 28 = .ok (.iload_n 3, 1) := by decide +kernel
theorem dX12_round_29 : decode cX12_round 29 = .ok (.i2l, 1) := by decide +kernel
theorem dX12_round_30 : decode cX12_round 30 = .ok (.lconst 0, 1) := by decide +kernel
theorem dX12_round_31 : decode cX12_round 31 = .ok (.aload_n 0, 1) := by decide +kernel
theorem dX12_round_32 : decode cX12_round 32 = .ok (.getfield 197, 3) := by decide +kernel
theorem dX12_round_35 : decode cX12_round 35 = .ok (.iconst 1, 1) := by decide +kernel
theorem dX12_round_36 : decode cX12_round 36 = .ok (.isub, 1) := by decide +kernel
theorem dX12_round_37 : decode cX12_round 37 = .ok (.i2l, 1) := by decide +kernel
theorem dX12_round_38 : decode cX12_round 38 = .ok (.invokestatic 97, 3) := by decide +kernel
theorem dX12_round_41 : decode cX12_round 41 = .ok (.ifCond .eq 17, 3) := by decide +kernel
theorem dX12_round_44 : decode cX12_round 44 = .ok (.aload_n 0, 1) := by decide +kernel
theorem dX12_round_45 : decode cX12_round 45 = .ok (.getfield 59, 3) := by decide +kernel
theorem dX12_round_48 : decode cX12_round 48 = .ok (.iconst 5, 1) := by decide +kernel
theorem dX12_round_49 : decode cX12_round 49 = .ok (.iload_n 3, 1) := by decide +kernel
theorem dX12_round_50 : decode cX12_round 50 = .ok (.imul, 1) := by decide +kernel
theorem dX12_round_51 : decode cX12_round 51 = .ok (.iload 4, 2) := by decide +kernel
theorem dX12_round_53 : decode cX12_round 53 = .ok (.iadd, 1) := by decide +kernel
theorem dX12_round_54 : decode cX12_round 54 = .ok (.iaload, 1) := by decide +kernel
theorem dX12_round_55 : decode cX12_round 55 = .ok (.goto 4, 3) := by decide +kernel
theorem dX12_round_58 : decode cX12_round 58 = .ok (.iconst (-1), 1) := by decide +kernel
theorem dX12_round_59 : decode cX12_round 59 = .ok (.ireturn, 1) := by decide +kernel
theorem dX12_set_0 : decode cX12_set 0 = .ok (.aload_n 0, 1) := by decide +kernel
theorem dX12_set_1 : decode cX12_set 1 = .ok (.iload_n 1, 1) := by decide +kernel
theorem dX12_set_2 : decode cX12_set 2 = .ok (.invokevirtual 162, 3) := by decide +kernel
theorem dX12_set_5 : decode cX12_set 5 = .ok (.ifCond .eq 13, 3) := by decide +kernel
theorem dX12_set_8 : decode cX12_set 8 = .ok (.aload_n 0, 1) := by decide +kernel
theorem dX12_set_9 : decode cX12_set 9 = .ok (.iload_n 1, 1) := by decide +kernel
theorem dX12_set_10 : decode cX12_set 10 = .ok (.iload_n 2, 1) := by decide +kernel
theorem dX12_set_11 : decode cX12_set 11 = .ok (.iload_n 3, 1) := by decide +kernel
theorem dX12_set_12 : decode cX12_set 12 = .ok (.invokevirtual 184, 3) := by decide +kernel
theorem dX12_set_15 : decode cX12_set 15 = .ok (.ifCond .ne 6, 3) := by decide +kernel
theorem dX12_set_18 : decode cX12_set 18 = .ok (.ldc 171, 2) := by decide +kernel
theorem dX12_set_20 : decode cX12_set 20 = .ok (.ireturn, 1) := by decide +kernel
theorem dX12_set_21 : decode cX12_set 21 = .ok (.aload_n 0, 1) := by decide +kernel
theorem dX12_set_22 : decode cX12_set 22 = .ok (.iload_n 1, 1) := by decide +kernel
theorem dX12_set_23 : decode cX12_set 23 = .ok (.iload_n 2, 1) := by decide +kernel
theorem dX12_set_24 : decode cX12_set 24 = .ok (.invokevirtual 168, 3) := by decide +kernel
theorem dX12_set_27 : decode cX12_set 27 = .ok (.istore 4, 2) := by decide +kernel
theorem dX12_set_29 : decode cX12_set 29 = .ok (.aload_n 0, 1) := by decide +kernel
theorem dX12_set_30 : decode cX12_set 30 = .ok (.getfield 19, 3) := by decide +kernel
theorem dX12_set_33 : decode cX12_set 33 = .ok (.bipush 9, 2) := by decide +kernel
theorem dX12_set_35 : decode cX12_set 35 = .ok (.iload_n 1, 1) := by decide +kernel
theorem dX12_set_36 : decode cX12_set 36 = .ok (.imul, 1) := by decide +kernel
theorem dX12_set_37 : decode cX12_set 37 = .ok (.iload_n 2, 1) := by decide +kernel
theorem dX12_set_38 : decode cX12_set 38 = .ok (.iadd, 1) := by decide +kernel
theorem dX12_set_39 : decode cX12_set 39 = .ok (.iload_n 3, 1) := by decide +kernel
theorem dX12_set_40 : decode cX12_set 40 = .ok (.iastore, 1) := by decide +kernel
theorem dX12_set_41 : decode cX12_set 41 = .ok (.iload 4, 2) := by decide +kernel
theorem dX12_set_43 : decode cX12_set 43 = .ok (.ireturn, 1) := by decide +kernel
theorem dX12_sheet_0 : decode cX12_sheet 0 = .ok (.iload_n 1, 1) := by decide +kernel
theorem dX12_sheet_1 : decode cX12_sheet 1 = .ok (.i2l, 1) := by decide +kernel
theorem dX12_sheet_2 : decode cX12_sheet 2 = .ok (.lconst 0, 1) := by decide +kernel
theorem dX12_sheet_3 : decode cX12_sheet 3 = .ok (.ldc2_w 294, 3) := by decide +kernel
theorem dX12_sheet_6 : decode cX12_sheet 6 = .ok (.invokestatic 97, 3) := by decide +kernel
theorem dX12_sheet_9 : decode cX12_sheet 9 = .ok (.ifCond .eq 21, 3) := by decide +kernel
theorem dX12_sheet_12 : decode cX12_sheet 12 = .ok (.iload_n 2, 1) := by decide +kernel
theorem dX12_sheet_13 : decode cX12_sheet 13 = .ok (.i2l, 1) := by decide +kernel
theorem dX12_sheet_14 : decode cX12_sheet 14 = .ok (.lconst 0, 1) := by decide +kernel
theorem dX12_sheet_15 : decode cX12_sheet 15 = .ok (.ldc2_w 349, 3) := by decide +kernel
theorem dX12_sheet_18 : decode cX12_sheet 18 = .ok (.invokestatic 97, 3) := by decide +kernel
theorem dX12_sheet_21 : decode cX12_sheet 21 = .ok (.ifCond .eq 9, 3) := by decide +kernel
theorem dX12_sheet_24 : decode cX12_sheet 24 = .ok (.iload_n 3, 1) := by decide +kernel
theorem dX12_sheet_25 : decode cX12_sheet 25 = .ok (.bipush 40, 2) := by decide +kernel
theorem dX12_sheet_27 : decode cX12_sheet 27 = .ok (.if_icmp .le 5, 3) := by decide +kernel
theorem dX12_sheet_30 : decode cX12_sheet 30 = .ok (.iconst (-1), 1) := by decide +kernel
theorem dX12_sheet_31 : decode cX12_sheet 31 = .ok (.ireturn, 1) := by decide +kernel
theorem dX12_sheet_32 : decode cX12_sheet 32 = .ok (.iload_n 3, 1) := by decide +kernel
theorem dX12_sheet_33 : decode cX12_sheet 33 = .ok (.ifCond .ge 6, 3) := by decide +kernel
theorem dX12_sheet_36 : decode cX12_sheet 36 = .ok (.bipush (-14), 2) := by decide +kernel
theorem dX12_sheet_38 : decode cX12_sheet 38 = .ok (.ireturn, 1) := by decide +kernel
theorem dX12_sheet_39 : decode cX12_sheet 39 = .ok (.aload_n 0, 1) := by decide +kernel
theorem dX12_sheet_40 : decode cX12_sheet 40 = .ok (.getfield 80, 3) := by decide +kernel
theorem dX12_sheet_43 : decode cX12_sheet 43 = .ok (.iload_n 1, 1) := by decide +kernel
theorem dX12_sheet_44 : decode cX12_sheet 44 = .ok (.iload_n 2, 1) := by decide +kernel
theorem dX12_sheet_45 : decode cX12_sheet 45 = .ok (.iastore, 1) := by decide +kernel
theorem dX12_sheet_46 : decode cX12_sheet 46 = .ok (.aload_n 0, 1) := by decide +kernel
theorem dX12_sheet_47 : decode cX12_sheet 47 = .ok (.getfield 83, 3) := by decide +kernel
theorem dX12_sheet_50 : decode cX12_sheet 50 = .ok (.iload_n 1, 1) := by decide +kernel
theorem dX12_sheet_51 : decode cX12_sheet 51 = .ok (.iload_n 3, 1) := by decide +kernel
theorem dX12_sheet_52 : decode cX12_sheet 52 = .ok (.iastore, 1) := by decide +kernel
theorem dX12_sheet_53 : decode cX12_sheet 53 = .ok (.iconst 0, 1) := by decide +kernel
theorem dX12_sheet_54 : decode cX12_sheet 54 = .ok (.istore 4, 2) := by decide +kernel
theorem dX12_sheet_56 : decode cX12_sheet 56 = .ok (.iload 4, 2) := by decide +kernel
theorem dX12_sheet_58 : decode cX12_sheet 58 = .ok (.bipush 40, 2) := by decide +kernel
theorem dX12_sheet_60 : decode cX12_sheet 60 = .ok (.if_icmp .ge 22, 3) := by decide +kernel
theorem dX12_sheet_63 : decode cX12_sheet 63 = .ok (.aload_n 0, 1) := by decide +kernel
theorem dX12_sheet_64 : decode cX12_sheet 64 = .ok (.getfield 86, 3) := by decide +kernel
theorem dX12_sheet_67 : decode cX12_sheet 67 = .ok (.bipush 40, 2) := by decide +kernel
theorem dX12_sheet_69 : decode cX12_sheet 69 = .ok (.iload_n 1, 1) := by decide +kernel
theorem dX12_sheet_70 : decode cX12_sheet 70 = .ok (.imul, 1) := by decide +kernel
theorem dX12_sheet_71 : decode cX12_sheet 71 = .ok (.iload 4, 2) := by decide +kernel
theorem dX12_sheet_73 : decode cX12_sheet 73 = .ok (.iadd, 1) := by decide +kernel
theorem dX12_sheet_74 : decode cX12_sheet 74 = .ok (.iconst 0, 1) := by decide +kernel
theorem dX12_sheet_75 : decode cX12_sheet 75 = .ok (.iastore, 1) := by decide +kernel
theorem dX12_sheet_76 : decode cX12_sheet 76 = .ok (.iinc 4 1, 3) := by decide +kernel
theorem dX12_sheet_79 : decode cX12_sheet 79 = .ok (.goto (-23), 3) := by decide +kernel
theorem dX12_sheet_82 : decode cX12_sheet 82 = .ok (.iconst 1, 1) := by decide +kernel
theorem dX12_sheet_83 : decode cX12_sheet 83 = .ok (.ireturn, 1) := by decide +kernel
theorem dX12_shut_0 : decode cX12_shut 0 = .ok (.aload_n 0, 1) := by decide +kernel
theorem dX12_shut_1 : decode cX12_shut 1 = .ok (.getfield 19, 3) := by decide +kernel
theorem dX12_shut_4 : decode cX12_shut 4 = .ok (.bipush 86, 2) := by decide +kernel
theorem dX12_shut_6 : decode cX12_shut 6 = .ok (.iaload, 1) := by decide +kernel
theorem dX12_shut_7 : decode cX12_shut 7 = .ok (.istore_n 1, 1) := by decide +kernel
theorem dX12_shut_8 : decode cX12_shut 8 = .ok (.aload_n 0, 1) := by decide +kernel
theorem dX12_shut_9 : decode cX12_shut 9 = .ok (.getfield 19, 3) := by decide +kernel
theorem dX12_shut_12 : decode cX12_shut 12 = .ok (.bipush 86, 2) := by decide +kernel
theorem dX12_shut_14 : decode cX12_shut 14 = .ok (.iconst 0, 1) := by decide +kernel
theorem dX12_shut_15 : decode cX12_shut 15 = .ok (.iastore, 1) := by decide +kernel
theorem dX12_shut_16 : decode cX12_shut 16 = .ok (.iload_n 1, 1) := by decide +kernel
theorem dX12_shut_17 : decode cX12_shut 17 = .ok (.ireturn, 1) := by decide +kernel
theorem dX12_size_0 : decode cX12_size 0 = .ok (.iload_n 0, 1) := by decide +kernel
theorem dX12_size_1 : decode cX12_size 1 = .ok (.ifCond .ge 8, 3) := by decide +kernel
theorem dX12_size_4 : decode cX12_size 4 = .ok (.iload_n 0, 1) := by decide +kernel
theorem dX12_size_5 : decode cX12_size 5 = .ok (.ineg, 1) := by decide +kernel
theorem dX12_size_6 : decode cX12_size 6 = .ok (.goto 4, 3) := by decide +kernel
theorem dX12_size_9 : decode cX12_size 9 = .ok (.iload_n 0, 1) := by decide +kernel
theorem dX12_size_10 : decode cX12_size 10 = .ok (.ireturn, 1) := by decide +kernel
theorem dX12_slow_0 : decode cX12_slow 0 = .ok (.aload_n 0, 1) := by decide +kernel
theorem dX12_slow_1 : decode cX12_slow 1 = .ok (.iload_n 1, 1) := by decide +kernel
theorem dX12_slow_2 : decode cX12_slow 2 = .ok (.invokevirtual 162, 3) := by decide +kernel
theorem dX12_slow_5 : decode cX12_slow 5 = .ok (.ifCond .eq 21, 3) := by decide +kernel
theorem dX12_slow_8 : decode cX12_slow 8 = .ok (.iload_n 2, 1) := by decide +kernel
theorem dX12_slow_9 : decode cX12_slow 9 = .ok (.invokestatic 283, 3) := by decide +kernel
theorem dX12_slow_12 : decode cX12_slow 12 = .ok (.ifCond .eq 14, 3) := by decide +kernel
theorem dX12_slow_15 : decode cX12_slow 15 = .ok (.iload 4, 2) := by decide +kernel
theorem dX12_slow_17 : decode cX12_slow 17 = .ok (.i2l, 1) := by decide +kernel
theorem dX12_slow_18 : decode cX12_slow 18 = .ok (.lconst 0, 1) := by decide +kernel
theorem dX12_slow_19 : decode cX12_slow 19 = .ok (.lconst 1, 1) := by decide +kernel
theorem dX12_slow_20 : decode cX12_slow 20 = .ok (.invokestatic 97, 3) := by decide +kernel
theorem dX12_slow_23 : decode cX12_slow 23 = .ok (.ifCond .ne 5, 3) := by decide +kernel
theorem dX12_slow_26 : decode cX12_slow 26 = .ok (.iconst (-1), 1) := by decide +kernel
theorem dX12_slow_27 : decode cX12_slow 27 = .ok (.ireturn, 1) := by decide +kernel
theorem dX12_slow_28 : decode cX12_slow 28 = .ok (.aload_n 0, 1) := by decide +kernel
theorem dX12_slow_29 : decode cX12_slow 29 = .ok (.iload_n 1, 1) := by decide +kernel
theorem dX12_slow_30 : decode cX12_slow 30 = .ok (.iload_n 2, 1) := by decide +kernel
theorem dX12_slow_31 : decode cX12_slow 31 = .ok (.iload_n 3, 1) := by decide +kernel
theorem dX12_slow_32 : decode cX12_slow 32 = .ok (.iconst 3, 1) := by decide +kernel
theorem dX12_slow_33 : decode cX12_slow 33 = .ok (.iconst 1, 1) := by decide +kernel
theorem dX12_slow_34 : decode cX12_slow 34 = .ok (.bipush 99, 2) := by decide +kernel
theorem dX12_slow_36 : decode cX12_slow 36 = .ok (.invokevirtual 322, 3) := by decide +kernel
theorem dX12_slow_39 : decode cX12_slow 39 = .ok (.iload 4, 2) := by decide +kernel
theorem dX12_slow_41 : decode cX12_slow 41 = .ok (.ifCond .ne 10, 3) := by decide +kernel
theorem dX12_slow_44 : decode cX12_slow 44 = .ok (.aload_n 0, 1) := by decide +kernel
theorem dX12_slow_45 : decode cX12_slow 45 = .ok (.getfield 316, 3) := by decide +kernel
theorem dX12_slow_48 : decode cX12_slow 48 = .ok (.goto 7, 3) := by decide +kernel
theorem dX12_slow_51 : decode cX12_slow 51 = .ok (.aload_n 0, 1) := by decide +kernel
theorem dX12_slow_52 : decode cX12_slow 52 = .ok (.getfield 319, 3) := by decide +kernel
theorem dX12_slow_55 : decode cX12_slow 55 = .ok (.ireturn, 1) := by decide +kernel
theorem dX12_sure_0 : decode cX12_sure 0 = .ok (.iload_n 2, 1) := by decide +kernel
theorem dX12_sure_1 : decode cX12_sure 1 = .ok (.i2l, 1) := by decide +kernel
theorem dX12_sure_2 : decode cX12_sure 2 = .ok (.lconst 0, 1) := by decide +kernel
theorem dX12_sure_3 : decode cX12_sure 3 = .ok (.lconst 1, 1) := by decide +kernel
theorem dX12_sure_4 : decode cX12_sure 4 = .ok (.invokestatic 97, 3) := by decide +kernel
theorem dX12_sure_7 : decode cX12_sure 7 = .ok (.ifCond .ne 5, 3) := by decide +kernel
theorem dX12_sure_10 : decode cX12_sure 10 = .ok (.iconst (-1), 1) := by decide +kernel
theorem dX12_sure_11 : decode cX12_sure 11 = .ok (.ireturn, 1) := by decide +kernel
theorem dX12_sure_12 : decode cX12_sure 12 = .ok (.aload_n 0, 1) := by decide +kernel
theorem dX12_sure_13 : decode cX12_sure 13 = .ok (.getfield 19, 3) := by decide +kernel
theorem dX12_sure_16 : decode cX12_sure 16 = .ok (.bipush 72, 2) := by decide +kernel
theorem dX12_sure_18 : decode cX12_sure 18 = .ok (.iaload, 1) := by decide +kernel
theorem dX12_sure_19 : decode cX12_sure 19 = .ok (.ifCond .ne 6, 3) := by decide +kernel
theorem dX12_sure_22 : decode cX12_sure 22 = .ok (.bipush (-2), 2) := by decide +kernel
theorem dX12_sure_24 : decode cX12_sure 24 = .ok (.ireturn, 1) := by decide +kernel
theorem dX12_sure_25 : decode cX12_sure 25 = .ok (.iconst 0, 1) := by decide +kernel
theorem dX12_sure_26 : decode cX12_sure 26 = .ok (.istore_n 3, 1) := by decide +kernel
theorem dX12_sure_27 : decode cX12_sure 27 = .ok (.iconst 0, 1) := by decide +kernel
theorem dX12_sure_28 : decode cX12_sure 28 = .ok (.istore 4, 2) := by decide +kernel
theorem dX12_sure_30 : decode cX12_sure 30 = .ok (.iconst 0, 1) := by decide +kernel
theorem dX12_sure_31 : decode cX12_sure 31 = .ok (.istore 5, 2) := by decide +kernel
theorem dX12_sure_33 : decode cX12_sure 33 = .ok (.iload 5, 2) := by decide +kernel
theorem dX12_sure_35 : decode cX12_sure 35 = .ok (.bipush 7, 2) := by decide +kernel
theorem dX12_sure_37 : decode cX12_sure 37 = .ok (.if_icmp .ge 111, 3) := by decide +kernel
theorem dX12_sure_40 : decode cX12_sure 40 = .ok (.iconst 0, 1) := by decide +kernel
theorem dX12_sure_41 : decode cX12_sure 41 = .ok (.istore 6, 2) := by decide +kernel
theorem dX12_sure_43 : decode cX12_sure 43 = .ok (.iconst 0, 1) := by decide +kernel
theorem dX12_sure_44 : decode cX12_sure 44 = .ok (.istore 7, 2) := by decide +kernel
theorem dX12_sure_46 : decode cX12_sure 46 = .ok (.iload 7, 2) := by decide +kernel
theorem dX12_sure_48 : decode cX12_sure 48 = .ok (.aload_n 0, 1) := by decide +kernel
theorem dX12_sure_49 : decode cX12_sure 49 = .ok (.getfield 19, 3) := by decide +kernel
theorem dX12_sure_52 : decode cX12_sure 52 = .ok (.bipush 72, 2) := by decide +kernel
theorem dX12_sure_54 : decode cX12_sure 54 = .ok (.iaload, 1) := by decide +kernel
theorem dX12_sure_55 : decode cX12_sure 55 = .ok (.if_icmp .ge 42, 3) := by decide +kernel
theorem dX12_sure_58 : decode cX12_sure 58 = .ok (.aload_n 0, 1) := by decide +kernel
theorem dX12_sure_59 : decode cX12_sure 59 = .ok (.iload 7, 2) := by decide +kernel
theorem dX12_sure_61 : decode cX12_sure 61 = .ok (.iload 5, 2) := by decide +kernel
theorem dX12_sure_63 : decode cX12_sure 63 = .ok (.iload_n 1, 1) := by decide +kernel
theorem dX12_sure_64 : decode cX12_sure 64 = .ok (.iconst 3, 1) := by decide +kernel
theorem dX12_sure_65 : decode cX12_sure 65 = .ok (.iconst 1, 1) := by decide +kernel
theorem dX12_sure_66 : decode cX12_sure 66 = .ok (.bipush 99, 2) := by decide +kernel
theorem dX12_sure_68 : decode cX12_sure 68 = .ok (.invokevirtual 322, 3) := by decide +kernel
theorem dX12_sure_71 : decode cX12_sure 71 = .ok (.aload_n 0, 1) := by decide +kernel
theorem dX12_sure_72 : decode cX12_sure 72 = .ok (.getfield 316, 3) := by decide +kernel
theorem dX12_sure_75 : decode cX12_sure 75 = .ok (.iload 6, 2) := by decide +kernel
theorem dX12_sure_77 : decode cX12_sure 77 = .ok (.if_icmp .le 10, 3) := by decide +kernel
theorem dX12_sure_80 : decode cX12_sure 80 = .ok (.aload_n 0, 1) := by decide +kernel
theorem dX12_sure_81 : decode cX12_sure 81 = .ok (.getfield 316, 3) := by decide +kernel
theorem dX12_sure_84 : decode cX12_sure 84 = .ok (.goto 5, 3) := by decide +kernel
theorem dX12_sure_87 : decode cX12_sure 87 = .ok (.iload 6, 2) := by decide +kernel
theorem dX12_sure_89 : decode cX12_sure 89 = .ok (.istore 6, 2) := by decide +kernel
theorem dX12_sure_91 : decode cX12_sure 91 = .ok (.iinc 7 1, 3) := by decide +kernel
theorem dX12_sure_94 : decode cX12_sure 94 = .ok (.goto (-48), 3) := by decide +kernel
theorem dX12_sure_97 : decode cX12_sure 97 = .ok (.iload 5, 2) := by decide +kernel
theorem dX12_sure_99 : decode cX12_sure 99 = .ok (.ifCond .eq 10, 3) := by decide +kernel
theorem dX12_sure_102 : decode cX12_sure 102 = .ok (.iload 6, 2) := by decide +kernel
theorem dX12_sure_104 : decode cX12_sure 104 = .ok (.iload 4, 2) := by decide +kernel
theorem dX12_sure_106 : decode cX12_sure 106 = .ok (.if_icmp .ge 7, 3) := by decide +kernel
theorem dX12_sure_109 : decode cX12_sure 109 = .ok (.iconst 1, 1) := by decide +kernel
theorem dX12_sure_110 : decode cX12_sure 110 = .ok (.goto 4, 3) := by decide +kernel
theorem dX12_sure_113 : decode cX12_sure 113 = .ok (.iconst 0, 1) := by decide +kernel
theorem dX12_sure_114 : decode cX12_sure 114 = .ok (.istore 7, 2) := by decide +kernel
theorem dX12_sure_116 : decode cX12_sure 116 = .ok (.iload 7, 2) := by decide +kernel
theorem dX12_sure_118 : decode cX12_sure 118 = .ok (.ifCond .eq 8, 3) := by decide +kernel
theorem dX12_sure_121 : decode cX12_sure 121 = .ok (.iload 5, 2) := by decide +kernel
theorem dX12_sure_123 : decode cX12_sure 123 = .ok (.goto 4, 3) := by decide +kernel
theorem dX12_sure_126 : decode cX12_sure 126 = .ok (.iload_n 3, 1) := by decide +kernel
theorem dX12_sure_127 : decode cX12_sure 127 = .ok (.istore_n 3, 1) := by decide +kernel
theorem dX12_sure_128 : decode cX12_sure 128 = .ok (.iload 7, 2) := by decide +kernel
theorem dX12_sure_130 : decode cX12_sure 130 = .ok (.ifCond .eq 8, 3) := by decide +kernel
theorem dX12_sure_133 : decode cX12_sure 133 = .ok (.iload 6, 2) := by decide +kernel
theorem dX12_sure_135 : decode cX12_sure 135 = .ok (.goto 5, 3) := by decide +kernel
theorem dX12_sure_138 : decode cX12_sure 138 = .ok (.iload 4, 2) := by decide +kernel
theorem dX12_sure_140 : decode cX12_sure 140 = .ok (.istore 4, 2) := by decide +kernel
theorem dX12_sure_142 : decode cX12_sure 142 = .ok (.iinc 5 1, 3) := by decide +kernel
theorem dX12_sure_145 : decode cX12_sure 145 = .ok (.goto (-112), 3) := by decide +kernel
theorem dX12_sure_148 : decode cX12_sure 148 = .ok (.iload_n 2, 1) := by decide +kernel
theorem dX12_sure_149 : decode cX12_sure 149 = .ok (.ifCond .ne 7, 3) := by decide +kernel
theorem dX12_sure_152 : decode cX12_sure 152 = .ok (.iload_n 3, 1) := by decide +kernel
theorem dX12_sure_153 : decode cX12_sure 153 = .ok (.goto 5, 3) := by decide +kernel
theorem dX12_sure_156 : decode cX12_sure 156 = .ok (.iload 4, 2) := by decide +kernel
theorem dX12_sure_158 : decode cX12_sure 158 = .ok (.ireturn, 1) := by decide +kernel
theorem dX12_table_0 : decode cX12_table 0 = .ok (.aload_n 0, 1) := by decide +kernel
theorem dX12_table_1 : decode cX12_table 1 = .ok (.iconst 0, 1) := by decide +kernel
theorem dX12_table_2 : decode cX12_table 2 = .ok (.putfield 101, 3) := by decide +kernel
theorem dX12_table_5 : decode cX12_table 5 = .ok (.aload_n 0, 1) := by decide +kernel
theorem dX12_table_6 : decode cX12_table 6 = .ok (.iconst 0, 1) := by decide +kernel
theorem dX12_table_7 : decode cX12_table 7 = .ok (.putfield 113, 3) := by decide +kernel
theorem dX12_table_10 : decode cX12_table 10 = .ok (.aload_n 0, 1) := by decide +kernel
theorem dX12_table_11 : decode cX12_table 11 = .ok (.iconst 0, 1) := by decide +kernel
theorem dX12_table_12 : decode cX12_table 12 = .ok (.putfield 153, 3) := by decide +kernel
theorem dX12_table_15 : decode cX12_table 15 = .ok (.aload_n 0, 1) := by decide +kernel
theorem dX12_table_16 : decode cX12_table 16 = .ok (.getfield 22, 3) := by decide +kernel
theorem dX12_table_19 : decode cX12_table 19 = .ok (.bipush 72, 2) := by decide +kernel
theorem dX12_table_21 : decode cX12_table 21 = .ok (.iconst 0, 1) := by decide +kernel
theorem dX12_table_22 : decode cX12_table 22 = .ok (.iastore, 1) := by decide +kernel
theorem dX12_table_23 : decode cX12_table 23 = .ok (.aload_n 0, 1) := by decide +kernel
theorem dX12_table_24 : decode cX12_table 24 = .ok (.getfield 22, 3) := by decide +kernel
theorem dX12_table_27 : decode cX12_table 27 = .ok (.bipush 73, 2) := by decide +kernel
theorem dX12_table_29 : decode cX12_table 29 = .ok (.iconst 1, 1) := by decide +kernel
theorem dX12_table_30 : decode cX12_table 30 = .ok (.iastore, 1) := by decide +kernel
theorem dX12_table_31 : decode cX12_table 31 = .ok (.iconst 0, 1) := by decide +kernel
theorem dX12_table_32 : decode cX12_table 32 = .ok (.istore_n 1, 1) := by decide +kernel
theorem dX12_table_33 : decode cX12_table 33 = .ok (.aload_n 0, 1) := by decide +kernel
theorem dX12_table_34 : decode cX12_table 34 = .ok (.invokevirtual 135, 3) := by decide +kernel
theorem dX12_table_37 : decode cX12_table 37 = .ok (.aload_n 0, 1) := by decide +kernel
theorem dX12_table_38 : decode cX12_table 38 = .ok (.getfield 101, 3) := by decide +kernel
theorem dX12_table_41 : decode cX12_table 41 = .ok (.ifCond .ne 20, 3) := by decide +kernel
theorem dX12_table_44 : decode cX12_table 44 = .ok (.aload_n 0, 1) := by decide +kernel
theorem dX12_table_45 : decode cX12_table 45 = .ok (.getfield 110, 3) := by decide +kernel
theorem dX12_table_48 : decode cX12_table 48 = .ok (.ifCond .eq 13, 3) := by decide +kernel
theorem dX12_table_51 : decode cX12_table 51 = .ok (.aload_n 0, 1) := by decide +kernel
theorem dX12_table_52 : decode cX12_table 52 = .ok (.invokevirtual 156, 3) := by decide +kernel
theorem dX12_table_55 : decode cX12_table 55 = .ok (.iinc 1 1, 3) := by decide +kernel
theorem dX12_table_58 : decode cX12_table 58 = .ok (.goto (-21), 3) := by decide +kernel
theorem dX12_table_61 : decode cX12_table 61 = .ok (.aload_n 0, 1) := by decide +kernel
theorem dX12_table_62 : decode cX12_table 62 = .ok (.iconst 0, 1) := by decide +kernel
theorem dX12_table_63 : decode cX12_table 63 = .ok (.putfield 93, 3) := by decide +kernel
theorem dX12_table_66 : decode cX12_table 66 = .ok (.aload_n 0, 1) := by decide +kernel
theorem dX12_table_67 : decode cX12_table 67 = .ok (.aload_n 0, 1) := by decide +kernel
theorem dX12_table_68 : decode cX12_table 68 = .ok (.getfield 101, 3) := by decide +kernel
theorem dX12_table_71 : decode cX12_table 71 = .ok (.putfield 159, 3) := by decide +kernel
theorem dX12_table_74 : decode cX12_table 74 = .ok (.aload_n 0, 1) := by decide +kernel
theorem dX12_table_75 : decode cX12_table 75 = .ok (.getfield 101, 3) := by decide +kernel
theorem dX12_table_78 : decode cX12_table 78 = .ok (.ifCond .le 11, 3) := by decide +kernel
theorem dX12_table_81 : decode cX12_table 81 = .ok (.bipush (-10), 2) := by decide +kernel
theorem dX12_table_83 : decode cX12_table 83 = .ok (.aload_n 0, 1) := by decide +kernel
theorem dX12_table_84 : decode cX12_table 84 = .ok (.getfield 107, 3) := by decide +kernel
theorem dX12_table_87 : decode cX12_table 87 = .ok (.isub, 1) := by decide +kernel
theorem dX12_table_88 : decode cX12_table 88 = .ok (.ireturn, 1) := by decide +kernel
theorem dX12_table_89 : decode cX12_table 89 = .ok (.iconst 0, 1) := by decide +kernel
theorem dX12_table_90 : decode cX12_table 90 = .ok (.istore_n 2, 1) := by decide +kernel
theorem dX12_table_91 : decode cX12_table 91 = .ok (.iload_n 2, 1) := by decide +kernel
theorem dX12_table_92 : decode cX12_table 92 = .ok (.bipush 74, 2) := by decide +kernel
theorem dX12_table_94 : decode cX12_table 94 = .ok (.if_icmp .ge 21, 3) := by decide +kernel
theorem dX12_table_97 : decode cX12_table 97 = .ok (.aload_n 0, 1) := by decide +kernel
theorem dX12_table_98 : decode cX12_table 98 = .ok (.getfield 19, 3) := by decide +kernel
theorem dX12_table_101 : decode cX12_table 101 = .ok (.iload_n 2, 1) := by decide +kernel
theorem dX12_table_102 : decode cX12_table 102 = .ok (.aload_n 0, 1) := by decide +kernel
theorem dX12_table_103 : decode cX12_table 103 = .ok (.getfield 22, 3) := by decide +kernel
theorem dX12_table_106 : decode cX12_table 106 = .ok (.iload_n 2, 1) := by decide +kernel
theorem dX12_table_107 : decode cX12_table 107 = .ok (.iaload, 1) := by decide +kernel
theorem dX12_table_108 : decode cX12_table 108 = .ok (.iastore, 1) := by decide +kernel
theorem dX12_table_109 : decode cX12_table 109 = .ok (.iinc 2 1, 3) := by decide +kernel
theorem dX12_table_112 : decode cX12_table 112 = .ok (.goto (-21), 3) := by decide +kernel
theorem dX12_table_115 : decode cX12_table 115 = .ok (.aload_n 0, 1) := by decide +kernel
theorem dX12_table_116 : decode cX12_table 116 = .ok (.getfield 19, 3) := by decide +kernel
theorem dX12_table_119 : decode cX12_table 119 = .ok (.bipush 86, 2) := by decide +kernel
theorem dX12_table_121 : decode cX12_table 121 = .ok (.iconst 0, 1) := by decide +kernel
theorem dX12_table_122 : decode cX12_table 122 = .ok (.iastore, 1) := by decide +kernel
theorem dX12_table_123 : decode cX12_table 123 = .ok (.aload_n 0, 1) := by decide +kernel
theorem dX12_table_124 : decode cX12_table 124 = .ok (.iconst 1, 1) := by decide +kernel
theorem dX12_table_125 : decode cX12_table 125 = .ok (.putfield 89, 3) := by decide +kernel
theorem dX12_table_128 : decode cX12_table 128 = .ok (.iload_n 1, 1) := by decide +kernel
theorem dX12_table_129 : decode cX12_table 129 = .ok (.ireturn, 1) := by decide +kernel
theorem dX12_thereOnes_0 : decode cX12_thereOnes 0 = .ok (.iconst 0, 1) := by decide +kernel
theorem dX12_thereOnes_1 : decode cX12_thereOnes 1 = .ok (.istore_n 1, 1) := by decide +kernel
theorem dX12_thereOnes_2 : decode cX12_thereOnes 2 = .ok (.iconst 0, 1) := by decide +kernel
theorem dX12_thereOnes_3 : decode cX12_thereOnes 3 = .ok (.istore_n 2, 1) := by decide +kernel
theorem dX12_thereOnes_4 : decode cX12_thereOnes 4 = .ok (.iload_n 2, 1) := by decide +kernel
theorem dX12_thereOnes_5 : decode cX12_thereOnes 5 = .ok (.aload_n 0, 1) := by decide +kernel
theorem dX12_thereOnes_6 : decode cX12_thereOnes 6 = .ok (.getfield 19, 3) := by decide +kernel
theorem dX12_thereOnes_9 : decode cX12_thereOnes 9 = .ok (.bipush 72, 2) := by decide +kernel
theorem dX12_thereOnes_11 : decode cX12_thereOnes 11 = .ok (.iaload, 1) := by decide +kernel
theorem dX12_thereOnes_12 : decode cX12_thereOnes 12 = .ok (.if_icmp .ge 28, 3) := by decide +kernel
theorem dX12_thereOnes_15 : decode cX12_thereOnes 15 = .ok (.iload_n 1, 1) := by decide +kernel
theorem dX12_thereOnes_16 : decode cX12_thereOnes 16 = .ok (.aload_n 0, 1) := by decide +kernel
theorem dX12_thereOnes_17 : decode cX12_thereOnes 17 = .ok (.getfield 25, 3) := by decide +kernel
theorem dX12_thereOnes_20 : decode cX12_thereOnes 20 = .ok (.iload_n 2, 1) := by decide +kernel
theorem dX12_thereOnes_21 : decode cX12_thereOnes 21 = .ok (.baload, 1) := by decide +kernel
theorem dX12_thereOnes_22 : decode cX12_thereOnes 22 = .ok (.ifCond .eq 9, 3) := by decide +kernel
theorem dX12_thereOnes_25 : decode cX12_thereOnes 25 = .ok (.iconst 1, 1) := by decide +kernel
theorem dX12_thereOnes_26 : decode cX12_thereOnes 26 = .ok (.iload_n 2, 1) := by decide +kernel
theorem dX12_thereOnes_27 : decode cX12_thereOnes 27 = .ok (.ishl, 1) := by decide +kernel
theorem dX12_thereOnes_28 : decode cX12_thereOnes 28 = .ok (.goto 4, 3) := by decide +kernel
theorem dX12_thereOnes_31 : decode cX12_thereOnes 31 = .ok (.iconst 0, 1) := by decide +kernel
theorem dX12_thereOnes_32 : decode cX12_thereOnes 32 = .ok (.ior, 1) := by decide +kernel
theorem dX12_thereOnes_33 : decode cX12_thereOnes 33 = .ok (.istore_n 1, 1) := by decide +kernel
theorem dX12_thereOnes_34 : decode cX12_thereOnes 34 = .ok (.iinc 2 1, 3) := by decide +kernel
theorem dX12_thereOnes_37 : decode cX12_thereOnes 37 = .ok (.goto (-33), 3) := by decide +kernel
theorem dX12_thereOnes_40 : decode cX12_thereOnes 40 = .ok (.iload_n 1, 1) := by decide +kernel
theorem dX12_thereOnes_41 : decode cX12_thereOnes 41 = .ok (.ireturn, 1) := by decide +kernel
theorem dX12_think_0 : decode cX12_think 0 = .ok (.aload_n 0, 1) := by decide +kernel
theorem dX12_think_1 : decode cX12_think 1 = .ok (.iload_n 1, 1) := by decide +kernel
theorem dX12_think_2 : decode cX12_think 2 = .ok (.invokevirtual 162, 3) := by decide +kernel
theorem dX12_think_5 : decode cX12_think 5 = .ok (.ifCond .eq 15, 3) := by decide +kernel
theorem dX12_think_8 : decode cX12_think 8 = .ok (.iload_n 2, 1) := by decide +kernel
theorem dX12_think_9 : decode cX12_think 9 = .ok (.i2l, 1) := by decide +kernel
theorem dX12_think_10 : decode cX12_think 10 = .ok (.lconst 0, 1) := by decide +kernel
theorem dX12_think_11 : decode cX12_think 11 = .ok (.ldc2_w 347, 3) := by decide +kernel
theorem dX12_think_14 : decode cX12_think 14 = .ok (.invokestatic 97, 3) := by decide +kernel
theorem dX12_think_17 : decode cX12_think 17 = .ok (.ifCond .ne 5, 3) := by decide +kernel
theorem dX12_think_20 : decode cX12_think 20 = .ok (.iconst (-1), 1) := by decide +kernel
theorem dX12_think_21 : decode cX12_think 21 = .ok (.ireturn, 1) := by decide +kernel
theorem dX12_think_22 : decode cX12_think 22 = .ok (.aload_n 0, 1) := by decide +kernel
theorem dX12_think_23 : decode cX12_think 23 = .ok (.iload_n 1, 1) := by decide +kernel
theorem dX12_think_24 : decode cX12_think 24 = .ok (.bipush 8, 2) := by decide +kernel
theorem dX12_think_26 : decode cX12_think 26 = .ok (.invokevirtual 168, 3) := by decide +kernel
theorem dX12_think_29 : decode cX12_think 29 = .ok (.istore_n 3, 1) := by decide +kernel
theorem dX12_think_30 : decode cX12_think 30 = .ok (.aload_n 0, 1) := by decide +kernel
theorem dX12_think_31 : decode cX12_think 31 = .ok (.getfield 19, 3) := by decide +kernel
theorem dX12_think_34 : decode cX12_think 34 = .ok (.bipush 9, 2) := by decide +kernel
theorem dX12_think_36 : decode cX12_think 36 = .ok (.iload_n 1, 1) := by decide +kernel
theorem dX12_think_37 : decode cX12_think 37 = .ok (.imul, 1) := by decide +kernel
theorem dX12_think_38 : decode cX12_think 38 = .ok (.bipush 8, 2) := by decide +kernel
theorem dX12_think_40 : decode cX12_think 40 = .ok (.iadd, 1) := by decide +kernel
theorem dX12_think_41 : decode cX12_think 41 = .ok (.iload_n 2, 1) := by decide +kernel
theorem dX12_think_42 : decode cX12_think 42 = .ok (.iastore, 1) := by decide +kernel
theorem dX12_think_43 : decode cX12_think 43 = .ok (.iload_n 3, 1) := by decide +kernel
theorem dX12_think_44 : decode cX12_think 44 = .ok (.ireturn, 1) := by decide +kernel
theorem dX12_thought_0 : decode cX12_thought 0 = .ok (.iload_n 1, 1) := by decide +kernel
theorem dX12_thought_1 : decode cX12_thought 1 = .ok (.invokestatic 283, 3) := by decide +kernel
theorem dX12_thought_4 : decode cX12_thought 4 = .ok (.ifCond .eq 15, 3) := by decide +kernel
theorem dX12_thought_7 : decode cX12_thought 7 = .ok (.iload_n 3, 1) := by decide +kernel
theorem dX12_thought_8 : decode cX12_thought 8 = .ok (.i2l, 1) := by decide +kernel
theorem dX12_thought_9 : decode cX12_thought 9 = .ok (.lconst 0, 1) := by decide +kernel
theorem dX12_thought_10 : decode cX12_thought 10 = .ok (.ldc2_w 349, 3) := by decide +kernel
theorem dX12_thought_13 : decode cX12_thought 13 = .ok (.invokestatic 97, 3) := by decide +kernel
theorem dX12_thought_16 : decode cX12_thought 16 = .ok (.ifCond .ne 6, 3) := by decide +kernel
theorem dX12_thought_19 : decode cX12_thought 19 = .ok (.ldc 171, 2) := by decide +kernel
theorem dX12_thought_21 : decode cX12_thought 21 = .ok (.ireturn, 1) := by decide +kernel
theorem dX12_thought_22 : decode cX12_thought 22 = .ok (.aload_n 0, 1) := by decide +kernel
theorem dX12_thought_23 : decode cX12_thought 23 = .ok (.iload_n 1, 1) := by decide +kernel
theorem dX12_thought_24 : decode cX12_thought 24 = .ok (.iload_n 2, 1) := by decide +kernel
theorem dX12_thought_25 : decode cX12_thought 25 = .ok (.invokevirtual 286, 3) := by decide +kernel
theorem dX12_thought_28 : decode cX12_thought 28 = .ok (.aload_n 0, 1) := by decide +kernel
theorem dX12_thought_29 : decode cX12_thought 29 = .ok (.getfield 200, 3) := by decide +kernel
theorem dX12_thought_32 : decode cX12_thought 32 = .ok (.ineg, 1) := by decide +kernel
theorem dX12_thought_33 : decode cX12_thought 33 = .ok (.istore 4, 2) := by decide +kernel
theorem dX12_thought_35 : decode cX12_thought 35 = .ok (.iconst 0, 1) := by decide +kernel
theorem dX12_thought_36 : decode cX12_thought 36 = .ok (.istore 5, 2) := by decide +kernel
theorem dX12_thought_38 : decode cX12_thought 38 = .ok (.bipush (-4), 2) := by decide +kernel
theorem dX12_thought_40 : decode cX12_thought 40 = .ok (.istore 6, 2) := by decide +kernel
theorem dX12_thought_42 : decode cX12_thought 42 = .ok (.iconst 0, 1) := by decide +kernel
theorem dX12_thought_43 : decode cX12_thought 43 = .ok (.istore 7, 2) := by decide +kernel
theorem dX12_thought_45 : decode cX12_thought 45 = .ok (.iconst 0, 1) := by decide +kernel
theorem dX12_thought_46 : decode cX12_thought 46 = .ok (.istore 8, 2) := by decide +kernel
theorem dX12_thought_48 : decode cX12_thought 48 = .ok (.iload 8, 2) := by decide +kernel
theorem dX12_thought_50 : decode cX12_thought 50 = .ok (.aload_n 0, 1) := by decide +kernel
theorem dX12_thought_51 : decode cX12_thought 51 = .ok (.getfield 19, 3) := by decide +kernel
theorem dX12_thought_54 : decode cX12_thought 54 = .ok (.bipush 72, 2) := by decide +kernel
theorem dX12_thought_56 : decode cX12_thought 56 = .ok (.iaload, 1) := by decide +kernel
theorem dX12_thought_57 : decode cX12_thought 57 = .ok (.if_icmp .ge 87, 3) := by decide +kernel
theorem dX12_thought_60 : decode cX12_thought 60 = .ok (.aload_n 0, 1) := by decide +kernel
theorem dX12_thought_61 : decode cX12_thought 61 = .ok (.iload 8, 2) := by decide +kernel
theorem dX12_thought_63 : decode cX12_thought 63 = .ok (.bipush 8, 2) := by decide +kernel
theorem dX12_thought_65 : decode cX12_thought 65 = .ok (.invokevirtual 168, 3) := by decide +kernel
theorem dX12_thought_68 : decode cX12_thought 68 = .ok (.aload_n 0, 1) := by decide +kernel
theorem dX12_thought_69 : decode cX12_thought 69 = .ok (.getfield 38, 3) := by decide +kernel
theorem dX12_thought_72 : decode cX12_thought 72 = .ok (.iload 8, 2) := by decide +kernel
theorem dX12_thought_74 : decode cX12_thought 74 = .ok (.iaload, 1) := by decide +kernel
theorem dX12_thought_75 : decode cX12_thought 75 = .ok (.isub, 1) := by decide +kernel
theorem dX12_thought_76 : decode cX12_thought 76 = .ok (.istore 9, 2) := by decide +kernel
theorem dX12_thought_78 : decode cX12_thought 78 = .ok (.iload 4, 2) := by decide +kernel
theorem dX12_thought_80 : decode cX12_thought 80 = .ok (.aload_n 0, 1) := by decide +kernel
theorem dX12_thought_81 : decode cX12_thought 81 = .ok (.iload 8, 2) := by decide +kernel
theorem dX12_thought_83 : decode cX12_thought 83 = .ok (.bipush 8, 2) := by decide +kernel
theorem dX12_thought_85 : decode cX12_thought 85 = .ok (.invokevirtual 168, 3) := by decide +kernel
theorem dX12_thought_88 : decode cX12_thought 88 = .ok (.iadd, 1) := by decide +kernel
theorem dX12_thought_89 : decode cX12_thought 89 = .ok (.istore 4, 2) := by decide +kernel
theorem dX12_thought_91 : decode cX12_thought 91 = .ok (.iload 5, 2) := by decide +kernel
theorem dX12_thought_93 : decode cX12_thought 93 = .ok (.iload 9, 2) := by decide +kernel
theorem dX12_thought_95 : decode cX12_thought 95 = .ok (.ifCond .ne 7, 3) := by decide +kernel
theorem dX12_thought_98 : decode cX12_thought 98 = .ok (.iconst 1, 1) := by decide +kernel
theorem dX12_thought_99 : decode cX12_thought 99 = .ok (.goto 4, 3) := by decide +kernel
theorem dX12_thought_102 : decode cX12_thought 102 = .ok (.iconst 0, 1) := by decide +kernel
theorem dX12_thought_103 : decode cX12_thought 103 = .ok (.iadd, 1) := by decide +kernel
theorem dX12_thought_104 : decode cX12_thought 104 = .ok (.istore 5, 2) := by decide +kernel
theorem dX12_thought_106 : decode cX12_thought 106 = .ok (.iload 9, 2) := by decide +kernel
theorem dX12_thought_108 : decode cX12_thought 108 = .ok (.iload 7, 2) := by decide +kernel
theorem dX12_thought_110 : decode cX12_thought 110 = .ok (.if_icmp .le 8, 3) := by decide +kernel
theorem dX12_thought_113 : decode cX12_thought 113 = .ok (.iload 8, 2) := by decide +kernel
theorem dX12_thought_115 : decode cX12_thought 115 = .ok (.goto 5, 3) := by decide +kernel
theorem dX12_thought_118 : decode cX12_thought 118 = .ok (.iload 6, 2) := by decide +kernel
theorem dX12_thought_120 : decode cX12_thought 120 = .ok (.istore 6, 2) := by decide +kernel
theorem dX12_thought_122 : decode cX12_thought 122 = .ok (.iload 9, 2) := by decide +kernel
theorem dX12_thought_124 : decode cX12_thought 124 = .ok (.iload 7, 2) := by decide +kernel
theorem dX12_thought_126 : decode cX12_thought 126 = .ok (.if_icmp .le 8, 3) := by decide +kernel
theorem dX12_thought_129 : decode cX12_thought 129 = .ok (.iload 9, 2) := by decide +kernel
theorem dX12_thought_131 : decode cX12_thought 131 = .ok (.goto 5, 3) := by decide +kernel
theorem dX12_thought_134 : decode cX12_thought 134 = .ok (.iload 7, 2) := by decide +kernel
theorem dX12_thought_136 : decode cX12_thought 136 = .ok (.istore 7, 2) := by decide +kernel
theorem dX12_thought_138 : decode cX12_thought 138 = .ok (.iinc 8 1, 3) := by decide +kernel
theorem dX12_thought_141 : decode cX12_thought 141 = .ok (.goto (-93), 3) := by decide +kernel
theorem dX12_thought_144 : decode cX12_thought 144 = .ok (.iload_n 3, 1) := by decide +kernel
theorem dX12_thought_145 : decode cX12_thought 145 = .ok (.ifCond .ne 8, 3) := by decide +kernel
theorem dX12_thought_148 : decode cX12_thought 148 = .ok (.iload 4, 2) := by decide +kernel
theorem dX12_thought_150 : decode cX12_thought 150 = .ok (.goto 15, 3) := by decide +kernel
theorem dX12_thought_153 : decode cX12_thought 153 = .ok (.iload_n 3, 1) := by decide +kernel
theorem dX12_thought_154 : decode cX12_thought 154 = .ok (.iconst 1, 1) := by decide +kernel
theorem dX12_thought_155 : decode cX12_thought 155 = .ok (.if_icmp .ne 8, 3) := by decide +kernel
theorem dX12_thought_158 : decode cX12_thought 158 = .ok (.iload 5, 2) := by decide +kernel
theorem dX12_thought_160 : decode cX12_thought 160 = .ok (.goto 5, 3) := by decide +kernel
theorem dX12_thought_163 : decode cX12_thought 163 = .ok (.iload 6, 2) := by decide +kernel
theorem dX12_thought_165 : decode cX12_thought 165 = .ok (.ireturn, 1) := by decide +kernel
