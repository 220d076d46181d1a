theorem dX12_fault_0 : decode cX12_fault 0 = .ok (.aload_n 0, 1) := by decide +kernel
theorem dX12_fault_1 : decode cX12_fault 1 = .ok (.getfield 159, 3) := by decide +kernel
theorem dX12_fault_4 : decode cX12_fault 4 = .ok (.ireturn, 1) := by decide +kernel
theorem dX12_feed_0 : decode cX12_feed 0 = .ok (.aload_n 0, 1) := by decide +kernel
theorem dX12_feed_1 : decode cX12_feed 1 = .ok (.getfield 93, 3) := by decide +kernel
theorem dX12_feed_4 : decode cX12_feed 4 = .ok (.bipush 8, 2) := by decide +kernel
theorem dX12_feed_6 : decode cX12_feed 6 = .ok (.iadd, 1) := by decide +kernel
theorem dX12_feed_7 : decode cX12_feed 7 = .ok (.sipush 320, 3) := by decide +kernel
theorem dX12_feed_10 : decode cX12_feed 10 = .ok (.if_icmp .le 6, 3) := by decide +kernel
theorem dX12_feed_13 : decode cX12_feed 13 = .ok (.bipush (-3), 2) := by decide +kernel
theorem dX12_feed_15 : decode cX12_feed 15 = .ok (.ireturn, 1) := by decide +kernel
theorem dX12_feed_16 : decode cX12_feed 16 = .ok (.bipush 56, 2) := by decide +kernel
theorem dX12_feed_18 : decode cX12_feed 18 = .ok (.istore_n 3, 1) := by decide +kernel
theorem dX12_feed_19 : decode cX12_feed 19 = .ok (.iload_n 3, 1) := by decide +kernel
theorem dX12_feed_20 : decode cX12_feed 20 = .ok (.ifCond .lt 36, 3) := by decide +kernel
theorem dX12_feed_23 : decode cX12_feed 23 = .ok (.aload_n 0, 1) := by decide +kernel
theorem dX12_feed_24 : decode cX12_feed 24 = .ok (.getfield 7, 3) := by decide +kernel
theorem dX12_feed_27 : decode cX12_feed 27 = .ok (.aload_n 0, 1) := by decide +kernel
theorem dX12_feed_28 : decode cX12_feed 28 = .ok (.getfield 93, 3) := by decide +kernel
theorem dX12_feed_31 : decode cX12_feed 31 = .ok (.lload_n 1, 1) := by decide +kernel
theorem dX12_feed_32 : decode cX12_feed 32 = .ok (.iload_n 3, 1) := by decide +kernel
theorem dX12_feed_33 : decode cX12_feed 33 = .ok (.lshr, 1) := by decide +kernel
theorem dX12_feed_34 : decode cX12_feed 34 = .ok (.l2i, 1) := by decide +kernel
theorem dX12_feed_35 : decode cX12_feed 35 = .ok (.sipush 255, 3) := by decide +kernel
theorem dX12_feed_38 : decode cX12_feed 38 = .ok (.iand, 1) := by decide +kernel
theorem dX12_feed_39 : decode cX12_feed 39 = .ok (.iastore, 1) := by decide +kernel
theorem dX12_feed_40 : decode cX12_feed 40 = .ok (.aload_n 0, 1) := by decide +kernel
theorem dX12_feed_41 : decode cX12_feed 41 = .ok (.dup, 1) := by decide +kernel
theorem dX12_feed_42 : decode cX12_feed 42 = .ok (.getfield 93, 3) := by decide +kernel
theorem dX12_feed_45 : decode cX12_feed 45 = .ok (.iconst 1, 1) := by decide +kernel
theorem dX12_feed_46 : decode cX12_feed 46 = .ok (.iadd, 1) := by decide +kernel
theorem dX12_feed_47 : decode cX12_feed 47 = .ok (.putfield 93, 3) := by decide +kernel
theorem dX12_feed_50 : decode cX12_feed 50 = .ok (.iinc 3 (-8), 3) := by decide +kernel
theorem dX12_feed_53 : decode cX12_feed 53 = .ok (.goto (-34), 3) := by decide +kernel
theorem dX12_feed_56 : decode cX12_feed 56 = .ok (.aload_n 0, 1) := by decide +kernel
theorem dX12_feed_57 : decode cX12_feed 57 = .ok (.getfield 93, 3) := by decide +kernel
theorem dX12_feed_60 : decode cX12_feed 60 = .ok (.ireturn, 1) := by decide +kernel
theorem dX12_fresh_0 : decode cX12_fresh 0 = .ok (.aload_n 0, 1) := by decide +kernel
theorem dX12_fresh_1 : decode cX12_fresh 1 = .ok (.bipush 7, 2) := by decide +kernel
theorem dX12_fresh_3 : decode cX12_fresh 3 = .ok (.putfield 188, 3) := by decide +kernel
theorem dX12_fresh_6 : decode cX12_fresh 6 = .ok (.aload_n 0, 1) := by decide +kernel
theorem dX12_fresh_7 : decode cX12_fresh 7 = .ok (.iconst 0, 1) := by decide +kernel
theorem dX12_fresh_8 : decode cX12_fresh 8 = .ok (.putfield 191, 3) := by decide +kernel
theorem dX12_fresh_11 : decode cX12_fresh 11 = .ok (.aload_n 0, 1) := by decide +kernel
theorem dX12_fresh_12 : decode cX12_fresh 12 = .ok (.iload_n 1, 1) := by decide +kernel
theorem dX12_fresh_13 : decode cX12_fresh 13 = .ok (.putfield 194, 3) := by decide +kernel
theorem dX12_fresh_16 : decode cX12_fresh 16 = .ok (.iconst 0, 1) := by decide +kernel
theorem dX12_fresh_17 : decode cX12_fresh 17 = .ok (.istore_n 2, 1) := by decide +kernel
theorem dX12_fresh_18 : decode cX12_fresh 18 = .ok (.iload_n 2, 1) := by decide +kernel
theorem dX12_fresh_19 : decode cX12_fresh 19 = .ok (.bipush 8, 2) := by decide +kernel
theorem dX12_fresh_21 : decode cX12_fresh 21 = .ok (.if_icmp .ge 44, 3) := by decide +kernel
theorem dX12_fresh_24 : decode cX12_fresh 24 = .ok (.aload_n 0, 1) := by decide +kernel
theorem dX12_fresh_25 : decode cX12_fresh 25 = .ok (.getfield 56, 3) := by decide +kernel
theorem dX12_fresh_28 : decode cX12_fresh 28 = .ok (.iload_n 2, 1) := by decide +kernel
theorem dX12_fresh_29 : decode cX12_fresh 29 = .ok (.iconst 0, 1) := by decide +kernel
theorem dX12_fresh_30 : decode cX12_fresh 30 = .ok (.iastore, 1) := by decide +kernel
theorem dX12_fresh_31 : decode cX12_fresh 31 = .ok (.aload_n 0, 1) := by decide +kernel
theorem dX12_fresh_32 : decode cX12_fresh 32 = .ok (.getfield 53, 3) := by decide +kernel
theorem dX12_fresh_35 : decode cX12_fresh 35 = .ok (.iload_n 2, 1) := by decide +kernel
theorem dX12_fresh_36 : decode cX12_fresh 36 = .ok (.iload_n 2, 1) := by decide +kernel
theorem dX12_fresh_37 : decode cX12_fresh 37 = .ok (.aload_n 0, 1) := by decide +kernel
theorem dX12_fresh_38 : decode cX12_fresh 38 = .ok (.getfield 19, 3) := by decide +kernel
theorem dX12_fresh_41 : decode cX12_fresh 41 = .ok (.bipush 72, 2) := by decide +kernel
theorem dX12_fresh_43 : decode cX12_fresh 43 = .ok (.iaload, 1) := by decide +kernel
theorem dX12_fresh_44 : decode cX12_fresh 44 = .ok (.if_icmp .ge 13, 3) := by decide +kernel
theorem dX12_fresh_47 : decode cX12_fresh 47 = .ok (.aload_n 0, 1) := by decide +kernel
theorem dX12_fresh_48 : decode cX12_fresh 48 = .ok (.iload_n 2, 1) := by decide +kernel
theorem dX12_fresh_49 : decode cX12_fresh 49 = .ok (.bipush 7, 2) := by decide +kernel
theorem dX12_fresh_51 : decode cX12_fresh 51 = .ok (.invokevirtual 168, 3) := by decide +kernel
theorem dX12_fresh_54 : decode cX12_fresh 54 = .ok (.goto 4, 3) := by decide +kernel
theorem dX12_fresh_57 : decode cX12_fresh 57 = .ok (.iconst 0, 1) := by decide +kernel
theorem dX12_fresh_58 : decode cX12_fresh 58 = .ok (.iastore, 1) := by decide +kernel
theorem dX12_fresh_59 : decode cX12_fresh 59 = .ok (.iinc 2 1, 3) := by decide +kernel
theorem dX12_fresh_62 : decode cX12_fresh 62 = .ok (.goto (-44), 3) := by decide +kernel
theorem dX12_fresh_65 : decode cX12_fresh 65 = .ok (.return_, 1) := by decide +kernel
theorem dX12_fridays_0 : decode cX12_fridays 0 = .ok (.iload_n 1, 1) := by decide +kernel
theorem dX12_fridays_1 : decode cX12_fridays 1 = .ok (.invokestatic 283, 3) := by decide +kernel
theorem dX12_fridays_4 : decode cX12_fridays 4 = .ok (.ifCond .eq 28, 3) := by decide +kernel
theorem dX12_fridays_7 : decode cX12_fridays 7 = .ok (.iload_n 3, 1) := by decide +kernel
theorem dX12_fridays_8 : decode cX12_fridays 8 = .ok (.i2l, 1) := by decide +kernel
theorem dX12_fridays_9 : decode cX12_fridays 9 = .ok (.lconst 1, 1) := by decide +kernel
theorem dX12_fridays_10 : decode cX12_fridays 10 = .ok (.ldc2_w 341, 3) := by decide +kernel
theorem dX12_fridays_13 : decode cX12_fridays 13 = .ok (.invokestatic 97, 3) := by decide +kernel
theorem dX12_fridays_16 : decode cX12_fridays 16 = .ok (.ifCond .eq 16, 3) := by decide +kernel
theorem dX12_fridays_19 : decode cX12_fridays 19 = .ok (.iload 4, 2) := by decide +kernel
theorem dX12_fridays_21 : decode cX12_fridays 21 = .ok (.i2l, 1) := by decide +kernel
theorem dX12_fridays_22 : decode cX12_fridays 22 = .ok (.lconst 0, 1) := by decide +kernel
theorem dX12_fridays_23 : decode cX12_fridays 23 = .ok (.ldc2_w 294, 3) := by decide +kernel
theorem dX12_fridays_26 : decode cX12_fridays 26 = .ok (.invokestatic 97, 3) := by decide +kernel
theorem dX12_fridays_29 : decode cX12_fridays 29 = .ok (.ifCond .ne 5, 3) := by decide +kernel
theorem dX12_fridays_32 : decode cX12_fridays 32 = .ok (.iconst (-1), 1) := by decide +kernel
theorem dX12_fridays_33 : decode cX12_fridays 33 = .ok (.ireturn, 1) := by decide +kernel
theorem dX12_fridays_34 : decode cX12_fridays 34 = .ok (.aload_n 0, 1) := by decide +kernel
theorem dX12_fridays_35 : decode cX12_fridays 35 = .ok (.iconst 0, 1) := by decide +kernel
theorem dX12_fridays_36 : decode cX12_fridays 36 = .ok (.putfield 218, 3) := by decide +kernel
theorem dX12_fridays_39 : decode cX12_fridays 39 = .ok (.aload_n 0, 1) := by decide +kernel
theorem dX12_fridays_40 : decode cX12_fridays 40 = .ok (.iload_n 2, 1) := by decide +kernel
theorem dX12_fridays_41 : decode cX12_fridays 41 = .ok (.invokevirtual 272, 3) := by decide +kernel
theorem dX12_fridays_44 : decode cX12_fridays 44 = .ok (.iconst 0, 1) := by decide +kernel
theorem dX12_fridays_45 : decode cX12_fridays 45 = .ok (.istore 5, 2) := by decide +kernel
theorem dX12_fridays_47 : decode cX12_fridays 47 = .ok (.bipush (-4), 2) := by decide +kernel
theorem dX12_fridays_49 : decode cX12_fridays 49 = .ok (.istore 6, 2) := by decide +kernel
theorem dX12_fridays_51 : decode cX12_fridays 51 = .ok (.iconst 0, 1) := by decide +kernel
theorem dX12_fridays_52 : decode cX12_fridays 52 = .ok (.istore 7, 2) := by decide +kernel
theorem dX12_fridays_54 : decode cX12_fridays 54 = .ok (.iconst 0, 1) := by decide +kernel
theorem dX12_fridays_55 : decode cX12_fridays 55 = .ok (.istore 8, 2) := by decide +kernel
theorem dX12_fridays_57 : decode cX12_fridays 57 = .ok (.iload 8, 2) := by decide +kernel
theorem dX12_fridays_59 : decode cX12_fridays 59 = .ok (.iload_n 3, 1) := by decide +kernel
theorem dX12_fridays_60 : decode cX12_fridays 60 = .ok (.if_icmp .ge 166, 3) := by decide +kernel
theorem dX12_fridays_63 : decode cX12_fridays 63 = .ok (.aload_n 0, 1) := by decide +kernel
theorem dX12_fridays_64 : decode cX12_fridays 64 = .ok (.iload_n 1, 1) := by decide +kernel
theorem dX12_fridays_65 : decode cX12_fridays 65 = .ok (.invokevirtual 275, 3) := by decide +kernel
theorem dX12_fridays_68 : decode cX12_fridays 68 = .ok (.iload 7, 2) := by decide +kernel
theorem dX12_fridays_70 : decode cX12_fridays 70 = .ok (.aload_n 0, 1) := by decide +kernel
theorem dX12_fridays_71 : decode cX12_fridays 71 = .ok (.getfield 200, 3) := by decide +kernel
theorem dX12_fridays_74 : decode cX12_fridays 74 = .ok (.iadd, 1) := by decide +kernel
theorem dX12_fridays_75 : decode cX12_fridays 75 = .ok (.istore 7, 2) := by decide +kernel
theorem dX12_fridays_77 : decode cX12_fridays 77 = .ok (.aload_n 0, 1) := by decide +kernel
theorem dX12_fridays_78 : decode cX12_fridays 78 = .ok (.getfield 71, 3) := by decide +kernel
theorem dX12_fridays_81 : decode cX12_fridays 81 = .ok (.iload 8, 2) := by decide +kernel
theorem dX12_fridays_83 : decode cX12_fridays 83 = .ok (.iconst 0, 1) := by decide +kernel
theorem dX12_fridays_84 : decode cX12_fridays 84 = .ok (.iastore, 1) := by decide +kernel
theorem dX12_fridays_85 : decode cX12_fridays 85 = .ok (.iconst 0, 1) := by decide +kernel
theorem dX12_fridays_86 : decode cX12_fridays 86 = .ok (.istore 9, 2) := by decide +kernel
theorem dX12_fridays_88 : decode cX12_fridays 88 = .ok (.iload 9, 2) := by decide +kernel
theorem dX12_fridays_90 : decode cX12_fridays 90 = .ok (.aload_n 0, 1) := by decide +kernel
theorem dX12_fridays_91 : decode cX12_fridays 91 = .ok (.getfield 19, 3) := by decide +kernel
theorem dX12_fridays_94 : decode cX12_fridays 94 = .ok (.bipush 72, 2) := by decide +kernel
theorem dX12_fridays_96 : decode cX12_fridays 96 = .ok (.iaload, 1) := by decide +kernel
theorem dX12_fridays_97 : decode cX12_fridays 97 = .ok (.if_icmp .ge 69, 3) := by decide +kernel
theorem dX12_fridays_100 : decode cX12_fridays 100 = .ok (.aload_n 0, 1) := by decide +kernel
theorem dX12_fridays_101 : decode cX12_fridays 101 = .ok (.getfield 53, 3) := by decide +kernel
theorem dX12_fridays_104 : decode cX12_fridays 104 = .ok (.iload 9, 2) := by decide +kernel
theorem dX12_fridays_106 : decode cX12_fridays 106 = .ok (.aload_n 0, 1) := by decide +kernel
theorem dX12_fridays_107 : decode cX12_fridays 107 = .ok (.iload 9, 2) := by decide +kernel
theorem dX12_fridays_109 : decode cX12_fridays 109 = .ok (.invokevirtual 209, 3) := by decide +kernel
theorem dX12_fridays_112 : decode cX12_fridays 112 = .ok (.iastore, 1) := by decide +kernel
theorem dX12_fridays_113 : decode cX12_fridays 113 = .ok (.aload_n 0, 1) := by decide +kernel
theorem dX12_fridays_114 : decode cX12_fridays 114 = .ok (.getfield 71, 3) := by decide +kernel
theorem dX12_fridays_117 : decode cX12_fridays 117 = .ok (.iload 8, 2) := by decide +kernel
theorem dX12_fridays_119 : decode cX12_fridays 119 = .ok (.aload_n 0, 1) := by decide +kernel
theorem dX12_fridays_120 : decode cX12_fridays 120 = .ok (.getfield 53, 3) := by decide +kernel
theorem dX12_fridays_123 : decode cX12_fridays 123 = .ok (.iload 9, 2) := by decide +kernel
theorem dX12_fridays_125 : decode cX12_fridays 125 = .ok (.iaload, 1) := by decide +kernel
theorem dX12_fridays_126 : decode cX12_fridays 126 = .ok (.invokestatic 212, 3) := by decide +kernel
theorem dX12_fridays_129 : decode cX12_fridays 129 = .ok (.aload_n 0, 1) := by decide +kernel
theorem dX12_fridays_130 : decode cX12_fridays 130 = .ok (.getfield 71, 3) := by decide +kernel
theorem dX12_fridays_133 : decode cX12_fridays 133 = .ok (.iload 8, 2) := by decide +kernel
theorem dX12_fridays_135 : decode cX12_fridays 135 = .ok (.iaload, 1) := by decide +kernel
theorem dX12_fridays_136 : decode cX12_fridays 136 = .ok (.if_icmp .le 16, 3) := by decide +kernel
theorem dX12_fridays_139 : decode cX12_fridays 139 = .ok (.aload_n 0, 1) := by decide +kernel
theorem dX12_fridays_140 : decode cX12_fridays 140 = .ok (.getfield 53, 3) := by decide +kernel
theorem dX12_fridays_143 : decode cX12_fridays 143 = .ok (.iload 9, 2) := by decide +kernel
theorem dX12_fridays_145 : decode cX12_fridays 145 = .ok (.iaload, 1) := by decide +kernel
theorem dX12_fridays_146 : decode cX12_fridays 146 = .ok (.invokestatic 212, 3) := by decide +kernel
theorem dX12_fridays_149 : decode cX12_fridays 149 = .ok (.goto 10, 3) := by decide +kernel
theorem dX12_fridays_152 : decode cX12_fridays 152 = .ok (.aload_n 0, 1) := by decide +kernel
theorem dX12_fridays_153 : decode cX12_fridays 153 = .ok (.getfield 71, 3) := by decide +kernel
theorem dX12_fridays_156 : decode cX12_fridays 156 = .ok (.iload 8, 2) := by decide +kernel
theorem dX12_fridays_158 : decode cX12_fridays 158 = .ok (.iaload, 1) := by decide +kernel
theorem dX12_fridays_159 : decode cX12_fridays 159 = .ok (.iastore, 1) := by decide +kernel
theorem dX12_fridays_160 : decode cX12_fridays 160 = .ok (.iinc 9 1, 3) := by decide +kernel
theorem dX12_fridays_163 : decode cX12_fridays 163 = .ok (.goto (-75), 3) := by decide +kernel
theorem dX12_fridays_166 : decode cX12_fridays 166 = .ok (.aload_n 0, 1) := by decide +kernel
theorem dX12_fridays_167 : decode cX12_fridays 167 = .ok (.getfield 71, 3) := by decide +kernel
theorem dX12_fridays_170 : decode cX12_fridays 170 = .ok (.iload 8, 2) := by decide +kernel
theorem dX12_fridays_172 : decode cX12_fridays 172 = .ok (.iaload, 1) := by decide +kernel
theorem dX12_fridays_173 : decode cX12_fridays 173 = .ok (.iload 5, 2) := by decide +kernel
theorem dX12_fridays_175 : decode cX12_fridays 175 = .ok (.if_icmp .le 13, 3) := by decide +kernel
theorem dX12_fridays_178 : decode cX12_fridays 178 = .ok (.aload_n 0, 1) := by decide +kernel
theorem dX12_fridays_179 : decode cX12_fridays 179 = .ok (.getfield 71, 3) := by decide +kernel
theorem dX12_fridays_182 : decode cX12_fridays 182 = .ok (.iload 8, 2) := by decide +kernel
theorem dX12_fridays_184 : decode cX12_fridays 184 = .ok (.iaload, 1) := by decide +kernel
theorem dX12_fridays_185 : decode cX12_fridays 185 = .ok (.goto 5, 3) := by decide +kernel
theorem dX12_fridays_188 : decode cX12_fridays 188 = .ok (.iload 5, 2) := by decide +kernel
theorem dX12_fridays_190 : decode cX12_fridays 190 = .ok (.istore 5, 2) := by decide +kernel
theorem dX12_fridays_192 : decode cX12_fridays 192 = .ok (.aload_n 0, 1) := by decide +kernel
theorem dX12_fridays_193 : decode cX12_fridays 193 = .ok (.getfield 71, 3) := by decide +kernel
theorem dX12_fridays_196 : decode cX12_fridays 196 = .ok (.iload 8, 2) := by decide +kernel
theorem dX12_fridays_198 : decode cX12_fridays 198 = .ok (.iaload, 1) := by decide +kernel
theorem dX12_fridays_199 : decode cX12_fridays 199 = .ok (.ifCond .ne 17, 3) := by decide +kernel
theorem dX12_fridays_202 : decode cX12_fridays 202 = .ok (.iload 6, 2) := by decide +kernel
theorem dX12_fridays_204 : decode cX12_fridays 204 = .ok (.bipush (-4), 2) := by decide +kernel
theorem dX12_fridays_206 : decode cX12_fridays 206 = .ok (.if_icmp .ne 10, 3) := by decide +kernel
theorem dX12_fridays_209 : decode cX12_fridays 209 = .ok (.iload 8, 2) := by decide +kernel
theorem dX12_fridays_211 : decode cX12_fridays 211 = .ok (.iconst 1, 1) := by decide +kernel
theorem dX12_fridays_212 : decode cX12_fridays 212 = .ok (.iadd, 1) := by decide +kernel
theorem dX12_fridays_213 : decode cX12_fridays 213 = .ok (.goto 5, 3) := by decide +kernel
theorem dX12_fridays_216 : decode cX12_fridays 216 = .ok (.iload 6, 2) := by decide +kernel
theorem dX12_fridays_218 : decode cX12_fridays 218 = .ok (.istore 6, 2) := by decide +kernel
theorem dX12_fridays_220 : decode cX12_fridays 220 = .ok (.iinc 8 1, 3) := by decide +kernel
theorem dX12_fridays_223 : decode cX12_fridays 223 = .ok (.goto (-166), 3) := by decide +kernel
theorem dX12_fridays_226 : decode cX12_fridays 226 = .ok (.iload 4, 2) := by decide +kernel
theorem dX12_fridays_228 : decode cX12_fridays 228 = .ok (.ifCond .ne 14, 3) := by decide +kernel
theorem dX12_fridays_231 : decode cX12_fridays 231 = .ok (.aload_n 0, 1) := by decide +kernel
theorem dX12_fridays_232 : decode cX12_fridays 232 = .ok (.getfield 71, 3) := by decide +kernel
theorem dX12_fridays_235 : decode cX12_fridays 235 = .ok (.iload_n 3, 1) := by decide +kernel
theorem dX12_fridays_236 : decode cX12_fridays 236 = .ok (.iconst 1, 1) := by decide +kernel
theorem dX12_fridays_237 : decode cX12_fridays 237 = .ok (.isub, 1) := by decide +kernel
theorem dX12_fridays_238 : decode cX12_fridays 238 = .ok (.iaload, 1) := by decide +kernel
theorem dX12_fridays_239 : decode cX12_fridays 239 = .ok (.goto 27, 3) := by decide +kernel
theorem dX12_fridays_242 : decode cX12_fridays 242 = .ok (.iload 4, 2) := by decide +kernel
theorem dX12_fridays_244 : decode cX12_fridays 244 = .ok (.iconst 1, 1) := by decide +kernel
theorem dX12_fridays_245 : decode cX12_fridays 245 = .ok (.if_icmp .ne 8, 3) := by decide +kernel
theorem dX12_fridays_248 : decode cX12_fridays 248 = .ok (.iload 5, 2) := by decide +kernel
theorem dX12_fridays_250 : decode cX12_fridays 250 = .ok (.goto 16, 3) := by decide +kernel
theorem dX12_fridays_253 : decode cX12_fridays 253 = .ok (.iload 4, 2) := by decide +kernel
theorem dX12_fridays_255 : decode cX12_fridays 255 = .ok (.iconst 2, 1) := by decide +kernel
theorem dX12_fridays_256 : decode cX12_fridays 256 = .ok (.if_icmp .ne 8, 3) := by decide +kernel
theorem dX12_fridays_259 : decode cX12_fridays 259 = .ok (.iload 6, 2) := by decide +kernel
theorem dX12_fridays_261 : decode cX12_fridays 261 = .ok (.goto 5, 3) := by decide +kernel
theorem dX12_fridays_264 : decode cX12_fridays 264 = .ok (.iload 7, 2) := by decide +kernel
theorem dX12_fridays_266 : decode cX12_fridays 266 = .ok (.ireturn, 1) := by decide +kernel
theorem dX12_goes_0 : decode cX12_goes 0 = .ok (.iload_n 1, 1) := by decide +kernel
theorem dX12_goes_1 : decode cX12_goes 1 = .ok (.invokestatic 283, 3) := by decide +kernel
theorem dX12_goes_4 : decode cX12_goes 4 = .ok (.ifCond .ne 5, 3) := by decide +kernel
theorem dX12_goes_7 : decode cX12_goes 7 = .ok (.iconst (-1), 1) := by decide +kernel
theorem dX12_goes_8 : decode cX12_goes 8 = .ok (.ireturn, 1) := by decide +kernel
theorem dX12_goes_9 : decode cX12_goes 9 = .ok (.aload_n 0, 1) := by decide +kernel
theorem dX12_goes_10 : decode cX12_goes 10 = .ok (.iload_n 1, 1) := by decide +kernel
theorem dX12_goes_11 : decode cX12_goes 11 = .ok (.iload_n 2, 1) := by decide +kernel
theorem dX12_goes_12 : decode cX12_goes 12 = .ok (.invokevirtual 286, 3) := by decide +kernel
theorem dX12_goes_15 : decode cX12_goes 15 = .ok (.iconst 0, 1) := by decide +kernel
theorem dX12_goes_16 : decode cX12_goes 16 = .ok (.istore_n 3, 1) := by decide +kernel
theorem dX12_goes_17 : decode cX12_goes 17 = .ok (.iload_n 3, 1) := by decide +kernel
theorem dX12_goes_18 : decode cX12_goes 18 = .ok (.aload_n 0, 1) := by decide +kernel
theorem dX12_goes_19 : decode cX12_goes 19 = .ok (.getfield 19, 3) := by decide +kernel
theorem dX12_goes_22 : decode cX12_goes 22 = .ok (.bipush 72, 2) := by decide +kernel
theorem dX12_goes_24 : decode cX12_goes 24 = .ok (.iaload, 1) := by decide +kernel
theorem dX12_goes_25 : decode cX12_goes 25 = .ok (.if_icmp .ge 26, 3) := by decide +kernel
theorem dX12_goes_28 : decode cX12_goes 28 = .ok (.aload_n 0, 1) := by decide +kernel
theorem dX12_goes_29 : decode cX12_goes 29 = .ok (.getfield 19, 3) := by decide +kernel
theorem dX12_goes_32 : decode cX12_goes 32 = .ok (.bipush 9, 2) := by decide +kernel
theorem dX12_goes_34 : decode cX12_goes 34 = .ok (.iload_n 3, 1) := by decide +kernel
theorem dX12_goes_35 : decode cX12_goes 35 = .ok (.imul, 1) := by decide +kernel
theorem dX12_goes_36 : decode cX12_goes 36 = .ok (.bipush 7, 2) := by decide +kernel
theorem dX12_goes_38 : decode cX12_goes 38 = .ok (.iadd, 1) := by decide +kernel
theorem dX12_goes_39 : decode cX12_goes 39 = .ok (.aload_n 0, 1) := by decide +kernel
theorem dX12_goes_40 : decode cX12_goes 40 = .ok (.iload_n 3, 1) := by decide +kernel
theorem dX12_goes_41 : decode cX12_goes 41 = .ok (.invokevirtual 209, 3) := by decide +kernel
theorem dX12_goes_44 : decode cX12_goes 44 = .ok (.iastore, 1) := by decide +kernel
theorem dX12_goes_45 : decode cX12_goes 45 = .ok (.iinc 3 1, 3) := by decide +kernel
theorem dX12_goes_48 : decode cX12_goes 48 = .ok (.goto (-31), 3) := by decide +kernel
theorem dX12_goes_51 : decode cX12_goes 51 = .ok (.aload_n 0, 1) := by decide +kernel
theorem dX12_goes_52 : decode cX12_goes 52 = .ok (.getfield 197, 3) := by decide +kernel
theorem dX12_goes_55 : decode cX12_goes 55 = .ok (.ireturn, 1) := by decide +kernel
theorem dX12_goesOn_0 : decode cX12_goesOn 0 = .ok (.aload_n 0, 1) := by decide +kernel
theorem dX12_goesOn_1 : decode cX12_goesOn 1 = .ok (.invokevirtual 260, 3) := by decide +kernel
theorem dX12_goesOn_4 : decode cX12_goesOn 4 = .ok (.aload_n 0, 1) := by decide +kernel
theorem dX12_goesOn_5 : decode cX12_goesOn 5 = .ok (.invokevirtual 263, 3) := by decide +kernel
theorem dX12_goesOn_8 : decode cX12_goesOn 8 = .ok (.iconst 0, 1) := by decide +kernel
theorem dX12_goesOn_9 : decode cX12_goesOn 9 = .ok (.istore_n 2, 1) := by decide +kernel
theorem dX12_goesOn_10 : decode cX12_goesOn 10 = .ok (.iload_n 2, 1) := by decide +kernel
theorem dX12_goesOn_11 : decode cX12_goesOn 11 = .ok (.sipush 240, 3) := by decide +kernel
theorem dX12_goesOn_14 : decode cX12_goesOn 14 = .ok (.if_icmp .ge 20, 3) := by decide +kernel
theorem dX12_goesOn_17 : decode cX12_goesOn 17 = .ok (.aload_n 0, 1) := by decide +kernel
theorem dX12_goesOn_18 : decode cX12_goesOn 18 = .ok (.iload_n 2, 1) := by decide +kernel
theorem dX12_goesOn_19 : decode cX12_goesOn 19 = .ok (.invokevirtual 266, 3) := by decide +kernel
theorem dX12_goesOn_22 : decode cX12_goesOn 22 = .ok (.aload_n 0, 1) := by decide +kernel
theorem dX12_goesOn_23 : decode cX12_goesOn 23 = .ok (.iload_n 2, 1) := by decide +kernel
theorem dX12_goesOn_24 : decode cX12_goesOn 24 = .ok (.iload_n 1, 1) := by decide +kernel
theorem dX12_goesOn_25 : decode cX12_goesOn 25 = .ok (.invokevirtual 269, 3) := by decide +kernel
theorem dX12_goesOn_28 : decode cX12_goesOn 28 = .ok (.iinc 2 1, 3) := by decide +kernel
theorem dX12_goesOn_31 : decode cX12_goesOn 31 = .ok (.goto (-21), 3) := by decide +kernel
theorem dX12_goesOn_34 : decode cX12_goesOn 34 = .ok (.iconst 0, 1) := by decide +kernel
theorem dX12_goesOn_35 : decode cX12_goesOn 35 = .ok (.istore_n 2, 1) := by decide +kernel
theorem dX12_goesOn_36 : decode cX12_goesOn 36 = .ok (.iload_n 2, 1) := by decide +kernel
theorem dX12_goesOn_37 : decode cX12_goesOn 37 = .ok (.aload_n 0, 1) := by decide +kernel
theorem dX12_goesOn_38 : decode cX12_goesOn 38 = .ok (.getfield 19, 3) := by decide +kernel
theorem dX12_goesOn_41 : decode cX12_goesOn 41 = .ok (.bipush 72, 2) := by decide +kernel
theorem dX12_goesOn_43 : decode cX12_goesOn 43 = .ok (.iaload, 1) := by decide +kernel
theorem dX12_goesOn_44 : decode cX12_goesOn 44 = .ok (.if_icmp .ge 44, 3) := by decide +kernel
theorem dX12_goesOn_47 : decode cX12_goesOn 47 = .ok (.aload_n 0, 1) := by decide +kernel
theorem dX12_goesOn_48 : decode cX12_goesOn 48 = .ok (.getfield 50, 3) := by decide +kernel
theorem dX12_goesOn_51 : decode cX12_goesOn 51 = .ok (.iload_n 2, 1) := by decide +kernel
theorem dX12_goesOn_52 : decode cX12_goesOn 52 = .ok (.aload_n 0, 1) := by decide +kernel
theorem dX12_goesOn_53 : decode cX12_goesOn 53 = .ok (.iload_n 2, 1) := by decide +kernel
theorem dX12_goesOn_54 : decode cX12_goesOn 54 = .ok (.iconst 1, 1) := by decide +kernel
theorem dX12_goesOn_55 : decode cX12_goesOn 55 = .ok (.invokevirtual 168, 3) := by decide +kernel
theorem dX12_goesOn_58 : decode cX12_goesOn 58 = .ok (.sipush 240, 3) := by decide +kernel
theorem dX12_goesOn_61 : decode cX12_goesOn 61 = .ok (.if_icmp .ne 14, 3) := by decide +kernel
theorem dX12_goesOn_64 : decode cX12_goesOn 64 = .ok (.aload_n 0, 1) := by decide +kernel
theorem dX12_goesOn_65 : decode cX12_goesOn 65 = .ok (.iload_n 2, 1) := by decide +kernel
theorem dX12_goesOn_66 : decode cX12_goesOn 66 = .ok (.invokevirtual 209, 3) := by decide +kernel
theorem dX12_goesOn_69 : decode cX12_goesOn 69 = .ok (.invokestatic 212, 3) := by decide +kernel
theorem dX12_goesOn_72 : decode cX12_goesOn 72 = .ok (.goto 9, 3) := by decide +kernel
theorem dX12_goesOn_75 : decode cX12_goesOn 75 = .ok (.aload_n 0, 1) := by decide +kernel
theorem dX12_goesOn_76 : decode cX12_goesOn 76 = .ok (.getfield 50, 3) := by decide +kernel
theorem dX12_goesOn_79 : decode cX12_goesOn 79 = .ok (.iload_n 2, 1) := by decide +kernel
theorem dX12_goesOn_80 : decode cX12_goesOn 80 = .ok (.iaload, 1) := by decide +kernel
theorem dX12_goesOn_81 : decode cX12_goesOn 81 = .ok (.iastore, 1) := by decide +kernel
theorem dX12_goesOn_82 : decode cX12_goesOn 82 = .ok (.iinc 2 1, 3) := by decide +kernel
theorem dX12_goesOn_85 : decode cX12_goesOn 85 = .ok (.goto (-49), 3) := by decide +kernel
theorem dX12_goesOn_88 : decode cX12_goesOn 88 = .ok (.return_, 1) := by decide +kernel
theorem dX12_in_0 : decode cX12_in 0 = .ok (.lload_n 0, 1) := by decide +kernel
theorem dX12_in_1 : decode cX12_in 1 = .ok (.lload_n 2, 1) := by decide +kernel
theorem dX12_in_2 : decode cX12_in 2 = .ok (.lcmp, 1) := by decide +kernel
theorem dX12_in_3 : decode cX12_in 3 = .ok (.ifCond .lt 14, 3) := by decide +kernel
theorem dX12_in_6 : decode cX12_in 6 = .ok (.lload_n 0, 1) := by decide +kernel
theorem dX12_in_7 : decode cX12_in 7 = .ok (.lload 4, 2) := by decide +kernel
theorem dX12_in_9 : decode cX12_in 9 = .ok (.lcmp, 1) := by decide +kernel
theorem dX12_in_10 : decode cX12_in 10 = .ok (.ifCond .gt 7, 3) := by decide +kernel
theorem dX12_in_13 : decode cX12_in 13 = .ok (.iconst 1, 1) := by decide +kernel
theorem dX12_in_14 : decode cX12_in 14 = .ok (.goto 4, 3) := by decide +kernel
theorem dX12_in_17 : decode cX12_in 17 = .ok (.iconst 0, 1) := by decide +kernel
theorem dX12_in_18 : decode cX12_in 18 = .ok (.ireturn, 1) := by decide +kernel
theorem dX12_init_0 : decode cX12_init 0 = .ok (.aload_n 0, 1) := by decide +kernel
theorem dX12_init_1 : decode cX12_init 1 = .ok (.invokespecial 1, 3) := by decide +kernel
theorem dX12_init_4 : decode cX12_init 4 = .ok (.aload_n 0, 1) := by decide +kernel
theorem dX12_init_5 : decode cX12_init 5 = .ok (.sipush 320, 3) := by decide +kernel
theorem dX12_init_8 : decode cX12_init 8 = .ok (.newarray .int, 2) := by decide +kernel
theorem dX12_init_10 : decode cX12_init 10 = .ok (.putfield 7, 3) := by decide +kernel
theorem dX12_init_13 : decode cX12_init 13 = .ok (.aload_n 0, 1) := by decide +kernel
theorem dX12_init_14 : decode cX12_init 14 = .ok (.bipush 6, 2) := by decide +kernel
theorem dX12_init_16 : decode cX12_init 16 = .ok (.newarray .int, 2) := by decide +kernel
theorem dX12_init_18 : decode cX12_init 18 = .ok (.dup, 1) := by decide +kernel
theorem dX12_init_19 : decode cX12_init 19 = .ok (.iconst 0, 1) := by decide +kernel
theorem dX12_init_20 : decode cX12_init 20 = .ok (.iconst 0, 1) := by decide +kernel
theorem dX12_init_21 : decode cX12_init 21 = .ok (.iastore, 1) := by decide +kernel
theorem dX12_init_22 : decode cX12_init 22 = .ok (.dup, 1) := by decide +kernel
theorem dX12_init_23 : decode cX12_init 23 = .ok (.iconst 1, 1) := by decide +kernel
theorem dX12_init_24 : decode cX12_init 24 = .ok (.iconst 3, 1) := by decide +kernel
theorem dX12_init_25 : decode cX12_init 25 = .ok (.iastore, 1) := by decide +kernel
theorem dX12_init_26 : decode cX12_init 26 = .ok (.dup, 1) := by decide +kernel
theorem dX12_init_27 : decode cX12_init 27 = .ok (.iconst 2, 1) := by decide +kernel
theorem dX12_init_28 : decode cX12_init 28 = .ok (.bipush 8, 2) := by decide +kernel
theorem dX12_init_30 : decode cX12_init 30 = .ok (.iastore, 1) := by decide +kernel
theorem dX12_init_31 : decode cX12_init 31 = .ok (.dup, 1) := by decide +kernel
theorem dX12_init_32 : decode cX12_init 32 = .ok (.iconst 3, 1) := by decide +kernel
theorem dX12_init_33 : decode cX12_init 33 = .ok (.bipush 13, 2) := by decide +kernel
theorem dX12_init_35 : decode cX12_init 35 = .ok (.iastore, 1) := by decide +kernel
theorem dX12_init_36 : decode cX12_init 36 = .ok (.dup, 1) := by decide +kernel
theorem dX12_init_37 : decode cX12_init 37 = .ok (.iconst 4, 1) := by decide +kernel
theorem dX12_init_38 : decode cX12_init 38 = .ok (.bipush 17, 2) := by decide +kernel
theorem dX12_init_40 : decode cX12_init 40 = .ok (.iastore, 1) := by decide +kernel
theorem dX12_init_41 : decode cX12_init 41 = .ok (.dup, 1) := by decide +kernel
theorem dX12_init_42 : decode cX12_init 42 = .ok (.iconst 5, 1) := by decide +kernel
theorem dX12_init_43 : decode cX12_init 43 = .ok (.bipush 21, 2) := by decide +kernel
theorem dX12_init_45 : decode cX12_init 45 = .ok (.iastore, 1) := by decide +kernel
theorem dX12_init_46 : decode cX12_init 46 = .ok (.putfield 13, 3) := by decide +kernel
theorem dX12_init_49 : decode cX12_init 49 = .ok (.aload_n 0, 1) := by decide +kernel
theorem dX12_init_50 : decode cX12_init 50 = .ok (.bipush 21, 2) := by decide +kernel
theorem dX12_init_52 : decode cX12_init 52 = .ok (.newarray .int, 2) := by decide +kernel
theorem dX12_init_54 : decode cX12_init 54 = .ok (.dup, 1) := by decide +kernel
theorem dX12_init_55 : decode cX12_init 55 = .ok (.iconst 0, 1) := by decide +kernel
theorem dX12_init_56 : decode cX12_init 56 = .ok (.bipush 111, 2) := by decide +kernel
theorem dX12_init_58 : decode cX12_init 58 = .ok (.iastore, 1) := by decide +kernel
theorem dX12_init_59 : decode cX12_init 59 = .ok (.dup, 1) := by decide +kernel
theorem dX12_init_60 : decode cX12_init 60 = .ok (.iconst 1, 1) := by decide +kernel
theorem dX12_init_61 : decode cX12_init 61 = .ok (.bipush 110, 2) := by decide +kernel
theorem dX12_init_63 : decode cX12_init 63 = .ok (.iastore, 1) := by decide +kernel
theorem dX12_init_64 : decode cX12_init 64 = .ok (.dup, 1) := by decide +kernel
theorem dX12_init_65 : decode cX12_init 65 = .ok (.iconst 2, 1) := by decide +kernel
theorem dX12_init_66 : decode cX12_init 66 = .ok (.bipush 101, 2) := by decide +kernel
theorem dX12_init_68 : decode cX12_init 68 = .ok (.iastore, 1) := by decide +kernel
theorem dX12_init_69 : decode cX12_init 69 = .ok (.dup, 1) := by decide +kernel
theorem dX12_init_70 : decode cX12_init 70 = .ok (.iconst 3, 1) := by decide +kernel
theorem dX12_init_71 : decode cX12_init 71 = .ok (.bipush 98, 2) := by decide +kernel
theorem dX12_init_73 : decode cX12_init 73 = .ok (.iastore, 1) := by decide +kernel
theorem dX12_init_74 : decode cX12_init 74 = .ok (.dup, 1) := by decide +kernel
theorem dX12_init_75 : decode cX12_init 75 = .ok (.iconst 4, 1) := by decide +kernel
theorem dX12_init_76 : decode cX12_init 76 = .ok (.bipush 101, 2) := by decide +kernel
theorem dX12_init_78 : decode cX12_init 78 = .ok (.iastore, 1) := by decide +kernel
theorem dX12_init_79 : decode cX12_init 79 = .ok (.dup, 1) := by decide +kernel
theorem dX12_init_80 : decode cX12_init 80 = .ok (.iconst 5, 1) := by decide +kernel
theorem dX12_init_81 : decode cX12_init 81 = .ok (.bipush 103, 2) := by decide +kernel
theorem dX12_init_83 : decode cX12_init 83 = .ok (.iastore, 1) := by decide +kernel
theorem dX12_init_84 : decode cX12_init 84 = .ok (.dup, 1) := by decide +kernel
theorem dX12_init_85 : decode cX12_init 85 = .ok (.bipush 6, 2) := by decide +kernel
theorem dX12_init_87 : decode cX12_init 87 = .ok (.bipush 105, 2) := by decide +kernel
theorem dX12_init_89 : decode cX12_init 89 = .ok (.iastore, 1) := by decide +kernel
theorem dX12_init_90 : decode cX12_init 90 = .ok (.dup, 1) := by decide +kernel
theorem dX12_init_91 : decode cX12_init 91 = .ok (.bipush 7, 2) := by decide +kernel
theorem dX12_init_93 : decode cX12_init 93 = .ok (.bipush 110, 2) := by decide +kernel
theorem dX12_init_95 : decode cX12_init 95 = .ok (.iastore, 1) := by decide +kernel
theorem dX12_init_96 : decode cX12_init 96 = .ok (.dup, 1) := by decide +kernel
theorem dX12_init_97 : decode cX12_init 97 = .ok (.bipush 8, 2) := by decide +kernel
theorem dX12_init_99 : decode cX12_init 99 = .ok (.bipush 112, 2) := by decide +kernel
theorem dX12_init_101 : decode cX12_init 101 = .ok (.iastore, 1) := by decide +kernel
theorem dX12_init_102 : decode cX12_init 102 = .ok (.dup, 1) := by decide +kernel
theorem dX12_init_103 : decode cX12_init 103 = .ok (.bipush 9, 2) := by decide +kernel
theorem dX12_init_105 : decode cX12_init 105 = .ok (.bipush 117, 2) := by decide +kernel
theorem dX12_init_107 : decode cX12_init 107 = .ok (.iastore, 1) := by decide +kernel
theorem dX12_init_108 : decode cX12_init 108 = .ok (.dup, 1) := by decide +kernel
theorem dX12_init_109 : decode cX12_init 109 = .ok (.bipush 10, 2) := by decide +kernel
theorem dX12_init_111 : decode cX12_init 111 = .ok (.bipush 114, 2) := by decide +kernel
theorem dX12_init_113 : decode cX12_init 113 = .ok (.iastore, 1) := by decide +kernel
theorem dX12_init_114 : decode cX12_init 114 = .ok (.dup, 1) := by decide +kernel
theorem dX12_init_115 : decode cX12_init 115 = .ok (.bipush 11, 2) := by decide +kernel
theorem dX12_init_117 : decode cX12_init 117 = .ok (.bipush 115, 2) := by decide +kernel
theorem dX12_init_119 : decode cX12_init 119 = .ok (.iastore, 1) := by decide +kernel
theorem dX12_init_120 : decode cX12_init 120 = .ok (.dup, 1) := by decide +kernel
theorem dX12_init_121 : decode cX12_init 121 = .ok (.bipush 12, 2) := by decide +kernel
theorem dX12_init_123 : decode cX12_init 123 = .ok (.bipush 101, 2) := by decide +kernel
theorem dX12_init_125 : decode cX12_init 125 = .ok (.iastore, 1) := by decide +kernel
theorem dX12_init_126 : decode cX12_init 126 = .ok (.dup, 1) := by decide +kernel
theorem dX12_init_127 : decode cX12_init 127 = .ok (.bipush 13, 2) := by decide +kernel
theorem dX12_init_129 : decode cX12_init 129 = .ok (.bipush 112, 2) := by decide +kernel
theorem dX12_init_131 : decode cX12_init 131 = .ok (.iastore, 1) := by decide +kernel
theorem dX12_init_132 : decode cX12_init 132 = .ok (.dup, 1) := by decide +kernel
theorem dX12_init_133 : decode cX12_init 133 = .ok (.bipush 14, 2) := by decide +kernel
theorem dX12_init_135 : decode cX12_init 135 = .ok (.bipush 97, 2) := by decide +kernel
theorem dX12_init_137 : decode cX12_init 137 = .ok (.iastore, 1) := by decide +kernel
theorem dX12_init_138 : decode cX12_init 138 = .ok (.dup, 1) := by decide +kernel
theorem dX12_init_139 : decode cX12_init 139 = .ok (.bipush 15, 2) := by decide +kernel
theorem dX12_init_141 : decode cX12_init 141 = .ok (.bipush 114, 2) := by decide +kernel
theorem dX12_init_143 : decode cX12_init 143 = .ok (.iastore, 1) := by decide +kernel
theorem dX12_init_144 : decode cX12_init 144 = .ok (.dup, 1) := by decide +kernel
theorem dX12_init_145 : decode cX12_init 145 = .ok (.bipush 16, 2) := by decide +kernel
theorem dX12_init_147 : decode cX12_init 147 = .ok (.bipush 116, 2) := by decide +kernel
theorem dX12_init_149 : decode cX12_init 149 = .ok (.iastore, 1) := by decide +kernel
theorem dX12_init_150 : decode cX12_init 150 = .ok (.dup, 1) := by decide +kernel
theorem dX12_init_151 : decode cX12_init 151 = .ok (.bipush 17, 2) := by decide +kernel
theorem dX12_init_153 : decode cX12_init 153 = .ok (.bipush 112, 2) := by decide +kernel
theorem dX12_init_155 : decode cX12_init 155 = .ok (.iastore, 1) := by decide +kernel
theorem dX12_init_156 : decode cX12_init 156 = .ok (.dup, 1) := by decide +kernel
theorem dX12_init_157 : decode cX12_init 157 = .ok (.bipush 18, 2) := by decide +kernel
theorem dX12_init_159 : decode cX12_init 159 = .ok (.bipush 111, 2) := by decide +kernel
theorem dX12_init_161 : decode cX12_init 161 = .ok (.iastore, 1) := by decide +kernel
theorem dX12_init_162 : decode cX12_init 162 = .ok (.dup, 1) := by decide +kernel
theorem dX12_init_163 : decode cX12_init 163 = .ok (.bipush 19, 2) := by decide +kernel
theorem dX12_init_165 : decode cX12_init 165 = .ok (.bipush 111, 2) := by decide +kernel
theorem dX12_init_167 : decode cX12_init 167 = .ok (.iastore, 1) := by decide +kernel
theorem dX12_init_168 : decode cX12_init 168 = .ok (.dup, 1) := by decide +kernel
theorem dX12_init_169 : decode cX12_init 169 = .ok (.bipush 20, 2) := by decide +kernel
theorem dX12_init_171 : decode cX12_init 171 = .ok (.bipush 114, 2) := by decide +kernel
theorem dX12_init_173 : decode cX12_init 173 = .ok (.iastore, 1) := by decide +kernel
theorem dX12_init_174 : decode cX12_init 174 = .ok (.putfield 16, 3) := by decide +kernel
theorem dX12_init_177 : decode cX12_init 177 = .ok (.aload_n 0, 1) := by decide +kernel
theorem dX12_init_178 : decode cX12_init 178 = .ok (.sipush 300, 3) := by decide +kernel
theorem dX12_init_181 : decode cX12_init 181 = .ok (.newarray .int, 2) := by decide +kernel
theorem dX12_init_183 : decode cX12_init 183 = .ok (.putfield 19, 3) := by decide +kernel
theorem dX12_init_186 : decode cX12_init 186 = .ok (.aload_n 0, 1) := by decide +kernel
theorem dX12_init_187 : decode cX12_init 187 = .ok (.bipush 74, 2) := by decide +kernel
theorem dX12_init_189 : decode cX12_init 189 = .ok (.newarray .int, 2) := by decide +kernel
theorem dX12_init_191 : decode cX12_init 191 = .ok (.putfield 22, 3) := by decide +kernel
theorem dX12_init_194 : decode cX12_init 194 = .ok (.aload_n 0, 1) := by decide +kernel
theorem dX12_init_195 : decode cX12_init 195 = .ok (.bipush 8, 2) := by decide +kernel
theorem dX12_init_197 : decode cX12_init 197 = .ok (.newarray .boolean, 2) := by decide +kernel
theorem dX12_init_199 : decode cX12_init 199 = .ok (.putfield 25, 3) := by decide +kernel
theorem dX12_init_202 : decode cX12_init 202 = .ok (.aload_n 0, 1) := by decide +kernel
theorem dX12_init_203 : decode cX12_init 203 = .ok (.bipush 8, 2) := by decide +kernel
theorem dX12_init_205 : decode cX12_init 205 = .ok (.newarray .int, 2) := by decide +kernel
theorem dX12_init_207 : decode cX12_init 207 = .ok (.putfield 29, 3) := by decide +kernel
theorem dX12_init_210 : decode cX12_init 210 = .ok (.aload_n 0, 1) := by decide +kernel
theorem dX12_init_211 : decode cX12_init 211 = .ok (.bipush 8, 2) := by decide +kernel
theorem dX12_init_213 : decode cX12_init 213 = .ok (.newarray .int, 2) := by decide +kernel
theorem dX12_init_215 : decode cX12_init 215 = .ok (.putfield 32, 3) := by decide +kernel
theorem dX12_init_218 : decode cX12_init 218 = .ok (.aload_n 0, 1) := by decide +kernel
theorem dX12_init_219 : decode cX12_init 219 = .ok (.bipush 8, 2) := by decide +kernel
theorem dX12_init_221 : decode cX12_init 221 = .ok (.newarray .int, 2) := by decide +kernel
theorem dX12_init_223 : decode cX12_init 223 = .ok (.putfield 35, 3) := by decide +kernel
theorem dX12_init_226 : decode cX12_init 226 = .ok (.aload_n 0, 1) := by decide +kernel
theorem dX12_init_227 : decode cX12_init 227 = .ok (.bipush 8, 2) := by decide +kernel
theorem dX12_init_229 : decode cX12_init 229 = .ok (.newarray .int, 2) := by decide +kernel
theorem dX12_init_231 : decode cX12_init 231 = .ok (.putfield 38, 3) := by decide +kernel
theorem dX12_init_234 : decode cX12_init 234 = .ok (.aload_n 0, 1) := by decide +kernel
theorem dX12_init_235 : decode cX12_init 235 = .ok (.bipush 8, 2) := by decide +kernel
theorem dX12_init_237 : decode cX12_init 237 = .ok (.newarray .int, 2) := by decide +kernel
theorem dX12_init_239 : decode cX12_init 239 = .ok (.putfield 41, 3) := by decide +kernel
theorem dX12_init_242 : decode cX12_init 242 = .ok (.aload_n 0, 1) := by decide +kernel
theorem dX12_init_243 : decode cX12_init 243 = .ok (.bipush 8, 2) := by decide +kernel
theorem dX12_init_245 : decode cX12_init 245 = .ok (.newarray .int, 2) := by decide +kernel
theorem dX12_init_247 : decode cX12_init 247 = .ok (.putfield 44, 3) := by decide +kernel
theorem dX12_init_250 : decode cX12_init 250 = .ok (.aload_n 0, 1) := by decide +kernel
theorem dX12_init_251 : decode cX12_init 251 = .ok (.bipush 8, 2) := by decide +kernel
theorem dX12_init_253 : decode cX12_init 253 = .ok (.newarray .int, 2) := by decide +kernel
theorem dX12_init_255 : decode cX12_init 255 = .ok (.putfield 47, 3) := by decide +kernel
theorem dX12_init_258 : decode cX12_init 258 = .ok (.aload_n 0, 1) := by decide +kernel
theorem dX12_init_259 : decode cX12_init 259 = .ok (.bipush 8, 2) := by decide +kernel
theorem dX12_init_261 : decode cX12_init 261 = .ok (.newarray .int, 2) := by decide +kernel
theorem dX12_init_263 : decode cX12_init 263 = .ok (.putfield 50, 3) := by decide +kernel
theorem dX12_init_266 : decode cX12_init 266 = .ok (.aload_n 0, 1) := by decide +kernel
theorem dX12_init_267 : decode cX12_init 267 = .ok (.bipush 8, 2) := by decide +kernel
theorem dX12_init_269 : decode cX12_init 269 = .ok (.newarray .int, 2) := by decide +kernel
theorem dX12_init_271 : decode cX12_init 271 = .ok (.putfield 53, 3) := by decide +kernel
theorem dX12_init_274 : decode cX12_init 274 = .ok (.aload_n 0, 1) := by decide +kernel
theorem dX12_init_275 : decode cX12_init 275 = .ok (.bipush 8, 2) := by decide +kernel
theorem dX12_init_277 : decode cX12_init 277 = .ok (.newarray .int, 2) := by decide +kernel
theorem dX12_init_279 : decode cX12_init 279 = .ok (.putfield 56, 3) := by decide +kernel
theorem dX12_init_282 : decode cX12_init 282 = .ok (.aload_n 0, 1) := by decide +kernel
theorem dX12_init_283 : decode cX12_init 283 = .ok (.sipush 200, 3) := by decide +kernel
theorem dX12_init_286 : decode cX12_init 286 = .ok (.newarray .int, 2) := by decide +kernel
theorem dX12_init_288 : decode cX12_init 288 = .ok (.putfield 59, 3) := by decide +kernel
theorem dX12_init_291 : decode cX12_init 291 = .ok (.aload_n 0, 1) := by decide +kernel
theorem dX12_init_292 : decode cX12_init 292 = .ok (.bipush 40, 2) := by decide +kernel
theorem dX12_init_294 : decode cX12_init 294 = .ok (.newarray .int, 2) := by decide +kernel
theorem dX12_init_296 : decode cX12_init 296 = .ok (.putfield 62, 3) := by decide +kernel
theorem dX12_init_299 : decode cX12_init 299 = .ok (.aload_n 0, 1) := by decide +kernel
theorem dX12_init_300 : decode cX12_init 300 = .ok (.bipush 6, 2) := by decide +kernel
theorem dX12_init_302 : decode cX12_init 302 = .ok (.newarray .int, 2) := by decide +kernel
theorem dX12_init_304 : decode cX12_init 304 = .ok (.putfield 65, 3) := by decide +kernel
theorem dX12_init_307 : decode cX12_init 307 = .ok (.aload_n 0, 1) := by decide +kernel
theorem dX12_init_308 : decode cX12_init 308 = .ok (.bipush 6, 2) := by decide +kernel
theorem dX12_init_310 : decode cX12_init 310 = .ok (.newarray .int, 2) := by decide +kernel
theorem dX12_init_312 : decode cX12_init 312 = .ok (.putfield 68, 3) := by decide +kernel
theorem dX12_init_315 : decode cX12_init 315 = .ok (.aload_n 0, 1) := by decide +kernel
theorem dX12_init_316 : decode cX12_init 316 = .ok (.bipush 60, 2) := by decide +kernel
theorem dX12_init_318 : decode cX12_init 318 = .ok (.newarray .int, 2) := by decide +kernel
theorem dX12_init_320 : decode cX12_init 320 = .ok (.putfield 71, 3) := by decide +kernel
theorem dX12_init_323 : decode cX12_init 323 = .ok (.aload_n 0, 1) := by decide +kernel
theorem dX12_init_324 : decode cX12_init 324 = .ok (.sipush 256, 3) := by decide +kernel
theorem dX12_init_327 : decode cX12_init 327 = .ok (.newarray .int, 2) := by decide +kernel
theorem dX12_init_329 : decode cX12_init 329 = .ok (.putfield 74, 3) := by decide +kernel
theorem dX12_init_332 : decode cX12_init 332 = .ok (.aload_n 0, 1) := by decide +kernel
theorem dX12_init_333 : decode cX12_init 333 = .ok (.iconst 2, 1) := by decide +kernel
theorem dX12_init_334 : decode cX12_init 334 = .ok (.newarray .boolean, 2) := by decide +kernel
theorem dX12_init_336 : decode cX12_init 336 = .ok (.putfield 77, 3) := by decide +kernel
theorem dX12_init_339 : decode cX12_init 339 = .ok (.aload_n 0, 1) := by decide +kernel
theorem dX12_init_340 : decode cX12_init 340 = .ok (.iconst 4, 1) := by decide +kernel
theorem dX12_init_341 : decode cX12_init 341 = .ok (.newarray .int, 2) := by decide +kernel
theorem dX12_init_343 : decode cX12_init 343 = .ok (.dup, 1) := by decide +kernel
theorem dX12_init_344 : decode cX12_init 344 = .ok (.iconst 0, 1) := by decide +kernel
theorem dX12_init_345 : decode cX12_init 345 = .ok (.bipush (-4), 2) := by decide +kernel
theorem dX12_init_347 : decode cX12_init 347 = .ok (.iastore, 1) := by decide +kernel
theorem dX12_init_348 : decode cX12_init 348 = .ok (.dup, 1) := by decide +kernel
theorem dX12_init_349 : decode cX12_init 349 = .ok (.iconst 1, 1) := by decide +kernel
theorem dX12_init_350 : decode cX12_init 350 = .ok (.bipush (-4), 2) := by decide +kernel
theorem dX12_init_352 : decode cX12_init 352 = .ok (.iastore, 1) := by decide +kernel
theorem dX12_init_353 : decode cX12_init 353 = .ok (.dup, 1) := by decide +kernel
theorem dX12_init_354 : decode cX12_init 354 = .ok (.iconst 2, 1) := by decide +kernel
theorem dX12_init_355 : decode cX12_init 355 = .ok (.bipush (-4), 2) := by decide +kernel
theorem dX12_init_357 : decode cX12_init 357 = .ok (.iastore, 1) := by decide +kernel
theorem dX12_init_358 : decode cX12_init 358 = .ok (.dup, 1) := by decide +kernel
theorem dX12_init_359 : decode cX12_init 359 = .ok (.iconst 3, 1) := by decide +kernel
theorem dX12_init_360 : decode cX12_init 360 = .ok (.bipush (-4), 2) := by decide +kernel
theorem dX12_init_362 : decode cX12_init 362 = .ok (.iastore, 1) := by decide +kernel
theorem dX12_init_363 : decode cX12_init 363 = .ok (.putfield 80, 3) := by decide +kernel
theorem dX12_init_366 : decode cX12_init 366 = .ok (.aload_n 0, 1) := by decide +kernel
theorem dX12_init_367 : decode cX12_init 367 = .ok (.iconst 4, 1) := by decide +kernel
theorem dX12_init_368 : decode cX12_init 368 = .ok (.newarray .int, 2) := by decide +kernel
theorem dX12_init_370 : decode cX12_init 370 = .ok (.putfield 83, 3) := by decide +kernel
theorem dX12_init_373 : decode cX12_init 373 = .ok (.aload_n 0, 1) := by decide +kernel
theorem dX12_init_374 : decode cX12_init 374 = .ok (.sipush 160, 3) := by decide +kernel
theorem dX12_init_377 : decode cX12_init 377 = .ok (.newarray .int, 2) := by decide +kernel
theorem dX12_init_379 : decode cX12_init 379 = .ok (.putfield 86, 3) := by decide +kernel
theorem dX12_init_382 : decode cX12_init 382 = .ok (.return_, 1) := by decide +kernel
theorem dX12_isEmpty_0 : decode cX12_isEmpty 0 = .ok (.aload_n 0, 1) := by decide +kernel
theorem dX12_isEmpty_1 : decode cX12_isEmpty 1 = .ok (.getfield 25, 3) := by decide +kernel
theorem dX12_isEmpty_4 : decode cX12_isEmpty 4 = .ok (.iload_n 1, 1) := by decide +kernel
theorem dX12_isEmpty_5 : decode cX12_isEmpty 5 = .ok (.baload, 1) := by decide +kernel
theorem dX12_isEmpty_6 : decode cX12_isEmpty 6 = .ok (.ifCond .eq 18, 3) := by decide +kernel
theorem dX12_isEmpty_9 : decode cX12_isEmpty 9 = .ok (.aload_n 0, 1) := by decide +kernel
theorem dX12_isEmpty_10 : decode cX12_isEmpty 10 = .ok (.getfield 29, 3) := by decide +kernel
theorem dX12_isEmpty_13 : decode cX12_isEmpty 13 = .ok (.iload_n 1, 1) := by decide +kernel
theorem dX12_isEmpty_14 : decode cX12_isEmpty 14 = .ok (.iaload, 1) := by decide +kernel
theorem dX12_isEmpty_15 : decode cX12_isEmpty 15 = .ok (.bipush (-4), 2) := by decide +kernel
theorem dX12_isEmpty_17 : decode cX12_isEmpty 17 = .ok (.if_icmp .eq 7, 3) := by decide +kernel
theorem dX12_isEmpty_20 : decode cX12_isEmpty 20 = .ok (.iconst 1, 1) := by decide +kernel
theorem dX12_isEmpty_21 : decode cX12_isEmpty 21 = .ok (.goto 4, 3) := by decide +kernel
theorem dX12_isEmpty_24 : decode cX12_isEmpty 24 = .ok (.iconst 0, 1) := by decide +kernel
theorem dX12_isEmpty_25 : decode cX12_isEmpty 25 = .ok (.ireturn, 1) := by decide +kernel
theorem dX12_isOne_0 : decode cX12_isOne 0 = .ok (.iload_n 1, 1) := by decide +kernel
theorem dX12_isOne_1 : decode cX12_isOne 1 = .ok (.i2l, 1) := by decide +kernel
theorem dX12_isOne_2 : decode cX12_isOne 2 = .ok (.lconst 0, 1) := by decide +kernel
theorem dX12_isOne_3 : decode cX12_isOne 3 = .ok (.aload_n 0, 1) := by decide +kernel
theorem dX12_isOne_4 : decode cX12_isOne 4 = .ok (.getfield 19, 3) := by decide +kernel
theorem dX12_isOne_7 : decode cX12_isOne 7 = .ok (.bipush 72, 2) := by decide +kernel
theorem dX12_isOne_9 : decode cX12_isOne 9 = .ok (.iaload, 1) := by decide +kernel
theorem dX12_isOne_10 : decode cX12_isOne 10 = .ok (.iconst 1, 1) := by decide +kernel
theorem dX12_isOne_11 : decode cX12_isOne 11 = .ok (.isub, 1) := by decide +kernel
theorem dX12_isOne_12 : decode cX12_isOne 12 = .ok (.i2l, 1) := by decide +kernel
theorem dX12_isOne_13 : decode cX12_isOne 13 = .ok (.invokestatic 97, 3) := by decide +kernel
theorem dX12_isOne_16 : decode cX12_isOne 16 = .ok (.ireturn, 1) := by decide +kernel
theorem dX12_isRule_0 : decode cX12_isRule 0 = .ok (.iload_n 0, 1) := by decide +kernel
theorem dX12_isRule_1 : decode cX12_isRule 1 = .ok (.i2l, 1) := by decide +kernel
theorem dX12_isRule_2 : decode cX12_isRule 2 = .ok (.lconst 0, 1) := by decide +kernel
theorem dX12_isRule_3 : decode cX12_isRule 3 = .ok (.ldc2_w 278, 3) := by decide +kernel
theorem dX12_isRule_6 : decode cX12_isRule 6 = .ok (.invokestatic 97, 3) := by decide +kernel
theorem dX12_isRule_9 : decode cX12_isRule 9 = .ok (.ireturn, 1) := by decide +kernel
theorem dX12_isValue_0 : decode cX12_isValue 0 = .ok (.iload_n 2, 1) := by decide +kernel
theorem dX12_isValue_1 : decode cX12_isValue 1 = .ok (.tableswitch 131 0 7 #[47, 63, 81, 81, 91, 101, 111, 119], 47) := by decide +kernel
theorem dX12_isValue_48 : decode cX12_isValue 48 = .ok (.iload_n 3, 1) := by decide +kernel
theorem dX12_isValue_49 : decode cX12_isValue 49 = .ok (.i2l, 1) := by decide +kernel
theorem dX12_isValue_50 : decode cX12_isValue 50 = .ok (.lconst 0, 1) := by decide +kernel
theorem dX12_isValue_51 : decode cX12_isValue 51 = .ok (.aload_n 0, 1) := by decide +kernel
theorem dX12_isValue_52 : decode cX12_isValue 52 = .ok (.iload_n 1, 1) := by decide +kernel
theorem dX12_isValue_53 : decode cX12_isValue 53 = .ok (.iconst 1, 1) := by decide +kernel
theorem dX12_isValue_54 : decode cX12_isValue 54 = .ok (.invokevirtual 168, 3) := by decide +kernel
theorem dX12_isValue_57 : decode cX12_isValue 57 = .ok (.iconst 1, 1) := by decide +kernel
theorem dX12_isValue_58 : decode cX12_isValue 58 = .ok (.isub, 1) := by decide +kernel
theorem dX12_isValue_59 : decode cX12_isValue 59 = .ok (.i2l, 1) := by decide +kernel
theorem dX12_isValue_60 : decode cX12_isValue 60 = .ok (.invokestatic 97, 3) := by decide +kernel
theorem dX12_isValue_63 : decode cX12_isValue 63 = .ok (.ireturn, 1) := by decide +kernel
theorem dX12_isValue_64 : decode cX12_isValue 64 = .ok (.iload_n 3, 1) := by decide +kernel
theorem dX12_isValue_65 : decode cX12_isValue 65 = .ok (.i2l, 1) := by decide +kernel
theorem dX12_isValue_66 : decode cX12_isValue 66 = .ok (.aload_n 0, 1) := by decide +kernel
theorem dX12_isValue_67 : decode cX12_isValue 67 = .ok (.iload_n 1, 1) := by decide +kernel
theorem dX12_isValue_68 : decode cX12_isValue 68 = .ok (.iconst 0, 1) := by decide +kernel
theorem dX12_isValue_69 : decode cX12_isValue 69 = .ok (.invokevirtual 168, 3) := by decide +kernel
theorem dX12_isValue_72 : decode cX12_isValue 72 = .ok (.iconst 1, 1) := by decide +kernel
theorem dX12_isValue_73 : decode cX12_isValue 73 = .ok (.iadd, 1) := by decide +kernel
theorem dX12_isValue_74 : decode cX12_isValue 74 = .ok (.i2l, 1) := by decide +kernel
theorem dX12_isValue_75 : decode cX12_isValue 75 = .ok (.ldc2_w 172, 3) := by decide +kernel
theorem dX12_isValue_78 : decode cX12_isValue 78 = .ok (.invokestatic 97, 3) := by decide +kernel
theorem dX12_isValue_81 : decode cX12_isValue 81 = .ok (.ireturn, 1) := by decide +kernel
theorem dX12_isValue_82 : decode cX12_isValue 82 = .ok (.iload_n 3, 1) := by decide +kernel
theorem dX12_isValue_83 : decode cX12_isValue 83 = .ok (.i2l, 1) := by decide +kernel
theorem dX12_isValue_84 : decode cX12_isValue 84 = .ok (.lconst 1, 1) := by decide +kernel
theorem dX12_isValue_85 : decode cX12_isValue 85 = .ok (.ldc2_w 174, 3) := by decide +kernel
theorem dX12_isValue_88 : decode cX12_isValue 88 = .ok (.invokestatic 97, 3) := by decide +kernel
theorem dX12_isValue_91 : decode cX12_isValue 91 = .ok (.ireturn, 1) := by decide +kernel
theorem dX12_isValue_92 : decode cX12_isValue 92 = .ok (.iload_n 3, 1) := by decide +kernel
theorem dX12_isValue_93 : decode cX12_isValue 93 = .ok (.i2l, 1) := by decide +kernel
theorem dX12_isValue_94 : decode cX12_isValue 94 = .ok (.lconst 0, 1) := by decide +kernel
theorem dX12_isValue_95 : decode cX12_isValue 95 = .ok (.ldc2_w 176, 3) := by decide +kernel
theorem dX12_isValue_98 : decode cX12_isValue 98 = .ok (.invokestatic 97, 3) := by decide +kernel
theorem dX12_isValue_101 : decode cX12_isValue 101 = .ok (.ireturn, 1) := by decide +kernel
theorem dX12_isValue_102 : decode cX12_isValue 102 = .ok (.iload_n 3, 1) := by decide +kernel
theorem dX12_isValue_103 : decode cX12_isValue 103 = .ok (.i2l, 1) := by decide +kernel
theorem dX12_isValue_104 : decode cX12_isValue 104 = .ok (.lconst 0, 1) := by decide +kernel
theorem dX12_isValue_105 : decode cX12_isValue 105 = .ok (.ldc2_w 178, 3) := by decide +kernel
theorem dX12_isValue_108 : decode cX12_isValue 108 = .ok (.invokestatic 97, 3) := by decide +kernel
theorem dX12_isValue_111 : decode cX12_isValue 111 = .ok (.ireturn, 1) := by decide +kernel
theorem dX12_isValue_112 : decode cX12_isValue 112 = .ok (.iload_n 3, 1) := by decide +kernel
theorem dX12_isValue_113 : decode cX12_isValue 113 = .ok (.i2l, 1) := by decide +kernel
theorem dX12_isValue_114 : decode cX12_isValue 114 = .ok (.lconst 0, 1) := by decide +kernel
theorem dX12_isValue_115 : decode cX12_isValue 115 = .ok (.lconst 1, 1) := by decide +kernel
theorem dX12_isValue_116 : decode cX12_isValue 116 = .ok (.invokestatic 97, 3) := by decide +kernel
theorem dX12_isValue_119 : decode cX12_isValue 119 = .ok (.ireturn, 1) := by decide +kernel
theorem dX12_isValue_120 : decode cX12_isValue 120 = .ok (.iload_n 3, 1) := by decide +kernel
theorem dX12_isValue_121 : decode cX12_isValue 121 = .ok (.i2l, 1) := by decide +kernel
theorem dX12_isValue_122 : decode cX12_isValue 122 = .ok (.ldc2_w 180, 3) := by decide +kernel
theorem dX12_isValue_125 : decode cX12_isValue 125 = .ok (.ldc2_w 182, 3) := by decide +kernel
theorem dX12_isValue_128 : decode cX12_isValue 128 = .ok (.invokestatic 97, 3) := by decide +kernel
theorem dX12_isValue_131 : decode cX12_isValue 131 = .ok (.ireturn, 1) := by decide +kernel
theorem dX12_isValue_132 : decode cX12_isValue 132 = .ok (.iconst 0, 1) := by decide +kernel
theorem dX12_isValue_133 : decode cX12_isValue 133 = .ok (.ireturn, 1) := by decide +kernel
theorem dX12_its_0 : decode cX12_its 0 = .ok (.aload_n 0, 1) := by decide +kernel
theorem dX12_its_1 : decode cX12_its 1 = .ok (.getfield 19, 3) := by decide +kernel
theorem dX12_its_4 : decode cX12_its 4 = .ok (.bipush 9, 2) := by decide +kernel
theorem dX12_its_6 : decode cX12_its 6 = .ok (.iload_n 1, 1) := by decide +kernel
theorem dX12_its_7 : decode cX12_its 7 = .ok (.imul, 1) := by decide +kernel
theorem dX12_its_8 : decode cX12_its 8 = .ok (.iload_n 2, 1) := by decide +kernel
theorem dX12_its_9 : decode cX12_its 9 = .ok (.iadd, 1) := by decide +kernel
theorem dX12_its_10 : decode cX12_its 10 = .ok (.iaload, 1) := by decide +kernel
theorem dX12_its_11 : decode cX12_its 11 = .ok (.ireturn, 1) := by decide +kernel
theorem dX12_judge_0 : decode cX12_judge 0 = .ok (.iload_n 1, 1) := by decide +kernel
theorem dX12_judge_1 : decode cX12_judge 1 = .ok (.invokestatic 283, 3) := by decide +kernel
theorem dX12_judge_4 : decode cX12_judge 4 = .ok (.ifCond .eq 13, 3) := by decide +kernel
theorem dX12_judge_7 : decode cX12_judge 7 = .ok (.iload_n 3, 1) := by decide +kernel
theorem dX12_judge_8 : decode cX12_judge 8 = .ok (.i2l, 1) := by decide +kernel
theorem dX12_judge_9 : decode cX12_judge 9 = .ok (.lconst 0, 1) := by decide +kernel
theorem dX12_judge_10 : decode cX12_judge 10 = .ok (.lconst 1, 1) := by decide +kernel
theorem dX12_judge_11 : decode cX12_judge 11 = .ok (.invokestatic 97, 3) := by decide +kernel
theorem dX12_judge_14 : decode cX12_judge 14 = .ok (.ifCond .ne 5, 3) := by decide +kernel
theorem dX12_judge_17 : decode cX12_judge 17 = .ok (.iconst (-1), 1) := by decide +kernel
theorem dX12_judge_18 : decode cX12_judge 18 = .ok (.ireturn, 1) := by decide +kernel
theorem dX12_judge_19 : decode cX12_judge 19 = .ok (.aload_n 0, 1) := by decide +kernel
theorem dX12_judge_20 : decode cX12_judge 20 = .ok (.iload_n 1, 1) := by decide +kernel
theorem dX12_judge_21 : decode cX12_judge 21 = .ok (.iload_n 2, 1) := by decide +kernel
theorem dX12_judge_22 : decode cX12_judge 22 = .ok (.invokevirtual 286, 3) := by decide +kernel
theorem dX12_judge_25 : decode cX12_judge 25 = .ok (.iconst 0, 1) := by decide +kernel
theorem dX12_judge_26 : decode cX12_judge 26 = .ok (.istore 4, 2) := by decide +kernel
theorem dX12_judge_28 : decode cX12_judge 28 = .ok (.iload 4, 2) := by decide +kernel
theorem dX12_judge_30 : decode cX12_judge 30 = .ok (.aload_n 0, 1) := by decide +kernel
theorem dX12_judge_31 : decode cX12_judge 31 = .ok (.getfield 197, 3) := by decide +kernel
theorem dX12_judge_34 : decode cX12_judge 34 = .ok (.if_icmp .ge 66, 3) := by decide +kernel
theorem dX12_judge_37 : decode cX12_judge 37 = .ok (.iload 4, 2) := by decide +kernel
theorem dX12_judge_39 : decode cX12_judge 39 = .ok (.aload_n 0, 1) := by decide +kernel
theorem dX12_judge_40 : decode cX12_judge 40 = .ok (.getfield 19, 3) := by decide +kernel
theorem dX12_judge_43 : decode cX12_judge 43 = .ok (.bipush 86, 2) := by decide +kernel
theorem dX12_judge_45 : decode cX12_judge 45 = .ok (.iaload, 1) := by decide +kernel
theorem dX12_judge_46 : decode cX12_judge 46 = .ok (.if_icmp .ge 54, 3) := by decide +kernel
theorem dX12_judge_49 : decode cX12_judge 49 = .ok (.aload_n 0, 1) := by decide +kernel
theorem dX12_judge_50 : decode cX12_judge 50 = .ok (.getfield 59, 3) := by decide +kernel
theorem dX12_judge_53 : decode cX12_judge 53 = .ok (.iconst 5, 1) := by decide +kernel
theorem dX12_judge_54 : decode cX12_judge 54 = .ok (.iload 4, 2) := by decide +kernel
theorem dX12_judge_56 : decode cX12_judge 56 = .ok (.imul, 1) := by decide +kernel
theorem dX12_judge_57 : decode cX12_judge 57 = .ok (.iconst 1, 1) := by decide +kernel
theorem dX12_judge_58 : decode cX12_judge 58 = .ok (.iadd, 1) := by decide +kernel
theorem dX12_judge_59 : decode cX12_judge 59 = .ok (.iaload, 1) := by decide +kernel
theorem dX12_judge_60 : decode cX12_judge 60 = .ok (.aload_n 0, 1) := by decide +kernel
theorem dX12_judge_61 : decode cX12_judge 61 = .ok (.getfield 19, 3) := by decide +kernel
theorem dX12_judge_64 : decode cX12_judge 64 = .ok (.bipush 74, 2) := by decide +kernel
theorem dX12_judge_66 : decode cX12_judge 66 = .ok (.iload 4, 2) := by decide +kernel
theorem dX12_judge_68 : decode cX12_judge 68 = .ok (.iadd, 1) := by decide +kernel
theorem dX12_judge_69 : decode cX12_judge 69 = .ok (.iaload, 1) := by decide +kernel
theorem dX12_judge_70 : decode cX12_judge 70 = .ok (.if_icmp .eq 24, 3) := by decide +kernel
theorem dX12_judge_73 : decode cX12_judge 73 = .ok (.iload_n 3, 1) := by decide +kernel
theorem dX12_judge_74 : decode cX12_judge 74 = .ok (.ifCond .ne 8, 3) := by decide +kernel
theorem dX12_judge_77 : decode cX12_judge 77 = .ok (.iload 4, 2) := by decide +kernel
theorem dX12_judge_79 : decode cX12_judge 79 = .ok (.goto 14, 3) := by decide +kernel
theorem dX12_judge_82 : decode cX12_judge 82 = .ok (.aload_n 0, 1) := by decide +kernel
theorem dX12_judge_83 : decode cX12_judge 83 = .ok (.getfield 59, 3) := by decide +kernel
theorem dX12_judge_86 : decode cX12_judge 86 = .ok (.iconst 5, 1) := by decide +kernel
theorem dX12_judge_87 : decode cX12_judge 87 = .ok (.iload 4, 2) := by decide +kernel
theorem dX12_judge_89 : decode cX12_judge 89 = .ok (.imul, 1) := by decide +kernel
theorem dX12_judge_90 : decode cX12_judge 90 = .ok (.iconst 1, 1) := by decide +kernel
theorem dX12_judge_91 : decode cX12_judge 91 = .ok (.iadd, 1) := by decide +kernel
theorem dX12_judge_92 : decode cX12_judge 92 = .ok (.iaload, 1) := by decide +kernel
theorem dX12_judge_93 : decode cX12_judge 93 = .ok (.ireturn, 1) := by decide +kernel
theorem dX12_judge_94 : decode cX12_judge 94 = .ok (.iinc 4 1, 3) := by decide +kernel
theorem dX12_judge_97 : decode cX12_judge 97 = .ok (.goto (-69), 3) := by decide +kernel
theorem dX12_judge_100 : decode cX12_judge 100 = .ok (.bipush (-4), 2) := by decide +kernel
theorem dX12_judge_102 : decode cX12_judge 102 = .ok (.ireturn, 1) := by decide +kernel
theorem dX12_keep_0 : decode cX12_keep 0 = .ok (.aload_n 0, 1) := by decide +kernel
theorem dX12_keep_1 : decode cX12_keep 1 = .ok (.invokevirtual 260, 3) := by decide +kernel
theorem dX12_keep_4 : decode cX12_keep 4 = .ok (.iload_n 1, 1) := by decide +kernel
theorem dX12_keep_5 : decode cX12_keep 5 = .ok (.i2l, 1) := by decide +kernel
theorem dX12_keep_6 : decode cX12_keep 6 = .ok (.lconst 0, 1) := by decide +kernel
theorem dX12_keep_7 : decode cX12_keep 7 = .ok (.lconst 1, 1) := by decide +kernel
theorem dX12_keep_8 : decode cX12_keep 8 = .ok (.invokestatic 97, 3) := by decide +kernel
theorem dX12_keep_11 : decode cX12_keep 11 = .ok (.ifCond .ne 5, 3) := by decide +kernel
theorem dX12_keep_14 : decode cX12_keep 14 = .ok (.iconst (-1), 1) := by decide +kernel
theorem dX12_keep_15 : decode cX12_keep 15 = .ok (.ireturn, 1) := by decide +kernel
theorem dX12_keep_16 : decode cX12_keep 16 = .ok (.iconst 0, 1) := by decide +kernel
theorem dX12_keep_17 : decode cX12_keep 17 = .ok (.istore_n 2, 1) := by decide +kernel
theorem dX12_keep_18 : decode cX12_keep 18 = .ok (.iload_n 2, 1) := by decide +kernel
theorem dX12_keep_19 : decode cX12_keep 19 = .ok (.bipush 100, 2) := by decide +kernel
theorem dX12_keep_21 : decode cX12_keep 21 = .ok (.if_icmp .ge 28, 3) := by decide +kernel
theorem dX12_keep_24 : decode cX12_keep 24 = .ok (.aload_n 0, 1) := by decide +kernel
theorem dX12_keep_25 : decode cX12_keep 25 = .ok (.getfield 19, 3) := by decide +kernel
theorem dX12_keep_28 : decode cX12_keep 28 = .ok (.bipush 100, 2) := by decide +kernel
theorem dX12_keep_30 : decode cX12_keep 30 = .ok (.iload_n 1, 1) := by decide +kernel
theorem dX12_keep_31 : decode cX12_keep 31 = .ok (.iconst 1, 1) := by decide +kernel
theorem dX12_keep_32 : decode cX12_keep 32 = .ok (.iadd, 1) := by decide +kernel
theorem dX12_keep_33 : decode cX12_keep 33 = .ok (.imul, 1) := by decide +kernel
theorem dX12_keep_34 : decode cX12_keep 34 = .ok (.iload_n 2, 1) := by decide +kernel
theorem dX12_keep_35 : decode cX12_keep 35 = .ok (.iadd, 1) := by decide +kernel
theorem dX12_keep_36 : decode cX12_keep 36 = .ok (.aload_n 0, 1) := by decide +kernel
theorem dX12_keep_37 : decode cX12_keep 37 = .ok (.getfield 19, 3) := by decide +kernel
theorem dX12_keep_40 : decode cX12_keep 40 = .ok (.iload_n 2, 1) := by decide +kernel
theorem dX12_keep_41 : decode cX12_keep 41 = .ok (.iaload, 1) := by decide +kernel
theorem dX12_keep_42 : decode cX12_keep 42 = .ok (.iastore, 1) := by decide +kernel
theorem dX12_keep_43 : decode cX12_keep 43 = .ok (.iinc 2 1, 3) := by decide +kernel
theorem dX12_keep_46 : decode cX12_keep 46 = .ok (.goto (-28), 3) := by decide +kernel
theorem dX12_keep_49 : decode cX12_keep 49 = .ok (.aload_n 0, 1) := by decide +kernel
theorem dX12_keep_50 : decode cX12_keep 50 = .ok (.getfield 77, 3) := by decide +kernel
theorem dX12_keep_53 : decode cX12_keep 53 = .ok (.iload_n 1, 1) := by decide +kernel
theorem dX12_keep_54 : decode cX12_keep 54 = .ok (.baload, 1) := by decide +kernel
theorem dX12_keep_55 : decode cX12_keep 55 = .ok (.ifCond .eq 7, 3) := by decide +kernel
theorem dX12_keep_58 : decode cX12_keep 58 = .ok (.iconst 1, 1) := by decide +kernel
theorem dX12_keep_59 : decode cX12_keep 59 = .ok (.goto 4, 3) := by decide +kernel
theorem dX12_keep_62 : decode cX12_keep 62 = .ok (.iconst 0, 1) := by decide +kernel
theorem dX12_keep_63 : decode cX12_keep 63 = .ok (.istore_n 2, 1) := by decide +kernel
theorem dX12_keep_64 : decode cX12_keep 64 = .ok (.aload_n 0, 1) := by decide +kernel
theorem dX12_keep_65 : decode cX12_keep 65 = .ok (.getfield 77, 3) := by decide +kernel
theorem dX12_keep_68 : decode cX12_keep 68 = .ok (.iload_n 1, 1) := by decide +kernel
theorem dX12_keep_69 : decode cX12_keep 69 = .ok (.iconst 1, 1) := by decide +kernel
theorem dX12_keep_70 : decode cX12_keep 70 = .ok (.bastore, 1) := by decide +kernel
theorem dX12_keep_71 : decode cX12_keep 71 = .ok (.iload_n 2, 1) := by decide +kernel
theorem dX12_keep_72 : decode cX12_keep 72 = .ok (.ireturn, 1) := by decide +kernel
theorem dX12_late_0 : decode cX12_late 0 = .ok (.aload_n 0, 1) := by decide +kernel
theorem dX12_late_1 : decode cX12_late 1 = .ok (.iload_n 1, 1) := by decide +kernel
theorem dX12_late_2 : decode cX12_late 2 = .ok (.invokevirtual 162, 3) := by decide +kernel
theorem dX12_late_5 : decode cX12_late 5 = .ok (.ifCond .eq 21, 3) := by decide +kernel
theorem dX12_late_8 : decode cX12_late 8 = .ok (.iload_n 2, 1) := by decide +kernel
theorem dX12_late_9 : decode cX12_late 9 = .ok (.invokestatic 283, 3) := by decide +kernel
theorem dX12_late_12 : decode cX12_late 12 = .ok (.ifCond .eq 14, 3) := by decide +kernel
theorem dX12_late_15 : decode cX12_late 15 = .ok (.iload 4, 2) := by decide +kernel
theorem dX12_late_17 : decode cX12_late 17 = .ok (.i2l, 1) := by decide +kernel
theorem dX12_late_18 : decode cX12_late 18 = .ok (.lconst 0, 1) := by decide +kernel
theorem dX12_late_19 : decode cX12_late 19 = .ok (.lconst 1, 1) := by decide +kernel
theorem dX12_late_20 : decode cX12_late 20 = .ok (.invokestatic 97, 3) := by decide +kernel
theorem dX12_late_23 : decode cX12_late 23 = .ok (.ifCond .ne 5, 3) := by decide +kernel
theorem dX12_late_26 : decode cX12_late 26 = .ok (.iconst (-1), 1) := by decide +kernel
theorem dX12_late_27 : decode cX12_late 27 = .ok (.ireturn, 1) := by decide +kernel
theorem dX12_late_28 : decode cX12_late 28 = .ok (.aload_n 0, 1) := by decide +kernel
theorem dX12_late_29 : decode cX12_late 29 = .ok (.iload_n 1, 1) := by decide +kernel
theorem dX12_late_30 : decode cX12_late 30 = .ok (.iload_n 2, 1) := by decide +kernel
theorem dX12_late_31 : decode cX12_late 31 = .ok (.iload_n 3, 1) := by decide +kernel
theorem dX12_late_32 : decode cX12_late 32 = .ok (.iconst 0, 1) := by decide +kernel
theorem dX12_late_33 : decode cX12_late 33 = .ok (.iconst 0, 1) := by decide +kernel
theorem dX12_late_34 : decode cX12_late 34 = .ok (.aload_n 0, 1) := by decide +kernel
theorem dX12_late_35 : decode cX12_late 35 = .ok (.iload_n 1, 1) := by decide +kernel
theorem dX12_late_36 : decode cX12_late 36 = .ok (.iconst 1, 1) := by decide +kernel
theorem dX12_late_37 : decode cX12_late 37 = .ok (.invokevirtual 168, 3) := by decide +kernel
theorem dX12_late_40 : decode cX12_late 40 = .ok (.iconst 1, 1) := by decide +kernel
theorem dX12_late_41 : decode cX12_late 41 = .ok (.isub, 1) := by decide +kernel
theorem dX12_late_42 : decode cX12_late 42 = .ok (.invokevirtual 322, 3) := by decide +kernel
theorem dX12_late_45 : decode cX12_late 45 = .ok (.iload 4, 2) := by decide +kernel
theorem dX12_late_47 : decode cX12_late 47 = .ok (.ifCond .ne 10, 3) := by decide +kernel
theorem dX12_late_50 : decode cX12_late 50 = .ok (.aload_n 0, 1) := by decide +kernel
theorem dX12_late_51 : decode cX12_late 51 = .ok (.getfield 316, 3) := by decide +kernel
theorem dX12_late_54 : decode cX12_late 54 = .ok (.goto 7, 3) := by decide +kernel
theorem dX12_late_57 : decode cX12_late 57 = .ok (.aload_n 0, 1) := by decide +kernel
theorem dX12_late_58 : decode cX12_late 58 = .ok (.getfield 319, 3) := by decide +kernel
theorem dX12_late_61 : decode cX12_late 61 = .ok (.ireturn, 1) := by decide +kernel
theorem dX12_lay_0 : decode cX12_lay 0 = .ok (.iload_n 1, 1) := by decide +kernel
theorem dX12_lay_1 : decode cX12_lay 1 = .ok (.i2l, 1) := by decide +kernel
theorem dX12_lay_2 : decode cX12_lay 2 = .ok (.lconst 0, 1) := by decide +kernel
theorem dX12_lay_3 : decode cX12_lay 3 = .ok (.ldc2_w 294, 3) := by decide +kernel
theorem dX12_lay_6 : decode cX12_lay 6 = .ok (.invokestatic 97, 3) := by decide +kernel
theorem dX12_lay_9 : decode cX12_lay 9 = .ok (.ifCond .ne 5, 3) := by decide +kernel
theorem dX12_lay_12 : decode cX12_lay 12 = .ok (.iconst (-1), 1) := by decide +kernel
theorem dX12_lay_13 : decode cX12_lay 13 = .ok (.ireturn, 1) := by decide +kernel
theorem dX12_lay_14 : decode cX12_lay 14 = .ok (.aload_n 0, 1) := by decide +kernel
theorem dX12_lay_15 : decode cX12_lay 15 = .ok (.getfield 80, 3) := by decide +kernel
theorem dX12_lay_18 : decode cX12_lay 18 = .ok (.iload_n 1, 1) := by decide +kernel
theorem dX12_lay_19 : decode cX12_lay 19 = .ok (.iaload, 1) := by decide +kernel
theorem dX12_lay_20 : decode cX12_lay 20 = .ok (.bipush (-4), 2) := by decide +kernel
theorem dX12_lay_22 : decode cX12_lay 22 = .ok (.if_icmp .ne 6, 3) := by decide +kernel
theorem dX12_lay_25 : decode cX12_lay 25 = .ok (.bipush (-11), 2) := by decide +kernel
theorem dX12_lay_27 : decode cX12_lay 27 = .ok (.ireturn, 1) := by decide +kernel
theorem dX12_lay_28 : decode cX12_lay 28 = .ok (.iload_n 2, 1) := by decide +kernel
theorem dX12_lay_29 : decode cX12_lay 29 = .ok (.i2l, 1) := by decide +kernel
theorem dX12_lay_30 : decode cX12_lay 30 = .ok (.lconst 0, 1) := by decide +kernel
theorem dX12_lay_31 : decode cX12_lay 31 = .ok (.aload_n 0, 1) := by decide +kernel
theorem dX12_lay_32 : decode cX12_lay 32 = .ok (.getfield 83, 3) := by decide +kernel
theorem dX12_lay_35 : decode cX12_lay 35 = .ok (.iload_n 1, 1) := by decide +kernel
theorem dX12_lay_36 : decode cX12_lay 36 = .ok (.iaload, 1) := by decide +kernel
theorem dX12_lay_37 : decode cX12_lay 37 = .ok (.iconst 1, 1) := by decide +kernel
theorem dX12_lay_38 : decode cX12_lay 38 = .ok (.isub, 1) := by decide +kernel
theorem dX12_lay_39 : decode cX12_lay 39 = .ok (.i2l, 1) := by decide +kernel
theorem dX12_lay_40 : decode cX12_lay 40 = .ok (.invokestatic 97, 3) := by decide +kernel
theorem dX12_lay_43 : decode cX12_lay 43 = .ok (.ifCond .ne 6, 3) := by decide +kernel
theorem dX12_lay_46 : decode cX12_lay 46 = .ok (.bipush (-12), 2) := by decide +kernel
theorem dX12_lay_48 : decode cX12_lay 48 = .ok (.ireturn, 1) := by decide +kernel
theorem dX12_lay_49 : decode cX12_lay 49 = .ok (.aload_n 0, 1) := by decide +kernel
theorem dX12_lay_50 : decode cX12_lay 50 = .ok (.getfield 86, 3) := by decide +kernel
theorem dX12_lay_53 : decode cX12_lay 53 = .ok (.bipush 40, 2) := by decide +kernel
theorem dX12_lay_55 : decode cX12_lay 55 = .ok (.iload_n 1, 1) := by decide +kernel
theorem dX12_lay_56 : decode cX12_lay 56 = .ok (.imul, 1) := by decide +kernel
theorem dX12_lay_57 : decode cX12_lay 57 = .ok (.iload_n 2, 1) := by decide +kernel
theorem dX12_lay_58 : decode cX12_lay 58 = .ok (.iadd, 1) := by decide +kernel
theorem dX12_lay_59 : decode cX12_lay 59 = .ok (.aload_n 0, 1) := by decide +kernel
theorem dX12_lay_60 : decode cX12_lay 60 = .ok (.getfield 80, 3) := by decide +kernel
theorem dX12_lay_63 : decode cX12_lay 63 = .ok (.iload_n 1, 1) := by decide +kernel
theorem dX12_lay_64 : decode cX12_lay 64 = .ok (.iaload, 1) := by decide +kernel
theorem dX12_lay_65 : decode cX12_lay 65 = .ok (.ifCond .ne 13, 3) := by decide +kernel
theorem dX12_lay_68 : decode cX12_lay 68 = .ok (.iload_n 3, 1) := by decide +kernel
theorem dX12_lay_69 : decode cX12_lay 69 = .ok (.bipush 24, 2) := by decide +kernel
theorem dX12_lay_71 : decode cX12_lay 71 = .ok (.ishl, 1) := by decide +kernel
theorem dX12_lay_72 : decode cX12_lay 72 = .ok (.bipush 24, 2) := by decide +kernel
theorem dX12_lay_74 : decode cX12_lay 74 = .ok (.ishr, 1) := by decide +kernel
theorem dX12_lay_75 : decode cX12_lay 75 = .ok (.goto 24, 3) := by decide +kernel
theorem dX12_lay_78 : decode cX12_lay 78 = .ok (.aload_n 0, 1) := by decide +kernel
theorem dX12_lay_79 : decode cX12_lay 79 = .ok (.getfield 80, 3) := by decide +kernel
theorem dX12_lay_82 : decode cX12_lay 82 = .ok (.iload_n 1, 1) := by decide +kernel
theorem dX12_lay_83 : decode cX12_lay 83 = .ok (.iaload, 1) := by decide +kernel
theorem dX12_lay_84 : decode cX12_lay 84 = .ok (.iconst 1, 1) := by decide +kernel
theorem dX12_lay_85 : decode cX12_lay 85 = .ok (.if_icmp .ne 13, 3) := by decide +kernel
theorem dX12_lay_88 : decode cX12_lay 88 = .ok (.iload_n 3, 1) := by decide +kernel
theorem dX12_lay_89 : decode cX12_lay 89 = .ok (.bipush 16, 2) := by decide +kernel
theorem dX12_lay_91 : decode cX12_lay 91 = .ok (.ishl, 1) := by decide +kernel
theorem dX12_lay_92 : decode cX12_lay 92 = .ok (.bipush 16, 2) := by decide +kernel
theorem dX12_lay_94 : decode cX12_lay 94 = .ok (.ishr, 1) := by decide +kernel
theorem dX12_lay_95 : decode cX12_lay 95 = .ok (.goto 4, 3) := by decide +kernel
theorem dX12_lay_98 : decode cX12_lay 98 = .ok (.iload_n 3, 1) := by decide +kernel
theorem dX12_lay_99 : decode cX12_lay 99 = .ok (.iastore, 1) := by decide +kernel
theorem dX12_lay_100 : decode cX12_lay 100 = .ok (.iconst 1, 1) := by decide +kernel
theorem dX12_lay_101 : decode cX12_lay 101 = .ok (.ireturn, 1) := by decide +kernel
theorem dX12_layBest_0 : decode cX12_layBest 0 = .ok (.aload_n 0, 1) := by decide +kernel
theorem dX12_layBest_1 : decode cX12_layBest 1 = .ok (.invokevirtual 296, 3) := by decide +kernel
theorem dX12_layBest_4 : decode cX12_layBest 4 = .ok (.istore_n 1, 1) := by decide +kernel
theorem dX12_layBest_5 : decode cX12_layBest 5 = .ok (.aload_n 0, 1) := by decide +kernel
theorem dX12_layBest_6 : decode cX12_layBest 6 = .ok (.getfield 197, 3) := by decide +kernel
theorem dX12_layBest_9 : decode cX12_layBest 9 = .ok (.bipush 6, 2) := by decide +kernel
theorem dX12_layBest_11 : decode cX12_layBest 11 = .ok (.if_icmp .le 6, 3) := by decide +kernel
theorem dX12_layBest_14 : decode cX12_layBest 14 = .ok (.bipush (-2), 2) := by decide +kernel
theorem dX12_layBest_16 : decode cX12_layBest 16 = .ok (.ireturn, 1) := by decide +kernel
theorem dX12_layBest_17 : decode cX12_layBest 17 = .ok (.iload_n 1, 1) := by decide +kernel
theorem dX12_layBest_18 : decode cX12_layBest 18 = .ok (.ifCond .eq 5, 3) := by decide +kernel
theorem dX12_layBest_21 : decode cX12_layBest 21 = .ok (.iload_n 1, 1) := by decide +kernel
theorem dX12_layBest_22 : decode cX12_layBest 22 = .ok (.ireturn, 1) := by decide +kernel
theorem dX12_layBest_23 : decode cX12_layBest 23 = .ok (.iconst 0, 1) := by decide +kernel
theorem dX12_layBest_24 : decode cX12_layBest 24 = .ok (.istore_n 2, 1) := by decide +kernel
theorem dX12_layBest_25 : decode cX12_layBest 25 = .ok (.iload_n 2, 1) := by decide +kernel
theorem dX12_layBest_26 : decode cX12_layBest 26 = .ok (.aload_n 0, 1) := by decide +kernel
theorem dX12_layBest_27 : decode cX12_layBest 27 = .ok (.getfield 197, 3) := by decide +kernel
theorem dX12_layBest_30 : decode cX12_layBest 30 = .ok (.if_icmp .ge 47, 3) := by decide +kernel
theorem dX12_layBest_33 : decode cX12_layBest 33 = .ok (.aload_n 0, 1) := by decide +kernel
theorem dX12_layBest_34 : decode cX12_layBest 34 = .ok (.getfield 65, 3) := by decide +kernel
theorem dX12_layBest_37 : decode cX12_layBest 37 = .ok (.iload_n 2, 1) := by decide +kernel
theorem dX12_layBest_38 : decode cX12_layBest 38 = .ok (.iconst 0, 1) := by decide +kernel
theorem dX12_layBest_39 : decode cX12_layBest 39 = .ok (.iastore, 1) := by decide +kernel
theorem dX12_layBest_40 : decode cX12_layBest 40 = .ok (.aload_n 0, 1) := by decide +kernel
theorem dX12_layBest_41 : decode cX12_layBest 41 = .ok (.getfield 62, 3) := by decide +kernel
theorem dX12_layBest_44 : decode cX12_layBest 44 = .ok (.iload_n 2, 1) := by decide +kernel
theorem dX12_layBest_45 : decode cX12_layBest 45 = .ok (.iaload, 1) := by decide +kernel
theorem dX12_layBest_46 : decode cX12_layBest 46 = .ok (.aload_n 0, 1) := by decide +kernel
theorem dX12_layBest_47 : decode cX12_layBest 47 = .ok (.getfield 65, 3) := by decide +kernel
theorem dX12_layBest_50 : decode cX12_layBest 50 = .ok (.iload_n 2, 1) := by decide +kernel
theorem dX12_layBest_51 : decode cX12_layBest 51 = .ok (.iaload, 1) := by decide +kernel
theorem dX12_layBest_52 : decode cX12_layBest 52 = .ok (.ishr, 1) := by decide +kernel
theorem dX12_layBest_53 : decode cX12_layBest 53 = .ok (.iconst 1, 1) := by decide +kernel
theorem dX12_layBest_54 : decode cX12_layBest 54 = .ok (.iand, 1) := by decide +kernel
theorem dX12_layBest_55 : decode cX12_layBest 55 = .ok (.ifCond .ne 16, 3) := by decide +kernel
theorem dX12_layBest_58 : decode cX12_layBest 58 = .ok (.aload_n 0, 1) := by decide +kernel
theorem dX12_layBest_59 : decode cX12_layBest 59 = .ok (.getfield 65, 3) := by decide +kernel
theorem dX12_layBest_62 : decode cX12_layBest 62 = .ok (.iload_n 2, 1) := by decide +kernel
theorem dX12_layBest_63 : decode cX12_layBest 63 = .ok (.dup2, 1) := by decide +kernel
theorem dX12_layBest_64 : decode cX12_layBest 64 = .ok (.iaload, 1) := by decide +kernel
theorem dX12_layBest_65 : decode cX12_layBest 65 = .ok (.iconst 1, 1) := by decide +kernel
theorem dX12_layBest_66 : decode cX12_layBest 66 = .ok (.iadd, 1) := by decide +kernel
theorem dX12_layBest_67 : decode cX12_layBest 67 = .ok (.iastore, 1) := by decide +kernel
theorem dX12_layBest_68 : decode cX12_layBest 68 = .ok (.goto (-28), 3) := by decide +kernel
theorem dX12_layBest_71 : decode cX12_layBest 71 = .ok (.iinc 2 1, 3) := by decide +kernel
theorem dX12_layBest_74 : decode cX12_layBest 74 = .ok (.goto (-49), 3) := by decide +kernel
theorem dX12_layBest_77 : decode cX12_layBest 77 = .ok (.aload_n 0, 1) := by decide +kernel
theorem dX12_layBest_78 : decode cX12_layBest 78 = .ok (.bipush (-4), 2) := by decide +kernel
theorem dX12_layBest_80 : decode cX12_layBest 80 = .ok (.putfield 299, 3) := by decide +kernel
theorem dX12_layBest_83 : decode cX12_layBest 83 = .ok (.aload_n 0, 1) := by decide +kernel
theorem dX12_layBest_84 : decode cX12_layBest 84 = .ok (.invokevirtual 302, 3) := by decide +kernel
theorem dX12_layBest_87 : decode cX12_layBest 87 = .ok (.istore_n 2, 1) := by decide +kernel
theorem dX12_layBest_88 : decode cX12_layBest 88 = .ok (.aload_n 0, 1) := by decide +kernel
theorem dX12_layBest_89 : decode cX12_layBest 89 = .ok (.getfield 299, 3) := by decide +kernel
theorem dX12_layBest_92 : decode cX12_layBest 92 = .ok (.bipush (-4), 2) := by decide +kernel
theorem dX12_layBest_94 : decode cX12_layBest 94 = .ok (.if_icmp .eq 11, 3) := by decide +kernel
theorem dX12_layBest_97 : decode cX12_layBest 97 = .ok (.iload_n 2, 1) := by decide +kernel
theorem dX12_layBest_98 : decode cX12_layBest 98 = .ok (.aload_n 0, 1) := by decide +kernel
theorem dX12_layBest_99 : decode cX12_layBest 99 = .ok (.getfield 299, 3) := by decide +kernel
theorem dX12_layBest_102 : decode cX12_layBest 102 = .ok (.if_icmp .ge 36, 3) := by decide +kernel
theorem dX12_layBest_105 : decode cX12_layBest 105 = .ok (.aload_n 0, 1) := by decide +kernel
theorem dX12_layBest_106 : decode cX12_layBest 106 = .ok (.iload_n 2, 1) := by decide +kernel
theorem dX12_layBest_107 : decode cX12_layBest 107 = .ok (.putfield 299, 3) := by decide +kernel
theorem dX12_layBest_110 : decode cX12_layBest 110 = .ok (.iconst 0, 1) := by decide +kernel
theorem dX12_layBest_111 : decode cX12_layBest 111 = .ok (.istore_n 3, 1) := by decide +kernel
theorem dX12_layBest_112 : decode cX12_layBest 112 = .ok (.iload_n 3, 1) := by decide +kernel
theorem dX12_layBest_113 : decode cX12_layBest 113 = .ok (.aload_n 0, 1) := by decide +kernel
theorem dX12_layBest_114 : decode cX12_layBest 114 = .ok (.getfield 197, 3) := by decide +kernel
theorem dX12_layBest_117 : decode cX12_layBest 117 = .ok (.if_icmp .ge 21, 3) := by decide +kernel
theorem dX12_layBest_120 : decode cX12_layBest 120 = .ok (.aload_n 0, 1) := by decide +kernel
theorem dX12_layBest_121 : decode cX12_layBest 121 = .ok (.getfield 68, 3) := by decide +kernel
theorem dX12_layBest_124 : decode cX12_layBest 124 = .ok (.iload_n 3, 1) := by decide +kernel
theorem dX12_layBest_125 : decode cX12_layBest 125 = .ok (.aload_n 0, 1) := by decide +kernel
theorem dX12_layBest_126 : decode cX12_layBest 126 = .ok (.getfield 65, 3) := by decide +kernel
theorem dX12_layBest_129 : decode cX12_layBest 129 = .ok (.iload_n 3, 1) := by decide +kernel
theorem dX12_layBest_130 : decode cX12_layBest 130 = .ok (.iaload, 1) := by decide +kernel
theorem dX12_layBest_131 : decode cX12_layBest 131 = .ok (.iastore, 1) := by decide +kernel
theorem dX12_layBest_132 : decode cX12_layBest 132 = .ok (.iinc 3 1, 3) := by decide +kernel
theorem dX12_layBest_135 : decode cX12_layBest 135 = .ok (.goto (-23), 3) := by decide +kernel
theorem dX12_layBest_138 : decode cX12_layBest 138 = .ok (.aload_n 0, 1) := by decide +kernel
theorem dX12_layBest_139 : decode cX12_layBest 139 = .ok (.invokevirtual 305, 3) := by decide +kernel
theorem dX12_layBest_142 : decode cX12_layBest 142 = .ok (.ifCond .ne (-59), 3) := by decide +kernel
theorem dX12_layBest_145 : decode cX12_layBest 145 = .ok (.iconst 0, 1) := by decide +kernel
theorem dX12_layBest_146 : decode cX12_layBest 146 = .ok (.ireturn, 1) := by decide +kernel
