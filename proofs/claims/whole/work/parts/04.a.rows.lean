/-! constants, rows of the tables -/
theorem ki_bipush_m20 : (Int8.ofInt (-20)).toInt32 = (-20 : Int32) := by decide
theorem ki_bipush_m14 : (Int8.ofInt (-14)).toInt32 = (-14 : Int32) := by decide
theorem ki_bipush_m12 : (Int8.ofInt (-12)).toInt32 = (-12 : Int32) := by decide
theorem ki_bipush_m11 : (Int8.ofInt (-11)).toInt32 = (-11 : Int32) := by decide
theorem ki_bipush_m10 : (Int8.ofInt (-10)).toInt32 = (-10 : Int32) := by decide
theorem ki_bipush_m4 : (Int8.ofInt (-4)).toInt32 = (-4 : Int32) := by decide
theorem ki_bipush_m3 : (Int8.ofInt (-3)).toInt32 = (-3 : Int32) := by decide
theorem ki_bipush_m2 : (Int8.ofInt (-2)).toInt32 = (-2 : Int32) := by decide
theorem ki_bipush_6 : (Int8.ofInt (6)).toInt32 = (6 : Int32) := by decide
theorem ki_bipush_7 : (Int8.ofInt (7)).toInt32 = (7 : Int32) := by decide
theorem ki_bipush_8 : (Int8.ofInt (8)).toInt32 = (8 : Int32) := by decide
theorem ki_bipush_9 : (Int8.ofInt (9)).toInt32 = (9 : Int32) := by decide
theorem ki_bipush_10 : (Int8.ofInt (10)).toInt32 = (10 : Int32) := by decide
theorem ki_bipush_12 : (Int8.ofInt (12)).toInt32 = (12 : Int32) := by decide
theorem ki_bipush_16 : (Int8.ofInt (16)).toInt32 = (16 : Int32) := by decide
theorem ki_bipush_24 : (Int8.ofInt (24)).toInt32 = (24 : Int32) := by decide
theorem ki_bipush_31 : (Int8.ofInt (31)).toInt32 = (31 : Int32) := by decide
theorem ki_bipush_32 : (Int8.ofInt (32)).toInt32 = (32 : Int32) := by decide
theorem ki_bipush_40 : (Int8.ofInt (40)).toInt32 = (40 : Int32) := by decide
theorem ki_bipush_48 : (Int8.ofInt (48)).toInt32 = (48 : Int32) := by decide
theorem ki_bipush_56 : (Int8.ofInt (56)).toInt32 = (56 : Int32) := by decide
theorem ki_bipush_57 : (Int8.ofInt (57)).toInt32 = (57 : Int32) := by decide
theorem ki_bipush_59 : (Int8.ofInt (59)).toInt32 = (59 : Int32) := by decide
theorem ki_bipush_60 : (Int8.ofInt (60)).toInt32 = (60 : Int32) := by decide
theorem ki_bipush_63 : (Int8.ofInt (63)).toInt32 = (63 : Int32) := by decide
theorem ki_bipush_72 : (Int8.ofInt (72)).toInt32 = (72 : Int32) := by decide
theorem ki_bipush_73 : (Int8.ofInt (73)).toInt32 = (73 : Int32) := by decide
theorem ki_bipush_74 : (Int8.ofInt (74)).toInt32 = (74 : Int32) := by decide
theorem ki_bipush_86 : (Int8.ofInt (86)).toInt32 = (86 : Int32) := by decide
theorem ki_bipush_97 : (Int8.ofInt (97)).toInt32 = (97 : Int32) := by decide
theorem ki_bipush_99 : (Int8.ofInt (99)).toInt32 = (99 : Int32) := by decide
theorem ki_bipush_100 : (Int8.ofInt (100)).toInt32 = (100 : Int32) := by decide
theorem ki_bipush_122 : (Int8.ofInt (122)).toInt32 = (122 : Int32) := by decide
theorem ki_iconst_m8 : Int32.ofInt (-8) = (-8 : Int32) := by decide
theorem ki_iconst_m1 : Int32.ofInt (-1) = (-1 : Int32) := by decide
theorem ki_iconst_0 : Int32.ofInt (0) = (0 : Int32) := by decide
theorem ki_iconst_1 : Int32.ofInt (1) = (1 : Int32) := by decide
theorem ki_iconst_2 : Int32.ofInt (2) = (2 : Int32) := by decide
theorem ki_iconst_3 : Int32.ofInt (3) = (3 : Int32) := by decide
theorem ki_iconst_4 : Int32.ofInt (4) = (4 : Int32) := by decide
theorem ki_iconst_5 : Int32.ofInt (5) = (5 : Int32) := by decide
theorem ki_sipush_239 : (Int16.ofInt (239)).toInt32 = (239 : Int32) := by decide
theorem ki_sipush_240 : (Int16.ofInt (240)).toInt32 = (240 : Int32) := by decide
theorem ki_sipush_255 : (Int16.ofInt (255)).toInt32 = (255 : Int32) := by decide
theorem ki_sipush_312 : (Int16.ofInt (312)).toInt32 = (312 : Int32) := by decide
theorem ki_sipush_320 : (Int16.ofInt (320)).toInt32 = (320 : Int32) := by decide
theorem ki_sipush_840 : (Int16.ofInt (840)).toInt32 = (840 : Int32) := by decide
theorem ki_sipush_999 : (Int16.ofInt (999)).toInt32 = (999 : Int32) := by decide
theorem ki_sipush_9999 : (Int16.ofInt (9999)).toInt32 = (9999 : Int32) := by decide
theorem ki_sipush_12345 : (Int16.ofInt (12345)).toInt32 = (12345 : Int32) := by decide
theorem ki_sipush_32767 : (Int16.ofInt (32767)).toInt32 = (32767 : Int32) := by decide
theorem ab_kset (pre post : ab_Lo) (l : Option Value) : ab_kill (pre ++ l :: post) (pre.length + 1) = pre ++ ab_nl l :: post := by
  have e : (pre ++ l :: post)[pre.length + 1 - 1]? = some l := by simp
  unfold ab_kill
  rw [e]
  match l with
  | none => rfl
  | some (.long x) => simp [ab_nl]
  | some (.double x) => simp [ab_nl]
  | some (.int x) => rfl
  | some (.float x) => rfl
  | some (.ref x) => rfl
  | some .null => rfl
  | some (.retAddr x) => rfl
theorem ab_kset0 (ls : ab_Lo) : ab_kill ls 0 = ls := by
  unfold ab_kill
  split <;> rfl
theorem ab_kl1 {scr : Option (List Int32)} {mi d pc : Nat} {M : ab_M} {st : List Value} {ls ls2 : ab_Lo} {v : Value} (pre post : ab_Lo) (l : Option Value) (h : ls = pre ++ l :: post) (h2 : (pre ++ ab_nl l :: post).set (pre.length + 1) (some v) = ls2) : ab_res scr mi d M pc (ab_st1 ls (pre.length + 1) v) st = ab_res scr mi d M pc ls2 st := by
  subst h
  unfold ab_st1
  rw [ab_kset, h2]
theorem ab_kl2 {scr : Option (List Int32)} {mi d pc : Nat} {M : ab_M} {st : List Value} {ls ls2 : ab_Lo} {v : Value} (pre post : ab_Lo) (l : Option Value) (h : ls = pre ++ l :: post) (h2 : ((pre ++ ab_nl l :: post).set (pre.length + 1) (some v)).set (pre.length + 1 + 1) none = ls2) : ab_res scr mi d M pc (ab_st2 ls (pre.length + 1) v) st = ab_res scr mi d M pc ls2 st := by
  subst h
  unfold ab_st2
  rw [ab_kset, h2]
theorem ab_kl10 {scr : Option (List Int32)} {mi d pc : Nat} {M : ab_M} {st : List Value} {post : ab_Lo} {l : Option Value} {v : Value} : ab_res scr mi d M pc (ab_st1 (l :: post) 0 v) st = ab_res scr mi d M pc (some v :: post) st := by
  unfold ab_st1
  rw [ab_kset0]
  rfl
theorem ab_kl20 {scr : Option (List Int32)} {mi d pc : Nat} {M : ab_M} {st : List Value} {post : ab_Lo} {l l2 : Option Value} {v : Value} : ab_res scr mi d M pc (ab_st2 (l :: l2 :: post) 0 v) st = ab_res scr mi d M pc (some v :: none :: post) st := by
  unfold ab_st2
  rw [ab_kset0]
  rfl
theorem lk_ac_4_36 : ab_lk ab_act 4 36 = some (14, 19) := rfl
theorem lk_ac_5_107 : ab_lk ab_act 5 107 = some (34, 18) := rfl
theorem lk_ca_0_28 : ab_lk ab_cat 0 28 = some ((112, true), (0, 0)) := rfl
theorem lk_ca_10_31 : ab_lk ab_cat 10 31 = some ((75, false), (10, 3)) := rfl
theorem lk_ca_10_35 : ab_lk ab_cat 10 35 = some ((73, false), (10, 6)) := rfl
theorem lk_ca_10_38 : ab_lk ab_cat 10 38 = some ((76, false), (10, 10)) := rfl
theorem lk_ca_10_41 : ab_lk ab_cat 10 41 = some ((74, false), (10, 13)) := rfl
theorem lk_ca_10_44 : ab_lk ab_cat 10 44 = some ((197, false), (11, 2)) := rfl
theorem lk_ca_10_49 : ab_lk ab_cat 10 49 = some ((198, false), (11, 14)) := rfl
theorem lk_ca_11_106 : ab_lk ab_cat 11 106 = some ((41, false), (14, 15)) := rfl
theorem lk_ca_11_109 : ab_lk ab_cat 11 109 = some ((38, false), (17, 14)) := rfl
theorem lk_ca_11_113 : ab_lk ab_cat 11 113 = some ((111, false), (17, 18)) := rfl
theorem lk_ca_11_122 : ab_lk ab_cat 11 122 = some ((42, false), (18, 15)) := rfl
theorem lk_ca_11_126 : ab_lk ab_cat 11 126 = some ((113, false), (19, 18)) := rfl
theorem lk_ca_11_136 : ab_lk ab_cat 11 136 = some ((32, false), (26, 8)) := rfl
theorem lk_ca_11_139 : ab_lk ab_cat 11 139 = some ((33, false), (26, 16)) := rfl
theorem lk_ca_11_188 : ab_lk ab_cat 11 188 = some ((53, false), (32, 9)) := rfl
theorem lk_ca_11_197 : ab_lk ab_cat 11 197 = some ((31, false), (32, 10)) := rfl
theorem lk_ca_11_202 : ab_lk ab_cat 11 202 = some ((47, false), (33, 8)) := rfl
theorem lk_ca_11_213 : ab_lk ab_cat 11 213 = some ((43, false), (36, 0)) := rfl
theorem lk_ca_11_223 : ab_lk ab_cat 11 223 = some ((35, false), (37, 18)) := rfl
theorem lk_ca_11_241 : ab_lk ab_cat 11 241 = some ((44, false), (39, 13)) := rfl
theorem lk_ca_11_246 : ab_lk ab_cat 11 246 = some ((117, false), (39, 17)) := rfl
theorem lk_ca_11_250 : ab_lk ab_cat 11 250 = some ((4, false), (40, 15)) := rfl
theorem lk_ca_11_253 : ab_lk ab_cat 11 253 = some ((6, false), (20, 6)) := rfl
theorem lk_ca_11_258 : ab_lk ab_cat 11 258 = some ((114, false), (40, 16)) := rfl
theorem lk_ca_11_264 : ab_lk ab_cat 11 264 = some ((115, false), (41, 3)) := rfl
theorem lk_ca_11_269 : ab_lk ab_cat 11 269 = some ((3, false), (19, 22)) := rfl
theorem lk_ca_11_272 : ab_lk ab_cat 11 272 = some ((5, false), (41, 19)) := rfl
theorem lk_ca_11_275 : ab_lk ab_cat 11 275 = some ((1, false), (42, 16)) := rfl
theorem lk_ca_11_286 : ab_lk ab_cat 11 286 = some ((56, false), (45, 0)) := rfl
theorem lk_ca_11_292 : ab_lk ab_cat 11 292 = some ((57, false), (45, 17)) := rfl
theorem lk_ca_11_295 : ab_lk ab_cat 11 295 = some ((58, false), (45, 21)) := rfl
theorem lk_ca_11_307 : ab_lk ab_cat 11 307 = some ((116, false), (40, 20)) := rfl
theorem lk_ca_11_311 : ab_lk ab_cat 11 311 = some ((45, false), (41, 0)) := rfl
theorem lk_ca_11_314 : ab_lk ab_cat 11 314 = some ((196, false), (41, 1)) := rfl
theorem lk_ca_11_319 : ab_lk ab_cat 11 319 = some ((112, false), (41, 2)) := rfl
theorem lk_ca_11_322 : ab_lk ab_cat 11 322 = some ((118, false), (39, 20)) := rfl
theorem lk_ca_11_82 : ab_lk ab_cat 11 82 = some ((71, false), (8, 6)) := rfl
theorem lk_ca_11_89 : ab_lk ab_cat 11 89 = some ((70, false), (8, 19)) := rfl
theorem lk_ca_11_93 : ab_lk ab_cat 11 93 = some ((60, false), (9, 13)) := rfl
theorem lk_ca_12_116 : ab_lk ab_cat 12 116 = some ((124, false), (15, 20)) := rfl
theorem lk_ca_12_131 : ab_lk ab_cat 12 131 = some ((125, false), (16, 0)) := rfl
theorem lk_ca_12_135 : ab_lk ab_cat 12 135 = some ((127, false), (15, 10)) := rfl
theorem lk_ca_12_138 : ab_lk ab_cat 12 138 = some ((128, false), (16, 16)) := rfl
theorem lk_ca_12_142 : ab_lk ab_cat 12 142 = some ((126, false), (16, 8)) := rfl
theorem lk_ca_12_146 : ab_lk ab_cat 12 146 = some ((129, false), (16, 20)) := rfl
theorem lk_ca_12_150 : ab_lk ab_cat 12 150 = some ((130, false), (16, 12)) := rfl
theorem lk_ca_12_156 : ab_lk ab_cat 12 156 = some ((131, false), (16, 4)) := rfl
theorem lk_ca_12_162 : ab_lk ab_cat 12 162 = some ((134, false), (18, 3)) := rfl
theorem lk_ca_12_168 : ab_lk ab_cat 12 168 = some ((135, false), (18, 7)) := rfl
theorem lk_ca_12_184 : ab_lk ab_cat 12 184 = some ((137, false), (18, 23)) := rfl
theorem lk_ca_12_209 : ab_lk ab_cat 12 209 = some ((141, false), (28, 9)) := rfl
theorem lk_ca_12_212 : ab_lk ab_cat 12 212 = some ((140, false), (28, 13)) := rfl
theorem lk_ca_12_215 : ab_lk ab_cat 12 215 = some ((144, false), (29, 0)) := rfl
theorem lk_ca_12_222 : ab_lk ab_cat 12 222 = some ((147, false), (29, 4)) := rfl
theorem lk_ca_12_225 : ab_lk ab_cat 12 225 = some ((151, false), (30, 11)) := rfl
theorem lk_ca_12_228 : ab_lk ab_cat 12 228 = some ((150, false), (30, 16)) := rfl
theorem lk_ca_12_231 : ab_lk ab_cat 12 231 = some ((152, false), (30, 20)) := rfl
theorem lk_ca_12_235 : ab_lk ab_cat 12 235 = some ((146, false), (29, 7)) := rfl
theorem lk_ca_12_238 : ab_lk ab_cat 12 238 = some ((148, false), (29, 15)) := rfl
theorem lk_ca_12_241 : ab_lk ab_cat 12 241 = some ((154, false), (29, 19)) := rfl
theorem lk_ca_12_245 : ab_lk ab_cat 12 245 = some ((155, false), (29, 23)) := rfl
theorem lk_ca_12_248 : ab_lk ab_cat 12 248 = some ((145, false), (28, 20)) := rfl
theorem lk_ca_12_251 : ab_lk ab_cat 12 251 = some ((156, false), (29, 11)) := rfl
theorem lk_ca_12_254 : ab_lk ab_cat 12 254 = some ((149, false), (30, 3)) := rfl
theorem lk_ca_12_257 : ab_lk ab_cat 12 257 = some ((153, false), (30, 7)) := rfl
theorem lk_ca_12_260 : ab_lk ab_cat 12 260 = some ((121, false), (27, 21)) := rfl
theorem lk_ca_12_263 : ab_lk ab_cat 12 263 = some ((142, false), (28, 1)) := rfl
theorem lk_ca_12_266 : ab_lk ab_cat 12 266 = some ((143, false), (28, 5)) := rfl
theorem lk_ca_12_269 : ab_lk ab_cat 12 269 = some ((157, false), (28, 16)) := rfl
theorem lk_ca_12_272 : ab_lk ab_cat 12 272 = some ((139, false), (27, 11)) := rfl
theorem lk_ca_12_275 : ab_lk ab_cat 12 275 = some ((158, false), (27, 17)) := rfl
theorem lk_ca_12_280 : ab_lk ab_cat 12 280 = some ((161, false), (31, 4)) := rfl
theorem lk_ca_12_283 : ab_lk ab_cat 12 283 = some ((160, false), (27, 3)) := rfl
theorem lk_ca_12_286 : ab_lk ab_cat 12 286 = some ((159, false), (27, 6)) := rfl
theorem lk_ca_12_289 : ab_lk ab_cat 12 289 = some ((162, false), (31, 0)) := rfl
theorem lk_ca_12_296 : ab_lk ab_cat 12 296 = some ((167, false), (35, 7)) := rfl
theorem lk_ca_12_302 : ab_lk ab_cat 12 302 = some ((168, false), (35, 11)) := rfl
theorem lk_ca_12_305 : ab_lk ab_cat 12 305 = some ((169, false), (35, 15)) := rfl
theorem lk_ca_12_313 : ab_lk ab_cat 12 313 = some ((170, false), (35, 3)) := rfl
theorem lk_ca_12_322 : ab_lk ab_cat 12 322 = some ((176, false), (38, 9)) := rfl
theorem lk_ca_12_330 : ab_lk ab_cat 12 330 = some ((180, false), (40, 5)) := rfl
theorem lk_ca_12_343 : ab_lk ab_cat 12 343 = some ((185, false), (43, 3)) := rfl
theorem lk_ca_12_97 : ab_lk ab_cat 12 97 = some ((120, false), (9, 3)) := rfl
theorem lk_ca_1_100 : ab_lk ab_cat 1 100 = some ((11, false), (26, 1)) := rfl
theorem lk_ca_1_104 : ab_lk ab_cat 1 104 = some ((54, false), (20, 14)) := rfl
theorem lk_ca_1_105 : ab_lk ab_cat 1 105 = some ((9, false), (20, 23)) := rfl
theorem lk_ca_1_108 : ab_lk ab_cat 1 108 = some ((10, false), (21, 4)) := rfl
theorem lk_ca_1_117 : ab_lk ab_cat 1 117 = some ((112, true), (0, 0)) := rfl
theorem lk_ca_1_121 : ab_lk ab_cat 1 121 = some ((12, false), (26, 5)) := rfl
theorem lk_ca_1_125 : ab_lk ab_cat 1 125 = some ((196, false), (21, 15)) := rfl
theorem lk_ca_1_133 : ab_lk ab_cat 1 133 = some ((15, false), (22, 6)) := rfl
theorem lk_ca_1_136 : ab_lk ab_cat 1 136 = some ((16, false), (22, 15)) := rfl
theorem lk_ca_1_139 : ab_lk ab_cat 1 139 = some ((22, false), (22, 19)) := rfl
theorem lk_ca_1_142 : ab_lk ab_cat 1 142 = some ((17, false), (24, 18)) := rfl
theorem lk_ca_1_146 : ab_lk ab_cat 1 146 = some ((18, false), (25, 3)) := rfl
theorem lk_ca_1_149 : ab_lk ab_cat 1 149 = some ((19, false), (25, 9)) := rfl
theorem lk_ca_1_152 : ab_lk ab_cat 1 152 = some ((20, false), (25, 13)) := rfl
theorem lk_ca_1_155 : ab_lk ab_cat 1 155 = some ((21, false), (25, 18)) := rfl
theorem lk_ca_1_164 : ab_lk ab_cat 1 164 = some ((31, false), (22, 10)) := rfl
theorem lk_ca_1_193 : ab_lk ab_cat 1 193 = some ((23, false), (22, 23)) := rfl
theorem lk_ca_1_196 : ab_lk ab_cat 1 196 = some ((25, false), (23, 7)) := rfl
theorem lk_ca_1_199 : ab_lk ab_cat 1 199 = some ((26, false), (23, 15)) := rfl
theorem lk_ca_1_202 : ab_lk ab_cat 1 202 = some ((27, false), (23, 23)) := rfl
theorem lk_ca_1_205 : ab_lk ab_cat 1 205 = some ((29, false), (24, 4)) := rfl
theorem lk_ca_1_208 : ab_lk ab_cat 1 208 = some ((30, false), (24, 8)) := rfl
theorem lk_ca_1_211 : ab_lk ab_cat 1 211 = some ((24, false), (24, 14)) := rfl
theorem lk_ca_1_214 : ab_lk ab_cat 1 214 = some ((45, false), (23, 3)) := rfl
theorem lk_ca_1_217 : ab_lk ab_cat 1 217 = some ((28, false), (23, 19)) := rfl
theorem lk_ca_1_228 : ab_lk ab_cat 1 228 = some ((33, false), (26, 12)) := rfl
theorem lk_ca_1_77 : ab_lk ab_cat 1 77 = some ((3, false), (34, 0)) := rfl
theorem lk_ca_1_81 : ab_lk ab_cat 1 81 = some ((53, false), (23, 11)) := rfl
theorem lk_ca_1_85 : ab_lk ab_cat 1 85 = some ((7, false), (20, 10)) := rfl
theorem lk_ca_1_88 : ab_lk ab_cat 1 88 = some ((8, false), (20, 18)) := rfl
theorem lk_ca_1_92 : ab_lk ab_cat 1 92 = some ((13, false), (21, 10)) := rfl
theorem lk_ca_1_96 : ab_lk ab_cat 1 96 = some ((14, false), (21, 22)) := rfl
theorem lk_ca_20_1059 : ab_lk ab_cat 20 1059 = some ((204, false), (12, 6)) := rfl
theorem lk_ca_20_335 : ab_lk ab_cat 20 335 = some ((199, false), (11, 8)) := rfl
theorem lk_ca_20_492 : ab_lk ab_cat 20 492 = some ((200, false), (11, 18)) := rfl
theorem lk_ca_20_495 : ab_lk ab_cat 20 495 = some ((202, false), (11, 22)) := rfl
theorem lk_ca_21_9 : ab_lk ab_cat 21 9 = some ((201, false), (12, 2)) := rfl
theorem lk_ca_2_30 : ab_lk ab_cat 2 30 = some ((3, false), (38, 0)) := rfl
theorem lk_ca_2_36 : ab_lk ab_cat 2 36 = some ((6, false), (38, 1)) := rfl
theorem lk_ca_2_43 : ab_lk ab_cat 2 43 = some ((53, false), (38, 2)) := rfl
theorem lk_ca_40_102 : ab_lk ab_cat 40 102 = some ((182, false), (41, 7)) := rfl
theorem lk_ca_40_103 : ab_lk ab_cat 40 103 = some ((99, false), (41, 15)) := rfl
theorem lk_ca_40_106 : ab_lk ab_cat 40 106 = some ((183, false), (41, 23)) := rfl
theorem lk_ca_40_107 : ab_lk ab_cat 40 107 = some ((100, false), (42, 4)) := rfl
theorem lk_ca_40_110 : ab_lk ab_cat 40 110 = some ((184, false), (42, 8)) := rfl
theorem lk_ca_40_111 : ab_lk ab_cat 40 111 = some ((101, false), (42, 12)) := rfl
theorem lk_ca_40_114 : ab_lk ab_cat 40 114 = some ((186, false), (42, 23)) := rfl
theorem lk_ca_40_115 : ab_lk ab_cat 40 115 = some ((102, false), (43, 7)) := rfl
theorem lk_ca_40_118 : ab_lk ab_cat 40 118 = some ((187, false), (43, 12)) := rfl
theorem lk_ca_40_119 : ab_lk ab_cat 40 119 = some ((103, false), (43, 17)) := rfl
theorem lk_ca_40_122 : ab_lk ab_cat 40 122 = some ((188, false), (43, 21)) := rfl
theorem lk_ca_40_123 : ab_lk ab_cat 40 123 = some ((104, false), (44, 2)) := rfl
theorem lk_ca_40_126 : ab_lk ab_cat 40 126 = some ((189, false), (44, 8)) := rfl
theorem lk_ca_40_127 : ab_lk ab_cat 40 127 = some ((105, false), (44, 12)) := rfl
theorem lk_ca_40_130 : ab_lk ab_cat 40 130 = some ((190, false), (44, 16)) := rfl
theorem lk_ca_40_131 : ab_lk ab_cat 40 131 = some ((106, false), (44, 20)) := rfl
theorem lk_ca_40_134 : ab_lk ab_cat 40 134 = some ((191, false), (45, 8)) := rfl
theorem lk_ca_40_135 : ab_lk ab_cat 40 135 = some ((107, false), (45, 12)) := rfl
theorem lk_ca_40_138 : ab_lk ab_cat 40 138 = some ((192, false), (46, 1)) := rfl
theorem lk_ca_40_139 : ab_lk ab_cat 40 139 = some ((108, false), (46, 5)) := rfl
theorem lk_ca_40_142 : ab_lk ab_cat 40 142 = some ((193, false), (46, 10)) := rfl
theorem lk_ca_40_143 : ab_lk ab_cat 40 143 = some ((109, false), (46, 16)) := rfl
theorem lk_ca_40_146 : ab_lk ab_cat 40 146 = some ((194, false), (46, 20)) := rfl
theorem lk_ca_40_147 : ab_lk ab_cat 40 147 = some ((110, false), (47, 0)) := rfl
theorem lk_ca_40_15 : ab_lk ab_cat 40 15 = some ((79, false), (8, 1)) := rfl
theorem lk_ca_40_150 : ab_lk ab_cat 40 150 = some ((195, false), (47, 6)) := rfl
theorem lk_ca_40_19 : ab_lk ab_cat 40 19 = some ((122, false), (8, 10)) := rfl
theorem lk_ca_40_20 : ab_lk ab_cat 40 20 = some ((80, false), (8, 15)) := rfl
theorem lk_ca_40_24 : ab_lk ab_cat 40 24 = some ((123, false), (8, 23)) := rfl
theorem lk_ca_40_25 : ab_lk ab_cat 40 25 = some ((81, false), (9, 6)) := rfl
theorem lk_ca_40_29 : ab_lk ab_cat 40 29 = some ((132, false), (14, 23)) := rfl
theorem lk_ca_40_30 : ab_lk ab_cat 40 30 = some ((82, false), (17, 0)) := rfl
theorem lk_ca_40_33 : ab_lk ab_cat 40 33 = some ((133, false), (17, 4)) := rfl
theorem lk_ca_40_34 : ab_lk ab_cat 40 34 = some ((83, false), (17, 8)) := rfl
theorem lk_ca_40_38 : ab_lk ab_cat 40 38 = some ((136, false), (17, 21)) := rfl
theorem lk_ca_40_39 : ab_lk ab_cat 40 39 = some ((84, false), (18, 11)) := rfl
theorem lk_ca_40_43 : ab_lk ab_cat 40 43 = some ((138, false), (18, 19)) := rfl
theorem lk_ca_40_44 : ab_lk ab_cat 40 44 = some ((85, false), (19, 9)) := rfl
theorem lk_ca_40_47 : ab_lk ab_cat 40 47 = some ((163, false), (26, 17)) := rfl
theorem lk_ca_40_48 : ab_lk ab_cat 40 48 = some ((86, false), (31, 8)) := rfl
theorem lk_ca_40_52 : ab_lk ab_cat 40 52 = some ((164, false), (31, 18)) := rfl
theorem lk_ca_40_53 : ab_lk ab_cat 40 53 = some ((87, false), (31, 23)) := rfl
theorem lk_ca_40_56 : ab_lk ab_cat 40 56 = some ((165, false), (32, 11)) := rfl
theorem lk_ca_40_57 : ab_lk ab_cat 40 57 = some ((88, false), (32, 15)) := rfl
theorem lk_ca_40_60 : ab_lk ab_cat 40 60 = some ((166, false), (32, 21)) := rfl
theorem lk_ca_40_61 : ab_lk ab_cat 40 61 = some ((89, false), (33, 2)) := rfl
theorem lk_ca_40_64 : ab_lk ab_cat 40 64 = some ((171, false), (34, 20)) := rfl
theorem lk_ca_40_65 : ab_lk ab_cat 40 65 = some ((90, false), (35, 19)) := rfl
theorem lk_ca_40_68 : ab_lk ab_cat 40 68 = some ((172, false), (36, 4)) := rfl
theorem lk_ca_40_69 : ab_lk ab_cat 40 69 = some ((91, false), (36, 8)) := rfl
theorem lk_ca_40_72 : ab_lk ab_cat 40 72 = some ((173, false), (36, 12)) := rfl
theorem lk_ca_40_73 : ab_lk ab_cat 40 73 = some ((92, false), (36, 16)) := rfl
theorem lk_ca_40_76 : ab_lk ab_cat 40 76 = some ((174, false), (37, 0)) := rfl
theorem lk_ca_40_77 : ab_lk ab_cat 40 77 = some ((93, false), (37, 4)) := rfl
theorem lk_ca_40_80 : ab_lk ab_cat 40 80 = some ((175, false), (37, 8)) := rfl
theorem lk_ca_40_81 : ab_lk ab_cat 40 81 = some ((94, false), (37, 12)) := rfl
theorem lk_ca_40_84 : ab_lk ab_cat 40 84 = some ((177, false), (38, 3)) := rfl
theorem lk_ca_40_85 : ab_lk ab_cat 40 85 = some ((95, false), (38, 13)) := rfl
theorem lk_ca_40_88 : ab_lk ab_cat 40 88 = some ((178, false), (38, 18)) := rfl
theorem lk_ca_40_89 : ab_lk ab_cat 40 89 = some ((96, false), (38, 22)) := rfl
theorem lk_ca_40_92 : ab_lk ab_cat 40 92 = some ((179, false), (39, 3)) := rfl
theorem lk_ca_40_93 : ab_lk ab_cat 40 93 = some ((97, false), (39, 7)) := rfl
theorem lk_ca_40_97 : ab_lk ab_cat 40 97 = some ((181, false), (39, 23)) := rfl
theorem lk_ca_40_98 : ab_lk ab_cat 40 98 = some ((98, false), (40, 8)) := rfl
theorem lk_ca_5_36 : ab_lk ab_cat 5 36 = some ((4, false), (33, 20)) := rfl
theorem lk_ca_5_41 : ab_lk ab_cat 5 41 = some ((6, false), (34, 1)) := rfl
theorem lk_ca_5_70 : ab_lk ab_cat 5 70 = some ((48, false), (34, 2)) := rfl
theorem lk_ca_5_74 : ab_lk ab_cat 5 74 = some ((49, false), (34, 8)) := rfl
theorem lk_ca_5_78 : ab_lk ab_cat 5 78 = some ((50, false), (34, 12)) := rfl
theorem lk_ca_5_89 : ab_lk ab_cat 5 89 = some ((45, false), (34, 19)) := rfl
theorem lk_ca_5_94 : ab_lk ab_cat 5 94 = some ((112, true), (0, 0)) := rfl
theorem lk_ca_8_22 : ab_lk ab_cat 8 22 = some ((203, false), (45, 4)) := rfl
theorem lk_ca_9_100 : ab_lk ab_cat 9 100 = some ((64, false), (14, 6)) := rfl
theorem lk_ca_9_33 : ab_lk ab_cat 9 33 = some ((39, false), (9, 19)) := rfl
theorem lk_ca_9_41 : ab_lk ab_cat 9 41 = some ((72, false), (9, 23)) := rfl
theorem lk_ca_9_47 : ab_lk ab_cat 9 47 = some ((61, false), (10, 17)) := rfl
theorem lk_ca_9_53 : ab_lk ab_cat 9 53 = some ((77, false), (10, 22)) := rfl
theorem lk_ca_9_57 : ab_lk ab_cat 9 57 = some ((62, false), (13, 3)) := rfl
theorem lk_ca_9_63 : ab_lk ab_cat 9 63 = some ((63, false), (14, 2)) := rfl
theorem lk_ca_9_69 : ab_lk ab_cat 9 69 = some ((65, false), (14, 10)) := rfl
theorem lk_ca_9_72 : ab_lk ab_cat 9 72 = some ((67, false), (13, 22)) := rfl
theorem lk_ca_9_75 : ab_lk ab_cat 9 75 = some ((68, false), (13, 9)) := rfl
theorem lk_ca_9_78 : ab_lk ab_cat 9 78 = some ((40, false), (13, 14)) := rfl
theorem lk_ca_9_93 : ab_lk ab_cat 9 93 = some ((66, false), (13, 18)) := rfl
theorem lk_cn_0_32 : ab_lk ab_cat 0 32 = none := rfl
theorem lk_cn_11_191 : ab_lk ab_cat 11 191 = none := rfl
theorem lk_cn_11_216 : ab_lk ab_cat 11 216 = none := rfl
theorem lk_cn_11_236 : ab_lk ab_cat 11 236 = none := rfl
theorem lk_cn_1_158 : ab_lk ab_cat 1 158 = none := rfl
theorem lk_cn_1_190 : ab_lk ab_cat 1 190 = none := rfl
theorem lk_cn_4_36 : ab_lk ab_cat 4 36 = none := rfl
theorem lk_cn_5_103 : ab_lk ab_cat 5 103 = none := rfl
theorem lk_cn_5_107 : ab_lk ab_cat 5 107 = none := rfl
theorem lk_cn_5_98 : ab_lk ab_cat 5 98 = none := rfl
theorem lk_fl_0_15 : ab_lk ab_flt 0 15 = some ((0, 2), (6, 4)) := rfl
theorem lk_fl_0_18 : ab_lk ab_flt 0 18 = some ((0, 0), (6, 5)) := rfl
theorem lk_fl_0_22 : ab_lk ab_flt 0 22 = some ((4, 3), (42, 20)) := rfl
theorem lk_fl_0_38 : ab_lk ab_flt 0 38 = some ((4, 0), (42, 22)) := rfl
theorem lk_fl_0_9 : ab_lk ab_flt 0 9 = some ((0, 1), (6, 3)) := rfl
theorem lk_fl_10_15 : ab_lk ab_flt 10 15 = some ((10, 1), (2, 7)) := rfl
theorem lk_fl_10_19 : ab_lk ab_flt 10 19 = some ((10, 2), (2, 8)) := rfl
theorem lk_fl_10_22 : ab_lk ab_flt 10 22 = some ((10, 3), (2, 9)) := rfl
theorem lk_fl_10_25 : ab_lk ab_flt 10 25 = some ((10, 4), (2, 10)) := rfl
theorem lk_fl_10_28 : ab_lk ab_flt 10 28 = some ((10, 5), (2, 11)) := rfl
theorem lk_fl_10_9 : ab_lk ab_flt 10 9 = some ((10, 0), (2, 6)) := rfl
theorem lk_fl_11_10 : ab_lk ab_flt 11 10 = some ((11, 0), (0, 16)) := rfl
theorem lk_fl_11_100 : ab_lk ab_flt 11 100 = some ((9, 3), (9, 11)) := rfl
theorem lk_fl_11_103 : ab_lk ab_flt 11 103 = some ((9, 0), (9, 12)) := rfl
theorem lk_fl_11_118 : ab_lk ab_flt 11 118 = some ((4, 0), (17, 13)) := rfl
theorem lk_fl_11_130 : ab_lk ab_flt 11 130 = some ((1, 3), (19, 13)) := rfl
theorem lk_fl_11_133 : ab_lk ab_flt 11 133 = some ((1, 4), (19, 14)) := rfl
theorem lk_fl_11_142 : ab_lk ab_flt 11 142 = some ((1, 5), (19, 15)) := rfl
theorem lk_fl_11_145 : ab_lk ab_flt 11 145 = some ((1, 6), (19, 16)) := rfl
theorem lk_fl_11_148 : ab_lk ab_flt 11 148 = some ((1, 7), (19, 17)) := rfl
theorem lk_fl_11_151 : ab_lk ab_flt 11 151 = some ((1, 2), (31, 12)) := rfl
theorem lk_fl_11_155 : ab_lk ab_flt 11 155 = some ((6, 0), (31, 13)) := rfl
theorem lk_fl_11_160 : ab_lk ab_flt 11 160 = some ((6, 1), (31, 14)) := rfl
theorem lk_fl_11_163 : ab_lk ab_flt 11 163 = some ((6, 2), (31, 15)) := rfl
theorem lk_fl_11_164 : ab_lk ab_flt 11 164 = some ((6, 3), (31, 16)) := rfl
theorem lk_fl_11_167 : ab_lk ab_flt 11 167 = some ((6, 4), (31, 17)) := rfl
theorem lk_fl_11_170 : ab_lk ab_flt 11 170 = some ((1, 1), (32, 3)) := rfl
theorem lk_fl_11_174 : ab_lk ab_flt 11 174 = some ((7, 1), (32, 4)) := rfl
theorem lk_fl_11_179 : ab_lk ab_flt 11 179 = some ((7, 2), (32, 5)) := rfl
theorem lk_fl_11_182 : ab_lk ab_flt 11 182 = some ((7, 3), (32, 6)) := rfl
theorem lk_fl_11_185 : ab_lk ab_flt 11 185 = some ((7, 4), (32, 7)) := rfl
theorem lk_fl_11_200 : ab_lk ab_flt 11 200 = some ((4, 3), (32, 19)) := rfl
theorem lk_fl_11_205 : ab_lk ab_flt 11 205 = some ((5, 3), (33, 6)) := rfl
theorem lk_fl_11_207 : ab_lk ab_flt 11 207 = some ((5, 2), (33, 7)) := rfl
theorem lk_fl_11_21 : ab_lk ab_flt 11 21 = some ((11, 1), (0, 20)) := rfl
theorem lk_fl_11_211 : ab_lk ab_flt 11 211 = some ((4, 5), (35, 23)) := rfl
theorem lk_fl_11_220 : ab_lk ab_flt 11 220 = some ((4, 2), (36, 23)) := rfl
theorem lk_fl_11_227 : ab_lk ab_flt 11 227 = some ((2, 2), (37, 16)) := rfl
theorem lk_fl_11_230 : ab_lk ab_flt 11 230 = some ((2, 3), (37, 17)) := rfl
theorem lk_fl_11_278 : ab_lk ab_flt 11 278 = some ((4, 1), (43, 11)) := rfl
theorem lk_fl_11_28 : ab_lk ab_flt 11 28 = some ((11, 2), (1, 0)) := rfl
theorem lk_fl_11_281 : ab_lk ab_flt 11 281 = some ((3, 1), (44, 6)) := rfl
theorem lk_fl_11_285 : ab_lk ab_flt 11 285 = some ((3, 0), (44, 7)) := rfl
theorem lk_fl_11_289 : ab_lk ab_flt 11 289 = some ((8, 1), (45, 16)) := rfl
theorem lk_fl_11_298 : ab_lk ab_flt 11 298 = some ((8, 0), (46, 9)) := rfl
theorem lk_fl_11_301 : ab_lk ab_flt 11 301 = some ((8, 2), (47, 4)) := rfl
theorem lk_fl_11_304 : ab_lk ab_flt 11 304 = some ((4, 4), (47, 5)) := rfl
theorem lk_fl_11_34 : ab_lk ab_flt 11 34 = some ((11, 3), (1, 2)) := rfl
theorem lk_fl_11_40 : ab_lk ab_flt 11 40 = some ((11, 4), (1, 4)) := rfl
theorem lk_fl_11_49 : ab_lk ab_flt 11 49 = some ((11, 5), (1, 8)) := rfl
theorem lk_fl_11_58 : ab_lk ab_flt 11 58 = some ((11, 6), (1, 12)) := rfl
theorem lk_fl_11_65 : ab_lk ab_flt 11 65 = some ((11, 7), (1, 16)) := rfl
theorem lk_fl_11_72 : ab_lk ab_flt 11 72 = some ((11, 8), (1, 20)) := rfl
theorem lk_fl_11_76 : ab_lk ab_flt 11 76 = some ((11, 9), (1, 21)) := rfl
theorem lk_fl_11_86 : ab_lk ab_flt 11 86 = some ((10, 1), (8, 5)) := rfl
theorem lk_fl_11_97 : ab_lk ab_flt 11 97 = some ((9, 2), (9, 10)) := rfl
theorem lk_fl_12_101 : ab_lk ab_flt 12 101 = some ((12, 3), (15, 3)) := rfl
theorem lk_fl_12_104 : ab_lk ab_flt 12 104 = some ((12, 6), (15, 14)) := rfl
theorem lk_fl_12_107 : ab_lk ab_flt 12 107 = some ((12, 4), (15, 8)) := rfl
theorem lk_fl_12_110 : ab_lk ab_flt 12 110 = some ((12, 7), (15, 6)) := rfl
theorem lk_fl_12_113 : ab_lk ab_flt 12 113 = some ((12, 5), (15, 4)) := rfl
theorem lk_fl_12_120 : ab_lk ab_flt 12 120 = some ((12, 8), (15, 15)) := rfl
theorem lk_fl_12_13 : ab_lk ab_flt 12 13 = some ((12, 9), (6, 23)) := rfl
theorem lk_fl_12_153 : ab_lk ab_flt 12 153 = some ((12, 13), (15, 5)) := rfl
theorem lk_fl_12_159 : ab_lk ab_flt 12 159 = some ((12, 2), (15, 7)) := rfl
theorem lk_fl_12_16 : ab_lk ab_flt 12 16 = some ((12, 10), (7, 0)) := rfl
theorem lk_fl_12_188 : ab_lk ab_flt 12 188 = some ((12, 25), (27, 15)) := rfl
theorem lk_fl_12_19 : ab_lk ab_flt 12 19 = some ((12, 11), (7, 1)) := rfl
theorem lk_fl_12_191 : ab_lk ab_flt 12 191 = some ((12, 27), (27, 16)) := rfl
theorem lk_fl_12_194 : ab_lk ab_flt 12 194 = some ((12, 28), (27, 2)) := rfl
theorem lk_fl_12_197 : ab_lk ab_flt 12 197 = some ((12, 30), (26, 22)) := rfl
theorem lk_fl_12_200 : ab_lk ab_flt 12 200 = some ((12, 31), (26, 23)) := rfl
theorem lk_fl_12_203 : ab_lk ab_flt 12 203 = some ((12, 32), (27, 0)) := rfl
theorem lk_fl_12_206 : ab_lk ab_flt 12 206 = some ((12, 33), (27, 1)) := rfl
theorem lk_fl_12_218 : ab_lk ab_flt 12 218 = some ((12, 34), (27, 10)) := rfl
theorem lk_fl_12_22 : ab_lk ab_flt 12 22 = some ((12, 12), (7, 2)) := rfl
theorem lk_fl_12_25 : ab_lk ab_flt 12 25 = some ((12, 15), (7, 4)) := rfl
theorem lk_fl_12_29 : ab_lk ab_flt 12 29 = some ((12, 16), (7, 5)) := rfl
theorem lk_fl_12_299 : ab_lk ab_flt 12 299 = some ((12, 38), (35, 2)) := rfl
theorem lk_fl_12_316 : ab_lk ab_flt 12 316 = some ((12, 39), (38, 7)) := rfl
theorem lk_fl_12_319 : ab_lk ab_flt 12 319 = some ((12, 40), (38, 8)) := rfl
theorem lk_fl_12_32 : ab_lk ab_flt 12 32 = some ((12, 17), (7, 6)) := rfl
theorem lk_fl_12_35 : ab_lk ab_flt 12 35 = some ((12, 18), (7, 7)) := rfl
theorem lk_fl_12_353 : ab_lk ab_flt 12 353 = some ((12, 47), (46, 15)) := rfl
theorem lk_fl_12_38 : ab_lk ab_flt 12 38 = some ((12, 19), (7, 8)) := rfl
theorem lk_fl_12_41 : ab_lk ab_flt 12 41 = some ((12, 20), (7, 9)) := rfl
theorem lk_fl_12_44 : ab_lk ab_flt 12 44 = some ((12, 21), (7, 10)) := rfl
theorem lk_fl_12_47 : ab_lk ab_flt 12 47 = some ((12, 22), (7, 11)) := rfl
theorem lk_fl_12_50 : ab_lk ab_flt 12 50 = some ((12, 23), (7, 12)) := rfl
theorem lk_fl_12_53 : ab_lk ab_flt 12 53 = some ((12, 24), (7, 13)) := rfl
theorem lk_fl_12_56 : ab_lk ab_flt 12 56 = some ((12, 26), (7, 14)) := rfl
theorem lk_fl_12_59 : ab_lk ab_flt 12 59 = some ((12, 29), (7, 15)) := rfl
theorem lk_fl_12_62 : ab_lk ab_flt 12 62 = some ((12, 35), (7, 16)) := rfl
theorem lk_fl_12_65 : ab_lk ab_flt 12 65 = some ((12, 36), (7, 17)) := rfl
theorem lk_fl_12_68 : ab_lk ab_flt 12 68 = some ((12, 37), (7, 18)) := rfl
theorem lk_fl_12_7 : ab_lk ab_flt 12 7 = some ((12, 0), (6, 22)) := rfl
theorem lk_fl_12_71 : ab_lk ab_flt 12 71 = some ((12, 41), (7, 19)) := rfl
theorem lk_fl_12_74 : ab_lk ab_flt 12 74 = some ((12, 42), (7, 20)) := rfl
theorem lk_fl_12_77 : ab_lk ab_flt 12 77 = some ((12, 43), (7, 21)) := rfl
theorem lk_fl_12_80 : ab_lk ab_flt 12 80 = some ((12, 44), (7, 22)) := rfl
theorem lk_fl_12_83 : ab_lk ab_flt 12 83 = some ((12, 45), (7, 23)) := rfl
theorem lk_fl_12_86 : ab_lk ab_flt 12 86 = some ((12, 46), (8, 0)) := rfl
theorem lk_fl_12_89 : ab_lk ab_flt 12 89 = some ((12, 14), (15, 9)) := rfl
theorem lk_fl_12_93 : ab_lk ab_flt 12 93 = some ((12, 1), (8, 14)) := rfl
theorem lk_fl_1_11 : ab_lk ab_flt 1 11 = some ((1, 1), (3, 14)) := rfl
theorem lk_fl_1_111 : ab_lk ab_flt 1 111 = some ((7, 6), (20, 22)) := rfl
theorem lk_fl_1_114 : ab_lk ab_flt 1 114 = some ((7, 5), (21, 3)) := rfl
theorem lk_fl_1_130 : ab_lk ab_flt 1 130 = some ((4, 4), (21, 14)) := rfl
theorem lk_fl_1_167 : ab_lk ab_flt 1 167 = some ((6, 0), (24, 22)) := rfl
theorem lk_fl_1_170 : ab_lk ab_flt 1 170 = some ((6, 1), (24, 23)) := rfl
theorem lk_fl_1_173 : ab_lk ab_flt 1 173 = some ((6, 2), (25, 0)) := rfl
theorem lk_fl_1_174 : ab_lk ab_flt 1 174 = some ((6, 3), (25, 1)) := rfl
theorem lk_fl_1_177 : ab_lk ab_flt 1 177 = some ((6, 4), (25, 2)) := rfl
theorem lk_fl_1_178 : ab_lk ab_flt 1 178 = some ((7, 1), (25, 7)) := rfl
theorem lk_fl_1_181 : ab_lk ab_flt 1 181 = some ((7, 3), (25, 8)) := rfl
theorem lk_fl_1_184 : ab_lk ab_flt 1 184 = some ((7, 2), (22, 14)) := rfl
theorem lk_fl_1_187 : ab_lk ab_flt 1 187 = some ((7, 4), (25, 17)) := rfl
theorem lk_fl_1_19 : ab_lk ab_flt 1 19 = some ((1, 2), (3, 16)) := rfl
theorem lk_fl_1_221 : ab_lk ab_flt 1 221 = some ((4, 5), (24, 12)) := rfl
theorem lk_fl_1_224 : ab_lk ab_flt 1 224 = some ((4, 2), (24, 13)) := rfl
theorem lk_fl_1_23 : ab_lk ab_flt 1 23 = some ((1, 3), (3, 17)) := rfl
theorem lk_fl_1_27 : ab_lk ab_flt 1 27 = some ((1, 4), (3, 18)) := rfl
theorem lk_fl_1_30 : ab_lk ab_flt 1 30 = some ((1, 5), (3, 19)) := rfl
theorem lk_fl_1_33 : ab_lk ab_flt 1 33 = some ((1, 6), (3, 20)) := rfl
theorem lk_fl_1_36 : ab_lk ab_flt 1 36 = some ((1, 7), (3, 21)) := rfl
theorem lk_fl_1_39 : ab_lk ab_flt 1 39 = some ((1, 8), (3, 22)) := rfl
theorem lk_fl_1_42 : ab_lk ab_flt 1 42 = some ((1, 9), (3, 23)) := rfl
theorem lk_fl_1_46 : ab_lk ab_flt 1 46 = some ((1, 10), (4, 0)) := rfl
theorem lk_fl_1_49 : ab_lk ab_flt 1 49 = some ((1, 11), (4, 1)) := rfl
theorem lk_fl_1_52 : ab_lk ab_flt 1 52 = some ((1, 12), (4, 2)) := rfl
theorem lk_fl_1_55 : ab_lk ab_flt 1 55 = some ((1, 13), (4, 3)) := rfl
theorem lk_fl_1_58 : ab_lk ab_flt 1 58 = some ((1, 0), (4, 4)) := rfl
theorem lk_fl_1_64 : ab_lk ab_flt 1 64 = some ((4, 3), (20, 2)) := rfl
theorem lk_fl_1_67 : ab_lk ab_flt 1 67 = some ((4, 0), (20, 3)) := rfl
theorem lk_fl_1_71 : ab_lk ab_flt 1 71 = some ((7, 0), (20, 4)) := rfl
theorem lk_fl_1_74 : ab_lk ab_flt 1 74 = some ((7, 7), (20, 5)) := rfl
theorem lk_fl_2_13 : ab_lk ab_flt 2 13 = some ((2, 3), (5, 20)) := rfl
theorem lk_fl_2_16 : ab_lk ab_flt 2 16 = some ((2, 0), (5, 21)) := rfl
theorem lk_fl_2_20 : ab_lk ab_flt 2 20 = some ((2, 1), (5, 22)) := rfl
theorem lk_fl_2_24 : ab_lk ab_flt 2 24 = some ((4, 0), (37, 22)) := rfl
theorem lk_fl_2_39 : ab_lk ab_flt 2 39 = some ((1, 1), (37, 23)) := rfl
theorem lk_fl_2_7 : ab_lk ab_flt 2 7 = some ((2, 2), (5, 19)) := rfl
theorem lk_fl_4_11 : ab_lk ab_flt 4 11 = some ((4, 0), (3, 3)) := rfl
theorem lk_fl_4_16 : ab_lk ab_flt 4 16 = some ((4, 1), (3, 4)) := rfl
theorem lk_fl_4_20 : ab_lk ab_flt 4 20 = some ((4, 2), (3, 5)) := rfl
theorem lk_fl_4_23 : ab_lk ab_flt 4 23 = some ((4, 3), (3, 6)) := rfl
theorem lk_fl_4_27 : ab_lk ab_flt 4 27 = some ((4, 4), (3, 7)) := rfl
theorem lk_fl_4_30 : ab_lk ab_flt 4 30 = some ((4, 5), (3, 8)) := rfl
theorem lk_fl_5_15 : ab_lk ab_flt 5 15 = some ((5, 3), (5, 9)) := rfl
theorem lk_fl_5_19 : ab_lk ab_flt 5 19 = some ((5, 4), (5, 10)) := rfl
theorem lk_fl_5_22 : ab_lk ab_flt 5 22 = some ((5, 5), (5, 11)) := rfl
theorem lk_fl_5_25 : ab_lk ab_flt 5 25 = some ((5, 6), (5, 12)) := rfl
theorem lk_fl_5_28 : ab_lk ab_flt 5 28 = some ((5, 0), (5, 13)) := rfl
theorem lk_fl_5_32 : ab_lk ab_flt 5 32 = some ((5, 1), (5, 14)) := rfl
theorem lk_fl_5_44 : ab_lk ab_flt 5 44 = some ((1, 3), (33, 12)) := rfl
theorem lk_fl_5_47 : ab_lk ab_flt 5 47 = some ((1, 6), (33, 13)) := rfl
theorem lk_fl_5_51 : ab_lk ab_flt 5 51 = some ((4, 3), (33, 15)) := rfl
theorem lk_fl_5_54 : ab_lk ab_flt 5 54 = some ((4, 0), (33, 16)) := rfl
theorem lk_fl_5_58 : ab_lk ab_flt 5 58 = some ((1, 1), (33, 17)) := rfl
theorem lk_fl_5_62 : ab_lk ab_flt 5 62 = some ((7, 1), (33, 18)) := rfl
theorem lk_fl_5_67 : ab_lk ab_flt 5 67 = some ((1, 4), (33, 19)) := rfl
theorem lk_fl_5_81 : ab_lk ab_flt 5 81 = some ((1, 2), (34, 5)) := rfl
theorem lk_fl_5_84 : ab_lk ab_flt 5 84 = some ((6, 4), (34, 6)) := rfl
theorem lk_fl_5_9 : ab_lk ab_flt 5 9 = some ((5, 2), (5, 8)) := rfl
theorem lk_fl_5_93 : ab_lk ab_flt 5 93 = some ((6, 2), (34, 7)) := rfl
theorem lk_fl_7_13 : ab_lk ab_flt 7 13 = some ((7, 1), (4, 13)) := rfl
theorem lk_fl_7_16 : ab_lk ab_flt 7 16 = some ((7, 2), (4, 14)) := rfl
theorem lk_fl_7_19 : ab_lk ab_flt 7 19 = some ((7, 3), (4, 15)) := rfl
theorem lk_fl_7_22 : ab_lk ab_flt 7 22 = some ((7, 4), (4, 16)) := rfl
theorem lk_fl_7_7 : ab_lk ab_flt 7 7 = some ((7, 0), (4, 12)) := rfl
theorem lk_fl_8_15 : ab_lk ab_flt 8 15 = some ((8, 1), (6, 16)) := rfl
theorem lk_fl_8_19 : ab_lk ab_flt 8 19 = some ((8, 2), (6, 17)) := rfl
theorem lk_fl_8_9 : ab_lk ab_flt 8 9 = some ((8, 0), (6, 15)) := rfl
theorem lk_fl_9_109 : ab_lk ab_flt 9 109 = some ((4, 4), (14, 14)) := rfl
theorem lk_fl_9_111 : ab_lk ab_flt 9 111 = some ((10, 4), (13, 13)) := rfl
theorem lk_fl_9_12 : ab_lk ab_flt 9 12 = some ((9, 0), (2, 17)) := rfl
theorem lk_fl_9_18 : ab_lk ab_flt 9 18 = some ((9, 2), (2, 18)) := rfl
theorem lk_fl_9_22 : ab_lk ab_flt 9 22 = some ((9, 3), (2, 19)) := rfl
theorem lk_fl_9_25 : ab_lk ab_flt 9 25 = some ((9, 4), (2, 20)) := rfl
theorem lk_fl_9_29 : ab_lk ab_flt 9 29 = some ((9, 1), (2, 21)) := rfl
theorem lk_fl_9_36 : ab_lk ab_flt 9 36 = some ((10, 2), (9, 17)) := rfl
theorem lk_fl_9_44 : ab_lk ab_flt 9 44 = some ((10, 3), (9, 18)) := rfl
theorem lk_fl_9_60 : ab_lk ab_flt 9 60 = some ((4, 3), (10, 21)) := rfl
theorem lk_fl_9_82 : ab_lk ab_flt 9 82 = some ((4, 0), (13, 7)) := rfl
theorem lk_fl_9_97 : ab_lk ab_flt 9 97 = some ((10, 5), (13, 8)) := rfl
theorem lk_fn_20_15 : ab_lk ab_flt 20 15 = none := rfl
theorem lk_fn_20_9 : ab_lk ab_flt 20 9 = none := rfl
theorem lk_kn_9_103 : ab_lk ab_kot 9 103 = none := rfl
theorem lk_kn_9_105 : ab_lk ab_kot 9 105 = none := rfl
theorem lk_kn_9_107 : ab_lk ab_kot 9 107 = none := rfl
theorem lk_kn_9_51 : ab_lk ab_kot 9 51 = none := rfl
theorem lk_kn_9_67 : ab_lk ab_kot 9 67 = none := rfl
theorem lk_ko_11_117 : ab_lk ab_kot 11 117 = some (.inl (-1000000), (17, 12)) := rfl
theorem lk_ko_11_201 : ab_lk ab_kot 11 201 = some (.inl (2147483647), (32, 20)) := rfl
theorem lk_ko_11_239 : ab_lk ab_kot 11 239 = some (.inr (-1), (39, 11)) := rfl
theorem lk_ko_11_244 : ab_lk ab_kot 11 244 = some (.inr (-2), (39, 12)) := rfl
theorem lk_ko_11_256 : ab_lk ab_kot 11 256 = some (.inr (-4), (40, 12)) := rfl
theorem lk_ko_11_262 : ab_lk ab_kot 11 262 = some (.inr (840), (40, 13)) := rfl
theorem lk_ko_11_267 : ab_lk ab_kot 11 267 = some (.inr (705600), (40, 14)) := rfl
theorem lk_ko_12_123 : ab_lk ab_kot 12 123 = some (.inr (97), (15, 16)) := rfl
theorem lk_ko_12_125 : ab_lk ab_kot 12 125 = some (.inr (122), (15, 17)) := rfl
theorem lk_ko_12_127 : ab_lk ab_kot 12 127 = some (.inr (48), (15, 18)) := rfl
theorem lk_ko_12_129 : ab_lk ab_kot 12 129 = some (.inr (57), (15, 19)) := rfl
theorem lk_ko_12_166 : ab_lk ab_kot 12 166 = some (.inr (7), (18, 1)) := rfl
theorem lk_ko_12_171 : ab_lk ab_kot 12 171 = some (.inl (-1000000), (18, 2)) := rfl
theorem lk_ko_12_172 : ab_lk ab_kot 12 172 = some (.inr (240), (19, 3)) := rfl
theorem lk_ko_12_174 : ab_lk ab_kot 12 174 = some (.inr (99), (19, 4)) := rfl
theorem lk_ko_12_176 : ab_lk ab_kot 12 176 = some (.inr (999), (19, 5)) := rfl
theorem lk_ko_12_178 : ab_lk ab_kot 12 178 = some (.inr (9), (19, 6)) := rfl
theorem lk_ko_12_180 : ab_lk ab_kot 12 180 = some (.inr (-99999), (19, 7)) := rfl
theorem lk_ko_12_182 : ab_lk ab_kot 12 182 = some (.inr (99999), (19, 8)) := rfl
theorem lk_ko_12_221 : ab_lk ab_kot 12 221 = some (.inl (1103515245), (30, 15)) := rfl
theorem lk_ko_12_278 : ab_lk ab_kot 12 278 = some (.inr (6), (26, 21)) := rfl
theorem lk_ko_12_292 : ab_lk ab_kot 12 292 = some (.inr (4), (31, 22)) := rfl
theorem lk_ko_12_294 : ab_lk ab_kot 12 294 = some (.inr (3), (33, 1)) := rfl
theorem lk_ko_12_309 : ab_lk ab_kot 12 309 = some (.inr (10), (35, 0)) := rfl
theorem lk_ko_12_311 : ab_lk ab_kot 12 311 = some (.inr (15), (35, 1)) := rfl
theorem lk_ko_12_326 : ab_lk ab_kot 12 326 = some (.inr (-1), (40, 3)) := rfl
theorem lk_ko_12_328 : ab_lk ab_kot 12 328 = some (.inr (-2), (40, 4)) := rfl
theorem lk_ko_12_334 : ab_lk ab_kot 12 334 = some (.inr (-4), (41, 11)) := rfl
theorem lk_ko_12_336 : ab_lk ab_kot 12 336 = some (.inl (705600), (41, 12)) := rfl
theorem lk_ko_12_337 : ab_lk ab_kot 12 337 = some (.inr (840), (41, 13)) := rfl
theorem lk_ko_12_339 : ab_lk ab_kot 12 339 = some (.inr (705600), (41, 14)) := rfl
theorem lk_ko_12_341 : ab_lk ab_kot 12 341 = some (.inr (60), (42, 3)) := rfl
theorem lk_ko_12_347 : ab_lk ab_kot 12 347 = some (.inr (9999), (43, 16)) := rfl
theorem lk_ko_12_349 : ab_lk ab_kot 12 349 = some (.inr (2), (44, 1)) := rfl
theorem lk_ko_12_351 : ab_lk ab_kot 12 351 = some (.inr (12), (46, 14)) := rfl
theorem lk_ko_1_220 : ab_lk ab_kot 1 220 = some (.inl (1103515245), (24, 3)) := rfl
theorem lk_ko_26_265 : ab_lk ab_kot 26 265 = some (.inl (1431655765), (21, 19)) := rfl
theorem lk_ko_26_266 : ab_lk ab_kot 26 266 = some (.inl (858993459), (21, 20)) := rfl
theorem lk_ko_26_267 : ab_lk ab_kot 26 267 = some (.inl (252645135), (21, 21)) := rfl
theorem lk_ko_40_13 : ab_lk ab_kot 40 13 = some (.inr (4294967295), (0, 6)) := rfl
theorem lk_ko_5_50 : ab_lk ab_kot 5 50 = some (.inl (2147483647), (33, 14)) := rfl
theorem lk_ma_0_32 : ab_lk ab_mat 0 32 = some (0, (42, 21)) := rfl
theorem lk_ma_11_191 : ab_lk ab_mat 11 191 = some (2, (32, 8)) := rfl
theorem lk_ma_11_216 : ab_lk ab_mat 11 216 = some (1, (36, 20)) := rfl
theorem lk_ma_11_236 : ab_lk ab_mat 11 236 = some (0, (39, 2)) := rfl
theorem lk_ma_1_158 : ab_lk ab_mat 1 158 = some (0, (22, 2)) := rfl
theorem lk_ma_1_190 : ab_lk ab_mat 1 190 = some (2, (25, 22)) := rfl
theorem lk_ma_5_103 : ab_lk ab_mat 5 103 = some (0, (34, 17)) := rfl
theorem lk_ma_5_98 : ab_lk ab_mat 5 98 = some (2, (34, 16)) := rfl
theorem lk_mn_4_36 : ab_lk ab_mat 4 36 = none := rfl
theorem lk_mn_5_107 : ab_lk ab_mat 5 107 = none := rfl
theorem lk_sf_20_15 : ab_lk ab_sft 20 15 = some (0, (11, 13)) := rfl
theorem lk_sf_20_9 : ab_lk ab_sft 20 9 = some (1, (11, 7)) := rfl
theorem lk_st_11_233 : ab_lk ab_stt 11 233 = some ((1, false), (38, 17)) := rfl
theorem lk_st_20_1053 : ab_lk ab_stt 20 1053 = some ((3, false), (12, 5)) := rfl
theorem lk_st_20_38 : ab_lk ab_stt 20 38 = some ((2, false), (11, 12)) := rfl
theorem lk_st_2_49 : ab_lk ab_stt 2 49 = some ((0, true), (0, 0)) := rfl
theorem lk_st_4_33 : ab_lk ab_stt 4 33 = some ((1, true), (0, 0)) := rfl
theorem lk_st_4_42 : ab_lk ab_stt 4 42 = some ((0, true), (0, 0)) := rfl
theorem lk_st_9_86 : ab_lk ab_stt 9 86 = some ((0, true), (0, 0)) := rfl
theorem lk_st_9_90 : ab_lk ab_stt 9 90 = some ((1, true), (0, 0)) := rfl
set_option maxRecDepth 100000 in
theorem ab_mtL : ab_mtA.length = 205 := by decide +kernel
theorem hm1 : ab_sta 1 = false ∧ ab_na 1 = 0 ∧ 1 < ab_mtA.length ∧ (ab_mr 1).1.1.name ≠ "<init>" ∧ ab_ky 1 = 0 := ⟨rfl, rfl, by rw [ab_mtL]; decide, by decide, rfl⟩
theorem hm3 : ab_sta 3 = false ∧ ab_na 3 = 2 ∧ 3 < ab_mtA.length ∧ (ab_mr 3).1.1.name ≠ "<init>" ∧ ab_ky 3 = 1 := ⟨rfl, rfl, by rw [ab_mtL]; decide, by decide, rfl⟩
theorem hm4 : ab_sta 4 = false ∧ ab_na 4 = 0 ∧ 4 < ab_mtA.length ∧ (ab_mr 4).1.1.name ≠ "<init>" ∧ ab_ky 4 = 1 := ⟨rfl, rfl, by rw [ab_mtL]; decide, by decide, rfl⟩
theorem hm5 : ab_sta 5 = false ∧ ab_na 5 = 0 ∧ 5 < ab_mtA.length ∧ (ab_mr 5).1.1.name ≠ "<init>" ∧ ab_ky 5 = 1 := ⟨rfl, rfl, by rw [ab_mtL]; decide, by decide, rfl⟩
theorem hm6 : ab_sta 6 = false ∧ ab_na 6 = 0 ∧ 6 < ab_mtA.length ∧ (ab_mr 6).1.1.name ≠ "<init>" ∧ ab_ky 6 = 1 := ⟨rfl, rfl, by rw [ab_mtL]; decide, by decide, rfl⟩
theorem hm7 : ab_sta 7 = false ∧ ab_na 7 = 0 ∧ 7 < ab_mtA.length ∧ (ab_mr 7).1.1.name ≠ "<init>" ∧ ab_ky 7 = 1 := ⟨rfl, rfl, by rw [ab_mtL]; decide, by decide, rfl⟩
theorem hm8 : ab_sta 8 = false ∧ ab_na 8 = 1 ∧ 8 < ab_mtA.length ∧ (ab_mr 8).1.1.name ≠ "<init>" ∧ ab_ky 8 = 1 := ⟨rfl, rfl, by rw [ab_mtL]; decide, by decide, rfl⟩
theorem hm9 : ab_sta 9 = false ∧ ab_na 9 = 2 ∧ 9 < ab_mtA.length ∧ (ab_mr 9).1.1.name ≠ "<init>" ∧ ab_ky 9 = 1 := ⟨rfl, rfl, by rw [ab_mtL]; decide, by decide, rfl⟩
theorem hm10 : ab_sta 10 = false ∧ ab_na 10 = 1 ∧ 10 < ab_mtA.length ∧ (ab_mr 10).1.1.name ≠ "<init>" ∧ ab_ky 10 = 1 := ⟨rfl, rfl, by rw [ab_mtL]; decide, by decide, rfl⟩
theorem hm11 : ab_sta 11 = false ∧ ab_na 11 = 1 ∧ 11 < ab_mtA.length ∧ (ab_mr 11).1.1.name ≠ "<init>" ∧ ab_ky 11 = 1 := ⟨rfl, rfl, by rw [ab_mtL]; decide, by decide, rfl⟩
theorem hm12 : ab_sta 12 = true ∧ ab_na 12 = 3 ∧ 12 < ab_mtA.length := ⟨rfl, rfl, by rw [ab_mtL]; decide⟩
theorem hm13 : ab_sta 13 = false ∧ ab_na 13 = 0 ∧ 13 < ab_mtA.length ∧ (ab_mr 13).1.1.name ≠ "<init>" ∧ ab_ky 13 = 1 := ⟨rfl, rfl, by rw [ab_mtL]; decide, by decide, rfl⟩
theorem hm14 : ab_sta 14 = false ∧ ab_na 14 = 1 ∧ 14 < ab_mtA.length ∧ (ab_mr 14).1.1.name ≠ "<init>" ∧ ab_ky 14 = 1 := ⟨rfl, rfl, by rw [ab_mtL]; decide, by decide, rfl⟩
theorem hm15 : ab_sta 15 = false ∧ ab_na 15 = 0 ∧ 15 < ab_mtA.length ∧ (ab_mr 15).1.1.name ≠ "<init>" ∧ ab_ky 15 = 1 := ⟨rfl, rfl, by rw [ab_mtL]; decide, by decide, rfl⟩
theorem hm16 : ab_sta 16 = false ∧ ab_na 16 = 1 ∧ 16 < ab_mtA.length ∧ (ab_mr 16).1.1.name ≠ "<init>" ∧ ab_ky 16 = 1 := ⟨rfl, rfl, by rw [ab_mtL]; decide, by decide, rfl⟩
theorem hm17 : ab_sta 17 = false ∧ ab_na 17 = 4 ∧ 17 < ab_mtA.length ∧ (ab_mr 17).1.1.name ≠ "<init>" ∧ ab_ky 17 = 1 := ⟨rfl, rfl, by rw [ab_mtL]; decide, by decide, rfl⟩
theorem hm18 : ab_sta 18 = false ∧ ab_na 18 = 2 ∧ 18 < ab_mtA.length ∧ (ab_mr 18).1.1.name ≠ "<init>" ∧ ab_ky 18 = 1 := ⟨rfl, rfl, by rw [ab_mtL]; decide, by decide, rfl⟩
theorem hm19 : ab_sta 19 = false ∧ ab_na 19 = 1 ∧ 19 < ab_mtA.length ∧ (ab_mr 19).1.1.name ≠ "<init>" ∧ ab_ky 19 = 1 := ⟨rfl, rfl, by rw [ab_mtL]; decide, by decide, rfl⟩
theorem hm20 : ab_sta 20 = false ∧ ab_na 20 = 2 ∧ 20 < ab_mtA.length ∧ (ab_mr 20).1.1.name ≠ "<init>" ∧ ab_ky 20 = 1 := ⟨rfl, rfl, by rw [ab_mtL]; decide, by decide, rfl⟩
theorem hm21 : ab_sta 21 = false ∧ ab_na 21 = 0 ∧ 21 < ab_mtA.length ∧ (ab_mr 21).1.1.name ≠ "<init>" ∧ ab_ky 21 = 1 := ⟨rfl, rfl, by rw [ab_mtL]; decide, by decide, rfl⟩
theorem hm22 : ab_sta 22 = false ∧ ab_na 22 = 1 ∧ 22 < ab_mtA.length ∧ (ab_mr 22).1.1.name ≠ "<init>" ∧ ab_ky 22 = 1 := ⟨rfl, rfl, by rw [ab_mtL]; decide, by decide, rfl⟩
theorem hm23 : ab_sta 23 = false ∧ ab_na 23 = 1 ∧ 23 < ab_mtA.length ∧ (ab_mr 23).1.1.name ≠ "<init>" ∧ ab_ky 23 = 1 := ⟨rfl, rfl, by rw [ab_mtL]; decide, by decide, rfl⟩
theorem hm24 : ab_sta 24 = false ∧ ab_na 24 = 1 ∧ 24 < ab_mtA.length ∧ (ab_mr 24).1.1.name ≠ "<init>" ∧ ab_ky 24 = 1 := ⟨rfl, rfl, by rw [ab_mtL]; decide, by decide, rfl⟩
theorem hm25 : ab_sta 25 = false ∧ ab_na 25 = 1 ∧ 25 < ab_mtA.length ∧ (ab_mr 25).1.1.name ≠ "<init>" ∧ ab_ky 25 = 1 := ⟨rfl, rfl, by rw [ab_mtL]; decide, by decide, rfl⟩
theorem hm26 : ab_sta 26 = false ∧ ab_na 26 = 1 ∧ 26 < ab_mtA.length ∧ (ab_mr 26).1.1.name ≠ "<init>" ∧ ab_ky 26 = 1 := ⟨rfl, rfl, by rw [ab_mtL]; decide, by decide, rfl⟩
theorem hm27 : ab_sta 27 = false ∧ ab_na 27 = 1 ∧ 27 < ab_mtA.length ∧ (ab_mr 27).1.1.name ≠ "<init>" ∧ ab_ky 27 = 1 := ⟨rfl, rfl, by rw [ab_mtL]; decide, by decide, rfl⟩
theorem hm28 : ab_sta 28 = false ∧ ab_na 28 = 2 ∧ 28 < ab_mtA.length ∧ (ab_mr 28).1.1.name ≠ "<init>" ∧ ab_ky 28 = 1 := ⟨rfl, rfl, by rw [ab_mtL]; decide, by decide, rfl⟩
theorem hm29 : ab_sta 29 = false ∧ ab_na 29 = 1 ∧ 29 < ab_mtA.length ∧ (ab_mr 29).1.1.name ≠ "<init>" ∧ ab_ky 29 = 1 := ⟨rfl, rfl, by rw [ab_mtL]; decide, by decide, rfl⟩
theorem hm30 : ab_sta 30 = false ∧ ab_na 30 = 1 ∧ 30 < ab_mtA.length ∧ (ab_mr 30).1.1.name ≠ "<init>" ∧ ab_ky 30 = 1 := ⟨rfl, rfl, by rw [ab_mtL]; decide, by decide, rfl⟩
theorem hm31 : ab_sta 31 = false ∧ ab_na 31 = 1 ∧ 31 < ab_mtA.length ∧ (ab_mr 31).1.1.name ≠ "<init>" ∧ ab_ky 31 = 1 := ⟨rfl, rfl, by rw [ab_mtL]; decide, by decide, rfl⟩
theorem hm32 : ab_sta 32 = false ∧ ab_na 32 = 0 ∧ 32 < ab_mtA.length ∧ (ab_mr 32).1.1.name ≠ "<init>" ∧ ab_ky 32 = 1 := ⟨rfl, rfl, by rw [ab_mtL]; decide, by decide, rfl⟩
theorem hm33 : ab_sta 33 = false ∧ ab_na 33 = 0 ∧ 33 < ab_mtA.length ∧ (ab_mr 33).1.1.name ≠ "<init>" ∧ ab_ky 33 = 1 := ⟨rfl, rfl, by rw [ab_mtL]; decide, by decide, rfl⟩
theorem hm35 : ab_sta 35 = false ∧ ab_na 35 = 5 ∧ 35 < ab_mtA.length ∧ (ab_mr 35).1.1.name ≠ "<init>" ∧ ab_ky 35 = 2 := ⟨rfl, rfl, by rw [ab_mtL]; decide, by decide, rfl⟩
theorem hm38 : ab_sta 38 = false ∧ ab_na 38 = 1 ∧ 38 < ab_mtA.length ∧ (ab_mr 38).1.1.name ≠ "<init>" ∧ ab_ky 38 = 4 := ⟨rfl, rfl, by rw [ab_mtL]; decide, by decide, rfl⟩
theorem hm39 : ab_sta 39 = false ∧ ab_na 39 = 0 ∧ 39 < ab_mtA.length ∧ (ab_mr 39).1.1.name ≠ "<init>" ∧ ab_ky 39 = 4 := ⟨rfl, rfl, by rw [ab_mtL]; decide, by decide, rfl⟩
theorem hm40 : ab_sta 40 = false ∧ ab_na 40 = 0 ∧ 40 < ab_mtA.length ∧ (ab_mr 40).1.1.name ≠ "<init>" ∧ ab_ky 40 = 4 := ⟨rfl, rfl, by rw [ab_mtL]; decide, by decide, rfl⟩
theorem hm41 : ab_sta 41 = false ∧ ab_na 41 = 1 ∧ 41 < ab_mtA.length ∧ (ab_mr 41).1.1.name ≠ "<init>" ∧ ab_ky 41 = 4 := ⟨rfl, rfl, by rw [ab_mtL]; decide, by decide, rfl⟩
theorem hm42 : ab_sta 42 = false ∧ ab_na 42 = 3 ∧ 42 < ab_mtA.length ∧ (ab_mr 42).1.1.name ≠ "<init>" ∧ ab_ky 42 = 4 := ⟨rfl, rfl, by rw [ab_mtL]; decide, by decide, rfl⟩
theorem hm43 : ab_sta 43 = false ∧ ab_na 43 = 1 ∧ 43 < ab_mtA.length ∧ (ab_mr 43).1.1.name ≠ "<init>" ∧ ab_ky 43 = 4 := ⟨rfl, rfl, by rw [ab_mtL]; decide, by decide, rfl⟩
theorem hm44 : ab_sta 44 = false ∧ ab_na 44 = 1 ∧ 44 < ab_mtA.length ∧ (ab_mr 44).1.1.name ≠ "<init>" ∧ ab_ky 44 = 4 := ⟨rfl, rfl, by rw [ab_mtL]; decide, by decide, rfl⟩
theorem hm45 : ab_sta 45 = false ∧ ab_na 45 = 1 ∧ 45 < ab_mtA.length ∧ (ab_mr 45).1.1.name ≠ "<init>" ∧ ab_ky 45 = 4 := ⟨rfl, rfl, by rw [ab_mtL]; decide, by decide, rfl⟩
theorem hm47 : ab_sta 47 = false ∧ ab_na 47 = 0 ∧ 47 < ab_mtA.length ∧ (ab_mr 47).1.1.name ≠ "<init>" ∧ ab_ky 47 = 5 := ⟨rfl, rfl, by rw [ab_mtL]; decide, by decide, rfl⟩
theorem hm48 : ab_sta 48 = true ∧ ab_na 48 = 3 ∧ 48 < ab_mtA.length := ⟨rfl, rfl, by rw [ab_mtL]; decide⟩
theorem hm49 : ab_sta 49 = false ∧ ab_na 49 = 1 ∧ 49 < ab_mtA.length ∧ (ab_mr 49).1.1.name ≠ "<init>" ∧ ab_ky 49 = 5 := ⟨rfl, rfl, by rw [ab_mtL]; decide, by decide, rfl⟩
theorem hm50 : ab_sta 50 = false ∧ ab_na 50 = 0 ∧ 50 < ab_mtA.length ∧ (ab_mr 50).1.1.name ≠ "<init>" ∧ ab_ky 50 = 5 := ⟨rfl, rfl, by rw [ab_mtL]; decide, by decide, rfl⟩
theorem hm53 : ab_sta 53 = false ∧ ab_na 53 = 0 ∧ 53 < ab_mtA.length ∧ (ab_mr 53).1.1.name ≠ "<init>" ∧ ab_ky 53 = 7 := ⟨rfl, rfl, by rw [ab_mtL]; decide, by decide, rfl⟩
theorem hm54 : ab_sta 54 = false ∧ ab_na 54 = 0 ∧ 54 < ab_mtA.length ∧ (ab_mr 54).1.1.name ≠ "<init>" ∧ ab_ky 54 = 7 := ⟨rfl, rfl, by rw [ab_mtL]; decide, by decide, rfl⟩
theorem hm56 : ab_sta 56 = false ∧ ab_na 56 = 2 ∧ 56 < ab_mtA.length ∧ (ab_mr 56).1.1.name ≠ "<init>" ∧ ab_ky 56 = 8 := ⟨rfl, rfl, by rw [ab_mtL]; decide, by decide, rfl⟩
theorem hm57 : ab_sta 57 = false ∧ ab_na 57 = 2 ∧ 57 < ab_mtA.length ∧ (ab_mr 57).1.1.name ≠ "<init>" ∧ ab_ky 57 = 8 := ⟨rfl, rfl, by rw [ab_mtL]; decide, by decide, rfl⟩
theorem hm58 : ab_sta 58 = false ∧ ab_na 58 = 2 ∧ 58 < ab_mtA.length ∧ (ab_mr 58).1.1.name ≠ "<init>" ∧ ab_ky 58 = 8 := ⟨rfl, rfl, by rw [ab_mtL]; decide, by decide, rfl⟩
theorem hm60 : ab_sta 60 = false ∧ ab_na 60 = 0 ∧ 60 < ab_mtA.length ∧ (ab_mr 60).1.1.name ≠ "<init>" ∧ ab_ky 60 = 9 := ⟨rfl, rfl, by rw [ab_mtL]; decide, by decide, rfl⟩
theorem hm61 : ab_sta 61 = false ∧ ab_na 61 = 0 ∧ 61 < ab_mtA.length ∧ (ab_mr 61).1.1.name ≠ "<init>" ∧ ab_ky 61 = 9 := ⟨rfl, rfl, by rw [ab_mtL]; decide, by decide, rfl⟩
theorem hm62 : ab_sta 62 = false ∧ ab_na 62 = 0 ∧ 62 < ab_mtA.length ∧ (ab_mr 62).1.1.name ≠ "<init>" ∧ ab_ky 62 = 9 := ⟨rfl, rfl, by rw [ab_mtL]; decide, by decide, rfl⟩
theorem hm63 : ab_sta 63 = false ∧ ab_na 63 = 1 ∧ 63 < ab_mtA.length ∧ (ab_mr 63).1.1.name ≠ "<init>" ∧ ab_ky 63 = 9 := ⟨rfl, rfl, by rw [ab_mtL]; decide, by decide, rfl⟩
theorem hm64 : ab_sta 64 = false ∧ ab_na 64 = 0 ∧ 64 < ab_mtA.length ∧ (ab_mr 64).1.1.name ≠ "<init>" ∧ ab_ky 64 = 9 := ⟨rfl, rfl, by rw [ab_mtL]; decide, by decide, rfl⟩
theorem hm65 : ab_sta 65 = false ∧ ab_na 65 = 0 ∧ 65 < ab_mtA.length ∧ (ab_mr 65).1.1.name ≠ "<init>" ∧ ab_ky 65 = 9 := ⟨rfl, rfl, by rw [ab_mtL]; decide, by decide, rfl⟩
theorem hm66 : ab_sta 66 = false ∧ ab_na 66 = 2 ∧ 66 < ab_mtA.length ∧ (ab_mr 66).1.1.name ≠ "<init>" ∧ ab_ky 66 = 9 := ⟨rfl, rfl, by rw [ab_mtL]; decide, by decide, rfl⟩
theorem hm67 : ab_sta 67 = false ∧ ab_na 67 = 0 ∧ 67 < ab_mtA.length ∧ (ab_mr 67).1.1.name ≠ "<init>" ∧ ab_ky 67 = 9 := ⟨rfl, rfl, by rw [ab_mtL]; decide, by decide, rfl⟩
theorem hm68 : ab_sta 68 = false ∧ ab_na 68 = 1 ∧ 68 < ab_mtA.length ∧ (ab_mr 68).1.1.name ≠ "<init>" ∧ ab_ky 68 = 9 := ⟨rfl, rfl, by rw [ab_mtL]; decide, by decide, rfl⟩
theorem hm70 : ab_sta 70 = false ∧ ab_na 70 = 1 ∧ 70 < ab_mtA.length ∧ (ab_mr 70).1.1.name ≠ "<init>" ∧ ab_ky 70 = 10 := ⟨rfl, rfl, by rw [ab_mtL]; decide, by decide, rfl⟩
theorem hm71 : ab_sta 71 = false ∧ ab_na 71 = 1 ∧ 71 < ab_mtA.length ∧ (ab_mr 71).1.1.name ≠ "<init>" ∧ ab_ky 71 = 10 := ⟨rfl, rfl, by rw [ab_mtL]; decide, by decide, rfl⟩
theorem hm72 : ab_sta 72 = false ∧ ab_na 72 = 0 ∧ 72 < ab_mtA.length ∧ (ab_mr 72).1.1.name ≠ "<init>" ∧ ab_ky 72 = 10 := ⟨rfl, rfl, by rw [ab_mtL]; decide, by decide, rfl⟩
theorem hm73 : ab_sta 73 = false ∧ ab_na 73 = 0 ∧ 73 < ab_mtA.length ∧ (ab_mr 73).1.1.name ≠ "<init>" ∧ ab_ky 73 = 10 := ⟨rfl, rfl, by rw [ab_mtL]; decide, by decide, rfl⟩
theorem hm74 : ab_sta 74 = false ∧ ab_na 74 = 0 ∧ 74 < ab_mtA.length ∧ (ab_mr 74).1.1.name ≠ "<init>" ∧ ab_ky 74 = 10 := ⟨rfl, rfl, by rw [ab_mtL]; decide, by decide, rfl⟩
theorem hm75 : ab_sta 75 = true ∧ ab_na 75 = 1 ∧ 75 < ab_mtA.length := ⟨rfl, rfl, by rw [ab_mtL]; decide⟩
theorem hm76 : ab_sta 76 = true ∧ ab_na 76 = 1 ∧ 76 < ab_mtA.length := ⟨rfl, rfl, by rw [ab_mtL]; decide⟩
theorem hm77 : ab_sta 77 = false ∧ ab_na 77 = 1 ∧ 77 < ab_mtA.length ∧ (ab_mr 77).1.1.name ≠ "<init>" ∧ ab_ky 77 = 10 := ⟨rfl, rfl, by rw [ab_mtL]; decide, by decide, rfl⟩
theorem hm79 : ab_sta 79 = false ∧ ab_na 79 = 1 ∧ 79 < ab_mtA.length ∧ (ab_mr 79).1.1.name ≠ "<init>" ∧ ab_ky 79 = 11 := ⟨rfl, rfl, by rw [ab_mtL]; decide, by decide, rfl⟩
theorem hm80 : ab_sta 80 = false ∧ ab_na 80 = 1 ∧ 80 < ab_mtA.length ∧ (ab_mr 80).1.1.name ≠ "<init>" ∧ ab_ky 80 = 11 := ⟨rfl, rfl, by rw [ab_mtL]; decide, by decide, rfl⟩
theorem hm81 : ab_sta 81 = false ∧ ab_na 81 = 0 ∧ 81 < ab_mtA.length ∧ (ab_mr 81).1.1.name ≠ "<init>" ∧ ab_ky 81 = 11 := ⟨rfl, rfl, by rw [ab_mtL]; decide, by decide, rfl⟩
theorem hm82 : ab_sta 82 = false ∧ ab_na 82 = 0 ∧ 82 < ab_mtA.length ∧ (ab_mr 82).1.1.name ≠ "<init>" ∧ ab_ky 82 = 11 := ⟨rfl, rfl, by rw [ab_mtL]; decide, by decide, rfl⟩
theorem hm83 : ab_sta 83 = false ∧ ab_na 83 = 2 ∧ 83 < ab_mtA.length ∧ (ab_mr 83).1.1.name ≠ "<init>" ∧ ab_ky 83 = 11 := ⟨rfl, rfl, by rw [ab_mtL]; decide, by decide, rfl⟩
theorem hm84 : ab_sta 84 = false ∧ ab_na 84 = 3 ∧ 84 < ab_mtA.length ∧ (ab_mr 84).1.1.name ≠ "<init>" ∧ ab_ky 84 = 11 := ⟨rfl, rfl, by rw [ab_mtL]; decide, by decide, rfl⟩
theorem hm85 : ab_sta 85 = false ∧ ab_na 85 = 3 ∧ 85 < ab_mtA.length ∧ (ab_mr 85).1.1.name ≠ "<init>" ∧ ab_ky 85 = 11 := ⟨rfl, rfl, by rw [ab_mtL]; decide, by decide, rfl⟩
theorem hm86 : ab_sta 86 = false ∧ ab_na 86 = 4 ∧ 86 < ab_mtA.length ∧ (ab_mr 86).1.1.name ≠ "<init>" ∧ ab_ky 86 = 11 := ⟨rfl, rfl, by rw [ab_mtL]; decide, by decide, rfl⟩
theorem hm87 : ab_sta 87 = false ∧ ab_na 87 = 4 ∧ 87 < ab_mtA.length ∧ (ab_mr 87).1.1.name ≠ "<init>" ∧ ab_ky 87 = 11 := ⟨rfl, rfl, by rw [ab_mtL]; decide, by decide, rfl⟩
theorem hm88 : ab_sta 88 = false ∧ ab_na 88 = 2 ∧ 88 < ab_mtA.length ∧ (ab_mr 88).1.1.name ≠ "<init>" ∧ ab_ky 88 = 11 := ⟨rfl, rfl, by rw [ab_mtL]; decide, by decide, rfl⟩
theorem hm89 : ab_sta 89 = false ∧ ab_na 89 = 1 ∧ 89 < ab_mtA.length ∧ (ab_mr 89).1.1.name ≠ "<init>" ∧ ab_ky 89 = 11 := ⟨rfl, rfl, by rw [ab_mtL]; decide, by decide, rfl⟩
theorem hm90 : ab_sta 90 = false ∧ ab_na 90 = 1 ∧ 90 < ab_mtA.length ∧ (ab_mr 90).1.1.name ≠ "<init>" ∧ ab_ky 90 = 11 := ⟨rfl, rfl, by rw [ab_mtL]; decide, by decide, rfl⟩
theorem hm91 : ab_sta 91 = false ∧ ab_na 91 = 0 ∧ 91 < ab_mtA.length ∧ (ab_mr 91).1.1.name ≠ "<init>" ∧ ab_ky 91 = 11 := ⟨rfl, rfl, by rw [ab_mtL]; decide, by decide, rfl⟩
theorem hm92 : ab_sta 92 = false ∧ ab_na 92 = 3 ∧ 92 < ab_mtA.length ∧ (ab_mr 92).1.1.name ≠ "<init>" ∧ ab_ky 92 = 11 := ⟨rfl, rfl, by rw [ab_mtL]; decide, by decide, rfl⟩
theorem hm93 : ab_sta 93 = false ∧ ab_na 93 = 0 ∧ 93 < ab_mtA.length ∧ (ab_mr 93).1.1.name ≠ "<init>" ∧ ab_ky 93 = 11 := ⟨rfl, rfl, by rw [ab_mtL]; decide, by decide, rfl⟩
theorem hm94 : ab_sta 94 = false ∧ ab_na 94 = 4 ∧ 94 < ab_mtA.length ∧ (ab_mr 94).1.1.name ≠ "<init>" ∧ ab_ky 94 = 11 := ⟨rfl, rfl, by rw [ab_mtL]; decide, by decide, rfl⟩
theorem hm95 : ab_sta 95 = false ∧ ab_na 95 = 4 ∧ 95 < ab_mtA.length ∧ (ab_mr 95).1.1.name ≠ "<init>" ∧ ab_ky 95 = 11 := ⟨rfl, rfl, by rw [ab_mtL]; decide, by decide, rfl⟩
theorem hm96 : ab_sta 96 = false ∧ ab_na 96 = 2 ∧ 96 < ab_mtA.length ∧ (ab_mr 96).1.1.name ≠ "<init>" ∧ ab_ky 96 = 11 := ⟨rfl, rfl, by rw [ab_mtL]; decide, by decide, rfl⟩
theorem hm97 : ab_sta 97 = false ∧ ab_na 97 = 4 ∧ 97 < ab_mtA.length ∧ (ab_mr 97).1.1.name ≠ "<init>" ∧ ab_ky 97 = 11 := ⟨rfl, rfl, by rw [ab_mtL]; decide, by decide, rfl⟩
theorem hm98 : ab_sta 98 = false ∧ ab_na 98 = 2 ∧ 98 < ab_mtA.length ∧ (ab_mr 98).1.1.name ≠ "<init>" ∧ ab_ky 98 = 11 := ⟨rfl, rfl, by rw [ab_mtL]; decide, by decide, rfl⟩
theorem hm99 : ab_sta 99 = false ∧ ab_na 99 = 4 ∧ 99 < ab_mtA.length ∧ (ab_mr 99).1.1.name ≠ "<init>" ∧ ab_ky 99 = 11 := ⟨rfl, rfl, by rw [ab_mtL]; decide, by decide, rfl⟩
theorem hm100 : ab_sta 100 = false ∧ ab_na 100 = 2 ∧ 100 < ab_mtA.length ∧ (ab_mr 100).1.1.name ≠ "<init>" ∧ ab_ky 100 = 11 := ⟨rfl, rfl, by rw [ab_mtL]; decide, by decide, rfl⟩
theorem hm101 : ab_sta 101 = false ∧ ab_na 101 = 1 ∧ 101 < ab_mtA.length ∧ (ab_mr 101).1.1.name ≠ "<init>" ∧ ab_ky 101 = 11 := ⟨rfl, rfl, by rw [ab_mtL]; decide, by decide, rfl⟩
theorem hm102 : ab_sta 102 = false ∧ ab_na 102 = 2 ∧ 102 < ab_mtA.length ∧ (ab_mr 102).1.1.name ≠ "<init>" ∧ ab_ky 102 = 11 := ⟨rfl, rfl, by rw [ab_mtL]; decide, by decide, rfl⟩
theorem hm103 : ab_sta 103 = false ∧ ab_na 103 = 3 ∧ 103 < ab_mtA.length ∧ (ab_mr 103).1.1.name ≠ "<init>" ∧ ab_ky 103 = 11 := ⟨rfl, rfl, by rw [ab_mtL]; decide, by decide, rfl⟩
theorem hm104 : ab_sta 104 = false ∧ ab_na 104 = 1 ∧ 104 < ab_mtA.length ∧ (ab_mr 104).1.1.name ≠ "<init>" ∧ ab_ky 104 = 11 := ⟨rfl, rfl, by rw [ab_mtL]; decide, by decide, rfl⟩
theorem hm105 : ab_sta 105 = false ∧ ab_na 105 = 1 ∧ 105 < ab_mtA.length ∧ (ab_mr 105).1.1.name ≠ "<init>" ∧ ab_ky 105 = 11 := ⟨rfl, rfl, by rw [ab_mtL]; decide, by decide, rfl⟩
theorem hm106 : ab_sta 106 = false ∧ ab_na 106 = 3 ∧ 106 < ab_mtA.length ∧ (ab_mr 106).1.1.name ≠ "<init>" ∧ ab_ky 106 = 11 := ⟨rfl, rfl, by rw [ab_mtL]; decide, by decide, rfl⟩
theorem hm107 : ab_sta 107 = false ∧ ab_na 107 = 3 ∧ 107 < ab_mtA.length ∧ (ab_mr 107).1.1.name ≠ "<init>" ∧ ab_ky 107 = 11 := ⟨rfl, rfl, by rw [ab_mtL]; decide, by decide, rfl⟩
theorem hm108 : ab_sta 108 = false ∧ ab_na 108 = 4 ∧ 108 < ab_mtA.length ∧ (ab_mr 108).1.1.name ≠ "<init>" ∧ ab_ky 108 = 11 := ⟨rfl, rfl, by rw [ab_mtL]; decide, by decide, rfl⟩
theorem hm109 : ab_sta 109 = false ∧ ab_na 109 = 0 ∧ 109 < ab_mtA.length ∧ (ab_mr 109).1.1.name ≠ "<init>" ∧ ab_ky 109 = 11 := ⟨rfl, rfl, by rw [ab_mtL]; decide, by decide, rfl⟩
theorem hm110 : ab_sta 110 = false ∧ ab_na 110 = 1 ∧ 110 < ab_mtA.length ∧ (ab_mr 110).1.1.name ≠ "<init>" ∧ ab_ky 110 = 11 := ⟨rfl, rfl, by rw [ab_mtL]; decide, by decide, rfl⟩
theorem hm111 : ab_sta 111 = true ∧ ab_na 111 = 2 ∧ 111 < ab_mtA.length := ⟨rfl, rfl, by rw [ab_mtL]; decide⟩
theorem hm112 : ab_sta 112 = true ∧ ab_na 112 = 2 ∧ 112 < ab_mtA.length := ⟨rfl, rfl, by rw [ab_mtL]; decide⟩
theorem hm113 : ab_sta 113 = false ∧ ab_na 113 = 2 ∧ 113 < ab_mtA.length ∧ (ab_mr 113).1.1.name ≠ "<init>" ∧ ab_ky 113 = 11 := ⟨rfl, rfl, by rw [ab_mtL]; decide, by decide, rfl⟩
theorem hm114 : ab_sta 114 = false ∧ ab_na 114 = 1 ∧ 114 < ab_mtA.length ∧ (ab_mr 114).1.1.name ≠ "<init>" ∧ ab_ky 114 = 11 := ⟨rfl, rfl, by rw [ab_mtL]; decide, by decide, rfl⟩
theorem hm115 : ab_sta 115 = false ∧ ab_na 115 = 1 ∧ 115 < ab_mtA.length ∧ (ab_mr 115).1.1.name ≠ "<init>" ∧ ab_ky 115 = 11 := ⟨rfl, rfl, by rw [ab_mtL]; decide, by decide, rfl⟩
theorem hm116 : ab_sta 116 = false ∧ ab_na 116 = 2 ∧ 116 < ab_mtA.length ∧ (ab_mr 116).1.1.name ≠ "<init>" ∧ ab_ky 116 = 11 := ⟨rfl, rfl, by rw [ab_mtL]; decide, by decide, rfl⟩
theorem hm117 : ab_sta 117 = true ∧ ab_na 117 = 3 ∧ 117 < ab_mtA.length := ⟨rfl, rfl, by rw [ab_mtL]; decide⟩
theorem hm118 : ab_sta 118 = true ∧ ab_na 118 = 2 ∧ 118 < ab_mtA.length := ⟨rfl, rfl, by rw [ab_mtL]; decide⟩
theorem hm120 : ab_sta 120 = true ∧ ab_na 120 = 3 ∧ 120 < ab_mtA.length := ⟨rfl, rfl, by rw [ab_mtL]; decide⟩
theorem hm121 : ab_sta 121 = false ∧ ab_na 121 = 0 ∧ 121 < ab_mtA.length ∧ (ab_mr 121).1.1.name ≠ "<init>" ∧ ab_ky 121 = 12 := ⟨rfl, rfl, by rw [ab_mtL]; decide, by decide, rfl⟩
theorem hm122 : ab_sta 122 = false ∧ ab_na 122 = 1 ∧ 122 < ab_mtA.length ∧ (ab_mr 122).1.1.name ≠ "<init>" ∧ ab_ky 122 = 12 := ⟨rfl, rfl, by rw [ab_mtL]; decide, by decide, rfl⟩
theorem hm123 : ab_sta 123 = false ∧ ab_na 123 = 1 ∧ 123 < ab_mtA.length ∧ (ab_mr 123).1.1.name ≠ "<init>" ∧ ab_ky 123 = 12 := ⟨rfl, rfl, by rw [ab_mtL]; decide, by decide, rfl⟩
theorem hm124 : ab_sta 124 = false ∧ ab_na 124 = 1 ∧ 124 < ab_mtA.length ∧ (ab_mr 124).1.1.name ≠ "<init>" ∧ ab_ky 124 = 12 := ⟨rfl, rfl, by rw [ab_mtL]; decide, by decide, rfl⟩
theorem hm125 : ab_sta 125 = false ∧ ab_na 125 = 1 ∧ 125 < ab_mtA.length ∧ (ab_mr 125).1.1.name ≠ "<init>" ∧ ab_ky 125 = 12 := ⟨rfl, rfl, by rw [ab_mtL]; decide, by decide, rfl⟩
theorem hm126 : ab_sta 126 = false ∧ ab_na 126 = 0 ∧ 126 < ab_mtA.length ∧ (ab_mr 126).1.1.name ≠ "<init>" ∧ ab_ky 126 = 12 := ⟨rfl, rfl, by rw [ab_mtL]; decide, by decide, rfl⟩
theorem hm127 : ab_sta 127 = false ∧ ab_na 127 = 0 ∧ 127 < ab_mtA.length ∧ (ab_mr 127).1.1.name ≠ "<init>" ∧ ab_ky 127 = 12 := ⟨rfl, rfl, by rw [ab_mtL]; decide, by decide, rfl⟩
theorem hm128 : ab_sta 128 = false ∧ ab_na 128 = 2 ∧ 128 < ab_mtA.length ∧ (ab_mr 128).1.1.name ≠ "<init>" ∧ ab_ky 128 = 12 := ⟨rfl, rfl, by rw [ab_mtL]; decide, by decide, rfl⟩
theorem hm129 : ab_sta 129 = false ∧ ab_na 129 = 2 ∧ 129 < ab_mtA.length ∧ (ab_mr 129).1.1.name ≠ "<init>" ∧ ab_ky 129 = 12 := ⟨rfl, rfl, by rw [ab_mtL]; decide, by decide, rfl⟩
theorem hm130 : ab_sta 130 = false ∧ ab_na 130 = 0 ∧ 130 < ab_mtA.length ∧ (ab_mr 130).1.1.name ≠ "<init>" ∧ ab_ky 130 = 12 := ⟨rfl, rfl, by rw [ab_mtL]; decide, by decide, rfl⟩
theorem hm131 : ab_sta 131 = false ∧ ab_na 131 = 0 ∧ 131 < ab_mtA.length ∧ (ab_mr 131).1.1.name ≠ "<init>" ∧ ab_ky 131 = 12 := ⟨rfl, rfl, by rw [ab_mtL]; decide, by decide, rfl⟩
theorem hm132 : ab_sta 132 = false ∧ ab_na 132 = 0 ∧ 132 < ab_mtA.length ∧ (ab_mr 132).1.1.name ≠ "<init>" ∧ ab_ky 132 = 12 := ⟨rfl, rfl, by rw [ab_mtL]; decide, by decide, rfl⟩
theorem hm133 : ab_sta 133 = false ∧ ab_na 133 = 0 ∧ 133 < ab_mtA.length ∧ (ab_mr 133).1.1.name ≠ "<init>" ∧ ab_ky 133 = 12 := ⟨rfl, rfl, by rw [ab_mtL]; decide, by decide, rfl⟩
theorem hm134 : ab_sta 134 = false ∧ ab_na 134 = 1 ∧ 134 < ab_mtA.length ∧ (ab_mr 134).1.1.name ≠ "<init>" ∧ ab_ky 134 = 12 := ⟨rfl, rfl, by rw [ab_mtL]; decide, by decide, rfl⟩
theorem hm135 : ab_sta 135 = false ∧ ab_na 135 = 2 ∧ 135 < ab_mtA.length ∧ (ab_mr 135).1.1.name ≠ "<init>" ∧ ab_ky 135 = 12 := ⟨rfl, rfl, by rw [ab_mtL]; decide, by decide, rfl⟩
theorem hm136 : ab_sta 136 = false ∧ ab_na 136 = 2 ∧ 136 < ab_mtA.length ∧ (ab_mr 136).1.1.name ≠ "<init>" ∧ ab_ky 136 = 12 := ⟨rfl, rfl, by rw [ab_mtL]; decide, by decide, rfl⟩
theorem hm137 : ab_sta 137 = false ∧ ab_na 137 = 3 ∧ 137 < ab_mtA.length ∧ (ab_mr 137).1.1.name ≠ "<init>" ∧ ab_ky 137 = 12 := ⟨rfl, rfl, by rw [ab_mtL]; decide, by decide, rfl⟩
theorem hm138 : ab_sta 138 = false ∧ ab_na 138 = 3 ∧ 138 < ab_mtA.length ∧ (ab_mr 138).1.1.name ≠ "<init>" ∧ ab_ky 138 = 12 := ⟨rfl, rfl, by rw [ab_mtL]; decide, by decide, rfl⟩
theorem hm139 : ab_sta 139 = false ∧ ab_na 139 = 1 ∧ 139 < ab_mtA.length ∧ (ab_mr 139).1.1.name ≠ "<init>" ∧ ab_ky 139 = 12 := ⟨rfl, rfl, by rw [ab_mtL]; decide, by decide, rfl⟩
theorem hm140 : ab_sta 140 = true ∧ ab_na 140 = 1 ∧ 140 < ab_mtA.length := ⟨rfl, rfl, by rw [ab_mtL]; decide⟩
theorem hm141 : ab_sta 141 = false ∧ ab_na 141 = 1 ∧ 141 < ab_mtA.length ∧ (ab_mr 141).1.1.name ≠ "<init>" ∧ ab_ky 141 = 12 := ⟨rfl, rfl, by rw [ab_mtL]; decide, by decide, rfl⟩
theorem hm142 : ab_sta 142 = false ∧ ab_na 142 = 0 ∧ 142 < ab_mtA.length ∧ (ab_mr 142).1.1.name ≠ "<init>" ∧ ab_ky 142 = 12 := ⟨rfl, rfl, by rw [ab_mtL]; decide, by decide, rfl⟩
theorem hm143 : ab_sta 143 = false ∧ ab_na 143 = 1 ∧ 143 < ab_mtA.length ∧ (ab_mr 143).1.1.name ≠ "<init>" ∧ ab_ky 143 = 12 := ⟨rfl, rfl, by rw [ab_mtL]; decide, by decide, rfl⟩
theorem hm144 : ab_sta 144 = false ∧ ab_na 144 = 1 ∧ 144 < ab_mtA.length ∧ (ab_mr 144).1.1.name ≠ "<init>" ∧ ab_ky 144 = 12 := ⟨rfl, rfl, by rw [ab_mtL]; decide, by decide, rfl⟩
theorem hm145 : ab_sta 145 = false ∧ ab_na 145 = 0 ∧ 145 < ab_mtA.length ∧ (ab_mr 145).1.1.name ≠ "<init>" ∧ ab_ky 145 = 12 := ⟨rfl, rfl, by rw [ab_mtL]; decide, by decide, rfl⟩
theorem hm146 : ab_sta 146 = false ∧ ab_na 146 = 0 ∧ 146 < ab_mtA.length ∧ (ab_mr 146).1.1.name ≠ "<init>" ∧ ab_ky 146 = 12 := ⟨rfl, rfl, by rw [ab_mtL]; decide, by decide, rfl⟩
theorem hm147 : ab_sta 147 = true ∧ ab_na 147 = 1 ∧ 147 < ab_mtA.length := ⟨rfl, rfl, by rw [ab_mtL]; decide⟩
theorem hm148 : ab_sta 148 = false ∧ ab_na 148 = 1 ∧ 148 < ab_mtA.length ∧ (ab_mr 148).1.1.name ≠ "<init>" ∧ ab_ky 148 = 12 := ⟨rfl, rfl, by rw [ab_mtL]; decide, by decide, rfl⟩
theorem hm149 : ab_sta 149 = false ∧ ab_na 149 = 1 ∧ 149 < ab_mtA.length ∧ (ab_mr 149).1.1.name ≠ "<init>" ∧ ab_ky 149 = 12 := ⟨rfl, rfl, by rw [ab_mtL]; decide, by decide, rfl⟩
theorem hm150 : ab_sta 150 = false ∧ ab_na 150 = 1 ∧ 150 < ab_mtA.length ∧ (ab_mr 150).1.1.name ≠ "<init>" ∧ ab_ky 150 = 12 := ⟨rfl, rfl, by rw [ab_mtL]; decide, by decide, rfl⟩
theorem hm151 : ab_sta 151 = false ∧ ab_na 151 = 1 ∧ 151 < ab_mtA.length ∧ (ab_mr 151).1.1.name ≠ "<init>" ∧ ab_ky 151 = 12 := ⟨rfl, rfl, by rw [ab_mtL]; decide, by decide, rfl⟩
theorem hm152 : ab_sta 152 = false ∧ ab_na 152 = 2 ∧ 152 < ab_mtA.length ∧ (ab_mr 152).1.1.name ≠ "<init>" ∧ ab_ky 152 = 12 := ⟨rfl, rfl, by rw [ab_mtL]; decide, by decide, rfl⟩
theorem hm153 : ab_sta 153 = false ∧ ab_na 153 = 2 ∧ 153 < ab_mtA.length ∧ (ab_mr 153).1.1.name ≠ "<init>" ∧ ab_ky 153 = 12 := ⟨rfl, rfl, by rw [ab_mtL]; decide, by decide, rfl⟩
theorem hm154 : ab_sta 154 = false ∧ ab_na 154 = 4 ∧ 154 < ab_mtA.length ∧ (ab_mr 154).1.1.name ≠ "<init>" ∧ ab_ky 154 = 12 := ⟨rfl, rfl, by rw [ab_mtL]; decide, by decide, rfl⟩
theorem hm155 : ab_sta 155 = false ∧ ab_na 155 = 0 ∧ 155 < ab_mtA.length ∧ (ab_mr 155).1.1.name ≠ "<init>" ∧ ab_ky 155 = 12 := ⟨rfl, rfl, by rw [ab_mtL]; decide, by decide, rfl⟩
theorem hm156 : ab_sta 156 = false ∧ ab_na 156 = 2 ∧ 156 < ab_mtA.length ∧ (ab_mr 156).1.1.name ≠ "<init>" ∧ ab_ky 156 = 12 := ⟨rfl, rfl, by rw [ab_mtL]; decide, by decide, rfl⟩
theorem hm157 : ab_sta 157 = false ∧ ab_na 157 = 2 ∧ 157 < ab_mtA.length ∧ (ab_mr 157).1.1.name ≠ "<init>" ∧ ab_ky 157 = 12 := ⟨rfl, rfl, by rw [ab_mtL]; decide, by decide, rfl⟩
theorem hm158 : ab_sta 158 = false ∧ ab_na 158 = 1 ∧ 158 < ab_mtA.length ∧ (ab_mr 158).1.1.name ≠ "<init>" ∧ ab_ky 158 = 12 := ⟨rfl, rfl, by rw [ab_mtL]; decide, by decide, rfl⟩
theorem hm159 : ab_sta 159 = false ∧ ab_na 159 = 2 ∧ 159 < ab_mtA.length ∧ (ab_mr 159).1.1.name ≠ "<init>" ∧ ab_ky 159 = 12 := ⟨rfl, rfl, by rw [ab_mtL]; decide, by decide, rfl⟩
theorem hm160 : ab_sta 160 = true ∧ ab_na 160 = 1 ∧ 160 < ab_mtA.length := ⟨rfl, rfl, by rw [ab_mtL]; decide⟩
theorem hm161 : ab_sta 161 = false ∧ ab_na 161 = 0 ∧ 161 < ab_mtA.length ∧ (ab_mr 161).1.1.name ≠ "<init>" ∧ ab_ky 161 = 12 := ⟨rfl, rfl, by rw [ab_mtL]; decide, by decide, rfl⟩
theorem hm162 : ab_sta 162 = false ∧ ab_na 162 = 0 ∧ 162 < ab_mtA.length ∧ (ab_mr 162).1.1.name ≠ "<init>" ∧ ab_ky 162 = 12 := ⟨rfl, rfl, by rw [ab_mtL]; decide, by decide, rfl⟩
theorem hm163 : ab_sta 163 = false ∧ ab_na 163 = 3 ∧ 163 < ab_mtA.length ∧ (ab_mr 163).1.1.name ≠ "<init>" ∧ ab_ky 163 = 12 := ⟨rfl, rfl, by rw [ab_mtL]; decide, by decide, rfl⟩
theorem hm164 : ab_sta 164 = false ∧ ab_na 164 = 4 ∧ 164 < ab_mtA.length ∧ (ab_mr 164).1.1.name ≠ "<init>" ∧ ab_ky 164 = 12 := ⟨rfl, rfl, by rw [ab_mtL]; decide, by decide, rfl⟩
theorem hm165 : ab_sta 165 = false ∧ ab_na 165 = 4 ∧ 165 < ab_mtA.length ∧ (ab_mr 165).1.1.name ≠ "<init>" ∧ ab_ky 165 = 12 := ⟨rfl, rfl, by rw [ab_mtL]; decide, by decide, rfl⟩
theorem hm166 : ab_sta 166 = false ∧ ab_na 166 = 2 ∧ 166 < ab_mtA.length ∧ (ab_mr 166).1.1.name ≠ "<init>" ∧ ab_ky 166 = 12 := ⟨rfl, rfl, by rw [ab_mtL]; decide, by decide, rfl⟩
theorem hm167 : ab_sta 167 = false ∧ ab_na 167 = 0 ∧ 167 < ab_mtA.length ∧ (ab_mr 167).1.1.name ≠ "<init>" ∧ ab_ky 167 = 12 := ⟨rfl, rfl, by rw [ab_mtL]; decide, by decide, rfl⟩
theorem hm168 : ab_sta 168 = false ∧ ab_na 168 = 0 ∧ 168 < ab_mtA.length ∧ (ab_mr 168).1.1.name ≠ "<init>" ∧ ab_ky 168 = 12 := ⟨rfl, rfl, by rw [ab_mtL]; decide, by decide, rfl⟩
theorem hm169 : ab_sta 169 = false ∧ ab_na 169 = 0 ∧ 169 < ab_mtA.length ∧ (ab_mr 169).1.1.name ≠ "<init>" ∧ ab_ky 169 = 12 := ⟨rfl, rfl, by rw [ab_mtL]; decide, by decide, rfl⟩
theorem hm170 : ab_sta 170 = false ∧ ab_na 170 = 0 ∧ 170 < ab_mtA.length ∧ (ab_mr 170).1.1.name ≠ "<init>" ∧ ab_ky 170 = 12 := ⟨rfl, rfl, by rw [ab_mtL]; decide, by decide, rfl⟩
theorem hm171 : ab_sta 171 = false ∧ ab_na 171 = 1 ∧ 171 < ab_mtA.length ∧ (ab_mr 171).1.1.name ≠ "<init>" ∧ ab_ky 171 = 12 := ⟨rfl, rfl, by rw [ab_mtL]; decide, by decide, rfl⟩
theorem hm172 : ab_sta 172 = false ∧ ab_na 172 = 1 ∧ 172 < ab_mtA.length ∧ (ab_mr 172).1.1.name ≠ "<init>" ∧ ab_ky 172 = 12 := ⟨rfl, rfl, by rw [ab_mtL]; decide, by decide, rfl⟩
theorem hm173 : ab_sta 173 = false ∧ ab_na 173 = 0 ∧ 173 < ab_mtA.length ∧ (ab_mr 173).1.1.name ≠ "<init>" ∧ ab_ky 173 = 12 := ⟨rfl, rfl, by rw [ab_mtL]; decide, by decide, rfl⟩
theorem hm174 : ab_sta 174 = false ∧ ab_na 174 = 3 ∧ 174 < ab_mtA.length ∧ (ab_mr 174).1.1.name ≠ "<init>" ∧ ab_ky 174 = 12 := ⟨rfl, rfl, by rw [ab_mtL]; decide, by decide, rfl⟩
theorem hm175 : ab_sta 175 = false ∧ ab_na 175 = 0 ∧ 175 < ab_mtA.length ∧ (ab_mr 175).1.1.name ≠ "<init>" ∧ ab_ky 175 = 12 := ⟨rfl, rfl, by rw [ab_mtL]; decide, by decide, rfl⟩
theorem hm176 : ab_sta 176 = false ∧ ab_na 176 = 6 ∧ 176 < ab_mtA.length ∧ (ab_mr 176).1.1.name ≠ "<init>" ∧ ab_ky 176 = 12 := ⟨rfl, rfl, by rw [ab_mtL]; decide, by decide, rfl⟩
theorem hm177 : ab_sta 177 = false ∧ ab_na 177 = 4 ∧ 177 < ab_mtA.length ∧ (ab_mr 177).1.1.name ≠ "<init>" ∧ ab_ky 177 = 12 := ⟨rfl, rfl, by rw [ab_mtL]; decide, by decide, rfl⟩
theorem hm178 : ab_sta 178 = false ∧ ab_na 178 = 4 ∧ 178 < ab_mtA.length ∧ (ab_mr 178).1.1.name ≠ "<init>" ∧ ab_ky 178 = 12 := ⟨rfl, rfl, by rw [ab_mtL]; decide, by decide, rfl⟩
theorem hm179 : ab_sta 179 = false ∧ ab_na 179 = 2 ∧ 179 < ab_mtA.length ∧ (ab_mr 179).1.1.name ≠ "<init>" ∧ ab_ky 179 = 12 := ⟨rfl, rfl, by rw [ab_mtL]; decide, by decide, rfl⟩
theorem hm180 : ab_sta 180 = true ∧ ab_na 180 = 3 ∧ 180 < ab_mtA.length := ⟨rfl, rfl, by rw [ab_mtL]; decide⟩
theorem hm181 : ab_sta 181 = false ∧ ab_na 181 = 4 ∧ 181 < ab_mtA.length ∧ (ab_mr 181).1.1.name ≠ "<init>" ∧ ab_ky 181 = 12 := ⟨rfl, rfl, by rw [ab_mtL]; decide, by decide, rfl⟩
theorem hm182 : ab_sta 182 = false ∧ ab_na 182 = 2 ∧ 182 < ab_mtA.length ∧ (ab_mr 182).1.1.name ≠ "<init>" ∧ ab_ky 182 = 12 := ⟨rfl, rfl, by rw [ab_mtL]; decide, by decide, rfl⟩
theorem hm183 : ab_sta 183 = false ∧ ab_na 183 = 4 ∧ 183 < ab_mtA.length ∧ (ab_mr 183).1.1.name ≠ "<init>" ∧ ab_ky 183 = 12 := ⟨rfl, rfl, by rw [ab_mtL]; decide, by decide, rfl⟩
theorem hm184 : ab_sta 184 = false ∧ ab_na 184 = 2 ∧ 184 < ab_mtA.length ∧ (ab_mr 184).1.1.name ≠ "<init>" ∧ ab_ky 184 = 12 := ⟨rfl, rfl, by rw [ab_mtL]; decide, by decide, rfl⟩
theorem hm185 : ab_sta 185 = false ∧ ab_na 185 = 1 ∧ 185 < ab_mtA.length ∧ (ab_mr 185).1.1.name ≠ "<init>" ∧ ab_ky 185 = 12 := ⟨rfl, rfl, by rw [ab_mtL]; decide, by decide, rfl⟩
theorem hm186 : ab_sta 186 = false ∧ ab_na 186 = 1 ∧ 186 < ab_mtA.length ∧ (ab_mr 186).1.1.name ≠ "<init>" ∧ ab_ky 186 = 12 := ⟨rfl, rfl, by rw [ab_mtL]; decide, by decide, rfl⟩
theorem hm187 : ab_sta 187 = false ∧ ab_na 187 = 2 ∧ 187 < ab_mtA.length ∧ (ab_mr 187).1.1.name ≠ "<init>" ∧ ab_ky 187 = 12 := ⟨rfl, rfl, by rw [ab_mtL]; decide, by decide, rfl⟩
theorem hm188 : ab_sta 188 = false ∧ ab_na 188 = 3 ∧ 188 < ab_mtA.length ∧ (ab_mr 188).1.1.name ≠ "<init>" ∧ ab_ky 188 = 12 := ⟨rfl, rfl, by rw [ab_mtL]; decide, by decide, rfl⟩
theorem hm189 : ab_sta 189 = false ∧ ab_na 189 = 1 ∧ 189 < ab_mtA.length ∧ (ab_mr 189).1.1.name ≠ "<init>" ∧ ab_ky 189 = 12 := ⟨rfl, rfl, by rw [ab_mtL]; decide, by decide, rfl⟩
theorem hm190 : ab_sta 190 = false ∧ ab_na 190 = 1 ∧ 190 < ab_mtA.length ∧ (ab_mr 190).1.1.name ≠ "<init>" ∧ ab_ky 190 = 12 := ⟨rfl, rfl, by rw [ab_mtL]; decide, by decide, rfl⟩
theorem hm191 : ab_sta 191 = false ∧ ab_na 191 = 3 ∧ 191 < ab_mtA.length ∧ (ab_mr 191).1.1.name ≠ "<init>" ∧ ab_ky 191 = 12 := ⟨rfl, rfl, by rw [ab_mtL]; decide, by decide, rfl⟩
theorem hm192 : ab_sta 192 = false ∧ ab_na 192 = 3 ∧ 192 < ab_mtA.length ∧ (ab_mr 192).1.1.name ≠ "<init>" ∧ ab_ky 192 = 12 := ⟨rfl, rfl, by rw [ab_mtL]; decide, by decide, rfl⟩
theorem hm193 : ab_sta 193 = false ∧ ab_na 193 = 4 ∧ 193 < ab_mtA.length ∧ (ab_mr 193).1.1.name ≠ "<init>" ∧ ab_ky 193 = 12 := ⟨rfl, rfl, by rw [ab_mtL]; decide, by decide, rfl⟩
theorem hm194 : ab_sta 194 = false ∧ ab_na 194 = 0 ∧ 194 < ab_mtA.length ∧ (ab_mr 194).1.1.name ≠ "<init>" ∧ ab_ky 194 = 12 := ⟨rfl, rfl, by rw [ab_mtL]; decide, by decide, rfl⟩
theorem hm195 : ab_sta 195 = false ∧ ab_na 195 = 1 ∧ 195 < ab_mtA.length ∧ (ab_mr 195).1.1.name ≠ "<init>" ∧ ab_ky 195 = 12 := ⟨rfl, rfl, by rw [ab_mtL]; decide, by decide, rfl⟩
theorem hm196 : ab_sta 196 = true ∧ ab_na 196 = 1 ∧ 196 < ab_mtA.length := ⟨rfl, rfl, by rw [ab_mtL]; decide⟩
theorem hm197 : ab_sta 197 = false ∧ ab_na 197 = 0 ∧ 197 < ab_mtA.length ∧ (ab_mr 197).1.1.name ≠ "<init>" ∧ ab_ky 197 = 20 := ⟨rfl, rfl, by rw [ab_mtL]; decide, by decide, rfl⟩
theorem hm198 : ab_sta 198 = false ∧ ab_na 198 = 1 ∧ 198 < ab_mtA.length ∧ (ab_mr 198).1.1.name ≠ "<init>" ∧ ab_ky 198 = 20 := ⟨rfl, rfl, by rw [ab_mtL]; decide, by decide, rfl⟩
theorem hm199 : ab_sta 199 = false ∧ ab_na 199 = 0 ∧ 199 < ab_mtA.length ∧ (ab_mr 199).1.1.name ≠ "<init>" ∧ ab_ky 199 = 20 := ⟨rfl, rfl, by rw [ab_mtL]; decide, by decide, rfl⟩
theorem hm200 : ab_sta 200 = false ∧ ab_na 200 = 0 ∧ 200 < ab_mtA.length ∧ (ab_mr 200).1.1.name ≠ "<init>" ∧ ab_ky 200 = 20 := ⟨rfl, rfl, by rw [ab_mtL]; decide, by decide, rfl⟩
theorem hm201 : ab_sta 201 = true ∧ ab_na 201 = 2 ∧ 201 < ab_mtA.length := ⟨rfl, rfl, by rw [ab_mtL]; decide⟩
theorem hm202 : ab_sta 202 = true ∧ ab_na 202 = 2 ∧ 202 < ab_mtA.length := ⟨rfl, rfl, by rw [ab_mtL]; decide⟩
theorem hm203 : ab_sta 203 = true ∧ ab_na 203 = 2 ∧ 203 < ab_mtA.length := ⟨rfl, rfl, by rw [ab_mtL]; decide⟩
theorem hm204 : ab_sta 204 = true ∧ ab_na 204 = 3 ∧ 204 < ab_mtA.length := ⟨rfl, rfl, by rw [ab_mtL]; decide⟩
