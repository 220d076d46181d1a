/-! THE LAW: one turn for each call -/
def scV (scr : List Int32) (k : Nat) : Int32 := scr.getD k 0
theorem al_3000 {scr : List Int32} {M : ab_M} {k : Nat} (h : k < scr.length) (hl : scr.length ≤ 2560) : ab_ald (some scr) ab_L0 M 3000 .int (nI k) = some (scV scr k) := by
  have e : ab_inB (nI k) scr.length = true := ib_nI h (by omega)
  show (if FieldType.int = FieldType.int ∧ 1000 ≤ 3000 ∧ ab_inB (nI k) scr.length = true then some (scr.getD (nI k).toNatClampNeg 0) else none) = _
  rw [if_pos ⟨rfl, by decide, e⟩, nI_clamp (by omega)]
  rfl
theorem lg_self (a : Int64) : lg_cmp a a = 0 := by
  unfold lg_cmp
  simp
theorem s_eq (a : Int32) : (a = a) = True := by simp
section
variable {scr : List Int32} {i : Nat} {M : ab_M} {Q : ab_M → Prop}
def lwL (i : Nat) : ab_Lo := [some (.ref 3000), some (.ref 0), some (.ref 123), some (.int (nI i))]
theorem scV_at (hi : i + 5 ≤ scr.length) (hl : scr.length ≤ 2560) : ∀ k, 0 < k → k < 5 → ∀ M : ab_M, ab_ald (some scr) ab_L0 M 3000 .int (nI (i + k)) = some (scV scr (i + k)) := fun k _ h M => al_3000 (by omega) hl
def swV (x y : Int32) : Int64 := (x.toInt64 <<< ((32 : Int32).toInt64 &&& 63)) ||| (y.toInt64 &&& 4294967295)
theorem lw_0 (hi : i + 5 ≤ scr.length) (hl : scr.length ≤ 2560) (h : cokI (some scr) 79 122 [.long (swV (scV scr (i + 1)) (scV scr (i + 2)))] M Q) : ∃ M2, ab_res (some scr) 205 13 M 176 (lwL i) [] = ab_res (some scr) 205 13 M2 18 (lwL (i + 5)) [] ∧ Q M2 := by
  obtain ⟨M1, a, M2, c1, c2, q⟩ := h
  refine ⟨M2, ?_, q⟩
  have v := scV_at hi hl
  have u2 : nI i + 2 = nI (i + 2) := nI_add i 2
  have u3 : nI i + 3 = nI (i + 3) := nI_add i 3
  have u4 : nI i + 4 = nI (i + 4) := nI_add i 4
  have u5 : nI i + 5 = nI (i + 5) := nI_add i 5
  unfold lwL
  unfold swV at c1 c2
  simp only [q205_176, q205_177, q205_178, q205_179, q205_180, q205_181, q205_182, q205_183, q205_185, q205_186, q205_187, q205_188, q205_189, q205_190, q205_191, q205_192, q205_195, q205_196, q205_197, q205_200, q205_201, q205_202, q205_203, q205_204, q205_205, q205_206, q205_207, q205_209, q205_210, q205_211, q205_212, q205_213, q205_214, q205_215, q205_216, q205_219, q205_220, q205_221, q205_224, q205_227, q205_228, q205_1284, q205_1287, n10, n01, Bool.false_eq_true, ab_bs, ab_bn, ab_pr0, ab_pr1, nl_n, nl_i, nl_r, nl_j, nl_nl, rc_0, gf_0_0, gf_0_1, gf_0_2, gf_0_3, gf_0_4, gf_0_5, gf_0_6, gf_0_7, gf_0_8, gf_0_9, pt_0_9, rc_123, gf_123_0, gf_123_1, pt_123_1, gf_123_2, pt_123_2, gf_123_3, pt_123_3, gf_123_4, pt_123_4, gf_123_5, pt_123_5, gf_123_6, pt_123_6, gf_123_7, pt_123_7, gf_123_8, pt_123_8, gf_123_9, gf_123_10, gf_123_11, gf_123_12, gf_123_13, pt_123_13_0, pt_123_13_1, gf_123_14, pt_123_14_0, pt_123_14_1, gf_123_15, gf_123_16, gf_123_17, gf_123_18, gf_123_19, gf_123_20, gf_123_21, gf_123_22, gf_123_23, gf_123_24, gf_123_25, pt_123_25, gf_123_26, gf_123_27, pt_123_27, gf_123_28, pt_123_28, gf_123_29, gf_123_30, pt_123_30, gf_123_31, pt_123_31, gf_123_32, pt_123_32, gf_123_33, pt_123_33, gf_123_34, pt_123_34_0, pt_123_34_1, gf_123_35, gf_123_36, gf_123_37, gf_123_38, pt_123_38, gf_123_39, pt_123_39, gf_123_40, pt_123_40, gf_123_41, gf_123_42, gf_123_43, gf_123_44, gf_123_45, gf_123_46, gf_123_47, pt_123_47, a1, u2, u3, u4, u5, v 1 (by decide) (by decide), v 2 (by decide) (by decide), v 3 (by decide) (by decide), v 4 (by decide) (by decide), c1, c2, if_true]
theorem lw_1 (hi : i + 5 ≤ scr.length) (hl : scr.length ≤ 2560) (h : cokI (some scr) 80 123 [.int (scV scr (i + 1))] M Q) : ∃ M2, ab_res (some scr) 205 13 M 229 (lwL i) [] = ab_res (some scr) 205 13 M2 18 (lwL (i + 5)) [] ∧ Q M2 := by
  obtain ⟨M1, a, M2, c1, c2, q⟩ := h
  refine ⟨M2, ?_, q⟩
  have v := scV_at hi hl
  have u2 : nI i + 2 = nI (i + 2) := nI_add i 2
  have u3 : nI i + 3 = nI (i + 3) := nI_add i 3
  have u4 : nI i + 4 = nI (i + 4) := nI_add i 4
  have u5 : nI i + 5 = nI (i + 5) := nI_add i 5
  unfold lwL
  simp only [q205_229, q205_230, q205_231, q205_232, q205_233, q205_234, q205_235, q205_238, q205_239, q205_240, q205_241, q205_242, q205_243, q205_244, q205_247, q205_250, q205_251, q205_1284, q205_1287, n10, n01, Bool.false_eq_true, ab_bs, ab_bn, ab_pr0, ab_pr1, nl_n, nl_i, nl_r, nl_j, nl_nl, rc_0, gf_0_0, gf_0_1, gf_0_2, gf_0_3, gf_0_4, gf_0_5, gf_0_6, gf_0_7, gf_0_8, gf_0_9, pt_0_9, rc_123, gf_123_0, gf_123_1, pt_123_1, gf_123_2, pt_123_2, gf_123_3, pt_123_3, gf_123_4, pt_123_4, gf_123_5, pt_123_5, gf_123_6, pt_123_6, gf_123_7, pt_123_7, gf_123_8, pt_123_8, gf_123_9, gf_123_10, gf_123_11, gf_123_12, gf_123_13, pt_123_13_0, pt_123_13_1, gf_123_14, pt_123_14_0, pt_123_14_1, gf_123_15, gf_123_16, gf_123_17, gf_123_18, gf_123_19, gf_123_20, gf_123_21, gf_123_22, gf_123_23, gf_123_24, gf_123_25, pt_123_25, gf_123_26, gf_123_27, pt_123_27, gf_123_28, pt_123_28, gf_123_29, gf_123_30, pt_123_30, gf_123_31, pt_123_31, gf_123_32, pt_123_32, gf_123_33, pt_123_33, gf_123_34, pt_123_34_0, pt_123_34_1, gf_123_35, gf_123_36, gf_123_37, gf_123_38, pt_123_38, gf_123_39, pt_123_39, gf_123_40, pt_123_40, gf_123_41, gf_123_42, gf_123_43, gf_123_44, gf_123_45, gf_123_46, gf_123_47, pt_123_47, a1, u2, u3, u4, u5, v 1 (by decide) (by decide), v 2 (by decide) (by decide), v 3 (by decide) (by decide), v 4 (by decide) (by decide), c1, c2, if_true]
theorem lw_2 (hi : i + 5 ≤ scr.length) (hl : scr.length ≤ 2560) (h : cokI (some scr) 81 132 [] M Q) : ∃ M2, ab_res (some scr) 205 13 M 252 (lwL i) [] = ab_res (some scr) 205 13 M2 18 (lwL (i + 5)) [] ∧ Q M2 := by
  obtain ⟨M1, a, M2, c1, c2, q⟩ := h
  refine ⟨M2, ?_, q⟩
  have v := scV_at hi hl
  have u2 : nI i + 2 = nI (i + 2) := nI_add i 2
  have u3 : nI i + 3 = nI (i + 3) := nI_add i 3
  have u4 : nI i + 4 = nI (i + 4) := nI_add i 4
  have u5 : nI i + 5 = nI (i + 5) := nI_add i 5
  unfold lwL
  simp only [q205_252, q205_253, q205_256, q205_257, q205_260, q205_263, q205_264, q205_1284, q205_1287, n10, n01, Bool.false_eq_true, ab_bs, ab_bn, ab_pr0, ab_pr1, nl_n, nl_i, nl_r, nl_j, nl_nl, rc_0, gf_0_0, gf_0_1, gf_0_2, gf_0_3, gf_0_4, gf_0_5, gf_0_6, gf_0_7, gf_0_8, gf_0_9, pt_0_9, rc_123, gf_123_0, gf_123_1, pt_123_1, gf_123_2, pt_123_2, gf_123_3, pt_123_3, gf_123_4, pt_123_4, gf_123_5, pt_123_5, gf_123_6, pt_123_6, gf_123_7, pt_123_7, gf_123_8, pt_123_8, gf_123_9, gf_123_10, gf_123_11, gf_123_12, gf_123_13, pt_123_13_0, pt_123_13_1, gf_123_14, pt_123_14_0, pt_123_14_1, gf_123_15, gf_123_16, gf_123_17, gf_123_18, gf_123_19, gf_123_20, gf_123_21, gf_123_22, gf_123_23, gf_123_24, gf_123_25, pt_123_25, gf_123_26, gf_123_27, pt_123_27, gf_123_28, pt_123_28, gf_123_29, gf_123_30, pt_123_30, gf_123_31, pt_123_31, gf_123_32, pt_123_32, gf_123_33, pt_123_33, gf_123_34, pt_123_34_0, pt_123_34_1, gf_123_35, gf_123_36, gf_123_37, gf_123_38, pt_123_38, gf_123_39, pt_123_39, gf_123_40, pt_123_40, gf_123_41, gf_123_42, gf_123_43, gf_123_44, gf_123_45, gf_123_46, gf_123_47, pt_123_47, a1, u2, u3, u4, u5, v 1 (by decide) (by decide), v 2 (by decide) (by decide), v 3 (by decide) (by decide), v 4 (by decide) (by decide), c1, c2, if_true]
theorem lw_3 (hi : i + 5 ≤ scr.length) (hl : scr.length ≤ 2560) (h : cokI (some scr) 82 133 [] M Q) : ∃ M2, ab_res (some scr) 205 13 M 265 (lwL i) [] = ab_res (some scr) 205 13 M2 18 (lwL (i + 5)) [] ∧ Q M2 := by
  obtain ⟨M1, a, M2, c1, c2, q⟩ := h
  refine ⟨M2, ?_, q⟩
  have v := scV_at hi hl
  have u2 : nI i + 2 = nI (i + 2) := nI_add i 2
  have u3 : nI i + 3 = nI (i + 3) := nI_add i 3
  have u4 : nI i + 4 = nI (i + 4) := nI_add i 4
  have u5 : nI i + 5 = nI (i + 5) := nI_add i 5
  unfold lwL
  simp only [q205_265, q205_266, q205_269, q205_270, q205_273, q205_276, q205_277, q205_1284, q205_1287, n10, n01, Bool.false_eq_true, ab_bs, ab_bn, ab_pr0, ab_pr1, nl_n, nl_i, nl_r, nl_j, nl_nl, rc_0, gf_0_0, gf_0_1, gf_0_2, gf_0_3, gf_0_4, gf_0_5, gf_0_6, gf_0_7, gf_0_8, gf_0_9, pt_0_9, rc_123, gf_123_0, gf_123_1, pt_123_1, gf_123_2, pt_123_2, gf_123_3, pt_123_3, gf_123_4, pt_123_4, gf_123_5, pt_123_5, gf_123_6, pt_123_6, gf_123_7, pt_123_7, gf_123_8, pt_123_8, gf_123_9, gf_123_10, gf_123_11, gf_123_12, gf_123_13, pt_123_13_0, pt_123_13_1, gf_123_14, pt_123_14_0, pt_123_14_1, gf_123_15, gf_123_16, gf_123_17, gf_123_18, gf_123_19, gf_123_20, gf_123_21, gf_123_22, gf_123_23, gf_123_24, gf_123_25, pt_123_25, gf_123_26, gf_123_27, pt_123_27, gf_123_28, pt_123_28, gf_123_29, gf_123_30, pt_123_30, gf_123_31, pt_123_31, gf_123_32, pt_123_32, gf_123_33, pt_123_33, gf_123_34, pt_123_34_0, pt_123_34_1, gf_123_35, gf_123_36, gf_123_37, gf_123_38, pt_123_38, gf_123_39, pt_123_39, gf_123_40, pt_123_40, gf_123_41, gf_123_42, gf_123_43, gf_123_44, gf_123_45, gf_123_46, gf_123_47, pt_123_47, a1, u2, u3, u4, u5, v 1 (by decide) (by decide), v 2 (by decide) (by decide), v 3 (by decide) (by decide), v 4 (by decide) (by decide), c1, c2, if_true]
theorem lw_4 (hi : i + 5 ≤ scr.length) (hl : scr.length ≤ 2560) (h : cokI (some scr) 83 136 [.int (scV scr (i + 1)), .int (scV scr (i + 2))] M Q) : ∃ M2, ab_res (some scr) 205 13 M 278 (lwL i) [] = ab_res (some scr) 205 13 M2 18 (lwL (i + 5)) [] ∧ Q M2 := by
  obtain ⟨M1, a, M2, c1, c2, q⟩ := h
  refine ⟨M2, ?_, q⟩
  have v := scV_at hi hl
  have u2 : nI i + 2 = nI (i + 2) := nI_add i 2
  have u3 : nI i + 3 = nI (i + 3) := nI_add i 3
  have u4 : nI i + 4 = nI (i + 4) := nI_add i 4
  have u5 : nI i + 5 = nI (i + 5) := nI_add i 5
  unfold lwL
  simp only [q205_278, q205_279, q205_280, q205_281, q205_282, q205_283, q205_284, q205_285, q205_286, q205_287, q205_288, q205_289, q205_292, q205_293, q205_294, q205_295, q205_296, q205_297, q205_298, q205_299, q205_300, q205_301, q205_302, q205_303, q205_306, q205_309, q205_310, q205_1284, q205_1287, n10, n01, Bool.false_eq_true, ab_bs, ab_bn, ab_pr0, ab_pr1, nl_n, nl_i, nl_r, nl_j, nl_nl, rc_0, gf_0_0, gf_0_1, gf_0_2, gf_0_3, gf_0_4, gf_0_5, gf_0_6, gf_0_7, gf_0_8, gf_0_9, pt_0_9, rc_123, gf_123_0, gf_123_1, pt_123_1, gf_123_2, pt_123_2, gf_123_3, pt_123_3, gf_123_4, pt_123_4, gf_123_5, pt_123_5, gf_123_6, pt_123_6, gf_123_7, pt_123_7, gf_123_8, pt_123_8, gf_123_9, gf_123_10, gf_123_11, gf_123_12, gf_123_13, pt_123_13_0, pt_123_13_1, gf_123_14, pt_123_14_0, pt_123_14_1, gf_123_15, gf_123_16, gf_123_17, gf_123_18, gf_123_19, gf_123_20, gf_123_21, gf_123_22, gf_123_23, gf_123_24, gf_123_25, pt_123_25, gf_123_26, gf_123_27, pt_123_27, gf_123_28, pt_123_28, gf_123_29, gf_123_30, pt_123_30, gf_123_31, pt_123_31, gf_123_32, pt_123_32, gf_123_33, pt_123_33, gf_123_34, pt_123_34_0, pt_123_34_1, gf_123_35, gf_123_36, gf_123_37, gf_123_38, pt_123_38, gf_123_39, pt_123_39, gf_123_40, pt_123_40, gf_123_41, gf_123_42, gf_123_43, gf_123_44, gf_123_45, gf_123_46, gf_123_47, pt_123_47, a1, u2, u3, u4, u5, v 1 (by decide) (by decide), v 2 (by decide) (by decide), v 3 (by decide) (by decide), v 4 (by decide) (by decide), c1, c2, if_true]
theorem lw_5 (hi : i + 5 ≤ scr.length) (hl : scr.length ≤ 2560) (h : cokI (some scr) 84 138 [.int (scV scr (i + 1)), .int (scV scr (i + 2)), .int (scV scr (i + 3))] M Q) : ∃ M2, ab_res (some scr) 205 13 M 311 (lwL i) [] = ab_res (some scr) 205 13 M2 18 (lwL (i + 5)) [] ∧ Q M2 := by
  obtain ⟨M1, a, M2, c1, c2, q⟩ := h
  refine ⟨M2, ?_, q⟩
  have v := scV_at hi hl
  have u2 : nI i + 2 = nI (i + 2) := nI_add i 2
  have u3 : nI i + 3 = nI (i + 3) := nI_add i 3
  have u4 : nI i + 4 = nI (i + 4) := nI_add i 4
  have u5 : nI i + 5 = nI (i + 5) := nI_add i 5
  unfold lwL
  simp only [q205_311, q205_312, q205_313, q205_314, q205_315, q205_316, q205_317, q205_318, q205_319, q205_320, q205_321, q205_322, q205_323, q205_324, q205_325, q205_326, q205_327, q205_330, q205_331, q205_332, q205_333, q205_334, q205_335, q205_336, q205_337, q205_338, q205_339, q205_340, q205_341, q205_342, q205_343, q205_344, q205_345, q205_346, q205_349, q205_352, q205_353, q205_1284, q205_1287, n10, n01, Bool.false_eq_true, ab_bs, ab_bn, ab_pr0, ab_pr1, nl_n, nl_i, nl_r, nl_j, nl_nl, rc_0, gf_0_0, gf_0_1, gf_0_2, gf_0_3, gf_0_4, gf_0_5, gf_0_6, gf_0_7, gf_0_8, gf_0_9, pt_0_9, rc_123, gf_123_0, gf_123_1, pt_123_1, gf_123_2, pt_123_2, gf_123_3, pt_123_3, gf_123_4, pt_123_4, gf_123_5, pt_123_5, gf_123_6, pt_123_6, gf_123_7, pt_123_7, gf_123_8, pt_123_8, gf_123_9, gf_123_10, gf_123_11, gf_123_12, gf_123_13, pt_123_13_0, pt_123_13_1, gf_123_14, pt_123_14_0, pt_123_14_1, gf_123_15, gf_123_16, gf_123_17, gf_123_18, gf_123_19, gf_123_20, gf_123_21, gf_123_22, gf_123_23, gf_123_24, gf_123_25, pt_123_25, gf_123_26, gf_123_27, pt_123_27, gf_123_28, pt_123_28, gf_123_29, gf_123_30, pt_123_30, gf_123_31, pt_123_31, gf_123_32, pt_123_32, gf_123_33, pt_123_33, gf_123_34, pt_123_34_0, pt_123_34_1, gf_123_35, gf_123_36, gf_123_37, gf_123_38, pt_123_38, gf_123_39, pt_123_39, gf_123_40, pt_123_40, gf_123_41, gf_123_42, gf_123_43, gf_123_44, gf_123_45, gf_123_46, gf_123_47, pt_123_47, a1, u2, u3, u4, u5, v 1 (by decide) (by decide), v 2 (by decide) (by decide), v 3 (by decide) (by decide), v 4 (by decide) (by decide), c1, c2, if_true]
theorem lw_6 (hi : i + 5 ≤ scr.length) (hl : scr.length ≤ 2560) (h : cokI (some scr) 85 163 [.int (scV scr (i + 1)), .int (scV scr (i + 2)), .int (scV scr (i + 3))] M Q) : ∃ M2, ab_res (some scr) 205 13 M 354 (lwL i) [] = ab_res (some scr) 205 13 M2 18 (lwL (i + 5)) [] ∧ Q M2 := by
  obtain ⟨M1, a, M2, c1, c2, q⟩ := h
  refine ⟨M2, ?_, q⟩
  have v := scV_at hi hl
  have u2 : nI i + 2 = nI (i + 2) := nI_add i 2
  have u3 : nI i + 3 = nI (i + 3) := nI_add i 3
  have u4 : nI i + 4 = nI (i + 4) := nI_add i 4
  have u5 : nI i + 5 = nI (i + 5) := nI_add i 5
  unfold lwL
  simp only [q205_354, q205_355, q205_356, q205_357, q205_358, q205_359, q205_360, q205_361, q205_362, q205_363, q205_364, q205_365, q205_366, q205_367, q205_368, q205_369, q205_370, q205_373, q205_374, q205_375, q205_376, q205_377, q205_378, q205_379, q205_380, q205_381, q205_382, q205_383, q205_384, q205_385, q205_386, q205_387, q205_388, q205_389, q205_392, q205_395, q205_396, q205_1284, q205_1287, n10, n01, Bool.false_eq_true, ab_bs, ab_bn, ab_pr0, ab_pr1, nl_n, nl_i, nl_r, nl_j, nl_nl, rc_0, gf_0_0, gf_0_1, gf_0_2, gf_0_3, gf_0_4, gf_0_5, gf_0_6, gf_0_7, gf_0_8, gf_0_9, pt_0_9, rc_123, gf_123_0, gf_123_1, pt_123_1, gf_123_2, pt_123_2, gf_123_3, pt_123_3, gf_123_4, pt_123_4, gf_123_5, pt_123_5, gf_123_6, pt_123_6, gf_123_7, pt_123_7, gf_123_8, pt_123_8, gf_123_9, gf_123_10, gf_123_11, gf_123_12, gf_123_13, pt_123_13_0, pt_123_13_1, gf_123_14, pt_123_14_0, pt_123_14_1, gf_123_15, gf_123_16, gf_123_17, gf_123_18, gf_123_19, gf_123_20, gf_123_21, gf_123_22, gf_123_23, gf_123_24, gf_123_25, pt_123_25, gf_123_26, gf_123_27, pt_123_27, gf_123_28, pt_123_28, gf_123_29, gf_123_30, pt_123_30, gf_123_31, pt_123_31, gf_123_32, pt_123_32, gf_123_33, pt_123_33, gf_123_34, pt_123_34_0, pt_123_34_1, gf_123_35, gf_123_36, gf_123_37, gf_123_38, pt_123_38, gf_123_39, pt_123_39, gf_123_40, pt_123_40, gf_123_41, gf_123_42, gf_123_43, gf_123_44, gf_123_45, gf_123_46, gf_123_47, pt_123_47, a1, u2, u3, u4, u5, v 1 (by decide) (by decide), v 2 (by decide) (by decide), v 3 (by decide) (by decide), v 4 (by decide) (by decide), c1, c2, if_true]
theorem lw_7 (hi : i + 5 ≤ scr.length) (hl : scr.length ≤ 2560) (h : cokI (some scr) 86 164 [.int (scV scr (i + 1)), .int (scV scr (i + 2)), .int (scV scr (i + 3)), .int (scV scr (i + 4))] M Q) : ∃ M2, ab_res (some scr) 205 13 M 397 (lwL i) [] = ab_res (some scr) 205 13 M2 18 (lwL (i + 5)) [] ∧ Q M2 := by
  obtain ⟨M1, a, M2, c1, c2, q⟩ := h
  refine ⟨M2, ?_, q⟩
  have v := scV_at hi hl
  have u2 : nI i + 2 = nI (i + 2) := nI_add i 2
  have u3 : nI i + 3 = nI (i + 3) := nI_add i 3
  have u4 : nI i + 4 = nI (i + 4) := nI_add i 4
  have u5 : nI i + 5 = nI (i + 5) := nI_add i 5
  unfold lwL
  simp only [q205_397, q205_398, q205_399, q205_400, q205_401, q205_402, q205_403, q205_404, q205_405, q205_406, q205_407, q205_408, q205_409, q205_410, q205_411, q205_412, q205_413, q205_414, q205_415, q205_416, q205_417, q205_418, q205_421, q205_422, q205_423, q205_424, q205_425, q205_426, q205_427, q205_428, q205_429, q205_430, q205_431, q205_432, q205_433, q205_434, q205_435, q205_436, q205_437, q205_438, q205_439, q205_440, q205_441, q205_442, q205_445, q205_448, q205_449, q205_1284, q205_1287, n10, n01, Bool.false_eq_true, ab_bs, ab_bn, ab_pr0, ab_pr1, nl_n, nl_i, nl_r, nl_j, nl_nl, rc_0, gf_0_0, gf_0_1, gf_0_2, gf_0_3, gf_0_4, gf_0_5, gf_0_6, gf_0_7, gf_0_8, gf_0_9, pt_0_9, rc_123, gf_123_0, gf_123_1, pt_123_1, gf_123_2, pt_123_2, gf_123_3, pt_123_3, gf_123_4, pt_123_4, gf_123_5, pt_123_5, gf_123_6, pt_123_6, gf_123_7, pt_123_7, gf_123_8, pt_123_8, gf_123_9, gf_123_10, gf_123_11, gf_123_12, gf_123_13, pt_123_13_0, pt_123_13_1, gf_123_14, pt_123_14_0, pt_123_14_1, gf_123_15, gf_123_16, gf_123_17, gf_123_18, gf_123_19, gf_123_20, gf_123_21, gf_123_22, gf_123_23, gf_123_24, gf_123_25, pt_123_25, gf_123_26, gf_123_27, pt_123_27, gf_123_28, pt_123_28, gf_123_29, gf_123_30, pt_123_30, gf_123_31, pt_123_31, gf_123_32, pt_123_32, gf_123_33, pt_123_33, gf_123_34, pt_123_34_0, pt_123_34_1, gf_123_35, gf_123_36, gf_123_37, gf_123_38, pt_123_38, gf_123_39, pt_123_39, gf_123_40, pt_123_40, gf_123_41, gf_123_42, gf_123_43, gf_123_44, gf_123_45, gf_123_46, gf_123_47, pt_123_47, a1, u2, u3, u4, u5, v 1 (by decide) (by decide), v 2 (by decide) (by decide), v 3 (by decide) (by decide), v 4 (by decide) (by decide), c1, c2, if_true]
theorem lw_8 (hi : i + 5 ≤ scr.length) (hl : scr.length ≤ 2560) (h : cokI (some scr) 87 165 [.int (scV scr (i + 1)), .int (scV scr (i + 2)), .int (scV scr (i + 3)), .int (scV scr (i + 4))] M Q) : ∃ M2, ab_res (some scr) 205 13 M 450 (lwL i) [] = ab_res (some scr) 205 13 M2 18 (lwL (i + 5)) [] ∧ Q M2 := by
  obtain ⟨M1, a, M2, c1, c2, q⟩ := h
  refine ⟨M2, ?_, q⟩
  have v := scV_at hi hl
  have u2 : nI i + 2 = nI (i + 2) := nI_add i 2
  have u3 : nI i + 3 = nI (i + 3) := nI_add i 3
  have u4 : nI i + 4 = nI (i + 4) := nI_add i 4
  have u5 : nI i + 5 = nI (i + 5) := nI_add i 5
  unfold lwL
  simp only [q205_450, q205_451, q205_452, q205_453, q205_454, q205_455, q205_456, q205_457, q205_458, q205_459, q205_460, q205_461, q205_462, q205_463, q205_464, q205_465, q205_466, q205_467, q205_468, q205_469, q205_470, q205_471, q205_474, q205_475, q205_476, q205_477, q205_478, q205_479, q205_480, q205_481, q205_482, q205_483, q205_484, q205_485, q205_486, q205_487, q205_488, q205_489, q205_490, q205_491, q205_492, q205_493, q205_494, q205_495, q205_498, q205_501, q205_502, q205_1284, q205_1287, n10, n01, Bool.false_eq_true, ab_bs, ab_bn, ab_pr0, ab_pr1, nl_n, nl_i, nl_r, nl_j, nl_nl, rc_0, gf_0_0, gf_0_1, gf_0_2, gf_0_3, gf_0_4, gf_0_5, gf_0_6, gf_0_7, gf_0_8, gf_0_9, pt_0_9, rc_123, gf_123_0, gf_123_1, pt_123_1, gf_123_2, pt_123_2, gf_123_3, pt_123_3, gf_123_4, pt_123_4, gf_123_5, pt_123_5, gf_123_6, pt_123_6, gf_123_7, pt_123_7, gf_123_8, pt_123_8, gf_123_9, gf_123_10, gf_123_11, gf_123_12, gf_123_13, pt_123_13_0, pt_123_13_1, gf_123_14, pt_123_14_0, pt_123_14_1, gf_123_15, gf_123_16, gf_123_17, gf_123_18, gf_123_19, gf_123_20, gf_123_21, gf_123_22, gf_123_23, gf_123_24, gf_123_25, pt_123_25, gf_123_26, gf_123_27, pt_123_27, gf_123_28, pt_123_28, gf_123_29, gf_123_30, pt_123_30, gf_123_31, pt_123_31, gf_123_32, pt_123_32, gf_123_33, pt_123_33, gf_123_34, pt_123_34_0, pt_123_34_1, gf_123_35, gf_123_36, gf_123_37, gf_123_38, pt_123_38, gf_123_39, pt_123_39, gf_123_40, pt_123_40, gf_123_41, gf_123_42, gf_123_43, gf_123_44, gf_123_45, gf_123_46, gf_123_47, pt_123_47, a1, u2, u3, u4, u5, v 1 (by decide) (by decide), v 2 (by decide) (by decide), v 3 (by decide) (by decide), v 4 (by decide) (by decide), c1, c2, if_true]
theorem lw_9 (hi : i + 5 ≤ scr.length) (hl : scr.length ≤ 2560) (h : cokI (some scr) 88 166 [.int (scV scr (i + 1)), .int (scV scr (i + 2))] M Q) : ∃ M2, ab_res (some scr) 205 13 M 503 (lwL i) [] = ab_res (some scr) 205 13 M2 18 (lwL (i + 5)) [] ∧ Q M2 := by
  obtain ⟨M1, a, M2, c1, c2, q⟩ := h
  refine ⟨M2, ?_, q⟩
  have v := scV_at hi hl
  have u2 : nI i + 2 = nI (i + 2) := nI_add i 2
  have u3 : nI i + 3 = nI (i + 3) := nI_add i 3
  have u4 : nI i + 4 = nI (i + 4) := nI_add i 4
  have u5 : nI i + 5 = nI (i + 5) := nI_add i 5
  unfold lwL
  simp only [q205_503, q205_504, q205_505, q205_506, q205_507, q205_508, q205_509, q205_510, q205_511, q205_512, q205_513, q205_514, q205_517, q205_518, q205_519, q205_520, q205_521, q205_522, q205_523, q205_524, q205_525, q205_526, q205_527, q205_528, q205_531, q205_534, q205_535, q205_1284, q205_1287, n10, n01, Bool.false_eq_true, ab_bs, ab_bn, ab_pr0, ab_pr1, nl_n, nl_i, nl_r, nl_j, nl_nl, rc_0, gf_0_0, gf_0_1, gf_0_2, gf_0_3, gf_0_4, gf_0_5, gf_0_6, gf_0_7, gf_0_8, gf_0_9, pt_0_9, rc_123, gf_123_0, gf_123_1, pt_123_1, gf_123_2, pt_123_2, gf_123_3, pt_123_3, gf_123_4, pt_123_4, gf_123_5, pt_123_5, gf_123_6, pt_123_6, gf_123_7, pt_123_7, gf_123_8, pt_123_8, gf_123_9, gf_123_10, gf_123_11, gf_123_12, gf_123_13, pt_123_13_0, pt_123_13_1, gf_123_14, pt_123_14_0, pt_123_14_1, gf_123_15, gf_123_16, gf_123_17, gf_123_18, gf_123_19, gf_123_20, gf_123_21, gf_123_22, gf_123_23, gf_123_24, gf_123_25, pt_123_25, gf_123_26, gf_123_27, pt_123_27, gf_123_28, pt_123_28, gf_123_29, gf_123_30, pt_123_30, gf_123_31, pt_123_31, gf_123_32, pt_123_32, gf_123_33, pt_123_33, gf_123_34, pt_123_34_0, pt_123_34_1, gf_123_35, gf_123_36, gf_123_37, gf_123_38, pt_123_38, gf_123_39, pt_123_39, gf_123_40, pt_123_40, gf_123_41, gf_123_42, gf_123_43, gf_123_44, gf_123_45, gf_123_46, gf_123_47, pt_123_47, a1, u2, u3, u4, u5, v 1 (by decide) (by decide), v 2 (by decide) (by decide), v 3 (by decide) (by decide), v 4 (by decide) (by decide), c1, c2, if_true]
theorem lw_10 (hi : i + 5 ≤ scr.length) (hl : scr.length ≤ 2560) (h : cokI (some scr) 89 171 [.int (scV scr (i + 1))] M Q) : ∃ M2, ab_res (some scr) 205 13 M 536 (lwL i) [] = ab_res (some scr) 205 13 M2 18 (lwL (i + 5)) [] ∧ Q M2 := by
  obtain ⟨M1, a, M2, c1, c2, q⟩ := h
  refine ⟨M2, ?_, q⟩
  have v := scV_at hi hl
  have u2 : nI i + 2 = nI (i + 2) := nI_add i 2
  have u3 : nI i + 3 = nI (i + 3) := nI_add i 3
  have u4 : nI i + 4 = nI (i + 4) := nI_add i 4
  have u5 : nI i + 5 = nI (i + 5) := nI_add i 5
  unfold lwL
  simp only [q205_536, q205_537, q205_538, q205_539, q205_540, q205_541, q205_542, q205_545, q205_546, q205_547, q205_548, q205_549, q205_550, q205_551, q205_554, q205_557, q205_558, q205_1284, q205_1287, n10, n01, Bool.false_eq_true, ab_bs, ab_bn, ab_pr0, ab_pr1, nl_n, nl_i, nl_r, nl_j, nl_nl, rc_0, gf_0_0, gf_0_1, gf_0_2, gf_0_3, gf_0_4, gf_0_5, gf_0_6, gf_0_7, gf_0_8, gf_0_9, pt_0_9, rc_123, gf_123_0, gf_123_1, pt_123_1, gf_123_2, pt_123_2, gf_123_3, pt_123_3, gf_123_4, pt_123_4, gf_123_5, pt_123_5, gf_123_6, pt_123_6, gf_123_7, pt_123_7, gf_123_8, pt_123_8, gf_123_9, gf_123_10, gf_123_11, gf_123_12, gf_123_13, pt_123_13_0, pt_123_13_1, gf_123_14, pt_123_14_0, pt_123_14_1, gf_123_15, gf_123_16, gf_123_17, gf_123_18, gf_123_19, gf_123_20, gf_123_21, gf_123_22, gf_123_23, gf_123_24, gf_123_25, pt_123_25, gf_123_26, gf_123_27, pt_123_27, gf_123_28, pt_123_28, gf_123_29, gf_123_30, pt_123_30, gf_123_31, pt_123_31, gf_123_32, pt_123_32, gf_123_33, pt_123_33, gf_123_34, pt_123_34_0, pt_123_34_1, gf_123_35, gf_123_36, gf_123_37, gf_123_38, pt_123_38, gf_123_39, pt_123_39, gf_123_40, pt_123_40, gf_123_41, gf_123_42, gf_123_43, gf_123_44, gf_123_45, gf_123_46, gf_123_47, pt_123_47, a1, u2, u3, u4, u5, v 1 (by decide) (by decide), v 2 (by decide) (by decide), v 3 (by decide) (by decide), v 4 (by decide) (by decide), c1, c2, if_true]
theorem lw_11 (hi : i + 5 ≤ scr.length) (hl : scr.length ≤ 2560) (h : cokI (some scr) 90 172 [.int (scV scr (i + 1))] M Q) : ∃ M2, ab_res (some scr) 205 13 M 559 (lwL i) [] = ab_res (some scr) 205 13 M2 18 (lwL (i + 5)) [] ∧ Q M2 := by
  obtain ⟨M1, a, M2, c1, c2, q⟩ := h
  refine ⟨M2, ?_, q⟩
  have v := scV_at hi hl
  have u2 : nI i + 2 = nI (i + 2) := nI_add i 2
  have u3 : nI i + 3 = nI (i + 3) := nI_add i 3
  have u4 : nI i + 4 = nI (i + 4) := nI_add i 4
  have u5 : nI i + 5 = nI (i + 5) := nI_add i 5
  unfold lwL
  simp only [q205_559, q205_560, q205_561, q205_562, q205_563, q205_564, q205_565, q205_568, q205_569, q205_570, q205_571, q205_572, q205_573, q205_574, q205_577, q205_580, q205_581, q205_1284, q205_1287, n10, n01, Bool.false_eq_true, ab_bs, ab_bn, ab_pr0, ab_pr1, nl_n, nl_i, nl_r, nl_j, nl_nl, rc_0, gf_0_0, gf_0_1, gf_0_2, gf_0_3, gf_0_4, gf_0_5, gf_0_6, gf_0_7, gf_0_8, gf_0_9, pt_0_9, rc_123, gf_123_0, gf_123_1, pt_123_1, gf_123_2, pt_123_2, gf_123_3, pt_123_3, gf_123_4, pt_123_4, gf_123_5, pt_123_5, gf_123_6, pt_123_6, gf_123_7, pt_123_7, gf_123_8, pt_123_8, gf_123_9, gf_123_10, gf_123_11, gf_123_12, gf_123_13, pt_123_13_0, pt_123_13_1, gf_123_14, pt_123_14_0, pt_123_14_1, gf_123_15, gf_123_16, gf_123_17, gf_123_18, gf_123_19, gf_123_20, gf_123_21, gf_123_22, gf_123_23, gf_123_24, gf_123_25, pt_123_25, gf_123_26, gf_123_27, pt_123_27, gf_123_28, pt_123_28, gf_123_29, gf_123_30, pt_123_30, gf_123_31, pt_123_31, gf_123_32, pt_123_32, gf_123_33, pt_123_33, gf_123_34, pt_123_34_0, pt_123_34_1, gf_123_35, gf_123_36, gf_123_37, gf_123_38, pt_123_38, gf_123_39, pt_123_39, gf_123_40, pt_123_40, gf_123_41, gf_123_42, gf_123_43, gf_123_44, gf_123_45, gf_123_46, gf_123_47, pt_123_47, a1, u2, u3, u4, u5, v 1 (by decide) (by decide), v 2 (by decide) (by decide), v 3 (by decide) (by decide), v 4 (by decide) (by decide), c1, c2, if_true]
theorem lw_12 (hi : i + 5 ≤ scr.length) (hl : scr.length ≤ 2560) (h : cokI (some scr) 91 173 [] M Q) : ∃ M2, ab_res (some scr) 205 13 M 582 (lwL i) [] = ab_res (some scr) 205 13 M2 18 (lwL (i + 5)) [] ∧ Q M2 := by
  obtain ⟨M1, a, M2, c1, c2, q⟩ := h
  refine ⟨M2, ?_, q⟩
  have v := scV_at hi hl
  have u2 : nI i + 2 = nI (i + 2) := nI_add i 2
  have u3 : nI i + 3 = nI (i + 3) := nI_add i 3
  have u4 : nI i + 4 = nI (i + 4) := nI_add i 4
  have u5 : nI i + 5 = nI (i + 5) := nI_add i 5
  unfold lwL
  simp only [q205_582, q205_583, q205_586, q205_587, q205_590, q205_593, q205_594, q205_1284, q205_1287, n10, n01, Bool.false_eq_true, ab_bs, ab_bn, ab_pr0, ab_pr1, nl_n, nl_i, nl_r, nl_j, nl_nl, rc_0, gf_0_0, gf_0_1, gf_0_2, gf_0_3, gf_0_4, gf_0_5, gf_0_6, gf_0_7, gf_0_8, gf_0_9, pt_0_9, rc_123, gf_123_0, gf_123_1, pt_123_1, gf_123_2, pt_123_2, gf_123_3, pt_123_3, gf_123_4, pt_123_4, gf_123_5, pt_123_5, gf_123_6, pt_123_6, gf_123_7, pt_123_7, gf_123_8, pt_123_8, gf_123_9, gf_123_10, gf_123_11, gf_123_12, gf_123_13, pt_123_13_0, pt_123_13_1, gf_123_14, pt_123_14_0, pt_123_14_1, gf_123_15, gf_123_16, gf_123_17, gf_123_18, gf_123_19, gf_123_20, gf_123_21, gf_123_22, gf_123_23, gf_123_24, gf_123_25, pt_123_25, gf_123_26, gf_123_27, pt_123_27, gf_123_28, pt_123_28, gf_123_29, gf_123_30, pt_123_30, gf_123_31, pt_123_31, gf_123_32, pt_123_32, gf_123_33, pt_123_33, gf_123_34, pt_123_34_0, pt_123_34_1, gf_123_35, gf_123_36, gf_123_37, gf_123_38, pt_123_38, gf_123_39, pt_123_39, gf_123_40, pt_123_40, gf_123_41, gf_123_42, gf_123_43, gf_123_44, gf_123_45, gf_123_46, gf_123_47, pt_123_47, a1, u2, u3, u4, u5, v 1 (by decide) (by decide), v 2 (by decide) (by decide), v 3 (by decide) (by decide), v 4 (by decide) (by decide), c1, c2, if_true]
theorem lw_13 (hi : i + 5 ≤ scr.length) (hl : scr.length ≤ 2560) (h : cokI (some scr) 92 174 [.int (scV scr (i + 1)), .int (scV scr (i + 2)), .int (scV scr (i + 3))] M Q) : ∃ M2, ab_res (some scr) 205 13 M 595 (lwL i) [] = ab_res (some scr) 205 13 M2 18 (lwL (i + 5)) [] ∧ Q M2 := by
  obtain ⟨M1, a, M2, c1, c2, q⟩ := h
  refine ⟨M2, ?_, q⟩
  have v := scV_at hi hl
  have u2 : nI i + 2 = nI (i + 2) := nI_add i 2
  have u3 : nI i + 3 = nI (i + 3) := nI_add i 3
  have u4 : nI i + 4 = nI (i + 4) := nI_add i 4
  have u5 : nI i + 5 = nI (i + 5) := nI_add i 5
  unfold lwL
  simp only [q205_595, q205_596, q205_597, q205_598, q205_599, q205_600, q205_601, q205_602, q205_603, q205_604, q205_605, q205_606, q205_607, q205_608, q205_609, q205_610, q205_611, q205_614, q205_615, q205_616, q205_617, q205_618, q205_619, q205_620, q205_621, q205_622, q205_623, q205_624, q205_625, q205_626, q205_627, q205_628, q205_629, q205_630, q205_633, q205_636, q205_637, q205_1284, q205_1287, n10, n01, Bool.false_eq_true, ab_bs, ab_bn, ab_pr0, ab_pr1, nl_n, nl_i, nl_r, nl_j, nl_nl, rc_0, gf_0_0, gf_0_1, gf_0_2, gf_0_3, gf_0_4, gf_0_5, gf_0_6, gf_0_7, gf_0_8, gf_0_9, pt_0_9, rc_123, gf_123_0, gf_123_1, pt_123_1, gf_123_2, pt_123_2, gf_123_3, pt_123_3, gf_123_4, pt_123_4, gf_123_5, pt_123_5, gf_123_6, pt_123_6, gf_123_7, pt_123_7, gf_123_8, pt_123_8, gf_123_9, gf_123_10, gf_123_11, gf_123_12, gf_123_13, pt_123_13_0, pt_123_13_1, gf_123_14, pt_123_14_0, pt_123_14_1, gf_123_15, gf_123_16, gf_123_17, gf_123_18, gf_123_19, gf_123_20, gf_123_21, gf_123_22, gf_123_23, gf_123_24, gf_123_25, pt_123_25, gf_123_26, gf_123_27, pt_123_27, gf_123_28, pt_123_28, gf_123_29, gf_123_30, pt_123_30, gf_123_31, pt_123_31, gf_123_32, pt_123_32, gf_123_33, pt_123_33, gf_123_34, pt_123_34_0, pt_123_34_1, gf_123_35, gf_123_36, gf_123_37, gf_123_38, pt_123_38, gf_123_39, pt_123_39, gf_123_40, pt_123_40, gf_123_41, gf_123_42, gf_123_43, gf_123_44, gf_123_45, gf_123_46, gf_123_47, pt_123_47, a1, u2, u3, u4, u5, v 1 (by decide) (by decide), v 2 (by decide) (by decide), v 3 (by decide) (by decide), v 4 (by decide) (by decide), c1, c2, if_true]
theorem lw_14 (hi : i + 5 ≤ scr.length) (hl : scr.length ≤ 2560) (h : cokI (some scr) 93 175 [] M Q) : ∃ M2, ab_res (some scr) 205 13 M 638 (lwL i) [] = ab_res (some scr) 205 13 M2 18 (lwL (i + 5)) [] ∧ Q M2 := by
  obtain ⟨M1, a, M2, c1, c2, q⟩ := h
  refine ⟨M2, ?_, q⟩
  have v := scV_at hi hl
  have u2 : nI i + 2 = nI (i + 2) := nI_add i 2
  have u3 : nI i + 3 = nI (i + 3) := nI_add i 3
  have u4 : nI i + 4 = nI (i + 4) := nI_add i 4
  have u5 : nI i + 5 = nI (i + 5) := nI_add i 5
  unfold lwL
  simp only [q205_638, q205_639, q205_642, q205_643, q205_646, q205_649, q205_650, q205_1284, q205_1287, n10, n01, Bool.false_eq_true, ab_bs, ab_bn, ab_pr0, ab_pr1, nl_n, nl_i, nl_r, nl_j, nl_nl, rc_0, gf_0_0, gf_0_1, gf_0_2, gf_0_3, gf_0_4, gf_0_5, gf_0_6, gf_0_7, gf_0_8, gf_0_9, pt_0_9, rc_123, gf_123_0, gf_123_1, pt_123_1, gf_123_2, pt_123_2, gf_123_3, pt_123_3, gf_123_4, pt_123_4, gf_123_5, pt_123_5, gf_123_6, pt_123_6, gf_123_7, pt_123_7, gf_123_8, pt_123_8, gf_123_9, gf_123_10, gf_123_11, gf_123_12, gf_123_13, pt_123_13_0, pt_123_13_1, gf_123_14, pt_123_14_0, pt_123_14_1, gf_123_15, gf_123_16, gf_123_17, gf_123_18, gf_123_19, gf_123_20, gf_123_21, gf_123_22, gf_123_23, gf_123_24, gf_123_25, pt_123_25, gf_123_26, gf_123_27, pt_123_27, gf_123_28, pt_123_28, gf_123_29, gf_123_30, pt_123_30, gf_123_31, pt_123_31, gf_123_32, pt_123_32, gf_123_33, pt_123_33, gf_123_34, pt_123_34_0, pt_123_34_1, gf_123_35, gf_123_36, gf_123_37, gf_123_38, pt_123_38, gf_123_39, pt_123_39, gf_123_40, pt_123_40, gf_123_41, gf_123_42, gf_123_43, gf_123_44, gf_123_45, gf_123_46, gf_123_47, pt_123_47, a1, u2, u3, u4, u5, v 1 (by decide) (by decide), v 2 (by decide) (by decide), v 3 (by decide) (by decide), v 4 (by decide) (by decide), c1, c2, if_true]
theorem lw_15 (hi : i + 5 ≤ scr.length) (hl : scr.length ≤ 2560) (h : cokI (some scr) 94 177 [.int (scV scr (i + 1)), .int (scV scr (i + 2)), .int (scV scr (i + 3)), .int (scV scr (i + 4))] M Q) : ∃ M2, ab_res (some scr) 205 13 M 651 (lwL i) [] = ab_res (some scr) 205 13 M2 18 (lwL (i + 5)) [] ∧ Q M2 := by
  obtain ⟨M1, a, M2, c1, c2, q⟩ := h
  refine ⟨M2, ?_, q⟩
  have v := scV_at hi hl
  have u2 : nI i + 2 = nI (i + 2) := nI_add i 2
  have u3 : nI i + 3 = nI (i + 3) := nI_add i 3
  have u4 : nI i + 4 = nI (i + 4) := nI_add i 4
  have u5 : nI i + 5 = nI (i + 5) := nI_add i 5
  unfold lwL
  simp only [q205_651, q205_652, q205_653, q205_654, q205_655, q205_656, q205_657, q205_658, q205_659, q205_660, q205_661, q205_662, q205_663, q205_664, q205_665, q205_666, q205_667, q205_668, q205_669, q205_670, q205_671, q205_672, q205_675, q205_676, q205_677, q205_678, q205_679, q205_680, q205_681, q205_682, q205_683, q205_684, q205_685, q205_686, q205_687, q205_688, q205_689, q205_690, q205_691, q205_692, q205_693, q205_694, q205_695, q205_696, q205_699, q205_702, q205_703, q205_1284, q205_1287, n10, n01, Bool.false_eq_true, ab_bs, ab_bn, ab_pr0, ab_pr1, nl_n, nl_i, nl_r, nl_j, nl_nl, rc_0, gf_0_0, gf_0_1, gf_0_2, gf_0_3, gf_0_4, gf_0_5, gf_0_6, gf_0_7, gf_0_8, gf_0_9, pt_0_9, rc_123, gf_123_0, gf_123_1, pt_123_1, gf_123_2, pt_123_2, gf_123_3, pt_123_3, gf_123_4, pt_123_4, gf_123_5, pt_123_5, gf_123_6, pt_123_6, gf_123_7, pt_123_7, gf_123_8, pt_123_8, gf_123_9, gf_123_10, gf_123_11, gf_123_12, gf_123_13, pt_123_13_0, pt_123_13_1, gf_123_14, pt_123_14_0, pt_123_14_1, gf_123_15, gf_123_16, gf_123_17, gf_123_18, gf_123_19, gf_123_20, gf_123_21, gf_123_22, gf_123_23, gf_123_24, gf_123_25, pt_123_25, gf_123_26, gf_123_27, pt_123_27, gf_123_28, pt_123_28, gf_123_29, gf_123_30, pt_123_30, gf_123_31, pt_123_31, gf_123_32, pt_123_32, gf_123_33, pt_123_33, gf_123_34, pt_123_34_0, pt_123_34_1, gf_123_35, gf_123_36, gf_123_37, gf_123_38, pt_123_38, gf_123_39, pt_123_39, gf_123_40, pt_123_40, gf_123_41, gf_123_42, gf_123_43, gf_123_44, gf_123_45, gf_123_46, gf_123_47, pt_123_47, a1, u2, u3, u4, u5, v 1 (by decide) (by decide), v 2 (by decide) (by decide), v 3 (by decide) (by decide), v 4 (by decide) (by decide), c1, c2, if_true]
theorem lw_16 (hi : i + 5 ≤ scr.length) (hl : scr.length ≤ 2560) (h : cokI (some scr) 95 178 [.int (scV scr (i + 1)), .int (scV scr (i + 2)), .int (scV scr (i + 3)), .int (scV scr (i + 4))] M Q) : ∃ M2, ab_res (some scr) 205 13 M 704 (lwL i) [] = ab_res (some scr) 205 13 M2 18 (lwL (i + 5)) [] ∧ Q M2 := by
  obtain ⟨M1, a, M2, c1, c2, q⟩ := h
  refine ⟨M2, ?_, q⟩
  have v := scV_at hi hl
  have u2 : nI i + 2 = nI (i + 2) := nI_add i 2
  have u3 : nI i + 3 = nI (i + 3) := nI_add i 3
  have u4 : nI i + 4 = nI (i + 4) := nI_add i 4
  have u5 : nI i + 5 = nI (i + 5) := nI_add i 5
  unfold lwL
  simp only [q205_704, q205_705, q205_706, q205_707, q205_708, q205_709, q205_710, q205_711, q205_712, q205_713, q205_714, q205_715, q205_716, q205_717, q205_718, q205_719, q205_720, q205_721, q205_722, q205_723, q205_724, q205_725, q205_728, q205_729, q205_730, q205_731, q205_732, q205_733, q205_734, q205_735, q205_736, q205_737, q205_738, q205_739, q205_740, q205_741, q205_742, q205_743, q205_744, q205_745, q205_746, q205_747, q205_748, q205_749, q205_752, q205_755, q205_756, q205_1284, q205_1287, n10, n01, Bool.false_eq_true, ab_bs, ab_bn, ab_pr0, ab_pr1, nl_n, nl_i, nl_r, nl_j, nl_nl, rc_0, gf_0_0, gf_0_1, gf_0_2, gf_0_3, gf_0_4, gf_0_5, gf_0_6, gf_0_7, gf_0_8, gf_0_9, pt_0_9, rc_123, gf_123_0, gf_123_1, pt_123_1, gf_123_2, pt_123_2, gf_123_3, pt_123_3, gf_123_4, pt_123_4, gf_123_5, pt_123_5, gf_123_6, pt_123_6, gf_123_7, pt_123_7, gf_123_8, pt_123_8, gf_123_9, gf_123_10, gf_123_11, gf_123_12, gf_123_13, pt_123_13_0, pt_123_13_1, gf_123_14, pt_123_14_0, pt_123_14_1, gf_123_15, gf_123_16, gf_123_17, gf_123_18, gf_123_19, gf_123_20, gf_123_21, gf_123_22, gf_123_23, gf_123_24, gf_123_25, pt_123_25, gf_123_26, gf_123_27, pt_123_27, gf_123_28, pt_123_28, gf_123_29, gf_123_30, pt_123_30, gf_123_31, pt_123_31, gf_123_32, pt_123_32, gf_123_33, pt_123_33, gf_123_34, pt_123_34_0, pt_123_34_1, gf_123_35, gf_123_36, gf_123_37, gf_123_38, pt_123_38, gf_123_39, pt_123_39, gf_123_40, pt_123_40, gf_123_41, gf_123_42, gf_123_43, gf_123_44, gf_123_45, gf_123_46, gf_123_47, pt_123_47, a1, u2, u3, u4, u5, v 1 (by decide) (by decide), v 2 (by decide) (by decide), v 3 (by decide) (by decide), v 4 (by decide) (by decide), c1, c2, if_true]
theorem lw_17 (hi : i + 5 ≤ scr.length) (hl : scr.length ≤ 2560) (h : cokI (some scr) 96 179 [.int (scV scr (i + 1)), .int (scV scr (i + 2))] M Q) : ∃ M2, ab_res (some scr) 205 13 M 757 (lwL i) [] = ab_res (some scr) 205 13 M2 18 (lwL (i + 5)) [] ∧ Q M2 := by
  obtain ⟨M1, a, M2, c1, c2, q⟩ := h
  refine ⟨M2, ?_, q⟩
  have v := scV_at hi hl
  have u2 : nI i + 2 = nI (i + 2) := nI_add i 2
  have u3 : nI i + 3 = nI (i + 3) := nI_add i 3
  have u4 : nI i + 4 = nI (i + 4) := nI_add i 4
  have u5 : nI i + 5 = nI (i + 5) := nI_add i 5
  unfold lwL
  simp only [q205_757, q205_758, q205_759, q205_760, q205_761, q205_762, q205_763, q205_764, q205_765, q205_766, q205_767, q205_768, q205_771, q205_772, q205_773, q205_774, q205_775, q205_776, q205_777, q205_778, q205_779, q205_780, q205_781, q205_782, q205_785, q205_788, q205_789, q205_1284, q205_1287, n10, n01, Bool.false_eq_true, ab_bs, ab_bn, ab_pr0, ab_pr1, nl_n, nl_i, nl_r, nl_j, nl_nl, rc_0, gf_0_0, gf_0_1, gf_0_2, gf_0_3, gf_0_4, gf_0_5, gf_0_6, gf_0_7, gf_0_8, gf_0_9, pt_0_9, rc_123, gf_123_0, gf_123_1, pt_123_1, gf_123_2, pt_123_2, gf_123_3, pt_123_3, gf_123_4, pt_123_4, gf_123_5, pt_123_5, gf_123_6, pt_123_6, gf_123_7, pt_123_7, gf_123_8, pt_123_8, gf_123_9, gf_123_10, gf_123_11, gf_123_12, gf_123_13, pt_123_13_0, pt_123_13_1, gf_123_14, pt_123_14_0, pt_123_14_1, gf_123_15, gf_123_16, gf_123_17, gf_123_18, gf_123_19, gf_123_20, gf_123_21, gf_123_22, gf_123_23, gf_123_24, gf_123_25, pt_123_25, gf_123_26, gf_123_27, pt_123_27, gf_123_28, pt_123_28, gf_123_29, gf_123_30, pt_123_30, gf_123_31, pt_123_31, gf_123_32, pt_123_32, gf_123_33, pt_123_33, gf_123_34, pt_123_34_0, pt_123_34_1, gf_123_35, gf_123_36, gf_123_37, gf_123_38, pt_123_38, gf_123_39, pt_123_39, gf_123_40, pt_123_40, gf_123_41, gf_123_42, gf_123_43, gf_123_44, gf_123_45, gf_123_46, gf_123_47, pt_123_47, a1, u2, u3, u4, u5, v 1 (by decide) (by decide), v 2 (by decide) (by decide), v 3 (by decide) (by decide), v 4 (by decide) (by decide), c1, c2, if_true]
theorem lw_18 (hi : i + 5 ≤ scr.length) (hl : scr.length ≤ 2560) (h : cokJ (some scr) 97 181 [.int (scV scr (i + 1)), .int (scV scr (i + 2)), .int (scV scr (i + 3)), .int (scV scr (i + 4))] M Q) : ∃ M2, ab_res (some scr) 205 13 M 790 (lwL i) [] = ab_res (some scr) 205 13 M2 18 (lwL (i + 5)) [] ∧ Q M2 := by
  obtain ⟨M1, a, M2, c1, c2, q⟩ := h
  refine ⟨M2, ?_, q⟩
  have v := scV_at hi hl
  have u2 : nI i + 2 = nI (i + 2) := nI_add i 2
  have u3 : nI i + 3 = nI (i + 3) := nI_add i 3
  have u4 : nI i + 4 = nI (i + 4) := nI_add i 4
  have u5 : nI i + 5 = nI (i + 5) := nI_add i 5
  unfold lwL
  simp only [q205_790, q205_791, q205_792, q205_793, q205_794, q205_795, q205_796, q205_797, q205_798, q205_799, q205_800, q205_801, q205_802, q205_803, q205_804, q205_805, q205_806, q205_807, q205_808, q205_809, q205_810, q205_811, q205_814, q205_815, q205_816, q205_817, q205_818, q205_819, q205_820, q205_821, q205_822, q205_823, q205_824, q205_825, q205_826, q205_827, q205_828, q205_829, q205_830, q205_831, q205_832, q205_833, q205_834, q205_835, q205_838, q205_839, q205_842, q205_843, q205_1284, q205_1287, n10, n01, Bool.false_eq_true, ab_bs, ab_bn, ab_pr0, ab_pr1, nl_n, nl_i, nl_r, nl_j, nl_nl, rc_0, gf_0_0, gf_0_1, gf_0_2, gf_0_3, gf_0_4, gf_0_5, gf_0_6, gf_0_7, gf_0_8, gf_0_9, pt_0_9, rc_123, gf_123_0, gf_123_1, pt_123_1, gf_123_2, pt_123_2, gf_123_3, pt_123_3, gf_123_4, pt_123_4, gf_123_5, pt_123_5, gf_123_6, pt_123_6, gf_123_7, pt_123_7, gf_123_8, pt_123_8, gf_123_9, gf_123_10, gf_123_11, gf_123_12, gf_123_13, pt_123_13_0, pt_123_13_1, gf_123_14, pt_123_14_0, pt_123_14_1, gf_123_15, gf_123_16, gf_123_17, gf_123_18, gf_123_19, gf_123_20, gf_123_21, gf_123_22, gf_123_23, gf_123_24, gf_123_25, pt_123_25, gf_123_26, gf_123_27, pt_123_27, gf_123_28, pt_123_28, gf_123_29, gf_123_30, pt_123_30, gf_123_31, pt_123_31, gf_123_32, pt_123_32, gf_123_33, pt_123_33, gf_123_34, pt_123_34_0, pt_123_34_1, gf_123_35, gf_123_36, gf_123_37, gf_123_38, pt_123_38, gf_123_39, pt_123_39, gf_123_40, pt_123_40, gf_123_41, gf_123_42, gf_123_43, gf_123_44, gf_123_45, gf_123_46, gf_123_47, pt_123_47, a1, u2, u3, u4, u5, v 1 (by decide) (by decide), v 2 (by decide) (by decide), v 3 (by decide) (by decide), v 4 (by decide) (by decide), c1, c2, lg_self, if_true]
theorem lw_19 (hi : i + 5 ≤ scr.length) (hl : scr.length ≤ 2560) (h : cokJ (some scr) 98 182 [.int (scV scr (i + 1)), .int (scV scr (i + 2))] M Q) : ∃ M2, ab_res (some scr) 205 13 M 844 (lwL i) [] = ab_res (some scr) 205 13 M2 18 (lwL (i + 5)) [] ∧ Q M2 := by
  obtain ⟨M1, a, M2, c1, c2, q⟩ := h
  refine ⟨M2, ?_, q⟩
  have v := scV_at hi hl
  have u2 : nI i + 2 = nI (i + 2) := nI_add i 2
  have u3 : nI i + 3 = nI (i + 3) := nI_add i 3
  have u4 : nI i + 4 = nI (i + 4) := nI_add i 4
  have u5 : nI i + 5 = nI (i + 5) := nI_add i 5
  unfold lwL
  simp only [q205_844, q205_845, q205_846, q205_847, q205_848, q205_849, q205_850, q205_851, q205_852, q205_853, q205_854, q205_855, q205_858, q205_859, q205_860, q205_861, q205_862, q205_863, q205_864, q205_865, q205_866, q205_867, q205_868, q205_869, q205_872, q205_873, q205_876, q205_877, q205_1284, q205_1287, n10, n01, Bool.false_eq_true, ab_bs, ab_bn, ab_pr0, ab_pr1, nl_n, nl_i, nl_r, nl_j, nl_nl, rc_0, gf_0_0, gf_0_1, gf_0_2, gf_0_3, gf_0_4, gf_0_5, gf_0_6, gf_0_7, gf_0_8, gf_0_9, pt_0_9, rc_123, gf_123_0, gf_123_1, pt_123_1, gf_123_2, pt_123_2, gf_123_3, pt_123_3, gf_123_4, pt_123_4, gf_123_5, pt_123_5, gf_123_6, pt_123_6, gf_123_7, pt_123_7, gf_123_8, pt_123_8, gf_123_9, gf_123_10, gf_123_11, gf_123_12, gf_123_13, pt_123_13_0, pt_123_13_1, gf_123_14, pt_123_14_0, pt_123_14_1, gf_123_15, gf_123_16, gf_123_17, gf_123_18, gf_123_19, gf_123_20, gf_123_21, gf_123_22, gf_123_23, gf_123_24, gf_123_25, pt_123_25, gf_123_26, gf_123_27, pt_123_27, gf_123_28, pt_123_28, gf_123_29, gf_123_30, pt_123_30, gf_123_31, pt_123_31, gf_123_32, pt_123_32, gf_123_33, pt_123_33, gf_123_34, pt_123_34_0, pt_123_34_1, gf_123_35, gf_123_36, gf_123_37, gf_123_38, pt_123_38, gf_123_39, pt_123_39, gf_123_40, pt_123_40, gf_123_41, gf_123_42, gf_123_43, gf_123_44, gf_123_45, gf_123_46, gf_123_47, pt_123_47, a1, u2, u3, u4, u5, v 1 (by decide) (by decide), v 2 (by decide) (by decide), v 3 (by decide) (by decide), v 4 (by decide) (by decide), c1, c2, lg_self, if_true]
theorem lw_20 (hi : i + 5 ≤ scr.length) (hl : scr.length ≤ 2560) (h : cokI (some scr) 99 183 [.int (scV scr (i + 1)), .int (scV scr (i + 2)), .int (scV scr (i + 3)), .int (scV scr (i + 4))] M Q) : ∃ M2, ab_res (some scr) 205 13 M 878 (lwL i) [] = ab_res (some scr) 205 13 M2 18 (lwL (i + 5)) [] ∧ Q M2 := by
  obtain ⟨M1, a, M2, c1, c2, q⟩ := h
  refine ⟨M2, ?_, q⟩
  have v := scV_at hi hl
  have u2 : nI i + 2 = nI (i + 2) := nI_add i 2
  have u3 : nI i + 3 = nI (i + 3) := nI_add i 3
  have u4 : nI i + 4 = nI (i + 4) := nI_add i 4
  have u5 : nI i + 5 = nI (i + 5) := nI_add i 5
  unfold lwL
  simp only [q205_878, q205_879, q205_880, q205_881, q205_882, q205_883, q205_884, q205_885, q205_886, q205_887, q205_888, q205_889, q205_890, q205_891, q205_892, q205_893, q205_894, q205_895, q205_896, q205_897, q205_898, q205_899, q205_902, q205_903, q205_904, q205_905, q205_906, q205_907, q205_908, q205_909, q205_910, q205_911, q205_912, q205_913, q205_914, q205_915, q205_916, q205_917, q205_918, q205_919, q205_920, q205_921, q205_922, q205_923, q205_926, q205_929, q205_930, q205_1284, q205_1287, n10, n01, Bool.false_eq_true, ab_bs, ab_bn, ab_pr0, ab_pr1, nl_n, nl_i, nl_r, nl_j, nl_nl, rc_0, gf_0_0, gf_0_1, gf_0_2, gf_0_3, gf_0_4, gf_0_5, gf_0_6, gf_0_7, gf_0_8, gf_0_9, pt_0_9, rc_123, gf_123_0, gf_123_1, pt_123_1, gf_123_2, pt_123_2, gf_123_3, pt_123_3, gf_123_4, pt_123_4, gf_123_5, pt_123_5, gf_123_6, pt_123_6, gf_123_7, pt_123_7, gf_123_8, pt_123_8, gf_123_9, gf_123_10, gf_123_11, gf_123_12, gf_123_13, pt_123_13_0, pt_123_13_1, gf_123_14, pt_123_14_0, pt_123_14_1, gf_123_15, gf_123_16, gf_123_17, gf_123_18, gf_123_19, gf_123_20, gf_123_21, gf_123_22, gf_123_23, gf_123_24, gf_123_25, pt_123_25, gf_123_26, gf_123_27, pt_123_27, gf_123_28, pt_123_28, gf_123_29, gf_123_30, pt_123_30, gf_123_31, pt_123_31, gf_123_32, pt_123_32, gf_123_33, pt_123_33, gf_123_34, pt_123_34_0, pt_123_34_1, gf_123_35, gf_123_36, gf_123_37, gf_123_38, pt_123_38, gf_123_39, pt_123_39, gf_123_40, pt_123_40, gf_123_41, gf_123_42, gf_123_43, gf_123_44, gf_123_45, gf_123_46, gf_123_47, pt_123_47, a1, u2, u3, u4, u5, v 1 (by decide) (by decide), v 2 (by decide) (by decide), v 3 (by decide) (by decide), v 4 (by decide) (by decide), c1, c2, if_true]
theorem lw_21 (hi : i + 5 ≤ scr.length) (hl : scr.length ≤ 2560) (h : cokI (some scr) 100 184 [.int (scV scr (i + 1)), .int (scV scr (i + 2))] M Q) : ∃ M2, ab_res (some scr) 205 13 M 931 (lwL i) [] = ab_res (some scr) 205 13 M2 18 (lwL (i + 5)) [] ∧ Q M2 := by
  obtain ⟨M1, a, M2, c1, c2, q⟩ := h
  refine ⟨M2, ?_, q⟩
  have v := scV_at hi hl
  have u2 : nI i + 2 = nI (i + 2) := nI_add i 2
  have u3 : nI i + 3 = nI (i + 3) := nI_add i 3
  have u4 : nI i + 4 = nI (i + 4) := nI_add i 4
  have u5 : nI i + 5 = nI (i + 5) := nI_add i 5
  unfold lwL
  simp only [q205_931, q205_932, q205_933, q205_934, q205_935, q205_936, q205_937, q205_938, q205_939, q205_940, q205_941, q205_942, q205_945, q205_946, q205_947, q205_948, q205_949, q205_950, q205_951, q205_952, q205_953, q205_954, q205_955, q205_956, q205_959, q205_962, q205_963, q205_1284, q205_1287, n10, n01, Bool.false_eq_true, ab_bs, ab_bn, ab_pr0, ab_pr1, nl_n, nl_i, nl_r, nl_j, nl_nl, rc_0, gf_0_0, gf_0_1, gf_0_2, gf_0_3, gf_0_4, gf_0_5, gf_0_6, gf_0_7, gf_0_8, gf_0_9, pt_0_9, rc_123, gf_123_0, gf_123_1, pt_123_1, gf_123_2, pt_123_2, gf_123_3, pt_123_3, gf_123_4, pt_123_4, gf_123_5, pt_123_5, gf_123_6, pt_123_6, gf_123_7, pt_123_7, gf_123_8, pt_123_8, gf_123_9, gf_123_10, gf_123_11, gf_123_12, gf_123_13, pt_123_13_0, pt_123_13_1, gf_123_14, pt_123_14_0, pt_123_14_1, gf_123_15, gf_123_16, gf_123_17, gf_123_18, gf_123_19, gf_123_20, gf_123_21, gf_123_22, gf_123_23, gf_123_24, gf_123_25, pt_123_25, gf_123_26, gf_123_27, pt_123_27, gf_123_28, pt_123_28, gf_123_29, gf_123_30, pt_123_30, gf_123_31, pt_123_31, gf_123_32, pt_123_32, gf_123_33, pt_123_33, gf_123_34, pt_123_34_0, pt_123_34_1, gf_123_35, gf_123_36, gf_123_37, gf_123_38, pt_123_38, gf_123_39, pt_123_39, gf_123_40, pt_123_40, gf_123_41, gf_123_42, gf_123_43, gf_123_44, gf_123_45, gf_123_46, gf_123_47, pt_123_47, a1, u2, u3, u4, u5, v 1 (by decide) (by decide), v 2 (by decide) (by decide), v 3 (by decide) (by decide), v 4 (by decide) (by decide), c1, c2, if_true]
theorem lw_22 (hi : i + 5 ≤ scr.length) (hl : scr.length ≤ 2560) (h : cokI (some scr) 101 186 [.int (scV scr (i + 1))] M Q) : ∃ M2, ab_res (some scr) 205 13 M 964 (lwL i) [] = ab_res (some scr) 205 13 M2 18 (lwL (i + 5)) [] ∧ Q M2 := by
  obtain ⟨M1, a, M2, c1, c2, q⟩ := h
  refine ⟨M2, ?_, q⟩
  have v := scV_at hi hl
  have u2 : nI i + 2 = nI (i + 2) := nI_add i 2
  have u3 : nI i + 3 = nI (i + 3) := nI_add i 3
  have u4 : nI i + 4 = nI (i + 4) := nI_add i 4
  have u5 : nI i + 5 = nI (i + 5) := nI_add i 5
  unfold lwL
  simp only [q205_964, q205_965, q205_966, q205_967, q205_968, q205_969, q205_970, q205_973, q205_974, q205_975, q205_976, q205_977, q205_978, q205_979, q205_982, q205_985, q205_986, q205_1284, q205_1287, n10, n01, Bool.false_eq_true, ab_bs, ab_bn, ab_pr0, ab_pr1, nl_n, nl_i, nl_r, nl_j, nl_nl, rc_0, gf_0_0, gf_0_1, gf_0_2, gf_0_3, gf_0_4, gf_0_5, gf_0_6, gf_0_7, gf_0_8, gf_0_9, pt_0_9, rc_123, gf_123_0, gf_123_1, pt_123_1, gf_123_2, pt_123_2, gf_123_3, pt_123_3, gf_123_4, pt_123_4, gf_123_5, pt_123_5, gf_123_6, pt_123_6, gf_123_7, pt_123_7, gf_123_8, pt_123_8, gf_123_9, gf_123_10, gf_123_11, gf_123_12, gf_123_13, pt_123_13_0, pt_123_13_1, gf_123_14, pt_123_14_0, pt_123_14_1, gf_123_15, gf_123_16, gf_123_17, gf_123_18, gf_123_19, gf_123_20, gf_123_21, gf_123_22, gf_123_23, gf_123_24, gf_123_25, pt_123_25, gf_123_26, gf_123_27, pt_123_27, gf_123_28, pt_123_28, gf_123_29, gf_123_30, pt_123_30, gf_123_31, pt_123_31, gf_123_32, pt_123_32, gf_123_33, pt_123_33, gf_123_34, pt_123_34_0, pt_123_34_1, gf_123_35, gf_123_36, gf_123_37, gf_123_38, pt_123_38, gf_123_39, pt_123_39, gf_123_40, pt_123_40, gf_123_41, gf_123_42, gf_123_43, gf_123_44, gf_123_45, gf_123_46, gf_123_47, pt_123_47, a1, u2, u3, u4, u5, v 1 (by decide) (by decide), v 2 (by decide) (by decide), v 3 (by decide) (by decide), v 4 (by decide) (by decide), c1, c2, if_true]
theorem lw_23 (hi : i + 5 ≤ scr.length) (hl : scr.length ≤ 2560) (h : cokI (some scr) 102 187 [.int (scV scr (i + 1)), .int (scV scr (i + 2))] M Q) : ∃ M2, ab_res (some scr) 205 13 M 987 (lwL i) [] = ab_res (some scr) 205 13 M2 18 (lwL (i + 5)) [] ∧ Q M2 := by
  obtain ⟨M1, a, M2, c1, c2, q⟩ := h
  refine ⟨M2, ?_, q⟩
  have v := scV_at hi hl
  have u2 : nI i + 2 = nI (i + 2) := nI_add i 2
  have u3 : nI i + 3 = nI (i + 3) := nI_add i 3
  have u4 : nI i + 4 = nI (i + 4) := nI_add i 4
  have u5 : nI i + 5 = nI (i + 5) := nI_add i 5
  unfold lwL
  simp only [q205_987, q205_988, q205_989, q205_990, q205_991, q205_992, q205_993, q205_994, q205_995, q205_996, q205_997, q205_998, q205_1001, q205_1002, q205_1003, q205_1004, q205_1005, q205_1006, q205_1007, q205_1008, q205_1009, q205_1010, q205_1011, q205_1012, q205_1015, q205_1018, q205_1019, q205_1284, q205_1287, n10, n01, Bool.false_eq_true, ab_bs, ab_bn, ab_pr0, ab_pr1, nl_n, nl_i, nl_r, nl_j, nl_nl, rc_0, gf_0_0, gf_0_1, gf_0_2, gf_0_3, gf_0_4, gf_0_5, gf_0_6, gf_0_7, gf_0_8, gf_0_9, pt_0_9, rc_123, gf_123_0, gf_123_1, pt_123_1, gf_123_2, pt_123_2, gf_123_3, pt_123_3, gf_123_4, pt_123_4, gf_123_5, pt_123_5, gf_123_6, pt_123_6, gf_123_7, pt_123_7, gf_123_8, pt_123_8, gf_123_9, gf_123_10, gf_123_11, gf_123_12, gf_123_13, pt_123_13_0, pt_123_13_1, gf_123_14, pt_123_14_0, pt_123_14_1, gf_123_15, gf_123_16, gf_123_17, gf_123_18, gf_123_19, gf_123_20, gf_123_21, gf_123_22, gf_123_23, gf_123_24, gf_123_25, pt_123_25, gf_123_26, gf_123_27, pt_123_27, gf_123_28, pt_123_28, gf_123_29, gf_123_30, pt_123_30, gf_123_31, pt_123_31, gf_123_32, pt_123_32, gf_123_33, pt_123_33, gf_123_34, pt_123_34_0, pt_123_34_1, gf_123_35, gf_123_36, gf_123_37, gf_123_38, pt_123_38, gf_123_39, pt_123_39, gf_123_40, pt_123_40, gf_123_41, gf_123_42, gf_123_43, gf_123_44, gf_123_45, gf_123_46, gf_123_47, pt_123_47, a1, u2, u3, u4, u5, v 1 (by decide) (by decide), v 2 (by decide) (by decide), v 3 (by decide) (by decide), v 4 (by decide) (by decide), c1, c2, if_true]
theorem lw_24 (hi : i + 5 ≤ scr.length) (hl : scr.length ≤ 2560) (h : cokI (some scr) 103 188 [.int (scV scr (i + 1)), .int (scV scr (i + 2)), .int (scV scr (i + 3))] M Q) : ∃ M2, ab_res (some scr) 205 13 M 1020 (lwL i) [] = ab_res (some scr) 205 13 M2 18 (lwL (i + 5)) [] ∧ Q M2 := by
  obtain ⟨M1, a, M2, c1, c2, q⟩ := h
  refine ⟨M2, ?_, q⟩
  have v := scV_at hi hl
  have u2 : nI i + 2 = nI (i + 2) := nI_add i 2
  have u3 : nI i + 3 = nI (i + 3) := nI_add i 3
  have u4 : nI i + 4 = nI (i + 4) := nI_add i 4
  have u5 : nI i + 5 = nI (i + 5) := nI_add i 5
  unfold lwL
  simp only [q205_1020, q205_1021, q205_1022, q205_1023, q205_1024, q205_1025, q205_1026, q205_1027, q205_1028, q205_1029, q205_1030, q205_1031, q205_1032, q205_1033, q205_1034, q205_1035, q205_1036, q205_1039, q205_1040, q205_1041, q205_1042, q205_1043, q205_1044, q205_1045, q205_1046, q205_1047, q205_1048, q205_1049, q205_1050, q205_1051, q205_1052, q205_1053, q205_1054, q205_1055, q205_1058, q205_1061, q205_1062, q205_1284, q205_1287, n10, n01, Bool.false_eq_true, ab_bs, ab_bn, ab_pr0, ab_pr1, nl_n, nl_i, nl_r, nl_j, nl_nl, rc_0, gf_0_0, gf_0_1, gf_0_2, gf_0_3, gf_0_4, gf_0_5, gf_0_6, gf_0_7, gf_0_8, gf_0_9, pt_0_9, rc_123, gf_123_0, gf_123_1, pt_123_1, gf_123_2, pt_123_2, gf_123_3, pt_123_3, gf_123_4, pt_123_4, gf_123_5, pt_123_5, gf_123_6, pt_123_6, gf_123_7, pt_123_7, gf_123_8, pt_123_8, gf_123_9, gf_123_10, gf_123_11, gf_123_12, gf_123_13, pt_123_13_0, pt_123_13_1, gf_123_14, pt_123_14_0, pt_123_14_1, gf_123_15, gf_123_16, gf_123_17, gf_123_18, gf_123_19, gf_123_20, gf_123_21, gf_123_22, gf_123_23, gf_123_24, gf_123_25, pt_123_25, gf_123_26, gf_123_27, pt_123_27, gf_123_28, pt_123_28, gf_123_29, gf_123_30, pt_123_30, gf_123_31, pt_123_31, gf_123_32, pt_123_32, gf_123_33, pt_123_33, gf_123_34, pt_123_34_0, pt_123_34_1, gf_123_35, gf_123_36, gf_123_37, gf_123_38, pt_123_38, gf_123_39, pt_123_39, gf_123_40, pt_123_40, gf_123_41, gf_123_42, gf_123_43, gf_123_44, gf_123_45, gf_123_46, gf_123_47, pt_123_47, a1, u2, u3, u4, u5, v 1 (by decide) (by decide), v 2 (by decide) (by decide), v 3 (by decide) (by decide), v 4 (by decide) (by decide), c1, c2, if_true]
theorem lw_25 (hi : i + 5 ≤ scr.length) (hl : scr.length ≤ 2560) (h : cokI (some scr) 104 189 [.int (scV scr (i + 1))] M Q) : ∃ M2, ab_res (some scr) 205 13 M 1063 (lwL i) [] = ab_res (some scr) 205 13 M2 18 (lwL (i + 5)) [] ∧ Q M2 := by
  obtain ⟨M1, a, M2, c1, c2, q⟩ := h
  refine ⟨M2, ?_, q⟩
  have v := scV_at hi hl
  have u2 : nI i + 2 = nI (i + 2) := nI_add i 2
  have u3 : nI i + 3 = nI (i + 3) := nI_add i 3
  have u4 : nI i + 4 = nI (i + 4) := nI_add i 4
  have u5 : nI i + 5 = nI (i + 5) := nI_add i 5
  unfold lwL
  simp only [q205_1063, q205_1064, q205_1065, q205_1066, q205_1067, q205_1068, q205_1069, q205_1072, q205_1073, q205_1074, q205_1075, q205_1076, q205_1077, q205_1078, q205_1081, q205_1084, q205_1085, q205_1284, q205_1287, n10, n01, Bool.false_eq_true, ab_bs, ab_bn, ab_pr0, ab_pr1, nl_n, nl_i, nl_r, nl_j, nl_nl, rc_0, gf_0_0, gf_0_1, gf_0_2, gf_0_3, gf_0_4, gf_0_5, gf_0_6, gf_0_7, gf_0_8, gf_0_9, pt_0_9, rc_123, gf_123_0, gf_123_1, pt_123_1, gf_123_2, pt_123_2, gf_123_3, pt_123_3, gf_123_4, pt_123_4, gf_123_5, pt_123_5, gf_123_6, pt_123_6, gf_123_7, pt_123_7, gf_123_8, pt_123_8, gf_123_9, gf_123_10, gf_123_11, gf_123_12, gf_123_13, pt_123_13_0, pt_123_13_1, gf_123_14, pt_123_14_0, pt_123_14_1, gf_123_15, gf_123_16, gf_123_17, gf_123_18, gf_123_19, gf_123_20, gf_123_21, gf_123_22, gf_123_23, gf_123_24, gf_123_25, pt_123_25, gf_123_26, gf_123_27, pt_123_27, gf_123_28, pt_123_28, gf_123_29, gf_123_30, pt_123_30, gf_123_31, pt_123_31, gf_123_32, pt_123_32, gf_123_33, pt_123_33, gf_123_34, pt_123_34_0, pt_123_34_1, gf_123_35, gf_123_36, gf_123_37, gf_123_38, pt_123_38, gf_123_39, pt_123_39, gf_123_40, pt_123_40, gf_123_41, gf_123_42, gf_123_43, gf_123_44, gf_123_45, gf_123_46, gf_123_47, pt_123_47, a1, u2, u3, u4, u5, v 1 (by decide) (by decide), v 2 (by decide) (by decide), v 3 (by decide) (by decide), v 4 (by decide) (by decide), c1, c2, if_true]
theorem lw_26 (hi : i + 5 ≤ scr.length) (hl : scr.length ≤ 2560) (h : cokI (some scr) 105 190 [.int (scV scr (i + 1))] M Q) : ∃ M2, ab_res (some scr) 205 13 M 1086 (lwL i) [] = ab_res (some scr) 205 13 M2 18 (lwL (i + 5)) [] ∧ Q M2 := by
  obtain ⟨M1, a, M2, c1, c2, q⟩ := h
  refine ⟨M2, ?_, q⟩
  have v := scV_at hi hl
  have u2 : nI i + 2 = nI (i + 2) := nI_add i 2
  have u3 : nI i + 3 = nI (i + 3) := nI_add i 3
  have u4 : nI i + 4 = nI (i + 4) := nI_add i 4
  have u5 : nI i + 5 = nI (i + 5) := nI_add i 5
  unfold lwL
  simp only [q205_1086, q205_1087, q205_1088, q205_1089, q205_1090, q205_1091, q205_1092, q205_1095, q205_1096, q205_1097, q205_1098, q205_1099, q205_1100, q205_1101, q205_1104, q205_1107, q205_1108, q205_1284, q205_1287, n10, n01, Bool.false_eq_true, ab_bs, ab_bn, ab_pr0, ab_pr1, nl_n, nl_i, nl_r, nl_j, nl_nl, rc_0, gf_0_0, gf_0_1, gf_0_2, gf_0_3, gf_0_4, gf_0_5, gf_0_6, gf_0_7, gf_0_8, gf_0_9, pt_0_9, rc_123, gf_123_0, gf_123_1, pt_123_1, gf_123_2, pt_123_2, gf_123_3, pt_123_3, gf_123_4, pt_123_4, gf_123_5, pt_123_5, gf_123_6, pt_123_6, gf_123_7, pt_123_7, gf_123_8, pt_123_8, gf_123_9, gf_123_10, gf_123_11, gf_123_12, gf_123_13, pt_123_13_0, pt_123_13_1, gf_123_14, pt_123_14_0, pt_123_14_1, gf_123_15, gf_123_16, gf_123_17, gf_123_18, gf_123_19, gf_123_20, gf_123_21, gf_123_22, gf_123_23, gf_123_24, gf_123_25, pt_123_25, gf_123_26, gf_123_27, pt_123_27, gf_123_28, pt_123_28, gf_123_29, gf_123_30, pt_123_30, gf_123_31, pt_123_31, gf_123_32, pt_123_32, gf_123_33, pt_123_33, gf_123_34, pt_123_34_0, pt_123_34_1, gf_123_35, gf_123_36, gf_123_37, gf_123_38, pt_123_38, gf_123_39, pt_123_39, gf_123_40, pt_123_40, gf_123_41, gf_123_42, gf_123_43, gf_123_44, gf_123_45, gf_123_46, gf_123_47, pt_123_47, a1, u2, u3, u4, u5, v 1 (by decide) (by decide), v 2 (by decide) (by decide), v 3 (by decide) (by decide), v 4 (by decide) (by decide), c1, c2, if_true]
theorem lw_27 (hi : i + 5 ≤ scr.length) (hl : scr.length ≤ 2560) (h : cokI (some scr) 106 191 [.int (scV scr (i + 1)), .int (scV scr (i + 2)), .int (scV scr (i + 3))] M Q) : ∃ M2, ab_res (some scr) 205 13 M 1109 (lwL i) [] = ab_res (some scr) 205 13 M2 18 (lwL (i + 5)) [] ∧ Q M2 := by
  obtain ⟨M1, a, M2, c1, c2, q⟩ := h
  refine ⟨M2, ?_, q⟩
  have v := scV_at hi hl
  have u2 : nI i + 2 = nI (i + 2) := nI_add i 2
  have u3 : nI i + 3 = nI (i + 3) := nI_add i 3
  have u4 : nI i + 4 = nI (i + 4) := nI_add i 4
  have u5 : nI i + 5 = nI (i + 5) := nI_add i 5
  unfold lwL
  simp only [q205_1109, q205_1110, q205_1111, q205_1112, q205_1113, q205_1114, q205_1115, q205_1116, q205_1117, q205_1118, q205_1119, q205_1120, q205_1121, q205_1122, q205_1123, q205_1124, q205_1125, q205_1128, q205_1129, q205_1130, q205_1131, q205_1132, q205_1133, q205_1134, q205_1135, q205_1136, q205_1137, q205_1138, q205_1139, q205_1140, q205_1141, q205_1142, q205_1143, q205_1144, q205_1147, q205_1150, q205_1151, q205_1284, q205_1287, n10, n01, Bool.false_eq_true, ab_bs, ab_bn, ab_pr0, ab_pr1, nl_n, nl_i, nl_r, nl_j, nl_nl, rc_0, gf_0_0, gf_0_1, gf_0_2, gf_0_3, gf_0_4, gf_0_5, gf_0_6, gf_0_7, gf_0_8, gf_0_9, pt_0_9, rc_123, gf_123_0, gf_123_1, pt_123_1, gf_123_2, pt_123_2, gf_123_3, pt_123_3, gf_123_4, pt_123_4, gf_123_5, pt_123_5, gf_123_6, pt_123_6, gf_123_7, pt_123_7, gf_123_8, pt_123_8, gf_123_9, gf_123_10, gf_123_11, gf_123_12, gf_123_13, pt_123_13_0, pt_123_13_1, gf_123_14, pt_123_14_0, pt_123_14_1, gf_123_15, gf_123_16, gf_123_17, gf_123_18, gf_123_19, gf_123_20, gf_123_21, gf_123_22, gf_123_23, gf_123_24, gf_123_25, pt_123_25, gf_123_26, gf_123_27, pt_123_27, gf_123_28, pt_123_28, gf_123_29, gf_123_30, pt_123_30, gf_123_31, pt_123_31, gf_123_32, pt_123_32, gf_123_33, pt_123_33, gf_123_34, pt_123_34_0, pt_123_34_1, gf_123_35, gf_123_36, gf_123_37, gf_123_38, pt_123_38, gf_123_39, pt_123_39, gf_123_40, pt_123_40, gf_123_41, gf_123_42, gf_123_43, gf_123_44, gf_123_45, gf_123_46, gf_123_47, pt_123_47, a1, u2, u3, u4, u5, v 1 (by decide) (by decide), v 2 (by decide) (by decide), v 3 (by decide) (by decide), v 4 (by decide) (by decide), c1, c2, if_true]
theorem lw_28 (hi : i + 5 ≤ scr.length) (hl : scr.length ≤ 2560) (h : cokI (some scr) 107 192 [.int (scV scr (i + 1)), .int (scV scr (i + 2)), .int (scV scr (i + 3))] M Q) : ∃ M2, ab_res (some scr) 205 13 M 1152 (lwL i) [] = ab_res (some scr) 205 13 M2 18 (lwL (i + 5)) [] ∧ Q M2 := by
  obtain ⟨M1, a, M2, c1, c2, q⟩ := h
  refine ⟨M2, ?_, q⟩
  have v := scV_at hi hl
  have u2 : nI i + 2 = nI (i + 2) := nI_add i 2
  have u3 : nI i + 3 = nI (i + 3) := nI_add i 3
  have u4 : nI i + 4 = nI (i + 4) := nI_add i 4
  have u5 : nI i + 5 = nI (i + 5) := nI_add i 5
  unfold lwL
  simp only [q205_1152, q205_1153, q205_1154, q205_1155, q205_1156, q205_1157, q205_1158, q205_1159, q205_1160, q205_1161, q205_1162, q205_1163, q205_1164, q205_1165, q205_1166, q205_1167, q205_1168, q205_1171, q205_1172, q205_1173, q205_1174, q205_1175, q205_1176, q205_1177, q205_1178, q205_1179, q205_1180, q205_1181, q205_1182, q205_1183, q205_1184, q205_1185, q205_1186, q205_1187, q205_1190, q205_1193, q205_1194, q205_1284, q205_1287, n10, n01, Bool.false_eq_true, ab_bs, ab_bn, ab_pr0, ab_pr1, nl_n, nl_i, nl_r, nl_j, nl_nl, rc_0, gf_0_0, gf_0_1, gf_0_2, gf_0_3, gf_0_4, gf_0_5, gf_0_6, gf_0_7, gf_0_8, gf_0_9, pt_0_9, rc_123, gf_123_0, gf_123_1, pt_123_1, gf_123_2, pt_123_2, gf_123_3, pt_123_3, gf_123_4, pt_123_4, gf_123_5, pt_123_5, gf_123_6, pt_123_6, gf_123_7, pt_123_7, gf_123_8, pt_123_8, gf_123_9, gf_123_10, gf_123_11, gf_123_12, gf_123_13, pt_123_13_0, pt_123_13_1, gf_123_14, pt_123_14_0, pt_123_14_1, gf_123_15, gf_123_16, gf_123_17, gf_123_18, gf_123_19, gf_123_20, gf_123_21, gf_123_22, gf_123_23, gf_123_24, gf_123_25, pt_123_25, gf_123_26, gf_123_27, pt_123_27, gf_123_28, pt_123_28, gf_123_29, gf_123_30, pt_123_30, gf_123_31, pt_123_31, gf_123_32, pt_123_32, gf_123_33, pt_123_33, gf_123_34, pt_123_34_0, pt_123_34_1, gf_123_35, gf_123_36, gf_123_37, gf_123_38, pt_123_38, gf_123_39, pt_123_39, gf_123_40, pt_123_40, gf_123_41, gf_123_42, gf_123_43, gf_123_44, gf_123_45, gf_123_46, gf_123_47, pt_123_47, a1, u2, u3, u4, u5, v 1 (by decide) (by decide), v 2 (by decide) (by decide), v 3 (by decide) (by decide), v 4 (by decide) (by decide), c1, c2, if_true]
theorem lw_29 (hi : i + 5 ≤ scr.length) (hl : scr.length ≤ 2560) (h : cokI (some scr) 108 193 [.int (scV scr (i + 1)), .int (scV scr (i + 2)), .int (scV scr (i + 3)), .int (scV scr (i + 4))] M Q) : ∃ M2, ab_res (some scr) 205 13 M 1195 (lwL i) [] = ab_res (some scr) 205 13 M2 18 (lwL (i + 5)) [] ∧ Q M2 := by
  obtain ⟨M1, a, M2, c1, c2, q⟩ := h
  refine ⟨M2, ?_, q⟩
  have v := scV_at hi hl
  have u2 : nI i + 2 = nI (i + 2) := nI_add i 2
  have u3 : nI i + 3 = nI (i + 3) := nI_add i 3
  have u4 : nI i + 4 = nI (i + 4) := nI_add i 4
  have u5 : nI i + 5 = nI (i + 5) := nI_add i 5
  unfold lwL
  simp only [q205_1195, q205_1196, q205_1197, q205_1198, q205_1199, q205_1200, q205_1201, q205_1202, q205_1203, q205_1204, q205_1205, q205_1206, q205_1207, q205_1208, q205_1209, q205_1210, q205_1211, q205_1212, q205_1213, q205_1214, q205_1215, q205_1216, q205_1219, q205_1220, q205_1221, q205_1222, q205_1223, q205_1224, q205_1225, q205_1226, q205_1227, q205_1228, q205_1229, q205_1230, q205_1231, q205_1232, q205_1233, q205_1234, q205_1235, q205_1236, q205_1237, q205_1238, q205_1239, q205_1240, q205_1243, q205_1246, q205_1247, q205_1284, q205_1287, n10, n01, Bool.false_eq_true, ab_bs, ab_bn, ab_pr0, ab_pr1, nl_n, nl_i, nl_r, nl_j, nl_nl, rc_0, gf_0_0, gf_0_1, gf_0_2, gf_0_3, gf_0_4, gf_0_5, gf_0_6, gf_0_7, gf_0_8, gf_0_9, pt_0_9, rc_123, gf_123_0, gf_123_1, pt_123_1, gf_123_2, pt_123_2, gf_123_3, pt_123_3, gf_123_4, pt_123_4, gf_123_5, pt_123_5, gf_123_6, pt_123_6, gf_123_7, pt_123_7, gf_123_8, pt_123_8, gf_123_9, gf_123_10, gf_123_11, gf_123_12, gf_123_13, pt_123_13_0, pt_123_13_1, gf_123_14, pt_123_14_0, pt_123_14_1, gf_123_15, gf_123_16, gf_123_17, gf_123_18, gf_123_19, gf_123_20, gf_123_21, gf_123_22, gf_123_23, gf_123_24, gf_123_25, pt_123_25, gf_123_26, gf_123_27, pt_123_27, gf_123_28, pt_123_28, gf_123_29, gf_123_30, pt_123_30, gf_123_31, pt_123_31, gf_123_32, pt_123_32, gf_123_33, pt_123_33, gf_123_34, pt_123_34_0, pt_123_34_1, gf_123_35, gf_123_36, gf_123_37, gf_123_38, pt_123_38, gf_123_39, pt_123_39, gf_123_40, pt_123_40, gf_123_41, gf_123_42, gf_123_43, gf_123_44, gf_123_45, gf_123_46, gf_123_47, pt_123_47, a1, u2, u3, u4, u5, v 1 (by decide) (by decide), v 2 (by decide) (by decide), v 3 (by decide) (by decide), v 4 (by decide) (by decide), c1, c2, if_true]
theorem lw_30 (hi : i + 5 ≤ scr.length) (hl : scr.length ≤ 2560) (h : cokI (some scr) 109 194 [] M Q) : ∃ M2, ab_res (some scr) 205 13 M 1248 (lwL i) [] = ab_res (some scr) 205 13 M2 18 (lwL (i + 5)) [] ∧ Q M2 := by
  obtain ⟨M1, a, M2, c1, c2, q⟩ := h
  refine ⟨M2, ?_, q⟩
  have v := scV_at hi hl
  have u2 : nI i + 2 = nI (i + 2) := nI_add i 2
  have u3 : nI i + 3 = nI (i + 3) := nI_add i 3
  have u4 : nI i + 4 = nI (i + 4) := nI_add i 4
  have u5 : nI i + 5 = nI (i + 5) := nI_add i 5
  unfold lwL
  simp only [q205_1248, q205_1249, q205_1252, q205_1253, q205_1256, q205_1259, q205_1260, q205_1284, q205_1287, n10, n01, Bool.false_eq_true, ab_bs, ab_bn, ab_pr0, ab_pr1, nl_n, nl_i, nl_r, nl_j, nl_nl, rc_0, gf_0_0, gf_0_1, gf_0_2, gf_0_3, gf_0_4, gf_0_5, gf_0_6, gf_0_7, gf_0_8, gf_0_9, pt_0_9, rc_123, gf_123_0, gf_123_1, pt_123_1, gf_123_2, pt_123_2, gf_123_3, pt_123_3, gf_123_4, pt_123_4, gf_123_5, pt_123_5, gf_123_6, pt_123_6, gf_123_7, pt_123_7, gf_123_8, pt_123_8, gf_123_9, gf_123_10, gf_123_11, gf_123_12, gf_123_13, pt_123_13_0, pt_123_13_1, gf_123_14, pt_123_14_0, pt_123_14_1, gf_123_15, gf_123_16, gf_123_17, gf_123_18, gf_123_19, gf_123_20, gf_123_21, gf_123_22, gf_123_23, gf_123_24, gf_123_25, pt_123_25, gf_123_26, gf_123_27, pt_123_27, gf_123_28, pt_123_28, gf_123_29, gf_123_30, pt_123_30, gf_123_31, pt_123_31, gf_123_32, pt_123_32, gf_123_33, pt_123_33, gf_123_34, pt_123_34_0, pt_123_34_1, gf_123_35, gf_123_36, gf_123_37, gf_123_38, pt_123_38, gf_123_39, pt_123_39, gf_123_40, pt_123_40, gf_123_41, gf_123_42, gf_123_43, gf_123_44, gf_123_45, gf_123_46, gf_123_47, pt_123_47, a1, u2, u3, u4, u5, v 1 (by decide) (by decide), v 2 (by decide) (by decide), v 3 (by decide) (by decide), v 4 (by decide) (by decide), c1, c2, if_true]
theorem lw_31 (hi : i + 5 ≤ scr.length) (hl : scr.length ≤ 2560) (h : cokI (some scr) 110 195 [.int (scV scr (i + 1))] M Q) : ∃ M2, ab_res (some scr) 205 13 M 1261 (lwL i) [] = ab_res (some scr) 205 13 M2 18 (lwL (i + 5)) [] ∧ Q M2 := by
  obtain ⟨M1, a, M2, c1, c2, q⟩ := h
  refine ⟨M2, ?_, q⟩
  have v := scV_at hi hl
  have u2 : nI i + 2 = nI (i + 2) := nI_add i 2
  have u3 : nI i + 3 = nI (i + 3) := nI_add i 3
  have u4 : nI i + 4 = nI (i + 4) := nI_add i 4
  have u5 : nI i + 5 = nI (i + 5) := nI_add i 5
  unfold lwL
  simp only [q205_1261, q205_1262, q205_1263, q205_1264, q205_1265, q205_1266, q205_1267, q205_1270, q205_1271, q205_1272, q205_1273, q205_1274, q205_1275, q205_1276, q205_1279, q205_1282, q205_1283, q205_1284, q205_1287, n10, n01, Bool.false_eq_true, ab_bs, ab_bn, ab_pr0, ab_pr1, nl_n, nl_i, nl_r, nl_j, nl_nl, rc_0, gf_0_0, gf_0_1, gf_0_2, gf_0_3, gf_0_4, gf_0_5, gf_0_6, gf_0_7, gf_0_8, gf_0_9, pt_0_9, rc_123, gf_123_0, gf_123_1, pt_123_1, gf_123_2, pt_123_2, gf_123_3, pt_123_3, gf_123_4, pt_123_4, gf_123_5, pt_123_5, gf_123_6, pt_123_6, gf_123_7, pt_123_7, gf_123_8, pt_123_8, gf_123_9, gf_123_10, gf_123_11, gf_123_12, gf_123_13, pt_123_13_0, pt_123_13_1, gf_123_14, pt_123_14_0, pt_123_14_1, gf_123_15, gf_123_16, gf_123_17, gf_123_18, gf_123_19, gf_123_20, gf_123_21, gf_123_22, gf_123_23, gf_123_24, gf_123_25, pt_123_25, gf_123_26, gf_123_27, pt_123_27, gf_123_28, pt_123_28, gf_123_29, gf_123_30, pt_123_30, gf_123_31, pt_123_31, gf_123_32, pt_123_32, gf_123_33, pt_123_33, gf_123_34, pt_123_34_0, pt_123_34_1, gf_123_35, gf_123_36, gf_123_37, gf_123_38, pt_123_38, gf_123_39, pt_123_39, gf_123_40, pt_123_40, gf_123_41, gf_123_42, gf_123_43, gf_123_44, gf_123_45, gf_123_46, gf_123_47, pt_123_47, a1, u2, u3, u4, u5, v 1 (by decide) (by decide), v 2 (by decide) (by decide), v 3 (by decide) (by decide), v 4 (by decide) (by decide), c1, c2, if_true]
end
