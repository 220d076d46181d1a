/-! table: the four numbers of a ONE -/
def lwN (w v0 : Nat) : Nat := if w = 0 then 0 else if w = 1 then v0 + 1 else 1
def hwN (w : Nat) : Nat := [239, 240, 99, 99].getD w 0
def rPc (w : Nat) : Nat := [33, 49, 74, 89, 104].getD w 0
section
variable {scr : Option (List Int32)} {B : Nat → Nat} {L : Nat}
theorem ro_c {S S' : ab_M} {n w : Nat} {l3 : Option Value} {lo hi : Int32} (hn : n < 8) (hw : w < 4) (h1 : w = 1 → S 6 n + 1 = lo) (h2 : w ≠ 1 → nI (lwN w 0) = lo) (h3 : nI (hwN w) = hi) : (ab_ms scr 66 [.ref 3, .int lo, .int hi] S = some (S', some (.int 1)) → ab_res scr 62 5 S 28 [some (.ref 3), some (.int (nI n)), some (.int (nI w)), l3] [] = ab_res scr 62 5 (ab_up S' (6 + w) n (S' 1 5)) 28 [some (.ref 3), some (.int (nI n)), some (.int (nI (w + 1))), some (.int lo)] []) ∧ (ab_ms scr 66 [.ref 3, .int lo, .int hi] S = some (S', some (.int 0)) → ab_res scr 62 5 S 28 [some (.ref 3), some (.int (nI n)), some (.int (nI w)), l3] [] = some (S', some (.int 0))) := by
  have hc : (nI n).toNatClampNeg = n := nI_clamp (by omega)
  have hq : ab_qe 5 (nI w) = some (.ref (6 + w)) := qe_5 (by omega)
  have hs : ∀ i, ab_si (6 + w) .int i = ab_inB i 8 := si_f5 (by omega)
  have x3 : ¬ (3 : Int32) < nI w := Int32.not_lt.mpr ((nI_leI (a := w) (b := 3) (by omega) (by decide)).mpr (by omega))
  have m : ab_ald scr ab_L0 S 2001 .int (nI w) = some hi := by
    rw [← h3]
    have : w = 0 ∨ w = 1 ∨ w = 2 ∨ w = 3 := by omega
    rcases this with rfl | rfl | rfl | rfl <;> rw [al_2001] <;> rfl
  by_cases e : w = 1
  · have e1 : nI w = 1 := by rw [e]; rfl
    have l : S 6 n + 1 = lo := h1 e
    have x4 : ¬ (3 : Int32) < 1 := by decide
    refine ⟨fun h => ?_, fun h => ?_⟩
    · rw [q62_28]
      simp only [q62_0, q62_1, q62_4, q62_7, q62_9, q62_12, q62_13, q62_14, q62_17, q62_18, q62_19, q62_22, q62_25, q62_26, q62_27, q62_29, q62_30, q62_33, q62_34, q62_35, q62_38, q62_39, q62_42, q62_45, q62_46, q62_47, q62_48, q62_49, q62_50, q62_51, q62_54, q62_57, q62_58, q62_59, q62_60, q62_61, q62_62, q62_65, q62_66, q62_67, q62_70, q62_73, q62_74, q62_75, q62_76, q62_79, q62_82, q62_83, q62_84, q62_85, q62_86, q62_89, q62_92, q62_93, q62_96, q62_99, q62_100, n10, n01, Bool.false_eq_true, ab_bs, ab_bn, ab_pr0, ab_pr1, nl_n, nl_i, nl_r, nl_j, nl_nl, rc_3, gf_3_0, gf_3_1, gf_3_2, pt_3_2, gf_3_3, pt_3_3, gf_3_4, pt_3_4_0, pt_3_4_1, rc_4, gf_4_0, gf_4_1, gf_4_2, gf_4_3, pt_4_3, gf_4_4, pt_4_4, gf_4_5, pt_4_5, qe_5_0, qe_5_1, qe_5_2, qe_5_3, qe_5_4, qe_5_5, qe_5_6, qe_5_7, qe_5, ln_6, al_6, si_6, rc_1, gf_1_0, gf_1_1, pt_1_1, gf_1_2, pt_1_2, gf_1_3, pt_1_3, gf_1_4, pt_1_4, gf_1_5, pt_1_5, e1, x4, if_false, not_true, ib8 hn, hc, if_true, l]
      rw [e1] at m hq
      simp only [q62_0, q62_1, q62_4, q62_7, q62_9, q62_12, q62_13, q62_14, q62_17, q62_18, q62_19, q62_22, q62_25, q62_26, q62_27, q62_29, q62_30, q62_33, q62_34, q62_35, q62_38, q62_39, q62_42, q62_45, q62_46, q62_47, q62_48, q62_49, q62_50, q62_51, q62_54, q62_57, q62_58, q62_59, q62_60, q62_61, q62_62, q62_65, q62_66, q62_67, q62_70, q62_73, q62_74, q62_75, q62_76, q62_79, q62_82, q62_83, q62_84, q62_85, q62_86, q62_89, q62_92, q62_93, q62_96, q62_99, q62_100, n10, n01, Bool.false_eq_true, ab_bs, ab_bn, ab_pr0, ab_pr1, nl_n, nl_i, nl_r, nl_j, nl_nl, rc_3, gf_3_0, gf_3_1, gf_3_2, pt_3_2, gf_3_3, pt_3_3, gf_3_4, pt_3_4_0, pt_3_4_1, rc_4, gf_4_0, gf_4_1, gf_4_2, gf_4_3, pt_4_3, gf_4_4, pt_4_4, gf_4_5, pt_4_5, rc_1, gf_1_0, gf_1_1, pt_1_1, gf_1_2, pt_1_2, gf_1_3, pt_1_3, gf_1_4, pt_1_4, gf_1_5, pt_1_5, m, h, hq, hs, ib8 hn, hc, if_true, (show ¬ (1 : Int32) = 0 by decide), not_false_eq_true, ← nI_1, e1]
    · rw [q62_28]
      simp only [q62_0, q62_1, q62_4, q62_7, q62_9, q62_12, q62_13, q62_14, q62_17, q62_18, q62_19, q62_22, q62_25, q62_26, q62_27, q62_29, q62_30, q62_33, q62_34, q62_35, q62_38, q62_39, q62_42, q62_45, q62_46, q62_47, q62_48, q62_49, q62_50, q62_51, q62_54, q62_57, q62_58, q62_59, q62_60, q62_61, q62_62, q62_65, q62_66, q62_67, q62_70, q62_73, q62_74, q62_75, q62_76, q62_79, q62_82, q62_83, q62_84, q62_85, q62_86, q62_89, q62_92, q62_93, q62_96, q62_99, q62_100, n10, n01, Bool.false_eq_true, ab_bs, ab_bn, ab_pr0, ab_pr1, nl_n, nl_i, nl_r, nl_j, nl_nl, rc_3, gf_3_0, gf_3_1, gf_3_2, pt_3_2, gf_3_3, pt_3_3, gf_3_4, pt_3_4_0, pt_3_4_1, rc_4, gf_4_0, gf_4_1, gf_4_2, gf_4_3, pt_4_3, gf_4_4, pt_4_4, gf_4_5, pt_4_5, qe_5_0, qe_5_1, qe_5_2, qe_5_3, qe_5_4, qe_5_5, qe_5_6, qe_5_7, qe_5, ln_6, al_6, si_6, rc_1, gf_1_0, gf_1_1, pt_1_1, gf_1_2, pt_1_2, gf_1_3, pt_1_3, gf_1_4, pt_1_4, gf_1_5, pt_1_5, e1, x4, if_false, not_true, ib8 hn, hc, if_true, l]
      rw [e1] at m
      simp only [q62_0, q62_1, q62_4, q62_7, q62_9, q62_12, q62_13, q62_14, q62_17, q62_18, q62_19, q62_22, q62_25, q62_26, q62_27, q62_29, q62_30, q62_33, q62_34, q62_35, q62_38, q62_39, q62_42, q62_45, q62_46, q62_47, q62_48, q62_49, q62_50, q62_51, q62_54, q62_57, q62_58, q62_59, q62_60, q62_61, q62_62, q62_65, q62_66, q62_67, q62_70, q62_73, q62_74, q62_75, q62_76, q62_79, q62_82, q62_83, q62_84, q62_85, q62_86, q62_89, q62_92, q62_93, q62_96, q62_99, q62_100, n10, n01, Bool.false_eq_true, ab_bs, ab_bn, ab_pr0, ab_pr1, nl_n, nl_i, nl_r, nl_j, nl_nl, rc_3, gf_3_0, gf_3_1, gf_3_2, pt_3_2, gf_3_3, pt_3_3, gf_3_4, pt_3_4_0, pt_3_4_1, m, h, not_true, if_false, narrow_b0]
  · have e1 : ¬ nI w = 1 := fun y => e ((nI_eq (a := w) (b := 1) (by omega) (by decide)).mp y)
    have l : ab_ald scr ab_L0 S 2000 .int (nI w) = some lo := by
      rw [← h2 e]
      have : w = 0 ∨ w = 2 ∨ w = 3 := by omega
      rcases this with rfl | rfl | rfl <;> rw [al_2000] <;> rfl
    refine ⟨fun h => ?_, fun h => ?_⟩
    · rw [q62_28]
      simp only [q62_0, q62_1, q62_4, q62_7, q62_9, q62_12, q62_13, q62_14, q62_17, q62_18, q62_19, q62_22, q62_25, q62_26, q62_27, q62_29, q62_30, q62_33, q62_34, q62_35, q62_38, q62_39, q62_42, q62_45, q62_46, q62_47, q62_48, q62_49, q62_50, q62_51, q62_54, q62_57, q62_58, q62_59, q62_60, q62_61, q62_62, q62_65, q62_66, q62_67, q62_70, q62_73, q62_74, q62_75, q62_76, q62_79, q62_82, q62_83, q62_84, q62_85, q62_86, q62_89, q62_92, q62_93, q62_96, q62_99, q62_100, n10, n01, Bool.false_eq_true, ab_bs, ab_bn, ab_pr0, ab_pr1, nl_n, nl_i, nl_r, nl_j, nl_nl, rc_3, gf_3_0, gf_3_1, gf_3_2, pt_3_2, gf_3_3, pt_3_3, gf_3_4, pt_3_4_0, pt_3_4_1, rc_4, gf_4_0, gf_4_1, gf_4_2, gf_4_3, pt_4_3, gf_4_4, pt_4_4, gf_4_5, pt_4_5, rc_1, gf_1_0, gf_1_1, pt_1_1, gf_1_2, pt_1_2, gf_1_3, pt_1_3, gf_1_4, pt_1_4, gf_1_5, pt_1_5, x3, if_false, e1, not_false_eq_true, if_true, l, m, h, hq, hs, ib8 hn, hc, (show ¬ (1 : Int32) = 0 by decide), a1]
    · rw [q62_28]
      simp only [q62_0, q62_1, q62_4, q62_7, q62_9, q62_12, q62_13, q62_14, q62_17, q62_18, q62_19, q62_22, q62_25, q62_26, q62_27, q62_29, q62_30, q62_33, q62_34, q62_35, q62_38, q62_39, q62_42, q62_45, q62_46, q62_47, q62_48, q62_49, q62_50, q62_51, q62_54, q62_57, q62_58, q62_59, q62_60, q62_61, q62_62, q62_65, q62_66, q62_67, q62_70, q62_73, q62_74, q62_75, q62_76, q62_79, q62_82, q62_83, q62_84, q62_85, q62_86, q62_89, q62_92, q62_93, q62_96, q62_99, q62_100, n10, n01, Bool.false_eq_true, ab_bs, ab_bn, ab_pr0, ab_pr1, nl_n, nl_i, nl_r, nl_j, nl_nl, rc_3, gf_3_0, gf_3_1, gf_3_2, pt_3_2, gf_3_3, pt_3_3, gf_3_4, pt_3_4_0, pt_3_4_1, rc_4, gf_4_0, gf_4_1, gf_4_2, gf_4_3, pt_4_3, gf_4_4, pt_4_4, gf_4_5, pt_4_5, rc_1, gf_1_0, gf_1_1, pt_1_1, gf_1_2, pt_1_2, gf_1_3, pt_1_3, gf_1_4, pt_1_4, gf_1_5, pt_1_5, x3, if_false, e1, not_false_eq_true, if_true, l, m, h, not_true, narrow_b0]
theorem ro_r {N N' : ab_M} {n w v0 : Nat} {v : Int32} (hn : n < 8) (hw : w < 4) (h1 : w = 1 → N 128 (9 * n) = nI v0) (h : ab_ms scr 128 [.ref 123, .int (nI (lwN w v0)), .int (nI (hwN w))] N = some (N', some (.int v))) : ab_res scr 130 5 N (rPc w) [some (.ref 123), some (.int (nI (9 * n))), none, none] [] = ab_res scr 130 5 (ab_up N' 128 (9 * n + w) v) (rPc (w + 1)) [some (.ref 123), some (.int (nI (9 * n))), none, none] [] := by
  have u0 : nI (9 * n) + 0 = nI (9 * n) := nI_add _ 0
  have : w = 0 ∨ w = 1 ∨ w = 2 ∨ w = 3 := by omega
  rcases this with rfl | rfl | rfl | rfl
  · have h : ab_ms scr 128 [.ref 123, .int 0, .int 239] N = some (N', some (.int v)) := h
    show ab_res scr 130 5 N 33 _ [] = ab_res scr 130 5 (ab_up N' 128 (9 * n) v) 49 _ []
    rw [q130_33]
    simp only [q130_0, q130_1, q130_4, q130_6, q130_7, q130_9, q130_12, q130_13, q130_14, q130_17, q130_18, q130_19, q130_22, q130_24, q130_25, q130_28, q130_30, q130_31, q130_32, q130_34, q130_37, q130_38, q130_39, q130_40, q130_41, q130_42, q130_45, q130_48, q130_50, q130_53, q130_54, q130_55, q130_56, q130_57, q130_58, q130_61, q130_62, q130_63, q130_64, q130_65, q130_66, q130_67, q130_70, q130_73, q130_74, q130_75, q130_78, q130_79, q130_80, q130_81, q130_82, q130_83, q130_85, q130_88, q130_89, q130_90, q130_93, q130_94, q130_95, q130_96, q130_97, q130_98, q130_100, q130_103, q130_104, q130_105, q130_108, q130_109, q130_110, q130_111, q130_114, q130_115, q130_116, q130_119, q130_120, q130_121, q130_122, q130_123, q130_124, q130_125, q130_128, q130_129, q130_131, q130_132, q130_133, q130_134, q130_135, q130_138, q130_139, q130_141, q130_142, q130_143, q130_144, q130_145, q130_148, q130_149, q130_151, q130_152, q130_153, q130_154, q130_155, q130_156, q130_157, q130_160, q130_161, q130_162, q130_165, q130_168, q130_169, q130_170, q130_173, q130_174, q130_175, q130_176, q130_177, q130_178, q130_179, q130_182, q130_183, q130_184, q130_187, q130_188, q130_189, q130_190, q130_191, q130_192, q130_193, q130_194, q130_195, q130_196, q130_199, q130_200, q130_203, q130_204, q130_207, q130_208, q130_211, q130_213, q130_214, q130_215, q130_216, q130_217, q130_218, n10, n01, Bool.false_eq_true, ab_bs, ab_bn, ab_pr0, ab_pr1, nl_n, nl_i, nl_r, nl_j, nl_nl, rc_123, gf_123_0, gf_123_1, pt_123_1, gf_123_2, pt_123_2, gf_123_3, pt_123_3, gf_123_4, pt_123_4, gf_123_5, pt_123_5, gf_123_6, pt_123_6, gf_123_7, pt_123_7, gf_123_8, pt_123_8, gf_123_9, gf_123_10, gf_123_11, gf_123_12, gf_123_13, pt_123_13_0, pt_123_13_1, gf_123_14, pt_123_14_0, pt_123_14_1, gf_123_15, gf_123_16, gf_123_17, gf_123_18, gf_123_19, gf_123_20, gf_123_21, gf_123_22, gf_123_23, gf_123_24, gf_123_25, pt_123_25, gf_123_26, gf_123_27, pt_123_27, gf_123_28, pt_123_28, gf_123_29, gf_123_30, pt_123_30, gf_123_31, pt_123_31, gf_123_32, pt_123_32, gf_123_33, pt_123_33, gf_123_34, pt_123_34_0, pt_123_34_1, gf_123_35, gf_123_36, gf_123_37, gf_123_38, pt_123_38, gf_123_39, pt_123_39, gf_123_40, pt_123_40, gf_123_41, gf_123_42, gf_123_43, gf_123_44, gf_123_45, gf_123_46, gf_123_47, pt_123_47, ln_128, al_128, si_128, u0, h, cn128 (show 9 * n < 74 by omega), (show ab_inB (nI (9 * n)) 74 = true from ib_nI (by omega) (by decide)), if_true]
  · have h : ab_ms scr 128 [.ref 123, .int (nI (v0 + 1)), .int 240] N = some (N', some (.int v)) := h
    have u : nI (9 * n) + 1 = nI (9 * n + 1) := nI_add _ 1
    show ab_res scr 130 5 N 49 _ [] = ab_res scr 130 5 (ab_up N' 128 (9 * n + 1) v) 74 _ []
    rw [q130_49]
    simp only [q130_0, q130_1, q130_4, q130_6, q130_7, q130_9, q130_12, q130_13, q130_14, q130_17, q130_18, q130_19, q130_22, q130_24, q130_25, q130_28, q130_30, q130_31, q130_32, q130_33, q130_34, q130_37, q130_38, q130_39, q130_40, q130_41, q130_42, q130_45, q130_48, q130_50, q130_53, q130_54, q130_55, q130_56, q130_57, q130_58, q130_61, q130_62, q130_63, q130_64, q130_65, q130_66, q130_67, q130_70, q130_73, q130_75, q130_78, q130_79, q130_80, q130_81, q130_82, q130_83, q130_85, q130_88, q130_89, q130_90, q130_93, q130_94, q130_95, q130_96, q130_97, q130_98, q130_100, q130_103, q130_104, q130_105, q130_108, q130_109, q130_110, q130_111, q130_114, q130_115, q130_116, q130_119, q130_120, q130_121, q130_122, q130_123, q130_124, q130_125, q130_128, q130_129, q130_131, q130_132, q130_133, q130_134, q130_135, q130_138, q130_139, q130_141, q130_142, q130_143, q130_144, q130_145, q130_148, q130_149, q130_151, q130_152, q130_153, q130_154, q130_155, q130_156, q130_157, q130_160, q130_161, q130_162, q130_165, q130_168, q130_169, q130_170, q130_173, q130_174, q130_175, q130_176, q130_177, q130_178, q130_179, q130_182, q130_183, q130_184, q130_187, q130_188, q130_189, q130_190, q130_191, q130_192, q130_193, q130_194, q130_195, q130_196, q130_199, q130_200, q130_203, q130_204, q130_207, q130_208, q130_211, q130_213, q130_214, q130_215, q130_216, q130_217, q130_218, n10, n01, Bool.false_eq_true, ab_bs, ab_bn, ab_pr0, ab_pr1, nl_n, nl_i, nl_r, nl_j, nl_nl, rc_123, gf_123_0, gf_123_1, pt_123_1, gf_123_2, pt_123_2, gf_123_3, pt_123_3, gf_123_4, pt_123_4, gf_123_5, pt_123_5, gf_123_6, pt_123_6, gf_123_7, pt_123_7, gf_123_8, pt_123_8, gf_123_9, gf_123_10, gf_123_11, gf_123_12, gf_123_13, pt_123_13_0, pt_123_13_1, gf_123_14, pt_123_14_0, pt_123_14_1, gf_123_15, gf_123_16, gf_123_17, gf_123_18, gf_123_19, gf_123_20, gf_123_21, gf_123_22, gf_123_23, gf_123_24, gf_123_25, pt_123_25, gf_123_26, gf_123_27, pt_123_27, gf_123_28, pt_123_28, gf_123_29, gf_123_30, pt_123_30, gf_123_31, pt_123_31, gf_123_32, pt_123_32, gf_123_33, pt_123_33, gf_123_34, pt_123_34_0, pt_123_34_1, gf_123_35, gf_123_36, gf_123_37, gf_123_38, pt_123_38, gf_123_39, pt_123_39, gf_123_40, pt_123_40, gf_123_41, gf_123_42, gf_123_43, gf_123_44, gf_123_45, gf_123_46, gf_123_47, pt_123_47, ln_128, al_128, si_128, u0, u, h1 rfl, cn128 (show 9 * n < 74 by omega), (show ab_inB (nI (9 * n)) 74 = true from ib_nI (by omega) (by decide)), nI_1, h, cn128 (show 9 * n + 1 < 74 by omega), (show ab_inB (nI (9 * n + 1)) 74 = true from ib_nI (by omega) (by decide)), if_true]
  · have h : ab_ms scr 128 [.ref 123, .int 1, .int 99] N = some (N', some (.int v)) := h
    have u : nI (9 * n) + 2 = nI (9 * n + 2) := nI_add _ 2
    show ab_res scr 130 5 N 74 _ [] = ab_res scr 130 5 (ab_up N' 128 (9 * n + 2) v) 89 _ []
    rw [q130_74]
    simp only [q130_0, q130_1, q130_4, q130_6, q130_7, q130_9, q130_12, q130_13, q130_14, q130_17, q130_18, q130_19, q130_22, q130_24, q130_25, q130_28, q130_30, q130_31, q130_32, q130_33, q130_34, q130_37, q130_38, q130_39, q130_40, q130_41, q130_42, q130_45, q130_48, q130_49, q130_50, q130_53, q130_54, q130_55, q130_56, q130_57, q130_58, q130_61, q130_62, q130_63, q130_64, q130_65, q130_66, q130_67, q130_70, q130_73, q130_75, q130_78, q130_79, q130_80, q130_81, q130_82, q130_83, q130_85, q130_88, q130_90, q130_93, q130_94, q130_95, q130_96, q130_97, q130_98, q130_100, q130_103, q130_104, q130_105, q130_108, q130_109, q130_110, q130_111, q130_114, q130_115, q130_116, q130_119, q130_120, q130_121, q130_122, q130_123, q130_124, q130_125, q130_128, q130_129, q130_131, q130_132, q130_133, q130_134, q130_135, q130_138, q130_139, q130_141, q130_142, q130_143, q130_144, q130_145, q130_148, q130_149, q130_151, q130_152, q130_153, q130_154, q130_155, q130_156, q130_157, q130_160, q130_161, q130_162, q130_165, q130_168, q130_169, q130_170, q130_173, q130_174, q130_175, q130_176, q130_177, q130_178, q130_179, q130_182, q130_183, q130_184, q130_187, q130_188, q130_189, q130_190, q130_191, q130_192, q130_193, q130_194, q130_195, q130_196, q130_199, q130_200, q130_203, q130_204, q130_207, q130_208, q130_211, q130_213, q130_214, q130_215, q130_216, q130_217, q130_218, n10, n01, Bool.false_eq_true, ab_bs, ab_bn, ab_pr0, ab_pr1, nl_n, nl_i, nl_r, nl_j, nl_nl, rc_123, gf_123_0, gf_123_1, pt_123_1, gf_123_2, pt_123_2, gf_123_3, pt_123_3, gf_123_4, pt_123_4, gf_123_5, pt_123_5, gf_123_6, pt_123_6, gf_123_7, pt_123_7, gf_123_8, pt_123_8, gf_123_9, gf_123_10, gf_123_11, gf_123_12, gf_123_13, pt_123_13_0, pt_123_13_1, gf_123_14, pt_123_14_0, pt_123_14_1, gf_123_15, gf_123_16, gf_123_17, gf_123_18, gf_123_19, gf_123_20, gf_123_21, gf_123_22, gf_123_23, gf_123_24, gf_123_25, pt_123_25, gf_123_26, gf_123_27, pt_123_27, gf_123_28, pt_123_28, gf_123_29, gf_123_30, pt_123_30, gf_123_31, pt_123_31, gf_123_32, pt_123_32, gf_123_33, pt_123_33, gf_123_34, pt_123_34_0, pt_123_34_1, gf_123_35, gf_123_36, gf_123_37, gf_123_38, pt_123_38, gf_123_39, pt_123_39, gf_123_40, pt_123_40, gf_123_41, gf_123_42, gf_123_43, gf_123_44, gf_123_45, gf_123_46, gf_123_47, pt_123_47, ln_128, al_128, si_128, u, h, cn128 (show 9 * n + 2 < 74 by omega), (show ab_inB (nI (9 * n + 2)) 74 = true from ib_nI (by omega) (by decide)), if_true]
  · have h : ab_ms scr 128 [.ref 123, .int 1, .int 99] N = some (N', some (.int v)) := h
    have u : nI (9 * n) + 3 = nI (9 * n + 3) := nI_add _ 3
    show ab_res scr 130 5 N 89 _ [] = ab_res scr 130 5 (ab_up N' 128 (9 * n + 3) v) 104 _ []
    rw [q130_89]
    simp only [q130_0, q130_1, q130_4, q130_6, q130_7, q130_9, q130_12, q130_13, q130_14, q130_17, q130_18, q130_19, q130_22, q130_24, q130_25, q130_28, q130_30, q130_31, q130_32, q130_33, q130_34, q130_37, q130_38, q130_39, q130_40, q130_41, q130_42, q130_45, q130_48, q130_49, q130_50, q130_53, q130_54, q130_55, q130_56, q130_57, q130_58, q130_61, q130_62, q130_63, q130_64, q130_65, q130_66, q130_67, q130_70, q130_73, q130_74, q130_75, q130_78, q130_79, q130_80, q130_81, q130_82, q130_83, q130_85, q130_88, q130_90, q130_93, q130_94, q130_95, q130_96, q130_97, q130_98, q130_100, q130_103, q130_105, q130_108, q130_109, q130_110, q130_111, q130_114, q130_115, q130_116, q130_119, q130_120, q130_121, q130_122, q130_123, q130_124, q130_125, q130_128, q130_129, q130_131, q130_132, q130_133, q130_134, q130_135, q130_138, q130_139, q130_141, q130_142, q130_143, q130_144, q130_145, q130_148, q130_149, q130_151, q130_152, q130_153, q130_154, q130_155, q130_156, q130_157, q130_160, q130_161, q130_162, q130_165, q130_168, q130_169, q130_170, q130_173, q130_174, q130_175, q130_176, q130_177, q130_178, q130_179, q130_182, q130_183, q130_184, q130_187, q130_188, q130_189, q130_190, q130_191, q130_192, q130_193, q130_194, q130_195, q130_196, q130_199, q130_200, q130_203, q130_204, q130_207, q130_208, q130_211, q130_213, q130_214, q130_215, q130_216, q130_217, q130_218, n10, n01, Bool.false_eq_true, ab_bs, ab_bn, ab_pr0, ab_pr1, nl_n, nl_i, nl_r, nl_j, nl_nl, rc_123, gf_123_0, gf_123_1, pt_123_1, gf_123_2, pt_123_2, gf_123_3, pt_123_3, gf_123_4, pt_123_4, gf_123_5, pt_123_5, gf_123_6, pt_123_6, gf_123_7, pt_123_7, gf_123_8, pt_123_8, gf_123_9, gf_123_10, gf_123_11, gf_123_12, gf_123_13, pt_123_13_0, pt_123_13_1, gf_123_14, pt_123_14_0, pt_123_14_1, gf_123_15, gf_123_16, gf_123_17, gf_123_18, gf_123_19, gf_123_20, gf_123_21, gf_123_22, gf_123_23, gf_123_24, gf_123_25, pt_123_25, gf_123_26, gf_123_27, pt_123_27, gf_123_28, pt_123_28, gf_123_29, gf_123_30, pt_123_30, gf_123_31, pt_123_31, gf_123_32, pt_123_32, gf_123_33, pt_123_33, gf_123_34, pt_123_34_0, pt_123_34_1, gf_123_35, gf_123_36, gf_123_37, gf_123_38, pt_123_38, gf_123_39, pt_123_39, gf_123_40, pt_123_40, gf_123_41, gf_123_42, gf_123_43, gf_123_44, gf_123_45, gf_123_46, gf_123_47, pt_123_47, ln_128, al_128, si_128, u, h, cn128 (show 9 * n + 3 < 74 by omega), (show ab_inB (nI (9 * n + 3)) 74 = true from ib_nI (by omega) (by decide)), if_true]
theorem dd_w {N : ab_M} {n w : Nat} (hn : n < 8) (hw : w < 5) (h : DA B L N) : ∃ N', ab_res scr 130 5 N (rPc w) [some (.ref 123), some (.int (nI (9 * n))), none, none] [] = some (N', none) ∧ dF N N' := by
  have : w = 0 ∨ w = 1 ∨ w = 2 ∨ w = 3 ∨ w = 4 := by omega
  rcases this with rfl | rfl | rfl | rfl | rfl
  · exact dd_33 hn h
  · exact dd_49 hn h
  · exact dd_74 hn h
  · exact dd_89 hn h
  · exact dd_104 hn h
def cOn (n : Nat) (S S' : ab_M) : Prop := ∀ c j, ¬ (c = 1 ∧ 2 ≤ j ∧ j ≤ 5) → ¬ (c = 3 ∧ 2 ≤ j ∧ j ≤ 3) → ¬ (6 ≤ c ∧ c ≤ 9 ∧ j = n) → S' c j = S c j
def rOn (n : Nat) (N N' : ab_M) : Prop := ∀ c j, ¬ (c = 123 ∧ 3 ≤ j ∧ j ≤ 8) → ¬ (c = 128 ∧ 9 * n ≤ j ∧ j < 9 * n + 4) → N' c j = N c j
theorem CT_F {N N' : ab_M} (h : CT N) (h1 : ∀ j, N' 125 j = N 125 j) (h2 : ∀ j, N' 126 j = N 126 j) : CT N' := ⟨fun n hn => by rw [h1]; exact h.1 n hn, fun w hw i hi => by rw [h2]; exact h.2 w hw i hi⟩
theorem FT_F {S N N' : ab_M} (h : FT S N) (h3 : N' 123 3 = N 123 3) (h4 : N' 123 4 = N 123 4) : FT S N' := by
  obtain ⟨f, a, b, c, d, e⟩ := h
  exact ⟨f, a, b, c, by rw [h3, d], by rw [h4, e]⟩
/-- the told ONE, its four numbers -/
theorem ro_both {S N : ab_M} {n s a e : Nat} (hC : TC B L S) (hR : TR B L N) (hT : CT N) (hn : n < 8) (h2 : S 1 2 = nI s) (hP : TP B L s a e) (hN : NP B L a e N) : ∀ w, w ≤ 4 → (∃ S' N' s' a' e' l3, ∃ v : Nat → Nat, ab_res scr 62 5 S 28 [some (.ref 3), some (.int (nI n)), some (.int (nI 0)), none] [] = ab_res scr 62 5 S' 28 [some (.ref 3), some (.int (nI n)), some (.int (nI w)), l3] [] ∧ ab_res scr 130 5 N 33 [some (.ref 123), some (.int (nI (9 * n))), none, none] [] = ab_res scr 130 5 N' (rPc w) [some (.ref 123), some (.int (nI (9 * n))), none, none] [] ∧ cOn n S S' ∧ rOn n N N' ∧ S' 3 2 = S 3 2 ∧ s ≤ s' ∧ S' 1 2 = nI s' ∧ TP B L s' a' e' ∧ NP B L a' e' N' ∧ ∀ u, u < w → S' (6 + u) n = nI (v u) ∧ N' 128 (9 * n + u) = nI (v u) ∧ lwN u (v 0) ≤ v u ∧ v u ≤ hwN u) ∨ (∃ S' N', ab_res scr 62 5 S 28 [some (.ref 3), some (.int (nI n)), some (.int (nI 0)), none] [] = some (S', some (.int 0)) ∧ ab_res scr 130 5 N 33 [some (.ref 123), some (.int (nI (9 * n))), none, none] [] = some (N', none) ∧ FT S' N' ∧ DA B L N' ∧ (∀ c j, ¬ (c = 1 ∧ 2 ≤ j ∧ j ≤ 5) → ¬ (c = 3 ∧ 2 ≤ j ∧ j ≤ 3) → ¬ (6 ≤ c ∧ c ≤ 15) → S' c j = S c j) ∧ ∀ c j, ¬ (c = 123 ∧ 3 ≤ j ∧ j ≤ 8) → c ≠ 128 → N' c j = N c j) := by
  intro w
  induction w with
  | zero =>
    intro _
    exact Or.inl ⟨S, N, s, a, e, none, fun _ => 0, rfl, rfl, fun _ _ _ _ _ => rfl, fun _ _ _ _ => rfl, rfl, Nat.le_refl _, h2, hP, hN, fun u hu => absurd hu (by omega)⟩
  | succ w ih =>
    intro hw
    rcases ih (by omega) with ⟨S1, N1, s1, a1, e1, l3, v, c1, r1, fc, fr, p32, hs, p2, pP, pN, pv⟩ | hf
    · have hC1 : TC B L S1 := TC_F hC (fc _ _ (by omega) (by omega) (by omega)) (fun j => fc _ _ (by omega) (by omega) (by omega))
      have hR1 : TR B L N1 := TR_F hR (fr _ _ (by omega) (by omega)) (fun j => fr _ _ (by omega) (by omega))
      have hT1 : CT N1 := CT_F hT (fun j => fr _ _ (by omega) (by omega)) (fun j => fr _ _ (by omega) (by omega))
      have hv0 : lwN w (v 0) ≤ 1000 := by
        unfold lwN
        split
        · omega
        · split
          · rename_i z1 z2
            have := (pv 0 (by omega)).2.2.2
            have : hwN 0 = 239 := rfl
            omega
          · omega
      have hh : hwN w ≤ 1000 := by
        have : w = 0 ∨ w = 1 ∨ w = 2 ∨ w = 3 := by omega
        rcases this with rfl | rfl | rfl | rfl <;> decide
      have q1 : w = 1 → S1 6 n + 1 = nI (lwN w (v 0)) := fun z => by
        subst z
        have := (pv 0 (by omega)).1
        rw [show 6 + 0 = 6 from rfl] at this
        rw [this]
        exact nI_1 _
      have q2 : w ≠ 1 → nI (lwN w 0) = nI (lwN w (v 0)) := fun z => by
        unfold lwN
        rw [if_neg z, if_neg z]
      have q3 : w = 1 → N1 128 (9 * n) = nI (v 0) := fun z => by
        subst z
        exact (pv 0 (by omega)).2.1
      rcases rnum (scr := scr) hC1 hR1 p2 pP pN hv0 hh with ⟨x, S2, N2, a2, e2, x1, x2, d1, d2, d3, d4, d9, d5, d6, d7, d8⟩ | ⟨S2, N2, d1, d2, d3, d4, d5, d6⟩
      · left
        have k1 := (ro_c (scr := scr) (S' := S2) (l3 := l3) hn (show w < 4 by omega) q1 q2 rfl).1 d1
        have k2 := ro_r (scr := scr) hn (show w < 4 by omega) q3 d2
        rw [d4] at k1
        refine ⟨ab_up S2 (6 + w) n (nI x), ab_up N2 128 (9 * n + w) (nI x), e1, a2, e2, _, fun u => if u = w then x else v u, c1.trans k1, r1.trans k2, fun c j y1 y2 y3 => ?_, fun c j y1 y2 => ?_, by rw [up_n (by omega), d9, p32], ?_, ?_, d7, ?_, fun u hu => ?_⟩
        · rw [up_o _ _ _ _ _ _ (by omega), d5 c j y1 y2, fc c j y1 y2 y3]
        · rw [up_o _ _ _ _ _ _ (by omega), d6 c j y1, fr c j y1 y2]
        · have := pP.1
          have := pP.2.1
          omega
        · rw [up_n (by omega), d3]
        · obtain ⟨o1, o2, o3, o4, o5⟩ := d8
          exact ⟨by rw [up_n (by decide), o1], by rw [up_n (by decide), o2], fun z => by rw [up_n (by decide), up_n (by decide)]; exact o3 z, fun z => by rw [up_n (by decide), up_n (by decide)]; exact o4 z, fun z => by rw [up_n (by decide)]; exact o5 z⟩
        · show ab_up S2 (6 + w) n (nI x) (6 + u) n = nI (if u = w then x else v u) ∧ ab_up N2 128 (9 * n + w) (nI x) 128 (9 * n + u) = nI (if u = w then x else v u) ∧ lwN u (if 0 = w then x else v 0) ≤ (if u = w then x else v u) ∧ (if u = w then x else v u) ≤ hwN u
          by_cases z : u = w
          · subst z
            rw [if_pos rfl, up_s, up_s]
            refine ⟨rfl, rfl, ?_, x2⟩
            by_cases z0 : 0 = u
            · rw [if_pos z0]
              subst z0
              exact Nat.zero_le _
            · rw [if_neg z0]
              exact x1
          · rw [if_neg z, up_n (by omega), up_o _ _ _ _ _ _ (by omega), d5 _ _ (by omega) (by omega), d6 _ _ (by omega)]
            have := pv u (by omega)
            rw [if_neg (by omega)]
            exact this
      · right
        have k1 := (ro_c (scr := scr) (S' := S2) (l3 := l3) hn (show w < 4 by omega) q1 q2 rfl).2 d1
        have k2 := ro_r (scr := scr) hn (show w < 4 by omega) q3 d2
        have hA : DA B L (ab_up N2 128 (9 * n + w) (nI (lwN w (v 0)))) := DA_dF ⟨TR_rfF hR1 d5, CT_F hT1 (fun j => d5 _ _ (by omega)) (fun j => d5 _ _ (by omega)), d6⟩ dF_up
        obtain ⟨N3, k3, k4⟩ := dd_w (scr := scr) (n := n) (w := w + 1) hn (by omega) hA
        refine ⟨S2, N3, c1.trans k1, (r1.trans k2).trans k3, FT_F d3 (by rw [k4 _ _ (by decide), up_n (by decide)]) (by rw [k4 _ _ (by decide), up_n (by decide)]), DA_dF hA k4, fun c j y1 y2 y3 => by rw [d4 c j y1 y2, fc c j y1 y2 (by omega)], fun c j y1 y2 => by rw [k4 c j y2, up_n y2, d5 c j y1, fr c j y1 (by omega)]⟩
    · exact Or.inr hf
end
