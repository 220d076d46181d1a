/-! arrives -/
def arT (m : Int32) (M : ab_M) (p : Nat) : Int32 := if M 127 (9 * p + 1) = m then 0 else if M 127 (9 * p) = m then 1 else M 129 p
def arE1 (m : Int32) (M : ab_M) (p : Nat) : Int32 := if M 127 (9 * p) = m then m else M 130 p
def arE (m : Int32) (M : ab_M) (p : Nat) : Int32 := if (arT m M p ≠ 0 ∧ arE1 m M p = -4) ∧ m - M 131 p = M 127 (9 * p + 3) then m else arE1 m M p
def arW (m : Int32) (M : ab_M) (p : Nat) : Int32 := if M 127 (9 * p + 1) = m then ia (rO M p) else M 137 p
def arF (m : Int32) (M : ab_M) (c p : Nat) : Int32 := if c = 129 then arT m M p else if c = 130 then arE m M p else if c = 137 then arW m M p else M c p
def ar1 (m : Int32) (k : Nat) (N : ab_M) : ab_M := if N 127 (9 * k) = m then ab_up (ab_up N 129 k 1) 130 k m else N
def ar2 (m : Int32) (k : Nat) (N : ab_M) : ab_M := if N 127 (9 * k + 1) = m then ab_up (ab_up N 129 k 0) 137 k (ia (rO N k)) else N
def ar3 (m : Int32) (k : Nat) (N : ab_M) : ab_M := if (N 129 k ≠ 0 ∧ N 130 k = -4) ∧ m - N 131 k = N 127 (9 * k + 3) then ab_up N 130 k m else N
theorem ar_s1 {scr : Option (List Int32)} (N : ab_M) (n k : Nat) (hn : n ≤ 8) (hk : k < n) (hM : N 127 72 = nI n) (m : Int32) : ab_res scr 143 2 N 2 [some (.ref 123), some (.int m), some (.int (nI k))] [] = ab_res scr 143 2 (ar1 m k N) 37 [some (.ref 123), some (.int m), some (.int (nI k))] [] := by
  have h1 : ¬ nI n ≤ nI k := nI_ge hk (by omega)
  have h3 : k < 8 := by omega
  have h2 : k < 2 ^ 31 := by omega
  unfold ar1
  by_cases hA : N 127 (9 * k) = m
  · rw [q143_2]
    simp only [q143_0, q143_1, q143_3, q143_4, q143_7, q143_9, q143_10, q143_13, q143_14, q143_15, q143_16, q143_19, q143_20, q143_23, q143_24, q143_27, q143_28, q143_30, q143_31, q143_34, q143_35, q143_36, q143_38, q143_39, q143_40, q143_43, q143_44, q143_47, q143_48, q143_51, q143_52, q143_53, q143_54, q143_55, q143_58, q143_59, q143_60, q143_61, q143_64, q143_67, q143_68, q143_69, q143_72, q143_73, q143_74, q143_77, q143_78, q143_81, q143_82, q143_83, q143_85, q143_88, q143_89, q143_90, q143_93, q143_94, q143_95, q143_96, q143_97, q143_98, q143_99, q143_102, q143_105, q143_106, q143_109, q143_110, q143_111, q143_112, q143_115, q143_118, n10, n01, Bool.false_eq_true, ab_bs, ab_bn, ab_pr0, ab_pr1, nl_n, nl_i, nl_r, nl_j, nl_nl, rc_123, gf_123_0, gf_123_1, pt_123_1, gf_123_2, pt_123_2, gf_123_3, pt_123_3, gf_123_4, pt_123_4, gf_123_5, pt_123_5, gf_123_6, pt_123_6, gf_123_7, pt_123_7, gf_123_8, pt_123_8, gf_123_9, gf_123_10, gf_123_11, gf_123_12, gf_123_13, pt_123_13_0, pt_123_13_1, gf_123_14, pt_123_14_0, pt_123_14_1, gf_123_15, gf_123_16, gf_123_17, gf_123_18, gf_123_19, gf_123_20, gf_123_21, gf_123_22, gf_123_23, gf_123_24, gf_123_25, pt_123_25, gf_123_26, gf_123_27, pt_123_27, gf_123_28, pt_123_28, gf_123_29, gf_123_30, pt_123_30, gf_123_31, pt_123_31, gf_123_32, pt_123_32, gf_123_33, pt_123_33, gf_123_34, pt_123_34_0, pt_123_34_1, gf_123_35, gf_123_36, gf_123_37, gf_123_38, pt_123_38, gf_123_39, pt_123_39, gf_123_40, pt_123_40, gf_123_41, gf_123_42, gf_123_43, gf_123_44, gf_123_45, gf_123_46, gf_123_47, pt_123_47, ln_129, bl_129, ln_130, al_130, si_130, r72, hM, h1, if_false, its0 _ _ h3, hA, not_true]
    rw [q143_29 (ty := .boolean) (bst129 (ib8 h3))]
    simp only [q143_0, q143_1, q143_3, q143_4, q143_7, q143_9, q143_10, q143_13, q143_14, q143_15, q143_16, q143_19, q143_20, q143_23, q143_24, q143_27, q143_28, q143_30, q143_31, q143_34, q143_35, q143_36, q143_38, q143_39, q143_40, q143_43, q143_44, q143_47, q143_48, q143_51, q143_52, q143_53, q143_54, q143_55, q143_58, q143_59, q143_60, q143_61, q143_64, q143_67, q143_68, q143_69, q143_72, q143_73, q143_74, q143_77, q143_78, q143_81, q143_82, q143_83, q143_85, q143_88, q143_89, q143_90, q143_93, q143_94, q143_95, q143_96, q143_97, q143_98, q143_99, q143_102, q143_105, q143_106, q143_109, q143_110, q143_111, q143_112, q143_115, q143_118, n10, n01, Bool.false_eq_true, ab_bs, ab_bn, ab_pr0, ab_pr1, nl_n, nl_i, nl_r, nl_j, nl_nl, rc_123, gf_123_0, gf_123_1, pt_123_1, gf_123_2, pt_123_2, gf_123_3, pt_123_3, gf_123_4, pt_123_4, gf_123_5, pt_123_5, gf_123_6, pt_123_6, gf_123_7, pt_123_7, gf_123_8, pt_123_8, gf_123_9, gf_123_10, gf_123_11, gf_123_12, gf_123_13, pt_123_13_0, pt_123_13_1, gf_123_14, pt_123_14_0, pt_123_14_1, gf_123_15, gf_123_16, gf_123_17, gf_123_18, gf_123_19, gf_123_20, gf_123_21, gf_123_22, gf_123_23, gf_123_24, gf_123_25, pt_123_25, gf_123_26, gf_123_27, pt_123_27, gf_123_28, pt_123_28, gf_123_29, gf_123_30, pt_123_30, gf_123_31, pt_123_31, gf_123_32, pt_123_32, gf_123_33, pt_123_33, gf_123_34, pt_123_34_0, pt_123_34_1, gf_123_35, gf_123_36, gf_123_37, gf_123_38, pt_123_38, gf_123_39, pt_123_39, gf_123_40, pt_123_40, gf_123_41, gf_123_42, gf_123_43, gf_123_44, gf_123_45, gf_123_46, gf_123_47, pt_123_47, ln_129, bl_129, ln_130, al_130, si_130, if_true, ib8 h3, nI_clamp h2, nar1]
  · rw [q143_2]
    simp only [q143_0, q143_1, q143_3, q143_4, q143_7, q143_9, q143_10, q143_13, q143_14, q143_15, q143_16, q143_19, q143_20, q143_23, q143_24, q143_27, q143_28, q143_30, q143_31, q143_34, q143_35, q143_36, q143_38, q143_39, q143_40, q143_43, q143_44, q143_47, q143_48, q143_51, q143_52, q143_53, q143_54, q143_55, q143_58, q143_59, q143_60, q143_61, q143_64, q143_67, q143_68, q143_69, q143_72, q143_73, q143_74, q143_77, q143_78, q143_81, q143_82, q143_83, q143_85, q143_88, q143_89, q143_90, q143_93, q143_94, q143_95, q143_96, q143_97, q143_98, q143_99, q143_102, q143_105, q143_106, q143_109, q143_110, q143_111, q143_112, q143_115, q143_118, n10, n01, Bool.false_eq_true, ab_bs, ab_bn, ab_pr0, ab_pr1, nl_n, nl_i, nl_r, nl_j, nl_nl, rc_123, gf_123_0, gf_123_1, pt_123_1, gf_123_2, pt_123_2, gf_123_3, pt_123_3, gf_123_4, pt_123_4, gf_123_5, pt_123_5, gf_123_6, pt_123_6, gf_123_7, pt_123_7, gf_123_8, pt_123_8, gf_123_9, gf_123_10, gf_123_11, gf_123_12, gf_123_13, pt_123_13_0, pt_123_13_1, gf_123_14, pt_123_14_0, pt_123_14_1, gf_123_15, gf_123_16, gf_123_17, gf_123_18, gf_123_19, gf_123_20, gf_123_21, gf_123_22, gf_123_23, gf_123_24, gf_123_25, pt_123_25, gf_123_26, gf_123_27, pt_123_27, gf_123_28, pt_123_28, gf_123_29, gf_123_30, pt_123_30, gf_123_31, pt_123_31, gf_123_32, pt_123_32, gf_123_33, pt_123_33, gf_123_34, pt_123_34_0, pt_123_34_1, gf_123_35, gf_123_36, gf_123_37, gf_123_38, pt_123_38, gf_123_39, pt_123_39, gf_123_40, pt_123_40, gf_123_41, gf_123_42, gf_123_43, gf_123_44, gf_123_45, gf_123_46, gf_123_47, pt_123_47, ln_129, bl_129, ln_130, al_130, si_130, r72, hM, h1, if_false, its0 _ _ h3, hA, not_false_eq_true, if_true]
theorem ar_s2 {scr : Option (List Int32)} (N : ab_M) (n k : Nat) (hn : n ≤ 8) (hk : k < n) (m : Int32) : ab_res scr 143 2 N 37 [some (.ref 123), some (.int m), some (.int (nI k))] [] = ab_res scr 143 2 (ar2 m k N) 68 [some (.ref 123), some (.int m), some (.int (nI k))] [] := by
  have h3 : k < 8 := by omega
  have h2 : k < 2 ^ 31 := by omega
  unfold ar2
  by_cases hA : N 127 (9 * k + 1) = m
  · rw [q143_37]
    simp only [q143_0, q143_1, q143_3, q143_4, q143_7, q143_9, q143_10, q143_13, q143_14, q143_15, q143_16, q143_19, q143_20, q143_23, q143_24, q143_27, q143_28, q143_29, q143_30, q143_31, q143_34, q143_35, q143_36, q143_38, q143_39, q143_40, q143_43, q143_44, q143_47, q143_48, q143_51, q143_52, q143_54, q143_55, q143_58, q143_59, q143_60, q143_61, q143_64, q143_67, q143_69, q143_72, q143_73, q143_74, q143_77, q143_78, q143_81, q143_82, q143_83, q143_85, q143_88, q143_89, q143_90, q143_93, q143_94, q143_95, q143_96, q143_97, q143_98, q143_99, q143_102, q143_105, q143_106, q143_109, q143_110, q143_111, q143_112, q143_115, q143_118, n10, n01, Bool.false_eq_true, ab_bs, ab_bn, ab_pr0, ab_pr1, nl_n, nl_i, nl_r, nl_j, nl_nl, rc_123, gf_123_0, gf_123_1, pt_123_1, gf_123_2, pt_123_2, gf_123_3, pt_123_3, gf_123_4, pt_123_4, gf_123_5, pt_123_5, gf_123_6, pt_123_6, gf_123_7, pt_123_7, gf_123_8, pt_123_8, gf_123_9, gf_123_10, gf_123_11, gf_123_12, gf_123_13, pt_123_13_0, pt_123_13_1, gf_123_14, pt_123_14_0, pt_123_14_1, gf_123_15, gf_123_16, gf_123_17, gf_123_18, gf_123_19, gf_123_20, gf_123_21, gf_123_22, gf_123_23, gf_123_24, gf_123_25, pt_123_25, gf_123_26, gf_123_27, pt_123_27, gf_123_28, pt_123_28, gf_123_29, gf_123_30, pt_123_30, gf_123_31, pt_123_31, gf_123_32, pt_123_32, gf_123_33, pt_123_33, gf_123_34, pt_123_34_0, pt_123_34_1, gf_123_35, gf_123_36, gf_123_37, gf_123_38, pt_123_38, gf_123_39, pt_123_39, gf_123_40, pt_123_40, gf_123_41, gf_123_42, gf_123_43, gf_123_44, gf_123_45, gf_123_46, gf_123_47, pt_123_47, ln_129, bl_129, ln_130, al_130, si_130, ln_137, al_137, si_137, if_false, its1 _ _ h3, hA, not_true]
    rw [q143_53 (ty := .boolean) (bst129 (ib8 h3))]
    simp only [q143_0, q143_1, q143_3, q143_4, q143_7, q143_9, q143_10, q143_13, q143_14, q143_15, q143_16, q143_19, q143_20, q143_23, q143_24, q143_27, q143_28, q143_29, q143_30, q143_31, q143_34, q143_35, q143_36, q143_38, q143_39, q143_40, q143_43, q143_44, q143_47, q143_48, q143_51, q143_52, q143_54, q143_55, q143_58, q143_59, q143_60, q143_61, q143_64, q143_67, q143_69, q143_72, q143_73, q143_74, q143_77, q143_78, q143_81, q143_82, q143_83, q143_85, q143_88, q143_89, q143_90, q143_93, q143_94, q143_95, q143_96, q143_97, q143_98, q143_99, q143_102, q143_105, q143_106, q143_109, q143_110, q143_111, q143_112, q143_115, q143_118, n10, n01, Bool.false_eq_true, ab_bs, ab_bn, ab_pr0, ab_pr1, nl_n, nl_i, nl_r, nl_j, nl_nl, rc_123, gf_123_0, gf_123_1, pt_123_1, gf_123_2, pt_123_2, gf_123_3, pt_123_3, gf_123_4, pt_123_4, gf_123_5, pt_123_5, gf_123_6, pt_123_6, gf_123_7, pt_123_7, gf_123_8, pt_123_8, gf_123_9, gf_123_10, gf_123_11, gf_123_12, gf_123_13, pt_123_13_0, pt_123_13_1, gf_123_14, pt_123_14_0, pt_123_14_1, gf_123_15, gf_123_16, gf_123_17, gf_123_18, gf_123_19, gf_123_20, gf_123_21, gf_123_22, gf_123_23, gf_123_24, gf_123_25, pt_123_25, gf_123_26, gf_123_27, pt_123_27, gf_123_28, pt_123_28, gf_123_29, gf_123_30, pt_123_30, gf_123_31, pt_123_31, gf_123_32, pt_123_32, gf_123_33, pt_123_33, gf_123_34, pt_123_34_0, pt_123_34_1, gf_123_35, gf_123_36, gf_123_37, gf_123_38, pt_123_38, gf_123_39, pt_123_39, gf_123_40, pt_123_40, gf_123_41, gf_123_42, gf_123_43, gf_123_44, gf_123_45, gf_123_46, gf_123_47, pt_123_47, ln_129, bl_129, ln_130, al_130, si_130, ln_137, al_137, si_137, if_true, ib8 h3, nI_clamp h2, nar0, sp_outOf _ _ h3, sp_size]
    rfl
  · rw [q143_37]
    simp only [q143_0, q143_1, q143_3, q143_4, q143_7, q143_9, q143_10, q143_13, q143_14, q143_15, q143_16, q143_19, q143_20, q143_23, q143_24, q143_27, q143_28, q143_29, q143_30, q143_31, q143_34, q143_35, q143_36, q143_38, q143_39, q143_40, q143_43, q143_44, q143_47, q143_48, q143_51, q143_52, q143_54, q143_55, q143_58, q143_59, q143_60, q143_61, q143_64, q143_67, q143_69, q143_72, q143_73, q143_74, q143_77, q143_78, q143_81, q143_82, q143_83, q143_85, q143_88, q143_89, q143_90, q143_93, q143_94, q143_95, q143_96, q143_97, q143_98, q143_99, q143_102, q143_105, q143_106, q143_109, q143_110, q143_111, q143_112, q143_115, q143_118, n10, n01, Bool.false_eq_true, ab_bs, ab_bn, ab_pr0, ab_pr1, nl_n, nl_i, nl_r, nl_j, nl_nl, rc_123, gf_123_0, gf_123_1, pt_123_1, gf_123_2, pt_123_2, gf_123_3, pt_123_3, gf_123_4, pt_123_4, gf_123_5, pt_123_5, gf_123_6, pt_123_6, gf_123_7, pt_123_7, gf_123_8, pt_123_8, gf_123_9, gf_123_10, gf_123_11, gf_123_12, gf_123_13, pt_123_13_0, pt_123_13_1, gf_123_14, pt_123_14_0, pt_123_14_1, gf_123_15, gf_123_16, gf_123_17, gf_123_18, gf_123_19, gf_123_20, gf_123_21, gf_123_22, gf_123_23, gf_123_24, gf_123_25, pt_123_25, gf_123_26, gf_123_27, pt_123_27, gf_123_28, pt_123_28, gf_123_29, gf_123_30, pt_123_30, gf_123_31, pt_123_31, gf_123_32, pt_123_32, gf_123_33, pt_123_33, gf_123_34, pt_123_34_0, pt_123_34_1, gf_123_35, gf_123_36, gf_123_37, gf_123_38, pt_123_38, gf_123_39, pt_123_39, gf_123_40, pt_123_40, gf_123_41, gf_123_42, gf_123_43, gf_123_44, gf_123_45, gf_123_46, gf_123_47, pt_123_47, ln_129, bl_129, ln_130, al_130, si_130, ln_137, al_137, si_137, its1 _ _ h3, hA, not_false_eq_true, if_true, if_false]
theorem ar_s3 {scr : Option (List Int32)} (N : ab_M) (n k : Nat) (hn : n ≤ 8) (hk : k < n) (m : Int32) : ab_res scr 143 2 N 68 [some (.ref 123), some (.int m), some (.int (nI k))] [] = ab_res scr 143 2 (ar3 m k N) 2 [some (.ref 123), some (.int m), some (.int (nI (k + 1)))] [] := by
  have h3 : k < 8 := by omega
  have h2 : k < 2 ^ 31 := by omega
  unfold ar3
  by_cases h129 : N 129 k = 0
  · rw [q143_68]
    simp only [q143_0, q143_1, q143_3, q143_4, q143_7, q143_9, q143_10, q143_13, q143_14, q143_15, q143_16, q143_19, q143_20, q143_23, q143_24, q143_27, q143_28, q143_30, q143_31, q143_34, q143_35, q143_36, q143_37, q143_38, q143_39, q143_40, q143_43, q143_44, q143_47, q143_48, q143_51, q143_52, q143_54, q143_55, q143_58, q143_59, q143_60, q143_61, q143_64, q143_67, q143_69, q143_72, q143_73, q143_74, q143_77, q143_78, q143_81, q143_82, q143_83, q143_85, q143_88, q143_89, q143_90, q143_93, q143_94, q143_95, q143_96, q143_97, q143_98, q143_99, q143_102, q143_105, q143_106, q143_109, q143_110, q143_111, q143_112, q143_115, q143_118, n10, n01, Bool.false_eq_true, ab_bs, ab_bn, ab_pr0, ab_pr1, nl_n, nl_i, nl_r, nl_j, nl_nl, rc_123, gf_123_0, gf_123_1, pt_123_1, gf_123_2, pt_123_2, gf_123_3, pt_123_3, gf_123_4, pt_123_4, gf_123_5, pt_123_5, gf_123_6, pt_123_6, gf_123_7, pt_123_7, gf_123_8, pt_123_8, gf_123_9, gf_123_10, gf_123_11, gf_123_12, gf_123_13, pt_123_13_0, pt_123_13_1, gf_123_14, pt_123_14_0, pt_123_14_1, gf_123_15, gf_123_16, gf_123_17, gf_123_18, gf_123_19, gf_123_20, gf_123_21, gf_123_22, gf_123_23, gf_123_24, gf_123_25, pt_123_25, gf_123_26, gf_123_27, pt_123_27, gf_123_28, pt_123_28, gf_123_29, gf_123_30, pt_123_30, gf_123_31, pt_123_31, gf_123_32, pt_123_32, gf_123_33, pt_123_33, gf_123_34, pt_123_34_0, pt_123_34_1, gf_123_35, gf_123_36, gf_123_37, gf_123_38, pt_123_38, gf_123_39, pt_123_39, gf_123_40, pt_123_40, gf_123_41, gf_123_42, gf_123_43, gf_123_44, gf_123_45, gf_123_46, gf_123_47, pt_123_47, ln_129, bl_129, ln_130, al_130, si_130, ln_131, al_131, si_131, if_true, ib8 h3, nI_clamp h2, h129, not_true, false_and, if_false, nI_succ, ne_eq]
  · by_cases h130 : N 130 k = -4
    · by_cases h131 : m - N 131 k = N 127 (9 * k + 3)
      · rw [q143_68]
        simp only [q143_0, q143_1, q143_3, q143_4, q143_7, q143_9, q143_10, q143_13, q143_14, q143_15, q143_16, q143_19, q143_20, q143_23, q143_24, q143_27, q143_28, q143_30, q143_31, q143_34, q143_35, q143_36, q143_37, q143_38, q143_39, q143_40, q143_43, q143_44, q143_47, q143_48, q143_51, q143_52, q143_54, q143_55, q143_58, q143_59, q143_60, q143_61, q143_64, q143_67, q143_69, q143_72, q143_73, q143_74, q143_77, q143_78, q143_81, q143_82, q143_83, q143_85, q143_88, q143_89, q143_90, q143_93, q143_94, q143_95, q143_96, q143_97, q143_98, q143_99, q143_102, q143_105, q143_106, q143_109, q143_110, q143_111, q143_112, q143_115, q143_118, n10, n01, Bool.false_eq_true, ab_bs, ab_bn, ab_pr0, ab_pr1, nl_n, nl_i, nl_r, nl_j, nl_nl, rc_123, gf_123_0, gf_123_1, pt_123_1, gf_123_2, pt_123_2, gf_123_3, pt_123_3, gf_123_4, pt_123_4, gf_123_5, pt_123_5, gf_123_6, pt_123_6, gf_123_7, pt_123_7, gf_123_8, pt_123_8, gf_123_9, gf_123_10, gf_123_11, gf_123_12, gf_123_13, pt_123_13_0, pt_123_13_1, gf_123_14, pt_123_14_0, pt_123_14_1, gf_123_15, gf_123_16, gf_123_17, gf_123_18, gf_123_19, gf_123_20, gf_123_21, gf_123_22, gf_123_23, gf_123_24, gf_123_25, pt_123_25, gf_123_26, gf_123_27, pt_123_27, gf_123_28, pt_123_28, gf_123_29, gf_123_30, pt_123_30, gf_123_31, pt_123_31, gf_123_32, pt_123_32, gf_123_33, pt_123_33, gf_123_34, pt_123_34_0, pt_123_34_1, gf_123_35, gf_123_36, gf_123_37, gf_123_38, pt_123_38, gf_123_39, pt_123_39, gf_123_40, pt_123_40, gf_123_41, gf_123_42, gf_123_43, gf_123_44, gf_123_45, gf_123_46, gf_123_47, pt_123_47, ln_129, bl_129, ln_130, al_130, si_130, ln_131, al_131, si_131, if_true, ib8 h3, nI_clamp h2, h129, h130, h131, its3 _ _ h3, not_true, not_false_eq_true, and_self, if_false, nI_succ, ne_eq]
      · rw [q143_68]
        simp only [q143_0, q143_1, q143_3, q143_4, q143_7, q143_9, q143_10, q143_13, q143_14, q143_15, q143_16, q143_19, q143_20, q143_23, q143_24, q143_27, q143_28, q143_30, q143_31, q143_34, q143_35, q143_36, q143_37, q143_38, q143_39, q143_40, q143_43, q143_44, q143_47, q143_48, q143_51, q143_52, q143_54, q143_55, q143_58, q143_59, q143_60, q143_61, q143_64, q143_67, q143_69, q143_72, q143_73, q143_74, q143_77, q143_78, q143_81, q143_82, q143_83, q143_85, q143_88, q143_89, q143_90, q143_93, q143_94, q143_95, q143_96, q143_97, q143_98, q143_99, q143_102, q143_105, q143_106, q143_109, q143_110, q143_111, q143_112, q143_115, q143_118, n10, n01, Bool.false_eq_true, ab_bs, ab_bn, ab_pr0, ab_pr1, nl_n, nl_i, nl_r, nl_j, nl_nl, rc_123, gf_123_0, gf_123_1, pt_123_1, gf_123_2, pt_123_2, gf_123_3, pt_123_3, gf_123_4, pt_123_4, gf_123_5, pt_123_5, gf_123_6, pt_123_6, gf_123_7, pt_123_7, gf_123_8, pt_123_8, gf_123_9, gf_123_10, gf_123_11, gf_123_12, gf_123_13, pt_123_13_0, pt_123_13_1, gf_123_14, pt_123_14_0, pt_123_14_1, gf_123_15, gf_123_16, gf_123_17, gf_123_18, gf_123_19, gf_123_20, gf_123_21, gf_123_22, gf_123_23, gf_123_24, gf_123_25, pt_123_25, gf_123_26, gf_123_27, pt_123_27, gf_123_28, pt_123_28, gf_123_29, gf_123_30, pt_123_30, gf_123_31, pt_123_31, gf_123_32, pt_123_32, gf_123_33, pt_123_33, gf_123_34, pt_123_34_0, pt_123_34_1, gf_123_35, gf_123_36, gf_123_37, gf_123_38, pt_123_38, gf_123_39, pt_123_39, gf_123_40, pt_123_40, gf_123_41, gf_123_42, gf_123_43, gf_123_44, gf_123_45, gf_123_46, gf_123_47, pt_123_47, ln_129, bl_129, ln_130, al_130, si_130, ln_131, al_131, si_131, if_true, ib8 h3, nI_clamp h2, h129, h130, h131, its3 _ _ h3, not_true, not_false_eq_true, and_false, if_false, nI_succ, ne_eq]
    · rw [q143_68]
      simp only [q143_0, q143_1, q143_3, q143_4, q143_7, q143_9, q143_10, q143_13, q143_14, q143_15, q143_16, q143_19, q143_20, q143_23, q143_24, q143_27, q143_28, q143_30, q143_31, q143_34, q143_35, q143_36, q143_37, q143_38, q143_39, q143_40, q143_43, q143_44, q143_47, q143_48, q143_51, q143_52, q143_54, q143_55, q143_58, q143_59, q143_60, q143_61, q143_64, q143_67, q143_69, q143_72, q143_73, q143_74, q143_77, q143_78, q143_81, q143_82, q143_83, q143_85, q143_88, q143_89, q143_90, q143_93, q143_94, q143_95, q143_96, q143_97, q143_98, q143_99, q143_102, q143_105, q143_106, q143_109, q143_110, q143_111, q143_112, q143_115, q143_118, n10, n01, Bool.false_eq_true, ab_bs, ab_bn, ab_pr0, ab_pr1, nl_n, nl_i, nl_r, nl_j, nl_nl, rc_123, gf_123_0, gf_123_1, pt_123_1, gf_123_2, pt_123_2, gf_123_3, pt_123_3, gf_123_4, pt_123_4, gf_123_5, pt_123_5, gf_123_6, pt_123_6, gf_123_7, pt_123_7, gf_123_8, pt_123_8, gf_123_9, gf_123_10, gf_123_11, gf_123_12, gf_123_13, pt_123_13_0, pt_123_13_1, gf_123_14, pt_123_14_0, pt_123_14_1, gf_123_15, gf_123_16, gf_123_17, gf_123_18, gf_123_19, gf_123_20, gf_123_21, gf_123_22, gf_123_23, gf_123_24, gf_123_25, pt_123_25, gf_123_26, gf_123_27, pt_123_27, gf_123_28, pt_123_28, gf_123_29, gf_123_30, pt_123_30, gf_123_31, pt_123_31, gf_123_32, pt_123_32, gf_123_33, pt_123_33, gf_123_34, pt_123_34_0, pt_123_34_1, gf_123_35, gf_123_36, gf_123_37, gf_123_38, pt_123_38, gf_123_39, pt_123_39, gf_123_40, pt_123_40, gf_123_41, gf_123_42, gf_123_43, gf_123_44, gf_123_45, gf_123_46, gf_123_47, pt_123_47, ln_129, bl_129, ln_130, al_130, si_130, ln_131, al_131, si_131, if_true, ib8 h3, nI_clamp h2, h129, h130, not_true, not_false_eq_true, and_false, false_and, if_false, nI_succ, ne_eq]
theorem ar_s (M : ab_M) (m : Int32) (k : Nat) : ar3 m k (ar2 m k (ar1 m k (rs k (arF m M) M))) = rs (k + 1) (arF m M) M := by
  have h4 : ∀ j, rs k (arF m M) M 127 j = M 127 j := fun j => by rw [rs_lo (by decide)]
  have hb : ∀ c, rs k (arF m M) M c k = M c k := fun c => rs_k
  refine rs_step (fun c j h => ?_) (fun c q1 q2 => ?_)
  · unfold ar3
    split
    · rw [up_o _ _ _ _ _ _ (by omega)]
      unfold ar2
      split
      · rw [up_o _ _ _ _ _ _ (by omega), up_o _ _ _ _ _ _ (by omega)]
        unfold ar1
        split
        · rw [up_o _ _ _ _ _ _ (by omega), up_o _ _ _ _ _ _ (by omega)]
        · rfl
      · unfold ar1
        split
        · rw [up_o _ _ _ _ _ _ (by omega), up_o _ _ _ _ _ _ (by omega)]
        · rfl
    · unfold ar2
      split
      · rw [up_o _ _ _ _ _ _ (by omega), up_o _ _ _ _ _ _ (by omega)]
        unfold ar1
        split
        · rw [up_o _ _ _ _ _ _ (by omega), up_o _ _ _ _ _ _ (by omega)]
        · rfl
      · unfold ar1
        split
        · rw [up_o _ _ _ _ _ _ (by omega), up_o _ _ _ _ _ _ (by omega)]
        · rfl
  · have e1 : ∀ c, (ar1 m k (rs k (arF m M) M)) c k = if M 127 (9 * k) = m then (if c = 130 then m else if c = 129 then 1 else M c k) else M c k := by
      intro c
      unfold ar1
      rw [h4]
      by_cases hA : M 127 (9 * k) = m
      · rw [if_pos hA, if_pos hA]
        simp only [ab_up, hb, and_true]
      · rw [if_neg hA, if_neg hA, hb]
    have e1b : ∀ j, (ar1 m k (rs k (arF m M) M)) 127 j = M 127 j := by
      intro j
      unfold ar1
      split
      · rw [up_n (by decide), up_n (by decide), h4]
      · rw [h4]
    generalize (ar1 m k (rs k (arF m M) M)) = N1 at e1 e1b
    have eo : rO N1 k = rO M k := by
      unfold rO
      rw [e1, e1, e1]
      simp
    have e2 : ∀ c, (ar2 m k N1) c k = if M 127 (9 * k + 1) = m then (if c = 137 then ia (rO M k) else if c = 129 then 0 else N1 c k) else N1 c k := by
      intro c
      unfold ar2
      rw [e1b, eo]
      by_cases hA : M 127 (9 * k + 1) = m
      · rw [if_pos hA, if_pos hA]
        simp only [ab_up, and_true]
      · rw [if_neg hA, if_neg hA]
    have e2b : ∀ j, (ar2 m k N1) 127 j = M 127 j := by
      intro j
      unfold ar2
      split
      · rw [up_n (by decide), up_n (by decide), e1b]
      · rw [e1b]
    generalize (ar2 m k N1) = N2 at e2 e2b
    have f29 : N2 129 k = arT m M k := by
      rw [e2, e1]
      simp [arT]
    have f30 : N2 130 k = arE1 m M k := by
      rw [e2, e1]
      simp [arE1]
    have f31 : N2 131 k = M 131 k := by
      rw [e2, e1]
      simp
    have f37 : N2 137 k = arW m M k := by
      rw [e2, e1]
      simp [arW]
    have fc : c ≠ 129 → c ≠ 130 → c ≠ 137 → N2 c k = M c k := by
      intro a b d
      rw [e2, e1]
      simp [a, b, d]
    unfold ar3
    rw [f29, f30, f31, e2b]
    by_cases hC : (arT m M k ≠ 0 ∧ arE1 m M k = -4) ∧ m - M 131 k = M 127 (9 * k + 3)
    · rw [if_pos hC]
      unfold ab_up arF arE
      rw [if_pos hC]
      by_cases x1 : c = 130
      · subst x1
        simp
      · rw [if_neg (fun h => x1 h.1), if_neg x1]
        by_cases x2 : c = 129
        · subst x2
          simp [f29]
        · by_cases x3 : c = 137
          · subst x3
            simp [f37]
          · rw [if_neg x2, if_neg x3, fc x2 x1 x3]
    · rw [if_neg hC]
      unfold arF arE
      rw [if_neg hC]
      by_cases x1 : c = 130
      · subst x1
        simp [f30]
      · rw [if_neg x1]
        by_cases x2 : c = 129
        · subst x2
          simp [f29]
        · by_cases x3 : c = 137
          · subst x3
            simp [f37]
          · rw [if_neg x2, if_neg x3, fc x2 x1 x3]
theorem rp_arrives {scr : Option (List Int32)} (M : ab_M) (n : Nat) (hn : n ≤ 8) (hM : M 127 72 = nI n) (m : Int32) : ab_ms scr 143 [.ref 123, .int m] M = some (rs n (arF m M) M, none) := by
  rw [ms143]
  simp only [q143_0, q143_1, q143_3, q143_4, q143_7, q143_9, q143_10, q143_13, q143_14, q143_15, q143_16, q143_19, q143_20, q143_23, q143_24, q143_27, q143_28, q143_29, q143_30, q143_31, q143_34, q143_35, q143_36, q143_37, q143_38, q143_39, q143_40, q143_43, q143_44, q143_47, q143_48, q143_51, q143_52, q143_53, q143_54, q143_55, q143_58, q143_59, q143_60, q143_61, q143_64, q143_67, q143_68, q143_69, q143_72, q143_73, q143_74, q143_77, q143_78, q143_81, q143_82, q143_83, q143_85, q143_88, q143_89, q143_90, q143_93, q143_94, q143_95, q143_96, q143_97, q143_98, q143_99, q143_102, q143_105, q143_106, q143_109, q143_110, q143_111, q143_112, q143_115, q143_118, n10, n01, Bool.false_eq_true, ab_bs, ab_bn, ab_pr0, ab_pr1, nl_n, nl_i, nl_r, nl_j, nl_nl, rc_123, gf_123_0, gf_123_1, pt_123_1, gf_123_2, pt_123_2, gf_123_3, pt_123_3, gf_123_4, pt_123_4, gf_123_5, pt_123_5, gf_123_6, pt_123_6, gf_123_7, pt_123_7, gf_123_8, pt_123_8, gf_123_9, gf_123_10, gf_123_11, gf_123_12, gf_123_13, pt_123_13_0, pt_123_13_1, gf_123_14, pt_123_14_0, pt_123_14_1, gf_123_15, gf_123_16, gf_123_17, gf_123_18, gf_123_19, gf_123_20, gf_123_21, gf_123_22, gf_123_23, gf_123_24, gf_123_25, pt_123_25, gf_123_26, gf_123_27, pt_123_27, gf_123_28, pt_123_28, gf_123_29, gf_123_30, pt_123_30, gf_123_31, pt_123_31, gf_123_32, pt_123_32, gf_123_33, pt_123_33, gf_123_34, pt_123_34_0, pt_123_34_1, gf_123_35, gf_123_36, gf_123_37, gf_123_38, pt_123_38, gf_123_39, pt_123_39, gf_123_40, pt_123_40, gf_123_41, gf_123_42, gf_123_43, gf_123_44, gf_123_45, gf_123_46, gf_123_47, pt_123_47]
  refine Eq.trans ?_ ((rn (fun k => ab_res scr 143 2 (rs k (arF m M) M) 2 [some (.ref 123), some (.int m), some (.int (nI k))] []) (n) (fun k hk => ?_)).trans ?_)
  · rw [rs_0]
    rfl
  · have h4 : ∀ j, rs k (arF m M) M 127 j = M 127 j := fun j => by rw [rs_lo (by decide)]
    rw [ar_s1 _ n k hn hk (by rw [h4, hM]) m, ar_s2 _ n k hn hk m, ar_s3 _ n k hn hk m, ar_s]
  · have h4 : ∀ j, rs n (arF m M) M 127 j = M 127 j := fun j => by rw [rs_lo (by decide)]
    show ab_res scr 143 2 _ 2 _ [] = _
    rw [q143_2]
    simp only [q143_0, q143_1, q143_3, q143_4, q143_7, q143_9, q143_10, q143_13, q143_14, q143_15, q143_16, q143_19, q143_20, q143_23, q143_24, q143_27, q143_28, q143_29, q143_30, q143_31, q143_34, q143_35, q143_36, q143_37, q143_38, q143_39, q143_40, q143_43, q143_44, q143_47, q143_48, q143_51, q143_52, q143_53, q143_54, q143_55, q143_58, q143_59, q143_60, q143_61, q143_64, q143_67, q143_68, q143_69, q143_72, q143_73, q143_74, q143_77, q143_78, q143_81, q143_82, q143_83, q143_85, q143_88, q143_89, q143_90, q143_93, q143_94, q143_95, q143_96, q143_97, q143_98, q143_99, q143_102, q143_105, q143_106, q143_109, q143_110, q143_111, q143_112, q143_115, q143_118, n10, n01, Bool.false_eq_true, ab_bs, ab_bn, ab_pr0, ab_pr1, nl_n, nl_i, nl_r, nl_j, nl_nl, rc_123, gf_123_0, gf_123_1, pt_123_1, gf_123_2, pt_123_2, gf_123_3, pt_123_3, gf_123_4, pt_123_4, gf_123_5, pt_123_5, gf_123_6, pt_123_6, gf_123_7, pt_123_7, gf_123_8, pt_123_8, gf_123_9, gf_123_10, gf_123_11, gf_123_12, gf_123_13, pt_123_13_0, pt_123_13_1, gf_123_14, pt_123_14_0, pt_123_14_1, gf_123_15, gf_123_16, gf_123_17, gf_123_18, gf_123_19, gf_123_20, gf_123_21, gf_123_22, gf_123_23, gf_123_24, gf_123_25, pt_123_25, gf_123_26, gf_123_27, pt_123_27, gf_123_28, pt_123_28, gf_123_29, gf_123_30, pt_123_30, gf_123_31, pt_123_31, gf_123_32, pt_123_32, gf_123_33, pt_123_33, gf_123_34, pt_123_34_0, pt_123_34_1, gf_123_35, gf_123_36, gf_123_37, gf_123_38, pt_123_38, gf_123_39, pt_123_39, gf_123_40, pt_123_40, gf_123_41, gf_123_42, gf_123_43, gf_123_44, gf_123_45, gf_123_46, gf_123_47, pt_123_47, r72, h4, hM, nI_rfl, if_true]
/-! drinks -/
def thO (n : Nat) (M : ab_M) : Int32 := fo (fun p s => if M 129 p = 0 then s else s ||| bt p) n 0
def dr0 (i n : Nat) (m who co got : Int32) (M : ab_M) : ab_M := ab_up (ab_up (ab_up (ab_up (ab_up (ab_up (ab_up (ab_up M 140 (5 * i) m) 140 (5 * i + 1) who) 140 (5 * i + 2) co) 140 (5 * i + 3) got) 140 (5 * i + 4) (thO n M)) 123 30 (nI (i + 1))) 123 27 (M 123 27 + 1)) 123 31 (M 123 31 + co)
theorem dr0_n {i n : Nat} {m who co got : Int32} {M : ab_M} {c j : Nat} (h : c ≠ 123) (h2 : c ≠ 140) : dr0 i n m who co got M c j = M c j := by
  unfold dr0
  rw [up_n h, up_n h, up_n h, up_n h2, up_n h2, up_n h2, up_n h2, up_n h2]
def drF (got m : Int32) (M : ab_M) (c p : Nat) : Int32 := if tb got p = true then (if c = 132 then M 132 p + M 127 (9 * p + 2) else if c = 134 then M 134 p + 1 else if c = 131 then m else if c = 130 then -4 else M c p) else M c p
theorem n5m (i : Nat) : 5 * nI i = nI (5 * i) := by
  show Int32.ofNat 5 * Int32.ofNat i = Int32.ofNat (5 * i)
  rw [← Int32.ofNat_mul]
theorem n5m' (i : Nat) : nI i * 5 = nI (5 * i) := by
  show Int32.ofNat i * Int32.ofNat 5 = Int32.ofNat (5 * i)
  rw [← Int32.ofNat_mul, Nat.mul_comm]
theorem a1 (i : Nat) : nI i + 1 = nI (i + 1) := nI_add i 1
theorem a2 (i : Nat) : nI i + 2 = nI (i + 2) := nI_add i 2
theorem a3 (i : Nat) : nI i + 3 = nI (i + 3) := nI_add i 3
theorem a4 (i : Nat) : nI i + 4 = nI (i + 4) := nI_add i 4
theorem s140 {k : Nat} (h : k < 200) : ab_si 140 .int (nI k) = true := by
  rw [si_140, ib_nI h (by decide)]
theorem cn {k : Nat} (h : k < 400) : (nI k).toNatClampNeg = k := nI_clamp (by omega)
theorem rp_drinks {scr : Option (List Int32)} (M : ab_M) (n : Nat) (hn : n ≤ 8) (hM : M 127 72 = nI n) (i : Nat) (hi : i < 40) (hMi : M 123 30 = nI i) (m who co got : Int32) : ab_ms scr 154 [.ref 123, .int m, .int who, .int co, .int got] M = some (rs n (drF got m M) (dr0 i n m who co got M), none) := by
  rw [ms154]
  have ht : ∀ N : ab_M, N 127 72 = nI n → ab_ms scr 146 [.ref 123] N = some (N, some (.int (thO n N))) := fun N h => sp_thereOnes N n hn h
  have e : thO n (ab_up (ab_up (ab_up (ab_up M 140 (5 * i) m) 140 (5 * i + 1) who) 140 (5 * i + 2) co) 140 (5 * i + 3) got) = thO n M := by
    unfold thO
    simp only [up_n (show 129 ≠ 140 by decide)]
  have h72 : (ab_up (ab_up (ab_up (ab_up M 140 (5 * i) m) 140 (5 * i + 1) who) 140 (5 * i + 2) co) 140 (5 * i + 3) got) 127 72 = nI n := by
    simp only [up_n (show 127 ≠ 140 by decide), hM]
  simp only [q154_0, q154_1, q154_2, q154_5, q154_6, q154_8, q154_9, q154_12, q154_14, q154_15, q154_16, q154_17, q154_20, q154_22, q154_23, q154_24, q154_25, q154_26, q154_27, q154_30, q154_32, q154_33, q154_34, q154_35, q154_36, q154_37, q154_40, q154_42, q154_43, q154_44, q154_46, q154_47, q154_48, q154_51, q154_53, q154_54, q154_55, q154_56, q154_59, q154_60, q154_61, q154_62, q154_65, q154_66, q154_67, q154_70, q154_71, q154_72, q154_75, q154_76, q154_77, q154_80, q154_81, q154_82, q154_85, q154_86, q154_87, q154_90, q154_91, q154_95, q154_96, q154_99, q154_101, q154_102, q154_105, q154_107, q154_109, q154_110, q154_111, q154_112, q154_113, q154_116, q154_117, q154_120, q154_122, q154_123, q154_124, q154_125, q154_127, q154_128, q154_131, q154_132, q154_133, q154_134, q154_137, q154_139, q154_140, q154_141, q154_142, q154_143, q154_144, q154_145, q154_148, q154_150, q154_151, q154_152, q154_153, q154_156, q154_158, q154_160, q154_161, q154_164, q154_167, n10, n01, Bool.false_eq_true, ab_bs, ab_bn, ab_pr0, ab_pr1, nl_n, nl_i, nl_r, nl_j, nl_nl, gf_123_29, gf_123_30, gf_123_27, gf_123_31, rc_123, hMi, n5m, n5m', a1, a2, a3, a4, s140 (show 5 * i < 200 by omega), s140 (show 5 * i + 1 < 200 by omega), s140 (show 5 * i + 2 < 200 by omega), s140 (show 5 * i + 3 < 200 by omega), s140 (show 5 * i + 4 < 200 by omega), if_true, cn (show 5 * i < 400 by omega), cn (show 5 * i + 1 < 400 by omega), cn (show 5 * i + 2 < 400 by omega), cn (show 5 * i + 3 < 400 by omega), cn (show 5 * i + 4 < 400 by omega), ht _ h72, e, up_n (show 123 ≠ 140 by decide), pt_123_30, pt_123_27, pt_123_31, up_o _ 123 30 123 27 _ (by decide), up_o _ 123 30 123 31 _ (by decide), up_o _ 123 27 123 31 _ (by decide)]
  refine Eq.trans ?_ ((rn (fun k => ab_res scr 154 2 (rs k (drF got m M) (dr0 i n m who co got M)) 93 [some (.ref 123), some (.int m), some (.int who), some (.int co), some (.int got), some (.int (nI (5 * i))), some (.int (nI k))] []) (n) (fun k hk => ?_)).trans ?_)
  · rw [rs_0]
    rfl
  · have h1 : ¬ nI n ≤ nI k := nI_ge hk (by omega)
    have h3 : k < 8 := by omega
    have h2 : k < 2 ^ 31 := by omega
    have h4 : ∀ j, rs k (drF got m M) (dr0 i n m who co got M) 127 j = M 127 j := fun j => by rw [rs_lo (by decide), dr0_n (by decide) (by decide)]
    have hb : ∀ c, c ≠ 123 → c ≠ 140 → rs k (drF got m M) (dr0 i n m who co got M) c k = M c k := fun c a b => by rw [rs_k, dr0_n a b]
    by_cases ht : tb got k = true
    · rw [q154_93]
      simp only [q154_0, q154_1, q154_2, q154_5, q154_6, q154_8, q154_9, q154_12, q154_14, q154_15, q154_16, q154_17, q154_20, q154_22, q154_23, q154_24, q154_25, q154_26, q154_27, q154_30, q154_32, q154_33, q154_34, q154_35, q154_36, q154_37, q154_40, q154_42, q154_43, q154_44, q154_46, q154_47, q154_48, q154_51, q154_53, q154_54, q154_55, q154_56, q154_59, q154_60, q154_61, q154_62, q154_65, q154_66, q154_67, q154_70, q154_71, q154_72, q154_75, q154_76, q154_77, q154_80, q154_81, q154_82, q154_85, q154_86, q154_87, q154_90, q154_91, q154_95, q154_96, q154_99, q154_101, q154_102, q154_105, q154_107, q154_109, q154_110, q154_111, q154_112, q154_113, q154_116, q154_117, q154_120, q154_122, q154_123, q154_124, q154_125, q154_127, q154_128, q154_131, q154_132, q154_133, q154_134, q154_137, q154_139, q154_140, q154_141, q154_142, q154_143, q154_144, q154_145, q154_148, q154_150, q154_151, q154_152, q154_153, q154_156, q154_158, q154_160, q154_161, q154_164, q154_167, n10, n01, Bool.false_eq_true, ab_bs, ab_bn, ab_pr0, ab_pr1, nl_n, nl_i, nl_r, nl_j, nl_nl, rc_123, gf_123_0, gf_123_1, pt_123_1, gf_123_2, pt_123_2, gf_123_3, pt_123_3, gf_123_4, pt_123_4, gf_123_5, pt_123_5, gf_123_6, pt_123_6, gf_123_7, pt_123_7, gf_123_8, pt_123_8, gf_123_9, gf_123_10, gf_123_11, gf_123_12, gf_123_13, pt_123_13_0, pt_123_13_1, gf_123_14, pt_123_14_0, pt_123_14_1, gf_123_15, gf_123_16, gf_123_17, gf_123_18, gf_123_19, gf_123_20, gf_123_21, gf_123_22, gf_123_23, gf_123_24, gf_123_25, pt_123_25, gf_123_26, gf_123_27, pt_123_27, gf_123_28, pt_123_28, gf_123_29, gf_123_30, pt_123_30, gf_123_31, pt_123_31, gf_123_32, pt_123_32, gf_123_33, pt_123_33, gf_123_34, pt_123_34_0, pt_123_34_1, gf_123_35, gf_123_36, gf_123_37, gf_123_38, pt_123_38, gf_123_39, pt_123_39, gf_123_40, pt_123_40, gf_123_41, gf_123_42, gf_123_43, gf_123_44, gf_123_45, gf_123_46, gf_123_47, pt_123_47, ln_130, al_130, si_130, ln_131, al_131, si_131, ln_132, al_132, si_132, ln_134, al_134, si_134, r72, h4, hM, h1, if_false, tb_sh got k h3, ht, if_true, not_true, ib8 h3, nI_clamp h2, its2 _ _ h3, nI_succ, up_n (show 127 ≠ 132 by decide), up_n (show 134 ≠ 132 by decide), hb 132 (by decide) (by decide), hb 134 (by decide) (by decide)]
      congr 1
      refine rs_step (fun c j h => ?_) (fun c q1 q2 => ?_)
      · repeat rw [up_o _ _ _ _ _ _ (by omega)]
      · rcases c11 q1 q2 with rfl | rfl | rfl | rfl | rfl | rfl | rfl | rfl | rfl | rfl | rfl <;> simp [ab_up, hb, drF, ht]
    · rw [q154_93]
      simp only [q154_0, q154_1, q154_2, q154_5, q154_6, q154_8, q154_9, q154_12, q154_14, q154_15, q154_16, q154_17, q154_20, q154_22, q154_23, q154_24, q154_25, q154_26, q154_27, q154_30, q154_32, q154_33, q154_34, q154_35, q154_36, q154_37, q154_40, q154_42, q154_43, q154_44, q154_46, q154_47, q154_48, q154_51, q154_53, q154_54, q154_55, q154_56, q154_59, q154_60, q154_61, q154_62, q154_65, q154_66, q154_67, q154_70, q154_71, q154_72, q154_75, q154_76, q154_77, q154_80, q154_81, q154_82, q154_85, q154_86, q154_87, q154_90, q154_91, q154_95, q154_96, q154_99, q154_101, q154_102, q154_105, q154_107, q154_109, q154_110, q154_111, q154_112, q154_113, q154_116, q154_117, q154_120, q154_122, q154_123, q154_124, q154_125, q154_127, q154_128, q154_131, q154_132, q154_133, q154_134, q154_137, q154_139, q154_140, q154_141, q154_142, q154_143, q154_144, q154_145, q154_148, q154_150, q154_151, q154_152, q154_153, q154_156, q154_158, q154_160, q154_161, q154_164, q154_167, n10, n01, Bool.false_eq_true, ab_bs, ab_bn, ab_pr0, ab_pr1, nl_n, nl_i, nl_r, nl_j, nl_nl, rc_123, gf_123_0, gf_123_1, pt_123_1, gf_123_2, pt_123_2, gf_123_3, pt_123_3, gf_123_4, pt_123_4, gf_123_5, pt_123_5, gf_123_6, pt_123_6, gf_123_7, pt_123_7, gf_123_8, pt_123_8, gf_123_9, gf_123_10, gf_123_11, gf_123_12, gf_123_13, pt_123_13_0, pt_123_13_1, gf_123_14, pt_123_14_0, pt_123_14_1, gf_123_15, gf_123_16, gf_123_17, gf_123_18, gf_123_19, gf_123_20, gf_123_21, gf_123_22, gf_123_23, gf_123_24, gf_123_25, pt_123_25, gf_123_26, gf_123_27, pt_123_27, gf_123_28, pt_123_28, gf_123_29, gf_123_30, pt_123_30, gf_123_31, pt_123_31, gf_123_32, pt_123_32, gf_123_33, pt_123_33, gf_123_34, pt_123_34_0, pt_123_34_1, gf_123_35, gf_123_36, gf_123_37, gf_123_38, pt_123_38, gf_123_39, pt_123_39, gf_123_40, pt_123_40, gf_123_41, gf_123_42, gf_123_43, gf_123_44, gf_123_45, gf_123_46, gf_123_47, pt_123_47, ln_130, al_130, si_130, ln_131, al_131, si_131, ln_132, al_132, si_132, ln_134, al_134, si_134, r72, h4, hM, h1, if_false, tb_sh got k h3, ht, (show ¬ ((0 : Int32) = 1) by decide), if_true, not_false_eq_true, nI_succ]
      congr 1
      refine rs_step (fun c j h => rfl) (fun c q1 q2 => ?_)
      rw [hb c (by omega) (by omega)]
      unfold drF
      rw [if_neg ht]
  · have h4 : ∀ j, rs n (drF got m M) (dr0 i n m who co got M) 127 j = M 127 j := fun j => by rw [rs_lo (by decide), dr0_n (by decide) (by decide)]
    show ab_res scr 154 2 _ 93 _ [] = _
    rw [q154_93]
    simp only [q154_0, q154_1, q154_2, q154_5, q154_6, q154_8, q154_9, q154_12, q154_14, q154_15, q154_16, q154_17, q154_20, q154_22, q154_23, q154_24, q154_25, q154_26, q154_27, q154_30, q154_32, q154_33, q154_34, q154_35, q154_36, q154_37, q154_40, q154_42, q154_43, q154_44, q154_46, q154_47, q154_48, q154_51, q154_53, q154_54, q154_55, q154_56, q154_59, q154_60, q154_61, q154_62, q154_65, q154_66, q154_67, q154_70, q154_71, q154_72, q154_75, q154_76, q154_77, q154_80, q154_81, q154_82, q154_85, q154_86, q154_87, q154_90, q154_91, q154_95, q154_96, q154_99, q154_101, q154_102, q154_105, q154_107, q154_109, q154_110, q154_111, q154_112, q154_113, q154_116, q154_117, q154_120, q154_122, q154_123, q154_124, q154_125, q154_127, q154_128, q154_131, q154_132, q154_133, q154_134, q154_137, q154_139, q154_140, q154_141, q154_142, q154_143, q154_144, q154_145, q154_148, q154_150, q154_151, q154_152, q154_153, q154_156, q154_158, q154_160, q154_161, q154_164, q154_167, n10, n01, Bool.false_eq_true, ab_bs, ab_bn, ab_pr0, ab_pr1, nl_n, nl_i, nl_r, nl_j, nl_nl, rc_123, gf_123_0, gf_123_1, pt_123_1, gf_123_2, pt_123_2, gf_123_3, pt_123_3, gf_123_4, pt_123_4, gf_123_5, pt_123_5, gf_123_6, pt_123_6, gf_123_7, pt_123_7, gf_123_8, pt_123_8, gf_123_9, gf_123_10, gf_123_11, gf_123_12, gf_123_13, pt_123_13_0, pt_123_13_1, gf_123_14, pt_123_14_0, pt_123_14_1, gf_123_15, gf_123_16, gf_123_17, gf_123_18, gf_123_19, gf_123_20, gf_123_21, gf_123_22, gf_123_23, gf_123_24, gf_123_25, pt_123_25, gf_123_26, gf_123_27, pt_123_27, gf_123_28, pt_123_28, gf_123_29, gf_123_30, pt_123_30, gf_123_31, pt_123_31, gf_123_32, pt_123_32, gf_123_33, pt_123_33, gf_123_34, pt_123_34_0, pt_123_34_1, gf_123_35, gf_123_36, gf_123_37, gf_123_38, pt_123_38, gf_123_39, pt_123_39, gf_123_40, pt_123_40, gf_123_41, gf_123_42, gf_123_43, gf_123_44, gf_123_45, gf_123_46, gf_123_47, pt_123_47, r72, h4, hM, nI_rfl, if_true]
