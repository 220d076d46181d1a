/-! set -/
theorem qe_le_239 {v : Int32} : (v ≤ 239) = (v < 240) := by
  apply propext
  rw [Int32.le_iff_toInt_le, Int32.lt_iff_toInt_lt, show (239 : Int32).toInt = 239 by decide, show (240 : Int32).toInt = 240 by decide]
  omega
theorem qe_le_240 {v : Int32} : (v ≤ 240) = (v < 241) := by
  apply propext
  rw [Int32.le_iff_toInt_le, Int32.lt_iff_toInt_lt, show (240 : Int32).toInt = 240 by decide, show (241 : Int32).toInt = 241 by decide]
  omega
theorem qe_le_99 {v : Int32} : (v ≤ 99) = (v < 100) := by
  apply propext
  rw [Int32.le_iff_toInt_le, Int32.lt_iff_toInt_lt, show (99 : Int32).toInt = 99 by decide, show (100 : Int32).toInt = 100 by decide]
  omega
theorem qe_le_999 {v : Int32} : (v ≤ 999) = (v < 1000) := by
  apply propext
  rw [Int32.le_iff_toInt_le, Int32.lt_iff_toInt_lt, show (999 : Int32).toInt = 999 by decide, show (1000 : Int32).toInt = 1000 by decide]
  omega
theorem qe_le_9 {v : Int32} : (v ≤ 9) = (v < 10) := by
  apply propext
  rw [Int32.le_iff_toInt_le, Int32.lt_iff_toInt_lt, show (9 : Int32).toInt = 9 by decide, show (10 : Int32).toInt = 10 by decide]
  omega
theorem qe_le_1 {v : Int32} : (v ≤ 1) = (v < 2) := by
  apply propext
  rw [Int32.le_iff_toInt_le, Int32.lt_iff_toInt_lt, show (1 : Int32).toInt = 1 by decide, show (2 : Int32).toInt = 2 by decide]
  omega
theorem qe_le_99999 {v : Int32} : (v ≤ 99999) = (v < 100000) := by
  apply propext
  rw [Int32.le_iff_toInt_le, Int32.lt_iff_toInt_lt, show (99999 : Int32).toInt = 99999 by decide, show (100000 : Int32).toInt = 100000 by decide]
  omega
theorem m99999 {x : Int32} : ((-99999 : Int64) ≤ x.toInt64) = (-99999 ≤ x) := by rw [show (-99999 : Int64) = (-99999 : Int32).toInt64 by decide, i64_le]
theorem pre_lt {v : Int32} {g : Nat} (hg : g ≤ 240) : (v ≤ 239 ∧ ¬ nI g ≤ v) = (v < nI g) := by
  apply propext
  rw [Int32.le_iff_toInt_le, Int32.le_iff_toInt_le, Int32.lt_iff_toInt_lt, nI_toInt (by omega), show (239 : Int32).toInt = 239 by decide]
  omega
theorem suc_le {v : Int32} {c : Nat} (hc : c < 1000) : (nI c + 1 ≤ v) = (nI c < v) := by
  apply propext
  rw [nI_1, Int32.le_iff_toInt_le, Int32.lt_iff_toInt_lt, nI_toInt (by omega), nI_toInt (by omega)]
  omega
theorem sp_may2 {scr : Option (List Int32)} (M : ab_M) (p v : Int32) : ab_ms scr 42 [.ref 16, .int p, .int 2, .int v] M = some (M, some (.int (if 1 ≤ v ∧ v < 100 then 1 else 0))) := by
  obtain ⟨e0, e1, e2, e3, e4, e5, e6, e7⟩ := @LE2000 scr M
  obtain ⟨f0, f1, f2, f3, f4, f5, f6, f7⟩ := @MO2001 scr M
  rw [ms42]
  by_cases h1 : v < 1
  · simp only [q42_0, q42_1, q42_4, q42_5, q42_6, q42_9, q42_10, q42_13, q42_14, q42_15, q42_18, q42_19, q42_20, q42_21, q42_24, q42_25, q42_26, q42_29, q42_30, q42_31, q42_32, q42_33, q42_36, q42_37, q42_40, q42_41, q42_42, q42_43, q42_44, q42_47, q42_48, q42_49, q42_52, q42_53, q42_54, q42_55, q42_56, q42_59, q42_60, q42_63, q42_64, n10, n01, Bool.false_eq_true, ab_bs, ab_bn, ab_pr0, ab_pr1, nl_n, nl_i, nl_r, nl_j, nl_nl, e2, f2, h1, if_true, narrow_b0, Int32.not_le.mpr h1, false_and, if_false]
  · by_cases h2 : v < 100
    · simp only [q42_0, q42_1, q42_4, q42_5, q42_6, q42_9, q42_10, q42_13, q42_14, q42_15, q42_18, q42_19, q42_20, q42_21, q42_24, q42_25, q42_26, q42_29, q42_30, q42_31, q42_32, q42_33, q42_36, q42_37, q42_40, q42_41, q42_42, q42_43, q42_44, q42_47, q42_48, q42_49, q42_52, q42_53, q42_54, q42_55, q42_56, q42_59, q42_60, q42_63, q42_64, n10, n01, Bool.false_eq_true, ab_bs, ab_bn, ab_pr0, ab_pr1, nl_n, nl_i, nl_r, nl_j, nl_nl, e2, f2, h1, h2, if_true, if_false, narrow_b1, Int32.not_lt.mp h1, qe_le_99, and_self, xe_0_1, xe_0_2, xe_0_3, xe_0_4, xe_0_5, xe_0_6, xe_0_7, xe_1_0, xe_1_2, xe_1_3, xe_1_4, xe_1_5, xe_1_6, xe_1_7, xe_2_0, xe_2_1, xe_2_3, xe_2_4, xe_2_5, xe_2_6, xe_2_7, xe_3_0, xe_3_1, xe_3_2, xe_3_4, xe_3_5, xe_3_6, xe_3_7, xe_4_0, xe_4_1, xe_4_2, xe_4_3, xe_4_5, xe_4_6, xe_4_7, xe_5_0, xe_5_1, xe_5_2, xe_5_3, xe_5_4, xe_5_6, xe_5_7, xe_6_0, xe_6_1, xe_6_2, xe_6_3, xe_6_4, xe_6_5, xe_6_7, xe_7_0, xe_7_1, xe_7_2, xe_7_3, xe_7_4, xe_7_5, xe_7_6, not_false_eq_true]
    · simp only [q42_0, q42_1, q42_4, q42_5, q42_6, q42_9, q42_10, q42_13, q42_14, q42_15, q42_18, q42_19, q42_20, q42_21, q42_24, q42_25, q42_26, q42_29, q42_30, q42_31, q42_32, q42_33, q42_36, q42_37, q42_40, q42_41, q42_42, q42_43, q42_44, q42_47, q42_48, q42_49, q42_52, q42_53, q42_54, q42_55, q42_56, q42_59, q42_60, q42_63, q42_64, n10, n01, Bool.false_eq_true, ab_bs, ab_bn, ab_pr0, ab_pr1, nl_n, nl_i, nl_r, nl_j, nl_nl, e2, f2, h1, h2, if_true, if_false, narrow_b0, qe_le_99, and_false]
theorem sp_isv2 {scr : Option (List Int32)} (M : ab_M) (p v : Int32) : ab_ms scr 137 [.ref 123, .int p, .int 2, .int v] M = some (M, some (.int (if 1 ≤ v ∧ v < 100 then 1 else 0))) := by
  rw [ms137]
  simp only [q137_0, q137_48, q137_49, q137_50, q137_51, q137_52, q137_53, q137_54, q137_57, q137_58, q137_59, q137_60, q137_63, q137_64, q137_65, q137_66, q137_67, q137_68, q137_69, q137_72, q137_73, q137_74, q137_75, q137_78, q137_81, q137_82, q137_83, q137_84, q137_85, q137_88, q137_91, q137_92, q137_93, q137_94, q137_95, q137_98, q137_101, q137_102, q137_103, q137_104, q137_105, q137_108, q137_111, q137_112, q137_113, q137_114, q137_115, q137_116, q137_119, q137_120, q137_121, q137_122, q137_125, q137_128, q137_131, q137_132, q137_133, q137_1, n10, n01, Bool.false_eq_true, ab_bs, ab_bn, ab_pr0, ab_pr1, nl_n, nl_i, nl_r, nl_j, nl_nl, xe_0_1, xe_0_2, xe_0_3, xe_0_4, xe_0_5, xe_0_6, xe_0_7, xe_1_0, xe_1_2, xe_1_3, xe_1_4, xe_1_5, xe_1_6, xe_1_7, xe_2_0, xe_2_1, xe_2_3, xe_2_4, xe_2_5, xe_2_6, xe_2_7, xe_3_0, xe_3_1, xe_3_2, xe_3_4, xe_3_5, xe_3_6, xe_3_7, xe_4_0, xe_4_1, xe_4_2, xe_4_3, xe_4_5, xe_4_6, xe_4_7, xe_5_0, xe_5_1, xe_5_2, xe_5_3, xe_5_4, xe_5_6, xe_5_7, xe_6_0, xe_6_1, xe_6_2, xe_6_3, xe_6_4, xe_6_5, xe_6_7, xe_7_0, xe_7_1, xe_7_2, xe_7_3, xe_7_4, xe_7_5, xe_7_6, if_true, if_false, sp_in, k1, l99, narrow_bi]
theorem sp_may3 {scr : Option (List Int32)} (M : ab_M) (p v : Int32) : ab_ms scr 42 [.ref 16, .int p, .int 3, .int v] M = some (M, some (.int (if 1 ≤ v ∧ v < 100 then 1 else 0))) := by
  obtain ⟨e0, e1, e2, e3, e4, e5, e6, e7⟩ := @LE2000 scr M
  obtain ⟨f0, f1, f2, f3, f4, f5, f6, f7⟩ := @MO2001 scr M
  rw [ms42]
  by_cases h1 : v < 1
  · simp only [q42_0, q42_1, q42_4, q42_5, q42_6, q42_9, q42_10, q42_13, q42_14, q42_15, q42_18, q42_19, q42_20, q42_21, q42_24, q42_25, q42_26, q42_29, q42_30, q42_31, q42_32, q42_33, q42_36, q42_37, q42_40, q42_41, q42_42, q42_43, q42_44, q42_47, q42_48, q42_49, q42_52, q42_53, q42_54, q42_55, q42_56, q42_59, q42_60, q42_63, q42_64, n10, n01, Bool.false_eq_true, ab_bs, ab_bn, ab_pr0, ab_pr1, nl_n, nl_i, nl_r, nl_j, nl_nl, e3, f3, h1, if_true, narrow_b0, Int32.not_le.mpr h1, false_and, if_false]
  · by_cases h2 : v < 100
    · simp only [q42_0, q42_1, q42_4, q42_5, q42_6, q42_9, q42_10, q42_13, q42_14, q42_15, q42_18, q42_19, q42_20, q42_21, q42_24, q42_25, q42_26, q42_29, q42_30, q42_31, q42_32, q42_33, q42_36, q42_37, q42_40, q42_41, q42_42, q42_43, q42_44, q42_47, q42_48, q42_49, q42_52, q42_53, q42_54, q42_55, q42_56, q42_59, q42_60, q42_63, q42_64, n10, n01, Bool.false_eq_true, ab_bs, ab_bn, ab_pr0, ab_pr1, nl_n, nl_i, nl_r, nl_j, nl_nl, e3, f3, h1, h2, if_true, if_false, narrow_b1, Int32.not_lt.mp h1, qe_le_99, and_self, xe_0_1, xe_0_2, xe_0_3, xe_0_4, xe_0_5, xe_0_6, xe_0_7, xe_1_0, xe_1_2, xe_1_3, xe_1_4, xe_1_5, xe_1_6, xe_1_7, xe_2_0, xe_2_1, xe_2_3, xe_2_4, xe_2_5, xe_2_6, xe_2_7, xe_3_0, xe_3_1, xe_3_2, xe_3_4, xe_3_5, xe_3_6, xe_3_7, xe_4_0, xe_4_1, xe_4_2, xe_4_3, xe_4_5, xe_4_6, xe_4_7, xe_5_0, xe_5_1, xe_5_2, xe_5_3, xe_5_4, xe_5_6, xe_5_7, xe_6_0, xe_6_1, xe_6_2, xe_6_3, xe_6_4, xe_6_5, xe_6_7, xe_7_0, xe_7_1, xe_7_2, xe_7_3, xe_7_4, xe_7_5, xe_7_6, not_false_eq_true]
    · simp only [q42_0, q42_1, q42_4, q42_5, q42_6, q42_9, q42_10, q42_13, q42_14, q42_15, q42_18, q42_19, q42_20, q42_21, q42_24, q42_25, q42_26, q42_29, q42_30, q42_31, q42_32, q42_33, q42_36, q42_37, q42_40, q42_41, q42_42, q42_43, q42_44, q42_47, q42_48, q42_49, q42_52, q42_53, q42_54, q42_55, q42_56, q42_59, q42_60, q42_63, q42_64, n10, n01, Bool.false_eq_true, ab_bs, ab_bn, ab_pr0, ab_pr1, nl_n, nl_i, nl_r, nl_j, nl_nl, e3, f3, h1, h2, if_true, if_false, narrow_b0, qe_le_99, and_false]
theorem sp_isv3 {scr : Option (List Int32)} (M : ab_M) (p v : Int32) : ab_ms scr 137 [.ref 123, .int p, .int 3, .int v] M = some (M, some (.int (if 1 ≤ v ∧ v < 100 then 1 else 0))) := by
  rw [ms137]
  simp only [q137_0, q137_48, q137_49, q137_50, q137_51, q137_52, q137_53, q137_54, q137_57, q137_58, q137_59, q137_60, q137_63, q137_64, q137_65, q137_66, q137_67, q137_68, q137_69, q137_72, q137_73, q137_74, q137_75, q137_78, q137_81, q137_82, q137_83, q137_84, q137_85, q137_88, q137_91, q137_92, q137_93, q137_94, q137_95, q137_98, q137_101, q137_102, q137_103, q137_104, q137_105, q137_108, q137_111, q137_112, q137_113, q137_114, q137_115, q137_116, q137_119, q137_120, q137_121, q137_122, q137_125, q137_128, q137_131, q137_132, q137_133, q137_1, n10, n01, Bool.false_eq_true, ab_bs, ab_bn, ab_pr0, ab_pr1, nl_n, nl_i, nl_r, nl_j, nl_nl, xe_0_1, xe_0_2, xe_0_3, xe_0_4, xe_0_5, xe_0_6, xe_0_7, xe_1_0, xe_1_2, xe_1_3, xe_1_4, xe_1_5, xe_1_6, xe_1_7, xe_2_0, xe_2_1, xe_2_3, xe_2_4, xe_2_5, xe_2_6, xe_2_7, xe_3_0, xe_3_1, xe_3_2, xe_3_4, xe_3_5, xe_3_6, xe_3_7, xe_4_0, xe_4_1, xe_4_2, xe_4_3, xe_4_5, xe_4_6, xe_4_7, xe_5_0, xe_5_1, xe_5_2, xe_5_3, xe_5_4, xe_5_6, xe_5_7, xe_6_0, xe_6_1, xe_6_2, xe_6_3, xe_6_4, xe_6_5, xe_6_7, xe_7_0, xe_7_1, xe_7_2, xe_7_3, xe_7_4, xe_7_5, xe_7_6, if_true, if_false, sp_in, k1, l99, narrow_bi]
theorem sp_may4 {scr : Option (List Int32)} (M : ab_M) (p v : Int32) : ab_ms scr 42 [.ref 16, .int p, .int 4, .int v] M = some (M, some (.int (if 0 ≤ v ∧ v < 1000 then 1 else 0))) := by
  obtain ⟨e0, e1, e2, e3, e4, e5, e6, e7⟩ := @LE2000 scr M
  obtain ⟨f0, f1, f2, f3, f4, f5, f6, f7⟩ := @MO2001 scr M
  rw [ms42]
  by_cases h1 : v < 0
  · simp only [q42_0, q42_1, q42_4, q42_5, q42_6, q42_9, q42_10, q42_13, q42_14, q42_15, q42_18, q42_19, q42_20, q42_21, q42_24, q42_25, q42_26, q42_29, q42_30, q42_31, q42_32, q42_33, q42_36, q42_37, q42_40, q42_41, q42_42, q42_43, q42_44, q42_47, q42_48, q42_49, q42_52, q42_53, q42_54, q42_55, q42_56, q42_59, q42_60, q42_63, q42_64, n10, n01, Bool.false_eq_true, ab_bs, ab_bn, ab_pr0, ab_pr1, nl_n, nl_i, nl_r, nl_j, nl_nl, e4, f4, h1, if_true, narrow_b0, Int32.not_le.mpr h1, false_and, if_false]
  · by_cases h2 : v < 1000
    · simp only [q42_0, q42_1, q42_4, q42_5, q42_6, q42_9, q42_10, q42_13, q42_14, q42_15, q42_18, q42_19, q42_20, q42_21, q42_24, q42_25, q42_26, q42_29, q42_30, q42_31, q42_32, q42_33, q42_36, q42_37, q42_40, q42_41, q42_42, q42_43, q42_44, q42_47, q42_48, q42_49, q42_52, q42_53, q42_54, q42_55, q42_56, q42_59, q42_60, q42_63, q42_64, n10, n01, Bool.false_eq_true, ab_bs, ab_bn, ab_pr0, ab_pr1, nl_n, nl_i, nl_r, nl_j, nl_nl, e4, f4, h1, h2, if_true, if_false, narrow_b1, Int32.not_lt.mp h1, qe_le_999, and_self, xe_0_1, xe_0_2, xe_0_3, xe_0_4, xe_0_5, xe_0_6, xe_0_7, xe_1_0, xe_1_2, xe_1_3, xe_1_4, xe_1_5, xe_1_6, xe_1_7, xe_2_0, xe_2_1, xe_2_3, xe_2_4, xe_2_5, xe_2_6, xe_2_7, xe_3_0, xe_3_1, xe_3_2, xe_3_4, xe_3_5, xe_3_6, xe_3_7, xe_4_0, xe_4_1, xe_4_2, xe_4_3, xe_4_5, xe_4_6, xe_4_7, xe_5_0, xe_5_1, xe_5_2, xe_5_3, xe_5_4, xe_5_6, xe_5_7, xe_6_0, xe_6_1, xe_6_2, xe_6_3, xe_6_4, xe_6_5, xe_6_7, xe_7_0, xe_7_1, xe_7_2, xe_7_3, xe_7_4, xe_7_5, xe_7_6, not_false_eq_true]
    · simp only [q42_0, q42_1, q42_4, q42_5, q42_6, q42_9, q42_10, q42_13, q42_14, q42_15, q42_18, q42_19, q42_20, q42_21, q42_24, q42_25, q42_26, q42_29, q42_30, q42_31, q42_32, q42_33, q42_36, q42_37, q42_40, q42_41, q42_42, q42_43, q42_44, q42_47, q42_48, q42_49, q42_52, q42_53, q42_54, q42_55, q42_56, q42_59, q42_60, q42_63, q42_64, n10, n01, Bool.false_eq_true, ab_bs, ab_bn, ab_pr0, ab_pr1, nl_n, nl_i, nl_r, nl_j, nl_nl, e4, f4, h1, h2, if_true, if_false, narrow_b0, qe_le_999, and_false]
theorem sp_isv4 {scr : Option (List Int32)} (M : ab_M) (p v : Int32) : ab_ms scr 137 [.ref 123, .int p, .int 4, .int v] M = some (M, some (.int (if 0 ≤ v ∧ v < 1000 then 1 else 0))) := by
  rw [ms137]
  simp only [q137_0, q137_48, q137_49, q137_50, q137_51, q137_52, q137_53, q137_54, q137_57, q137_58, q137_59, q137_60, q137_63, q137_64, q137_65, q137_66, q137_67, q137_68, q137_69, q137_72, q137_73, q137_74, q137_75, q137_78, q137_81, q137_82, q137_83, q137_84, q137_85, q137_88, q137_91, q137_92, q137_93, q137_94, q137_95, q137_98, q137_101, q137_102, q137_103, q137_104, q137_105, q137_108, q137_111, q137_112, q137_113, q137_114, q137_115, q137_116, q137_119, q137_120, q137_121, q137_122, q137_125, q137_128, q137_131, q137_132, q137_133, q137_1, n10, n01, Bool.false_eq_true, ab_bs, ab_bn, ab_pr0, ab_pr1, nl_n, nl_i, nl_r, nl_j, nl_nl, xe_0_1, xe_0_2, xe_0_3, xe_0_4, xe_0_5, xe_0_6, xe_0_7, xe_1_0, xe_1_2, xe_1_3, xe_1_4, xe_1_5, xe_1_6, xe_1_7, xe_2_0, xe_2_1, xe_2_3, xe_2_4, xe_2_5, xe_2_6, xe_2_7, xe_3_0, xe_3_1, xe_3_2, xe_3_4, xe_3_5, xe_3_6, xe_3_7, xe_4_0, xe_4_1, xe_4_2, xe_4_3, xe_4_5, xe_4_6, xe_4_7, xe_5_0, xe_5_1, xe_5_2, xe_5_3, xe_5_4, xe_5_6, xe_5_7, xe_6_0, xe_6_1, xe_6_2, xe_6_3, xe_6_4, xe_6_5, xe_6_7, xe_7_0, xe_7_1, xe_7_2, xe_7_3, xe_7_4, xe_7_5, xe_7_6, if_true, if_false, sp_in, k0, l999, narrow_bi]
theorem sp_may5 {scr : Option (List Int32)} (M : ab_M) (p v : Int32) : ab_ms scr 42 [.ref 16, .int p, .int 5, .int v] M = some (M, some (.int (if 0 ≤ v ∧ v < 10 then 1 else 0))) := by
  obtain ⟨e0, e1, e2, e3, e4, e5, e6, e7⟩ := @LE2000 scr M
  obtain ⟨f0, f1, f2, f3, f4, f5, f6, f7⟩ := @MO2001 scr M
  rw [ms42]
  by_cases h1 : v < 0
  · simp only [q42_0, q42_1, q42_4, q42_5, q42_6, q42_9, q42_10, q42_13, q42_14, q42_15, q42_18, q42_19, q42_20, q42_21, q42_24, q42_25, q42_26, q42_29, q42_30, q42_31, q42_32, q42_33, q42_36, q42_37, q42_40, q42_41, q42_42, q42_43, q42_44, q42_47, q42_48, q42_49, q42_52, q42_53, q42_54, q42_55, q42_56, q42_59, q42_60, q42_63, q42_64, n10, n01, Bool.false_eq_true, ab_bs, ab_bn, ab_pr0, ab_pr1, nl_n, nl_i, nl_r, nl_j, nl_nl, e5, f5, h1, if_true, narrow_b0, Int32.not_le.mpr h1, false_and, if_false]
  · by_cases h2 : v < 10
    · simp only [q42_0, q42_1, q42_4, q42_5, q42_6, q42_9, q42_10, q42_13, q42_14, q42_15, q42_18, q42_19, q42_20, q42_21, q42_24, q42_25, q42_26, q42_29, q42_30, q42_31, q42_32, q42_33, q42_36, q42_37, q42_40, q42_41, q42_42, q42_43, q42_44, q42_47, q42_48, q42_49, q42_52, q42_53, q42_54, q42_55, q42_56, q42_59, q42_60, q42_63, q42_64, n10, n01, Bool.false_eq_true, ab_bs, ab_bn, ab_pr0, ab_pr1, nl_n, nl_i, nl_r, nl_j, nl_nl, e5, f5, h1, h2, if_true, if_false, narrow_b1, Int32.not_lt.mp h1, qe_le_9, and_self, xe_0_1, xe_0_2, xe_0_3, xe_0_4, xe_0_5, xe_0_6, xe_0_7, xe_1_0, xe_1_2, xe_1_3, xe_1_4, xe_1_5, xe_1_6, xe_1_7, xe_2_0, xe_2_1, xe_2_3, xe_2_4, xe_2_5, xe_2_6, xe_2_7, xe_3_0, xe_3_1, xe_3_2, xe_3_4, xe_3_5, xe_3_6, xe_3_7, xe_4_0, xe_4_1, xe_4_2, xe_4_3, xe_4_5, xe_4_6, xe_4_7, xe_5_0, xe_5_1, xe_5_2, xe_5_3, xe_5_4, xe_5_6, xe_5_7, xe_6_0, xe_6_1, xe_6_2, xe_6_3, xe_6_4, xe_6_5, xe_6_7, xe_7_0, xe_7_1, xe_7_2, xe_7_3, xe_7_4, xe_7_5, xe_7_6, not_false_eq_true]
    · simp only [q42_0, q42_1, q42_4, q42_5, q42_6, q42_9, q42_10, q42_13, q42_14, q42_15, q42_18, q42_19, q42_20, q42_21, q42_24, q42_25, q42_26, q42_29, q42_30, q42_31, q42_32, q42_33, q42_36, q42_37, q42_40, q42_41, q42_42, q42_43, q42_44, q42_47, q42_48, q42_49, q42_52, q42_53, q42_54, q42_55, q42_56, q42_59, q42_60, q42_63, q42_64, n10, n01, Bool.false_eq_true, ab_bs, ab_bn, ab_pr0, ab_pr1, nl_n, nl_i, nl_r, nl_j, nl_nl, e5, f5, h1, h2, if_true, if_false, narrow_b0, qe_le_9, and_false]
theorem sp_isv5 {scr : Option (List Int32)} (M : ab_M) (p v : Int32) : ab_ms scr 137 [.ref 123, .int p, .int 5, .int v] M = some (M, some (.int (if 0 ≤ v ∧ v < 10 then 1 else 0))) := by
  rw [ms137]
  simp only [q137_0, q137_48, q137_49, q137_50, q137_51, q137_52, q137_53, q137_54, q137_57, q137_58, q137_59, q137_60, q137_63, q137_64, q137_65, q137_66, q137_67, q137_68, q137_69, q137_72, q137_73, q137_74, q137_75, q137_78, q137_81, q137_82, q137_83, q137_84, q137_85, q137_88, q137_91, q137_92, q137_93, q137_94, q137_95, q137_98, q137_101, q137_102, q137_103, q137_104, q137_105, q137_108, q137_111, q137_112, q137_113, q137_114, q137_115, q137_116, q137_119, q137_120, q137_121, q137_122, q137_125, q137_128, q137_131, q137_132, q137_133, q137_1, n10, n01, Bool.false_eq_true, ab_bs, ab_bn, ab_pr0, ab_pr1, nl_n, nl_i, nl_r, nl_j, nl_nl, xe_0_1, xe_0_2, xe_0_3, xe_0_4, xe_0_5, xe_0_6, xe_0_7, xe_1_0, xe_1_2, xe_1_3, xe_1_4, xe_1_5, xe_1_6, xe_1_7, xe_2_0, xe_2_1, xe_2_3, xe_2_4, xe_2_5, xe_2_6, xe_2_7, xe_3_0, xe_3_1, xe_3_2, xe_3_4, xe_3_5, xe_3_6, xe_3_7, xe_4_0, xe_4_1, xe_4_2, xe_4_3, xe_4_5, xe_4_6, xe_4_7, xe_5_0, xe_5_1, xe_5_2, xe_5_3, xe_5_4, xe_5_6, xe_5_7, xe_6_0, xe_6_1, xe_6_2, xe_6_3, xe_6_4, xe_6_5, xe_6_7, xe_7_0, xe_7_1, xe_7_2, xe_7_3, xe_7_4, xe_7_5, xe_7_6, if_true, if_false, sp_in, k0, l9, narrow_bi]
theorem sp_may6 {scr : Option (List Int32)} (M : ab_M) (p v : Int32) : ab_ms scr 42 [.ref 16, .int p, .int 6, .int v] M = some (M, some (.int (if 0 ≤ v ∧ v < 2 then 1 else 0))) := by
  obtain ⟨e0, e1, e2, e3, e4, e5, e6, e7⟩ := @LE2000 scr M
  obtain ⟨f0, f1, f2, f3, f4, f5, f6, f7⟩ := @MO2001 scr M
  rw [ms42]
  by_cases h1 : v < 0
  · simp only [q42_0, q42_1, q42_4, q42_5, q42_6, q42_9, q42_10, q42_13, q42_14, q42_15, q42_18, q42_19, q42_20, q42_21, q42_24, q42_25, q42_26, q42_29, q42_30, q42_31, q42_32, q42_33, q42_36, q42_37, q42_40, q42_41, q42_42, q42_43, q42_44, q42_47, q42_48, q42_49, q42_52, q42_53, q42_54, q42_55, q42_56, q42_59, q42_60, q42_63, q42_64, n10, n01, Bool.false_eq_true, ab_bs, ab_bn, ab_pr0, ab_pr1, nl_n, nl_i, nl_r, nl_j, nl_nl, e6, f6, h1, if_true, narrow_b0, Int32.not_le.mpr h1, false_and, if_false]
  · by_cases h2 : v < 2
    · simp only [q42_0, q42_1, q42_4, q42_5, q42_6, q42_9, q42_10, q42_13, q42_14, q42_15, q42_18, q42_19, q42_20, q42_21, q42_24, q42_25, q42_26, q42_29, q42_30, q42_31, q42_32, q42_33, q42_36, q42_37, q42_40, q42_41, q42_42, q42_43, q42_44, q42_47, q42_48, q42_49, q42_52, q42_53, q42_54, q42_55, q42_56, q42_59, q42_60, q42_63, q42_64, n10, n01, Bool.false_eq_true, ab_bs, ab_bn, ab_pr0, ab_pr1, nl_n, nl_i, nl_r, nl_j, nl_nl, e6, f6, h1, h2, if_true, if_false, narrow_b1, Int32.not_lt.mp h1, qe_le_1, and_self, xe_0_1, xe_0_2, xe_0_3, xe_0_4, xe_0_5, xe_0_6, xe_0_7, xe_1_0, xe_1_2, xe_1_3, xe_1_4, xe_1_5, xe_1_6, xe_1_7, xe_2_0, xe_2_1, xe_2_3, xe_2_4, xe_2_5, xe_2_6, xe_2_7, xe_3_0, xe_3_1, xe_3_2, xe_3_4, xe_3_5, xe_3_6, xe_3_7, xe_4_0, xe_4_1, xe_4_2, xe_4_3, xe_4_5, xe_4_6, xe_4_7, xe_5_0, xe_5_1, xe_5_2, xe_5_3, xe_5_4, xe_5_6, xe_5_7, xe_6_0, xe_6_1, xe_6_2, xe_6_3, xe_6_4, xe_6_5, xe_6_7, xe_7_0, xe_7_1, xe_7_2, xe_7_3, xe_7_4, xe_7_5, xe_7_6, not_false_eq_true]
    · simp only [q42_0, q42_1, q42_4, q42_5, q42_6, q42_9, q42_10, q42_13, q42_14, q42_15, q42_18, q42_19, q42_20, q42_21, q42_24, q42_25, q42_26, q42_29, q42_30, q42_31, q42_32, q42_33, q42_36, q42_37, q42_40, q42_41, q42_42, q42_43, q42_44, q42_47, q42_48, q42_49, q42_52, q42_53, q42_54, q42_55, q42_56, q42_59, q42_60, q42_63, q42_64, n10, n01, Bool.false_eq_true, ab_bs, ab_bn, ab_pr0, ab_pr1, nl_n, nl_i, nl_r, nl_j, nl_nl, e6, f6, h1, h2, if_true, if_false, narrow_b0, qe_le_1, and_false]
theorem sp_isv6 {scr : Option (List Int32)} (M : ab_M) (p v : Int32) : ab_ms scr 137 [.ref 123, .int p, .int 6, .int v] M = some (M, some (.int (if 0 ≤ v ∧ v < 2 then 1 else 0))) := by
  rw [ms137]
  simp only [q137_0, q137_48, q137_49, q137_50, q137_51, q137_52, q137_53, q137_54, q137_57, q137_58, q137_59, q137_60, q137_63, q137_64, q137_65, q137_66, q137_67, q137_68, q137_69, q137_72, q137_73, q137_74, q137_75, q137_78, q137_81, q137_82, q137_83, q137_84, q137_85, q137_88, q137_91, q137_92, q137_93, q137_94, q137_95, q137_98, q137_101, q137_102, q137_103, q137_104, q137_105, q137_108, q137_111, q137_112, q137_113, q137_114, q137_115, q137_116, q137_119, q137_120, q137_121, q137_122, q137_125, q137_128, q137_131, q137_132, q137_133, q137_1, n10, n01, Bool.false_eq_true, ab_bs, ab_bn, ab_pr0, ab_pr1, nl_n, nl_i, nl_r, nl_j, nl_nl, xe_0_1, xe_0_2, xe_0_3, xe_0_4, xe_0_5, xe_0_6, xe_0_7, xe_1_0, xe_1_2, xe_1_3, xe_1_4, xe_1_5, xe_1_6, xe_1_7, xe_2_0, xe_2_1, xe_2_3, xe_2_4, xe_2_5, xe_2_6, xe_2_7, xe_3_0, xe_3_1, xe_3_2, xe_3_4, xe_3_5, xe_3_6, xe_3_7, xe_4_0, xe_4_1, xe_4_2, xe_4_3, xe_4_5, xe_4_6, xe_4_7, xe_5_0, xe_5_1, xe_5_2, xe_5_3, xe_5_4, xe_5_6, xe_5_7, xe_6_0, xe_6_1, xe_6_2, xe_6_3, xe_6_4, xe_6_5, xe_6_7, xe_7_0, xe_7_1, xe_7_2, xe_7_3, xe_7_4, xe_7_5, xe_7_6, if_true, if_false, sp_in, k0, l1, narrow_bi]
theorem sp_may7 {scr : Option (List Int32)} (M : ab_M) (p v : Int32) : ab_ms scr 42 [.ref 16, .int p, .int 7, .int v] M = some (M, some (.int (if -99999 ≤ v ∧ v < 100000 then 1 else 0))) := by
  obtain ⟨e0, e1, e2, e3, e4, e5, e6, e7⟩ := @LE2000 scr M
  obtain ⟨f0, f1, f2, f3, f4, f5, f6, f7⟩ := @MO2001 scr M
  rw [ms42]
  by_cases h1 : v < -99999
  · simp only [q42_0, q42_1, q42_4, q42_5, q42_6, q42_9, q42_10, q42_13, q42_14, q42_15, q42_18, q42_19, q42_20, q42_21, q42_24, q42_25, q42_26, q42_29, q42_30, q42_31, q42_32, q42_33, q42_36, q42_37, q42_40, q42_41, q42_42, q42_43, q42_44, q42_47, q42_48, q42_49, q42_52, q42_53, q42_54, q42_55, q42_56, q42_59, q42_60, q42_63, q42_64, n10, n01, Bool.false_eq_true, ab_bs, ab_bn, ab_pr0, ab_pr1, nl_n, nl_i, nl_r, nl_j, nl_nl, e7, f7, h1, if_true, narrow_b0, Int32.not_le.mpr h1, false_and, if_false]
  · by_cases h2 : v < 100000
    · simp only [q42_0, q42_1, q42_4, q42_5, q42_6, q42_9, q42_10, q42_13, q42_14, q42_15, q42_18, q42_19, q42_20, q42_21, q42_24, q42_25, q42_26, q42_29, q42_30, q42_31, q42_32, q42_33, q42_36, q42_37, q42_40, q42_41, q42_42, q42_43, q42_44, q42_47, q42_48, q42_49, q42_52, q42_53, q42_54, q42_55, q42_56, q42_59, q42_60, q42_63, q42_64, n10, n01, Bool.false_eq_true, ab_bs, ab_bn, ab_pr0, ab_pr1, nl_n, nl_i, nl_r, nl_j, nl_nl, e7, f7, h1, h2, if_true, if_false, narrow_b1, Int32.not_lt.mp h1, qe_le_99999, and_self, xe_0_1, xe_0_2, xe_0_3, xe_0_4, xe_0_5, xe_0_6, xe_0_7, xe_1_0, xe_1_2, xe_1_3, xe_1_4, xe_1_5, xe_1_6, xe_1_7, xe_2_0, xe_2_1, xe_2_3, xe_2_4, xe_2_5, xe_2_6, xe_2_7, xe_3_0, xe_3_1, xe_3_2, xe_3_4, xe_3_5, xe_3_6, xe_3_7, xe_4_0, xe_4_1, xe_4_2, xe_4_3, xe_4_5, xe_4_6, xe_4_7, xe_5_0, xe_5_1, xe_5_2, xe_5_3, xe_5_4, xe_5_6, xe_5_7, xe_6_0, xe_6_1, xe_6_2, xe_6_3, xe_6_4, xe_6_5, xe_6_7, xe_7_0, xe_7_1, xe_7_2, xe_7_3, xe_7_4, xe_7_5, xe_7_6, not_false_eq_true]
    · simp only [q42_0, q42_1, q42_4, q42_5, q42_6, q42_9, q42_10, q42_13, q42_14, q42_15, q42_18, q42_19, q42_20, q42_21, q42_24, q42_25, q42_26, q42_29, q42_30, q42_31, q42_32, q42_33, q42_36, q42_37, q42_40, q42_41, q42_42, q42_43, q42_44, q42_47, q42_48, q42_49, q42_52, q42_53, q42_54, q42_55, q42_56, q42_59, q42_60, q42_63, q42_64, n10, n01, Bool.false_eq_true, ab_bs, ab_bn, ab_pr0, ab_pr1, nl_n, nl_i, nl_r, nl_j, nl_nl, e7, f7, h1, h2, if_true, if_false, narrow_b0, qe_le_99999, and_false]
theorem sp_isv7 {scr : Option (List Int32)} (M : ab_M) (p v : Int32) : ab_ms scr 137 [.ref 123, .int p, .int 7, .int v] M = some (M, some (.int (if -99999 ≤ v ∧ v < 100000 then 1 else 0))) := by
  rw [ms137]
  simp only [q137_0, q137_48, q137_49, q137_50, q137_51, q137_52, q137_53, q137_54, q137_57, q137_58, q137_59, q137_60, q137_63, q137_64, q137_65, q137_66, q137_67, q137_68, q137_69, q137_72, q137_73, q137_74, q137_75, q137_78, q137_81, q137_82, q137_83, q137_84, q137_85, q137_88, q137_91, q137_92, q137_93, q137_94, q137_95, q137_98, q137_101, q137_102, q137_103, q137_104, q137_105, q137_108, q137_111, q137_112, q137_113, q137_114, q137_115, q137_116, q137_119, q137_120, q137_121, q137_122, q137_125, q137_128, q137_131, q137_132, q137_133, q137_1, n10, n01, Bool.false_eq_true, ab_bs, ab_bn, ab_pr0, ab_pr1, nl_n, nl_i, nl_r, nl_j, nl_nl, xe_0_1, xe_0_2, xe_0_3, xe_0_4, xe_0_5, xe_0_6, xe_0_7, xe_1_0, xe_1_2, xe_1_3, xe_1_4, xe_1_5, xe_1_6, xe_1_7, xe_2_0, xe_2_1, xe_2_3, xe_2_4, xe_2_5, xe_2_6, xe_2_7, xe_3_0, xe_3_1, xe_3_2, xe_3_4, xe_3_5, xe_3_6, xe_3_7, xe_4_0, xe_4_1, xe_4_2, xe_4_3, xe_4_5, xe_4_6, xe_4_7, xe_5_0, xe_5_1, xe_5_2, xe_5_3, xe_5_4, xe_5_6, xe_5_7, xe_6_0, xe_6_1, xe_6_2, xe_6_3, xe_6_4, xe_6_5, xe_6_7, xe_7_0, xe_7_1, xe_7_2, xe_7_3, xe_7_4, xe_7_5, xe_7_6, if_true, if_false, sp_in, m99999, l99999, narrow_bi]
theorem sp_may0 {scr : Option (List Int32)} (M : ab_M) (j g : Nat) (hj : j < 8) (hg : g ≤ 240) (hM : M 19 j = nI g) (v : Int32) : ab_ms scr 42 [.ref 16, .int (nI j), .int 0, .int v] M = some (M, some (.int (if 0 ≤ v ∧ v < nI g then 1 else 0))) := by
  obtain ⟨e0, e1, e2, e3, e4, e5, e6, e7⟩ := @LE2000 scr M
  obtain ⟨f0, f1, f2, f3, f4, f5, f6, f7⟩ := @MO2001 scr M
  have e := pre_lt (v := v) hg
  rw [ms42]
  by_cases h1 : v < 0
  · simp only [q42_0, q42_1, q42_4, q42_5, q42_6, q42_9, q42_10, q42_13, q42_14, q42_15, q42_18, q42_19, q42_20, q42_21, q42_24, q42_25, q42_26, q42_29, q42_30, q42_31, q42_32, q42_33, q42_36, q42_37, q42_40, q42_41, q42_42, q42_43, q42_44, q42_47, q42_48, q42_49, q42_52, q42_53, q42_54, q42_55, q42_56, q42_59, q42_60, q42_63, q42_64, n10, n01, Bool.false_eq_true, ab_bs, ab_bn, ab_pr0, ab_pr1, nl_n, nl_i, nl_r, nl_j, nl_nl, e0, f0, h1, if_true, narrow_b0, Int32.not_le.mpr h1, false_and, if_false]
  · by_cases h2 : v ≤ 239
    · by_cases h3 : nI g ≤ v
      · simp only [q42_0, q42_1, q42_4, q42_5, q42_6, q42_9, q42_10, q42_13, q42_14, q42_15, q42_18, q42_19, q42_20, q42_21, q42_24, q42_25, q42_26, q42_29, q42_30, q42_31, q42_32, q42_33, q42_36, q42_37, q42_40, q42_41, q42_42, q42_43, q42_44, q42_47, q42_48, q42_49, q42_52, q42_53, q42_54, q42_55, q42_56, q42_59, q42_60, q42_63, q42_64, n10, n01, Bool.false_eq_true, ab_bs, ab_bn, ab_pr0, ab_pr1, nl_n, nl_i, nl_r, nl_j, nl_nl, rc_16, gf_16_0, gf_16_1, gf_16_2, gf_16_3, pt_16_3, gf_16_4, pt_16_4, gf_16_5, pt_16_5, ln_19, al_19, si_19, e0, f0, h1, h2, h3, Int32.not_lt.mpr h3, if_true, if_false, narrow_b0, and_false, qe_17_1, ib8 hj, nI_clamp (show j < 2 ^ 31 by omega), hM, not_true]
      · simp only [q42_0, q42_1, q42_4, q42_5, q42_6, q42_9, q42_10, q42_13, q42_14, q42_15, q42_18, q42_19, q42_20, q42_21, q42_24, q42_25, q42_26, q42_29, q42_30, q42_31, q42_32, q42_33, q42_36, q42_37, q42_40, q42_41, q42_42, q42_43, q42_44, q42_47, q42_48, q42_49, q42_52, q42_53, q42_54, q42_55, q42_56, q42_59, q42_60, q42_63, q42_64, n10, n01, Bool.false_eq_true, ab_bs, ab_bn, ab_pr0, ab_pr1, nl_n, nl_i, nl_r, nl_j, nl_nl, rc_16, gf_16_0, gf_16_1, gf_16_2, gf_16_3, pt_16_3, gf_16_4, pt_16_4, gf_16_5, pt_16_5, ln_19, al_19, si_19, e0, f0, h1, h2, h3, Int32.not_le.mp h3, if_true, if_false, narrow_b1, not_true, not_false_eq_true, Int32.not_lt.mp h1, and_self, qe_17_1, ib8 hj, nI_clamp (show j < 2 ^ 31 by omega), hM]
    · have h4 : ¬ v < nI g := fun q => h2 (cast e.symm q).1
      simp only [q42_0, q42_1, q42_4, q42_5, q42_6, q42_9, q42_10, q42_13, q42_14, q42_15, q42_18, q42_19, q42_20, q42_21, q42_24, q42_25, q42_26, q42_29, q42_30, q42_31, q42_32, q42_33, q42_36, q42_37, q42_40, q42_41, q42_42, q42_43, q42_44, q42_47, q42_48, q42_49, q42_52, q42_53, q42_54, q42_55, q42_56, q42_59, q42_60, q42_63, q42_64, n10, n01, Bool.false_eq_true, ab_bs, ab_bn, ab_pr0, ab_pr1, nl_n, nl_i, nl_r, nl_j, nl_nl, e0, f0, h1, h2, h4, if_true, if_false, narrow_b0, and_false]
theorem sp_isv0 {scr : Option (List Int32)} (M : ab_M) (j g : Nat) (hj : j < 8) (hg : g ≤ 240) (hM : M 127 (9 * j + 1) = nI g) (v : Int32) : ab_ms scr 137 [.ref 123, .int (nI j), .int 0, .int v] M = some (M, some (.int (if 0 ≤ v ∧ v < nI g then 1 else 0))) := by
  rw [ms137]
  simp only [q137_0, q137_48, q137_49, q137_50, q137_51, q137_52, q137_53, q137_54, q137_57, q137_58, q137_59, q137_60, q137_63, q137_64, q137_65, q137_66, q137_67, q137_68, q137_69, q137_72, q137_73, q137_74, q137_75, q137_78, q137_81, q137_82, q137_83, q137_84, q137_85, q137_88, q137_91, q137_92, q137_93, q137_94, q137_95, q137_98, q137_101, q137_102, q137_103, q137_104, q137_105, q137_108, q137_111, q137_112, q137_113, q137_114, q137_115, q137_116, q137_119, q137_120, q137_121, q137_122, q137_125, q137_128, q137_131, q137_132, q137_133, q137_1, n10, n01, Bool.false_eq_true, ab_bs, ab_bn, ab_pr0, ab_pr1, nl_n, nl_i, nl_r, nl_j, nl_nl, rc_123, gf_123_0, gf_123_1, pt_123_1, gf_123_2, pt_123_2, gf_123_3, pt_123_3, gf_123_4, pt_123_4, gf_123_5, pt_123_5, gf_123_6, pt_123_6, gf_123_7, pt_123_7, gf_123_8, pt_123_8, gf_123_9, gf_123_10, gf_123_11, gf_123_12, gf_123_13, pt_123_13_0, pt_123_13_1, gf_123_14, pt_123_14_0, pt_123_14_1, gf_123_15, gf_123_16, gf_123_17, gf_123_18, gf_123_19, gf_123_20, gf_123_21, gf_123_22, gf_123_23, gf_123_24, gf_123_25, pt_123_25, gf_123_26, gf_123_27, pt_123_27, gf_123_28, pt_123_28, gf_123_29, gf_123_30, pt_123_30, gf_123_31, pt_123_31, gf_123_32, pt_123_32, gf_123_33, pt_123_33, gf_123_34, pt_123_34_0, pt_123_34_1, gf_123_35, gf_123_36, gf_123_37, gf_123_38, pt_123_38, gf_123_39, pt_123_39, gf_123_40, pt_123_40, gf_123_41, gf_123_42, gf_123_43, gf_123_44, gf_123_45, gf_123_46, gf_123_47, pt_123_47, xe_0_1, xe_0_2, xe_0_3, xe_0_4, xe_0_5, xe_0_6, xe_0_7, xe_1_0, xe_1_2, xe_1_3, xe_1_4, xe_1_5, xe_1_6, xe_1_7, xe_2_0, xe_2_1, xe_2_3, xe_2_4, xe_2_5, xe_2_6, xe_2_7, xe_3_0, xe_3_1, xe_3_2, xe_3_4, xe_3_5, xe_3_6, xe_3_7, xe_4_0, xe_4_1, xe_4_2, xe_4_3, xe_4_5, xe_4_6, xe_4_7, xe_5_0, xe_5_1, xe_5_2, xe_5_3, xe_5_4, xe_5_6, xe_5_7, xe_6_0, xe_6_1, xe_6_2, xe_6_3, xe_6_4, xe_6_5, xe_6_7, xe_7_0, xe_7_1, xe_7_2, xe_7_3, xe_7_4, xe_7_5, xe_7_6, if_true, if_false, its1 _ _ hj, hM, sp_in, k0, i64_le, le_pred (show g < 2 ^ 31 by omega), narrow_bi]
theorem sp_may1 {scr : Option (List Int32)} (M : ab_M) (j c : Nat) (hj : j < 8) (hc : c < 240) (hM : M 18 j = nI c) (v : Int32) : ab_ms scr 42 [.ref 16, .int (nI j), .int 1, .int v] M = some (M, some (.int (if nI c < v ∧ v < 241 then 1 else 0))) := by
  obtain ⟨e0, e1, e2, e3, e4, e5, e6, e7⟩ := @LE2000 scr M
  obtain ⟨f0, f1, f2, f3, f4, f5, f6, f7⟩ := @MO2001 scr M
  rw [ms42]
  by_cases h1 : v < 1
  · have h3 : ¬ nI c < v := by
      rw [Int32.lt_iff_toInt_lt, nI_toInt (by omega)]
      rw [Int32.lt_iff_toInt_lt, show (1 : Int32).toInt = 1 by decide] at h1
      omega
    simp only [q42_0, q42_1, q42_4, q42_5, q42_6, q42_9, q42_10, q42_13, q42_14, q42_15, q42_18, q42_19, q42_20, q42_21, q42_24, q42_25, q42_26, q42_29, q42_30, q42_31, q42_32, q42_33, q42_36, q42_37, q42_40, q42_41, q42_42, q42_43, q42_44, q42_47, q42_48, q42_49, q42_52, q42_53, q42_54, q42_55, q42_56, q42_59, q42_60, q42_63, q42_64, n10, n01, Bool.false_eq_true, ab_bs, ab_bn, ab_pr0, ab_pr1, nl_n, nl_i, nl_r, nl_j, nl_nl, e1, f1, h1, if_true, narrow_b0, h3, false_and, if_false]
  · by_cases h2 : v < 241
    · by_cases h3 : nI c < v
      · simp only [q42_0, q42_1, q42_4, q42_5, q42_6, q42_9, q42_10, q42_13, q42_14, q42_15, q42_18, q42_19, q42_20, q42_21, q42_24, q42_25, q42_26, q42_29, q42_30, q42_31, q42_32, q42_33, q42_36, q42_37, q42_40, q42_41, q42_42, q42_43, q42_44, q42_47, q42_48, q42_49, q42_52, q42_53, q42_54, q42_55, q42_56, q42_59, q42_60, q42_63, q42_64, n10, n01, Bool.false_eq_true, ab_bs, ab_bn, ab_pr0, ab_pr1, nl_n, nl_i, nl_r, nl_j, nl_nl, rc_16, gf_16_0, gf_16_1, gf_16_2, gf_16_3, pt_16_3, gf_16_4, pt_16_4, gf_16_5, pt_16_5, ln_18, al_18, si_18, xe_0_1, xe_0_2, xe_0_3, xe_0_4, xe_0_5, xe_0_6, xe_0_7, xe_1_0, xe_1_2, xe_1_3, xe_1_4, xe_1_5, xe_1_6, xe_1_7, xe_2_0, xe_2_1, xe_2_3, xe_2_4, xe_2_5, xe_2_6, xe_2_7, xe_3_0, xe_3_1, xe_3_2, xe_3_4, xe_3_5, xe_3_6, xe_3_7, xe_4_0, xe_4_1, xe_4_2, xe_4_3, xe_4_5, xe_4_6, xe_4_7, xe_5_0, xe_5_1, xe_5_2, xe_5_3, xe_5_4, xe_5_6, xe_5_7, xe_6_0, xe_6_1, xe_6_2, xe_6_3, xe_6_4, xe_6_5, xe_6_7, xe_7_0, xe_7_1, xe_7_2, xe_7_3, xe_7_4, xe_7_5, xe_7_6, e1, f1, h1, h2, h3, qe_le_240, Int32.not_le.mpr h3, if_true, if_false, narrow_b1, not_true, not_false_eq_true, and_self, qe_17_0, ib8 hj, nI_clamp (show j < 2 ^ 31 by omega), hM]
      · simp only [q42_0, q42_1, q42_4, q42_5, q42_6, q42_9, q42_10, q42_13, q42_14, q42_15, q42_18, q42_19, q42_20, q42_21, q42_24, q42_25, q42_26, q42_29, q42_30, q42_31, q42_32, q42_33, q42_36, q42_37, q42_40, q42_41, q42_42, q42_43, q42_44, q42_47, q42_48, q42_49, q42_52, q42_53, q42_54, q42_55, q42_56, q42_59, q42_60, q42_63, q42_64, n10, n01, Bool.false_eq_true, ab_bs, ab_bn, ab_pr0, ab_pr1, nl_n, nl_i, nl_r, nl_j, nl_nl, rc_16, gf_16_0, gf_16_1, gf_16_2, gf_16_3, pt_16_3, gf_16_4, pt_16_4, gf_16_5, pt_16_5, ln_18, al_18, si_18, xe_0_1, xe_0_2, xe_0_3, xe_0_4, xe_0_5, xe_0_6, xe_0_7, xe_1_0, xe_1_2, xe_1_3, xe_1_4, xe_1_5, xe_1_6, xe_1_7, xe_2_0, xe_2_1, xe_2_3, xe_2_4, xe_2_5, xe_2_6, xe_2_7, xe_3_0, xe_3_1, xe_3_2, xe_3_4, xe_3_5, xe_3_6, xe_3_7, xe_4_0, xe_4_1, xe_4_2, xe_4_3, xe_4_5, xe_4_6, xe_4_7, xe_5_0, xe_5_1, xe_5_2, xe_5_3, xe_5_4, xe_5_6, xe_5_7, xe_6_0, xe_6_1, xe_6_2, xe_6_3, xe_6_4, xe_6_5, xe_6_7, xe_7_0, xe_7_1, xe_7_2, xe_7_3, xe_7_4, xe_7_5, xe_7_6, e1, f1, h1, h2, h3, qe_le_240, Int32.not_lt.mp h3, if_true, if_false, narrow_b0, not_true, not_false_eq_true, false_and, qe_17_0, ib8 hj, nI_clamp (show j < 2 ^ 31 by omega), hM]
    · simp only [q42_0, q42_1, q42_4, q42_5, q42_6, q42_9, q42_10, q42_13, q42_14, q42_15, q42_18, q42_19, q42_20, q42_21, q42_24, q42_25, q42_26, q42_29, q42_30, q42_31, q42_32, q42_33, q42_36, q42_37, q42_40, q42_41, q42_42, q42_43, q42_44, q42_47, q42_48, q42_49, q42_52, q42_53, q42_54, q42_55, q42_56, q42_59, q42_60, q42_63, q42_64, n10, n01, Bool.false_eq_true, ab_bs, ab_bn, ab_pr0, ab_pr1, nl_n, nl_i, nl_r, nl_j, nl_nl, e1, f1, h1, h2, qe_le_240, if_true, if_false, narrow_b0, and_false]
theorem sp_isv1 {scr : Option (List Int32)} (M : ab_M) (j c : Nat) (hj : j < 8) (hc : c < 240) (hM : M 127 (9 * j) = nI c) (v : Int32) : ab_ms scr 137 [.ref 123, .int (nI j), .int 1, .int v] M = some (M, some (.int (if nI c < v ∧ v < 241 then 1 else 0))) := by
  rw [ms137]
  simp only [q137_0, q137_48, q137_49, q137_50, q137_51, q137_52, q137_53, q137_54, q137_57, q137_58, q137_59, q137_60, q137_63, q137_64, q137_65, q137_66, q137_67, q137_68, q137_69, q137_72, q137_73, q137_74, q137_75, q137_78, q137_81, q137_82, q137_83, q137_84, q137_85, q137_88, q137_91, q137_92, q137_93, q137_94, q137_95, q137_98, q137_101, q137_102, q137_103, q137_104, q137_105, q137_108, q137_111, q137_112, q137_113, q137_114, q137_115, q137_116, q137_119, q137_120, q137_121, q137_122, q137_125, q137_128, q137_131, q137_132, q137_133, q137_1, n10, n01, Bool.false_eq_true, ab_bs, ab_bn, ab_pr0, ab_pr1, nl_n, nl_i, nl_r, nl_j, nl_nl, rc_123, gf_123_0, gf_123_1, pt_123_1, gf_123_2, pt_123_2, gf_123_3, pt_123_3, gf_123_4, pt_123_4, gf_123_5, pt_123_5, gf_123_6, pt_123_6, gf_123_7, pt_123_7, gf_123_8, pt_123_8, gf_123_9, gf_123_10, gf_123_11, gf_123_12, gf_123_13, pt_123_13_0, pt_123_13_1, gf_123_14, pt_123_14_0, pt_123_14_1, gf_123_15, gf_123_16, gf_123_17, gf_123_18, gf_123_19, gf_123_20, gf_123_21, gf_123_22, gf_123_23, gf_123_24, gf_123_25, pt_123_25, gf_123_26, gf_123_27, pt_123_27, gf_123_28, pt_123_28, gf_123_29, gf_123_30, pt_123_30, gf_123_31, pt_123_31, gf_123_32, pt_123_32, gf_123_33, pt_123_33, gf_123_34, pt_123_34_0, pt_123_34_1, gf_123_35, gf_123_36, gf_123_37, gf_123_38, pt_123_38, gf_123_39, pt_123_39, gf_123_40, pt_123_40, gf_123_41, gf_123_42, gf_123_43, gf_123_44, gf_123_45, gf_123_46, gf_123_47, pt_123_47, xe_0_1, xe_0_2, xe_0_3, xe_0_4, xe_0_5, xe_0_6, xe_0_7, xe_1_0, xe_1_2, xe_1_3, xe_1_4, xe_1_5, xe_1_6, xe_1_7, xe_2_0, xe_2_1, xe_2_3, xe_2_4, xe_2_5, xe_2_6, xe_2_7, xe_3_0, xe_3_1, xe_3_2, xe_3_4, xe_3_5, xe_3_6, xe_3_7, xe_4_0, xe_4_1, xe_4_2, xe_4_3, xe_4_5, xe_4_6, xe_4_7, xe_5_0, xe_5_1, xe_5_2, xe_5_3, xe_5_4, xe_5_6, xe_5_7, xe_6_0, xe_6_1, xe_6_2, xe_6_3, xe_6_4, xe_6_5, xe_6_7, xe_7_0, xe_7_1, xe_7_2, xe_7_3, xe_7_4, xe_7_5, xe_7_6, if_true, if_false, its0 _ _ hj, hM, sp_in, i64_le, l240, suc_le (show c < 1000 by omega), narrow_bi]
theorem isv_no {scr : Option (List Int32)} (M : ab_M) (p what v : Int32) (h : ¬ (0 ≤ what ∧ what < 8)) : ab_ms scr 137 [.ref 123, .int p, .int what, .int v] M = some (M, some (.int 0)) := by
  have hn : ∀ k : Int32, 0 ≤ k ∧ k < 8 → what ≠ k := by rintro k hk rfl; exact h hk
  rw [ms137]
  simp only [q137_0, q137_48, q137_49, q137_50, q137_51, q137_52, q137_53, q137_54, q137_57, q137_58, q137_59, q137_60, q137_63, q137_64, q137_65, q137_66, q137_67, q137_68, q137_69, q137_72, q137_73, q137_74, q137_75, q137_78, q137_81, q137_82, q137_83, q137_84, q137_85, q137_88, q137_91, q137_92, q137_93, q137_94, q137_95, q137_98, q137_101, q137_102, q137_103, q137_104, q137_105, q137_108, q137_111, q137_112, q137_113, q137_114, q137_115, q137_116, q137_119, q137_120, q137_121, q137_122, q137_125, q137_128, q137_131, q137_132, q137_133, q137_1, n10, n01, Bool.false_eq_true, ab_bs, ab_bn, ab_pr0, ab_pr1, nl_n, nl_i, nl_r, nl_j, nl_nl, hn 0 (by decide), hn 1 (by decide), hn 2 (by decide), hn 3 (by decide), hn 4 (by decide), hn 5 (by decide), hn 6 (by decide), hn 7 (by decide), if_false, narrow_b0]
def mbP (c g : Nat) (w : Nat) (v : Int32) : Prop := match w with
  | 0 => 0 ≤ v ∧ v < nI g
  | 1 => nI c < v ∧ v < 241
  | 2 => 1 ≤ v ∧ v < 100
  | 3 => 1 ≤ v ∧ v < 100
  | 4 => 0 ≤ v ∧ v < 1000
  | 5 => 0 ≤ v ∧ v < 10
  | 6 => 0 ≤ v ∧ v < 2
  | _ => -99999 ≤ v ∧ v < 100000
theorem may_both {scr : Option (List Int32)} (M M1 : ab_M) (j c g w : Nat) (hj : j < 8) (hcg : c < g) (hg : g ≤ 240) (h18 : M 18 j = nI c) (h19 : M 19 j = nI g) (hr0 : M1 127 (9 * j) = nI c) (hr1 : M1 127 (9 * j + 1) = nI g) (hw : w < 8) (v : Int32) : ∃ b : Bool, ab_ms scr 42 [.ref 16, .int (nI j), .int (nI w), .int v] M = some (M, some (.int (if b = true then 1 else 0))) ∧ ab_ms scr 137 [.ref 123, .int (nI j), .int (nI w), .int v] M1 = some (M1, some (.int (if b = true then 1 else 0))) ∧ (b = true → mbP c g w v) := by
  have hi : ∀ P : Prop, ∀ d : Decidable P, (if P then (1 : Int32) else 0) = (if decide P = true then 1 else 0) := by
    intro P d
    by_cases h : P <;> simp [h]
  have : w = 0 ∨ w = 1 ∨ w = 2 ∨ w = 3 ∨ w = 4 ∨ w = 5 ∨ w = 6 ∨ w = 7 := by omega
  rcases this with rfl | rfl | rfl | rfl | rfl | rfl | rfl | rfl
  · exact ⟨decide (0 ≤ v ∧ v < nI g), (sp_may0 M j g hj hg h19 v).trans (by rw [hi]), (sp_isv0 M1 j g hj hg hr1 v).trans (by rw [hi]), fun h => of_decide_eq_true (p := 0 ≤ v ∧ v < nI g) h⟩
  · exact ⟨decide (nI c < v ∧ v < 241), (sp_may1 M j c hj (by omega) h18 v).trans (by rw [hi]), (sp_isv1 M1 j c hj (by omega) hr0 v).trans (by rw [hi]), fun h => of_decide_eq_true (p := nI c < v ∧ v < 241) h⟩
  · exact ⟨decide (1 ≤ v ∧ v < 100), (sp_may2 M (nI j) v).trans (by rw [hi]), (sp_isv2 M1 (nI j) v).trans (by rw [hi]), fun h => of_decide_eq_true (p := 1 ≤ v ∧ v < 100) h⟩
  · exact ⟨decide (1 ≤ v ∧ v < 100), (sp_may3 M (nI j) v).trans (by rw [hi]), (sp_isv3 M1 (nI j) v).trans (by rw [hi]), fun h => of_decide_eq_true (p := 1 ≤ v ∧ v < 100) h⟩
  · exact ⟨decide (0 ≤ v ∧ v < 1000), (sp_may4 M (nI j) v).trans (by rw [hi]), (sp_isv4 M1 (nI j) v).trans (by rw [hi]), fun h => of_decide_eq_true (p := 0 ≤ v ∧ v < 1000) h⟩
  · exact ⟨decide (0 ≤ v ∧ v < 10), (sp_may5 M (nI j) v).trans (by rw [hi]), (sp_isv5 M1 (nI j) v).trans (by rw [hi]), fun h => of_decide_eq_true (p := 0 ≤ v ∧ v < 10) h⟩
  · exact ⟨decide (0 ≤ v ∧ v < 2), (sp_may6 M (nI j) v).trans (by rw [hi]), (sp_isv6 M1 (nI j) v).trans (by rw [hi]), fun h => of_decide_eq_true (p := 0 ≤ v ∧ v < 2) h⟩
  · exact ⟨decide (-99999 ≤ v ∧ v < 100000), (sp_may7 M (nI j) v).trans (by rw [hi]), (sp_isv7 M1 (nI j) v).trans (by rw [hi]), fun h => of_decide_eq_true (p := -99999 ≤ v ∧ v < 100000) h⟩
theorem rng1 {v : Int32} {b : Nat} (hb : b < 100000) (h : 1 ≤ v ∧ v < nI b) : ∃ a, 1 ≤ a ∧ a < b ∧ v = nI a := by
  have h0 : 0 ≤ v := Int32.le_trans (by decide) h.1
  obtain ⟨a, ha, rfl⟩ := rng hb ⟨h0, h.2⟩
  refine ⟨a, ?_, ha, rfl⟩
  have := h.1
  rw [Int32.le_iff_toInt_le, nI_toInt (by omega), show (1 : Int32).toInt = 1 by decide] at this
  omega
theorem fok_set {M M' : ab_M} {K : Int} {j w c g : Nat} {v : Int32} (hK : 99999 ≤ K) (hw : w < 8) (h : fok 18 K M j) (hc : M 18 j = nI c) (hg : M 19 j = nI g) (hcg : c < g) (hg2 : g ≤ 240) (hv : mbP c g w v) (hm : ∀ u, u < 8 → M' (18 + u) j = if u = w then v else M (18 + u) j) : fok 18 K M' j := by
  obtain ⟨f1, f2, f3, f4, f5, f6, f7, f8⟩ := h
  have m0 : M' 18 j = if 0 = w then v else M 18 j := hm 0 (by decide)
  unfold fok
  rw [m0, hm 1 (by decide), hm 2 (by decide), hm 3 (by decide), hm 4 (by decide), hm 5 (by decide), hm 6 (by decide), hm 7 (by decide)]
  have : w = 0 ∨ w = 1 ∨ w = 2 ∨ w = 3 ∨ w = 4 ∨ w = 5 ∨ w = 6 ∨ w = 7 := by omega
  rcases this with rfl | rfl | rfl | rfl | rfl | rfl | rfl | rfl <;> simp only [if_true, (show ¬ (0 = 1) by decide), (show ¬ (0 = 2) by decide), (show ¬ (0 = 3) by decide), (show ¬ (0 = 4) by decide), (show ¬ (0 = 5) by decide), (show ¬ (0 = 6) by decide), (show ¬ (0 = 7) by decide), (show ¬ (1 = 0) by decide), (show ¬ (2 = 0) by decide), (show ¬ (3 = 0) by decide), (show ¬ (4 = 0) by decide), (show ¬ (5 = 0) by decide), (show ¬ (6 = 0) by decide), (show ¬ (7 = 0) by decide), (show ¬ (1 = 2) by decide), (show ¬ (1 = 3) by decide), (show ¬ (1 = 4) by decide), (show ¬ (1 = 5) by decide), (show ¬ (1 = 6) by decide), (show ¬ (1 = 7) by decide), (show ¬ (2 = 1) by decide), (show ¬ (3 = 1) by decide), (show ¬ (4 = 1) by decide), (show ¬ (5 = 1) by decide), (show ¬ (6 = 1) by decide), (show ¬ (7 = 1) by decide), (show ¬ (2 = 3) by decide), (show ¬ (2 = 4) by decide), (show ¬ (2 = 5) by decide), (show ¬ (2 = 6) by decide), (show ¬ (2 = 7) by decide), (show ¬ (3 = 2) by decide), (show ¬ (4 = 2) by decide), (show ¬ (5 = 2) by decide), (show ¬ (6 = 2) by decide), (show ¬ (7 = 2) by decide), (show ¬ (3 = 4) by decide), (show ¬ (3 = 5) by decide), (show ¬ (3 = 6) by decide), (show ¬ (3 = 7) by decide), (show ¬ (4 = 3) by decide), (show ¬ (5 = 3) by decide), (show ¬ (6 = 3) by decide), (show ¬ (7 = 3) by decide), (show ¬ (4 = 5) by decide), (show ¬ (4 = 6) by decide), (show ¬ (4 = 7) by decide), (show ¬ (5 = 4) by decide), (show ¬ (6 = 4) by decide), (show ¬ (7 = 4) by decide), (show ¬ (5 = 6) by decide), (show ¬ (5 = 7) by decide), (show ¬ (6 = 5) by decide), (show ¬ (7 = 5) by decide), (show ¬ (6 = 7) by decide), (show ¬ (7 = 6) by decide), if_false]
  · obtain ⟨a, ha, rfl⟩ := rng (by omega) hv
    exact ⟨⟨a, g, ha, hg2, rfl, hg⟩, f2, f3, f4, f5, f6, f7, f8⟩
  · have hv : nI c < v ∧ v < 241 := hv
    have h0 : 0 ≤ v := Int32.le_trans (nI_pos' (n := c) (by omega)) (Int32.le_of_lt hv.1)
    obtain ⟨a, ha, rfl⟩ := rng (b := 241) (by decide) ⟨h0, hv.2⟩
    have h9 := (nI_ltI (by omega) (by omega)).mp hv.1
    exact ⟨⟨c, a, h9, by omega, hc, rfl⟩, f2, f3, f4, f5, f6, f7, f8⟩
  · obtain ⟨a, h1, h2, rfl⟩ := rng1 (b := 100) (by decide) hv
    exact ⟨f1, ⟨a, h1, by omega, rfl⟩, f3, f4, f5, f6, f7, f8⟩
  · obtain ⟨a, h1, h2, rfl⟩ := rng1 (b := 100) (by decide) hv
    exact ⟨f1, f2, ⟨a, h1, by omega, rfl⟩, f4, f5, f6, f7, f8⟩
  · obtain ⟨a, h2, rfl⟩ := rng (b := 1000) (by decide) hv
    exact ⟨f1, f2, f3, ⟨a, by omega, rfl⟩, f5, f6, f7, f8⟩
  · obtain ⟨a, h2, rfl⟩ := rng (b := 10) (by decide) hv
    exact ⟨f1, f2, f3, f4, ⟨a, by omega, rfl⟩, f6, f7, f8⟩
  · obtain ⟨a, h2, rfl⟩ := rng (b := 2) (by decide) hv
    exact ⟨f1, f2, f3, f4, f5, ⟨a, by omega, rfl⟩, f7, f8⟩
  · have hv : -99999 ≤ v ∧ v < 100000 := hv
    rw [Int32.le_iff_toInt_le, Int32.lt_iff_toInt_lt, show (-99999 : Int32).toInt = -99999 by decide, show (100000 : Int32).toInt = 100000 by decide] at hv
    exact ⟨f1, f2, f3, f4, f5, f6, by omega, by omega⟩
theorem CR_set {n t j w : Nat} {K : Int} {M : ab_M} {v : Int32} (h : CR n t K M) (hj : j < n) (hw : w < 9) (hf : fok 18 K (ab_up (ab_up M (18 + w) j v) 127 (9 * j + w) v) j) : CR n t K (ab_up (ab_up M (18 + w) j v) 127 (9 * j + w) v) := by
  have hn := CR_n h
  refine CR_page h (fun c i h1 h2 => by rw [up_o _ _ _ _ _ _ (by omega), up_o _ _ _ _ _ _ (by omega)]) ?_ ?_
  · obtain ⟨a, b, c, d, e, f, g⟩ := h.1
    have y : ∀ i, ab_up (ab_up M (18 + w) j v) 127 (9 * j + w) v 16 i = M 16 i := fun i => by rw [up_n (by decide), up_n (by omega)]
    refine ⟨a, b, by rw [y, c], by rw [y, d], by rw [y]; exact e, fun p hp => ?_, fun i hi => by rw [up_n (by decide), up_n (by omega)]; exact g i hi⟩
    by_cases e9 : p = j
    · rw [e9]; exact hf
    · have z : ∀ u, u < 9 → ab_up (ab_up M (18 + w) j v) 127 (9 * j + w) v (18 + u) p = M (18 + u) p := fun u hu => by rw [up_n (by omega), up_o _ _ _ _ _ _ (by omega)]
      have := f p hp
      unfold fok at this ⊢
      rw [show ab_up (ab_up M (18 + w) j v) 127 (9 * j + w) v 18 p = M 18 p from z 0 (by decide), z 1 (by decide), z 2 (by decide), z 3 (by decide), z 4 (by decide), z 5 (by decide), z 6 (by decide), z 7 (by decide)]
      exact this
  · obtain ⟨a, b, c, d, e⟩ := h.2.1
    have z : ∀ i, i ≠ 9 * j + w → ab_up (ab_up M (18 + w) j v) 127 (9 * j + w) v 127 i = M 127 i := fun i hi => by rw [up_o _ _ _ _ _ _ (by omega), up_n (by omega)]
    refine ⟨by rw [z _ (by omega), a], ?_, by rw [z _ (by omega), c], fun u hu p hp => ?_, fun i hi => by rw [z _ (by omega), up_n (by decide), up_n (by omega)]; exact e i hi⟩
    · rw [z 73 (by omega), up_n (show 123 ≠ 127 by decide), up_n (show 123 ≠ 18 + w by omega), up_n (show 16 ≠ 127 by decide), up_n (show 16 ≠ 18 + w by omega)]
      exact b
    · by_cases e9 : p = j ∧ u = w
      · obtain ⟨rfl, rfl⟩ := e9
        rw [up_s, up_n (by omega), up_s]
      · rw [z _ (by omega), up_n (show 18 + u ≠ 127 by omega), up_o _ _ _ _ _ _ (by omega)]
        exact d u hu p hp
theorem cl_set {scr : Option (List Int32)} {n t : Nat} {K : Int} {M : ab_M} (hK : 99999 ≤ K) (h : CR n t K M) (p what v : Int32) : cokI scr 84 138 [.int p, .int what, .int v] M (CRX K) := by
  have hn := CR_n h
  have hM := CR_3 h
  obtain ⟨r1, r2, r3, r4, r5⟩ := h.2.1
  have x1 := sp_has (scr := scr) M n hn hM p
  have x2 := sp_isOne (scr := scr) M n hn r1 p
  by_cases h1 : 0 ≤ p ∧ p < nI n
  · by_cases h2 : 0 ≤ what ∧ what < 8
    · obtain ⟨w, hw, rfl⟩ := rng8 h2
      obtain ⟨j, hj, rfl⟩ := rng (by omega) h1
      have hj8 : j < 8 := by omega
      have hf := h.1.2.2.2.2.2.1 j hj
      obtain ⟨c, g, hcg, hg2, hc, hg⟩ := hf.1
      have hr0 : M 127 (9 * j) = nI c := (r4 0 (by decide) j hj).trans hc
      have hr1 : M 127 (9 * j + 1) = nI g := (r4 1 (by decide) j hj).trans hg
      obtain ⟨b, b1, -, b3⟩ := may_both (scr := scr) M M j c g w hj8 hcg hg2 hc hg hr0 hr1 hw v
      by_cases hb : b = true
      · subst hb
        obtain ⟨b', -, c2, c3⟩ := may_both (scr := scr) M (ab_up M (18 + w) j v) j c g w hj8 hcg hg2 hc hg (by rw [up_n (by omega), hr0]) (by rw [up_n (by omega), hr1]) hw v
        obtain ⟨b'', d1, d2, -⟩ := may_both (scr := scr) M (ab_up M (18 + w) j v) j c g w hj8 hcg hg2 hc hg (by rw [up_n (by omega), hr0]) (by rw [up_n (by omega), hr1]) hw v
        have eb : b'' = true := by
          rw [d1] at b1
          cases b'' with
          | true => rfl
          | false => simp at b1
        rw [eb] at d2
        refine ⟨ab_up M (18 + w) j v, M (18 + w) j, ab_up (ab_up M (18 + w) j v) 127 (9 * j + w) v, ?_, ?_, n, t, CR_set h hj (by omega) (fok_set hK hw hf hc hg hcg hg2 (b3 rfl) (fun u hu => ?_))⟩
        · rw [ms84]; simp only [q84_0, q84_1, q84_4, q84_5, q84_8, q84_11, q84_12, q84_14, q84_17, q84_20, q84_21, q84_24, q84_25, q84_26, q84_27, q84_30, q84_33, q84_35, q84_36, q84_37, q84_40, q84_43, q84_44, q84_45, q84_46, q84_47, q84_49, q84_50, q84_53, q84_56, q84_57, q84_58, q84_59, q84_60, q84_61, q84_63, n10, n01, Bool.false_eq_true, ab_bs, ab_bn, ab_pr0, ab_pr1, nl_n, nl_i, nl_r, nl_j, nl_nl, rc_0, gf_0_0, gf_0_1, gf_0_2, gf_0_3, gf_0_4, gf_0_5, gf_0_6, gf_0_7, gf_0_8, gf_0_9, pt_0_9, rc_16, gf_16_0, gf_16_1, gf_16_2, gf_16_3, pt_16_3, gf_16_4, pt_16_4, gf_16_5, pt_16_5, x1, sp_within, h1, h2, and_self, if_true, if_false, not_false_eq_true, b1, qe_17 hw, al_f17 hw, si_f17 hw, nI_clamp (show j < 2 ^ 31 by omega), ib8 hj8]
        · have x2' := sp_isOne (scr := scr) (ab_up M (18 + w) j v) n hn (by rw [up_n (by omega), r1]) (nI j)
          rw [ms138]; simp only [q138_0, q138_1, q138_2, q138_5, q138_8, q138_9, q138_10, q138_11, q138_12, q138_15, q138_18, q138_20, q138_21, q138_22, q138_23, q138_24, q138_27, q138_29, q138_30, q138_33, q138_35, q138_36, q138_37, q138_38, q138_39, q138_40, q138_41, q138_43, n10, n01, Bool.false_eq_true, ab_bs, ab_bn, ab_pr0, ab_pr1, nl_n, nl_i, nl_r, nl_j, nl_nl, rc_123, gf_123_0, gf_123_1, pt_123_1, gf_123_2, pt_123_2, gf_123_3, pt_123_3, gf_123_4, pt_123_4, gf_123_5, pt_123_5, gf_123_6, pt_123_6, gf_123_7, pt_123_7, gf_123_8, pt_123_8, gf_123_9, gf_123_10, gf_123_11, gf_123_12, gf_123_13, pt_123_13_0, pt_123_13_1, gf_123_14, pt_123_14_0, pt_123_14_1, gf_123_15, gf_123_16, gf_123_17, gf_123_18, gf_123_19, gf_123_20, gf_123_21, gf_123_22, gf_123_23, gf_123_24, gf_123_25, pt_123_25, gf_123_26, gf_123_27, pt_123_27, gf_123_28, pt_123_28, gf_123_29, gf_123_30, pt_123_30, gf_123_31, pt_123_31, gf_123_32, pt_123_32, gf_123_33, pt_123_33, gf_123_34, pt_123_34_0, pt_123_34_1, gf_123_35, gf_123_36, gf_123_37, gf_123_38, pt_123_38, gf_123_39, pt_123_39, gf_123_40, pt_123_40, gf_123_41, gf_123_42, gf_123_43, gf_123_44, gf_123_45, gf_123_46, gf_123_47, pt_123_47, x2', h1, and_self, if_true, if_false, not_false_eq_true, d2, sp_its _ j w hj8 (by omega), n9_m, nI_add, s127 (show 9 * j + w < 300 by omega), cn (show 9 * j + w < 400 by omega), up_n (show 127 ≠ 18 + w by omega), r4 w (by omega) j hj]
        · rw [up_n (by omega)]
          by_cases e : u = w
          · subst e
            rw [if_pos rfl, up_s]
          · rw [if_neg e, up_n (by omega)]
      · rw [Bool.not_eq_true] at hb
        subst hb
        obtain ⟨b', d1, d2, -⟩ := may_both (scr := scr) M M j c g w hj8 hcg hg2 hc hg hr0 hr1 hw v
        have eb : b' = false := by
          rw [d1] at b1
          cases b' with
          | false => rfl
          | true => simp at b1
        rw [eb] at d2
        refine ⟨M, -1000000, M, ?_, ?_, n, t, h⟩
        · rw [ms84]; simp only [q84_0, q84_1, q84_4, q84_5, q84_8, q84_11, q84_12, q84_14, q84_17, q84_20, q84_21, q84_24, q84_25, q84_26, q84_27, q84_30, q84_33, q84_35, q84_36, q84_37, q84_40, q84_43, q84_44, q84_45, q84_46, q84_47, q84_49, q84_50, q84_53, q84_56, q84_57, q84_58, q84_59, q84_60, q84_61, q84_63, n10, n01, Bool.false_eq_true, ab_bs, ab_bn, ab_pr0, ab_pr1, nl_n, nl_i, nl_r, nl_j, nl_nl, rc_0, gf_0_0, gf_0_1, gf_0_2, gf_0_3, gf_0_4, gf_0_5, gf_0_6, gf_0_7, gf_0_8, gf_0_9, pt_0_9, rc_16, gf_16_0, gf_16_1, gf_16_2, gf_16_3, pt_16_3, gf_16_4, pt_16_4, gf_16_5, pt_16_5, x1, sp_within, h1, h2, and_self, if_true, if_false, not_true, b1]
        · rw [ms138]; simp only [q138_0, q138_1, q138_2, q138_5, q138_8, q138_9, q138_10, q138_11, q138_12, q138_15, q138_18, q138_20, q138_21, q138_22, q138_23, q138_24, q138_27, q138_29, q138_30, q138_33, q138_35, q138_36, q138_37, q138_38, q138_39, q138_40, q138_41, q138_43, n10, n01, Bool.false_eq_true, ab_bs, ab_bn, ab_pr0, ab_pr1, nl_n, nl_i, nl_r, nl_j, nl_nl, rc_123, gf_123_0, gf_123_1, pt_123_1, gf_123_2, pt_123_2, gf_123_3, pt_123_3, gf_123_4, pt_123_4, gf_123_5, pt_123_5, gf_123_6, pt_123_6, gf_123_7, pt_123_7, gf_123_8, pt_123_8, gf_123_9, gf_123_10, gf_123_11, gf_123_12, gf_123_13, pt_123_13_0, pt_123_13_1, gf_123_14, pt_123_14_0, pt_123_14_1, gf_123_15, gf_123_16, gf_123_17, gf_123_18, gf_123_19, gf_123_20, gf_123_21, gf_123_22, gf_123_23, gf_123_24, gf_123_25, pt_123_25, gf_123_26, gf_123_27, pt_123_27, gf_123_28, pt_123_28, gf_123_29, gf_123_30, pt_123_30, gf_123_31, pt_123_31, gf_123_32, pt_123_32, gf_123_33, pt_123_33, gf_123_34, pt_123_34_0, pt_123_34_1, gf_123_35, gf_123_36, gf_123_37, gf_123_38, pt_123_38, gf_123_39, pt_123_39, gf_123_40, pt_123_40, gf_123_41, gf_123_42, gf_123_43, gf_123_44, gf_123_45, gf_123_46, gf_123_47, pt_123_47, x2, h1, and_self, if_true, if_false, not_true, d2]
    · refine ⟨M, -1000000, M, ?_, ?_, n, t, h⟩
      · rw [ms84]; simp only [q84_0, q84_1, q84_4, q84_5, q84_8, q84_11, q84_12, q84_14, q84_17, q84_20, q84_21, q84_24, q84_25, q84_26, q84_27, q84_30, q84_33, q84_35, q84_36, q84_37, q84_40, q84_43, q84_44, q84_45, q84_46, q84_47, q84_49, q84_50, q84_53, q84_56, q84_57, q84_58, q84_59, q84_60, q84_61, q84_63, n10, n01, Bool.false_eq_true, ab_bs, ab_bn, ab_pr0, ab_pr1, nl_n, nl_i, nl_r, nl_j, nl_nl, rc_0, gf_0_0, gf_0_1, gf_0_2, gf_0_3, gf_0_4, gf_0_5, gf_0_6, gf_0_7, gf_0_8, gf_0_9, pt_0_9, rc_16, gf_16_0, gf_16_1, gf_16_2, gf_16_3, pt_16_3, gf_16_4, pt_16_4, gf_16_5, pt_16_5, x1, sp_within, h1, h2, and_self, if_true, if_false, not_true]
      · rw [ms138]; simp only [q138_0, q138_1, q138_2, q138_5, q138_8, q138_9, q138_10, q138_11, q138_12, q138_15, q138_18, q138_20, q138_21, q138_22, q138_23, q138_24, q138_27, q138_29, q138_30, q138_33, q138_35, q138_36, q138_37, q138_38, q138_39, q138_40, q138_41, q138_43, n10, n01, Bool.false_eq_true, ab_bs, ab_bn, ab_pr0, ab_pr1, nl_n, nl_i, nl_r, nl_j, nl_nl, rc_123, gf_123_0, gf_123_1, pt_123_1, gf_123_2, pt_123_2, gf_123_3, pt_123_3, gf_123_4, pt_123_4, gf_123_5, pt_123_5, gf_123_6, pt_123_6, gf_123_7, pt_123_7, gf_123_8, pt_123_8, gf_123_9, gf_123_10, gf_123_11, gf_123_12, gf_123_13, pt_123_13_0, pt_123_13_1, gf_123_14, pt_123_14_0, pt_123_14_1, gf_123_15, gf_123_16, gf_123_17, gf_123_18, gf_123_19, gf_123_20, gf_123_21, gf_123_22, gf_123_23, gf_123_24, gf_123_25, pt_123_25, gf_123_26, gf_123_27, pt_123_27, gf_123_28, pt_123_28, gf_123_29, gf_123_30, pt_123_30, gf_123_31, pt_123_31, gf_123_32, pt_123_32, gf_123_33, pt_123_33, gf_123_34, pt_123_34_0, pt_123_34_1, gf_123_35, gf_123_36, gf_123_37, gf_123_38, pt_123_38, gf_123_39, pt_123_39, gf_123_40, pt_123_40, gf_123_41, gf_123_42, gf_123_43, gf_123_44, gf_123_45, gf_123_46, gf_123_47, pt_123_47, x2, isv_no M _ _ _ h2, h1, and_self, if_true, if_false, not_true]
  · refine ⟨M, -1000000, M, ?_, ?_, n, t, h⟩
    · rw [ms84]; simp only [q84_0, q84_1, q84_4, q84_5, q84_8, q84_11, q84_12, q84_14, q84_17, q84_20, q84_21, q84_24, q84_25, q84_26, q84_27, q84_30, q84_33, q84_35, q84_36, q84_37, q84_40, q84_43, q84_44, q84_45, q84_46, q84_47, q84_49, q84_50, q84_53, q84_56, q84_57, q84_58, q84_59, q84_60, q84_61, q84_63, n10, n01, Bool.false_eq_true, ab_bs, ab_bn, ab_pr0, ab_pr1, nl_n, nl_i, nl_r, nl_j, nl_nl, rc_0, gf_0_0, gf_0_1, gf_0_2, gf_0_3, gf_0_4, gf_0_5, gf_0_6, gf_0_7, gf_0_8, gf_0_9, pt_0_9, rc_16, gf_16_0, gf_16_1, gf_16_2, gf_16_3, pt_16_3, gf_16_4, pt_16_4, gf_16_5, pt_16_5, x1, h1, if_true, if_false]
    · rw [ms138]; simp only [q138_0, q138_1, q138_2, q138_5, q138_8, q138_9, q138_10, q138_11, q138_12, q138_15, q138_18, q138_20, q138_21, q138_22, q138_23, q138_24, q138_27, q138_29, q138_30, q138_33, q138_35, q138_36, q138_37, q138_38, q138_39, q138_40, q138_41, q138_43, n10, n01, Bool.false_eq_true, ab_bs, ab_bn, ab_pr0, ab_pr1, nl_n, nl_i, nl_r, nl_j, nl_nl, rc_123, gf_123_0, gf_123_1, pt_123_1, gf_123_2, pt_123_2, gf_123_3, pt_123_3, gf_123_4, pt_123_4, gf_123_5, pt_123_5, gf_123_6, pt_123_6, gf_123_7, pt_123_7, gf_123_8, pt_123_8, gf_123_9, gf_123_10, gf_123_11, gf_123_12, gf_123_13, pt_123_13_0, pt_123_13_1, gf_123_14, pt_123_14_0, pt_123_14_1, gf_123_15, gf_123_16, gf_123_17, gf_123_18, gf_123_19, gf_123_20, gf_123_21, gf_123_22, gf_123_23, gf_123_24, gf_123_25, pt_123_25, gf_123_26, gf_123_27, pt_123_27, gf_123_28, pt_123_28, gf_123_29, gf_123_30, pt_123_30, gf_123_31, pt_123_31, gf_123_32, pt_123_32, gf_123_33, pt_123_33, gf_123_34, pt_123_34_0, pt_123_34_1, gf_123_35, gf_123_36, gf_123_37, gf_123_38, pt_123_38, gf_123_39, pt_123_39, gf_123_40, pt_123_40, gf_123_41, gf_123_42, gf_123_43, gf_123_44, gf_123_45, gf_123_46, gf_123_47, pt_123_47, x2, h1, if_true, if_false]
