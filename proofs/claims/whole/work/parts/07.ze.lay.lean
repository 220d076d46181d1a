/-! lay -/
theorem sh24 (v : Int32) : (v <<< ((24 : Int32) &&& 31)) >>> ((24 : Int32) &&& 31) = v.toInt8.toInt32 := by
  have e1 : BitVec.smod ((24 : Int32) &&& 31).toBitVec 32 = 24#32 := by decide
  apply Int32.toBitVec_inj.mp
  rw [Int32.toBitVec_shiftRight, Int32.toBitVec_shiftLeft, e1]
  show BitVec.sshiftRight' (v.toBitVec <<< 24#32) 24#32 = (v.toBitVec.signExtend 8).signExtend 32
  apply BitVec.eq_of_getLsbD_eq
  intro i hi
  unfold BitVec.sshiftRight'
  rw [BitVec.getLsbD_sshiftRight, BitVec.getLsbD_signExtend, BitVec.getLsbD_signExtend]
  have h24 : (24#32).toNat = 24 := by decide
  simp only [BitVec.msb_eq_getLsbD_last]
  rw [BitVec.getLsbD_signExtend]
  simp only [BitVec.shiftLeft_eq', BitVec.getLsbD_shiftLeft, h24]
  by_cases h : i < 8
  · simp [h, hi, show 24 + i < 32 by omega, show ¬ (32 ≤ i) by omega, show ¬ (24 + i < 24) by omega]
  · simp [h, hi, show ¬ (24 + i < 32) by omega]
theorem sh16b (v : Int32) : (v <<< ((16 : Int32) &&& 31)) >>> ((16 : Int32) &&& 31) = v.toInt16.toInt32 := by
  have e1 : BitVec.smod ((16 : Int32) &&& 31).toBitVec 32 = 16#32 := by decide
  apply Int32.toBitVec_inj.mp
  rw [Int32.toBitVec_shiftRight, Int32.toBitVec_shiftLeft, e1]
  show BitVec.sshiftRight' (v.toBitVec <<< 16#32) 16#32 = (v.toBitVec.signExtend 16).signExtend 32
  apply BitVec.eq_of_getLsbD_eq
  intro i hi
  unfold BitVec.sshiftRight'
  rw [BitVec.getLsbD_sshiftRight, BitVec.getLsbD_signExtend, BitVec.getLsbD_signExtend]
  have h16 : (16#32).toNat = 16 := by decide
  simp only [BitVec.msb_eq_getLsbD_last]
  rw [BitVec.getLsbD_signExtend]
  simp only [BitVec.shiftLeft_eq', BitVec.getLsbD_shiftLeft, h16]
  by_cases h : i < 16
  · simp [h, hi, show 16 + i < 32 by omega, show ¬ (32 ≤ i) by omega, show ¬ (16 + i < 16) by omega]
  · simp [h, hi, show ¬ (16 + i < 32) by omega]
/-- the cell's lane -/
def lnV (l : Nat) (v : Int32) : Int32 := if l = 0 then v.toInt8.toInt32 else if l = 1 then v.toInt16.toInt32 else v
section CL9
variable {scr : Option (List Int32)} {n t : Nat} {K : Int} {M : ab_M}
theorem cl_lay (h : CR n t K M) (k i v : Int32) : cokI scr 107 192 [.int k, .int i, .int v] M (CRX K) := by
  by_cases h1 : 0 ≤ k ∧ k < 4
  · obtain ⟨u, hu, rfl⟩ := rng (b := 4) (by decide) h1
    obtain ⟨g0, g1, g2, p1, p2, ln, si, al, rc⟩ := SHo (scr := scr) hu
    have hq : ab_qe 29 (nI u) = some (.ref (115 + 2 * u)) := qe_29 hu
    have hi4 : ab_inB (nI u) 4 = true := ib_nI hu (by decide)
    have hcu : (nI u).toNatClampNeg = u := nI_clamp (by omega)
    rcases h.2.2.2.1 u hu with ⟨a, b⟩ | ⟨s, l, s40, l3', c, d, e, f, g⟩
    · have e57 : ∀ x y : Int32, ab_ms scr 57 [.ref (115 + 2 * u), .int x, .int y] M = some (M, some (.int 1)) := by
        intro x y
        rw [ms57]
        simp only [q57_0, q57_1, q57_4, q57_7, q57_8, q57_9, q57_10, q57_11, q57_14, q57_17, q57_18, q57_19, q57_20, q57_23, q57_24, q57_25, q57_28, q57_31, q57_32, q57_35, q57_36, n10, n01, Bool.false_eq_true, ab_bs, ab_bn, ab_pr0, ab_pr1, nl_n, nl_i, nl_r, nl_j, nl_nl, g2, a, (show ¬ (0 : Int32) ≤ -1 by decide), if_false]
      refine ⟨M, -11, M, ?_, ?_, n, t, h⟩
      · rw [ms107]; simp only [q107_0, q107_1, q107_2, q107_5, q107_8, q107_9, q107_10, q107_11, q107_14, q107_15, q107_16, q107_17, q107_20, q107_21, q107_22, q107_25, q107_26, q107_29, q107_31, q107_33, q107_36, q107_38, q107_40, q107_41, q107_42, q107_43, q107_46, q107_47, q107_48, q107_49, q107_50, q107_53, q107_54, n10, n01, Bool.false_eq_true, ab_bs, ab_bn, ab_pr0, ab_pr1, nl_n, nl_i, nl_r, nl_j, nl_nl, rc_0, gf_0_0, gf_0_1, gf_0_2, gf_0_3, gf_0_4, gf_0_5, gf_0_6, gf_0_7, gf_0_8, gf_0_9, pt_0_9, sp_within, h1, and_self, if_true, if_false, not_false_eq_true, hq, g1, rc, e57, (show (-10 : Int32) - 1 = -11 by decide)]
      · rw [ms192]; simp only [q192_0, q192_1, q192_2, q192_3, q192_6, q192_9, q192_12, q192_13, q192_14, q192_15, q192_18, q192_19, q192_20, q192_22, q192_25, q192_27, q192_28, q192_29, q192_30, q192_31, q192_32, q192_35, q192_36, q192_37, q192_38, q192_39, q192_40, q192_43, q192_46, q192_48, q192_49, q192_50, q192_53, q192_55, q192_56, q192_57, q192_58, q192_59, q192_60, q192_63, q192_64, q192_65, q192_68, q192_69, q192_71, q192_72, q192_74, q192_75, q192_78, q192_79, q192_82, q192_83, q192_84, q192_85, q192_88, q192_89, q192_91, q192_92, q192_94, q192_95, q192_98, q192_99, q192_100, q192_101, n10, n01, Bool.false_eq_true, ab_bs, ab_bn, ab_pr0, ab_pr1, nl_n, nl_i, nl_r, nl_j, nl_nl, rc_123, gf_123_0, gf_123_1, pt_123_1, gf_123_2, pt_123_2, gf_123_3, pt_123_3, gf_123_4, pt_123_4, gf_123_5, pt_123_5, gf_123_6, pt_123_6, gf_123_7, pt_123_7, gf_123_8, pt_123_8, gf_123_9, gf_123_10, gf_123_11, gf_123_12, gf_123_13, pt_123_13_0, pt_123_13_1, gf_123_14, pt_123_14_0, pt_123_14_1, gf_123_15, gf_123_16, gf_123_17, gf_123_18, gf_123_19, gf_123_20, gf_123_21, gf_123_22, gf_123_23, gf_123_24, gf_123_25, pt_123_25, gf_123_26, gf_123_27, pt_123_27, gf_123_28, pt_123_28, gf_123_29, gf_123_30, pt_123_30, gf_123_31, pt_123_31, gf_123_32, pt_123_32, gf_123_33, pt_123_33, gf_123_34, pt_123_34_0, pt_123_34_1, gf_123_35, gf_123_36, gf_123_37, gf_123_38, pt_123_38, gf_123_39, pt_123_39, gf_123_40, pt_123_40, gf_123_41, gf_123_42, gf_123_43, gf_123_44, gf_123_45, gf_123_46, gf_123_47, pt_123_47, ln_147, al_147, si_147, sp_in, k0, l3, h1, and_self, if_true, if_false, not_false_eq_true, not_true, hi4, hcu, b]
    · have hl4 : ¬ nI l = -4 := by rw [nI_n4 (by omega)]; exact not_false
      have hs0 : (0 : Int32) ≤ nI s := nI_pos' (by omega)
      by_cases h2 : 0 ≤ i ∧ i < nI s
      · obtain ⟨j, hj, rfl⟩ := rng (by omega) h2
        have hj40 : j < 40 := by omega
        have hcj : (nI j).toNatClampNeg = j := nI_clamp (by omega)
        have e57 : ab_ms scr 57 [.ref (115 + 2 * u), .int (nI l), .int (nI j)] M = some (M, some (.int 0)) := by
          rw [ms57]
          simp only [q57_0, q57_1, q57_4, q57_7, q57_8, q57_9, q57_10, q57_11, q57_14, q57_17, q57_18, q57_19, q57_20, q57_23, q57_24, q57_25, q57_28, q57_31, q57_32, q57_35, q57_36, n10, n01, Bool.false_eq_true, ab_bs, ab_bn, ab_pr0, ab_pr1, nl_n, nl_i, nl_r, nl_j, nl_nl, g1, g2, c, e, hs0, if_true, if_false, Int32.not_lt.mpr h2.1, h2.2]
        have e58 : ab_ms scr 58 [.ref (115 + 2 * u), .int (nI j), .int v] M = some (ab_up M (116 + 2 * u) j (lnV l v), none) := by
          have x1 : ¬ nI s ≤ nI j := Int32.not_le.mpr h2.2
          have x2 : nI j < 40 := nI_lt (b := 40) hj40 (by decide)
          have hl : l = 0 ∨ l = 1 ∨ l = 2 := by omega
          rw [ms58]
          rcases hl with rfl | rfl | rfl
          · simp only [q58_0, q58_1, q58_4, q58_5, q58_6, q58_9, q58_12, q58_13, q58_15, q58_18, q58_19, q58_20, q58_48, q58_49, q58_52, q58_53, q58_54, q58_55, q58_56, q58_59, q58_60, q58_63, q58_64, q58_65, q58_66, q58_67, q58_70, q58_71, q58_74, q58_75, q58_76, q58_77, q58_23, n10, n01, Bool.false_eq_true, ab_bs, ab_bn, ab_pr0, ab_pr1, nl_n, nl_i, nl_r, nl_j, nl_nl, g0, g1, g2, c, e, Int32.not_lt.mpr h2.1, x1, x2, if_true, if_false, (show nI 0 = 0 from rfl), si, ib40 hj40, hcj]
            rfl
          · simp only [q58_0, q58_1, q58_4, q58_5, q58_6, q58_9, q58_12, q58_13, q58_15, q58_18, q58_19, q58_20, q58_48, q58_49, q58_52, q58_53, q58_54, q58_55, q58_56, q58_59, q58_60, q58_63, q58_64, q58_65, q58_66, q58_67, q58_70, q58_71, q58_74, q58_75, q58_76, q58_77, q58_23, n10, n01, Bool.false_eq_true, ab_bs, ab_bn, ab_pr0, ab_pr1, nl_n, nl_i, nl_r, nl_j, nl_nl, g0, g1, g2, c, e, Int32.not_lt.mpr h2.1, x1, x2, if_true, if_false, (show ¬ nI 1 = 0 by decide), (show nI 1 = 1 from rfl), si, ib40 hj40, hcj]
            rfl
          · simp only [q58_0, q58_1, q58_4, q58_5, q58_6, q58_9, q58_12, q58_13, q58_15, q58_18, q58_19, q58_20, q58_48, q58_49, q58_52, q58_53, q58_54, q58_55, q58_56, q58_59, q58_60, q58_63, q58_64, q58_65, q58_66, q58_67, q58_70, q58_71, q58_74, q58_75, q58_76, q58_77, q58_23, n10, n01, Bool.false_eq_true, ab_bs, ab_bn, ab_pr0, ab_pr1, nl_n, nl_i, nl_r, nl_j, nl_nl, g0, g1, g2, c, e, Int32.not_lt.mpr h2.1, x1, x2, if_true, if_false, (show ¬ nI 2 = 0 by decide), (show ¬ nI 2 = 1 by decide), si, ib40 hj40, hcj]
            rfl
        have e2 := (s149 (scr := scr) (M := M) (k := 40 * u + j) (by omega)).1
        have hc2 : (nI (40 * u + j)).toNatClampNeg = 40 * u + j := nI_clamp (by omega)
        have yM : ∀ c j', c ≠ 116 + 2 * u → ab_up M (116 + 2 * u) j (lnV l v) c j' = M c j' := fun c j' x => up_n x
        refine ⟨ab_up M (116 + 2 * u) j (lnV l v), 1, ab_up (ab_up M (116 + 2 * u) j (lnV l v)) 149 (40 * u + j) (lnV l v), ?_, ?_, n, t, CR_sheet hu h (fun c' j' x y z w => by rw [up_o _ _ _ _ _ _ (by omega), up_n (by omega)]) (Or.inr ⟨s, l, s40, l3', by rw [up_n (by omega), yM _ _ (by omega), c], by rw [up_n (by omega), yM _ _ (by omega), d], by rw [up_n (by omega), yM _ _ (by omega), e], by rw [up_n (by omega), yM _ _ (by omega), f], fun i hi => ?_⟩)⟩
        · rw [ms107]; simp only [q107_0, q107_1, q107_2, q107_5, q107_8, q107_9, q107_10, q107_11, q107_14, q107_15, q107_16, q107_17, q107_20, q107_21, q107_22, q107_25, q107_26, q107_29, q107_31, q107_33, q107_36, q107_38, q107_40, q107_41, q107_42, q107_43, q107_46, q107_47, q107_48, q107_49, q107_50, q107_53, q107_54, n10, n01, Bool.false_eq_true, ab_bs, ab_bn, ab_pr0, ab_pr1, nl_n, nl_i, nl_r, nl_j, nl_nl, rc_0, gf_0_0, gf_0_1, gf_0_2, gf_0_3, gf_0_4, gf_0_5, gf_0_6, gf_0_7, gf_0_8, gf_0_9, pt_0_9, sp_within, h1, and_self, if_true, if_false, not_false_eq_true, hq, g1, rc, e, e57, e58]
        · have hl : l = 0 ∨ l = 1 ∨ l = 2 := by omega
          rw [ms192]
          rcases hl with rfl | rfl | rfl
          · simp only [q192_0, q192_1, q192_2, q192_3, q192_6, q192_9, q192_12, q192_13, q192_14, q192_15, q192_18, q192_19, q192_20, q192_22, q192_25, q192_27, q192_28, q192_29, q192_30, q192_31, q192_32, q192_35, q192_36, q192_37, q192_38, q192_39, q192_40, q192_43, q192_46, q192_48, q192_49, q192_50, q192_53, q192_55, q192_56, q192_57, q192_58, q192_59, q192_60, q192_63, q192_64, q192_65, q192_68, q192_69, q192_71, q192_72, q192_74, q192_75, q192_78, q192_79, q192_82, q192_83, q192_84, q192_85, q192_88, q192_89, q192_91, q192_92, q192_94, q192_95, q192_98, q192_99, q192_100, q192_101, n10, n01, Bool.false_eq_true, ab_bs, ab_bn, ab_pr0, ab_pr1, nl_n, nl_i, nl_r, nl_j, nl_nl, rc_123, gf_123_0, gf_123_1, pt_123_1, gf_123_2, pt_123_2, gf_123_3, pt_123_3, gf_123_4, pt_123_4, gf_123_5, pt_123_5, gf_123_6, pt_123_6, gf_123_7, pt_123_7, gf_123_8, pt_123_8, gf_123_9, gf_123_10, gf_123_11, gf_123_12, gf_123_13, pt_123_13_0, pt_123_13_1, gf_123_14, pt_123_14_0, pt_123_14_1, gf_123_15, gf_123_16, gf_123_17, gf_123_18, gf_123_19, gf_123_20, gf_123_21, gf_123_22, gf_123_23, gf_123_24, gf_123_25, pt_123_25, gf_123_26, gf_123_27, pt_123_27, gf_123_28, pt_123_28, gf_123_29, gf_123_30, pt_123_30, gf_123_31, pt_123_31, gf_123_32, pt_123_32, gf_123_33, pt_123_33, gf_123_34, pt_123_34_0, pt_123_34_1, gf_123_35, gf_123_36, gf_123_37, gf_123_38, pt_123_38, gf_123_39, pt_123_39, gf_123_40, pt_123_40, gf_123_41, gf_123_42, gf_123_43, gf_123_44, gf_123_45, gf_123_46, gf_123_47, pt_123_47, ln_147, al_147, si_147, ln_148, al_148, si_148, sp_in, k0, l3, h1, h2, and_self, if_true, if_false, not_false_eq_true, not_true, hi4, hcu, yM 147 _ (by omega), yM 148 _ (by omega), f, d, hl4, i64_le, le_pred (show s < 2 ^ 31 by omega), n40m, e2, hc2, (show nI 0 = 0 from rfl), sh24]
            rfl
          · simp only [q192_0, q192_1, q192_2, q192_3, q192_6, q192_9, q192_12, q192_13, q192_14, q192_15, q192_18, q192_19, q192_20, q192_22, q192_25, q192_27, q192_28, q192_29, q192_30, q192_31, q192_32, q192_35, q192_36, q192_37, q192_38, q192_39, q192_40, q192_43, q192_46, q192_48, q192_49, q192_50, q192_53, q192_55, q192_56, q192_57, q192_58, q192_59, q192_60, q192_63, q192_64, q192_65, q192_68, q192_69, q192_71, q192_72, q192_74, q192_75, q192_78, q192_79, q192_82, q192_83, q192_84, q192_85, q192_88, q192_89, q192_91, q192_92, q192_94, q192_95, q192_98, q192_99, q192_100, q192_101, n10, n01, Bool.false_eq_true, ab_bs, ab_bn, ab_pr0, ab_pr1, nl_n, nl_i, nl_r, nl_j, nl_nl, rc_123, gf_123_0, gf_123_1, pt_123_1, gf_123_2, pt_123_2, gf_123_3, pt_123_3, gf_123_4, pt_123_4, gf_123_5, pt_123_5, gf_123_6, pt_123_6, gf_123_7, pt_123_7, gf_123_8, pt_123_8, gf_123_9, gf_123_10, gf_123_11, gf_123_12, gf_123_13, pt_123_13_0, pt_123_13_1, gf_123_14, pt_123_14_0, pt_123_14_1, gf_123_15, gf_123_16, gf_123_17, gf_123_18, gf_123_19, gf_123_20, gf_123_21, gf_123_22, gf_123_23, gf_123_24, gf_123_25, pt_123_25, gf_123_26, gf_123_27, pt_123_27, gf_123_28, pt_123_28, gf_123_29, gf_123_30, pt_123_30, gf_123_31, pt_123_31, gf_123_32, pt_123_32, gf_123_33, pt_123_33, gf_123_34, pt_123_34_0, pt_123_34_1, gf_123_35, gf_123_36, gf_123_37, gf_123_38, pt_123_38, gf_123_39, pt_123_39, gf_123_40, pt_123_40, gf_123_41, gf_123_42, gf_123_43, gf_123_44, gf_123_45, gf_123_46, gf_123_47, pt_123_47, ln_147, al_147, si_147, ln_148, al_148, si_148, sp_in, k0, l3, h1, h2, and_self, if_true, if_false, not_false_eq_true, not_true, hi4, hcu, yM 147 _ (by omega), yM 148 _ (by omega), f, d, hl4, i64_le, le_pred (show s < 2 ^ 31 by omega), n40m, e2, hc2, (show ¬ nI 1 = 0 by decide), (show nI 1 = 1 from rfl), sh16b]
            rfl
          · simp only [q192_0, q192_1, q192_2, q192_3, q192_6, q192_9, q192_12, q192_13, q192_14, q192_15, q192_18, q192_19, q192_20, q192_22, q192_25, q192_27, q192_28, q192_29, q192_30, q192_31, q192_32, q192_35, q192_36, q192_37, q192_38, q192_39, q192_40, q192_43, q192_46, q192_48, q192_49, q192_50, q192_53, q192_55, q192_56, q192_57, q192_58, q192_59, q192_60, q192_63, q192_64, q192_65, q192_68, q192_69, q192_71, q192_72, q192_74, q192_75, q192_78, q192_79, q192_82, q192_83, q192_84, q192_85, q192_88, q192_89, q192_91, q192_92, q192_94, q192_95, q192_98, q192_99, q192_100, q192_101, n10, n01, Bool.false_eq_true, ab_bs, ab_bn, ab_pr0, ab_pr1, nl_n, nl_i, nl_r, nl_j, nl_nl, rc_123, gf_123_0, gf_123_1, pt_123_1, gf_123_2, pt_123_2, gf_123_3, pt_123_3, gf_123_4, pt_123_4, gf_123_5, pt_123_5, gf_123_6, pt_123_6, gf_123_7, pt_123_7, gf_123_8, pt_123_8, gf_123_9, gf_123_10, gf_123_11, gf_123_12, gf_123_13, pt_123_13_0, pt_123_13_1, gf_123_14, pt_123_14_0, pt_123_14_1, gf_123_15, gf_123_16, gf_123_17, gf_123_18, gf_123_19, gf_123_20, gf_123_21, gf_123_22, gf_123_23, gf_123_24, gf_123_25, pt_123_25, gf_123_26, gf_123_27, pt_123_27, gf_123_28, pt_123_28, gf_123_29, gf_123_30, pt_123_30, gf_123_31, pt_123_31, gf_123_32, pt_123_32, gf_123_33, pt_123_33, gf_123_34, pt_123_34_0, pt_123_34_1, gf_123_35, gf_123_36, gf_123_37, gf_123_38, pt_123_38, gf_123_39, pt_123_39, gf_123_40, pt_123_40, gf_123_41, gf_123_42, gf_123_43, gf_123_44, gf_123_45, gf_123_46, gf_123_47, pt_123_47, ln_147, al_147, si_147, ln_148, al_148, si_148, sp_in, k0, l3, h1, h2, and_self, if_true, if_false, not_false_eq_true, not_true, hi4, hcu, yM 147 _ (by omega), yM 148 _ (by omega), f, d, hl4, i64_le, le_pred (show s < 2 ^ 31 by omega), n40m, e2, hc2, (show ¬ nI 2 = 0 by decide), (show ¬ nI 2 = 1 by decide)]
            rfl
        · rw [up_n (by omega)]
          by_cases q : i = j
          · subst q
            rw [up_s, up_s]
          · rw [up_o _ _ _ _ _ _ (by omega), up_o _ _ _ _ _ _ (by omega), yM _ _ (by omega)]
            exact g i hi
      · have e57 : ab_ms scr 57 [.ref (115 + 2 * u), .int (nI l), .int i] M = some (M, some (.int 2)) := by
          rw [ms57]
          by_cases hi0 : i < 0
          · simp only [q57_0, q57_1, q57_4, q57_7, q57_8, q57_9, q57_10, q57_11, q57_14, q57_17, q57_18, q57_19, q57_20, q57_23, q57_24, q57_25, q57_28, q57_31, q57_32, q57_35, q57_36, n10, n01, Bool.false_eq_true, ab_bs, ab_bn, ab_pr0, ab_pr1, nl_n, nl_i, nl_r, nl_j, nl_nl, g1, g2, c, e, hs0, if_true, if_false, hi0]
          · have : ¬ i < nI s := fun q => h2 ⟨Int32.not_lt.mp hi0, q⟩
            simp only [q57_0, q57_1, q57_4, q57_7, q57_8, q57_9, q57_10, q57_11, q57_14, q57_17, q57_18, q57_19, q57_20, q57_23, q57_24, q57_25, q57_28, q57_31, q57_32, q57_35, q57_36, n10, n01, Bool.false_eq_true, ab_bs, ab_bn, ab_pr0, ab_pr1, nl_n, nl_i, nl_r, nl_j, nl_nl, g1, g2, c, e, hs0, if_true, if_false, hi0, this]
        refine ⟨M, -12, M, ?_, ?_, n, t, h⟩
        · rw [ms107]; simp only [q107_0, q107_1, q107_2, q107_5, q107_8, q107_9, q107_10, q107_11, q107_14, q107_15, q107_16, q107_17, q107_20, q107_21, q107_22, q107_25, q107_26, q107_29, q107_31, q107_33, q107_36, q107_38, q107_40, q107_41, q107_42, q107_43, q107_46, q107_47, q107_48, q107_49, q107_50, q107_53, q107_54, n10, n01, Bool.false_eq_true, ab_bs, ab_bn, ab_pr0, ab_pr1, nl_n, nl_i, nl_r, nl_j, nl_nl, rc_0, gf_0_0, gf_0_1, gf_0_2, gf_0_3, gf_0_4, gf_0_5, gf_0_6, gf_0_7, gf_0_8, gf_0_9, pt_0_9, sp_within, h1, and_self, if_true, if_false, not_false_eq_true, hq, g1, rc, e, e57, (show ¬ (2 : Int32) = 0 by decide), (show (-10 : Int32) - 2 = -12 by decide)]
        · rw [ms192]; simp only [q192_0, q192_1, q192_2, q192_3, q192_6, q192_9, q192_12, q192_13, q192_14, q192_15, q192_18, q192_19, q192_20, q192_22, q192_25, q192_27, q192_28, q192_29, q192_30, q192_31, q192_32, q192_35, q192_36, q192_37, q192_38, q192_39, q192_40, q192_43, q192_46, q192_48, q192_49, q192_50, q192_53, q192_55, q192_56, q192_57, q192_58, q192_59, q192_60, q192_63, q192_64, q192_65, q192_68, q192_69, q192_71, q192_72, q192_74, q192_75, q192_78, q192_79, q192_82, q192_83, q192_84, q192_85, q192_88, q192_89, q192_91, q192_92, q192_94, q192_95, q192_98, q192_99, q192_100, q192_101, n10, n01, Bool.false_eq_true, ab_bs, ab_bn, ab_pr0, ab_pr1, nl_n, nl_i, nl_r, nl_j, nl_nl, rc_123, gf_123_0, gf_123_1, pt_123_1, gf_123_2, pt_123_2, gf_123_3, pt_123_3, gf_123_4, pt_123_4, gf_123_5, pt_123_5, gf_123_6, pt_123_6, gf_123_7, pt_123_7, gf_123_8, pt_123_8, gf_123_9, gf_123_10, gf_123_11, gf_123_12, gf_123_13, pt_123_13_0, pt_123_13_1, gf_123_14, pt_123_14_0, pt_123_14_1, gf_123_15, gf_123_16, gf_123_17, gf_123_18, gf_123_19, gf_123_20, gf_123_21, gf_123_22, gf_123_23, gf_123_24, gf_123_25, pt_123_25, gf_123_26, gf_123_27, pt_123_27, gf_123_28, pt_123_28, gf_123_29, gf_123_30, pt_123_30, gf_123_31, pt_123_31, gf_123_32, pt_123_32, gf_123_33, pt_123_33, gf_123_34, pt_123_34_0, pt_123_34_1, gf_123_35, gf_123_36, gf_123_37, gf_123_38, pt_123_38, gf_123_39, pt_123_39, gf_123_40, pt_123_40, gf_123_41, gf_123_42, gf_123_43, gf_123_44, gf_123_45, gf_123_46, gf_123_47, pt_123_47, ln_147, al_147, si_147, ln_148, al_148, si_148, sp_in, k0, l3, h1, h2, and_self, if_true, if_false, not_false_eq_true, not_true, hi4, hcu, f, d, hl4, i64_le, le_pred (show s < 2 ^ 31 by omega)]
  · refine ⟨M, -1, M, ?_, ?_, n, t, h⟩
    · rw [ms107]; simp only [q107_0, q107_1, q107_2, q107_5, q107_8, q107_9, q107_10, q107_11, q107_14, q107_15, q107_16, q107_17, q107_20, q107_21, q107_22, q107_25, q107_26, q107_29, q107_31, q107_33, q107_36, q107_38, q107_40, q107_41, q107_42, q107_43, q107_46, q107_47, q107_48, q107_49, q107_50, q107_53, q107_54, n10, n01, Bool.false_eq_true, ab_bs, ab_bn, ab_pr0, ab_pr1, nl_n, nl_i, nl_r, nl_j, nl_nl, sp_within, h1, if_false, not_true]
    · rw [ms192]; simp only [q192_0, q192_1, q192_2, q192_3, q192_6, q192_9, q192_12, q192_13, q192_14, q192_15, q192_18, q192_19, q192_20, q192_22, q192_25, q192_27, q192_28, q192_29, q192_30, q192_31, q192_32, q192_35, q192_36, q192_37, q192_38, q192_39, q192_40, q192_43, q192_46, q192_48, q192_49, q192_50, q192_53, q192_55, q192_56, q192_57, q192_58, q192_59, q192_60, q192_63, q192_64, q192_65, q192_68, q192_69, q192_71, q192_72, q192_74, q192_75, q192_78, q192_79, q192_82, q192_83, q192_84, q192_85, q192_88, q192_89, q192_91, q192_92, q192_94, q192_95, q192_98, q192_99, q192_100, q192_101, n10, n01, Bool.false_eq_true, ab_bs, ab_bn, ab_pr0, ab_pr1, nl_n, nl_i, nl_r, nl_j, nl_nl, sp_in, k0, l3, h1, if_false, not_true]
end CL9
