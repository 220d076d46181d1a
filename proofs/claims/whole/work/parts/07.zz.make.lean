/-! BEST: what each begins with -/
def bgL (k : Nat) (X : ab_M) : ab_M := fun c j => if c = 84 ∧ j < k then X 25 j - X (33 + j) 1 else X c j
theorem bgL_s {k : Nat} {X : ab_M} : ab_up (bgL k X) 84 k (X 25 k - X (33 + k) 1) = bgL (k + 1) X := by
  funext c j
  unfold ab_up bgL
  by_cases e : c = 84 ∧ j = k
  · rw [if_pos e, if_pos (by omega), e.2]
  · rw [if_neg e]
    by_cases w : c = 84 ∧ j < k
    · rw [if_pos w, if_pos (by omega)]
    · rw [if_neg w, if_neg (by omega)]
theorem mk_in {scr : Option (List Int32)} {n : Nat} {X : ab_M} (hn : n ≤ 8) (hM : X 16 3 = nI n) : ab_res scr 47 11 X 61 [some (.ref 81), some (.int 0)] [] = ab_res scr 47 11 (bgL n X) 109 [some (.ref 81), some (.int (nI n))] [] := by
  have y : ∀ k c j, c ≠ 84 → bgL k X c j = X c j := fun k c j h => by
    unfold bgL
    rw [if_neg (by omega)]
  have e1 := rn (fun k => ab_res scr 47 11 (bgL k X) 61 [some (.ref 81), some (.int (nI k))] []) n (fun k hk => ?_)
  · have e0 : bgL 0 X = X := by
      funext c j
      unfold bgL
      rw [if_neg (by omega)]
    have e1 : ab_res scr 47 11 (bgL 0 X) 61 [some (.ref 81), some (.int 0)] [] = ab_res scr 47 11 (bgL n X) 61 [some (.ref 81), some (.int (nI n))] [] := e1
    rw [e0] at e1
    rw [e1]
    rw [q47_61]
    simp only [q47_0, q47_1, q47_4, q47_7, q47_8, q47_11, q47_14, q47_15, q47_18, q47_21, q47_23, q47_26, q47_28, q47_29, q47_30, q47_33, q47_36, q47_39, q47_41, q47_42, q47_43, q47_44, q47_47, q47_50, q47_53, q47_54, q47_56, q47_59, q47_60, q47_62, q47_63, q47_66, q47_69, q47_72, q47_73, q47_76, q47_77, q47_78, q47_81, q47_84, q47_86, q47_87, q47_88, q47_89, q47_90, q47_93, q47_96, q47_97, q47_98, q47_101, q47_102, q47_103, q47_106, q47_110, q47_111, q47_112, q47_115, q47_118, q47_121, q47_122, q47_125, n10, n01, Bool.false_eq_true, ab_bs, ab_bn, ab_pr0, ab_pr1, nl_n, nl_i, nl_r, nl_j, nl_nl, rc_16, gf_16_0, gf_16_1, gf_16_2, gf_16_3, pt_16_3, gf_16_4, pt_16_4, gf_16_5, pt_16_5, rc_81, gf_81_0, gf_81_1, gf_81_2, gf_81_3, pt_81_3, gf_81_4, gf_81_5, gf_81_6, pt_81_6, y n 16 3 (by decide), hM, nI_rfl, if_true]
  · have h1 : ¬ nI n ≤ nI k := nI_ge hk (by omega)
    have h8 : k < 8 := by omega
    rw [q47_61]
    simp only [q47_0, q47_1, q47_4, q47_7, q47_8, q47_11, q47_14, q47_15, q47_18, q47_21, q47_23, q47_26, q47_28, q47_29, q47_30, q47_33, q47_36, q47_39, q47_41, q47_42, q47_43, q47_44, q47_47, q47_50, q47_53, q47_54, q47_56, q47_59, q47_60, q47_62, q47_63, q47_66, q47_69, q47_72, q47_73, q47_76, q47_77, q47_78, q47_81, q47_84, q47_86, q47_87, q47_88, q47_89, q47_90, q47_93, q47_96, q47_97, q47_98, q47_101, q47_102, q47_103, q47_106, q47_110, q47_111, q47_112, q47_115, q47_118, q47_121, q47_122, q47_125, n10, n01, Bool.false_eq_true, ab_bs, ab_bn, ab_pr0, ab_pr1, nl_n, nl_i, nl_r, nl_j, nl_nl, rc_16, gf_16_0, gf_16_1, gf_16_2, gf_16_3, pt_16_3, gf_16_4, pt_16_4, gf_16_5, pt_16_5, ln_25, al_25, si_25, rc_30, gf_30_0, gf_30_1, gf_30_2, gf_30_3, pt_30_3, gf_30_4, pt_30_4, gf_30_5, pt_30_5, gf_30_6, pt_30_6, gf_30_7, pt_30_7, gf_30_8, pt_30_8, gf_30_9, pt_30_9_0, pt_30_9_1, gf_30_10, pt_30_10, gf_30_11, pt_30_11, gf_30_12, pt_30_12, gf_30_13, pt_30_13, rc_81, gf_81_0, gf_81_1, gf_81_2, gf_81_3, pt_81_3, gf_81_4, gf_81_5, gf_81_6, pt_81_6, ln_84, al_84, si_84, y k 16 3 (by decide), hM, h1, if_false, qe_17_7, ib8 h8, nI_clamp (show k < 2 ^ 31 by omega), if_true, qe_31 h8, gf_seat h8 (show 1 < 8 by decide), y k 25 k (by decide), y k (33 + k) 1 (by omega), bgL_s, a1]
