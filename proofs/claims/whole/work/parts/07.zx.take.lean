/-! BEST: the class takes a row -/
def mxO (M : ab_M) (k : Nat) : Int32 := fo (fun p s => if s < ia (M 84 p) then ia (M 84 p) else s) k 0
theorem mxO_s (M : ab_M) (k : Nat) : mxO M (k + 1) = if mxO M k < ia (M 84 k) then ia (M 84 k) else mxO M k := rfl
theorem sp_take {scr : Option (List Int32)} {n : Nat} {M : ab_M} (hn : n ≤ 8) (hM : M 16 3 = nI n) : ab_ms scr 50 [.ref 81] M = some (ab_cpy (ab_up M 81 3 (mxO M n)) 83 82 0 0 6, none) := by
  have e1 := rn (fun k => ab_res scr 50 1 (ab_up M 81 3 (mxO M k)) 7 [some (.ref 81), some (.int (nI k))] []) n (fun k hk => ?_)
  · have e1 : ab_res scr 50 1 (ab_up M 81 3 0) 7 [some (.ref 81), some (.int 0)] [] = _ := e1
    have y : ab_up M 81 3 (mxO M n) 16 3 = nI n := by rw [up_n (by decide), hM]
    rw [ms50]
    simp only [q50_0, q50_1, q50_2, q50_5, q50_6, q50_8, q50_9, q50_12, q50_15, q50_18, q50_19, q50_20, q50_23, q50_24, q50_27, q50_28, q50_29, q50_32, q50_35, q50_38, q50_41, q50_44, q50_45, q50_48, q50_49, q50_50, q50_53, q50_54, q50_59, n10, n01, Bool.false_eq_true, ab_bs, ab_bn, ab_pr0, ab_pr1, nl_n, nl_i, nl_r, nl_j, nl_nl, rc_81, gf_81_0, gf_81_1, gf_81_2, gf_81_3, pt_81_3, gf_81_4, gf_81_5, gf_81_6, pt_81_6]
    rw [e1, q50_7]
    simp only [q50_0, q50_1, q50_2, q50_5, q50_6, q50_8, q50_9, q50_12, q50_15, q50_18, q50_19, q50_20, q50_23, q50_24, q50_27, q50_28, q50_29, q50_32, q50_35, q50_38, q50_41, q50_44, q50_45, q50_48, q50_49, q50_50, q50_53, q50_54, q50_59, n10, n01, Bool.false_eq_true, ab_bs, ab_bn, ab_pr0, ab_pr1, nl_n, nl_i, nl_r, nl_j, nl_nl, rc_16, gf_16_0, gf_16_1, gf_16_2, gf_16_3, pt_16_3, gf_16_4, pt_16_4, gf_16_5, pt_16_5, rc_81, gf_81_0, gf_81_1, gf_81_2, gf_81_3, pt_81_3, gf_81_4, gf_81_5, gf_81_6, pt_81_6, ln_82, al_82, si_82, ln_83, al_83, si_83, y, nI_rfl, if_true]
    rw [q50_56 ar_83 ar_82 (by decide)]
    simp only [q50_0, q50_1, q50_2, q50_5, q50_6, q50_8, q50_9, q50_12, q50_15, q50_18, q50_19, q50_20, q50_23, q50_24, q50_27, q50_28, q50_29, q50_32, q50_35, q50_38, q50_41, q50_44, q50_45, q50_48, q50_49, q50_50, q50_53, q50_54, q50_59, n10, n01, Bool.false_eq_true, ab_bs, ab_bn, ab_pr0, ab_pr1, nl_n, nl_i, nl_r, nl_j, nl_nl]
    rfl
  · have h1 : ¬ nI n ≤ nI k := nI_ge hk (by omega)
    have h8 : k < 8 := by omega
    have y : ab_up M 81 3 (mxO M k) 16 3 = nI n := by rw [up_n (by decide), hM]
    have y84 : ab_up M 81 3 (mxO M k) 84 k = M 84 k := up_n (by decide)
    rw [q50_7]
    simp only [q50_0, q50_1, q50_2, q50_5, q50_6, q50_8, q50_9, q50_12, q50_15, q50_18, q50_19, q50_20, q50_23, q50_24, q50_27, q50_28, q50_29, q50_32, q50_35, q50_38, q50_41, q50_44, q50_45, q50_48, q50_49, q50_50, q50_53, q50_54, q50_59, n10, n01, Bool.false_eq_true, ab_bs, ab_bn, ab_pr0, ab_pr1, nl_n, nl_i, nl_r, nl_j, nl_nl, rc_16, gf_16_0, gf_16_1, gf_16_2, gf_16_3, pt_16_3, gf_16_4, pt_16_4, gf_16_5, pt_16_5, rc_81, gf_81_0, gf_81_1, gf_81_2, gf_81_3, pt_81_3, gf_81_4, gf_81_5, gf_81_6, pt_81_6, ln_84, al_84, si_84, y, h1, if_false, ib8 h8, nI_clamp (show k < 2 ^ 31 by omega), if_true, y84, up_s, ia_eq, up_up, mxO_s, nI_succ]
