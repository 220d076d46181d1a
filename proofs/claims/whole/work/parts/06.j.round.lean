/-! the ROUND of the class -/
theorem sp_bits2 {scr : Option (List Int32)} (M : ab_M) {n : Nat} {w : Int32} (hn : n ≤ 8) (h : mk n w) : ab_ms scr 196 [.int w] M = some (M, some (.int (bn w))) := by
  obtain ⟨j, hj, rfl⟩ := mk_nI hn h
  exact sp_bits M j hj
/-- is a ROUND wanted -/
def wtC (M : ab_M) : Bool := !decide (M 30 13 = 0) && decide (M 30 3 < 40) && (decide (M 30 13 = M 30 12) || decide (M 16 4 ≤ bn (M 30 13)))
theorem sp_wants {scr : Option (List Int32)} (M : ab_M) {n : Nat} (hn : n ≤ 8) (h : mk n (M 30 13)) : ab_ms scr 13 [.ref 30] M = some (M, some (.int (if wtC M = true then 1 else 0))) := by
  rw [ms13]
  by_cases h1 : M 30 13 = 0
  · have hw : wtC M = false := by simp [wtC, h1]
    simp only [q13_0, q13_1, q13_4, q13_7, q13_8, q13_11, q13_13, q13_16, q13_17, q13_18, q13_19, q13_22, q13_23, q13_26, q13_29, q13_30, q13_33, q13_36, q13_37, q13_40, q13_43, q13_46, q13_47, q13_50, q13_51, n10, n01, Bool.false_eq_true, ab_bs, ab_bn, ab_pr0, ab_pr1, nl_n, nl_i, nl_r, nl_j, nl_nl, rc_16, gf_16_0, gf_16_1, gf_16_2, gf_16_3, pt_16_3, gf_16_4, pt_16_4, gf_16_5, pt_16_5, rc_30, gf_30_0, gf_30_1, gf_30_2, gf_30_3, pt_30_3, gf_30_4, pt_30_4, gf_30_5, pt_30_5, gf_30_6, pt_30_6, gf_30_7, pt_30_7, gf_30_8, pt_30_8, gf_30_9, pt_30_9_0, pt_30_9_1, gf_30_10, pt_30_10, gf_30_11, pt_30_11, gf_30_12, pt_30_12, gf_30_13, pt_30_13, h1, if_true, narrow_b0, hw, (show ¬ (false = true) by decide), if_false]
  · by_cases h2 : M 30 3 < 40
    · by_cases h3 : M 30 13 = M 30 12
      · have hw : wtC M = true := by simp only [wtC, h1, h2, h3, decide_true, decide_false, Bool.not_false, Bool.true_and, Bool.true_or, Bool.and_true]; rw [← h3]; simp [h1]
        have h1' : ¬ M 30 12 = 0 := by rw [← h3]; exact h1
        simp only [q13_0, q13_1, q13_4, q13_7, q13_8, q13_11, q13_13, q13_16, q13_17, q13_18, q13_19, q13_22, q13_23, q13_26, q13_29, q13_30, q13_33, q13_36, q13_37, q13_40, q13_43, q13_46, q13_47, q13_50, q13_51, n10, n01, Bool.false_eq_true, ab_bs, ab_bn, ab_pr0, ab_pr1, nl_n, nl_i, nl_r, nl_j, nl_nl, rc_16, gf_16_0, gf_16_1, gf_16_2, gf_16_3, pt_16_3, gf_16_4, pt_16_4, gf_16_5, pt_16_5, rc_30, gf_30_0, gf_30_1, gf_30_2, gf_30_3, pt_30_3, gf_30_4, pt_30_4, gf_30_5, pt_30_5, gf_30_6, pt_30_6, gf_30_7, pt_30_7, gf_30_8, pt_30_8, gf_30_9, pt_30_9_0, pt_30_9_1, gf_30_10, pt_30_10, gf_30_11, pt_30_11, gf_30_12, pt_30_12, gf_30_13, pt_30_13, h1', if_false, h2, if_true, h3, narrow_b1, hw]
      · by_cases h4 : bn (M 30 13) < M 16 4
        · have hw : wtC M = false := by simp [wtC, h1, h2, h3, h4]
          simp only [q13_0, q13_1, q13_4, q13_7, q13_8, q13_11, q13_13, q13_16, q13_17, q13_18, q13_19, q13_22, q13_23, q13_26, q13_29, q13_30, q13_33, q13_36, q13_37, q13_40, q13_43, q13_46, q13_47, q13_50, q13_51, n10, n01, Bool.false_eq_true, ab_bs, ab_bn, ab_pr0, ab_pr1, nl_n, nl_i, nl_r, nl_j, nl_nl, rc_16, gf_16_0, gf_16_1, gf_16_2, gf_16_3, pt_16_3, gf_16_4, pt_16_4, gf_16_5, pt_16_5, rc_30, gf_30_0, gf_30_1, gf_30_2, gf_30_3, pt_30_3, gf_30_4, pt_30_4, gf_30_5, pt_30_5, gf_30_6, pt_30_6, gf_30_7, pt_30_7, gf_30_8, pt_30_8, gf_30_9, pt_30_9_0, pt_30_9_1, gf_30_10, pt_30_10, gf_30_11, pt_30_11, gf_30_12, pt_30_12, gf_30_13, pt_30_13, h1, if_false, h2, if_true, h3, sp_bits2 M hn h, h4, narrow_b0, hw, (show ¬ (false = true) by decide)]
        · have hw : wtC M = true := by simp [wtC, h1, h2, h3, Int32.not_lt.mp h4]
          simp only [q13_0, q13_1, q13_4, q13_7, q13_8, q13_11, q13_13, q13_16, q13_17, q13_18, q13_19, q13_22, q13_23, q13_26, q13_29, q13_30, q13_33, q13_36, q13_37, q13_40, q13_43, q13_46, q13_47, q13_50, q13_51, n10, n01, Bool.false_eq_true, ab_bs, ab_bn, ab_pr0, ab_pr1, nl_n, nl_i, nl_r, nl_j, nl_nl, rc_16, gf_16_0, gf_16_1, gf_16_2, gf_16_3, pt_16_3, gf_16_4, pt_16_4, gf_16_5, pt_16_5, rc_30, gf_30_0, gf_30_1, gf_30_2, gf_30_3, pt_30_3, gf_30_4, pt_30_4, gf_30_5, pt_30_5, gf_30_6, pt_30_6, gf_30_7, pt_30_7, gf_30_8, pt_30_8, gf_30_9, pt_30_9_0, pt_30_9_1, gf_30_10, pt_30_10, gf_30_11, pt_30_11, gf_30_12, pt_30_12, gf_30_13, pt_30_13, h1, if_false, h2, if_true, h3, sp_bits2 M hn h, h4, narrow_b1, hw]
    · have hw : wtC M = false := by simp [wtC, h2]
      simp only [q13_0, q13_1, q13_4, q13_7, q13_8, q13_11, q13_13, q13_16, q13_17, q13_18, q13_19, q13_22, q13_23, q13_26, q13_29, q13_30, q13_33, q13_36, q13_37, q13_40, q13_43, q13_46, q13_47, q13_50, q13_51, n10, n01, Bool.false_eq_true, ab_bs, ab_bn, ab_pr0, ab_pr1, nl_n, nl_i, nl_r, nl_j, nl_nl, rc_16, gf_16_0, gf_16_1, gf_16_2, gf_16_3, pt_16_3, gf_16_4, pt_16_4, gf_16_5, pt_16_5, rc_30, gf_30_0, gf_30_1, gf_30_2, gf_30_3, pt_30_3, gf_30_4, pt_30_4, gf_30_5, pt_30_5, gf_30_6, pt_30_6, gf_30_7, pt_30_7, gf_30_8, pt_30_8, gf_30_9, pt_30_9_0, pt_30_9_1, gf_30_10, pt_30_10, gf_30_11, pt_30_11, gf_30_12, pt_30_12, gf_30_13, pt_30_13, h1, h2, if_false, narrow_b0, hw, (show ¬ (false = true) by decide)]
def ntC (m bu co got : Int32) (M : ab_M) : ab_M := 
  ab_up (ab_up (ab_up (ab_up (ab_up (ab_up (ab_up (ab_up M (41 + (M 30 3).toNatClampNeg) 0 m) (41 + (M 30 3).toNatClampNeg) 1 bu) (41 + (M 30 3).toNatClampNeg) 2 co) (41 + (M 30 3).toNatClampNeg) 3 got) (41 + (M 30 3).toNatClampNeg) 4 (M 30 12)) 30 3 (M 30 3 + 1)) 30 11 (M 30 11 + 1)) 30 4 (M 30 4 + co)
theorem up_rl {M : ab_M} {i k : Nat} {v : Int32} {c j : Nat} (h : c < 41) : ab_up M (41 + i) k v c j = M c j := by
  unfold ab_up
  rw [if_neg (by omega)]
theorem sp_note {scr : Option (List Int32)} (M : ab_M) (i : Nat) (hi : i < 40) (hM : M 30 3 = nI i) (m bu co got : Int32) : ab_ms scr 17 [.ref 30, .int m, .int bu, .int co, .int got] M = some (ntC m bu co got M, none) := by
  rw [ms17]
  have h1 : nI i < 40 := nI_lt (b := 40) hi (by decide)
  have h2 : (nI i).toNatClampNeg = i := nI_clamp (by omega)
  unfold ntC
  simp only [q17_0, q17_1, q17_4, q17_6, q17_9, q17_10, q17_11, q17_14, q17_15, q17_18, q17_19, q17_21, q17_23, q17_24, q17_27, q17_29, q17_30, q17_33, q17_35, q17_36, q17_39, q17_41, q17_43, q17_46, q17_48, q17_49, q17_52, q17_55, q17_56, q17_57, q17_60, q17_61, q17_62, q17_65, q17_66, q17_67, q17_70, q17_71, q17_72, q17_75, q17_76, q17_77, q17_80, q17_81, q17_82, q17_85, n10, n01, Bool.false_eq_true, ab_bs, ab_bn, ab_pr0, ab_pr1, nl_n, nl_i, nl_r, nl_j, nl_nl, rc_30, gf_30_0, gf_30_1, gf_30_2, gf_30_3, pt_30_3, gf_30_4, pt_30_4, gf_30_5, pt_30_5, gf_30_6, pt_30_6, gf_30_7, pt_30_7, gf_30_8, pt_30_8, gf_30_9, pt_30_9_0, pt_30_9_1, gf_30_10, pt_30_10, gf_30_11, pt_30_11, gf_30_12, pt_30_12, gf_30_13, pt_30_13, hM, h1, if_true, qe_32 hi, pt_round hi (show 0 < 5 by decide), pt_round hi (show 1 < 5 by decide), pt_round hi (show 2 < 5 by decide), pt_round hi (show 3 < 5 by decide), pt_round hi (show 4 < 5 by decide), up_rl (show 30 < 41 by decide), up_ll, h2, (show ¬ (11 = 3) by decide), (show ¬ (4 = 3) by decide), (show ¬ (4 = 11) by decide), if_false]
def puF (got m : Int32) (M : ab_M) (p j : Nat) : Int32 := if tb got p = true then (if j = 1 then M (33 + p) 1 + M 20 p else if j = 3 then M (33 + p) 3 + 1 else if j = 6 then m + M 21 p else M (33 + p) j) else M (33 + p) j
def puC (n : Nat) (got m : Int32) (M : ab_M) : ab_M := ab_up (sw n (puF got m M) M) 30 13 (M 30 13 &&& (got ^^^ -1))
theorem sp_pour {scr : Option (List Int32)} (M : ab_M) (n : Nat) (hn : n ≤ 8) (hM : M 16 3 = nI n) (got m : Int32) : ab_ms scr 18 [.ref 30, .int got, .int m] M = some (puC n got m M, none) := by
  rw [ms18]
  simp only [q18_0, q18_1, q18_3, q18_4, q18_7, q18_10, q18_13, q18_14, q18_15, q18_18, q18_21, q18_22, q18_25, q18_26, q18_27, q18_28, q18_31, q18_32, q18_35, q18_38, q18_39, q18_40, q18_41, q18_42, q18_43, q18_46, q18_47, q18_50, q18_51, q18_52, q18_53, q18_56, q18_57, q18_58, q18_61, q18_62, q18_65, q18_66, q18_67, q18_68, q18_69, q18_72, q18_75, q18_76, q18_77, q18_78, q18_79, q18_80, q18_83, q18_86, q18_89, q18_90, q18_91, q18_94, q18_95, q18_96, q18_97, q18_98, q18_101, n10, n01, Bool.false_eq_true, ab_bs, ab_bn, ab_pr0, ab_pr1, nl_n, nl_i, nl_r, nl_j, nl_nl, rc_30, gf_30_0, gf_30_1, gf_30_2, gf_30_3, pt_30_3, gf_30_4, pt_30_4, gf_30_5, pt_30_5, gf_30_6, pt_30_6, gf_30_7, pt_30_7, gf_30_8, pt_30_8, gf_30_9, pt_30_9_0, pt_30_9_1, gf_30_10, pt_30_10, gf_30_11, pt_30_11, gf_30_12, pt_30_12, gf_30_13, pt_30_13]
  refine Eq.trans ?_ ((rn (fun k => ab_res scr 18 2 (sw k (puF got m M) M) 2 [some (.ref 30), some (.int got), some (.int m), some (.int (nI k))] []) (n) (fun k hk => ?_)).trans ?_)
  · rw [sw_0]
    rfl
  · have h1 : ¬ nI n ≤ nI k := nI_ge hk (by omega)
    have h3 : k < 8 := by omega
    have h2 : k < 2 ^ 31 := by omega
    have h4 : sw k (puF got m M) M 16 3 = nI n := by rw [sw_c (by decide), hM]
    have hb : ∀ j, sw k (puF got m M) M (33 + k) j = M (33 + k) j := fun j => by rw [sw_k]
    have hc : ∀ c j, c < 33 → sw k (puF got m M) M c j = M c j := fun c j h => by rw [sw_c h]
    by_cases ht : tb got k = true
    · rw [q18_2]
      simp only [q18_0, q18_1, q18_3, q18_4, q18_7, q18_10, q18_13, q18_14, q18_15, q18_18, q18_21, q18_22, q18_25, q18_26, q18_27, q18_28, q18_31, q18_32, q18_35, q18_38, q18_39, q18_40, q18_41, q18_42, q18_43, q18_46, q18_47, q18_50, q18_51, q18_52, q18_53, q18_56, q18_57, q18_58, q18_61, q18_62, q18_65, q18_66, q18_67, q18_68, q18_69, q18_72, q18_75, q18_76, q18_77, q18_78, q18_79, q18_80, q18_83, q18_86, q18_89, q18_90, q18_91, q18_94, q18_95, q18_96, q18_97, q18_98, q18_101, n10, n01, Bool.false_eq_true, ab_bs, ab_bn, ab_pr0, ab_pr1, nl_n, nl_i, nl_r, nl_j, nl_nl, rc_16, gf_16_0, gf_16_1, gf_16_2, gf_16_3, pt_16_3, gf_16_4, pt_16_4, gf_16_5, pt_16_5, qe_17_0, qe_17_1, qe_17_2, qe_17_3, qe_17_4, qe_17_5, qe_17_6, qe_17_7, qe_17, ln_20, al_20, si_20, ln_21, al_21, si_21, rc_30, gf_30_0, gf_30_1, gf_30_2, gf_30_3, pt_30_3, gf_30_4, pt_30_4, gf_30_5, pt_30_5, gf_30_6, pt_30_6, gf_30_7, pt_30_7, gf_30_8, pt_30_8, gf_30_9, pt_30_9_0, pt_30_9_1, gf_30_10, pt_30_10, gf_30_11, pt_30_11, gf_30_12, pt_30_12, gf_30_13, pt_30_13, h4, h1, if_false, qe_31 h3, rc_seat h3, nI_succ, nI_clamp h2, ib8 h3, if_true, sp_among _ _ _ h3, ht, i10, not_true, gf_seat h3 (show 1 < 8 by decide), gf_seat h3 (show 3 < 8 by decide), pt_seat h3 (show 1 < 8 by decide), pt_seat h3 (show 3 < 8 by decide), pt_seat h3 (show 6 < 8 by decide), up_sl (show 16 < 33 by decide), up_sl (show 20 < 33 by decide), up_sl (show 21 < 33 by decide), up_ss, hb, hc 20 _ (by decide), hc 21 _ (by decide), (show ¬ (3 = 1) by decide)]
      congr 1
      refine sw_step (fun c j hc => ?_) (fun j => ?_)
      · rw [up_sn hc, up_sn hc, up_sn hc]
      · simp only [up_ss, hb, puF, ht, if_true]
        by_cases e1 : j = 1
        · subst e1; simp
        · by_cases e2 : j = 3
          · subst e2; simp
          · simp [e1, e2]
    · rw [q18_2]
      simp only [q18_0, q18_1, q18_3, q18_4, q18_7, q18_10, q18_13, q18_14, q18_15, q18_18, q18_21, q18_22, q18_25, q18_26, q18_27, q18_28, q18_31, q18_32, q18_35, q18_38, q18_39, q18_40, q18_41, q18_42, q18_43, q18_46, q18_47, q18_50, q18_51, q18_52, q18_53, q18_56, q18_57, q18_58, q18_61, q18_62, q18_65, q18_66, q18_67, q18_68, q18_69, q18_72, q18_75, q18_76, q18_77, q18_78, q18_79, q18_80, q18_83, q18_86, q18_89, q18_90, q18_91, q18_94, q18_95, q18_96, q18_97, q18_98, q18_101, n10, n01, Bool.false_eq_true, ab_bs, ab_bn, ab_pr0, ab_pr1, nl_n, nl_i, nl_r, nl_j, nl_nl, rc_16, gf_16_0, gf_16_1, gf_16_2, gf_16_3, pt_16_3, gf_16_4, pt_16_4, gf_16_5, pt_16_5, qe_17_0, qe_17_1, qe_17_2, qe_17_3, qe_17_4, qe_17_5, qe_17_6, qe_17_7, qe_17, ln_20, al_20, si_20, ln_21, al_21, si_21, rc_30, gf_30_0, gf_30_1, gf_30_2, gf_30_3, pt_30_3, gf_30_4, pt_30_4, gf_30_5, pt_30_5, gf_30_6, pt_30_6, gf_30_7, pt_30_7, gf_30_8, pt_30_8, gf_30_9, pt_30_9_0, pt_30_9_1, gf_30_10, pt_30_10, gf_30_11, pt_30_11, gf_30_12, pt_30_12, gf_30_13, pt_30_13, h4, h1, if_false, nI_succ, if_true, sp_among _ _ _ h3, ht, i10, not_false_eq_true]
      congr 1
      refine sw_step (fun c j hc => rfl) (fun j => ?_)
      rw [hb]
      simp only [puF, ht, if_false]
      rfl
  · have h4 : sw n (puF got m M) M 16 3 = nI n := by rw [sw_c (by decide), hM]
    show ab_res scr 18 2 _ 2 _ [] = _
    rw [q18_2]
    simp only [q18_0, q18_1, q18_3, q18_4, q18_7, q18_10, q18_13, q18_14, q18_15, q18_18, q18_21, q18_22, q18_25, q18_26, q18_27, q18_28, q18_31, q18_32, q18_35, q18_38, q18_39, q18_40, q18_41, q18_42, q18_43, q18_46, q18_47, q18_50, q18_51, q18_52, q18_53, q18_56, q18_57, q18_58, q18_61, q18_62, q18_65, q18_66, q18_67, q18_68, q18_69, q18_72, q18_75, q18_76, q18_77, q18_78, q18_79, q18_80, q18_83, q18_86, q18_89, q18_90, q18_91, q18_94, q18_95, q18_96, q18_97, q18_98, q18_101, n10, n01, Bool.false_eq_true, ab_bs, ab_bn, ab_pr0, ab_pr1, nl_n, nl_i, nl_r, nl_j, nl_nl, rc_16, gf_16_0, gf_16_1, gf_16_2, gf_16_3, pt_16_3, gf_16_4, pt_16_4, gf_16_5, pt_16_5, rc_30, gf_30_0, gf_30_1, gf_30_2, gf_30_3, pt_30_3, gf_30_4, pt_30_4, gf_30_5, pt_30_5, gf_30_6, pt_30_6, gf_30_7, pt_30_7, gf_30_8, pt_30_8, gf_30_9, pt_30_9_0, pt_30_9_1, gf_30_10, pt_30_10, gf_30_11, pt_30_11, gf_30_12, pt_30_12, gf_30_13, pt_30_13, h4, nI_rfl, if_true, sw_c (show 30 < 33 by decide)]
    rfl
def poF (got : Int32) (M : ab_M) (p j : Nat) : Int32 := if tb got p = true then (if j = 2 then M (33 + p) 2 + M 20 p else M (33 + p) j) else M (33 + p) j
theorem sp_payOwn {scr : Option (List Int32)} (M : ab_M) (n : Nat) (hn : n ≤ 8) (hM : M 16 3 = nI n) (got : Int32) : ab_ms scr 19 [.ref 30, .int got] M = some (sw n (poF got M) M, none) := by
  rw [ms19]
  simp only [q19_0, q19_1, q19_3, q19_4, q19_7, q19_10, q19_13, q19_14, q19_15, q19_18, q19_21, q19_22, q19_25, q19_26, q19_27, q19_28, q19_31, q19_32, q19_35, q19_38, q19_39, q19_40, q19_41, q19_42, q19_43, q19_46, q19_49, q19_52, n10, n01, Bool.false_eq_true, ab_bs, ab_bn, ab_pr0, ab_pr1, nl_n, nl_i, nl_r, nl_j, nl_nl, rc_30, gf_30_0, gf_30_1, gf_30_2, gf_30_3, pt_30_3, gf_30_4, pt_30_4, gf_30_5, pt_30_5, gf_30_6, pt_30_6, gf_30_7, pt_30_7, gf_30_8, pt_30_8, gf_30_9, pt_30_9_0, pt_30_9_1, gf_30_10, pt_30_10, gf_30_11, pt_30_11, gf_30_12, pt_30_12, gf_30_13, pt_30_13]
  refine Eq.trans ?_ ((rn (fun k => ab_res scr 19 2 (sw k (poF got M) M) 2 [some (.ref 30), some (.int got), some (.int (nI k))] []) (n) (fun k hk => ?_)).trans ?_)
  · rw [sw_0]
    rfl
  · have h1 : ¬ nI n ≤ nI k := nI_ge hk (by omega)
    have h3 : k < 8 := by omega
    have h2 : k < 2 ^ 31 := by omega
    have h4 : sw k (poF got M) M 16 3 = nI n := by rw [sw_c (by decide), hM]
    have hb : ∀ j, sw k (poF got M) M (33 + k) j = M (33 + k) j := fun j => by rw [sw_k]
    have hc : ∀ c j, c < 33 → sw k (poF got M) M c j = M c j := fun c j h => by rw [sw_c h]
    by_cases ht : tb got k = true
    · rw [q19_2]
      simp only [q19_0, q19_1, q19_3, q19_4, q19_7, q19_10, q19_13, q19_14, q19_15, q19_18, q19_21, q19_22, q19_25, q19_26, q19_27, q19_28, q19_31, q19_32, q19_35, q19_38, q19_39, q19_40, q19_41, q19_42, q19_43, q19_46, q19_49, q19_52, n10, n01, Bool.false_eq_true, ab_bs, ab_bn, ab_pr0, ab_pr1, nl_n, nl_i, nl_r, nl_j, nl_nl, rc_16, gf_16_0, gf_16_1, gf_16_2, gf_16_3, pt_16_3, gf_16_4, pt_16_4, gf_16_5, pt_16_5, qe_17_0, qe_17_1, qe_17_2, qe_17_3, qe_17_4, qe_17_5, qe_17_6, qe_17_7, qe_17, ln_20, al_20, si_20, rc_30, gf_30_0, gf_30_1, gf_30_2, gf_30_3, pt_30_3, gf_30_4, pt_30_4, gf_30_5, pt_30_5, gf_30_6, pt_30_6, gf_30_7, pt_30_7, gf_30_8, pt_30_8, gf_30_9, pt_30_9_0, pt_30_9_1, gf_30_10, pt_30_10, gf_30_11, pt_30_11, gf_30_12, pt_30_12, gf_30_13, pt_30_13, h4, h1, if_false, qe_31 h3, rc_seat h3, nI_succ, nI_clamp h2, ib8 h3, if_true, sp_among _ _ _ h3, ht, i10, not_true, gf_seat h3 (show 2 < 8 by decide), pt_seat h3 (show 2 < 8 by decide), hb, hc 20 _ (by decide)]
      congr 1
      refine sw_step (fun c j hc => ?_) (fun j => ?_)
      · rw [up_sn hc]
      · simp only [up_ss, hb, poF, ht, if_true]
    · rw [q19_2]
      simp only [q19_0, q19_1, q19_3, q19_4, q19_7, q19_10, q19_13, q19_14, q19_15, q19_18, q19_21, q19_22, q19_25, q19_26, q19_27, q19_28, q19_31, q19_32, q19_35, q19_38, q19_39, q19_40, q19_41, q19_42, q19_43, q19_46, q19_49, q19_52, n10, n01, Bool.false_eq_true, ab_bs, ab_bn, ab_pr0, ab_pr1, nl_n, nl_i, nl_r, nl_j, nl_nl, rc_16, gf_16_0, gf_16_1, gf_16_2, gf_16_3, pt_16_3, gf_16_4, pt_16_4, gf_16_5, pt_16_5, qe_17_0, qe_17_1, qe_17_2, qe_17_3, qe_17_4, qe_17_5, qe_17_6, qe_17_7, qe_17, ln_20, al_20, si_20, rc_30, gf_30_0, gf_30_1, gf_30_2, gf_30_3, pt_30_3, gf_30_4, pt_30_4, gf_30_5, pt_30_5, gf_30_6, pt_30_6, gf_30_7, pt_30_7, gf_30_8, pt_30_8, gf_30_9, pt_30_9_0, pt_30_9_1, gf_30_10, pt_30_10, gf_30_11, pt_30_11, gf_30_12, pt_30_12, gf_30_13, pt_30_13, h4, h1, if_false, nI_succ, if_true, sp_among _ _ _ h3, ht, i10, not_false_eq_true]
      congr 1
      refine sw_step (fun c j hc => rfl) (fun j => ?_)
      rw [hb]
      simp only [poF, ht, if_false]
      rfl
  · have h4 : sw n (poF got M) M 16 3 = nI n := by rw [sw_c (by decide), hM]
    show ab_res scr 19 2 _ 2 _ [] = _
    rw [q19_2]
    simp only [q19_0, q19_1, q19_3, q19_4, q19_7, q19_10, q19_13, q19_14, q19_15, q19_18, q19_21, q19_22, q19_25, q19_26, q19_27, q19_28, q19_31, q19_32, q19_35, q19_38, q19_39, q19_40, q19_41, q19_42, q19_43, q19_46, q19_49, q19_52, n10, n01, Bool.false_eq_true, ab_bs, ab_bn, ab_pr0, ab_pr1, nl_n, nl_i, nl_r, nl_j, nl_nl, rc_16, gf_16_0, gf_16_1, gf_16_2, gf_16_3, pt_16_3, gf_16_4, pt_16_4, gf_16_5, pt_16_5, rc_30, gf_30_0, gf_30_1, gf_30_2, gf_30_3, pt_30_3, gf_30_4, pt_30_4, gf_30_5, pt_30_5, gf_30_6, pt_30_6, gf_30_7, pt_30_7, gf_30_8, pt_30_8, gf_30_9, pt_30_9_0, pt_30_9_1, gf_30_10, pt_30_10, gf_30_11, pt_30_11, gf_30_12, pt_30_12, gf_30_13, pt_30_13, h4, nI_rfl, if_true]
def pyC (b : Nat) (co : Int32) (M : ab_M) : ab_M := ab_up (ab_up (ab_up (ab_up M (33 + b) 2 (M (33 + b) 2 + co)) (33 + b) 4 (M (33 + b) 4 + 1)) (33 + b) 7 (M 30 11)) 30 10 (nI b)
theorem sp_pay {scr : Option (List Int32)} (M : ab_M) (b : Nat) (hb : b < 8) (co : Int32) : ab_ms scr 20 [.ref 30, .int (nI b), .int co] M = some (pyC b co M, none) := by
  rw [ms20]
  unfold pyC
  simp only [q20_0, q20_1, q20_4, q20_5, q20_6, q20_7, q20_10, q20_11, q20_12, q20_15, q20_16, q20_19, q20_20, q20_21, q20_22, q20_25, q20_26, q20_27, q20_30, q20_31, q20_34, q20_35, q20_36, q20_37, q20_40, q20_43, q20_44, q20_45, q20_48, n10, n01, Bool.false_eq_true, ab_bs, ab_bn, ab_pr0, ab_pr1, nl_n, nl_i, nl_r, nl_j, nl_nl, rc_30, gf_30_0, gf_30_1, gf_30_2, gf_30_3, pt_30_3, gf_30_4, pt_30_4, gf_30_5, pt_30_5, gf_30_6, pt_30_6, gf_30_7, pt_30_7, gf_30_8, pt_30_8, gf_30_9, pt_30_9_0, pt_30_9_1, gf_30_10, pt_30_10, gf_30_11, pt_30_11, gf_30_12, pt_30_12, gf_30_13, pt_30_13, qe_31 hb, gf_seat hb (show 2 < 8 by decide), gf_seat hb (show 4 < 8 by decide), pt_seat hb (show 2 < 8 by decide), pt_seat hb (show 4 < 8 by decide), pt_seat hb (show 7 < 8 by decide), up_ss, up_sl (show 30 < 33 by decide), (show ¬ (4 = 2) by decide), if_false]
/-! the buyer -/
def abC (n : Nat) (co : Int32) (M : ab_M) : Int32 := fo (fun p s => if M 30 9 = 0 then s else if co ≤ M 22 p - M (33 + p) 2 then s else s &&& (bt p ^^^ -1)) n (fo (fun p s => if M 24 p = 0 then s else s &&& (bt p ^^^ -1)) n (M 30 12))
def nfR (able a : Int32) : Int32 := fxo (fun _ => -4) (fun v => v) (fx (nof able a) 8 0 0)
def byV (n : Nat) (able : Int32) (M : ab_M) : Int32 :=
  if M 30 8 = 1 then fo (am (fun p => tb able p) (fun p q => decide (oX M p < oX M q))) n (-4)
  else if M 30 8 = 2 then (if able &&& M 30 13 = 0 then nfR able 0 else fo (am (fun p => tb (able &&& M 30 13) p) (fun p q => decide (M (33 + p) 5 < M (33 + q) 5))) n (-4))
  else if M 30 8 = 3 then nfR able (dr (M 30 7) - dr (M 30 7) / bn able * bn able)
  else if M 30 8 = 4 then fo (am (fun p => tb able p) (fun p q => decide (M (33 + p) 7 < M (33 + q) 7))) n (-4)
  else if M 30 8 = 5 then (if M 30 3 < M 16 5 ∧ tb able (M 27 (M 30 3).toNatClampNeg).toNatClampNeg = true then M 27 (M 30 3).toNatClampNeg else inR able (M 30 10).toNatClampNeg)
  else inR able (M 30 10).toNatClampNeg
def byM (M : ab_M) : ab_M := if M 30 8 = 3 then ab_up M 30 7 (sd (M 30 7)) else M
theorem abC_sc (n : Nat) (co : Int32) (M : ab_M) : abC n co M = fo (sc (fun _ => false) (fun p => !decide (M 30 9 = 0) && !decide (co ≤ M 22 p - M (33 + p) 2))) n (fo (sc (fun _ => false) (fun p => !decide (M 24 p = 0))) n (M 30 12)) := by
  have e1 : (fun p s => if M 24 p = 0 then s else s &&& (bt p ^^^ -1)) = sc (fun _ => false) (fun p => !decide (M 24 p = 0)) := by
    funext p s
    by_cases h : M 24 p = 0 <;> simp [sc, h]
  have e2 : (fun p s => if M 30 9 = 0 then s else if co ≤ M 22 p - M (33 + p) 2 then s else s &&& (bt p ^^^ -1)) = sc (fun _ => false) (fun p => !decide (M 30 9 = 0) && !decide (co ≤ M 22 p - M (33 + p) 2)) := by
    funext p s
    by_cases h : M 30 9 = 0 <;> by_cases h2 : co ≤ M 22 p - M (33 + p) 2 <;> simp [sc, h, h2]
  unfold abC
  rw [e1, e2]
theorem abC_mk {n : Nat} {co : Int32} {M : ab_M} (hn : n ≤ 8) (h : mk n (M 30 12)) : mk n (abC n co M) := by
  intro q h1 h2
  rw [abC_sc, sc_hi _ _ _ hn h2 h1, sc_hi _ _ _ hn h2 h1, h q h1 h2]
theorem abC_tb {n : Nat} {co : Int32} {M : ab_M} (hn : n ≤ 8) {q : Nat} (hq : q < n) : tb (abC n co M) q = (tb (M 30 12) q && decide (M 24 q = 0) && (decide (M 30 9 = 0) || decide (co ≤ M 22 q - M (33 + q) 2))) := by
  rw [abC_sc, sc_lo _ _ _ hn hq, sc_lo _ _ _ hn hq]
  by_cases h1 : M 24 q = 0 <;> by_cases h2 : M 30 9 = 0 <;> by_cases h3 : co ≤ M 22 q - M (33 + q) 2 <;> simp [h1, h2, h3]
theorem bn_ne : ∀ j, j < 256 → nI j ≠ 0 → bn (nI j) ≠ 0 := by decide +kernel
def bkV (t : Nat) (M : ab_M) : Prop := t ≤ 12 ∧ M 16 5 = nI t ∧ ∀ i, i < t → ∃ q, q < 8 ∧ M 27 i = nI q
theorem sp_buyer0 {scr : Option (List Int32)} (M : ab_M) (n : Nat) (hn : n ≤ 8) (hM : M 16 3 = nI n) (co : Int32) (h : abC n co M = 0) : ab_ms scr 22 [.ref 30, .int co] M = some (M, some (.int (-4))) := by
  unfold abC at h
  rw [ms22]
  simp only [q22_0, q22_1, q22_2, q22_5, q22_6, q22_7, q22_10, q22_12, q22_13, q22_14, q22_52, q22_53, q22_54, q22_57, q22_58, q22_59, q22_60, q22_63, q22_64, q22_65, q22_66, q22_69, q22_70, q22_71, q22_72, q22_75, q22_76, q22_77, q22_78, q22_81, q22_82, q22_83, q22_84, q22_87, q22_17, n10, n01, Bool.false_eq_true, ab_bs, ab_bn, ab_pr0, ab_pr1, nl_n, nl_i, nl_r, nl_j, nl_nl, rc_30, gf_30_0, gf_30_1, gf_30_2, gf_30_3, pt_30_3, gf_30_4, pt_30_4, gf_30_5, pt_30_5, gf_30_6, pt_30_6, gf_30_7, pt_30_7, gf_30_8, pt_30_8, gf_30_9, pt_30_9_0, pt_30_9_1, gf_30_10, pt_30_10, gf_30_11, pt_30_11, gf_30_12, pt_30_12, gf_30_13, pt_30_13, sp_whoCanPay M n hn hM, h, not_true, if_false]
theorem sp_buyer {scr : Option (List Int32)} (M : ab_M) (n t i b : Nat) (hn : n ≤ 8) (hM : M 16 3 = nI n) (co : Int32) (h : abC n co M ≠ 0) (hk : mk n (M 30 12)) (hb : b < 8) (hb2 : M 30 10 = nI b) (hi : i ≤ 40) (hi2 : M 30 3 = nI i) (ht : bkV t M) : ab_ms scr 22 [.ref 30, .int co] M = some (byM M, some (.int (byV n (abC n co M) M))) := by
  obtain ⟨j, hj, e⟩ := mk_nI hn (abC_mk (co := co) hn hk)
  obtain ⟨ht1, ht2, ht3⟩ := ht
  have h9 := sp_whoCanPay (scr := scr) M n hn hM co
  rw [show fo (fun p s => if M 30 9 = 0 then s else if co ≤ M 22 p - M (33 + p) 2 then s else s &&& (bt p ^^^ -1)) n (fo (fun p s => if M 24 p = 0 then s else s &&& (bt p ^^^ -1)) n (M 30 12)) = abC n co M from rfl] at h9
  rw [e] at h9 h ⊢
  have hbn := bn_ne j hj h
  have hcl : (nI i).toNatClampNeg = i := nI_clamp (by omega)
  have hclb : (nI b).toNatClampNeg = b := nI_clamp (by omega)
  have hT := sp_inTurn (scr := scr) M (nI j) b hb hb2
  rw [show fxo (fun _ => -4) (fun v => v) (fx (inT (nI j) b) 8 0 none) = inR (nI j) b from rfl] at hT
  rw [ms22]
  unfold byV byM
  simp only [hb2, hi2, hcl, hclb]
  by_cases e1 : M 30 8 = 1
  · simp only [q22_0, q22_1, q22_2, q22_5, q22_6, q22_7, q22_10, q22_12, q22_13, q22_14, q22_52, q22_53, q22_54, q22_57, q22_58, q22_59, q22_60, q22_63, q22_64, q22_65, q22_66, q22_69, q22_70, q22_71, q22_72, q22_75, q22_76, q22_77, q22_78, q22_81, q22_82, q22_83, q22_84, q22_87, q22_17, n10, n01, Bool.false_eq_true, ab_bs, ab_bn, ab_pr0, ab_pr1, nl_n, nl_i, nl_r, nl_j, nl_nl, rc_30, gf_30_0, gf_30_1, gf_30_2, gf_30_3, pt_30_3, gf_30_4, pt_30_4, gf_30_5, pt_30_5, gf_30_6, pt_30_6, gf_30_7, pt_30_7, gf_30_8, pt_30_8, gf_30_9, pt_30_9_0, pt_30_9_1, gf_30_10, pt_30_10, gf_30_11, pt_30_11, gf_30_12, pt_30_12, gf_30_13, pt_30_13, h9, h, not_false_eq_true, if_true, e1, (show ¬ (1 : Int32) = 3 by decide), if_false, sp_leastOut M n hn hM]
  · by_cases e2 : M 30 8 = 2
    · by_cases e9 : nI j &&& M 30 13 = 0
      · simp only [q22_0, q22_1, q22_2, q22_5, q22_6, q22_7, q22_10, q22_12, q22_13, q22_14, q22_52, q22_53, q22_54, q22_57, q22_58, q22_59, q22_60, q22_63, q22_64, q22_65, q22_66, q22_69, q22_70, q22_71, q22_72, q22_75, q22_76, q22_77, q22_78, q22_81, q22_82, q22_83, q22_84, q22_87, q22_17, n10, n01, Bool.false_eq_true, ab_bs, ab_bn, ab_pr0, ab_pr1, nl_n, nl_i, nl_r, nl_j, nl_nl, rc_30, gf_30_0, gf_30_1, gf_30_2, gf_30_3, pt_30_3, gf_30_4, pt_30_4, gf_30_5, pt_30_5, gf_30_6, pt_30_6, gf_30_7, pt_30_7, gf_30_8, pt_30_8, gf_30_9, pt_30_9_0, pt_30_9_1, gf_30_10, pt_30_10, gf_30_11, pt_30_11, gf_30_12, pt_30_12, gf_30_13, pt_30_13, h9, h, not_false_eq_true, if_true, e2, (show ¬ (2 : Int32) = 1 by decide), (show ¬ (2 : Int32) = 3 by decide), if_false, sp_emptyLongest0 M _ e9, e9]
        rfl
      · simp only [q22_0, q22_1, q22_2, q22_5, q22_6, q22_7, q22_10, q22_12, q22_13, q22_14, q22_52, q22_53, q22_54, q22_57, q22_58, q22_59, q22_60, q22_63, q22_64, q22_65, q22_66, q22_69, q22_70, q22_71, q22_72, q22_75, q22_76, q22_77, q22_78, q22_81, q22_82, q22_83, q22_84, q22_87, q22_17, n10, n01, Bool.false_eq_true, ab_bs, ab_bn, ab_pr0, ab_pr1, nl_n, nl_i, nl_r, nl_j, nl_nl, rc_30, gf_30_0, gf_30_1, gf_30_2, gf_30_3, pt_30_3, gf_30_4, pt_30_4, gf_30_5, pt_30_5, gf_30_6, pt_30_6, gf_30_7, pt_30_7, gf_30_8, pt_30_8, gf_30_9, pt_30_9_0, pt_30_9_1, gf_30_10, pt_30_10, gf_30_11, pt_30_11, gf_30_12, pt_30_12, gf_30_13, pt_30_13, h9, h, not_false_eq_true, if_true, e2, (show ¬ (2 : Int32) = 1 by decide), (show ¬ (2 : Int32) = 3 by decide), if_false, sp_emptyLongest M n hn hM _ e9, e9]
    · by_cases e3 : M 30 8 = 3
      · simp only [q22_0, q22_1, q22_2, q22_5, q22_6, q22_7, q22_10, q22_12, q22_13, q22_14, q22_52, q22_53, q22_54, q22_57, q22_58, q22_59, q22_60, q22_63, q22_64, q22_65, q22_66, q22_69, q22_70, q22_71, q22_72, q22_75, q22_76, q22_77, q22_78, q22_81, q22_82, q22_83, q22_84, q22_87, q22_17, n10, n01, Bool.false_eq_true, ab_bs, ab_bn, ab_pr0, ab_pr1, nl_n, nl_i, nl_r, nl_j, nl_nl, rc_30, gf_30_0, gf_30_1, gf_30_2, gf_30_3, pt_30_3, gf_30_4, pt_30_4, gf_30_5, pt_30_5, gf_30_6, pt_30_6, gf_30_7, pt_30_7, gf_30_8, pt_30_8, gf_30_9, pt_30_9_0, pt_30_9_1, gf_30_10, pt_30_10, gf_30_11, pt_30_11, gf_30_12, pt_30_12, gf_30_13, pt_30_13, h9, h, not_false_eq_true, if_true, e3, (show ¬ (3 : Int32) = 1 by decide), (show ¬ (3 : Int32) = 2 by decide), if_false, sp_drawn M j hj hbn]
        rfl
      · by_cases e4 : M 30 8 = 4
        · simp only [q22_0, q22_1, q22_2, q22_5, q22_6, q22_7, q22_10, q22_12, q22_13, q22_14, q22_52, q22_53, q22_54, q22_57, q22_58, q22_59, q22_60, q22_63, q22_64, q22_65, q22_66, q22_69, q22_70, q22_71, q22_72, q22_75, q22_76, q22_77, q22_78, q22_81, q22_82, q22_83, q22_84, q22_87, q22_17, n10, n01, Bool.false_eq_true, ab_bs, ab_bn, ab_pr0, ab_pr1, nl_n, nl_i, nl_r, nl_j, nl_nl, rc_30, gf_30_0, gf_30_1, gf_30_2, gf_30_3, pt_30_3, gf_30_4, pt_30_4, gf_30_5, pt_30_5, gf_30_6, pt_30_6, gf_30_7, pt_30_7, gf_30_8, pt_30_8, gf_30_9, pt_30_9_0, pt_30_9_1, gf_30_10, pt_30_10, gf_30_11, pt_30_11, gf_30_12, pt_30_12, gf_30_13, pt_30_13, h9, h, not_false_eq_true, if_true, e4, (show ¬ (4 : Int32) = 1 by decide), (show ¬ (4 : Int32) = 2 by decide), (show ¬ (4 : Int32) = 3 by decide), if_false, sp_longestAgo M n hn hM]
        · by_cases e5 : M 30 8 = 5
          · by_cases e6 : i < t
            · obtain ⟨q, hq, hq2⟩ := ht3 i e6
              have hcq : (nI q).toNatClampNeg = q := nI_clamp (by omega)
              have e7 : nI i < nI t := nI_lt e6 (by omega)
              have hs := sp_asTold (scr := scr) M (nI j) b i t q hb hb2 hi2 hi ht2 ht1 (fun _ => ⟨hq2, hq⟩)
              simp only [q22_0, q22_1, q22_2, q22_5, q22_6, q22_7, q22_10, q22_12, q22_13, q22_14, q22_52, q22_53, q22_54, q22_57, q22_58, q22_59, q22_60, q22_63, q22_64, q22_65, q22_66, q22_69, q22_70, q22_71, q22_72, q22_75, q22_76, q22_77, q22_78, q22_81, q22_82, q22_83, q22_84, q22_87, q22_17, n10, n01, Bool.false_eq_true, ab_bs, ab_bn, ab_pr0, ab_pr1, nl_n, nl_i, nl_r, nl_j, nl_nl, rc_30, gf_30_0, gf_30_1, gf_30_2, gf_30_3, pt_30_3, gf_30_4, pt_30_4, gf_30_5, pt_30_5, gf_30_6, pt_30_6, gf_30_7, pt_30_7, gf_30_8, pt_30_8, gf_30_9, pt_30_9_0, pt_30_9_1, gf_30_10, pt_30_10, gf_30_11, pt_30_11, gf_30_12, pt_30_12, gf_30_13, pt_30_13, h9, h, not_false_eq_true, if_true, e5, (show ¬ (5 : Int32) = 1 by decide), (show ¬ (5 : Int32) = 2 by decide), (show ¬ (5 : Int32) = 3 by decide), (show ¬ (5 : Int32) = 4 by decide), if_false, hs, hq2, hcq, ht2, e6, e7, true_and]
            · have e7 : ¬ nI i < nI t := nI_nlt (by omega) (by omega)
              have hs := sp_asTold (scr := scr) M (nI j) b i t 0 hb hb2 hi2 hi ht2 ht1 (fun h => absurd h e6)
              simp only [q22_0, q22_1, q22_2, q22_5, q22_6, q22_7, q22_10, q22_12, q22_13, q22_14, q22_52, q22_53, q22_54, q22_57, q22_58, q22_59, q22_60, q22_63, q22_64, q22_65, q22_66, q22_69, q22_70, q22_71, q22_72, q22_75, q22_76, q22_77, q22_78, q22_81, q22_82, q22_83, q22_84, q22_87, q22_17, n10, n01, Bool.false_eq_true, ab_bs, ab_bn, ab_pr0, ab_pr1, nl_n, nl_i, nl_r, nl_j, nl_nl, rc_30, gf_30_0, gf_30_1, gf_30_2, gf_30_3, pt_30_3, gf_30_4, pt_30_4, gf_30_5, pt_30_5, gf_30_6, pt_30_6, gf_30_7, pt_30_7, gf_30_8, pt_30_8, gf_30_9, pt_30_9_0, pt_30_9_1, gf_30_10, pt_30_10, gf_30_11, pt_30_11, gf_30_12, pt_30_12, gf_30_13, pt_30_13, h9, h, not_false_eq_true, if_true, e5, (show ¬ (5 : Int32) = 1 by decide), (show ¬ (5 : Int32) = 2 by decide), (show ¬ (5 : Int32) = 3 by decide), (show ¬ (5 : Int32) = 4 by decide), if_false, hs, ht2, e6, e7, false_and]
          · simp only [q22_0, q22_1, q22_2, q22_5, q22_6, q22_7, q22_10, q22_12, q22_13, q22_14, q22_52, q22_53, q22_54, q22_57, q22_58, q22_59, q22_60, q22_63, q22_64, q22_65, q22_66, q22_69, q22_70, q22_71, q22_72, q22_75, q22_76, q22_77, q22_78, q22_81, q22_82, q22_83, q22_84, q22_87, q22_17, n10, n01, Bool.false_eq_true, ab_bs, ab_bn, ab_pr0, ab_pr1, nl_n, nl_i, nl_r, nl_j, nl_nl, rc_30, gf_30_0, gf_30_1, gf_30_2, gf_30_3, pt_30_3, gf_30_4, pt_30_4, gf_30_5, pt_30_5, gf_30_6, pt_30_6, gf_30_7, pt_30_7, gf_30_8, pt_30_8, gf_30_9, pt_30_9_0, pt_30_9_1, gf_30_10, pt_30_10, gf_30_11, pt_30_11, gf_30_12, pt_30_12, gf_30_13, pt_30_13, h9, h, not_false_eq_true, if_true, e1, e2, e3, e4, e5, if_false, hT]
