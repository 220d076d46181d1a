/-! the EVENING of the class: what is only read -/
theorem i10 (c : Prop) [Decidable c] : ((if c then (1 : Int32) else 0) = 0) = (¬ c) := by
  by_cases h : c <;> simp [h]
theorem le_nlt (a b : Int32) : (a ≤ b) = ¬ (b < a) := propext Int32.not_lt.symm
theorem sp_among {scr : Option (List Int32)} (M : ab_M) (p : Nat) (w : Int32) (hp : p < 8) : ab_ms scr 112 [.int (nI p), .int w] M = some (M, some (.int (if tb w p = true then 1 else 0))) := by
  rw [ms112]
  simp only [q112_0, q112_1, q112_2, q112_3, q112_4, q112_5, q112_8, q112_9, q112_12, q112_13, n10, n01, Bool.false_eq_true, ab_bs, ab_bn, ab_pr0, ab_pr1, nl_n, nl_i, nl_r, nl_j, nl_nl, tb_sh w p hp, i10, ite_not, narrow_b0, narrow_b1]
  split <;> rfl
theorem narrow_bi (c : Prop) [Decidable c] : narrow .boolean (.int (if c then 1 else 0)) = .int (if c then 1 else 0) := by
  split
  · exact narrow_b1
  · exact narrow_b0
theorem sp_left {scr : Option (List Int32)} (M : ab_M) (p : Nat) (hp : p < 8) : ab_ms scr 31 [.ref 30, .int (nI p)] M = some (M, some (.int (M 22 p - M (33 + p) 2))) := by
  rw [ms31]
  simp only [q31_0, q31_1, q31_4, q31_7, q31_8, q31_9, q31_10, q31_11, q31_12, q31_15, q31_16, q31_17, q31_20, q31_21, n10, n01, Bool.false_eq_true, ab_bs, ab_bn, ab_pr0, ab_pr1, nl_n, nl_i, nl_r, nl_j, nl_nl, rc_30, gf_30_0, gf_30_1, gf_30_2, gf_30_3, pt_30_3, gf_30_4, pt_30_4, gf_30_5, pt_30_5, gf_30_6, pt_30_6, gf_30_7, pt_30_7, gf_30_8, pt_30_8, gf_30_9, pt_30_9_0, pt_30_9_1, gf_30_10, pt_30_10, gf_30_11, pt_30_11, gf_30_12, pt_30_12, gf_30_13, pt_30_13, rc_16, gf_16_0, gf_16_1, gf_16_2, gf_16_3, pt_16_3, gf_16_4, pt_16_4, gf_16_5, pt_16_5, ln_22, al_22, si_22, qe_17_4, nI_clamp (show p < 2 ^ 31 by omega), ib8 hp, if_true, qe_31 hp, gf_seat hp (show 2 < 8 by decide)]
theorem sp_out {scr : Option (List Int32)} (M : ab_M) (p : Nat) (hp : p < 8) : ab_ms scr 53 [.ref (33 + p)] M = some (M, some (.int (M (33 + p) 2 - M (33 + p) 1 + M (33 + p) 0))) := by
  rw [ms53]
  simp only [q53_0, q53_1, q53_4, q53_5, q53_8, q53_9, q53_10, q53_13, q53_14, n10, n01, Bool.false_eq_true, ab_bs, ab_bn, ab_pr0, ab_pr1, nl_n, nl_i, nl_r, nl_j, nl_nl, gf_seat hp (show 2 < 8 by decide), gf_seat hp (show 1 < 8 by decide), gf_seat hp (show 0 < 8 by decide)]
theorem sp_hasGlass {scr : Option (List Int32)} (M : ab_M) (p : Nat) (hp : p < 8) : ab_ms scr 10 [.ref 30, .int (nI p)] M = some (M, some (.int (if tb (M 30 12) p = true ∧ tb (M 30 13) p = false then 1 else 0))) := by
  rw [ms10]
  simp only [q10_0, q10_1, q10_2, q10_5, q10_6, q10_9, q10_10, q10_11, q10_12, q10_15, n10, n01, Bool.false_eq_true, ab_bs, ab_bn, ab_pr0, ab_pr1, nl_n, nl_i, nl_r, nl_j, nl_nl, rc_30, gf_30_0, gf_30_1, gf_30_2, gf_30_3, pt_30_3, gf_30_4, pt_30_4, gf_30_5, pt_30_5, gf_30_6, pt_30_6, gf_30_7, pt_30_7, gf_30_8, pt_30_8, gf_30_9, pt_30_9_0, pt_30_9_1, gf_30_10, pt_30_10, gf_30_11, pt_30_11, gf_30_12, pt_30_12, gf_30_13, pt_30_13, sp_among _ _ _ hp, narrow_bi, tb_and, tb_off _ p (show p < 32 by omega), Bool.and_eq_true, Bool.not_eq_true']
theorem sp_sumOfPrices {scr : Option (List Int32)} (M : ab_M) (n : Nat) (hn : n ≤ 8) (hM : M 16 3 = nI n) (who : Int32) : ab_ms scr 16 [.ref 30, .int who] M = some (M, some (.int (fo (fun p s => if tb who p = true then s + M 20 p else s) n (0)))) := by
  rw [ms16]
  simp only [q16_0, q16_1, q16_2, q16_3, q16_5, q16_6, q16_9, q16_12, q16_15, q16_16, q16_17, q16_20, q16_23, q16_24, q16_25, q16_28, q16_31, q16_32, q16_33, q16_34, q16_35, q16_36, q16_37, q16_40, q16_43, q16_44, n10, n01, Bool.false_eq_true, ab_bs, ab_bn, ab_pr0, ab_pr1, nl_n, nl_i, nl_r, nl_j, nl_nl, rc_16, gf_16_0, gf_16_1, gf_16_2, gf_16_3, pt_16_3, gf_16_4, pt_16_4, gf_16_5, pt_16_5, ln_20, al_20, si_20, rc_30, gf_30_0, gf_30_1, gf_30_2, gf_30_3, pt_30_3, gf_30_4, pt_30_4, gf_30_5, pt_30_5, gf_30_6, pt_30_6, gf_30_7, pt_30_7, gf_30_8, pt_30_8, gf_30_9, pt_30_9_0, pt_30_9_1, gf_30_10, pt_30_10, gf_30_11, pt_30_11, gf_30_12, pt_30_12, gf_30_13, pt_30_13, hM]
  refine Eq.trans ?_ ((fo_run (fun k s => ab_res scr 16 2 M 4 [some (.ref 30), some (.int who), some (.int s), some (.int (nI k))] []) (fun p s => if tb who p = true then s + M 20 p else s) (n) (0) (fun k hk => ?_)).trans ?_)
  · rfl
  · have h1 : ¬ nI n ≤ nI k := nI_ge hk (by omega)
    have h2 : k < 2 ^ 31 := by omega
    have h3 : k < 8 := by omega
    rw [q16_4]
    simp only [q16_0, q16_1, q16_2, q16_3, q16_5, q16_6, q16_9, q16_12, q16_15, q16_16, q16_17, q16_20, q16_23, q16_24, q16_25, q16_28, q16_31, q16_32, q16_33, q16_34, q16_35, q16_36, q16_37, q16_40, q16_43, q16_44, n10, n01, Bool.false_eq_true, ab_bs, ab_bn, ab_pr0, ab_pr1, nl_n, nl_i, nl_r, nl_j, nl_nl, rc_16, gf_16_0, gf_16_1, gf_16_2, gf_16_3, pt_16_3, gf_16_4, pt_16_4, gf_16_5, pt_16_5, ln_20, al_20, si_20, rc_30, gf_30_0, gf_30_1, gf_30_2, gf_30_3, pt_30_3, gf_30_4, pt_30_4, gf_30_5, pt_30_5, gf_30_6, pt_30_6, gf_30_7, pt_30_7, gf_30_8, pt_30_8, gf_30_9, pt_30_9_0, pt_30_9_1, gf_30_10, pt_30_10, gf_30_11, pt_30_11, gf_30_12, pt_30_12, gf_30_13, pt_30_13, hM, sp_among _ _ _ h3, qe_17_2, al_20, nI_clamp h2, ib8 h3, nI_succ, if_true, bt_eq, i10, ite_not, h1, if_false] <;> (repeat' split) <;> first | rfl | (simp_all; done)
  · show ab_res scr 16 2 M 4 _ [] = _
    rw [q16_4]
    simp only [q16_0, q16_1, q16_2, q16_3, q16_5, q16_6, q16_9, q16_12, q16_15, q16_16, q16_17, q16_20, q16_23, q16_24, q16_25, q16_28, q16_31, q16_32, q16_33, q16_34, q16_35, q16_36, q16_37, q16_40, q16_43, q16_44, n10, n01, Bool.false_eq_true, ab_bs, ab_bn, ab_pr0, ab_pr1, nl_n, nl_i, nl_r, nl_j, nl_nl, rc_16, gf_16_0, gf_16_1, gf_16_2, gf_16_3, pt_16_3, gf_16_4, pt_16_4, gf_16_5, pt_16_5, ln_20, al_20, si_20, rc_30, gf_30_0, gf_30_1, gf_30_2, gf_30_3, pt_30_3, gf_30_4, pt_30_4, gf_30_5, pt_30_5, gf_30_6, pt_30_6, gf_30_7, pt_30_7, gf_30_8, pt_30_8, gf_30_9, pt_30_9_0, pt_30_9_1, gf_30_10, pt_30_10, gf_30_11, pt_30_11, gf_30_12, pt_30_12, gf_30_13, pt_30_13, hM, nI_rfl, if_true]
theorem sp_whoCanPayOwn {scr : Option (List Int32)} (M : ab_M) (n : Nat) (hn : n ≤ 8) (hM : M 16 3 = nI n)  : ab_ms scr 15 [.ref 30] M = some (M, some (.int (fo (fun p s => if tb (M 30 13) p = true then (if M 22 p - M (33 + p) 2 < M 20 p then s else s ||| bt p) else s) n (0)))) := by
  rw [ms15]
  simp only [q15_0, q15_1, q15_2, q15_3, q15_5, q15_6, q15_9, q15_12, q15_15, q15_16, q15_17, q15_20, q15_23, q15_26, q15_27, q15_28, q15_31, q15_32, q15_35, q15_38, q15_39, q15_40, q15_41, q15_42, q15_45, q15_46, q15_47, q15_48, q15_49, q15_50, q15_51, q15_54, q15_57, q15_58, n10, n01, Bool.false_eq_true, ab_bs, ab_bn, ab_pr0, ab_pr1, nl_n, nl_i, nl_r, nl_j, nl_nl, rc_16, gf_16_0, gf_16_1, gf_16_2, gf_16_3, pt_16_3, gf_16_4, pt_16_4, gf_16_5, pt_16_5, ln_20, al_20, si_20, rc_30, gf_30_0, gf_30_1, gf_30_2, gf_30_3, pt_30_3, gf_30_4, pt_30_4, gf_30_5, pt_30_5, gf_30_6, pt_30_6, gf_30_7, pt_30_7, gf_30_8, pt_30_8, gf_30_9, pt_30_9_0, pt_30_9_1, gf_30_10, pt_30_10, gf_30_11, pt_30_11, gf_30_12, pt_30_12, gf_30_13, pt_30_13, hM]
  refine Eq.trans ?_ ((fo_run (fun k s => ab_res scr 15 2 M 4 [some (.ref 30), some (.int s), some (.int (nI k))] []) (fun p s => if tb (M 30 13) p = true then (if M 22 p - M (33 + p) 2 < M 20 p then s else s ||| bt p) else s) (n) (0) (fun k hk => ?_)).trans ?_)
  · rfl
  · have h1 : ¬ nI n ≤ nI k := nI_ge hk (by omega)
    have h2 : k < 2 ^ 31 := by omega
    have h3 : k < 8 := by omega
    rw [q15_4]
    simp only [q15_0, q15_1, q15_2, q15_3, q15_5, q15_6, q15_9, q15_12, q15_15, q15_16, q15_17, q15_20, q15_23, q15_26, q15_27, q15_28, q15_31, q15_32, q15_35, q15_38, q15_39, q15_40, q15_41, q15_42, q15_45, q15_46, q15_47, q15_48, q15_49, q15_50, q15_51, q15_54, q15_57, q15_58, n10, n01, Bool.false_eq_true, ab_bs, ab_bn, ab_pr0, ab_pr1, nl_n, nl_i, nl_r, nl_j, nl_nl, rc_16, gf_16_0, gf_16_1, gf_16_2, gf_16_3, pt_16_3, gf_16_4, pt_16_4, gf_16_5, pt_16_5, ln_20, al_20, si_20, rc_30, gf_30_0, gf_30_1, gf_30_2, gf_30_3, pt_30_3, gf_30_4, pt_30_4, gf_30_5, pt_30_5, gf_30_6, pt_30_6, gf_30_7, pt_30_7, gf_30_8, pt_30_8, gf_30_9, pt_30_9_0, pt_30_9_1, gf_30_10, pt_30_10, gf_30_11, pt_30_11, gf_30_12, pt_30_12, gf_30_13, pt_30_13, hM, sp_among _ _ _ h3, sp_left _ _ h3, qe_17_2, al_20, nI_clamp h2, ib8 h3, nI_succ, if_true, bt_eq, i10, ite_not, h1, if_false] <;> (repeat' split) <;> first | rfl | (simp_all; done)
  · show ab_res scr 15 2 M 4 _ [] = _
    rw [q15_4]
    simp only [q15_0, q15_1, q15_2, q15_3, q15_5, q15_6, q15_9, q15_12, q15_15, q15_16, q15_17, q15_20, q15_23, q15_26, q15_27, q15_28, q15_31, q15_32, q15_35, q15_38, q15_39, q15_40, q15_41, q15_42, q15_45, q15_46, q15_47, q15_48, q15_49, q15_50, q15_51, q15_54, q15_57, q15_58, n10, n01, Bool.false_eq_true, ab_bs, ab_bn, ab_pr0, ab_pr1, nl_n, nl_i, nl_r, nl_j, nl_nl, rc_16, gf_16_0, gf_16_1, gf_16_2, gf_16_3, pt_16_3, gf_16_4, pt_16_4, gf_16_5, pt_16_5, ln_20, al_20, si_20, rc_30, gf_30_0, gf_30_1, gf_30_2, gf_30_3, pt_30_3, gf_30_4, pt_30_4, gf_30_5, pt_30_5, gf_30_6, pt_30_6, gf_30_7, pt_30_7, gf_30_8, pt_30_8, gf_30_9, pt_30_9_0, pt_30_9_1, gf_30_10, pt_30_10, gf_30_11, pt_30_11, gf_30_12, pt_30_12, gf_30_13, pt_30_13, hM, nI_rfl, if_true]
theorem sp_whoCanPay {scr : Option (List Int32)} (M : ab_M) (n : Nat) (hn : n ≤ 8) (hM : M 16 3 = nI n) (costs : Int32) : ab_ms scr 23 [.ref 30, .int costs] M = some (M, some (.int (fo (fun p s => if M 30 9 = 0 then s else if costs ≤ M 22 p - M (33 + p) 2 then s else s &&& (bt p ^^^ -1)) n (fo (fun p s => if M 24 p = 0 then s else s &&& (bt p ^^^ -1)) n (M 30 12))))) := by
  rw [ms23]
  simp only [q23_0, q23_1, q23_4, q23_5, q23_8, q23_11, q23_12, q23_13, q23_15, q23_16, q23_19, q23_22, q23_25, q23_26, q23_29, q23_32, q23_33, q23_34, q23_37, q23_38, q23_41, q23_42, q23_43, q23_44, q23_45, q23_46, q23_47, q23_48, q23_49, q23_52, q23_55, q23_56, n10, n01, Bool.false_eq_true, ab_bs, ab_bn, ab_pr0, ab_pr1, nl_n, nl_i, nl_r, nl_j, nl_nl, rc_16, gf_16_0, gf_16_1, gf_16_2, gf_16_3, pt_16_3, gf_16_4, pt_16_4, gf_16_5, pt_16_5, rc_30, gf_30_0, gf_30_1, gf_30_2, gf_30_3, pt_30_3, gf_30_4, pt_30_4, gf_30_5, pt_30_5, gf_30_6, pt_30_6, gf_30_7, pt_30_7, gf_30_8, pt_30_8, gf_30_9, pt_30_9_0, pt_30_9_1, gf_30_10, pt_30_10, gf_30_11, pt_30_11, gf_30_12, pt_30_12, gf_30_13, pt_30_13, hM, sp_notPoor M _ n hn hM]
  refine Eq.trans ?_ ((fo_run (fun k s => ab_res scr 23 2 M 14 [some (.ref 30), some (.int costs), some (.int s), some (.int (nI k))] []) (fun p s => if M 30 9 = 0 then s else if costs ≤ M 22 p - M (33 + p) 2 then s else s &&& (bt p ^^^ -1)) (n) (fo (fun p s => if M 24 p = 0 then s else s &&& (bt p ^^^ -1)) n (M 30 12)) (fun k hk => ?_)).trans ?_)
  · rfl
  · have h1 : ¬ nI n ≤ nI k := nI_ge hk (by omega)
    have h2 : k < 2 ^ 31 := by omega
    have h3 : k < 8 := by omega
    rw [q23_14]
    simp only [q23_0, q23_1, q23_4, q23_5, q23_8, q23_11, q23_12, q23_13, q23_15, q23_16, q23_19, q23_22, q23_25, q23_26, q23_29, q23_32, q23_33, q23_34, q23_37, q23_38, q23_41, q23_42, q23_43, q23_44, q23_45, q23_46, q23_47, q23_48, q23_49, q23_52, q23_55, q23_56, n10, n01, Bool.false_eq_true, ab_bs, ab_bn, ab_pr0, ab_pr1, nl_n, nl_i, nl_r, nl_j, nl_nl, rc_16, gf_16_0, gf_16_1, gf_16_2, gf_16_3, pt_16_3, gf_16_4, pt_16_4, gf_16_5, pt_16_5, rc_30, gf_30_0, gf_30_1, gf_30_2, gf_30_3, pt_30_3, gf_30_4, pt_30_4, gf_30_5, pt_30_5, gf_30_6, pt_30_6, gf_30_7, pt_30_7, gf_30_8, pt_30_8, gf_30_9, pt_30_9_0, pt_30_9_1, gf_30_10, pt_30_10, gf_30_11, pt_30_11, gf_30_12, pt_30_12, gf_30_13, pt_30_13, hM, sp_left _ _ h3, nI_clamp h2, ib8 h3, nI_succ, if_true, bt_eq, i10, ite_not, h1, if_false] <;> (repeat' split) <;> first | rfl | (simp_all; done)
  · show ab_res scr 23 2 M 14 _ [] = _
    rw [q23_14]
    simp only [q23_0, q23_1, q23_4, q23_5, q23_8, q23_11, q23_12, q23_13, q23_15, q23_16, q23_19, q23_22, q23_25, q23_26, q23_29, q23_32, q23_33, q23_34, q23_37, q23_38, q23_41, q23_42, q23_43, q23_44, q23_45, q23_46, q23_47, q23_48, q23_49, q23_52, q23_55, q23_56, n10, n01, Bool.false_eq_true, ab_bs, ab_bn, ab_pr0, ab_pr1, nl_n, nl_i, nl_r, nl_j, nl_nl, rc_16, gf_16_0, gf_16_1, gf_16_2, gf_16_3, pt_16_3, gf_16_4, pt_16_4, gf_16_5, pt_16_5, rc_30, gf_30_0, gf_30_1, gf_30_2, gf_30_3, pt_30_3, gf_30_4, pt_30_4, gf_30_5, pt_30_5, gf_30_6, pt_30_6, gf_30_7, pt_30_7, gf_30_8, pt_30_8, gf_30_9, pt_30_9_0, pt_30_9_1, gf_30_10, pt_30_10, gf_30_11, pt_30_11, gf_30_12, pt_30_12, gf_30_13, pt_30_13, hM, nI_rfl, if_true]
/-- |x| as the machine has it; what a seat is out -/
def ia (x : Int32) : Int32 := if 0 ≤ x then x else 0 - x
theorem ia_eq (x : Int32) : (if 0 ≤ x then x else 0 - x) = ia x := rfl
theorem ia_eq2 (x : Int32) : (if x < 0 then 0 - x else x) = ia x := by
  unfold ia
  by_cases h : x < 0
  · rw [if_pos h, if_neg (Int32.not_le.mpr h)]
  · rw [if_neg h, if_pos (Int32.not_lt.mp h)]
def oX (M : ab_M) (p : Nat) : Int32 := M (33 + p) 2 - M (33 + p) 1 + M (33 + p) 0
theorem oX_eq (M : ab_M) (p : Nat) : M (33 + p) 2 - M (33 + p) 1 + M (33 + p) 0 = oX M p := rfl
theorem sp_greatestOut {scr : Option (List Int32)} (M : ab_M) (n : Nat) (hn : n ≤ 8) (hM : M 16 3 = nI n)  : ab_ms scr 21 [.ref 30] M = some (M, some (.int (fo (fun p s => if tb (M 30 12) p = true then (if s < ia (oX M p) then ia (oX M p) else s) else s) n (0)))) := by
  rw [ms21]
  simp only [q21_0, q21_1, q21_2, q21_3, q21_5, q21_6, q21_9, q21_12, q21_15, q21_16, q21_17, q21_20, q21_23, q21_26, q21_27, q21_28, q21_31, q21_32, q21_33, q21_36, q21_39, q21_42, q21_43, q21_46, q21_49, q21_50, n10, n01, Bool.false_eq_true, ab_bs, ab_bn, ab_pr0, ab_pr1, nl_n, nl_i, nl_r, nl_j, nl_nl, rc_16, gf_16_0, gf_16_1, gf_16_2, gf_16_3, pt_16_3, gf_16_4, pt_16_4, gf_16_5, pt_16_5, rc_30, gf_30_0, gf_30_1, gf_30_2, gf_30_3, pt_30_3, gf_30_4, pt_30_4, gf_30_5, pt_30_5, gf_30_6, pt_30_6, gf_30_7, pt_30_7, gf_30_8, pt_30_8, gf_30_9, pt_30_9_0, pt_30_9_1, gf_30_10, pt_30_10, gf_30_11, pt_30_11, gf_30_12, pt_30_12, gf_30_13, pt_30_13, hM]
  refine Eq.trans ?_ ((fo_run (fun k s => ab_res scr 21 2 M 4 [some (.ref 30), some (.int s), some (.int (nI k))] []) (fun p s => if tb (M 30 12) p = true then (if s < ia (oX M p) then ia (oX M p) else s) else s) (n) (0) (fun k hk => ?_)).trans ?_)
  · rfl
  · have h1 : ¬ nI n ≤ nI k := nI_ge hk (by omega)
    have h2 : k < 2 ^ 31 := by omega
    have h3 : k < 8 := by omega
    rw [q21_4]
    simp only [q21_0, q21_1, q21_2, q21_3, q21_5, q21_6, q21_9, q21_12, q21_15, q21_16, q21_17, q21_20, q21_23, q21_26, q21_27, q21_28, q21_31, q21_32, q21_33, q21_36, q21_39, q21_42, q21_43, q21_46, q21_49, q21_50, n10, n01, Bool.false_eq_true, ab_bs, ab_bn, ab_pr0, ab_pr1, nl_n, nl_i, nl_r, nl_j, nl_nl, rc_16, gf_16_0, gf_16_1, gf_16_2, gf_16_3, pt_16_3, gf_16_4, pt_16_4, gf_16_5, pt_16_5, rc_30, gf_30_0, gf_30_1, gf_30_2, gf_30_3, pt_30_3, gf_30_4, pt_30_4, gf_30_5, pt_30_5, gf_30_6, pt_30_6, gf_30_7, pt_30_7, gf_30_8, pt_30_8, gf_30_9, pt_30_9_0, pt_30_9_1, gf_30_10, pt_30_10, gf_30_11, pt_30_11, gf_30_12, pt_30_12, gf_30_13, pt_30_13, hM, sp_among _ _ _ h3, sp_out _ _ h3, qe_31 h3, rc_seat h3, ia_eq, oX_eq, nI_clamp h2, ib8 h3, nI_succ, if_true, bt_eq, i10, ite_not, h1, if_false] <;> (repeat' split) <;> first | rfl | (simp_all; done)
  · show ab_res scr 21 2 M 4 _ [] = _
    rw [q21_4]
    simp only [q21_0, q21_1, q21_2, q21_3, q21_5, q21_6, q21_9, q21_12, q21_15, q21_16, q21_17, q21_20, q21_23, q21_26, q21_27, q21_28, q21_31, q21_32, q21_33, q21_36, q21_39, q21_42, q21_43, q21_46, q21_49, q21_50, n10, n01, Bool.false_eq_true, ab_bs, ab_bn, ab_pr0, ab_pr1, nl_n, nl_i, nl_r, nl_j, nl_nl, rc_16, gf_16_0, gf_16_1, gf_16_2, gf_16_3, pt_16_3, gf_16_4, pt_16_4, gf_16_5, pt_16_5, rc_30, gf_30_0, gf_30_1, gf_30_2, gf_30_3, pt_30_3, gf_30_4, pt_30_4, gf_30_5, pt_30_5, gf_30_6, pt_30_6, gf_30_7, pt_30_7, gf_30_8, pt_30_8, gf_30_9, pt_30_9_0, pt_30_9_1, gf_30_10, pt_30_10, gf_30_11, pt_30_11, gf_30_12, pt_30_12, gf_30_13, pt_30_13, hM, nI_rfl, if_true]
/-- whose key is least: the first of them -/
def am (c : Nat → Bool) (lt : Nat → Nat → Bool) : Nat → Int32 → Int32 := fun p s => if c p = true then (if s = -4 then nI p else if lt p s.toNatClampNeg = true then nI p else s) else s
theorem am_inv (c : Nat → Bool) (lt : Nat → Nat → Bool) (n : Nat) : fo (am c lt) n (-4) = -4 ∨ ∃ j, j < n ∧ fo (am c lt) n (-4) = nI j ∧ c j = true := by
  refine fo_inv (P := fun k s => s = -4 ∨ ∃ j, j < k ∧ s = nI j ∧ c j = true) n (Or.inl rfl) (fun k b hk hb => ?_)
  unfold am
  by_cases h : c k = true
  · rw [if_pos h]
    by_cases h4 : b = -4
    · rw [if_pos h4]
      exact Or.inr ⟨k, by omega, rfl, h⟩
    · rw [if_neg h4]
      by_cases hl : lt k b.toNatClampNeg = true
      · rw [if_pos hl]
        exact Or.inr ⟨k, by omega, rfl, h⟩
      · rw [if_neg hl]
        rcases hb with hb | ⟨j, hj, hb⟩
        · exact absurd hb h4
        · exact Or.inr ⟨j, by omega, hb⟩
  · rw [if_neg h]
    rcases hb with hb | ⟨j, hj, hb⟩
    · exact Or.inl hb
    · exact Or.inr ⟨j, by omega, hb⟩
theorem nI_n4 {j : Nat} (h : j < 8) : (nI j = -4) = False := by
  have : ∀ j, j < 8 → nI j ≠ -4 := by decide
  exact eq_false (this j h)
theorem sp_leastOut {scr : Option (List Int32)} (M : ab_M) (n : Nat) (hn : n ≤ 8) (hM : M 16 3 = nI n) (able : Int32) : ab_ms scr 25 [.ref 30, .int able] M = some (M, some (.int (fo (am (fun p => tb able p) (fun p q => decide (oX M p < oX M q))) n (-4)))) := by
  rw [ms25]
  simp only [q25_0, q25_2, q25_3, q25_4, q25_6, q25_7, q25_10, q25_13, q25_16, q25_17, q25_18, q25_21, q25_24, q25_25, q25_27, q25_30, q25_31, q25_34, q25_35, q25_36, q25_39, q25_40, q25_43, q25_44, q25_45, q25_48, q25_51, q25_52, q25_53, q25_56, q25_59, q25_60, n10, n01, Bool.false_eq_true, ab_bs, ab_bn, ab_pr0, ab_pr1, nl_n, nl_i, nl_r, nl_j, nl_nl, rc_16, gf_16_0, gf_16_1, gf_16_2, gf_16_3, pt_16_3, gf_16_4, pt_16_4, gf_16_5, pt_16_5, rc_30, gf_30_0, gf_30_1, gf_30_2, gf_30_3, pt_30_3, gf_30_4, pt_30_4, gf_30_5, pt_30_5, gf_30_6, pt_30_6, gf_30_7, pt_30_7, gf_30_8, pt_30_8, gf_30_9, pt_30_9_0, pt_30_9_1, gf_30_10, pt_30_10, gf_30_11, pt_30_11, gf_30_12, pt_30_12, gf_30_13, pt_30_13, hM]
  refine Eq.trans ?_ ((fo_run (fun k s => ab_res scr 25 2 M 5 [some (.ref 30), some (.int able), some (.int s), some (.int (nI k))] []) (am (fun p => tb able p) (fun p q => decide (oX M p < oX M q))) (n) (-4) (fun k hk => ?_)).trans ?_)
  · rfl
  · have h1 : ¬ nI n ≤ nI k := nI_ge hk (by omega)
    have h2 : k < 2 ^ 31 := by omega
    have h3 : k < 8 := by omega
    have h1b : nI k < nI n := nI_lt hk (by omega)
    rcases am_inv (fun p => tb able p) (fun p q => decide (oX M p < oX M q)) k with e | ⟨j, hj, e, -⟩
    · rw [e, q25_5]
      simp only [q25_0, q25_2, q25_3, q25_4, q25_6, q25_7, q25_10, q25_13, q25_16, q25_17, q25_18, q25_21, q25_24, q25_25, q25_27, q25_30, q25_31, q25_34, q25_35, q25_36, q25_39, q25_40, q25_43, q25_44, q25_45, q25_48, q25_51, q25_52, q25_53, q25_56, q25_59, q25_60, n10, n01, Bool.false_eq_true, ab_bs, ab_bn, ab_pr0, ab_pr1, nl_n, nl_i, nl_r, nl_j, nl_nl, rc_16, gf_16_0, gf_16_1, gf_16_2, gf_16_3, pt_16_3, gf_16_4, pt_16_4, gf_16_5, pt_16_5, rc_30, gf_30_0, gf_30_1, gf_30_2, gf_30_3, pt_30_3, gf_30_4, pt_30_4, gf_30_5, pt_30_5, gf_30_6, pt_30_6, gf_30_7, pt_30_7, gf_30_8, pt_30_8, gf_30_9, pt_30_9_0, pt_30_9_1, gf_30_10, pt_30_10, gf_30_11, pt_30_11, gf_30_12, pt_30_12, gf_30_13, pt_30_13, hM, nI_clamp h2, ib8 h3, nI_succ, if_true, bt_eq, i10, ite_not, am, decide_eq_true_eq, h1, h1b, if_false, le_nlt, not_true, not_false_eq_true, sp_among _ _ _ h3, sp_out _ _ h3, qe_31 h3, rc_seat h3, oX_eq] <;> (repeat' split) <;> first | rfl | (simp_all; done)
    · have h9 : j < 8 := by omega
      rw [e, q25_5]
      simp only [q25_0, q25_2, q25_3, q25_4, q25_6, q25_7, q25_10, q25_13, q25_16, q25_17, q25_18, q25_21, q25_24, q25_25, q25_27, q25_30, q25_31, q25_34, q25_35, q25_36, q25_39, q25_40, q25_43, q25_44, q25_45, q25_48, q25_51, q25_52, q25_53, q25_56, q25_59, q25_60, n10, n01, Bool.false_eq_true, ab_bs, ab_bn, ab_pr0, ab_pr1, nl_n, nl_i, nl_r, nl_j, nl_nl, rc_16, gf_16_0, gf_16_1, gf_16_2, gf_16_3, pt_16_3, gf_16_4, pt_16_4, gf_16_5, pt_16_5, rc_30, gf_30_0, gf_30_1, gf_30_2, gf_30_3, pt_30_3, gf_30_4, pt_30_4, gf_30_5, pt_30_5, gf_30_6, pt_30_6, gf_30_7, pt_30_7, gf_30_8, pt_30_8, gf_30_9, pt_30_9_0, pt_30_9_1, gf_30_10, pt_30_10, gf_30_11, pt_30_11, gf_30_12, pt_30_12, gf_30_13, pt_30_13, hM, nI_clamp h2, ib8 h3, nI_succ, if_true, bt_eq, i10, ite_not, am, decide_eq_true_eq, h1, h1b, if_false, le_nlt, not_true, not_false_eq_true, nI_n4 h9, nI_clamp (show j < 2 ^ 31 by omega), sp_among _ _ _ h3, sp_out _ _ h3, qe_31 h3, rc_seat h3, oX_eq, sp_among _ _ _ h9, sp_out _ _ h9, qe_31 h9, rc_seat h9, oX_eq] <;> (repeat' split) <;> first | rfl | (simp_all; done)
  · show ab_res scr 25 2 M 5 _ [] = _
    rw [q25_5]
    simp only [q25_0, q25_2, q25_3, q25_4, q25_6, q25_7, q25_10, q25_13, q25_16, q25_17, q25_18, q25_21, q25_24, q25_25, q25_27, q25_30, q25_31, q25_34, q25_35, q25_36, q25_39, q25_40, q25_43, q25_44, q25_45, q25_48, q25_51, q25_52, q25_53, q25_56, q25_59, q25_60, n10, n01, Bool.false_eq_true, ab_bs, ab_bn, ab_pr0, ab_pr1, nl_n, nl_i, nl_r, nl_j, nl_nl, rc_16, gf_16_0, gf_16_1, gf_16_2, gf_16_3, pt_16_3, gf_16_4, pt_16_4, gf_16_5, pt_16_5, rc_30, gf_30_0, gf_30_1, gf_30_2, gf_30_3, pt_30_3, gf_30_4, pt_30_4, gf_30_5, pt_30_5, gf_30_6, pt_30_6, gf_30_7, pt_30_7, gf_30_8, pt_30_8, gf_30_9, pt_30_9_0, pt_30_9_1, gf_30_10, pt_30_10, gf_30_11, pt_30_11, gf_30_12, pt_30_12, gf_30_13, pt_30_13, hM, nI_rfl, if_true]
theorem sp_longestAgo {scr : Option (List Int32)} (M : ab_M) (n : Nat) (hn : n ≤ 8) (hM : M 16 3 = nI n) (able : Int32) : ab_ms scr 29 [.ref 30, .int able] M = some (M, some (.int (fo (am (fun p => tb able p) (fun p q => decide (M (33 + p) 7 < M (33 + q) 7))) n (-4)))) := by
  rw [ms29]
  simp only [q29_0, q29_2, q29_3, q29_4, q29_6, q29_7, q29_10, q29_13, q29_16, q29_17, q29_18, q29_21, q29_24, q29_25, q29_27, q29_30, q29_31, q29_34, q29_35, q29_36, q29_39, q29_40, q29_43, q29_44, q29_45, q29_48, q29_51, q29_52, q29_53, q29_56, q29_59, q29_60, n10, n01, Bool.false_eq_true, ab_bs, ab_bn, ab_pr0, ab_pr1, nl_n, nl_i, nl_r, nl_j, nl_nl, rc_16, gf_16_0, gf_16_1, gf_16_2, gf_16_3, pt_16_3, gf_16_4, pt_16_4, gf_16_5, pt_16_5, rc_30, gf_30_0, gf_30_1, gf_30_2, gf_30_3, pt_30_3, gf_30_4, pt_30_4, gf_30_5, pt_30_5, gf_30_6, pt_30_6, gf_30_7, pt_30_7, gf_30_8, pt_30_8, gf_30_9, pt_30_9_0, pt_30_9_1, gf_30_10, pt_30_10, gf_30_11, pt_30_11, gf_30_12, pt_30_12, gf_30_13, pt_30_13, hM]
  refine Eq.trans ?_ ((fo_run (fun k s => ab_res scr 29 2 M 5 [some (.ref 30), some (.int able), some (.int s), some (.int (nI k))] []) (am (fun p => tb able p) (fun p q => decide (M (33 + p) 7 < M (33 + q) 7))) (n) (-4) (fun k hk => ?_)).trans ?_)
  · rfl
  · have h1 : ¬ nI n ≤ nI k := nI_ge hk (by omega)
    have h2 : k < 2 ^ 31 := by omega
    have h3 : k < 8 := by omega
    have h1b : nI k < nI n := nI_lt hk (by omega)
    rcases am_inv (fun p => tb able p) (fun p q => decide (M (33 + p) 7 < M (33 + q) 7)) k with e | ⟨j, hj, e, -⟩
    · rw [e, q29_5]
      simp only [q29_0, q29_2, q29_3, q29_4, q29_6, q29_7, q29_10, q29_13, q29_16, q29_17, q29_18, q29_21, q29_24, q29_25, q29_27, q29_30, q29_31, q29_34, q29_35, q29_36, q29_39, q29_40, q29_43, q29_44, q29_45, q29_48, q29_51, q29_52, q29_53, q29_56, q29_59, q29_60, n10, n01, Bool.false_eq_true, ab_bs, ab_bn, ab_pr0, ab_pr1, nl_n, nl_i, nl_r, nl_j, nl_nl, rc_16, gf_16_0, gf_16_1, gf_16_2, gf_16_3, pt_16_3, gf_16_4, pt_16_4, gf_16_5, pt_16_5, rc_30, gf_30_0, gf_30_1, gf_30_2, gf_30_3, pt_30_3, gf_30_4, pt_30_4, gf_30_5, pt_30_5, gf_30_6, pt_30_6, gf_30_7, pt_30_7, gf_30_8, pt_30_8, gf_30_9, pt_30_9_0, pt_30_9_1, gf_30_10, pt_30_10, gf_30_11, pt_30_11, gf_30_12, pt_30_12, gf_30_13, pt_30_13, hM, nI_clamp h2, ib8 h3, nI_succ, if_true, bt_eq, i10, ite_not, am, decide_eq_true_eq, h1, h1b, if_false, le_nlt, not_true, not_false_eq_true, sp_among _ _ _ h3, qe_31 h3, gf_seat h3 (show 7 < 8 by decide)] <;> (repeat' split) <;> first | rfl | (simp_all; done)
    · have h9 : j < 8 := by omega
      rw [e, q29_5]
      simp only [q29_0, q29_2, q29_3, q29_4, q29_6, q29_7, q29_10, q29_13, q29_16, q29_17, q29_18, q29_21, q29_24, q29_25, q29_27, q29_30, q29_31, q29_34, q29_35, q29_36, q29_39, q29_40, q29_43, q29_44, q29_45, q29_48, q29_51, q29_52, q29_53, q29_56, q29_59, q29_60, n10, n01, Bool.false_eq_true, ab_bs, ab_bn, ab_pr0, ab_pr1, nl_n, nl_i, nl_r, nl_j, nl_nl, rc_16, gf_16_0, gf_16_1, gf_16_2, gf_16_3, pt_16_3, gf_16_4, pt_16_4, gf_16_5, pt_16_5, rc_30, gf_30_0, gf_30_1, gf_30_2, gf_30_3, pt_30_3, gf_30_4, pt_30_4, gf_30_5, pt_30_5, gf_30_6, pt_30_6, gf_30_7, pt_30_7, gf_30_8, pt_30_8, gf_30_9, pt_30_9_0, pt_30_9_1, gf_30_10, pt_30_10, gf_30_11, pt_30_11, gf_30_12, pt_30_12, gf_30_13, pt_30_13, hM, nI_clamp h2, ib8 h3, nI_succ, if_true, bt_eq, i10, ite_not, am, decide_eq_true_eq, h1, h1b, if_false, le_nlt, not_true, not_false_eq_true, nI_n4 h9, nI_clamp (show j < 2 ^ 31 by omega), sp_among _ _ _ h3, qe_31 h3, gf_seat h3 (show 7 < 8 by decide), sp_among _ _ _ h9, qe_31 h9, gf_seat h9 (show 7 < 8 by decide)] <;> (repeat' split) <;> first | rfl | (simp_all; done)
  · show ab_res scr 29 2 M 5 _ [] = _
    rw [q29_5]
    simp only [q29_0, q29_2, q29_3, q29_4, q29_6, q29_7, q29_10, q29_13, q29_16, q29_17, q29_18, q29_21, q29_24, q29_25, q29_27, q29_30, q29_31, q29_34, q29_35, q29_36, q29_39, q29_40, q29_43, q29_44, q29_45, q29_48, q29_51, q29_52, q29_53, q29_56, q29_59, q29_60, n10, n01, Bool.false_eq_true, ab_bs, ab_bn, ab_pr0, ab_pr1, nl_n, nl_i, nl_r, nl_j, nl_nl, rc_16, gf_16_0, gf_16_1, gf_16_2, gf_16_3, pt_16_3, gf_16_4, pt_16_4, gf_16_5, pt_16_5, rc_30, gf_30_0, gf_30_1, gf_30_2, gf_30_3, pt_30_3, gf_30_4, pt_30_4, gf_30_5, pt_30_5, gf_30_6, pt_30_6, gf_30_7, pt_30_7, gf_30_8, pt_30_8, gf_30_9, pt_30_9_0, pt_30_9_1, gf_30_10, pt_30_10, gf_30_11, pt_30_11, gf_30_12, pt_30_12, gf_30_13, pt_30_13, hM, nI_rfl, if_true]
theorem sp_whoIsWorst {scr : Option (List Int32)} (M : ab_M) (n : Nat) (hn : n ≤ 8) (hM : M 16 3 = nI n)  : ab_ms scr 33 [.ref 30] M = some (M, some (.int (fo (am (fun p => true) (fun p q => decide (ia (oX M q) < ia (oX M p)))) n (-4)))) := by
  rw [ms33]
  simp only [q33_0, q33_2, q33_3, q33_4, q33_6, q33_7, q33_10, q33_13, q33_16, q33_17, q33_19, q33_22, q33_23, q33_26, q33_27, q33_28, q33_31, q33_34, q33_35, q33_38, q33_39, q33_40, q33_43, q33_46, q33_49, q33_50, q33_51, q33_54, q33_57, q33_58, n10, n01, Bool.false_eq_true, ab_bs, ab_bn, ab_pr0, ab_pr1, nl_n, nl_i, nl_r, nl_j, nl_nl, rc_16, gf_16_0, gf_16_1, gf_16_2, gf_16_3, pt_16_3, gf_16_4, pt_16_4, gf_16_5, pt_16_5, rc_30, gf_30_0, gf_30_1, gf_30_2, gf_30_3, pt_30_3, gf_30_4, pt_30_4, gf_30_5, pt_30_5, gf_30_6, pt_30_6, gf_30_7, pt_30_7, gf_30_8, pt_30_8, gf_30_9, pt_30_9_0, pt_30_9_1, gf_30_10, pt_30_10, gf_30_11, pt_30_11, gf_30_12, pt_30_12, gf_30_13, pt_30_13, hM]
  refine Eq.trans ?_ ((fo_run (fun k s => ab_res scr 33 2 M 5 [some (.ref 30), some (.int s), some (.int (nI k))] []) (am (fun p => true) (fun p q => decide (ia (oX M q) < ia (oX M p)))) (n) (-4) (fun k hk => ?_)).trans ?_)
  · rfl
  · have h1 : ¬ nI n ≤ nI k := nI_ge hk (by omega)
    have h2 : k < 2 ^ 31 := by omega
    have h3 : k < 8 := by omega
    have h1b : nI k < nI n := nI_lt hk (by omega)
    rcases am_inv (fun p => true) (fun p q => decide (ia (oX M q) < ia (oX M p))) k with e | ⟨j, hj, e, -⟩
    · rw [e, q33_5]
      simp only [q33_0, q33_2, q33_3, q33_4, q33_6, q33_7, q33_10, q33_13, q33_16, q33_17, q33_19, q33_22, q33_23, q33_26, q33_27, q33_28, q33_31, q33_34, q33_35, q33_38, q33_39, q33_40, q33_43, q33_46, q33_49, q33_50, q33_51, q33_54, q33_57, q33_58, n10, n01, Bool.false_eq_true, ab_bs, ab_bn, ab_pr0, ab_pr1, nl_n, nl_i, nl_r, nl_j, nl_nl, rc_16, gf_16_0, gf_16_1, gf_16_2, gf_16_3, pt_16_3, gf_16_4, pt_16_4, gf_16_5, pt_16_5, rc_30, gf_30_0, gf_30_1, gf_30_2, gf_30_3, pt_30_3, gf_30_4, pt_30_4, gf_30_5, pt_30_5, gf_30_6, pt_30_6, gf_30_7, pt_30_7, gf_30_8, pt_30_8, gf_30_9, pt_30_9_0, pt_30_9_1, gf_30_10, pt_30_10, gf_30_11, pt_30_11, gf_30_12, pt_30_12, gf_30_13, pt_30_13, hM, nI_clamp h2, ib8 h3, nI_succ, if_true, bt_eq, i10, ite_not, am, decide_eq_true_eq, h1, h1b, if_false, le_nlt, not_true, not_false_eq_true, sp_out _ _ h3, qe_31 h3, rc_seat h3, oX_eq, ia_eq2] <;> (repeat' split) <;> first | rfl | (simp_all; done)
    · have h9 : j < 8 := by omega
      rw [e, q33_5]
      simp only [q33_0, q33_2, q33_3, q33_4, q33_6, q33_7, q33_10, q33_13, q33_16, q33_17, q33_19, q33_22, q33_23, q33_26, q33_27, q33_28, q33_31, q33_34, q33_35, q33_38, q33_39, q33_40, q33_43, q33_46, q33_49, q33_50, q33_51, q33_54, q33_57, q33_58, n10, n01, Bool.false_eq_true, ab_bs, ab_bn, ab_pr0, ab_pr1, nl_n, nl_i, nl_r, nl_j, nl_nl, rc_16, gf_16_0, gf_16_1, gf_16_2, gf_16_3, pt_16_3, gf_16_4, pt_16_4, gf_16_5, pt_16_5, rc_30, gf_30_0, gf_30_1, gf_30_2, gf_30_3, pt_30_3, gf_30_4, pt_30_4, gf_30_5, pt_30_5, gf_30_6, pt_30_6, gf_30_7, pt_30_7, gf_30_8, pt_30_8, gf_30_9, pt_30_9_0, pt_30_9_1, gf_30_10, pt_30_10, gf_30_11, pt_30_11, gf_30_12, pt_30_12, gf_30_13, pt_30_13, hM, nI_clamp h2, ib8 h3, nI_succ, if_true, bt_eq, i10, ite_not, am, decide_eq_true_eq, h1, h1b, if_false, le_nlt, not_true, not_false_eq_true, nI_n4 h9, nI_clamp (show j < 2 ^ 31 by omega), sp_out _ _ h3, qe_31 h3, rc_seat h3, oX_eq, ia_eq2, sp_out _ _ h9, qe_31 h9, rc_seat h9, oX_eq, ia_eq2] <;> (repeat' split) <;> first | rfl | (simp_all; done)
  · show ab_res scr 33 2 M 5 _ [] = _
    rw [q33_5]
    simp only [q33_0, q33_2, q33_3, q33_4, q33_6, q33_7, q33_10, q33_13, q33_16, q33_17, q33_19, q33_22, q33_23, q33_26, q33_27, q33_28, q33_31, q33_34, q33_35, q33_38, q33_39, q33_40, q33_43, q33_46, q33_49, q33_50, q33_51, q33_54, q33_57, q33_58, n10, n01, Bool.false_eq_true, ab_bs, ab_bn, ab_pr0, ab_pr1, nl_n, nl_i, nl_r, nl_j, nl_nl, rc_16, gf_16_0, gf_16_1, gf_16_2, gf_16_3, pt_16_3, gf_16_4, pt_16_4, gf_16_5, pt_16_5, rc_30, gf_30_0, gf_30_1, gf_30_2, gf_30_3, pt_30_3, gf_30_4, pt_30_4, gf_30_5, pt_30_5, gf_30_6, pt_30_6, gf_30_7, pt_30_7, gf_30_8, pt_30_8, gf_30_9, pt_30_9_0, pt_30_9_1, gf_30_10, pt_30_10, gf_30_11, pt_30_11, gf_30_12, pt_30_12, gf_30_13, pt_30_13, hM, nI_rfl, if_true]
