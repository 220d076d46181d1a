/-! the buyer -/
/-- how many bits -/
def bn (w : Int32) : Int32 := fo (fun p s => if tb w p = true then s + 1 else s) 8 0
theorem sp_bits {scr : Option (List Int32)} (M : ab_M) (j : Nat) (hj : j < 256) : ab_ms scr 196 [.int (nI j)] M = some (M, some (.int (bn (nI j)))) := by
  rw [ms196]
  simp only [q196_0, q196_1, q196_2, q196_3, q196_4, q196_7, q196_8, q196_9, q196_10, q196_11, q196_14, q196_15, q196_16, q196_17, q196_18, q196_21, q196_22, q196_23, q196_24, q196_25, q196_26, q196_27, q196_28, q196_29, q196_32, q196_33, q196_34, q196_35, q196_36, q196_38, q196_39, q196_40, q196_41, q196_42, q196_43, q196_45, q196_46, q196_47, q196_48, q196_49, q196_51, q196_52, n10, n01, Bool.false_eq_true, ab_bs, ab_bn, ab_pr0, ab_pr1, nl_n, nl_i, nl_r, nl_j, nl_nl]
  refine congrArg (fun x => some (M, some (Value.int x))) ?_
  revert j
  decide +kernel
/-- what inTurn answers -/
def inR (able : Int32) (b : Nat) : Int32 := fxo (fun _ => -4) (fun v => v) (fx (inT able b) 8 0 none)
theorem sp_asTold {scr : Option (List Int32)} (M : ab_M) (able : Int32) (b i t q : Nat) (hb : b < 8) (hM : M 30 10 = nI b) (hi : M 30 3 = nI i) (hi2 : i ≤ 40) (ht : M 16 5 = nI t) (ht2 : t ≤ 12) (hq : i < t → M 27 i = nI q ∧ q < 8) : ab_ms scr 30 [.ref 30, .int able] M = some (M, some (.int (if i < t ∧ tb able q = true then nI q else inR able b))) := by
  rw [ms30]
  by_cases h : i < t
  · obtain ⟨h1, h2⟩ := hq h
    have h3 : ¬ nI t ≤ nI i := nI_ge h (by omega)
    simp only [q30_0, q30_1, q30_4, q30_5, q30_8, q30_11, q30_14, q30_15, q30_18, q30_21, q30_22, q30_25, q30_26, q30_27, q30_28, q30_29, q30_32, q30_35, q30_36, q30_37, q30_38, q30_39, q30_42, n10, n01, Bool.false_eq_true, ab_bs, ab_bn, ab_pr0, ab_pr1, nl_n, nl_i, nl_r, nl_j, nl_nl, rc_16, gf_16_0, gf_16_1, gf_16_2, gf_16_3, pt_16_3, gf_16_4, pt_16_4, gf_16_5, pt_16_5, ln_27, al_27, si_27, rc_30, gf_30_0, gf_30_1, gf_30_2, gf_30_3, pt_30_3, gf_30_4, pt_30_4, gf_30_5, pt_30_5, gf_30_6, pt_30_6, gf_30_7, pt_30_7, gf_30_8, pt_30_8, gf_30_9, pt_30_9_0, pt_30_9_1, gf_30_10, pt_30_10, gf_30_11, pt_30_11, gf_30_12, pt_30_12, gf_30_13, pt_30_13, hi, ht, h3, if_false, nI_clamp (show i < 2 ^ 31 by omega), ib12 (show i < 12 by omega), if_true, h1, sp_among _ _ _ h2, i10, ite_not, sp_inTurn M able b hb hM, h, true_and]
    split <;> rfl
  · have h3 : nI t ≤ nI i := nI_le (by omega) (by omega)
    simp only [q30_0, q30_1, q30_4, q30_5, q30_8, q30_11, q30_14, q30_15, q30_18, q30_21, q30_22, q30_25, q30_26, q30_27, q30_28, q30_29, q30_32, q30_35, q30_36, q30_37, q30_38, q30_39, q30_42, n10, n01, Bool.false_eq_true, ab_bs, ab_bn, ab_pr0, ab_pr1, nl_n, nl_i, nl_r, nl_j, nl_nl, rc_16, gf_16_0, gf_16_1, gf_16_2, gf_16_3, pt_16_3, gf_16_4, pt_16_4, gf_16_5, pt_16_5, ln_27, al_27, si_27, rc_30, gf_30_0, gf_30_1, gf_30_2, gf_30_3, pt_30_3, gf_30_4, pt_30_4, gf_30_5, pt_30_5, gf_30_6, pt_30_6, gf_30_7, pt_30_7, gf_30_8, pt_30_8, gf_30_9, pt_30_9_0, pt_30_9_1, gf_30_10, pt_30_10, gf_30_11, pt_30_11, gf_30_12, pt_30_12, gf_30_13, pt_30_13, hi, ht, h3, if_true, sp_inTurn M able b hb hM, h, false_and, if_false]
    rfl
def sl (M : ab_M) (p q : Nat) : Bool := decide (M (33 + p) 5 < M (33 + q) 5)
theorem sp_emptyLongest {scr : Option (List Int32)} (M : ab_M) (n : Nat) (hn : n ≤ 8) (hM : M 16 3 = nI n) (able : Int32) (h0 : able &&& M 30 13 ≠ 0) : ab_ms scr 26 [.ref 30, .int able] M = some (M, some (.int (fo (am (fun p => tb (able &&& M 30 13) p) (fun p q => decide (M (33 + p) 5 < M (33 + q) 5))) n (-4)))) := by
  rw [ms26]
  simp only [q26_0, q26_1, q26_2, q26_5, q26_6, q26_9, q26_10, q26_11, q26_12, q26_15, q26_16, q26_18, q26_19, q26_20, q26_22, q26_23, q26_26, q26_29, q26_32, q26_33, q26_34, q26_35, q26_38, q26_39, q26_42, q26_45, q26_46, q26_48, q26_51, q26_52, q26_55, q26_56, q26_57, q26_60, q26_61, q26_64, q26_65, q26_66, q26_69, q26_72, q26_73, q26_74, q26_77, q26_80, q26_81, n10, n01, Bool.false_eq_true, ab_bs, ab_bn, ab_pr0, ab_pr1, nl_n, nl_i, nl_r, nl_j, nl_nl, rc_16, gf_16_0, gf_16_1, gf_16_2, gf_16_3, pt_16_3, gf_16_4, pt_16_4, gf_16_5, pt_16_5, rc_30, gf_30_0, gf_30_1, gf_30_2, gf_30_3, pt_30_3, gf_30_4, pt_30_4, gf_30_5, pt_30_5, gf_30_6, pt_30_6, gf_30_7, pt_30_7, gf_30_8, pt_30_8, gf_30_9, pt_30_9_0, pt_30_9_1, gf_30_10, pt_30_10, gf_30_11, pt_30_11, gf_30_12, pt_30_12, gf_30_13, pt_30_13, hM, h0, not_false_eq_true, if_true]
  refine Eq.trans ?_ ((fo_run (fun k s => ab_res scr 26 3 M 21 [some (.ref 30), some (.int able), some (.int s), some (.int (nI k))] []) (am (fun p => tb (able &&& M 30 13) p) (fun p q => decide (M (33 + p) 5 < M (33 + q) 5))) (n) (-4) (fun k hk => ?_)).trans ?_)
  · first | rfl | (simp only [h0, if_false, if_true, not_false_eq_true]; rfl)
  · have h1 : ¬ nI n ≤ nI k := nI_ge hk (by omega)
    have h2 : k < 2 ^ 31 := by omega
    have h3 : k < 8 := by omega
    have h1b : nI k < nI n := nI_lt hk (by omega)
    rcases am_inv (fun p => tb (able &&& M 30 13) p) (fun p q => decide (M (33 + p) 5 < M (33 + q) 5)) k with e | ⟨j, hj, e, -⟩
    · rw [e, q26_21]
      simp only [q26_0, q26_1, q26_2, q26_5, q26_6, q26_9, q26_10, q26_11, q26_12, q26_15, q26_16, q26_18, q26_19, q26_20, q26_22, q26_23, q26_26, q26_29, q26_32, q26_33, q26_34, q26_35, q26_38, q26_39, q26_42, q26_45, q26_46, q26_48, q26_51, q26_52, q26_55, q26_56, q26_57, q26_60, q26_61, q26_64, q26_65, q26_66, q26_69, q26_72, q26_73, q26_74, q26_77, q26_80, q26_81, n10, n01, Bool.false_eq_true, ab_bs, ab_bn, ab_pr0, ab_pr1, nl_n, nl_i, nl_r, nl_j, nl_nl, rc_16, gf_16_0, gf_16_1, gf_16_2, gf_16_3, pt_16_3, gf_16_4, pt_16_4, gf_16_5, pt_16_5, rc_30, gf_30_0, gf_30_1, gf_30_2, gf_30_3, pt_30_3, gf_30_4, pt_30_4, gf_30_5, pt_30_5, gf_30_6, pt_30_6, gf_30_7, pt_30_7, gf_30_8, pt_30_8, gf_30_9, pt_30_9_0, pt_30_9_1, gf_30_10, pt_30_10, gf_30_11, pt_30_11, gf_30_12, pt_30_12, gf_30_13, pt_30_13, hM, nI_clamp h2, ib8 h3, nI_succ, if_true, i10, ite_not, am, decide_eq_true_eq, h1, h1b, if_false, le_nlt, not_true, not_false_eq_true, sp_among _ _ _ h3, qe_31 h3, gf_seat h3 (show 5 < 8 by decide)] <;> (repeat' split) <;> first | rfl | (simp_all; done)
    · have h9 : j < 8 := by omega
      rw [e, q26_21]
      simp only [q26_0, q26_1, q26_2, q26_5, q26_6, q26_9, q26_10, q26_11, q26_12, q26_15, q26_16, q26_18, q26_19, q26_20, q26_22, q26_23, q26_26, q26_29, q26_32, q26_33, q26_34, q26_35, q26_38, q26_39, q26_42, q26_45, q26_46, q26_48, q26_51, q26_52, q26_55, q26_56, q26_57, q26_60, q26_61, q26_64, q26_65, q26_66, q26_69, q26_72, q26_73, q26_74, q26_77, q26_80, q26_81, n10, n01, Bool.false_eq_true, ab_bs, ab_bn, ab_pr0, ab_pr1, nl_n, nl_i, nl_r, nl_j, nl_nl, rc_16, gf_16_0, gf_16_1, gf_16_2, gf_16_3, pt_16_3, gf_16_4, pt_16_4, gf_16_5, pt_16_5, rc_30, gf_30_0, gf_30_1, gf_30_2, gf_30_3, pt_30_3, gf_30_4, pt_30_4, gf_30_5, pt_30_5, gf_30_6, pt_30_6, gf_30_7, pt_30_7, gf_30_8, pt_30_8, gf_30_9, pt_30_9_0, pt_30_9_1, gf_30_10, pt_30_10, gf_30_11, pt_30_11, gf_30_12, pt_30_12, gf_30_13, pt_30_13, hM, nI_clamp h2, ib8 h3, nI_succ, if_true, i10, ite_not, am, decide_eq_true_eq, h1, h1b, if_false, le_nlt, not_true, not_false_eq_true, sp_among _ _ _ h3, qe_31 h3, gf_seat h3 (show 5 < 8 by decide), nI_n4 h9, nI_clamp (show j < 2 ^ 31 by omega), qe_31 h9, gf_seat h9 (show 5 < 8 by decide)] <;> (repeat' split) <;> first | rfl | (simp_all; done)
  · show ab_res scr 26 3 M 21 _ [] = _
    rw [q26_21]
    simp only [q26_0, q26_1, q26_2, q26_5, q26_6, q26_9, q26_10, q26_11, q26_12, q26_15, q26_16, q26_18, q26_19, q26_20, q26_22, q26_23, q26_26, q26_29, q26_32, q26_33, q26_34, q26_35, q26_38, q26_39, q26_42, q26_45, q26_46, q26_48, q26_51, q26_52, q26_55, q26_56, q26_57, q26_60, q26_61, q26_64, q26_65, q26_66, q26_69, q26_72, q26_73, q26_74, q26_77, q26_80, q26_81, n10, n01, Bool.false_eq_true, ab_bs, ab_bn, ab_pr0, ab_pr1, nl_n, nl_i, nl_r, nl_j, nl_nl, rc_16, gf_16_0, gf_16_1, gf_16_2, gf_16_3, pt_16_3, gf_16_4, pt_16_4, gf_16_5, pt_16_5, rc_30, gf_30_0, gf_30_1, gf_30_2, gf_30_3, pt_30_3, gf_30_4, pt_30_4, gf_30_5, pt_30_5, gf_30_6, pt_30_6, gf_30_7, pt_30_7, gf_30_8, pt_30_8, gf_30_9, pt_30_9_0, pt_30_9_1, gf_30_10, pt_30_10, gf_30_11, pt_30_11, gf_30_12, pt_30_12, gf_30_13, pt_30_13, hM, nI_rfl, if_true]
theorem sp_emptyLongest0 {scr : Option (List Int32)} (M : ab_M) (able : Int32) (h0 : able &&& M 30 13 = 0) : ab_ms scr 26 [.ref 30, .int able] M = some (M, some (.int (fxo (fun _ => -4) (fun v => v) (fx (nof able 0) 8 0 0)))) := by
  rw [ms26]
  simp only [q26_0, q26_1, q26_2, q26_5, q26_6, q26_9, q26_10, q26_11, q26_12, q26_15, q26_16, q26_18, q26_19, q26_20, q26_22, q26_23, q26_26, q26_29, q26_32, q26_33, q26_34, q26_35, q26_38, q26_39, q26_42, q26_45, q26_46, q26_48, q26_51, q26_52, q26_55, q26_56, q26_57, q26_60, q26_61, q26_64, q26_65, q26_66, q26_69, q26_72, q26_73, q26_74, q26_77, q26_80, q26_81, n10, n01, Bool.false_eq_true, ab_bs, ab_bn, ab_pr0, ab_pr1, nl_n, nl_i, nl_r, nl_j, nl_nl, rc_30, gf_30_0, gf_30_1, gf_30_2, gf_30_3, pt_30_3, gf_30_4, pt_30_4, gf_30_5, pt_30_5, gf_30_6, pt_30_6, gf_30_7, pt_30_7, gf_30_8, pt_30_8, gf_30_9, pt_30_9_0, pt_30_9_1, gf_30_10, pt_30_10, gf_30_11, pt_30_11, gf_30_12, pt_30_12, gf_30_13, pt_30_13, h0, not_true, if_false, sp_numberOf]
/-- the seed's next -/
def sd (x : Int32) : Int32 := x * 1103515245 + 12345
def dr (x : Int32) : Int32 := (((sd x).toUInt32 >>> (Int32.toUInt32 16 &&& Int32.toUInt32 31)).toInt32 &&& 32767)
theorem up_s (M : ab_M) (c k : Nat) (v : Int32) : ab_up M c k v c k = v := by
  simp [ab_up]
theorem sp_drawn {scr : Option (List Int32)} (M : ab_M) (j : Nat) (hj : j < 256) (hb : bn (nI j) ≠ 0) : ab_ms scr 27 [.ref 30, .int (nI j)] M = some (ab_up M 30 7 (sd (M 30 7)), some (.int (fxo (fun _ => -4) (fun v => v) (fx (nof (nI j) (dr (M 30 7) - dr (M 30 7) / bn (nI j) * bn (nI j))) 8 0 0)))) := by
  rw [ms27]
  simp only [q27_0, q27_1, q27_4, q27_5, q27_6, q27_9, q27_11, q27_12, q27_13, q27_14, q27_17, q27_19, q27_20, q27_23, q27_24, q27_27, q27_28, q27_29, q27_30, q27_33, q27_35, q27_36, q27_39, q27_40, q27_41, q27_42, q27_45, n10, n01, Bool.false_eq_true, ab_bs, ab_bn, ab_pr0, ab_pr1, nl_n, nl_i, nl_r, nl_j, nl_nl, rc_30, gf_30_0, gf_30_1, gf_30_2, gf_30_3, pt_30_3, gf_30_4, pt_30_4, gf_30_5, pt_30_5, gf_30_6, pt_30_6, gf_30_7, pt_30_7, gf_30_8, pt_30_8, gf_30_9, pt_30_9_0, pt_30_9_1, gf_30_10, pt_30_10, gf_30_11, pt_30_11, gf_30_12, pt_30_12, gf_30_13, pt_30_13, sp_bits _ _ hj, hb, not_false_eq_true, if_true, if_false, sp_numberOf, up_s]
  rfl
