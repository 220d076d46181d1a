/-! the buyer -/
/-- how many bits -/
def bn (w : Int32) : Int32 := fo (fun p s => if tb w p = true then s + 1 else s) 8 0
theorem sp_bits {scr : Option (List Int32)} (M : ab_M) (j : Nat) (hj : j < 256) : ab_ms scr 196 [.int (nI j)] M = some (M, some (.int (bn (nI j)))) := by
  rw [ms196]
  simp only [q196_0, q196_1, q196_2, q196_3, q196_4, q196_7, q196_8, q196_9, q196_10, q196_11, q196_14, q196_15, q196_16, q196_17, q196_18, q196_21, q196_22, q196_23, q196_24, q196_25, q196_26, q196_27, q196_28, q196_29, q196_32, q196_33, q196_34, q196_35, q196_36, q196_38, q196_39, q196_40, q196_41, q196_42, q196_43, q196_45, q196_46, q196_47, q196_48, q196_49, q196_51, q196_52, ab_bs, ab_bn, ab_pr0, ab_pr1, nl_n, nl_i, nl_r, nl_j, nl_nl]
  refine congrArg (fun x => some (M, some (Value.int x))) ?_
  revert j
  decide +kernel
/-- what inTurn answers -/
def inR (able : Int32) (b : Nat) : Int32 := fxo (fun _ => -4) (fun v => v) (fx (inT able b) 8 0 none)
theorem sp_asTold {scr : Option (List Int32)} (M : ab_M) (able : Int32) (b i t q : Nat) (hb : b < 8) (hM : M 30 10 = nI b) (hi : M 30 3 = nI i) (hi2 : i ≤ 40) (ht : M 16 5 = nI t) (ht2 : t ≤ 12) (hq : i < t → M 27 i = nI q ∧ q < 8) : ab_ms scr 30 [.ref 30, .int able] M = some (M, some (.int (if i < t ∧ tb able q = true then nI q else inR able b))) := by
  rw [ms30]
  by_cases h : i < t
  · obtain ⟨h1, h2⟩ := hq h
    have h3 : ¬ nI t ≤ nI i := nI_ge h (by omega)
    simp only [q30_0, q30_1, q30_4, q30_5, q30_8, q30_11, q30_14, q30_15, q30_18, q30_21, q30_22, q30_25, q30_26, q30_27, q30_28, q30_29, q30_32, q30_35, q30_36, q30_37, q30_38, q30_39, q30_42, ab_bs, ab_bn, ab_pr0, ab_pr1, nl_n, nl_i, nl_r, nl_j, nl_nl, rc_16, gf_16_0, gf_16_1, gf_16_2, gf_16_3, pt_16_3, gf_16_4, pt_16_4, gf_16_5, pt_16_5, ln_27, al_27, si_27, rc_30, gf_30_0, gf_30_1, gf_30_2, gf_30_3, pt_30_3, gf_30_4, pt_30_4, gf_30_5, pt_30_5, gf_30_6, pt_30_6, gf_30_7, pt_30_7, gf_30_8, pt_30_8, gf_30_9, pt_30_9_0, pt_30_9_1, gf_30_10, pt_30_10, gf_30_11, pt_30_11, gf_30_12, pt_30_12, gf_30_13, pt_30_13, hi, ht, h3, if_false, nI_clamp (show i < 2 ^ 31 by omega), ib12 (show i < 12 by omega), if_true, h1, sp_among _ _ _ h2, i10, ite_not, sp_inTurn M able b hb hM, h, true_and]
    split <;> rfl
  · have h3 : nI t ≤ nI i := nI_le (by omega) (by omega)
    simp only [q30_0, q30_1, q30_4, q30_5, q30_8, q30_11, q30_14, q30_15, q30_18, q30_21, q30_22, q30_25, q30_26, q30_27, q30_28, q30_29, q30_32, q30_35, q30_36, q30_37, q30_38, q30_39, q30_42, ab_bs, ab_bn, ab_pr0, ab_pr1, nl_n, nl_i, nl_r, nl_j, nl_nl, rc_16, gf_16_0, gf_16_1, gf_16_2, gf_16_3, pt_16_3, gf_16_4, pt_16_4, gf_16_5, pt_16_5, ln_27, al_27, si_27, rc_30, gf_30_0, gf_30_1, gf_30_2, gf_30_3, pt_30_3, gf_30_4, pt_30_4, gf_30_5, pt_30_5, gf_30_6, pt_30_6, gf_30_7, pt_30_7, gf_30_8, pt_30_8, gf_30_9, pt_30_9_0, pt_30_9_1, gf_30_10, pt_30_10, gf_30_11, pt_30_11, gf_30_12, pt_30_12, gf_30_13, pt_30_13, hi, ht, h3, if_true, sp_inTurn M able b hb hM, h, false_and, if_false]
    rfl
