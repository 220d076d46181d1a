/-! PEOPLE of the class -/
theorem sp_sum {scr : Option (List Int32)} (M : ab_M) (w n : Nat) (hw : w < 8) (hn : n ≤ 8) (hM : M 16 3 = nI n) : ab_ms scr 44 [.ref 16, .int (nI w)] M = some (M, some (.int (fo (fun p s => s + M (18 + w) p) n 0))) := by
  rw [ms44]
  simp only [q44_0, q44_1, q44_2, q44_3, q44_5, q44_6, q44_9, q44_12, q44_13, q44_14, q44_17, q44_18, q44_19, q44_20, q44_21, q44_22, q44_23, q44_26, q44_29, q44_30, n10, n01, Bool.false_eq_true, ab_bs, ab_bn, ab_pr0, ab_pr1, nl_n, nl_i, nl_r, nl_j, nl_nl]
  refine Eq.trans ?_ ((fo_run (fun k s => ab_res scr 44 1 M 4 [some (.ref 16), some (.int (nI w)), some (.int s), some (.int (nI k))] []) (fun p s => s + M (18 + w) p) (n) (0) (fun k hk => ?_)).trans ?_)
  · rfl
  · have h1 : ¬ nI n ≤ nI k := nI_ge hk (by omega)
    have h2 : k < 2 ^ 31 := by omega
    have h3 : k < 8 := by omega
    rw [q44_4]
    simp only [q44_0, q44_1, q44_2, q44_3, q44_5, q44_6, q44_9, q44_12, q44_13, q44_14, q44_17, q44_18, q44_19, q44_20, q44_21, q44_22, q44_23, q44_26, q44_29, q44_30, n10, n01, Bool.false_eq_true, ab_bs, ab_bn, ab_pr0, ab_pr1, nl_n, nl_i, nl_r, nl_j, nl_nl, rc_16, gf_16_0, gf_16_1, gf_16_2, gf_16_3, pt_16_3, gf_16_4, pt_16_4, gf_16_5, pt_16_5, hM, h1, if_false, qe_17 hw, al_f17 hw, nI_clamp h2, ib8 h3, nI_succ, if_true]
  · show ab_res scr 44 1 M 4 _ [] = _
    rw [q44_4]
    simp only [q44_0, q44_1, q44_2, q44_3, q44_5, q44_6, q44_9, q44_12, q44_13, q44_14, q44_17, q44_18, q44_19, q44_20, q44_21, q44_22, q44_23, q44_26, q44_29, q44_30, n10, n01, Bool.false_eq_true, ab_bs, ab_bn, ab_pr0, ab_pr1, nl_n, nl_i, nl_r, nl_j, nl_nl, rc_16, gf_16_0, gf_16_1, gf_16_2, gf_16_3, pt_16_3, gf_16_4, pt_16_4, gf_16_5, pt_16_5, hM, nI_rfl, if_true]
theorem sp_notPoor {scr : Option (List Int32)} (M : ab_M) (who : Int32) (n : Nat) (hn : n ≤ 8) (hM : M 16 3 = nI n) : ab_ms scr 45 [.ref 16, .int who] M = some (M, some (.int (fo (fun p s => if M 24 p = 0 then s else s &&& (bt p ^^^ -1)) n who))) := by
  rw [ms45]
  simp only [q45_0, q45_1, q45_2, q45_3, q45_5, q45_6, q45_9, q45_12, q45_13, q45_16, q45_18, q45_19, q45_20, q45_21, q45_24, q45_25, q45_26, q45_27, q45_28, q45_29, q45_30, q45_31, q45_32, q45_35, q45_38, q45_39, n10, n01, Bool.false_eq_true, ab_bs, ab_bn, ab_pr0, ab_pr1, nl_n, nl_i, nl_r, nl_j, nl_nl]
  refine Eq.trans ?_ ((fo_run (fun k s => ab_res scr 45 1 M 4 [some (.ref 16), some (.int who), some (.int s), some (.int (nI k))] []) (fun p s => if M 24 p = 0 then s else s &&& (bt p ^^^ -1)) (n) (who) (fun k hk => ?_)).trans ?_)
  · rfl
  · have h1 : ¬ nI n ≤ nI k := nI_ge hk (by omega)
    have h2 : k < 2 ^ 31 := by omega
    have h3 : k < 8 := by omega
    rw [q45_4]
    simp only [q45_0, q45_1, q45_2, q45_3, q45_5, q45_6, q45_9, q45_12, q45_13, q45_16, q45_18, q45_19, q45_20, q45_21, q45_24, q45_25, q45_26, q45_27, q45_28, q45_29, q45_30, q45_31, q45_32, q45_35, q45_38, q45_39, n10, n01, Bool.false_eq_true, ab_bs, ab_bn, ab_pr0, ab_pr1, nl_n, nl_i, nl_r, nl_j, nl_nl, rc_16, gf_16_0, gf_16_1, gf_16_2, gf_16_3, pt_16_3, gf_16_4, pt_16_4, gf_16_5, pt_16_5, ln_24, al_24, si_24, hM, h1, if_false, qe_17_6, al_24, nI_clamp h2, ib8 h3, nI_succ, if_true, bt_eq]
    trace_state
    split <;> rfl
  · show ab_res scr 45 1 M 4 _ [] = _
    rw [q45_4]
    simp only [q45_0, q45_1, q45_2, q45_3, q45_5, q45_6, q45_9, q45_12, q45_13, q45_16, q45_18, q45_19, q45_20, q45_21, q45_24, q45_25, q45_26, q45_27, q45_28, q45_29, q45_30, q45_31, q45_32, q45_35, q45_38, q45_39, n10, n01, Bool.false_eq_true, ab_bs, ab_bn, ab_pr0, ab_pr1, nl_n, nl_i, nl_r, nl_j, nl_nl, rc_16, gf_16_0, gf_16_1, gf_16_2, gf_16_3, pt_16_3, gf_16_4, pt_16_4, gf_16_5, pt_16_5, hM, nI_rfl, if_true]
/-- of a set, those who aren't poor -/
theorem fo_notPoor (M : ab_M) (who : Int32) (n : Nat) (hn : n ≤ 8) (q : Nat) (hq : q < 8) : tb (fo (fun p s => if M 24 p = 0 then s else s &&& (bt p ^^^ -1)) n who) q = (tb who q && !(decide (q < n) && decide (M 24 q ≠ 0))) := by
  refine fo_inv (P := fun k s => tb s q = (tb who q && !(decide (q < k) && decide (M 24 q ≠ 0)))) n ?_ ?_
  · simp
  · intro k b hk hb
    by_cases h : M 24 k = 0
    · rw [if_pos h, hb]
      by_cases e : q = k
      · subst e
        simp [h]
      · have : decide (q < k + 1) = decide (q < k) := by
          apply decide_eq_decide.mpr
          omega
        rw [this]
    · rw [if_neg h, tb_and, tb_off _ _ (by omega), tb_bt k q (by omega) hq, hb]
      by_cases e : q = k
      · subst e
        simp [h]
      · have : decide (q < k + 1) = decide (q < k) := by
          apply decide_eq_decide.mpr
          omega
        rw [this]
        simp [Ne.symm e]
