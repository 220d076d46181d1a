/-! BEST: the class's look ahead -/
def mb (left : Int32) (M : ab_M) (p : Nat) : Option Int32 := if M 84 p < M 81 3 ∧ -(M 84 p + left) < M 81 3 then none else some 0
theorem sp_may {scr : Option (List Int32)} {n : Nat} {M : ab_M} (hn : n ≤ 8) (hM : M 16 3 = nI n) (left : Int32) : ((∀ p, p < n → mb left M p = none) → ab_ms scr 49 [.ref 81, .int left] M = some (M, some (.int 1))) ∧ ((∃ p, p < n ∧ mb left M p = some 0) → ab_ms scr 49 [.ref 81, .int left] M = some (M, some (.int 0))) := by
  have step : ∀ i, i < n → mb left M i = none → ab_res scr 49 1 M 2 [some (.ref 81), some (.int left), some (.int (nI i))] [] = ab_res scr 49 1 M 2 [some (.ref 81), some (.int left), some (.int (nI (i + 1)))] [] := fun i hi h => by
    have h1 : ¬ nI n ≤ nI i := nI_ge hi (by omega)
    have h8 : i < 8 := by omega
    unfold mb at h
    by_cases q : M 84 i < M 81 3 ∧ -(M 84 i + left) < M 81 3
    · rw [q49_2]
      simp only [q49_0, q49_1, q49_3, q49_4, q49_7, q49_10, q49_13, q49_14, q49_17, q49_18, q49_19, q49_20, q49_23, q49_26, q49_27, q49_30, q49_31, q49_32, q49_33, q49_34, q49_35, q49_36, q49_39, q49_42, q49_43, q49_44, q49_47, q49_50, q49_51, n10, n01, Bool.false_eq_true, ab_bs, ab_bn, ab_pr0, ab_pr1, nl_n, nl_i, nl_r, nl_j, nl_nl, rc_16, gf_16_0, gf_16_1, gf_16_2, gf_16_3, pt_16_3, gf_16_4, pt_16_4, gf_16_5, pt_16_5, rc_81, gf_81_0, gf_81_1, gf_81_2, gf_81_3, pt_81_3, gf_81_4, gf_81_5, gf_81_6, pt_81_6, ln_84, al_84, si_84, hM, h1, if_false, ib8 h8, nI_clamp (show i < 2 ^ 31 by omega), if_true, Int32.not_le.mpr q.1, q.2, nI_succ]
    · rw [if_neg q] at h
      cases h
  have run : ∀ k, k ≤ n → (∀ j, j < k → mb left M j = none) → ab_ms scr 49 [.ref 81, .int left] M = ab_res scr 49 1 M 2 [some (.ref 81), some (.int left), some (.int (nI k))] [] := fun k hk h => by
    rw [ms49]
    simp only [q49_0, q49_1, q49_3, q49_4, q49_7, q49_10, q49_13, q49_14, q49_17, q49_18, q49_19, q49_20, q49_23, q49_26, q49_27, q49_30, q49_31, q49_32, q49_33, q49_34, q49_35, q49_36, q49_39, q49_42, q49_43, q49_44, q49_47, q49_50, q49_51, n10, n01, Bool.false_eq_true, ab_bs, ab_bn, ab_pr0, ab_pr1, nl_n, nl_i, nl_r, nl_j, nl_nl]
    exact rn (fun k => ab_res scr 49 1 M 2 [some (.ref 81), some (.int left), some (.int (nI k))] []) k (fun i hi => step i (by omega) (h i hi))
  refine ⟨fun h => ?_, fun h => ?_⟩
  · rw [run n (Nat.le_refl _) h]
    rw [q49_2]
    simp only [q49_0, q49_1, q49_3, q49_4, q49_7, q49_10, q49_13, q49_14, q49_17, q49_18, q49_19, q49_20, q49_23, q49_26, q49_27, q49_30, q49_31, q49_32, q49_33, q49_34, q49_35, q49_36, q49_39, q49_42, q49_43, q49_44, q49_47, q49_50, q49_51, n10, n01, Bool.false_eq_true, ab_bs, ab_bn, ab_pr0, ab_pr1, nl_n, nl_i, nl_r, nl_j, nl_nl, rc_16, gf_16_0, gf_16_1, gf_16_2, gf_16_3, pt_16_3, gf_16_4, pt_16_4, gf_16_5, pt_16_5, rc_81, gf_81_0, gf_81_1, gf_81_2, gf_81_3, pt_81_3, gf_81_4, gf_81_5, gf_81_6, pt_81_6, hM, nI_rfl, if_true, narrow_b0, narrow_b1]
  · obtain ⟨k, k1, k2, k3⟩ := least (mb left M) n
    obtain ⟨p, hp, hb⟩ := h
    rcases k3 with rfl | ⟨k3, b, hb2⟩
    · rw [k2 p hp] at hb
      cases hb
    · rw [run k k1 k2]
      have h1 : ¬ nI n ≤ nI k := nI_ge k3 (by omega)
      have h8 : k < 8 := by omega
      unfold mb at hb2
      by_cases q1 : M 84 k < M 81 3
      · have q2 : ¬ -(M 84 k + left) < M 81 3 := fun q => by
          rw [if_pos ⟨q1, q⟩] at hb2
          cases hb2
        rw [q49_2]
        simp only [q49_0, q49_1, q49_3, q49_4, q49_7, q49_10, q49_13, q49_14, q49_17, q49_18, q49_19, q49_20, q49_23, q49_26, q49_27, q49_30, q49_31, q49_32, q49_33, q49_34, q49_35, q49_36, q49_39, q49_42, q49_43, q49_44, q49_47, q49_50, q49_51, n10, n01, Bool.false_eq_true, ab_bs, ab_bn, ab_pr0, ab_pr1, nl_n, nl_i, nl_r, nl_j, nl_nl, rc_16, gf_16_0, gf_16_1, gf_16_2, gf_16_3, pt_16_3, gf_16_4, pt_16_4, gf_16_5, pt_16_5, rc_81, gf_81_0, gf_81_1, gf_81_2, gf_81_3, pt_81_3, gf_81_4, gf_81_5, gf_81_6, pt_81_6, ln_84, al_84, si_84, hM, h1, if_false, ib8 h8, nI_clamp (show k < 2 ^ 31 by omega), if_true, Int32.not_le.mpr q1, q2, narrow_b0, narrow_b1]
      · rw [q49_2]
        simp only [q49_0, q49_1, q49_3, q49_4, q49_7, q49_10, q49_13, q49_14, q49_17, q49_18, q49_19, q49_20, q49_23, q49_26, q49_27, q49_30, q49_31, q49_32, q49_33, q49_34, q49_35, q49_36, q49_39, q49_42, q49_43, q49_44, q49_47, q49_50, q49_51, n10, n01, Bool.false_eq_true, ab_bs, ab_bn, ab_pr0, ab_pr1, nl_n, nl_i, nl_r, nl_j, nl_nl, rc_16, gf_16_0, gf_16_1, gf_16_2, gf_16_3, pt_16_3, gf_16_4, pt_16_4, gf_16_5, pt_16_5, rc_81, gf_81_0, gf_81_1, gf_81_2, gf_81_3, pt_81_3, gf_81_4, gf_81_5, gf_81_6, pt_81_6, ln_84, al_84, si_84, hM, h1, if_false, ib8 h8, nI_clamp (show k < 2 ^ 31 by omega), if_true, Int32.not_lt.mp q1, narrow_b0, narrow_b1]
