def nof (able ahead : Int32) (p : Nat) (s : Int32) : Int32 ⊕ Int32 := if tb able p = true then (if s = ahead then .inr (nI p) else .inl (s + 1)) else .inl s
theorem sp_numberOf {scr : Option (List Int32)} (M : ab_M) (able ahead : Int32) : ab_ms scr 28 [.ref 30, .int able, .int ahead] M = some (M, some (.int (fxo (fun _ => -4) (fun v => v) (fx (nof able ahead) 8 0 0)))) := by
  rw [ms28]
  simp only [q28_0, q28_1, q28_2, q28_3, q28_7, q28_9, q28_12, q28_14, q28_15, q28_18, q28_21, q28_22, q28_23, q28_26, q28_28, q28_29, q28_32, q28_35, q28_38, q28_40, n10, n01, Bool.false_eq_true, ab_bs, ab_bn, ab_pr0, ab_pr1, nl_n, nl_i, nl_r, nl_j, nl_nl]
  have h := fx_run (fun k s => ab_res scr 28 2 M 5 [some (.ref 30), some (.int able), some (.int ahead), some (.int s), some (.int (nI k))] []) (fun v => some (M, some (.int v))) (nof able ahead) 8 0 0 (fun i b h0 hi => ?_)
  · refine Eq.trans ?_ (h.trans ?_)
    · rfl
    · cases fx (nof able ahead) 8 0 0 with
      | inl a =>
        show ab_res scr 28 2 M 5 _ [] = _
        rw [q28_5]
        simp only [q28_0, q28_1, q28_2, q28_3, q28_7, q28_9, q28_12, q28_14, q28_15, q28_18, q28_21, q28_22, q28_23, q28_26, q28_28, q28_29, q28_32, q28_35, q28_38, q28_40, n10, n01, Bool.false_eq_true, ab_bs, ab_bn, ab_pr0, ab_pr1, nl_n, nl_i, nl_r, nl_j, nl_nl, show (8 : Int32) ≤ nI (0 + 8) by decide, if_true]
        rfl
      | inr b => rfl
  · have h3 : i < 8 := by omega
    have h1 : ¬ (8 : Int32) ≤ nI i := nI_ge (b := 8) h3 (by omega)
    show ab_res scr 28 2 M 5 _ [] = _
    rw [q28_5]
    simp only [q28_0, q28_1, q28_2, q28_3, q28_7, q28_9, q28_12, q28_14, q28_15, q28_18, q28_21, q28_22, q28_23, q28_26, q28_28, q28_29, q28_32, q28_35, q28_38, q28_40, n10, n01, Bool.false_eq_true, ab_bs, ab_bn, ab_pr0, ab_pr1, nl_n, nl_i, nl_r, nl_j, nl_nl, h1, if_false, sp_among _ _ _ h3, i10, ite_not, nof, nI_succ]
    split
    · split <;> rfl
    · rfl
def inT (able : Int32) (b : Nat) (k : Nat) (_ : Option Value) : Option Value ⊕ Int32 := if tb able ((b + (k + 1)) % 8) = true then .inr (nI ((b + (k + 1)) % 8)) else .inl (some (.int (nI ((b + (k + 1)) % 8))))
theorem mod8 (b i : Nat) (hb : b < 8) (hi : i < 8) : (nI b + nI (i + 1)) - (nI b + nI (i + 1)) / 8 * 8 = nI ((b + (i + 1)) % 8) := by
  have : ∀ b, b < 8 → ∀ i, i < 8 → (nI b + nI (i + 1)) - (nI b + nI (i + 1)) / 8 * 8 = nI ((b + (i + 1)) % 8) := by decide
  exact this b hb i hi
theorem sp_inTurn {scr : Option (List Int32)} (M : ab_M) (able : Int32) (b : Nat) (hb : b < 8) (hM : M 30 10 = nI b) : ab_ms scr 24 [.ref 30, .int able] M = some (M, some (.int (fxo (fun _ => -4) (fun v => v) (fx (inT able b) 8 0 none)))) := by
  rw [ms24]
  simp only [q24_0, q24_1, q24_3, q24_5, q24_8, q24_9, q24_12, q24_13, q24_14, q24_16, q24_17, q24_18, q24_19, q24_20, q24_23, q24_26, q24_27, q24_28, q24_31, q24_34, q24_36, n10, n01, Bool.false_eq_true, ab_bs, ab_bn, ab_pr0, ab_pr1, nl_n, nl_i, nl_r, nl_j, nl_nl]
  have h := fx_run (fun k l => ab_res scr 24 2 M 2 [some (.ref 30), some (.int able), some (.int (nI (k + 1))), l] []) (fun v => some (M, some (.int v))) (inT able b) 8 0 none (fun i l h0 hi => ?_)
  · refine Eq.trans ?_ (h.trans ?_)
    · rfl
    · cases fx (inT able b) 8 0 none with
      | inl a =>
        show ab_res scr 24 2 M 2 _ [] = _
        rw [q24_2]
        simp only [q24_0, q24_1, q24_3, q24_5, q24_8, q24_9, q24_12, q24_13, q24_14, q24_16, q24_17, q24_18, q24_19, q24_20, q24_23, q24_26, q24_27, q24_28, q24_31, q24_34, q24_36, n10, n01, Bool.false_eq_true, ab_bs, ab_bn, ab_pr0, ab_pr1, nl_n, nl_i, nl_r, nl_j, nl_nl, show (8 : Int32) < nI (0 + 8 + 1) by decide, if_true]
        rfl
      | inr b => rfl
  · have h3 : i < 8 := by omega
    have h1 : ¬ (8 : Int32) < nI (i + 1) := nI_nlt (a := 8) (b := i + 1) (by omega) (by omega)
    have h9 : ((8 : Int32) = 0) = False := by decide
    show ab_res scr 24 2 M 2 _ [] = _
    rw [q24_2]
    simp only [q24_0, q24_1, q24_3, q24_5, q24_8, q24_9, q24_12, q24_13, q24_14, q24_16, q24_17, q24_18, q24_19, q24_20, q24_23, q24_26, q24_27, q24_28, q24_31, q24_34, q24_36, n10, n01, Bool.false_eq_true, ab_bs, ab_bn, ab_pr0, ab_pr1, nl_n, nl_i, nl_r, nl_j, nl_nl, rc_30, gf_30_0, gf_30_1, gf_30_2, gf_30_3, pt_30_3, gf_30_4, pt_30_4, gf_30_5, pt_30_5, gf_30_6, pt_30_6, gf_30_7, pt_30_7, gf_30_8, pt_30_8, gf_30_9, pt_30_9_0, pt_30_9_1, gf_30_10, pt_30_10, gf_30_11, pt_30_11, gf_30_12, pt_30_12, gf_30_13, pt_30_13, hM, h1, h9, if_false, mod8 b i hb h3, sp_among _ _ _ (Nat.mod_lt (b + (i + 1)) (show 8 > 0 by decide)), i10, ite_not, inT]
    rw [nI_succ (i + 1)]
    split <;> rfl
