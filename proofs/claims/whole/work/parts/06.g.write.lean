/-! the EVENING of the class: what is written -/
theorem up_o (M : ab_M) (c k c2 k2 : Nat) (v : Int32) (h : ¬ (c2 = c ∧ k2 = k)) : ab_up M c k v c2 k2 = M c2 k2 := by
  simp only [ab_up, h, if_false]
theorem sp_seatClear {scr : Option (List Int32)} (M : ab_M) (p : Nat) (hp : p < 8) : ab_ms scr 54 [.ref (33 + p)] M = some (ab_up (ab_up (ab_up (ab_up M (33 + p) 1 0) (33 + p) 2 0) (33 + p) 3 0) (33 + p) 4 0, none) := by
  rw [ms54]
  simp only [q54_0, q54_1, q54_2, q54_5, q54_6, q54_7, q54_10, q54_11, q54_12, q54_15, q54_16, q54_17, q54_20, n10, n01, Bool.false_eq_true, ab_bs, ab_bn, ab_pr0, ab_pr1, nl_n, nl_i, nl_r, nl_j, nl_nl, pt_seat hp (show 1 < 8 by decide), pt_seat hp (show 2 < 8 by decide), pt_seat hp (show 3 < 8 by decide), pt_seat hp (show 4 < 8 by decide)]
def clG (p : Nat) (M : ab_M) : ab_M := ab_up (ab_up (ab_up (ab_up M (33 + p) 1 0) (33 + p) 2 0) (33 + p) 3 0) (33 + p) 4 0
def cl0 (M : ab_M) : ab_M := ab_up (ab_up (ab_up (ab_up (ab_up (ab_up M 30 3 0) 30 4 0) 30 5 0) 30 6 0) 30 12 0) 30 13 0
/-- the rows that clear leaves as they are, and what it writes -/
theorem cl0_o (M : ab_M) (c : Nat) (h : c ≠ 30) (k : Nat) : cl0 M c k = M c k := by
  simp only [cl0, ab_up, h, false_and, if_false]
theorem clG_at (M : ab_M) (p c k : Nat) : clG p M c k = if c = 33 + p ∧ 1 ≤ k ∧ k ≤ 4 then 0 else M c k := by
  unfold clG ab_up
  by_cases h : c = 33 + p
  · subst h
    by_cases h1 : k = 1 ∨ k = 2 ∨ k = 3 ∨ k = 4
    · rw [if_pos (show 33 + p = 33 + p ∧ 1 ≤ k ∧ k ≤ 4 by omega)]
      rcases h1 with rfl | rfl | rfl | rfl <;> simp
    · rw [if_neg (show ¬ (33 + p = 33 + p ∧ 1 ≤ k ∧ k ≤ 4) by omega), if_neg (by omega), if_neg (by omega), if_neg (by omega), if_neg (by omega)]
  · simp only [h, false_and, if_false]
theorem fo_clG (M : ab_M) (n c k : Nat) : fo clG n M c k = if 33 ≤ c ∧ c < 33 + n ∧ 1 ≤ k ∧ k ≤ 4 then 0 else M c k := by
  refine fo_inv (α := ab_M) (P := fun j N => N c k = if 33 ≤ c ∧ c < 33 + j ∧ 1 ≤ k ∧ k ≤ 4 then 0 else M c k) n ?_ (fun j N hj hN => ?_)
  · rw [if_neg (by omega)]
  · rw [clG_at, hN]
    by_cases h : c = 33 + j ∧ 1 ≤ k ∧ k ≤ 4
    · rw [if_pos h, if_pos (by omega)]
    · rw [if_neg h]
      by_cases h2 : 33 ≤ c ∧ c < 33 + j ∧ 1 ≤ k ∧ k ≤ 4
      · rw [if_pos h2, if_pos (by omega)]
      · rw [if_neg h2, if_neg (by omega)]
theorem sp_clear {scr : Option (List Int32)} (M : ab_M) (n : Nat) (hn : n ≤ 8) (hM : M 16 3 = nI n) : ab_ms scr 7 [.ref 30] M = some (fo clG n (cl0 M), none) := by
  rw [ms7]
  simp only [q7_0, q7_1, q7_2, q7_5, q7_6, q7_7, q7_10, q7_11, q7_12, q7_15, q7_16, q7_17, q7_20, q7_21, q7_22, q7_25, q7_26, q7_27, q7_30, q7_31, q7_33, q7_34, q7_37, q7_40, q7_43, q7_44, q7_47, q7_48, q7_49, q7_52, q7_55, q7_58, n10, n01, Bool.false_eq_true, ab_bs, ab_bn, ab_pr0, ab_pr1, nl_n, nl_i, nl_r, nl_j, nl_nl, rc_30, gf_30_0, gf_30_1, gf_30_2, gf_30_3, pt_30_3, gf_30_4, pt_30_4, gf_30_5, pt_30_5, gf_30_6, pt_30_6, gf_30_7, pt_30_7, gf_30_8, pt_30_8, gf_30_9, pt_30_9_0, pt_30_9_1, gf_30_10, pt_30_10, gf_30_11, pt_30_11, gf_30_12, pt_30_12, gf_30_13, pt_30_13]
  refine Eq.trans ?_ ((fo_run (fun k N => ab_res scr 7 2 N 32 [some (.ref 30), some (.int (nI k))] []) clG n (cl0 M) (fun k hk => ?_)).trans ?_)
  · rfl
  · have h1 : ¬ nI n ≤ nI k := nI_ge hk (by omega)
    have h3 : k < 8 := by omega
    have h4 : fo clG k (cl0 M) 16 3 = nI n := by rw [fo_clG, if_neg (by omega), cl0_o _ _ (by decide), hM]
    rw [q7_32]
    simp only [q7_0, q7_1, q7_2, q7_5, q7_6, q7_7, q7_10, q7_11, q7_12, q7_15, q7_16, q7_17, q7_20, q7_21, q7_22, q7_25, q7_26, q7_27, q7_30, q7_31, q7_33, q7_34, q7_37, q7_40, q7_43, q7_44, q7_47, q7_48, q7_49, q7_52, q7_55, q7_58, n10, n01, Bool.false_eq_true, ab_bs, ab_bn, ab_pr0, ab_pr1, nl_n, nl_i, nl_r, nl_j, nl_nl, rc_16, gf_16_0, gf_16_1, gf_16_2, gf_16_3, pt_16_3, gf_16_4, pt_16_4, gf_16_5, pt_16_5, rc_30, gf_30_0, gf_30_1, gf_30_2, gf_30_3, pt_30_3, gf_30_4, pt_30_4, gf_30_5, pt_30_5, gf_30_6, pt_30_6, gf_30_7, pt_30_7, gf_30_8, pt_30_8, gf_30_9, pt_30_9_0, pt_30_9_1, gf_30_10, pt_30_10, gf_30_11, pt_30_11, gf_30_12, pt_30_12, gf_30_13, pt_30_13, h4, h1, if_false, qe_31 h3, rc_seat h3, sp_seatClear _ _ h3, nI_succ]
    rfl
  · have h4 : fo clG n (cl0 M) 16 3 = nI n := by rw [fo_clG, if_neg (by omega), cl0_o _ _ (by decide), hM]
    show ab_res scr 7 2 _ 32 _ [] = _
    rw [q7_32]
    simp only [q7_0, q7_1, q7_2, q7_5, q7_6, q7_7, q7_10, q7_11, q7_12, q7_15, q7_16, q7_17, q7_20, q7_21, q7_22, q7_25, q7_26, q7_27, q7_30, q7_31, q7_33, q7_34, q7_37, q7_40, q7_43, q7_44, q7_47, q7_48, q7_49, q7_52, q7_55, q7_58, n10, n01, Bool.false_eq_true, ab_bs, ab_bn, ab_pr0, ab_pr1, nl_n, nl_i, nl_r, nl_j, nl_nl, rc_16, gf_16_0, gf_16_1, gf_16_2, gf_16_3, pt_16_3, gf_16_4, pt_16_4, gf_16_5, pt_16_5, rc_30, gf_30_0, gf_30_1, gf_30_2, gf_30_3, pt_30_3, gf_30_4, pt_30_4, gf_30_5, pt_30_5, gf_30_6, pt_30_6, gf_30_7, pt_30_7, gf_30_8, pt_30_8, gf_30_9, pt_30_9_0, pt_30_9_1, gf_30_10, pt_30_10, gf_30_11, pt_30_11, gf_30_12, pt_30_12, gf_30_13, pt_30_13, h4, nI_rfl, if_true]
def teG (p : Nat) (m : Int32) (M : ab_M) : ab_M := ab_up (ab_up M 30 13 (M 30 13 ||| bt p)) (33 + p) 5 m
theorem sp_turnEmpty {scr : Option (List Int32)} (M : ab_M) (p : Nat) (hp : p < 8) (m : Int32) : ab_ms scr 9 [.ref 30, .int (nI p), .int m] M = some (teG p m M, none) := by
  rw [ms9]
  simp only [q9_0, q9_1, q9_2, q9_5, q9_6, q9_7, q9_8, q9_9, q9_12, q9_13, q9_16, q9_17, q9_18, q9_19, q9_22, n10, n01, Bool.false_eq_true, ab_bs, ab_bn, ab_pr0, ab_pr1, nl_n, nl_i, nl_r, nl_j, nl_nl, rc_30, gf_30_0, gf_30_1, gf_30_2, gf_30_3, pt_30_3, gf_30_4, pt_30_4, gf_30_5, pt_30_5, gf_30_6, pt_30_6, gf_30_7, pt_30_7, gf_30_8, pt_30_8, gf_30_9, pt_30_9_0, pt_30_9_1, gf_30_10, pt_30_10, gf_30_11, pt_30_11, gf_30_12, pt_30_12, gf_30_13, pt_30_13, qe_31 hp, pt_seat hp (show 5 < 8 by decide), bt_eq]
  rfl
