/-! writers: rows of the seats at once -/
theorem rn {γ : Type} (R : Nat → γ) (n : Nat) (h : ∀ k, k < n → R k = R (k + 1)) : R 0 = R n := by
  induction n with
  | zero => rfl
  | succ n ih => rw [ih (fun k hk => h k (by omega)), h n (by omega)]
def sw (n : Nat) (F : Nat → Nat → Int32) (M : ab_M) : ab_M := fun c k => if 33 ≤ c ∧ c < 33 + n then F (c - 33) k else M c k
theorem sw_0 (F : Nat → Nat → Int32) (M : ab_M) : sw 0 F M = M := by
  funext c k
  unfold sw
  rw [if_neg (by omega)]
theorem sw_c {n : Nat} {F : Nat → Nat → Int32} {M : ab_M} {c k : Nat} (h : c < 33) : sw n F M c k = M c k := by
  unfold sw
  rw [if_neg (by omega)]
theorem sw_hi {n : Nat} {F : Nat → Nat → Int32} {M : ab_M} {c k : Nat} (hn : n ≤ 8) (h : 41 ≤ c) : sw n F M c k = M c k := by
  unfold sw
  rw [if_neg (by omega)]
theorem sw_i {n : Nat} {F : Nat → Nat → Int32} {M : ab_M} {p k : Nat} (h : p < n) : sw n F M (33 + p) k = F p k := by
  unfold sw
  rw [if_pos (by omega), show 33 + p - 33 = p by omega]
theorem sw_k {n : Nat} {F : Nat → Nat → Int32} {M : ab_M} {k : Nat} : sw n F M (33 + n) k = M (33 + n) k := by
  unfold sw
  rw [if_neg (by omega)]
theorem sw_n {n : Nat} {F : Nat → Nat → Int32} {M : ab_M} {c k : Nat} (h : ¬ (33 ≤ c ∧ c < 33 + n)) : sw n F M c k = M c k := by
  unfold sw
  rw [if_neg h]
/-- what is sw after one more -/
theorem sw_ext {n : Nat} {F : Nat → Nat → Int32} {B W : ab_M} (h1 : ∀ p j, p < n → W (33 + p) j = F p j) (h2 : ∀ c j, ¬ (33 ≤ c ∧ c < 33 + n) → W c j = B c j) : W = sw n F B := by
  funext c j
  unfold sw
  by_cases h : 33 ≤ c ∧ c < 33 + n
  · rw [if_pos h, ← h1 (c - 33) j (by omega), show 33 + (c - 33) = c by omega]
  · rw [if_neg h, h2 c j h]
theorem sw_step {n : Nat} {F : Nat → Nat → Int32} {B W : ab_M} (h1 : ∀ c j, c ≠ 33 + n → W c j = sw n F B c j) (h2 : ∀ j, W (33 + n) j = F n j) : W = sw (n + 1) F B := by
  refine sw_ext (fun p j hp => ?_) (fun c j hc => ?_)
  · by_cases h : p = n
    · subst h
      exact h2 j
    · rw [h1 _ _ (by omega), sw_i (by omega)]
  · rw [h1 _ _ (by omega), sw_n (by omega)]
theorem up_sl {M : ab_M} {p k : Nat} {v : Int32} {c j : Nat} (h : c < 33) : ab_up M (33 + p) k v c j = M c j := by
  unfold ab_up
  rw [if_neg (by omega)]
theorem up_ss {M : ab_M} {p k : Nat} {v : Int32} {j : Nat} : ab_up M (33 + p) k v (33 + p) j = if j = k then v else M (33 + p) j := by
  unfold ab_up
  by_cases h : j = k
  · rw [if_pos ⟨rfl, h⟩, if_pos h]
  · rw [if_neg (fun q => h q.2), if_neg h]
theorem up_ll {M : ab_M} {k : Nat} {v : Int32} {j : Nat} : ab_up M 30 k v 30 j = if j = k then v else M 30 j := by
  unfold ab_up
  by_cases h : j = k
  · rw [if_pos ⟨rfl, h⟩, if_pos h]
  · rw [if_neg (fun q => h q.2), if_neg h]
theorem up_ls {M : ab_M} {k : Nat} {v : Int32} {p j : Nat} : ab_up M 30 k v (33 + p) j = M (33 + p) j := by
  unfold ab_up
  rw [if_neg (by omega)]
theorem up_l {M : ab_M} {k : Nat} {v : Int32} {c j : Nat} (h : ¬ c = 30) : ab_up M 30 k v c j = M c j := by
  unfold ab_up
  rw [if_neg (fun q => h q.1)]
theorem up_sn {M : ab_M} {p k : Nat} {v : Int32} {c j : Nat} (h : c ≠ 33 + p) : ab_up M (33 + p) k v c j = M c j := by
  unfold ab_up
  rw [if_neg (fun q => h q.1)]
theorem up_n {M : ab_M} {a k : Nat} {v : Int32} {c j : Nat} (h : c ≠ a) : ab_up M a k v c j = M c j := by
  unfold ab_up
  rw [if_neg (fun q => h q.1)]
/-! open -/
def op0 (rule seed : Int32) (M : ab_M) : ab_M := ab_up (ab_up (ab_up (ab_up (ab_up M 30 8 rule) 30 7 seed) 30 9 1) 30 10 7) 30 11 0
def opF (M : ab_M) (p j : Nat) : Int32 := if j = 7 then 0 else if j = 0 then M 25 p else M (33 + p) j
def opC (n : Nat) (rule seed : Int32) (M : ab_M) : ab_M := sw n (opF M) (op0 rule seed M)
theorem op0_n {rule seed : Int32} {M : ab_M} {c j : Nat} (h : ¬ c = 30) : op0 rule seed M c j = M c j := by
  simp only [op0, up_l h]
theorem sp_open {scr : Option (List Int32)} (M : ab_M) (n : Nat) (hn : n ≤ 8) (hM : M 16 3 = nI n) (rule seed : Int32) : ab_ms scr 3 [.ref 30, .int rule, .int seed] M = some (opC n rule seed M, none) := by
  rw [ms3]
  simp only [q3_0, q3_1, q3_2, q3_5, q3_6, q3_7, q3_10, q3_11, q3_12, q3_15, q3_16, q3_18, q3_21, q3_22, q3_23, q3_26, q3_27, q3_29, q3_30, q3_33, q3_36, q3_39, q3_40, q3_43, q3_44, q3_45, q3_46, q3_49, q3_52, q3_54, q3_55, q3_56, q3_57, q3_60, q3_61, q3_64, q3_65, q3_66, q3_67, q3_70, q3_73, q3_76, n10, n01, Bool.false_eq_true, ab_bs, ab_bn, ab_pr0, ab_pr1, nl_n, nl_i, nl_r, nl_j, nl_nl, rc_30, gf_30_0, gf_30_1, gf_30_2, gf_30_3, pt_30_3, gf_30_4, pt_30_4, gf_30_5, pt_30_5, gf_30_6, pt_30_6, gf_30_7, pt_30_7, gf_30_8, pt_30_8, gf_30_9, pt_30_9_0, pt_30_9_1, gf_30_10, pt_30_10, gf_30_11, pt_30_11, gf_30_12, pt_30_12, gf_30_13, pt_30_13]
  refine Eq.trans ?_ ((rn (fun k => ab_res scr 3 1 (sw k (opF M) (op0 rule seed M)) 28 [some (.ref 30), some (.int rule), some (.int seed), some (.int (nI k))] []) (n) (fun k hk => ?_)).trans ?_)
  · rw [sw_0]
    rfl
  · have h1 : ¬ nI n ≤ nI k := nI_ge hk (by omega)
    have h3 : k < 8 := by omega
    have h2 : k < 2 ^ 31 := by omega
    have h4 : sw k (opF M) (op0 rule seed M) 16 3 = nI n := by rw [sw_c (by decide), op0_n (by decide), hM]
    rw [q3_28]
    simp only [q3_0, q3_1, q3_2, q3_5, q3_6, q3_7, q3_10, q3_11, q3_12, q3_15, q3_16, q3_18, q3_21, q3_22, q3_23, q3_26, q3_27, q3_29, q3_30, q3_33, q3_36, q3_39, q3_40, q3_43, q3_44, q3_45, q3_46, q3_49, q3_52, q3_54, q3_55, q3_56, q3_57, q3_60, q3_61, q3_64, q3_65, q3_66, q3_67, q3_70, q3_73, q3_76, n10, n01, Bool.false_eq_true, ab_bs, ab_bn, ab_pr0, ab_pr1, nl_n, nl_i, nl_r, nl_j, nl_nl, rc_16, gf_16_0, gf_16_1, gf_16_2, gf_16_3, pt_16_3, gf_16_4, pt_16_4, gf_16_5, pt_16_5, qe_17_0, qe_17_1, qe_17_2, qe_17_3, qe_17_4, qe_17_5, qe_17_6, qe_17_7, qe_17, rc_30, gf_30_0, gf_30_1, gf_30_2, gf_30_3, pt_30_3, gf_30_4, pt_30_4, gf_30_5, pt_30_5, gf_30_6, pt_30_6, gf_30_7, pt_30_7, gf_30_8, pt_30_8, gf_30_9, pt_30_9_0, pt_30_9_1, gf_30_10, pt_30_10, gf_30_11, pt_30_11, gf_30_12, pt_30_12, gf_30_13, pt_30_13, ln_25, al_25, si_25, h4, h1, if_false, qe_31 h3, rc_seat h3, nI_succ, nI_clamp h2, ib8 h3, if_true, qe_17_7, al_25, pt_seat h3 (show 0 < 8 by decide), pt_seat h3 (show 7 < 8 by decide)]
    congr 1
    refine sw_step (fun c j hc => ?_) (fun j => ?_)
    · rw [up_sn hc, up_sn hc]
    · rw [up_ss, up_ss, sw_k, sw_c (by decide), op0_n (by decide), op0_n (by omega)]
      rfl
  · have h4 : sw n (opF M) (op0 rule seed M) 16 3 = nI n := by rw [sw_c (by decide), op0_n (by decide), hM]
    show ab_res scr 3 1 _ 28 _ [] = _
    rw [q3_28]
    simp only [q3_0, q3_1, q3_2, q3_5, q3_6, q3_7, q3_10, q3_11, q3_12, q3_15, q3_16, q3_18, q3_21, q3_22, q3_23, q3_26, q3_27, q3_29, q3_30, q3_33, q3_36, q3_39, q3_40, q3_43, q3_44, q3_45, q3_46, q3_49, q3_52, q3_54, q3_55, q3_56, q3_57, q3_60, q3_61, q3_64, q3_65, q3_66, q3_67, q3_70, q3_73, q3_76, n10, n01, Bool.false_eq_true, ab_bs, ab_bn, ab_pr0, ab_pr1, nl_n, nl_i, nl_r, nl_j, nl_nl, rc_16, gf_16_0, gf_16_1, gf_16_2, gf_16_3, pt_16_3, gf_16_4, pt_16_4, gf_16_5, pt_16_5, rc_30, gf_30_0, gf_30_1, gf_30_2, gf_30_3, pt_30_3, gf_30_4, pt_30_4, gf_30_5, pt_30_5, gf_30_6, pt_30_6, gf_30_7, pt_30_7, gf_30_8, pt_30_8, gf_30_9, pt_30_9_0, pt_30_9_1, gf_30_10, pt_30_10, gf_30_11, pt_30_11, gf_30_12, pt_30_12, gf_30_13, pt_30_13, h4, nI_rfl, if_true]
    rfl
theorem sp_openFree {scr : Option (List Int32)} (M : ab_M) (n : Nat) (hn : n ≤ 8) (hM : M 16 3 = nI n) : ab_ms scr 4 [.ref 30] M = some (ab_up (opC n 0 0 M) 30 9 0, none) := by
  rw [ms4]
  simp only [q4_0, q4_1, q4_2, q4_3, q4_6, q4_7, q4_8, q4_11, n10, n01, Bool.false_eq_true, ab_bs, ab_bn, ab_pr0, ab_pr1, nl_n, nl_i, nl_r, nl_j, nl_nl, rc_30, gf_30_0, gf_30_1, gf_30_2, gf_30_3, pt_30_3, gf_30_4, pt_30_4, gf_30_5, pt_30_5, gf_30_6, pt_30_6, gf_30_7, pt_30_7, gf_30_8, pt_30_8, gf_30_9, pt_30_9_0, pt_30_9_1, gf_30_10, pt_30_10, gf_30_11, pt_30_11, gf_30_12, pt_30_12, gf_30_13, pt_30_13, sp_open M n hn hM]
def coF (M : ab_M) (p j : Nat) : Int32 := if j = 0 then oX M p else M (33 + p) j
theorem sp_carryOn {scr : Option (List Int32)} (M : ab_M) (n : Nat) (hn : n ≤ 8) (hM : M 16 3 = nI n) : ab_ms scr 5 [.ref 30] M = some (sw n (coF M) M, none) := by
  rw [ms5]
  simp only [q5_0, q5_1, q5_3, q5_4, q5_7, q5_10, q5_13, q5_14, q5_17, q5_18, q5_19, q5_20, q5_23, q5_24, q5_25, q5_28, q5_31, q5_34, q5_37, n10, n01, Bool.false_eq_true, ab_bs, ab_bn, ab_pr0, ab_pr1, nl_n, nl_i, nl_r, nl_j, nl_nl, rc_30, gf_30_0, gf_30_1, gf_30_2, gf_30_3, pt_30_3, gf_30_4, pt_30_4, gf_30_5, pt_30_5, gf_30_6, pt_30_6, gf_30_7, pt_30_7, gf_30_8, pt_30_8, gf_30_9, pt_30_9_0, pt_30_9_1, gf_30_10, pt_30_10, gf_30_11, pt_30_11, gf_30_12, pt_30_12, gf_30_13, pt_30_13]
  refine Eq.trans ?_ ((rn (fun k => ab_res scr 5 2 (sw k (coF M) M) 2 [some (.ref 30), some (.int (nI k))] []) (n) (fun k hk => ?_)).trans ?_)
  · rw [sw_0]
    rfl
  · have h1 : ¬ nI n ≤ nI k := nI_ge hk (by omega)
    have h3 : k < 8 := by omega
    have h4 : sw k (coF M) M 16 3 = nI n := by rw [sw_c (by decide), hM]
    rw [q5_2]
    simp only [q5_0, q5_1, q5_3, q5_4, q5_7, q5_10, q5_13, q5_14, q5_17, q5_18, q5_19, q5_20, q5_23, q5_24, q5_25, q5_28, q5_31, q5_34, q5_37, n10, n01, Bool.false_eq_true, ab_bs, ab_bn, ab_pr0, ab_pr1, nl_n, nl_i, nl_r, nl_j, nl_nl, rc_16, gf_16_0, gf_16_1, gf_16_2, gf_16_3, pt_16_3, gf_16_4, pt_16_4, gf_16_5, pt_16_5, rc_30, gf_30_0, gf_30_1, gf_30_2, gf_30_3, pt_30_3, gf_30_4, pt_30_4, gf_30_5, pt_30_5, gf_30_6, pt_30_6, gf_30_7, pt_30_7, gf_30_8, pt_30_8, gf_30_9, pt_30_9_0, pt_30_9_1, gf_30_10, pt_30_10, gf_30_11, pt_30_11, gf_30_12, pt_30_12, gf_30_13, pt_30_13, h4, h1, if_false, qe_31 h3, rc_seat h3, nI_succ, sp_out _ _ h3, pt_seat h3 (show 0 < 8 by decide), if_true]
    congr 1
    refine sw_step (fun c j hc => ?_) (fun j => ?_)
    · rw [up_sn hc]
    · rw [up_ss, sw_k, sw_k, sw_k, sw_k]
      rfl
  · have h4 : sw n (coF M) M 16 3 = nI n := by rw [sw_c (by decide), hM]
    show ab_res scr 5 2 _ 2 _ [] = _
    rw [q5_2]
    simp only [q5_0, q5_1, q5_3, q5_4, q5_7, q5_10, q5_13, q5_14, q5_17, q5_18, q5_19, q5_20, q5_23, q5_24, q5_25, q5_28, q5_31, q5_34, q5_37, n10, n01, Bool.false_eq_true, ab_bs, ab_bn, ab_pr0, ab_pr1, nl_n, nl_i, nl_r, nl_j, nl_nl, rc_16, gf_16_0, gf_16_1, gf_16_2, gf_16_3, pt_16_3, gf_16_4, pt_16_4, gf_16_5, pt_16_5, rc_30, gf_30_0, gf_30_1, gf_30_2, gf_30_3, pt_30_3, gf_30_4, pt_30_4, gf_30_5, pt_30_5, gf_30_6, pt_30_6, gf_30_7, pt_30_7, gf_30_8, pt_30_8, gf_30_9, pt_30_9_0, pt_30_9_1, gf_30_10, pt_30_10, gf_30_11, pt_30_11, gf_30_12, pt_30_12, gf_30_13, pt_30_13, h4, nI_rfl, if_true]
