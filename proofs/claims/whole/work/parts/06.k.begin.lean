/-! beginRound -/
def owN (n : Nat) (M : ab_M) : Int32 := fo (fun p s => if tb (M 30 13) p = true then (if M 22 p - M (33 + p) 2 < M 20 p then s else s ||| bt p) else s) n 0
def prC (n : Nat) (who : Int32) (M : ab_M) : Int32 := fo (fun p s => if tb who p = true then s + M 20 p else s) n 0
def grC (n : Nat) (M : ab_M) : Int32 := fo (fun p s => if tb (M 30 12) p = true then (if s < ia (oX M p) then ia (oX M p) else s) else s) n 0
def evX (n : Nat) (M : ab_M) : ab_M := ab_up M 30 5 (if M 30 5 < grC n M then grC n M else M 30 5)
def bgO (n : Nat) (m : Int32) (M : ab_M) : ab_M :=
  let B := puC n (owN n M) m (ntC m (-4) (prC n (owN n M) M) (owN n M) M)
  evX n (sw n (poF (owN n M) B) B)
def bgB (n : Nat) (m : Int32) (w : Nat) (co em : Int32) (M1 : ab_M) : ab_M := evX n (pyC w co (puC n em m (ntC m (nI w) co em M1)))
theorem ntC_lo {m bu co got : Int32} {M : ab_M} {c j : Nat} (h : c < 41) (h2 : c ≠ 30) : ntC m bu co got M c j = M c j := by
  unfold ntC
  rw [up_n h2, up_n h2, up_n h2, up_rl h, up_rl h, up_rl h, up_rl h, up_rl h]
theorem puC_lo {n : Nat} {got m : Int32} {M : ab_M} {c j : Nat} (h : c < 33) (h2 : c ≠ 30) : puC n got m M c j = M c j := by
  unfold puC
  rw [up_n h2, sw_c h]
theorem pyC_lo {b : Nat} {co : Int32} {M : ab_M} {c j : Nat} (h : c < 33) (h2 : c ≠ 30) : pyC b co M c j = M c j := by
  unfold pyC
  rw [up_n h2, up_sl h, up_sl h, up_sl h]
theorem byM_n {M : ab_M} {c j : Nat} (h : c ≠ 30) : byM M c j = M c j := by
  unfold byM
  split
  · rw [up_n h]
  · rfl
theorem byM_30 {M : ab_M} {j : Nat} (h : j ≠ 7) : byM M 30 j = M 30 j := by
  unfold byM
  split
  · rw [up_ll, if_neg h]
  · rfl
theorem bg_own0 {scr : Option (List Int32)} (M : ab_M) (n i : Nat) (hn : n ≤ 8) (hM : M 16 3 = nI n) (hi : i < 40) (hi2 : M 30 3 = nI i) (m : Int32) (hr : M 30 8 = 6) (h0 : owN n M = 0) : ab_ms scr 14 [.ref 30, .int m] M = some (M, some (.int 0)) := by
  have h1 := sp_whoCanPayOwn (scr := scr) M n hn hM
  rw [show fo (fun p s => if tb (M 30 13) p = true then (if M 22 p - M (33 + p) 2 < M 20 p then s else s ||| bt p) else s) n 0 = owN n M from rfl, h0] at h1
  rw [ms14]
  simp only [q14_0, q14_1, q14_4, q14_6, q14_9, q14_10, q14_13, q14_16, q14_17, q14_20, q14_21, q14_22, q14_23, q14_26, q14_27, q14_28, q14_31, q14_33, q14_36, q14_38, q14_41, q14_42, q14_43, q14_46, q14_48, q14_49, q14_52, q14_54, q14_56, q14_59, q14_60, q14_63, q14_65, q14_68, q14_69, q14_70, q14_71, q14_72, q14_74, q14_75, q14_76, q14_79, q14_80, q14_81, q14_82, q14_85, q14_87, q14_89, q14_92, q14_93, q14_94, q14_97, q14_100, q14_101, q14_103, q14_104, q14_107, q14_108, q14_109, q14_112, q14_113, q14_116, q14_119, q14_122, q14_123, n10, n01, Bool.false_eq_true, ab_bs, ab_bn, ab_pr0, ab_pr1, nl_n, nl_i, nl_r, nl_j, nl_nl, rc_30, gf_30_0, gf_30_1, gf_30_2, gf_30_3, pt_30_3, gf_30_4, pt_30_4, gf_30_5, pt_30_5, gf_30_6, pt_30_6, gf_30_7, pt_30_7, gf_30_8, pt_30_8, gf_30_9, pt_30_9_0, pt_30_9_1, gf_30_10, pt_30_10, gf_30_11, pt_30_11, gf_30_12, pt_30_12, gf_30_13, pt_30_13, hr, not_true, if_false, h1, sp_sumOfPrices M n hn hM, if_true, narrow_b0]
theorem bg_own {scr : Option (List Int32)} (M : ab_M) (n i : Nat) (hn : n ≤ 8) (hM : M 16 3 = nI n) (hi : i < 40) (hi2 : M 30 3 = nI i) (m : Int32) (hr : M 30 8 = 6) (h0 : owN n M ≠ 0) : ab_ms scr 14 [.ref 30, .int m] M = some (bgO n m M, some (.int 1)) := by
  have h1 := sp_whoCanPayOwn (scr := scr) M n hn hM
  rw [show fo (fun p s => if tb (M 30 13) p = true then (if M 22 p - M (33 + p) 2 < M 20 p then s else s ||| bt p) else s) n 0 = owN n M from rfl] at h1
  have h2 := sp_sumOfPrices (scr := scr) M n hn hM (owN n M)
  rw [show fo (fun p s => if tb (owN n M) p = true then s + M 20 p else s) n 0 = prC n (owN n M) M from rfl] at h2
  have h3 := sp_note (scr := scr) M i hi hi2 m (-4) (prC n (owN n M) M) (owN n M)
  have hA : ntC m (-4) (prC n (owN n M) M) (owN n M) M 16 3 = nI n := by rw [ntC_lo (by decide) (by decide), hM]
  have h4 := sp_pour (scr := scr) (ntC m (-4) (prC n (owN n M) M) (owN n M) M) n hn hA (owN n M) m
  have hB : puC n (owN n M) m (ntC m (-4) (prC n (owN n M) M) (owN n M) M) 16 3 = nI n := by rw [puC_lo (by decide) (by decide), hA]
  have h5 := sp_payOwn (scr := scr) (puC n (owN n M) m (ntC m (-4) (prC n (owN n M) M) (owN n M) M)) n hn hB (owN n M)
  unfold bgO
  generalize (puC n (owN n M) m (ntC m (-4) (prC n (owN n M) M) (owN n M) M)) = B at h4 hB h5
  generalize (ntC m (-4) (prC n (owN n M) M) (owN n M) M) = A at h3 h4 hA
  generalize owN n M = got at *
  generalize prC n got M = co at *
  rw [ms14]
  have hC : sw n (poF got B) B 16 3 = nI n := by rw [sw_c (by decide), hB]
  simp only [q14_0, q14_1, q14_4, q14_6, q14_9, q14_10, q14_13, q14_16, q14_17, q14_20, q14_21, q14_22, q14_23, q14_26, q14_27, q14_28, q14_31, q14_33, q14_36, q14_38, q14_41, q14_42, q14_43, q14_46, q14_48, q14_49, q14_52, q14_54, q14_56, q14_59, q14_60, q14_63, q14_65, q14_68, q14_69, q14_70, q14_71, q14_72, q14_74, q14_75, q14_76, q14_79, q14_80, q14_81, q14_82, q14_85, q14_87, q14_89, q14_92, q14_93, q14_94, q14_97, q14_100, q14_101, q14_103, q14_104, q14_107, q14_108, q14_109, q14_112, q14_113, q14_116, q14_119, q14_122, q14_123, n10, n01, Bool.false_eq_true, ab_bs, ab_bn, ab_pr0, ab_pr1, nl_n, nl_i, nl_r, nl_j, nl_nl, rc_30, gf_30_0, gf_30_1, gf_30_2, gf_30_3, pt_30_3, gf_30_4, pt_30_4, gf_30_5, pt_30_5, gf_30_6, pt_30_6, gf_30_7, pt_30_7, gf_30_8, pt_30_8, gf_30_9, pt_30_9_0, pt_30_9_1, gf_30_10, pt_30_10, gf_30_11, pt_30_11, gf_30_12, pt_30_12, gf_30_13, pt_30_13, hr, not_true, if_false, h1, h2, h0, if_true, (show ¬ (-4 : Int32) = 0 by decide), narrow_b1, h3, h4, h5, sp_greatestOut _ n hn hC]
  rfl
theorem bg_dry {scr : Option (List Int32)} (M : ab_M) (n i : Nat) (hn : n ≤ 8) (hM : M 16 3 = nI n) (hi : i < 40) (hi2 : M 30 3 = nI i) (m : Int32) (hr : M 30 8 ≠ 6) (he : M 30 13 ≠ 0) (h0 : abC n (prC n (M 30 13) M) M = 0) : ab_ms scr 14 [.ref 30, .int m] M = some (M, some (.int 0)) := by
  have h2 := sp_sumOfPrices (scr := scr) M n hn hM (M 30 13)
  rw [show fo (fun p s => if tb (M 30 13) p = true then s + M 20 p else s) n 0 = prC n (M 30 13) M from rfl] at h2
  have h3 := sp_buyer0 (scr := scr) M n hn hM _ h0
  rw [ms14]
  simp only [q14_0, q14_1, q14_4, q14_6, q14_9, q14_10, q14_13, q14_16, q14_17, q14_20, q14_21, q14_22, q14_23, q14_26, q14_27, q14_28, q14_31, q14_33, q14_36, q14_38, q14_41, q14_42, q14_43, q14_46, q14_48, q14_49, q14_52, q14_54, q14_56, q14_59, q14_60, q14_63, q14_65, q14_68, q14_69, q14_70, q14_71, q14_72, q14_74, q14_75, q14_76, q14_79, q14_80, q14_81, q14_82, q14_85, q14_87, q14_89, q14_92, q14_93, q14_94, q14_97, q14_100, q14_101, q14_103, q14_104, q14_107, q14_108, q14_109, q14_112, q14_113, q14_116, q14_119, q14_122, q14_123, n10, n01, Bool.false_eq_true, ab_bs, ab_bn, ab_pr0, ab_pr1, nl_n, nl_i, nl_r, nl_j, nl_nl, rc_30, gf_30_0, gf_30_1, gf_30_2, gf_30_3, pt_30_3, gf_30_4, pt_30_4, gf_30_5, pt_30_5, gf_30_6, pt_30_6, gf_30_7, pt_30_7, gf_30_8, pt_30_8, gf_30_9, pt_30_9_0, pt_30_9_1, gf_30_10, pt_30_10, gf_30_11, pt_30_11, gf_30_12, pt_30_12, gf_30_13, pt_30_13, hr, not_false_eq_true, if_true, h2, h3, he, if_false, not_true, narrow_b0]
theorem bg_buy {scr : Option (List Int32)} (M : ab_M) (n i : Nat) (hn : n ≤ 8) (hM : M 16 3 = nI n) (hi : i < 40) (hi2 : M 30 3 = nI i) (m : Int32) (hr : M 30 8 ≠ 6) (he : M 30 13 ≠ 0) (w : Nat) (hw : w < 8) (h0 : ab_ms scr 22 [.ref 30, .int (prC n (M 30 13) M)] M = some (byM M, some (.int (nI w)))) : ab_ms scr 14 [.ref 30, .int m] M = some (bgB n m w (prC n (M 30 13) M) (M 30 13) (byM M), some (.int 1)) := by
  have h2 := sp_sumOfPrices (scr := scr) M n hn hM (M 30 13)
  rw [show fo (fun p s => if tb (M 30 13) p = true then s + M 20 p else s) n 0 = prC n (M 30 13) M from rfl] at h2
  have hw4 : ¬ nI w = -4 := by rw [nI_n4 hw]; exact not_false
  have h3 := sp_note (scr := scr) (byM M) i hi (by rw [byM_30 (by decide), hi2]) m (nI w) (prC n (M 30 13) M) (M 30 13)
  have hA : ntC m (nI w) (prC n (M 30 13) M) (M 30 13) (byM M) 16 3 = nI n := by rw [ntC_lo (by decide) (by decide), byM_n (by decide), hM]
  have h4 := sp_pour (scr := scr) (ntC m (nI w) (prC n (M 30 13) M) (M 30 13) (byM M)) n hn hA (M 30 13) m
  have hB : puC n (M 30 13) m (ntC m (nI w) (prC n (M 30 13) M) (M 30 13) (byM M)) 16 3 = nI n := by rw [puC_lo (by decide) (by decide), hA]
  unfold bgB
  generalize (puC n (M 30 13) m (ntC m (nI w) (prC n (M 30 13) M) (M 30 13) (byM M))) = B at h4 hB
  generalize (ntC m (nI w) (prC n (M 30 13) M) (M 30 13) (byM M)) = A at h3 h4 hA
  generalize prC n (M 30 13) M = co at *
  have h5 := sp_pay (scr := scr) B w hw co
  have hC : pyC w co B 16 3 = nI n := by rw [pyC_lo (by decide) (by decide), hB]
  have h8 : byM M 30 13 = M 30 13 := byM_30 (by decide)
  rw [ms14]
  simp only [q14_0, q14_1, q14_4, q14_6, q14_9, q14_10, q14_13, q14_16, q14_17, q14_20, q14_21, q14_22, q14_23, q14_26, q14_27, q14_28, q14_31, q14_33, q14_36, q14_38, q14_41, q14_42, q14_43, q14_46, q14_48, q14_49, q14_52, q14_54, q14_56, q14_59, q14_60, q14_63, q14_65, q14_68, q14_69, q14_70, q14_71, q14_72, q14_74, q14_75, q14_76, q14_79, q14_80, q14_81, q14_82, q14_85, q14_87, q14_89, q14_92, q14_93, q14_94, q14_97, q14_100, q14_101, q14_103, q14_104, q14_107, q14_108, q14_109, q14_112, q14_113, q14_116, q14_119, q14_122, q14_123, n10, n01, Bool.false_eq_true, ab_bs, ab_bn, ab_pr0, ab_pr1, nl_n, nl_i, nl_r, nl_j, nl_nl, rc_30, gf_30_0, gf_30_1, gf_30_2, gf_30_3, pt_30_3, gf_30_4, pt_30_4, gf_30_5, pt_30_5, gf_30_6, pt_30_6, gf_30_7, pt_30_7, gf_30_8, pt_30_8, gf_30_9, pt_30_9_0, pt_30_9_1, gf_30_10, pt_30_10, gf_30_11, pt_30_11, gf_30_12, pt_30_12, gf_30_13, pt_30_13, hr, not_false_eq_true, if_true, h2, h0, he, if_false, not_true, hw4, h8, h3, h4, h5, narrow_b1, sp_greatestOut _ n hn hC]
  rfl
