/-! table: the reference takes a token -/
theorem in_tst : ∀ b, b < 256 → (((97 : Int64) ≤ (nI b).toInt64 ∧ (nI b).toInt64 ≤ 122) = (isL b = true)) ∧ (((48 : Int64) ≤ (nI b).toInt64 ∧ (nI b).toInt64 ≤ 57) = (isF b = true)) ∧ ((nI b = 32) = (b = 32)) ∧ ((nI b = 59) = (b = 59)) ∧ ¬ nI b = -4 := by
  have : ∀ b, b < 256 → (decide ((97 : Int64) ≤ (nI b).toInt64 ∧ (nI b).toInt64 ≤ 122) = decide (isL b = true)) ∧ (decide ((48 : Int64) ≤ (nI b).toInt64 ∧ (nI b).toInt64 ≤ 57) = decide (isF b = true)) ∧ (decide (nI b = 32) = decide (b = 32)) ∧ (decide (nI b = 59) = decide (b = 59)) ∧ ¬ nI b = -4 := by decide +kernel
  intro b hb
  obtain ⟨a1, a2, a3, a4, a5⟩ := this b hb
  exact ⟨propext (decide_eq_decide.mp a1), propext (decide_eq_decide.mp a2), propext (decide_eq_decide.mp a3), propext (decide_eq_decide.mp a4), a5⟩
section
variable {scr : Option (List Int32)} {B : Nat → Nat} {L : Nat}
def bA (B : Nat → Nat) (L j : Nat) : Int32 := if j < L then nI (B j) else -4
theorem sp_byteAt {N : ab_M} (hT : TR B L N) {j : Nat} (hj : j ≤ 400) : ab_ms scr 124 [.ref 123, .int (nI j)] N = some (N, some (.int (bA B L j))) := by
  obtain ⟨hL, t1, t2⟩ := hT
  rw [ms124]
  unfold bA
  by_cases x : j < L
  · have x1 : ¬ nI L ≤ nI j := nI_ge x (by omega)
    simp only [q124_0, q124_1, q124_2, q124_5, q124_8, q124_9, q124_12, q124_13, q124_14, q124_17, q124_19, n10, n01, Bool.false_eq_true, ab_bs, ab_bn, ab_pr0, ab_pr1, nl_n, nl_i, nl_r, nl_j, nl_nl, rc_123, gf_123_0, gf_123_1, pt_123_1, gf_123_2, pt_123_2, gf_123_3, pt_123_3, gf_123_4, pt_123_4, gf_123_5, pt_123_5, gf_123_6, pt_123_6, gf_123_7, pt_123_7, gf_123_8, pt_123_8, gf_123_9, gf_123_10, gf_123_11, gf_123_12, gf_123_13, pt_123_13_0, pt_123_13_1, gf_123_14, pt_123_14_0, pt_123_14_1, gf_123_15, gf_123_16, gf_123_17, gf_123_18, gf_123_19, gf_123_20, gf_123_21, gf_123_22, gf_123_23, gf_123_24, gf_123_25, pt_123_25, gf_123_26, gf_123_27, pt_123_27, gf_123_28, pt_123_28, gf_123_29, gf_123_30, pt_123_30, gf_123_31, pt_123_31, gf_123_32, pt_123_32, gf_123_33, pt_123_33, gf_123_34, pt_123_34_0, pt_123_34_1, gf_123_35, gf_123_36, gf_123_37, gf_123_38, pt_123_38, gf_123_39, pt_123_39, gf_123_40, pt_123_40, gf_123_41, gf_123_42, gf_123_43, gf_123_44, gf_123_45, gf_123_46, gf_123_47, pt_123_47, ln_124, al_124, si_124, t1, x1, if_false, (show ab_inB (nI j) 320 = true from ib_nI (by omega) (by decide)), nI_clamp (show j < 2 ^ 31 by omega), if_true, (t2 j x).2, x]
  · have x1 : nI L ≤ nI j := (nI_leI (by omega) (by omega)).mpr (by omega)
    simp only [q124_0, q124_1, q124_2, q124_5, q124_8, q124_9, q124_12, q124_13, q124_14, q124_17, q124_19, n10, n01, Bool.false_eq_true, ab_bs, ab_bn, ab_pr0, ab_pr1, nl_n, nl_i, nl_r, nl_j, nl_nl, rc_123, gf_123_0, gf_123_1, pt_123_1, gf_123_2, pt_123_2, gf_123_3, pt_123_3, gf_123_4, pt_123_4, gf_123_5, pt_123_5, gf_123_6, pt_123_6, gf_123_7, pt_123_7, gf_123_8, pt_123_8, gf_123_9, gf_123_10, gf_123_11, gf_123_12, gf_123_13, pt_123_13_0, pt_123_13_1, gf_123_14, pt_123_14_0, pt_123_14_1, gf_123_15, gf_123_16, gf_123_17, gf_123_18, gf_123_19, gf_123_20, gf_123_21, gf_123_22, gf_123_23, gf_123_24, gf_123_25, pt_123_25, gf_123_26, gf_123_27, pt_123_27, gf_123_28, pt_123_28, gf_123_29, gf_123_30, pt_123_30, gf_123_31, pt_123_31, gf_123_32, pt_123_32, gf_123_33, pt_123_33, gf_123_34, pt_123_34_0, pt_123_34_1, gf_123_35, gf_123_36, gf_123_37, gf_123_38, pt_123_38, gf_123_39, pt_123_39, gf_123_40, pt_123_40, gf_123_41, gf_123_42, gf_123_43, gf_123_44, gf_123_45, gf_123_46, gf_123_47, pt_123_47, t1, x1, if_true, x, if_false]
theorem TR_up {N : ab_M} (h : TR B L N) {j : Nat} {v : Int32} (hj : j ≠ 1) : TR B L (ab_up N 123 j v) := ⟨h.1, by rw [up_o _ _ _ _ _ _ (by omega)]; exact h.2.1, fun i hi => by rw [up_n (by decide)]; exact h.2.2 i hi⟩
theorem sp_fails {N : ab_M} {c : Int32} : ab_ms scr 125 [.ref 123, .int c] N = some (if N 123 3 = 0 then ab_up (ab_up N 123 3 c) 123 4 (N 123 6) else N, none) := by
  rw [ms125]
  by_cases h : N 123 3 = 0
  · simp only [q125_0, q125_1, q125_4, q125_7, q125_8, q125_9, q125_12, q125_13, q125_14, q125_17, q125_20, n10, n01, Bool.false_eq_true, ab_bs, ab_bn, ab_pr0, ab_pr1, nl_n, nl_i, nl_r, nl_j, nl_nl, rc_123, gf_123_0, gf_123_1, pt_123_1, gf_123_2, pt_123_2, gf_123_3, pt_123_3, gf_123_4, pt_123_4, gf_123_5, pt_123_5, gf_123_6, pt_123_6, gf_123_7, pt_123_7, gf_123_8, pt_123_8, gf_123_9, gf_123_10, gf_123_11, gf_123_12, gf_123_13, pt_123_13_0, pt_123_13_1, gf_123_14, pt_123_14_0, pt_123_14_1, gf_123_15, gf_123_16, gf_123_17, gf_123_18, gf_123_19, gf_123_20, gf_123_21, gf_123_22, gf_123_23, gf_123_24, gf_123_25, pt_123_25, gf_123_26, gf_123_27, pt_123_27, gf_123_28, pt_123_28, gf_123_29, gf_123_30, pt_123_30, gf_123_31, pt_123_31, gf_123_32, pt_123_32, gf_123_33, pt_123_33, gf_123_34, pt_123_34_0, pt_123_34_1, gf_123_35, gf_123_36, gf_123_37, gf_123_38, pt_123_38, gf_123_39, pt_123_39, gf_123_40, pt_123_40, gf_123_41, gf_123_42, gf_123_43, gf_123_44, gf_123_45, gf_123_46, gf_123_47, pt_123_47, h, not_true, if_false, if_true, up_o N 123 3 123 6 c (by decide)]
  · simp only [q125_0, q125_1, q125_4, q125_7, q125_8, q125_9, q125_12, q125_13, q125_14, q125_17, q125_20, n10, n01, Bool.false_eq_true, ab_bs, ab_bn, ab_pr0, ab_pr1, nl_n, nl_i, nl_r, nl_j, nl_nl, rc_123, gf_123_0, gf_123_1, pt_123_1, gf_123_2, pt_123_2, gf_123_3, pt_123_3, gf_123_4, pt_123_4, gf_123_5, pt_123_5, gf_123_6, pt_123_6, gf_123_7, pt_123_7, gf_123_8, pt_123_8, gf_123_9, gf_123_10, gf_123_11, gf_123_12, gf_123_13, pt_123_13_0, pt_123_13_1, gf_123_14, pt_123_14_0, pt_123_14_1, gf_123_15, gf_123_16, gf_123_17, gf_123_18, gf_123_19, gf_123_20, gf_123_21, gf_123_22, gf_123_23, gf_123_24, gf_123_25, pt_123_25, gf_123_26, gf_123_27, pt_123_27, gf_123_28, pt_123_28, gf_123_29, gf_123_30, pt_123_30, gf_123_31, pt_123_31, gf_123_32, pt_123_32, gf_123_33, pt_123_33, gf_123_34, pt_123_34_0, pt_123_34_1, gf_123_35, gf_123_36, gf_123_37, gf_123_38, pt_123_38, gf_123_39, pt_123_39, gf_123_40, pt_123_40, gf_123_41, gf_123_42, gf_123_43, gf_123_44, gf_123_45, gf_123_46, gf_123_47, pt_123_47, h, not_false_eq_true, if_false, if_true]
theorem bA_L {j : Nat} (hT : ∀ i, i < L → B i < 256) : ((97 : Int64) ≤ (bA B L j).toInt64 ∧ (bA B L j).toInt64 ≤ 122) = (j < L ∧ isL (B j) = true) := by
  unfold bA
  by_cases x : j < L
  · rw [if_pos x, (in_tst _ (hT j x)).1]
    simp [x]
  · rw [if_neg x]
    simp only [x, false_and, eq_iff_iff, iff_false]
    decide
theorem bA_F {j : Nat} (hT : ∀ i, i < L → B i < 256) : ((48 : Int64) ≤ (bA B L j).toInt64 ∧ (bA B L j).toInt64 ≤ 57) = (j < L ∧ isF (B j) = true) := by
  unfold bA
  by_cases x : j < L
  · rw [if_pos x, (in_tst _ (hT j x)).2.1]
    simp [x]
  · rw [if_neg x]
    simp only [x, false_and, eq_iff_iff, iff_false]
    decide
/-- the reference's digits -/
def nmR (B : Nat → Nat) (a j : Nat) (N : ab_M) : ab_M := fun c i => if c = 123 ∧ i = 5 then nI (a + j) else if c = 123 ∧ i = 8 then nI (nv B a (min j 3)) else N c i
theorem nr_lo {a j : Nat} {N : ab_M} (h : j < 3) : ab_up (ab_up (nmR B a j N) 123 8 (nI (nv B a (j + 1)))) 123 5 (nI (a + j + 1)) = nmR B a (j + 1) N := by
  funext c i
  unfold ab_up nmR
  by_cases e2 : c = 123 ∧ i = 5
  · simp only [if_pos e2, Nat.add_assoc]
  · by_cases e5 : c = 123 ∧ i = 8
    · simp only [if_neg e2, if_pos e5, Nat.min_eq_left (show j + 1 ≤ 3 by omega)]
    · simp only [if_neg e2, if_neg e5]
theorem nr_hi {a j : Nat} {N : ab_M} (h : 3 ≤ j) : ab_up (ab_up (nmR B a j N) 123 8 (nI (nv B a (min j 3)))) 123 5 (nI (a + j + 1)) = nmR B a (j + 1) N := by
  funext c i
  unfold ab_up nmR
  by_cases e2 : c = 123 ∧ i = 5
  · simp only [if_pos e2, Nat.add_assoc]
  · by_cases e5 : c = 123 ∧ i = 8
    · simp only [if_neg e2, if_pos e5, Nat.min_eq_right (show 3 ≤ j + 1 by omega), Nat.min_eq_right h]
    · simp only [if_neg e2, if_neg e5]
theorem nr_run {N : ab_M} {a e : Nat} {l1 : Option Value} (hT : TR B L N) (h5 : N 123 5 = nI a) (h6 : N 123 6 = nI a) (h8 : N 123 8 = 0) (h1 : a ≤ e) (h2 : e ≤ L) (h3 : ∀ j, a ≤ j → j < e → isF (B j) = true) (h4 : e < L → isF (B e) = false) : ab_res scr 127 2 N 140 [some (.ref 123), l1] [] = ab_res scr 127 2 (nmR B a (e - a) N) 217 [some (.ref 123), l1] [] := by
  obtain ⟨hL, t1, t2⟩ := id hT
  have e0 : nmR B a 0 N = N := by
    funext c i
    unfold nmR
    by_cases e5 : c = 123 ∧ i = 5
    · rw [if_pos e5, e5.1, e5.2, h5]
      rfl
    · rw [if_neg e5]
      by_cases e8 : c = 123 ∧ i = 8
      · rw [if_pos e8, e8.1, e8.2, h8]
        rfl
      · rw [if_neg e8]
  have hTk : ∀ k, TR B L (nmR B a k N) := fun k => ⟨hL, t1, t2⟩
  have y : ∀ k, nmR B a k N 123 5 = nI (a + k) ∧ nmR B a k N 123 6 = nI a ∧ nmR B a k N 123 8 = nI (nv B a (min k 3)) := fun k => ⟨rfl, h6, rfl⟩
  have e1 := rn (fun k => ab_res scr 127 2 (nmR B a k N) 140 [some (.ref 123), l1] []) (e - a) (fun k hk => ?_)
  · have e1 : ab_res scr 127 2 (nmR B a 0 N) 140 [some (.ref 123), l1] [] = ab_res scr 127 2 (nmR B a (e - a) N) 140 [some (.ref 123), l1] [] := e1
    rw [e0] at e1
    rw [e1]
    obtain ⟨y2, y3, y5⟩ := y (e - a)
    rw [show a + (e - a) = e by omega] at y2
    have hT2 := hTk (e - a)
    generalize nmR B a (e - a) N = T at *
    have x1 := sp_byteAt (scr := scr) hT2 (j := e) (by omega)
    have x2 : ¬ (e < L ∧ isF (B e) = true) := fun q => by
      rw [h4 q.1] at q
      cases q.2
    rw [q127_140]
    simp only [q127_0, q127_1, q127_4, q127_7, q127_8, q127_9, q127_10, q127_13, q127_16, q127_18, q127_21, q127_22, q127_23, q127_26, q127_27, q127_28, q127_31, q127_34, q127_35, q127_36, q127_39, q127_42, q127_43, q127_44, q127_47, q127_50, q127_51, q127_52, q127_53, q127_56, q127_57, q127_59, q127_62, q127_63, q127_64, q127_67, q127_70, q127_71, q127_72, q127_75, q127_78, q127_81, q127_84, q127_85, q127_86, q127_89, q127_92, q127_93, q127_96, q127_99, q127_102, q127_105, q127_106, q127_107, q127_110, q127_111, q127_112, q127_115, q127_118, q127_119, q127_120, q127_123, q127_126, q127_127, q127_128, q127_131, q127_134, q127_137, q127_141, q127_142, q127_145, q127_148, q127_149, q127_152, q127_155, q127_158, q127_161, q127_162, q127_163, q127_166, q127_167, q127_170, q127_171, q127_172, q127_175, q127_177, q127_178, q127_181, q127_182, q127_183, q127_184, q127_187, q127_190, q127_191, q127_193, q127_194, q127_197, q127_198, q127_201, q127_204, q127_205, q127_206, q127_209, q127_210, q127_211, q127_214, q127_218, q127_219, q127_222, q127_223, q127_226, q127_227, q127_230, q127_231, q127_232, q127_235, q127_236, q127_237, q127_240, q127_243, q127_244, q127_245, q127_248, q127_249, q127_250, q127_253, q127_254, q127_255, q127_258, q127_259, q127_261, q127_264, q127_265, q127_266, q127_269, n10, n01, Bool.false_eq_true, ab_bs, ab_bn, ab_pr0, ab_pr1, nl_n, nl_i, nl_r, nl_j, nl_nl, rc_123, gf_123_0, gf_123_1, pt_123_1, gf_123_2, pt_123_2, gf_123_3, pt_123_3, gf_123_4, pt_123_4, gf_123_5, pt_123_5, gf_123_6, pt_123_6, gf_123_7, pt_123_7, gf_123_8, pt_123_8, gf_123_9, gf_123_10, gf_123_11, gf_123_12, gf_123_13, pt_123_13_0, pt_123_13_1, gf_123_14, pt_123_14_0, pt_123_14_1, gf_123_15, gf_123_16, gf_123_17, gf_123_18, gf_123_19, gf_123_20, gf_123_21, gf_123_22, gf_123_23, gf_123_24, gf_123_25, pt_123_25, gf_123_26, gf_123_27, pt_123_27, gf_123_28, pt_123_28, gf_123_29, gf_123_30, pt_123_30, gf_123_31, pt_123_31, gf_123_32, pt_123_32, gf_123_33, pt_123_33, gf_123_34, pt_123_34_0, pt_123_34_1, gf_123_35, gf_123_36, gf_123_37, gf_123_38, pt_123_38, gf_123_39, pt_123_39, gf_123_40, pt_123_40, gf_123_41, gf_123_42, gf_123_43, gf_123_44, gf_123_45, gf_123_46, gf_123_47, pt_123_47, y2, x1, sp_in, bA_F (fun i hi => (t2 i hi).1), x2, if_false, if_true]
  · obtain ⟨y2, y3, y5⟩ := y k
    have hT2 := hTk k
    have x1 := sp_byteAt (scr := scr) hT2 (j := a + k) (by omega)
    have x2 : a + k < L ∧ isF (B (a + k)) = true := ⟨by omega, h3 _ (by omega) (by omega)⟩
    have x3 : nI (a + k) - nI a = nI k := by
      rw [pk_sub (by omega), show a + k - a = k by omega]
    have x5 : bA B L (a + k) = nI (B (a + k)) := by unfold bA; rw [if_pos x2.1]
    have x6 := bA_F (B := B) (L := L) (j := a + k) (fun i hi => (t2 i hi).1)
    rw [x5] at x1 x6
    by_cases z : k < 3
    · have z1 : ¬ (3 : Int32) ≤ nI k := nI_ge (a := k) (b := 3) z (by decide)
      have z2 : 10 * nI (nv B a k) + nI (B (a + k)) - 48 = nI (nv B a (k + 1)) := by
        rw [← nm_val (B := B) (a := a) z (fun j hj => h3 (a + j) (by omega) (by omega)), Int32.mul_comm]
      have z3 := nr_lo (B := B) (a := a) (N := N) z
      have z4 : ab_up (nmR B a k N) 123 8 (nI (nv B a (k + 1))) 123 5 = nI (a + k) := by rw [up_o _ _ _ _ _ _ (by decide), y2]
      rw [Nat.min_eq_left (by omega)] at y5
      generalize nmR B a (k + 1) N = T2 at *
      generalize nmR B a k N = T at *
      rw [q127_140]
      simp only [q127_0, q127_1, q127_4, q127_7, q127_8, q127_9, q127_10, q127_13, q127_16, q127_18, q127_21, q127_22, q127_23, q127_26, q127_27, q127_28, q127_31, q127_34, q127_35, q127_36, q127_39, q127_42, q127_43, q127_44, q127_47, q127_50, q127_51, q127_52, q127_53, q127_56, q127_57, q127_59, q127_62, q127_63, q127_64, q127_67, q127_70, q127_71, q127_72, q127_75, q127_78, q127_81, q127_84, q127_85, q127_86, q127_89, q127_92, q127_93, q127_96, q127_99, q127_102, q127_105, q127_106, q127_107, q127_110, q127_111, q127_112, q127_115, q127_118, q127_119, q127_120, q127_123, q127_126, q127_127, q127_128, q127_131, q127_134, q127_137, q127_141, q127_142, q127_145, q127_148, q127_149, q127_152, q127_155, q127_158, q127_161, q127_162, q127_163, q127_166, q127_167, q127_170, q127_171, q127_172, q127_175, q127_177, q127_178, q127_181, q127_182, q127_183, q127_184, q127_187, q127_190, q127_191, q127_193, q127_194, q127_197, q127_198, q127_201, q127_204, q127_205, q127_206, q127_209, q127_210, q127_211, q127_214, q127_218, q127_219, q127_222, q127_223, q127_226, q127_227, q127_230, q127_231, q127_232, q127_235, q127_236, q127_237, q127_240, q127_243, q127_244, q127_245, q127_248, q127_249, q127_250, q127_253, q127_254, q127_255, q127_258, q127_259, q127_261, q127_264, q127_265, q127_266, q127_269, n10, n01, Bool.false_eq_true, ab_bs, ab_bn, ab_pr0, ab_pr1, nl_n, nl_i, nl_r, nl_j, nl_nl, rc_123, gf_123_0, gf_123_1, pt_123_1, gf_123_2, pt_123_2, gf_123_3, pt_123_3, gf_123_4, pt_123_4, gf_123_5, pt_123_5, gf_123_6, pt_123_6, gf_123_7, pt_123_7, gf_123_8, pt_123_8, gf_123_9, gf_123_10, gf_123_11, gf_123_12, gf_123_13, pt_123_13_0, pt_123_13_1, gf_123_14, pt_123_14_0, pt_123_14_1, gf_123_15, gf_123_16, gf_123_17, gf_123_18, gf_123_19, gf_123_20, gf_123_21, gf_123_22, gf_123_23, gf_123_24, gf_123_25, pt_123_25, gf_123_26, gf_123_27, pt_123_27, gf_123_28, pt_123_28, gf_123_29, gf_123_30, pt_123_30, gf_123_31, pt_123_31, gf_123_32, pt_123_32, gf_123_33, pt_123_33, gf_123_34, pt_123_34_0, pt_123_34_1, gf_123_35, gf_123_36, gf_123_37, gf_123_38, pt_123_38, gf_123_39, pt_123_39, gf_123_40, pt_123_40, gf_123_41, gf_123_42, gf_123_43, gf_123_44, gf_123_45, gf_123_46, gf_123_47, pt_123_47, y2, y3, y5, x1, sp_in, x6, x2, and_self, x3, z1, z2, if_false, if_true, (show ¬ (1 : Int32) = 0 by decide), z4, nI_1, z3]
    · have z1 : (3 : Int32) ≤ nI k := (nI_leI (a := 3) (b := k) (by decide) (by omega)).mpr (by omega)
      have z3 := nr_hi (B := B) (a := a) (N := N) (Nat.not_lt.mp z)
      have z4 : ab_up (nmR B a k N) 123 8 (nI (nv B a (min k 3))) 123 5 = nI (a + k) := by rw [up_o _ _ _ _ _ _ (by decide), y2]
      generalize nmR B a (k + 1) N = T2 at *
      generalize nmR B a k N = T at *
      rw [q127_140]
      simp only [q127_0, q127_1, q127_4, q127_7, q127_8, q127_9, q127_10, q127_13, q127_16, q127_18, q127_21, q127_22, q127_23, q127_26, q127_27, q127_28, q127_31, q127_34, q127_35, q127_36, q127_39, q127_42, q127_43, q127_44, q127_47, q127_50, q127_51, q127_52, q127_53, q127_56, q127_57, q127_59, q127_62, q127_63, q127_64, q127_67, q127_70, q127_71, q127_72, q127_75, q127_78, q127_81, q127_84, q127_85, q127_86, q127_89, q127_92, q127_93, q127_96, q127_99, q127_102, q127_105, q127_106, q127_107, q127_110, q127_111, q127_112, q127_115, q127_118, q127_119, q127_120, q127_123, q127_126, q127_127, q127_128, q127_131, q127_134, q127_137, q127_141, q127_142, q127_145, q127_148, q127_149, q127_152, q127_155, q127_158, q127_161, q127_162, q127_163, q127_166, q127_167, q127_170, q127_171, q127_172, q127_175, q127_177, q127_178, q127_181, q127_182, q127_183, q127_184, q127_187, q127_190, q127_191, q127_193, q127_194, q127_197, q127_198, q127_201, q127_204, q127_205, q127_206, q127_209, q127_210, q127_211, q127_214, q127_218, q127_219, q127_222, q127_223, q127_226, q127_227, q127_230, q127_231, q127_232, q127_235, q127_236, q127_237, q127_240, q127_243, q127_244, q127_245, q127_248, q127_249, q127_250, q127_253, q127_254, q127_255, q127_258, q127_259, q127_261, q127_264, q127_265, q127_266, q127_269, n10, n01, Bool.false_eq_true, ab_bs, ab_bn, ab_pr0, ab_pr1, nl_n, nl_i, nl_r, nl_j, nl_nl, rc_123, gf_123_0, gf_123_1, pt_123_1, gf_123_2, pt_123_2, gf_123_3, pt_123_3, gf_123_4, pt_123_4, gf_123_5, pt_123_5, gf_123_6, pt_123_6, gf_123_7, pt_123_7, gf_123_8, pt_123_8, gf_123_9, gf_123_10, gf_123_11, gf_123_12, gf_123_13, pt_123_13_0, pt_123_13_1, gf_123_14, pt_123_14_0, pt_123_14_1, gf_123_15, gf_123_16, gf_123_17, gf_123_18, gf_123_19, gf_123_20, gf_123_21, gf_123_22, gf_123_23, gf_123_24, gf_123_25, pt_123_25, gf_123_26, gf_123_27, pt_123_27, gf_123_28, pt_123_28, gf_123_29, gf_123_30, pt_123_30, gf_123_31, pt_123_31, gf_123_32, pt_123_32, gf_123_33, pt_123_33, gf_123_34, pt_123_34_0, pt_123_34_1, gf_123_35, gf_123_36, gf_123_37, gf_123_38, pt_123_38, gf_123_39, pt_123_39, gf_123_40, pt_123_40, gf_123_41, gf_123_42, gf_123_43, gf_123_44, gf_123_45, gf_123_46, gf_123_47, pt_123_47, y2, y3, y5, x1, sp_in, x6, x2, and_self, x3, z1, if_false, if_true, (show ¬ (1 : Int32) = 0 by decide), z4, nI_1, z3]
theorem lr_run {N : ab_M} {a e : Nat} {l1 : Option Value} (hT : TR B L N) (h5 : N 123 5 = nI a) (h1 : a ≤ e) (h2 : e ≤ L) (h3 : ∀ j, a ≤ j → j < e → isL (B j) = true) (h4 : e < L → isL (B e) = false) : ab_res scr 127 2 N 84 [some (.ref 123), l1] [] = ab_res scr 127 2 (ab_up N 123 5 (nI e)) 118 [some (.ref 123), l1] [] := by
  obtain ⟨hL, t1, t2⟩ := id hT
  have e1 := rn (fun k => ab_res scr 127 2 (ab_up N 123 5 (nI (a + k))) 84 [some (.ref 123), l1] []) (e - a) (fun k hk => ?_)
  · have e0 : ab_up N 123 5 (nI a) = N := by rw [← h5, up_id]
    have e1 : ab_res scr 127 2 (ab_up N 123 5 (nI a)) 84 [some (.ref 123), l1] [] = ab_res scr 127 2 (ab_up N 123 5 (nI (a + (e - a)))) 84 [some (.ref 123), l1] [] := e1
    rw [e0, show a + (e - a) = e by omega] at e1
    rw [e1]
    have x1 := sp_byteAt (scr := scr) (TR_up (v := nI e) hT (show 5 ≠ 1 by decide)) (j := e) (by omega)
    have x2 : ¬ (e < L ∧ isL (B e) = true) := fun q => by
      rw [h4 q.1] at q
      cases q.2
    rw [q127_84]
    simp only [q127_0, q127_1, q127_4, q127_7, q127_8, q127_9, q127_10, q127_13, q127_16, q127_18, q127_21, q127_22, q127_23, q127_26, q127_27, q127_28, q127_31, q127_34, q127_35, q127_36, q127_39, q127_42, q127_43, q127_44, q127_47, q127_50, q127_51, q127_52, q127_53, q127_56, q127_57, q127_59, q127_62, q127_63, q127_64, q127_67, q127_70, q127_71, q127_72, q127_75, q127_78, q127_81, q127_85, q127_86, q127_89, q127_92, q127_93, q127_96, q127_99, q127_102, q127_105, q127_106, q127_107, q127_110, q127_111, q127_112, q127_115, q127_119, q127_120, q127_123, q127_126, q127_127, q127_128, q127_131, q127_134, q127_137, q127_140, q127_141, q127_142, q127_145, q127_148, q127_149, q127_152, q127_155, q127_158, q127_161, q127_162, q127_163, q127_166, q127_167, q127_170, q127_171, q127_172, q127_175, q127_177, q127_178, q127_181, q127_182, q127_183, q127_184, q127_187, q127_190, q127_191, q127_193, q127_194, q127_197, q127_198, q127_201, q127_204, q127_205, q127_206, q127_209, q127_210, q127_211, q127_214, q127_217, q127_218, q127_219, q127_222, q127_223, q127_226, q127_227, q127_230, q127_231, q127_232, q127_235, q127_236, q127_237, q127_240, q127_243, q127_244, q127_245, q127_248, q127_249, q127_250, q127_253, q127_254, q127_255, q127_258, q127_259, q127_261, q127_264, q127_265, q127_266, q127_269, n10, n01, Bool.false_eq_true, ab_bs, ab_bn, ab_pr0, ab_pr1, nl_n, nl_i, nl_r, nl_j, nl_nl, rc_123, gf_123_0, gf_123_1, pt_123_1, gf_123_2, pt_123_2, gf_123_3, pt_123_3, gf_123_4, pt_123_4, gf_123_5, pt_123_5, gf_123_6, pt_123_6, gf_123_7, pt_123_7, gf_123_8, pt_123_8, gf_123_9, gf_123_10, gf_123_11, gf_123_12, gf_123_13, pt_123_13_0, pt_123_13_1, gf_123_14, pt_123_14_0, pt_123_14_1, gf_123_15, gf_123_16, gf_123_17, gf_123_18, gf_123_19, gf_123_20, gf_123_21, gf_123_22, gf_123_23, gf_123_24, gf_123_25, pt_123_25, gf_123_26, gf_123_27, pt_123_27, gf_123_28, pt_123_28, gf_123_29, gf_123_30, pt_123_30, gf_123_31, pt_123_31, gf_123_32, pt_123_32, gf_123_33, pt_123_33, gf_123_34, pt_123_34_0, pt_123_34_1, gf_123_35, gf_123_36, gf_123_37, gf_123_38, pt_123_38, gf_123_39, pt_123_39, gf_123_40, pt_123_40, gf_123_41, gf_123_42, gf_123_43, gf_123_44, gf_123_45, gf_123_46, gf_123_47, pt_123_47, up_s, x1, sp_in, bA_L (fun i hi => (t2 i hi).1), x2, if_false, if_true]
  · have x1 := sp_byteAt (scr := scr) (TR_up (v := nI (a + k)) hT (show 5 ≠ 1 by decide)) (j := a + k) (by omega)
    have x2 : a + k < L ∧ isL (B (a + k)) = true := ⟨by omega, h3 _ (by omega) (by omega)⟩
    rw [q127_84]
    simp only [q127_0, q127_1, q127_4, q127_7, q127_8, q127_9, q127_10, q127_13, q127_16, q127_18, q127_21, q127_22, q127_23, q127_26, q127_27, q127_28, q127_31, q127_34, q127_35, q127_36, q127_39, q127_42, q127_43, q127_44, q127_47, q127_50, q127_51, q127_52, q127_53, q127_56, q127_57, q127_59, q127_62, q127_63, q127_64, q127_67, q127_70, q127_71, q127_72, q127_75, q127_78, q127_81, q127_85, q127_86, q127_89, q127_92, q127_93, q127_96, q127_99, q127_102, q127_105, q127_106, q127_107, q127_110, q127_111, q127_112, q127_115, q127_119, q127_120, q127_123, q127_126, q127_127, q127_128, q127_131, q127_134, q127_137, q127_140, q127_141, q127_142, q127_145, q127_148, q127_149, q127_152, q127_155, q127_158, q127_161, q127_162, q127_163, q127_166, q127_167, q127_170, q127_171, q127_172, q127_175, q127_177, q127_178, q127_181, q127_182, q127_183, q127_184, q127_187, q127_190, q127_191, q127_193, q127_194, q127_197, q127_198, q127_201, q127_204, q127_205, q127_206, q127_209, q127_210, q127_211, q127_214, q127_217, q127_218, q127_219, q127_222, q127_223, q127_226, q127_227, q127_230, q127_231, q127_232, q127_235, q127_236, q127_237, q127_240, q127_243, q127_244, q127_245, q127_248, q127_249, q127_250, q127_253, q127_254, q127_255, q127_258, q127_259, q127_261, q127_264, q127_265, q127_266, q127_269, n10, n01, Bool.false_eq_true, ab_bs, ab_bn, ab_pr0, ab_pr1, nl_n, nl_i, nl_r, nl_j, nl_nl, rc_123, gf_123_0, gf_123_1, pt_123_1, gf_123_2, pt_123_2, gf_123_3, pt_123_3, gf_123_4, pt_123_4, gf_123_5, pt_123_5, gf_123_6, pt_123_6, gf_123_7, pt_123_7, gf_123_8, pt_123_8, gf_123_9, gf_123_10, gf_123_11, gf_123_12, gf_123_13, pt_123_13_0, pt_123_13_1, gf_123_14, pt_123_14_0, pt_123_14_1, gf_123_15, gf_123_16, gf_123_17, gf_123_18, gf_123_19, gf_123_20, gf_123_21, gf_123_22, gf_123_23, gf_123_24, gf_123_25, pt_123_25, gf_123_26, gf_123_27, pt_123_27, gf_123_28, pt_123_28, gf_123_29, gf_123_30, pt_123_30, gf_123_31, pt_123_31, gf_123_32, pt_123_32, gf_123_33, pt_123_33, gf_123_34, pt_123_34_0, pt_123_34_1, gf_123_35, gf_123_36, gf_123_37, gf_123_38, pt_123_38, gf_123_39, pt_123_39, gf_123_40, pt_123_40, gf_123_41, gf_123_42, gf_123_43, gf_123_44, gf_123_45, gf_123_46, gf_123_47, pt_123_47, up_s, x1, sp_in, bA_L (fun i hi => (t2 i hi).1), x2, and_self, if_true, (show ¬ (1 : Int32) = 0 by decide), if_false, up_up, nI_1, Nat.add_assoc]
theorem sr_run {N : ab_M} {s a : Nat} {l1 : Option Value} (hT : TR B L N) (h5 : N 123 5 = nI s) (h1 : s ≤ a) (h2 : a ≤ L) (h3 : ∀ j, s ≤ j → j < a → B j = 32) (h4 : a < L → B a ≠ 32) : ab_res scr 127 2 N 8 [some (.ref 123), l1] [] = ab_res scr 127 2 (ab_up N 123 5 (nI a)) 34 [some (.ref 123), l1] [] := by
  obtain ⟨hL, t1, t2⟩ := id hT
  have e1 := rn (fun k => ab_res scr 127 2 (ab_up N 123 5 (nI (s + k))) 8 [some (.ref 123), l1] []) (a - s) (fun k hk => ?_)
  · have e0 : ab_up N 123 5 (nI s) = N := by rw [← h5, up_id]
    have e1 : ab_res scr 127 2 (ab_up N 123 5 (nI s)) 8 [some (.ref 123), l1] [] = ab_res scr 127 2 (ab_up N 123 5 (nI (s + (a - s)))) 8 [some (.ref 123), l1] [] := e1
    rw [e0, show s + (a - s) = a by omega] at e1
    rw [e1]
    have x1 := sp_byteAt (scr := scr) (TR_up (v := nI a) hT (show 5 ≠ 1 by decide)) (j := a) (by omega)
    have x2 : ¬ bA B L a = 32 := by
      unfold bA
      by_cases x : a < L
      · rw [if_pos x, (in_tst _ (t2 a x).1).2.2.1]
        exact h4 x
      · rw [if_neg x]
        decide
    rw [q127_8]
    simp only [q127_0, q127_1, q127_4, q127_7, q127_9, q127_10, q127_13, q127_16, q127_18, q127_21, q127_22, q127_23, q127_26, q127_27, q127_28, q127_31, q127_35, q127_36, q127_39, q127_42, q127_43, q127_44, q127_47, q127_50, q127_51, q127_52, q127_53, q127_56, q127_57, q127_59, q127_62, q127_63, q127_64, q127_67, q127_70, q127_71, q127_72, q127_75, q127_78, q127_81, q127_84, q127_85, q127_86, q127_89, q127_92, q127_93, q127_96, q127_99, q127_102, q127_105, q127_106, q127_107, q127_110, q127_111, q127_112, q127_115, q127_118, q127_119, q127_120, q127_123, q127_126, q127_127, q127_128, q127_131, q127_134, q127_137, q127_140, q127_141, q127_142, q127_145, q127_148, q127_149, q127_152, q127_155, q127_158, q127_161, q127_162, q127_163, q127_166, q127_167, q127_170, q127_171, q127_172, q127_175, q127_177, q127_178, q127_181, q127_182, q127_183, q127_184, q127_187, q127_190, q127_191, q127_193, q127_194, q127_197, q127_198, q127_201, q127_204, q127_205, q127_206, q127_209, q127_210, q127_211, q127_214, q127_217, q127_218, q127_219, q127_222, q127_223, q127_226, q127_227, q127_230, q127_231, q127_232, q127_235, q127_236, q127_237, q127_240, q127_243, q127_244, q127_245, q127_248, q127_249, q127_250, q127_253, q127_254, q127_255, q127_258, q127_259, q127_261, q127_264, q127_265, q127_266, q127_269, n10, n01, Bool.false_eq_true, ab_bs, ab_bn, ab_pr0, ab_pr1, nl_n, nl_i, nl_r, nl_j, nl_nl, rc_123, gf_123_0, gf_123_1, pt_123_1, gf_123_2, pt_123_2, gf_123_3, pt_123_3, gf_123_4, pt_123_4, gf_123_5, pt_123_5, gf_123_6, pt_123_6, gf_123_7, pt_123_7, gf_123_8, pt_123_8, gf_123_9, gf_123_10, gf_123_11, gf_123_12, gf_123_13, pt_123_13_0, pt_123_13_1, gf_123_14, pt_123_14_0, pt_123_14_1, gf_123_15, gf_123_16, gf_123_17, gf_123_18, gf_123_19, gf_123_20, gf_123_21, gf_123_22, gf_123_23, gf_123_24, gf_123_25, pt_123_25, gf_123_26, gf_123_27, pt_123_27, gf_123_28, pt_123_28, gf_123_29, gf_123_30, pt_123_30, gf_123_31, pt_123_31, gf_123_32, pt_123_32, gf_123_33, pt_123_33, gf_123_34, pt_123_34_0, pt_123_34_1, gf_123_35, gf_123_36, gf_123_37, gf_123_38, pt_123_38, gf_123_39, pt_123_39, gf_123_40, pt_123_40, gf_123_41, gf_123_42, gf_123_43, gf_123_44, gf_123_45, gf_123_46, gf_123_47, pt_123_47, up_s, x1, x2, not_false_eq_true, if_true]
  · have x1 := sp_byteAt (scr := scr) (TR_up (v := nI (s + k)) hT (show 5 ≠ 1 by decide)) (j := s + k) (by omega)
    have x2 : bA B L (s + k) = 32 := by
      unfold bA
      rw [if_pos (by omega), (in_tst _ (t2 (s + k) (by omega)).1).2.2.1]
      exact h3 _ (by omega) (by omega)
    rw [q127_8]
    simp only [q127_0, q127_1, q127_4, q127_7, q127_9, q127_10, q127_13, q127_16, q127_18, q127_21, q127_22, q127_23, q127_26, q127_27, q127_28, q127_31, q127_35, q127_36, q127_39, q127_42, q127_43, q127_44, q127_47, q127_50, q127_51, q127_52, q127_53, q127_56, q127_57, q127_59, q127_62, q127_63, q127_64, q127_67, q127_70, q127_71, q127_72, q127_75, q127_78, q127_81, q127_84, q127_85, q127_86, q127_89, q127_92, q127_93, q127_96, q127_99, q127_102, q127_105, q127_106, q127_107, q127_110, q127_111, q127_112, q127_115, q127_118, q127_119, q127_120, q127_123, q127_126, q127_127, q127_128, q127_131, q127_134, q127_137, q127_140, q127_141, q127_142, q127_145, q127_148, q127_149, q127_152, q127_155, q127_158, q127_161, q127_162, q127_163, q127_166, q127_167, q127_170, q127_171, q127_172, q127_175, q127_177, q127_178, q127_181, q127_182, q127_183, q127_184, q127_187, q127_190, q127_191, q127_193, q127_194, q127_197, q127_198, q127_201, q127_204, q127_205, q127_206, q127_209, q127_210, q127_211, q127_214, q127_217, q127_218, q127_219, q127_222, q127_223, q127_226, q127_227, q127_230, q127_231, q127_232, q127_235, q127_236, q127_237, q127_240, q127_243, q127_244, q127_245, q127_248, q127_249, q127_250, q127_253, q127_254, q127_255, q127_258, q127_259, q127_261, q127_264, q127_265, q127_266, q127_269, n10, n01, Bool.false_eq_true, ab_bs, ab_bn, ab_pr0, ab_pr1, nl_n, nl_i, nl_r, nl_j, nl_nl, rc_123, gf_123_0, gf_123_1, pt_123_1, gf_123_2, pt_123_2, gf_123_3, pt_123_3, gf_123_4, pt_123_4, gf_123_5, pt_123_5, gf_123_6, pt_123_6, gf_123_7, pt_123_7, gf_123_8, pt_123_8, gf_123_9, gf_123_10, gf_123_11, gf_123_12, gf_123_13, pt_123_13_0, pt_123_13_1, gf_123_14, pt_123_14_0, pt_123_14_1, gf_123_15, gf_123_16, gf_123_17, gf_123_18, gf_123_19, gf_123_20, gf_123_21, gf_123_22, gf_123_23, gf_123_24, gf_123_25, pt_123_25, gf_123_26, gf_123_27, pt_123_27, gf_123_28, pt_123_28, gf_123_29, gf_123_30, pt_123_30, gf_123_31, pt_123_31, gf_123_32, pt_123_32, gf_123_33, pt_123_33, gf_123_34, pt_123_34_0, pt_123_34_1, gf_123_35, gf_123_36, gf_123_37, gf_123_38, pt_123_38, gf_123_39, pt_123_39, gf_123_40, pt_123_40, gf_123_41, gf_123_42, gf_123_43, gf_123_44, gf_123_45, gf_123_46, gf_123_47, pt_123_47, up_s, x1, x2, not_true, if_false, up_up, nI_1, Nat.add_assoc]
end
