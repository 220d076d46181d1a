/-! table: one more at the table; and the reference after a fault -/
def addC (n : Nat) (S : ab_M) : ab_M := fun c j => if (6 ≤ c ∧ c ≤ 14) ∧ j = n then (if c = 10 then 999 else if c = 11 then 1 else 0) else if c = 4 ∧ j = 3 then nI (n + 1) else S c j
def zeL (n w : Nat) (S : ab_M) : ab_M := fun c j => if (6 ≤ c ∧ c < 6 + w) ∧ j = n then 0 else S c j
theorem zeL_s {n w : Nat} {S : ab_M} : ab_up (zeL n w S) (6 + w) n 0 = zeL n (w + 1) S := by
  funext c j
  unfold ab_up zeL
  by_cases e : c = 6 + w ∧ j = n
  · rw [if_pos e, if_pos (by omega)]
  · rw [if_neg e]
    by_cases x : (6 ≤ c ∧ c < 6 + w) ∧ j = n
    · rw [if_pos x, if_pos (by omega)]
    · rw [if_neg x, if_neg (by omega)]
section
variable {scr : Option (List Int32)} {B : Nat → Nat} {L : Nat}
theorem sp_clr {S : ab_M} : ab_ms scr 39 [.ref 4] S = some (ab_up (ab_up (ab_up S 4 3 0) 4 4 1) 4 5 0, none) := by
  rw [ms39]
  simp only [q39_0, q39_1, q39_2, q39_5, q39_6, q39_7, q39_10, q39_11, q39_12, q39_15, n10, n01, Bool.false_eq_true, ab_bs, ab_bn, ab_pr0, ab_pr1, nl_n, nl_i, nl_r, nl_j, nl_nl, rc_4, gf_4_0, gf_4_1, gf_4_2, gf_4_3, pt_4_3, gf_4_4, pt_4_4, gf_4_5, pt_4_5]
theorem sp_add {S : ab_M} {n : Nat} (hn : n < 8) (h : S 4 3 = nI n) : ab_ms scr 40 [.ref 4] S = some (addC n S, some (.int (nI n))) := by
  have hc : (nI n).toNatClampNeg = n := nI_clamp (by omega)
  have e0 : zeL n 0 S = S := by
    funext c j
    unfold zeL
    rw [if_neg (by omega)]
  have m4 : ∀ T : ab_M, ab_ald scr ab_L0 T 2001 .int 4 = some 999 := fun T => by rw [al_2001]; rfl
  rw [ms40]
  simp only [q40_0, q40_1, q40_4, q40_5, q40_6, q40_8, q40_10, q40_13, q40_14, q40_17, q40_18, q40_19, q40_20, q40_21, q40_22, q40_25, q40_29, q40_32, q40_33, q40_34, q40_35, q40_38, q40_39, q40_40, q40_41, q40_42, q40_45, q40_46, q40_47, q40_48, q40_49, q40_50, q40_51, q40_54, q40_55, q40_56, q40_57, q40_58, q40_59, q40_62, q40_63, q40_64, q40_67, q40_68, n10, n01, Bool.false_eq_true, ab_bs, ab_bn, ab_pr0, ab_pr1, nl_n, nl_i, nl_r, nl_j, nl_nl, rc_4, gf_4_0, gf_4_1, gf_4_2, gf_4_3, pt_4_3, gf_4_4, pt_4_4, gf_4_5, pt_4_5, h]
  refine Eq.trans ?_ ((rn (fun k => ab_res scr 40 1 (zeL n k S) 7 [some (.ref 4), some (.int (nI n)), some (.int (nI k))] []) (8) (fun k hk => ?_)).trans ?_)
  · rw [e0]
    rfl
  · have h8 : ¬ (8 : Int32) ≤ nI k := nI_ge (a := k) (b := 8) hk (by omega)
    rw [q40_7]
    simp only [q40_0, q40_1, q40_4, q40_5, q40_6, q40_8, q40_10, q40_13, q40_14, q40_17, q40_18, q40_19, q40_20, q40_21, q40_22, q40_25, q40_29, q40_32, q40_33, q40_34, q40_35, q40_38, q40_39, q40_40, q40_41, q40_42, q40_45, q40_46, q40_47, q40_48, q40_49, q40_50, q40_51, q40_54, q40_55, q40_56, q40_57, q40_58, q40_59, q40_62, q40_63, q40_64, q40_67, q40_68, n10, n01, Bool.false_eq_true, ab_bs, ab_bn, ab_pr0, ab_pr1, nl_n, nl_i, nl_r, nl_j, nl_nl, rc_4, gf_4_0, gf_4_1, gf_4_2, gf_4_3, pt_4_3, gf_4_4, pt_4_4, gf_4_5, pt_4_5, h8, if_false, qe_5 hk, si_f5 hk, ib8 hn, hc, if_true, zeL_s, a1]
  · have y : zeL n 8 S 4 3 = nI n := by
      unfold zeL
      rw [if_neg (by omega), h]
    show ab_res scr 40 1 (zeL n 8 S) 7 _ [] = _
    rw [q40_7]
    simp only [q40_0, q40_1, q40_4, q40_5, q40_6, q40_8, q40_10, q40_13, q40_14, q40_17, q40_18, q40_19, q40_20, q40_21, q40_22, q40_25, q40_28, q40_29, q40_32, q40_33, q40_34, q40_35, q40_38, q40_39, q40_40, q40_41, q40_42, q40_45, q40_46, q40_47, q40_48, q40_49, q40_50, q40_51, q40_54, q40_55, q40_56, q40_57, q40_58, q40_59, q40_62, q40_63, q40_64, q40_67, q40_68, n10, n01, Bool.false_eq_true, ab_bs, ab_bn, ab_pr0, ab_pr1, nl_n, nl_i, nl_r, nl_j, nl_nl, rc_4, gf_4_0, gf_4_1, gf_4_2, gf_4_3, pt_4_3, gf_4_4, pt_4_4, gf_4_5, pt_4_5, qe_5_0, qe_5_1, qe_5_2, qe_5_3, qe_5_4, qe_5_5, qe_5_6, qe_5_7, qe_5, ln_10, al_10, si_10, ln_11, al_11, si_11, ln_14, al_14, si_14, nI_rfl8, if_true, m4, ib8 hn, hc, up_n (show 4 ≠ 14 by decide), up_n (show 4 ≠ 11 by decide), up_n (show 4 ≠ 10 by decide), y, a1]
    congr 1
    congr 1
    funext c j
    unfold ab_up addC zeL
    by_cases e43 : c = 4 ∧ j = 3
    · rw [if_pos e43, if_neg (by omega), if_pos e43]
    · rw [if_neg e43]
      by_cases ej : j = n
      · by_cases c14 : c = 14
        · rw [if_pos ⟨c14, ej⟩, if_pos (by omega), if_neg (by omega), if_neg (by omega)]
        · rw [if_neg (fun q => c14 q.1)]
          by_cases c11 : c = 11
          · rw [if_pos ⟨c11, ej⟩, if_pos (by omega), if_neg (by omega), if_pos c11]
          · rw [if_neg (fun q => c11 q.1)]
            by_cases c10 : c = 10
            · rw [if_pos ⟨c10, ej⟩, if_pos (by omega), if_pos c10]
            · rw [if_neg (fun q => c10 q.1)]
              by_cases cr : 6 ≤ c ∧ c < 6 + 8
              · rw [if_pos ⟨cr, ej⟩, if_pos (by omega), if_neg c10, if_neg c11]
              · rw [if_neg (fun q => cr q.1), if_neg (by omega), if_neg e43]
      · rw [if_neg (fun q => ej q.2), if_neg (fun q => ej q.2), if_neg (fun q => ej q.2), if_neg (fun q => ej q.2), if_neg (fun q => ej q.2), if_neg e43]
theorem dd_num {N : ab_M} {lo hi : Int32} (h : ¬ N 123 3 ≤ 0) : ab_ms scr 128 [.ref 123, .int lo, .int hi] N = some (N, some (.int lo)) := by
  have h0 : ¬ N 123 3 = 0 := fun y => h (by rw [y]; decide)
  have d := sp_dead (scr := scr) h
  rw [ms128]
  simp only [q128_0, q128_1, q128_4, q128_7, q128_8, q128_11, q128_12, q128_15, q128_16, q128_17, q128_20, q128_21, q128_24, q128_27, q128_28, q128_31, q128_32, q128_33, q128_34, q128_35, q128_36, q128_39, q128_42, q128_43, q128_44, q128_47, q128_48, q128_51, q128_54, q128_55, q128_58, q128_61, q128_62, q128_63, q128_64, q128_67, q128_68, n10, n01, Bool.false_eq_true, ab_bs, ab_bn, ab_pr0, ab_pr1, nl_n, nl_i, nl_r, nl_j, nl_nl, rc_123, gf_123_0, gf_123_1, pt_123_1, gf_123_2, pt_123_2, gf_123_3, pt_123_3, gf_123_4, pt_123_4, gf_123_5, pt_123_5, gf_123_6, pt_123_6, gf_123_7, pt_123_7, gf_123_8, pt_123_8, gf_123_9, gf_123_10, gf_123_11, gf_123_12, gf_123_13, pt_123_13_0, pt_123_13_1, gf_123_14, pt_123_14_0, pt_123_14_1, gf_123_15, gf_123_16, gf_123_17, gf_123_18, gf_123_19, gf_123_20, gf_123_21, gf_123_22, gf_123_23, gf_123_24, gf_123_25, pt_123_25, gf_123_26, gf_123_27, pt_123_27, gf_123_28, pt_123_28, gf_123_29, gf_123_30, pt_123_30, gf_123_31, pt_123_31, gf_123_32, pt_123_32, gf_123_33, pt_123_33, gf_123_34, pt_123_34_0, pt_123_34_1, gf_123_35, gf_123_36, gf_123_37, gf_123_38, pt_123_38, gf_123_39, pt_123_39, gf_123_40, pt_123_40, gf_123_41, gf_123_42, gf_123_43, gf_123_44, gf_123_45, gf_123_46, gf_123_47, pt_123_47, h0, not_false_eq_true, if_true, d]
theorem dd_here {N : ab_M} {a e : Nat} (hT : TR B L N) (hC : CT N) (h5 : N 123 5 = nI e) (h6 : N 123 6 = nI a) (hae : a ≤ e) (he : e ≤ L) : ∃ v, ab_ms scr 126 [.ref 123] N = some (N, some (.int v)) := by
  by_cases h7 : N 123 7 = 1
  · obtain ⟨v, -, h⟩ := sp_nameHere (scr := scr) (k := 1) hT hC h5 h6 h7 (by decide) hae he
    exact ⟨v, h⟩
  · refine ⟨-4, ?_⟩
    rw [ms126]
    simp only [q126_0, q126_1, q126_3, q126_4, q126_7, q126_8, q126_11, q126_12, q126_15, q126_16, q126_19, q126_20, q126_23, q126_24, q126_25, q126_28, q126_29, q126_30, q126_31, q126_32, q126_33, q126_36, q126_37, q126_38, q126_39, q126_42, q126_43, q126_46, q126_47, q126_48, q126_49, q126_51, q126_54, q126_55, q126_56, q126_59, q126_60, q126_63, q126_64, q126_67, q126_68, q126_69, q126_72, q126_73, q126_74, q126_77, q126_78, q126_81, q126_82, q126_85, q126_86, q126_87, q126_88, q126_89, q126_90, q126_93, q126_94, q126_97, q126_98, q126_99, q126_102, q126_105, q126_106, q126_109, q126_110, q126_111, q126_114, q126_117, q126_119, n10, n01, Bool.false_eq_true, ab_bs, ab_bn, ab_pr0, ab_pr1, nl_n, nl_i, nl_r, nl_j, nl_nl]
    rw [q126_2]
    simp only [q126_0, q126_1, q126_3, q126_4, q126_7, q126_8, q126_11, q126_12, q126_15, q126_16, q126_19, q126_20, q126_23, q126_24, q126_25, q126_28, q126_29, q126_30, q126_31, q126_32, q126_33, q126_36, q126_37, q126_38, q126_39, q126_42, q126_43, q126_46, q126_47, q126_48, q126_49, q126_51, q126_54, q126_55, q126_56, q126_59, q126_60, q126_63, q126_64, q126_67, q126_68, q126_69, q126_72, q126_73, q126_74, q126_77, q126_78, q126_81, q126_82, q126_85, q126_86, q126_87, q126_88, q126_89, q126_90, q126_93, q126_94, q126_97, q126_98, q126_99, q126_102, q126_105, q126_106, q126_109, q126_110, q126_111, q126_114, q126_117, q126_119, n10, n01, Bool.false_eq_true, ab_bs, ab_bn, ab_pr0, ab_pr1, nl_n, nl_i, nl_r, nl_j, nl_nl, rc_123, gf_123_0, gf_123_1, pt_123_1, gf_123_2, pt_123_2, gf_123_3, pt_123_3, gf_123_4, pt_123_4, gf_123_5, pt_123_5, gf_123_6, pt_123_6, gf_123_7, pt_123_7, gf_123_8, pt_123_8, gf_123_9, gf_123_10, gf_123_11, gf_123_12, gf_123_13, pt_123_13_0, pt_123_13_1, gf_123_14, pt_123_14_0, pt_123_14_1, gf_123_15, gf_123_16, gf_123_17, gf_123_18, gf_123_19, gf_123_20, gf_123_21, gf_123_22, gf_123_23, gf_123_24, gf_123_25, pt_123_25, gf_123_26, gf_123_27, pt_123_27, gf_123_28, pt_123_28, gf_123_29, gf_123_30, pt_123_30, gf_123_31, pt_123_31, gf_123_32, pt_123_32, gf_123_33, pt_123_33, gf_123_34, pt_123_34_0, pt_123_34_1, gf_123_35, gf_123_36, gf_123_37, gf_123_38, pt_123_38, gf_123_39, pt_123_39, gf_123_40, pt_123_40, gf_123_41, gf_123_42, gf_123_43, gf_123_44, gf_123_45, gf_123_46, gf_123_47, pt_123_47, h7, (show ¬ (5 : Int32) ≤ 0 by decide), not_false_eq_true, if_false, if_true]
/-- only the told page changes -/
def dF (N N' : ab_M) : Prop := ∀ c j, c ≠ 128 → N' c j = N c j
theorem dF_up {N : ab_M} {j : Nat} {v : Int32} : dF N (ab_up N 128 j v) := fun c i h => up_n h
theorem dF_refl (N : ab_M) : dF N N := fun _ _ _ => rfl
theorem dF_trans {A B C : ab_M} (h1 : dF A B) (h2 : dF B C) : dF A C := fun c j x => (h2 c j x).trans (h1 c j x)
/-- the reference's state after a fault, all of it -/
def DA (B : Nat → Nat) (L : Nat) (N : ab_M) : Prop := TR B L N ∧ CT N ∧ DN L N
theorem DA_dF {N N' : ab_M} (h : DA B L N) (hd : dF N N') : DA B L N' := by
  obtain ⟨a, ⟨b1, b2⟩, c, e, f, g, i, j, k⟩ := h
  exact ⟨TR_F a (hd _ _ (by decide)) (fun j => hd _ _ (by decide)), ⟨fun n hn => by rw [hd _ _ (by decide)]; exact b1 n hn, fun w hw i hi => by rw [hd _ _ (by decide)]; exact b2 w hw i hi⟩, by rw [hd _ _ (by decide)]; exact c, e, f, g, i, by rw [hd _ _ (by decide)]; exact j, by rw [hd _ _ (by decide)]; exact k⟩
theorem s128 {M : ab_M} {k : Nat} (hk : k < 74) : ab_si 128 .int (nI k) = true := by
  rw [si_128]
  exact ib_nI hk (by decide)
theorem cn128 {k : Nat} (hk : k < 74) : (nI k).toNatClampNeg = k := nI_clamp (by omega)
/-- readOne goes to its end -/
theorem dd_end {N : ab_M} {l1 l2 : Option Value} {x : Int32} (h : DA B L N) : ∃ N', ab_res scr 130 5 N 161 [some (.ref 123), l1, l2, some (.int x)] [] = some (N', none) ∧ dF N N' := by
  have h0 : ¬ N 123 3 = 0 := fun y => h.2.2.1 (by rw [y]; decide)
  refine ⟨ab_up N 128 72 (N 128 72 + 1), ?_, dF_up⟩
  have z : (72 : Int32).toNatClampNeg = 72 := by decide
  rw [q130_161]
  simp only [q130_0, q130_1, q130_4, q130_6, q130_7, q130_9, q130_12, q130_13, q130_14, q130_17, q130_18, q130_19, q130_22, q130_24, q130_25, q130_28, q130_30, q130_31, q130_32, q130_33, q130_34, q130_37, q130_38, q130_39, q130_40, q130_41, q130_42, q130_45, q130_48, q130_49, q130_50, q130_53, q130_54, q130_55, q130_56, q130_57, q130_58, q130_61, q130_62, q130_63, q130_64, q130_65, q130_66, q130_67, q130_70, q130_73, q130_74, q130_75, q130_78, q130_79, q130_80, q130_81, q130_82, q130_83, q130_85, q130_88, q130_89, q130_90, q130_93, q130_94, q130_95, q130_96, q130_97, q130_98, q130_100, q130_103, q130_104, q130_105, q130_108, q130_109, q130_110, q130_111, q130_114, q130_115, q130_116, q130_119, q130_120, q130_121, q130_122, q130_123, q130_124, q130_125, q130_128, q130_129, q130_131, q130_132, q130_133, q130_134, q130_135, q130_138, q130_139, q130_141, q130_142, q130_143, q130_144, q130_145, q130_148, q130_149, q130_151, q130_152, q130_153, q130_154, q130_155, q130_156, q130_157, q130_160, q130_162, q130_165, q130_168, q130_169, q130_170, q130_173, q130_174, q130_175, q130_176, q130_177, q130_178, q130_179, q130_182, q130_183, q130_184, q130_187, q130_188, q130_189, q130_190, q130_191, q130_192, q130_193, q130_194, q130_195, q130_196, q130_199, q130_200, q130_203, q130_204, q130_207, q130_208, q130_211, q130_213, q130_214, q130_215, q130_216, q130_217, q130_218, n10, n01, Bool.false_eq_true, ab_bs, ab_bn, ab_pr0, ab_pr1, nl_n, nl_i, nl_r, nl_j, nl_nl, rc_123, gf_123_0, gf_123_1, pt_123_1, gf_123_2, pt_123_2, gf_123_3, pt_123_3, gf_123_4, pt_123_4, gf_123_5, pt_123_5, gf_123_6, pt_123_6, gf_123_7, pt_123_7, gf_123_8, pt_123_8, gf_123_9, gf_123_10, gf_123_11, gf_123_12, gf_123_13, pt_123_13_0, pt_123_13_1, gf_123_14, pt_123_14_0, pt_123_14_1, gf_123_15, gf_123_16, gf_123_17, gf_123_18, gf_123_19, gf_123_20, gf_123_21, gf_123_22, gf_123_23, gf_123_24, gf_123_25, pt_123_25, gf_123_26, gf_123_27, pt_123_27, gf_123_28, pt_123_28, gf_123_29, gf_123_30, pt_123_30, gf_123_31, pt_123_31, gf_123_32, pt_123_32, gf_123_33, pt_123_33, gf_123_34, pt_123_34_0, pt_123_34_1, gf_123_35, gf_123_36, gf_123_37, gf_123_38, pt_123_38, gf_123_39, pt_123_39, gf_123_40, pt_123_40, gf_123_41, gf_123_42, gf_123_43, gf_123_44, gf_123_45, gf_123_46, gf_123_47, pt_123_47, ln_128, al_128, si_128, h0, not_false_eq_true, if_true, (show ab_inB 72 74 = true by decide), z]
theorem dd_104 {N : ab_M} {n : Nat} {l3 : Option Value} (hn : n < 8) (h : DA B L N) : ∃ N', ab_res scr 130 5 N 104 [some (.ref 123), some (.int (nI (9 * n))), none, l3] [] = some (N', none) ∧ dF N N' := by
  have hd : dF N (ab_up (ab_up (ab_up (ab_up (ab_up N 128 (9 * n + 4) 999) 128 (9 * n + 5) 1) 128 (9 * n + 6) 0) 128 (9 * n + 7) 0) 128 (9 * n + 8) 0) := dF_trans (dF_trans (dF_trans (dF_trans dF_up dF_up) dF_up) dF_up) dF_up
  have hA := DA_dF h hd
  obtain ⟨q1, q2, q3, a, e, q4, q5, q6, q7⟩ := id hA
  obtain ⟨v, hv⟩ := dd_here (scr := scr) q1 q2 q6 q7 q4 q5
  obtain ⟨N', e1, e2⟩ := dd_end (scr := scr) (l1 := some (.int (nI (9 * n)))) (l2 := some (.int 0)) (x := v) hA
  refine ⟨N', ?_, dF_trans hd e2⟩
  rw [← e1]
  have u : ∀ k, k < 9 → nI (9 * n) + nI k = nI (9 * n + k) ∧ (nI (9 * n + k)).toNatClampNeg = 9 * n + k ∧ ab_inB (nI (9 * n + k)) 74 = true := fun k hk => ⟨nI_add _ _, nI_clamp (by omega), ib_nI (by omega) (by decide)⟩
  obtain ⟨u4, v4, w4⟩ := u 4 (by decide)
  obtain ⟨u5, v5, w5⟩ := u 5 (by decide)
  obtain ⟨u6, v6, w6⟩ := u 6 (by decide)
  obtain ⟨u7, v7, w7⟩ := u 7 (by decide)
  obtain ⟨u8, v8, w8⟩ := u 8 (by decide)
  rw [q130_104]
  simp only [q130_0, q130_1, q130_4, q130_6, q130_7, q130_9, q130_12, q130_13, q130_14, q130_17, q130_18, q130_19, q130_22, q130_24, q130_25, q130_28, q130_30, q130_31, q130_32, q130_33, q130_34, q130_37, q130_38, q130_39, q130_40, q130_41, q130_42, q130_45, q130_48, q130_49, q130_50, q130_53, q130_54, q130_55, q130_56, q130_57, q130_58, q130_61, q130_62, q130_63, q130_64, q130_65, q130_66, q130_67, q130_70, q130_73, q130_74, q130_75, q130_78, q130_79, q130_80, q130_81, q130_82, q130_83, q130_85, q130_88, q130_89, q130_90, q130_93, q130_94, q130_95, q130_96, q130_97, q130_98, q130_100, q130_103, q130_105, q130_108, q130_109, q130_110, q130_111, q130_114, q130_115, q130_116, q130_119, q130_120, q130_121, q130_122, q130_123, q130_124, q130_125, q130_128, q130_129, q130_131, q130_132, q130_133, q130_134, q130_135, q130_138, q130_139, q130_141, q130_142, q130_143, q130_144, q130_145, q130_148, q130_149, q130_151, q130_152, q130_153, q130_154, q130_155, q130_156, q130_157, q130_160, q130_162, q130_165, q130_168, q130_169, q130_170, q130_173, q130_174, q130_175, q130_176, q130_177, q130_178, q130_179, q130_182, q130_183, q130_184, q130_187, q130_188, q130_189, q130_190, q130_191, q130_192, q130_193, q130_194, q130_195, q130_196, q130_199, q130_200, q130_203, q130_204, q130_207, q130_208, q130_211, q130_213, q130_214, q130_215, q130_216, q130_217, q130_218, n10, n01, Bool.false_eq_true, ab_bs, ab_bn, ab_pr0, ab_pr1, nl_n, nl_i, nl_r, nl_j, nl_nl, rc_123, gf_123_0, gf_123_1, pt_123_1, gf_123_2, pt_123_2, gf_123_3, pt_123_3, gf_123_4, pt_123_4, gf_123_5, pt_123_5, gf_123_6, pt_123_6, gf_123_7, pt_123_7, gf_123_8, pt_123_8, gf_123_9, gf_123_10, gf_123_11, gf_123_12, gf_123_13, pt_123_13_0, pt_123_13_1, gf_123_14, pt_123_14_0, pt_123_14_1, gf_123_15, gf_123_16, gf_123_17, gf_123_18, gf_123_19, gf_123_20, gf_123_21, gf_123_22, gf_123_23, gf_123_24, gf_123_25, pt_123_25, gf_123_26, gf_123_27, pt_123_27, gf_123_28, pt_123_28, gf_123_29, gf_123_30, pt_123_30, gf_123_31, pt_123_31, gf_123_32, pt_123_32, gf_123_33, pt_123_33, gf_123_34, pt_123_34_0, pt_123_34_1, gf_123_35, gf_123_36, gf_123_37, gf_123_38, pt_123_38, gf_123_39, pt_123_39, gf_123_40, pt_123_40, gf_123_41, gf_123_42, gf_123_43, gf_123_44, gf_123_45, gf_123_46, gf_123_47, pt_123_47, ln_128, al_128, si_128, (show (4 : Int32) = nI 4 from rfl), (show (5 : Int32) = nI 5 from rfl), (show (6 : Int32) = nI 6 from rfl), (show (7 : Int32) = nI 7 from rfl), (show (8 : Int32) = nI 8 from rfl), u4, v4, w4, u5, v5, w5, u6, v6, w6, u7, v7, w7, u8, v8, w8, if_true, hv]
end
section
variable {scr : Option (List Int32)} {B : Nat → Nat} {L : Nat}
theorem dd_89 {N : ab_M} {n : Nat} {l3 : Option Value} (hn : n < 8) (h : DA B L N) : ∃ N', ab_res scr 130 5 N 89 [some (.ref 123), some (.int (nI (9 * n))), none, l3] [] = some (N', none) ∧ dF N N' := by
  have d := dd_num (scr := scr) (lo := 1) (hi := 99) h.2.2.1
  obtain ⟨N', e1, e2⟩ := dd_104 (scr := scr) (l3 := l3) hn (DA_dF h (dF_up (j := 9 * n + 3) (v := 1)))
  refine ⟨N', ?_, dF_trans dF_up e2⟩
  rw [← e1]
  have u : nI (9 * n) + 3 = nI (9 * n + 3) := nI_add _ 3
  rw [q130_89]
  simp only [q130_0, q130_1, q130_4, q130_6, q130_7, q130_9, q130_12, q130_13, q130_14, q130_17, q130_18, q130_19, q130_22, q130_24, q130_25, q130_28, q130_30, q130_31, q130_32, q130_33, q130_34, q130_37, q130_38, q130_39, q130_40, q130_41, q130_42, q130_45, q130_48, q130_49, q130_50, q130_53, q130_54, q130_55, q130_56, q130_57, q130_58, q130_61, q130_62, q130_63, q130_64, q130_65, q130_66, q130_67, q130_70, q130_73, q130_74, q130_75, q130_78, q130_79, q130_80, q130_81, q130_82, q130_83, q130_85, q130_88, q130_90, q130_93, q130_94, q130_95, q130_96, q130_97, q130_98, q130_100, q130_103, q130_105, q130_108, q130_109, q130_110, q130_111, q130_114, q130_115, q130_116, q130_119, q130_120, q130_121, q130_122, q130_123, q130_124, q130_125, q130_128, q130_129, q130_131, q130_132, q130_133, q130_134, q130_135, q130_138, q130_139, q130_141, q130_142, q130_143, q130_144, q130_145, q130_148, q130_149, q130_151, q130_152, q130_153, q130_154, q130_155, q130_156, q130_157, q130_160, q130_161, q130_162, q130_165, q130_168, q130_169, q130_170, q130_173, q130_174, q130_175, q130_176, q130_177, q130_178, q130_179, q130_182, q130_183, q130_184, q130_187, q130_188, q130_189, q130_190, q130_191, q130_192, q130_193, q130_194, q130_195, q130_196, q130_199, q130_200, q130_203, q130_204, q130_207, q130_208, q130_211, q130_213, q130_214, q130_215, q130_216, q130_217, q130_218, n10, n01, Bool.false_eq_true, ab_bs, ab_bn, ab_pr0, ab_pr1, nl_n, nl_i, nl_r, nl_j, nl_nl, rc_123, gf_123_0, gf_123_1, pt_123_1, gf_123_2, pt_123_2, gf_123_3, pt_123_3, gf_123_4, pt_123_4, gf_123_5, pt_123_5, gf_123_6, pt_123_6, gf_123_7, pt_123_7, gf_123_8, pt_123_8, gf_123_9, gf_123_10, gf_123_11, gf_123_12, gf_123_13, pt_123_13_0, pt_123_13_1, gf_123_14, pt_123_14_0, pt_123_14_1, gf_123_15, gf_123_16, gf_123_17, gf_123_18, gf_123_19, gf_123_20, gf_123_21, gf_123_22, gf_123_23, gf_123_24, gf_123_25, pt_123_25, gf_123_26, gf_123_27, pt_123_27, gf_123_28, pt_123_28, gf_123_29, gf_123_30, pt_123_30, gf_123_31, pt_123_31, gf_123_32, pt_123_32, gf_123_33, pt_123_33, gf_123_34, pt_123_34_0, pt_123_34_1, gf_123_35, gf_123_36, gf_123_37, gf_123_38, pt_123_38, gf_123_39, pt_123_39, gf_123_40, pt_123_40, gf_123_41, gf_123_42, gf_123_43, gf_123_44, gf_123_45, gf_123_46, gf_123_47, pt_123_47, ln_128, al_128, si_128, d, u, cn128 (show 9 * n + 3 < 74 by omega), (show ab_inB (nI (9 * n + 3)) 74 = true from ib_nI (by omega) (by decide)), if_true]
theorem dd_74 {N : ab_M} {n : Nat} {l3 : Option Value} (hn : n < 8) (h : DA B L N) : ∃ N', ab_res scr 130 5 N 74 [some (.ref 123), some (.int (nI (9 * n))), none, l3] [] = some (N', none) ∧ dF N N' := by
  have d := dd_num (scr := scr) (lo := 1) (hi := 99) h.2.2.1
  obtain ⟨N', e1, e2⟩ := dd_89 (scr := scr) (l3 := l3) hn (DA_dF h (dF_up (j := 9 * n + 2) (v := 1)))
  refine ⟨N', ?_, dF_trans dF_up e2⟩
  rw [← e1]
  have u : nI (9 * n) + 2 = nI (9 * n + 2) := nI_add _ 2
  rw [q130_74]
  simp only [q130_0, q130_1, q130_4, q130_6, q130_7, q130_9, q130_12, q130_13, q130_14, q130_17, q130_18, q130_19, q130_22, q130_24, q130_25, q130_28, q130_30, q130_31, q130_32, q130_33, q130_34, q130_37, q130_38, q130_39, q130_40, q130_41, q130_42, q130_45, q130_48, q130_49, q130_50, q130_53, q130_54, q130_55, q130_56, q130_57, q130_58, q130_61, q130_62, q130_63, q130_64, q130_65, q130_66, q130_67, q130_70, q130_73, q130_75, q130_78, q130_79, q130_80, q130_81, q130_82, q130_83, q130_85, q130_88, q130_90, q130_93, q130_94, q130_95, q130_96, q130_97, q130_98, q130_100, q130_103, q130_104, q130_105, q130_108, q130_109, q130_110, q130_111, q130_114, q130_115, q130_116, q130_119, q130_120, q130_121, q130_122, q130_123, q130_124, q130_125, q130_128, q130_129, q130_131, q130_132, q130_133, q130_134, q130_135, q130_138, q130_139, q130_141, q130_142, q130_143, q130_144, q130_145, q130_148, q130_149, q130_151, q130_152, q130_153, q130_154, q130_155, q130_156, q130_157, q130_160, q130_161, q130_162, q130_165, q130_168, q130_169, q130_170, q130_173, q130_174, q130_175, q130_176, q130_177, q130_178, q130_179, q130_182, q130_183, q130_184, q130_187, q130_188, q130_189, q130_190, q130_191, q130_192, q130_193, q130_194, q130_195, q130_196, q130_199, q130_200, q130_203, q130_204, q130_207, q130_208, q130_211, q130_213, q130_214, q130_215, q130_216, q130_217, q130_218, n10, n01, Bool.false_eq_true, ab_bs, ab_bn, ab_pr0, ab_pr1, nl_n, nl_i, nl_r, nl_j, nl_nl, rc_123, gf_123_0, gf_123_1, pt_123_1, gf_123_2, pt_123_2, gf_123_3, pt_123_3, gf_123_4, pt_123_4, gf_123_5, pt_123_5, gf_123_6, pt_123_6, gf_123_7, pt_123_7, gf_123_8, pt_123_8, gf_123_9, gf_123_10, gf_123_11, gf_123_12, gf_123_13, pt_123_13_0, pt_123_13_1, gf_123_14, pt_123_14_0, pt_123_14_1, gf_123_15, gf_123_16, gf_123_17, gf_123_18, gf_123_19, gf_123_20, gf_123_21, gf_123_22, gf_123_23, gf_123_24, gf_123_25, pt_123_25, gf_123_26, gf_123_27, pt_123_27, gf_123_28, pt_123_28, gf_123_29, gf_123_30, pt_123_30, gf_123_31, pt_123_31, gf_123_32, pt_123_32, gf_123_33, pt_123_33, gf_123_34, pt_123_34_0, pt_123_34_1, gf_123_35, gf_123_36, gf_123_37, gf_123_38, pt_123_38, gf_123_39, pt_123_39, gf_123_40, pt_123_40, gf_123_41, gf_123_42, gf_123_43, gf_123_44, gf_123_45, gf_123_46, gf_123_47, pt_123_47, ln_128, al_128, si_128, d, u, cn128 (show 9 * n + 2 < 74 by omega), (show ab_inB (nI (9 * n + 2)) 74 = true from ib_nI (by omega) (by decide)), if_true]
theorem dd_49 {N : ab_M} {n : Nat} {l3 : Option Value} (hn : n < 8) (h : DA B L N) : ∃ N', ab_res scr 130 5 N 49 [some (.ref 123), some (.int (nI (9 * n))), none, l3] [] = some (N', none) ∧ dF N N' := by
  have d := dd_num (scr := scr) (lo := N 128 (9 * n) + 1) (hi := 240) h.2.2.1
  obtain ⟨N', e1, e2⟩ := dd_74 (scr := scr) (l3 := l3) hn (DA_dF h (dF_up (j := 9 * n + 1) (v := N 128 (9 * n) + 1)))
  refine ⟨N', ?_, dF_trans dF_up e2⟩
  rw [← e1]
  have u : nI (9 * n) + 1 = nI (9 * n + 1) := nI_add _ 1
  have u0 : nI (9 * n) + 0 = nI (9 * n) := nI_add _ 0
  rw [q130_49]
  simp only [q130_0, q130_1, q130_4, q130_6, q130_7, q130_9, q130_12, q130_13, q130_14, q130_17, q130_18, q130_19, q130_22, q130_24, q130_25, q130_28, q130_30, q130_31, q130_32, q130_33, q130_34, q130_37, q130_38, q130_39, q130_40, q130_41, q130_42, q130_45, q130_48, q130_50, q130_53, q130_54, q130_55, q130_56, q130_57, q130_58, q130_61, q130_62, q130_63, q130_64, q130_65, q130_66, q130_67, q130_70, q130_73, q130_75, q130_78, q130_79, q130_80, q130_81, q130_82, q130_83, q130_85, q130_88, q130_89, q130_90, q130_93, q130_94, q130_95, q130_96, q130_97, q130_98, q130_100, q130_103, q130_104, q130_105, q130_108, q130_109, q130_110, q130_111, q130_114, q130_115, q130_116, q130_119, q130_120, q130_121, q130_122, q130_123, q130_124, q130_125, q130_128, q130_129, q130_131, q130_132, q130_133, q130_134, q130_135, q130_138, q130_139, q130_141, q130_142, q130_143, q130_144, q130_145, q130_148, q130_149, q130_151, q130_152, q130_153, q130_154, q130_155, q130_156, q130_157, q130_160, q130_161, q130_162, q130_165, q130_168, q130_169, q130_170, q130_173, q130_174, q130_175, q130_176, q130_177, q130_178, q130_179, q130_182, q130_183, q130_184, q130_187, q130_188, q130_189, q130_190, q130_191, q130_192, q130_193, q130_194, q130_195, q130_196, q130_199, q130_200, q130_203, q130_204, q130_207, q130_208, q130_211, q130_213, q130_214, q130_215, q130_216, q130_217, q130_218, n10, n01, Bool.false_eq_true, ab_bs, ab_bn, ab_pr0, ab_pr1, nl_n, nl_i, nl_r, nl_j, nl_nl, rc_123, gf_123_0, gf_123_1, pt_123_1, gf_123_2, pt_123_2, gf_123_3, pt_123_3, gf_123_4, pt_123_4, gf_123_5, pt_123_5, gf_123_6, pt_123_6, gf_123_7, pt_123_7, gf_123_8, pt_123_8, gf_123_9, gf_123_10, gf_123_11, gf_123_12, gf_123_13, pt_123_13_0, pt_123_13_1, gf_123_14, pt_123_14_0, pt_123_14_1, gf_123_15, gf_123_16, gf_123_17, gf_123_18, gf_123_19, gf_123_20, gf_123_21, gf_123_22, gf_123_23, gf_123_24, gf_123_25, pt_123_25, gf_123_26, gf_123_27, pt_123_27, gf_123_28, pt_123_28, gf_123_29, gf_123_30, pt_123_30, gf_123_31, pt_123_31, gf_123_32, pt_123_32, gf_123_33, pt_123_33, gf_123_34, pt_123_34_0, pt_123_34_1, gf_123_35, gf_123_36, gf_123_37, gf_123_38, pt_123_38, gf_123_39, pt_123_39, gf_123_40, pt_123_40, gf_123_41, gf_123_42, gf_123_43, gf_123_44, gf_123_45, gf_123_46, gf_123_47, pt_123_47, ln_128, al_128, si_128, u0, d, u, cn128 (show 9 * n < 74 by omega), (show ab_inB (nI (9 * n)) 74 = true from ib_nI (by omega) (by decide)), cn128 (show 9 * n + 1 < 74 by omega), (show ab_inB (nI (9 * n + 1)) 74 = true from ib_nI (by omega) (by decide)), if_true]
theorem dd_33 {N : ab_M} {n : Nat} {l3 : Option Value} (hn : n < 8) (h : DA B L N) : ∃ N', ab_res scr 130 5 N 33 [some (.ref 123), some (.int (nI (9 * n))), none, l3] [] = some (N', none) ∧ dF N N' := by
  have d := dd_num (scr := scr) (lo := 0) (hi := 239) h.2.2.1
  obtain ⟨N', e1, e2⟩ := dd_49 (scr := scr) (l3 := l3) hn (DA_dF h (dF_up (j := 9 * n) (v := 0)))
  refine ⟨N', ?_, dF_trans dF_up e2⟩
  rw [← e1]
  have u0 : nI (9 * n) + 0 = nI (9 * n) := nI_add _ 0
  rw [q130_33]
  simp only [q130_0, q130_1, q130_4, q130_6, q130_7, q130_9, q130_12, q130_13, q130_14, q130_17, q130_18, q130_19, q130_22, q130_24, q130_25, q130_28, q130_30, q130_31, q130_32, q130_34, q130_37, q130_38, q130_39, q130_40, q130_41, q130_42, q130_45, q130_48, q130_50, q130_53, q130_54, q130_55, q130_56, q130_57, q130_58, q130_61, q130_62, q130_63, q130_64, q130_65, q130_66, q130_67, q130_70, q130_73, q130_74, q130_75, q130_78, q130_79, q130_80, q130_81, q130_82, q130_83, q130_85, q130_88, q130_89, q130_90, q130_93, q130_94, q130_95, q130_96, q130_97, q130_98, q130_100, q130_103, q130_104, q130_105, q130_108, q130_109, q130_110, q130_111, q130_114, q130_115, q130_116, q130_119, q130_120, q130_121, q130_122, q130_123, q130_124, q130_125, q130_128, q130_129, q130_131, q130_132, q130_133, q130_134, q130_135, q130_138, q130_139, q130_141, q130_142, q130_143, q130_144, q130_145, q130_148, q130_149, q130_151, q130_152, q130_153, q130_154, q130_155, q130_156, q130_157, q130_160, q130_161, q130_162, q130_165, q130_168, q130_169, q130_170, q130_173, q130_174, q130_175, q130_176, q130_177, q130_178, q130_179, q130_182, q130_183, q130_184, q130_187, q130_188, q130_189, q130_190, q130_191, q130_192, q130_193, q130_194, q130_195, q130_196, q130_199, q130_200, q130_203, q130_204, q130_207, q130_208, q130_211, q130_213, q130_214, q130_215, q130_216, q130_217, q130_218, n10, n01, Bool.false_eq_true, ab_bs, ab_bn, ab_pr0, ab_pr1, nl_n, nl_i, nl_r, nl_j, nl_nl, rc_123, gf_123_0, gf_123_1, pt_123_1, gf_123_2, pt_123_2, gf_123_3, pt_123_3, gf_123_4, pt_123_4, gf_123_5, pt_123_5, gf_123_6, pt_123_6, gf_123_7, pt_123_7, gf_123_8, pt_123_8, gf_123_9, gf_123_10, gf_123_11, gf_123_12, gf_123_13, pt_123_13_0, pt_123_13_1, gf_123_14, pt_123_14_0, pt_123_14_1, gf_123_15, gf_123_16, gf_123_17, gf_123_18, gf_123_19, gf_123_20, gf_123_21, gf_123_22, gf_123_23, gf_123_24, gf_123_25, pt_123_25, gf_123_26, gf_123_27, pt_123_27, gf_123_28, pt_123_28, gf_123_29, gf_123_30, pt_123_30, gf_123_31, pt_123_31, gf_123_32, pt_123_32, gf_123_33, pt_123_33, gf_123_34, pt_123_34_0, pt_123_34_1, gf_123_35, gf_123_36, gf_123_37, gf_123_38, pt_123_38, gf_123_39, pt_123_39, gf_123_40, pt_123_40, gf_123_41, gf_123_42, gf_123_43, gf_123_44, gf_123_45, gf_123_46, gf_123_47, pt_123_47, ln_128, al_128, si_128, u0, d, cn128 (show 9 * n < 74 by omega), (show ab_inB (nI (9 * n)) 74 = true from ib_nI (by omega) (by decide)), if_true]
end
