/-! COINS: the call -/
theorem CR_sets {n t : Nat} {K : Int} {M M' : ab_M} (h : CR n t K M) (hx : ∀ c j, ¬ ((c = 87 ∨ c = 88) ∧ 0 < j) → c ≠ 145 → M' c j = M c j) : CR n t K M' := by
  obtain ⟨h1, h2, h3, h4, h5, h6, h7, h8⟩ := h
  have y : ∀ c j, c ≠ 87 → c ≠ 88 → c ≠ 145 → M' c j = M c j := fun c j a b d => hx c j (by omega) d
  have y14 : M' 123 14 = M 123 14 := y _ _ (by decide) (by decide) (by decide)
  have hn := h1.1
  have ht := h1.2.1
  refine ⟨pgV_of h1 (fun j => y _ _ (by decide) (by decide) (by decide)) (fun w j hw => y _ _ (by omega) (by omega) (by omega)), ?_, fun k hk => ?_, fun k hk => ?_, ?_, ?_, ?_, ?_⟩
  · obtain ⟨a, b, c, d, e⟩ := h2
    have z : ∀ j, M' 127 j = M 127 j := fun j => y _ _ (by decide) (by decide) (by decide)
    exact ⟨by rw [z, a], by rw [z, y14, y _ _ (by decide) (by decide) (by decide)]; exact b, by rw [z, c], fun w hw p hp => by rw [z, y _ _ (by omega) (by omega) (by omega)]; exact d w hw p hp, fun i hi => by rw [z, y _ _ (by decide) (by decide) (by decide)]; exact e i hi⟩
  · rcases h3 k hk with ⟨a, b⟩ | ⟨a, b, c, n', t', d, e, f⟩
    · exact Or.inl ⟨by rw [y _ _ (by omega) (by omega) (by omega), a], by rw [y _ _ (by decide) (by decide) (by decide), b]⟩
    · exact Or.inr ⟨by rw [y _ _ (by omega) (by omega) (by omega), a], by rw [y _ _ (by decide) (by decide) (by decide), b], by rw [y14]; exact c, n', t', pgV_of d (fun j => y _ _ (by omega) (by omega) (by omega)) (fun w j hw => y _ _ (by omega) (by omega) (by omega)), pgR_of e d.1 d.2.1 (fun w j hw => y _ _ (by omega) (by omega) (by omega)) (fun j hj _ => y _ _ (by decide) (by decide) (by decide)), by rw [y 127 _ (by decide) (by decide) (by decide), y _ _ (by omega) (by omega) (by omega), f]⟩
  · rcases h4 k hk with ⟨a, b⟩ | ⟨s, l, a, b, c, d, e, f, g⟩
    · exact Or.inl ⟨by rw [y _ _ (by omega) (by omega) (by omega), a], by rw [y _ _ (by omega) (by omega) (by omega), b]⟩
    · exact Or.inr ⟨s, l, a, b, by rw [y _ _ (by omega) (by omega) (by omega), c], by rw [y _ _ (by omega) (by omega) (by omega), d], by rw [y _ _ (by omega) (by omega) (by omega), e], by rw [y _ _ (by omega) (by omega) (by omega), f], fun i hi => by rw [y _ _ (by omega) (by omega) (by omega), y _ _ (by omega) (by omega) (by omega)]; exact g i hi⟩
  · obtain ⟨L, a, b, c, d⟩ := h5
    exact ⟨L, a, by rw [y _ _ (by decide) (by decide) (by decide), b], by rw [y _ _ (by decide) (by decide) (by decide), c], fun i hi => by rw [y _ _ (by decide) (by decide) (by decide), y _ _ (by decide) (by decide) (by decide)]; exact d i hi⟩
  · intro q hq hq2
    rw [hx q.1.1 q.1.2 (by omega) (by omega)]
    exact h6 q hq hq2
  · rw [y _ _ (by decide) (by decide) (by decide), y 123 2 (by decide) (by decide) (by decide), h7]
  · rw [y _ _ (by decide) (by decide) (by decide), y 123 47 (by decide) (by decide) (by decide), h8]
theorem CR_87 {n t : Nat} {K : Int} {M : ab_M} (h : CR n t K M) : M 87 0 = 0 ∧ M 88 0 = 0 := by
  have h6 := h.2.2.2.2.2.1
  have e1 : ((87, 0), (0 : Int32)) ∈ ab_q0 := by simp [ab_q0]
  have e2 : ((88, 0), (0 : Int32)) ∈ ab_q0 := by simp [ab_q0]
  exact ⟨h6 _ e1 (Or.inr (Or.inr ⟨Or.inl rfl, rfl⟩)), h6 _ e2 (Or.inr (Or.inr ⟨Or.inr rfl, rfl⟩))⟩
theorem sum_all {n : Nat} {M : ab_M} {K : Int} (hn : n ≤ 8) (hK : 0 ≤ K) (hK2 : K ≤ 200000000) (hc : ∀ p, p < n → -K ≤ cI M p ∧ cI M p ≤ K) : ∀ k, k ≤ n → (fo (fun p s => s + M 25 p) k 0).toInt = SZ (cI M) (2 ^ n - 1) k := by
  intro k
  induction k with
  | zero => intro _; rfl
  | succ k ih =>
    intro hk
    have i := ih (by omega)
    have bd := SZ_bd (cI M) K hK (2 ^ n - 1) k (fun q hq => hc q (by omega))
    have nk : (k : Int) * K ≤ 1400000000 := by
      have h8 : (k : Int) ≤ 7 := by omega
      have := Int.mul_le_mul h8 hK2 hK (by decide)
      omega
    have c := hc k (by omega)
    have ec : (M 25 k).toInt = cI M k := rfl
    unfold SZ
    rw [Nat.testBit_two_pow_sub_one, if_pos (by simp; omega), fo]
    rw [ti_add (by rw [i, ec]; omega) (by rw [i, ec]; omega), i, ec]
section
variable {scr : Option (List Int32)} {n t : Nat} {K : Int} {M : ab_M}
theorem cl_coins (h : CR n t K M) (hK : 0 ≤ K) (hK2 : K ≤ 200000000) (what : Int32) : cokI scr 101 186 [.int what] M (CRX K) := by
  have hn := CR_n h
  have hM := CR_3 h
  have h256 : 2 ^ n ≤ 2 ^ 8 := Nat.pow_le_pow_right (by decide) hn
  have hpos : 0 < 2 ^ n := Nat.two_pow_pos n
  by_cases h2 : 0 ≤ what ∧ what < 2
  · have hc : ∀ p, p < n → -K ≤ cI M p ∧ cI M p ≤ K := fun p hp => by
      obtain ⟨-, -, -, -, -, -, f7, f8⟩ := h.1.2.2.2.2.2.1 p hp
      exact ⟨f7, f8⟩
    have x1 := sp_sum (scr := scr) M 7 n (by decide) hn hM
    have hs := sum_all hn hK hK2 hc n (Nat.le_refl _)
    obtain ⟨z1, z2⟩ := CR_87 h
    have g7 : ∀ p, p < n → M 127 (9 * p + 7) = M 25 p := fun p hp => h.2.1.2.2.2.1 7 (by decide) p hp
    have hzz : (cbL M (2 ^ n - 1) n = 0) = (SZ (cI M) (2 ^ n - 1) n = 0) := by
      apply propext
      rw [← cbL_i hn hK hK2 hc (2 ^ n - 1) n (Nat.le_refl _)]
      exact ⟨fun q => by rw [q]; rfl, fun q => Int64.toInt_inj.mp (by rw [q]; rfl)⟩
    have hss : (fo (fun p s => s + M 25 p) n 0 = 0) = (SZ (cI M) (2 ^ n - 1) n = 0) := by
      apply propext
      rw [← hs]
      exact ⟨fun q => by rw [q]; rfl, fun q => Int32.toInt_inj.mp (by rw [q]; rfl)⟩
    have x1 : ab_ms scr 44 [.ref 16, .int 7] M = some (M, some (.int (fo (fun p s => s + M 25 p) n 0))) := x1
    by_cases hz : SZ (cI M) (2 ^ n - 1) n = 0
    · have hz1 := hz
      have hz2 := hz
      rw [← hzz] at hz1
      rw [← hss] at hz2
      obtain ⟨V, f, m1, m2, m3⟩ := co_most (scr := scr) hn hM hK hK2 hc z1 z2
      have vM : V 16 3 = nI n := by rw [m3 _ _ (by omega), hM]
      have vN : V 127 72 = nI n := by rw [m3 _ _ (by omega), h.2.1.1]
      have v7 : ∀ p, p < n → V 127 (9 * p + 7) = M 25 p := fun p hp => by rw [m3 _ _ (by omega), g7 p hp]
      have hby := sp_by (scr := scr) (M := M) (N := V) hn vN v7 (show 2 ^ n - 1 < 256 by omega)
      obtain ⟨W, l4, l5, l6, p1, p2, p3⟩ := pa_out (scr := scr) hn hK hK2 hc vN v7 what
      have p1 : ab_res scr 186 3 V 39 [some (.ref 123), some (.int what), some (.int (nI (2 ^ n - 1))), some (.int 1), none, none, none] [] = _ := p1
      have hW : CR n t K W := CR_sets h (fun c j a b => by rw [p2 c j b, m3 c j a])
      have wN : W 127 72 = nI n := by rw [p2 _ _ (by decide), vN]
      have r1 : ab_ms scr 186 [.ref 123, .int what] V = ab_res scr 186 3 W 180 [some (.ref 123), some (.int what), some (.int (nI (2 ^ n - 1))), some (.int (nI (2 ^ n - 1 + 1))), l4, l5, l6] [] := by
        rw [ms186, ← p1]
        simp only [q186_0, q186_1, q186_2, q186_3, q186_4, q186_7, q186_10, q186_11, q186_12, q186_13, q186_14, q186_17, q186_19, q186_20, q186_21, q186_22, q186_23, q186_24, q186_25, q186_26, q186_29, q186_30, q186_31, q186_34, q186_36, q186_37, q186_38, q186_40, q186_41, q186_44, q186_45, q186_48, q186_49, q186_50, q186_51, q186_54, q186_55, q186_56, q186_59, q186_60, q186_63, q186_64, q186_65, q186_66, q186_67, q186_68, q186_69, q186_70, q186_74, q186_77, q186_78, q186_81, q186_82, q186_83, q186_86, q186_87, q186_89, q186_90, q186_91, q186_92, q186_94, q186_95, q186_98, q186_100, q186_101, q186_104, q186_105, q186_108, q186_110, q186_111, q186_114, q186_115, q186_118, q186_120, q186_121, q186_122, q186_125, q186_127, q186_128, q186_129, q186_132, q186_133, q186_135, q186_136, q186_139, q186_140, q186_142, q186_143, q186_146, q186_147, q186_148, q186_151, q186_153, q186_156, q186_157, q186_160, q186_161, q186_162, q186_163, q186_165, q186_166, q186_167, q186_168, q186_169, q186_171, q186_177, q186_181, q186_184, q186_185, q186_188, q186_189, q186_192, q186_193, q186_194, q186_195, q186_196, q186_199, q186_200, q186_203, q186_205, q186_206, q186_207, q186_208, q186_211, q186_212, n10, n01, Bool.false_eq_true, ab_bs, ab_bn, ab_pr0, ab_pr1, nl_n, nl_i, nl_r, nl_j, nl_nl, rc_123, gf_123_0, gf_123_1, pt_123_1, gf_123_2, pt_123_2, gf_123_3, pt_123_3, gf_123_4, pt_123_4, gf_123_5, pt_123_5, gf_123_6, pt_123_6, gf_123_7, pt_123_7, gf_123_8, pt_123_8, gf_123_9, gf_123_10, gf_123_11, gf_123_12, gf_123_13, pt_123_13_0, pt_123_13_1, gf_123_14, pt_123_14_0, pt_123_14_1, gf_123_15, gf_123_16, gf_123_17, gf_123_18, gf_123_19, gf_123_20, gf_123_21, gf_123_22, gf_123_23, gf_123_24, gf_123_25, pt_123_25, gf_123_26, gf_123_27, pt_123_27, gf_123_28, pt_123_28, gf_123_29, gf_123_30, pt_123_30, gf_123_31, pt_123_31, gf_123_32, pt_123_32, gf_123_33, pt_123_33, gf_123_34, pt_123_34_0, pt_123_34_1, gf_123_35, gf_123_36, gf_123_37, gf_123_38, pt_123_38, gf_123_39, pt_123_39, gf_123_40, pt_123_40, gf_123_41, gf_123_42, gf_123_43, gf_123_44, gf_123_45, gf_123_46, gf_123_47, pt_123_47, sp_in, k0, l1, h2, and_self, if_true, not_false_eq_true, (show ¬ (1 : Int32) = 0 by decide), r72, vN, all8 n (by omega), hby, lg_cmp_eq, hz1]
      have c1 : ab_ms scr 101 [.ref 0, .int what] M = some (V, some (.int (if what = 0 then nI n - nI (f (2 ^ n - 1)) else nI (f (2 ^ n - 1))))) := by
        rw [ms101]
        by_cases hw : what = 0
        · subst hw
          simp only [q101_0, q101_1, q101_2, q101_5, q101_8, q101_9, q101_10, q101_11, q101_14, q101_16, q101_19, q101_22, q101_24, q101_25, q101_26, q101_29, q101_32, q101_33, q101_34, q101_37, q101_38, q101_41, q101_44, q101_45, q101_46, q101_49, q101_50, n10, n01, Bool.false_eq_true, ab_bs, ab_bn, ab_pr0, ab_pr1, nl_n, nl_i, nl_r, nl_j, nl_nl, rc_0, gf_0_0, gf_0_1, gf_0_2, gf_0_3, gf_0_4, gf_0_5, gf_0_6, gf_0_7, gf_0_8, gf_0_9, pt_0_9, rc_16, gf_16_0, gf_16_1, gf_16_2, gf_16_3, pt_16_3, gf_16_4, pt_16_4, gf_16_5, pt_16_5, rc_86, gf_86_0, gf_86_1, gf_86_2, sp_within, h2, and_self, if_true, not_false_eq_true, (show ¬ (1 : Int32) = 0 by decide), x1, hz2, m1, not_true, if_false, vM]
        · simp only [q101_0, q101_1, q101_2, q101_5, q101_8, q101_9, q101_10, q101_11, q101_14, q101_16, q101_19, q101_22, q101_24, q101_25, q101_26, q101_29, q101_32, q101_33, q101_34, q101_37, q101_38, q101_41, q101_44, q101_45, q101_46, q101_49, q101_50, n10, n01, Bool.false_eq_true, ab_bs, ab_bn, ab_pr0, ab_pr1, nl_n, nl_i, nl_r, nl_j, nl_nl, rc_0, gf_0_0, gf_0_1, gf_0_2, gf_0_3, gf_0_4, gf_0_5, gf_0_6, gf_0_7, gf_0_8, gf_0_9, pt_0_9, rc_16, gf_16_0, gf_16_1, gf_16_2, gf_16_3, pt_16_3, gf_16_4, pt_16_4, gf_16_5, pt_16_5, rc_86, gf_86_0, gf_86_1, gf_86_2, sp_within, h2, and_self, if_true, not_false_eq_true, (show ¬ (1 : Int32) = 0 by decide), x1, hz2, m1, hw, if_false, vM]
      refine ⟨V, _, W, c1, r1.trans ?_, n, t, hW⟩
      rcases Nat.eq_zero_or_pos n with rfl | n0
      · have e0 : nI (f (2 ^ 0 - 1)) = 0 := by
          rw [show f (2 ^ 0 - 1) = 0 from m2.1]
          rfl
        rw [e0]
        by_cases hw : what = 0
        · rw [q186_180]
          simp only [q186_0, q186_1, q186_2, q186_3, q186_4, q186_7, q186_10, q186_11, q186_12, q186_13, q186_14, q186_17, q186_19, q186_20, q186_21, q186_22, q186_23, q186_24, q186_25, q186_26, q186_29, q186_30, q186_31, q186_34, q186_36, q186_37, q186_38, q186_40, q186_41, q186_44, q186_45, q186_48, q186_49, q186_50, q186_51, q186_54, q186_55, q186_56, q186_59, q186_60, q186_63, q186_64, q186_65, q186_66, q186_67, q186_68, q186_69, q186_70, q186_74, q186_77, q186_78, q186_81, q186_82, q186_83, q186_86, q186_87, q186_89, q186_90, q186_91, q186_92, q186_94, q186_95, q186_98, q186_100, q186_101, q186_104, q186_105, q186_108, q186_110, q186_111, q186_114, q186_115, q186_118, q186_120, q186_121, q186_122, q186_125, q186_127, q186_128, q186_129, q186_132, q186_133, q186_135, q186_136, q186_139, q186_140, q186_142, q186_143, q186_146, q186_147, q186_148, q186_151, q186_153, q186_156, q186_157, q186_160, q186_161, q186_162, q186_163, q186_165, q186_166, q186_167, q186_168, q186_169, q186_171, q186_177, q186_181, q186_184, q186_185, q186_188, q186_189, q186_192, q186_193, q186_194, q186_195, q186_196, q186_199, q186_200, q186_203, q186_205, q186_206, q186_207, q186_208, q186_211, q186_212, n10, n01, Bool.false_eq_true, ab_bs, ab_bn, ab_pr0, ab_pr1, nl_n, nl_i, nl_r, nl_j, nl_nl, rc_123, gf_123_0, gf_123_1, pt_123_1, gf_123_2, pt_123_2, gf_123_3, pt_123_3, gf_123_4, pt_123_4, gf_123_5, pt_123_5, gf_123_6, pt_123_6, gf_123_7, pt_123_7, gf_123_8, pt_123_8, gf_123_9, gf_123_10, gf_123_11, gf_123_12, gf_123_13, pt_123_13_0, pt_123_13_1, gf_123_14, pt_123_14_0, pt_123_14_1, gf_123_15, gf_123_16, gf_123_17, gf_123_18, gf_123_19, gf_123_20, gf_123_21, gf_123_22, gf_123_23, gf_123_24, gf_123_25, pt_123_25, gf_123_26, gf_123_27, pt_123_27, gf_123_28, pt_123_28, gf_123_29, gf_123_30, pt_123_30, gf_123_31, pt_123_31, gf_123_32, pt_123_32, gf_123_33, pt_123_33, gf_123_34, pt_123_34_0, pt_123_34_1, gf_123_35, gf_123_36, gf_123_37, gf_123_38, pt_123_38, gf_123_39, pt_123_39, gf_123_40, pt_123_40, gf_123_41, gf_123_42, gf_123_43, gf_123_44, gf_123_45, gf_123_46, gf_123_47, pt_123_47, (show nI (2 ^ 0 - 1) = 0 from rfl), not_true, if_false, hw, r72, wN, if_true]
        · rw [q186_180]
          simp only [q186_0, q186_1, q186_2, q186_3, q186_4, q186_7, q186_10, q186_11, q186_12, q186_13, q186_14, q186_17, q186_19, q186_20, q186_21, q186_22, q186_23, q186_24, q186_25, q186_26, q186_29, q186_30, q186_31, q186_34, q186_36, q186_37, q186_38, q186_40, q186_41, q186_44, q186_45, q186_48, q186_49, q186_50, q186_51, q186_54, q186_55, q186_56, q186_59, q186_60, q186_63, q186_64, q186_65, q186_66, q186_67, q186_68, q186_69, q186_70, q186_74, q186_77, q186_78, q186_81, q186_82, q186_83, q186_86, q186_87, q186_89, q186_90, q186_91, q186_92, q186_94, q186_95, q186_98, q186_100, q186_101, q186_104, q186_105, q186_108, q186_110, q186_111, q186_114, q186_115, q186_118, q186_120, q186_121, q186_122, q186_125, q186_127, q186_128, q186_129, q186_132, q186_133, q186_135, q186_136, q186_139, q186_140, q186_142, q186_143, q186_146, q186_147, q186_148, q186_151, q186_153, q186_156, q186_157, q186_160, q186_161, q186_162, q186_163, q186_165, q186_166, q186_167, q186_168, q186_169, q186_171, q186_177, q186_181, q186_184, q186_185, q186_188, q186_189, q186_192, q186_193, q186_194, q186_195, q186_196, q186_199, q186_200, q186_203, q186_205, q186_206, q186_207, q186_208, q186_211, q186_212, n10, n01, Bool.false_eq_true, ab_bs, ab_bn, ab_pr0, ab_pr1, nl_n, nl_i, nl_r, nl_j, nl_nl, rc_123, gf_123_0, gf_123_1, pt_123_1, gf_123_2, pt_123_2, gf_123_3, pt_123_3, gf_123_4, pt_123_4, gf_123_5, pt_123_5, gf_123_6, pt_123_6, gf_123_7, pt_123_7, gf_123_8, pt_123_8, gf_123_9, gf_123_10, gf_123_11, gf_123_12, gf_123_13, pt_123_13_0, pt_123_13_1, gf_123_14, pt_123_14_0, pt_123_14_1, gf_123_15, gf_123_16, gf_123_17, gf_123_18, gf_123_19, gf_123_20, gf_123_21, gf_123_22, gf_123_23, gf_123_24, gf_123_25, pt_123_25, gf_123_26, gf_123_27, pt_123_27, gf_123_28, pt_123_28, gf_123_29, gf_123_30, pt_123_30, gf_123_31, pt_123_31, gf_123_32, pt_123_32, gf_123_33, pt_123_33, gf_123_34, pt_123_34_0, pt_123_34_1, gf_123_35, gf_123_36, gf_123_37, gf_123_38, pt_123_38, gf_123_39, pt_123_39, gf_123_40, pt_123_40, gf_123_41, gf_123_42, gf_123_43, gf_123_44, gf_123_45, gf_123_46, gf_123_47, pt_123_47, (show nI (2 ^ 0 - 1) = 0 from rfl), not_true, not_false_eq_true, if_true, hw, r72, wN, if_false]
      · have h2n : 2 ≤ 2 ^ n := by
          have : 2 ^ 1 ≤ 2 ^ n := Nat.pow_le_pow_right (by decide) n0
          omega
        have ea : ¬ nI (2 ^ n - 1) = 0 := nI_ne0 (by omega) (by omega)
        have hG : GG n (cI M) (gV W) := fun x x0 x1 xz => by
          obtain ⟨g1, g2⟩ := p3 x x0 x1
          exact ⟨(g1.2 xz).2.1, g2 xz⟩
        have hfg := FG_eq hn m2 hG (2 ^ n - 1) (by omega) (by omega) hz
        have hW145 := ((p3 (2 ^ n - 1) (by omega) (by omega)).1.2 hz).1
        have al : ab_ald scr ab_L0 W 145 .int (nI (2 ^ n - 1)) = some (nI (f (2 ^ n - 1))) := by
          rw [al_145, ib_nI (show 2 ^ n - 1 < 256 by omega) (by decide), nI_clamp (by omega), hfg, ← hW145]
          rfl
        by_cases hw : what = 0
        · rw [q186_180]
          simp only [q186_0, q186_1, q186_2, q186_3, q186_4, q186_7, q186_10, q186_11, q186_12, q186_13, q186_14, q186_17, q186_19, q186_20, q186_21, q186_22, q186_23, q186_24, q186_25, q186_26, q186_29, q186_30, q186_31, q186_34, q186_36, q186_37, q186_38, q186_40, q186_41, q186_44, q186_45, q186_48, q186_49, q186_50, q186_51, q186_54, q186_55, q186_56, q186_59, q186_60, q186_63, q186_64, q186_65, q186_66, q186_67, q186_68, q186_69, q186_70, q186_74, q186_77, q186_78, q186_81, q186_82, q186_83, q186_86, q186_87, q186_89, q186_90, q186_91, q186_92, q186_94, q186_95, q186_98, q186_100, q186_101, q186_104, q186_105, q186_108, q186_110, q186_111, q186_114, q186_115, q186_118, q186_120, q186_121, q186_122, q186_125, q186_127, q186_128, q186_129, q186_132, q186_133, q186_135, q186_136, q186_139, q186_140, q186_142, q186_143, q186_146, q186_147, q186_148, q186_151, q186_153, q186_156, q186_157, q186_160, q186_161, q186_162, q186_163, q186_165, q186_166, q186_167, q186_168, q186_169, q186_171, q186_177, q186_181, q186_184, q186_185, q186_188, q186_189, q186_192, q186_193, q186_194, q186_195, q186_196, q186_199, q186_200, q186_203, q186_205, q186_206, q186_207, q186_208, q186_211, q186_212, n10, n01, Bool.false_eq_true, ab_bs, ab_bn, ab_pr0, ab_pr1, nl_n, nl_i, nl_r, nl_j, nl_nl, rc_123, gf_123_0, gf_123_1, pt_123_1, gf_123_2, pt_123_2, gf_123_3, pt_123_3, gf_123_4, pt_123_4, gf_123_5, pt_123_5, gf_123_6, pt_123_6, gf_123_7, pt_123_7, gf_123_8, pt_123_8, gf_123_9, gf_123_10, gf_123_11, gf_123_12, gf_123_13, pt_123_13_0, pt_123_13_1, gf_123_14, pt_123_14_0, pt_123_14_1, gf_123_15, gf_123_16, gf_123_17, gf_123_18, gf_123_19, gf_123_20, gf_123_21, gf_123_22, gf_123_23, gf_123_24, gf_123_25, pt_123_25, gf_123_26, gf_123_27, pt_123_27, gf_123_28, pt_123_28, gf_123_29, gf_123_30, pt_123_30, gf_123_31, pt_123_31, gf_123_32, pt_123_32, gf_123_33, pt_123_33, gf_123_34, pt_123_34_0, pt_123_34_1, gf_123_35, gf_123_36, gf_123_37, gf_123_38, pt_123_38, gf_123_39, pt_123_39, gf_123_40, pt_123_40, gf_123_41, gf_123_42, gf_123_43, gf_123_44, gf_123_45, gf_123_46, gf_123_47, pt_123_47, ea, not_false_eq_true, if_true, al, not_true, if_false, hw, r72, wN]
        · rw [q186_180]
          simp only [q186_0, q186_1, q186_2, q186_3, q186_4, q186_7, q186_10, q186_11, q186_12, q186_13, q186_14, q186_17, q186_19, q186_20, q186_21, q186_22, q186_23, q186_24, q186_25, q186_26, q186_29, q186_30, q186_31, q186_34, q186_36, q186_37, q186_38, q186_40, q186_41, q186_44, q186_45, q186_48, q186_49, q186_50, q186_51, q186_54, q186_55, q186_56, q186_59, q186_60, q186_63, q186_64, q186_65, q186_66, q186_67, q186_68, q186_69, q186_70, q186_74, q186_77, q186_78, q186_81, q186_82, q186_83, q186_86, q186_87, q186_89, q186_90, q186_91, q186_92, q186_94, q186_95, q186_98, q186_100, q186_101, q186_104, q186_105, q186_108, q186_110, q186_111, q186_114, q186_115, q186_118, q186_120, q186_121, q186_122, q186_125, q186_127, q186_128, q186_129, q186_132, q186_133, q186_135, q186_136, q186_139, q186_140, q186_142, q186_143, q186_146, q186_147, q186_148, q186_151, q186_153, q186_156, q186_157, q186_160, q186_161, q186_162, q186_163, q186_165, q186_166, q186_167, q186_168, q186_169, q186_171, q186_177, q186_181, q186_184, q186_185, q186_188, q186_189, q186_192, q186_193, q186_194, q186_195, q186_196, q186_199, q186_200, q186_203, q186_205, q186_206, q186_207, q186_208, q186_211, q186_212, n10, n01, Bool.false_eq_true, ab_bs, ab_bn, ab_pr0, ab_pr1, nl_n, nl_i, nl_r, nl_j, nl_nl, rc_123, gf_123_0, gf_123_1, pt_123_1, gf_123_2, pt_123_2, gf_123_3, pt_123_3, gf_123_4, pt_123_4, gf_123_5, pt_123_5, gf_123_6, pt_123_6, gf_123_7, pt_123_7, gf_123_8, pt_123_8, gf_123_9, gf_123_10, gf_123_11, gf_123_12, gf_123_13, pt_123_13_0, pt_123_13_1, gf_123_14, pt_123_14_0, pt_123_14_1, gf_123_15, gf_123_16, gf_123_17, gf_123_18, gf_123_19, gf_123_20, gf_123_21, gf_123_22, gf_123_23, gf_123_24, gf_123_25, pt_123_25, gf_123_26, gf_123_27, pt_123_27, gf_123_28, pt_123_28, gf_123_29, gf_123_30, pt_123_30, gf_123_31, pt_123_31, gf_123_32, pt_123_32, gf_123_33, pt_123_33, gf_123_34, pt_123_34_0, pt_123_34_1, gf_123_35, gf_123_36, gf_123_37, gf_123_38, pt_123_38, gf_123_39, pt_123_39, gf_123_40, pt_123_40, gf_123_41, gf_123_42, gf_123_43, gf_123_44, gf_123_45, gf_123_46, gf_123_47, pt_123_47, ea, not_false_eq_true, if_true, al, hw, if_false]
    · have hz1 := hz
      have hz2 := hz
      rw [← hzz] at hz1
      rw [← hss] at hz2
      have hby := sp_by (scr := scr) (M := M) (N := M) hn h.2.1.1 g7 (show 2 ^ n - 1 < 256 by omega)
      refine ⟨M, -2, M, ?_, ?_, n, t, h⟩
      · rw [ms101]; simp only [q101_0, q101_1, q101_2, q101_5, q101_8, q101_9, q101_10, q101_11, q101_14, q101_16, q101_19, q101_22, q101_24, q101_25, q101_26, q101_29, q101_32, q101_33, q101_34, q101_37, q101_38, q101_41, q101_44, q101_45, q101_46, q101_49, q101_50, n10, n01, Bool.false_eq_true, ab_bs, ab_bn, ab_pr0, ab_pr1, nl_n, nl_i, nl_r, nl_j, nl_nl, rc_0, gf_0_0, gf_0_1, gf_0_2, gf_0_3, gf_0_4, gf_0_5, gf_0_6, gf_0_7, gf_0_8, gf_0_9, pt_0_9, rc_16, gf_16_0, gf_16_1, gf_16_2, gf_16_3, pt_16_3, gf_16_4, pt_16_4, gf_16_5, pt_16_5, sp_within, h2, and_self, if_true, not_false_eq_true, (show ¬ (1 : Int32) = 0 by decide), x1, hz2, if_false]
      · rw [ms186]; simp only [q186_0, q186_1, q186_2, q186_3, q186_4, q186_7, q186_10, q186_11, q186_12, q186_13, q186_14, q186_17, q186_19, q186_20, q186_21, q186_22, q186_23, q186_24, q186_25, q186_26, q186_29, q186_30, q186_31, q186_34, q186_36, q186_37, q186_38, q186_40, q186_41, q186_44, q186_45, q186_48, q186_49, q186_50, q186_51, q186_54, q186_55, q186_56, q186_59, q186_60, q186_63, q186_64, q186_65, q186_66, q186_67, q186_68, q186_69, q186_70, q186_74, q186_77, q186_78, q186_81, q186_82, q186_83, q186_86, q186_87, q186_89, q186_90, q186_91, q186_92, q186_94, q186_95, q186_98, q186_100, q186_101, q186_104, q186_105, q186_108, q186_110, q186_111, q186_114, q186_115, q186_118, q186_120, q186_121, q186_122, q186_125, q186_127, q186_128, q186_129, q186_132, q186_133, q186_135, q186_136, q186_139, q186_140, q186_142, q186_143, q186_146, q186_147, q186_148, q186_151, q186_153, q186_156, q186_157, q186_160, q186_161, q186_162, q186_163, q186_165, q186_166, q186_167, q186_168, q186_169, q186_171, q186_177, q186_181, q186_184, q186_185, q186_188, q186_189, q186_192, q186_193, q186_194, q186_195, q186_196, q186_199, q186_200, q186_203, q186_205, q186_206, q186_207, q186_208, q186_211, q186_212, n10, n01, Bool.false_eq_true, ab_bs, ab_bn, ab_pr0, ab_pr1, nl_n, nl_i, nl_r, nl_j, nl_nl, rc_123, gf_123_0, gf_123_1, pt_123_1, gf_123_2, pt_123_2, gf_123_3, pt_123_3, gf_123_4, pt_123_4, gf_123_5, pt_123_5, gf_123_6, pt_123_6, gf_123_7, pt_123_7, gf_123_8, pt_123_8, gf_123_9, gf_123_10, gf_123_11, gf_123_12, gf_123_13, pt_123_13_0, pt_123_13_1, gf_123_14, pt_123_14_0, pt_123_14_1, gf_123_15, gf_123_16, gf_123_17, gf_123_18, gf_123_19, gf_123_20, gf_123_21, gf_123_22, gf_123_23, gf_123_24, gf_123_25, pt_123_25, gf_123_26, gf_123_27, pt_123_27, gf_123_28, pt_123_28, gf_123_29, gf_123_30, pt_123_30, gf_123_31, pt_123_31, gf_123_32, pt_123_32, gf_123_33, pt_123_33, gf_123_34, pt_123_34_0, pt_123_34_1, gf_123_35, gf_123_36, gf_123_37, gf_123_38, pt_123_38, gf_123_39, pt_123_39, gf_123_40, pt_123_40, gf_123_41, gf_123_42, gf_123_43, gf_123_44, gf_123_45, gf_123_46, gf_123_47, pt_123_47, sp_in, k0, l1, h2, and_self, if_true, not_false_eq_true, (show ¬ (1 : Int32) = 0 by decide), r72, h.2.1.1, all8 n (by omega), hby, lg_cmp_eq, hz1, if_false]
  · refine ⟨M, -1, M, ?_, ?_, n, t, h⟩
    · rw [ms101]; simp only [q101_0, q101_1, q101_2, q101_5, q101_8, q101_9, q101_10, q101_11, q101_14, q101_16, q101_19, q101_22, q101_24, q101_25, q101_26, q101_29, q101_32, q101_33, q101_34, q101_37, q101_38, q101_41, q101_44, q101_45, q101_46, q101_49, q101_50, n10, n01, Bool.false_eq_true, ab_bs, ab_bn, ab_pr0, ab_pr1, nl_n, nl_i, nl_r, nl_j, nl_nl, sp_within, h2, if_false, not_true]
    · rw [ms186]; simp only [q186_0, q186_1, q186_2, q186_3, q186_4, q186_7, q186_10, q186_11, q186_12, q186_13, q186_14, q186_17, q186_19, q186_20, q186_21, q186_22, q186_23, q186_24, q186_25, q186_26, q186_29, q186_30, q186_31, q186_34, q186_36, q186_37, q186_38, q186_40, q186_41, q186_44, q186_45, q186_48, q186_49, q186_50, q186_51, q186_54, q186_55, q186_56, q186_59, q186_60, q186_63, q186_64, q186_65, q186_66, q186_67, q186_68, q186_69, q186_70, q186_74, q186_77, q186_78, q186_81, q186_82, q186_83, q186_86, q186_87, q186_89, q186_90, q186_91, q186_92, q186_94, q186_95, q186_98, q186_100, q186_101, q186_104, q186_105, q186_108, q186_110, q186_111, q186_114, q186_115, q186_118, q186_120, q186_121, q186_122, q186_125, q186_127, q186_128, q186_129, q186_132, q186_133, q186_135, q186_136, q186_139, q186_140, q186_142, q186_143, q186_146, q186_147, q186_148, q186_151, q186_153, q186_156, q186_157, q186_160, q186_161, q186_162, q186_163, q186_165, q186_166, q186_167, q186_168, q186_169, q186_171, q186_177, q186_181, q186_184, q186_185, q186_188, q186_189, q186_192, q186_193, q186_194, q186_195, q186_196, q186_199, q186_200, q186_203, q186_205, q186_206, q186_207, q186_208, q186_211, q186_212, n10, n01, Bool.false_eq_true, ab_bs, ab_bn, ab_pr0, ab_pr1, nl_n, nl_i, nl_r, nl_j, nl_nl, sp_in, k0, l1, h2, if_false, not_true]
end
