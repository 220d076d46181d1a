/-! COINS: the reference's table, and the call -/
def GA (n : Nat) (M V : ab_M) (y : Nat) : Prop := en n M V y ∧ (SZ (cI M) y n = 0 → (∀ T, 0 < T → T < y → T &&& y = T → SZ (cI M) T n = 0 → gV V T + gV V (y ^^^ T) ≤ gV V y) ∧ (gV V y = 1 ∨ ∃ T, 0 < T ∧ T < y ∧ T &&& y = T ∧ SZ (cI M) T n = 0 ∧ gV V y = gV V T + gV V (y ^^^ T)))
theorem GA_same {n : Nat} {M V V' : ab_M} {y : Nat} (h : GA n M V y) (hg : ∀ z, z ≤ y → V' 145 z = V 145 z) : GA n M V' y := by
  have e : ∀ z, z ≤ y → gV V' z = gV V z := fun z hz => by unfold gV; rw [hg z hz]
  obtain ⟨⟨a1', a2'⟩, b⟩ := h
  refine ⟨⟨fun q => by rw [hg y (Nat.le_refl _), a1' q], fun q => by rw [hg y (Nat.le_refl _), e y (Nat.le_refl _)]; exact a2' q⟩, fun q => ?_⟩
  obtain ⟨b1, b2⟩ := b q
  refine ⟨fun T t0 t1 t2 t3 => ?_, ?_⟩
  · have := (restL (n := n) (c := cI M) t0 t1 t2).1
    rw [e T (by omega), e (y ^^^ T) (by omega), e y (Nat.le_refl _)]
    exact b1 T t0 t1 t2 t3
  · rw [e y (Nat.le_refl _)]
    rcases b2 with g | ⟨T, t0, t1, t2, t3, t4⟩
    · exact Or.inl g
    · have := (restL (n := n) (c := cI M) t0 t1 t2).1
      exact Or.inr ⟨T, t0, t1, t2, t3, by rw [e T (by omega), e (y ^^^ T) (by omega)]; exact t4⟩
theorem pa_out {scr : Option (List Int32)} {n : Nat} {M N : ab_M} {K : Int} (hn : n ≤ 8) (hK : 0 ≤ K) (hK2 : K ≤ 200000000) (hc : ∀ p, p < n → -K ≤ cI M p ∧ cI M p ≤ K) (hM : N 127 72 = nI n) (h7 : ∀ p, p < n → N 127 (9 * p + 7) = M 25 p) (what : Int32) : ∃ (V : ab_M) (l4 l5 l6 : Option Value), ab_res scr 186 3 N 39 [some (.ref 123), some (.int what), some (.int (nI (2 ^ n - 1))), some (.int (nI 1)), none, none, none] [] = ab_res scr 186 3 V 180 [some (.ref 123), some (.int what), some (.int (nI (2 ^ n - 1))), some (.int (nI (2 ^ n - 1 + 1))), l4, l5, l6] [] ∧ (∀ c j, c ≠ 145 → V c j = N c j) ∧ ∀ y, 0 < y → y < 2 ^ n → GA n M V y := by
  have h256 : 2 ^ n ≤ 2 ^ 8 := Nat.pow_le_pow_right (by decide) hn
  have hpos : 0 < 2 ^ n := Nat.two_pow_pos n
  have hr := rx (fun k (s : ab_M × Option Value × Option Value × Option Value) => ab_res scr 186 3 s.1 39 [some (.ref 123), some (.int what), some (.int (nI (2 ^ n - 1))), some (.int (nI (k + 1))), s.2.1, s.2.2.1, s.2.2.2] []) (fun k s => (∀ c j, c ≠ 145 → s.1 c j = N c j) ∧ ∀ y, 0 < y → y < k + 1 → GA n M s.1 y) (2 ^ n - 1) (N, none, none, none) ⟨fun _ _ _ => rfl, fun y a b => absurd b (by omega)⟩ (fun k s hk hs => ?_)
  · obtain ⟨⟨V, l4, l5, l6⟩, e1, e2, e3⟩ := hr
    have hg : nI (2 ^ n - 1) < nI (2 ^ n - 1 + 1) := nI_lt (by omega) (by omega)
    refine ⟨V, l4, l5, l6, Eq.trans e1 ?_, e2, fun y y0 y1 => e3 y y0 (by omega)⟩
    show ab_res scr 186 3 V 39 _ [] = _
    rw [q186_39]
    simp only [q186_0, q186_1, q186_2, q186_3, q186_4, q186_7, q186_10, q186_11, q186_12, q186_13, q186_14, q186_17, q186_19, q186_20, q186_21, q186_22, q186_23, q186_24, q186_25, q186_26, q186_29, q186_30, q186_31, q186_34, q186_36, q186_37, q186_38, q186_40, q186_41, q186_44, q186_45, q186_48, q186_49, q186_50, q186_51, q186_54, q186_55, q186_56, q186_59, q186_60, q186_63, q186_64, q186_65, q186_66, q186_67, q186_68, q186_69, q186_70, q186_74, q186_77, q186_78, q186_81, q186_82, q186_83, q186_86, q186_87, q186_89, q186_90, q186_91, q186_92, q186_94, q186_95, q186_98, q186_100, q186_101, q186_104, q186_105, q186_108, q186_110, q186_111, q186_114, q186_115, q186_118, q186_120, q186_121, q186_122, q186_125, q186_127, q186_128, q186_129, q186_132, q186_133, q186_135, q186_136, q186_139, q186_140, q186_142, q186_143, q186_146, q186_147, q186_148, q186_151, q186_153, q186_156, q186_157, q186_160, q186_161, q186_162, q186_163, q186_165, q186_166, q186_167, q186_168, q186_169, q186_171, q186_177, q186_181, q186_184, q186_185, q186_188, q186_189, q186_192, q186_193, q186_194, q186_195, q186_196, q186_199, q186_200, q186_203, q186_205, q186_206, q186_207, q186_208, q186_211, q186_212, n10, n01, Bool.false_eq_true, ab_bs, ab_bn, ab_pr0, ab_pr1, nl_n, nl_i, nl_r, nl_j, nl_nl, hg, if_true]
  · obtain ⟨V, l4, l5, l6⟩ := s
    have v1 : ∀ c j, c ≠ 145 → V c j = N c j := hs.1
    have v2 : ∀ y, 0 < y → y < k + 1 → GA n M V y := hs.2
    obtain ⟨x, hxk⟩ : ∃ x, x = k + 1 := ⟨_, rfl⟩
    have hx0 : 0 < x := by omega
    have hx : x < 256 := by omega
    have hg : ¬ nI (2 ^ n - 1) < nI x := nI_nlt (by omega) (by omega)
    have hby := sp_by (scr := scr) (M := M) (N := V) hn (by rw [v1 _ _ (by decide), hM]) (fun p hp => by rw [v1 _ _ (by decide), h7 p hp]) hx
    have hzz : (cbL M x n = 0) = (SZ (cI M) x n = 0) := by
      apply propext
      rw [← cbL_i hn hK hK2 hc x n (Nat.le_refl _)]
      exact ⟨fun q => by rw [q]; rfl, fun q => Int64.toInt_inj.mp (by rw [q]; rfl)⟩
    have sx : ab_si 145 .int (nI x) = true := by
      rw [si_145]
      exact ib_nI hx (by decide)
    have hibx : ab_inB (nI x) 256 = true := ib_nI hx (by decide)
    have hclx : (nI x).toNatClampNeg = x := nI_clamp (by omega)
    have hnx : (nI x - 1) &&& nI x = nI ((x - 1) &&& x) := by
      have : nI x - 1 = nI (x - 1) := by
        rw [hxk, nI_succ, Nat.add_sub_cancel]
        exact Int32.add_sub_cancel _ _
      rw [this, and_nI (by omega) hx]
    have hlt : (x - 1) &&& x < x := Nat.lt_of_le_of_lt Nat.and_le_left (by omega)
    have keep : ∀ v y, y < x → ∀ z, z ≤ y → ab_up V 145 x v 145 z = V 145 z := fun v y hy z hz => up_o _ _ _ _ _ _ (by omega)
    by_cases hz : SZ (cI M) x n = 0
    · have hz2 := hz
      rw [← hzz] at hz2
      have wf : ∀ v y, y ≠ x → gV (ab_up V 145 x v) y = gV V y := fun v y hy => by
        unfold gV
        rw [up_o _ _ _ _ _ _ (by omega)]
      obtain ⟨w', m1, m2, m3, k1, k2, k3, k4, k5⟩ := pa_in (scr := scr) (M := M) hx0 hx hz what (nI (2 ^ n - 1)) ((x - 1) &&& x) (ab_up V 145 x 1) 1 l5 l6 (by rw [Nat.and_assoc, Nat.and_self]) hlt (fun y y0 y1 => (GA_same (v2 y y0 (by omega)) (keep 1 y y1)).1) (by rw [up_s]; rfl) (Nat.le_refl _) (by omega) (fun T t0 t1 t2 t3 => by
          have := sub_next x x T hx0 (Nat.and_self x) t2 t1
          omega) (Or.inl rfl)
      rw [up_up] at k1
      refine ⟨(ab_up V 145 x (nI w'), m1, m2, m3), ?_, fun c j hc => ?_, fun y y0 y1 => ?_⟩
      · show ab_res scr 186 3 V 39 [some (.ref 123), some (.int what), some (.int (nI (2 ^ n - 1))), some (.int (nI (k + 1))), l4, l5, l6] [] = ab_res scr 186 3 _ 39 [some (.ref 123), some (.int what), some (.int (nI (2 ^ n - 1))), some (.int (nI (k + 1 + 1))), m1, m2, m3] []
        rw [← hxk, q186_39]
        simp only [q186_0, q186_1, q186_2, q186_3, q186_4, q186_7, q186_10, q186_11, q186_12, q186_13, q186_14, q186_17, q186_19, q186_20, q186_21, q186_22, q186_23, q186_24, q186_25, q186_26, q186_29, q186_30, q186_31, q186_34, q186_36, q186_37, q186_38, q186_40, q186_41, q186_44, q186_45, q186_48, q186_49, q186_50, q186_51, q186_54, q186_55, q186_56, q186_59, q186_60, q186_63, q186_64, q186_65, q186_66, q186_67, q186_68, q186_69, q186_70, q186_74, q186_77, q186_78, q186_81, q186_82, q186_83, q186_86, q186_87, q186_89, q186_90, q186_91, q186_92, q186_94, q186_95, q186_98, q186_100, q186_101, q186_104, q186_105, q186_108, q186_110, q186_111, q186_114, q186_115, q186_118, q186_120, q186_121, q186_122, q186_125, q186_127, q186_128, q186_129, q186_132, q186_133, q186_135, q186_136, q186_139, q186_140, q186_142, q186_143, q186_146, q186_147, q186_148, q186_151, q186_153, q186_156, q186_157, q186_160, q186_161, q186_162, q186_163, q186_165, q186_166, q186_167, q186_168, q186_169, q186_171, q186_177, q186_181, q186_184, q186_185, q186_188, q186_189, q186_192, q186_193, q186_194, q186_195, q186_196, q186_199, q186_200, q186_203, q186_205, q186_206, q186_207, q186_208, q186_211, q186_212, n10, n01, Bool.false_eq_true, ab_bs, ab_bn, ab_pr0, ab_pr1, nl_n, nl_i, nl_r, nl_j, nl_nl, rc_123, gf_123_0, gf_123_1, pt_123_1, gf_123_2, pt_123_2, gf_123_3, pt_123_3, gf_123_4, pt_123_4, gf_123_5, pt_123_5, gf_123_6, pt_123_6, gf_123_7, pt_123_7, gf_123_8, pt_123_8, gf_123_9, gf_123_10, gf_123_11, gf_123_12, gf_123_13, pt_123_13_0, pt_123_13_1, gf_123_14, pt_123_14_0, pt_123_14_1, gf_123_15, gf_123_16, gf_123_17, gf_123_18, gf_123_19, gf_123_20, gf_123_21, gf_123_22, gf_123_23, gf_123_24, gf_123_25, pt_123_25, gf_123_26, gf_123_27, pt_123_27, gf_123_28, pt_123_28, gf_123_29, gf_123_30, pt_123_30, gf_123_31, pt_123_31, gf_123_32, pt_123_32, gf_123_33, pt_123_33, gf_123_34, pt_123_34_0, pt_123_34_1, gf_123_35, gf_123_36, gf_123_37, gf_123_38, pt_123_38, gf_123_39, pt_123_39, gf_123_40, pt_123_40, gf_123_41, gf_123_42, gf_123_43, gf_123_44, gf_123_45, gf_123_46, gf_123_47, pt_123_47, hg, if_false, hby, lg_cmp_eq, hz2, not_true, sx, if_true, hclx, hnx]
        rw [k1, q186_174]
        simp only [q186_0, q186_1, q186_2, q186_3, q186_4, q186_7, q186_10, q186_11, q186_12, q186_13, q186_14, q186_17, q186_19, q186_20, q186_21, q186_22, q186_23, q186_24, q186_25, q186_26, q186_29, q186_30, q186_31, q186_34, q186_36, q186_37, q186_38, q186_40, q186_41, q186_44, q186_45, q186_48, q186_49, q186_50, q186_51, q186_54, q186_55, q186_56, q186_59, q186_60, q186_63, q186_64, q186_65, q186_66, q186_67, q186_68, q186_69, q186_70, q186_74, q186_77, q186_78, q186_81, q186_82, q186_83, q186_86, q186_87, q186_89, q186_90, q186_91, q186_92, q186_94, q186_95, q186_98, q186_100, q186_101, q186_104, q186_105, q186_108, q186_110, q186_111, q186_114, q186_115, q186_118, q186_120, q186_121, q186_122, q186_125, q186_127, q186_128, q186_129, q186_132, q186_133, q186_135, q186_136, q186_139, q186_140, q186_142, q186_143, q186_146, q186_147, q186_148, q186_151, q186_153, q186_156, q186_157, q186_160, q186_161, q186_162, q186_163, q186_165, q186_166, q186_167, q186_168, q186_169, q186_171, q186_177, q186_181, q186_184, q186_185, q186_188, q186_189, q186_192, q186_193, q186_194, q186_195, q186_196, q186_199, q186_200, q186_203, q186_205, q186_206, q186_207, q186_208, q186_211, q186_212, n10, n01, Bool.false_eq_true, ab_bs, ab_bn, ab_pr0, ab_pr1, nl_n, nl_i, nl_r, nl_j, nl_nl, a1]
      · show ab_up V 145 x (nI w') c j = N c j
        rw [up_n hc, v1 c j hc]
      · show GA n M (ab_up V 145 x (nI w')) y
        by_cases e : y = x
        · subst e
          have gx : gV (ab_up V 145 y (nI w')) y = w' := by
            unfold gV
            rw [up_s, nI_clamp (by omega)]
          refine ⟨⟨fun q => absurd hz q, fun _ => ⟨by rw [gx, up_s], by rw [gx]; exact k2, by rw [gx]; exact k3⟩⟩, fun _ => ⟨fun T t0 t1 t2 t3 => ?_, ?_⟩⟩
          · have := (restL (n := n) (c := cI M) t0 t1 t2).1
            rw [gx, wf _ T (by omega), wf _ (y ^^^ T) (by omega)]
            have r := k4 T t0 t1 t2 t3
            rw [wf _ T (by omega), wf _ (y ^^^ T) (by omega)] at r
            exact r
          · rw [gx]
            rcases k5 with q | ⟨T, t0, t1, t2, t3, t4⟩
            · exact Or.inl q
            · have := (restL (n := n) (c := cI M) t0 t1 t2).1
              rw [wf _ T (by omega), wf _ (y ^^^ T) (by omega)] at t4
              exact Or.inr ⟨T, t0, t1, t2, t3, by rw [wf _ T (by omega), wf _ (y ^^^ T) (by omega)]; exact t4⟩
        · exact GA_same (v2 y y0 (by omega)) (keep _ y (by omega))
    · have hz2 := hz
      rw [← hzz] at hz2
      refine ⟨(ab_up V 145 x (-1), some (.int (nI ((x - 1) &&& x))), l5, l6), ?_, fun c j hc => ?_, fun y y0 y1 => ?_⟩
      · show ab_res scr 186 3 V 39 [some (.ref 123), some (.int what), some (.int (nI (2 ^ n - 1))), some (.int (nI (k + 1))), l4, l5, l6] [] = ab_res scr 186 3 _ 39 [some (.ref 123), some (.int what), some (.int (nI (2 ^ n - 1))), some (.int (nI (k + 1 + 1))), some (.int (nI ((x - 1) &&& x))), l5, l6] []
        have e145 : ab_ald scr ab_L0 (ab_up V 145 x (-1)) 145 .int (nI x) = some (-1) := by
          rw [al_145, hibx, hclx, up_s]
          rfl
        rw [← hxk, q186_39]
        simp only [q186_0, q186_1, q186_2, q186_3, q186_4, q186_7, q186_10, q186_11, q186_12, q186_13, q186_14, q186_17, q186_19, q186_20, q186_21, q186_22, q186_23, q186_24, q186_25, q186_26, q186_29, q186_30, q186_31, q186_34, q186_36, q186_37, q186_38, q186_40, q186_41, q186_44, q186_45, q186_48, q186_49, q186_50, q186_51, q186_54, q186_55, q186_56, q186_59, q186_60, q186_63, q186_64, q186_65, q186_66, q186_67, q186_68, q186_69, q186_70, q186_74, q186_77, q186_78, q186_81, q186_82, q186_83, q186_86, q186_87, q186_89, q186_90, q186_91, q186_92, q186_94, q186_95, q186_98, q186_100, q186_101, q186_104, q186_105, q186_108, q186_110, q186_111, q186_114, q186_115, q186_118, q186_120, q186_121, q186_122, q186_125, q186_127, q186_128, q186_129, q186_132, q186_133, q186_135, q186_136, q186_139, q186_140, q186_142, q186_143, q186_146, q186_147, q186_148, q186_151, q186_153, q186_156, q186_157, q186_160, q186_161, q186_162, q186_163, q186_165, q186_166, q186_167, q186_168, q186_169, q186_171, q186_177, q186_181, q186_184, q186_185, q186_188, q186_189, q186_192, q186_193, q186_194, q186_195, q186_196, q186_199, q186_200, q186_203, q186_205, q186_206, q186_207, q186_208, q186_211, q186_212, n10, n01, Bool.false_eq_true, ab_bs, ab_bn, ab_pr0, ab_pr1, nl_n, nl_i, nl_r, nl_j, nl_nl, rc_123, gf_123_0, gf_123_1, pt_123_1, gf_123_2, pt_123_2, gf_123_3, pt_123_3, gf_123_4, pt_123_4, gf_123_5, pt_123_5, gf_123_6, pt_123_6, gf_123_7, pt_123_7, gf_123_8, pt_123_8, gf_123_9, gf_123_10, gf_123_11, gf_123_12, gf_123_13, pt_123_13_0, pt_123_13_1, gf_123_14, pt_123_14_0, pt_123_14_1, gf_123_15, gf_123_16, gf_123_17, gf_123_18, gf_123_19, gf_123_20, gf_123_21, gf_123_22, gf_123_23, gf_123_24, gf_123_25, pt_123_25, gf_123_26, gf_123_27, pt_123_27, gf_123_28, pt_123_28, gf_123_29, gf_123_30, pt_123_30, gf_123_31, pt_123_31, gf_123_32, pt_123_32, gf_123_33, pt_123_33, gf_123_34, pt_123_34_0, pt_123_34_1, gf_123_35, gf_123_36, gf_123_37, gf_123_38, pt_123_38, gf_123_39, pt_123_39, gf_123_40, pt_123_40, gf_123_41, gf_123_42, gf_123_43, gf_123_44, gf_123_45, gf_123_46, gf_123_47, pt_123_47, hg, if_false, hby, lg_cmp_eq, hz2, not_false_eq_true, sx, if_true, hclx, hnx]
        by_cases q : nI ((x - 1) &&& x) ≤ 0
        · rw [q186_72]
          simp only [q186_0, q186_1, q186_2, q186_3, q186_4, q186_7, q186_10, q186_11, q186_12, q186_13, q186_14, q186_17, q186_19, q186_20, q186_21, q186_22, q186_23, q186_24, q186_25, q186_26, q186_29, q186_30, q186_31, q186_34, q186_36, q186_37, q186_38, q186_40, q186_41, q186_44, q186_45, q186_48, q186_49, q186_50, q186_51, q186_54, q186_55, q186_56, q186_59, q186_60, q186_63, q186_64, q186_65, q186_66, q186_67, q186_68, q186_69, q186_70, q186_74, q186_77, q186_78, q186_81, q186_82, q186_83, q186_86, q186_87, q186_89, q186_90, q186_91, q186_92, q186_94, q186_95, q186_98, q186_100, q186_101, q186_104, q186_105, q186_108, q186_110, q186_111, q186_114, q186_115, q186_118, q186_120, q186_121, q186_122, q186_125, q186_127, q186_128, q186_129, q186_132, q186_133, q186_135, q186_136, q186_139, q186_140, q186_142, q186_143, q186_146, q186_147, q186_148, q186_151, q186_153, q186_156, q186_157, q186_160, q186_161, q186_162, q186_163, q186_165, q186_166, q186_167, q186_168, q186_169, q186_171, q186_174, q186_177, q186_181, q186_184, q186_185, q186_188, q186_189, q186_192, q186_193, q186_194, q186_195, q186_196, q186_199, q186_200, q186_203, q186_205, q186_206, q186_207, q186_208, q186_211, q186_212, n10, n01, Bool.false_eq_true, ab_bs, ab_bn, ab_pr0, ab_pr1, nl_n, nl_i, nl_r, nl_j, nl_nl, q, if_true, a1]
        · rw [q186_72]
          simp only [q186_0, q186_1, q186_2, q186_3, q186_4, q186_7, q186_10, q186_11, q186_12, q186_13, q186_14, q186_17, q186_19, q186_20, q186_21, q186_22, q186_23, q186_24, q186_25, q186_26, q186_29, q186_30, q186_31, q186_34, q186_36, q186_37, q186_38, q186_40, q186_41, q186_44, q186_45, q186_48, q186_49, q186_50, q186_51, q186_54, q186_55, q186_56, q186_59, q186_60, q186_63, q186_64, q186_65, q186_66, q186_67, q186_68, q186_69, q186_70, q186_74, q186_77, q186_78, q186_81, q186_82, q186_83, q186_86, q186_87, q186_89, q186_90, q186_91, q186_92, q186_94, q186_95, q186_98, q186_100, q186_101, q186_104, q186_105, q186_108, q186_110, q186_111, q186_114, q186_115, q186_118, q186_120, q186_121, q186_122, q186_125, q186_127, q186_128, q186_129, q186_132, q186_133, q186_135, q186_136, q186_139, q186_140, q186_142, q186_143, q186_146, q186_147, q186_148, q186_151, q186_153, q186_156, q186_157, q186_160, q186_161, q186_162, q186_163, q186_165, q186_166, q186_167, q186_168, q186_169, q186_171, q186_174, q186_177, q186_181, q186_184, q186_185, q186_188, q186_189, q186_192, q186_193, q186_194, q186_195, q186_196, q186_199, q186_200, q186_203, q186_205, q186_206, q186_207, q186_208, q186_211, q186_212, n10, n01, Bool.false_eq_true, ab_bs, ab_bn, ab_pr0, ab_pr1, nl_n, nl_i, nl_r, nl_j, nl_nl, rc_123, gf_123_0, gf_123_1, pt_123_1, gf_123_2, pt_123_2, gf_123_3, pt_123_3, gf_123_4, pt_123_4, gf_123_5, pt_123_5, gf_123_6, pt_123_6, gf_123_7, pt_123_7, gf_123_8, pt_123_8, gf_123_9, gf_123_10, gf_123_11, gf_123_12, gf_123_13, pt_123_13_0, pt_123_13_1, gf_123_14, pt_123_14_0, pt_123_14_1, gf_123_15, gf_123_16, gf_123_17, gf_123_18, gf_123_19, gf_123_20, gf_123_21, gf_123_22, gf_123_23, gf_123_24, gf_123_25, pt_123_25, gf_123_26, gf_123_27, pt_123_27, gf_123_28, pt_123_28, gf_123_29, gf_123_30, pt_123_30, gf_123_31, pt_123_31, gf_123_32, pt_123_32, gf_123_33, pt_123_33, gf_123_34, pt_123_34_0, pt_123_34_1, gf_123_35, gf_123_36, gf_123_37, gf_123_38, pt_123_38, gf_123_39, pt_123_39, gf_123_40, pt_123_40, gf_123_41, gf_123_42, gf_123_43, gf_123_44, gf_123_45, gf_123_46, gf_123_47, pt_123_47, q, if_false, e145, (show (-1 : Int32) ≤ 0 by decide), if_true, a1]
      · show ab_up V 145 x (-1) c j = N c j
        rw [up_n hc, v1 c j hc]
      · show GA n M (ab_up V 145 x (-1)) y
        by_cases e : y = x
        · subst e
          exact ⟨⟨fun _ => up_s _ _ _ _, fun q => absurd q hz⟩, fun q => absurd q hz⟩
        · exact GA_same (v2 y y0 (by omega)) (keep _ y (by omega))
