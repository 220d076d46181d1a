/-! COINS: the class's whole table -/
theorem co_most {scr : Option (List Int32)} {n : Nat} {M : ab_M} {K : Int} (hn : n ≤ 8) (hM : M 16 3 = nI n) (hK : 0 ≤ K) (hK2 : K ≤ 200000000) (hc : ∀ p, p < n → -K ≤ cI M p ∧ cI M p ≤ K) (h87 : M 87 0 = 0) (h88 : M 88 0 = 0) : ∃ (V : ab_M) (f : Nat → Nat), ab_ms scr 1 [.ref 86] M = some (V, some (.int (nI (f (2 ^ n - 1))))) ∧ FF n (cI M) f ∧ ∀ c j, ¬ ((c = 87 ∨ c = 88) ∧ 0 < j) → V c j = M c j := by
  have h256 : 2 ^ n ≤ 2 ^ 8 := Nat.pow_le_pow_right (by decide) hn
  have hpos : 0 < 2 ^ n := Nat.two_pow_pos n
  have hr := rx (fun k (s : ab_M × Option Value × Option Value × Option Value × Option Value) => ab_res scr 1 2 s.1 14 [some (.ref 86), some (.int (nI (2 ^ n - 1))), some (.int (nI (k + 1))), s.2.1, s.2.2.1, s.2.2.2.1, s.2.2.2.2] []) (fun k s => TB n M s.1 (k + 1)) (2 ^ n - 1) (M, none, none, none, none) ⟨fun _ _ _ => rfl, fun x a b => absurd b (by omega)⟩ (fun k s hk hs => ?_)
  · obtain ⟨⟨V, l1, l2, l3, l4⟩, e1, e2⟩ := hr
    have e2 : TB n M V (2 ^ n - 1 + 1) := e2
    obtain ⟨v1, v2⟩ := e2
    have v88 : V 88 0 = 0 := by rw [v1 _ _ (by omega), h88]
    have f0 : fV V 0 = 0 := by
      unfold fV
      rw [v88]
      rfl
    refine ⟨V, fV V, ?_, ⟨f0, fun x x0 x1 => (v2 x x0 (by omega)).2.2.2⟩, v1⟩
    have hg : nI (2 ^ n - 1) < nI (2 ^ n - 1 + 1) := nI_lt (by omega) (by omega)
    have e88 : ab_ald scr ab_L0 V 88 .int (nI (2 ^ n - 1)) = some (nI (fV V (2 ^ n - 1))) := by
      rw [al_88, ib_nI (show 2 ^ n - 1 < 256 by omega) (by decide), nI_clamp (by omega)]
      show some (V 88 (2 ^ n - 1)) = _
      rcases Nat.eq_zero_or_pos (2 ^ n - 1) with q | q
      · rw [q, v88, f0]
        rfl
      · rw [(v2 _ q (by omega)).2.1]
    rw [ms1]
    simp only [q1_0, q1_1, q1_2, q1_5, q1_8, q1_9, q1_10, q1_11, q1_12, q1_13, q1_15, q1_16, q1_19, q1_20, q1_21, q1_22, q1_24, q1_25, q1_29, q1_30, q1_33, q1_36, q1_39, q1_41, q1_42, q1_45, q1_48, q1_49, q1_50, q1_52, q1_53, q1_54, q1_55, q1_56, q1_58, q1_59, q1_60, q1_63, q1_65, q1_66, q1_69, q1_70, q1_71, q1_74, q1_76, q1_77, q1_78, q1_81, q1_84, q1_86, q1_87, q1_89, q1_90, q1_91, q1_93, q1_96, q1_100, q1_103, q1_104, q1_106, q1_107, q1_108, q1_111, q1_112, q1_113, q1_115, q1_118, q1_119, q1_122, q1_123, q1_124, q1_125, q1_128, q1_131, q1_132, q1_135, q1_136, q1_137, n10, n01, Bool.false_eq_true, ab_bs, ab_bn, ab_pr0, ab_pr1, nl_n, nl_i, nl_r, nl_j, nl_nl, rc_16, gf_16_0, gf_16_1, gf_16_2, gf_16_3, pt_16_3, gf_16_4, pt_16_4, gf_16_5, pt_16_5, rc_86, gf_86_0, gf_86_1, gf_86_2, hM, all8 n (by omega)]
    refine Eq.trans e1 ?_
    show ab_res scr 1 2 V 14 _ [] = _
    rw [q1_14]
    simp only [q1_0, q1_1, q1_2, q1_5, q1_8, q1_9, q1_10, q1_11, q1_12, q1_13, q1_15, q1_16, q1_19, q1_20, q1_21, q1_22, q1_24, q1_25, q1_29, q1_30, q1_33, q1_36, q1_39, q1_41, q1_42, q1_45, q1_48, q1_49, q1_50, q1_52, q1_53, q1_54, q1_55, q1_56, q1_58, q1_59, q1_60, q1_63, q1_65, q1_66, q1_69, q1_70, q1_71, q1_74, q1_76, q1_77, q1_78, q1_81, q1_84, q1_86, q1_87, q1_89, q1_90, q1_91, q1_93, q1_96, q1_100, q1_103, q1_104, q1_106, q1_107, q1_108, q1_111, q1_112, q1_113, q1_115, q1_118, q1_119, q1_122, q1_123, q1_124, q1_125, q1_128, q1_131, q1_132, q1_135, q1_136, q1_137, n10, n01, Bool.false_eq_true, ab_bs, ab_bn, ab_pr0, ab_pr1, nl_n, nl_i, nl_r, nl_j, nl_nl, rc_16, gf_16_0, gf_16_1, gf_16_2, gf_16_3, pt_16_3, gf_16_4, pt_16_4, gf_16_5, pt_16_5, rc_86, gf_86_0, gf_86_1, gf_86_2, hg, if_true, e88]
  · obtain ⟨V, l1, l2, l3, l4⟩ := s
    have hs : TB n M V (k + 1) := hs
    obtain ⟨s, l', z1, z2, z3⟩ := co_in (scr := scr) hn hM hK hK2 hc h87 h88 (show 0 < k + 1 by omega) (by omega) hs (nI (2 ^ n - 1)) l4
    obtain ⟨v1, v2⟩ := hs
    have hg : ¬ nI (2 ^ n - 1) < nI (k + 1) := nI_nlt (by omega) (by omega)
    have hib : ab_inB (nI (k + 1)) 256 = true := ib_nI (by omega) (by decide)
    have hcl : (nI (k + 1)).toNatClampNeg = k + 1 := nI_clamp (by omega)
    have hs0 : (s = 0) = (SZ (cI M) (k + 1) n = 0) := by
      apply propext
      rw [← z1]
      exact ⟨fun q => by rw [q]; rfl, fun q => Int32.toInt_inj.mp (by rw [q]; rfl)⟩
    have s87 : ab_si 87 .int (nI (k + 1)) = true := hib
    have s88 : ab_si 88 .int (nI (k + 1)) = true := hib
    generalize hfx : bs (k + 1) (fV V) n + (if SZ (cI M) (k + 1) n = 0 then 1 else 0) = fx
    have hfx2 : fx ≤ k + 1 := by
      rw [← hfx]
      split <;> omega
    refine ⟨(ab_up (ab_up V 87 (k + 1) s) 88 (k + 1) (nI fx), some (.int (nI (bs (k + 1) (fV V) n))), some (.int s), some (.int (nI n)), l'), ?_, ?_⟩
    · show ab_res scr 1 2 V 14 _ [] = _
      rw [q1_14]
      simp only [q1_0, q1_1, q1_2, q1_5, q1_8, q1_9, q1_10, q1_11, q1_12, q1_13, q1_15, q1_16, q1_19, q1_20, q1_21, q1_22, q1_24, q1_25, q1_29, q1_30, q1_33, q1_36, q1_39, q1_41, q1_42, q1_45, q1_48, q1_49, q1_50, q1_52, q1_53, q1_54, q1_55, q1_56, q1_58, q1_59, q1_60, q1_63, q1_65, q1_66, q1_69, q1_70, q1_71, q1_74, q1_76, q1_77, q1_78, q1_81, q1_84, q1_86, q1_87, q1_89, q1_90, q1_91, q1_93, q1_96, q1_100, q1_103, q1_104, q1_106, q1_107, q1_108, q1_111, q1_112, q1_113, q1_115, q1_118, q1_119, q1_122, q1_123, q1_124, q1_125, q1_128, q1_131, q1_132, q1_135, q1_136, q1_137, n10, n01, Bool.false_eq_true, ab_bs, ab_bn, ab_pr0, ab_pr1, nl_n, nl_i, nl_r, nl_j, nl_nl, hg, if_false]
      rw [z3]
      rw [← hfx]
      by_cases q : s = 0
      · have q2 := q
        rw [hs0] at q2
        rw [q1_99]
        simp only [q1_0, q1_1, q1_2, q1_5, q1_8, q1_9, q1_10, q1_11, q1_12, q1_13, q1_15, q1_16, q1_19, q1_20, q1_21, q1_22, q1_24, q1_25, q1_29, q1_30, q1_33, q1_36, q1_39, q1_41, q1_42, q1_45, q1_48, q1_49, q1_50, q1_52, q1_53, q1_54, q1_55, q1_56, q1_58, q1_59, q1_60, q1_63, q1_65, q1_66, q1_69, q1_70, q1_71, q1_74, q1_76, q1_77, q1_78, q1_81, q1_84, q1_86, q1_87, q1_89, q1_90, q1_91, q1_93, q1_96, q1_100, q1_103, q1_104, q1_106, q1_107, q1_108, q1_111, q1_112, q1_113, q1_115, q1_118, q1_119, q1_122, q1_123, q1_124, q1_125, q1_128, q1_131, q1_132, q1_135, q1_136, q1_137, n10, n01, Bool.false_eq_true, ab_bs, ab_bn, ab_pr0, ab_pr1, nl_n, nl_i, nl_r, nl_j, nl_nl, rc_86, gf_86_0, gf_86_1, gf_86_2, s87, s88, if_true, if_false, not_true, hcl, q, q2, a1]
      · have q2 := q
        rw [hs0] at q2
        rw [q1_99]
        simp only [q1_0, q1_1, q1_2, q1_5, q1_8, q1_9, q1_10, q1_11, q1_12, q1_13, q1_15, q1_16, q1_19, q1_20, q1_21, q1_22, q1_24, q1_25, q1_29, q1_30, q1_33, q1_36, q1_39, q1_41, q1_42, q1_45, q1_48, q1_49, q1_50, q1_52, q1_53, q1_54, q1_55, q1_56, q1_58, q1_59, q1_60, q1_63, q1_65, q1_66, q1_69, q1_70, q1_71, q1_74, q1_76, q1_77, q1_78, q1_81, q1_84, q1_86, q1_87, q1_89, q1_90, q1_91, q1_93, q1_96, q1_100, q1_103, q1_104, q1_106, q1_107, q1_108, q1_111, q1_112, q1_113, q1_115, q1_118, q1_119, q1_122, q1_123, q1_124, q1_125, q1_128, q1_131, q1_132, q1_135, q1_136, q1_137, n10, n01, Bool.false_eq_true, ab_bs, ab_bn, ab_pr0, ab_pr1, nl_n, nl_i, nl_r, nl_j, nl_nl, rc_86, gf_86_0, gf_86_1, gf_86_2, s87, s88, if_true, if_false, not_false_eq_true, hcl, q, q2, a1, a0, Nat.add_zero]
    · show TB n M (ab_up (ab_up V 87 (k + 1) s) 88 (k + 1) (nI fx)) (k + 1 + 1)
      have w88 : ∀ y, y ≠ k + 1 → ab_up (ab_up V 87 (k + 1) s) 88 (k + 1) (nI fx) 88 y = V 88 y := fun y hy => by
        rw [up_o _ _ _ _ _ _ (by omega), up_n (by decide)]
      have wf : ∀ y, y ≠ k + 1 → fV (ab_up (ab_up V 87 (k + 1) s) 88 (k + 1) (nI fx)) y = fV V y := fun y hy => by
        unfold fV
        rw [w88 y hy]
      have wx : fV (ab_up (ab_up V 87 (k + 1) s) 88 (k + 1) (nI fx)) (k + 1) = fx := by
        unfold fV
        rw [up_s, nI_clamp (by omega)]
      have wb : ∀ y, y ≤ k + 1 → bs y (fV (ab_up (ab_up V 87 (k + 1) s) 88 (k + 1) (nI fx))) n = bs y (fV V) n := fun y hy => bs_congr fun p hp hb => wf _ (by
        have := lt_rm hn (show y < 2 ^ n by omega) hp hb
        omega)
      refine ⟨fun c j hcj => ?_, fun x x0 x1 => ?_⟩
      · rw [up_o _ _ _ _ _ _ (by omega), up_o _ _ _ _ _ _ (by omega), v1 c j hcj]
      · by_cases e : x = k + 1
        · subst e
          refine ⟨by rw [up_n (by decide), up_s, z1], by rw [wx, up_s], by rw [wx]; exact hfx2, by rw [wx, wb _ (Nat.le_refl _), hfx]⟩
        · obtain ⟨a, b, c, d⟩ := v2 x x0 (by omega)
          refine ⟨by rw [up_n (by decide), up_o _ _ _ _ _ _ (by omega), a], by rw [w88 x e, wf x e, b], by rw [wf x e]; exact c, by rw [wf x e, wb x (by omega), d]⟩
