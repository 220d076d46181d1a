/-! table: the class takes a token -/
section
variable {scr : Option (List Int32)} {B : Nat → Nat} {L : Nat}
theorem kd_le {a e : Nat} : kd B L a e ≤ 4 := by
  unfold kd
  repeat' split
  all_goals omega
theorem sp_tkc {S : ab_M} {s a e : Nat} (hT : TC B L S) (h2 : S 1 2 = nI s) (hP : TP B L s a e) : ∃ S', ab_ms scr 72 [.ref 1] S = some (S', none) ∧ (∀ c j, ¬ (c = 1 ∧ 2 ≤ j ∧ j ≤ 5) → S' c j = S c j) ∧ S' 1 2 = nI e ∧ S' 1 3 = nI (kd B L a e) ∧ S' 1 4 = nI a ∧ (kd B L a e = 2 → S' 1 5 = nI (nv B a (e - a))) := by
  obtain ⟨p1, p2, p3, p4, p5, p6, p7, p8, p9⟩ := hP
  obtain ⟨hL, t1, t2⟩ := id hT
  -- the spaces
  have y : ∀ v, ab_up S 1 2 v 1 1 = nI L ∧ (∀ j, ab_up S 1 2 v 2 j = S 2 j) ∧ ab_up S 1 2 v 1 2 = v := fun v => ⟨by rw [up_o _ _ _ _ _ _ (by decide), t1], fun j => up_n (by decide), up_s _ _ _ _⟩
  have e1 := rn (fun k => ab_res scr 72 3 (ab_up S 1 2 (nI (s + k))) 0 [some (.ref 1)] []) (a - s) (fun k hk => ?_)
  · have e0 : ab_up S 1 2 (nI s) = S := by rw [← h2, up_id]
    have e1 : ab_res scr 72 3 (ab_up S 1 2 (nI s)) 0 [some (.ref 1)] [] = ab_res scr 72 3 (ab_up S 1 2 (nI (s + (a - s)))) 0 [some (.ref 1)] [] := e1
    rw [e0, show s + (a - s) = a by omega] at e1
    have hT2 : TC B L (ab_up (ab_up S 1 2 (nI a)) 1 4 (nI a)) := TC_up (TC_up hT (by decide)) (by decide)
    have f2 : ab_up (ab_up S 1 2 (nI a)) 1 4 (nI a) 1 2 = nI a := by rw [up_o _ _ _ _ _ _ (by decide), up_s]
    have f4 : ab_up (ab_up S 1 2 (nI a)) 1 4 (nI a) 1 4 = nI a := up_s _ _ _ _
    have fr : ∀ c j, ¬ (c = 1 ∧ 2 ≤ j ∧ j ≤ 5) → ab_up (ab_up S 1 2 (nI a)) 1 4 (nI a) c j = S c j := fun c j h => by rw [up_o _ _ _ _ _ _ (by omega), up_o _ _ _ _ _ _ (by omega)]
    obtain ⟨-, g1, g2⟩ := id hT2
    have e2 : ab_ms scr 72 [.ref 1] S = ab_res scr 72 3 (ab_up (ab_up S 1 2 (nI a)) 1 4 (nI a)) 46 [some (.ref 1)] [] := by
      rw [ms72, e1]
      obtain ⟨y1, y2, y3⟩ := y (nI a)
      generalize ab_up S 1 2 (nI a) = T at *
      by_cases x : a < L
      · have x1 : ¬ nI L ≤ nI a := nI_ge x (by omega)
        have x2 : S 2 a = sb_b (B a) := (t2 a x).2
        have x3 : ¬ sb_b (B a) = 32 := by
          rw [(sb_tst _ (t2 a x).1).1]
          exact p5 x
        rw [q72_0]
        simp only [q72_1, q72_4, q72_5, q72_8, q72_11, q72_12, q72_15, q72_16, q72_19, q72_20, q72_22, q72_25, q72_26, q72_27, q72_30, q72_31, q72_32, q72_35, q72_38, q72_39, q72_40, q72_43, q72_47, q72_50, q72_51, q72_54, q72_57, q72_58, q72_59, q72_62, q72_65, q72_66, q72_69, q72_70, q72_73, q72_74, q72_77, q72_80, q72_81, q72_84, q72_87, q72_88, q72_91, q72_92, q72_95, q72_96, q72_99, q72_102, q72_103, q72_106, q72_109, q72_110, q72_111, q72_114, q72_115, q72_118, q72_119, q72_121, q72_124, q72_125, q72_128, q72_129, q72_132, q72_133, q72_134, q72_137, q72_138, q72_139, q72_142, n10, n01, Bool.false_eq_true, ab_bs, ab_bn, ab_pr0, ab_pr1, nl_n, nl_i, nl_r, nl_j, nl_nl, rc_1, gf_1_0, gf_1_1, pt_1_1, gf_1_2, pt_1_2, gf_1_3, pt_1_3, gf_1_4, pt_1_4, gf_1_5, pt_1_5, ln_2, bl_2, bs_2, y1, y2, y3, x1, x2, x3, if_false, if_true, not_false_eq_true, (show ab_inB (nI a) 320 = true from ib_nI (by omega) (by decide)), nI_clamp (show a < 2 ^ 31 by omega)]
      · have x1 : nI L ≤ nI a := (nI_leI (by omega) (by omega)).mpr (by omega)
        rw [q72_0]
        simp only [q72_1, q72_4, q72_5, q72_8, q72_11, q72_12, q72_15, q72_16, q72_19, q72_20, q72_22, q72_25, q72_26, q72_27, q72_30, q72_31, q72_32, q72_35, q72_38, q72_39, q72_40, q72_43, q72_47, q72_50, q72_51, q72_54, q72_57, q72_58, q72_59, q72_62, q72_65, q72_66, q72_69, q72_70, q72_73, q72_74, q72_77, q72_80, q72_81, q72_84, q72_87, q72_88, q72_91, q72_92, q72_95, q72_96, q72_99, q72_102, q72_103, q72_106, q72_109, q72_110, q72_111, q72_114, q72_115, q72_118, q72_119, q72_121, q72_124, q72_125, q72_128, q72_129, q72_132, q72_133, q72_134, q72_137, q72_138, q72_139, q72_142, n10, n01, Bool.false_eq_true, ab_bs, ab_bn, ab_pr0, ab_pr1, nl_n, nl_i, nl_r, nl_j, nl_nl, rc_1, gf_1_0, gf_1_1, pt_1_1, gf_1_2, pt_1_2, gf_1_3, pt_1_3, gf_1_4, pt_1_4, gf_1_5, pt_1_5, ln_2, bl_2, bs_2, y1, y3, x1, if_true]
    rw [e2]
    generalize ab_up (ab_up S 1 2 (nI a)) 1 4 (nI a) = T at *
    by_cases x : a < L
    · have x1 : nI a < nI L := nI_lt x (by omega)
      obtain ⟨b1, b2⟩ := g2 a x
      have x2 := sp_letter (scr := scr) T b1
      have x3 := sp_figure (scr := scr) T b1
      have hae := p6 x
      by_cases q : isL (B a) = true
      · have hk : kd B L a e = 1 := by unfold kd; rw [if_pos x, if_pos q]
        have x4 := tk_name (scr := scr) hT2 f2 p2 p3 (p7 x q).1 (p7 x q).2
        rw [if_pos q] at x2
        refine ⟨ab_up (ab_up T 1 3 1) 1 2 (nI e), ?_, fun c j h => ?_, up_s _ _ _ _, ?_, ?_, fun h => ?_⟩
        · rw [q72_46]
          simp only [q72_1, q72_4, q72_5, q72_8, q72_11, q72_12, q72_15, q72_16, q72_19, q72_20, q72_22, q72_25, q72_26, q72_27, q72_30, q72_31, q72_32, q72_35, q72_38, q72_39, q72_40, q72_43, q72_47, q72_50, q72_51, q72_54, q72_57, q72_58, q72_59, q72_62, q72_65, q72_66, q72_69, q72_70, q72_73, q72_74, q72_77, q72_80, q72_81, q72_84, q72_87, q72_88, q72_91, q72_92, q72_95, q72_96, q72_99, q72_102, q72_103, q72_106, q72_109, q72_110, q72_111, q72_114, q72_115, q72_118, q72_119, q72_121, q72_124, q72_125, q72_128, q72_129, q72_132, q72_133, q72_134, q72_137, q72_138, q72_139, q72_142, n10, n01, Bool.false_eq_true, ab_bs, ab_bn, ab_pr0, ab_pr1, nl_n, nl_i, nl_r, nl_j, nl_nl, rc_1, gf_1_0, gf_1_1, pt_1_1, gf_1_2, pt_1_2, gf_1_3, pt_1_3, gf_1_4, pt_1_4, gf_1_5, pt_1_5, ln_2, bl_2, bs_2, g1, f2, x1, if_true, if_false, b2, x2, x4, (show ¬ (1 : Int32) = 0 by decide), (show ab_inB (nI a) 320 = true from ib_nI (by omega) (by decide)), nI_clamp (show a < 2 ^ 31 by omega)]
        · rw [up_o _ _ _ _ _ _ (by omega), up_o _ _ _ _ _ _ (by omega)]
          exact fr c j h
        · rw [up_o _ _ _ _ _ _ (by decide), up_s, hk]
          rfl
        · rw [up_o _ _ _ _ _ _ (by decide), up_o _ _ _ _ _ _ (by decide), f4]
        · rw [hk] at h
          cases h
      · have q' : isL (B a) = false := Bool.not_eq_true _ ▸ q
        rw [if_neg q] at x2
        by_cases r : isF (B a) = true
        · have hk : kd B L a e = if e - a ≤ 3 then 2 else 4 := by unfold kd; rw [if_pos x, if_neg q, if_pos r]
          have x4 := tk_num (scr := scr) hT2 f2 f4 p2 p3 (p8 x q' r).1 (p8 x q' r).2
          rw [if_pos r] at x3
          refine ⟨nmC B a (e - a) T, ?_, fun c j h => ?_, ?_, ?_, ?_, fun h => ?_⟩
          · rw [q72_46]
            simp only [q72_1, q72_4, q72_5, q72_8, q72_11, q72_12, q72_15, q72_16, q72_19, q72_20, q72_22, q72_25, q72_26, q72_27, q72_30, q72_31, q72_32, q72_35, q72_38, q72_39, q72_40, q72_43, q72_47, q72_50, q72_51, q72_54, q72_57, q72_58, q72_59, q72_62, q72_65, q72_66, q72_69, q72_70, q72_73, q72_74, q72_77, q72_80, q72_81, q72_84, q72_87, q72_88, q72_91, q72_92, q72_95, q72_96, q72_99, q72_102, q72_103, q72_106, q72_109, q72_110, q72_111, q72_114, q72_115, q72_118, q72_119, q72_121, q72_124, q72_125, q72_128, q72_129, q72_132, q72_133, q72_134, q72_137, q72_138, q72_139, q72_142, n10, n01, Bool.false_eq_true, ab_bs, ab_bn, ab_pr0, ab_pr1, nl_n, nl_i, nl_r, nl_j, nl_nl, rc_1, gf_1_0, gf_1_1, pt_1_1, gf_1_2, pt_1_2, gf_1_3, pt_1_3, gf_1_4, pt_1_4, gf_1_5, pt_1_5, ln_2, bl_2, bs_2, g1, f2, x1, if_true, if_false, b2, x2, x3, x4, (show ¬ (1 : Int32) = 0 by decide), (show ab_inB (nI a) 320 = true from ib_nI (by omega) (by decide)), nI_clamp (show a < 2 ^ 31 by omega)]
          · unfold nmC
            rw [if_neg (by omega), if_neg (by omega), if_neg (by omega)]
            exact fr c j h
          · show nI (a + (e - a)) = _
            rw [show a + (e - a) = e by omega]
          · show (if e - a ≤ 3 then (2 : Int32) else 4) = nI (kd B L a e)
            rw [hk]
            split <;> rfl
          · exact f4
          · show nI (nv B a (min (e - a) 3)) = _
            rw [hk] at h
            by_cases z : e - a ≤ 3
            · rw [Nat.min_eq_left z]
            · rw [if_neg z] at h
              cases h
        · have r' : isF (B a) = false := Bool.not_eq_true _ ▸ r
          rw [if_neg r] at x3
          have he : e = a + 1 := p9 x q' r'
          have hk : kd B L a e = if B a = 59 then 3 else 4 := by unfold kd; rw [if_pos x, if_neg q, if_neg r]
          have h59 := (sb_tst _ b1).2.1
          by_cases z : B a = 59
          · have z1 : sb_b (B a) = 59 := by rw [h59]; exact z
            rw [if_pos z] at hk
            rw [z1] at x2 x3 b2
            refine ⟨ab_up (ab_up T 1 3 3) 1 2 (nI (a + 1)), ?_, fun c j h => ?_, by rw [up_s, he], ?_, ?_, fun h => by rw [hk] at h; cases h⟩
            · rw [q72_46]
              simp only [q72_1, q72_4, q72_5, q72_8, q72_11, q72_12, q72_15, q72_16, q72_19, q72_20, q72_22, q72_25, q72_26, q72_27, q72_30, q72_31, q72_32, q72_35, q72_38, q72_39, q72_40, q72_43, q72_47, q72_50, q72_51, q72_54, q72_57, q72_58, q72_59, q72_62, q72_65, q72_66, q72_69, q72_70, q72_73, q72_74, q72_77, q72_80, q72_81, q72_84, q72_87, q72_88, q72_91, q72_92, q72_95, q72_96, q72_99, q72_102, q72_103, q72_106, q72_109, q72_110, q72_111, q72_114, q72_115, q72_118, q72_119, q72_121, q72_124, q72_125, q72_128, q72_129, q72_132, q72_133, q72_134, q72_137, q72_138, q72_139, q72_142, n10, n01, Bool.false_eq_true, ab_bs, ab_bn, ab_pr0, ab_pr1, nl_n, nl_i, nl_r, nl_j, nl_nl, rc_1, gf_1_0, gf_1_1, pt_1_1, gf_1_2, pt_1_2, gf_1_3, pt_1_3, gf_1_4, pt_1_4, gf_1_5, pt_1_5, ln_2, bl_2, bs_2, g1, f2, x1, if_true, if_false, b2, x2, x3, not_true, (show ab_inB (nI a) 320 = true from ib_nI (by omega) (by decide)), nI_clamp (show a < 2 ^ 31 by omega), up_o T 1 3 1 2 3 (by decide), nI_1]
            · rw [up_o _ _ _ _ _ _ (by omega), up_o _ _ _ _ _ _ (by omega)]
              exact fr c j h
            · rw [up_o _ _ _ _ _ _ (by decide), up_s, hk]
              rfl
            · rw [up_o _ _ _ _ _ _ (by decide), up_o _ _ _ _ _ _ (by decide), f4]
          · have z1 : ¬ sb_b (B a) = 59 := by rw [h59]; exact z
            rw [if_neg z] at hk
            refine ⟨ab_up (ab_up T 1 3 4) 1 2 (nI (a + 1)), ?_, fun c j h => ?_, by rw [up_s, he], ?_, ?_, fun h => by rw [hk] at h; cases h⟩
            · rw [q72_46]
              simp only [q72_1, q72_4, q72_5, q72_8, q72_11, q72_12, q72_15, q72_16, q72_19, q72_20, q72_22, q72_25, q72_26, q72_27, q72_30, q72_31, q72_32, q72_35, q72_38, q72_39, q72_40, q72_43, q72_47, q72_50, q72_51, q72_54, q72_57, q72_58, q72_59, q72_62, q72_65, q72_66, q72_69, q72_70, q72_73, q72_74, q72_77, q72_80, q72_81, q72_84, q72_87, q72_88, q72_91, q72_92, q72_95, q72_96, q72_99, q72_102, q72_103, q72_106, q72_109, q72_110, q72_111, q72_114, q72_115, q72_118, q72_119, q72_121, q72_124, q72_125, q72_128, q72_129, q72_132, q72_133, q72_134, q72_137, q72_138, q72_139, q72_142, n10, n01, Bool.false_eq_true, ab_bs, ab_bn, ab_pr0, ab_pr1, nl_n, nl_i, nl_r, nl_j, nl_nl, rc_1, gf_1_0, gf_1_1, pt_1_1, gf_1_2, pt_1_2, gf_1_3, pt_1_3, gf_1_4, pt_1_4, gf_1_5, pt_1_5, ln_2, bl_2, bs_2, g1, f2, x1, if_true, if_false, b2, x2, x3, z1, not_false_eq_true, (show ab_inB (nI a) 320 = true from ib_nI (by omega) (by decide)), nI_clamp (show a < 2 ^ 31 by omega), up_o T 1 3 1 2 4 (by decide), nI_1]
            · rw [up_o _ _ _ _ _ _ (by omega), up_o _ _ _ _ _ _ (by omega)]
              exact fr c j h
            · rw [up_o _ _ _ _ _ _ (by decide), up_s, hk]
              rfl
            · rw [up_o _ _ _ _ _ _ (by decide), up_o _ _ _ _ _ _ (by decide), f4]
    · have x1 : ¬ nI a < nI L := nI_nlt (by omega) (by omega)
      have hk : kd B L a e = 0 := by unfold kd; rw [if_neg x]
      refine ⟨ab_up T 1 3 0, ?_, fun c j h => by rw [up_o _ _ _ _ _ _ (by omega)]; exact fr c j h, by rw [up_o _ _ _ _ _ _ (by decide), f2, show e = a by omega], by rw [up_s, hk]; rfl, by rw [up_o _ _ _ _ _ _ (by decide), f4], fun h => by rw [hk] at h; cases h⟩
      rw [q72_46]
      simp only [q72_1, q72_4, q72_5, q72_8, q72_11, q72_12, q72_15, q72_16, q72_19, q72_20, q72_22, q72_25, q72_26, q72_27, q72_30, q72_31, q72_32, q72_35, q72_38, q72_39, q72_40, q72_43, q72_47, q72_50, q72_51, q72_54, q72_57, q72_58, q72_59, q72_62, q72_65, q72_66, q72_69, q72_70, q72_73, q72_74, q72_77, q72_80, q72_81, q72_84, q72_87, q72_88, q72_91, q72_92, q72_95, q72_96, q72_99, q72_102, q72_103, q72_106, q72_109, q72_110, q72_111, q72_114, q72_115, q72_118, q72_119, q72_121, q72_124, q72_125, q72_128, q72_129, q72_132, q72_133, q72_134, q72_137, q72_138, q72_139, q72_142, n10, n01, Bool.false_eq_true, ab_bs, ab_bn, ab_pr0, ab_pr1, nl_n, nl_i, nl_r, nl_j, nl_nl, rc_1, gf_1_0, gf_1_1, pt_1_1, gf_1_2, pt_1_2, gf_1_3, pt_1_3, gf_1_4, pt_1_4, gf_1_5, pt_1_5, ln_2, bl_2, bs_2, g1, f2, x1, if_false]
  · obtain ⟨y1, y2, y3⟩ := y (nI (s + k))
    have x1 : ¬ nI L ≤ nI (s + k) := nI_ge (by omega) (by omega)
    have x2 : S 2 (s + k) = sb_b (B (s + k)) := (t2 (s + k) (by omega)).2
    have x3 : sb_b (B (s + k)) = 32 := by
      rw [(sb_tst _ (t2 (s + k) (by omega)).1).1]
      exact p4 (s + k) (by omega) (by omega)
    rw [q72_0]
    simp only [q72_1, q72_4, q72_5, q72_8, q72_11, q72_12, q72_15, q72_16, q72_19, q72_20, q72_22, q72_25, q72_26, q72_27, q72_30, q72_31, q72_32, q72_35, q72_38, q72_39, q72_40, q72_43, q72_47, q72_50, q72_51, q72_54, q72_57, q72_58, q72_59, q72_62, q72_65, q72_66, q72_69, q72_70, q72_73, q72_74, q72_77, q72_80, q72_81, q72_84, q72_87, q72_88, q72_91, q72_92, q72_95, q72_96, q72_99, q72_102, q72_103, q72_106, q72_109, q72_110, q72_111, q72_114, q72_115, q72_118, q72_119, q72_121, q72_124, q72_125, q72_128, q72_129, q72_132, q72_133, q72_134, q72_137, q72_138, q72_139, q72_142, n10, n01, Bool.false_eq_true, ab_bs, ab_bn, ab_pr0, ab_pr1, nl_n, nl_i, nl_r, nl_j, nl_nl, rc_1, gf_1_0, gf_1_1, pt_1_1, gf_1_2, pt_1_2, gf_1_3, pt_1_3, gf_1_4, pt_1_4, gf_1_5, pt_1_5, ln_2, bl_2, bs_2, y1, y2, y3, x1, x2, x3, if_false, if_true, not_true, (show ab_inB (nI (s + k)) 320 = true from ib_nI (by omega) (by decide)), nI_clamp (show s + k < 2 ^ 31 by omega), up_up, nI_1, Nat.add_assoc]
end
