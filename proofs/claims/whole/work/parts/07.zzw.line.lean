/-! table: a line, and all lines -/
section
variable {scr : Option (List Int32)} {B : Nat → Nat} {L : Nat}
theorem l66_ok {N : ab_M} {a e : Nat} {l1 : Option Value} (hR : TR B L N) (hN : NP B L a e N) (he : e ≤ L) (h3 : kd B L a e = 3) : ∃ N' a' e', ab_res scr 131 6 N 66 [some (.ref 123), l1] [] = some (N', none) ∧ rfF N N' ∧ TP B L e a' e' ∧ NP B L a' e' N' := by
  obtain ⟨m1, m2⟩ := hN.2.2.1 (by omega)
  obtain ⟨N', a', e', r1, r2, r3, r4⟩ := tk_r (scr := scr) hR m1 hN.1 he
  refine ⟨N', a', e', ?_, r2, r3, r4⟩
  rw [q131_66]
  simp only [q131_0, q131_1, q131_4, q131_5, q131_6, q131_9, q131_10, q131_11, q131_14, q131_15, q131_16, q131_19, q131_20, q131_21, q131_24, q131_25, q131_28, q131_31, q131_32, q131_35, q131_38, q131_39, q131_40, q131_43, q131_44, q131_45, q131_48, q131_49, q131_52, q131_53, q131_56, q131_58, q131_59, q131_60, q131_62, q131_65, q131_67, q131_70, q131_73, q131_74, q131_77, q131_78, q131_81, q131_82, q131_83, q131_86, q131_87, q131_90, n10, n01, Bool.false_eq_true, ab_bs, ab_bn, ab_pr0, ab_pr1, nl_n, nl_i, nl_r, nl_j, nl_nl, rc_123, gf_123_0, gf_123_1, pt_123_1, gf_123_2, pt_123_2, gf_123_3, pt_123_3, gf_123_4, pt_123_4, gf_123_5, pt_123_5, gf_123_6, pt_123_6, gf_123_7, pt_123_7, gf_123_8, pt_123_8, gf_123_9, gf_123_10, gf_123_11, gf_123_12, gf_123_13, pt_123_13_0, pt_123_13_1, gf_123_14, pt_123_14_0, pt_123_14_1, gf_123_15, gf_123_16, gf_123_17, gf_123_18, gf_123_19, gf_123_20, gf_123_21, gf_123_22, gf_123_23, gf_123_24, gf_123_25, pt_123_25, gf_123_26, gf_123_27, pt_123_27, gf_123_28, pt_123_28, gf_123_29, gf_123_30, pt_123_30, gf_123_31, pt_123_31, gf_123_32, pt_123_32, gf_123_33, pt_123_33, gf_123_34, pt_123_34_0, pt_123_34_1, gf_123_35, gf_123_36, gf_123_37, gf_123_38, pt_123_38, gf_123_39, pt_123_39, gf_123_40, pt_123_40, gf_123_41, gf_123_42, gf_123_43, gf_123_44, gf_123_45, gf_123_46, gf_123_47, pt_123_47, m1, m2, h3, not_true, if_false, (show nI 3 = 3 from rfl), if_true, r1]
theorem line_both {S N : ab_M} {s a e k : Nat} (hC : TC B L S) (hR : TR B L N) (hT : CT N) (hP : TP B L s a e) (hS : SP B L a e S) (hN : NP B L a e N) (h4 : kd B L a e ≠ 4) (hX : TX k k S N) : (∃ S' N' s' a' e' a2 e2 k', ab_ms scr 61 [.ref 3] S = some (S', some (.int 1)) ∧ ab_ms scr 131 [.ref 123] N = some (N', none) ∧ e ≤ s' ∧ S' 3 2 = S 3 2 ∧ TP B L s' a' e' ∧ SP B L a' e' S' ∧ kd B L a' e' = 3 ∧ TP B L e' a2 e2 ∧ NP B L a2 e2 N' ∧ TX k' k' S' N' ∧ clE S S' ∧ rfE N N') ∨ (∃ S' N', ab_ms scr 61 [.ref 3] S = some (S', some (.int 0)) ∧ ab_ms scr 131 [.ref 123] N = some (N', none) ∧ FT S' N' ∧ clE S S' ∧ rfE N N') := by
  obtain ⟨m1, m2⟩ := hN.2.2.1 h4
  have he := hP.2.2.1
  have hae := hP.2.1
  have k4 := kd_le (B := B) (L := L) (a := a) (e := e)
  have i0 := sp_isName (scr := scr) hC hS.1 hS.2.2.1 hS.2.1 kd_le hae he (show 0 < 5 by decide)
  have i1 := sp_isName (scr := scr) hC hS.1 hS.2.2.1 hS.2.1 kd_le hae he (show 1 < 5 by decide)
  obtain ⟨v, hv, hh⟩ := sp_nameHere (scr := scr) hR hT hN.1 hN.2.1 m2 kd_le hae he
  by_cases c0 : kd B L a e = 1 ∧ Wd B a e 0
  · have hv0 : v = 0 := by
      rcases hv with ⟨w, w1, w2, w3, w4, w5⟩ | ⟨-, w2⟩
      · have := wd_inj (by decide) w1 c0.2 w3
        rw [w4, ← this]
        rfl
      · exact absurd c0 (w2 0 (by decide))
    subst hv0
    have i0 : ab_ms scr 77 [.ref 1, .ref 1000] S = some (S, some (.int 1)) := i0.1 c0
    have ce : ab_ms scr 61 [.ref 3] S = ab_res scr 61 8 S 12 [some (.ref 3)] [] := by
      rw [ms61]
      simp only [q61_0, q61_1, q61_4, q61_6, q61_9, q61_13, q61_16, q61_19, q61_20, q61_21, q61_24, q61_27, q61_28, q61_29, q61_32, q61_35, q61_36, q61_39, q61_40, q61_41, q61_42, q61_45, q61_47, q61_50, q61_53, q61_54, q61_57, q61_58, q61_59, q61_62, n10, n01, Bool.false_eq_true, ab_bs, ab_bn, ab_pr0, ab_pr1, nl_n, nl_i, nl_r, nl_j, nl_nl, rc_1, gf_1_0, gf_1_1, pt_1_1, gf_1_2, pt_1_2, gf_1_3, pt_1_3, gf_1_4, pt_1_4, gf_1_5, pt_1_5, rc_3, gf_3_0, gf_3_1, gf_3_2, pt_3_2, gf_3_3, pt_3_3, gf_3_4, pt_3_4_0, pt_3_4_1, i0, (show ¬ (1 : Int32) = 0 by decide), if_false]
    rcases one_both (scr := scr) hC hR hT hP hS hN c0.1 hX with ⟨S', N', s', a', e', y1, y2, y3, y32, y4, y5, y6, y7, y8, y9, y10⟩ | ⟨S', N', y1, y2, y3, y4, y5⟩
    · left
      obtain ⟨N2, a2, e2, z1, z2, z3, z4⟩ := l66_ok (scr := scr) (l1 := some (.int 0)) (TR_rfE hR y10) y6 y4.2.2.1 y7
      refine ⟨S', N2, s', a', e', a2, e2, k + 1, ce.trans y1, ?_, y3, y32, y4, y5, y7, z3, z4, TX_F y8 (clF_refl _) z2, y9, rfE_trans y10 (rfE_rf z2)⟩
      rw [ms131]
      simp only [q131_0, q131_1, q131_4, q131_5, q131_6, q131_9, q131_10, q131_11, q131_14, q131_15, q131_16, q131_19, q131_20, q131_21, q131_24, q131_25, q131_28, q131_31, q131_32, q131_35, q131_38, q131_39, q131_40, q131_43, q131_44, q131_45, q131_48, q131_49, q131_52, q131_53, q131_56, q131_58, q131_59, q131_60, q131_62, q131_65, q131_67, q131_70, q131_73, q131_74, q131_77, q131_78, q131_81, q131_82, q131_83, q131_86, q131_87, q131_90, n10, n01, Bool.false_eq_true, ab_bs, ab_bn, ab_pr0, ab_pr1, nl_n, nl_i, nl_r, nl_j, nl_nl, rc_123, gf_123_0, gf_123_1, pt_123_1, gf_123_2, pt_123_2, gf_123_3, pt_123_3, gf_123_4, pt_123_4, gf_123_5, pt_123_5, gf_123_6, pt_123_6, gf_123_7, pt_123_7, gf_123_8, pt_123_8, gf_123_9, gf_123_10, gf_123_11, gf_123_12, gf_123_13, pt_123_13_0, pt_123_13_1, gf_123_14, pt_123_14_0, pt_123_14_1, gf_123_15, gf_123_16, gf_123_17, gf_123_18, gf_123_19, gf_123_20, gf_123_21, gf_123_22, gf_123_23, gf_123_24, gf_123_25, pt_123_25, gf_123_26, gf_123_27, pt_123_27, gf_123_28, pt_123_28, gf_123_29, gf_123_30, pt_123_30, gf_123_31, pt_123_31, gf_123_32, pt_123_32, gf_123_33, pt_123_33, gf_123_34, pt_123_34_0, pt_123_34_1, gf_123_35, gf_123_36, gf_123_37, gf_123_38, pt_123_38, gf_123_39, pt_123_39, gf_123_40, pt_123_40, gf_123_41, gf_123_42, gf_123_43, gf_123_44, gf_123_45, gf_123_46, gf_123_47, pt_123_47, hh, if_true, not_true, if_false, y2]
      exact z1
    · right
      obtain ⟨N2, z1, z2, z3, z4⟩ := y3 (some (.int 0))
      refine ⟨S', N2, ce.trans y1, ?_, z2, y4, rfE_trans y5 z4⟩
      rw [ms131]
      simp only [q131_0, q131_1, q131_4, q131_5, q131_6, q131_9, q131_10, q131_11, q131_14, q131_15, q131_16, q131_19, q131_20, q131_21, q131_24, q131_25, q131_28, q131_31, q131_32, q131_35, q131_38, q131_39, q131_40, q131_43, q131_44, q131_45, q131_48, q131_49, q131_52, q131_53, q131_56, q131_58, q131_59, q131_60, q131_62, q131_65, q131_67, q131_70, q131_73, q131_74, q131_77, q131_78, q131_81, q131_82, q131_83, q131_86, q131_87, q131_90, n10, n01, Bool.false_eq_true, ab_bs, ab_bn, ab_pr0, ab_pr1, nl_n, nl_i, nl_r, nl_j, nl_nl, rc_123, gf_123_0, gf_123_1, pt_123_1, gf_123_2, pt_123_2, gf_123_3, pt_123_3, gf_123_4, pt_123_4, gf_123_5, pt_123_5, gf_123_6, pt_123_6, gf_123_7, pt_123_7, gf_123_8, pt_123_8, gf_123_9, gf_123_10, gf_123_11, gf_123_12, gf_123_13, pt_123_13_0, pt_123_13_1, gf_123_14, pt_123_14_0, pt_123_14_1, gf_123_15, gf_123_16, gf_123_17, gf_123_18, gf_123_19, gf_123_20, gf_123_21, gf_123_22, gf_123_23, gf_123_24, gf_123_25, pt_123_25, gf_123_26, gf_123_27, pt_123_27, gf_123_28, pt_123_28, gf_123_29, gf_123_30, pt_123_30, gf_123_31, pt_123_31, gf_123_32, pt_123_32, gf_123_33, pt_123_33, gf_123_34, pt_123_34_0, pt_123_34_1, gf_123_35, gf_123_36, gf_123_37, gf_123_38, pt_123_38, gf_123_39, pt_123_39, gf_123_40, pt_123_40, gf_123_41, gf_123_42, gf_123_43, gf_123_44, gf_123_45, gf_123_46, gf_123_47, pt_123_47, hh, if_true, not_true, if_false, y2]
      exact z1
  · have i0 : ab_ms scr 77 [.ref 1, .ref 1000] S = some (S, some (.int 0)) := i0.2 c0
    by_cases c1 : kd B L a e = 1 ∧ Wd B a e 1
    · have hv1 : v = 1 := by
        rcases hv with ⟨w, w1, w2, w3, w4, w5⟩ | ⟨-, w2⟩
        · have := wd_inj (by decide) w1 c1.2 w3
          rw [w4, ← this]
          rfl
        · exact absurd c1 (w2 1 (by decide))
      subst hv1
      have i1 : ab_ms scr 77 [.ref 1, .ref 1001] S = some (S, some (.int 1)) := i1.1 c1
      have ce : ab_ms scr 61 [.ref 3] S = ab_res scr 61 8 S 53 [some (.ref 3)] [] := by
        rw [ms61]
        simp only [q61_0, q61_1, q61_4, q61_6, q61_9, q61_12, q61_13, q61_16, q61_19, q61_20, q61_21, q61_24, q61_27, q61_28, q61_29, q61_32, q61_35, q61_36, q61_39, q61_40, q61_41, q61_42, q61_45, q61_47, q61_50, q61_54, q61_57, q61_58, q61_59, q61_62, n10, n01, Bool.false_eq_true, ab_bs, ab_bn, ab_pr0, ab_pr1, nl_n, nl_i, nl_r, nl_j, nl_nl, rc_1, gf_1_0, gf_1_1, pt_1_1, gf_1_2, pt_1_2, gf_1_3, pt_1_3, gf_1_4, pt_1_4, gf_1_5, pt_1_5, rc_3, gf_3_0, gf_3_1, gf_3_2, pt_3_2, gf_3_3, pt_3_3, gf_3_4, pt_3_4_0, pt_3_4_1, i0, i1, (show ¬ (1 : Int32) = 0 by decide), if_false, if_true]
      have re : ab_ms scr 131 [.ref 123] N = ab_res scr 131 6 N 31 [some (.ref 123), some (.int 1)] [] := by
        rw [ms131]
        simp only [q131_0, q131_1, q131_4, q131_5, q131_6, q131_9, q131_10, q131_11, q131_14, q131_15, q131_16, q131_19, q131_20, q131_21, q131_24, q131_25, q131_28, q131_32, q131_35, q131_38, q131_39, q131_40, q131_43, q131_44, q131_45, q131_48, q131_49, q131_52, q131_53, q131_56, q131_58, q131_59, q131_60, q131_62, q131_65, q131_67, q131_70, q131_73, q131_74, q131_77, q131_78, q131_81, q131_82, q131_83, q131_86, q131_87, q131_90, n10, n01, Bool.false_eq_true, ab_bs, ab_bn, ab_pr0, ab_pr1, nl_n, nl_i, nl_r, nl_j, nl_nl, rc_123, gf_123_0, gf_123_1, pt_123_1, gf_123_2, pt_123_2, gf_123_3, pt_123_3, gf_123_4, pt_123_4, gf_123_5, pt_123_5, gf_123_6, pt_123_6, gf_123_7, pt_123_7, gf_123_8, pt_123_8, gf_123_9, gf_123_10, gf_123_11, gf_123_12, gf_123_13, pt_123_13_0, pt_123_13_1, gf_123_14, pt_123_14_0, pt_123_14_1, gf_123_15, gf_123_16, gf_123_17, gf_123_18, gf_123_19, gf_123_20, gf_123_21, gf_123_22, gf_123_23, gf_123_24, gf_123_25, pt_123_25, gf_123_26, gf_123_27, pt_123_27, gf_123_28, pt_123_28, gf_123_29, gf_123_30, pt_123_30, gf_123_31, pt_123_31, gf_123_32, pt_123_32, gf_123_33, pt_123_33, gf_123_34, pt_123_34_0, pt_123_34_1, gf_123_35, gf_123_36, gf_123_37, gf_123_38, pt_123_38, gf_123_39, pt_123_39, gf_123_40, pt_123_40, gf_123_41, gf_123_42, gf_123_43, gf_123_44, gf_123_45, gf_123_46, gf_123_47, pt_123_47, hh, (show ¬ (1 : Int32) = 0 by decide), if_true, if_false, not_false_eq_true]
      rcases begin_both (scr := scr) (l1 := some (.int 1)) hC hR hT hP hS hN c1.1 hX with ⟨S', N', s', a', e', y1, y2, y3, y32, y4, y5, y6, y7, y8, y9, y10⟩ | ⟨S', N', y1, y2, y3, y4, y5⟩
      · left
        obtain ⟨N2, a2, e2, z1, z2, z3, z4⟩ := l66_ok (scr := scr) (l1 := some (.int 1)) (TR_rfE hR y10) y6 y4.2.2.1 y7
        exact ⟨S', N2, s', a', e', a2, e2, k, ce.trans y1, (re.trans y2).trans z1, y3, y32, y4, y5, y7, z3, z4, TX_F y8 (clF_refl _) z2, y9, rfE_trans y10 (rfE_rf z2)⟩
      · right
        obtain ⟨N2, z1, z2, z3, z4⟩ := y3 (some (.int 1))
        exact ⟨S', N2, ce.trans y1, (re.trans y2).trans z1, z2, y4, rfE_trans y5 z4⟩
    · right
      have i1 : ab_ms scr 77 [.ref 1, .ref 1001] S = some (S, some (.int 0)) := i1.2 c1
      have hv2 : ¬ v = 0 ∧ ¬ v = 1 := by
        rcases hv with ⟨w, w1, w2, w3, w4, w5⟩ | ⟨w1, w2⟩
        · refine ⟨fun q => ?_, fun q => ?_⟩
          · have : w = 0 := (nI_eq (a := w) (b := 0) (by omega) (by decide)).mp (w4.symm.trans q)
            subst this
            exact c0 ⟨w2, w3⟩
          · have : w = 1 := (nI_eq (a := w) (b := 1) (by omega) (by decide)).mp (w4.symm.trans q)
            subst this
            exact c1 ⟨w2, w3⟩
        · rw [w1]
          decide
      have m := sp_mis (scr := scr) k4 hS.2.1
      have fl := sp_fails (scr := scr) (N := N) (c := 2)
      refine ⟨_, (if N 123 3 = 0 then ab_up (ab_up N 123 3 2) 123 4 (N 123 6) else N), ?_, ?_, mis_FT hS hN, clE_cl up_clF, ?_⟩
      · rw [ms61]
        simp only [q61_0, q61_1, q61_4, q61_6, q61_9, q61_12, q61_13, q61_16, q61_19, q61_20, q61_21, q61_24, q61_27, q61_28, q61_29, q61_32, q61_35, q61_36, q61_39, q61_40, q61_41, q61_42, q61_45, q61_47, q61_50, q61_53, q61_54, q61_57, q61_58, q61_59, q61_62, n10, n01, Bool.false_eq_true, ab_bs, ab_bn, ab_pr0, ab_pr1, nl_n, nl_i, nl_r, nl_j, nl_nl, rc_1, gf_1_0, gf_1_1, pt_1_1, gf_1_2, pt_1_2, gf_1_3, pt_1_3, gf_1_4, pt_1_4, gf_1_5, pt_1_5, rc_3, gf_3_0, gf_3_1, gf_3_2, pt_3_2, gf_3_3, pt_3_3, gf_3_4, pt_3_4_0, pt_3_4_1, i0, i1, if_true, m, narrow_b0]
      · rw [ms131]
        simp only [q131_0, q131_1, q131_4, q131_5, q131_6, q131_9, q131_10, q131_11, q131_14, q131_15, q131_16, q131_19, q131_20, q131_21, q131_24, q131_25, q131_28, q131_32, q131_35, q131_38, q131_39, q131_40, q131_43, q131_44, q131_45, q131_48, q131_49, q131_52, q131_53, q131_56, q131_58, q131_59, q131_60, q131_62, q131_65, q131_67, q131_70, q131_73, q131_74, q131_77, q131_78, q131_81, q131_82, q131_83, q131_86, q131_87, q131_90, n10, n01, Bool.false_eq_true, ab_bs, ab_bn, ab_pr0, ab_pr1, nl_n, nl_i, nl_r, nl_j, nl_nl, rc_123, gf_123_0, gf_123_1, pt_123_1, gf_123_2, pt_123_2, gf_123_3, pt_123_3, gf_123_4, pt_123_4, gf_123_5, pt_123_5, gf_123_6, pt_123_6, gf_123_7, pt_123_7, gf_123_8, pt_123_8, gf_123_9, gf_123_10, gf_123_11, gf_123_12, gf_123_13, pt_123_13_0, pt_123_13_1, gf_123_14, pt_123_14_0, pt_123_14_1, gf_123_15, gf_123_16, gf_123_17, gf_123_18, gf_123_19, gf_123_20, gf_123_21, gf_123_22, gf_123_23, gf_123_24, gf_123_25, pt_123_25, gf_123_26, gf_123_27, pt_123_27, gf_123_28, pt_123_28, gf_123_29, gf_123_30, pt_123_30, gf_123_31, pt_123_31, gf_123_32, pt_123_32, gf_123_33, pt_123_33, gf_123_34, pt_123_34_0, pt_123_34_1, gf_123_35, gf_123_36, gf_123_37, gf_123_38, pt_123_38, gf_123_39, pt_123_39, gf_123_40, pt_123_40, gf_123_41, gf_123_42, gf_123_43, gf_123_44, gf_123_45, gf_123_46, gf_123_47, pt_123_47, hh, hv2.1, hv2.2, if_false, fl]
      · rw [if_pos m1]
        exact rfE_rf up_rfF
theorem loop_both : ∀ d l (S N : ab_M) (s a e k : Nat), L - s ≤ d → l ≤ s → TC B L S → TR B L N → CT N → TP B L s a e → SP B L a e S → NP B L a e N → TX k k S N → S 3 2 = 0 → (∃ S' N' l' k', ab_res scr 60 9 S 34 [some (.ref 3), some (.int (nI l))] [] = some (S', some (.int (nI l'))) ∧ ab_res scr 132 7 N 37 [some (.ref 123), some (.int (nI l)), none] [] = ab_res scr 132 7 N' 61 [some (.ref 123), some (.int (nI l')), none] [] ∧ N' 123 3 = 0 ∧ S' 3 2 = 0 ∧ TX k' k' S' N' ∧ clE S S' ∧ rfE N N') ∨ (∃ S' N' x y, ab_res scr 60 9 S 34 [some (.ref 3), some (.int (nI l))] [] = some (S', some (.int x)) ∧ ab_res scr 132 7 N 37 [some (.ref 123), some (.int (nI l)), none] [] = ab_res scr 132 7 N' 61 [some (.ref 123), some (.int y), none] [] ∧ FT S' N' ∧ clE S S' ∧ rfE N N') := by
  intro d
  induction d using Nat.strongRecOn with
  | ind d ih =>
    intro l S N s a e k hd hl hC hR hT hP hS hN hX h32
    have he := hP.2.2.1
    have hae := hP.2.1
    have hsa := hP.1
    have hL : L ≤ 320 := hC.1
    have k4 := kd_le (B := B) (L := L) (a := a) (e := e)
    by_cases q0 : kd B L a e = 0
    · left
      obtain ⟨m1, m2⟩ := hN.2.2.1 (by omega)
      refine ⟨S, N, l, k, ?_, ?_, m1, h32, hX, clE_refl S, rfE_refl N⟩
      · have s3 : S 1 3 = 0 := by rw [hS.2.1, q0]; rfl
        rw [q60_34]
        by_cases x : (320 : Int32) ≤ nI l
        · simp only [q60_0, q60_1, q60_4, q60_7, q60_8, q60_9, q60_12, q60_13, q60_14, q60_17, q60_18, q60_21, q60_22, q60_25, q60_26, q60_29, q60_32, q60_33, q60_35, q60_38, q60_41, q60_42, q60_45, q60_48, q60_51, q60_52, q60_55, q60_58, q60_61, q60_62, q60_65, q60_68, q60_71, q60_72, n10, n01, Bool.false_eq_true, ab_bs, ab_bn, ab_pr0, ab_pr1, nl_n, nl_i, nl_r, nl_j, nl_nl, rc_1, gf_1_0, gf_1_1, pt_1_1, gf_1_2, pt_1_2, gf_1_3, pt_1_3, gf_1_4, pt_1_4, gf_1_5, pt_1_5, rc_3, gf_3_0, gf_3_1, gf_3_2, pt_3_2, gf_3_3, pt_3_3, gf_3_4, pt_3_4_0, pt_3_4_1, x, if_true]
        · simp only [q60_0, q60_1, q60_4, q60_7, q60_8, q60_9, q60_12, q60_13, q60_14, q60_17, q60_18, q60_21, q60_22, q60_25, q60_26, q60_29, q60_32, q60_33, q60_35, q60_38, q60_41, q60_42, q60_45, q60_48, q60_51, q60_52, q60_55, q60_58, q60_61, q60_62, q60_65, q60_68, q60_71, q60_72, n10, n01, Bool.false_eq_true, ab_bs, ab_bn, ab_pr0, ab_pr1, nl_n, nl_i, nl_r, nl_j, nl_nl, rc_1, gf_1_0, gf_1_1, pt_1_1, gf_1_2, pt_1_2, gf_1_3, pt_1_3, gf_1_4, pt_1_4, gf_1_5, pt_1_5, rc_3, gf_3_0, gf_3_1, gf_3_2, pt_3_2, gf_3_3, pt_3_3, gf_3_4, pt_3_4_0, pt_3_4_1, x, if_false, s3, if_true]
      · have n7 : N 123 7 = 0 := by rw [m2, q0]; rfl
        rw [q132_37]
        simp only [q132_0, q132_1, q132_2, q132_5, q132_6, q132_7, q132_10, q132_11, q132_12, q132_15, q132_16, q132_19, q132_21, q132_22, q132_23, q132_24, q132_27, q132_29, q132_30, q132_31, q132_32, q132_33, q132_34, q132_38, q132_41, q132_44, q132_45, q132_48, q132_51, q132_52, q132_55, q132_58, q132_62, q132_63, q132_66, q132_67, q132_68, q132_71, q132_74, q132_75, q132_78, q132_81, q132_83, q132_84, q132_87, q132_88, q132_89, q132_90, q132_92, q132_94, q132_97, q132_98, q132_101, q132_102, q132_103, q132_106, q132_107, q132_108, q132_109, q132_112, q132_115, q132_116, q132_119, q132_121, q132_122, q132_123, q132_124, q132_125, q132_128, q132_129, n10, n01, Bool.false_eq_true, ab_bs, ab_bn, ab_pr0, ab_pr1, nl_n, nl_i, nl_r, nl_j, nl_nl, rc_123, gf_123_0, gf_123_1, pt_123_1, gf_123_2, pt_123_2, gf_123_3, pt_123_3, gf_123_4, pt_123_4, gf_123_5, pt_123_5, gf_123_6, pt_123_6, gf_123_7, pt_123_7, gf_123_8, pt_123_8, gf_123_9, gf_123_10, gf_123_11, gf_123_12, gf_123_13, pt_123_13_0, pt_123_13_1, gf_123_14, pt_123_14_0, pt_123_14_1, gf_123_15, gf_123_16, gf_123_17, gf_123_18, gf_123_19, gf_123_20, gf_123_21, gf_123_22, gf_123_23, gf_123_24, gf_123_25, pt_123_25, gf_123_26, gf_123_27, pt_123_27, gf_123_28, pt_123_28, gf_123_29, gf_123_30, pt_123_30, gf_123_31, pt_123_31, gf_123_32, pt_123_32, gf_123_33, pt_123_33, gf_123_34, pt_123_34_0, pt_123_34_1, gf_123_35, gf_123_36, gf_123_37, gf_123_38, pt_123_38, gf_123_39, pt_123_39, gf_123_40, pt_123_40, gf_123_41, gf_123_42, gf_123_43, gf_123_44, gf_123_45, gf_123_46, gf_123_47, pt_123_47, m1, not_true, if_false, n7, if_true]
    · have haL : a < L := by
        apply Classical.byContradiction
        intro x
        apply q0
        unfold kd
        rw [if_neg x]
      have hlt := hP.2.2.2.2.2.1 haL
      have x320 : ¬ (320 : Int32) ≤ nI l := nI_ge (a := l) (b := 320) (by omega) (by decide)
      have s3 : ¬ S 1 3 = 0 := by
        rw [hS.2.1]
        exact fun q => q0 ((nI_eq (a := kd B L a e) (b := 0) (by omega) (by decide)).mp q)
      by_cases q4 : kd B L a e = 4
      · right
        have i0 : ab_ms scr 77 [.ref 1, .ref 1000] S = some (S, some (.int 0)) := (sp_isName (scr := scr) hC hS.1 hS.2.2.1 hS.2.1 kd_le hae he (show 0 < 5 by decide)).2 (by omega)
        have i1 : ab_ms scr 77 [.ref 1, .ref 1001] S = some (S, some (.int 0)) := (sp_isName (scr := scr) hC hS.1 hS.2.2.1 hS.2.1 kd_le hae he (show 1 < 5 by decide)).2 (by omega)
        have m := sp_mis (scr := scr) k4 hS.2.1
        have c61 : ab_ms scr 61 [.ref 3] S = some (ab_up (ab_up S 3 2 (nI (if kd B L a e = 4 then 1 else 2))) 3 3 (S 1 4), some (.int 0)) := by
          rw [ms61]
          simp only [q61_0, q61_1, q61_4, q61_6, q61_9, q61_12, q61_13, q61_16, q61_19, q61_20, q61_21, q61_24, q61_27, q61_28, q61_29, q61_32, q61_35, q61_36, q61_39, q61_40, q61_41, q61_42, q61_45, q61_47, q61_50, q61_53, q61_54, q61_57, q61_58, q61_59, q61_62, n10, n01, Bool.false_eq_true, ab_bs, ab_bn, ab_pr0, ab_pr1, nl_n, nl_i, nl_r, nl_j, nl_nl, rc_1, gf_1_0, gf_1_1, pt_1_1, gf_1_2, pt_1_2, gf_1_3, pt_1_3, gf_1_4, pt_1_4, gf_1_5, pt_1_5, rc_3, gf_3_0, gf_3_1, gf_3_2, pt_3_2, gf_3_3, pt_3_3, gf_3_4, pt_3_4_0, pt_3_4_1, i0, i1, if_true, m, narrow_b0]
        have n3 : ¬ N 123 3 = 0 := by
          rw [(hN.2.2.2.1 q4).1]
          decide
        refine ⟨_, N, nI l, nI l, ?_, ?_, FT_of4 hS hN q4, clE_cl up_clF, rfE_refl N⟩
        · rw [q60_34]
          simp only [q60_0, q60_1, q60_4, q60_7, q60_8, q60_9, q60_12, q60_13, q60_14, q60_17, q60_18, q60_21, q60_22, q60_25, q60_26, q60_29, q60_32, q60_33, q60_35, q60_38, q60_41, q60_42, q60_45, q60_48, q60_51, q60_52, q60_55, q60_58, q60_61, q60_62, q60_65, q60_68, q60_71, q60_72, n10, n01, Bool.false_eq_true, ab_bs, ab_bn, ab_pr0, ab_pr1, nl_n, nl_i, nl_r, nl_j, nl_nl, rc_1, gf_1_0, gf_1_1, pt_1_1, gf_1_2, pt_1_2, gf_1_3, pt_1_3, gf_1_4, pt_1_4, gf_1_5, pt_1_5, rc_3, gf_3_0, gf_3_1, gf_3_2, pt_3_2, gf_3_3, pt_3_3, gf_3_4, pt_3_4_0, pt_3_4_1, x320, if_false, s3, c61, if_true]
        · rw [q132_37]
          simp only [q132_0, q132_1, q132_2, q132_5, q132_6, q132_7, q132_10, q132_11, q132_12, q132_15, q132_16, q132_19, q132_21, q132_22, q132_23, q132_24, q132_27, q132_29, q132_30, q132_31, q132_32, q132_33, q132_34, q132_38, q132_41, q132_44, q132_45, q132_48, q132_51, q132_52, q132_55, q132_58, q132_62, q132_63, q132_66, q132_67, q132_68, q132_71, q132_74, q132_75, q132_78, q132_81, q132_83, q132_84, q132_87, q132_88, q132_89, q132_90, q132_92, q132_94, q132_97, q132_98, q132_101, q132_102, q132_103, q132_106, q132_107, q132_108, q132_109, q132_112, q132_115, q132_116, q132_119, q132_121, q132_122, q132_123, q132_124, q132_125, q132_128, q132_129, n10, n01, Bool.false_eq_true, ab_bs, ab_bn, ab_pr0, ab_pr1, nl_n, nl_i, nl_r, nl_j, nl_nl, rc_123, gf_123_0, gf_123_1, pt_123_1, gf_123_2, pt_123_2, gf_123_3, pt_123_3, gf_123_4, pt_123_4, gf_123_5, pt_123_5, gf_123_6, pt_123_6, gf_123_7, pt_123_7, gf_123_8, pt_123_8, gf_123_9, gf_123_10, gf_123_11, gf_123_12, gf_123_13, pt_123_13_0, pt_123_13_1, gf_123_14, pt_123_14_0, pt_123_14_1, gf_123_15, gf_123_16, gf_123_17, gf_123_18, gf_123_19, gf_123_20, gf_123_21, gf_123_22, gf_123_23, gf_123_24, gf_123_25, pt_123_25, gf_123_26, gf_123_27, pt_123_27, gf_123_28, pt_123_28, gf_123_29, gf_123_30, pt_123_30, gf_123_31, pt_123_31, gf_123_32, pt_123_32, gf_123_33, pt_123_33, gf_123_34, pt_123_34_0, pt_123_34_1, gf_123_35, gf_123_36, gf_123_37, gf_123_38, pt_123_38, gf_123_39, pt_123_39, gf_123_40, pt_123_40, gf_123_41, gf_123_42, gf_123_43, gf_123_44, gf_123_45, gf_123_46, gf_123_47, pt_123_47, n3, not_false_eq_true, if_true]
      · obtain ⟨m1, m2⟩ := hN.2.2.1 q4
        have n7 : ¬ N 123 7 = 0 := by
          rw [m2]
          exact fun q => q0 ((nI_eq (a := kd B L a e) (b := 0) (by omega) (by decide)).mp q)
        rcases line_both (scr := scr) hC hR hT hP hS hN q4 hX with ⟨S', N', s', a', e', a2, e2, k', y1, y2, y3, y32, y4, y5, y6, y7, y8, y9, y10, y11⟩ | ⟨S', N', y1, y2, y3, y4, y5⟩
        · have hC' := TC_clE hC y10
          obtain ⟨S2, t1, t2, t3, hS2⟩ := tk_c (scr := scr) hC' y5.1 y7
          have c1 : ab_res scr 60 9 S 34 [some (.ref 3), some (.int (nI l))] [] = ab_res scr 60 9 S2 34 [some (.ref 3), some (.int (nI (l + 1)))] [] := by
            rw [q60_34]
            simp only [q60_0, q60_1, q60_4, q60_7, q60_8, q60_9, q60_12, q60_13, q60_14, q60_17, q60_18, q60_21, q60_22, q60_25, q60_26, q60_29, q60_32, q60_33, q60_35, q60_38, q60_41, q60_42, q60_45, q60_48, q60_51, q60_52, q60_55, q60_58, q60_61, q60_62, q60_65, q60_68, q60_71, q60_72, n10, n01, Bool.false_eq_true, ab_bs, ab_bn, ab_pr0, ab_pr1, nl_n, nl_i, nl_r, nl_j, nl_nl, rc_1, gf_1_0, gf_1_1, pt_1_1, gf_1_2, pt_1_2, gf_1_3, pt_1_3, gf_1_4, pt_1_4, gf_1_5, pt_1_5, rc_3, gf_3_0, gf_3_1, gf_3_2, pt_3_2, gf_3_3, pt_3_3, gf_3_4, pt_3_4_0, pt_3_4_1, x320, if_false, s3, y1, (show ¬ (1 : Int32) = 0 by decide), t1, a1]
          have r1 : ab_res scr 132 7 N 37 [some (.ref 123), some (.int (nI l)), none] [] = ab_res scr 132 7 N' 37 [some (.ref 123), some (.int (nI (l + 1))), none] [] := by
            rw [q132_37]
            simp only [q132_0, q132_1, q132_2, q132_5, q132_6, q132_7, q132_10, q132_11, q132_12, q132_15, q132_16, q132_19, q132_21, q132_22, q132_23, q132_24, q132_27, q132_29, q132_30, q132_31, q132_32, q132_33, q132_34, q132_38, q132_41, q132_44, q132_45, q132_48, q132_51, q132_52, q132_55, q132_58, q132_62, q132_63, q132_66, q132_67, q132_68, q132_71, q132_74, q132_75, q132_78, q132_81, q132_83, q132_84, q132_87, q132_88, q132_89, q132_90, q132_92, q132_94, q132_97, q132_98, q132_101, q132_102, q132_103, q132_106, q132_107, q132_108, q132_109, q132_112, q132_115, q132_116, q132_119, q132_121, q132_122, q132_123, q132_124, q132_125, q132_128, q132_129, n10, n01, Bool.false_eq_true, ab_bs, ab_bn, ab_pr0, ab_pr1, nl_n, nl_i, nl_r, nl_j, nl_nl, rc_123, gf_123_0, gf_123_1, pt_123_1, gf_123_2, pt_123_2, gf_123_3, pt_123_3, gf_123_4, pt_123_4, gf_123_5, pt_123_5, gf_123_6, pt_123_6, gf_123_7, pt_123_7, gf_123_8, pt_123_8, gf_123_9, gf_123_10, gf_123_11, gf_123_12, gf_123_13, pt_123_13_0, pt_123_13_1, gf_123_14, pt_123_14_0, pt_123_14_1, gf_123_15, gf_123_16, gf_123_17, gf_123_18, gf_123_19, gf_123_20, gf_123_21, gf_123_22, gf_123_23, gf_123_24, gf_123_25, pt_123_25, gf_123_26, gf_123_27, pt_123_27, gf_123_28, pt_123_28, gf_123_29, gf_123_30, pt_123_30, gf_123_31, pt_123_31, gf_123_32, pt_123_32, gf_123_33, pt_123_33, gf_123_34, pt_123_34_0, pt_123_34_1, gf_123_35, gf_123_36, gf_123_37, gf_123_38, pt_123_38, gf_123_39, pt_123_39, gf_123_40, pt_123_40, gf_123_41, gf_123_42, gf_123_43, gf_123_44, gf_123_45, gf_123_46, gf_123_47, pt_123_47, m1, not_true, if_false, n7, y2, a1]
          have hse : s < e' := by
            have := y4.1
            have := y4.2.1
            omega
          have hle : e' ≤ L := y4.2.2.1
          rcases ih (L - e') (by omega) (l + 1) S2 N' e' a2 e2 k' (Nat.le_refl _) (by omega) (TC_clF hC' t2) (TR_rfE hR y11) (CT_rfE hT y11) y7 hS2 y8 (TX_F y9 t2 (rfF_refl N')) (by rw [t3, y32, h32]) with ⟨S3, N3, l3, k3, z1, z2, z3, z4, z5, z6, z7⟩ | ⟨S3, N3, x, y, z1, z2, z3, z4, z5⟩
          · exact Or.inl ⟨S3, N3, l3, k3, c1.trans z1, r1.trans z2, z3, z4, z5, clE_trans y10 (clE_trans (clE_cl t2) z6), rfE_trans y11 z7⟩
          · exact Or.inr ⟨S3, N3, x, y, c1.trans z1, r1.trans z2, z3, clE_trans y10 (clE_trans (clE_cl t2) z4), rfE_trans y11 z5⟩
        · right
          refine ⟨S', N', nI l, nI (l + 1), ?_, ?_, y3, y4, rfE_trans y5 (rfE_refl N')⟩
          · rw [q60_34]
            simp only [q60_0, q60_1, q60_4, q60_7, q60_8, q60_9, q60_12, q60_13, q60_14, q60_17, q60_18, q60_21, q60_22, q60_25, q60_26, q60_29, q60_32, q60_33, q60_35, q60_38, q60_41, q60_42, q60_45, q60_48, q60_51, q60_52, q60_55, q60_58, q60_61, q60_62, q60_65, q60_68, q60_71, q60_72, n10, n01, Bool.false_eq_true, ab_bs, ab_bn, ab_pr0, ab_pr1, nl_n, nl_i, nl_r, nl_j, nl_nl, rc_1, gf_1_0, gf_1_1, pt_1_1, gf_1_2, pt_1_2, gf_1_3, pt_1_3, gf_1_4, pt_1_4, gf_1_5, pt_1_5, rc_3, gf_3_0, gf_3_1, gf_3_2, pt_3_2, gf_3_3, pt_3_3, gf_3_4, pt_3_4_0, pt_3_4_1, x320, if_false, s3, y1, if_true]
          · have d2 := (FT_dead y3).2
            have r1 : ab_res scr 132 7 N 37 [some (.ref 123), some (.int (nI l)), none] [] = ab_res scr 132 7 N' 37 [some (.ref 123), some (.int (nI (l + 1))), none] [] := by
              rw [q132_37]
              simp only [q132_0, q132_1, q132_2, q132_5, q132_6, q132_7, q132_10, q132_11, q132_12, q132_15, q132_16, q132_19, q132_21, q132_22, q132_23, q132_24, q132_27, q132_29, q132_30, q132_31, q132_32, q132_33, q132_34, q132_38, q132_41, q132_44, q132_45, q132_48, q132_51, q132_52, q132_55, q132_58, q132_62, q132_63, q132_66, q132_67, q132_68, q132_71, q132_74, q132_75, q132_78, q132_81, q132_83, q132_84, q132_87, q132_88, q132_89, q132_90, q132_92, q132_94, q132_97, q132_98, q132_101, q132_102, q132_103, q132_106, q132_107, q132_108, q132_109, q132_112, q132_115, q132_116, q132_119, q132_121, q132_122, q132_123, q132_124, q132_125, q132_128, q132_129, n10, n01, Bool.false_eq_true, ab_bs, ab_bn, ab_pr0, ab_pr1, nl_n, nl_i, nl_r, nl_j, nl_nl, rc_123, gf_123_0, gf_123_1, pt_123_1, gf_123_2, pt_123_2, gf_123_3, pt_123_3, gf_123_4, pt_123_4, gf_123_5, pt_123_5, gf_123_6, pt_123_6, gf_123_7, pt_123_7, gf_123_8, pt_123_8, gf_123_9, gf_123_10, gf_123_11, gf_123_12, gf_123_13, pt_123_13_0, pt_123_13_1, gf_123_14, pt_123_14_0, pt_123_14_1, gf_123_15, gf_123_16, gf_123_17, gf_123_18, gf_123_19, gf_123_20, gf_123_21, gf_123_22, gf_123_23, gf_123_24, gf_123_25, pt_123_25, gf_123_26, gf_123_27, pt_123_27, gf_123_28, pt_123_28, gf_123_29, gf_123_30, pt_123_30, gf_123_31, pt_123_31, gf_123_32, pt_123_32, gf_123_33, pt_123_33, gf_123_34, pt_123_34_0, pt_123_34_1, gf_123_35, gf_123_36, gf_123_37, gf_123_38, pt_123_38, gf_123_39, pt_123_39, gf_123_40, pt_123_40, gf_123_41, gf_123_42, gf_123_43, gf_123_44, gf_123_45, gf_123_46, gf_123_47, pt_123_47, m1, not_true, if_false, n7, y2, a1]
            rw [r1]
            rw [q132_37]
            simp only [q132_0, q132_1, q132_2, q132_5, q132_6, q132_7, q132_10, q132_11, q132_12, q132_15, q132_16, q132_19, q132_21, q132_22, q132_23, q132_24, q132_27, q132_29, q132_30, q132_31, q132_32, q132_33, q132_34, q132_38, q132_41, q132_44, q132_45, q132_48, q132_51, q132_52, q132_55, q132_58, q132_62, q132_63, q132_66, q132_67, q132_68, q132_71, q132_74, q132_75, q132_78, q132_81, q132_83, q132_84, q132_87, q132_88, q132_89, q132_90, q132_92, q132_94, q132_97, q132_98, q132_101, q132_102, q132_103, q132_106, q132_107, q132_108, q132_109, q132_112, q132_115, q132_116, q132_119, q132_121, q132_122, q132_123, q132_124, q132_125, q132_128, q132_129, n10, n01, Bool.false_eq_true, ab_bs, ab_bn, ab_pr0, ab_pr1, nl_n, nl_i, nl_r, nl_j, nl_nl, rc_123, gf_123_0, gf_123_1, pt_123_1, gf_123_2, pt_123_2, gf_123_3, pt_123_3, gf_123_4, pt_123_4, gf_123_5, pt_123_5, gf_123_6, pt_123_6, gf_123_7, pt_123_7, gf_123_8, pt_123_8, gf_123_9, gf_123_10, gf_123_11, gf_123_12, gf_123_13, pt_123_13_0, pt_123_13_1, gf_123_14, pt_123_14_0, pt_123_14_1, gf_123_15, gf_123_16, gf_123_17, gf_123_18, gf_123_19, gf_123_20, gf_123_21, gf_123_22, gf_123_23, gf_123_24, gf_123_25, pt_123_25, gf_123_26, gf_123_27, pt_123_27, gf_123_28, pt_123_28, gf_123_29, gf_123_30, pt_123_30, gf_123_31, pt_123_31, gf_123_32, pt_123_32, gf_123_33, pt_123_33, gf_123_34, pt_123_34_0, pt_123_34_1, gf_123_35, gf_123_36, gf_123_37, gf_123_38, pt_123_38, gf_123_39, pt_123_39, gf_123_40, pt_123_40, gf_123_41, gf_123_42, gf_123_43, gf_123_44, gf_123_45, gf_123_46, gf_123_47, pt_123_47, d2, not_false_eq_true, if_true]
end
