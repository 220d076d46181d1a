/-! table -/
def tbS (M : ab_M) : ab_M := ab_up (ab_up (ab_up (ab_up (ab_up (ab_up M 4 3 0) 4 4 1) 4 5 0) 3 2 0) 3 4 0) 1 2 0
def tbN (N : ab_M) : ab_M := ab_up (ab_up (ab_up (ab_up (ab_up N 123 3 0) 123 5 0) 123 13 0) 128 72 0) 128 73 1
/-- the reference takes what was told -/
def tcN (k : Nat) (N : ab_M) : ab_M := fun c j => if c = 127 ∧ j < k then N 128 j else N c j
theorem tcN_s {k : Nat} {N : ab_M} : ab_up (tcN k N) 127 k (N 128 k) = tcN (k + 1) N := by
  funext c j
  unfold ab_up tcN
  by_cases e : c = 127 ∧ j = k
  · rw [if_pos e, if_pos (by omega), e.2]
  · rw [if_neg e]
    by_cases w : c = 127 ∧ j < k
    · rw [if_pos w, if_pos (by omega)]
    · rw [if_neg w, if_neg (by omega)]
section
variable {scr : Option (List Int32)} {B : Nat → Nat} {L : Nat}
theorem tc_run {N : ab_M} {x : Int32} : ab_res scr 132 7 N 91 [some (.ref 123), some (.int x), some (.int 0)] [] = some (ab_up (ab_up (tcN 74 N) 127 86 0) 123 14 1, some (.int x)) := by
  have y : ∀ k j, tcN k N 128 j = N 128 j := fun k j => by
    unfold tcN
    rw [if_neg (by omega)]
  have e1 := rn (fun k => ab_res scr 132 7 (tcN k N) 91 [some (.ref 123), some (.int x), some (.int (nI k))] []) 74 (fun k hk => ?_)
  · have e0 : tcN 0 N = N := by
      funext c j
      unfold tcN
      rw [if_neg (by omega)]
    have e1 : ab_res scr 132 7 (tcN 0 N) 91 [some (.ref 123), some (.int x), some (.int 0)] [] = ab_res scr 132 7 (tcN 74 N) 91 [some (.ref 123), some (.int x), some (.int (nI 74))] [] := e1
    rw [e0] at e1
    rw [e1]
    rw [q132_91]
    simp only [q132_0, q132_1, q132_2, q132_5, q132_6, q132_7, q132_10, q132_11, q132_12, q132_15, q132_16, q132_19, q132_21, q132_22, q132_23, q132_24, q132_27, q132_29, q132_30, q132_31, q132_32, q132_33, q132_34, q132_38, q132_41, q132_44, q132_45, q132_48, q132_51, q132_52, q132_55, q132_58, q132_62, q132_63, q132_66, q132_67, q132_68, q132_71, q132_74, q132_75, q132_78, q132_81, q132_83, q132_84, q132_87, q132_88, q132_89, q132_90, q132_92, q132_94, q132_97, q132_98, q132_101, q132_102, q132_103, q132_106, q132_107, q132_108, q132_109, q132_112, q132_115, q132_116, q132_119, q132_121, q132_122, q132_123, q132_124, q132_125, q132_128, q132_129, n10, n01, Bool.false_eq_true, ab_bs, ab_bn, ab_pr0, ab_pr1, nl_n, nl_i, nl_r, nl_j, nl_nl, rc_123, gf_123_0, gf_123_1, pt_123_1, gf_123_2, pt_123_2, gf_123_3, pt_123_3, gf_123_4, pt_123_4, gf_123_5, pt_123_5, gf_123_6, pt_123_6, gf_123_7, pt_123_7, gf_123_8, pt_123_8, gf_123_9, gf_123_10, gf_123_11, gf_123_12, gf_123_13, pt_123_13_0, pt_123_13_1, gf_123_14, pt_123_14_0, pt_123_14_1, gf_123_15, gf_123_16, gf_123_17, gf_123_18, gf_123_19, gf_123_20, gf_123_21, gf_123_22, gf_123_23, gf_123_24, gf_123_25, pt_123_25, gf_123_26, gf_123_27, pt_123_27, gf_123_28, pt_123_28, gf_123_29, gf_123_30, pt_123_30, gf_123_31, pt_123_31, gf_123_32, pt_123_32, gf_123_33, pt_123_33, gf_123_34, pt_123_34_0, pt_123_34_1, gf_123_35, gf_123_36, gf_123_37, gf_123_38, pt_123_38, gf_123_39, pt_123_39, gf_123_40, pt_123_40, gf_123_41, gf_123_42, gf_123_43, gf_123_44, gf_123_45, gf_123_46, gf_123_47, pt_123_47, (show (74 : Int32) ≤ nI 74 by decide), if_true, @s127_86 scr (tcN 74 N), c86]
  · have h1 : ¬ (74 : Int32) ≤ nI k := nI_ge (a := k) (b := 74) hk (by decide)
    rw [q132_91]
    simp only [q132_0, q132_1, q132_2, q132_5, q132_6, q132_7, q132_10, q132_11, q132_12, q132_15, q132_16, q132_19, q132_21, q132_22, q132_23, q132_24, q132_27, q132_29, q132_30, q132_31, q132_32, q132_33, q132_34, q132_38, q132_41, q132_44, q132_45, q132_48, q132_51, q132_52, q132_55, q132_58, q132_62, q132_63, q132_66, q132_67, q132_68, q132_71, q132_74, q132_75, q132_78, q132_81, q132_83, q132_84, q132_87, q132_88, q132_89, q132_90, q132_92, q132_94, q132_97, q132_98, q132_101, q132_102, q132_103, q132_106, q132_107, q132_108, q132_109, q132_112, q132_115, q132_116, q132_119, q132_121, q132_122, q132_123, q132_124, q132_125, q132_128, q132_129, n10, n01, Bool.false_eq_true, ab_bs, ab_bn, ab_pr0, ab_pr1, nl_n, nl_i, nl_r, nl_j, nl_nl, rc_123, gf_123_0, gf_123_1, pt_123_1, gf_123_2, pt_123_2, gf_123_3, pt_123_3, gf_123_4, pt_123_4, gf_123_5, pt_123_5, gf_123_6, pt_123_6, gf_123_7, pt_123_7, gf_123_8, pt_123_8, gf_123_9, gf_123_10, gf_123_11, gf_123_12, gf_123_13, pt_123_13_0, pt_123_13_1, gf_123_14, pt_123_14_0, pt_123_14_1, gf_123_15, gf_123_16, gf_123_17, gf_123_18, gf_123_19, gf_123_20, gf_123_21, gf_123_22, gf_123_23, gf_123_24, gf_123_25, pt_123_25, gf_123_26, gf_123_27, pt_123_27, gf_123_28, pt_123_28, gf_123_29, gf_123_30, pt_123_30, gf_123_31, pt_123_31, gf_123_32, pt_123_32, gf_123_33, pt_123_33, gf_123_34, pt_123_34_0, pt_123_34_1, gf_123_35, gf_123_36, gf_123_37, gf_123_38, pt_123_38, gf_123_39, pt_123_39, gf_123_40, pt_123_40, gf_123_41, gf_123_42, gf_123_43, gf_123_44, gf_123_45, gf_123_46, gf_123_47, pt_123_47, ln_128, al_128, si_128, h1, if_false, (show ab_inB (nI k) 74 = true from ib_nI (by omega) (by decide)), nI_clamp (show k < 2 ^ 31 by omega), if_true, y, s127 (show k < 300 by omega), tcN_s, a1]
def tbO (N : ab_M) : ab_M := ab_up (ab_up (tcN 74 (ab_up (ab_up N 123 1 0) 123 2 0)) 127 86 0) 123 14 1
theorem tab_both {M N : ab_M} (hC : TC B L M) (hR : TR B L N) (hT : CT N) : (∃ S' N' l k, ab_ms scr 81 [.ref 0] M = some (cpC 16 18 4 6 (ab_up S' 1 1 0), some (.int (nI l))) ∧ ab_ms scr 132 [.ref 123] N = some (tbO N', some (.int (nI l))) ∧ S' 3 2 = 0 ∧ TX k k S' N' ∧ clE M S' ∧ rfE N N') ∨ (∃ S' N', ab_ms scr 81 [.ref 0] M = some (ab_up S' 1 1 0, some (.int (-10 - S' 3 3))) ∧ ab_ms scr 132 [.ref 123] N = some (ab_up (ab_up N' 123 1 0) 123 2 (N' 123 3), some (.int (-10 - S' 3 3))) ∧ FT S' N' ∧ clE M S' ∧ rfE N N') := by
  have f1 : clE M (tbS M) := by
    refine clE_trans (clE_trans (clE_trans (clE_trans (clE_trans (clE_up (by decide)) (clE_up (by decide))) (clE_up (by decide))) (clE_up (by decide))) (clE_up (by decide))) ⟨fun c j h => up_n (by omega), up_o _ _ _ _ _ _ (by decide), fun j => up_n (by decide)⟩
  have f2 : rfE N (tbN N) := by
    refine rfE_trans (rfE_trans (rfE_trans (rfE_trans ⟨fun c j x y => up_n x, fun j x y => up_o _ _ _ _ _ _ (by omega)⟩ ⟨fun c j x y => up_n x, fun j x y => up_o _ _ _ _ _ _ (by omega)⟩) ⟨fun c j x y => up_n x, fun j x y => up_o _ _ _ _ _ _ (by omega)⟩) (rfE_d dF_up)) (rfE_d dF_up)
  have hC1 := TC_clE hC f1
  have hR1 := TR_rfE hR f2
  have hT1 := CT_rfE hT f2
  obtain ⟨a, e, hP⟩ := tp_ex B (Nat.zero_le L)
  obtain ⟨S1, t1, t2, t3, hS⟩ := tk_c (scr := scr) (s := 0) hC1 (by unfold tbS; rw [up_s]; rfl) hP
  obtain ⟨N1, r1, r2, r3⟩ := sp_tkr (scr := scr) (s := 0) hR1 (by unfold tbN; rw [up_n (by decide), up_n (by decide), up_o _ _ _ _ _ _ (by decide), up_o _ _ _ _ _ _ (by decide), up_s]) (by unfold tbN; rw [up_n (by decide), up_n (by decide), up_o _ _ _ _ _ _ (by decide), up_s]; rfl) hP
  have hN : NP B L a e N1 := r3
  have r2 : rfF (tbN N) N1 := r2
  have hX0 : TX 0 0 (tbS M) (tbN N) := by
    have y3 : tbS M 4 3 = 0 ∧ tbS M 4 4 = 1 ∧ tbS M 4 5 = 0 ∧ tbS M 3 4 = 0 := by
      unfold tbS
      refine ⟨?_, ?_, ?_, ?_⟩
      · rw [up_n (by decide), up_n (by decide), up_n (by decide), up_o _ _ _ _ _ _ (by decide), up_o _ _ _ _ _ _ (by decide), up_s]
      · rw [up_n (by decide), up_n (by decide), up_n (by decide), up_o _ _ _ _ _ _ (by decide), up_s]
      · rw [up_n (by decide), up_n (by decide), up_n (by decide), up_s]
      · rw [up_n (by decide), up_s]
    have yN : tbN N 128 72 = 0 ∧ tbN N 128 73 = 1 ∧ tbN N 123 13 = 0 := by
      unfold tbN
      refine ⟨?_, up_s _ _ _ _, ?_⟩
      · rw [up_o _ _ _ _ _ _ (by decide), up_s]
      · rw [up_n (by decide), up_n (by decide), up_s]
    obtain ⟨y3, y4, y5, y34⟩ := y3
    obtain ⟨n72, n73, n13⟩ := yN
    exact ⟨⟨by decide, by decide, y3, y5, ⟨1, by decide, by decide, y4⟩, fun p hp => absurd hp (by omega), fun i hi => absurd hi (by omega)⟩, n72, by rw [n73, y4], fun w _ p hp => absurd hp (by omega), by rw [y34, n13], Or.inl y34⟩
  have hX := TX_F hX0 t2 r2
  have h32 : S1 3 2 = 0 := by
    rw [t3]
    unfold tbS
    rw [up_n (by decide), up_o _ _ _ _ _ _ (by decide), up_s]
  have ce : ab_ms scr 60 [.ref 3] M = ab_res scr 60 9 S1 34 [some (.ref 3), some (.int (nI 0))] [] := by
    rw [ms60]
    unfold tbS at t1
    simp only [q60_0, q60_1, q60_4, q60_7, q60_8, q60_9, q60_12, q60_13, q60_14, q60_17, q60_18, q60_21, q60_22, q60_25, q60_26, q60_29, q60_32, q60_33, q60_35, q60_38, q60_41, q60_42, q60_45, q60_48, q60_51, q60_52, q60_55, q60_58, q60_61, q60_62, q60_65, q60_68, q60_71, q60_72, n10, n01, Bool.false_eq_true, ab_bs, ab_bn, ab_pr0, ab_pr1, nl_n, nl_i, nl_r, nl_j, nl_nl, rc_1, gf_1_0, gf_1_1, pt_1_1, gf_1_2, pt_1_2, gf_1_3, pt_1_3, gf_1_4, pt_1_4, gf_1_5, pt_1_5, rc_3, gf_3_0, gf_3_1, gf_3_2, pt_3_2, gf_3_3, pt_3_3, gf_3_4, pt_3_4_0, pt_3_4_1, rc_4, gf_4_0, gf_4_1, gf_4_2, gf_4_3, pt_4_3, gf_4_4, pt_4_4, gf_4_5, pt_4_5, sp_clr, t1]
    rfl
  have re : ab_ms scr 132 [.ref 123] N = ab_res scr 132 7 N1 37 [some (.ref 123), some (.int (nI 0)), none] [] := by
    have z72 : (72 : Int32).toNatClampNeg = 72 := by decide
    have i72 : ab_inB 72 74 = true := by decide
    have z73 : (73 : Int32).toNatClampNeg = 73 := by decide
    have i73 : ab_inB 73 74 = true := by decide
    rw [ms132]
    unfold tbN at r1
    simp only [q132_0, q132_1, q132_2, q132_5, q132_6, q132_7, q132_10, q132_11, q132_12, q132_15, q132_16, q132_19, q132_21, q132_22, q132_23, q132_24, q132_27, q132_29, q132_30, q132_31, q132_32, q132_33, q132_34, q132_38, q132_41, q132_44, q132_45, q132_48, q132_51, q132_52, q132_55, q132_58, q132_62, q132_63, q132_66, q132_67, q132_68, q132_71, q132_74, q132_75, q132_78, q132_81, q132_83, q132_84, q132_87, q132_88, q132_89, q132_90, q132_92, q132_94, q132_97, q132_98, q132_101, q132_102, q132_103, q132_106, q132_107, q132_108, q132_109, q132_112, q132_115, q132_116, q132_119, q132_121, q132_122, q132_123, q132_124, q132_125, q132_128, q132_129, n10, n01, Bool.false_eq_true, ab_bs, ab_bn, ab_pr0, ab_pr1, nl_n, nl_i, nl_r, nl_j, nl_nl, rc_123, gf_123_0, gf_123_1, pt_123_1, gf_123_2, pt_123_2, gf_123_3, pt_123_3, gf_123_4, pt_123_4, gf_123_5, pt_123_5, gf_123_6, pt_123_6, gf_123_7, pt_123_7, gf_123_8, pt_123_8, gf_123_9, gf_123_10, gf_123_11, gf_123_12, gf_123_13, pt_123_13_0, pt_123_13_1, gf_123_14, pt_123_14_0, pt_123_14_1, gf_123_15, gf_123_16, gf_123_17, gf_123_18, gf_123_19, gf_123_20, gf_123_21, gf_123_22, gf_123_23, gf_123_24, gf_123_25, pt_123_25, gf_123_26, gf_123_27, pt_123_27, gf_123_28, pt_123_28, gf_123_29, gf_123_30, pt_123_30, gf_123_31, pt_123_31, gf_123_32, pt_123_32, gf_123_33, pt_123_33, gf_123_34, pt_123_34_0, pt_123_34_1, gf_123_35, gf_123_36, gf_123_37, gf_123_38, pt_123_38, gf_123_39, pt_123_39, gf_123_40, pt_123_40, gf_123_41, gf_123_42, gf_123_43, gf_123_44, gf_123_45, gf_123_46, gf_123_47, pt_123_47, ln_128, al_128, si_128, z72, i72, z73, i73, if_true, r1]
    rfl
  rcases loop_both (scr := scr) L 0 S1 N1 0 a e 0 (by omega) (Nat.le_refl _) (TC_clF hC1 t2) (TR_rfF hR1 r2) (CT_rfE hT1 (rfE_rf r2)) hP hS hN hX h32 with ⟨S', N', l, k, y1, y2, y3, y4, y5, y6, y7⟩ | ⟨S', N', x, y, y1, y2, y3, y4, y5⟩
  · left
    refine ⟨S', N', l, k, ?_, ?_, y4, y5, clE_trans f1 (clE_trans (clE_cl t2) y6), rfE_trans f2 (rfE_trans (rfE_rf r2) y7)⟩
    · have c60 := ce.trans y1
      have c70 : ab_ms scr 70 [.ref 1, .int 0] S' = some (ab_up S' 1 1 0, none) := by
        rw [ms70]
        simp only [q70_0, q70_1, q70_2, q70_5, n10, n01, Bool.false_eq_true, ab_bs, ab_bn, ab_pr0, ab_pr1, nl_n, nl_i, nl_r, nl_j, nl_nl, rc_1, gf_1_0, gf_1_1, pt_1_1, gf_1_2, pt_1_2, gf_1_3, pt_1_3, gf_1_4, pt_1_4, gf_1_5, pt_1_5]
      have c41 := sp_copy (scr := scr) 16 18 4 6 PO16 PO4 (Or.inr (by decide)) rfl rfl (by decide) (ab_up S' 1 1 0)
      have e32 : ab_up S' 1 1 0 3 2 = 0 := by rw [up_n (by decide), y4]
      rw [ms81]
      simp only [q81_0, q81_1, q81_4, q81_7, q81_8, q81_9, q81_12, q81_13, q81_16, q81_17, q81_20, q81_23, q81_26, q81_28, q81_29, q81_32, q81_35, q81_36, q81_37, q81_38, q81_41, q81_42, q81_45, q81_48, q81_51, q81_52, n10, n01, Bool.false_eq_true, ab_bs, ab_bn, ab_pr0, ab_pr1, nl_n, nl_i, nl_r, nl_j, nl_nl, rc_0, gf_0_0, gf_0_1, gf_0_2, gf_0_3, gf_0_4, gf_0_5, gf_0_6, gf_0_7, gf_0_8, gf_0_9, pt_0_9, rc_1, gf_1_0, gf_1_1, pt_1_1, gf_1_2, pt_1_2, gf_1_3, pt_1_3, gf_1_4, pt_1_4, gf_1_5, pt_1_5, rc_3, gf_3_0, gf_3_1, gf_3_2, pt_3_2, gf_3_3, pt_3_3, gf_3_4, pt_3_4_0, pt_3_4_1, rc_16, gf_16_0, gf_16_1, gf_16_2, gf_16_3, pt_16_3, gf_16_4, pt_16_4, gf_16_5, pt_16_5, c60, c70, e32, if_true, c41]
    · rw [re, y2]
      have e3 : ab_up N' 123 1 0 123 3 = 0 := by rw [up_o _ _ _ _ _ _ (by decide), y3]
      have e33 : ab_up (ab_up N' 123 1 0) 123 2 0 123 3 = 0 := by rw [up_o _ _ _ _ _ _ (by decide), e3]
      rw [q132_61]
      simp only [q132_0, q132_1, q132_2, q132_5, q132_6, q132_7, q132_10, q132_11, q132_12, q132_15, q132_16, q132_19, q132_21, q132_22, q132_23, q132_24, q132_27, q132_29, q132_30, q132_31, q132_32, q132_33, q132_34, q132_38, q132_41, q132_44, q132_45, q132_48, q132_51, q132_52, q132_55, q132_58, q132_62, q132_63, q132_66, q132_67, q132_68, q132_71, q132_74, q132_75, q132_78, q132_81, q132_83, q132_84, q132_87, q132_88, q132_89, q132_90, q132_92, q132_94, q132_97, q132_98, q132_101, q132_102, q132_103, q132_106, q132_107, q132_108, q132_109, q132_112, q132_115, q132_116, q132_119, q132_121, q132_122, q132_123, q132_124, q132_125, q132_128, q132_129, n10, n01, Bool.false_eq_true, ab_bs, ab_bn, ab_pr0, ab_pr1, nl_n, nl_i, nl_r, nl_j, nl_nl, rc_123, gf_123_0, gf_123_1, pt_123_1, gf_123_2, pt_123_2, gf_123_3, pt_123_3, gf_123_4, pt_123_4, gf_123_5, pt_123_5, gf_123_6, pt_123_6, gf_123_7, pt_123_7, gf_123_8, pt_123_8, gf_123_9, gf_123_10, gf_123_11, gf_123_12, gf_123_13, pt_123_13_0, pt_123_13_1, gf_123_14, pt_123_14_0, pt_123_14_1, gf_123_15, gf_123_16, gf_123_17, gf_123_18, gf_123_19, gf_123_20, gf_123_21, gf_123_22, gf_123_23, gf_123_24, gf_123_25, pt_123_25, gf_123_26, gf_123_27, pt_123_27, gf_123_28, pt_123_28, gf_123_29, gf_123_30, pt_123_30, gf_123_31, pt_123_31, gf_123_32, pt_123_32, gf_123_33, pt_123_33, gf_123_34, pt_123_34_0, pt_123_34_1, gf_123_35, gf_123_36, gf_123_37, gf_123_38, pt_123_38, gf_123_39, pt_123_39, gf_123_40, pt_123_40, gf_123_41, gf_123_42, gf_123_43, gf_123_44, gf_123_45, gf_123_46, gf_123_47, pt_123_47, e3, e33, (show (0 : Int32) ≤ 0 by decide), if_true]
      exact tc_run
  · right
    obtain ⟨d1, d2⟩ := FT_dead y3
    obtain ⟨f, ff1, ff5, g1, g2, g3⟩ := id y3
    refine ⟨S', N', ?_, ?_, y3, clE_trans f1 (clE_trans (clE_cl t2) y4), rfE_trans f2 (rfE_trans (rfE_rf r2) y5)⟩
    · have c60 := ce.trans y1
      have c70 : ab_ms scr 70 [.ref 1, .int 0] S' = some (ab_up S' 1 1 0, none) := by
        rw [ms70]
        simp only [q70_0, q70_1, q70_2, q70_5, n10, n01, Bool.false_eq_true, ab_bs, ab_bn, ab_pr0, ab_pr1, nl_n, nl_i, nl_r, nl_j, nl_nl, rc_1, gf_1_0, gf_1_1, pt_1_1, gf_1_2, pt_1_2, gf_1_3, pt_1_3, gf_1_4, pt_1_4, gf_1_5, pt_1_5]
      have e32 : ¬ ab_up S' 1 1 0 3 2 = 0 := by
        rw [up_n (by decide), g1]
        exact nI_ne0 ff1 (by omega)
      have e33 : ab_up S' 1 1 0 3 3 = S' 3 3 := up_n (by decide)
      rw [ms81]
      simp only [q81_0, q81_1, q81_4, q81_7, q81_8, q81_9, q81_12, q81_13, q81_16, q81_17, q81_20, q81_23, q81_26, q81_28, q81_29, q81_32, q81_35, q81_36, q81_37, q81_38, q81_41, q81_42, q81_45, q81_48, q81_51, q81_52, n10, n01, Bool.false_eq_true, ab_bs, ab_bn, ab_pr0, ab_pr1, nl_n, nl_i, nl_r, nl_j, nl_nl, rc_0, gf_0_0, gf_0_1, gf_0_2, gf_0_3, gf_0_4, gf_0_5, gf_0_6, gf_0_7, gf_0_8, gf_0_9, pt_0_9, rc_1, gf_1_0, gf_1_1, pt_1_1, gf_1_2, pt_1_2, gf_1_3, pt_1_3, gf_1_4, pt_1_4, gf_1_5, pt_1_5, rc_3, gf_3_0, gf_3_1, gf_3_2, pt_3_2, gf_3_3, pt_3_3, gf_3_4, pt_3_4_0, pt_3_4_1, c60, c70, e32, if_false, e33]
    · rw [re, y2]
      have e3 : ab_up N' 123 1 0 123 3 = N' 123 3 := up_o _ _ _ _ _ _ (by decide)
      have e33 : ab_up (ab_up N' 123 1 0) 123 2 (N' 123 3) 123 3 = N' 123 3 := by rw [up_o _ _ _ _ _ _ (by decide), e3]
      have e4 : ab_up (ab_up N' 123 1 0) 123 2 (N' 123 3) 123 4 = S' 3 3 := by rw [up_o _ _ _ _ _ _ (by decide), up_o _ _ _ _ _ _ (by decide), g3]
      rw [q132_61]
      simp only [q132_0, q132_1, q132_2, q132_5, q132_6, q132_7, q132_10, q132_11, q132_12, q132_15, q132_16, q132_19, q132_21, q132_22, q132_23, q132_24, q132_27, q132_29, q132_30, q132_31, q132_32, q132_33, q132_34, q132_38, q132_41, q132_44, q132_45, q132_48, q132_51, q132_52, q132_55, q132_58, q132_62, q132_63, q132_66, q132_67, q132_68, q132_71, q132_74, q132_75, q132_78, q132_81, q132_83, q132_84, q132_87, q132_88, q132_89, q132_90, q132_92, q132_94, q132_97, q132_98, q132_101, q132_102, q132_103, q132_106, q132_107, q132_108, q132_109, q132_112, q132_115, q132_116, q132_119, q132_121, q132_122, q132_123, q132_124, q132_125, q132_128, q132_129, n10, n01, Bool.false_eq_true, ab_bs, ab_bn, ab_pr0, ab_pr1, nl_n, nl_i, nl_r, nl_j, nl_nl, rc_123, gf_123_0, gf_123_1, pt_123_1, gf_123_2, pt_123_2, gf_123_3, pt_123_3, gf_123_4, pt_123_4, gf_123_5, pt_123_5, gf_123_6, pt_123_6, gf_123_7, pt_123_7, gf_123_8, pt_123_8, gf_123_9, gf_123_10, gf_123_11, gf_123_12, gf_123_13, pt_123_13_0, pt_123_13_1, gf_123_14, pt_123_14_0, pt_123_14_1, gf_123_15, gf_123_16, gf_123_17, gf_123_18, gf_123_19, gf_123_20, gf_123_21, gf_123_22, gf_123_23, gf_123_24, gf_123_25, pt_123_25, gf_123_26, gf_123_27, pt_123_27, gf_123_28, pt_123_28, gf_123_29, gf_123_30, pt_123_30, gf_123_31, pt_123_31, gf_123_32, pt_123_32, gf_123_33, pt_123_33, gf_123_34, pt_123_34_0, pt_123_34_1, gf_123_35, gf_123_36, gf_123_37, gf_123_38, pt_123_38, gf_123_39, pt_123_39, gf_123_40, pt_123_40, gf_123_41, gf_123_42, gf_123_43, gf_123_44, gf_123_45, gf_123_46, gf_123_47, pt_123_47, e3, e33, e4, d1, if_false]
end
section
variable {scr : Option (List Int32)} {n t : Nat} {K : Int} {M : ab_M}
theorem tb_at {N : ab_M} {c j : Nat} : tbO N c j = if c = 123 ∧ j = 14 then 1 else if c = 127 ∧ j = 86 then 0 else if c = 127 ∧ j < 74 then N 128 j else if c = 123 ∧ (j = 1 ∨ j = 2) then 0 else N c j := by
  unfold tbO tcN ab_up
  by_cases e1 : c = 123 ∧ j = 14
  · rw [if_pos e1, if_pos e1]
  · rw [if_neg e1, if_neg e1]
    by_cases e2 : c = 127 ∧ j = 86
    · rw [if_pos e2, if_pos e2]
    · rw [if_neg e2, if_neg e2]
      show (if c = 127 ∧ j < 74 then if 128 = 123 ∧ j = 2 then 0 else if 128 = 123 ∧ j = 1 then 0 else N 128 j else if c = 123 ∧ j = 2 then 0 else if c = 123 ∧ j = 1 then 0 else N c j) = _
      by_cases e3 : c = 127 ∧ j < 74
      · rw [if_pos e3, if_pos e3, if_neg (by omega), if_neg (by omega)]
      · rw [if_neg e3, if_neg e3]
        by_cases e4 : c = 123 ∧ j = 2
        · rw [if_pos e4, if_pos (by omega)]
        · rw [if_neg e4]
          by_cases e5 : c = 123 ∧ j = 1
          · rw [if_pos e5, if_pos (by omega)]
          · rw [if_neg e5, if_neg (by omega)]
theorem cl_table (hK : 0 ≤ K) (h : CR n t K M) : cokI scr 81 132 [] M (CRX K) := by
  obtain ⟨L, hL, u1, u2, u3⟩ := h.2.2.2.2.1
  have hB : ∀ i, ∃ b, i < L → b < 256 ∧ M 2 i = sb_b b ∧ M 124 i = nI b := fun i => by
    by_cases x : i < L
    · obtain ⟨b, hb⟩ := u3 i x
      exact ⟨b, fun _ => hb⟩
    · exact ⟨0, fun y => absurd y x⟩
  obtain ⟨B, hB⟩ := Classical.axiomOfChoice hB
  have hC : TC B L M := ⟨hL, u1, fun i hi => ⟨(hB i hi).1, (hB i hi).2.1⟩⟩
  have hR : TR B L M := ⟨hL, u2, fun i hi => ⟨(hB i hi).1, (hB i hi).2.2⟩⟩
  have hT := CT_of h.2.2.2.2.2.1
  -- the class's run by itself
  have cls : ∃ M1 x, ab_ms scr 81 [.ref 0] M = some (M1, some (.int x)) ∧ ∀ c j, 28 ≤ c → M1 c j = M c j := by
    rcases tab_both (scr := scr) hC hR hT with ⟨S', N', l, k, c1, -, -, -, c2, -⟩ | ⟨S', N', c1, -, -, c2, -⟩
    · refine ⟨_, _, c1, fun c j hc => ?_⟩
      unfold cpC
      rw [if_neg (by omega), if_neg (by omega), if_neg (by omega), up_n (by omega), c2.1 c j (by omega)]
    · exact ⟨_, _, c1, fun c j hc => by rw [up_n (by omega), c2.1 c j (by omega)]⟩
  obtain ⟨M1, x, c0, fr⟩ := cls
  have hR1 : TR B L M1 := TR_F hR (fr _ _ (by decide)) (fun j => fr _ _ (by decide))
  have hT1 : CT M1 := CT_F hT (fun j => fr _ _ (by decide)) (fun j => fr _ _ (by decide))
  rcases tab_both (scr := scr) hC hR1 hT1 with ⟨S', N', l, k, c1, r1, g0, hX, c2, r2⟩ | ⟨S', N', c1, r1, hF, c2, r2⟩
  · rw [c0] at c1
    have e1 : M1 = cpC 16 18 4 6 (ab_up S' 1 1 0) := by
      have := Option.some.inj c1
      exact congrArg Prod.fst this
    have e2 : x = nI l := by
      have := congrArg Prod.snd (Option.some.inj c1)
      simpa using this
    refine ⟨M1, nI l, tbO N', by rw [c0, e2], r1, k, 0, ?_⟩
    obtain ⟨⟨a1, a2, a3, a4, a5, a6, a7⟩, b, c, d, -, -⟩ := hX
    -- the memory behind
    have m16 : ∀ j, 3 ≤ j → j ≤ 5 → tbO N' 16 j = S' 4 j := fun j h3 h5 => by
      rw [tb_at, if_neg (by omega), if_neg (by omega), if_neg (by omega), if_neg (by omega), r2.1 _ _ (by decide) (by decide), e1]
      unfold cpC
      rw [if_neg (by omega), if_neg (by omega), if_pos ⟨rfl, h3, h5⟩, up_n (by decide)]
    have m18 : ∀ w p, w < 9 → p < 8 → tbO N' (18 + w) p = S' (6 + w) p := fun w p hw hp => by
      rw [tb_at, if_neg (by omega), if_neg (by omega), if_neg (by omega), if_neg (by omega), r2.1 _ _ (by omega) (by omega), e1]
      unfold cpC
      rw [if_pos (by omega), up_n (by omega), show 18 + w - 18 = w by omega]
    have mo : ∀ c j, 28 ≤ c → c ≠ 128 → ¬ (c = 123 ∧ (1 ≤ j ∧ j ≤ 8 ∨ j = 13 ∨ j = 14)) → ¬ (c = 127 ∧ (j < 74 ∨ j = 86)) → tbO N' c j = M c j := fun c j h1 h2 h3 h4 => by
      rw [tb_at, if_neg (by omega), if_neg (by omega), if_neg (by omega), if_neg (by omega)]
      by_cases q : c = 123
      · subst q
        rw [r2.2 _ (by omega) (by omega), fr _ _ (by decide)]
      · rw [r2.1 _ _ q h2, fr _ _ h1]
    have m127 : ∀ j, j < 74 → tbO N' 127 j = N' 128 j := fun j hj => by
      rw [tb_at, if_neg (by omega), if_neg (by omega), if_pos ⟨rfl, hj⟩]
    have m86 : tbO N' 127 86 = 0 := by rw [tb_at, if_neg (by omega), if_pos ⟨rfl, rfl⟩]
    have m14 : tbO N' 123 14 = 1 := by rw [tb_at, if_pos ⟨rfl, rfl⟩]
    have m1 : tbO N' 123 1 = 0 ∧ tbO N' 123 2 = 0 := ⟨by rw [tb_at, if_neg (by omega), if_neg (by omega), if_neg (by omega), if_pos (by omega)], by rw [tb_at, if_neg (by omega), if_neg (by omega), if_neg (by omega), if_pos (by omega)]⟩
    have m3 : tbO N' 1 1 = 0 ∧ tbO N' 3 2 = 0 := by
      refine ⟨?_, ?_⟩
      · rw [tb_at, if_neg (by omega), if_neg (by omega), if_neg (by omega), if_neg (by omega), r2.1 _ _ (by decide) (by decide), e1]
        unfold cpC
        rw [if_neg (by omega), if_neg (by omega), if_neg (by omega), up_s]
      · rw [tb_at, if_neg (by omega), if_neg (by omega), if_neg (by omega), if_neg (by omega), r2.1 _ _ (by decide) (by decide), e1]
        unfold cpC
        rw [if_neg (by omega), if_neg (by omega), if_neg (by omega), up_n (by decide), g0]
    have m0 : ∀ j, tbO N' 0 j = M 0 j := fun j => by
      rw [tb_at, if_neg (by omega), if_neg (by omega), if_neg (by omega), if_neg (by omega), r2.1 _ _ (by decide) (by decide), e1]
      unfold cpC
      rw [if_neg (by omega), if_neg (by omega), if_neg (by omega), up_n (by decide), c2.1 _ _ (by decide)]
    generalize tbO N' = Z at *
    -- awake, then the page, then the text
    have hA : CR n t K (ab_up (ab_up M 127 73 (M 16 4)) 123 14 1) := CR_ax h ⟨fun c j q => by rw [up_o _ _ _ _ _ _ (by omega), up_o _ _ _ _ _ _ (by omega)], fun j q1 q2 q3 => by rw [up_o _ _ _ _ _ _ (by omega), up_n (by decide)], fun j q => by rw [up_n (by decide), up_o _ _ _ _ _ _ (by omega)], Or.inr ⟨by rw [up_s]; decide, by rw [up_n (by decide), up_s]⟩⟩
    have hPg : CR k 0 K (fun c j => if (16 ≤ c ∧ c ≤ 27) ∨ (c = 127 ∧ j < 100) then Z c j else ab_up (ab_up M 127 73 (M 16 4)) 123 14 1 c j) := by
      have z : ∀ c j, (16 ≤ c ∧ c ≤ 27) ∨ (c = 127 ∧ j < 100) → (if (16 ≤ c ∧ c ≤ 27) ∨ (c = 127 ∧ j < 100) then Z c j else ab_up (ab_up M 127 73 (M 16 4)) 123 14 1 c j) = Z c j := fun c j q => if_pos q
      refine CR_page hA (fun c j q1 q2 => if_neg (fun q => q.elim q1 q2)) ?_ ?_
      · refine ⟨a1, by decide, ?_, ?_, ?_, fun p hp => ?_, fun i hi => absurd hi (by omega)⟩
        · show (if _ then _ else _) = _
          rw [z _ _ (by omega), m16 3 (by decide) (by decide), a3]
        · show (if _ then _ else _) = _
          rw [z _ _ (by omega), m16 5 (by decide) (by decide), a4]
        · obtain ⟨g, g1, g2, g3⟩ := a5
          refine ⟨g, g1, g2, ?_⟩
          show (if _ then _ else _) = _
          rw [z _ _ (by omega), m16 4 (by decide) (by decide), g3]
        · have hp8 : p < 8 := by omega
          have zw : ∀ w, w < 9 → (if (16 ≤ 18 + w ∧ 18 + w ≤ 27) ∨ (18 + w = 127 ∧ p < 100) then Z (18 + w) p else ab_up (ab_up M 127 73 (M 16 4)) 123 14 1 (18 + w) p) = S' (6 + w) p := fun w hw => by rw [z _ _ (by omega), m18 w p hw hp8]
          obtain ⟨⟨x1, x2, x3, x4, x5, x6⟩, ⟨v1, v2, v3, v4⟩, ⟨w1, w2, w3, w4⟩, ⟨p1, p2, p3⟩, ⟨q1, q2, q3⟩, ⟨o1, o2, o3⟩, s1, s2⟩ := a6 p hp
          refine ⟨⟨x1, x2, x3, x4, (zw 0 (by decide)).trans x5, (zw 1 (by decide)).trans x6⟩, ⟨v1, v2, v3, (zw 2 (by decide)).trans v4⟩, ⟨w1, w2, w3, (zw 3 (by decide)).trans w4⟩, ⟨p1, p2, (zw 4 (by decide)).trans p3⟩, ⟨q1, q2, (zw 5 (by decide)).trans q3⟩, ⟨o1, o2, (zw 6 (by decide)).trans o3⟩, ?_, ?_⟩
          · show -K ≤ Int32.toInt (if (16 ≤ 18 + 7 ∧ 18 + 7 ≤ 27) ∨ (18 + 7 = 127 ∧ p < 100) then Z (18 + 7) p else ab_up (ab_up M 127 73 (M 16 4)) 123 14 1 (18 + 7) p)
            rw [zw 7 (by decide)]
            omega
          · show Int32.toInt (if (16 ≤ 18 + 7 ∧ 18 + 7 ≤ 27) ∨ (18 + 7 = 127 ∧ p < 100) then Z (18 + 7) p else ab_up (ab_up M 127 73 (M 16 4)) 123 14 1 (18 + 7) p) ≤ K
            rw [zw 7 (by decide)]
            omega
      · refine ⟨?_, Or.inr ⟨?_, ?_⟩, ?_, fun w hw p hp => ?_, fun i hi => absurd hi (by omega)⟩
        · show (if _ then _ else _) = _
          rw [z _ _ (by omega), m127 72 (by decide), b]
        · show (if (16 ≤ 123 ∧ 123 ≤ 27) ∨ (123 = 127 ∧ 14 < 100) then Z 123 14 else ab_up (ab_up M 127 73 (M 16 4)) 123 14 1 123 14) ≠ 0
          rw [if_neg (by omega), up_s]
          decide
        · show (if (16 ≤ 127 ∧ 127 ≤ 27) ∨ (127 = 127 ∧ 73 < 100) then Z 127 73 else ab_up (ab_up M 127 73 (M 16 4)) 123 14 1 127 73) = (if (16 ≤ 16 ∧ 16 ≤ 27) ∨ (16 = 127 ∧ 4 < 100) then Z 16 4 else ab_up (ab_up M 127 73 (M 16 4)) 123 14 1 16 4)
          rw [z _ _ (by omega), z _ _ (by omega), m127 73 (by decide), m16 4 (by decide) (by decide), c]
        · show (if (16 ≤ 127 ∧ 127 ≤ 27) ∨ (127 = 127 ∧ 86 < 100) then Z 127 86 else ab_up (ab_up M 127 73 (M 16 4)) 123 14 1 127 86) = nI 0
          rw [z _ _ (by omega), m86]
          rfl
        · show (if (16 ≤ 127 ∧ 127 ≤ 27) ∨ (127 = 127 ∧ 9 * p + w < 100) then Z 127 (9 * p + w) else ab_up (ab_up M 127 73 (M 16 4)) 123 14 1 127 (9 * p + w)) = (if (16 ≤ 18 + w ∧ 18 + w ≤ 27) ∨ (18 + w = 127 ∧ p < 100) then Z (18 + w) p else ab_up (ab_up M 127 73 (M 16 4)) 123 14 1 (18 + w) p)
          rw [z _ _ (by omega), z _ _ (by omega), m127 _ (by omega), m18 w p hw (by omega)]
          exact d w hw p hp
    refine CR_tape hPg (fun c j q1 q2 q3 q4 => ?_) ⟨0, by decide, by rw [m3.1]; rfl, by rw [m1.1]; rfl, fun i hi => absurd hi (by omega)⟩ (by rw [m3.2, m1.2])
    show Z c j = if (16 ≤ c ∧ c ≤ 27) ∨ (c = 127 ∧ j < 100) then Z c j else ab_up (ab_up M 127 73 (M 16 4)) 123 14 1 c j
    by_cases y : (16 ≤ c ∧ c ≤ 27) ∨ (c = 127 ∧ j < 100)
    · rw [if_pos y]
    · rw [if_neg y]
      by_cases y14 : c = 123 ∧ j = 14
      · rw [y14.1, y14.2, m14, up_s]
      · rw [up_o _ _ _ _ _ _ y14, up_o _ _ _ _ _ _ (by omega)]
        by_cases y0 : c = 0
        · rw [y0, m0]
        · exact mo c j (by omega) q3 (by omega) (by omega)
  · rw [c0] at c1
    have e1 : M1 = ab_up S' 1 1 0 := congrArg Prod.fst (Option.some.inj c1)
    have e2 : x = -10 - S' 3 3 := by
      have := congrArg Prod.snd (Option.some.inj c1)
      simpa using this
    obtain ⟨f, ff1, ff5, g1, g2, g3⟩ := hF
    refine ⟨M1, x, _, c0, by rw [r1, e2], n, t, CR_tape h (fun c j q1 q2 q3 q4 => ?_) ⟨0, by decide, ?_, ?_, fun i hi => absurd hi (by omega)⟩ ?_⟩
    · rw [up_o _ _ _ _ _ _ (by omega), up_o _ _ _ _ _ _ (by omega)]
      by_cases q : c = 123
      · subst q
        rw [r2.2 _ (by omega) (by omega), fr _ _ (by decide)]
      · rw [r2.1 _ _ q q3, e1, up_n (by omega), c2.1 _ _ q1]
    · rw [up_n (by decide), up_n (by decide), r2.1 _ _ (by decide) (by decide), e1, up_s]
      rfl
    · rw [up_o _ _ _ _ _ _ (by decide), up_s]
      rfl
    · rw [up_n (by decide), up_n (by decide), r2.1 _ _ (by decide) (by decide), e1, up_n (by decide), g1, up_s, g2]
end
