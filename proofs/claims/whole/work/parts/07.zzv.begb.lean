/-! table: a line that tells where to begin -/
section
variable {scr : Option (List Int32)} {B : Nat → Nat} {L : Nat}
theorem begin_both {S N : ab_M} {s a e k : Nat} {l1 : Option Value} (hC : TC B L S) (hR : TR B L N) (hT : CT N) (hP : TP B L s a e) (hS : SP B L a e S) (hN : NP B L a e N) (h1 : kd B L a e = 1) (hX : TX k k S N) : (∃ S' N' s' a' e', ab_res scr 61 8 S 53 [some (.ref 3)] [] = some (S', some (.int 1)) ∧ ab_res scr 131 6 N 31 [some (.ref 123), l1] [] = ab_res scr 131 6 N' 66 [some (.ref 123), l1] [] ∧ e ≤ s' ∧ S' 3 2 = S 3 2 ∧ TP B L s' a' e' ∧ SP B L a' e' S' ∧ NP B L a' e' N' ∧ kd B L a' e' = 3 ∧ TX k k S' N' ∧ clE S S' ∧ rfE N N') ∨ (∃ S' N', ab_res scr 61 8 S 53 [some (.ref 3)] [] = some (S', some (.int 0)) ∧ ab_res scr 131 6 N 31 [some (.ref 123), l1] [] = ab_res scr 131 6 N' 66 [some (.ref 123), l1] [] ∧ LF scr B L S' N' ∧ clE S S' ∧ rfE N N') := by
  obtain ⟨m1, m2⟩ := hN.2.2.1 (by omega)
  have he := hP.2.2.1
  have hae := hP.2.1
  obtain ⟨a1, b, c, d, hb, f⟩ := id hX
  have z73 : (73 : Int32).toNatClampNeg = 73 := by decide
  have i73 : ab_inB 73 74 = true := by decide
  by_cases g : S 3 4 = 0
  · have g13 : N 123 13 = 0 := by rw [← hb, g]
    have hR0 : TR B L (ab_up N 123 13 1) := TR_up hR (by decide)
    have hf0 : rfE N (ab_up N 123 13 1) := ⟨fun c j x y => up_n x, fun j x y => up_o _ _ _ _ _ _ (by omega)⟩
    obtain ⟨N1, a2, e2, r1, r2, r3, r4⟩ := tk_r (scr := scr) hR0 (by rw [up_o _ _ _ _ _ _ (by decide), m1]) (by rw [up_o _ _ _ _ _ _ (by decide), hN.1]) he
    have hR1 := TR_rfF hR0 r2
    have hf1 : rfE N N1 := rfE_trans hf0 (rfE_rf r2)
    have hT1 := CT_rfE hT hf1
    have hC0 : TC B L (ab_up S 3 4 1) := TC_clE hC (clE_up (by decide))
    rcases rnum (scr := scr) (lo := 1) (hi := 8) hC0 hR1 (by rw [up_n (by decide)]; exact hS.1) r3 r4 (by decide) (by decide) with ⟨v, S2, N2, a3, e3, x1, x2, d1, d2, d3, d4, d9, d5, d6, d7, d8⟩ | ⟨S2, N2, d1, d2, d3, d4, d5, d6⟩
    · have d1 : ab_ms scr 66 [.ref 3, .int 1, .int 8] (ab_up S 3 4 1) = some (S2, some (.int 1)) := d1
      have d2 : ab_ms scr 128 [.ref 123, .int 1, .int 8] N1 = some (N2, some (.int (nI v))) := d2
      have f1 : clE S (ab_up S2 4 4 (nI v)) := clE_trans (clE_trans (clE_up (by decide)) (clE_cl d5)) (clE_up (by decide))
      have hC3 := TC_clE hC f1
      obtain ⟨S4, t1, t2, t3, hS4⟩ := tk_c (scr := scr) hC3 (by rw [up_n (by decide)]; exact d3) d7
      have hN3 := NP_128 (j := 73) (v := nI v) d8
      have f2 : rfE N (ab_up N2 128 73 (nI v)) := rfE_trans (rfE_trans hf1 (rfE_rf d6)) (rfE_d dF_up)
      have hR3 := TR_rfE hR f2
      have hT3 := CT_rfE hT f2
      have k4 := kd_le (B := B) (L := L) (a := a3) (e := e3)
      have re : ab_res scr 131 6 N 31 [some (.ref 123), l1] [] = ab_res scr 131 6 (ab_up N2 128 73 (nI v)) 66 [some (.ref 123), l1] [] := by
        rw [q131_31]
        simp only [q131_0, q131_1, q131_4, q131_5, q131_6, q131_9, q131_10, q131_11, q131_14, q131_15, q131_16, q131_19, q131_20, q131_21, q131_24, q131_25, q131_28, q131_32, q131_35, q131_38, q131_39, q131_40, q131_43, q131_44, q131_45, q131_48, q131_49, q131_52, q131_53, q131_56, q131_58, q131_59, q131_60, q131_62, q131_65, q131_67, q131_70, q131_73, q131_74, q131_77, q131_78, q131_81, q131_82, q131_83, q131_86, q131_87, q131_90, n10, n01, Bool.false_eq_true, ab_bs, ab_bn, ab_pr0, ab_pr1, nl_n, nl_i, nl_r, nl_j, nl_nl, rc_123, gf_123_0, gf_123_1, pt_123_1, gf_123_2, pt_123_2, gf_123_3, pt_123_3, gf_123_4, pt_123_4, gf_123_5, pt_123_5, gf_123_6, pt_123_6, gf_123_7, pt_123_7, gf_123_8, pt_123_8, gf_123_9, gf_123_10, gf_123_11, gf_123_12, gf_123_13, pt_123_13_0, pt_123_13_1, gf_123_14, pt_123_14_0, pt_123_14_1, gf_123_15, gf_123_16, gf_123_17, gf_123_18, gf_123_19, gf_123_20, gf_123_21, gf_123_22, gf_123_23, gf_123_24, gf_123_25, pt_123_25, gf_123_26, gf_123_27, pt_123_27, gf_123_28, pt_123_28, gf_123_29, gf_123_30, pt_123_30, gf_123_31, pt_123_31, gf_123_32, pt_123_32, gf_123_33, pt_123_33, gf_123_34, pt_123_34_0, pt_123_34_1, gf_123_35, gf_123_36, gf_123_37, gf_123_38, pt_123_38, gf_123_39, pt_123_39, gf_123_40, pt_123_40, gf_123_41, gf_123_42, gf_123_43, gf_123_44, gf_123_45, gf_123_46, gf_123_47, pt_123_47, ln_128, al_128, si_128, g13, if_true, r1, d2, i73, z73]
      have y34 : S4 3 4 = 1 := by
        rw [t3, up_n (by decide), d5 _ _ (by omega) (by omega), up_s]
      have hX4 : TX k k S4 (ab_up N2 128 73 (nI v)) := by
        have y4 : ∀ j, j ≠ 4 → S4 4 j = S 4 j := fun j hj => by
          rw [t2 _ _ (by omega) (by omega), up_o _ _ _ _ _ _ (by omega), d5 _ _ (by omega) (by omega), up_n (by decide)]
        have y44 : S4 4 4 = nI v := by rw [t2 _ _ (by omega) (by omega), up_s]
        have y6 : ∀ w p, w < 9 → S4 (6 + w) p = S (6 + w) p := fun w p hw => by
          rw [t2 _ _ (by omega) (by omega), up_n (by omega), d5 _ _ (by omega) (by omega), up_n (by omega)]
        have yN : ∀ j, j ≠ 73 → ab_up N2 128 73 (nI v) 128 j = N 128 j := fun j hj => by
          rw [up_o _ _ _ _ _ _ (by omega), d6 _ _ (by omega), r2 _ _ (by omega), up_n (by decide)]
        obtain ⟨p1, p2, p3, p4, p5, p6, p7⟩ := a1
        refine ⟨⟨p1, p2, by rw [y4 _ (by decide), p3], by rw [y4 _ (by decide), p4], ⟨v, x1, x2, y44⟩, fun p hp => ?_, fun i hi => absurd hi (by omega)⟩, by rw [yN _ (by decide), b], by rw [up_s, y44], fun w hw p hp => by rw [yN _ (by omega), y6 w p hw]; exact d w hw p hp, ?_, Or.inr y34⟩
        · have := p6 p hp
          unfold fok at this ⊢
          rw [show (6 : Nat) = 6 + 0 from rfl, y6 0 p (by decide), y6 1 p (by decide), y6 2 p (by decide), y6 3 p (by decide), y6 4 p (by decide), y6 5 p (by decide), y6 6 p (by decide), y6 7 p (by decide)]
          exact this
        · rw [y34, up_n (by decide), d6 _ _ (by omega), r2 _ _ (by omega), up_s]
      have hs1 : e ≤ e2 := by
        have := r3.1
        have := r3.2.1
        omega
      by_cases k3 : kd B L a3 e3 = 3
      · left
        have s3 : S4 1 3 = 3 := by rw [hS4.2.1, k3]; rfl
        refine ⟨S4, _, e2, a3, e3, ?_, re, hs1, ?_, d7, hS4, hN3, k3, hX4, clE_trans f1 (clE_cl t2), f2⟩
        · have c65 : ab_ms scr 65 [.ref 3] S = some (S4, some (.int 1)) := by
            rw [ms65]
            simp only [q65_0, q65_1, q65_4, q65_7, q65_8, q65_9, q65_12, q65_13, q65_14, q65_15, q65_18, q65_19, q65_20, q65_22, q65_25, q65_28, q65_29, q65_30, q65_31, q65_34, q65_35, q65_38, q65_41, q65_44, q65_45, q65_48, q65_51, q65_52, q65_55, q65_58, q65_59, q65_62, q65_63, q65_66, q65_69, q65_70, q65_73, q65_74, n10, n01, Bool.false_eq_true, ab_bs, ab_bn, ab_pr0, ab_pr1, nl_n, nl_i, nl_r, nl_j, nl_nl, rc_1, gf_1_0, gf_1_1, pt_1_1, gf_1_2, pt_1_2, gf_1_3, pt_1_3, gf_1_4, pt_1_4, gf_1_5, pt_1_5, rc_3, gf_3_0, gf_3_1, gf_3_2, pt_3_2, gf_3_3, pt_3_3, gf_3_4, pt_3_4_0, pt_3_4_1, rc_4, gf_4_0, gf_4_1, gf_4_2, gf_4_3, pt_4_3, gf_4_4, pt_4_4, gf_4_5, pt_4_5, g, if_true, d1, (show ¬ (1 : Int32) = 0 by decide), not_false_eq_true, if_false, d4, t1, s3, narrow_b1]
          rw [q61_53]
          simp only [q61_0, q61_1, q61_4, q61_6, q61_9, q61_12, q61_13, q61_16, q61_19, q61_20, q61_21, q61_24, q61_27, q61_28, q61_29, q61_32, q61_35, q61_36, q61_39, q61_40, q61_41, q61_42, q61_45, q61_47, q61_50, q61_54, q61_57, q61_58, q61_59, q61_62, n10, n01, Bool.false_eq_true, ab_bs, ab_bn, ab_pr0, ab_pr1, nl_n, nl_i, nl_r, nl_j, nl_nl, rc_3, gf_3_0, gf_3_1, gf_3_2, pt_3_2, gf_3_3, pt_3_3, gf_3_4, pt_3_4_0, pt_3_4_1, c65, narrow_b1]
        · rw [t3, up_n (by decide), d9, up_o _ _ _ _ _ _ (by decide)]
      · right
        have s3 : ¬ S4 1 3 = 3 := by
          rw [hS4.2.1]
          exact fun q => k3 ((nI_eq (a := kd B L a3 e3) (b := 3) (by omega) (by decide)).mp q)
        have m := sp_mis (scr := scr) k4 hS4.2.1
        have c65 : ab_ms scr 65 [.ref 3] S = some (ab_up (ab_up S4 3 2 (nI (if kd B L a3 e3 = 4 then 1 else 2))) 3 3 (S4 1 4), some (.int 0)) := by
          rw [ms65]
          simp only [q65_0, q65_1, q65_4, q65_7, q65_8, q65_9, q65_12, q65_13, q65_14, q65_15, q65_18, q65_19, q65_20, q65_22, q65_25, q65_28, q65_29, q65_30, q65_31, q65_34, q65_35, q65_38, q65_41, q65_44, q65_45, q65_48, q65_51, q65_52, q65_55, q65_58, q65_59, q65_62, q65_63, q65_66, q65_69, q65_70, q65_73, q65_74, n10, n01, Bool.false_eq_true, ab_bs, ab_bn, ab_pr0, ab_pr1, nl_n, nl_i, nl_r, nl_j, nl_nl, rc_1, gf_1_0, gf_1_1, pt_1_1, gf_1_2, pt_1_2, gf_1_3, pt_1_3, gf_1_4, pt_1_4, gf_1_5, pt_1_5, rc_3, gf_3_0, gf_3_1, gf_3_2, pt_3_2, gf_3_3, pt_3_3, gf_3_4, pt_3_4_0, pt_3_4_1, rc_4, gf_4_0, gf_4_1, gf_4_2, gf_4_3, pt_4_3, gf_4_4, pt_4_4, gf_4_5, pt_4_5, g, if_true, d1, (show ¬ (1 : Int32) = 0 by decide), not_false_eq_true, if_false, d4, t1, s3, m, narrow_b0]
        have c : ab_res scr 61 8 S 53 [some (.ref 3)] [] = some (ab_up (ab_up S4 3 2 (nI (if kd B L a3 e3 = 4 then 1 else 2))) 3 3 (S4 1 4), some (.int 0)) := by
          rw [q61_53]
          simp only [q61_0, q61_1, q61_4, q61_6, q61_9, q61_12, q61_13, q61_16, q61_19, q61_20, q61_21, q61_24, q61_27, q61_28, q61_29, q61_32, q61_35, q61_36, q61_39, q61_40, q61_41, q61_42, q61_45, q61_47, q61_50, q61_54, q61_57, q61_58, q61_59, q61_62, n10, n01, Bool.false_eq_true, ab_bs, ab_bn, ab_pr0, ab_pr1, nl_n, nl_i, nl_r, nl_j, nl_nl, rc_3, gf_3_0, gf_3_1, gf_3_2, pt_3_2, gf_3_3, pt_3_3, gf_3_4, pt_3_4_0, pt_3_4_1, c65, narrow_b0]
        refine ⟨_, _, c, re, ?_, clE_trans f1 (clE_trans (clE_cl t2) (clE_cl up_clF)), f2⟩
        by_cases k4' : kd B L a3 e3 = 4
        · exact LF_dead (FT_of4 hS4 hN3 k4') (DA_of4 hR3 hT3 hN3 d7.2.1 d7.2.2.1 k4')
        · rw [if_neg k4']
          exact LF_tok hR3 hT3 hS4 hN3 d7.2.1 d7.2.2.1 k3 k4'
    · right
      have d1 : ab_ms scr 66 [.ref 3, .int 1, .int 8] (ab_up S 3 4 1) = some (S2, some (.int 0)) := d1
      have d2 : ab_ms scr 128 [.ref 123, .int 1, .int 8] N1 = some (N2, some (.int 1)) := d2
      have c65 : ab_ms scr 65 [.ref 3] S = some (S2, some (.int 0)) := by
        rw [ms65]
        simp only [q65_0, q65_1, q65_4, q65_7, q65_8, q65_9, q65_12, q65_13, q65_14, q65_15, q65_18, q65_19, q65_20, q65_22, q65_25, q65_28, q65_29, q65_30, q65_31, q65_34, q65_35, q65_38, q65_41, q65_44, q65_45, q65_48, q65_51, q65_52, q65_55, q65_58, q65_59, q65_62, q65_63, q65_66, q65_69, q65_70, q65_73, q65_74, n10, n01, Bool.false_eq_true, ab_bs, ab_bn, ab_pr0, ab_pr1, nl_n, nl_i, nl_r, nl_j, nl_nl, rc_1, gf_1_0, gf_1_1, pt_1_1, gf_1_2, pt_1_2, gf_1_3, pt_1_3, gf_1_4, pt_1_4, gf_1_5, pt_1_5, rc_3, gf_3_0, gf_3_1, gf_3_2, pt_3_2, gf_3_3, pt_3_3, gf_3_4, pt_3_4_0, pt_3_4_1, rc_4, gf_4_0, gf_4_1, gf_4_2, gf_4_3, pt_4_3, gf_4_4, pt_4_4, gf_4_5, pt_4_5, g, if_true, d1, not_true, if_false, narrow_b0]
      have c : ab_res scr 61 8 S 53 [some (.ref 3)] [] = some (S2, some (.int 0)) := by
        rw [q61_53]
        simp only [q61_0, q61_1, q61_4, q61_6, q61_9, q61_12, q61_13, q61_16, q61_19, q61_20, q61_21, q61_24, q61_27, q61_28, q61_29, q61_32, q61_35, q61_36, q61_39, q61_40, q61_41, q61_42, q61_45, q61_47, q61_50, q61_54, q61_57, q61_58, q61_59, q61_62, n10, n01, Bool.false_eq_true, ab_bs, ab_bn, ab_pr0, ab_pr1, nl_n, nl_i, nl_r, nl_j, nl_nl, rc_3, gf_3_0, gf_3_1, gf_3_2, pt_3_2, gf_3_3, pt_3_3, gf_3_4, pt_3_4_0, pt_3_4_1, c65, narrow_b0]
      have re : ab_res scr 131 6 N 31 [some (.ref 123), l1] [] = ab_res scr 131 6 (ab_up N2 128 73 1) 66 [some (.ref 123), l1] [] := by
        rw [q131_31]
        simp only [q131_0, q131_1, q131_4, q131_5, q131_6, q131_9, q131_10, q131_11, q131_14, q131_15, q131_16, q131_19, q131_20, q131_21, q131_24, q131_25, q131_28, q131_32, q131_35, q131_38, q131_39, q131_40, q131_43, q131_44, q131_45, q131_48, q131_49, q131_52, q131_53, q131_56, q131_58, q131_59, q131_60, q131_62, q131_65, q131_67, q131_70, q131_73, q131_74, q131_77, q131_78, q131_81, q131_82, q131_83, q131_86, q131_87, q131_90, n10, n01, Bool.false_eq_true, ab_bs, ab_bn, ab_pr0, ab_pr1, nl_n, nl_i, nl_r, nl_j, nl_nl, rc_123, gf_123_0, gf_123_1, pt_123_1, gf_123_2, pt_123_2, gf_123_3, pt_123_3, gf_123_4, pt_123_4, gf_123_5, pt_123_5, gf_123_6, pt_123_6, gf_123_7, pt_123_7, gf_123_8, pt_123_8, gf_123_9, gf_123_10, gf_123_11, gf_123_12, gf_123_13, pt_123_13_0, pt_123_13_1, gf_123_14, pt_123_14_0, pt_123_14_1, gf_123_15, gf_123_16, gf_123_17, gf_123_18, gf_123_19, gf_123_20, gf_123_21, gf_123_22, gf_123_23, gf_123_24, gf_123_25, pt_123_25, gf_123_26, gf_123_27, pt_123_27, gf_123_28, pt_123_28, gf_123_29, gf_123_30, pt_123_30, gf_123_31, pt_123_31, gf_123_32, pt_123_32, gf_123_33, pt_123_33, gf_123_34, pt_123_34_0, pt_123_34_1, gf_123_35, gf_123_36, gf_123_37, gf_123_38, pt_123_38, gf_123_39, pt_123_39, gf_123_40, pt_123_40, gf_123_41, gf_123_42, gf_123_43, gf_123_44, gf_123_45, gf_123_46, gf_123_47, pt_123_47, ln_128, al_128, si_128, g13, if_true, r1, d2, i73, z73]
      refine ⟨S2, _, c, re, LF_dead (FT_F d3 (up_n (by decide)) (up_n (by decide))) (DA_dF ⟨TR_rfF hR1 d5, CT_rfE hT1 (rfE_rf d5), d6⟩ dF_up), clE_trans (clE_up (by decide)) (clE_cl d4), rfE_trans (rfE_trans hf1 (rfE_rf d5)) (rfE_d dF_up)⟩
  · right
    have g1 : N 123 13 = 1 := by
      rcases f with f | f
      · exact absurd f g
      · rw [← hb, f]
    have fl := sp_fails (scr := scr) (N := N) (c := 4)
    rw [if_pos m1] at fl
    have fl : ab_ms scr 125 [.ref 123, .int 4] N = some (ab_up (ab_up N 123 3 (nI 4)) 123 4 (N 123 6), none) := fl
    have hF := ref_FT (f := 4) (by decide) (by decide) hS hN (by omega)
    have hD := DN_up (B := B) (f := 4) (v := N 123 6) hae he hN (by decide) (by decide)
    have hr := up_rfF (N := N) (f := nI 4) (v := N 123 6)
    have c65 : ab_ms scr 65 [.ref 3] S = some (ab_up (ab_up S 3 2 (nI 4)) 3 3 (S 1 4), some (.int 0)) := by
      rw [ms65]
      simp only [q65_0, q65_1, q65_4, q65_7, q65_8, q65_9, q65_12, q65_13, q65_14, q65_15, q65_18, q65_19, q65_20, q65_22, q65_25, q65_28, q65_29, q65_30, q65_31, q65_34, q65_35, q65_38, q65_41, q65_44, q65_45, q65_48, q65_51, q65_52, q65_55, q65_58, q65_59, q65_62, q65_63, q65_66, q65_69, q65_70, q65_73, q65_74, n10, n01, Bool.false_eq_true, ab_bs, ab_bn, ab_pr0, ab_pr1, nl_n, nl_i, nl_r, nl_j, nl_nl, rc_1, gf_1_0, gf_1_1, pt_1_1, gf_1_2, pt_1_2, gf_1_3, pt_1_3, gf_1_4, pt_1_4, gf_1_5, pt_1_5, rc_3, gf_3_0, gf_3_1, gf_3_2, pt_3_2, gf_3_3, pt_3_3, gf_3_4, pt_3_4_0, pt_3_4_1, rc_4, gf_4_0, gf_4_1, gf_4_2, gf_4_3, pt_4_3, gf_4_4, pt_4_4, gf_4_5, pt_4_5, g, if_false, sp_refuse, narrow_b0]
      rfl
    have c : ab_res scr 61 8 S 53 [some (.ref 3)] [] = some (ab_up (ab_up S 3 2 (nI 4)) 3 3 (S 1 4), some (.int 0)) := by
      rw [q61_53]
      simp only [q61_0, q61_1, q61_4, q61_6, q61_9, q61_12, q61_13, q61_16, q61_19, q61_20, q61_21, q61_24, q61_27, q61_28, q61_29, q61_32, q61_35, q61_36, q61_39, q61_40, q61_41, q61_42, q61_45, q61_47, q61_50, q61_54, q61_57, q61_58, q61_59, q61_62, n10, n01, Bool.false_eq_true, ab_bs, ab_bn, ab_pr0, ab_pr1, nl_n, nl_i, nl_r, nl_j, nl_nl, rc_3, gf_3_0, gf_3_1, gf_3_2, pt_3_2, gf_3_3, pt_3_3, gf_3_4, pt_3_4_0, pt_3_4_1, c65, narrow_b0]
    generalize ab_up (ab_up N 123 3 (nI 4)) 123 4 (N 123 6) = N4 at *
    have hd0 : ¬ ab_up N4 123 13 1 123 3 ≤ 0 := by
      rw [up_o _ _ _ _ _ _ (by decide)]
      exact hD.1
    have dd := sp_dead (scr := scr) hd0
    have dn := dd_num (scr := scr) (lo := 1) (hi := 8) hd0
    have re : ab_res scr 131 6 N 31 [some (.ref 123), l1] [] = ab_res scr 131 6 (ab_up (ab_up N4 123 13 1) 128 73 1) 66 [some (.ref 123), l1] [] := by
      rw [q131_31]
      simp only [q131_0, q131_1, q131_4, q131_5, q131_6, q131_9, q131_10, q131_11, q131_14, q131_15, q131_16, q131_19, q131_20, q131_21, q131_24, q131_25, q131_28, q131_32, q131_35, q131_38, q131_39, q131_40, q131_43, q131_44, q131_45, q131_48, q131_49, q131_52, q131_53, q131_56, q131_58, q131_59, q131_60, q131_62, q131_65, q131_67, q131_70, q131_73, q131_74, q131_77, q131_78, q131_81, q131_82, q131_83, q131_86, q131_87, q131_90, n10, n01, Bool.false_eq_true, ab_bs, ab_bn, ab_pr0, ab_pr1, nl_n, nl_i, nl_r, nl_j, nl_nl, rc_123, gf_123_0, gf_123_1, pt_123_1, gf_123_2, pt_123_2, gf_123_3, pt_123_3, gf_123_4, pt_123_4, gf_123_5, pt_123_5, gf_123_6, pt_123_6, gf_123_7, pt_123_7, gf_123_8, pt_123_8, gf_123_9, gf_123_10, gf_123_11, gf_123_12, gf_123_13, pt_123_13_0, pt_123_13_1, gf_123_14, pt_123_14_0, pt_123_14_1, gf_123_15, gf_123_16, gf_123_17, gf_123_18, gf_123_19, gf_123_20, gf_123_21, gf_123_22, gf_123_23, gf_123_24, gf_123_25, pt_123_25, gf_123_26, gf_123_27, pt_123_27, gf_123_28, pt_123_28, gf_123_29, gf_123_30, pt_123_30, gf_123_31, pt_123_31, gf_123_32, pt_123_32, gf_123_33, pt_123_33, gf_123_34, pt_123_34_0, pt_123_34_1, gf_123_35, gf_123_36, gf_123_37, gf_123_38, pt_123_38, gf_123_39, pt_123_39, gf_123_40, pt_123_40, gf_123_41, gf_123_42, gf_123_43, gf_123_44, gf_123_45, gf_123_46, gf_123_47, pt_123_47, ln_128, al_128, si_128, g1, (show ¬ (1 : Int32) = 0 by decide), if_false, fl, dd, dn, i73, z73, if_true]
    have hf0 : rfE N4 (ab_up N4 123 13 1) := ⟨fun c j x y => up_n x, fun j x y => up_o _ _ _ _ _ _ (by omega)⟩
    have hf4 : rfE N (ab_up (ab_up N4 123 13 1) 128 73 1) := rfE_trans (rfE_trans (rfE_rf hr) hf0) (rfE_d dF_up)
    have y : ∀ j, j ≠ 13 → ab_up (ab_up N4 123 13 1) 128 73 1 123 j = N4 123 j := fun j hj => by rw [up_n (by decide), up_o _ _ _ _ _ _ (by omega)]
    obtain ⟨o1, a', e', o4, o5, o6, o7⟩ := hD
    refine ⟨_, _, c, re, LF_dead (FT_F hF (y _ (by decide)) (y _ (by decide))) ⟨TR_rfE hR hf4, CT_rfE hT hf4, by rw [y _ (by decide)]; exact o1, a', e', o4, o5, by rw [y _ (by decide)]; exact o6, by rw [y _ (by decide)]; exact o7⟩, clE_cl up_clF, hf4⟩
end
