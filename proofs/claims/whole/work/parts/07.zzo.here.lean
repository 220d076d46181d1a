/-! table: which name stands here -/
section
variable {scr : Option (List Int32)} {B : Nat → Nat} {L : Nat}
theorem sp_isName {S : ab_M} {a e k w : Nat} (hT : TC B L S) (h2 : S 1 2 = nI e) (h4 : S 1 4 = nI a) (h3 : S 1 3 = nI k) (hk : k ≤ 4) (hae : a ≤ e) (he : e ≤ L) (hw : w < 5) : (k = 1 ∧ Wd B a e w → ab_ms scr 77 [.ref 1, .ref (1000 + w)] S = some (S, some (.int 1))) ∧ (¬ (k = 1 ∧ Wd B a e w) → ab_ms scr 77 [.ref 1, .ref (1000 + w)] S = some (S, some (.int 0))) := by
  obtain ⟨hL, t1, t2⟩ := hT
  obtain ⟨w1, w2, w3⟩ := wl_lt w hw
  have r : (ab_rc ab_L0 (1000 + w) = some 20) = True := by rw [rc_S w hw]; simp
  have x5 := sp_len (scr := scr) (M := S) hw
  have hs : nI e - nI a = nI (e - a) := pk_sub hae
  by_cases k1 : k = 1
  · have k2 : nI k = 1 := by rw [k1]; rfl
    by_cases hl : e - a = wl w
    · have run : ∀ m, m ≤ wl w → (∀ i, i < m → B (a + i) = wc w i) → ab_ms scr 77 [.ref 1, .ref (1000 + w)] S = ab_res scr 77 5 S 28 [some (.ref 1), some (.ref (1000 + w)), some (.int (nI m))] [] := fun m hm h => by
        have e0 : ab_ms scr 77 [.ref 1, .ref (1000 + w)] S = ab_res scr 77 5 S 28 [some (.ref 1), some (.ref (1000 + w)), some (.int 0)] [] := by
          rw [ms77]
          simp only [q77_0, q77_1, q77_4, q77_5, q77_8, q77_9, q77_12, q77_13, q77_16, q77_17, q77_21, q77_24, q77_25, q77_26, q77_27, q77_29, q77_33, q77_36, q77_37, q77_40, q77_41, q77_44, q77_45, q77_46, q77_47, q77_48, q77_52, q77_55, q77_56, q77_57, q77_60, q77_63, q77_64, n10, n01, Bool.false_eq_true, ab_bs, ab_bn, ab_pr0, ab_pr1, nl_n, nl_i, nl_r, nl_j, nl_nl, rc_1, gf_1_0, gf_1_1, pt_1_1, gf_1_2, pt_1_2, gf_1_3, pt_1_3, gf_1_4, pt_1_4, gf_1_5, pt_1_5, h3, k2, not_true, if_false, h2, h4, hs]
          rw [q77_18 r, x5]
          simp only [q77_0, q77_1, q77_4, q77_5, q77_8, q77_9, q77_12, q77_13, q77_16, q77_17, q77_21, q77_24, q77_25, q77_26, q77_27, q77_29, q77_33, q77_36, q77_37, q77_40, q77_41, q77_44, q77_45, q77_46, q77_47, q77_48, q77_52, q77_55, q77_56, q77_57, q77_60, q77_63, q77_64, n10, n01, Bool.false_eq_true, ab_bs, ab_bn, ab_pr0, ab_pr1, nl_n, nl_i, nl_r, nl_j, nl_nl, hl, if_true]
        rw [e0]
        refine rn (fun i => ab_res scr 77 5 S 28 [some (.ref 1), some (.ref (1000 + w)), some (.int (nI i))] []) m (fun i hi => ?_)
        have y1 : ¬ nI (wl w) ≤ nI i := nI_ge (by omega) (by omega)
        have y2 := sp_charAt (scr := scr) (M := S) hw (i := i) (by omega)
        have y3 : S 2 (a + i) = nI (wc w i) := by
          rw [(t2 (a + i) (by omega)).2, (sb_wc2 (t2 (a + i) (by omega)).1 (wc_in w hw i (by omega)).1 (wc_in w hw i (by omega)).2).1]
          exact h i hi
        rw [q77_28]
        simp only [q77_0, q77_1, q77_4, q77_5, q77_8, q77_9, q77_12, q77_13, q77_16, q77_17, q77_18, q77_21, q77_24, q77_25, q77_26, q77_27, q77_29, q77_33, q77_36, q77_37, q77_40, q77_41, q77_44, q77_45, q77_46, q77_47, q77_48, q77_52, q77_55, q77_56, q77_57, q77_60, q77_63, q77_64, n10, n01, Bool.false_eq_true, ab_bs, ab_bn, ab_pr0, ab_pr1, nl_n, nl_i, nl_r, nl_j, nl_nl]
        rw [q77_30 r, x5]
        simp only [q77_0, q77_1, q77_4, q77_5, q77_8, q77_9, q77_12, q77_13, q77_16, q77_17, q77_18, q77_21, q77_24, q77_25, q77_26, q77_27, q77_29, q77_33, q77_36, q77_37, q77_40, q77_41, q77_44, q77_45, q77_46, q77_47, q77_48, q77_52, q77_55, q77_56, q77_57, q77_60, q77_63, q77_64, n10, n01, Bool.false_eq_true, ab_bs, ab_bn, ab_pr0, ab_pr1, nl_n, nl_i, nl_r, nl_j, nl_nl, rc_1, gf_1_0, gf_1_1, pt_1_1, gf_1_2, pt_1_2, gf_1_3, pt_1_3, gf_1_4, pt_1_4, gf_1_5, pt_1_5, ln_2, bl_2, bs_2, y1, if_false, h4, nI_add, (show ab_inB (nI (a + i)) 320 = true from ib_nI (by omega) (by decide)), nI_clamp (show a + i < 2 ^ 31 by omega), if_true]
        rw [q77_49 r, y2]
        simp only [q77_0, q77_1, q77_4, q77_5, q77_8, q77_9, q77_12, q77_13, q77_16, q77_17, q77_18, q77_21, q77_24, q77_25, q77_26, q77_27, q77_29, q77_33, q77_36, q77_37, q77_40, q77_41, q77_44, q77_45, q77_46, q77_47, q77_48, q77_52, q77_55, q77_56, q77_57, q77_60, q77_63, q77_64, n10, n01, Bool.false_eq_true, ab_bs, ab_bn, ab_pr0, ab_pr1, nl_n, nl_i, nl_r, nl_j, nl_nl, y3, if_true, a1]
      rcases nx_or (fun i => decide (B (a + i) ≠ wc w i)) 0 (wl w) with ⟨q, q1, q2, q3, q4⟩ | q4
      · have q3 : B (a + q) ≠ wc w q := by simpa using q3
        have q4 : ∀ i, i < q → B (a + i) = wc w i := fun i hi => by simpa using q4 i (by omega) hi
        refine ⟨fun y => absurd (y.2.2 q (by omega)) q3, fun _ => ?_⟩
        rw [run q (by omega) q4]
        have y1 : ¬ nI (wl w) ≤ nI q := nI_ge (by omega) (by omega)
        have y2 := sp_charAt (scr := scr) (M := S) hw (i := q) (by omega)
        have y3 : ¬ S 2 (a + q) = nI (wc w q) := by
          rw [(t2 (a + q) (by omega)).2, (sb_wc2 (t2 (a + q) (by omega)).1 (wc_in w hw q (by omega)).1 (wc_in w hw q (by omega)).2).1]
          exact q3
        rw [q77_28]
        simp only [q77_0, q77_1, q77_4, q77_5, q77_8, q77_9, q77_12, q77_13, q77_16, q77_17, q77_18, q77_21, q77_24, q77_25, q77_26, q77_27, q77_29, q77_33, q77_36, q77_37, q77_40, q77_41, q77_44, q77_45, q77_46, q77_47, q77_48, q77_52, q77_55, q77_56, q77_57, q77_60, q77_63, q77_64, n10, n01, Bool.false_eq_true, ab_bs, ab_bn, ab_pr0, ab_pr1, nl_n, nl_i, nl_r, nl_j, nl_nl]
        rw [q77_30 r, x5]
        simp only [q77_0, q77_1, q77_4, q77_5, q77_8, q77_9, q77_12, q77_13, q77_16, q77_17, q77_18, q77_21, q77_24, q77_25, q77_26, q77_27, q77_29, q77_33, q77_36, q77_37, q77_40, q77_41, q77_44, q77_45, q77_46, q77_47, q77_48, q77_52, q77_55, q77_56, q77_57, q77_60, q77_63, q77_64, n10, n01, Bool.false_eq_true, ab_bs, ab_bn, ab_pr0, ab_pr1, nl_n, nl_i, nl_r, nl_j, nl_nl, rc_1, gf_1_0, gf_1_1, pt_1_1, gf_1_2, pt_1_2, gf_1_3, pt_1_3, gf_1_4, pt_1_4, gf_1_5, pt_1_5, ln_2, bl_2, bs_2, y1, if_false, h4, nI_add, (show ab_inB (nI (a + q)) 320 = true from ib_nI (by omega) (by decide)), nI_clamp (show a + q < 2 ^ 31 by omega), if_true]
        rw [q77_49 r, y2]
        simp only [q77_0, q77_1, q77_4, q77_5, q77_8, q77_9, q77_12, q77_13, q77_16, q77_17, q77_18, q77_21, q77_24, q77_25, q77_26, q77_27, q77_29, q77_33, q77_36, q77_37, q77_40, q77_41, q77_44, q77_45, q77_46, q77_47, q77_48, q77_52, q77_55, q77_56, q77_57, q77_60, q77_63, q77_64, n10, n01, Bool.false_eq_true, ab_bs, ab_bn, ab_pr0, ab_pr1, nl_n, nl_i, nl_r, nl_j, nl_nl, y3, if_false, narrow_b0]
      · have q4 : ∀ i, i < wl w → B (a + i) = wc w i := fun i hi => by simpa using q4 i (by omega) (by omega)
        refine ⟨fun _ => ?_, fun y => absurd ⟨k1, hl, q4⟩ y⟩
        rw [run (wl w) (Nat.le_refl _) q4, q77_28]
        simp only [q77_0, q77_1, q77_4, q77_5, q77_8, q77_9, q77_12, q77_13, q77_16, q77_17, q77_18, q77_21, q77_24, q77_25, q77_26, q77_27, q77_29, q77_33, q77_36, q77_37, q77_40, q77_41, q77_44, q77_45, q77_46, q77_47, q77_48, q77_52, q77_55, q77_56, q77_57, q77_60, q77_63, q77_64, n10, n01, Bool.false_eq_true, ab_bs, ab_bn, ab_pr0, ab_pr1, nl_n, nl_i, nl_r, nl_j, nl_nl]
        rw [q77_30 r, x5]
        simp only [q77_0, q77_1, q77_4, q77_5, q77_8, q77_9, q77_12, q77_13, q77_16, q77_17, q77_18, q77_21, q77_24, q77_25, q77_26, q77_27, q77_29, q77_33, q77_36, q77_37, q77_40, q77_41, q77_44, q77_45, q77_46, q77_47, q77_48, q77_52, q77_55, q77_56, q77_57, q77_60, q77_63, q77_64, n10, n01, Bool.false_eq_true, ab_bs, ab_bn, ab_pr0, ab_pr1, nl_n, nl_i, nl_r, nl_j, nl_nl, nI_rfl, if_true, narrow_b1]
    · have hl2 : ¬ nI (e - a) = nI (wl w) := fun y => hl ((nI_eq (by omega) (by omega)).mp y)
      refine ⟨fun y => absurd y.2.1 hl, fun _ => ?_⟩
      rw [ms77]
      simp only [q77_0, q77_1, q77_4, q77_5, q77_8, q77_9, q77_12, q77_13, q77_16, q77_17, q77_21, q77_24, q77_25, q77_26, q77_27, q77_29, q77_33, q77_36, q77_37, q77_40, q77_41, q77_44, q77_45, q77_46, q77_47, q77_48, q77_52, q77_55, q77_56, q77_57, q77_60, q77_63, q77_64, n10, n01, Bool.false_eq_true, ab_bs, ab_bn, ab_pr0, ab_pr1, nl_n, nl_i, nl_r, nl_j, nl_nl, rc_1, gf_1_0, gf_1_1, pt_1_1, gf_1_2, pt_1_2, gf_1_3, pt_1_3, gf_1_4, pt_1_4, gf_1_5, pt_1_5, h3, k2, not_true, if_false, h2, h4, hs]
      rw [q77_18 r, x5]
      simp only [q77_0, q77_1, q77_4, q77_5, q77_8, q77_9, q77_12, q77_13, q77_16, q77_17, q77_21, q77_24, q77_25, q77_26, q77_27, q77_29, q77_33, q77_36, q77_37, q77_40, q77_41, q77_44, q77_45, q77_46, q77_47, q77_48, q77_52, q77_55, q77_56, q77_57, q77_60, q77_63, q77_64, n10, n01, Bool.false_eq_true, ab_bs, ab_bn, ab_pr0, ab_pr1, nl_n, nl_i, nl_r, nl_j, nl_nl, hl2, if_false, narrow_b0]
  · have k2 : ¬ nI k = 1 := fun y => k1 ((nI_eq (a := k) (b := 1) (by omega) (by decide)).mp y)
    refine ⟨fun y => absurd y.1 k1, fun _ => ?_⟩
    rw [ms77]
    simp only [q77_0, q77_1, q77_4, q77_5, q77_8, q77_9, q77_12, q77_13, q77_16, q77_17, q77_21, q77_24, q77_25, q77_26, q77_27, q77_29, q77_33, q77_36, q77_37, q77_40, q77_41, q77_44, q77_45, q77_46, q77_47, q77_48, q77_52, q77_55, q77_56, q77_57, q77_60, q77_63, q77_64, n10, n01, Bool.false_eq_true, ab_bs, ab_bn, ab_pr0, ab_pr1, nl_n, nl_i, nl_r, nl_j, nl_nl, rc_1, gf_1_0, gf_1_1, pt_1_1, gf_1_2, pt_1_2, gf_1_3, pt_1_3, gf_1_4, pt_1_4, gf_1_5, pt_1_5, h3, k2, not_false_eq_true, if_true, narrow_b0]
/-- the reference's letters -/
def cu (n : Nat) : Nat := [0, 3, 8, 13, 17, 21].getD n 0
def CT (N : ab_M) : Prop := (∀ n, n < 6 → N 125 n = nI (cu n)) ∧ ∀ w, w < 5 → ∀ i, i < wl w → N 126 (cu w + i) = nI (wc w i)
theorem cu_ok : ∀ w, w < 5 → nI (cu (w + 1)) - nI (cu w) = nI (wl w) ∧ cu w + wl w ≤ 21 := by decide
theorem CT_of {M : ab_M} (h : ctR M) : CT M := by
  have e5 : ∀ n, n < 6 → ((125, n), nI (cu n)) ∈ ab_q0 := by decide
  have e6 : ∀ w, w < 5 → ∀ i, i < wl w → ((126, cu w + i), nI (wc w i)) ∈ ab_q0 := by decide
  exact ⟨fun n hn => h _ (e5 n hn) (Or.inl rfl), fun w hw i hi => h _ (e6 w hw i hi) (Or.inr (Or.inl rfl))⟩
theorem nh_turn {N : ab_M} {a e n : Nat} (hT : TR B L N) (hC : CT N) (h5 : N 123 5 = nI e) (h6 : N 123 6 = nI a) (h7 : N 123 7 = 1) (hae : a ≤ e) (he : e ≤ L) (hn : n < 5) (l2 l3 : Option Value) : (Wd B a e n → ab_res scr 126 2 N 2 [some (.ref 123), some (.int (nI n)), l2, l3] [] = some (N, some (.int (nI n)))) ∧ (¬ Wd B a e n → ∃ l2' l3', ab_res scr 126 2 N 2 [some (.ref 123), some (.int (nI n)), l2, l3] [] = ab_res scr 126 2 N 2 [some (.ref 123), some (.int (nI (n + 1))), l2', l3'] []) := by
  obtain ⟨hL, t1, t2⟩ := id hT
  obtain ⟨w1, w2, w3⟩ := wl_lt n hn
  obtain ⟨c1, c2⟩ := cu_ok n hn
  have hs : nI e - nI a = nI (e - a) := pk_sub hae
  have n5 : ¬ (5 : Int32) ≤ nI n := nI_ge (a := n) (b := 5) hn (by omega)
  have d1 : N 125 (n + 1) = nI (cu (n + 1)) := hC.1 (n + 1) (by omega)
  have d0 : N 125 n = nI (cu n) := hC.1 n (by omega)
  have i1 : ab_inB (nI (n + 1)) 6 = true := ib_nI (by omega) (by decide)
  have i0 : ab_inB (nI n) 6 = true := ib_nI (by omega) (by decide)
  have m1 : (nI (n + 1)).toNatClampNeg = n + 1 := nI_clamp (by omega)
  have m0 : (nI n).toNatClampNeg = n := nI_clamp (by omega)
  by_cases hl : e - a = wl n
  · have run : ∀ m, m ≤ wl n → (∀ i, i < m → B (a + i) = wc n i) → ab_res scr 126 2 N 2 [some (.ref 123), some (.int (nI n)), l2, l3] [] = ab_res scr 126 2 N 50 [some (.ref 123), some (.int (nI n)), some (.int 1), some (.int (nI m))] [] := fun m hm h => by
      have e0 : ab_res scr 126 2 N 2 [some (.ref 123), some (.int (nI n)), l2, l3] [] = ab_res scr 126 2 N 50 [some (.ref 123), some (.int (nI n)), some (.int 1), some (.int 0)] [] := by
        rw [q126_2]
        simp only [q126_0, q126_1, q126_3, q126_4, q126_7, q126_8, q126_11, q126_12, q126_15, q126_16, q126_19, q126_20, q126_23, q126_24, q126_25, q126_28, q126_29, q126_30, q126_31, q126_32, q126_33, q126_36, q126_37, q126_38, q126_39, q126_42, q126_43, q126_46, q126_47, q126_48, q126_49, q126_51, q126_54, q126_55, q126_56, q126_59, q126_60, q126_63, q126_64, q126_67, q126_68, q126_69, q126_72, q126_73, q126_74, q126_77, q126_78, q126_81, q126_82, q126_85, q126_86, q126_87, q126_88, q126_89, q126_90, q126_93, q126_94, q126_97, q126_98, q126_99, q126_102, q126_105, q126_106, q126_109, q126_110, q126_111, q126_114, q126_117, q126_119, n10, n01, Bool.false_eq_true, ab_bs, ab_bn, ab_pr0, ab_pr1, nl_n, nl_i, nl_r, nl_j, nl_nl, rc_123, gf_123_0, gf_123_1, pt_123_1, gf_123_2, pt_123_2, gf_123_3, pt_123_3, gf_123_4, pt_123_4, gf_123_5, pt_123_5, gf_123_6, pt_123_6, gf_123_7, pt_123_7, gf_123_8, pt_123_8, gf_123_9, gf_123_10, gf_123_11, gf_123_12, gf_123_13, pt_123_13_0, pt_123_13_1, gf_123_14, pt_123_14_0, pt_123_14_1, gf_123_15, gf_123_16, gf_123_17, gf_123_18, gf_123_19, gf_123_20, gf_123_21, gf_123_22, gf_123_23, gf_123_24, gf_123_25, pt_123_25, gf_123_26, gf_123_27, pt_123_27, gf_123_28, pt_123_28, gf_123_29, gf_123_30, pt_123_30, gf_123_31, pt_123_31, gf_123_32, pt_123_32, gf_123_33, pt_123_33, gf_123_34, pt_123_34_0, pt_123_34_1, gf_123_35, gf_123_36, gf_123_37, gf_123_38, pt_123_38, gf_123_39, pt_123_39, gf_123_40, pt_123_40, gf_123_41, gf_123_42, gf_123_43, gf_123_44, gf_123_45, gf_123_46, gf_123_47, pt_123_47, ln_125, al_125, si_125, n5, h7, not_true, if_false, h5, h6, hs, hl, a1, i1, i0, m1, m0, if_true, d1, d0, c1]
      rw [e0]
      refine rn (fun i => ab_res scr 126 2 N 50 [some (.ref 123), some (.int (nI n)), some (.int 1), some (.int (nI i))] []) m (fun i hi => ?_)
      have y1 : ¬ nI (wl n) ≤ nI i := nI_ge (by omega) (by omega)
      have y2 := sp_byteAt (scr := scr) hT (j := a + i) (by omega)
      have y3 : bA B L (a + i) = nI (wc n i) := by
        unfold bA
        rw [if_pos (by omega), h i hi]
      have y4 := hC.2 n hn i (by omega)
      rw [q126_50]
      simp only [q126_0, q126_1, q126_3, q126_4, q126_7, q126_8, q126_11, q126_12, q126_15, q126_16, q126_19, q126_20, q126_23, q126_24, q126_25, q126_28, q126_29, q126_30, q126_31, q126_32, q126_33, q126_36, q126_37, q126_38, q126_39, q126_42, q126_43, q126_46, q126_47, q126_48, q126_49, q126_51, q126_54, q126_55, q126_56, q126_59, q126_60, q126_63, q126_64, q126_67, q126_68, q126_69, q126_72, q126_73, q126_74, q126_77, q126_78, q126_81, q126_82, q126_85, q126_86, q126_87, q126_88, q126_89, q126_90, q126_93, q126_94, q126_97, q126_98, q126_99, q126_102, q126_105, q126_106, q126_109, q126_110, q126_111, q126_114, q126_117, q126_119, n10, n01, Bool.false_eq_true, ab_bs, ab_bn, ab_pr0, ab_pr1, nl_n, nl_i, nl_r, nl_j, nl_nl, rc_123, gf_123_0, gf_123_1, pt_123_1, gf_123_2, pt_123_2, gf_123_3, pt_123_3, gf_123_4, pt_123_4, gf_123_5, pt_123_5, gf_123_6, pt_123_6, gf_123_7, pt_123_7, gf_123_8, pt_123_8, gf_123_9, gf_123_10, gf_123_11, gf_123_12, gf_123_13, pt_123_13_0, pt_123_13_1, gf_123_14, pt_123_14_0, pt_123_14_1, gf_123_15, gf_123_16, gf_123_17, gf_123_18, gf_123_19, gf_123_20, gf_123_21, gf_123_22, gf_123_23, gf_123_24, gf_123_25, pt_123_25, gf_123_26, gf_123_27, pt_123_27, gf_123_28, pt_123_28, gf_123_29, gf_123_30, pt_123_30, gf_123_31, pt_123_31, gf_123_32, pt_123_32, gf_123_33, pt_123_33, gf_123_34, pt_123_34_0, pt_123_34_1, gf_123_35, gf_123_36, gf_123_37, gf_123_38, pt_123_38, gf_123_39, pt_123_39, gf_123_40, pt_123_40, gf_123_41, gf_123_42, gf_123_43, gf_123_44, gf_123_45, gf_123_46, gf_123_47, pt_123_47, ln_125, al_125, si_125, ln_126, al_126, si_126, (show ¬ (1 : Int32) = 0 by decide), if_false, h5, h6, hs, hl, y1, nI_add, y2, y3, i0, m0, if_true, d0, (show ab_inB (nI (cu n + i)) 21 = true from ib_nI (by omega) (by decide)), nI_clamp (show cu n + i < 2 ^ 31 by omega), y4, not_true, a1]
    rcases nx_or (fun i => decide (B (a + i) ≠ wc n i)) 0 (wl n) with ⟨q, q1, q2, q3, q4⟩ | q4
    · have q3 : B (a + q) ≠ wc n q := by simpa using q3
      have q4 : ∀ i, i < q → B (a + i) = wc n i := fun i hi => by simpa using q4 i (by omega) hi
      refine ⟨fun y => absurd (y.2 q (by omega)) q3, fun _ => ⟨some (.int 0), some (.int (nI (q + 1))), ?_⟩⟩
      rw [run q (by omega) q4]
      have y1 : ¬ nI (wl n) ≤ nI q := nI_ge (by omega) (by omega)
      have y2 := sp_byteAt (scr := scr) hT (j := a + q) (by omega)
      have y3 : ¬ bA B L (a + q) = nI (wc n q) := by
        unfold bA
        rw [if_pos (by omega), (sb_wc2 (t2 (a + q) (by omega)).1 (wc_in n hn q (by omega)).1 (wc_in n hn q (by omega)).2).2]
        exact q3
      have y4 := hC.2 n hn q (by omega)
      have st : ab_res scr 126 2 N 50 [some (.ref 123), some (.int (nI n)), some (.int 1), some (.int (nI q))] [] = ab_res scr 126 2 N 50 [some (.ref 123), some (.int (nI n)), some (.int 0), some (.int (nI (q + 1)))] [] := by
        rw [q126_50]
        simp only [q126_0, q126_1, q126_3, q126_4, q126_7, q126_8, q126_11, q126_12, q126_15, q126_16, q126_19, q126_20, q126_23, q126_24, q126_25, q126_28, q126_29, q126_30, q126_31, q126_32, q126_33, q126_36, q126_37, q126_38, q126_39, q126_42, q126_43, q126_46, q126_47, q126_48, q126_49, q126_51, q126_54, q126_55, q126_56, q126_59, q126_60, q126_63, q126_64, q126_67, q126_68, q126_69, q126_72, q126_73, q126_74, q126_77, q126_78, q126_81, q126_82, q126_85, q126_86, q126_87, q126_88, q126_89, q126_90, q126_93, q126_94, q126_97, q126_98, q126_99, q126_102, q126_105, q126_106, q126_109, q126_110, q126_111, q126_114, q126_117, q126_119, n10, n01, Bool.false_eq_true, ab_bs, ab_bn, ab_pr0, ab_pr1, nl_n, nl_i, nl_r, nl_j, nl_nl, rc_123, gf_123_0, gf_123_1, pt_123_1, gf_123_2, pt_123_2, gf_123_3, pt_123_3, gf_123_4, pt_123_4, gf_123_5, pt_123_5, gf_123_6, pt_123_6, gf_123_7, pt_123_7, gf_123_8, pt_123_8, gf_123_9, gf_123_10, gf_123_11, gf_123_12, gf_123_13, pt_123_13_0, pt_123_13_1, gf_123_14, pt_123_14_0, pt_123_14_1, gf_123_15, gf_123_16, gf_123_17, gf_123_18, gf_123_19, gf_123_20, gf_123_21, gf_123_22, gf_123_23, gf_123_24, gf_123_25, pt_123_25, gf_123_26, gf_123_27, pt_123_27, gf_123_28, pt_123_28, gf_123_29, gf_123_30, pt_123_30, gf_123_31, pt_123_31, gf_123_32, pt_123_32, gf_123_33, pt_123_33, gf_123_34, pt_123_34_0, pt_123_34_1, gf_123_35, gf_123_36, gf_123_37, gf_123_38, pt_123_38, gf_123_39, pt_123_39, gf_123_40, pt_123_40, gf_123_41, gf_123_42, gf_123_43, gf_123_44, gf_123_45, gf_123_46, gf_123_47, pt_123_47, ln_125, al_125, si_125, ln_126, al_126, si_126, (show ¬ (1 : Int32) = 0 by decide), if_false, h5, h6, hs, hl, y1, nI_add, y2, y3, i0, m0, if_true, d0, (show ab_inB (nI (cu n + q)) 21 = true from ib_nI (by omega) (by decide)), nI_clamp (show cu n + q < 2 ^ 31 by omega), y4, not_false_eq_true, a1]
      rw [st]
      rw [q126_50]
      simp only [q126_0, q126_1, q126_3, q126_4, q126_7, q126_8, q126_11, q126_12, q126_15, q126_16, q126_19, q126_20, q126_23, q126_24, q126_25, q126_28, q126_29, q126_30, q126_31, q126_32, q126_33, q126_36, q126_37, q126_38, q126_39, q126_42, q126_43, q126_46, q126_47, q126_48, q126_49, q126_51, q126_54, q126_55, q126_56, q126_59, q126_60, q126_63, q126_64, q126_67, q126_68, q126_69, q126_72, q126_73, q126_74, q126_77, q126_78, q126_81, q126_82, q126_85, q126_86, q126_87, q126_88, q126_89, q126_90, q126_93, q126_94, q126_97, q126_98, q126_99, q126_102, q126_105, q126_106, q126_109, q126_110, q126_111, q126_114, q126_117, q126_119, n10, n01, Bool.false_eq_true, ab_bs, ab_bn, ab_pr0, ab_pr1, nl_n, nl_i, nl_r, nl_j, nl_nl, rc_123, gf_123_0, gf_123_1, pt_123_1, gf_123_2, pt_123_2, gf_123_3, pt_123_3, gf_123_4, pt_123_4, gf_123_5, pt_123_5, gf_123_6, pt_123_6, gf_123_7, pt_123_7, gf_123_8, pt_123_8, gf_123_9, gf_123_10, gf_123_11, gf_123_12, gf_123_13, pt_123_13_0, pt_123_13_1, gf_123_14, pt_123_14_0, pt_123_14_1, gf_123_15, gf_123_16, gf_123_17, gf_123_18, gf_123_19, gf_123_20, gf_123_21, gf_123_22, gf_123_23, gf_123_24, gf_123_25, pt_123_25, gf_123_26, gf_123_27, pt_123_27, gf_123_28, pt_123_28, gf_123_29, gf_123_30, pt_123_30, gf_123_31, pt_123_31, gf_123_32, pt_123_32, gf_123_33, pt_123_33, gf_123_34, pt_123_34_0, pt_123_34_1, gf_123_35, gf_123_36, gf_123_37, gf_123_38, pt_123_38, gf_123_39, pt_123_39, gf_123_40, pt_123_40, gf_123_41, gf_123_42, gf_123_43, gf_123_44, gf_123_45, gf_123_46, gf_123_47, pt_123_47, if_true, a1]
    · have q4 : ∀ i, i < wl n → B (a + i) = wc n i := fun i hi => by simpa using q4 i (by omega) (by omega)
      refine ⟨fun _ => ?_, fun y => absurd ⟨hl, q4⟩ y⟩
      rw [run (wl n) (Nat.le_refl _) q4]
      rw [q126_50]
      simp only [q126_0, q126_1, q126_3, q126_4, q126_7, q126_8, q126_11, q126_12, q126_15, q126_16, q126_19, q126_20, q126_23, q126_24, q126_25, q126_28, q126_29, q126_30, q126_31, q126_32, q126_33, q126_36, q126_37, q126_38, q126_39, q126_42, q126_43, q126_46, q126_47, q126_48, q126_49, q126_51, q126_54, q126_55, q126_56, q126_59, q126_60, q126_63, q126_64, q126_67, q126_68, q126_69, q126_72, q126_73, q126_74, q126_77, q126_78, q126_81, q126_82, q126_85, q126_86, q126_87, q126_88, q126_89, q126_90, q126_93, q126_94, q126_97, q126_98, q126_99, q126_102, q126_105, q126_106, q126_109, q126_110, q126_111, q126_114, q126_117, q126_119, n10, n01, Bool.false_eq_true, ab_bs, ab_bn, ab_pr0, ab_pr1, nl_n, nl_i, nl_r, nl_j, nl_nl, rc_123, gf_123_0, gf_123_1, pt_123_1, gf_123_2, pt_123_2, gf_123_3, pt_123_3, gf_123_4, pt_123_4, gf_123_5, pt_123_5, gf_123_6, pt_123_6, gf_123_7, pt_123_7, gf_123_8, pt_123_8, gf_123_9, gf_123_10, gf_123_11, gf_123_12, gf_123_13, pt_123_13_0, pt_123_13_1, gf_123_14, pt_123_14_0, pt_123_14_1, gf_123_15, gf_123_16, gf_123_17, gf_123_18, gf_123_19, gf_123_20, gf_123_21, gf_123_22, gf_123_23, gf_123_24, gf_123_25, pt_123_25, gf_123_26, gf_123_27, pt_123_27, gf_123_28, pt_123_28, gf_123_29, gf_123_30, pt_123_30, gf_123_31, pt_123_31, gf_123_32, pt_123_32, gf_123_33, pt_123_33, gf_123_34, pt_123_34_0, pt_123_34_1, gf_123_35, gf_123_36, gf_123_37, gf_123_38, pt_123_38, gf_123_39, pt_123_39, gf_123_40, pt_123_40, gf_123_41, gf_123_42, gf_123_43, gf_123_44, gf_123_45, gf_123_46, gf_123_47, pt_123_47, (show ¬ (1 : Int32) = 0 by decide), if_false, h5, h6, hs, hl, nI_rfl, if_true]
  · have hl2 : ¬ nI (e - a) = nI (wl n) := fun y => hl ((nI_eq (by omega) (by omega)).mp y)
    refine ⟨fun y => absurd y.1 hl, fun _ => ⟨some (.int 0), some (.int 0), ?_⟩⟩
    have e0 : ab_res scr 126 2 N 2 [some (.ref 123), some (.int (nI n)), l2, l3] [] = ab_res scr 126 2 N 50 [some (.ref 123), some (.int (nI n)), some (.int 0), some (.int 0)] [] := by
      rw [q126_2]
      simp only [q126_0, q126_1, q126_3, q126_4, q126_7, q126_8, q126_11, q126_12, q126_15, q126_16, q126_19, q126_20, q126_23, q126_24, q126_25, q126_28, q126_29, q126_30, q126_31, q126_32, q126_33, q126_36, q126_37, q126_38, q126_39, q126_42, q126_43, q126_46, q126_47, q126_48, q126_49, q126_51, q126_54, q126_55, q126_56, q126_59, q126_60, q126_63, q126_64, q126_67, q126_68, q126_69, q126_72, q126_73, q126_74, q126_77, q126_78, q126_81, q126_82, q126_85, q126_86, q126_87, q126_88, q126_89, q126_90, q126_93, q126_94, q126_97, q126_98, q126_99, q126_102, q126_105, q126_106, q126_109, q126_110, q126_111, q126_114, q126_117, q126_119, n10, n01, Bool.false_eq_true, ab_bs, ab_bn, ab_pr0, ab_pr1, nl_n, nl_i, nl_r, nl_j, nl_nl, rc_123, gf_123_0, gf_123_1, pt_123_1, gf_123_2, pt_123_2, gf_123_3, pt_123_3, gf_123_4, pt_123_4, gf_123_5, pt_123_5, gf_123_6, pt_123_6, gf_123_7, pt_123_7, gf_123_8, pt_123_8, gf_123_9, gf_123_10, gf_123_11, gf_123_12, gf_123_13, pt_123_13_0, pt_123_13_1, gf_123_14, pt_123_14_0, pt_123_14_1, gf_123_15, gf_123_16, gf_123_17, gf_123_18, gf_123_19, gf_123_20, gf_123_21, gf_123_22, gf_123_23, gf_123_24, gf_123_25, pt_123_25, gf_123_26, gf_123_27, pt_123_27, gf_123_28, pt_123_28, gf_123_29, gf_123_30, pt_123_30, gf_123_31, pt_123_31, gf_123_32, pt_123_32, gf_123_33, pt_123_33, gf_123_34, pt_123_34_0, pt_123_34_1, gf_123_35, gf_123_36, gf_123_37, gf_123_38, pt_123_38, gf_123_39, pt_123_39, gf_123_40, pt_123_40, gf_123_41, gf_123_42, gf_123_43, gf_123_44, gf_123_45, gf_123_46, gf_123_47, pt_123_47, ln_125, al_125, si_125, n5, h7, not_true, if_false, h5, h6, hs, hl2, not_false_eq_true, a1, i1, i0, m1, m0, if_true, d1, d0, c1]
    rw [e0]
    rw [q126_50]
    simp only [q126_0, q126_1, q126_3, q126_4, q126_7, q126_8, q126_11, q126_12, q126_15, q126_16, q126_19, q126_20, q126_23, q126_24, q126_25, q126_28, q126_29, q126_30, q126_31, q126_32, q126_33, q126_36, q126_37, q126_38, q126_39, q126_42, q126_43, q126_46, q126_47, q126_48, q126_49, q126_51, q126_54, q126_55, q126_56, q126_59, q126_60, q126_63, q126_64, q126_67, q126_68, q126_69, q126_72, q126_73, q126_74, q126_77, q126_78, q126_81, q126_82, q126_85, q126_86, q126_87, q126_88, q126_89, q126_90, q126_93, q126_94, q126_97, q126_98, q126_99, q126_102, q126_105, q126_106, q126_109, q126_110, q126_111, q126_114, q126_117, q126_119, n10, n01, Bool.false_eq_true, ab_bs, ab_bn, ab_pr0, ab_pr1, nl_n, nl_i, nl_r, nl_j, nl_nl, rc_123, gf_123_0, gf_123_1, pt_123_1, gf_123_2, pt_123_2, gf_123_3, pt_123_3, gf_123_4, pt_123_4, gf_123_5, pt_123_5, gf_123_6, pt_123_6, gf_123_7, pt_123_7, gf_123_8, pt_123_8, gf_123_9, gf_123_10, gf_123_11, gf_123_12, gf_123_13, pt_123_13_0, pt_123_13_1, gf_123_14, pt_123_14_0, pt_123_14_1, gf_123_15, gf_123_16, gf_123_17, gf_123_18, gf_123_19, gf_123_20, gf_123_21, gf_123_22, gf_123_23, gf_123_24, gf_123_25, pt_123_25, gf_123_26, gf_123_27, pt_123_27, gf_123_28, pt_123_28, gf_123_29, gf_123_30, pt_123_30, gf_123_31, pt_123_31, gf_123_32, pt_123_32, gf_123_33, pt_123_33, gf_123_34, pt_123_34_0, pt_123_34_1, gf_123_35, gf_123_36, gf_123_37, gf_123_38, pt_123_38, gf_123_39, pt_123_39, gf_123_40, pt_123_40, gf_123_41, gf_123_42, gf_123_43, gf_123_44, gf_123_45, gf_123_46, gf_123_47, pt_123_47, if_true, a1]
/-- the name that stands here: 0 to 4, or none -/
def NM (B : Nat → Nat) (a e k : Nat) (v : Int32) : Prop := (∃ w, w < 5 ∧ k = 1 ∧ Wd B a e w ∧ v = nI w ∧ ∀ u, u < w → ¬ Wd B a e u) ∨ (v = -4 ∧ ∀ w, w < 5 → ¬ (k = 1 ∧ Wd B a e w))
theorem sp_nameHere {N : ab_M} {a e k : Nat} (hT : TR B L N) (hC : CT N) (h5 : N 123 5 = nI e) (h6 : N 123 6 = nI a) (h7 : N 123 7 = nI k) (hk : k ≤ 4) (hae : a ≤ e) (he : e ≤ L) : ∃ v, NM B a e k v ∧ ab_ms scr 126 [.ref 123] N = some (N, some (.int v)) := by
  by_cases k1 : k = 1
  · have h7' : N 123 7 = 1 := by rw [h7, k1]; rfl
    have run : ∀ n, n ≤ 5 → (∀ u, u < n → ¬ Wd B a e u) → ∃ l2 l3, ab_ms scr 126 [.ref 123] N = ab_res scr 126 2 N 2 [some (.ref 123), some (.int (nI n)), l2, l3] [] := by
      intro n
      induction n with
      | zero =>
        intro _ _
        refine ⟨none, none, ?_⟩
        rw [ms126]
        simp only [q126_0, q126_1, q126_3, q126_4, q126_7, q126_8, q126_11, q126_12, q126_15, q126_16, q126_19, q126_20, q126_23, q126_24, q126_25, q126_28, q126_29, q126_30, q126_31, q126_32, q126_33, q126_36, q126_37, q126_38, q126_39, q126_42, q126_43, q126_46, q126_47, q126_48, q126_49, q126_51, q126_54, q126_55, q126_56, q126_59, q126_60, q126_63, q126_64, q126_67, q126_68, q126_69, q126_72, q126_73, q126_74, q126_77, q126_78, q126_81, q126_82, q126_85, q126_86, q126_87, q126_88, q126_89, q126_90, q126_93, q126_94, q126_97, q126_98, q126_99, q126_102, q126_105, q126_106, q126_109, q126_110, q126_111, q126_114, q126_117, q126_119, n10, n01, Bool.false_eq_true, ab_bs, ab_bn, ab_pr0, ab_pr1, nl_n, nl_i, nl_r, nl_j, nl_nl]
        rfl
      | succ n ih =>
        intro hn h
        obtain ⟨l2, l3, e⟩ := ih (by omega) (fun u hu => h u (by omega))
        obtain ⟨l2', l3', e'⟩ := (nh_turn (scr := scr) hT hC h5 h6 h7' hae he (show n < 5 by omega) l2 l3).2 (h n (by omega))
        exact ⟨l2', l3', e.trans e'⟩
    have hex : (∃ w, w < 5 ∧ Wd B a e w ∧ ∀ u, u < w → ¬ Wd B a e u) ∨ ∀ w, w < 5 → ¬ Wd B a e w := by
      have : ∀ n, (∃ w, w < n ∧ Wd B a e w ∧ ∀ u, u < w → ¬ Wd B a e u) ∨ ∀ w, w < n → ¬ Wd B a e w := by
        intro n
        induction n with
        | zero => exact Or.inr fun w hw => absurd hw (by omega)
        | succ n ih =>
          rcases ih with ⟨w, h1, h2⟩ | h
          · exact Or.inl ⟨w, by omega, h2⟩
          · by_cases x : Wd B a e n
            · exact Or.inl ⟨n, by omega, x, h⟩
            · refine Or.inr fun w hw => ?_
              by_cases y : w = n
              · rw [y]; exact x
              · exact h w (by omega)
      exact this 5
    rcases hex with ⟨w, h1, h2, h3⟩ | h
    · obtain ⟨l2, l3, e'⟩ := run w (by omega) h3
      exact ⟨nI w, Or.inl ⟨w, h1, k1, h2, rfl, h3⟩, e'.trans ((nh_turn (scr := scr) hT hC h5 h6 h7' hae he h1 l2 l3).1 h2)⟩
    · obtain ⟨l2, l3, e'⟩ := run 5 (by omega) h
      refine ⟨-4, Or.inr ⟨rfl, fun w hw y => h w hw y.2⟩, ?_⟩
      rw [e']
      rw [q126_2]
      simp only [q126_0, q126_1, q126_3, q126_4, q126_7, q126_8, q126_11, q126_12, q126_15, q126_16, q126_19, q126_20, q126_23, q126_24, q126_25, q126_28, q126_29, q126_30, q126_31, q126_32, q126_33, q126_36, q126_37, q126_38, q126_39, q126_42, q126_43, q126_46, q126_47, q126_48, q126_49, q126_51, q126_54, q126_55, q126_56, q126_59, q126_60, q126_63, q126_64, q126_67, q126_68, q126_69, q126_72, q126_73, q126_74, q126_77, q126_78, q126_81, q126_82, q126_85, q126_86, q126_87, q126_88, q126_89, q126_90, q126_93, q126_94, q126_97, q126_98, q126_99, q126_102, q126_105, q126_106, q126_109, q126_110, q126_111, q126_114, q126_117, q126_119, n10, n01, Bool.false_eq_true, ab_bs, ab_bn, ab_pr0, ab_pr1, nl_n, nl_i, nl_r, nl_j, nl_nl, (show (5 : Int32) ≤ nI 5 by decide), if_true]
  · have h7' : ¬ nI k = 1 := fun y => k1 ((nI_eq (a := k) (b := 1) (by omega) (by decide)).mp y)
    refine ⟨-4, Or.inr ⟨rfl, fun w _ y => k1 y.1⟩, ?_⟩
    rw [ms126]
    simp only [q126_0, q126_1, q126_3, q126_4, q126_7, q126_8, q126_11, q126_12, q126_15, q126_16, q126_19, q126_20, q126_23, q126_24, q126_25, q126_28, q126_29, q126_30, q126_31, q126_32, q126_33, q126_36, q126_37, q126_38, q126_39, q126_42, q126_43, q126_46, q126_47, q126_48, q126_49, q126_51, q126_54, q126_55, q126_56, q126_59, q126_60, q126_63, q126_64, q126_67, q126_68, q126_69, q126_72, q126_73, q126_74, q126_77, q126_78, q126_81, q126_82, q126_85, q126_86, q126_87, q126_88, q126_89, q126_90, q126_93, q126_94, q126_97, q126_98, q126_99, q126_102, q126_105, q126_106, q126_109, q126_110, q126_111, q126_114, q126_117, q126_119, n10, n01, Bool.false_eq_true, ab_bs, ab_bn, ab_pr0, ab_pr1, nl_n, nl_i, nl_r, nl_j, nl_nl]
    rw [q126_2]
    simp only [q126_0, q126_1, q126_3, q126_4, q126_7, q126_8, q126_11, q126_12, q126_15, q126_16, q126_19, q126_20, q126_23, q126_24, q126_25, q126_28, q126_29, q126_30, q126_31, q126_32, q126_33, q126_36, q126_37, q126_38, q126_39, q126_42, q126_43, q126_46, q126_47, q126_48, q126_49, q126_51, q126_54, q126_55, q126_56, q126_59, q126_60, q126_63, q126_64, q126_67, q126_68, q126_69, q126_72, q126_73, q126_74, q126_77, q126_78, q126_81, q126_82, q126_85, q126_86, q126_87, q126_88, q126_89, q126_90, q126_93, q126_94, q126_97, q126_98, q126_99, q126_102, q126_105, q126_106, q126_109, q126_110, q126_111, q126_114, q126_117, q126_119, n10, n01, Bool.false_eq_true, ab_bs, ab_bn, ab_pr0, ab_pr1, nl_n, nl_i, nl_r, nl_j, nl_nl, rc_123, gf_123_0, gf_123_1, pt_123_1, gf_123_2, pt_123_2, gf_123_3, pt_123_3, gf_123_4, pt_123_4, gf_123_5, pt_123_5, gf_123_6, pt_123_6, gf_123_7, pt_123_7, gf_123_8, pt_123_8, gf_123_9, gf_123_10, gf_123_11, gf_123_12, gf_123_13, pt_123_13_0, pt_123_13_1, gf_123_14, pt_123_14_0, pt_123_14_1, gf_123_15, gf_123_16, gf_123_17, gf_123_18, gf_123_19, gf_123_20, gf_123_21, gf_123_22, gf_123_23, gf_123_24, gf_123_25, pt_123_25, gf_123_26, gf_123_27, pt_123_27, gf_123_28, pt_123_28, gf_123_29, gf_123_30, pt_123_30, gf_123_31, pt_123_31, gf_123_32, pt_123_32, gf_123_33, pt_123_33, gf_123_34, pt_123_34_0, pt_123_34_1, gf_123_35, gf_123_36, gf_123_37, gf_123_38, pt_123_38, gf_123_39, pt_123_39, gf_123_40, pt_123_40, gf_123_41, gf_123_42, gf_123_43, gf_123_44, gf_123_45, gf_123_46, gf_123_47, pt_123_47, h7, h7', (show ¬ (5 : Int32) ≤ 0 by decide), not_false_eq_true, if_false, if_true]
end
