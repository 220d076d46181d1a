/-! GAINS of the reference -/
def AN (N V : ab_M) (j0 : Nat) : Prop := (∀ c j, (c < 123 ∨ (123 < c ∧ c < 127) ∨ c = 128 ∨ 145 < c) → V c j = N c j) ∧ (∀ j, ¬ (25 ≤ j ∧ j ≤ 34) → j ≠ 14 → ¬ (38 ≤ j ∧ j ≤ 40) → V 123 j = N 123 j) ∧ (∀ j, j ≠ 73 → j ≠ j0 → V 127 j = N 127 j)
theorem AN_FG {N V V' : ab_M} {j0 : Nat} (h : AN N V j0) (hg : FG V V') : AN N V' j0 := by
  obtain ⟨a, b, c⟩ := h
  obtain ⟨d, e, f, -⟩ := hg
  exact ⟨fun x j hx => by rw [d x j (by omega), a x j hx], fun j p q r => by rw [e j p q, b j p q r], fun j p q => by rw [f j p, c j p q]⟩
theorem AN_up {N V : ab_M} {j0 : Nat} {v : Int32} (h : AN N V j0) : AN N (ab_up V 127 j0 v) j0 := by
  obtain ⟨a, b, c⟩ := h
  exact ⟨fun x j hx => by rw [up_n (by omega), a x j hx], fun j p q r => by rw [up_n (by decide), b j p q r], fun j p q => by rw [up_o _ _ _ _ _ _ (fun z => q z.2), c j p q]⟩
theorem AN_g {N V : ab_M} {j0 j : Nat} {v : Int32} (hj : 38 ≤ j ∧ j ≤ 40) (h : AN N V j0) : AN N (ab_up V 123 j v) j0 := by
  obtain ⟨a, b, c⟩ := h
  exact ⟨fun x i hx => by rw [up_n (by omega), a x i hx], fun i p q r => by rw [up_o _ _ _ _ _ _ (by rintro ⟨-, rfl⟩; exact r hj), b i p q r], fun i p q => by rw [up_n (by decide), c i p q]⟩
theorem PW_an {n t w p : Nat} {N V M : ab_M} {v : Int32} (hn : n ≤ 8) (ht : t ≤ 12) (e : PW n t N M) (hw : w < 8) (hp : p < n) (h : AN N V (9 * p + w)) (h14 : V 123 14 ≠ 0) (h73 : V 127 73 = M 16 4) : PW n t (ab_up V 127 (9 * p + w) v) (ab_up M (18 + w) p v) := by
  obtain ⟨e1, e2, e3, e4, e5⟩ := e
  obtain ⟨-, -, c⟩ := h
  have z : ∀ i, i ≠ 73 → i ≠ 9 * p + w → ab_up V 127 (9 * p + w) v 127 i = N 127 i := fun i a b => by rw [up_o _ _ _ _ _ _ (by omega), c i a b]
  refine ⟨by rw [z _ (by omega) (by omega), e1], Or.inr ⟨by rw [up_n (by decide)]; exact h14, by rw [up_o _ _ _ _ _ _ (by omega), h73, up_n (by omega)]⟩, by rw [z _ (by omega) (by omega), e3], fun u hu q hq => ?_, fun i hi => by rw [z _ (by omega) (by omega), up_n (by omega)]; exact e5 i hi⟩
  by_cases e9 : q = p ∧ u = w
  · obtain ⟨rfl, rfl⟩ := e9
    rw [up_s, up_s]
  · rw [z _ (by omega) (by omega), up_o _ _ _ _ _ _ (by omega)]
    exact e4 u hu q hq
def glI (n w p a k : Nat) (rule seed : Int32) (M N V : ab_M) : Prop := AN N V (9 * p + w) ∧ V 123 14 ≠ 0 ∧ V 127 73 = M 16 4 ∧ V 123 39 = (gnF n w p a rule seed M k).1 ∧ V 123 40 = (gnF n w p a rule seed M k).2
theorem rp_gain {scr : Option (List Int32)} {n t w p a cnt : Nat} {M N : ab_M} (h : HP n t M) (hN : PW n t N M) (hw : w < 8) (hp : p < n) (hN4 : N 16 4 = M 16 4) (rule seed most : Int32) (hr : okR rule) (hcnt : a + cnt < 1000) (hlo : ∀ k, k < cnt → ¬ most < nI (a + k)) (hhi : most < nI (a + cnt)) (ho : ∀ k, k < cnt → okW n w p M (nI (a + k))) : ∃ N', ab_ms scr 176 [.ref 123, .int (nI p), .int rule, .int seed, .int (nI w), .int (nI a), .int most] N = some (N', none) ∧ AX N N' ∧ PW n t N' M ∧ N' 123 39 = (gnF n w p a rule seed M cnt).1 ∧ N' 123 40 = (gnF n w p a rule seed M cnt).2 := by
  obtain ⟨hn, hM, ht, hv, -⟩ := id h
  have ht12 := ht.1
  have hp8 : p < 8 := by omega
  have hNw : N 127 (9 * p + w) = M (18 + w) p := hN.2.2.2.1 w (by omega) p hp
  obtain ⟨N1, x1, x2, x3⟩ := rp_evenings (scr := scr) hn hM ht hN hv rule seed hr
  have hF0 := (ho_run (scr := scr) h rule seed).2.2
  have hout := rO_oX (x2.1.2.2.2.1 p hp)
  have h73 : N1 127 73 = M 16 4 := by rw [x2.1.1.2.1, hF0 16 4 (by decide)]
  have hA0 : AN N N1 (9 * p + w) := AN_FG ⟨fun _ _ _ => rfl, fun _ _ _ _ => rfl, fun _ _ _ => rfl⟩ x3
  have hI0 : glI n w p a 0 rule seed M N (ab_up (ab_up N1 123 39 0) 123 40 (M (18 + w) p)) := ⟨AN_g (by decide) (AN_g (by decide) hA0), by rw [up_o _ _ _ _ _ _ (by decide), up_o _ _ _ _ _ _ (by decide)]; exact x3.2.2.2, by rw [up_n (by decide), up_n (by decide), h73], by rw [up_o _ _ _ _ _ _ (by decide), up_s]; rfl, by rw [up_s]; rfl⟩
  have hx := rx (fun k (s : ab_M) => ab_res scr 176 7 s 37 [some (.ref 123), some (.int (nI p)), some (.int rule), some (.int seed), some (.int (nI w)), some (.int (nI a)), some (.int most), some (.int (M (18 + w) p)), some (.int (oX (hoC n rule seed M) p)), some (.int (nI (a + k)))] []) (fun k s => glI n w p a k rule seed M N s) cnt (ab_up (ab_up N1 123 39 0) 123 40 (M (18 + w) p)) hI0 (fun k V hk hs => ?_)
  · obtain ⟨V, e1, i1, i2, i3, i4, i5⟩ := hx
    obtain ⟨b1, b2, b3⟩ := i1
    have z : ∀ j, j ≠ 73 → ab_up V 127 (9 * p + w) (M (18 + w) p) 127 j = N 127 j := by
      intro j hj
      by_cases e : j = 9 * p + w
      · subst e
        rw [up_s, hNw]
      · rw [up_o _ _ _ _ _ _ (fun q => e q.2), b3 j hj e]
    refine ⟨ab_up V 127 (9 * p + w) (M (18 + w) p), ?_, ⟨fun c j hc => by rw [up_n (by omega), b1 c j (by omega)], fun j q r u => by rw [up_n (by decide), b2 j q r u], z, Or.inr ⟨by rw [up_n (by decide)]; exact i2, by rw [up_o _ _ _ _ _ _ (by omega), i3, hN4]⟩⟩, ?_, by rw [up_n (by decide)]; exact i4, by rw [up_n (by decide)]; exact i5⟩
    · rw [ms176]
      simp only [q176_0, q176_1, q176_2, q176_4, q176_7, q176_9, q176_10, q176_11, q176_12, q176_15, q176_16, q176_17, q176_20, q176_22, q176_23, q176_24, q176_27, q176_28, q176_30, q176_33, q176_35, q176_39, q176_41, q176_44, q176_45, q176_48, q176_50, q176_51, q176_52, q176_54, q176_55, q176_57, q176_58, q176_59, q176_60, q176_61, q176_64, q176_66, q176_67, q176_68, q176_71, q176_72, q176_73, q176_76, q176_79, q176_80, q176_82, q176_83, q176_84, q176_87, q176_88, q176_91, q176_92, q176_94, q176_97, q176_100, q176_103, q176_104, q176_107, q176_109, q176_110, q176_111, q176_113, q176_114, q176_116, q176_117, n10, n01, Bool.false_eq_true, ab_bs, ab_bn, ab_pr0, ab_pr1, nl_n, nl_i, nl_r, nl_j, nl_nl, rc_123, gf_123_0, gf_123_1, pt_123_1, gf_123_2, pt_123_2, gf_123_3, pt_123_3, gf_123_4, pt_123_4, gf_123_5, pt_123_5, gf_123_6, pt_123_6, gf_123_7, pt_123_7, gf_123_8, pt_123_8, gf_123_9, gf_123_10, gf_123_11, gf_123_12, gf_123_13, pt_123_13_0, pt_123_13_1, gf_123_14, pt_123_14_0, pt_123_14_1, gf_123_15, gf_123_16, gf_123_17, gf_123_18, gf_123_19, gf_123_20, gf_123_21, gf_123_22, gf_123_23, gf_123_24, gf_123_25, pt_123_25, gf_123_26, gf_123_27, pt_123_27, gf_123_28, pt_123_28, gf_123_29, gf_123_30, pt_123_30, gf_123_31, pt_123_31, gf_123_32, pt_123_32, gf_123_33, pt_123_33, gf_123_34, pt_123_34_0, pt_123_34_1, gf_123_35, gf_123_36, gf_123_37, gf_123_38, pt_123_38, gf_123_39, pt_123_39, gf_123_40, pt_123_40, gf_123_41, gf_123_42, gf_123_43, gf_123_44, gf_123_45, gf_123_46, gf_123_47, pt_123_47, sp_its _ p w hp8 (by omega), hNw, x1, sp_outOf _ _ hp8, hout]
      refine Eq.trans e1 ?_
      show ab_res scr 176 7 V 37 _ [] = _
      rw [q176_37]
      simp only [q176_0, q176_1, q176_2, q176_4, q176_7, q176_9, q176_10, q176_11, q176_12, q176_15, q176_16, q176_17, q176_20, q176_22, q176_23, q176_24, q176_27, q176_28, q176_30, q176_33, q176_35, q176_39, q176_41, q176_44, q176_45, q176_48, q176_50, q176_51, q176_52, q176_54, q176_55, q176_57, q176_58, q176_59, q176_60, q176_61, q176_64, q176_66, q176_67, q176_68, q176_71, q176_72, q176_73, q176_76, q176_79, q176_80, q176_82, q176_83, q176_84, q176_87, q176_88, q176_91, q176_92, q176_94, q176_97, q176_100, q176_103, q176_104, q176_107, q176_109, q176_110, q176_111, q176_113, q176_114, q176_116, q176_117, n10, n01, Bool.false_eq_true, ab_bs, ab_bn, ab_pr0, ab_pr1, nl_n, nl_i, nl_r, nl_j, nl_nl, rc_123, gf_123_0, gf_123_1, pt_123_1, gf_123_2, pt_123_2, gf_123_3, pt_123_3, gf_123_4, pt_123_4, gf_123_5, pt_123_5, gf_123_6, pt_123_6, gf_123_7, pt_123_7, gf_123_8, pt_123_8, gf_123_9, gf_123_10, gf_123_11, gf_123_12, gf_123_13, pt_123_13_0, pt_123_13_1, gf_123_14, pt_123_14_0, pt_123_14_1, gf_123_15, gf_123_16, gf_123_17, gf_123_18, gf_123_19, gf_123_20, gf_123_21, gf_123_22, gf_123_23, gf_123_24, gf_123_25, pt_123_25, gf_123_26, gf_123_27, pt_123_27, gf_123_28, pt_123_28, gf_123_29, gf_123_30, pt_123_30, gf_123_31, pt_123_31, gf_123_32, pt_123_32, gf_123_33, pt_123_33, gf_123_34, pt_123_34_0, pt_123_34_1, gf_123_35, gf_123_36, gf_123_37, gf_123_38, pt_123_38, gf_123_39, pt_123_39, gf_123_40, pt_123_40, gf_123_41, gf_123_42, gf_123_43, gf_123_44, gf_123_45, gf_123_46, gf_123_47, pt_123_47, hhi, if_true, n9_m, nI_add, s127 (show 9 * p + w < 300 by omega), cn (show 9 * p + w < 400 by omega)]
    · obtain ⟨e1, e2, e3, e4, e5⟩ := hN
      exact ⟨by rw [z _ (by decide), e1], Or.inr ⟨by rw [up_n (by decide)]; exact i2, by rw [up_o _ _ _ _ _ _ (by omega), i3]⟩, by rw [z _ (by decide), e3], fun u hu q hq => by rw [z _ (by omega)]; exact e4 u hu q hq, fun i hi => by rw [z _ (by omega)]; exact e5 i hi⟩
  · obtain ⟨i1, i2, i3, i4, i5⟩ := hs
    have hw2 := PW_an (v := nI (a + k)) hn ht12 hN hw hp i1 i2 i3
    have hM2 := HP_up h hw hp (ho k hk)
    obtain ⟨-, hM3, ht3, hv3, -⟩ := hM2
    obtain ⟨N2, y1, y2, y3⟩ := rp_evenings (scr := scr) hn hM3 ht3 hw2 hv3 rule seed hr
    have hF2 := (ho_run (scr := scr) (HP_up h hw hp (ho k hk)) rule seed).2.2
    have hou := rO_oX (y2.1.2.2.2.1 p hp)
    have hg : oX (hoC n rule seed M) p - oX (hoC n rule seed (ab_up M (18 + w) p (nI (a + k)))) p = gnO n w p rule seed M (nI (a + k)) := rfl
    have hA2 : AN N N2 (9 * p + w) := AN_FG (AN_up i1) y3
    have h732 : N2 127 73 = M 16 4 := by rw [y2.1.1.2.1, hF2 16 4 (by decide), up_n (by omega)]
    have h39 : N2 123 39 = (gnF n w p a rule seed M k).1 := by rw [y3.2.1 39 (by decide) (by decide), up_n (by decide), i4]
    have h40 : N2 123 40 = (gnF n w p a rule seed M k).2 := by rw [y3.2.1 40 (by decide) (by decide), up_n (by decide), i5]
    have hl := hlo k hk
    have ex : nI (a + k) + 1 = nI (a + (k + 1)) := by rw [nI_1]; rfl
    by_cases hB : (gnF n w p a rule seed M k).1 < gnO n w p rule seed M (nI (a + k))
    · refine ⟨ab_up (ab_up N2 123 39 (gnO n w p rule seed M (nI (a + k)))) 123 40 (nI (a + k)), ?_, (⟨AN_g (by decide) (AN_g (by decide) hA2), by rw [up_o _ _ _ _ _ _ (by decide), up_o _ _ _ _ _ _ (by decide)]; exact y3.2.2.2, by rw [up_n (by decide), up_n (by decide), h732], by rw [up_o _ _ _ _ _ _ (by decide), up_s, gnF_s, if_pos hB], by rw [up_s, gnF_s, if_pos hB]⟩ : glI n w p a (k + 1) rule seed M N (ab_up (ab_up N2 123 39 (gnO n w p rule seed M (nI (a + k)))) 123 40 (nI (a + k))))⟩
      have hou2 : ∀ N9 : ab_M, N9 133 p = N2 133 p → N9 132 p = N2 132 p → N9 138 p = N2 138 p → rO N9 p = rO N2 p := fun N9 q r s => by unfold rO; rw [q, r, s]
      show ab_res scr 176 7 V 37 _ [] = _
      rw [q176_37]
      simp only [q176_0, q176_1, q176_2, q176_4, q176_7, q176_9, q176_10, q176_11, q176_12, q176_15, q176_16, q176_17, q176_20, q176_22, q176_23, q176_24, q176_27, q176_28, q176_30, q176_33, q176_35, q176_39, q176_41, q176_44, q176_45, q176_48, q176_50, q176_51, q176_52, q176_54, q176_55, q176_57, q176_58, q176_59, q176_60, q176_61, q176_64, q176_66, q176_67, q176_68, q176_71, q176_72, q176_73, q176_76, q176_79, q176_80, q176_82, q176_83, q176_84, q176_87, q176_88, q176_91, q176_92, q176_94, q176_97, q176_100, q176_103, q176_104, q176_107, q176_109, q176_110, q176_111, q176_113, q176_114, q176_116, q176_117, n10, n01, Bool.false_eq_true, ab_bs, ab_bn, ab_pr0, ab_pr1, nl_n, nl_i, nl_r, nl_j, nl_nl, rc_123, gf_123_0, gf_123_1, pt_123_1, gf_123_2, pt_123_2, gf_123_3, pt_123_3, gf_123_4, pt_123_4, gf_123_5, pt_123_5, gf_123_6, pt_123_6, gf_123_7, pt_123_7, gf_123_8, pt_123_8, gf_123_9, gf_123_10, gf_123_11, gf_123_12, gf_123_13, pt_123_13_0, pt_123_13_1, gf_123_14, pt_123_14_0, pt_123_14_1, gf_123_15, gf_123_16, gf_123_17, gf_123_18, gf_123_19, gf_123_20, gf_123_21, gf_123_22, gf_123_23, gf_123_24, gf_123_25, pt_123_25, gf_123_26, gf_123_27, pt_123_27, gf_123_28, pt_123_28, gf_123_29, gf_123_30, pt_123_30, gf_123_31, pt_123_31, gf_123_32, pt_123_32, gf_123_33, pt_123_33, gf_123_34, pt_123_34_0, pt_123_34_1, gf_123_35, gf_123_36, gf_123_37, gf_123_38, pt_123_38, gf_123_39, pt_123_39, gf_123_40, pt_123_40, gf_123_41, gf_123_42, gf_123_43, gf_123_44, gf_123_45, gf_123_46, gf_123_47, pt_123_47, hl, if_false, if_true, n9_m, nI_add, s127 (show 9 * p + w < 300 by omega), cn (show 9 * p + w < 400 by omega), y1, sp_outOf _ _ hp8, hou, hg, h39, Int32.not_le.mpr hB, ex]
    · refine ⟨N2, ?_, (⟨hA2, y3.2.2.2, h732, by rw [h39, gnF_s, if_neg hB], by rw [h40, gnF_s, if_neg hB]⟩ : glI n w p a (k + 1) rule seed M N N2)⟩
      show ab_res scr 176 7 V 37 _ [] = _
      rw [q176_37]
      simp only [q176_0, q176_1, q176_2, q176_4, q176_7, q176_9, q176_10, q176_11, q176_12, q176_15, q176_16, q176_17, q176_20, q176_22, q176_23, q176_24, q176_27, q176_28, q176_30, q176_33, q176_35, q176_39, q176_41, q176_44, q176_45, q176_48, q176_50, q176_51, q176_52, q176_54, q176_55, q176_57, q176_58, q176_59, q176_60, q176_61, q176_64, q176_66, q176_67, q176_68, q176_71, q176_72, q176_73, q176_76, q176_79, q176_80, q176_82, q176_83, q176_84, q176_87, q176_88, q176_91, q176_92, q176_94, q176_97, q176_100, q176_103, q176_104, q176_107, q176_109, q176_110, q176_111, q176_113, q176_114, q176_116, q176_117, n10, n01, Bool.false_eq_true, ab_bs, ab_bn, ab_pr0, ab_pr1, nl_n, nl_i, nl_r, nl_j, nl_nl, rc_123, gf_123_0, gf_123_1, pt_123_1, gf_123_2, pt_123_2, gf_123_3, pt_123_3, gf_123_4, pt_123_4, gf_123_5, pt_123_5, gf_123_6, pt_123_6, gf_123_7, pt_123_7, gf_123_8, pt_123_8, gf_123_9, gf_123_10, gf_123_11, gf_123_12, gf_123_13, pt_123_13_0, pt_123_13_1, gf_123_14, pt_123_14_0, pt_123_14_1, gf_123_15, gf_123_16, gf_123_17, gf_123_18, gf_123_19, gf_123_20, gf_123_21, gf_123_22, gf_123_23, gf_123_24, gf_123_25, pt_123_25, gf_123_26, gf_123_27, pt_123_27, gf_123_28, pt_123_28, gf_123_29, gf_123_30, pt_123_30, gf_123_31, pt_123_31, gf_123_32, pt_123_32, gf_123_33, pt_123_33, gf_123_34, pt_123_34_0, pt_123_34_1, gf_123_35, gf_123_36, gf_123_37, gf_123_38, pt_123_38, gf_123_39, pt_123_39, gf_123_40, pt_123_40, gf_123_41, gf_123_42, gf_123_43, gf_123_44, gf_123_45, gf_123_46, gf_123_47, pt_123_47, hl, if_false, if_true, n9_m, nI_add, s127 (show 9 * p + w < 300 by omega), cn (show 9 * p + w < 400 by omega), y1, sp_outOf _ _ hp8, hou, hg, h39, Int32.not_lt.mp hB, ex]
