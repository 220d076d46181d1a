/-! calls that look at the state or change it -/
def CRX (K : Int) (M : ab_M) : Prop := ∃ n t, CR n t K M
theorem fok_mono {fb : Nat} {K K' : Int} {M : ab_M} {p : Nat} (hK : K ≤ K') (h : fok fb K M p) : fok fb K' M p := by
  obtain ⟨a, b, c, d, e, f, g, i⟩ := h
  exact ⟨a, b, c, d, e, f, by omega, by omega⟩
theorem pgV_mono {ob fb n t : Nat} {K K' : Int} {M : ab_M} (hK : K ≤ K') (h : pgV ob fb n t K M) : pgV ob fb n t K' M := by
  obtain ⟨a, b, c, d, e, f, g⟩ := h
  exact ⟨a, b, c, d, e, fun p hp => fok_mono hK (f p hp), g⟩
theorem imR_mono {k : Nat} {K K' : Int} {M : ab_M} (hK : K ≤ K') (h : imR k K M) : imR k K' M := by
  rcases h with h | ⟨a, b, c, n, t, d, e⟩
  · exact Or.inl h
  · exact Or.inr ⟨a, b, c, n, t, pgV_mono hK d, e⟩
theorem CR_mono {n t : Nat} {K K' : Int} {M : ab_M} (hK : K ≤ K') (h : CR n t K M) : CR n t K' M := ⟨pgV_mono hK h.1, h.2.1, fun k hk => imR_mono hK (h.2.2.1 k hk), h.2.2.2⟩
theorem CR_page {n t n' t' : Nat} {K : Int} {M M' : ab_M} (h : CR n t K M) (hx : ∀ c j, ¬ (16 ≤ c ∧ c ≤ 27) → ¬ (c = 127 ∧ j < 100) → M' c j = M c j) (h1 : pgV 16 18 n' t' K M') (h2 : PW n' t' M' M') : CR n' t' K M' := by
  obtain ⟨-, -, h3, h4, h5, h6, h7, h8⟩ := h
  have y : ∀ c j, ¬ (16 ≤ c ∧ c ≤ 27) → c ≠ 127 → M' c j = M c j := fun c j a b => hx c j a (fun q => b q.1)
  refine ⟨h1, h2, fun k hk => ?_, fun k hk => ?_, ?_, ?_, ?_, ?_⟩
  · rcases h3 k hk with ⟨a, b⟩ | ⟨a, b, c, n', t', d, e, f⟩
    · exact Or.inl ⟨by rw [y _ _ (by omega) (by omega), a], by rw [y _ _ (by omega) (by omega), b]⟩
    · exact Or.inr ⟨by rw [y _ _ (by omega) (by omega), a], by rw [y _ _ (by omega) (by omega), b], by rw [y _ _ (by omega) (by omega)]; exact c, n', t', pgV_of d (fun j => y _ _ (by omega) (by omega)) (fun w j hw => y _ _ (by omega) (by omega)), pgR_of e d.1 d.2.1 (fun w j hw => y _ _ (by omega) (by omega)) (fun j _ _ => hx _ _ (by omega) (by omega)), by rw [hx _ _ (by omega) (by omega), y _ _ (by omega) (by omega), f]⟩
  · rcases h4 k hk with ⟨a, b⟩ | ⟨s, l, a, b, c, d, e, f, g⟩
    · exact Or.inl ⟨by rw [y _ _ (by omega) (by omega), a], by rw [y _ _ (by omega) (by omega), b]⟩
    · exact Or.inr ⟨s, l, a, b, by rw [y _ _ (by omega) (by omega), c], by rw [y _ _ (by omega) (by omega), d], by rw [y _ _ (by omega) (by omega), e], by rw [y _ _ (by omega) (by omega), f], fun i hi => by rw [y _ _ (by omega) (by omega), y _ _ (by omega) (by omega)]; exact g i hi⟩
  · obtain ⟨L, a, b, c, d⟩ := h5
    exact ⟨L, a, by rw [y _ _ (by omega) (by omega), b], by rw [y _ _ (by omega) (by omega), c], fun i hi => by rw [y _ _ (by omega) (by omega), y _ _ (by omega) (by omega)]; exact d i hi⟩
  · intro q hq hq2
    rw [y _ _ (by omega) (by omega)]
    exact h6 q hq hq2
  · rw [y _ _ (by omega) (by omega), y _ _ (by omega) (by omega), h7]
  · rw [y _ _ (by omega) (by omega), y _ _ (by omega) (by omega), h8]
theorem cok_ax {scr : Option (List Int32)} {c r : Nat} {As : List Value} {n t : Nat} {K : Int} {M : ab_M} (h : CR n t K M) (hc : cokI scr c r As M (AX M)) : cokI scr c r As M (CRX K) := by
  obtain ⟨M1, a, M2, x, y, z⟩ := hc
  exact ⟨M1, a, M2, x, y, n, t, CR_ax h z⟩
theorem cokJ_ax {scr : Option (List Int32)} {c r : Nat} {As : List Value} {n t : Nat} {K : Int} {M : ab_M} (h : CR n t K M) (hc : cokJ scr c r As M (AX M)) : cokJ scr c r As M (CRX K) := by
  obtain ⟨M1, a, M2, x, y, z⟩ := hc
  exact ⟨M1, a, M2, x, y, n, t, CR_ax h z⟩
section CV
variable {scr : Option (List Int32)} {n t : Nat} {K : Int} {M : ab_M}
theorem cl_fault (h : CR n t K M) : cokI scr 82 133 [] M (CRX K) := by
  refine ⟨M, M 3 2, M, ?_, ?_, n, t, h⟩
  · rw [ms82]; simp only [q82_0, q82_1, q82_4, q82_7, n10, n01, Bool.false_eq_true, ab_bs, ab_bn, ab_pr0, ab_pr1, nl_n, nl_i, nl_r, nl_j, nl_nl, rc_0, gf_0_0, gf_0_1, gf_0_2, gf_0_3, gf_0_4, gf_0_5, gf_0_6, gf_0_7, gf_0_8, gf_0_9, pt_0_9, rc_3, gf_3_0, gf_3_1, gf_3_2, pt_3_2, gf_3_3, pt_3_3, gf_3_4, pt_3_4_0, pt_3_4_1]
  · rw [ms133]; simp only [q133_0, q133_1, q133_4, n10, n01, Bool.false_eq_true, ab_bs, ab_bn, ab_pr0, ab_pr1, nl_n, nl_i, nl_r, nl_j, nl_nl, rc_123, gf_123_0, gf_123_1, pt_123_1, gf_123_2, pt_123_2, gf_123_3, pt_123_3, gf_123_4, pt_123_4, gf_123_5, pt_123_5, gf_123_6, pt_123_6, gf_123_7, pt_123_7, gf_123_8, pt_123_8, gf_123_9, gf_123_10, gf_123_11, gf_123_12, gf_123_13, pt_123_13_0, pt_123_13_1, gf_123_14, pt_123_14_0, pt_123_14_1, gf_123_15, gf_123_16, gf_123_17, gf_123_18, gf_123_19, gf_123_20, gf_123_21, gf_123_22, gf_123_23, gf_123_24, gf_123_25, pt_123_25, gf_123_26, gf_123_27, pt_123_27, gf_123_28, pt_123_28, gf_123_29, gf_123_30, pt_123_30, gf_123_31, pt_123_31, gf_123_32, pt_123_32, gf_123_33, pt_123_33, gf_123_34, pt_123_34_0, pt_123_34_1, gf_123_35, gf_123_36, gf_123_37, gf_123_38, pt_123_38, gf_123_39, pt_123_39, gf_123_40, pt_123_40, gf_123_41, gf_123_42, gf_123_43, gf_123_44, gf_123_45, gf_123_46, gf_123_47, pt_123_47, h.2.2.2.2.2.2.1]
theorem cl_torn (h : CR n t K M) : cokI scr 109 194 [] M (CRX K) := by
  refine ⟨M, M 0 9, M, ?_, ?_, n, t, h⟩
  · rw [ms109]; simp only [q109_0, q109_1, q109_4, n10, n01, Bool.false_eq_true, ab_bs, ab_bn, ab_pr0, ab_pr1, nl_n, nl_i, nl_r, nl_j, nl_nl, rc_0, gf_0_0, gf_0_1, gf_0_2, gf_0_3, gf_0_4, gf_0_5, gf_0_6, gf_0_7, gf_0_8, gf_0_9, pt_0_9]
  · rw [ms194]; simp only [q194_0, q194_1, q194_4, n10, n01, Bool.false_eq_true, ab_bs, ab_bn, ab_pr0, ab_pr1, nl_n, nl_i, nl_r, nl_j, nl_nl, rc_123, gf_123_0, gf_123_1, pt_123_1, gf_123_2, pt_123_2, gf_123_3, pt_123_3, gf_123_4, pt_123_4, gf_123_5, pt_123_5, gf_123_6, pt_123_6, gf_123_7, pt_123_7, gf_123_8, pt_123_8, gf_123_9, gf_123_10, gf_123_11, gf_123_12, gf_123_13, pt_123_13_0, pt_123_13_1, gf_123_14, pt_123_14_0, pt_123_14_1, gf_123_15, gf_123_16, gf_123_17, gf_123_18, gf_123_19, gf_123_20, gf_123_21, gf_123_22, gf_123_23, gf_123_24, gf_123_25, pt_123_25, gf_123_26, gf_123_27, pt_123_27, gf_123_28, pt_123_28, gf_123_29, gf_123_30, pt_123_30, gf_123_31, pt_123_31, gf_123_32, pt_123_32, gf_123_33, pt_123_33, gf_123_34, pt_123_34_0, pt_123_34_1, gf_123_35, gf_123_36, gf_123_37, gf_123_38, pt_123_38, gf_123_39, pt_123_39, gf_123_40, pt_123_40, gf_123_41, gf_123_42, gf_123_43, gf_123_44, gf_123_45, gf_123_46, gf_123_47, pt_123_47, h.2.2.2.2.2.2.2]
theorem rng8 {x : Int32} (h : 0 ≤ x ∧ x < 8) : ∃ w, w < 8 ∧ x = nI w := rng (b := 8) (by decide) h
theorem cl_one (h : CR n t K M) (p what : Int32) : cokI scr 83 136 [.int p, .int what] M (CRX K) := by
  have hn := CR_n h
  have hM := CR_3 h
  obtain ⟨r1, r2, r3, r4, r5⟩ := h.2.1
  have x1 := sp_has (scr := scr) M n hn hM p
  have x2 := sp_isOne (scr := scr) M n hn r1 p
  by_cases h1 : 0 ≤ p ∧ p < nI n
  · by_cases h2 : 0 ≤ what ∧ what < 8
    · obtain ⟨w, hw, rfl⟩ := rng8 h2
      obtain ⟨j, hj, rfl⟩ := rng (by omega) h1
      have hj8 : j < 8 := by omega
      refine ⟨M, M (18 + w) j, M, ?_, ?_, n, t, h⟩
      · rw [ms83]; simp only [q83_0, q83_1, q83_4, q83_5, q83_8, q83_11, q83_12, q83_14, q83_17, q83_20, q83_22, q83_23, q83_24, q83_27, q83_30, q83_31, q83_32, q83_33, q83_34, n10, n01, Bool.false_eq_true, ab_bs, ab_bn, ab_pr0, ab_pr1, nl_n, nl_i, nl_r, nl_j, nl_nl, rc_0, gf_0_0, gf_0_1, gf_0_2, gf_0_3, gf_0_4, gf_0_5, gf_0_6, gf_0_7, gf_0_8, gf_0_9, pt_0_9, rc_16, gf_16_0, gf_16_1, gf_16_2, gf_16_3, pt_16_3, gf_16_4, pt_16_4, gf_16_5, pt_16_5, x1, sp_within, h1, h2, and_self, if_true, if_false, not_false_eq_true, qe_17 hw, al_f17 hw, nI_clamp (show j < 2 ^ 31 by omega), ib8 hj8]
      · rw [ms136]; simp only [q136_0, q136_1, q136_2, q136_5, q136_8, q136_9, q136_10, q136_11, q136_14, q136_17, q136_20, q136_21, q136_22, q136_23, q136_26, q136_29, q136_31, n10, n01, Bool.false_eq_true, ab_bs, ab_bn, ab_pr0, ab_pr1, nl_n, nl_i, nl_r, nl_j, nl_nl, rc_123, gf_123_0, gf_123_1, pt_123_1, gf_123_2, pt_123_2, gf_123_3, pt_123_3, gf_123_4, pt_123_4, gf_123_5, pt_123_5, gf_123_6, pt_123_6, gf_123_7, pt_123_7, gf_123_8, pt_123_8, gf_123_9, gf_123_10, gf_123_11, gf_123_12, gf_123_13, pt_123_13_0, pt_123_13_1, gf_123_14, pt_123_14_0, pt_123_14_1, gf_123_15, gf_123_16, gf_123_17, gf_123_18, gf_123_19, gf_123_20, gf_123_21, gf_123_22, gf_123_23, gf_123_24, gf_123_25, pt_123_25, gf_123_26, gf_123_27, pt_123_27, gf_123_28, pt_123_28, gf_123_29, gf_123_30, pt_123_30, gf_123_31, pt_123_31, gf_123_32, pt_123_32, gf_123_33, pt_123_33, gf_123_34, pt_123_34_0, pt_123_34_1, gf_123_35, gf_123_36, gf_123_37, gf_123_38, pt_123_38, gf_123_39, pt_123_39, gf_123_40, pt_123_40, gf_123_41, gf_123_42, gf_123_43, gf_123_44, gf_123_45, gf_123_46, gf_123_47, pt_123_47, x2, sp_in, k0, l7, h1, h2, and_self, if_true, if_false, sp_its M j w hj8 (by omega), r4 w (by omega) j hj]
    · refine ⟨M, -1000000, M, ?_, ?_, n, t, h⟩
      · rw [ms83]; simp only [q83_0, q83_1, q83_4, q83_5, q83_8, q83_11, q83_12, q83_14, q83_17, q83_20, q83_22, q83_23, q83_24, q83_27, q83_30, q83_31, q83_32, q83_33, q83_34, n10, n01, Bool.false_eq_true, ab_bs, ab_bn, ab_pr0, ab_pr1, nl_n, nl_i, nl_r, nl_j, nl_nl, rc_0, gf_0_0, gf_0_1, gf_0_2, gf_0_3, gf_0_4, gf_0_5, gf_0_6, gf_0_7, gf_0_8, gf_0_9, pt_0_9, rc_16, gf_16_0, gf_16_1, gf_16_2, gf_16_3, pt_16_3, gf_16_4, pt_16_4, gf_16_5, pt_16_5, x1, sp_within, h1, h2, and_self, if_true, if_false, not_true]
      · rw [ms136]; simp only [q136_0, q136_1, q136_2, q136_5, q136_8, q136_9, q136_10, q136_11, q136_14, q136_17, q136_20, q136_21, q136_22, q136_23, q136_26, q136_29, q136_31, n10, n01, Bool.false_eq_true, ab_bs, ab_bn, ab_pr0, ab_pr1, nl_n, nl_i, nl_r, nl_j, nl_nl, rc_123, gf_123_0, gf_123_1, pt_123_1, gf_123_2, pt_123_2, gf_123_3, pt_123_3, gf_123_4, pt_123_4, gf_123_5, pt_123_5, gf_123_6, pt_123_6, gf_123_7, pt_123_7, gf_123_8, pt_123_8, gf_123_9, gf_123_10, gf_123_11, gf_123_12, gf_123_13, pt_123_13_0, pt_123_13_1, gf_123_14, pt_123_14_0, pt_123_14_1, gf_123_15, gf_123_16, gf_123_17, gf_123_18, gf_123_19, gf_123_20, gf_123_21, gf_123_22, gf_123_23, gf_123_24, gf_123_25, pt_123_25, gf_123_26, gf_123_27, pt_123_27, gf_123_28, pt_123_28, gf_123_29, gf_123_30, pt_123_30, gf_123_31, pt_123_31, gf_123_32, pt_123_32, gf_123_33, pt_123_33, gf_123_34, pt_123_34_0, pt_123_34_1, gf_123_35, gf_123_36, gf_123_37, gf_123_38, pt_123_38, gf_123_39, pt_123_39, gf_123_40, pt_123_40, gf_123_41, gf_123_42, gf_123_43, gf_123_44, gf_123_45, gf_123_46, gf_123_47, pt_123_47, x2, sp_in, k0, l7, h1, h2, and_self, if_true, if_false]
  · refine ⟨M, -1000000, M, ?_, ?_, n, t, h⟩
    · rw [ms83]; simp only [q83_0, q83_1, q83_4, q83_5, q83_8, q83_11, q83_12, q83_14, q83_17, q83_20, q83_22, q83_23, q83_24, q83_27, q83_30, q83_31, q83_32, q83_33, q83_34, n10, n01, Bool.false_eq_true, ab_bs, ab_bn, ab_pr0, ab_pr1, nl_n, nl_i, nl_r, nl_j, nl_nl, rc_0, gf_0_0, gf_0_1, gf_0_2, gf_0_3, gf_0_4, gf_0_5, gf_0_6, gf_0_7, gf_0_8, gf_0_9, pt_0_9, rc_16, gf_16_0, gf_16_1, gf_16_2, gf_16_3, pt_16_3, gf_16_4, pt_16_4, gf_16_5, pt_16_5, x1, h1, if_true, if_false]
    · rw [ms136]; simp only [q136_0, q136_1, q136_2, q136_5, q136_8, q136_9, q136_10, q136_11, q136_14, q136_17, q136_20, q136_21, q136_22, q136_23, q136_26, q136_29, q136_31, n10, n01, Bool.false_eq_true, ab_bs, ab_bn, ab_pr0, ab_pr1, nl_n, nl_i, nl_r, nl_j, nl_nl, rc_123, gf_123_0, gf_123_1, pt_123_1, gf_123_2, pt_123_2, gf_123_3, pt_123_3, gf_123_4, pt_123_4, gf_123_5, pt_123_5, gf_123_6, pt_123_6, gf_123_7, pt_123_7, gf_123_8, pt_123_8, gf_123_9, gf_123_10, gf_123_11, gf_123_12, gf_123_13, pt_123_13_0, pt_123_13_1, gf_123_14, pt_123_14_0, pt_123_14_1, gf_123_15, gf_123_16, gf_123_17, gf_123_18, gf_123_19, gf_123_20, gf_123_21, gf_123_22, gf_123_23, gf_123_24, gf_123_25, pt_123_25, gf_123_26, gf_123_27, pt_123_27, gf_123_28, pt_123_28, gf_123_29, gf_123_30, pt_123_30, gf_123_31, pt_123_31, gf_123_32, pt_123_32, gf_123_33, pt_123_33, gf_123_34, pt_123_34_0, pt_123_34_1, gf_123_35, gf_123_36, gf_123_37, gf_123_38, pt_123_38, gf_123_39, pt_123_39, gf_123_40, pt_123_40, gf_123_41, gf_123_42, gf_123_43, gf_123_44, gf_123_45, gf_123_46, gf_123_47, pt_123_47, x2, h1, if_true, if_false]
end CV
theorem LE2000 {scr : Option (List Int32)} {M : ab_M} : ab_ald scr ab_L0 M 2000 .int 0 = some 0 ∧ ab_ald scr ab_L0 M 2000 .int 1 = some 1 ∧ ab_ald scr ab_L0 M 2000 .int 2 = some 1 ∧ ab_ald scr ab_L0 M 2000 .int 3 = some 1 ∧ ab_ald scr ab_L0 M 2000 .int 4 = some 0 ∧ ab_ald scr ab_L0 M 2000 .int 5 = some 0 ∧ ab_ald scr ab_L0 M 2000 .int 6 = some 0 ∧ ab_ald scr ab_L0 M 2000 .int 7 = some (-99999) := ⟨rfl, rfl, rfl, rfl, rfl, rfl, rfl, rfl⟩
theorem MO2001 {scr : Option (List Int32)} {M : ab_M} : ab_ald scr ab_L0 M 2001 .int 0 = some 239 ∧ ab_ald scr ab_L0 M 2001 .int 1 = some 240 ∧ ab_ald scr ab_L0 M 2001 .int 2 = some 99 ∧ ab_ald scr ab_L0 M 2001 .int 3 = some 99 ∧ ab_ald scr ab_L0 M 2001 .int 4 = some 999 ∧ ab_ald scr ab_L0 M 2001 .int 5 = some 9 ∧ ab_ald scr ab_L0 M 2001 .int 6 = some 1 ∧ ab_ald scr ab_L0 M 2001 .int 7 = some 99999 := ⟨rfl, rfl, rfl, rfl, rfl, rfl, rfl, rfl⟩
