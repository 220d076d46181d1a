theorem CR_image {n t u : Nat} {K : Int} {A M' : ab_M} (hu : u < 2) (h : CR n t K A) (hx : ∀ c j, ¬ (89 + 13 * u ≤ c ∧ c < 102 + 13 * u) → ¬ (c = 127 ∧ 100 * (u + 1) ≤ j ∧ j < 100 * (u + 1) + 100) → ¬ (c = 146 ∧ j = u) → M' c j = A c j) (hi : imR u K M') : CR n t K M' := by
  obtain ⟨h1, h2, h3, h4, h5, h6, h7, h8⟩ := h
  have y : ∀ c j, ¬ (89 ≤ c ∧ c < 115) → c ≠ 127 → c ≠ 146 → M' c j = A c j := fun c j a b d => hx c j (by omega) (by omega) (by omega)
  have y7 : ∀ j, j < 100 → M' 127 j = A 127 j := fun j hj => hx 127 j (by omega) (by omega) (by omega)
  refine ⟨pgV_of h1 (fun j => y _ _ (by decide) (by decide) (by decide)) (fun w j hw => y _ _ (by omega) (by omega) (by omega)), ?_, fun k hk => ?_, fun k hk => ?_, ?_, ?_, ?_, ?_⟩
  · obtain ⟨a, b, c, d, e⟩ := h2
    have hn := h1.1
    have ht := h1.2.1
    exact ⟨by rw [y7 _ (by decide), a], by rw [y7 _ (by decide), y _ _ (by decide) (by decide) (by decide), y _ _ (by decide) (by decide) (by decide)]; exact b, by rw [y7 _ (by decide), c], fun w hw p hp => by rw [y7 _ (by omega), y _ _ (by omega) (by omega) (by omega)]; exact d w hw p hp, fun i hi => by rw [y7 _ (by omega), y _ _ (by decide) (by decide) (by decide)]; exact e i hi⟩
  · by_cases e : k = u
    · rw [e]; exact hi
    · have z : ∀ c j, 89 + 13 * k ≤ c → c < 102 + 13 * k → M' c j = A c j := fun c j a b => hx c j (by omega) (by omega) (by omega)
      have z7 : ∀ j, j < 100 → M' 127 (100 * (k + 1) + j) = A 127 (100 * (k + 1) + j) := fun j hj => hx _ _ (by omega) (by omega) (by omega)
      rcases h3 k hk with ⟨a, b⟩ | ⟨a, b, c, n', t', d, e', f⟩
      · exact Or.inl ⟨by rw [z _ _ (by omega) (by omega), a], by rw [hx _ _ (by omega) (by omega) (by omega), b]⟩
      · exact Or.inr ⟨by rw [z _ _ (by omega) (by omega), a], by rw [hx _ _ (by omega) (by omega) (by omega), b], by rw [y _ _ (by decide) (by decide) (by decide)]; exact c, n', t', pgV_of d (fun j => z _ _ (by omega) (by omega)) (fun w j hw => z _ _ (by omega) (by omega)), pgR_of e' d.1 d.2.1 (fun w j hw => z _ _ (by omega) (by omega)) (fun j hj _ => z7 j hj), by rw [z7 _ (by decide), z _ _ (by omega) (by omega), f]⟩
  · rcases h4 k hk with ⟨a, b⟩ | ⟨s, l, a, b, c, d, e, f, g⟩
    · exact Or.inl ⟨by rw [y _ _ (by omega) (by omega) (by omega), a], by rw [y _ _ (by omega) (by omega) (by omega), b]⟩
    · exact Or.inr ⟨s, l, a, b, by rw [y _ _ (by omega) (by omega) (by omega), c], by rw [y _ _ (by omega) (by omega) (by omega), d], by rw [y _ _ (by omega) (by omega) (by omega), e], by rw [y _ _ (by omega) (by omega) (by omega), f], fun i hi => by rw [y _ _ (by omega) (by omega) (by omega), y _ _ (by omega) (by omega) (by omega)]; exact g i hi⟩
  · obtain ⟨L, a, b, c, d⟩ := h5
    exact ⟨L, a, by rw [y _ _ (by omega) (by omega) (by omega), b], by rw [y _ _ (by omega) (by omega) (by omega), c], fun i hi => by rw [y _ _ (by omega) (by omega) (by omega), y _ _ (by omega) (by omega) (by omega)]; exact d i hi⟩
  · intro q hq hq2
    rw [y _ _ (by omega) (by omega) (by omega)]
    exact h6 q hq hq2
  · rw [y _ _ (by omega) (by omega) (by omega), y _ _ (by omega) (by omega) (by omega), h7]
  · rw [y _ _ (by omega) (by omega) (by omega), y _ _ (by omega) (by omega) (by omega), h8]
section CK
variable {scr : Option (List Int32)} {n t : Nat} {K : Int} {M : ab_M}
theorem cl_keep (h : CR n t K M) (kk : Int32) : cokI scr 104 189 [.int kk] M (CRX K) := by
  by_cases h1 : 0 ≤ kk ∧ kk < 2
  · obtain ⟨u, hu, hku⟩ : ∃ u : Nat, u < 2 ∧ kk = nI u := rng (b := 2) (by decide) h1
    have him := h.2.2.1 u hu
    have hq : ab_qe 28 kk = some (.ref (89 + 13 * u)) := by rw [hku]; exact qe_28 hu
    have hinB : ab_inB kk 2 = true := by rw [hku]; exact ib_nI hu (by decide)
    have hcl : kk.toNatClampNeg = u := by rw [hku]; exact nI_clamp (by omega)
    have hu2 : u = 0 ∨ u = 1 := by omega
    have hg : ∀ N : ab_M, ab_gF ab_L0 N (89 + 13 * u) 3 1 = some (.int (N (89 + 13 * u) 1)) ∧ ab_gF ab_L0 N (89 + 13 * u) 3 0 = some (.ref (90 + 13 * u)) := by
      intro N
      rcases hu2 with rfl | rfl
      · exact ⟨rfl, rfl⟩
      · exact ⟨rfl, rfl⟩
    have hPO : PO (90 + 13 * u) (92 + 13 * u) := by
      rcases hu2 with rfl | rfl
      · exact PO90
      · exact PO103
    have hpt : ab_pt (89 + 13 * u) 3 1 1 = true := by
      rcases hu2 with rfl | rfl
      · rfl
      · rfl
    have hrc : ab_rc ab_L0 (90 + 13 * u) = some 4 := by
      rcases hu2 with rfl | rfl
      · rfl
      · rfl
    have hg1 := fun N => (hg N).1
    have hg0 := fun N => (hg N).2
    have hfl : (M (89 + 13 * u) 1 = 0 ∧ M 146 u = 0) ∨ (M (89 + 13 * u) 1 = 1 ∧ M 146 u = 1) := by
      rcases him with ⟨a, b⟩ | ⟨a, b, -⟩
      · exact Or.inl ⟨a, b⟩
      · exact Or.inr ⟨a, b⟩
    have hcp := sp_copy (scr := scr) (90 + 13 * u) (92 + 13 * u) 16 18 hPO PO16 (by omega) (by omega) rfl (by omega) M
    have hM1a : ab_up (cpC (90 + 13 * u) (92 + 13 * u) 16 18 M) (89 + 13 * u) 1 1 = ab_up (cpC (90 + 13 * u) (92 + 13 * u) 16 18 M) (89 + 13 * u) 1 1 := rfl
    generalize hM1 : ab_up (cpC (90 + 13 * u) (92 + 13 * u) 16 18 M) (89 + 13 * u) 1 1 = M1 at hM1a
    have y : ∀ c j, ¬ (89 + 13 * u ≤ c ∧ c < 102 + 13 * u) → M1 c j = M c j := fun c j x => by rw [← hM1, up_n (by omega), cp_n (by omega) (by omega)]
    have yA : ∀ c j, ¬ (89 + 13 * u ≤ c ∧ c < 102 + 13 * u) → awk M1 c j = awk M c j := by
      intro c j x
      unfold awk
      rw [y 123 14 (by omega)]
      split
      · unfold ab_up
        rw [y c j x]
      · rw [y c j x]
    have hans : M (89 + 13 * u) 1 = M 146 u := by rcases hfl with ⟨a, b⟩ | ⟨a, b⟩ <;> rw [a, b]
    have hif : (if M (89 + 13 * u) 1 = 0 then (0 : Int32) else 1) = M 146 u := by
      rcases hfl with ⟨a, b⟩ | ⟨a, b⟩
      · rw [a, b]; rfl
      · rw [a, b]; rfl
    refine ⟨M1, M 146 u, ab_up (kpL (100 * (u + 1)) 0 100 (awk M1)) 146 u 1, ?_, ?_, n, t, ?_⟩
    · rw [ms104]
      rcases hfl with ⟨a, b⟩ | ⟨a, b⟩
      · simp only [q104_0, q104_1, q104_2, q104_5, q104_8, q104_9, q104_10, q104_11, q104_14, q104_15, q104_16, q104_19, q104_22, q104_23, q104_26, q104_27, q104_28, q104_29, q104_32, q104_33, q104_34, q104_37, q104_38, q104_41, q104_44, q104_45, q104_48, q104_49, q104_50, q104_51, q104_54, q104_55, n10, n01, Bool.false_eq_true, ab_bs, ab_bn, ab_pr0, ab_pr1, nl_n, nl_i, nl_r, nl_j, nl_nl, rc_0, gf_0_0, gf_0_1, gf_0_2, gf_0_3, gf_0_4, gf_0_5, gf_0_6, gf_0_7, gf_0_8, gf_0_9, pt_0_9, sp_within, h1, and_self, if_true, not_false_eq_true, hq, hg1, hg0, a, b, hrc, hcp, hpt, hM1]
      · simp only [q104_0, q104_1, q104_2, q104_5, q104_8, q104_9, q104_10, q104_11, q104_14, q104_15, q104_16, q104_19, q104_22, q104_23, q104_26, q104_27, q104_28, q104_29, q104_32, q104_33, q104_34, q104_37, q104_38, q104_41, q104_44, q104_45, q104_48, q104_49, q104_50, q104_51, q104_54, q104_55, n10, n01, Bool.false_eq_true, ab_bs, ab_bn, ab_pr0, ab_pr1, nl_n, nl_i, nl_r, nl_j, nl_nl, rc_0, gf_0_0, gf_0_1, gf_0_2, gf_0_3, gf_0_4, gf_0_5, gf_0_6, gf_0_7, gf_0_8, gf_0_9, pt_0_9, sp_within, h1, and_self, if_true, if_false, not_false_eq_true, hq, hg1, hg0, a, b, hrc, hcp, hpt, hM1]
    · have yk : ∀ i c j, c ≠ 127 → kpL (100 * (u + 1)) 0 i (awk M1) c j = awk M1 c j := fun i c j x => kp_n (by omega)
      have y146 : awk M1 146 u = M 146 u := by rw [awk_c (by decide) (by omega), y _ _ (by omega)]
      rw [ms189]
      simp only [q189_0, q189_1, q189_4, q189_5, q189_6, q189_7, q189_8, q189_11, q189_14, q189_15, q189_16, q189_17, q189_19, q189_21, q189_24, q189_25, q189_28, q189_30, q189_31, q189_32, q189_33, q189_34, q189_35, q189_36, q189_37, q189_40, q189_41, q189_42, q189_43, q189_46, q189_49, q189_50, q189_53, q189_54, q189_55, q189_58, q189_59, q189_62, q189_63, q189_64, q189_65, q189_68, q189_69, q189_71, q189_72, n10, n01, Bool.false_eq_true, ab_bs, ab_bn, ab_pr0, ab_pr1, nl_n, nl_i, nl_r, nl_j, nl_nl, rc_123, gf_123_0, gf_123_1, pt_123_1, gf_123_2, pt_123_2, gf_123_3, pt_123_3, gf_123_4, pt_123_4, gf_123_5, pt_123_5, gf_123_6, pt_123_6, gf_123_7, pt_123_7, gf_123_8, pt_123_8, gf_123_9, gf_123_10, gf_123_11, gf_123_12, gf_123_13, pt_123_13_0, pt_123_13_1, gf_123_14, pt_123_14_0, pt_123_14_1, gf_123_15, gf_123_16, gf_123_17, gf_123_18, gf_123_19, gf_123_20, gf_123_21, gf_123_22, gf_123_23, gf_123_24, gf_123_25, pt_123_25, gf_123_26, gf_123_27, pt_123_27, gf_123_28, pt_123_28, gf_123_29, gf_123_30, pt_123_30, gf_123_31, pt_123_31, gf_123_32, pt_123_32, gf_123_33, pt_123_33, gf_123_34, pt_123_34_0, pt_123_34_1, gf_123_35, gf_123_36, gf_123_37, gf_123_38, pt_123_38, gf_123_39, pt_123_39, gf_123_40, pt_123_40, gf_123_41, gf_123_42, gf_123_43, gf_123_44, gf_123_45, gf_123_46, gf_123_47, pt_123_47, rp_awake, sp_in, k0, l1, h1, and_self, if_true, not_false_eq_true]
      refine Eq.trans ?_ ((rn (fun k => ab_res scr 189 2 (kpL (100 * (u + 1)) 0 k (awk M1)) 18 [some (.ref 123), some (.int kk), some (.int (nI k))] []) (100) (fun k hk => ?_)).trans ?_)
      · have : kpL (100 * (u + 1)) 0 0 (awk M1) = awk M1 := by
          funext c j
          rw [kp_n (by omega)]
        rw [this]
        rfl
      · have hi := hk
        generalize k = i at *
        have i1 : ¬ (100 : Int32) ≤ nI i := nI_ge (b := 100) hi (by decide)
        have i2 : 100 * (kk + 1) + nI i = nI (100 * (u + 1) + i) := by
          rw [hku, nI_1, show (100 : Int32) = nI 100 by decide, show nI 100 * nI (u + 1) = nI (100 * (u + 1)) from (Int32.ofNat_mul 100 (u + 1)).symm, nI_add]
        have i3 : (0 + i) = i := by omega
        have := kp_s (a := 100 * (u + 1)) (b := 0) (k := i) (M := awk M1) (by omega) hi
        rw [i3] at this
        rw [q189_18]
        simp only [q189_0, q189_1, q189_4, q189_5, q189_6, q189_7, q189_8, q189_11, q189_14, q189_15, q189_16, q189_17, q189_19, q189_21, q189_24, q189_25, q189_28, q189_30, q189_31, q189_32, q189_33, q189_34, q189_35, q189_36, q189_37, q189_40, q189_41, q189_42, q189_43, q189_46, q189_49, q189_50, q189_53, q189_54, q189_55, q189_58, q189_59, q189_62, q189_63, q189_64, q189_65, q189_68, q189_69, q189_71, q189_72, n10, n01, Bool.false_eq_true, ab_bs, ab_bn, ab_pr0, ab_pr1, nl_n, nl_i, nl_r, nl_j, nl_nl, rc_123, gf_123_0, gf_123_1, pt_123_1, gf_123_2, pt_123_2, gf_123_3, pt_123_3, gf_123_4, pt_123_4, gf_123_5, pt_123_5, gf_123_6, pt_123_6, gf_123_7, pt_123_7, gf_123_8, pt_123_8, gf_123_9, gf_123_10, gf_123_11, gf_123_12, gf_123_13, pt_123_13_0, pt_123_13_1, gf_123_14, pt_123_14_0, pt_123_14_1, gf_123_15, gf_123_16, gf_123_17, gf_123_18, gf_123_19, gf_123_20, gf_123_21, gf_123_22, gf_123_23, gf_123_24, gf_123_25, pt_123_25, gf_123_26, gf_123_27, pt_123_27, gf_123_28, pt_123_28, gf_123_29, gf_123_30, pt_123_30, gf_123_31, pt_123_31, gf_123_32, pt_123_32, gf_123_33, pt_123_33, gf_123_34, pt_123_34_0, pt_123_34_1, gf_123_35, gf_123_36, gf_123_37, gf_123_38, pt_123_38, gf_123_39, pt_123_39, gf_123_40, pt_123_40, gf_123_41, gf_123_42, gf_123_43, gf_123_44, gf_123_45, gf_123_46, gf_123_47, pt_123_47, i1, if_false, i2, r127 (show i < 300 by omega), s127 (show 100 * (u + 1) + i < 300 by omega), cn (show 100 * (u + 1) + i < 400 by omega), if_true, nI_succ, this]
      · have hb1 : ab_bl scr (kpL (100 * (u + 1)) 0 100 (awk M1)) 146 kk = some (M 146 u) := by rw [bl_146, hinB, hcl, yk _ _ _ (by decide), y146]; rfl
        show ab_res scr 189 2 _ 18 _ [] = _
        rw [q189_18]
        rcases hfl with ⟨a, b⟩ | ⟨a, b⟩
        · simp only [q189_0, q189_1, q189_4, q189_5, q189_6, q189_7, q189_8, q189_11, q189_14, q189_15, q189_16, q189_17, q189_19, q189_21, q189_24, q189_25, q189_28, q189_30, q189_31, q189_32, q189_33, q189_34, q189_35, q189_36, q189_37, q189_40, q189_41, q189_42, q189_43, q189_46, q189_49, q189_50, q189_53, q189_54, q189_55, q189_58, q189_59, q189_62, q189_63, q189_64, q189_65, q189_68, q189_69, q189_71, q189_72, n10, n01, Bool.false_eq_true, ab_bs, ab_bn, ab_pr0, ab_pr1, nl_n, nl_i, nl_r, nl_j, nl_nl, rc_123, gf_123_0, gf_123_1, pt_123_1, gf_123_2, pt_123_2, gf_123_3, pt_123_3, gf_123_4, pt_123_4, gf_123_5, pt_123_5, gf_123_6, pt_123_6, gf_123_7, pt_123_7, gf_123_8, pt_123_8, gf_123_9, gf_123_10, gf_123_11, gf_123_12, gf_123_13, pt_123_13_0, pt_123_13_1, gf_123_14, pt_123_14_0, pt_123_14_1, gf_123_15, gf_123_16, gf_123_17, gf_123_18, gf_123_19, gf_123_20, gf_123_21, gf_123_22, gf_123_23, gf_123_24, gf_123_25, pt_123_25, gf_123_26, gf_123_27, pt_123_27, gf_123_28, pt_123_28, gf_123_29, gf_123_30, pt_123_30, gf_123_31, pt_123_31, gf_123_32, pt_123_32, gf_123_33, pt_123_33, gf_123_34, pt_123_34_0, pt_123_34_1, gf_123_35, gf_123_36, gf_123_37, gf_123_38, pt_123_38, gf_123_39, pt_123_39, gf_123_40, pt_123_40, gf_123_41, gf_123_42, gf_123_43, gf_123_44, gf_123_45, gf_123_46, gf_123_47, pt_123_47, (show (100 : Int32) ≤ nI 100 by decide), if_true, hb1, b]
          rw [q189_70 (ty := .boolean) (s146 hinB)]
          simp only [q189_0, q189_1, q189_4, q189_5, q189_6, q189_7, q189_8, q189_11, q189_14, q189_15, q189_16, q189_17, q189_19, q189_21, q189_24, q189_25, q189_28, q189_30, q189_31, q189_32, q189_33, q189_34, q189_35, q189_36, q189_37, q189_40, q189_41, q189_42, q189_43, q189_46, q189_49, q189_50, q189_53, q189_54, q189_55, q189_58, q189_59, q189_62, q189_63, q189_64, q189_65, q189_68, q189_69, q189_71, q189_72, n10, n01, Bool.false_eq_true, ab_bs, ab_bn, ab_pr0, ab_pr1, nl_n, nl_i, nl_r, nl_j, nl_nl, hcl, nar1]
        · simp only [q189_0, q189_1, q189_4, q189_5, q189_6, q189_7, q189_8, q189_11, q189_14, q189_15, q189_16, q189_17, q189_19, q189_21, q189_24, q189_25, q189_28, q189_30, q189_31, q189_32, q189_33, q189_34, q189_35, q189_36, q189_37, q189_40, q189_41, q189_42, q189_43, q189_46, q189_49, q189_50, q189_53, q189_54, q189_55, q189_58, q189_59, q189_62, q189_63, q189_64, q189_65, q189_68, q189_69, q189_71, q189_72, n10, n01, Bool.false_eq_true, ab_bs, ab_bn, ab_pr0, ab_pr1, nl_n, nl_i, nl_r, nl_j, nl_nl, rc_123, gf_123_0, gf_123_1, pt_123_1, gf_123_2, pt_123_2, gf_123_3, pt_123_3, gf_123_4, pt_123_4, gf_123_5, pt_123_5, gf_123_6, pt_123_6, gf_123_7, pt_123_7, gf_123_8, pt_123_8, gf_123_9, gf_123_10, gf_123_11, gf_123_12, gf_123_13, pt_123_13_0, pt_123_13_1, gf_123_14, pt_123_14_0, pt_123_14_1, gf_123_15, gf_123_16, gf_123_17, gf_123_18, gf_123_19, gf_123_20, gf_123_21, gf_123_22, gf_123_23, gf_123_24, gf_123_25, pt_123_25, gf_123_26, gf_123_27, pt_123_27, gf_123_28, pt_123_28, gf_123_29, gf_123_30, pt_123_30, gf_123_31, pt_123_31, gf_123_32, pt_123_32, gf_123_33, pt_123_33, gf_123_34, pt_123_34_0, pt_123_34_1, gf_123_35, gf_123_36, gf_123_37, gf_123_38, pt_123_38, gf_123_39, pt_123_39, gf_123_40, pt_123_40, gf_123_41, gf_123_42, gf_123_43, gf_123_44, gf_123_45, gf_123_46, gf_123_47, pt_123_47, (show (100 : Int32) ≤ nI 100 by decide), if_true, if_false, hb1, b]
          rw [q189_70 (ty := .boolean) (s146 hinB)]
          simp only [q189_0, q189_1, q189_4, q189_5, q189_6, q189_7, q189_8, q189_11, q189_14, q189_15, q189_16, q189_17, q189_19, q189_21, q189_24, q189_25, q189_28, q189_30, q189_31, q189_32, q189_33, q189_34, q189_35, q189_36, q189_37, q189_40, q189_41, q189_42, q189_43, q189_46, q189_49, q189_50, q189_53, q189_54, q189_55, q189_58, q189_59, q189_62, q189_63, q189_64, q189_65, q189_68, q189_69, q189_71, q189_72, n10, n01, Bool.false_eq_true, ab_bs, ab_bn, ab_pr0, ab_pr1, nl_n, nl_i, nl_r, nl_j, nl_nl, hcl, nar1]
    · have hA := CR_ax h (AX_awk h)
      have hpg := h.1
      have hpw := h.2.1
      refine CR_image hu hA (fun c j x z w => ?_) ?_
      · rw [up_o _ _ _ _ _ _ w, kp_n z, yA c j x]
      · have yk : ∀ c j, c ≠ 127 → c ≠ 146 → ab_up (kpL (100 * (u + 1)) 0 100 (awk M1)) 146 u 1 c j = awk M1 c j := fun c j x z => by rw [up_n z, kp_n (by omega)]
        have ya : ∀ c j, c ≠ 123 → c ≠ 127 → awk M1 c j = M1 c j := fun c j a b => awk_c a (by omega)
        have yi : ∀ j, j < 100 → ab_up (kpL (100 * (u + 1)) 0 100 (awk M1)) 146 u 1 127 (100 * (u + 1) + j) = awk M 127 j := by
          intro j hj
          have := kp_in (a := 100 * (u + 1)) (b := 0) (k := 100) (M := awk M1) hj
          rw [show 0 + j = j by omega] at this
          rw [up_n (by decide), this, yA _ _ (by omega)]
        have r16 : ∀ j, 3 ≤ j → j ≤ 5 → M1 (90 + 13 * u) j = M 16 j := fun j a b => by rw [← hM1, up_n (by omega), cp_ob (by omega) ⟨a, b⟩]
        have rw8 : ∀ w p, w < 9 → p < 8 → M1 (92 + 13 * u + w) p = M (18 + w) p := fun w p a b => by rw [← hM1, up_n (by omega), cp_row a b]
        have rb : ∀ i, i < 12 → M1 (92 + 13 * u + 9) i = M 27 i := fun i a => by rw [← hM1, up_n (by omega), cp_book a]
        have hn := hpg.1
        have ht := hpg.2.1
        refine Or.inr ⟨by rw [yk _ _ (by omega) (by omega), ya _ _ (by omega) (by omega), ← hM1, up_s], by rw [up_s], by rw [yk _ _ (by decide) (by decide)]; exact awk_14, n, t, ?_, ⟨?_, ?_, fun w hw p hp => ?_, fun i hi => ?_⟩, ?_⟩
        · refine pgV_of (M := M1) ?_ (fun j => by rw [yk _ _ (by omega) (by omega), ya _ _ (by omega) (by omega)]) (fun w j hw => by rw [yk _ _ (by omega) (by omega), ya _ _ (by omega) (by omega)])
          refine pgV_of (M := cpC (90 + 13 * u) (92 + 13 * u) 16 18 M) (pgV_cp (by omega) hpg) (fun j => by rw [← hM1, up_n (by omega)]) (fun w j hw => by rw [← hM1, up_n (by omega)])
        · rw [yi _ (by decide), awk_c (by decide) (by decide), hpw.1]
        · rw [yi _ (by decide), awk_c (by decide) (by decide), hpw.2.2.1]
        · rw [yi _ (by omega), awk_c (by decide) (by omega), hpw.2.2.2.1 w hw p hp, yk _ _ (by omega) (by omega), ya _ _ (by omega) (by omega), rw8 w p hw (by omega)]
        · rw [yi _ (by omega), awk_c (by decide) (by omega), hpw.2.2.2.2 i hi, yk _ _ (by omega) (by omega), ya _ _ (by omega) (by omega), rb i (by omega)]
        · rw [yi _ (by decide), awk_73 hpw, yk _ _ (by omega) (by omega), ya _ _ (by omega) (by omega), r16 4 (by decide) (by decide)]
  · refine ⟨M, -1, awk M, ?_, ?_, n, t, CR_ax h (AX_awk h)⟩
    · rw [ms104]; simp only [q104_0, q104_1, q104_2, q104_5, q104_8, q104_9, q104_10, q104_11, q104_14, q104_15, q104_16, q104_19, q104_22, q104_23, q104_26, q104_27, q104_28, q104_29, q104_32, q104_33, q104_34, q104_37, q104_38, q104_41, q104_44, q104_45, q104_48, q104_49, q104_50, q104_51, q104_54, q104_55, n10, n01, Bool.false_eq_true, ab_bs, ab_bn, ab_pr0, ab_pr1, nl_n, nl_i, nl_r, nl_j, nl_nl, sp_within, h1, if_false, not_true]
    · rw [ms189]; simp only [q189_0, q189_1, q189_4, q189_5, q189_6, q189_7, q189_8, q189_11, q189_14, q189_15, q189_16, q189_17, q189_19, q189_21, q189_24, q189_25, q189_28, q189_30, q189_31, q189_32, q189_33, q189_34, q189_35, q189_36, q189_37, q189_40, q189_41, q189_42, q189_43, q189_46, q189_49, q189_50, q189_53, q189_54, q189_55, q189_58, q189_59, q189_62, q189_63, q189_64, q189_65, q189_68, q189_69, q189_71, q189_72, n10, n01, Bool.false_eq_true, ab_bs, ab_bn, ab_pr0, ab_pr1, nl_n, nl_i, nl_r, nl_j, nl_nl, rc_123, gf_123_0, gf_123_1, pt_123_1, gf_123_2, pt_123_2, gf_123_3, pt_123_3, gf_123_4, pt_123_4, gf_123_5, pt_123_5, gf_123_6, pt_123_6, gf_123_7, pt_123_7, gf_123_8, pt_123_8, gf_123_9, gf_123_10, gf_123_11, gf_123_12, gf_123_13, pt_123_13_0, pt_123_13_1, gf_123_14, pt_123_14_0, pt_123_14_1, gf_123_15, gf_123_16, gf_123_17, gf_123_18, gf_123_19, gf_123_20, gf_123_21, gf_123_22, gf_123_23, gf_123_24, gf_123_25, pt_123_25, gf_123_26, gf_123_27, pt_123_27, gf_123_28, pt_123_28, gf_123_29, gf_123_30, pt_123_30, gf_123_31, pt_123_31, gf_123_32, pt_123_32, gf_123_33, pt_123_33, gf_123_34, pt_123_34_0, pt_123_34_1, gf_123_35, gf_123_36, gf_123_37, gf_123_38, pt_123_38, gf_123_39, pt_123_39, gf_123_40, pt_123_40, gf_123_41, gf_123_42, gf_123_43, gf_123_44, gf_123_45, gf_123_46, gf_123_47, pt_123_47, rp_awake, sp_in, k0, l1, h1, if_false, not_true]
end CK
