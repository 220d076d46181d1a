/-! keep, back, count -/
def kpL (a b k : Nat) (M : ab_M) : ab_M := fun c j => if c = 127 ∧ a ≤ j ∧ j < a + k then M 127 (b + (j - a)) else M c j
theorem kp_in {a b k : Nat} {M : ab_M} {j : Nat} (h : j < k) : kpL a b k M 127 (a + j) = M 127 (b + j) := by
  unfold kpL
  rw [if_pos (by omega), show a + j - a = j by omega]
theorem kp_n {a b k : Nat} {M : ab_M} {c j : Nat} (h : ¬ (c = 127 ∧ a ≤ j ∧ j < a + k)) : kpL a b k M c j = M c j := by
  unfold kpL
  rw [if_neg h]
theorem kp_s {a b k : Nat} {M : ab_M} (h : b + 100 ≤ a ∨ a + 100 ≤ b) (hk : k < 100) : ab_up (kpL a b k M) 127 (a + k) (kpL a b k M 127 (b + k)) = kpL a b (k + 1) M := by
  funext c j
  unfold ab_up
  by_cases e : c = 127 ∧ j = a + k
  · obtain ⟨rfl, rfl⟩ := e
    rw [if_pos ⟨rfl, rfl⟩, kp_in (by omega), kp_n (by omega)]
  · rw [if_neg e]
    by_cases x : c = 127 ∧ a ≤ j ∧ j < a + k
    · obtain ⟨rfl, x1, x2⟩ := x
      unfold kpL
      rw [if_pos (by omega), if_pos (by omega)]
    · rw [kp_n x, kp_n (by omega)]
theorem AX_awk {n t : Nat} {K : Int} {M : ab_M} (h : CR n t K M) : AX M (awk M) := by
  refine ⟨fun c j hc => awk_c (by omega) (by omega), fun j a b c => awk_123 b, fun j hj => awk_c (by decide) (fun q => hj q.2), ?_⟩
  exact Or.inr ⟨awk_14, awk_73 h.2.1⟩
theorem s146 {i : Int32} (h : ab_inB i 2 = true) : (FieldType.boolean = .byte ∧ ab_si 146 .byte i = true) ∨ (FieldType.boolean = .boolean ∧ ab_ar ab_L0 146 .byte = none ∧ ab_si 146 .boolean i = true) := Or.inr ⟨rfl, (bz_146 i).2, by rw [(bz_146 i).1, h]⟩
section CK
variable {scr : Option (List Int32)} {n t : Nat} {K : Int} {M : ab_M}
theorem cl_back (h : CR n t K M) (kk : Int32) : cokI scr 105 190 [.int kk] M (CRX K) := by
  by_cases h1 : 0 ≤ kk ∧ kk < 2
  · have hk := rng2 h1
    obtain ⟨u, hu, hku⟩ : ∃ u : Nat, u < 2 ∧ kk = nI u := rng (b := 2) (by decide) h1
    have him := h.2.2.1 u hu
    have hq : ab_qe 28 kk = some (.ref (89 + 13 * u)) := by rw [hku]; exact qe_28 hu
    have hb : ab_bl scr M 146 kk = some (M 146 u) := by rw [bl_146, hku, ib_nI hu (by decide), nI_clamp (by omega)]; rfl
    have hg : ∀ N : ab_M, ab_gF ab_L0 N (89 + 13 * u) 3 1 = some (.int (N (89 + 13 * u) 1)) ∧ ab_gF ab_L0 N (89 + 13 * u) 3 0 = some (.ref (90 + 13 * u)) := by
      intro N
      have : u = 0 ∨ u = 1 := by omega
      rcases this with rfl | rfl
      · exact ⟨rfl, rfl⟩
      · exact ⟨rfl, rfl⟩
    have hPO : PO (90 + 13 * u) (92 + 13 * u) := by
      have : u = 0 ∨ u = 1 := by omega
      rcases this with rfl | rfl
      · exact PO90
      · exact PO103
    have hg1 := fun N => (hg N).1
    have hg0 := fun N => (hg N).2
    rcases him with ⟨a, b⟩ | ⟨a, b, c, n', t', d, e, f⟩
    · refine ⟨M, -2, M, ?_, ?_, n, t, h⟩
      · rw [ms105]; simp only [q105_0, q105_1, q105_2, q105_5, q105_8, q105_9, q105_10, q105_11, q105_14, q105_15, q105_16, q105_19, q105_22, q105_24, q105_25, q105_26, q105_29, q105_30, q105_33, q105_34, q105_35, q105_38, q105_41, q105_42, q105_45, q105_48, n10, n01, Bool.false_eq_true, ab_bs, ab_bn, ab_pr0, ab_pr1, nl_n, nl_i, nl_r, nl_j, nl_nl, rc_0, gf_0_0, gf_0_1, gf_0_2, gf_0_3, gf_0_4, gf_0_5, gf_0_6, gf_0_7, gf_0_8, gf_0_9, pt_0_9, sp_within, h1, and_self, if_true, not_false_eq_true, hq, hg1, a, not_true, if_false]
      · rw [ms190]; simp only [q190_0, q190_1, q190_2, q190_3, q190_4, q190_7, q190_10, q190_11, q190_12, q190_13, q190_16, q190_17, q190_18, q190_21, q190_23, q190_24, q190_25, q190_27, q190_29, q190_32, q190_33, q190_36, q190_37, q190_38, q190_41, q190_43, q190_44, q190_45, q190_46, q190_47, q190_48, q190_49, q190_50, q190_51, q190_54, q190_57, q190_58, q190_61, q190_63, q190_64, n10, n01, Bool.false_eq_true, ab_bs, ab_bn, ab_pr0, ab_pr1, nl_n, nl_i, nl_r, nl_j, nl_nl, rc_123, gf_123_0, gf_123_1, pt_123_1, gf_123_2, pt_123_2, gf_123_3, pt_123_3, gf_123_4, pt_123_4, gf_123_5, pt_123_5, gf_123_6, pt_123_6, gf_123_7, pt_123_7, gf_123_8, pt_123_8, gf_123_9, gf_123_10, gf_123_11, gf_123_12, gf_123_13, pt_123_13_0, pt_123_13_1, gf_123_14, pt_123_14_0, pt_123_14_1, gf_123_15, gf_123_16, gf_123_17, gf_123_18, gf_123_19, gf_123_20, gf_123_21, gf_123_22, gf_123_23, gf_123_24, gf_123_25, pt_123_25, gf_123_26, gf_123_27, pt_123_27, gf_123_28, pt_123_28, gf_123_29, gf_123_30, pt_123_30, gf_123_31, pt_123_31, gf_123_32, pt_123_32, gf_123_33, pt_123_33, gf_123_34, pt_123_34_0, pt_123_34_1, gf_123_35, gf_123_36, gf_123_37, gf_123_38, pt_123_38, gf_123_39, pt_123_39, gf_123_40, pt_123_40, gf_123_41, gf_123_42, gf_123_43, gf_123_44, gf_123_45, gf_123_46, gf_123_47, pt_123_47, sp_in, k0, l1, h1, and_self, if_true, not_false_eq_true, hb, b, not_true, if_false]
    · have hcp := sp_copy (scr := scr) 16 18 (90 + 13 * u) (92 + 13 * u) PO16 hPO (by omega) rfl (by omega) (by omega) M
      generalize hM1 : cpC 16 18 (90 + 13 * u) (92 + 13 * u) M = M1 at *
      have y : ∀ c j, c ≠ 16 → ¬ (18 ≤ c ∧ c < 28) → M1 c j = M c j := fun c j x z => by rw [← hM1, cp_n x z]
      have hb1 : ab_bl scr M1 146 kk = some (M1 146 u) := by rw [bl_146, hku, ib_nI hu (by decide), nI_clamp (by omega)]; rfl
      refine ⟨M1, nI n', kpL 0 (100 * (u + 1)) 100 M1, ?_, ?_, n', t', ?_⟩
      · have e16 : M1 16 3 = nI n' := by rw [← hM1, cp_ob rfl (by decide), d.2.2.1]
        rw [ms105]; simp only [q105_0, q105_1, q105_2, q105_5, q105_8, q105_9, q105_10, q105_11, q105_14, q105_15, q105_16, q105_19, q105_22, q105_24, q105_25, q105_26, q105_29, q105_30, q105_33, q105_34, q105_35, q105_38, q105_41, q105_42, q105_45, q105_48, n10, n01, Bool.false_eq_true, ab_bs, ab_bn, ab_pr0, ab_pr1, nl_n, nl_i, nl_r, nl_j, nl_nl, rc_0, gf_0_0, gf_0_1, gf_0_2, gf_0_3, gf_0_4, gf_0_5, gf_0_6, gf_0_7, gf_0_8, gf_0_9, pt_0_9, rc_16, gf_16_0, gf_16_1, gf_16_2, gf_16_3, pt_16_3, gf_16_4, pt_16_4, gf_16_5, pt_16_5, sp_within, h1, and_self, if_true, not_false_eq_true, hq, hg1, hg0, a, if_false, hcp, e16]
      · rw [ms190]
        simp only [q190_0, q190_1, q190_2, q190_3, q190_4, q190_7, q190_10, q190_11, q190_12, q190_13, q190_16, q190_17, q190_18, q190_21, q190_23, q190_24, q190_25, q190_27, q190_29, q190_32, q190_33, q190_36, q190_37, q190_38, q190_41, q190_43, q190_44, q190_45, q190_46, q190_47, q190_48, q190_49, q190_50, q190_51, q190_54, q190_57, q190_58, q190_61, q190_63, q190_64, n10, n01, Bool.false_eq_true, ab_bs, ab_bn, ab_pr0, ab_pr1, nl_n, nl_i, nl_r, nl_j, nl_nl, rc_123, gf_123_0, gf_123_1, pt_123_1, gf_123_2, pt_123_2, gf_123_3, pt_123_3, gf_123_4, pt_123_4, gf_123_5, pt_123_5, gf_123_6, pt_123_6, gf_123_7, pt_123_7, gf_123_8, pt_123_8, gf_123_9, gf_123_10, gf_123_11, gf_123_12, gf_123_13, pt_123_13_0, pt_123_13_1, gf_123_14, pt_123_14_0, pt_123_14_1, gf_123_15, gf_123_16, gf_123_17, gf_123_18, gf_123_19, gf_123_20, gf_123_21, gf_123_22, gf_123_23, gf_123_24, gf_123_25, pt_123_25, gf_123_26, gf_123_27, pt_123_27, gf_123_28, pt_123_28, gf_123_29, gf_123_30, pt_123_30, gf_123_31, pt_123_31, gf_123_32, pt_123_32, gf_123_33, pt_123_33, gf_123_34, pt_123_34_0, pt_123_34_1, gf_123_35, gf_123_36, gf_123_37, gf_123_38, pt_123_38, gf_123_39, pt_123_39, gf_123_40, pt_123_40, gf_123_41, gf_123_42, gf_123_43, gf_123_44, gf_123_45, gf_123_46, gf_123_47, pt_123_47, sp_in, k0, l1, h1, and_self, if_true, not_false_eq_true, hb1, y 146 _ (by decide) (by decide), b, if_false]
        refine Eq.trans ?_ ((rn (fun k => ab_res scr 190 2 (kpL 0 (100 * (u + 1)) k M1) 26 [some (.ref 123), some (.int kk), some (.int (nI k))] []) (100) (fun k hk => ?_)).trans ?_)
        · have : kpL 0 (100 * (u + 1)) 0 M1 = M1 := by
            funext c j
            rw [kp_n (by omega)]
          rw [this]
          rfl
        · have hi := hk
          generalize k = i at *
          have i1 : ¬ (100 : Int32) ≤ nI i := nI_ge (b := 100) hi (by decide)
          have i2 : 100 * (kk + 1) + nI i = nI (100 * (u + 1) + i) := by
            rw [hku, nI_1, show (100 : Int32) = nI 100 by decide, show nI 100 * nI (u + 1) = nI (100 * (u + 1)) from (Int32.ofNat_mul 100 (u + 1)).symm, nI_add]
          have i3 : (0 + i) = i := by omega
          have := kp_s (a := 0) (b := 100 * (u + 1)) (k := i) (M := M1) (by omega) hi
          rw [i3] at this
          rw [q190_26]
          simp only [q190_0, q190_1, q190_2, q190_3, q190_4, q190_7, q190_10, q190_11, q190_12, q190_13, q190_16, q190_17, q190_18, q190_21, q190_23, q190_24, q190_25, q190_27, q190_29, q190_32, q190_33, q190_36, q190_37, q190_38, q190_41, q190_43, q190_44, q190_45, q190_46, q190_47, q190_48, q190_49, q190_50, q190_51, q190_54, q190_57, q190_58, q190_61, q190_63, q190_64, n10, n01, Bool.false_eq_true, ab_bs, ab_bn, ab_pr0, ab_pr1, nl_n, nl_i, nl_r, nl_j, nl_nl, rc_123, gf_123_0, gf_123_1, pt_123_1, gf_123_2, pt_123_2, gf_123_3, pt_123_3, gf_123_4, pt_123_4, gf_123_5, pt_123_5, gf_123_6, pt_123_6, gf_123_7, pt_123_7, gf_123_8, pt_123_8, gf_123_9, gf_123_10, gf_123_11, gf_123_12, gf_123_13, pt_123_13_0, pt_123_13_1, gf_123_14, pt_123_14_0, pt_123_14_1, gf_123_15, gf_123_16, gf_123_17, gf_123_18, gf_123_19, gf_123_20, gf_123_21, gf_123_22, gf_123_23, gf_123_24, gf_123_25, pt_123_25, gf_123_26, gf_123_27, pt_123_27, gf_123_28, pt_123_28, gf_123_29, gf_123_30, pt_123_30, gf_123_31, pt_123_31, gf_123_32, pt_123_32, gf_123_33, pt_123_33, gf_123_34, pt_123_34_0, pt_123_34_1, gf_123_35, gf_123_36, gf_123_37, gf_123_38, pt_123_38, gf_123_39, pt_123_39, gf_123_40, pt_123_40, gf_123_41, gf_123_42, gf_123_43, gf_123_44, gf_123_45, gf_123_46, gf_123_47, pt_123_47, i1, if_false, i2, r127 (show 100 * (u + 1) + i < 300 by omega), s127 (show i < 300 by omega), cn (show i < 400 by omega), if_true, nI_succ, this]
        · have e72 : kpL 0 (100 * (u + 1)) 100 M1 127 72 = nI n' := by
            rw [show (72 : Nat) = 0 + 72 by decide, kp_in (by decide), y _ _ (by decide) (by decide), e.1]
          show ab_res scr 190 2 _ 26 _ [] = _
          rw [q190_26]
          simp only [q190_0, q190_1, q190_2, q190_3, q190_4, q190_7, q190_10, q190_11, q190_12, q190_13, q190_16, q190_17, q190_18, q190_21, q190_23, q190_24, q190_25, q190_27, q190_29, q190_32, q190_33, q190_36, q190_37, q190_38, q190_41, q190_43, q190_44, q190_45, q190_46, q190_47, q190_48, q190_49, q190_50, q190_51, q190_54, q190_57, q190_58, q190_61, q190_63, q190_64, n10, n01, Bool.false_eq_true, ab_bs, ab_bn, ab_pr0, ab_pr1, nl_n, nl_i, nl_r, nl_j, nl_nl, rc_123, gf_123_0, gf_123_1, pt_123_1, gf_123_2, pt_123_2, gf_123_3, pt_123_3, gf_123_4, pt_123_4, gf_123_5, pt_123_5, gf_123_6, pt_123_6, gf_123_7, pt_123_7, gf_123_8, pt_123_8, gf_123_9, gf_123_10, gf_123_11, gf_123_12, gf_123_13, pt_123_13_0, pt_123_13_1, gf_123_14, pt_123_14_0, pt_123_14_1, gf_123_15, gf_123_16, gf_123_17, gf_123_18, gf_123_19, gf_123_20, gf_123_21, gf_123_22, gf_123_23, gf_123_24, gf_123_25, pt_123_25, gf_123_26, gf_123_27, pt_123_27, gf_123_28, pt_123_28, gf_123_29, gf_123_30, pt_123_30, gf_123_31, pt_123_31, gf_123_32, pt_123_32, gf_123_33, pt_123_33, gf_123_34, pt_123_34_0, pt_123_34_1, gf_123_35, gf_123_36, gf_123_37, gf_123_38, pt_123_38, gf_123_39, pt_123_39, gf_123_40, pt_123_40, gf_123_41, gf_123_42, gf_123_43, gf_123_44, gf_123_45, gf_123_46, gf_123_47, pt_123_47, (show (100 : Int32) ≤ nI 100 by decide), if_true, r72, e72]
      · have yk : ∀ c j, c ≠ 127 → kpL 0 (100 * (u + 1)) 100 M1 c j = M1 c j := fun c j x => kp_n (by omega)
        have yi : ∀ j, j < 100 → kpL 0 (100 * (u + 1)) 100 M1 127 j = M 127 (100 * (u + 1) + j) := by
          intro j hj
          have := kp_in (a := 0) (b := 100 * (u + 1)) (k := 100) (M := M1) hj
          rw [show 0 + j = j by omega] at this
          rw [this, y _ _ (by decide) (by decide)]
        have hn' := d.1
        have ht' := d.2.1
        refine CR_page h (fun c j x z => ?_) ?_ ?_
        · by_cases e7 : c = 127
          · subst e7
            rw [kp_n (by omega), y _ _ (by decide) (by decide)]
          · rw [yk c j e7, y c j (by omega) (by omega)]
        · refine pgV_of (M := M1) ?_ (fun j => yk _ _ (by decide)) (fun w j hw => yk _ _ (by omega))
          rw [← hM1]
          exact pgV_cp rfl d
        · obtain ⟨e1, e2, e3, e4⟩ := e
          have r : ∀ w p, w < 9 → p < 8 → M1 (18 + w) p = M (92 + 13 * u + w) p := fun w p hw hp => by rw [← hM1, cp_row hw hp]
          refine ⟨by rw [yi 72 (by decide), e1], Or.inr ⟨?_, ?_⟩, by rw [yi 86 (by decide), e2], fun w hw p hp => ?_, fun i hi => ?_⟩
          · rw [yk _ _ (by decide), y _ _ (by decide) (by decide)]
            exact c
          · rw [yi 73 (by decide), f, yk _ _ (by decide), ← hM1, cp_ob rfl (by decide)]
          · rw [yi _ (by omega), e3 w hw p hp, yk _ _ (by omega), r w p hw (by omega)]
          · rw [yi _ (by omega), e4 i hi, yk _ _ (by decide), ← hM1]
            exact (cp_book (ob := 16) (fb := 18) (by omega)).symm
  · refine ⟨M, -1, M, ?_, ?_, n, t, h⟩
    · rw [ms105]; simp only [q105_0, q105_1, q105_2, q105_5, q105_8, q105_9, q105_10, q105_11, q105_14, q105_15, q105_16, q105_19, q105_22, q105_24, q105_25, q105_26, q105_29, q105_30, q105_33, q105_34, q105_35, q105_38, q105_41, q105_42, q105_45, q105_48, n10, n01, Bool.false_eq_true, ab_bs, ab_bn, ab_pr0, ab_pr1, nl_n, nl_i, nl_r, nl_j, nl_nl, sp_within, h1, if_false, not_true]
    · rw [ms190]; simp only [q190_0, q190_1, q190_2, q190_3, q190_4, q190_7, q190_10, q190_11, q190_12, q190_13, q190_16, q190_17, q190_18, q190_21, q190_23, q190_24, q190_25, q190_27, q190_29, q190_32, q190_33, q190_36, q190_37, q190_38, q190_41, q190_43, q190_44, q190_45, q190_46, q190_47, q190_48, q190_49, q190_50, q190_51, q190_54, q190_57, q190_58, q190_61, q190_63, q190_64, n10, n01, Bool.false_eq_true, ab_bs, ab_bn, ab_pr0, ab_pr1, nl_n, nl_i, nl_r, nl_j, nl_nl, sp_in, k0, l1, h1, if_false, not_true]
end CK
