/-! BEST: the class's make -/
def obF (F : ab_M) (p : Nat) : Int := (F 25 p - F (33 + p) 1).toInt
/-- the best that the class finds -/
def bsV (n i : Nat) (F : ab_M) : Int × (Nat → Nat) := df n (mkB n F) (coB F) i 0 (obF F) (fun _ => 0) (2147483647, fun _ => 0)
def PE (F S : ab_M) : Prop := ∀ c j, ¬ (81 ≤ c ∧ c ≤ 84) → S c j = F c j
theorem fr_lim {n t i : Nat} {K : Int} {M : ab_M} (hK : 0 ≤ K) (hK2 : K ≤ 200000000) (h : CR n t K M) (hi : frC n M 30 3 = nI i) (h6 : i ≤ 6) : (frC n M 30 4).toInt = lf (coB (frC n M)) i 0 ∧ (∀ r, r < i → mk n (npV n (frC n M) (frC n M (41 + r) 4)) ∧ 0 ≤ coB (frC n M) r ∧ coB (frC n M) r ≤ 792) ∧ (∀ p, p < n → -400000000 ≤ obF (frC n M) p ∧ obF (frC n M) p ≤ 400000000) ∧ ∀ p, p < n → frC n M (33 + p) 0 = M 25 p := by
  obtain ⟨-, hC, hFC, hB, -⟩ := frC_ok h
  have hn := CR_n h
  obtain ⟨i', hQ⟩ := LQ_fr h
  have ei : i = i' := by
    have e := congrArg Int32.toNatClampNeg (hi.symm.trans hQ.2.2.1)
    rwa [nI_clamp (by omega), nI_clamp (by have := hQ.2.1; omega)] at e
  subst ei
  obtain ⟨-, j, j1, j2, b1, b2, b3, b4, b5⟩ := hB
  have ej : i = j := by
    have e := congrArg Int32.toNatClampNeg (hi.symm.trans j2)
    rwa [nI_clamp (by omega), nI_clamp (by omega)] at e
  subst ej
  refine ⟨?_, fun r hr => ⟨(hQ.2.2.2 r hr).1, (b4 r hr).1, (b4 r hr).2⟩, fun p hp => ?_, fun p hp => ?_⟩
  · rw [b3]
    have := sumc_lf (S := frC n M) i 0
    rw [show 0 + i = i by omega] at this
    rw [this]
    show sumc (frC n M) 0 + _ = _
    have e : sumc (frC n M) 0 = 0 := rfl
    omega
  · unfold obF
    obtain ⟨-, -, -, -, -, -, f7, f8⟩ := h.1.2.2.2.2.2.1 p hp
    obtain ⟨d1, d2, -⟩ := b5 p hp
    have e : frC n M 25 p = M 25 p := hFC _ _ (by omega)
    have f7 : -K ≤ (M 25 p).toInt := f7
    have f8 : (M 25 p).toInt ≤ K := f8
    rw [ti_sub (by rw [e]; omega) (by rw [e]; omega), e]
    omega
  · have e30 : ∀ j, j ≠ 9 → ab_up (opC n 0 0 M) 30 9 0 30 j = opC n 0 0 M 30 j := fun j hj => up_o _ _ _ _ _ _ (by omega)
    have elo : ∀ c j, c < 30 → ab_up (opC n 0 0 M) 30 9 0 c j = M c j := fun c j hc => by rw [up_n (by omega), op_lo hc]
    unfold frC
    rw [ca_ev hn (by rw [elo _ _ (by decide), CR_3 h]) (bkV_of (CR_bk h) (elo _ _ (by decide)) (fun i => elo _ _ (by decide))) ⟨7, by decide, by rw [e30 _ (by decide), op_30]; rfl⟩ hp, up_n (by omega), op_seat hp]
    simp [opF]
theorem rn0 {S : ab_M} (h : RN 0 S) (hR : RM 0 S) {i : Nat} (hi : i ≤ 40) (hi2 : S 30 3 = nI i) : i = 0 := by
  obtain ⟨-, -, i3, x1, x2, x3⟩ := h
  obtain ⟨i4, y1, y2, y3⟩ := hR
  have e3 : i = i3 := by
    have e := congrArg Int32.toNatClampNeg (hi2.symm.trans x2)
    rwa [nI_clamp (by omega), nI_clamp (by omega)] at e
  have e4 : i = i4 := by
    have e := congrArg Int32.toNatClampNeg (hi2.symm.trans y2)
    rwa [nI_clamp (by omega), nI_clamp (by omega)] at e
  subst e3
  subst e4
  apply Classical.byContradiction
  intro z
  refine x3 0 (by omega) (tb_ext fun q hq => ?_)
  have := y3 0 (by omega) q (by omega) hq
  show tb (S (41 + 0) 4) q = _
  rw [this]
  unfold tb
  simp
theorem lf_congr {c c' : Nat → Int} : ∀ (k i : Nat), (∀ j, j < i + k → c j = c' j) → lf c k i = lf c' k i := by
  intro k
  induction k with
  | zero => intro i _; rfl
  | succ k ih =>
    intro i h
    show c i + lf c k (i + 1) = c' i + lf c' k (i + 1)
    rw [h i (by omega), ih (i + 1) (fun j hj => h j (by omega))]
theorem mk_go {scr : Option (List Int32)} {n i : Nat} {F : ab_M} (hn : n ≤ 8) (hM3 : F 16 3 = nI n) (hi2 : F 30 3 = nI i) (h6 : i ≤ 6) (hb0 : F 30 6 ≤ 0) (hz : n = 0 → i = 0) (l4 : (F 30 4).toInt = lf (coB F) i 0) (l5 : ∀ r, r < i → mk n (npV n F (F (41 + r) 4)) ∧ 0 ≤ coB F r ∧ coB F r ≤ 792) (l6 : ∀ p, p < n → -400000000 ≤ obF F p ∧ obF F p ≤ 400000000) : ∃ S, ab_res scr 47 11 F 14 [some (.ref 81), none] [] = some (S, some (.int (nI i))) ∧ PE F S ∧ SR i (bsV n i F) S := by
  have x1 : nI i ≤ 6 := (nI_leI (b := 6) (by omega) (by decide)).mpr h6
  unfold bsV
  have z1 : ∀ c j, c ≠ 81 → ab_up (ab_up F 81 6 (nI i)) 81 3 2147483647 c j = F c j := fun c j hc => by rw [up_n hc, up_n hc]
  have z2 : ∀ c j, c ≠ 84 → ¬ (c = 81 ∧ j = 3) → bgL n (ab_up (ab_up F 81 6 (nI i)) 81 3 2147483647) c j = ab_up F 81 6 (nI i) c j := fun c j hc hj => by
    unfold bgL
    rw [if_neg (by omega), up_o _ _ _ _ _ _ hj]
  have z3 := mk_in (scr := scr) (n := n) (X := ab_up (ab_up F 81 6 (nI i)) 81 3 2147483647) hn (by rw [z1 _ _ (by decide), hM3])
  have z4 : ∀ p, p < n → (bgL n (ab_up (ab_up F 81 6 (nI i)) 81 3 2147483647) 84 p).toInt = obF F p := fun p hp => by
    unfold bgL
    rw [if_pos ⟨rfl, hp⟩, z1 _ _ (by decide), z1 _ _ (by omega)]
    rfl
  have z5 : ∀ c j, ¬ (81 ≤ c ∧ c ≤ 84) → bgL n (ab_up (ab_up F 81 6 (nI i)) 81 3 2147483647) c j = F c j := fun c j hc => by
    rw [z2 _ _ (by omega) (by omega), up_n (by omega)]
  have z6 : bgL n (ab_up (ab_up F 81 6 (nI i)) 81 3 2147483647) 81 6 = nI i := by
    rw [z2 _ _ (by decide) (by decide), up_s]
  have z7 : bgL n (ab_up (ab_up F 81 6 (nI i)) 81 3 2147483647) 81 3 = 2147483647 := by
    unfold bgL
    rw [if_neg (by omega), up_s]
  generalize bgL n (ab_up (ab_up F 81 6 (nI i)) 81 3 2147483647) = S0 at *
  have z8 : ∀ w, npV n S0 w = npV n F w := fun w => npV_same fun p => z5 24 p (by decide)
  have z9 : ∀ r, r < i → S0 (41 + r) 4 = F (41 + r) 4 ∧ S0 (41 + r) 2 = F (41 + r) 2 := fun r hr => ⟨z5 _ _ (by omega), z5 _ _ (by omega)⟩
  have zc : ∀ r, r < i → coB S0 r = coB F r := fun r hr => by
    unfold coB
    rw [(z9 r hr).2]
  have hH : HB n i S0 := ⟨hn, by rw [z5 _ _ (by decide), hM3], h6, z6, fun r hr => by
    rw [z8, (z9 r hr).1, zc r hr]
    exact l5 r hr⟩
  have g := lf_le (c := coB F) i 0 (fun j hj => (l5 j (by omega)).2.2)
  have g0 := lf_nn (c := coB F) i 0 (fun j hj => (l5 j (by omega)).2.1)
  have el : lf (coB S0) i 0 = lf (coB F) i 0 := lf_congr i 0 (fun j hj => zc j (by omega))
  have i2 : (2147483647 : Int32).toInt = 2147483647 := by decide
  obtain ⟨S, s1, s2, s3, s4⟩ := sp_srch (scr := scr) hH i 0 (by omega) S0 (F 30 4) (fun _ => 0) (2147483647, fun _ => 0) (fun _ _ _ _ _ _ => rfl) (fun e => ⟨hz e, by decide⟩) (by rw [l4, el]) (fun p hp => by
    rw [el, z4 p hp]
    have := l6 p hp
    omega) (fun j hj => absurd hj (by omega)) ⟨by rw [z7, i2], fun y => absurd rfl y⟩
  have s1 : ab_ms scr 48 [.ref 81, .int 0, .int (F 30 4)] S0 = some (S, none) := s1
  refine ⟨S, ?_, fun c j hc => ?_, ?_⟩
  · have y1 : S 81 6 = nI i := by rw [s2 _ _ (by decide) (by decide) (by decide) (by decide), z6]
    rw [q47_14]
    simp only [q47_0, q47_1, q47_4, q47_7, q47_8, q47_11, q47_14, q47_15, q47_18, q47_21, q47_23, q47_26, q47_28, q47_29, q47_30, q47_33, q47_36, q47_39, q47_41, q47_42, q47_43, q47_44, q47_47, q47_50, q47_53, q47_54, q47_56, q47_59, q47_60, q47_62, q47_63, q47_66, q47_69, q47_72, q47_73, q47_76, q47_77, q47_78, q47_81, q47_84, q47_86, q47_87, q47_88, q47_89, q47_90, q47_93, q47_96, q47_97, q47_98, q47_101, q47_102, q47_103, q47_106, q47_110, q47_111, q47_112, q47_115, q47_118, q47_121, q47_122, q47_125, n10, n01, Bool.false_eq_true, ab_bs, ab_bn, ab_pr0, ab_pr1, nl_n, nl_i, nl_r, nl_j, nl_nl, rc_81, gf_81_0, gf_81_1, gf_81_2, gf_81_3, pt_81_3, gf_81_4, gf_81_5, gf_81_6, pt_81_6, rc_30, gf_30_0, gf_30_1, gf_30_2, gf_30_3, pt_30_3, gf_30_4, pt_30_4, gf_30_5, pt_30_5, gf_30_6, pt_30_6, gf_30_7, pt_30_7, gf_30_8, pt_30_8, gf_30_9, pt_30_9_0, pt_30_9_1, gf_30_10, pt_30_10, gf_30_11, pt_30_11, gf_30_12, pt_30_12, gf_30_13, pt_30_13, hi2, x1, if_true, hb0]
    rw [z3, q47_109]
    simp only [q47_0, q47_1, q47_4, q47_7, q47_8, q47_11, q47_14, q47_15, q47_18, q47_21, q47_23, q47_26, q47_28, q47_29, q47_30, q47_33, q47_36, q47_39, q47_41, q47_42, q47_43, q47_44, q47_47, q47_50, q47_53, q47_54, q47_56, q47_59, q47_60, q47_62, q47_63, q47_66, q47_69, q47_72, q47_73, q47_76, q47_77, q47_78, q47_81, q47_84, q47_86, q47_87, q47_88, q47_89, q47_90, q47_93, q47_96, q47_97, q47_98, q47_101, q47_102, q47_103, q47_106, q47_110, q47_111, q47_112, q47_115, q47_121, q47_122, q47_125, n10, n01, Bool.false_eq_true, ab_bs, ab_bn, ab_pr0, ab_pr1, nl_n, nl_i, nl_r, nl_j, nl_nl, rc_81, gf_81_0, gf_81_1, gf_81_2, gf_81_3, pt_81_3, gf_81_4, gf_81_5, gf_81_6, pt_81_6, rc_30, gf_30_0, gf_30_1, gf_30_2, gf_30_3, pt_30_3, gf_30_4, pt_30_4, gf_30_5, pt_30_5, gf_30_6, pt_30_6, gf_30_7, pt_30_7, gf_30_8, pt_30_8, gf_30_9, pt_30_9_0, pt_30_9_1, gf_30_10, pt_30_10, gf_30_11, pt_30_11, gf_30_12, pt_30_12, gf_30_13, pt_30_13, z5 30 4 (by decide)]
    rw [q47_118 (by show Nat.ble (2 + (8 - Int32.toNatClampNeg 0) + 1) 11 = true; decide), s1]
    simp only [q47_0, q47_1, q47_4, q47_7, q47_8, q47_11, q47_14, q47_15, q47_18, q47_21, q47_23, q47_26, q47_28, q47_29, q47_30, q47_33, q47_36, q47_39, q47_41, q47_42, q47_43, q47_44, q47_47, q47_50, q47_53, q47_54, q47_56, q47_59, q47_60, q47_62, q47_63, q47_66, q47_69, q47_72, q47_73, q47_76, q47_77, q47_78, q47_81, q47_84, q47_86, q47_87, q47_88, q47_89, q47_90, q47_93, q47_96, q47_97, q47_98, q47_101, q47_102, q47_103, q47_106, q47_110, q47_111, q47_112, q47_115, q47_121, q47_122, q47_125, n10, n01, Bool.false_eq_true, ab_bs, ab_bn, ab_pr0, ab_pr1, nl_n, nl_i, nl_r, nl_j, nl_nl, rc_81, gf_81_0, gf_81_1, gf_81_2, gf_81_3, pt_81_3, gf_81_4, gf_81_5, gf_81_6, pt_81_6, rc_30, gf_30_0, gf_30_1, gf_30_2, gf_30_3, pt_30_3, gf_30_4, pt_30_4, gf_30_5, pt_30_5, gf_30_6, pt_30_6, gf_30_7, pt_30_7, gf_30_8, pt_30_8, gf_30_9, pt_30_9_0, pt_30_9_1, gf_30_10, pt_30_10, gf_30_11, pt_30_11, gf_30_12, pt_30_12, gf_30_13, pt_30_13, y1]
  · rw [s2 c j (by omega) (by omega) (by omega) (by omega), z5 c j hc]
  · rw [df_mk (m' := mkB n F) (c' := coB F) i 0 _ _ _ (fun j p hj hp => by
      show tb (npV n S0 (S0 (41 + j) 4)) p = tb (npV n F (F (41 + j) 4)) p
      rw [z8, (z9 j (by omega)).1]) (fun j hj => zc j (by omega)), df_congr i 0 _ (obF F) _ _ (fun p hp => z4 p hp)] at s4
    exact s4
theorem sp_make {scr : Option (List Int32)} {n t : Nat} {K : Int} {M : ab_M} (hK : 0 ≤ K) (hK2 : K ≤ 200000000) (h : CR n t K M) : ∃ i, i ≤ 40 ∧ frC n M 30 3 = nI i ∧ (6 < i → ab_ms scr 47 [.ref 81] M = some (frC n M, some (.int (-2)))) ∧ (i ≤ 6 → 0 < frC n M 30 6 → ab_ms scr 47 [.ref 81] M = some (frC n M, some (.int (-4)))) ∧ (i ≤ 6 → ¬ 0 < frC n M 30 6 → ∃ S, ab_ms scr 47 [.ref 81] M = some (S, some (.int (nI i))) ∧ PE (frC n M) S ∧ SR i (bsV n i (frC n M)) S) := by
  obtain ⟨hO, hC, hFC, hB, hR⟩ := frC_ok h
  obtain ⟨o1, o2⟩ := hO scr
  have hn := CR_n h
  obtain ⟨i, hi, hi2⟩ := hC.2.2.2.2.1
  have hz : n = 0 → i = 0 := fun e => by
    have a := RN_fr h
    generalize frC n M = F at *
    subst e
    exact rn0 a hR hi hi2
  have lim := fun h6 : i ≤ 6 => fr_lim hK hK2 h hi2 h6
  have hM3 : frC n M 16 3 = nI n := by rw [hFC _ _ (by decide), CR_3 h]
  refine ⟨i, hi, hi2, fun h6 => ?_, fun h6 hb => ?_, fun h6 hb => ?_⟩
  · generalize frC n M = F at *
    have x1 : ¬ nI i ≤ 6 := nI_ge (a := 6) (b := i) h6 (by omega)
    rw [ms47]
    simp only [q47_0, q47_1, q47_4, q47_7, q47_8, q47_11, q47_14, q47_15, q47_18, q47_21, q47_23, q47_26, q47_28, q47_29, q47_30, q47_33, q47_36, q47_39, q47_41, q47_42, q47_43, q47_44, q47_47, q47_50, q47_53, q47_54, q47_56, q47_59, q47_60, q47_62, q47_63, q47_66, q47_69, q47_72, q47_73, q47_76, q47_77, q47_78, q47_81, q47_84, q47_86, q47_87, q47_88, q47_89, q47_90, q47_93, q47_96, q47_97, q47_98, q47_101, q47_102, q47_103, q47_106, q47_110, q47_111, q47_112, q47_115, q47_118, q47_121, q47_122, q47_125, n10, n01, Bool.false_eq_true, ab_bs, ab_bn, ab_pr0, ab_pr1, nl_n, nl_i, nl_r, nl_j, nl_nl, rc_81, gf_81_0, gf_81_1, gf_81_2, gf_81_3, pt_81_3, gf_81_4, gf_81_5, gf_81_6, pt_81_6, rc_30, gf_30_0, gf_30_1, gf_30_2, gf_30_3, pt_30_3, gf_30_4, pt_30_4, gf_30_5, pt_30_5, gf_30_6, pt_30_6, gf_30_7, pt_30_7, gf_30_8, pt_30_8, gf_30_9, pt_30_9_0, pt_30_9_1, gf_30_10, pt_30_10, gf_30_11, pt_30_11, gf_30_12, pt_30_12, gf_30_13, pt_30_13, o1, o2, hi2, x1, if_false]
  · generalize frC n M = F at *
    have x1 : nI i ≤ 6 := (nI_leI (b := 6) (by omega) (by decide)).mpr h6
    rw [ms47]
    simp only [q47_0, q47_1, q47_4, q47_7, q47_8, q47_11, q47_14, q47_15, q47_18, q47_21, q47_23, q47_26, q47_28, q47_29, q47_30, q47_33, q47_36, q47_39, q47_41, q47_42, q47_43, q47_44, q47_47, q47_50, q47_53, q47_54, q47_56, q47_59, q47_60, q47_62, q47_63, q47_66, q47_69, q47_72, q47_73, q47_76, q47_77, q47_78, q47_81, q47_84, q47_86, q47_87, q47_88, q47_89, q47_90, q47_93, q47_96, q47_97, q47_98, q47_101, q47_102, q47_103, q47_106, q47_110, q47_111, q47_112, q47_115, q47_118, q47_121, q47_122, q47_125, n10, n01, Bool.false_eq_true, ab_bs, ab_bn, ab_pr0, ab_pr1, nl_n, nl_i, nl_r, nl_j, nl_nl, rc_81, gf_81_0, gf_81_1, gf_81_2, gf_81_3, pt_81_3, gf_81_4, gf_81_5, gf_81_6, pt_81_6, rc_30, gf_30_0, gf_30_1, gf_30_2, gf_30_3, pt_30_3, gf_30_4, pt_30_4, gf_30_5, pt_30_5, gf_30_6, pt_30_6, gf_30_7, pt_30_7, gf_30_8, pt_30_8, gf_30_9, pt_30_9_0, pt_30_9_1, gf_30_10, pt_30_10, gf_30_11, pt_30_11, gf_30_12, pt_30_12, gf_30_13, pt_30_13, o1, o2, hi2, x1, if_true, Int32.not_le.mpr hb, if_false]
  · obtain ⟨l4, l5, l6, -⟩ := lim h6
    obtain ⟨S, s1, s2, s3⟩ := mk_go (scr := scr) hn hM3 hi2 h6 (Int32.not_lt.mp hb) hz l4 l5 l6
    refine ⟨S, ?_, s2, s3⟩
    rw [ms47]
    simp only [q47_0, q47_1, q47_4, q47_7, q47_8, q47_11, q47_15, q47_18, q47_21, q47_23, q47_26, q47_28, q47_29, q47_30, q47_33, q47_36, q47_39, q47_41, q47_42, q47_43, q47_44, q47_47, q47_50, q47_53, q47_54, q47_56, q47_59, q47_60, q47_62, q47_63, q47_66, q47_69, q47_72, q47_73, q47_76, q47_77, q47_78, q47_81, q47_84, q47_86, q47_87, q47_88, q47_89, q47_90, q47_93, q47_96, q47_97, q47_98, q47_101, q47_102, q47_103, q47_106, q47_110, q47_111, q47_112, q47_115, q47_118, q47_121, q47_122, q47_125, n10, n01, Bool.false_eq_true, ab_bs, ab_bn, ab_pr0, ab_pr1, nl_n, nl_i, nl_r, nl_j, nl_nl, rc_81, gf_81_0, gf_81_1, gf_81_2, gf_81_3, pt_81_3, gf_81_4, gf_81_5, gf_81_6, pt_81_6, rc_30, gf_30_0, gf_30_1, gf_30_2, gf_30_3, pt_30_3, gf_30_4, pt_30_4, gf_30_5, pt_30_5, gf_30_6, pt_30_6, gf_30_7, pt_30_7, gf_30_8, pt_30_8, gf_30_9, pt_30_9_0, pt_30_9_1, gf_30_10, pt_30_10, gf_30_11, pt_30_11, gf_30_12, pt_30_12, gf_30_13, pt_30_13, o1, o2]
    exact s1
