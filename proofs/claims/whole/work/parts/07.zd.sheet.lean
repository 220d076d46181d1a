/-! SHEETS -/
theorem CR_sheet {n t u : Nat} {K : Int} {M M' : ab_M} (hu : u < 4) (h : CR n t K M) (hx : ∀ c j, ¬ (115 + 2 * u ≤ c ∧ c ≤ 116 + 2 * u) → ¬ (c = 147 ∧ j = u) → ¬ (c = 148 ∧ j = u) → ¬ (c = 149 ∧ 40 * u ≤ j ∧ j < 40 * u + 40) → M' c j = M c j) (hs : shR u M') : CR n t K M' := by
  obtain ⟨h1, h2, h3, h4, h5, h6, h7, h8⟩ := h
  have y : ∀ c j, c < 115 → M' c j = M c j := fun c j a => hx c j (by omega) (by omega) (by omega) (by omega)
  have y2 : ∀ c j, 123 ≤ c → c < 147 → M' c j = M c j := fun c j a b => hx c j (by omega) (by omega) (by omega) (by omega)
  refine ⟨pgV_of h1 (fun j => y _ _ (by decide)) (fun w j hw => y _ _ (by omega)), ?_, fun k hk => ?_, fun k hk => ?_, ?_, ?_, ?_, ?_⟩
  · obtain ⟨a, b, c, d, e⟩ := h2
    have z : ∀ j, M' 127 j = M 127 j := fun j => y2 _ _ (by decide) (by decide)
    exact ⟨by rw [z, a], by rw [z, y2 _ _ (by decide) (by decide), y _ _ (by decide)]; exact b, by rw [z, c], fun w hw p hp => by rw [z, y _ _ (by omega)]; exact d w hw p hp, fun i hi => by rw [z, y _ _ (by decide)]; exact e i hi⟩
  · rcases h3 k hk with ⟨a, b⟩ | ⟨a, b, c, n', t', d, e, f⟩
    · exact Or.inl ⟨by rw [y _ _ (by omega), a], by rw [y2 _ _ (by decide) (by decide), b]⟩
    · exact Or.inr ⟨by rw [y _ _ (by omega), a], by rw [y2 _ _ (by decide) (by decide), b], by rw [y2 _ _ (by decide) (by decide)]; exact c, n', t', pgV_of d (fun j => y _ _ (by omega)) (fun w j hw => y _ _ (by omega)), pgR_of e d.1 d.2.1 (fun w j hw => y _ _ (by omega)) (fun j hj _ => y2 _ _ (by decide) (by decide)), by rw [y2 _ _ (by decide) (by decide), y _ _ (by omega), f]⟩
  · by_cases e : k = u
    · rw [e]; exact hs
    · rcases h4 k hk with ⟨a, b⟩ | ⟨s, l, a, b, c, d, e', f, g⟩
      · exact Or.inl ⟨by rw [hx _ _ (by omega) (by omega) (by omega) (by omega), a], by rw [hx _ _ (by omega) (by omega) (by omega) (by omega), b]⟩
      · exact Or.inr ⟨s, l, a, b, by rw [hx _ _ (by omega) (by omega) (by omega) (by omega), c], by rw [hx _ _ (by omega) (by omega) (by omega) (by omega), d], by rw [hx _ _ (by omega) (by omega) (by omega) (by omega), e'], by rw [hx _ _ (by omega) (by omega) (by omega) (by omega), f], fun i hi => by rw [hx _ _ (by omega) (by omega) (by omega) (by omega), hx _ _ (by omega) (by omega) (by omega) (by omega)]; exact g i hi⟩
  · obtain ⟨L, a, b, c, d⟩ := h5
    exact ⟨L, a, by rw [y _ _ (by decide), b], by rw [y2 _ _ (by decide) (by decide), c], fun i hi => by rw [y _ _ (by decide), y2 _ _ (by decide) (by decide)]; exact d i hi⟩
  · intro q hq hq2
    rw [hx q.1.1 q.1.2 (by omega) (by omega) (by omega) (by omega)]
    exact h6 q hq hq2
  · rw [y _ _ (by decide), y2 _ _ (by decide) (by decide), h7]
  · rw [y _ _ (by decide), y2 _ _ (by decide) (by decide), h8]
theorem SHo {scr : Option (List Int32)} {u : Nat} (hu : u < 4) : (∀ M, ab_gF ab_L0 M (115 + 2 * u) 8 0 = some (.ref (116 + 2 * u))) ∧ (∀ M, ab_gF ab_L0 M (115 + 2 * u) 8 1 = some (.int (M (115 + 2 * u) 1))) ∧ (∀ M, ab_gF ab_L0 M (115 + 2 * u) 8 2 = some (.int (M (115 + 2 * u) 2))) ∧ (∀ x, ab_pt (115 + 2 * u) 8 1 x = true) ∧ (∀ x, ab_pt (115 + 2 * u) 8 2 x = true) ∧ ab_len scr ab_L0 (116 + 2 * u) = some 40 ∧ (∀ i, ab_si (116 + 2 * u) .int i = ab_inB i 40) ∧ (∀ M i, ab_ald scr ab_L0 M (116 + 2 * u) .int i = if ab_inB i 40 = true then some (M (116 + 2 * u) i.toNatClampNeg) else none) ∧ ab_rc ab_L0 (115 + 2 * u) = some 8 := by
  have : u = 0 ∨ u = 1 ∨ u = 2 ∨ u = 3 := by omega
  rcases this with rfl | rfl | rfl | rfl
  · exact ⟨fun _ => rfl, fun _ => rfl, fun _ => rfl, pt_115_1, pt_115_2, rfl, fun _ => rfl, fun _ _ => rfl, rfl⟩
  · exact ⟨fun _ => rfl, fun _ => rfl, fun _ => rfl, pt_117_1, pt_117_2, rfl, fun _ => rfl, fun _ _ => rfl, rfl⟩
  · exact ⟨fun _ => rfl, fun _ => rfl, fun _ => rfl, pt_119_1, pt_119_2, rfl, fun _ => rfl, fun _ _ => rfl, rfl⟩
  · exact ⟨fun _ => rfl, fun _ => rfl, fun _ => rfl, pt_121_1, pt_121_2, rfl, fun _ => rfl, fun _ _ => rfl, rfl⟩
def zrL (c0 a k : Nat) (M : ab_M) : ab_M := fun c j => if c = c0 ∧ a ≤ j ∧ j < a + k then 0 else M c j
theorem zr_0 {c0 a : Nat} {M : ab_M} : zrL c0 a 0 M = M := by
  funext c j
  unfold zrL
  rw [if_neg (by omega)]
theorem zr_s {c0 a k : Nat} {M : ab_M} : ab_up (zrL c0 a k M) c0 (a + k) 0 = zrL c0 a (k + 1) M := by
  funext c j
  unfold ab_up zrL
  by_cases e : c = c0 ∧ j = a + k
  · rw [if_pos e, if_pos (by omega)]
  · rw [if_neg e]
    by_cases x : c = c0 ∧ a ≤ j ∧ j < a + k
    · rw [if_pos x, if_pos (by omega)]
    · rw [if_neg x, if_neg (by omega)]
theorem zr_n {c0 a k : Nat} {M : ab_M} {c j : Nat} (h : ¬ (c = c0 ∧ a ≤ j ∧ j < a + k)) : zrL c0 a k M c j = M c j := by
  unfold zrL
  rw [if_neg h]
theorem zr_i {c0 a k : Nat} {M : ab_M} {j : Nat} (h : j < k) : zrL c0 a k M c0 (a + j) = 0 := by
  unfold zrL
  rw [if_pos (by omega)]
theorem sp_fill {scr : Option (List Int32)} {u : Nat} (hu : u < 4) (M : ab_M) : ab_ms scr 203 [.ref (116 + 2 * u), .int 0] M = some (zrL (116 + 2 * u) 0 40 M, none) := by
  obtain ⟨g0, g1, g2, p1, p2, ln, si, al, rc⟩ := SHo (scr := scr) hu
  rw [ms203]
  simp only [q203_0, q203_1, q203_2, q203_3, q203_4, q203_6, q203_7, q203_10, q203_11, q203_12, q203_13, q203_14, q203_17, q203_20, n10, n01, Bool.false_eq_true, ab_bs, ab_bn, ab_pr0, ab_pr1, nl_n, nl_i, nl_r, nl_j, nl_nl, ln]
  refine Eq.trans ?_ ((rn (fun k => ab_res scr 203 1 (zrL (116 + 2 * u) 0 k M) 5 [some (.ref (116 + 2 * u)), some (.int 0), some (.int (nI k)), some (.int 40)] []) (40) (fun k hk => ?_)).trans ?_)
  · rw [zr_0]
    rfl
  · have h1 : ¬ (40 : Int32) ≤ nI k := nI_ge (b := 40) hk (by decide)
    have h2 : (nI k).toNatClampNeg = k := nI_clamp (by omega)
    have e := zr_s (c0 := 116 + 2 * u) (a := 0) (k := k) (M := M)
    rw [Nat.zero_add] at e
    rw [q203_5]
    simp only [q203_0, q203_1, q203_2, q203_3, q203_4, q203_6, q203_7, q203_10, q203_11, q203_12, q203_13, q203_14, q203_17, q203_20, n10, n01, Bool.false_eq_true, ab_bs, ab_bn, ab_pr0, ab_pr1, nl_n, nl_i, nl_r, nl_j, nl_nl, h1, if_false, si, ib40 hk, if_true, h2, e, nI_succ]
  · show ab_res scr 203 1 _ 5 _ [] = _
    rw [q203_5]
    simp only [q203_0, q203_1, q203_2, q203_3, q203_4, q203_6, q203_7, q203_10, q203_11, q203_12, q203_13, q203_14, q203_17, q203_20, n10, n01, Bool.false_eq_true, ab_bs, ab_bn, ab_pr0, ab_pr1, nl_n, nl_i, nl_r, nl_j, nl_nl, (show (40 : Int32) ≤ nI 40 by decide), if_true]
theorem n40m (u i : Nat) : 40 * nI u + nI i = nI (40 * u + i) := by
  rw [show (40 : Int32) = nI 40 from rfl, show nI 40 * nI u = nI (40 * u) from (Int32.ofNat_mul 40 u).symm, nI_add]
theorem s149 {scr : Option (List Int32)} {M : ab_M} {k : Nat} (h : k < 160) : ab_si 149 .int (nI k) = true ∧ ab_ald scr ab_L0 M 149 .int (nI k) = some (M 149 k) := by
  rw [si_149, al_149, ib_nI h (by decide), nI_clamp (by omega)]
  exact ⟨rfl, rfl⟩
theorem rf_fill {scr : Option (List Int32)} {u : Nat} (hu : u < 4) (M : ab_M) (lane x : Int32) : ab_res scr 191 2 M 56 [some (.ref 123), some (.int (nI u)), some (.int lane), some (.int x), some (.int (nI 0))] [] = some (zrL 149 (40 * u) 40 M, some (.int 1)) := by
  refine Eq.trans ?_ ((rn (fun k => ab_res scr 191 2 (zrL 149 (40 * u) k M) 56 [some (.ref 123), some (.int (nI u)), some (.int lane), some (.int x), some (.int (nI k))] []) (40) (fun k hk => ?_)).trans ?_)
  · rw [zr_0]
  · have h1 : ¬ (40 : Int32) ≤ nI k := nI_ge (b := 40) hk (by decide)
    have h2 : (nI (40 * u + k)).toNatClampNeg = 40 * u + k := nI_clamp (by omega)
    have e := zr_s (c0 := 149) (a := 40 * u) (k := k) (M := M)
    have e2 := (s149 (scr := scr) (M := zrL 149 (40 * u) k M) (k := 40 * u + k) (by omega)).1
    rw [q191_56]
    simp only [q191_0, q191_1, q191_2, q191_3, q191_6, q191_9, q191_12, q191_13, q191_14, q191_15, q191_18, q191_21, q191_24, q191_25, q191_27, q191_30, q191_31, q191_32, q191_33, q191_36, q191_38, q191_39, q191_40, q191_43, q191_44, q191_45, q191_46, q191_47, q191_50, q191_51, q191_52, q191_53, q191_54, q191_58, q191_60, q191_63, q191_64, q191_67, q191_69, q191_70, q191_71, q191_73, q191_74, q191_75, q191_76, q191_79, q191_82, q191_83, n10, n01, Bool.false_eq_true, ab_bs, ab_bn, ab_pr0, ab_pr1, nl_n, nl_i, nl_r, nl_j, nl_nl, rc_123, gf_123_0, gf_123_1, pt_123_1, gf_123_2, pt_123_2, gf_123_3, pt_123_3, gf_123_4, pt_123_4, gf_123_5, pt_123_5, gf_123_6, pt_123_6, gf_123_7, pt_123_7, gf_123_8, pt_123_8, gf_123_9, gf_123_10, gf_123_11, gf_123_12, gf_123_13, pt_123_13_0, pt_123_13_1, gf_123_14, pt_123_14_0, pt_123_14_1, gf_123_15, gf_123_16, gf_123_17, gf_123_18, gf_123_19, gf_123_20, gf_123_21, gf_123_22, gf_123_23, gf_123_24, gf_123_25, pt_123_25, gf_123_26, gf_123_27, pt_123_27, gf_123_28, pt_123_28, gf_123_29, gf_123_30, pt_123_30, gf_123_31, pt_123_31, gf_123_32, pt_123_32, gf_123_33, pt_123_33, gf_123_34, pt_123_34_0, pt_123_34_1, gf_123_35, gf_123_36, gf_123_37, gf_123_38, pt_123_38, gf_123_39, pt_123_39, gf_123_40, pt_123_40, gf_123_41, gf_123_42, gf_123_43, gf_123_44, gf_123_45, gf_123_46, gf_123_47, pt_123_47, h1, if_false, n40m, e2, if_true, h2, e, nI_succ]
  · show ab_res scr 191 2 _ 56 _ [] = _
    rw [q191_56]
    simp only [q191_0, q191_1, q191_2, q191_3, q191_6, q191_9, q191_12, q191_13, q191_14, q191_15, q191_18, q191_21, q191_24, q191_25, q191_27, q191_30, q191_31, q191_32, q191_33, q191_36, q191_38, q191_39, q191_40, q191_43, q191_44, q191_45, q191_46, q191_47, q191_50, q191_51, q191_52, q191_53, q191_54, q191_58, q191_60, q191_63, q191_64, q191_67, q191_69, q191_70, q191_71, q191_73, q191_74, q191_75, q191_76, q191_79, q191_82, q191_83, n10, n01, Bool.false_eq_true, ab_bs, ab_bn, ab_pr0, ab_pr1, nl_n, nl_i, nl_r, nl_j, nl_nl, (show (40 : Int32) ≤ nI 40 by decide), if_true]
section CS
variable {scr : Option (List Int32)} {n t : Nat} {K : Int} {M : ab_M}
theorem cl_sheet (h : CR n t K M) (k lane x : Int32) : cokI scr 106 191 [.int k, .int lane, .int x] M (CRX K) := by
  have hle : (x ≤ 40) = (x < 41) := by
    apply propext
    rw [Int32.le_iff_toInt_le, Int32.lt_iff_toInt_lt, show (40 : Int32).toInt = 40 by decide, show (41 : Int32).toInt = 41 by decide]
    omega
  by_cases h1 : 0 ≤ k ∧ k < 4
  · by_cases h2 : 0 ≤ lane ∧ lane < 3
    · by_cases h3 : x < 41
      · by_cases h4 : 0 ≤ x
        · obtain ⟨u, hu, rfl⟩ := rng (b := 4) (by decide) h1
          obtain ⟨l, hl, rfl⟩ := rng (b := 3) (by decide) h2
          obtain ⟨s, hs, rfl⟩ := rng (b := 41) (by decide) ⟨h4, h3⟩
          obtain ⟨g0, g1, g2, p1, p2, ln, si, al, rc⟩ := SHo (scr := scr) hu
          have hq : ab_qe 29 (nI u) = some (.ref (115 + 2 * u)) := qe_29 hu
          have e56 : ab_ms scr 56 [.ref (115 + 2 * u), .int (nI l), .int (nI s)] M = some (zrL (116 + 2 * u) 0 40 (ab_up (ab_up M (115 + 2 * u) 1 (nI l)) (115 + 2 * u) 2 (nI s)), none) := by
            rw [ms56]
            simp only [q56_0, q56_1, q56_2, q56_5, q56_6, q56_7, q56_10, q56_11, q56_14, q56_15, q56_18, n10, n01, Bool.false_eq_true, ab_bs, ab_bn, ab_pr0, ab_pr1, nl_n, nl_i, nl_r, nl_j, nl_nl, p1, p2, g0, sp_fill hu]
          generalize hW : zrL (116 + 2 * u) 0 40 (ab_up (ab_up M (115 + 2 * u) 1 (nI l)) (115 + 2 * u) 2 (nI s)) = W at *
          have hi4 : ab_inB (nI u) 4 = true := ib_nI hu (by decide)
          have hcu : (nI u).toNatClampNeg = u := nI_clamp (by omega)
          refine ⟨W, 1, zrL 149 (40 * u) 40 (ab_up (ab_up W 147 u (nI l)) 148 u (nI s)), ?_, ?_, n, t, CR_sheet hu h (fun c j a b d e => ?_) (Or.inr ⟨s, l, by omega, hl, ?_, ?_, ?_, ?_, fun i hi => ?_⟩)⟩
          · rw [ms106]
            simp only [q106_0, q106_1, q106_2, q106_5, q106_8, q106_9, q106_10, q106_13, q106_16, q106_17, q106_19, q106_22, q106_23, q106_24, q106_25, q106_28, q106_30, q106_31, q106_32, q106_35, q106_36, q106_37, q106_38, q106_39, q106_42, q106_43, n10, n01, Bool.false_eq_true, ab_bs, ab_bn, ab_pr0, ab_pr1, nl_n, nl_i, nl_r, nl_j, nl_nl, rc_0, gf_0_0, gf_0_1, gf_0_2, gf_0_3, gf_0_4, gf_0_5, gf_0_6, gf_0_7, gf_0_8, gf_0_9, pt_0_9, sp_within, h1, h2, h3, h4, hle, and_self, if_true, if_false, not_false_eq_true, hq, rc, e56]
          · rw [ms191]
            simp only [q191_0, q191_1, q191_2, q191_3, q191_6, q191_9, q191_12, q191_13, q191_14, q191_15, q191_18, q191_21, q191_24, q191_25, q191_27, q191_30, q191_31, q191_32, q191_33, q191_36, q191_38, q191_39, q191_40, q191_43, q191_44, q191_45, q191_46, q191_47, q191_50, q191_51, q191_52, q191_53, q191_54, q191_58, q191_60, q191_63, q191_64, q191_67, q191_69, q191_70, q191_71, q191_73, q191_74, q191_75, q191_76, q191_79, q191_82, q191_83, n10, n01, Bool.false_eq_true, ab_bs, ab_bn, ab_pr0, ab_pr1, nl_n, nl_i, nl_r, nl_j, nl_nl, rc_123, gf_123_0, gf_123_1, pt_123_1, gf_123_2, pt_123_2, gf_123_3, pt_123_3, gf_123_4, pt_123_4, gf_123_5, pt_123_5, gf_123_6, pt_123_6, gf_123_7, pt_123_7, gf_123_8, pt_123_8, gf_123_9, gf_123_10, gf_123_11, gf_123_12, gf_123_13, pt_123_13_0, pt_123_13_1, gf_123_14, pt_123_14_0, pt_123_14_1, gf_123_15, gf_123_16, gf_123_17, gf_123_18, gf_123_19, gf_123_20, gf_123_21, gf_123_22, gf_123_23, gf_123_24, gf_123_25, pt_123_25, gf_123_26, gf_123_27, pt_123_27, gf_123_28, pt_123_28, gf_123_29, gf_123_30, pt_123_30, gf_123_31, pt_123_31, gf_123_32, pt_123_32, gf_123_33, pt_123_33, gf_123_34, pt_123_34_0, pt_123_34_1, gf_123_35, gf_123_36, gf_123_37, gf_123_38, pt_123_38, gf_123_39, pt_123_39, gf_123_40, pt_123_40, gf_123_41, gf_123_42, gf_123_43, gf_123_44, gf_123_45, gf_123_46, gf_123_47, pt_123_47, ln_147, al_147, si_147, ln_148, al_148, si_148, sp_in, k0, l3, l2, h1, h2, h3, h4, hle, and_self, if_true, if_false, not_false_eq_true, hi4, hcu]
            exact rf_fill hu _ (nI l) (nI s)
          · rw [zr_n (by omega), up_o _ _ _ _ _ _ d, up_o _ _ _ _ _ _ b, ← hW, zr_n (by omega), up_n (by omega), up_n (by omega)]
          · rw [zr_n (by omega), up_n (by omega), up_n (by omega), ← hW, zr_n (by omega), up_s]
          · rw [zr_n (by omega), up_s]
          · rw [zr_n (by omega), up_n (by omega), up_n (by omega), ← hW, zr_n (by omega), up_o _ _ _ _ _ _ (by omega), up_s]
          · rw [zr_n (by omega), up_n (by omega), up_s]
          · rw [zr_i (by omega), zr_n (by omega), up_n (by omega), up_n (by omega), ← hW]
            have := zr_i (c0 := 116 + 2 * u) (a := 0) (k := 40) (M := (ab_up (ab_up M (115 + 2 * u) 1 (nI l)) (115 + 2 * u) 2 (nI s))) (j := i) (by omega)
            rw [Nat.zero_add] at this
            exact this
        · refine ⟨M, -14, M, ?_, ?_, n, t, h⟩
          · rw [ms106]; simp only [q106_0, q106_1, q106_2, q106_5, q106_8, q106_9, q106_10, q106_13, q106_16, q106_17, q106_19, q106_22, q106_23, q106_24, q106_25, q106_28, q106_30, q106_31, q106_32, q106_35, q106_36, q106_37, q106_38, q106_39, q106_42, q106_43, n10, n01, Bool.false_eq_true, ab_bs, ab_bn, ab_pr0, ab_pr1, nl_n, nl_i, nl_r, nl_j, nl_nl, sp_within, h1, h2, h3, h4, hle, and_self, if_true, if_false]
          · rw [ms191]; simp only [q191_0, q191_1, q191_2, q191_3, q191_6, q191_9, q191_12, q191_13, q191_14, q191_15, q191_18, q191_21, q191_24, q191_25, q191_27, q191_30, q191_31, q191_32, q191_33, q191_36, q191_38, q191_39, q191_40, q191_43, q191_44, q191_45, q191_46, q191_47, q191_50, q191_51, q191_52, q191_53, q191_54, q191_58, q191_60, q191_63, q191_64, q191_67, q191_69, q191_70, q191_71, q191_73, q191_74, q191_75, q191_76, q191_79, q191_82, q191_83, n10, n01, Bool.false_eq_true, ab_bs, ab_bn, ab_pr0, ab_pr1, nl_n, nl_i, nl_r, nl_j, nl_nl, sp_in, k0, l3, l2, h1, h2, h3, h4, hle, and_self, if_true, if_false]
      · refine ⟨M, -1, M, ?_, ?_, n, t, h⟩
        · rw [ms106]; simp only [q106_0, q106_1, q106_2, q106_5, q106_8, q106_9, q106_10, q106_13, q106_16, q106_17, q106_19, q106_22, q106_23, q106_24, q106_25, q106_28, q106_30, q106_31, q106_32, q106_35, q106_36, q106_37, q106_38, q106_39, q106_42, q106_43, n10, n01, Bool.false_eq_true, ab_bs, ab_bn, ab_pr0, ab_pr1, nl_n, nl_i, nl_r, nl_j, nl_nl, sp_within, h1, h2, h3, hle, and_self, if_true, if_false]
        · rw [ms191]; simp only [q191_0, q191_1, q191_2, q191_3, q191_6, q191_9, q191_12, q191_13, q191_14, q191_15, q191_18, q191_21, q191_24, q191_25, q191_27, q191_30, q191_31, q191_32, q191_33, q191_36, q191_38, q191_39, q191_40, q191_43, q191_44, q191_45, q191_46, q191_47, q191_50, q191_51, q191_52, q191_53, q191_54, q191_58, q191_60, q191_63, q191_64, q191_67, q191_69, q191_70, q191_71, q191_73, q191_74, q191_75, q191_76, q191_79, q191_82, q191_83, n10, n01, Bool.false_eq_true, ab_bs, ab_bn, ab_pr0, ab_pr1, nl_n, nl_i, nl_r, nl_j, nl_nl, sp_in, k0, l3, l2, h1, h2, h3, hle, and_self, if_true, if_false]
    · refine ⟨M, -1, M, ?_, ?_, n, t, h⟩
      · rw [ms106]; simp only [q106_0, q106_1, q106_2, q106_5, q106_8, q106_9, q106_10, q106_13, q106_16, q106_17, q106_19, q106_22, q106_23, q106_24, q106_25, q106_28, q106_30, q106_31, q106_32, q106_35, q106_36, q106_37, q106_38, q106_39, q106_42, q106_43, n10, n01, Bool.false_eq_true, ab_bs, ab_bn, ab_pr0, ab_pr1, nl_n, nl_i, nl_r, nl_j, nl_nl, sp_within, h1, h2, and_self, if_true, if_false]
      · rw [ms191]; simp only [q191_0, q191_1, q191_2, q191_3, q191_6, q191_9, q191_12, q191_13, q191_14, q191_15, q191_18, q191_21, q191_24, q191_25, q191_27, q191_30, q191_31, q191_32, q191_33, q191_36, q191_38, q191_39, q191_40, q191_43, q191_44, q191_45, q191_46, q191_47, q191_50, q191_51, q191_52, q191_53, q191_54, q191_58, q191_60, q191_63, q191_64, q191_67, q191_69, q191_70, q191_71, q191_73, q191_74, q191_75, q191_76, q191_79, q191_82, q191_83, n10, n01, Bool.false_eq_true, ab_bs, ab_bn, ab_pr0, ab_pr1, nl_n, nl_i, nl_r, nl_j, nl_nl, sp_in, k0, l3, l2, h1, h2, and_self, if_true, if_false]
  · refine ⟨M, -1, M, ?_, ?_, n, t, h⟩
    · rw [ms106]; simp only [q106_0, q106_1, q106_2, q106_5, q106_8, q106_9, q106_10, q106_13, q106_16, q106_17, q106_19, q106_22, q106_23, q106_24, q106_25, q106_28, q106_30, q106_31, q106_32, q106_35, q106_36, q106_37, q106_38, q106_39, q106_42, q106_43, n10, n01, Bool.false_eq_true, ab_bs, ab_bn, ab_pr0, ab_pr1, nl_n, nl_i, nl_r, nl_j, nl_nl, sp_within, h1, if_true, if_false]
    · rw [ms191]; simp only [q191_0, q191_1, q191_2, q191_3, q191_6, q191_9, q191_12, q191_13, q191_14, q191_15, q191_18, q191_21, q191_24, q191_25, q191_27, q191_30, q191_31, q191_32, q191_33, q191_36, q191_38, q191_39, q191_40, q191_43, q191_44, q191_45, q191_46, q191_47, q191_50, q191_51, q191_52, q191_53, q191_54, q191_58, q191_60, q191_63, q191_64, q191_67, q191_69, q191_70, q191_71, q191_73, q191_74, q191_75, q191_76, q191_79, q191_82, q191_83, n10, n01, Bool.false_eq_true, ab_bs, ab_bn, ab_pr0, ab_pr1, nl_n, nl_i, nl_r, nl_j, nl_nl, sp_in, k0, l3, h1, if_true, if_false]
end CS
