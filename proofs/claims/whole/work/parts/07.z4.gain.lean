/-! an EVENING hangs on the page alone -/
def HP (n t : Nat) (M : ab_M) : Prop := n ≤ 8 ∧ M 16 3 = nI n ∧ bkV t M ∧ PV n M ∧ ∃ N, PW n t N M
theorem HP_of {n t : Nat} {M W : ab_M} (h : HP n t M) (hW : ∀ c j, c < 30 → W c j = M c j) : HP n t W := by
  obtain ⟨a, b, c, d, N, e⟩ := h
  exact ⟨a, by rw [hW _ _ (by decide), b], bkV_of c (hW _ _ (by decide)) (fun i => hW _ _ (by decide)), PV_of d hW, N, PW_of e hW (fun _ => rfl) rfl⟩
theorem CR_HP {n t : Nat} {K : Int} {M : ab_M} (h : CR n t K M) : HP n t M := ⟨CR_n h, CR_3 h, CR_bk h, CR_PV h, M, h.2.1⟩
theorem ho_same {n t : Nat} {M W : ab_M} (h : HP n t M) (hW : ∀ c j, c < 30 → W c j = M c j) (rule seed : Int32) (hr : okR rule) : (∀ p, p < n → oX (hoC n rule seed W) p = oX (hoC n rule seed M) p) ∧ hoC n rule seed W 30 5 = hoC n rule seed M 30 5 ∧ wrV n (hoC n rule seed W) = wrV n (hoC n rule seed M) := by
  have hw := HP_of h hW
  obtain ⟨a, b, c, d, N, e⟩ := h
  obtain ⟨a', b', c', d', -⟩ := hw
  have e' : PW n t N W := PW_of e hW (fun _ => rfl) rfl
  obtain ⟨N1, x1, x2, -⟩ := rp_evenings (scr := none) a b c e d rule seed hr
  obtain ⟨N2, y1, y2, -⟩ := rp_evenings (scr := none) a b' c' e' d' rule seed hr
  rw [x1] at y1
  have hN : N1 = N2 := by
    have := Option.some.inj y1
    exact (Prod.mk.inj this).1
  subst hN
  refine ⟨fun p hp => ?_, ?_, ?_⟩
  · rw [← rO_oX (x2.1.2.2.2.1 p hp), ← rO_oX (y2.1.2.2.2.1 p hp)]
  · rw [← x2.1.2.2.1.2.2.2.2.2.1, ← y2.1.2.2.1.2.2.2.2.2.1]
  · have z1 := (wo_ref (scr := none) a x2).2
    have z2 := (wo_ref (scr := none) a y2).2
    rw [z1] at z2
    have := (Prod.mk.inj (Option.some.inj z2)).2
    exact (Value.int.inj (Option.some.inj this)).symm
/-! GAINS -/
def gnO (n w p : Nat) (rule seed : Int32) (M : ab_M) (v : Int32) : Int32 := oX (hoC n rule seed M) p - oX (hoC n rule seed (ab_up M (18 + w) p v)) p
def gnF (n w p a : Nat) (rule seed : Int32) (M : ab_M) (k : Nat) : Int32 × Int32 := fo (fun k s => if s.1 < gnO n w p rule seed M (nI (a + k)) then (gnO n w p rule seed M (nI (a + k)), nI (a + k)) else s) k (0, M (18 + w) p)
theorem gnF_s (n w p a : Nat) (rule seed : Int32) (M : ab_M) (k : Nat) : gnF n w p a rule seed M (k + 1) = if (gnF n w p a rule seed M k).1 < gnO n w p rule seed M (nI (a + k)) then (gnO n w p rule seed M (nI (a + k)), nI (a + k)) else gnF n w p a rule seed M k := rfl
/-- what may be told instead -/
def okW (n w p : Nat) (M : ab_M) (v : Int32) : Prop := ∀ W : ab_M, (∀ c j, c < 30 → W c j = ab_up M (18 + w) p v c j) → PV n W
theorem HP_up {n t w p : Nat} {M : ab_M} {v : Int32} (h : HP n t M) (hw : w < 8) (hp : p < n) (ho : okW n w p M v) : HP n t (ab_up M (18 + w) p v) := by
  obtain ⟨a, b, c, d, N, e⟩ := h
  refine ⟨a, by rw [up_n (by omega), b], bkV_of c (up_n (by omega)) (fun i => up_n (by omega)), ho _ (fun _ _ _ => rfl), ab_up N 127 (9 * p + w) v, ?_⟩
  obtain ⟨e1, e2, e3, e4, e5⟩ := e
  have z : ∀ i, i ≠ 9 * p + w → ab_up N 127 (9 * p + w) v 127 i = N 127 i := fun i hi => up_o _ _ _ _ _ _ (by omega)
  have ht := c.1
  refine ⟨by rw [z _ (by omega), e1], by rw [z _ (by omega), up_n (show 123 ≠ 127 by decide), up_n (show 16 ≠ 18 + w by omega)]; exact e2, by rw [z _ (by omega), e3], fun u hu q hq => ?_, fun i hi => by rw [z _ (by omega), up_n (by omega)]; exact e5 i hi⟩
  by_cases e9 : q = p ∧ u = w
  · obtain ⟨rfl, rfl⟩ := e9
    rw [up_s, up_s]
  · rw [z _ (by omega), up_o _ _ _ _ _ _ (by omega)]
    exact e4 u hu q hq
theorem PW_up {n t w p : Nat} {N M : ab_M} {v : Int32} (hn : n ≤ 8) (ht : t ≤ 12) (e : PW n t N M) (hw : w < 8) (hp : p < n) : PW n t (ab_up N 127 (9 * p + w) v) (ab_up M (18 + w) p v) := by
  obtain ⟨e1, e2, e3, e4, e5⟩ := e
  have z : ∀ i, i ≠ 9 * p + w → ab_up N 127 (9 * p + w) v 127 i = N 127 i := fun i hi => up_o _ _ _ _ _ _ (by omega)
  refine ⟨by rw [z _ (by omega), e1], by rw [z _ (by omega), up_n (show 123 ≠ 127 by decide), up_n (show 16 ≠ 18 + w by omega)]; exact e2, by rw [z _ (by omega), e3], fun u hu q hq => ?_, fun i hi => by rw [z _ (by omega), up_n (by omega)]; exact e5 i hi⟩
  by_cases e9 : q = p ∧ u = w
  · obtain ⟨rfl, rfl⟩ := e9
    rw [up_s, up_s]
  · rw [z _ (by omega), up_o _ _ _ _ _ _ (by omega)]
    exact e4 u hu q hq
/-- an EVENING over a page like M's, by the class's parts -/
theorem ho_run {scr : Option (List Int32)} {n t : Nat} {W : ab_M} (h : HP n t W) (rule seed : Int32) : ab_ms scr 3 [.ref 30, .int rule, .int seed] W = some (opC n rule seed W, none) ∧ ab_ms scr 6 [.ref 30] (opC n rule seed W) = some (hoC n rule seed W, none) ∧ FC W (hoC n rule seed W) := by
  obtain ⟨hn, hM, ht, -, -⟩ := h
  have hM1 : opC n rule seed W 16 3 = nI n := by rw [op_lo (by decide), hM]
  have ht1 : bkV t (opC n rule seed W) := bkV_of ht (op_lo (by decide)) (fun i => op_lo (by decide))
  have hb1 : ∃ b, b < 8 ∧ opC n rule seed W 30 10 = nI b := ⟨7, by decide, by rw [op_30]; rfl⟩
  exact ⟨sp_open W n hn hM rule seed, (sp_play (opC n rule seed W) n t hn hM1 ht1 hb1).1, FC_trans (FC_op hn) (FC_evC hn hM1 ht1 hb1)⟩
/-- the class's memory in the search: as W, but told otherwise -/
def gsI (n t w p a k : Nat) (rule seed : Int32) (M V W : ab_M) : Prop := (∀ c j, c < 30 → ¬ (c = 18 + w ∧ j = p) → V c j = M c j) ∧ (∀ c j, 86 < c → V c j = W c j) ∧ V 85 2 = (gnF n w p a rule seed M k).1 ∧ V 85 3 = (gnF n w p a rule seed M k).2
theorem sp_search {scr : Option (List Int32)} {n t w p a cnt : Nat} {M W : ab_M} (h : HP n t M) (hw : w < 8) (hp : p < n) (hW : ∀ c j, c < 30 → W c j = M c j) (rule seed most : Int32) (hr : okR rule) (hld : ∀ V : ab_M, ab_ald scr ab_L0 V 2000 .int (nI w) = some (nI a)) (hcnt : a + cnt < 1000) (hlo : ∀ k, k < cnt → ¬ most < nI (a + k)) (hhi : most < nI (a + cnt)) (ho : ∀ k, k < cnt → okW n w p M (nI (a + k))) : ∃ W', ab_ms scr 35 [.ref 85, .int (nI p), .int (nI w), .int most, .int rule, .int seed] W = some (W', none) ∧ FA W W' ∧ W' 85 2 = (gnF n w p a rule seed M cnt).1 ∧ W' 85 3 = (gnF n w p a rule seed M cnt).2 := by
  have hWH := HP_of h hW
  obtain ⟨r1, r2, r3⟩ := ho_run (scr := scr) hWH rule seed
  obtain ⟨s1, -, -⟩ := ho_same h hW rule seed hr
  have hp8 : p < 8 := by have := h.1; omega
  have hcp : (nI p).toNatClampNeg = p := nI_clamp (by omega)
  have hout : hoC n rule seed W (33 + p) 2 - hoC n rule seed W (33 + p) 1 + hoC n rule seed W (33 + p) 0 = oX (hoC n rule seed M) p := s1 p hp
  have hI0 : gsI n t w p a 0 rule seed M (ab_up (ab_up (hoC n rule seed W) 85 2 0) 85 3 (M (18 + w) p)) W := ⟨fun c j x _ => by rw [up_n (by omega), up_n (by omega), r3 c j (Or.inl x), hW c j x], fun c j x => by rw [up_n (by omega), up_n (by omega), r3 c j (by omega)], by rw [up_o _ _ _ _ _ _ (by decide), up_s]; rfl, by rw [up_s]; rfl⟩
  have hx := rx (fun k (s : ab_M × Option Value) => ab_res scr 35 7 s.1 63 [some (.ref 85), some (.int (nI p)), some (.int (nI w)), some (.int most), some (.int rule), some (.int seed), some (.int (M (18 + w) p)), some (.int (oX (hoC n rule seed M) p)), some (.int (nI (a + k))), s.2] []) (fun k s => gsI n t w p a k rule seed M s.1 W) cnt (ab_up (ab_up (hoC n rule seed W) 85 2 0) 85 3 (M (18 + w) p), none) hI0 (fun k s hk hs => ?_)
  · obtain ⟨⟨V, l⟩, e1, e2⟩ := hx
    obtain ⟨i1, i2, i3, i4⟩ := e2
    have i1 : ∀ c j, c < 30 → ¬ (c = 18 + w ∧ j = p) → V c j = M c j := i1
    have i2 : ∀ c j, 86 < c → V c j = W c j := i2
    refine ⟨ab_up V (18 + w) p (M (18 + w) p), ?_, fun c j x => ?_, by rw [up_n (by omega)]; exact i3, by rw [up_n (by omega)]; exact i4⟩
    · rw [ms35]
      simp only [q35_0, q35_1, q35_4, q35_7, q35_8, q35_9, q35_10, q35_11, q35_13, q35_14, q35_17, q35_19, q35_21, q35_24, q35_25, q35_28, q35_31, q35_32, q35_35, q35_38, q35_39, q35_40, q35_43, q35_45, q35_46, q35_47, q35_50, q35_51, q35_53, q35_56, q35_59, q35_60, q35_61, q35_65, q35_66, q35_69, q35_70, q35_73, q35_76, q35_77, q35_78, q35_79, q35_81, q35_82, q35_83, q35_86, q35_88, q35_90, q35_93, q35_94, q35_97, q35_100, q35_102, q35_103, q35_106, q35_109, q35_110, q35_111, q35_114, q35_115, q35_117, q35_119, q35_120, q35_123, q35_126, q35_127, q35_129, q35_132, q35_133, q35_135, q35_138, q35_141, q35_144, q35_145, q35_148, q35_151, q35_152, q35_153, q35_154, q35_156, q35_157, n10, n01, Bool.false_eq_true, ab_bs, ab_bn, ab_pr0, ab_pr1, nl_n, nl_i, nl_r, nl_j, nl_nl, rc_16, gf_16_0, gf_16_1, gf_16_2, gf_16_3, pt_16_3, gf_16_4, pt_16_4, gf_16_5, pt_16_5, rc_30, gf_30_0, gf_30_1, gf_30_2, gf_30_3, pt_30_3, gf_30_4, pt_30_4, gf_30_5, pt_30_5, gf_30_6, pt_30_6, gf_30_7, pt_30_7, gf_30_8, pt_30_8, gf_30_9, pt_30_9_0, pt_30_9_1, gf_30_10, pt_30_10, gf_30_11, pt_30_11, gf_30_12, pt_30_12, gf_30_13, pt_30_13, rc_85, gf_85_0, gf_85_1, gf_85_2, pt_85_2, gf_85_3, pt_85_3, qe_17 hw, al_f17 hw, hcp, ib8 hp8, if_true, hW (18 + w) p (by omega), r1, r2, qe_31 hp8, rc_seat hp8, sp_out _ _ hp8, hout, hld]
      refine Eq.trans e1 ?_
      show ab_res scr 35 7 V 63 _ [] = _
      rw [q35_63]
      simp only [q35_0, q35_1, q35_4, q35_7, q35_8, q35_9, q35_10, q35_11, q35_13, q35_14, q35_17, q35_19, q35_21, q35_24, q35_25, q35_28, q35_31, q35_32, q35_35, q35_38, q35_39, q35_40, q35_43, q35_45, q35_46, q35_47, q35_50, q35_51, q35_53, q35_56, q35_59, q35_60, q35_61, q35_65, q35_66, q35_69, q35_70, q35_73, q35_76, q35_77, q35_78, q35_79, q35_81, q35_82, q35_83, q35_86, q35_88, q35_90, q35_93, q35_94, q35_97, q35_100, q35_102, q35_103, q35_106, q35_109, q35_110, q35_111, q35_114, q35_115, q35_117, q35_119, q35_120, q35_123, q35_126, q35_127, q35_129, q35_132, q35_133, q35_135, q35_138, q35_141, q35_144, q35_145, q35_148, q35_151, q35_152, q35_153, q35_154, q35_156, q35_157, n10, n01, Bool.false_eq_true, ab_bs, ab_bn, ab_pr0, ab_pr1, nl_n, nl_i, nl_r, nl_j, nl_nl, rc_16, gf_16_0, gf_16_1, gf_16_2, gf_16_3, pt_16_3, gf_16_4, pt_16_4, gf_16_5, pt_16_5, rc_30, gf_30_0, gf_30_1, gf_30_2, gf_30_3, pt_30_3, gf_30_4, pt_30_4, gf_30_5, pt_30_5, gf_30_6, pt_30_6, gf_30_7, pt_30_7, gf_30_8, pt_30_8, gf_30_9, pt_30_9_0, pt_30_9_1, gf_30_10, pt_30_10, gf_30_11, pt_30_11, gf_30_12, pt_30_12, gf_30_13, pt_30_13, rc_85, gf_85_0, gf_85_1, gf_85_2, pt_85_2, gf_85_3, pt_85_3, hhi, if_true, qe_17 hw, si_f17 hw, hcp, ib8 hp8]
    · by_cases e : c = 18 + w ∧ j = p
      · obtain ⟨rfl, rfl⟩ := e
        rw [up_s, hW _ _ (by omega)]
      · rw [up_o _ _ _ _ _ _ e]
        rcases x with x | x
        · rw [i1 c j x e, hW c j x]
        · exact i2 c j x
  · obtain ⟨V, l⟩ := s
    obtain ⟨i1, i2, i3, i4⟩ := hs
    have i1 : ∀ c j, c < 30 → ¬ (c = 18 + w ∧ j = p) → V c j = M c j := i1
    have i2 : ∀ c j, 86 < c → V c j = W c j := i2
    have i3 : V 85 2 = (gnF n w p a rule seed M k).1 := i3
    have i4 : V 85 3 = (gnF n w p a rule seed M k).2 := i4
    have hV : ∀ c j, c < 30 → ab_up V (18 + w) p (nI (a + k)) c j = ab_up M (18 + w) p (nI (a + k)) c j := by
      intro c j x
      unfold ab_up
      by_cases e : c = 18 + w ∧ j = p
      · rw [if_pos e, if_pos e]
      · rw [if_neg e, if_neg e, i1 c j x e]
    have hM2 := HP_up h hw hp (ho k hk)
    have hVH := HP_of hM2 hV
    obtain ⟨t1, t2, t3⟩ := ho_run (scr := scr) hVH rule seed
    obtain ⟨u1, -, -⟩ := ho_same hM2 hV rule seed hr
    have hou := u1 p hp
    have hg : oX (hoC n rule seed M) p - oX (hoC n rule seed (ab_up V (18 + w) p (nI (a + k)))) p = gnO n w p rule seed M (nI (a + k)) := by rw [hou]; rfl
    generalize hoC n rule seed (ab_up V (18 + w) p (nI (a + k))) = H at *
    have hH : ∀ c j, c < 30 → ¬ (c = 18 + w ∧ j = p) → H c j = M c j := fun c j x y => by rw [t3 c j (Or.inl x), up_o _ _ _ _ _ _ y, i1 c j x y]
    have hH2 : ∀ c j, 80 < c → H c j = V c j := fun c j x => by rw [t3 c j (Or.inr x), up_n (by omega)]
    have hl := hlo k hk
    have ex : nI (a + k) + 1 = nI (a + (k + 1)) := by rw [nI_1]; rfl
    have h85 : H 85 2 = (gnF n w p a rule seed M k).1 := by rw [hH2 _ _ (by decide), i3]
    by_cases hB : (gnF n w p a rule seed M k).1 < gnO n w p rule seed M (nI (a + k))
    · refine ⟨(ab_up (ab_up H 85 2 (gnO n w p rule seed M (nI (a + k)))) 85 3 (nI (a + k)), some (.int (gnO n w p rule seed M (nI (a + k))))), ?_, (⟨fun c j x y => by rw [up_n (by omega), up_n (by omega)]; exact hH c j x y, fun c j x => by rw [up_n (by omega), up_n (by omega), hH2 c j (by omega), i2 c j x], by rw [up_o _ _ _ _ _ _ (by decide), up_s, gnF_s, if_pos hB], by rw [up_s, gnF_s, if_pos hB]⟩ : gsI n t w p a (k + 1) rule seed M (ab_up (ab_up H 85 2 (gnO n w p rule seed M (nI (a + k)))) 85 3 (nI (a + k))) W)⟩
      show ab_res scr 35 7 V 63 _ [] = _
      rw [q35_63]
      simp only [q35_0, q35_1, q35_4, q35_7, q35_8, q35_9, q35_10, q35_11, q35_13, q35_14, q35_17, q35_19, q35_21, q35_24, q35_25, q35_28, q35_31, q35_32, q35_35, q35_38, q35_39, q35_40, q35_43, q35_45, q35_46, q35_47, q35_50, q35_51, q35_53, q35_56, q35_59, q35_60, q35_61, q35_65, q35_66, q35_69, q35_70, q35_73, q35_76, q35_77, q35_78, q35_79, q35_81, q35_82, q35_83, q35_86, q35_88, q35_90, q35_93, q35_94, q35_97, q35_100, q35_102, q35_103, q35_106, q35_109, q35_110, q35_111, q35_114, q35_115, q35_117, q35_119, q35_120, q35_123, q35_126, q35_127, q35_129, q35_132, q35_133, q35_135, q35_138, q35_141, q35_144, q35_145, q35_148, q35_151, q35_152, q35_153, q35_154, q35_156, q35_157, n10, n01, Bool.false_eq_true, ab_bs, ab_bn, ab_pr0, ab_pr1, nl_n, nl_i, nl_r, nl_j, nl_nl, rc_16, gf_16_0, gf_16_1, gf_16_2, gf_16_3, pt_16_3, gf_16_4, pt_16_4, gf_16_5, pt_16_5, rc_30, gf_30_0, gf_30_1, gf_30_2, gf_30_3, pt_30_3, gf_30_4, pt_30_4, gf_30_5, pt_30_5, gf_30_6, pt_30_6, gf_30_7, pt_30_7, gf_30_8, pt_30_8, gf_30_9, pt_30_9_0, pt_30_9_1, gf_30_10, pt_30_10, gf_30_11, pt_30_11, gf_30_12, pt_30_12, gf_30_13, pt_30_13, rc_85, gf_85_0, gf_85_1, gf_85_2, pt_85_2, gf_85_3, pt_85_3, hl, if_false, if_true, qe_17 hw, si_f17 hw, hcp, ib8 hp8, t1, t2, qe_31 hp8, rc_seat hp8, sp_out _ _ hp8, oX_eq, hg, h85, Int32.not_le.mpr hB, ex]
    · refine ⟨(H, some (.int (gnO n w p rule seed M (nI (a + k))))), ?_, (⟨hH, fun c j x => by rw [hH2 c j (by omega), i2 c j x], by rw [h85, gnF_s, if_neg hB], by rw [hH2 _ _ (by decide), i4, gnF_s, if_neg hB]⟩ : gsI n t w p a (k + 1) rule seed M H W)⟩
      show ab_res scr 35 7 V 63 _ [] = _
      rw [q35_63]
      simp only [q35_0, q35_1, q35_4, q35_7, q35_8, q35_9, q35_10, q35_11, q35_13, q35_14, q35_17, q35_19, q35_21, q35_24, q35_25, q35_28, q35_31, q35_32, q35_35, q35_38, q35_39, q35_40, q35_43, q35_45, q35_46, q35_47, q35_50, q35_51, q35_53, q35_56, q35_59, q35_60, q35_61, q35_65, q35_66, q35_69, q35_70, q35_73, q35_76, q35_77, q35_78, q35_79, q35_81, q35_82, q35_83, q35_86, q35_88, q35_90, q35_93, q35_94, q35_97, q35_100, q35_102, q35_103, q35_106, q35_109, q35_110, q35_111, q35_114, q35_115, q35_117, q35_119, q35_120, q35_123, q35_126, q35_127, q35_129, q35_132, q35_133, q35_135, q35_138, q35_141, q35_144, q35_145, q35_148, q35_151, q35_152, q35_153, q35_154, q35_156, q35_157, n10, n01, Bool.false_eq_true, ab_bs, ab_bn, ab_pr0, ab_pr1, nl_n, nl_i, nl_r, nl_j, nl_nl, rc_16, gf_16_0, gf_16_1, gf_16_2, gf_16_3, pt_16_3, gf_16_4, pt_16_4, gf_16_5, pt_16_5, rc_30, gf_30_0, gf_30_1, gf_30_2, gf_30_3, pt_30_3, gf_30_4, pt_30_4, gf_30_5, pt_30_5, gf_30_6, pt_30_6, gf_30_7, pt_30_7, gf_30_8, pt_30_8, gf_30_9, pt_30_9_0, pt_30_9_1, gf_30_10, pt_30_10, gf_30_11, pt_30_11, gf_30_12, pt_30_12, gf_30_13, pt_30_13, rc_85, gf_85_0, gf_85_1, gf_85_2, pt_85_2, gf_85_3, pt_85_3, hl, if_false, if_true, qe_17 hw, si_f17 hw, hcp, ib8 hp8, t1, t2, qe_31 hp8, rc_seat hp8, sp_out _ _ hp8, oX_eq, hg, h85, Int32.not_lt.mp hB, ex]
