/-! fairest, sure -/
def cF (v : Nat → Int32) (k : Nat) : Int32 × Int32 := fo (fun r s => if v r < s.2 then (nI r, v r) else s) k (0, 2147483647)
def rF (v : Nat → Int32) (k : Nat) : Int32 × Int32 := fo (fun r s => if r = 0 ∨ v r < s.2 then (nI r, v r) else s) k (0, 0)
theorem cF_s (v : Nat → Int32) (k : Nat) : cF v (k + 1) = if v k < (cF v k).2 then (nI k, v k) else cF v k := rfl
theorem rF_s (v : Nat → Int32) (k : Nat) : rF v (k + 1) = if k = 0 ∨ v k < (rF v k).2 then (nI k, v k) else rF v k := rfl
theorem cF_rF (v : Nat → Int32) (k : Nat) : cF v (k + 1) = rF v (k + 1) := by
  induction k with
  | zero =>
    rw [cF_s, rF_s, if_pos (Or.inl rfl)]
    show (if v 0 < 2147483647 then (nI 0, v 0) else (0, 2147483647)) = _
    by_cases h : v 0 < 2147483647
    · rw [if_pos h]
    · rw [if_neg h]
      have h2 := Int32.not_lt.mp h
      have h3 : v 0 = 2147483647 := by
        apply Int32.toInt_inj.mp
        rw [Int32.le_iff_toInt_le, show (2147483647 : Int32).toInt = 2147483647 by decide] at h2
        have := Int32.toInt_lt (v 0)
        rw [show (2147483647 : Int32).toInt = 2147483647 by decide]
        omega
      rw [h3]
      rfl
  | succ k ih =>
    rw [cF_s (k := k + 1), rF_s (k := k + 1), ih]
    by_cases h : v (k + 1) < (rF v (k + 1)).2
    · rw [if_pos h, if_pos (Or.inr h)]
    · rw [if_neg h, if_neg (fun q => q.elim (fun z => absurd z (Nat.succ_ne_zero k)) h)]
def fv (bw : Bool) (n : Nat) (seed : Int32) (M : ab_M) (r : Nat) : Int32 := if bw = true then wrV n (hoC n (nI r) seed M) else hoC n (nI r) seed M 30 5
theorem okR_nI {r : Nat} (h : r < 7) : okR (nI r) := okR_of ⟨nI_pos' (by omega), nI_lt (b := 7) h (by decide)⟩
theorem fr_cls {scr : Option (List Int32)} {n t : Nat} {M : ab_M} (h : HP n t M) (bw : Bool) (seed what : Int32) : ∃ (W : ab_M) (l : Option Value), ab_res scr 88 8 M 45 [some (.ref 0), some (.int seed), some (.int what), some (.int (if bw = true then 1 else 0)), some (.int 0), some (.int 2147483647), some (.int (nI 0)), none] [] = ab_res scr 88 8 W 45 [some (.ref 0), some (.int seed), some (.int what), some (.int (if bw = true then 1 else 0)), some (.int (cF (fv bw n seed M) 7).1), some (.int (cF (fv bw n seed M) 7).2), some (.int (nI 7)), l] [] ∧ FA M W := by
  have hx := rx (fun k (s : ab_M × Option Value) => ab_res scr 88 8 s.1 45 [some (.ref 0), some (.int seed), some (.int what), some (.int (if bw = true then 1 else 0)), some (.int (cF (fv bw n seed M) k).1), some (.int (cF (fv bw n seed M) k).2), some (.int (nI k)), s.2] []) (fun _ s => FA M s.1) 7 (M, none) (FA_refl M) (fun k s hk hs => ?_)
  · obtain ⟨⟨W, l⟩, e1, e2⟩ := hx
    exact ⟨W, l, e1, e2⟩
  · obtain ⟨W, l⟩ := s
    have hs : FA M W := hs
    have hW : ∀ c j, c < 30 → W c j = M c j := fun c j x => hs c j (Or.inl x)
    have hWH := HP_of h hW
    obtain ⟨a1, a2, a3, -, -⟩ := id hWH
    obtain ⟨e1, e2, e3⟩ := sp_hold (scr := scr) W n t a1 a2 a3 (nI k) seed
    obtain ⟨-, u2, u3⟩ := ho_same h hW (nI k) seed (okR_nI hk)
    have e4 := sp_worst (scr := scr) (hoC n (nI k) seed W) n a1 e2.2.1
    rw [u3] at e4
    have h7 : ¬ (7 : Int32) ≤ nI k := nI_ge (b := 7) hk (by decide)
    have hf := FA_trans hs (FA_of e3)
    generalize hoC n (nI k) seed W = H at *
    cases bw with
    | true =>
      have ev : wrV n (hoC n (nI k) seed M) = fv true n seed M k := rfl
      rw [ev] at e4
      by_cases hB : fv true n seed M k < (cF (fv true n seed M) k).2
      · refine ⟨(H, some (.int (fv true n seed M k))), ?_, hf⟩
        show ab_res scr 88 8 W 45 _ [] = _
        rw [q88_45]
        simp only [q88_0, q88_1, q88_2, q88_5, q88_8, q88_9, q88_10, q88_11, q88_14, q88_17, q88_20, q88_22, q88_23, q88_24, q88_25, q88_26, q88_29, q88_30, q88_33, q88_34, q88_35, q88_36, q88_38, q88_40, q88_42, q88_43, q88_47, q88_49, q88_52, q88_53, q88_55, q88_56, q88_59, q88_60, q88_63, q88_64, q88_67, q88_70, q88_73, q88_74, q88_77, q88_80, q88_82, q88_84, q88_86, q88_89, q88_91, q88_93, q88_95, q88_97, q88_100, q88_103, q88_104, q88_105, q88_108, q88_110, q88_113, q88_115, n10, n01, Bool.false_eq_true, ab_bs, ab_bn, ab_pr0, ab_pr1, nl_n, nl_i, nl_r, nl_j, nl_nl, rc_0, gf_0_0, gf_0_1, gf_0_2, gf_0_3, gf_0_4, gf_0_5, gf_0_6, gf_0_7, gf_0_8, gf_0_9, pt_0_9, rc_30, gf_30_0, gf_30_1, gf_30_2, gf_30_3, pt_30_3, gf_30_4, pt_30_4, gf_30_5, pt_30_5, gf_30_6, pt_30_6, gf_30_7, pt_30_7, gf_30_8, pt_30_8, gf_30_9, pt_30_9_0, pt_30_9_1, gf_30_10, pt_30_10, gf_30_11, pt_30_11, gf_30_12, pt_30_12, gf_30_13, pt_30_13, h7, if_true, if_false, e1, e4, Int32.not_le.mpr hB, nI_succ, cF_s, hB]
      · refine ⟨(H, some (.int (fv true n seed M k))), ?_, hf⟩
        show ab_res scr 88 8 W 45 _ [] = _
        rw [q88_45]
        simp only [q88_0, q88_1, q88_2, q88_5, q88_8, q88_9, q88_10, q88_11, q88_14, q88_17, q88_20, q88_22, q88_23, q88_24, q88_25, q88_26, q88_29, q88_30, q88_33, q88_34, q88_35, q88_36, q88_38, q88_40, q88_42, q88_43, q88_47, q88_49, q88_52, q88_53, q88_55, q88_56, q88_59, q88_60, q88_63, q88_64, q88_67, q88_70, q88_73, q88_74, q88_77, q88_80, q88_82, q88_84, q88_86, q88_89, q88_91, q88_93, q88_95, q88_97, q88_100, q88_103, q88_104, q88_105, q88_108, q88_110, q88_113, q88_115, n10, n01, Bool.false_eq_true, ab_bs, ab_bn, ab_pr0, ab_pr1, nl_n, nl_i, nl_r, nl_j, nl_nl, rc_0, gf_0_0, gf_0_1, gf_0_2, gf_0_3, gf_0_4, gf_0_5, gf_0_6, gf_0_7, gf_0_8, gf_0_9, pt_0_9, rc_30, gf_30_0, gf_30_1, gf_30_2, gf_30_3, pt_30_3, gf_30_4, pt_30_4, gf_30_5, pt_30_5, gf_30_6, pt_30_6, gf_30_7, pt_30_7, gf_30_8, pt_30_8, gf_30_9, pt_30_9_0, pt_30_9_1, gf_30_10, pt_30_10, gf_30_11, pt_30_11, gf_30_12, pt_30_12, gf_30_13, pt_30_13, h7, if_true, if_false, e1, e4, Int32.not_lt.mp hB, nI_succ, cF_s, hB]
    | false =>
      have ev : hoC n (nI k) seed M 30 5 = fv false n seed M k := rfl
      rw [ev] at u2
      by_cases hB : fv false n seed M k < (cF (fv false n seed M) k).2
      · refine ⟨(H, some (.int (fv false n seed M k))), ?_, hf⟩
        show ab_res scr 88 8 W 45 _ [] = _
        rw [q88_45]
        simp only [q88_0, q88_1, q88_2, q88_5, q88_8, q88_9, q88_10, q88_11, q88_14, q88_17, q88_20, q88_22, q88_23, q88_24, q88_25, q88_26, q88_29, q88_30, q88_33, q88_34, q88_35, q88_36, q88_38, q88_40, q88_42, q88_43, q88_47, q88_49, q88_52, q88_53, q88_55, q88_56, q88_59, q88_60, q88_63, q88_64, q88_67, q88_70, q88_73, q88_74, q88_77, q88_80, q88_82, q88_84, q88_86, q88_89, q88_91, q88_93, q88_95, q88_97, q88_100, q88_103, q88_104, q88_105, q88_108, q88_110, q88_113, q88_115, n10, n01, Bool.false_eq_true, ab_bs, ab_bn, ab_pr0, ab_pr1, nl_n, nl_i, nl_r, nl_j, nl_nl, rc_0, gf_0_0, gf_0_1, gf_0_2, gf_0_3, gf_0_4, gf_0_5, gf_0_6, gf_0_7, gf_0_8, gf_0_9, pt_0_9, rc_30, gf_30_0, gf_30_1, gf_30_2, gf_30_3, pt_30_3, gf_30_4, pt_30_4, gf_30_5, pt_30_5, gf_30_6, pt_30_6, gf_30_7, pt_30_7, gf_30_8, pt_30_8, gf_30_9, pt_30_9_0, pt_30_9_1, gf_30_10, pt_30_10, gf_30_11, pt_30_11, gf_30_12, pt_30_12, gf_30_13, pt_30_13, h7, if_true, if_false, e1, u2, Int32.not_le.mpr hB, nI_succ, cF_s, hB]
      · refine ⟨(H, some (.int (fv false n seed M k))), ?_, hf⟩
        show ab_res scr 88 8 W 45 _ [] = _
        rw [q88_45]
        simp only [q88_0, q88_1, q88_2, q88_5, q88_8, q88_9, q88_10, q88_11, q88_14, q88_17, q88_20, q88_22, q88_23, q88_24, q88_25, q88_26, q88_29, q88_30, q88_33, q88_34, q88_35, q88_36, q88_38, q88_40, q88_42, q88_43, q88_47, q88_49, q88_52, q88_53, q88_55, q88_56, q88_59, q88_60, q88_63, q88_64, q88_67, q88_70, q88_73, q88_74, q88_77, q88_80, q88_82, q88_84, q88_86, q88_89, q88_91, q88_93, q88_95, q88_97, q88_100, q88_103, q88_104, q88_105, q88_108, q88_110, q88_113, q88_115, n10, n01, Bool.false_eq_true, ab_bs, ab_bn, ab_pr0, ab_pr1, nl_n, nl_i, nl_r, nl_j, nl_nl, rc_0, gf_0_0, gf_0_1, gf_0_2, gf_0_3, gf_0_4, gf_0_5, gf_0_6, gf_0_7, gf_0_8, gf_0_9, pt_0_9, rc_30, gf_30_0, gf_30_1, gf_30_2, gf_30_3, pt_30_3, gf_30_4, pt_30_4, gf_30_5, pt_30_5, gf_30_6, pt_30_6, gf_30_7, pt_30_7, gf_30_8, pt_30_8, gf_30_9, pt_30_9_0, pt_30_9_1, gf_30_10, pt_30_10, gf_30_11, pt_30_11, gf_30_12, pt_30_12, gf_30_13, pt_30_13, h7, if_true, if_false, e1, u2, Int32.not_lt.mp hB, nI_succ, cF_s, hB]
theorem nIz {k : Nat} (h : k < 1000) : (nI k = 0) = (k = 0) := by
  apply propext
  exact nI_eq (a := k) (b := 0) (by omega) (by decide)
theorem fr_ref {scr : Option (List Int32)} {n t : Nat} {M N : ab_M} (h : HP n t M) (hN : PW n t N M) (hN4 : N 16 4 = M 16 4) (bw : Bool) (seed what : Int32) (hw : what - what / 2 * 2 = if bw = true then 0 else 1) : ∃ (N' : ab_M) (l1 l2 : Option Value), ab_res scr 166 7 N 35 [some (.ref 123), some (.int seed), some (.int what), some (.int 0), some (.int 0), some (.int (nI 0)), none, none] [] = ab_res scr 166 7 N' 35 [some (.ref 123), some (.int seed), some (.int what), some (.int (rF (fv bw n seed M) 7).1), some (.int (rF (fv bw n seed M) 7).2), some (.int (nI 7)), l1, l2] [] ∧ AX N N' := by
  have hx := rx (fun k (s : ab_M × Option Value × Option Value) => ab_res scr 166 7 s.1 35 [some (.ref 123), some (.int seed), some (.int what), some (.int (rF (fv bw n seed M) k).1), some (.int (rF (fv bw n seed M) k).2), some (.int (nI k)), s.2.1, s.2.2] []) (fun _ s => AX N s.1 ∧ PW n t s.1 M) 7 (N, none, none) ⟨AX_refl N, hN⟩ (fun k s hk hs => ?_)
  · obtain ⟨⟨W, l1, l2⟩, e1, e2, -⟩ := hx
    exact ⟨W, l1, l2, e1, e2⟩
  · obtain ⟨V, l1, l2⟩ := s
    obtain ⟨s1, s2⟩ := hs
    have s1 : AX N V := s1
    have s2 : PW n t V M := s2
    obtain ⟨a1, a2, a3, a4, -⟩ := id h
    obtain ⟨N1, e1, e2, e3⟩ := rp_evenings (scr := scr) a1 a2 a3 s2 a4 (nI k) seed (okR_nI hk)
    have hF := (ho_run (scr := scr) h (nI k) seed).2.2
    have hV4 : V 16 4 = M 16 4 := by rw [s1.1 _ _ (by decide), hN4]
    have hax : AX V N1 := AX_FG e3 e2 (by rw [hF 16 4 (by decide), hV4])
    have hp2 : PW n t N1 M := by
      obtain ⟨w1, w2, w3, w4, w5⟩ := s2
      have z := e3.2.2.1
      have ht := a3.1
      exact ⟨by rw [z _ (by decide), w1], Or.inr ⟨e3.2.2.2, by rw [e2.1.1.2.1, hF 16 4 (by decide)]⟩, by rw [z _ (by decide), w3], fun u hu q hq => by rw [z _ (by omega)]; exact w4 u hu q hq, fun i hi => by rw [z _ (by omega)]; exact w5 i hi⟩
    have ew := (wo_ref (scr := scr) a1 e2).2
    have a6 := e2.1.2.2.1.2.2.2.2.2.1
    have h7 : ¬ (7 : Int32) ≤ nI k := nI_ge (b := 7) hk (by decide)
    have hz : (nI k = 0) = (k = 0) := nIz (by omega)
    have hP : AX N N1 ∧ PW n t N1 M := ⟨AX_trans s1 hax, hp2⟩
    have x20 : ¬ (2 : Int32) = 0 := by decide
    cases bw with
    | true =>
      have ev : wrV n (hoC n (nI k) seed M) = fv true n seed M k := rfl
      rw [ev] at ew
      have hw : what - what / 2 * 2 = 0 := hw
      by_cases hk0 : k = 0
      · subst hk0
        refine ⟨(N1, some (.int (fv true n seed M 0)), some (.int 1)), ?_, hP⟩
        show ab_res scr 166 7 V 35 _ [] = _
        rw [q166_35]
        simp only [q166_0, q166_1, q166_2, q166_3, q166_6, q166_9, q166_12, q166_13, q166_14, q166_15, q166_18, q166_20, q166_21, q166_24, q166_26, q166_27, q166_28, q166_29, q166_30, q166_32, q166_33, q166_37, q166_39, q166_42, q166_43, q166_45, q166_46, q166_49, q166_50, q166_51, q166_52, q166_55, q166_56, q166_59, q166_62, q166_63, q166_66, q166_68, q166_70, q166_73, q166_75, q166_77, q166_80, q166_81, q166_84, q166_85, q166_87, q166_89, q166_92, q166_94, q166_97, q166_98, q166_99, q166_101, q166_104, q166_106, q166_109, q166_111, q166_113, q166_116, q166_119, q166_120, q166_121, q166_124, q166_125, q166_128, q166_130, n10, n01, Bool.false_eq_true, ab_bs, ab_bn, ab_pr0, ab_pr1, nl_n, nl_i, nl_r, nl_j, nl_nl, rc_123, gf_123_0, gf_123_1, pt_123_1, gf_123_2, pt_123_2, gf_123_3, pt_123_3, gf_123_4, pt_123_4, gf_123_5, pt_123_5, gf_123_6, pt_123_6, gf_123_7, pt_123_7, gf_123_8, pt_123_8, gf_123_9, gf_123_10, gf_123_11, gf_123_12, gf_123_13, pt_123_13_0, pt_123_13_1, gf_123_14, pt_123_14_0, pt_123_14_1, gf_123_15, gf_123_16, gf_123_17, gf_123_18, gf_123_19, gf_123_20, gf_123_21, gf_123_22, gf_123_23, gf_123_24, gf_123_25, pt_123_25, gf_123_26, gf_123_27, pt_123_27, gf_123_28, pt_123_28, gf_123_29, gf_123_30, pt_123_30, gf_123_31, pt_123_31, gf_123_32, pt_123_32, gf_123_33, pt_123_33, gf_123_34, pt_123_34_0, pt_123_34_1, gf_123_35, gf_123_36, gf_123_37, gf_123_38, pt_123_38, gf_123_39, pt_123_39, gf_123_40, pt_123_40, gf_123_41, gf_123_42, gf_123_43, gf_123_44, gf_123_45, gf_123_46, gf_123_47, pt_123_47, h7, if_true, if_false, e1, x20, hw, not_true, ew, hz, nI_succ, rF_s, true_or]
      · by_cases hB : fv true n seed M k < (rF (fv true n seed M) k).2
        · refine ⟨(N1, some (.int (fv true n seed M k)), some (.int 1)), ?_, hP⟩
          show ab_res scr 166 7 V 35 _ [] = _
          rw [q166_35]
          simp only [q166_0, q166_1, q166_2, q166_3, q166_6, q166_9, q166_12, q166_13, q166_14, q166_15, q166_18, q166_20, q166_21, q166_24, q166_26, q166_27, q166_28, q166_29, q166_30, q166_32, q166_33, q166_37, q166_39, q166_42, q166_43, q166_45, q166_46, q166_49, q166_50, q166_51, q166_52, q166_55, q166_56, q166_59, q166_62, q166_63, q166_66, q166_68, q166_70, q166_73, q166_75, q166_77, q166_80, q166_81, q166_84, q166_85, q166_87, q166_89, q166_92, q166_94, q166_97, q166_98, q166_99, q166_101, q166_104, q166_106, q166_109, q166_111, q166_113, q166_116, q166_119, q166_120, q166_121, q166_124, q166_125, q166_128, q166_130, n10, n01, Bool.false_eq_true, ab_bs, ab_bn, ab_pr0, ab_pr1, nl_n, nl_i, nl_r, nl_j, nl_nl, rc_123, gf_123_0, gf_123_1, pt_123_1, gf_123_2, pt_123_2, gf_123_3, pt_123_3, gf_123_4, pt_123_4, gf_123_5, pt_123_5, gf_123_6, pt_123_6, gf_123_7, pt_123_7, gf_123_8, pt_123_8, gf_123_9, gf_123_10, gf_123_11, gf_123_12, gf_123_13, pt_123_13_0, pt_123_13_1, gf_123_14, pt_123_14_0, pt_123_14_1, gf_123_15, gf_123_16, gf_123_17, gf_123_18, gf_123_19, gf_123_20, gf_123_21, gf_123_22, gf_123_23, gf_123_24, gf_123_25, pt_123_25, gf_123_26, gf_123_27, pt_123_27, gf_123_28, pt_123_28, gf_123_29, gf_123_30, pt_123_30, gf_123_31, pt_123_31, gf_123_32, pt_123_32, gf_123_33, pt_123_33, gf_123_34, pt_123_34_0, pt_123_34_1, gf_123_35, gf_123_36, gf_123_37, gf_123_38, pt_123_38, gf_123_39, pt_123_39, gf_123_40, pt_123_40, gf_123_41, gf_123_42, gf_123_43, gf_123_44, gf_123_45, gf_123_46, gf_123_47, pt_123_47, h7, if_true, if_false, e1, x20, hw, not_true, ew, hz, hk0, Int32.not_le.mpr hB, nI_succ, rF_s, hB, false_or]
        · refine ⟨(N1, some (.int (fv true n seed M k)), some (.int 0)), ?_, hP⟩
          show ab_res scr 166 7 V 35 _ [] = _
          rw [q166_35]
          simp only [q166_0, q166_1, q166_2, q166_3, q166_6, q166_9, q166_12, q166_13, q166_14, q166_15, q166_18, q166_20, q166_21, q166_24, q166_26, q166_27, q166_28, q166_29, q166_30, q166_32, q166_33, q166_37, q166_39, q166_42, q166_43, q166_45, q166_46, q166_49, q166_50, q166_51, q166_52, q166_55, q166_56, q166_59, q166_62, q166_63, q166_66, q166_68, q166_70, q166_73, q166_75, q166_77, q166_80, q166_81, q166_84, q166_85, q166_87, q166_89, q166_92, q166_94, q166_97, q166_98, q166_99, q166_101, q166_104, q166_106, q166_109, q166_111, q166_113, q166_116, q166_119, q166_120, q166_121, q166_124, q166_125, q166_128, q166_130, n10, n01, Bool.false_eq_true, ab_bs, ab_bn, ab_pr0, ab_pr1, nl_n, nl_i, nl_r, nl_j, nl_nl, rc_123, gf_123_0, gf_123_1, pt_123_1, gf_123_2, pt_123_2, gf_123_3, pt_123_3, gf_123_4, pt_123_4, gf_123_5, pt_123_5, gf_123_6, pt_123_6, gf_123_7, pt_123_7, gf_123_8, pt_123_8, gf_123_9, gf_123_10, gf_123_11, gf_123_12, gf_123_13, pt_123_13_0, pt_123_13_1, gf_123_14, pt_123_14_0, pt_123_14_1, gf_123_15, gf_123_16, gf_123_17, gf_123_18, gf_123_19, gf_123_20, gf_123_21, gf_123_22, gf_123_23, gf_123_24, gf_123_25, pt_123_25, gf_123_26, gf_123_27, pt_123_27, gf_123_28, pt_123_28, gf_123_29, gf_123_30, pt_123_30, gf_123_31, pt_123_31, gf_123_32, pt_123_32, gf_123_33, pt_123_33, gf_123_34, pt_123_34_0, pt_123_34_1, gf_123_35, gf_123_36, gf_123_37, gf_123_38, pt_123_38, gf_123_39, pt_123_39, gf_123_40, pt_123_40, gf_123_41, gf_123_42, gf_123_43, gf_123_44, gf_123_45, gf_123_46, gf_123_47, pt_123_47, h7, if_true, if_false, e1, x20, hw, not_true, ew, hz, hk0, Int32.not_lt.mp hB, nI_succ, rF_s, hB, false_or]
    | false =>
      have ev : hoC n (nI k) seed M 30 5 = fv false n seed M k := rfl
      rw [ev] at a6
      have hw : what - what / 2 * 2 = 1 := hw
      by_cases hk0 : k = 0
      · subst hk0
        refine ⟨(N1, some (.int (fv false n seed M 0)), some (.int 1)), ?_, hP⟩
        show ab_res scr 166 7 V 35 _ [] = _
        rw [q166_35]
        simp only [q166_0, q166_1, q166_2, q166_3, q166_6, q166_9, q166_12, q166_13, q166_14, q166_15, q166_18, q166_20, q166_21, q166_24, q166_26, q166_27, q166_28, q166_29, q166_30, q166_32, q166_33, q166_37, q166_39, q166_42, q166_43, q166_45, q166_46, q166_49, q166_50, q166_51, q166_52, q166_55, q166_56, q166_59, q166_62, q166_63, q166_66, q166_68, q166_70, q166_73, q166_75, q166_77, q166_80, q166_81, q166_84, q166_85, q166_87, q166_89, q166_92, q166_94, q166_97, q166_98, q166_99, q166_101, q166_104, q166_106, q166_109, q166_111, q166_113, q166_116, q166_119, q166_120, q166_121, q166_124, q166_125, q166_128, q166_130, n10, n01, Bool.false_eq_true, ab_bs, ab_bn, ab_pr0, ab_pr1, nl_n, nl_i, nl_r, nl_j, nl_nl, rc_123, gf_123_0, gf_123_1, pt_123_1, gf_123_2, pt_123_2, gf_123_3, pt_123_3, gf_123_4, pt_123_4, gf_123_5, pt_123_5, gf_123_6, pt_123_6, gf_123_7, pt_123_7, gf_123_8, pt_123_8, gf_123_9, gf_123_10, gf_123_11, gf_123_12, gf_123_13, pt_123_13_0, pt_123_13_1, gf_123_14, pt_123_14_0, pt_123_14_1, gf_123_15, gf_123_16, gf_123_17, gf_123_18, gf_123_19, gf_123_20, gf_123_21, gf_123_22, gf_123_23, gf_123_24, gf_123_25, pt_123_25, gf_123_26, gf_123_27, pt_123_27, gf_123_28, pt_123_28, gf_123_29, gf_123_30, pt_123_30, gf_123_31, pt_123_31, gf_123_32, pt_123_32, gf_123_33, pt_123_33, gf_123_34, pt_123_34_0, pt_123_34_1, gf_123_35, gf_123_36, gf_123_37, gf_123_38, pt_123_38, gf_123_39, pt_123_39, gf_123_40, pt_123_40, gf_123_41, gf_123_42, gf_123_43, gf_123_44, gf_123_45, gf_123_46, gf_123_47, pt_123_47, h7, if_true, if_false, e1, x20, hw, not_false_eq_true, a6, hz, nI_succ, rF_s, true_or]
      · by_cases hB : fv false n seed M k < (rF (fv false n seed M) k).2
        · refine ⟨(N1, some (.int (fv false n seed M k)), some (.int 1)), ?_, hP⟩
          show ab_res scr 166 7 V 35 _ [] = _
          rw [q166_35]
          simp only [q166_0, q166_1, q166_2, q166_3, q166_6, q166_9, q166_12, q166_13, q166_14, q166_15, q166_18, q166_20, q166_21, q166_24, q166_26, q166_27, q166_28, q166_29, q166_30, q166_32, q166_33, q166_37, q166_39, q166_42, q166_43, q166_45, q166_46, q166_49, q166_50, q166_51, q166_52, q166_55, q166_56, q166_59, q166_62, q166_63, q166_66, q166_68, q166_70, q166_73, q166_75, q166_77, q166_80, q166_81, q166_84, q166_85, q166_87, q166_89, q166_92, q166_94, q166_97, q166_98, q166_99, q166_101, q166_104, q166_106, q166_109, q166_111, q166_113, q166_116, q166_119, q166_120, q166_121, q166_124, q166_125, q166_128, q166_130, n10, n01, Bool.false_eq_true, ab_bs, ab_bn, ab_pr0, ab_pr1, nl_n, nl_i, nl_r, nl_j, nl_nl, rc_123, gf_123_0, gf_123_1, pt_123_1, gf_123_2, pt_123_2, gf_123_3, pt_123_3, gf_123_4, pt_123_4, gf_123_5, pt_123_5, gf_123_6, pt_123_6, gf_123_7, pt_123_7, gf_123_8, pt_123_8, gf_123_9, gf_123_10, gf_123_11, gf_123_12, gf_123_13, pt_123_13_0, pt_123_13_1, gf_123_14, pt_123_14_0, pt_123_14_1, gf_123_15, gf_123_16, gf_123_17, gf_123_18, gf_123_19, gf_123_20, gf_123_21, gf_123_22, gf_123_23, gf_123_24, gf_123_25, pt_123_25, gf_123_26, gf_123_27, pt_123_27, gf_123_28, pt_123_28, gf_123_29, gf_123_30, pt_123_30, gf_123_31, pt_123_31, gf_123_32, pt_123_32, gf_123_33, pt_123_33, gf_123_34, pt_123_34_0, pt_123_34_1, gf_123_35, gf_123_36, gf_123_37, gf_123_38, pt_123_38, gf_123_39, pt_123_39, gf_123_40, pt_123_40, gf_123_41, gf_123_42, gf_123_43, gf_123_44, gf_123_45, gf_123_46, gf_123_47, pt_123_47, h7, if_true, if_false, e1, x20, hw, not_false_eq_true, a6, hz, hk0, Int32.not_le.mpr hB, nI_succ, rF_s, hB, false_or]
        · refine ⟨(N1, some (.int (fv false n seed M k)), some (.int 0)), ?_, hP⟩
          show ab_res scr 166 7 V 35 _ [] = _
          rw [q166_35]
          simp only [q166_0, q166_1, q166_2, q166_3, q166_6, q166_9, q166_12, q166_13, q166_14, q166_15, q166_18, q166_20, q166_21, q166_24, q166_26, q166_27, q166_28, q166_29, q166_30, q166_32, q166_33, q166_37, q166_39, q166_42, q166_43, q166_45, q166_46, q166_49, q166_50, q166_51, q166_52, q166_55, q166_56, q166_59, q166_62, q166_63, q166_66, q166_68, q166_70, q166_73, q166_75, q166_77, q166_80, q166_81, q166_84, q166_85, q166_87, q166_89, q166_92, q166_94, q166_97, q166_98, q166_99, q166_101, q166_104, q166_106, q166_109, q166_111, q166_113, q166_116, q166_119, q166_120, q166_121, q166_124, q166_125, q166_128, q166_130, n10, n01, Bool.false_eq_true, ab_bs, ab_bn, ab_pr0, ab_pr1, nl_n, nl_i, nl_r, nl_j, nl_nl, rc_123, gf_123_0, gf_123_1, pt_123_1, gf_123_2, pt_123_2, gf_123_3, pt_123_3, gf_123_4, pt_123_4, gf_123_5, pt_123_5, gf_123_6, pt_123_6, gf_123_7, pt_123_7, gf_123_8, pt_123_8, gf_123_9, gf_123_10, gf_123_11, gf_123_12, gf_123_13, pt_123_13_0, pt_123_13_1, gf_123_14, pt_123_14_0, pt_123_14_1, gf_123_15, gf_123_16, gf_123_17, gf_123_18, gf_123_19, gf_123_20, gf_123_21, gf_123_22, gf_123_23, gf_123_24, gf_123_25, pt_123_25, gf_123_26, gf_123_27, pt_123_27, gf_123_28, pt_123_28, gf_123_29, gf_123_30, pt_123_30, gf_123_31, pt_123_31, gf_123_32, pt_123_32, gf_123_33, pt_123_33, gf_123_34, pt_123_34_0, pt_123_34_1, gf_123_35, gf_123_36, gf_123_37, gf_123_38, pt_123_38, gf_123_39, pt_123_39, gf_123_40, pt_123_40, gf_123_41, gf_123_42, gf_123_43, gf_123_44, gf_123_45, gf_123_46, gf_123_47, pt_123_47, h7, if_true, if_false, e1, x20, hw, not_false_eq_true, a6, hz, hk0, Int32.not_lt.mp hB, nI_succ, rF_s, hB, false_or]
theorem m20 : (0 : Int32) - 0 / 2 * 2 = 0 := by decide
theorem m21 : (1 : Int32) - 1 / 2 * 2 = 1 := by decide
theorem m22 : (2 : Int32) - 2 / 2 * 2 = 0 := by decide
theorem m23 : (3 : Int32) - 3 / 2 * 2 = 1 := by decide
section CN
variable {scr : Option (List Int32)} {n t : Nat} {K : Int} {M : ab_M}
theorem cl_fairest0 (h : CR n t K M) (hn0 : n ≠ 0) (bw : Bool) (seed what : Int32) (h2 : 0 ≤ what ∧ what < 4) (hw : what - what / 2 * 2 = if bw = true then 0 else 1) : ∃ (W N' : ab_M) (l l1 l2 : Option Value), ab_ms scr 88 [.ref 0, .int seed, .int what] M = ab_res scr 88 8 W 45 [some (.ref 0), some (.int seed), some (.int what), some (.int (if bw = true then 1 else 0)), some (.int (rF (fv bw n seed M) 7).1), some (.int (rF (fv bw n seed M) 7).2), some (.int (nI 7)), l] [] ∧ ab_ms scr 166 [.ref 123, .int seed, .int what] W = ab_res scr 166 7 N' 35 [some (.ref 123), some (.int seed), some (.int what), some (.int (rF (fv bw n seed M) 7).1), some (.int (rF (fv bw n seed M) 7).2), some (.int (nI 7)), l1, l2] [] ∧ AX M N' := by
  have hn := CR_n h
  have hM := CR_3 h
  have hz : ¬ nI n = 0 := nI_ne0 (by omega) (by omega)
  obtain ⟨W, l, e1, e2⟩ := fr_cls (scr := scr) (CR_HP h) bw seed what
  have hpw : PW n t W M := PW_of h.2.1 (fun _ _ _ => rfl) (fun i => e2 _ _ (by decide)) (e2 _ _ (by decide))
  obtain ⟨N', l1, l2, f1, f2⟩ := fr_ref (scr := scr) (CR_HP h) hpw (e2 16 4 (by decide)) bw seed what hw
  have hW72 : W 127 72 = nI n := by rw [e2 _ _ (by decide), h.2.1.1]
  refine ⟨W, N', l, l1, l2, ?_, ?_, AX_trans (AX_FA e2) f2⟩
  · rw [ms88, ← cF_rF (fv bw n seed M) 6, ← e1]
    cases bw with
    | true =>
      have hw : what - what / 2 * 2 = 0 := hw
      simp only [q88_0, q88_1, q88_2, q88_5, q88_8, q88_9, q88_10, q88_11, q88_14, q88_17, q88_20, q88_22, q88_23, q88_24, q88_25, q88_26, q88_29, q88_30, q88_33, q88_34, q88_35, q88_36, q88_38, q88_40, q88_42, q88_43, q88_47, q88_49, q88_52, q88_53, q88_55, q88_56, q88_59, q88_60, q88_63, q88_64, q88_67, q88_70, q88_73, q88_74, q88_77, q88_80, q88_82, q88_84, q88_86, q88_89, q88_91, q88_93, q88_95, q88_97, q88_100, q88_103, q88_104, q88_105, q88_108, q88_110, q88_113, q88_115, n10, n01, Bool.false_eq_true, ab_bs, ab_bn, ab_pr0, ab_pr1, nl_n, nl_i, nl_r, nl_j, nl_nl, rc_0, gf_0_0, gf_0_1, gf_0_2, gf_0_3, gf_0_4, gf_0_5, gf_0_6, gf_0_7, gf_0_8, gf_0_9, pt_0_9, rc_16, gf_16_0, gf_16_1, gf_16_2, gf_16_3, pt_16_3, gf_16_4, pt_16_4, gf_16_5, pt_16_5, sp_within, h2, and_self, if_true, if_false, not_false_eq_true, not_true, hM, hz, hw, show ¬ (2 : Int32) = 0 by decide]
      rfl
    | false =>
      have hw : what - what / 2 * 2 = 1 := hw
      simp only [q88_0, q88_1, q88_2, q88_5, q88_8, q88_9, q88_10, q88_11, q88_14, q88_17, q88_20, q88_22, q88_23, q88_24, q88_25, q88_26, q88_29, q88_30, q88_33, q88_34, q88_35, q88_36, q88_38, q88_40, q88_42, q88_43, q88_47, q88_49, q88_52, q88_53, q88_55, q88_56, q88_59, q88_60, q88_63, q88_64, q88_67, q88_70, q88_73, q88_74, q88_77, q88_80, q88_82, q88_84, q88_86, q88_89, q88_91, q88_93, q88_95, q88_97, q88_100, q88_103, q88_104, q88_105, q88_108, q88_110, q88_113, q88_115, n10, n01, Bool.false_eq_true, ab_bs, ab_bn, ab_pr0, ab_pr1, nl_n, nl_i, nl_r, nl_j, nl_nl, rc_0, gf_0_0, gf_0_1, gf_0_2, gf_0_3, gf_0_4, gf_0_5, gf_0_6, gf_0_7, gf_0_8, gf_0_9, pt_0_9, rc_16, gf_16_0, gf_16_1, gf_16_2, gf_16_3, pt_16_3, gf_16_4, pt_16_4, gf_16_5, pt_16_5, sp_within, h2, and_self, if_true, if_false, not_false_eq_true, not_true, hM, hz, hw, show ¬ (2 : Int32) = 0 by decide]
      rfl
  · rw [ms166, ← f1]
    simp only [q166_0, q166_1, q166_2, q166_3, q166_6, q166_9, q166_12, q166_13, q166_14, q166_15, q166_18, q166_20, q166_21, q166_24, q166_26, q166_27, q166_28, q166_29, q166_30, q166_32, q166_33, q166_37, q166_39, q166_42, q166_43, q166_45, q166_46, q166_49, q166_50, q166_51, q166_52, q166_55, q166_56, q166_59, q166_62, q166_63, q166_66, q166_68, q166_70, q166_73, q166_75, q166_77, q166_80, q166_81, q166_84, q166_85, q166_87, q166_89, q166_92, q166_94, q166_97, q166_98, q166_99, q166_101, q166_104, q166_106, q166_109, q166_111, q166_113, q166_116, q166_119, q166_120, q166_121, q166_124, q166_125, q166_128, q166_130, n10, n01, Bool.false_eq_true, ab_bs, ab_bn, ab_pr0, ab_pr1, nl_n, nl_i, nl_r, nl_j, nl_nl, rc_123, gf_123_0, gf_123_1, pt_123_1, gf_123_2, pt_123_2, gf_123_3, pt_123_3, gf_123_4, pt_123_4, gf_123_5, pt_123_5, gf_123_6, pt_123_6, gf_123_7, pt_123_7, gf_123_8, pt_123_8, gf_123_9, gf_123_10, gf_123_11, gf_123_12, gf_123_13, pt_123_13_0, pt_123_13_1, gf_123_14, pt_123_14_0, pt_123_14_1, gf_123_15, gf_123_16, gf_123_17, gf_123_18, gf_123_19, gf_123_20, gf_123_21, gf_123_22, gf_123_23, gf_123_24, gf_123_25, pt_123_25, gf_123_26, gf_123_27, pt_123_27, gf_123_28, pt_123_28, gf_123_29, gf_123_30, pt_123_30, gf_123_31, pt_123_31, gf_123_32, pt_123_32, gf_123_33, pt_123_33, gf_123_34, pt_123_34_0, pt_123_34_1, gf_123_35, gf_123_36, gf_123_37, gf_123_38, pt_123_38, gf_123_39, pt_123_39, gf_123_40, pt_123_40, gf_123_41, gf_123_42, gf_123_43, gf_123_44, gf_123_45, gf_123_46, gf_123_47, pt_123_47, sp_in, k0, l3, h2, and_self, if_true, if_false, not_false_eq_true, r72, hW72, hz]
    rfl
theorem cl_fairest (h : CR n t K M) (seed what : Int32) : cokI scr 88 166 [.int seed, .int what] M (AX M) := by
  have hn := CR_n h
  have hM := CR_3 h
  by_cases h2 : 0 ≤ what ∧ what < 4
  · by_cases hn0 : n = 0
    · subst hn0
      refine ⟨M, -2, M, ?_, ?_, AX_refl M⟩
      · rw [ms88]; simp only [q88_0, q88_1, q88_2, q88_5, q88_8, q88_9, q88_10, q88_11, q88_14, q88_17, q88_20, q88_22, q88_23, q88_24, q88_25, q88_26, q88_29, q88_30, q88_33, q88_34, q88_35, q88_36, q88_38, q88_40, q88_42, q88_43, q88_47, q88_49, q88_52, q88_53, q88_55, q88_56, q88_59, q88_60, q88_63, q88_64, q88_67, q88_70, q88_73, q88_74, q88_77, q88_80, q88_82, q88_84, q88_86, q88_89, q88_91, q88_93, q88_95, q88_97, q88_100, q88_103, q88_104, q88_105, q88_108, q88_110, q88_113, q88_115, n10, n01, Bool.false_eq_true, ab_bs, ab_bn, ab_pr0, ab_pr1, nl_n, nl_i, nl_r, nl_j, nl_nl, rc_0, gf_0_0, gf_0_1, gf_0_2, gf_0_3, gf_0_4, gf_0_5, gf_0_6, gf_0_7, gf_0_8, gf_0_9, pt_0_9, rc_16, gf_16_0, gf_16_1, gf_16_2, gf_16_3, pt_16_3, gf_16_4, pt_16_4, gf_16_5, pt_16_5, sp_within, h2, and_self, if_true, if_false, not_false_eq_true, not_true, hM, (show nI 0 = 0 from rfl)]
      · rw [ms166]; simp only [q166_0, q166_1, q166_2, q166_3, q166_6, q166_9, q166_12, q166_13, q166_14, q166_15, q166_18, q166_20, q166_21, q166_24, q166_26, q166_27, q166_28, q166_29, q166_30, q166_32, q166_33, q166_37, q166_39, q166_42, q166_43, q166_45, q166_46, q166_49, q166_50, q166_51, q166_52, q166_55, q166_56, q166_59, q166_62, q166_63, q166_66, q166_68, q166_70, q166_73, q166_75, q166_77, q166_80, q166_81, q166_84, q166_85, q166_87, q166_89, q166_92, q166_94, q166_97, q166_98, q166_99, q166_101, q166_104, q166_106, q166_109, q166_111, q166_113, q166_116, q166_119, q166_120, q166_121, q166_124, q166_125, q166_128, q166_130, n10, n01, Bool.false_eq_true, ab_bs, ab_bn, ab_pr0, ab_pr1, nl_n, nl_i, nl_r, nl_j, nl_nl, rc_123, gf_123_0, gf_123_1, pt_123_1, gf_123_2, pt_123_2, gf_123_3, pt_123_3, gf_123_4, pt_123_4, gf_123_5, pt_123_5, gf_123_6, pt_123_6, gf_123_7, pt_123_7, gf_123_8, pt_123_8, gf_123_9, gf_123_10, gf_123_11, gf_123_12, gf_123_13, pt_123_13_0, pt_123_13_1, gf_123_14, pt_123_14_0, pt_123_14_1, gf_123_15, gf_123_16, gf_123_17, gf_123_18, gf_123_19, gf_123_20, gf_123_21, gf_123_22, gf_123_23, gf_123_24, gf_123_25, pt_123_25, gf_123_26, gf_123_27, pt_123_27, gf_123_28, pt_123_28, gf_123_29, gf_123_30, pt_123_30, gf_123_31, pt_123_31, gf_123_32, pt_123_32, gf_123_33, pt_123_33, gf_123_34, pt_123_34_0, pt_123_34_1, gf_123_35, gf_123_36, gf_123_37, gf_123_38, pt_123_38, gf_123_39, pt_123_39, gf_123_40, pt_123_40, gf_123_41, gf_123_42, gf_123_43, gf_123_44, gf_123_45, gf_123_46, gf_123_47, pt_123_47, sp_in, k0, l3, h2, and_self, if_true, if_false, not_false_eq_true, not_true, r72, h.2.1.1, (show nI 0 = 0 from rfl)]
    · rcases rng4 h2 with rfl | rfl | rfl | rfl
      · obtain ⟨W, N', l, la, lb, e1, e2, e3⟩ := cl_fairest0 (scr := scr) h hn0 true seed 0 h2 m20
        refine ⟨W, (rF (fv true n seed M) 7).1, N', e1.trans ?_, e2.trans ?_, e3⟩
        · rw [q88_45]
          simp only [q88_0, q88_1, q88_2, q88_5, q88_8, q88_9, q88_10, q88_11, q88_14, q88_17, q88_20, q88_22, q88_23, q88_24, q88_25, q88_26, q88_29, q88_30, q88_33, q88_34, q88_35, q88_36, q88_38, q88_40, q88_42, q88_43, q88_47, q88_49, q88_52, q88_53, q88_55, q88_56, q88_59, q88_60, q88_63, q88_64, q88_67, q88_70, q88_73, q88_74, q88_77, q88_80, q88_82, q88_84, q88_86, q88_89, q88_91, q88_93, q88_95, q88_97, q88_100, q88_103, q88_104, q88_105, q88_108, q88_110, q88_113, q88_115, n10, n01, Bool.false_eq_true, ab_bs, ab_bn, ab_pr0, ab_pr1, nl_n, nl_i, nl_r, nl_j, nl_nl, (show (7 : Int32) ≤ nI 7 by decide), (show ¬ (2 : Int32) ≤ 0 by decide), if_true, if_false]
        · rw [q166_35]
          simp only [q166_0, q166_1, q166_2, q166_3, q166_6, q166_9, q166_12, q166_13, q166_14, q166_15, q166_18, q166_20, q166_21, q166_24, q166_26, q166_27, q166_28, q166_29, q166_30, q166_32, q166_33, q166_37, q166_39, q166_42, q166_43, q166_45, q166_46, q166_49, q166_50, q166_51, q166_52, q166_55, q166_56, q166_59, q166_62, q166_63, q166_66, q166_68, q166_70, q166_73, q166_75, q166_77, q166_80, q166_81, q166_84, q166_85, q166_87, q166_89, q166_92, q166_94, q166_97, q166_98, q166_99, q166_101, q166_104, q166_106, q166_109, q166_111, q166_113, q166_116, q166_119, q166_120, q166_121, q166_124, q166_125, q166_128, q166_130, n10, n01, Bool.false_eq_true, ab_bs, ab_bn, ab_pr0, ab_pr1, nl_n, nl_i, nl_r, nl_j, nl_nl, (show (7 : Int32) ≤ nI 7 by decide), (show ¬ (2 : Int32) ≤ 0 by decide), if_true, if_false]
      · obtain ⟨W, N', l, la, lb, e1, e2, e3⟩ := cl_fairest0 (scr := scr) h hn0 false seed 1 h2 m21
        refine ⟨W, (rF (fv false n seed M) 7).1, N', e1.trans ?_, e2.trans ?_, e3⟩
        · rw [q88_45]
          simp only [q88_0, q88_1, q88_2, q88_5, q88_8, q88_9, q88_10, q88_11, q88_14, q88_17, q88_20, q88_22, q88_23, q88_24, q88_25, q88_26, q88_29, q88_30, q88_33, q88_34, q88_35, q88_36, q88_38, q88_40, q88_42, q88_43, q88_47, q88_49, q88_52, q88_53, q88_55, q88_56, q88_59, q88_60, q88_63, q88_64, q88_67, q88_70, q88_73, q88_74, q88_77, q88_80, q88_82, q88_84, q88_86, q88_89, q88_91, q88_93, q88_95, q88_97, q88_100, q88_103, q88_104, q88_105, q88_108, q88_110, q88_113, q88_115, n10, n01, Bool.false_eq_true, ab_bs, ab_bn, ab_pr0, ab_pr1, nl_n, nl_i, nl_r, nl_j, nl_nl, (show (7 : Int32) ≤ nI 7 by decide), (show ¬ (2 : Int32) ≤ 1 by decide), if_true, if_false]
        · rw [q166_35]
          simp only [q166_0, q166_1, q166_2, q166_3, q166_6, q166_9, q166_12, q166_13, q166_14, q166_15, q166_18, q166_20, q166_21, q166_24, q166_26, q166_27, q166_28, q166_29, q166_30, q166_32, q166_33, q166_37, q166_39, q166_42, q166_43, q166_45, q166_46, q166_49, q166_50, q166_51, q166_52, q166_55, q166_56, q166_59, q166_62, q166_63, q166_66, q166_68, q166_70, q166_73, q166_75, q166_77, q166_80, q166_81, q166_84, q166_85, q166_87, q166_89, q166_92, q166_94, q166_97, q166_98, q166_99, q166_101, q166_104, q166_106, q166_109, q166_111, q166_113, q166_116, q166_119, q166_120, q166_121, q166_124, q166_125, q166_128, q166_130, n10, n01, Bool.false_eq_true, ab_bs, ab_bn, ab_pr0, ab_pr1, nl_n, nl_i, nl_r, nl_j, nl_nl, (show (7 : Int32) ≤ nI 7 by decide), (show ¬ (2 : Int32) ≤ 1 by decide), if_true, if_false]
      · obtain ⟨W, N', l, la, lb, e1, e2, e3⟩ := cl_fairest0 (scr := scr) h hn0 true seed 2 h2 m22
        refine ⟨W, (rF (fv true n seed M) 7).2, N', e1.trans ?_, e2.trans ?_, e3⟩
        · rw [q88_45]
          simp only [q88_0, q88_1, q88_2, q88_5, q88_8, q88_9, q88_10, q88_11, q88_14, q88_17, q88_20, q88_22, q88_23, q88_24, q88_25, q88_26, q88_29, q88_30, q88_33, q88_34, q88_35, q88_36, q88_38, q88_40, q88_42, q88_43, q88_47, q88_49, q88_52, q88_53, q88_55, q88_56, q88_59, q88_60, q88_63, q88_64, q88_67, q88_70, q88_73, q88_74, q88_77, q88_80, q88_82, q88_84, q88_86, q88_89, q88_91, q88_93, q88_95, q88_97, q88_100, q88_103, q88_104, q88_105, q88_108, q88_110, q88_113, q88_115, n10, n01, Bool.false_eq_true, ab_bs, ab_bn, ab_pr0, ab_pr1, nl_n, nl_i, nl_r, nl_j, nl_nl, (show (7 : Int32) ≤ nI 7 by decide), (show (2 : Int32) ≤ 2 by decide), if_true, if_false]
        · rw [q166_35]
          simp only [q166_0, q166_1, q166_2, q166_3, q166_6, q166_9, q166_12, q166_13, q166_14, q166_15, q166_18, q166_20, q166_21, q166_24, q166_26, q166_27, q166_28, q166_29, q166_30, q166_32, q166_33, q166_37, q166_39, q166_42, q166_43, q166_45, q166_46, q166_49, q166_50, q166_51, q166_52, q166_55, q166_56, q166_59, q166_62, q166_63, q166_66, q166_68, q166_70, q166_73, q166_75, q166_77, q166_80, q166_81, q166_84, q166_85, q166_87, q166_89, q166_92, q166_94, q166_97, q166_98, q166_99, q166_101, q166_104, q166_106, q166_109, q166_111, q166_113, q166_116, q166_119, q166_120, q166_121, q166_124, q166_125, q166_128, q166_130, n10, n01, Bool.false_eq_true, ab_bs, ab_bn, ab_pr0, ab_pr1, nl_n, nl_i, nl_r, nl_j, nl_nl, (show (7 : Int32) ≤ nI 7 by decide), (show (2 : Int32) ≤ 2 by decide), if_true, if_false]
      · obtain ⟨W, N', l, la, lb, e1, e2, e3⟩ := cl_fairest0 (scr := scr) h hn0 false seed 3 h2 m23
        refine ⟨W, (rF (fv false n seed M) 7).2, N', e1.trans ?_, e2.trans ?_, e3⟩
        · rw [q88_45]
          simp only [q88_0, q88_1, q88_2, q88_5, q88_8, q88_9, q88_10, q88_11, q88_14, q88_17, q88_20, q88_22, q88_23, q88_24, q88_25, q88_26, q88_29, q88_30, q88_33, q88_34, q88_35, q88_36, q88_38, q88_40, q88_42, q88_43, q88_47, q88_49, q88_52, q88_53, q88_55, q88_56, q88_59, q88_60, q88_63, q88_64, q88_67, q88_70, q88_73, q88_74, q88_77, q88_80, q88_82, q88_84, q88_86, q88_89, q88_91, q88_93, q88_95, q88_97, q88_100, q88_103, q88_104, q88_105, q88_108, q88_110, q88_113, q88_115, n10, n01, Bool.false_eq_true, ab_bs, ab_bn, ab_pr0, ab_pr1, nl_n, nl_i, nl_r, nl_j, nl_nl, (show (7 : Int32) ≤ nI 7 by decide), (show (2 : Int32) ≤ 3 by decide), if_true, if_false]
        · rw [q166_35]
          simp only [q166_0, q166_1, q166_2, q166_3, q166_6, q166_9, q166_12, q166_13, q166_14, q166_15, q166_18, q166_20, q166_21, q166_24, q166_26, q166_27, q166_28, q166_29, q166_30, q166_32, q166_33, q166_37, q166_39, q166_42, q166_43, q166_45, q166_46, q166_49, q166_50, q166_51, q166_52, q166_55, q166_56, q166_59, q166_62, q166_63, q166_66, q166_68, q166_70, q166_73, q166_75, q166_77, q166_80, q166_81, q166_84, q166_85, q166_87, q166_89, q166_92, q166_94, q166_97, q166_98, q166_99, q166_101, q166_104, q166_106, q166_109, q166_111, q166_113, q166_116, q166_119, q166_120, q166_121, q166_124, q166_125, q166_128, q166_130, n10, n01, Bool.false_eq_true, ab_bs, ab_bn, ab_pr0, ab_pr1, nl_n, nl_i, nl_r, nl_j, nl_nl, (show (7 : Int32) ≤ nI 7 by decide), (show (2 : Int32) ≤ 3 by decide), if_true, if_false]
  · refine ⟨M, -1, M, ?_, ?_, AX_refl M⟩
    · rw [ms88]; simp only [q88_0, q88_1, q88_2, q88_5, q88_8, q88_9, q88_10, q88_11, q88_14, q88_17, q88_20, q88_22, q88_23, q88_24, q88_25, q88_26, q88_29, q88_30, q88_33, q88_34, q88_35, q88_36, q88_38, q88_40, q88_42, q88_43, q88_47, q88_49, q88_52, q88_53, q88_55, q88_56, q88_59, q88_60, q88_63, q88_64, q88_67, q88_70, q88_73, q88_74, q88_77, q88_80, q88_82, q88_84, q88_86, q88_89, q88_91, q88_93, q88_95, q88_97, q88_100, q88_103, q88_104, q88_105, q88_108, q88_110, q88_113, q88_115, n10, n01, Bool.false_eq_true, ab_bs, ab_bn, ab_pr0, ab_pr1, nl_n, nl_i, nl_r, nl_j, nl_nl, rc_0, gf_0_0, gf_0_1, gf_0_2, gf_0_3, gf_0_4, gf_0_5, gf_0_6, gf_0_7, gf_0_8, gf_0_9, pt_0_9, sp_within, h2, if_false, not_true]
    · rw [ms166]; simp only [q166_0, q166_1, q166_2, q166_3, q166_6, q166_9, q166_12, q166_13, q166_14, q166_15, q166_18, q166_20, q166_21, q166_24, q166_26, q166_27, q166_28, q166_29, q166_30, q166_32, q166_33, q166_37, q166_39, q166_42, q166_43, q166_45, q166_46, q166_49, q166_50, q166_51, q166_52, q166_55, q166_56, q166_59, q166_62, q166_63, q166_66, q166_68, q166_70, q166_73, q166_75, q166_77, q166_80, q166_81, q166_84, q166_85, q166_87, q166_89, q166_92, q166_94, q166_97, q166_98, q166_99, q166_101, q166_104, q166_106, q166_109, q166_111, q166_113, q166_116, q166_119, q166_120, q166_121, q166_124, q166_125, q166_128, q166_130, n10, n01, Bool.false_eq_true, ab_bs, ab_bn, ab_pr0, ab_pr1, nl_n, nl_i, nl_r, nl_j, nl_nl, rc_123, gf_123_0, gf_123_1, pt_123_1, gf_123_2, pt_123_2, gf_123_3, pt_123_3, gf_123_4, pt_123_4, gf_123_5, pt_123_5, gf_123_6, pt_123_6, gf_123_7, pt_123_7, gf_123_8, pt_123_8, gf_123_9, gf_123_10, gf_123_11, gf_123_12, gf_123_13, pt_123_13_0, pt_123_13_1, gf_123_14, pt_123_14_0, pt_123_14_1, gf_123_15, gf_123_16, gf_123_17, gf_123_18, gf_123_19, gf_123_20, gf_123_21, gf_123_22, gf_123_23, gf_123_24, gf_123_25, pt_123_25, gf_123_26, gf_123_27, pt_123_27, gf_123_28, pt_123_28, gf_123_29, gf_123_30, pt_123_30, gf_123_31, pt_123_31, gf_123_32, pt_123_32, gf_123_33, pt_123_33, gf_123_34, pt_123_34_0, pt_123_34_1, gf_123_35, gf_123_36, gf_123_37, gf_123_38, pt_123_38, gf_123_39, pt_123_39, gf_123_40, pt_123_40, gf_123_41, gf_123_42, gf_123_43, gf_123_44, gf_123_45, gf_123_46, gf_123_47, pt_123_47, sp_in, k0, l3, h2, if_false, not_true]
end CN
