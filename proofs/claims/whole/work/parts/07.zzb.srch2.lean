/-! BEST: the search of the class, inner places -/
section
variable {scr : Option (List Int32)} {n R : Nat} {S0 : ab_M}
/-- what the search promises with `k` rounds left -/
def SQ (scr : Option (List Int32)) (n R : Nat) (S0 : ab_M) (k i : Nat) : Prop := ∀ (S : ab_M) (left : Int32) (w : Nat → Nat) (st : Int × (Nat → Nat)), SE S0 S → (n = 0 → k = 0 ∧ 0 < st.1) → left.toInt = lf (coB S0) k i → (∀ p, p < n → -1000000000 ≤ (S 84 p).toInt - lf (coB S0) k i ∧ (S 84 p).toInt + lf (coB S0) k i ≤ 1000000000) → (∀ j, j < i → S 83 j = nI (w j)) → SR R st S → ∃ S', ab_ms scr 48 [.ref 81, .int (nI i), .int left] S = some (S', none) ∧ SE S0 S' ∧ SK i S S' ∧ SR R (df n (mkB n S0) (coB S0) k i (fun p => (S 84 p).toInt) w st) S'
/-- one branch -/
theorem sr_turn {k i p : Nat} {S : ab_M} {left : Int32} {w : Nat → Nat} {st : Int × (Nat → Nat)} (h0 : HB n R S0) (hk : i + (k + 1) = R) (ih : SQ scr n R S0 k (i + 1)) (hS : SE S0 S) (hl : left.toInt = lf (coB S0) (k + 1) i) (ho : ∀ p, p < n → -1000000000 ≤ (S 84 p).toInt - lf (coB S0) (k + 1) i ∧ (S 84 p).toInt + lf (coB S0) (k + 1) i ≤ 1000000000) (hw : ∀ j, j < i → S 83 j = nI (w j)) (hs : SR R st S) (hp : p < 8) (hm : mkB n S0 i p = true) : ∃ S', ab_ms scr 48 [.ref 81, .int (nI (i + 1)), .int (left - S0 (41 + i) 2)] (ab_up (ab_up S 83 i (nI p)) 84 p (S 84 p + S0 (41 + i) 2)) = some (S', none) ∧ SE S0 (ab_up S' 84 p (S' 84 p - S0 (41 + i) 2)) ∧ SK i S (ab_up S' 84 p (S' 84 p - S0 (41 + i) 2)) ∧ SR R (df n (mkB n S0) (coB S0) k (i + 1) (ad (fun p => (S 84 p).toInt) p (coB S0 i)) (pl w i p) st) (ab_up S' 84 p (S' 84 p - S0 (41 + i) 2)) := by
  obtain ⟨hn, hM, hR, h6, hr⟩ := h0
  obtain ⟨m, c0, c1⟩ := hr i (by omega)
  have hpn : p < n := tb_lt m (by omega) hm
  have g0 := lf_nn k (i + 1) (fun j hj => (hr j (by omega)).2.1)
  have g1 := lf_le k (i + 1) (fun j hj => (hr j (by omega)).2.2)
  have gs : lf (coB S0) (k + 1) i = coB S0 i + lf (coB S0) k (i + 1) := rfl
  rw [gs] at hl ho
  have bp := ho p hpn
  have ec : (S0 (41 + i) 2).toInt = coB S0 i := rfl
  have ead := ad_up (S := S) (i := i) (p := p) (n := p) (c := S0 (41 + i) 2) (by rw [ec]; omega)
  rw [ec] at ead
  obtain ⟨S', e1, e2, e3, e4⟩ := ih (ab_up (ab_up S 83 i (nI p)) 84 p (S 84 p + S0 (41 + i) 2)) (left - S0 (41 + i) 2) (pl w i p) st (fun c j a b d f => by rw [up_n d, up_n b]; exact hS c j a b d f) (fun y => by omega) (by rw [ti_sub (by rw [hl, ec]; omega) (by rw [hl, ec]; omega), hl, ec]; omega) (fun q hq => by
    have eq : (ab_up (ab_up S 83 i (nI p)) 84 p (S 84 p + S0 (41 + i) 2) 84 q).toInt = ad (fun q => (S 84 q).toInt) p (coB S0 i) q := congrFun ead q
    rw [eq]
    have := ho q hq
    have e2 : ad (fun q => (S 84 q).toInt) p (coB S0 i) q = if q = p then (S 84 q).toInt + coB S0 i else (S 84 q).toInt := rfl
    rw [e2]
    split <;> omega) (fun j hj => by
    unfold pl
    rw [up_n (by decide)]
    by_cases e : j = i
    · rw [if_pos e, e, up_s]
    · rw [if_neg e, up_o _ _ _ _ _ _ (by omega)]
      exact hw j (by omega)) ⟨by rw [up_n (by decide), up_n (by decide)]; exact hs.1, fun a j hj => by rw [up_n (by decide), up_n (by decide)]; exact hs.2 a j hj⟩
  rw [ead] at e4
  refine ⟨S', e1, fun c j a b d f => by rw [up_n d]; exact e2 c j a b d f, ⟨fun q => ?_, fun j hj => ?_⟩, ?_, fun a j hj => ?_⟩
  · by_cases e : q = p
    · subst e
      rw [up_s, e3.1, up_s]
      exact Int32.add_sub_cancel _ _
    · rw [up_o _ _ _ _ _ _ (by omega), e3.1, up_o _ _ _ _ _ _ (by omega), up_n (by decide)]
  · rw [up_n (by decide), e3.2 j (by omega), up_n (by decide), up_o _ _ _ _ _ _ (by omega)]
  · rw [up_n (by decide)]
    exact e4.1
  · rw [up_n (by decide)]
    exact e4.2 a j hj
end
section
variable {scr : Option (List Int32)} {n R : Nat} {S0 : ab_M}
theorem sp_srch (h0 : HB n R S0) : ∀ k i, i + k = R → SQ scr n R S0 k i := by
  intro k
  induction k with
  | zero =>
    intro i hi S left w st hS hn0 hl ho hw hs
    have : i = R := by omega
    subst this
    exact sr_leaf h0 hS (fun e => (hn0 e).2) hl (fun p hp => by have := ho p hp; unfold lf at this; omega) hw hs
  | succ k ih =>
    intro i hi S left w st hS hn0 hl ho hw hs
    have hQ := ih (i + 1) (by omega)
    have h0' := h0
    obtain ⟨hn, hM, hR, h6, hr⟩ := h0
    have hM1 : S 16 3 = nI n := by rw [hS _ _ (by decide) (by decide) (by decide) (by decide), hM]
    have h61 : S 81 6 = nI R := by rw [hS _ _ (by decide) (by decide) (by decide) (by decide), h6]
    obtain ⟨m1, m2⟩ := sp_may (scr := scr) hn hM1 left
    have g0 := lf_nn (c := coB S0) (k + 1) i (fun j hj => (hr j (by omega)).2.1)
    have hi32 : i < 2 ^ 31 := by omega
    have d49 : ∀ v, Nat.ble (ab_dk 49 [.ref 81, .int v] + 1) (2 + (8 - i)) = true := fun v => by
      show Nat.ble 2 (2 + (8 - i)) = true
      exact Nat.ble_eq_true_of_le (by omega)
    have d45 : ∀ v, Nat.ble (ab_dk 45 [.ref 16, .int v] + 1) (2 + (8 - i)) = true := fun v => by
      show Nat.ble 2 (2 + (8 - i)) = true
      exact Nat.ble_eq_true_of_le (by omega)
    have d112 : ∀ u v, Nat.ble (ab_dk 112 [.int u, .int v] + 1) (2 + (8 - i)) = true := fun u v => by
      show Nat.ble 2 (2 + (8 - i)) = true
      exact Nat.ble_eq_true_of_le (by omega)
    have d48 : ∀ v, Nat.ble (ab_dk 48 [.ref 81, .int (nI (i + 1)), .int v] + 1) (2 + (8 - i)) = true := fun v => by
      show Nat.ble (2 + (8 - (nI (i + 1)).toNatClampNeg) + 1) (2 + (8 - i)) = true
      rw [nI_clamp (by omega)]
      exact Nat.ble_eq_true_of_le (by omega)
    by_cases q : ∀ p, p < n → mb left S p = none
    · have x1 : ¬ nI R ≤ nI i := nI_ge (by omega) (by omega)
      have x2 : nI i < 6 := by
        have := nI_lt (a := i) (b := 6) (by omega) (by omega)
        exact this
      have h40 : i < 40 := by omega
      have hw4 : ∀ T, SE S0 T → T (41 + i) 4 = S0 (41 + i) 4 ∧ T (41 + i) 2 = S0 (41 + i) 2 := fun T hT => ⟨hT _ _ (by omega) (by omega) (by omega) (by omega), hT _ _ (by omega) (by omega) (by omega) (by omega)⟩
      have x45 : ab_ms scr 45 [.ref 16, .int (S0 (41 + i) 4)] S = some (S, some (.int (npV n S0 (S0 (41 + i) 4)))) := by
        rw [← npV_SE hS]
        exact sp_notPoor S _ n hn hM1
      have run := rx (fun p T => ab_res scr 48 (2 + (8 - i)) T 65 [some (.ref 81), some (.int (nI i)), some (.int left), some (.int (npV n S0 (S0 (41 + i) 4))), some (.int (S0 (41 + i) 2)), some (.int (nI p))] []) (fun p T => SE S0 T ∧ SK i S T ∧ SR R (fo (fun p st => if mkB n S0 i p = true then df n (mkB n S0) (coB S0) k (i + 1) (ad (fun p => (S 84 p).toInt) p (coB S0 i)) (pl w i p) st else st) p st) T) 8 S ⟨hS, ⟨fun _ => rfl, fun _ _ => rfl⟩, hs⟩ (fun p T hp hT => ?_)
      · obtain ⟨S', r1, r2, r3, r4⟩ := run
        refine ⟨S', ?_, r2, r3, r4⟩
        have r1 : ab_res scr 48 (2 + (8 - i)) S 65 [some (.ref 81), some (.int (nI i)), some (.int left), some (.int (npV n S0 (S0 (41 + i) 4))), some (.int (S0 (41 + i) 2)), some (.int 0)] [] = _ := r1
        rw [ms48, nI_clamp hi32]
        simp only [q48_0, q48_1, q48_5, q48_8, q48_9, q48_10, q48_11, q48_14, q48_17, q48_18, q48_20, q48_23, q48_24, q48_27, q48_28, q48_29, q48_32, q48_33, q48_36, q48_39, q48_40, q48_41, q48_47, q48_48, q48_49, q48_52, q48_55, q48_56, q48_57, q48_60, q48_62, q48_63, q48_67, q48_69, q48_72, q48_74, q48_75, q48_78, q48_81, q48_82, q48_85, q48_86, q48_88, q48_89, q48_90, q48_93, q48_95, q48_96, q48_97, q48_99, q48_100, q48_101, q48_102, q48_103, q48_104, q48_105, q48_106, q48_108, q48_109, q48_112, q48_113, q48_116, q48_118, q48_119, q48_120, q48_122, q48_123, q48_124, q48_127, q48_130, n10, n01, Bool.false_eq_true, ab_bs, ab_bn, ab_pr0, ab_pr1, nl_n, nl_i, nl_r, nl_j, nl_nl, rc_81, gf_81_0, gf_81_1, gf_81_2, gf_81_3, pt_81_3, gf_81_4, gf_81_5, gf_81_6, pt_81_6]
        rw [q48_2 (d49 _) (by simp [rc_81]), m1 q]
        simp only [q48_0, q48_1, q48_5, q48_8, q48_9, q48_10, q48_11, q48_14, q48_17, q48_18, q48_20, q48_23, q48_24, q48_27, q48_28, q48_29, q48_32, q48_33, q48_36, q48_39, q48_40, q48_41, q48_47, q48_48, q48_49, q48_52, q48_55, q48_56, q48_57, q48_60, q48_62, q48_63, q48_67, q48_69, q48_72, q48_74, q48_75, q48_78, q48_81, q48_82, q48_85, q48_86, q48_88, q48_89, q48_90, q48_93, q48_95, q48_96, q48_97, q48_99, q48_100, q48_101, q48_102, q48_103, q48_104, q48_105, q48_106, q48_108, q48_109, q48_112, q48_113, q48_116, q48_118, q48_119, q48_120, q48_122, q48_123, q48_124, q48_127, q48_130, n10, n01, Bool.false_eq_true, ab_bs, ab_bn, ab_pr0, ab_pr1, nl_n, nl_i, nl_r, nl_j, nl_nl, rc_81, gf_81_0, gf_81_1, gf_81_2, gf_81_3, pt_81_3, gf_81_4, gf_81_5, gf_81_6, pt_81_6, rc_30, gf_30_0, gf_30_1, gf_30_2, gf_30_3, pt_30_3, gf_30_4, pt_30_4, gf_30_5, pt_30_5, gf_30_6, pt_30_6, gf_30_7, pt_30_7, gf_30_8, pt_30_8, gf_30_9, pt_30_9_0, pt_30_9_1, gf_30_10, pt_30_10, gf_30_11, pt_30_11, gf_30_12, pt_30_12, gf_30_13, pt_30_13, h61, x1, x2, if_true, if_false, n10, n01, not_false_eq_true, cl_0, cl_1, qe_32 h40, gf_round h40 (show 4 < 5 by decide), gf_round h40 (show 2 < 5 by decide), (hw4 S hS).1, (hw4 S hS).2]
        rw [q48_44 (d45 _) (by simp [rc_16]), x45]
        simp only [q48_0, q48_1, q48_5, q48_8, q48_9, q48_10, q48_11, q48_14, q48_17, q48_18, q48_20, q48_23, q48_24, q48_27, q48_28, q48_29, q48_32, q48_33, q48_36, q48_39, q48_40, q48_41, q48_47, q48_48, q48_49, q48_52, q48_55, q48_56, q48_57, q48_60, q48_62, q48_63, q48_67, q48_69, q48_72, q48_74, q48_75, q48_78, q48_81, q48_82, q48_85, q48_86, q48_88, q48_89, q48_90, q48_93, q48_95, q48_96, q48_97, q48_99, q48_100, q48_101, q48_102, q48_103, q48_104, q48_105, q48_106, q48_108, q48_109, q48_112, q48_113, q48_116, q48_118, q48_119, q48_120, q48_122, q48_123, q48_124, q48_127, q48_130, n10, n01, Bool.false_eq_true, ab_bs, ab_bn, ab_pr0, ab_pr1, nl_n, nl_i, nl_r, nl_j, nl_nl, rc_81, gf_81_0, gf_81_1, gf_81_2, gf_81_3, pt_81_3, gf_81_4, gf_81_5, gf_81_6, pt_81_6, rc_30, gf_30_0, gf_30_1, gf_30_2, gf_30_3, pt_30_3, gf_30_4, pt_30_4, gf_30_5, pt_30_5, gf_30_6, pt_30_6, gf_30_7, pt_30_7, gf_30_8, pt_30_8, gf_30_9, pt_30_9_0, pt_30_9_1, gf_30_10, pt_30_10, gf_30_11, pt_30_11, gf_30_12, pt_30_12, gf_30_13, pt_30_13, qe_32 h40, gf_round h40 (show 4 < 5 by decide), gf_round h40 (show 2 < 5 by decide), (hw4 S hS).1, (hw4 S hS).2]
        rw [r1]
        rw [q48_65]
        simp only [q48_0, q48_1, q48_2, q48_5, q48_8, q48_9, q48_10, q48_11, q48_14, q48_17, q48_18, q48_20, q48_23, q48_24, q48_27, q48_28, q48_29, q48_32, q48_33, q48_36, q48_39, q48_40, q48_41, q48_44, q48_47, q48_48, q48_49, q48_52, q48_55, q48_56, q48_57, q48_60, q48_62, q48_63, q48_67, q48_69, q48_72, q48_74, q48_75, q48_78, q48_81, q48_82, q48_85, q48_86, q48_88, q48_89, q48_90, q48_93, q48_95, q48_96, q48_97, q48_99, q48_100, q48_101, q48_102, q48_103, q48_104, q48_105, q48_106, q48_108, q48_109, q48_112, q48_113, q48_116, q48_118, q48_119, q48_120, q48_122, q48_123, q48_124, q48_127, q48_130, n10, n01, Bool.false_eq_true, ab_bs, ab_bn, ab_pr0, ab_pr1, nl_n, nl_i, nl_r, nl_j, nl_nl, if_true, nI_rfl8]
      · obtain ⟨t1, t2, t3⟩ := hT
        have y1 : ¬ (8 : Int32) ≤ nI p := nI_ge (a := p) (b := 8) hp (by omega)
        have y2 : p < 2 ^ 31 := by omega
        by_cases hm : mkB n S0 i p = true
        · have hm2 : tb (npV n S0 (S0 (41 + i) 4)) p = true := hm
          have e84 : (fun p => (T 84 p).toInt) = fun p => (S 84 p).toInt := by
            funext p
            rw [t2.1]
          obtain ⟨S', s1, s2, s3, s4⟩ := sr_turn (w := w) h0' hi hQ t1 hl (fun p hp => by rw [t2.1]; exact ho p hp) (fun j hj => by rw [t2.2 j hj]; exact hw j hj) t3 hp hm
          rw [e84] at s4
          refine ⟨_, ?_, s2, ⟨fun p => by rw [s3.1, t2.1], fun j hj => by rw [s3.2 j hj, t2.2 j hj]⟩, ?_⟩
          · have z1 : ab_up T 83 i (nI p) 84 p = T 84 p := up_n (by decide)
            rw [q48_65]
            simp only [q48_0, q48_1, q48_2, q48_5, q48_8, q48_9, q48_10, q48_11, q48_14, q48_17, q48_18, q48_20, q48_23, q48_24, q48_27, q48_28, q48_29, q48_32, q48_33, q48_36, q48_39, q48_40, q48_41, q48_44, q48_47, q48_48, q48_49, q48_52, q48_55, q48_56, q48_57, q48_60, q48_62, q48_63, q48_67, q48_69, q48_72, q48_74, q48_78, q48_81, q48_82, q48_85, q48_86, q48_88, q48_89, q48_90, q48_93, q48_95, q48_96, q48_97, q48_99, q48_100, q48_101, q48_102, q48_103, q48_104, q48_105, q48_106, q48_108, q48_112, q48_113, q48_116, q48_118, q48_119, q48_120, q48_122, q48_123, q48_124, q48_127, q48_130, n10, n01, Bool.false_eq_true, ab_bs, ab_bn, ab_pr0, ab_pr1, nl_n, nl_i, nl_r, nl_j, nl_nl, y1, if_false]
            rw [q48_75 (d112 _ _), sp_among _ _ _ hp, if_pos hm2]
            simp only [q48_0, q48_1, q48_2, q48_5, q48_8, q48_9, q48_10, q48_11, q48_14, q48_17, q48_18, q48_20, q48_23, q48_24, q48_27, q48_28, q48_29, q48_32, q48_33, q48_36, q48_39, q48_40, q48_41, q48_44, q48_47, q48_48, q48_49, q48_52, q48_55, q48_56, q48_57, q48_60, q48_62, q48_63, q48_67, q48_69, q48_72, q48_74, q48_78, q48_81, q48_82, q48_85, q48_86, q48_88, q48_89, q48_90, q48_93, q48_95, q48_96, q48_97, q48_99, q48_100, q48_101, q48_102, q48_103, q48_104, q48_105, q48_106, q48_108, q48_112, q48_113, q48_116, q48_118, q48_119, q48_120, q48_122, q48_123, q48_124, q48_127, q48_130, n10, n01, Bool.false_eq_true, ab_bs, ab_bn, ab_pr0, ab_pr1, nl_n, nl_i, nl_r, nl_j, nl_nl, rc_81, gf_81_0, gf_81_1, gf_81_2, gf_81_3, pt_81_3, gf_81_4, gf_81_5, gf_81_6, pt_81_6, ln_83, al_83, si_83, ln_84, al_84, si_84, (show ab_inB (nI i) 6 = true from ib_nI (by omega) (by decide)), ib8 hp, nI_clamp hi32, nI_clamp y2, if_true, z1, a1, if_false]
            rw [q48_109 (d48 _), s1]
            simp only [q48_0, q48_1, q48_2, q48_5, q48_8, q48_9, q48_10, q48_11, q48_14, q48_17, q48_18, q48_20, q48_23, q48_24, q48_27, q48_28, q48_29, q48_32, q48_33, q48_36, q48_39, q48_40, q48_41, q48_44, q48_47, q48_48, q48_49, q48_52, q48_55, q48_56, q48_57, q48_60, q48_62, q48_63, q48_67, q48_69, q48_72, q48_74, q48_78, q48_81, q48_82, q48_85, q48_86, q48_88, q48_89, q48_90, q48_93, q48_95, q48_96, q48_97, q48_99, q48_100, q48_101, q48_102, q48_103, q48_104, q48_105, q48_106, q48_108, q48_112, q48_113, q48_116, q48_118, q48_119, q48_120, q48_122, q48_123, q48_124, q48_127, q48_130, n10, n01, Bool.false_eq_true, ab_bs, ab_bn, ab_pr0, ab_pr1, nl_n, nl_i, nl_r, nl_j, nl_nl, rc_81, gf_81_0, gf_81_1, gf_81_2, gf_81_3, pt_81_3, gf_81_4, gf_81_5, gf_81_6, pt_81_6, ln_83, al_83, si_83, ln_84, al_84, si_84, ib8 hp, nI_clamp y2, if_true, a1]
          · show SR R (if mkB n S0 i p = true then _ else _) _
            rw [if_pos hm]
            exact s4
        · have hm2 : ¬ tb (npV n S0 (S0 (41 + i) 4)) p = true := hm
          refine ⟨T, ?_, t1, t2, ?_⟩
          · rw [q48_65]
            simp only [q48_0, q48_1, q48_2, q48_5, q48_8, q48_9, q48_10, q48_11, q48_14, q48_17, q48_18, q48_20, q48_23, q48_24, q48_27, q48_28, q48_29, q48_32, q48_33, q48_36, q48_39, q48_40, q48_41, q48_44, q48_47, q48_48, q48_49, q48_52, q48_55, q48_56, q48_57, q48_60, q48_62, q48_63, q48_67, q48_69, q48_72, q48_74, q48_78, q48_81, q48_82, q48_85, q48_86, q48_88, q48_89, q48_90, q48_93, q48_95, q48_96, q48_97, q48_99, q48_100, q48_101, q48_102, q48_103, q48_104, q48_105, q48_106, q48_108, q48_112, q48_113, q48_116, q48_118, q48_119, q48_120, q48_122, q48_123, q48_124, q48_127, q48_130, n10, n01, Bool.false_eq_true, ab_bs, ab_bn, ab_pr0, ab_pr1, nl_n, nl_i, nl_r, nl_j, nl_nl, y1, if_false]
            rw [q48_75 (d112 _ _), sp_among _ _ _ hp, if_neg hm2]
            simp only [q48_0, q48_1, q48_2, q48_5, q48_8, q48_9, q48_10, q48_11, q48_14, q48_17, q48_18, q48_20, q48_23, q48_24, q48_27, q48_28, q48_29, q48_32, q48_33, q48_36, q48_39, q48_40, q48_41, q48_44, q48_47, q48_48, q48_49, q48_52, q48_55, q48_56, q48_57, q48_60, q48_62, q48_63, q48_67, q48_69, q48_72, q48_74, q48_78, q48_81, q48_82, q48_85, q48_86, q48_88, q48_89, q48_90, q48_93, q48_95, q48_96, q48_97, q48_99, q48_100, q48_101, q48_102, q48_103, q48_104, q48_105, q48_106, q48_108, q48_112, q48_113, q48_116, q48_118, q48_119, q48_120, q48_122, q48_123, q48_124, q48_127, q48_130, n10, n01, Bool.false_eq_true, ab_bs, ab_bn, ab_pr0, ab_pr1, nl_n, nl_i, nl_r, nl_j, nl_nl, a1, if_true]
          · show SR R (if mkB n S0 i p = true then _ else _) _
            rw [if_neg hm]
            exact t3
    · obtain ⟨p, hp, hb⟩ : ∃ p, p < n ∧ mb left S p = some 0 := by
        apply Classical.byContradiction
        intro y
        apply q
        intro p hp
        by_cases z : mb left S p = none
        · exact z
        · refine absurd ⟨p, hp, ?_⟩ y
          unfold mb at z ⊢
          split <;> simp_all
      have a := mb_no hl g0 (ho p hp) hb
      rw [hs.1] at a
      rw [df_cut st (k + 1) i _ w (fun j hj => (hr j (by omega)).2.1) ⟨p, hp, a⟩]
      refine ⟨S, ?_, hS, ⟨fun _ => rfl, fun _ _ => rfl⟩, hs⟩
      rw [ms48, nI_clamp hi32]
      simp only [q48_0, q48_1, q48_5, q48_8, q48_9, q48_10, q48_11, q48_14, q48_17, q48_18, q48_20, q48_23, q48_24, q48_27, q48_28, q48_29, q48_32, q48_33, q48_36, q48_39, q48_40, q48_41, q48_47, q48_48, q48_49, q48_52, q48_55, q48_56, q48_57, q48_60, q48_62, q48_63, q48_67, q48_69, q48_72, q48_74, q48_75, q48_78, q48_81, q48_82, q48_85, q48_86, q48_88, q48_89, q48_90, q48_93, q48_95, q48_96, q48_97, q48_99, q48_100, q48_101, q48_102, q48_103, q48_104, q48_105, q48_106, q48_108, q48_109, q48_112, q48_113, q48_116, q48_118, q48_119, q48_120, q48_122, q48_123, q48_124, q48_127, q48_130, n10, n01, Bool.false_eq_true, ab_bs, ab_bn, ab_pr0, ab_pr1, nl_n, nl_i, nl_r, nl_j, nl_nl, rc_81, gf_81_0, gf_81_1, gf_81_2, gf_81_3, pt_81_3, gf_81_4, gf_81_5, gf_81_6, pt_81_6]
      rw [q48_2 (d49 _) (by simp [rc_81]), m2 ⟨p, hp, hb⟩]
      simp only [q48_0, q48_1, q48_5, q48_8, q48_9, q48_10, q48_11, q48_14, q48_17, q48_18, q48_20, q48_23, q48_24, q48_27, q48_28, q48_29, q48_32, q48_33, q48_36, q48_39, q48_40, q48_41, q48_47, q48_48, q48_49, q48_52, q48_55, q48_56, q48_57, q48_60, q48_62, q48_63, q48_67, q48_69, q48_72, q48_74, q48_75, q48_78, q48_81, q48_82, q48_85, q48_86, q48_88, q48_89, q48_90, q48_93, q48_95, q48_96, q48_97, q48_99, q48_100, q48_101, q48_102, q48_103, q48_104, q48_105, q48_106, q48_108, q48_109, q48_112, q48_113, q48_116, q48_118, q48_119, q48_120, q48_122, q48_123, q48_124, q48_127, q48_130, n10, n01, Bool.false_eq_true, ab_bs, ab_bn, ab_pr0, ab_pr1, nl_n, nl_i, nl_r, nl_j, nl_nl, rc_81, gf_81_0, gf_81_1, gf_81_2, gf_81_3, pt_81_3, gf_81_4, gf_81_5, gf_81_6, pt_81_6, if_true, not_true, if_false]
end
