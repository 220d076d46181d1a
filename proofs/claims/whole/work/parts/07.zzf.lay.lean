/-! BEST: the reference goes through all rows -/
def HN (n R : Nat) (b c : Nat → Int) (m : Nat → Nat → Bool) (f : Nat → Nat) (N0 : ab_M) : Prop := n ≤ 8 ∧ N0 127 72 = nI n ∧ R ≤ 6 ∧ N0 123 30 = nI R ∧ (∀ p, p < n → (N0 138 p - N0 132 p).toInt = b p ∧ -500000000 ≤ b p ∧ b p ≤ 500000000) ∧ (∀ r, r < R → (N0 140 (5 * r + 2)).toInt = c r ∧ 0 ≤ c r ∧ c r ≤ 792) ∧ (∀ r, r < R → (∀ p, p < 8 → tb (N0 141 r) p = m r p) ∧ f r < 8 ∧ m r (f r) = true ∧ ∀ p, p < f r → m r p = false)
def NQ (N0 N : ab_M) : Prop := ∀ c j, c ≠ 142 → c ≠ 143 → ¬ (c = 123 ∧ j = 38) → N c j = N0 c j
def RS (R : Nat) (st : Int × (Nat → Nat)) (N : ab_M) : Prop := (N 123 38).toInt = st.1 ∧ 0 ≤ st.1 ∧ st.1 < 2147483647 ∧ ∀ j, j < R → N 143 j = nI (st.2 j)
def RW (R : Nat) (st : Int × (Nat → Nat)) (N : ab_M) : Prop := (N 123 38 = -4 ∧ st.1 = 2147483647) ∨ RS R st N
def cpR (k : Nat) (N : ab_M) : ab_M := fun c j => if c = 143 ∧ j < k then N 142 j else N c j
theorem cpR_s {k : Nat} {N : ab_M} : ab_up (cpR k N) 143 k (N 142 k) = cpR (k + 1) N := by
  funext c j
  unfold ab_up cpR
  by_cases e : c = 143 ∧ j = k
  · rw [if_pos e, if_pos (by omega), e.2]
  · rw [if_neg e]
    by_cases w : c = 143 ∧ j < k
    · rw [if_pos w, if_pos (by omega)]
    · rw [if_neg w, if_neg (by omega)]
theorem cp_run {scr : Option (List Int32)} {R : Nat} {N : ab_M} (hR : R ≤ 6) (h30 : N 123 30 = nI R) {l1 : Option Value} {z : Int32} : ab_res scr 170 7 N 112 [some (.ref 123), l1, some (.int z), some (.int 0)] [] = ab_res scr 170 7 (cpR R N) 138 [some (.ref 123), l1, some (.int z), some (.int (nI R))] [] := by
  have y : ∀ k c j, c ≠ 143 → cpR k N c j = N c j := fun k c j h => by
    unfold cpR
    rw [if_neg (by omega)]
  have e1 := rn (fun k => ab_res scr 170 7 (cpR k N) 112 [some (.ref 123), l1, some (.int z), some (.int (nI k))] []) R (fun k hk => ?_)
  · have e0 : cpR 0 N = N := by
      funext c j
      unfold cpR
      rw [if_neg (by omega)]
    have e1 : ab_res scr 170 7 (cpR 0 N) 112 [some (.ref 123), l1, some (.int z), some (.int 0)] [] = ab_res scr 170 7 (cpR R N) 112 [some (.ref 123), l1, some (.int z), some (.int (nI R))] [] := e1
    rw [e0] at e1
    rw [e1]
    rw [q170_112]
    simp only [q170_0, q170_1, q170_4, q170_5, q170_6, q170_9, q170_11, q170_14, q170_16, q170_17, q170_18, q170_21, q170_22, q170_23, q170_24, q170_25, q170_26, q170_27, q170_30, q170_33, q170_34, q170_37, q170_38, q170_39, q170_40, q170_41, q170_44, q170_45, q170_46, q170_47, q170_50, q170_51, q170_52, q170_53, q170_54, q170_55, q170_58, q170_59, q170_62, q170_63, q170_64, q170_65, q170_66, q170_67, q170_68, q170_71, q170_74, q170_77, q170_78, q170_80, q170_83, q170_84, q170_87, q170_88, q170_89, q170_92, q170_94, q170_97, q170_98, q170_99, q170_102, q170_105, q170_106, q170_107, q170_110, q170_111, q170_113, q170_114, q170_117, q170_120, q170_121, q170_124, q170_125, q170_126, q170_129, q170_130, q170_131, q170_132, q170_135, q170_139, q170_142, q170_145, q170_146, n10, n01, Bool.false_eq_true, ab_bs, ab_bn, ab_pr0, ab_pr1, nl_n, nl_i, nl_r, nl_j, nl_nl, rc_123, gf_123_0, gf_123_1, pt_123_1, gf_123_2, pt_123_2, gf_123_3, pt_123_3, gf_123_4, pt_123_4, gf_123_5, pt_123_5, gf_123_6, pt_123_6, gf_123_7, pt_123_7, gf_123_8, pt_123_8, gf_123_9, gf_123_10, gf_123_11, gf_123_12, gf_123_13, pt_123_13_0, pt_123_13_1, gf_123_14, pt_123_14_0, pt_123_14_1, gf_123_15, gf_123_16, gf_123_17, gf_123_18, gf_123_19, gf_123_20, gf_123_21, gf_123_22, gf_123_23, gf_123_24, gf_123_25, pt_123_25, gf_123_26, gf_123_27, pt_123_27, gf_123_28, pt_123_28, gf_123_29, gf_123_30, pt_123_30, gf_123_31, pt_123_31, gf_123_32, pt_123_32, gf_123_33, pt_123_33, gf_123_34, pt_123_34_0, pt_123_34_1, gf_123_35, gf_123_36, gf_123_37, gf_123_38, pt_123_38, gf_123_39, pt_123_39, gf_123_40, pt_123_40, gf_123_41, gf_123_42, gf_123_43, gf_123_44, gf_123_45, gf_123_46, gf_123_47, pt_123_47, y R 123 30 (by decide), h30, nI_rfl, if_true]
  · have h1 : ¬ nI R ≤ nI k := nI_ge hk (by omega)
    rw [q170_112]
    simp only [q170_0, q170_1, q170_4, q170_5, q170_6, q170_9, q170_11, q170_14, q170_16, q170_17, q170_18, q170_21, q170_22, q170_23, q170_24, q170_25, q170_26, q170_27, q170_30, q170_33, q170_34, q170_37, q170_38, q170_39, q170_40, q170_41, q170_44, q170_45, q170_46, q170_47, q170_50, q170_51, q170_52, q170_53, q170_54, q170_55, q170_58, q170_59, q170_62, q170_63, q170_64, q170_65, q170_66, q170_67, q170_68, q170_71, q170_74, q170_77, q170_78, q170_80, q170_83, q170_84, q170_87, q170_88, q170_89, q170_92, q170_94, q170_97, q170_98, q170_99, q170_102, q170_105, q170_106, q170_107, q170_110, q170_111, q170_113, q170_114, q170_117, q170_120, q170_121, q170_124, q170_125, q170_126, q170_129, q170_130, q170_131, q170_132, q170_135, q170_139, q170_142, q170_145, q170_146, n10, n01, Bool.false_eq_true, ab_bs, ab_bn, ab_pr0, ab_pr1, nl_n, nl_i, nl_r, nl_j, nl_nl, rc_123, gf_123_0, gf_123_1, pt_123_1, gf_123_2, pt_123_2, gf_123_3, pt_123_3, gf_123_4, pt_123_4, gf_123_5, pt_123_5, gf_123_6, pt_123_6, gf_123_7, pt_123_7, gf_123_8, pt_123_8, gf_123_9, gf_123_10, gf_123_11, gf_123_12, gf_123_13, pt_123_13_0, pt_123_13_1, gf_123_14, pt_123_14_0, pt_123_14_1, gf_123_15, gf_123_16, gf_123_17, gf_123_18, gf_123_19, gf_123_20, gf_123_21, gf_123_22, gf_123_23, gf_123_24, gf_123_25, pt_123_25, gf_123_26, gf_123_27, pt_123_27, gf_123_28, pt_123_28, gf_123_29, gf_123_30, pt_123_30, gf_123_31, pt_123_31, gf_123_32, pt_123_32, gf_123_33, pt_123_33, gf_123_34, pt_123_34_0, pt_123_34_1, gf_123_35, gf_123_36, gf_123_37, gf_123_38, pt_123_38, gf_123_39, pt_123_39, gf_123_40, pt_123_40, gf_123_41, gf_123_42, gf_123_43, gf_123_44, gf_123_45, gf_123_46, gf_123_47, pt_123_47, ln_142, al_142, si_142, ln_143, al_143, si_143, y k 123 30 (by decide), h30, h1, if_false, (show ab_inB (nI k) 6 = true from ib_nI (by omega) (by decide)), nI_clamp (show k < 2 ^ 31 by omega), if_true, y k 142 k (by decide), cpR_s, a1]
section
variable {scr : Option (List Int32)} {n R : Nat} {b c : Nat → Int} {m : Nat → Nat → Bool} {f : Nat → Nat} {N0 : ab_M}
def LB (scr : Option (List Int32)) (n R : Nat) (b c : Nat → Int) (m : Nat → Nat → Bool) (f : Nat → Nat) (N0 : ab_M) (k i : Nat) : Prop := ∀ (N : ab_M) (w : Nat → Nat) (st : Int × (Nat → Nat)) (l2 l3 : Option Value), NQ N0 N → (∀ j, j < i → N 142 j = nI (w j) ∧ w j < 8) → (∀ j, i ≤ j → j < R → N 142 j = nI (f j)) → RW R st N → ∃ N' y l2' l3', ab_res scr 170 7 N 83 [some (.ref 123), some (.int 0), l2, l3] [] = (ab_res scr 169 1 N' 7 [some (.ref 123), some (.int (nI i + -1)), y] []).bind (fun o => ab_res scr 170 7 o.1 142 [some (.ref 123), some (.int 0), l2', l3'] (ab_pr o.2 [])) ∧ NQ N0 N' ∧ (∀ j, j < i → N' 142 j = N 142 j) ∧ (∀ j, i ≤ j → j < R → N' 142 j = nI (f j)) ∧ RS R (df n m c k i (fun p => po b c w i p) w st) N'
theorem lb_nx {N : ab_M} {l2 l3 : Option Value} (h30 : N 123 30 = nI R) : ab_res scr 170 7 N 138 [some (.ref 123), some (.int 0), l2, l3] [] = (ab_res scr 169 1 N 7 [some (.ref 123), some (.int (nI R + -1)), none] []).bind (fun o => ab_res scr 170 7 o.1 142 [some (.ref 123), some (.int 0), l2, l3] (ab_pr o.2 [])) := by
  have e : nI R - 1 = nI R + -1 := Int32.sub_eq_add_neg _ _
  rw [q170_138]
  simp only [q170_0, q170_1, q170_4, q170_5, q170_6, q170_9, q170_11, q170_14, q170_16, q170_17, q170_18, q170_21, q170_22, q170_23, q170_24, q170_25, q170_26, q170_27, q170_30, q170_33, q170_34, q170_37, q170_38, q170_39, q170_40, q170_41, q170_44, q170_45, q170_46, q170_47, q170_50, q170_51, q170_52, q170_53, q170_54, q170_55, q170_58, q170_59, q170_62, q170_63, q170_64, q170_65, q170_66, q170_67, q170_68, q170_71, q170_74, q170_77, q170_78, q170_80, q170_84, q170_87, q170_88, q170_89, q170_92, q170_94, q170_97, q170_98, q170_99, q170_102, q170_105, q170_106, q170_107, q170_110, q170_111, q170_113, q170_114, q170_117, q170_120, q170_121, q170_124, q170_125, q170_126, q170_129, q170_130, q170_131, q170_132, q170_135, q170_139, q170_145, q170_146, n10, n01, Bool.false_eq_true, ab_bs, ab_bn, ab_pr0, ab_pr1, nl_n, nl_i, nl_r, nl_j, nl_nl, rc_123, gf_123_0, gf_123_1, pt_123_1, gf_123_2, pt_123_2, gf_123_3, pt_123_3, gf_123_4, pt_123_4, gf_123_5, pt_123_5, gf_123_6, pt_123_6, gf_123_7, pt_123_7, gf_123_8, pt_123_8, gf_123_9, gf_123_10, gf_123_11, gf_123_12, gf_123_13, pt_123_13_0, pt_123_13_1, gf_123_14, pt_123_14_0, pt_123_14_1, gf_123_15, gf_123_16, gf_123_17, gf_123_18, gf_123_19, gf_123_20, gf_123_21, gf_123_22, gf_123_23, gf_123_24, gf_123_25, pt_123_25, gf_123_26, gf_123_27, pt_123_27, gf_123_28, pt_123_28, gf_123_29, gf_123_30, pt_123_30, gf_123_31, pt_123_31, gf_123_32, pt_123_32, gf_123_33, pt_123_33, gf_123_34, pt_123_34_0, pt_123_34_1, gf_123_35, gf_123_36, gf_123_37, gf_123_38, pt_123_38, gf_123_39, pt_123_39, gf_123_40, pt_123_40, gf_123_41, gf_123_42, gf_123_43, gf_123_44, gf_123_45, gf_123_46, gf_123_47, pt_123_47]
  rw [ms169]
  simp only [q169_0, q169_1, q169_4, q169_5, q169_6, q169_8, q169_11, q169_12, q169_15, q169_16, q169_17, q169_18, q169_19, q169_21, q169_23, q169_26, q169_27, q169_30, q169_31, q169_32, q169_33, q169_34, q169_35, q169_36, q169_39, q169_42, q169_45, q169_46, q169_48, q169_51, q169_52, q169_55, q169_56, q169_57, q169_58, q169_59, q169_60, q169_61, q169_64, q169_65, q169_66, q169_68, q169_71, q169_72, q169_73, q169_74, q169_77, q169_78, q169_79, q169_80, q169_81, q169_82, q169_85, q169_86, q169_89, q169_90, q169_91, q169_92, q169_93, q169_94, q169_95, q169_98, q169_101, q169_104, q169_105, n10, n01, Bool.false_eq_true, ab_bs, ab_bn, ab_pr0, ab_pr1, nl_n, nl_i, nl_r, nl_j, nl_nl, rc_123, gf_123_0, gf_123_1, pt_123_1, gf_123_2, pt_123_2, gf_123_3, pt_123_3, gf_123_4, pt_123_4, gf_123_5, pt_123_5, gf_123_6, pt_123_6, gf_123_7, pt_123_7, gf_123_8, pt_123_8, gf_123_9, gf_123_10, gf_123_11, gf_123_12, gf_123_13, pt_123_13_0, pt_123_13_1, gf_123_14, pt_123_14_0, pt_123_14_1, gf_123_15, gf_123_16, gf_123_17, gf_123_18, gf_123_19, gf_123_20, gf_123_21, gf_123_22, gf_123_23, gf_123_24, gf_123_25, pt_123_25, gf_123_26, gf_123_27, pt_123_27, gf_123_28, pt_123_28, gf_123_29, gf_123_30, pt_123_30, gf_123_31, pt_123_31, gf_123_32, pt_123_32, gf_123_33, pt_123_33, gf_123_34, pt_123_34_0, pt_123_34_1, gf_123_35, gf_123_36, gf_123_37, gf_123_38, pt_123_38, gf_123_39, pt_123_39, gf_123_40, pt_123_40, gf_123_41, gf_123_42, gf_123_43, gf_123_44, gf_123_45, gf_123_46, gf_123_47, pt_123_47, h30, e]
theorem lb_leaf (h0 : HN n R b c m f N0) : LB scr n R b c m f N0 0 R := by
  intro N w st l2 l3 hN hw hf hst
  obtain ⟨hn, h72, hR, h30, hb, hc, hm⟩ := h0
  have g72 : N 127 72 = nI n := by rw [hN _ _ (by decide) (by decide) (by decide), h72]
  have g30 : N 123 30 = nI R := by rw [hN _ _ (by decide) (by decide) (by decide), h30]
  have e := sp_worstOf (scr := scr) hn g72 hR g30
  have ew := wo_wm (N := N) (b := b) (c := c) (w := w) hn (fun p hp => by rw [hN _ _ (by decide) (by decide) (by omega), hN _ _ (by decide) (by decide) (by omega)]; exact hb p hp) hR (fun r hr => by rw [hN _ _ (by decide) (by decide) (by omega)]; exact hc r hr) hw n (Nat.le_refl _)
  have wb : 0 ≤ wm (fun p => po b c w R p) n ∧ wm (fun p => po b c w R p) n < 2147483647 := by
    refine ⟨?_, wm_lt (by decide) fun p hp => ?_⟩
    · cases n with
      | zero => exact Int.le_refl _
      | succ n =>
        unfold wm
        omega
    · have := po_bd (b := b) (w := w) (p := p) R (fun r hr => (hc r hr).2)
      have := hb p hp
      omega
  generalize woR N R n = x at *
  by_cases q : N 123 38 = -4 ∨ x < N 123 38
  · have hlt : wm (fun p => po b c w R p) n < st.1 := by
      rcases q with q | q
      · rcases hst with ⟨-, s⟩ | ⟨s, s1, s2, -⟩
        · omega
        · rw [q] at s
          have : ((-4 : Int32)).toInt = -4 := by decide
          omega
      · rw [Int32.lt_iff_toInt_lt, ew] at q
        rcases hst with ⟨s0, s⟩ | ⟨s, s1, s2, -⟩
        · omega
        · omega
    have z30 : ab_up N 123 38 x 123 30 = nI R := by rw [up_o _ _ _ _ _ _ (by omega), g30]
    have c1 := cp_run (scr := scr) hR z30 (l1 := some (.int 0)) (z := x)
    have c2 : cpR R (ab_up N 123 38 x) 123 30 = nI R := by
      unfold cpR
      rw [if_neg (by omega), z30]
    have c3 := lb_nx (scr := scr) (R := R) (N := cpR R (ab_up N 123 38 x)) (l2 := some (.int x)) (l3 := some (.int (nI R))) c2
    have hcp : ∀ c j, c ≠ 143 → cpR R (ab_up N 123 38 x) c j = ab_up N 123 38 x c j := fun c j h => by
      unfold cpR
      rw [if_neg (by omega)]
    refine ⟨cpR R (ab_up N 123 38 x), none, some (.int x), some (.int (nI R)), ?_, fun c j a d g => by rw [hcp _ _ d, up_o _ _ _ _ _ _ g]; exact hN c j a d g, fun j _ => by rw [hcp _ _ (by decide), up_n (by decide)], fun j h1 h2 => absurd h1 (by omega), ?_⟩
    · rw [← c3, ← c1]
      rcases q with q | q
      · rw [q170_83]
        simp only [q170_0, q170_1, q170_4, q170_5, q170_6, q170_9, q170_11, q170_14, q170_16, q170_17, q170_18, q170_21, q170_22, q170_23, q170_24, q170_25, q170_26, q170_27, q170_30, q170_33, q170_34, q170_37, q170_38, q170_39, q170_40, q170_41, q170_44, q170_45, q170_46, q170_47, q170_50, q170_51, q170_52, q170_53, q170_54, q170_55, q170_58, q170_59, q170_62, q170_63, q170_64, q170_65, q170_66, q170_67, q170_68, q170_71, q170_74, q170_77, q170_78, q170_80, q170_84, q170_87, q170_88, q170_89, q170_92, q170_94, q170_97, q170_98, q170_99, q170_102, q170_105, q170_106, q170_107, q170_110, q170_111, q170_113, q170_114, q170_117, q170_120, q170_121, q170_124, q170_125, q170_126, q170_129, q170_130, q170_131, q170_132, q170_135, q170_139, q170_142, q170_145, q170_146, n10, n01, Bool.false_eq_true, ab_bs, ab_bn, ab_pr0, ab_pr1, nl_n, nl_i, nl_r, nl_j, nl_nl, rc_123, gf_123_0, gf_123_1, pt_123_1, gf_123_2, pt_123_2, gf_123_3, pt_123_3, gf_123_4, pt_123_4, gf_123_5, pt_123_5, gf_123_6, pt_123_6, gf_123_7, pt_123_7, gf_123_8, pt_123_8, gf_123_9, gf_123_10, gf_123_11, gf_123_12, gf_123_13, pt_123_13_0, pt_123_13_1, gf_123_14, pt_123_14_0, pt_123_14_1, gf_123_15, gf_123_16, gf_123_17, gf_123_18, gf_123_19, gf_123_20, gf_123_21, gf_123_22, gf_123_23, gf_123_24, gf_123_25, pt_123_25, gf_123_26, gf_123_27, pt_123_27, gf_123_28, pt_123_28, gf_123_29, gf_123_30, pt_123_30, gf_123_31, pt_123_31, gf_123_32, pt_123_32, gf_123_33, pt_123_33, gf_123_34, pt_123_34_0, pt_123_34_1, gf_123_35, gf_123_36, gf_123_37, gf_123_38, pt_123_38, gf_123_39, pt_123_39, gf_123_40, pt_123_40, gf_123_41, gf_123_42, gf_123_43, gf_123_44, gf_123_45, gf_123_46, gf_123_47, pt_123_47, e, q, if_true]
      · by_cases q4 : N 123 38 = -4
        · rw [q170_83]
          simp only [q170_0, q170_1, q170_4, q170_5, q170_6, q170_9, q170_11, q170_14, q170_16, q170_17, q170_18, q170_21, q170_22, q170_23, q170_24, q170_25, q170_26, q170_27, q170_30, q170_33, q170_34, q170_37, q170_38, q170_39, q170_40, q170_41, q170_44, q170_45, q170_46, q170_47, q170_50, q170_51, q170_52, q170_53, q170_54, q170_55, q170_58, q170_59, q170_62, q170_63, q170_64, q170_65, q170_66, q170_67, q170_68, q170_71, q170_74, q170_77, q170_78, q170_80, q170_84, q170_87, q170_88, q170_89, q170_92, q170_94, q170_97, q170_98, q170_99, q170_102, q170_105, q170_106, q170_107, q170_110, q170_111, q170_113, q170_114, q170_117, q170_120, q170_121, q170_124, q170_125, q170_126, q170_129, q170_130, q170_131, q170_132, q170_135, q170_139, q170_142, q170_145, q170_146, n10, n01, Bool.false_eq_true, ab_bs, ab_bn, ab_pr0, ab_pr1, nl_n, nl_i, nl_r, nl_j, nl_nl, rc_123, gf_123_0, gf_123_1, pt_123_1, gf_123_2, pt_123_2, gf_123_3, pt_123_3, gf_123_4, pt_123_4, gf_123_5, pt_123_5, gf_123_6, pt_123_6, gf_123_7, pt_123_7, gf_123_8, pt_123_8, gf_123_9, gf_123_10, gf_123_11, gf_123_12, gf_123_13, pt_123_13_0, pt_123_13_1, gf_123_14, pt_123_14_0, pt_123_14_1, gf_123_15, gf_123_16, gf_123_17, gf_123_18, gf_123_19, gf_123_20, gf_123_21, gf_123_22, gf_123_23, gf_123_24, gf_123_25, pt_123_25, gf_123_26, gf_123_27, pt_123_27, gf_123_28, pt_123_28, gf_123_29, gf_123_30, pt_123_30, gf_123_31, pt_123_31, gf_123_32, pt_123_32, gf_123_33, pt_123_33, gf_123_34, pt_123_34_0, pt_123_34_1, gf_123_35, gf_123_36, gf_123_37, gf_123_38, pt_123_38, gf_123_39, pt_123_39, gf_123_40, pt_123_40, gf_123_41, gf_123_42, gf_123_43, gf_123_44, gf_123_45, gf_123_46, gf_123_47, pt_123_47, e, q4, if_true]
        · rw [q170_83]
          simp only [q170_0, q170_1, q170_4, q170_5, q170_6, q170_9, q170_11, q170_14, q170_16, q170_17, q170_18, q170_21, q170_22, q170_23, q170_24, q170_25, q170_26, q170_27, q170_30, q170_33, q170_34, q170_37, q170_38, q170_39, q170_40, q170_41, q170_44, q170_45, q170_46, q170_47, q170_50, q170_51, q170_52, q170_53, q170_54, q170_55, q170_58, q170_59, q170_62, q170_63, q170_64, q170_65, q170_66, q170_67, q170_68, q170_71, q170_74, q170_77, q170_78, q170_80, q170_84, q170_87, q170_88, q170_89, q170_92, q170_94, q170_97, q170_98, q170_99, q170_102, q170_105, q170_106, q170_107, q170_110, q170_111, q170_113, q170_114, q170_117, q170_120, q170_121, q170_124, q170_125, q170_126, q170_129, q170_130, q170_131, q170_132, q170_135, q170_139, q170_142, q170_145, q170_146, n10, n01, Bool.false_eq_true, ab_bs, ab_bn, ab_pr0, ab_pr1, nl_n, nl_i, nl_r, nl_j, nl_nl, rc_123, gf_123_0, gf_123_1, pt_123_1, gf_123_2, pt_123_2, gf_123_3, pt_123_3, gf_123_4, pt_123_4, gf_123_5, pt_123_5, gf_123_6, pt_123_6, gf_123_7, pt_123_7, gf_123_8, pt_123_8, gf_123_9, gf_123_10, gf_123_11, gf_123_12, gf_123_13, pt_123_13_0, pt_123_13_1, gf_123_14, pt_123_14_0, pt_123_14_1, gf_123_15, gf_123_16, gf_123_17, gf_123_18, gf_123_19, gf_123_20, gf_123_21, gf_123_22, gf_123_23, gf_123_24, gf_123_25, pt_123_25, gf_123_26, gf_123_27, pt_123_27, gf_123_28, pt_123_28, gf_123_29, gf_123_30, pt_123_30, gf_123_31, pt_123_31, gf_123_32, pt_123_32, gf_123_33, pt_123_33, gf_123_34, pt_123_34_0, pt_123_34_1, gf_123_35, gf_123_36, gf_123_37, gf_123_38, pt_123_38, gf_123_39, pt_123_39, gf_123_40, pt_123_40, gf_123_41, gf_123_42, gf_123_43, gf_123_44, gf_123_45, gf_123_46, gf_123_47, pt_123_47, e, q4, if_false, Int32.not_le.mpr q]
    · unfold df
      rw [if_pos hlt]
      refine ⟨by rw [hcp _ _ (by decide), up_s]; exact ew, wb.1, wb.2, fun j hj => ?_⟩
      unfold cpR
      rw [if_pos ⟨rfl, hj⟩, up_n (by decide)]
      exact (hw j hj).1
  · have q1 : ¬ N 123 38 = -4 := fun y => q (Or.inl y)
    have q2 : ¬ x < N 123 38 := fun y => q (Or.inr y)
    have hs : RS R st N := by
      rcases hst with ⟨s, -⟩ | s
      · exact absurd s q1
      · exact s
    have hnl : ¬ wm (fun p => po b c w R p) n < st.1 := by
      rw [Int32.lt_iff_toInt_lt, ew, hs.1] at q2
      exact q2
    have c3 := lb_nx (scr := scr) (R := R) (N := N) (l2 := some (.int x)) (l3 := l3) g30
    refine ⟨N, none, some (.int x), l3, ?_, hN, fun j _ => rfl, fun j h1 h2 => absurd h1 (by omega), ?_⟩
    · rw [← c3]
      rw [q170_83]
      simp only [q170_0, q170_1, q170_4, q170_5, q170_6, q170_9, q170_11, q170_14, q170_16, q170_17, q170_18, q170_21, q170_22, q170_23, q170_24, q170_25, q170_26, q170_27, q170_30, q170_33, q170_34, q170_37, q170_38, q170_39, q170_40, q170_41, q170_44, q170_45, q170_46, q170_47, q170_50, q170_51, q170_52, q170_53, q170_54, q170_55, q170_58, q170_59, q170_62, q170_63, q170_64, q170_65, q170_66, q170_67, q170_68, q170_71, q170_74, q170_77, q170_78, q170_80, q170_84, q170_87, q170_88, q170_89, q170_92, q170_94, q170_97, q170_98, q170_99, q170_102, q170_105, q170_106, q170_107, q170_110, q170_111, q170_113, q170_114, q170_117, q170_120, q170_121, q170_124, q170_125, q170_126, q170_129, q170_130, q170_131, q170_132, q170_135, q170_139, q170_142, q170_145, q170_146, n10, n01, Bool.false_eq_true, ab_bs, ab_bn, ab_pr0, ab_pr1, nl_n, nl_i, nl_r, nl_j, nl_nl, rc_123, gf_123_0, gf_123_1, pt_123_1, gf_123_2, pt_123_2, gf_123_3, pt_123_3, gf_123_4, pt_123_4, gf_123_5, pt_123_5, gf_123_6, pt_123_6, gf_123_7, pt_123_7, gf_123_8, pt_123_8, gf_123_9, gf_123_10, gf_123_11, gf_123_12, gf_123_13, pt_123_13_0, pt_123_13_1, gf_123_14, pt_123_14_0, pt_123_14_1, gf_123_15, gf_123_16, gf_123_17, gf_123_18, gf_123_19, gf_123_20, gf_123_21, gf_123_22, gf_123_23, gf_123_24, gf_123_25, pt_123_25, gf_123_26, gf_123_27, pt_123_27, gf_123_28, pt_123_28, gf_123_29, gf_123_30, pt_123_30, gf_123_31, pt_123_31, gf_123_32, pt_123_32, gf_123_33, pt_123_33, gf_123_34, pt_123_34_0, pt_123_34_1, gf_123_35, gf_123_36, gf_123_37, gf_123_38, pt_123_38, gf_123_39, pt_123_39, gf_123_40, pt_123_40, gf_123_41, gf_123_42, gf_123_43, gf_123_44, gf_123_45, gf_123_46, gf_123_47, pt_123_47, e, q1, if_false, Int32.not_lt.mp q2, if_true]
    · unfold df
      rw [if_neg hnl]
      exact hs
/-- from one candidate at place `i` to the last -/
theorem lb_step (h0 : HN n R b c m f N0) {k i : Nat} (hk : i + (k + 1) = R) (ih : LB scr n R b c m f N0 k (i + 1)) (w : Nat → Nat) (st0 : Int × (Nat → Nat)) : ∀ d p (N : ab_M) (l2 l3 : Option Value), p + d = 8 → p < 8 → m i p = true → NQ N0 N → (∀ j, j < i → N 142 j = nI (w j) ∧ w j < 8) → N 142 i = nI p → (∀ j, i + 1 ≤ j → j < R → N 142 j = nI (f j)) → RW R (fo (fun p st => if m i p = true then df n m c k (i + 1) (ad (fun p => po b c w i p) p (c i)) (pl w i p) st else st) p st0) N → ∃ N' y l2' l3', ab_res scr 170 7 N 83 [some (.ref 123), some (.int 0), l2, l3] [] = (ab_res scr 169 1 N' 7 [some (.ref 123), some (.int (nI i + -1)), y] []).bind (fun o => ab_res scr 170 7 o.1 142 [some (.ref 123), some (.int 0), l2', l3'] (ab_pr o.2 [])) ∧ NQ N0 N' ∧ (∀ j, j < i → N' 142 j = N 142 j) ∧ (∀ j, i ≤ j → j < R → N' 142 j = nI (f j)) ∧ RS R (fo (fun p st => if m i p = true then df n m c k (i + 1) (ad (fun p => po b c w i p) p (c i)) (pl w i p) st else st) 8 st0) N' := by
  intro d
  induction d using Nat.strongRecOn with
  | ind d ihd =>
    intro p N l2 l3 hd hp hm hN hw hi hf hst
    have h0' := h0
    obtain ⟨hn, h72, hR, h30, hb, hc, hmm⟩ := h0
    obtain ⟨N1, y, l2', l3', r1, r2, r3, r4, r5⟩ := ih N (pl w i p) _ l2 l3 hN (fun j hj => by
      unfold pl
      by_cases e : j = i
      · rw [if_pos e, e]
        exact ⟨hi, hp⟩
      · rw [if_neg e]
        exact hw j (by omega)) hf hst
    have hg : ∀ s, df n m c k (i + 1) (fun q => po b c (pl w i p) (i + 1) q) (pl w i p) s = (fun p st => if m i p = true then df n m c k (i + 1) (ad (fun p => po b c w i p) p (c i)) (pl w i p) st else st) p s := fun s => by
      rw [po_pl]
      show _ = if m i p = true then _ else _
      rw [if_pos hm]
    rw [hg] at r5
    have hG : ∀ r s, m i r = false → (fun p st => if m i p = true then df n m c k (i + 1) (ad (fun p => po b c w i p) p (c i)) (pl w i p) st else st) r s = s := fun r s e => by
      show (if m i r = true then _ else s) = s
      rw [e]
      rfl
    generalize (fun p st => if m i p = true then df n m c k (i + 1) (ad (fun p => po b c w i p) p (c i)) (pl w i p) st else st) = g at *
    have r5 : RS R (fo g (p + 1) st0) N1 := r5
    obtain ⟨t0, t1, t2, t3⟩ := hmm i (by omega)
    have e141 : N1 141 i = N0 141 i := r2 _ _ (by decide) (by decide) (by omega)
    have ht : ∀ r, r < 8 → tb (N1 141 i) r = m i r := fun r hr => by rw [e141]; exact t0 r hr
    have hN1i : N1 142 i = nI p := by rw [r3 i (by omega), hi]
    rcases nx_step (scr := scr) (N := N1) (i := i) (l2 := y) (by omega) hp hN1i t1 (by rw [ht _ t1]; exact t2) (fun r hr => by rw [ht r (by omega)]; exact t3 r hr) with ⟨q, q1, q2, q3, q4, q5⟩ | ⟨q1, q2⟩
    · rw [q5] at r1
      have es : fo g q st0 = fo g (p + 1) st0 := by
        have := fo_skip (g := g) (s := st0) (a := p + 1) (q - (p + 1)) (fun r s a1 a2 => hG r s (by rw [← ht r (by omega)]; exact q4 r (by omega) (by omega)))
        rwa [show p + 1 + (q - (p + 1)) = q by omega] at this
      obtain ⟨N', y', l2q, l3q, s1, s2, s3, s4, s5⟩ := ihd (8 - q) (by omega) q (ab_up N1 142 i (nI q)) l2' l3' (by omega) q2 (by rw [← ht q q2]; exact q3) (fun c j a b e => by rw [up_n a]; exact r2 c j a b e) (fun j hj => by rw [up_o _ _ _ _ _ _ (by omega), r3 j (by omega)]; exact hw j hj) (up_s _ _ _ _) (fun j h1 h2 => by rw [up_o _ _ _ _ _ _ (by omega)]; exact r4 j h1 h2) (Or.inr ⟨by rw [es, up_n (by decide)]; exact r5.1, by rw [es]; exact r5.2.1, by rw [es]; exact r5.2.2.1, fun j hj => by rw [es, up_n (by decide)]; exact r5.2.2.2 j hj⟩)
      refine ⟨N', y', l2q, l3q, ?_, s2, fun j hj => by rw [s3 j hj, up_o _ _ _ _ _ _ (by omega), r3 j (by omega)], s4, s5⟩
      rw [r1, ← s1]
      show ab_res scr 170 7 (ab_up N1 142 i (nI q)) 142 [some (.ref 123), some (.int 0), l2', l3'] [.int 1] = _
      rw [q170_142, if_pos (by decide)]
    · have es : fo g 8 st0 = fo g (p + 1) st0 := by
        have := fo_skip (g := g) (s := st0) (a := p + 1) (8 - (p + 1)) (fun r s a1 a2 => hG r s (by rw [← ht r (by omega)]; exact q1 r (by omega) (by omega)))
        rwa [show p + 1 + (8 - (p + 1)) = 8 by omega] at this
      rw [q2] at r1
      refine ⟨_, _, _, _, r1, fun c j a b e => by rw [up_n a]; exact r2 c j a b e, fun j hj => by rw [up_o _ _ _ _ _ _ (by omega), r3 j (by omega)], fun j h1 h2 => ?_, ?_⟩
      · by_cases e : j = i
        · rw [e, up_s]
        · rw [up_o _ _ _ _ _ _ (by omega)]
          exact r4 j (by omega) h2
      · rw [es]
        exact ⟨by rw [up_n (by decide)]; exact r5.1, r5.2.1, r5.2.2.1, fun j hj => by rw [up_n (by decide)]; exact r5.2.2.2 j hj⟩
theorem lb_all (h0 : HN n R b c m f N0) : ∀ k i, i + k = R → LB scr n R b c m f N0 k i := by
  intro k
  induction k with
  | zero =>
    intro i hi
    have : i = R := by omega
    subst this
    exact lb_leaf h0
  | succ k ih =>
    intro i hi N w st l2 l3 hN hw hf hst
    obtain ⟨t0, t1, t2, t3⟩ := h0.2.2.2.2.2.2 i (by omega)
    have es := fo_skip (g := fun p st => if m i p = true then df n m c k (i + 1) (ad (fun p => po b c w i p) p (c i)) (pl w i p) st else st) (s := st) (a := 0) (f i) (fun r s a1 a2 => by
      show (if m i r = true then _ else s) = s
      rw [t3 r (by omega)]
      rfl)
    rw [Nat.zero_add] at es
    have es : fo (fun p st => if m i p = true then df n m c k (i + 1) (ad (fun p => po b c w i p) p (c i)) (pl w i p) st else st) (f i) st = st := es
    exact lb_step h0 hi (ih (i + 1) (by omega)) w st (8 - f i) (f i) N l2 l3 (by omega) t1 t2 hN hw (hf i (Nat.le_refl _) (by omega)) (fun j h1 h2 => hf j (by omega) h2) (by rw [es]; exact hst)
end
