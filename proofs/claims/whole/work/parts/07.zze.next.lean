/-! BEST: the reference's next row -/
theorem pr_s (i : Nat) : nI (i + 1) + -1 = nI i := by
  rw [← nI_add i 1]
  show nI i + 1 + -1 = nI i
  rw [Int32.add_assoc]
  exact Int32.add_zero _
theorem fo_skip {α : Type} {g : Nat → α → α} {s : α} {a : Nat} : ∀ d, (∀ r s, a ≤ r → r < a + d → g r s = s) → fo g (a + d) s = fo g a s := by
  intro d
  induction d with
  | zero => intro _; rfl
  | succ d ih =>
    intro h
    show g (a + d) (fo g (a + d) s) = _
    rw [h (a + d) _ (by omega) (by omega), ih (fun r s h1 h2 => h r s h1 (by omega))]
theorem nx_or (m : Nat → Bool) (a : Nat) : ∀ d, (∃ q, a ≤ q ∧ q < a + d ∧ m q = true ∧ ∀ r, a ≤ r → r < q → m r = false) ∨ ∀ r, a ≤ r → r < a + d → m r = false := by
  intro d
  induction d with
  | zero => exact Or.inr fun r h1 h2 => by omega
  | succ d ih =>
    rcases ih with ⟨q, h1, h2, h3⟩ | h
    · exact Or.inl ⟨q, h1, by omega, h3⟩
    · by_cases e : m (a + d) = true
      · exact Or.inl ⟨a + d, by omega, by omega, e, h⟩
      · refine Or.inr fun r h1 h2 => ?_
        by_cases x : r = a + d
        · rw [x]
          exact Bool.not_eq_true _ ▸ e
        · exact h r h1 (by omega)
section
variable {scr : Option (List Int32)} {i : Nat} {N : ab_M}
theorem nr_seek (hi : i < 6) {q : Nat} : ∀ d, q + d ≤ 8 → (∀ r, q ≤ r → r < q + d → tb (N 141 i) r = false) → ab_res scr 169 1 N 20 [some (.ref 123), some (.int (nI i)), some (.int (nI q))] [] = ab_res scr 169 1 N 20 [some (.ref 123), some (.int (nI i)), some (.int (nI (q + d)))] [] := by
  intro d
  induction d with
  | zero => intro _ _; rfl
  | succ d ih =>
    intro h1 h2
    rw [ih (by omega) (fun r a b => h2 r a (by omega))]
    have x1 : ¬ (8 : Int32) ≤ nI (q + d) := nI_ge (a := q + d) (b := 8) (by omega) (by omega)
    have x2 : tb (N 141 i) (q + d) = false := h2 (q + d) (by omega) (by omega)
    rw [q169_20]
    simp only [q169_0, q169_1, q169_4, q169_5, q169_6, q169_8, q169_11, q169_12, q169_15, q169_16, q169_17, q169_18, q169_19, q169_21, q169_23, q169_26, q169_27, q169_30, q169_31, q169_32, q169_33, q169_34, q169_35, q169_36, q169_39, q169_42, q169_45, q169_46, q169_48, q169_51, q169_52, q169_55, q169_56, q169_57, q169_58, q169_59, q169_60, q169_61, q169_64, q169_65, q169_66, q169_68, q169_71, q169_72, q169_73, q169_74, q169_77, q169_78, q169_79, q169_80, q169_81, q169_82, q169_85, q169_86, q169_89, q169_90, q169_91, q169_92, q169_93, q169_94, q169_95, q169_98, q169_101, q169_104, q169_105, n10, n01, Bool.false_eq_true, ab_bs, ab_bn, ab_pr0, ab_pr1, nl_n, nl_i, nl_r, nl_j, nl_nl, rc_123, gf_123_0, gf_123_1, pt_123_1, gf_123_2, pt_123_2, gf_123_3, pt_123_3, gf_123_4, pt_123_4, gf_123_5, pt_123_5, gf_123_6, pt_123_6, gf_123_7, pt_123_7, gf_123_8, pt_123_8, gf_123_9, gf_123_10, gf_123_11, gf_123_12, gf_123_13, pt_123_13_0, pt_123_13_1, gf_123_14, pt_123_14_0, pt_123_14_1, gf_123_15, gf_123_16, gf_123_17, gf_123_18, gf_123_19, gf_123_20, gf_123_21, gf_123_22, gf_123_23, gf_123_24, gf_123_25, pt_123_25, gf_123_26, gf_123_27, pt_123_27, gf_123_28, pt_123_28, gf_123_29, gf_123_30, pt_123_30, gf_123_31, pt_123_31, gf_123_32, pt_123_32, gf_123_33, pt_123_33, gf_123_34, pt_123_34_0, pt_123_34_1, gf_123_35, gf_123_36, gf_123_37, gf_123_38, pt_123_38, gf_123_39, pt_123_39, gf_123_40, pt_123_40, gf_123_41, gf_123_42, gf_123_43, gf_123_44, gf_123_45, gf_123_46, gf_123_47, pt_123_47, ln_141, al_141, si_141, x1, if_false, (show ab_inB (nI i) 40 = true from ib_nI (by omega) (by decide)), nI_clamp (show i < 2 ^ 31 by omega), if_true, tb_sh _ _ (show q + d < 8 by omega), x2, Bool.false_eq_true, not_true, a1, Nat.add_assoc]
theorem nr_hit (hi : i < 6) {q : Nat} (hq : q < 8) (h : tb (N 141 i) q = true) : ab_res scr 169 1 N 20 [some (.ref 123), some (.int (nI i)), some (.int (nI q))] [] = some (ab_up N 142 i (nI q), some (.int 1)) := by
  have x1 : ¬ (8 : Int32) ≤ nI q := nI_ge (a := q) (b := 8) (by omega) (by omega)
  rw [q169_20]
  simp only [q169_0, q169_1, q169_4, q169_5, q169_6, q169_8, q169_11, q169_12, q169_15, q169_16, q169_17, q169_18, q169_19, q169_21, q169_23, q169_26, q169_27, q169_30, q169_31, q169_32, q169_33, q169_34, q169_35, q169_36, q169_39, q169_42, q169_45, q169_46, q169_48, q169_51, q169_52, q169_55, q169_56, q169_57, q169_58, q169_59, q169_60, q169_61, q169_64, q169_65, q169_66, q169_68, q169_71, q169_72, q169_73, q169_74, q169_77, q169_78, q169_79, q169_80, q169_81, q169_82, q169_85, q169_86, q169_89, q169_90, q169_91, q169_92, q169_93, q169_94, q169_95, q169_98, q169_101, q169_104, q169_105, n10, n01, Bool.false_eq_true, ab_bs, ab_bn, ab_pr0, ab_pr1, nl_n, nl_i, nl_r, nl_j, nl_nl, rc_123, gf_123_0, gf_123_1, pt_123_1, gf_123_2, pt_123_2, gf_123_3, pt_123_3, gf_123_4, pt_123_4, gf_123_5, pt_123_5, gf_123_6, pt_123_6, gf_123_7, pt_123_7, gf_123_8, pt_123_8, gf_123_9, gf_123_10, gf_123_11, gf_123_12, gf_123_13, pt_123_13_0, pt_123_13_1, gf_123_14, pt_123_14_0, pt_123_14_1, gf_123_15, gf_123_16, gf_123_17, gf_123_18, gf_123_19, gf_123_20, gf_123_21, gf_123_22, gf_123_23, gf_123_24, gf_123_25, pt_123_25, gf_123_26, gf_123_27, pt_123_27, gf_123_28, pt_123_28, gf_123_29, gf_123_30, pt_123_30, gf_123_31, pt_123_31, gf_123_32, pt_123_32, gf_123_33, pt_123_33, gf_123_34, pt_123_34_0, pt_123_34_1, gf_123_35, gf_123_36, gf_123_37, gf_123_38, pt_123_38, gf_123_39, pt_123_39, gf_123_40, pt_123_40, gf_123_41, gf_123_42, gf_123_43, gf_123_44, gf_123_45, gf_123_46, gf_123_47, pt_123_47, ln_141, al_141, si_141, ln_142, al_142, si_142, x1, if_false, (show ab_inB (nI i) 40 = true from ib_nI (by omega) (by decide)), (show ab_inB (nI i) 6 = true from ib_nI (by omega) (by decide)), nI_clamp (show i < 2 ^ 31 by omega), if_true, tb_sh _ _ hq, h, not_false_eq_true, (show ¬ (1 : Int32) = 0 by decide), narrow_b1]
theorem nr_fill (hi : i < 6) {l2 : Option Value} : ∀ f, f < 8 → (∀ r, r < f → tb (N 141 i) r = false) → ab_res scr 169 1 (ab_up N 142 i 0) 67 [some (.ref 123), some (.int (nI i)), l2] [] = ab_res scr 169 1 (ab_up N 142 i (nI f)) 67 [some (.ref 123), some (.int (nI i)), l2] [] := by
  intro f
  induction f with
  | zero => intro _ _; rfl
  | succ f ih =>
    intro h1 h2
    rw [ih (by omega) (fun r a => h2 r (by omega))]
    have x2 : tb (N 141 i) f = false := h2 f (by omega)
    have y : ab_up N 142 i (nI f) 141 i = N 141 i := up_n (by decide)
    rw [q169_67]
    simp only [q169_0, q169_1, q169_4, q169_5, q169_6, q169_8, q169_11, q169_12, q169_15, q169_16, q169_17, q169_18, q169_19, q169_21, q169_23, q169_26, q169_27, q169_30, q169_31, q169_32, q169_33, q169_34, q169_35, q169_36, q169_39, q169_42, q169_45, q169_46, q169_48, q169_51, q169_52, q169_55, q169_56, q169_57, q169_58, q169_59, q169_60, q169_61, q169_64, q169_65, q169_66, q169_68, q169_71, q169_72, q169_73, q169_74, q169_77, q169_78, q169_79, q169_80, q169_81, q169_82, q169_85, q169_86, q169_89, q169_90, q169_91, q169_92, q169_93, q169_94, q169_95, q169_98, q169_101, q169_104, q169_105, n10, n01, Bool.false_eq_true, ab_bs, ab_bn, ab_pr0, ab_pr1, nl_n, nl_i, nl_r, nl_j, nl_nl, rc_123, gf_123_0, gf_123_1, pt_123_1, gf_123_2, pt_123_2, gf_123_3, pt_123_3, gf_123_4, pt_123_4, gf_123_5, pt_123_5, gf_123_6, pt_123_6, gf_123_7, pt_123_7, gf_123_8, pt_123_8, gf_123_9, gf_123_10, gf_123_11, gf_123_12, gf_123_13, pt_123_13_0, pt_123_13_1, gf_123_14, pt_123_14_0, pt_123_14_1, gf_123_15, gf_123_16, gf_123_17, gf_123_18, gf_123_19, gf_123_20, gf_123_21, gf_123_22, gf_123_23, gf_123_24, gf_123_25, pt_123_25, gf_123_26, gf_123_27, pt_123_27, gf_123_28, pt_123_28, gf_123_29, gf_123_30, pt_123_30, gf_123_31, pt_123_31, gf_123_32, pt_123_32, gf_123_33, pt_123_33, gf_123_34, pt_123_34_0, pt_123_34_1, gf_123_35, gf_123_36, gf_123_37, gf_123_38, pt_123_38, gf_123_39, pt_123_39, gf_123_40, pt_123_40, gf_123_41, gf_123_42, gf_123_43, gf_123_44, gf_123_45, gf_123_46, gf_123_47, pt_123_47, ln_141, al_141, si_141, ln_142, al_142, si_142, y, up_s, up_up, (show ab_inB (nI i) 40 = true from ib_nI (by omega) (by decide)), (show ab_inB (nI i) 6 = true from ib_nI (by omega) (by decide)), nI_clamp (show i < 2 ^ 31 by omega), if_true, tb_sh _ _ (show f < 8 by omega), x2, Bool.false_eq_true, if_false, not_true, a1]
theorem nr_end (hi : i < 6) {f : Nat} (hf : f < 8) (h1 : tb (N 141 i) f = true) (h2 : ∀ r, r < f → tb (N 141 i) r = false) : ab_res scr 169 1 N 20 [some (.ref 123), some (.int (nI i)), some (.int (nI 8))] [] = ab_res scr 169 1 (ab_up N 142 i (nI f)) 7 [some (.ref 123), some (.int (nI i + -1)), some (.int (nI 8))] [] := by
  have x1 : (8 : Int32) ≤ nI 8 := by decide
  have e := nr_fill (scr := scr) (N := N) hi (l2 := some (.int (nI 8))) f hf h2
  have y : ab_up N 142 i (nI f) 141 i = N 141 i := up_n (by decide)
  rw [q169_20]
  simp only [q169_0, q169_1, q169_4, q169_5, q169_6, q169_8, q169_11, q169_12, q169_15, q169_16, q169_17, q169_18, q169_19, q169_21, q169_23, q169_26, q169_27, q169_30, q169_31, q169_32, q169_33, q169_34, q169_35, q169_36, q169_39, q169_42, q169_45, q169_46, q169_48, q169_51, q169_52, q169_55, q169_56, q169_57, q169_58, q169_59, q169_60, q169_61, q169_64, q169_65, q169_66, q169_68, q169_71, q169_72, q169_73, q169_74, q169_77, q169_78, q169_79, q169_80, q169_81, q169_82, q169_85, q169_86, q169_89, q169_90, q169_91, q169_92, q169_93, q169_94, q169_95, q169_98, q169_101, q169_104, q169_105, n10, n01, Bool.false_eq_true, ab_bs, ab_bn, ab_pr0, ab_pr1, nl_n, nl_i, nl_r, nl_j, nl_nl, rc_123, gf_123_0, gf_123_1, pt_123_1, gf_123_2, pt_123_2, gf_123_3, pt_123_3, gf_123_4, pt_123_4, gf_123_5, pt_123_5, gf_123_6, pt_123_6, gf_123_7, pt_123_7, gf_123_8, pt_123_8, gf_123_9, gf_123_10, gf_123_11, gf_123_12, gf_123_13, pt_123_13_0, pt_123_13_1, gf_123_14, pt_123_14_0, pt_123_14_1, gf_123_15, gf_123_16, gf_123_17, gf_123_18, gf_123_19, gf_123_20, gf_123_21, gf_123_22, gf_123_23, gf_123_24, gf_123_25, pt_123_25, gf_123_26, gf_123_27, pt_123_27, gf_123_28, pt_123_28, gf_123_29, gf_123_30, pt_123_30, gf_123_31, pt_123_31, gf_123_32, pt_123_32, gf_123_33, pt_123_33, gf_123_34, pt_123_34_0, pt_123_34_1, gf_123_35, gf_123_36, gf_123_37, gf_123_38, pt_123_38, gf_123_39, pt_123_39, gf_123_40, pt_123_40, gf_123_41, gf_123_42, gf_123_43, gf_123_44, gf_123_45, gf_123_46, gf_123_47, pt_123_47, ln_141, al_141, si_141, ln_142, al_142, si_142, x1, if_true, (show ab_inB (nI i) 6 = true from ib_nI (by omega) (by decide)), nI_clamp (show i < 2 ^ 31 by omega)]
  rw [e]
  rw [q169_67]
  simp only [q169_0, q169_1, q169_4, q169_5, q169_6, q169_8, q169_11, q169_12, q169_15, q169_16, q169_17, q169_18, q169_19, q169_21, q169_23, q169_26, q169_27, q169_30, q169_31, q169_32, q169_33, q169_34, q169_35, q169_36, q169_39, q169_42, q169_45, q169_46, q169_48, q169_51, q169_52, q169_55, q169_56, q169_57, q169_58, q169_59, q169_60, q169_61, q169_64, q169_65, q169_66, q169_68, q169_71, q169_72, q169_73, q169_74, q169_77, q169_78, q169_79, q169_80, q169_81, q169_82, q169_85, q169_86, q169_89, q169_90, q169_91, q169_92, q169_93, q169_94, q169_95, q169_98, q169_101, q169_104, q169_105, n10, n01, Bool.false_eq_true, ab_bs, ab_bn, ab_pr0, ab_pr1, nl_n, nl_i, nl_r, nl_j, nl_nl, rc_123, gf_123_0, gf_123_1, pt_123_1, gf_123_2, pt_123_2, gf_123_3, pt_123_3, gf_123_4, pt_123_4, gf_123_5, pt_123_5, gf_123_6, pt_123_6, gf_123_7, pt_123_7, gf_123_8, pt_123_8, gf_123_9, gf_123_10, gf_123_11, gf_123_12, gf_123_13, pt_123_13_0, pt_123_13_1, gf_123_14, pt_123_14_0, pt_123_14_1, gf_123_15, gf_123_16, gf_123_17, gf_123_18, gf_123_19, gf_123_20, gf_123_21, gf_123_22, gf_123_23, gf_123_24, gf_123_25, pt_123_25, gf_123_26, gf_123_27, pt_123_27, gf_123_28, pt_123_28, gf_123_29, gf_123_30, pt_123_30, gf_123_31, pt_123_31, gf_123_32, pt_123_32, gf_123_33, pt_123_33, gf_123_34, pt_123_34_0, pt_123_34_1, gf_123_35, gf_123_36, gf_123_37, gf_123_38, pt_123_38, gf_123_39, pt_123_39, gf_123_40, pt_123_40, gf_123_41, gf_123_42, gf_123_43, gf_123_44, gf_123_45, gf_123_46, gf_123_47, pt_123_47, ln_141, al_141, si_141, ln_142, al_142, si_142, y, up_s, (show ab_inB (nI i) 40 = true from ib_nI (by omega) (by decide)), (show ab_inB (nI i) 6 = true from ib_nI (by omega) (by decide)), nI_clamp (show i < 2 ^ 31 by omega), if_true, tb_sh _ _ hf, h1, not_false_eq_true, (show ¬ (1 : Int32) = 0 by decide)]
theorem nx_step (hi : i < 6) {p f : Nat} {l2 : Option Value} (hp : p < 8) (hN : N 142 i = nI p) (hf : f < 8) (f1 : tb (N 141 i) f = true) (f2 : ∀ r, r < f → tb (N 141 i) r = false) : (∃ q, p < q ∧ q < 8 ∧ tb (N 141 i) q = true ∧ (∀ r, p < r → r < q → tb (N 141 i) r = false) ∧ ab_res scr 169 1 N 7 [some (.ref 123), some (.int (nI (i + 1) + -1)), l2] [] = some (ab_up N 142 i (nI q), some (.int 1))) ∨ ((∀ r, p < r → r < 8 → tb (N 141 i) r = false) ∧ ab_res scr 169 1 N 7 [some (.ref 123), some (.int (nI (i + 1) + -1)), l2] [] = ab_res scr 169 1 (ab_up N 142 i (nI f)) 7 [some (.ref 123), some (.int (nI i + -1)), some (.int (nI 8))] []) := by
  have x0 : ¬ nI i < 0 := Int32.not_lt.mpr ((nI_leI (a := 0) (b := i) (by decide) (by omega)).mpr (by omega))
  have st : ab_res scr 169 1 N 7 [some (.ref 123), some (.int (nI (i + 1) + -1)), l2] [] = ab_res scr 169 1 N 20 [some (.ref 123), some (.int (nI i)), some (.int (nI (p + 1)))] [] := by
    rw [pr_s]
    rw [q169_7]
    simp only [q169_0, q169_1, q169_4, q169_5, q169_6, q169_8, q169_11, q169_12, q169_15, q169_16, q169_17, q169_18, q169_19, q169_21, q169_23, q169_26, q169_27, q169_30, q169_31, q169_32, q169_33, q169_34, q169_35, q169_36, q169_39, q169_42, q169_45, q169_46, q169_48, q169_51, q169_52, q169_55, q169_56, q169_57, q169_58, q169_59, q169_60, q169_61, q169_64, q169_65, q169_66, q169_68, q169_71, q169_72, q169_73, q169_74, q169_77, q169_78, q169_79, q169_80, q169_81, q169_82, q169_85, q169_86, q169_89, q169_90, q169_91, q169_92, q169_93, q169_94, q169_95, q169_98, q169_101, q169_104, q169_105, n10, n01, Bool.false_eq_true, ab_bs, ab_bn, ab_pr0, ab_pr1, nl_n, nl_i, nl_r, nl_j, nl_nl, rc_123, gf_123_0, gf_123_1, pt_123_1, gf_123_2, pt_123_2, gf_123_3, pt_123_3, gf_123_4, pt_123_4, gf_123_5, pt_123_5, gf_123_6, pt_123_6, gf_123_7, pt_123_7, gf_123_8, pt_123_8, gf_123_9, gf_123_10, gf_123_11, gf_123_12, gf_123_13, pt_123_13_0, pt_123_13_1, gf_123_14, pt_123_14_0, pt_123_14_1, gf_123_15, gf_123_16, gf_123_17, gf_123_18, gf_123_19, gf_123_20, gf_123_21, gf_123_22, gf_123_23, gf_123_24, gf_123_25, pt_123_25, gf_123_26, gf_123_27, pt_123_27, gf_123_28, pt_123_28, gf_123_29, gf_123_30, pt_123_30, gf_123_31, pt_123_31, gf_123_32, pt_123_32, gf_123_33, pt_123_33, gf_123_34, pt_123_34_0, pt_123_34_1, gf_123_35, gf_123_36, gf_123_37, gf_123_38, pt_123_38, gf_123_39, pt_123_39, gf_123_40, pt_123_40, gf_123_41, gf_123_42, gf_123_43, gf_123_44, gf_123_45, gf_123_46, gf_123_47, pt_123_47, ln_142, al_142, si_142, x0, if_false, (show ab_inB (nI i) 6 = true from ib_nI (by omega) (by decide)), nI_clamp (show i < 2 ^ 31 by omega), if_true, hN, a1]
  rw [st]
  rcases nx_or (fun r => tb (N 141 i) r) (p + 1) (8 - (p + 1)) with ⟨q, h1, h2, h3, h4⟩ | h
  · refine Or.inl ⟨q, by omega, by omega, h3, fun r a b => h4 r (by omega) b, ?_⟩
    have e := nr_seek (scr := scr) (N := N) hi (q := p + 1) (q - (p + 1)) (by omega) (fun r a b => h4 r a (by omega))
    rw [e, show p + 1 + (q - (p + 1)) = q by omega]
    exact nr_hit hi (by omega) h3
  · refine Or.inr ⟨fun r a b => h r (by omega) (by omega), ?_⟩
    have e := nr_seek (scr := scr) (N := N) hi (q := p + 1) (8 - (p + 1)) (by omega) (fun r a b => h r a (by omega))
    rw [e, show p + 1 + (8 - (p + 1)) = 8 by omega]
    exact nr_end hi hf f1 f2
end
