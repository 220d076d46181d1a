/-! BEST: layBest, best -/
def fiR (f : Nat → Nat) (k : Nat) (N : ab_M) : ab_M := fun c j => if c = 142 ∧ j < k then nI (f j) else N c j
theorem fiR_s {f : Nat → Nat} {k : Nat} {N : ab_M} : ab_up (fiR f k N) 142 k (nI (f k)) = fiR f (k + 1) N := by
  funext c j
  unfold ab_up fiR
  by_cases e : c = 142 ∧ j = k
  · rw [if_pos e, if_pos (by omega), e.2]
  · rw [if_neg e]
    by_cases w : c = 142 ∧ j < k
    · rw [if_pos w, if_pos (by omega)]
    · rw [if_neg w, if_neg (by omega)]
theorem lf_fill {scr : Option (List Int32)} {i : Nat} {N : ab_M} (hi : i < 6) {l1 l3 : Option Value} : ∀ f, f < 8 → (∀ r, r < f → tb (N 141 i) r = false) → ab_res scr 170 7 (ab_up N 142 i 0) 40 [some (.ref 123), l1, some (.int (nI i)), l3] [] = ab_res scr 170 7 (ab_up N 142 i (nI f)) 40 [some (.ref 123), l1, some (.int (nI i)), l3] [] := by
  intro f
  induction f with
  | zero => intro _ _; rfl
  | succ f ih =>
    intro h1 h2
    rw [ih (by omega) (fun r a => h2 r (by omega))]
    have x2 : tb (N 141 i) f = false := h2 f (by omega)
    have y : ab_up N 142 i (nI f) 141 i = N 141 i := up_n (by decide)
    rw [q170_40]
    simp only [q170_0, q170_1, q170_4, q170_5, q170_6, q170_9, q170_11, q170_14, q170_16, q170_17, q170_18, q170_21, q170_22, q170_23, q170_24, q170_26, q170_27, q170_30, q170_33, q170_34, q170_37, q170_38, q170_39, q170_41, q170_44, q170_45, q170_46, q170_47, q170_50, q170_51, q170_52, q170_53, q170_54, q170_55, q170_58, q170_59, q170_62, q170_63, q170_64, q170_65, q170_66, q170_67, q170_68, q170_71, q170_74, q170_78, q170_80, q170_83, q170_84, q170_87, q170_88, q170_89, q170_92, q170_94, q170_97, q170_98, q170_99, q170_102, q170_105, q170_106, q170_107, q170_110, q170_111, q170_112, q170_113, q170_114, q170_117, q170_120, q170_121, q170_124, q170_125, q170_126, q170_129, q170_130, q170_131, q170_132, q170_135, q170_138, q170_139, q170_142, q170_145, q170_146, n10, n01, Bool.false_eq_true, ab_bs, ab_bn, ab_pr0, ab_pr1, nl_n, nl_i, nl_r, nl_j, nl_nl, rc_123, gf_123_0, gf_123_1, pt_123_1, gf_123_2, pt_123_2, gf_123_3, pt_123_3, gf_123_4, pt_123_4, gf_123_5, pt_123_5, gf_123_6, pt_123_6, gf_123_7, pt_123_7, gf_123_8, pt_123_8, gf_123_9, gf_123_10, gf_123_11, gf_123_12, gf_123_13, pt_123_13_0, pt_123_13_1, gf_123_14, pt_123_14_0, pt_123_14_1, gf_123_15, gf_123_16, gf_123_17, gf_123_18, gf_123_19, gf_123_20, gf_123_21, gf_123_22, gf_123_23, gf_123_24, gf_123_25, pt_123_25, gf_123_26, gf_123_27, pt_123_27, gf_123_28, pt_123_28, gf_123_29, gf_123_30, pt_123_30, gf_123_31, pt_123_31, gf_123_32, pt_123_32, gf_123_33, pt_123_33, gf_123_34, pt_123_34_0, pt_123_34_1, gf_123_35, gf_123_36, gf_123_37, gf_123_38, pt_123_38, gf_123_39, pt_123_39, gf_123_40, pt_123_40, gf_123_41, gf_123_42, gf_123_43, gf_123_44, gf_123_45, gf_123_46, gf_123_47, pt_123_47, ln_141, al_141, si_141, ln_142, al_142, si_142, y, up_s, up_up, (show ab_inB (nI i) 40 = true from ib_nI (by omega) (by decide)), (show ab_inB (nI i) 6 = true from ib_nI (by omega) (by decide)), nI_clamp (show i < 2 ^ 31 by omega), if_true, tb_sh _ _ (show f < 8 by omega), x2, Bool.false_eq_true, if_false, not_true, a1]
theorem lf_run {scr : Option (List Int32)} {n R : Nat} {b c : Nat → Int} {m : Nat → Nat → Bool} {f : Nat → Nat} {N : ab_M} (h0 : HN n R b c m f N) {l3 : Option Value} : ab_res scr 170 7 N 25 [some (.ref 123), some (.int 0), some (.int 0), l3] [] = ab_res scr 170 7 (fiR f R N) 77 [some (.ref 123), some (.int 0), some (.int (nI R)), l3] [] := by
  obtain ⟨hn, h72, hR, h30, hb, hc, hm⟩ := h0
  have y : ∀ k c j, c ≠ 142 → fiR f k N c j = N c j := fun k c j h => by
    unfold fiR
    rw [if_neg (by omega)]
  have e1 := rn (fun k => ab_res scr 170 7 (fiR f k N) 25 [some (.ref 123), some (.int 0), some (.int (nI k)), l3] []) R (fun k hk => ?_)
  · have e0 : fiR f 0 N = N := by
      funext c j
      unfold fiR
      rw [if_neg (by omega)]
    have e1 : ab_res scr 170 7 (fiR f 0 N) 25 [some (.ref 123), some (.int 0), some (.int 0), l3] [] = ab_res scr 170 7 (fiR f R N) 25 [some (.ref 123), some (.int 0), some (.int (nI R)), l3] [] := e1
    rw [e0] at e1
    rw [e1]
    rw [q170_25]
    simp only [q170_0, q170_1, q170_4, q170_5, q170_6, q170_9, q170_11, q170_14, q170_16, q170_17, q170_18, q170_21, q170_22, q170_23, q170_24, q170_26, q170_27, q170_30, q170_33, q170_34, q170_37, q170_38, q170_39, q170_41, q170_44, q170_45, q170_46, q170_47, q170_50, q170_51, q170_52, q170_53, q170_54, q170_55, q170_58, q170_59, q170_62, q170_63, q170_64, q170_65, q170_66, q170_67, q170_68, q170_71, q170_74, q170_78, q170_80, q170_83, q170_84, q170_87, q170_88, q170_89, q170_92, q170_94, q170_97, q170_98, q170_99, q170_102, q170_105, q170_106, q170_107, q170_110, q170_111, q170_112, q170_113, q170_114, q170_117, q170_120, q170_121, q170_124, q170_125, q170_126, q170_129, q170_130, q170_131, q170_132, q170_135, q170_138, q170_139, q170_142, q170_145, q170_146, n10, n01, Bool.false_eq_true, ab_bs, ab_bn, ab_pr0, ab_pr1, nl_n, nl_i, nl_r, nl_j, nl_nl, rc_123, gf_123_0, gf_123_1, pt_123_1, gf_123_2, pt_123_2, gf_123_3, pt_123_3, gf_123_4, pt_123_4, gf_123_5, pt_123_5, gf_123_6, pt_123_6, gf_123_7, pt_123_7, gf_123_8, pt_123_8, gf_123_9, gf_123_10, gf_123_11, gf_123_12, gf_123_13, pt_123_13_0, pt_123_13_1, gf_123_14, pt_123_14_0, pt_123_14_1, gf_123_15, gf_123_16, gf_123_17, gf_123_18, gf_123_19, gf_123_20, gf_123_21, gf_123_22, gf_123_23, gf_123_24, gf_123_25, pt_123_25, gf_123_26, gf_123_27, pt_123_27, gf_123_28, pt_123_28, gf_123_29, gf_123_30, pt_123_30, gf_123_31, pt_123_31, gf_123_32, pt_123_32, gf_123_33, pt_123_33, gf_123_34, pt_123_34_0, pt_123_34_1, gf_123_35, gf_123_36, gf_123_37, gf_123_38, pt_123_38, gf_123_39, pt_123_39, gf_123_40, pt_123_40, gf_123_41, gf_123_42, gf_123_43, gf_123_44, gf_123_45, gf_123_46, gf_123_47, pt_123_47, y R 123 30 (by decide), h30, nI_rfl, if_true]
  · have h1 : ¬ nI R ≤ nI k := nI_ge hk (by omega)
    obtain ⟨t0, t1, t2, t3⟩ := hm k hk
    have e := lf_fill (scr := scr) (i := k) (N := fiR f k N) (by omega) (l1 := some (.int 0)) (l3 := l3) (f k) t1 (fun r hr => by rw [y k 141 k (by decide), t0 r (by omega)]; exact t3 r hr)
    rw [fiR_s] at e
    have z : fiR f (k + 1) N 141 k = N 141 k := y _ _ _ (by decide)
    have z2 : fiR f (k + 1) N 142 k = nI (f k) := by
      unfold fiR
      rw [if_pos ⟨rfl, by omega⟩]
    have t4 : tb (N 141 k) (f k) = true := by rw [t0 _ t1]; exact t2
    rw [q170_25]
    simp only [q170_0, q170_1, q170_4, q170_5, q170_6, q170_9, q170_11, q170_14, q170_16, q170_17, q170_18, q170_21, q170_22, q170_23, q170_24, q170_26, q170_27, q170_30, q170_33, q170_34, q170_37, q170_38, q170_39, q170_41, q170_44, q170_45, q170_46, q170_47, q170_50, q170_51, q170_52, q170_53, q170_54, q170_55, q170_58, q170_59, q170_62, q170_63, q170_64, q170_65, q170_66, q170_67, q170_68, q170_71, q170_74, q170_78, q170_80, q170_83, q170_84, q170_87, q170_88, q170_89, q170_92, q170_94, q170_97, q170_98, q170_99, q170_102, q170_105, q170_106, q170_107, q170_110, q170_111, q170_112, q170_113, q170_114, q170_117, q170_120, q170_121, q170_124, q170_125, q170_126, q170_129, q170_130, q170_131, q170_132, q170_135, q170_138, q170_139, q170_142, q170_145, q170_146, n10, n01, Bool.false_eq_true, ab_bs, ab_bn, ab_pr0, ab_pr1, nl_n, nl_i, nl_r, nl_j, nl_nl, rc_123, gf_123_0, gf_123_1, pt_123_1, gf_123_2, pt_123_2, gf_123_3, pt_123_3, gf_123_4, pt_123_4, gf_123_5, pt_123_5, gf_123_6, pt_123_6, gf_123_7, pt_123_7, gf_123_8, pt_123_8, gf_123_9, gf_123_10, gf_123_11, gf_123_12, gf_123_13, pt_123_13_0, pt_123_13_1, gf_123_14, pt_123_14_0, pt_123_14_1, gf_123_15, gf_123_16, gf_123_17, gf_123_18, gf_123_19, gf_123_20, gf_123_21, gf_123_22, gf_123_23, gf_123_24, gf_123_25, pt_123_25, gf_123_26, gf_123_27, pt_123_27, gf_123_28, pt_123_28, gf_123_29, gf_123_30, pt_123_30, gf_123_31, pt_123_31, gf_123_32, pt_123_32, gf_123_33, pt_123_33, gf_123_34, pt_123_34_0, pt_123_34_1, gf_123_35, gf_123_36, gf_123_37, gf_123_38, pt_123_38, gf_123_39, pt_123_39, gf_123_40, pt_123_40, gf_123_41, gf_123_42, gf_123_43, gf_123_44, gf_123_45, gf_123_46, gf_123_47, pt_123_47, ln_142, al_142, si_142, y k 123 30 (by decide), h30, h1, if_false, (show ab_inB (nI k) 6 = true from ib_nI (by omega) (by decide)), nI_clamp (show k < 2 ^ 31 by omega), if_true]
    rw [e]
    rw [q170_40]
    simp only [q170_0, q170_1, q170_4, q170_5, q170_6, q170_9, q170_11, q170_14, q170_16, q170_17, q170_18, q170_21, q170_22, q170_23, q170_24, q170_26, q170_27, q170_30, q170_33, q170_34, q170_37, q170_38, q170_39, q170_41, q170_44, q170_45, q170_46, q170_47, q170_50, q170_51, q170_52, q170_53, q170_54, q170_55, q170_58, q170_59, q170_62, q170_63, q170_64, q170_65, q170_66, q170_67, q170_68, q170_71, q170_74, q170_78, q170_80, q170_83, q170_84, q170_87, q170_88, q170_89, q170_92, q170_94, q170_97, q170_98, q170_99, q170_102, q170_105, q170_106, q170_107, q170_110, q170_111, q170_112, q170_113, q170_114, q170_117, q170_120, q170_121, q170_124, q170_125, q170_126, q170_129, q170_130, q170_131, q170_132, q170_135, q170_138, q170_139, q170_142, q170_145, q170_146, n10, n01, Bool.false_eq_true, ab_bs, ab_bn, ab_pr0, ab_pr1, nl_n, nl_i, nl_r, nl_j, nl_nl, rc_123, gf_123_0, gf_123_1, pt_123_1, gf_123_2, pt_123_2, gf_123_3, pt_123_3, gf_123_4, pt_123_4, gf_123_5, pt_123_5, gf_123_6, pt_123_6, gf_123_7, pt_123_7, gf_123_8, pt_123_8, gf_123_9, gf_123_10, gf_123_11, gf_123_12, gf_123_13, pt_123_13_0, pt_123_13_1, gf_123_14, pt_123_14_0, pt_123_14_1, gf_123_15, gf_123_16, gf_123_17, gf_123_18, gf_123_19, gf_123_20, gf_123_21, gf_123_22, gf_123_23, gf_123_24, gf_123_25, pt_123_25, gf_123_26, gf_123_27, pt_123_27, gf_123_28, pt_123_28, gf_123_29, gf_123_30, pt_123_30, gf_123_31, pt_123_31, gf_123_32, pt_123_32, gf_123_33, pt_123_33, gf_123_34, pt_123_34_0, pt_123_34_1, gf_123_35, gf_123_36, gf_123_37, gf_123_38, pt_123_38, gf_123_39, pt_123_39, gf_123_40, pt_123_40, gf_123_41, gf_123_42, gf_123_43, gf_123_44, gf_123_45, gf_123_46, gf_123_47, pt_123_47, ln_141, al_141, si_141, ln_142, al_142, si_142, z, z2, (show ab_inB (nI k) 40 = true from ib_nI (by omega) (by decide)), (show ab_inB (nI k) 6 = true from ib_nI (by omega) (by decide)), nI_clamp (show k < 2 ^ 31 by omega), if_true, tb_sh _ _ t1, t4, not_false_eq_true, (show ¬ (1 : Int32) = 0 by decide), a1]
theorem AX_NQ {M N N' : ab_M} (h : AX M N) (hq : NQ N N') : AX M N' := by
  obtain ⟨a, b, c, d⟩ := h
  refine ⟨fun c j hc => by rw [hq c j (by omega) (by omega) (by omega)]; exact a c j hc, fun j h1 h2 h3 => by rw [hq 123 j (by decide) (by decide) (by omega)]; exact b j h1 h2 h3, fun j hj => by rw [hq 127 j (by decide) (by decide) (by omega)]; exact c j hj, ?_⟩
  rw [hq 123 14 (by decide) (by decide) (by omega), hq 127 73 (by decide) (by decide) (by omega)]
  exact d
theorem lb_end {scr : Option (List Int32)} {n R : Nat} {b c : Nat → Int} {m : Nat → Nat → Bool} {f : Nat → Nat} {N : ab_M} (h0 : HN n R b c m f N) {l3 : Option Value} : ∃ N', ab_res scr 170 7 N 25 [some (.ref 123), some (.int 0), some (.int 0), l3] [] = some (N', some (.int 0)) ∧ NQ N N' ∧ RS R (df n m c R 0 b (fun _ => 0) (2147483647, fun _ => 0)) N' := by
  have e := lf_run (scr := scr) h0 (l3 := l3)
  have y : ∀ c j, c ≠ 142 → fiR f R N c j = N c j := fun c j h => by
    unfold fiR
    rw [if_neg (by omega)]
  obtain ⟨N', x, l2', l3', r1, r2, r3, r4, r5⟩ := lb_all (scr := scr) h0 R 0 (by omega) (ab_up (fiR f R N) 123 38 (-4)) (fun _ => 0) (2147483647, fun _ => 0) (some (.int (nI R))) l3 (fun c j a1 a2 a3 => by rw [up_o _ _ _ _ _ _ a3, y _ _ a1]) (fun j hj => absurd hj (by omega)) (fun j _ hj => by
    rw [up_n (by decide)]
    unfold fiR
    rw [if_pos ⟨rfl, hj⟩]) (Or.inl ⟨up_s _ _ _ _, rfl⟩)
  refine ⟨N', ?_, r2, r5⟩
  rw [e]
  have x1 : nI 0 + -1 < 0 := by decide
  rw [q170_77]
  simp only [q170_0, q170_1, q170_4, q170_5, q170_6, q170_9, q170_11, q170_14, q170_16, q170_17, q170_18, q170_21, q170_22, q170_23, q170_24, q170_25, q170_26, q170_27, q170_30, q170_33, q170_34, q170_37, q170_38, q170_39, q170_40, q170_41, q170_44, q170_45, q170_46, q170_47, q170_50, q170_51, q170_52, q170_53, q170_54, q170_55, q170_58, q170_59, q170_62, q170_63, q170_64, q170_65, q170_66, q170_67, q170_68, q170_71, q170_74, q170_78, q170_80, q170_84, q170_87, q170_88, q170_89, q170_92, q170_94, q170_97, q170_98, q170_99, q170_102, q170_105, q170_106, q170_107, q170_110, q170_111, q170_112, q170_113, q170_114, q170_117, q170_120, q170_121, q170_124, q170_125, q170_126, q170_129, q170_130, q170_131, q170_132, q170_135, q170_138, q170_139, q170_142, q170_145, q170_146, n10, n01, Bool.false_eq_true, ab_bs, ab_bn, ab_pr0, ab_pr1, nl_n, nl_i, nl_r, nl_j, nl_nl, rc_123, gf_123_0, gf_123_1, pt_123_1, gf_123_2, pt_123_2, gf_123_3, pt_123_3, gf_123_4, pt_123_4, gf_123_5, pt_123_5, gf_123_6, pt_123_6, gf_123_7, pt_123_7, gf_123_8, pt_123_8, gf_123_9, gf_123_10, gf_123_11, gf_123_12, gf_123_13, pt_123_13_0, pt_123_13_1, gf_123_14, pt_123_14_0, pt_123_14_1, gf_123_15, gf_123_16, gf_123_17, gf_123_18, gf_123_19, gf_123_20, gf_123_21, gf_123_22, gf_123_23, gf_123_24, gf_123_25, pt_123_25, gf_123_26, gf_123_27, pt_123_27, gf_123_28, pt_123_28, gf_123_29, gf_123_30, pt_123_30, gf_123_31, pt_123_31, gf_123_32, pt_123_32, gf_123_33, pt_123_33, gf_123_34, pt_123_34_0, pt_123_34_1, gf_123_35, gf_123_36, gf_123_37, gf_123_38, pt_123_38, gf_123_39, pt_123_39, gf_123_40, pt_123_40, gf_123_41, gf_123_42, gf_123_43, gf_123_44, gf_123_45, gf_123_46, gf_123_47, pt_123_47]
  rw [r1]
  rw [q169_7]
  simp only [q169_0, q169_1, q169_4, q169_5, q169_6, q169_8, q169_11, q169_12, q169_15, q169_16, q169_17, q169_18, q169_19, q169_21, q169_23, q169_26, q169_27, q169_30, q169_31, q169_32, q169_33, q169_34, q169_35, q169_36, q169_39, q169_42, q169_45, q169_46, q169_48, q169_51, q169_52, q169_55, q169_56, q169_57, q169_58, q169_59, q169_60, q169_61, q169_64, q169_65, q169_66, q169_67, q169_68, q169_71, q169_72, q169_73, q169_74, q169_77, q169_78, q169_79, q169_80, q169_81, q169_82, q169_85, q169_86, q169_89, q169_90, q169_91, q169_92, q169_93, q169_94, q169_95, q169_98, q169_101, q169_104, q169_105, n10, n01, Bool.false_eq_true, ab_bs, ab_bn, ab_pr0, ab_pr1, nl_n, nl_i, nl_r, nl_j, nl_nl, x1, if_true, narrow_b0]
  simp only [q170_0, q170_1, q170_4, q170_5, q170_6, q170_9, q170_11, q170_14, q170_16, q170_17, q170_18, q170_21, q170_22, q170_23, q170_24, q170_25, q170_26, q170_27, q170_30, q170_33, q170_34, q170_37, q170_38, q170_39, q170_40, q170_41, q170_44, q170_45, q170_46, q170_47, q170_50, q170_51, q170_52, q170_53, q170_54, q170_55, q170_58, q170_59, q170_62, q170_63, q170_64, q170_65, q170_66, q170_67, q170_68, q170_71, q170_74, q170_77, q170_78, q170_80, q170_84, q170_87, q170_88, q170_89, q170_92, q170_94, q170_97, q170_98, q170_99, q170_102, q170_105, q170_106, q170_107, q170_110, q170_111, q170_112, q170_113, q170_114, q170_117, q170_120, q170_121, q170_124, q170_125, q170_126, q170_129, q170_130, q170_131, q170_132, q170_135, q170_138, q170_139, q170_142, q170_145, q170_146, n10, n01, Bool.false_eq_true, ab_bs, ab_bn, ab_pr0, ab_pr1, nl_n, nl_i, nl_r, nl_j, nl_nl, if_false, not_true]
theorem sp_layW {scr : Option (List Int32)} {n t i : Nat} {K : Int} {M M1 : ab_M} (hK : 0 ≤ K) (hK2 : K ≤ 200000000) (h : CR n t K M) (hw : PW n t M1 M) (hF4 : M1 16 4 = M 16 4) (hi : i ≤ 40) (hi2 : frC n M 30 3 = nI i) : (6 < i → ∃ N', ab_ms scr 170 [.ref 123] M1 = some (N', some (.int (-2))) ∧ AX M1 N') ∧ (i ≤ 6 → 0 < frC n M 30 6 → ∃ N', ab_ms scr 170 [.ref 123] M1 = some (N', some (.int (-4))) ∧ AX M1 N') ∧ (i ≤ 6 → ¬ 0 < frC n M 30 6 → ∃ N', ab_ms scr 170 [.ref 123] M1 = some (N', some (.int 0)) ∧ AX M1 N' ∧ N' 123 30 = nI i ∧ RS i (bsV n i (frC n M)) N') := by
  have hn := CR_n h
  obtain ⟨N1, s1, s2, s3, s4, s5, s6, s7, s8⟩ := sp_freeW (scr := scr) h hw hF4
  have hRN := RN_fr h
  have hFC := (frC_ok h).2.2.1
  refine ⟨fun h6 => ⟨N1, ?_, s5⟩, fun h6 hb => ⟨N1, ?_, s5⟩, fun h6 hb => ?_⟩
  · generalize frC n M = F at *
    have x1 : ¬ nI i ≤ 6 := nI_ge (a := 6) (b := i) h6 (by omega)
    rw [ms170]
    simp only [q170_0, q170_1, q170_4, q170_5, q170_6, q170_9, q170_11, q170_14, q170_16, q170_17, q170_18, q170_21, q170_22, q170_23, q170_24, q170_26, q170_27, q170_30, q170_33, q170_34, q170_37, q170_38, q170_39, q170_41, q170_44, q170_45, q170_46, q170_47, q170_50, q170_51, q170_52, q170_53, q170_54, q170_55, q170_58, q170_59, q170_62, q170_63, q170_64, q170_65, q170_66, q170_67, q170_68, q170_71, q170_74, q170_78, q170_80, q170_84, q170_87, q170_88, q170_89, q170_92, q170_94, q170_97, q170_98, q170_99, q170_102, q170_105, q170_106, q170_107, q170_110, q170_111, q170_112, q170_113, q170_114, q170_117, q170_120, q170_121, q170_124, q170_125, q170_126, q170_129, q170_130, q170_131, q170_132, q170_135, q170_138, q170_139, q170_142, q170_145, q170_146, n10, n01, Bool.false_eq_true, ab_bs, ab_bn, ab_pr0, ab_pr1, nl_n, nl_i, nl_r, nl_j, nl_nl, rc_123, gf_123_0, gf_123_1, pt_123_1, gf_123_2, pt_123_2, gf_123_3, pt_123_3, gf_123_4, pt_123_4, gf_123_5, pt_123_5, gf_123_6, pt_123_6, gf_123_7, pt_123_7, gf_123_8, pt_123_8, gf_123_9, gf_123_10, gf_123_11, gf_123_12, gf_123_13, pt_123_13_0, pt_123_13_1, gf_123_14, pt_123_14_0, pt_123_14_1, gf_123_15, gf_123_16, gf_123_17, gf_123_18, gf_123_19, gf_123_20, gf_123_21, gf_123_22, gf_123_23, gf_123_24, gf_123_25, pt_123_25, gf_123_26, gf_123_27, pt_123_27, gf_123_28, pt_123_28, gf_123_29, gf_123_30, pt_123_30, gf_123_31, pt_123_31, gf_123_32, pt_123_32, gf_123_33, pt_123_33, gf_123_34, pt_123_34_0, pt_123_34_1, gf_123_35, gf_123_36, gf_123_37, gf_123_38, pt_123_38, gf_123_39, pt_123_39, gf_123_40, pt_123_40, gf_123_41, gf_123_42, gf_123_43, gf_123_44, gf_123_45, gf_123_46, gf_123_47, pt_123_47, s1, s2, hi2, x1, if_false]
  · generalize frC n M = F at *
    have x1 : nI i ≤ 6 := (nI_leI (b := 6) (by omega) (by decide)).mpr h6
    rw [if_neg (Int32.not_le.mpr hb)] at s1
    rw [ms170]
    simp only [q170_0, q170_1, q170_4, q170_5, q170_6, q170_9, q170_11, q170_14, q170_16, q170_17, q170_18, q170_21, q170_22, q170_23, q170_24, q170_26, q170_27, q170_30, q170_33, q170_34, q170_37, q170_38, q170_39, q170_41, q170_44, q170_45, q170_46, q170_47, q170_50, q170_51, q170_52, q170_53, q170_54, q170_55, q170_58, q170_59, q170_62, q170_63, q170_64, q170_65, q170_66, q170_67, q170_68, q170_71, q170_74, q170_78, q170_80, q170_84, q170_87, q170_88, q170_89, q170_92, q170_94, q170_97, q170_98, q170_99, q170_102, q170_105, q170_106, q170_107, q170_110, q170_111, q170_112, q170_113, q170_114, q170_117, q170_120, q170_121, q170_124, q170_125, q170_126, q170_129, q170_130, q170_131, q170_132, q170_135, q170_138, q170_139, q170_142, q170_145, q170_146, n10, n01, Bool.false_eq_true, ab_bs, ab_bn, ab_pr0, ab_pr1, nl_n, nl_i, nl_r, nl_j, nl_nl, rc_123, gf_123_0, gf_123_1, pt_123_1, gf_123_2, pt_123_2, gf_123_3, pt_123_3, gf_123_4, pt_123_4, gf_123_5, pt_123_5, gf_123_6, pt_123_6, gf_123_7, pt_123_7, gf_123_8, pt_123_8, gf_123_9, gf_123_10, gf_123_11, gf_123_12, gf_123_13, pt_123_13_0, pt_123_13_1, gf_123_14, pt_123_14_0, pt_123_14_1, gf_123_15, gf_123_16, gf_123_17, gf_123_18, gf_123_19, gf_123_20, gf_123_21, gf_123_22, gf_123_23, gf_123_24, gf_123_25, pt_123_25, gf_123_26, gf_123_27, pt_123_27, gf_123_28, pt_123_28, gf_123_29, gf_123_30, pt_123_30, gf_123_31, pt_123_31, gf_123_32, pt_123_32, gf_123_33, pt_123_33, gf_123_34, pt_123_34_0, pt_123_34_1, gf_123_35, gf_123_36, gf_123_37, gf_123_38, pt_123_38, gf_123_39, pt_123_39, gf_123_40, pt_123_40, gf_123_41, gf_123_42, gf_123_43, gf_123_44, gf_123_45, gf_123_46, gf_123_47, pt_123_47, s1, s2, hi2, x1, if_true, if_false, (show ¬ (-4 : Int32) = 0 by decide)]
  · obtain ⟨l4, l5, l6, l7⟩ := fr_lim hK hK2 h hi2 h6
    have e25 : ∀ p, frC n M 25 p = M 25 p := fun p => hFC _ _ (by omega)
    generalize frC n M = F at *
    have x1 : nI i ≤ 6 := (nI_leI (b := 6) (by omega) (by decide)).mpr h6
    rw [if_pos (Int32.not_lt.mp hb)] at s1
    obtain ⟨-, -, i3, y1, y2, y3⟩ := hRN
    have ei : i = i3 := by
      have e := congrArg Int32.toNatClampNeg (hi2.symm.trans y2)
      rwa [nI_clamp (by omega), nI_clamp (by omega)] at e
    subst ei
    rw [hi2, nI_clamp (by omega)] at s4
    have hex : ∀ j, ∃ q, j < i → q < 8 ∧ mkB n F j q = true ∧ ∀ p, p < q → mkB n F j p = false := fun j => by
      by_cases hj : j < i
      · obtain ⟨q, q1, q2⟩ := mk_ne hn (l5 j hj).1 (y3 j hj)
        rcases nx_or (fun q => mkB n F j q) 0 8 with ⟨q, q1, q2, q3, q4⟩ | z
        · exact ⟨q, fun _ => ⟨by omega, q3, fun p hp => q4 p (by omega) hp⟩⟩
        · have := z q (by omega) (by omega)
          unfold mkB at this
          rw [q2] at this
          cases this
      · exact ⟨0, fun z => absurd z hj⟩
    obtain ⟨f, hf⟩ := Classical.axiomOfChoice hex
    have hH : HN n i (obF F) (coB F) (mkB n F) f N1 := ⟨hn, s7, h6, by rw [s2, hi2], fun p hp => ⟨by
      rw [(s8 p hp).1, (s8 p hp).2, l7 p hp]
      unfold obF
      rw [e25], by have := l6 p hp; omega, by have := l6 p hp; omega⟩, fun r hr => ⟨by rw [s3 r 2 (by rw [hi2, nI_clamp (by omega)]; exact hr) (by decide)]; rfl, (l5 r hr).2.1, (l5 r hr).2.2⟩, fun r hr => ⟨fun p hp => by rw [(s4 r hr).1]; rfl, hf r hr⟩⟩
    obtain ⟨N2, e1, e2, e3⟩ := lb_end (scr := scr) hH (l3 := none)
    refine ⟨N2, ?_, AX_NQ s5 e2, by rw [e2 _ _ (by decide) (by decide) (by omega), s2, hi2], e3⟩
    rw [ms170]
    simp only [q170_0, q170_1, q170_4, q170_5, q170_6, q170_9, q170_11, q170_14, q170_16, q170_17, q170_18, q170_21, q170_22, q170_23, q170_24, q170_26, q170_27, q170_30, q170_33, q170_34, q170_37, q170_38, q170_39, q170_41, q170_44, q170_45, q170_46, q170_47, q170_50, q170_51, q170_52, q170_53, q170_54, q170_55, q170_58, q170_59, q170_62, q170_63, q170_64, q170_65, q170_66, q170_67, q170_68, q170_71, q170_74, q170_78, q170_80, q170_84, q170_87, q170_88, q170_89, q170_92, q170_94, q170_97, q170_98, q170_99, q170_102, q170_105, q170_106, q170_107, q170_110, q170_111, q170_112, q170_113, q170_114, q170_117, q170_120, q170_121, q170_124, q170_125, q170_126, q170_129, q170_130, q170_131, q170_132, q170_135, q170_138, q170_139, q170_142, q170_145, q170_146, n10, n01, Bool.false_eq_true, ab_bs, ab_bn, ab_pr0, ab_pr1, nl_n, nl_i, nl_r, nl_j, nl_nl, rc_123, gf_123_0, gf_123_1, pt_123_1, gf_123_2, pt_123_2, gf_123_3, pt_123_3, gf_123_4, pt_123_4, gf_123_5, pt_123_5, gf_123_6, pt_123_6, gf_123_7, pt_123_7, gf_123_8, pt_123_8, gf_123_9, gf_123_10, gf_123_11, gf_123_12, gf_123_13, pt_123_13_0, pt_123_13_1, gf_123_14, pt_123_14_0, pt_123_14_1, gf_123_15, gf_123_16, gf_123_17, gf_123_18, gf_123_19, gf_123_20, gf_123_21, gf_123_22, gf_123_23, gf_123_24, gf_123_25, pt_123_25, gf_123_26, gf_123_27, pt_123_27, gf_123_28, pt_123_28, gf_123_29, gf_123_30, pt_123_30, gf_123_31, pt_123_31, gf_123_32, pt_123_32, gf_123_33, pt_123_33, gf_123_34, pt_123_34_0, pt_123_34_1, gf_123_35, gf_123_36, gf_123_37, gf_123_38, pt_123_38, gf_123_39, pt_123_39, gf_123_40, pt_123_40, gf_123_41, gf_123_42, gf_123_43, gf_123_44, gf_123_45, gf_123_46, gf_123_47, pt_123_47, s1, s2, hi2, x1, if_true, if_false, not_true]
    exact e1
theorem sp_lay {scr : Option (List Int32)} {n t i : Nat} {K : Int} {M M1 : ab_M} (hK : 0 ≤ K) (hK2 : K ≤ 200000000) (h : CR n t K M) (hF : FA M M1) (hi : i ≤ 40) (hi2 : frC n M 30 3 = nI i) : (6 < i → ∃ N', ab_ms scr 170 [.ref 123] M1 = some (N', some (.int (-2))) ∧ AX M N') ∧ (i ≤ 6 → 0 < frC n M 30 6 → ∃ N', ab_ms scr 170 [.ref 123] M1 = some (N', some (.int (-4))) ∧ AX M N') ∧ (i ≤ 6 → ¬ 0 < frC n M 30 6 → ∃ N', ab_ms scr 170 [.ref 123] M1 = some (N', some (.int 0)) ∧ AX M N' ∧ N' 123 30 = nI i ∧ RS i (bsV n i (frC n M)) N') := by
  obtain ⟨a, b, c⟩ := sp_layW (scr := scr) hK hK2 h (PW_of h.2.1 (fun _ _ _ => rfl) (fun j => hF _ _ (by decide)) (hF _ _ (by decide))) (hF 16 4 (by decide)) hi hi2
  refine ⟨fun x => ?_, fun x y => ?_, fun x y => ?_⟩
  · obtain ⟨N', p, q⟩ := a x
    exact ⟨N', p, AX_trans (AX_FA hF) q⟩
  · obtain ⟨N', p, q⟩ := b x y
    exact ⟨N', p, AX_trans (AX_FA hF) q⟩
  · obtain ⟨N', p, q, r⟩ := c x y
    exact ⟨N', p, AX_trans (AX_FA hF) q, r⟩
