/-! table: a line that tells a ONE -/
section
variable {scr : Option (List Int32)} {B : Nat → Nat} {L : Nat}
def rWr (n : Nat) (N : ab_M) : ab_M := ab_up (ab_up (ab_up (ab_up (ab_up N 128 (9 * n + 4) 999) 128 (9 * n + 5) 1) 128 (9 * n + 6) 0) 128 (9 * n + 7) 0) 128 (9 * n + 8) 0
theorem rWr_d {n : Nat} {N : ab_M} : dF N (rWr n N) := dF_trans (dF_trans (dF_trans (dF_trans dF_up dF_up) dF_up) dF_up) dF_up
theorem r104 {N : ab_M} {n : Nat} {v : Int32} (hn : n < 8) (hv : ab_ms scr 126 [.ref 123] (rWr n N) = some (rWr n N, some (.int v))) : ab_res scr 130 5 N 104 [some (.ref 123), some (.int (nI (9 * n))), none, none] [] = ab_res scr 130 5 (rWr n N) 161 [some (.ref 123), some (.int (nI (9 * n))), some (.int 0), some (.int v)] [] := by
  have u : ∀ k, k < 9 → nI (9 * n) + nI k = nI (9 * n + k) ∧ (nI (9 * n + k)).toNatClampNeg = 9 * n + k ∧ ab_inB (nI (9 * n + k)) 74 = true := fun k hk => ⟨nI_add _ _, nI_clamp (by omega), ib_nI (by omega) (by decide)⟩
  obtain ⟨u4, v4, w4⟩ := u 4 (by decide)
  obtain ⟨u5, v5, w5⟩ := u 5 (by decide)
  obtain ⟨u6, v6, w6⟩ := u 6 (by decide)
  obtain ⟨u7, v7, w7⟩ := u 7 (by decide)
  obtain ⟨u8, v8, w8⟩ := u 8 (by decide)
  unfold rWr at *
  rw [q130_104]
  simp only [q130_0, q130_1, q130_4, q130_6, q130_7, q130_9, q130_12, q130_13, q130_14, q130_17, q130_18, q130_19, q130_22, q130_24, q130_25, q130_28, q130_30, q130_31, q130_32, q130_33, q130_34, q130_37, q130_38, q130_39, q130_40, q130_41, q130_42, q130_45, q130_48, q130_49, q130_50, q130_53, q130_54, q130_55, q130_56, q130_57, q130_58, q130_61, q130_62, q130_63, q130_64, q130_65, q130_66, q130_67, q130_70, q130_73, q130_74, q130_75, q130_78, q130_79, q130_80, q130_81, q130_82, q130_83, q130_85, q130_88, q130_89, q130_90, q130_93, q130_94, q130_95, q130_96, q130_97, q130_98, q130_100, q130_103, q130_105, q130_108, q130_109, q130_110, q130_111, q130_114, q130_115, q130_116, q130_119, q130_120, q130_121, q130_122, q130_123, q130_124, q130_125, q130_128, q130_129, q130_131, q130_132, q130_133, q130_134, q130_135, q130_138, q130_139, q130_141, q130_142, q130_143, q130_144, q130_145, q130_148, q130_149, q130_151, q130_152, q130_153, q130_154, q130_155, q130_156, q130_157, q130_160, q130_162, q130_165, q130_168, q130_169, q130_170, q130_173, q130_174, q130_175, q130_176, q130_177, q130_178, q130_179, q130_182, q130_183, q130_184, q130_187, q130_188, q130_189, q130_190, q130_191, q130_192, q130_193, q130_194, q130_195, q130_196, q130_199, q130_200, q130_203, q130_204, q130_207, q130_208, q130_211, q130_213, q130_214, q130_215, q130_216, q130_217, q130_218, n10, n01, Bool.false_eq_true, ab_bs, ab_bn, ab_pr0, ab_pr1, nl_n, nl_i, nl_r, nl_j, nl_nl, rc_123, gf_123_0, gf_123_1, pt_123_1, gf_123_2, pt_123_2, gf_123_3, pt_123_3, gf_123_4, pt_123_4, gf_123_5, pt_123_5, gf_123_6, pt_123_6, gf_123_7, pt_123_7, gf_123_8, pt_123_8, gf_123_9, gf_123_10, gf_123_11, gf_123_12, gf_123_13, pt_123_13_0, pt_123_13_1, gf_123_14, pt_123_14_0, pt_123_14_1, gf_123_15, gf_123_16, gf_123_17, gf_123_18, gf_123_19, gf_123_20, gf_123_21, gf_123_22, gf_123_23, gf_123_24, gf_123_25, pt_123_25, gf_123_26, gf_123_27, pt_123_27, gf_123_28, pt_123_28, gf_123_29, gf_123_30, pt_123_30, gf_123_31, pt_123_31, gf_123_32, pt_123_32, gf_123_33, pt_123_33, gf_123_34, pt_123_34_0, pt_123_34_1, gf_123_35, gf_123_36, gf_123_37, gf_123_38, pt_123_38, gf_123_39, pt_123_39, gf_123_40, pt_123_40, gf_123_41, gf_123_42, gf_123_43, gf_123_44, gf_123_45, gf_123_46, gf_123_47, pt_123_47, ln_128, al_128, si_128, (show (4 : Int32) = nI 4 from rfl), (show (5 : Int32) = nI 5 from rfl), (show (6 : Int32) = nI 6 from rfl), (show (7 : Int32) = nI 7 from rfl), (show (8 : Int32) = nI 8 from rfl), u4, v4, w4, u5, v5, w5, u6, v6, w6, u7, v7, w7, u8, v8, w8, if_true, hv]
theorem rWr_at {n : Nat} {N : ab_M} {j : Nat} : rWr n N 128 j = if j = 9 * n + 4 then 999 else if j = 9 * n + 5 then 1 else if 9 * n + 6 ≤ j ∧ j ≤ 9 * n + 8 then 0 else N 128 j := by
  unfold rWr ab_up
  by_cases e8 : j = 9 * n + 8
  · rw [if_pos ⟨rfl, e8⟩, if_neg (by omega), if_neg (by omega), if_pos (by omega)]
  · by_cases e7 : j = 9 * n + 7
    · rw [if_neg (fun q => e8 q.2), if_pos ⟨rfl, e7⟩, if_neg (by omega), if_neg (by omega), if_pos (by omega)]
    · by_cases e6 : j = 9 * n + 6
      · rw [if_neg (fun q => e8 q.2), if_neg (fun q => e7 q.2), if_pos ⟨rfl, e6⟩, if_neg (by omega), if_neg (by omega), if_pos (by omega)]
      · by_cases e5 : j = 9 * n + 5
        · rw [if_neg (fun q => e8 q.2), if_neg (fun q => e7 q.2), if_neg (fun q => e6 q.2), if_pos ⟨rfl, e5⟩, if_neg (by omega), if_pos e5]
        · by_cases e4 : j = 9 * n + 4
          · rw [if_neg (fun q => e8 q.2), if_neg (fun q => e7 q.2), if_neg (fun q => e6 q.2), if_neg (fun q => e5 q.2), if_pos ⟨rfl, e4⟩, if_pos e4]
          · rw [if_neg (fun q => e8 q.2), if_neg (fun q => e7 q.2), if_neg (fun q => e6 q.2), if_neg (fun q => e5 q.2), if_neg (fun q => e4 q.2), if_neg e4, if_neg e5, if_neg (by omega)]
/-- the page with one more -/
theorem TX_one {n : Nat} {S N S2 N2 : ab_M} {v : Nat → Nat} (hX : TX n n S N) (hn : n < 8) (fc : cOn n (addC n S) S2) (fr : rOn n N N2) (pv : ∀ u, u < 4 → S2 (6 + u) n = nI (v u) ∧ N2 128 (9 * n + u) = nI (v u) ∧ lwN u (v 0) ≤ v u ∧ v u ≤ hwN u) : TX (n + 1) n S2 (rWr n N2) := by
  obtain ⟨⟨a1, a2, a3, a4, a5, a6, a7⟩, b, c, d, e, f⟩ := hX
  have y4 : ∀ j, j ≠ 3 → S2 4 j = S 4 j := fun j hj => by
    rw [fc _ _ (by omega) (by omega) (by omega)]
    unfold addC
    rw [if_neg (by omega), if_neg (by omega)]
  have y43 : S2 4 3 = nI (n + 1) := by
    rw [fc _ _ (by omega) (by omega) (by omega)]
    unfold addC
    rw [if_neg (by omega), if_pos ⟨rfl, rfl⟩]
  have y6 : ∀ w p, w < 9 → p ≠ n → S2 (6 + w) p = S (6 + w) p := fun w p hw hp => by
    rw [fc _ _ (by omega) (by omega) (by omega)]
    unfold addC
    rw [if_neg (by omega), if_neg (by omega)]
  have yn : ∀ w, 4 ≤ w → w < 9 → S2 (6 + w) n = if w = 4 then 999 else if w = 5 then 1 else 0 := fun w h4 hw => by
    rw [fc _ _ (by omega) (by omega) (by omega)]
    unfold addC
    rw [if_pos (by omega)]
    have : w = 4 ∨ w = 5 ∨ w = 6 ∨ w = 7 ∨ w = 8 := by omega
    rcases this with rfl | rfl | rfl | rfl | rfl <;> rfl
  have y3 : S2 3 4 = S 3 4 := by
    rw [fc _ _ (by omega) (by omega) (by omega)]
    unfold addC
    rw [if_neg (by omega), if_neg (by omega)]
  have p0 := pv 0 (by decide)
  have p1 := pv 1 (by decide)
  have p2 := pv 2 (by decide)
  have p3 := pv 3 (by decide)
  have h0 : hwN 0 = 239 ∧ hwN 1 = 240 ∧ hwN 2 = 99 ∧ hwN 3 = 99 := by decide
  have l1 : lwN 1 (v 0) = v 0 + 1 ∧ lwN 2 (v 0) = 1 ∧ lwN 3 (v 0) = 1 := ⟨rfl, rfl, rfl⟩
  refine ⟨⟨by omega, a2, y43, by rw [y4 5 (by decide), a4], by rw [y4 4 (by decide)]; exact a5, fun p hp => ?_, fun i hi => absurd hi (by omega)⟩, by rw [rWr_at, if_neg (by omega), if_neg (by omega), if_neg (by omega), fr _ _ (by omega) (by omega), b], by rw [rWr_at, if_neg (by omega), if_neg (by omega), if_neg (by omega), fr _ _ (by omega) (by omega), y4 4 (by decide), c], fun w hw p hp => ?_, by rw [y3, rWr_d _ _ (by decide), fr _ _ (by omega) (by omega), e], by rw [y3]; exact f⟩
  · by_cases x : p = n
    · subst x
      refine ⟨⟨v 0, v 1, by omega, by omega, p0.1, p1.1⟩, ⟨v 2, by omega, by omega, p2.1⟩, ⟨v 3, by omega, by omega, p3.1⟩, ⟨999, by decide, by rw [yn 4 (by decide) (by decide)]; rfl⟩, ⟨1, by decide, by rw [yn 5 (by decide) (by decide)]; rfl⟩, ⟨0, by decide, by rw [yn 6 (by decide) (by decide)]; rfl⟩, ?_, ?_⟩
      · rw [yn 7 (by decide) (by decide)]
        decide
      · rw [yn 7 (by decide) (by decide)]
        decide
    · have := a6 p (by omega)
      unfold fok at this ⊢
      rw [show (6 : Nat) = 6 + 0 from rfl, y6 0 p (by decide) x, y6 1 p (by decide) x, y6 2 p (by decide) x, y6 3 p (by decide) x, y6 4 p (by decide) x, y6 5 p (by decide) x, y6 6 p (by decide) x, y6 7 p (by decide) x]
      exact this
  · by_cases x : p = n
    · subst x
      by_cases h4 : w < 4
      · rw [rWr_at, if_neg (by omega), if_neg (by omega), if_neg (by omega), (pv w h4).1, (pv w h4).2.1]
      · rw [yn w (by omega) hw, rWr_at]
        have : w = 4 ∨ w = 5 ∨ w = 6 ∨ w = 7 ∨ w = 8 := by omega
        rcases this with rfl | rfl | rfl | rfl | rfl
        · rw [if_pos rfl, if_pos rfl]
        · rw [if_neg (by omega), if_pos rfl]
          rfl
        · rw [if_neg (by omega), if_neg (by omega), if_pos (by omega)]
          rfl
        · rw [if_neg (by omega), if_neg (by omega), if_pos (by omega)]
          rfl
        · rw [if_neg (by omega), if_neg (by omega), if_pos (by omega)]
          rfl
    · rw [rWr_at, if_neg (by omega), if_neg (by omega), if_neg (by omega), fr _ _ (by omega) (by omega), y6 w p hw x]
      exact d w hw p (by omega)
theorem addC_cl {n : Nat} {S : ab_M} : clE S (addC n S) := ⟨fun c j h => by unfold addC; rw [if_neg (by omega), if_neg (by omega)], by unfold addC; rw [if_neg (by omega), if_neg (by omega)], fun j => by unfold addC; rw [if_neg (by omega), if_neg (by omega)]⟩
theorem one_both {S N : ab_M} {s a e k : Nat} (hC : TC B L S) (hR : TR B L N) (hT : CT N) (hP : TP B L s a e) (hS : SP B L a e S) (hN : NP B L a e N) (h1 : kd B L a e = 1) (hX : TX k k S N) : (∃ S' N' s' a' e', ab_res scr 61 8 S 12 [some (.ref 3)] [] = some (S', some (.int 1)) ∧ ab_ms scr 130 [.ref 123] N = some (N', none) ∧ e ≤ s' ∧ S' 3 2 = S 3 2 ∧ TP B L s' a' e' ∧ SP B L a' e' S' ∧ NP B L a' e' N' ∧ kd B L a' e' = 3 ∧ TX (k + 1) (k + 1) S' N' ∧ clE S S' ∧ rfE N N') ∨ (∃ S' N', ab_res scr 61 8 S 12 [some (.ref 3)] [] = some (S', some (.int 0)) ∧ ab_ms scr 130 [.ref 123] N = some (N', none) ∧ LF scr B L S' N' ∧ clE S S' ∧ rfE N N') := by
  obtain ⟨m1, m2⟩ := hN.2.2.1 (by omega)
  have hk8 : k ≤ 8 := hX.1.1
  have c43 : S 4 3 = nI k := hX.1.2.2.1
  have n72 : N 128 72 = nI k := hX.2.1
  have z72 : (72 : Int32).toNatClampNeg = 72 := by decide
  have i72 : ab_inB 72 74 = true := by decide
  have he := hP.2.2.1
  have hae := hP.2.1
  by_cases k8 : k = 8
  · right
    subst k8
    have f := sp_fails (scr := scr) (N := N) (c := 5)
    rw [if_pos m1] at f
    have f : ab_ms scr 125 [.ref 123, .int 5] N = some (ab_up (ab_up N 123 3 (nI 5)) 123 4 (N 123 6), none) := f
    have hF := ref_FT (f := 5) (by decide) (by decide) hS hN (by omega)
    have hD := DN_up (B := B) (f := 5) (v := N 123 6) hae he hN (by decide) (by decide)
    have hr := up_rfF (N := N) (f := nI 5) (v := N 123 6)
    refine ⟨ab_up (ab_up S 3 2 (nI 5)) 3 3 (S 1 4), ab_up (ab_up N 123 3 (nI 5)) 123 4 (N 123 6), ?_, ?_, LF_dead hF ⟨TR_rfF hR hr, CT_rfE hT (rfE_rf hr), hD⟩, clE_cl up_clF, rfE_rf hr⟩
    · have x : ab_ms scr 62 [.ref 3] S = some (ab_up (ab_up S 3 2 (nI 5)) 3 3 (S 1 4), some (.int 0)) := by
        rw [ms62]
        simp only [q62_0, q62_1, q62_4, q62_7, q62_9, q62_12, q62_13, q62_14, q62_17, q62_18, q62_19, q62_22, q62_25, q62_26, q62_27, q62_29, q62_30, q62_33, q62_34, q62_35, q62_38, q62_39, q62_42, q62_45, q62_46, q62_47, q62_48, q62_49, q62_50, q62_51, q62_54, q62_57, q62_58, q62_59, q62_60, q62_61, q62_62, q62_65, q62_66, q62_67, q62_70, q62_73, q62_74, q62_75, q62_76, q62_79, q62_82, q62_83, q62_84, q62_85, q62_86, q62_89, q62_92, q62_93, q62_96, q62_99, q62_100, n10, n01, Bool.false_eq_true, ab_bs, ab_bn, ab_pr0, ab_pr1, nl_n, nl_i, nl_r, nl_j, nl_nl, rc_3, gf_3_0, gf_3_1, gf_3_2, pt_3_2, gf_3_3, pt_3_3, gf_3_4, pt_3_4_0, pt_3_4_1, rc_4, gf_4_0, gf_4_1, gf_4_2, gf_4_3, pt_4_3, gf_4_4, pt_4_4, gf_4_5, pt_4_5, c43, (show ¬ nI 8 < 8 by decide), if_false, sp_refuse, narrow_b0]
        rfl
      rw [q61_12]
      simp only [q61_0, q61_1, q61_4, q61_6, q61_9, q61_13, q61_16, q61_19, q61_20, q61_21, q61_24, q61_27, q61_28, q61_29, q61_32, q61_35, q61_36, q61_39, q61_40, q61_41, q61_42, q61_45, q61_47, q61_50, q61_53, q61_54, q61_57, q61_58, q61_59, q61_62, n10, n01, Bool.false_eq_true, ab_bs, ab_bn, ab_pr0, ab_pr1, nl_n, nl_i, nl_r, nl_j, nl_nl, rc_3, gf_3_0, gf_3_1, gf_3_2, pt_3_2, gf_3_3, pt_3_3, gf_3_4, pt_3_4_0, pt_3_4_1, x, if_true, narrow_b0]
    · rw [ms130]
      simp only [q130_0, q130_1, q130_4, q130_6, q130_7, q130_9, q130_12, q130_13, q130_14, q130_17, q130_18, q130_19, q130_22, q130_24, q130_25, q130_28, q130_30, q130_31, q130_32, q130_34, q130_37, q130_38, q130_39, q130_40, q130_41, q130_42, q130_45, q130_48, q130_49, q130_50, q130_53, q130_54, q130_55, q130_56, q130_57, q130_58, q130_61, q130_62, q130_63, q130_64, q130_65, q130_66, q130_67, q130_70, q130_73, q130_74, q130_75, q130_78, q130_79, q130_80, q130_81, q130_82, q130_83, q130_85, q130_88, q130_89, q130_90, q130_93, q130_94, q130_95, q130_96, q130_97, q130_98, q130_100, q130_103, q130_104, q130_105, q130_108, q130_109, q130_110, q130_111, q130_114, q130_115, q130_116, q130_119, q130_120, q130_121, q130_122, q130_123, q130_124, q130_125, q130_128, q130_129, q130_131, q130_132, q130_133, q130_134, q130_135, q130_138, q130_139, q130_141, q130_142, q130_143, q130_144, q130_145, q130_148, q130_149, q130_151, q130_152, q130_153, q130_154, q130_155, q130_156, q130_157, q130_160, q130_162, q130_165, q130_168, q130_169, q130_170, q130_173, q130_174, q130_175, q130_176, q130_177, q130_178, q130_179, q130_182, q130_183, q130_184, q130_187, q130_188, q130_189, q130_190, q130_191, q130_192, q130_193, q130_194, q130_195, q130_196, q130_199, q130_200, q130_203, q130_204, q130_207, q130_208, q130_211, q130_213, q130_214, q130_215, q130_216, q130_217, q130_218, n10, n01, Bool.false_eq_true, ab_bs, ab_bn, ab_pr0, ab_pr1, nl_n, nl_i, nl_r, nl_j, nl_nl, rc_123, gf_123_0, gf_123_1, pt_123_1, gf_123_2, pt_123_2, gf_123_3, pt_123_3, gf_123_4, pt_123_4, gf_123_5, pt_123_5, gf_123_6, pt_123_6, gf_123_7, pt_123_7, gf_123_8, pt_123_8, gf_123_9, gf_123_10, gf_123_11, gf_123_12, gf_123_13, pt_123_13_0, pt_123_13_1, gf_123_14, pt_123_14_0, pt_123_14_1, gf_123_15, gf_123_16, gf_123_17, gf_123_18, gf_123_19, gf_123_20, gf_123_21, gf_123_22, gf_123_23, gf_123_24, gf_123_25, pt_123_25, gf_123_26, gf_123_27, pt_123_27, gf_123_28, pt_123_28, gf_123_29, gf_123_30, pt_123_30, gf_123_31, pt_123_31, gf_123_32, pt_123_32, gf_123_33, pt_123_33, gf_123_34, pt_123_34_0, pt_123_34_1, gf_123_35, gf_123_36, gf_123_37, gf_123_38, pt_123_38, gf_123_39, pt_123_39, gf_123_40, pt_123_40, gf_123_41, gf_123_42, gf_123_43, gf_123_44, gf_123_45, gf_123_46, gf_123_47, pt_123_47, ln_128, al_128, si_128, i72, z72, if_true, n72, (show nI 8 = 8 from rfl), not_true, if_false, f]
  · have hk : k < 8 := by omega
    obtain ⟨N1, a1, e1, r1, r2, r3, r4⟩ := tk_r (scr := scr) hR m1 hN.1 he
    have hR1 := TR_rfF hR r2
    have hT1 := CT_rfE hT (rfE_rf r2)
    have hC1 : TC B L (addC k S) := TC_clE hC addC_cl
    have ha := sp_add (scr := scr) hk c43
    have s12 : addC k S 1 2 = nI e := by
      unfold addC
      rw [if_neg (by omega), if_neg (by omega)]
      exact hS.1
    have x8 : nI k < 8 := nI_lt (a := k) (b := 8) hk (by decide)
    have x9 : ¬ nI k = 8 := fun q => k8 ((nI_eq (a := k) (b := 8) (by omega) (by decide)).mp q)
    have ce : ab_ms scr 62 [.ref 3] S = ab_res scr 62 5 (addC k S) 28 [some (.ref 3), some (.int (nI k)), some (.int (nI 0)), none] [] := by
      rw [ms62]
      simp only [q62_0, q62_1, q62_4, q62_7, q62_9, q62_12, q62_13, q62_14, q62_17, q62_18, q62_19, q62_22, q62_25, q62_26, q62_27, q62_29, q62_30, q62_33, q62_34, q62_35, q62_38, q62_39, q62_42, q62_45, q62_46, q62_47, q62_48, q62_49, q62_50, q62_51, q62_54, q62_57, q62_58, q62_59, q62_60, q62_61, q62_62, q62_65, q62_66, q62_67, q62_70, q62_73, q62_74, q62_75, q62_76, q62_79, q62_82, q62_83, q62_84, q62_85, q62_86, q62_89, q62_92, q62_93, q62_96, q62_99, q62_100, n10, n01, Bool.false_eq_true, ab_bs, ab_bn, ab_pr0, ab_pr1, nl_n, nl_i, nl_r, nl_j, nl_nl, rc_3, gf_3_0, gf_3_1, gf_3_2, pt_3_2, gf_3_3, pt_3_3, gf_3_4, pt_3_4_0, pt_3_4_1, rc_4, gf_4_0, gf_4_1, gf_4_2, gf_4_3, pt_4_3, gf_4_4, pt_4_4, gf_4_5, pt_4_5, c43, x8, if_true, ha]
      rfl
    have n72' : N1 128 72 = nI k := by rw [r2 _ _ (by omega), n72]
    have re : ab_ms scr 130 [.ref 123] N = ab_res scr 130 5 N1 33 [some (.ref 123), some (.int (nI (9 * k))), none, none] [] := by
      rw [ms130]
      simp only [q130_0, q130_1, q130_4, q130_6, q130_7, q130_9, q130_12, q130_13, q130_14, q130_17, q130_18, q130_19, q130_22, q130_24, q130_25, q130_28, q130_30, q130_31, q130_32, q130_34, q130_37, q130_38, q130_39, q130_40, q130_41, q130_42, q130_45, q130_48, q130_49, q130_50, q130_53, q130_54, q130_55, q130_56, q130_57, q130_58, q130_61, q130_62, q130_63, q130_64, q130_65, q130_66, q130_67, q130_70, q130_73, q130_74, q130_75, q130_78, q130_79, q130_80, q130_81, q130_82, q130_83, q130_85, q130_88, q130_89, q130_90, q130_93, q130_94, q130_95, q130_96, q130_97, q130_98, q130_100, q130_103, q130_104, q130_105, q130_108, q130_109, q130_110, q130_111, q130_114, q130_115, q130_116, q130_119, q130_120, q130_121, q130_122, q130_123, q130_124, q130_125, q130_128, q130_129, q130_131, q130_132, q130_133, q130_134, q130_135, q130_138, q130_139, q130_141, q130_142, q130_143, q130_144, q130_145, q130_148, q130_149, q130_151, q130_152, q130_153, q130_154, q130_155, q130_156, q130_157, q130_160, q130_162, q130_165, q130_168, q130_169, q130_170, q130_173, q130_174, q130_175, q130_176, q130_177, q130_178, q130_179, q130_182, q130_183, q130_184, q130_187, q130_188, q130_189, q130_190, q130_191, q130_192, q130_193, q130_194, q130_195, q130_196, q130_199, q130_200, q130_203, q130_204, q130_207, q130_208, q130_211, q130_213, q130_214, q130_215, q130_216, q130_217, q130_218, n10, n01, Bool.false_eq_true, ab_bs, ab_bn, ab_pr0, ab_pr1, nl_n, nl_i, nl_r, nl_j, nl_nl, rc_123, gf_123_0, gf_123_1, pt_123_1, gf_123_2, pt_123_2, gf_123_3, pt_123_3, gf_123_4, pt_123_4, gf_123_5, pt_123_5, gf_123_6, pt_123_6, gf_123_7, pt_123_7, gf_123_8, pt_123_8, gf_123_9, gf_123_10, gf_123_11, gf_123_12, gf_123_13, pt_123_13_0, pt_123_13_1, gf_123_14, pt_123_14_0, pt_123_14_1, gf_123_15, gf_123_16, gf_123_17, gf_123_18, gf_123_19, gf_123_20, gf_123_21, gf_123_22, gf_123_23, gf_123_24, gf_123_25, pt_123_25, gf_123_26, gf_123_27, pt_123_27, gf_123_28, pt_123_28, gf_123_29, gf_123_30, pt_123_30, gf_123_31, pt_123_31, gf_123_32, pt_123_32, gf_123_33, pt_123_33, gf_123_34, pt_123_34_0, pt_123_34_1, gf_123_35, gf_123_36, gf_123_37, gf_123_38, pt_123_38, gf_123_39, pt_123_39, gf_123_40, pt_123_40, gf_123_41, gf_123_42, gf_123_43, gf_123_44, gf_123_45, gf_123_46, gf_123_47, pt_123_47, ln_128, al_128, si_128, i72, z72, if_true, n72, n72', x9, not_false_eq_true, r1, n9_m]
    rcases ro_both (scr := scr) hC1 hR1 hT1 hk s12 r3 r4 4 (Nat.le_refl _) with ⟨S2, N2, s2, a2, e2, l3, v, c1, d1, fc, fr, p32, hs, p2, pP, pN, pv⟩ | ⟨S', N', c1, d1, d3, d4, fc, fr⟩
    · have hX2 : TX (k + 1) k S2 (rWr k N2) := TX_one hX hk fc (fun c j x y => by rw [fr c j x y, r2 c j x]) pv
      have f1 : clE S S2 := ⟨fun c j h => by rw [fc _ _ (by omega) (by omega) (by omega)]; exact addC_cl.1 c j h, by rw [fc _ _ (by omega) (by omega) (by omega)]; exact addC_cl.2.1, fun j => by rw [fc _ _ (by omega) (by omega) (by omega)]; exact addC_cl.2.2 j⟩
      have f2 : rfE N (rWr k N2) := rfE_trans (rfE_rf r2) (rfE_trans ⟨fun c j x y => fr c j (by omega) (by omega), fun j x y => fr _ _ (by omega) (by omega)⟩ (rfE_d rWr_d))
      have hC2 := TC_clE hC f1
      have hR2 := TR_rfE hR f2
      have hT2 := CT_rfE hT f2
      have hN2 : NP B L a2 e2 (rWr k N2) := NP_128 (NP_128 (NP_128 (NP_128 (NP_128 pN))))
      obtain ⟨v', hv', hh⟩ := here_np (scr := scr) hR2 hT2 hN2 pP.2.1 pP.2.2.1
      have rr := (re.trans d1).trans (r104 (scr := scr) hk hh)
      have c62 : ab_ms scr 62 [.ref 3] S = some (S2, some (.int 1)) := by
        rw [ce, c1]
        rw [q62_28]
        simp only [q62_0, q62_1, q62_4, q62_7, q62_9, q62_12, q62_13, q62_14, q62_17, q62_18, q62_19, q62_22, q62_25, q62_26, q62_27, q62_29, q62_30, q62_33, q62_34, q62_35, q62_38, q62_39, q62_42, q62_45, q62_46, q62_47, q62_48, q62_49, q62_50, q62_51, q62_54, q62_57, q62_58, q62_59, q62_60, q62_61, q62_62, q62_65, q62_66, q62_67, q62_70, q62_73, q62_74, q62_75, q62_76, q62_79, q62_82, q62_83, q62_84, q62_85, q62_86, q62_89, q62_92, q62_93, q62_96, q62_99, q62_100, n10, n01, Bool.false_eq_true, ab_bs, ab_bn, ab_pr0, ab_pr1, nl_n, nl_i, nl_r, nl_j, nl_nl, (show (3 : Int32) < nI 4 by decide), if_true, narrow_b1]
      have c43' : S2 4 3 = nI (k + 1) := hX2.1.2.2.1
      have st : ∀ o : Option (ab_M × Option Value), ab_res scr 63 7 S2 4 [some (.ref 3), some (.int (nI k)), some (.int (nI (16 * 0))), some (.int (nI 0)), none] [] = o → ab_ms scr 63 [.ref 3, .int (nI k)] S2 = o := fun o h => by
        rw [← h, ms63]
        simp only [q63_0, q63_1, q63_2, q63_3, q63_5, q63_8, q63_11, q63_12, q63_15, q63_18, q63_19, q63_22, q63_25, q63_26, q63_29, q63_30, q63_31, q63_32, q63_35, q63_37, q63_39, q63_41, q63_44, q63_45, q63_48, q63_49, q63_50, q63_52, q63_53, q63_54, q63_55, q63_58, q63_59, q63_60, q63_63, q63_64, q63_65, q63_66, q63_68, q63_69, q63_70, q63_71, q63_73, q63_75, q63_78, q63_79, q63_82, q63_84, q63_85, q63_88, q63_90, q63_91, q63_94, q63_97, q63_98, q63_99, q63_100, q63_103, q63_106, q63_108, q63_109, q63_110, q63_112, q63_114, q63_117, q63_118, q63_121, q63_122, q63_125, q63_128, q63_129, q63_132, q63_135, q63_136, q63_139, n10, n01, Bool.false_eq_true, ab_bs, ab_bn, ab_pr0, ab_pr1, nl_n, nl_i, nl_r, nl_j, nl_nl]
        rfl
      rcases with_both (scr := scr) hk 3 0 0 S2 (rWr k N2) s2 a2 e2 v' none rfl (by decide) (by decide) hC2 hR2 hT2 p2 pP hN2 hv' hX2 with ⟨S', N', s', a', e', y1, y2, y3, y32, y4, y5, y6, y7, y8, y9, y10⟩ | ⟨S', N', y1, y2, y3, y4, y5⟩
      · left
        have y1' := st _ y1
        have y2 : ab_res scr 130 5 (rWr k N2) 161 [some (.ref 123), some (.int (nI (9 * k))), some (.int 0), some (.int v')] [] = some (N', none) := y2
        have hs0 : e ≤ s' := by
          have := r3.1
          omega
        refine ⟨S', N', s', a', e', ?_, rr.trans y2, hs0, by rw [y32, p32]; unfold addC; rw [if_neg (by omega), if_neg (by omega)], y4, y5, y6, y7, y8, clE_trans f1 y9, rfE_trans f2 y10⟩
        rw [q61_12]
        simp only [q61_0, q61_1, q61_4, q61_6, q61_9, q61_13, q61_16, q61_19, q61_20, q61_21, q61_24, q61_27, q61_28, q61_29, q61_32, q61_35, q61_36, q61_39, q61_40, q61_41, q61_42, q61_45, q61_47, q61_50, q61_53, q61_54, q61_57, q61_58, q61_59, q61_62, n10, n01, Bool.false_eq_true, ab_bs, ab_bn, ab_pr0, ab_pr1, nl_n, nl_i, nl_r, nl_j, nl_nl, rc_3, gf_3_0, gf_3_1, gf_3_2, pt_3_2, gf_3_3, pt_3_3, gf_3_4, pt_3_4_0, pt_3_4_1, rc_4, gf_4_0, gf_4_1, gf_4_2, gf_4_3, pt_4_3, gf_4_4, pt_4_4, gf_4_5, pt_4_5, c62, (show ¬ (1 : Int32) = 0 by decide), if_false, c43', nI_pred, y1', narrow_b1]
      · right
        have y1' := st _ y1
        have y2 : ab_res scr 130 5 (rWr k N2) 161 [some (.ref 123), some (.int (nI (9 * k))), some (.int 0), some (.int v')] [] = some (N', none) := y2
        refine ⟨S', N', ?_, rr.trans y2, y3, clE_trans f1 y4, rfE_trans f2 y5⟩
        rw [q61_12]
        simp only [q61_0, q61_1, q61_4, q61_6, q61_9, q61_13, q61_16, q61_19, q61_20, q61_21, q61_24, q61_27, q61_28, q61_29, q61_32, q61_35, q61_36, q61_39, q61_40, q61_41, q61_42, q61_45, q61_47, q61_50, q61_53, q61_54, q61_57, q61_58, q61_59, q61_62, n10, n01, Bool.false_eq_true, ab_bs, ab_bn, ab_pr0, ab_pr1, nl_n, nl_i, nl_r, nl_j, nl_nl, rc_3, gf_3_0, gf_3_1, gf_3_2, pt_3_2, gf_3_3, pt_3_3, gf_3_4, pt_3_4_0, pt_3_4_1, rc_4, gf_4_0, gf_4_1, gf_4_2, gf_4_3, pt_4_3, gf_4_4, pt_4_4, gf_4_5, pt_4_5, c62, (show ¬ (1 : Int32) = 0 by decide), if_false, c43', nI_pred, y1', if_true, narrow_b0]
    · right
      have f1 : clE S S' := clE_trans addC_cl ⟨fun c j h => fc _ _ (by omega) (by omega) (by omega), fc _ _ (by omega) (by omega) (by omega), fun j => fc _ _ (by omega) (by omega) (by omega)⟩
      have f2 : rfE N N' := rfE_trans (rfE_rf r2) ⟨fun c j x y => fr c j (by omega) y, fun j x y => fr _ _ (by omega) (by decide)⟩
      have c62 := ce.trans c1
      refine ⟨S', N', ?_, re.trans d1, LF_dead d3 d4, f1, f2⟩
      rw [q61_12]
      simp only [q61_0, q61_1, q61_4, q61_6, q61_9, q61_13, q61_16, q61_19, q61_20, q61_21, q61_24, q61_27, q61_28, q61_29, q61_32, q61_35, q61_36, q61_39, q61_40, q61_41, q61_42, q61_45, q61_47, q61_50, q61_53, q61_54, q61_57, q61_58, q61_59, q61_62, n10, n01, Bool.false_eq_true, ab_bs, ab_bn, ab_pr0, ab_pr1, nl_n, nl_i, nl_r, nl_j, nl_nl, rc_3, gf_3_0, gf_3_1, gf_3_2, pt_3_2, gf_3_3, pt_3_3, gf_3_4, pt_3_4_0, pt_3_4_1, c62, if_true, narrow_b0]
end
