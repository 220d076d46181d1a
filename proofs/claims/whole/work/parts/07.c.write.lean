/-! the reference: what is written, rows at once -/
def rs (n : Nat) (F : Nat → Nat → Int32) (B : ab_M) : ab_M := fun c j => if 129 ≤ c ∧ c ≤ 139 ∧ j < n then F c j else B c j
theorem rs_0 (F : Nat → Nat → Int32) (B : ab_M) : rs 0 F B = B := by
  funext c j
  unfold rs
  rw [if_neg (by omega)]
theorem rs_lo {n : Nat} {F : Nat → Nat → Int32} {B : ab_M} {c j : Nat} (h : c < 129) : rs n F B c j = B c j := by
  unfold rs
  rw [if_neg (by omega)]
theorem rs_hi {n : Nat} {F : Nat → Nat → Int32} {B : ab_M} {c j : Nat} (h : 139 < c) : rs n F B c j = B c j := by
  unfold rs
  rw [if_neg (by omega)]
theorem rs_ge {n : Nat} {F : Nat → Nat → Int32} {B : ab_M} {c j : Nat} (h : n ≤ j) : rs n F B c j = B c j := by
  unfold rs
  rw [if_neg (by omega)]
theorem rs_k {n : Nat} {F : Nat → Nat → Int32} {B : ab_M} {c : Nat} : rs n F B c n = B c n := rs_ge (Nat.le_refl _)
theorem rs_i {n : Nat} {F : Nat → Nat → Int32} {B : ab_M} {c j : Nat} (h1 : 129 ≤ c) (h2 : c ≤ 139) (h : j < n) : rs n F B c j = F c j := by
  unfold rs
  rw [if_pos ⟨h1, h2, h⟩]
theorem rs_ext {n : Nat} {F : Nat → Nat → Int32} {B W : ab_M} (h1 : ∀ c j, 129 ≤ c → c ≤ 139 → j < n → W c j = F c j) (h2 : ∀ c j, ¬ (129 ≤ c ∧ c ≤ 139 ∧ j < n) → W c j = B c j) : W = rs n F B := by
  funext c j
  unfold rs
  by_cases h : 129 ≤ c ∧ c ≤ 139 ∧ j < n
  · rw [if_pos h, h1 c j h.1 h.2.1 h.2.2]
  · rw [if_neg h, h2 c j h]
theorem rs_step {n : Nat} {F : Nat → Nat → Int32} {B W : ab_M} (h1 : ∀ c j, ¬ (129 ≤ c ∧ c ≤ 139 ∧ j = n) → W c j = rs n F B c j) (h2 : ∀ c, 129 ≤ c → c ≤ 139 → W c n = F c n) : W = rs (n + 1) F B := by
  refine rs_ext (fun c j q1 q2 hj => ?_) (fun c j hc => ?_)
  · by_cases h : j = n
    · subst h
      exact h2 c q1 q2
    · rw [h1 _ _ (by omega), rs_i q1 q2 (by omega)]
  · rw [h1 _ _ (by omega)]
    unfold rs
    rw [if_neg (by omega)]
theorem c11 {c : Nat} (h1 : 129 ≤ c) (h2 : c ≤ 139) : c = 129 ∨ c = 130 ∨ c = 131 ∨ c = 132 ∨ c = 133 ∨ c = 134 ∨ c = 135 ∨ c = 136 ∨ c = 137 ∨ c = 138 ∨ c = 139 := by omega
/-! fresh -/
def fr0 (seed : Int32) (M : ab_M) : ab_M := ab_up (ab_up (ab_up M 123 25 7) 123 27 0) 123 28 seed
def frF (n : Nat) (M : ab_M) (c j : Nat) : Int32 := if c = 139 then 0 else if c = 138 then (if j < n then M 127 (9 * j + 7) else 0) else M c j
theorem fr0_n {seed : Int32} {M : ab_M} {c j : Nat} (h : c ≠ 123) : fr0 seed M c j = M c j := by
  unfold fr0
  rw [up_n h, up_n h, up_n h]
theorem rp_fresh {scr : Option (List Int32)} (M : ab_M) (n : Nat) (hn : n ≤ 8) (hM : M 127 72 = nI n) (seed : Int32) : ab_ms scr 139 [.ref 123, .int seed] M = some (rs 8 (frF n M) (fr0 seed M), none) := by
  rw [ms139]
  simp only [q139_0, q139_1, q139_3, q139_6, q139_7, q139_8, q139_11, q139_12, q139_13, q139_16, q139_17, q139_19, q139_21, q139_24, q139_25, q139_28, q139_29, q139_30, q139_31, q139_32, q139_35, q139_36, q139_37, q139_38, q139_41, q139_43, q139_44, q139_47, q139_48, q139_49, q139_51, q139_54, q139_57, q139_58, q139_59, q139_62, q139_65, n10, n01, Bool.false_eq_true, ab_bs, ab_bn, ab_pr0, ab_pr1, nl_n, nl_i, nl_r, nl_j, nl_nl, rc_123, gf_123_0, gf_123_1, pt_123_1, gf_123_2, pt_123_2, gf_123_3, pt_123_3, gf_123_4, pt_123_4, gf_123_5, pt_123_5, gf_123_6, pt_123_6, gf_123_7, pt_123_7, gf_123_8, pt_123_8, gf_123_9, gf_123_10, gf_123_11, gf_123_12, gf_123_13, pt_123_13_0, pt_123_13_1, gf_123_14, pt_123_14_0, pt_123_14_1, gf_123_15, gf_123_16, gf_123_17, gf_123_18, gf_123_19, gf_123_20, gf_123_21, gf_123_22, gf_123_23, gf_123_24, gf_123_25, pt_123_25, gf_123_26, gf_123_27, pt_123_27, gf_123_28, pt_123_28, gf_123_29, gf_123_30, pt_123_30, gf_123_31, pt_123_31, gf_123_32, pt_123_32, gf_123_33, pt_123_33, gf_123_34, pt_123_34_0, pt_123_34_1, gf_123_35, gf_123_36, gf_123_37, gf_123_38, pt_123_38, gf_123_39, pt_123_39, gf_123_40, pt_123_40, gf_123_41, gf_123_42, gf_123_43, gf_123_44, gf_123_45, gf_123_46, gf_123_47, pt_123_47]
  refine Eq.trans ?_ ((rn (fun k => ab_res scr 139 2 (rs k (frF n M) (fr0 seed M)) 18 [some (.ref 123), some (.int seed), some (.int (nI k))] []) (8) (fun k hk => ?_)).trans ?_)
  · rw [rs_0]
    rfl
  · have h1 : ¬ (8 : Int32) ≤ nI k := nI_ge (b := 8) hk (by omega)
    have h3 : k < 8 := by omega
    have h2 : k < 2 ^ 31 := by omega
    have h4 : ∀ c j, c < 129 → c ≠ 123 → rs k (frF n M) (fr0 seed M) c j = M c j := fun c j h h' => by rw [rs_lo h, fr0_n h']
    have hb : ∀ c, rs k (frF n M) (fr0 seed M) c k = fr0 seed M c k := fun c => rs_k
    by_cases hkn : k < n
    · have h5 : ¬ nI n ≤ nI k := nI_ge hkn (by omega)
      rw [q139_18]
      simp only [q139_0, q139_1, q139_3, q139_6, q139_7, q139_8, q139_11, q139_12, q139_13, q139_16, q139_17, q139_19, q139_21, q139_24, q139_25, q139_28, q139_29, q139_30, q139_31, q139_32, q139_35, q139_36, q139_37, q139_38, q139_41, q139_43, q139_44, q139_47, q139_48, q139_49, q139_51, q139_54, q139_57, q139_58, q139_59, q139_62, q139_65, n10, n01, Bool.false_eq_true, ab_bs, ab_bn, ab_pr0, ab_pr1, nl_n, nl_i, nl_r, nl_j, nl_nl, rc_123, gf_123_0, gf_123_1, pt_123_1, gf_123_2, pt_123_2, gf_123_3, pt_123_3, gf_123_4, pt_123_4, gf_123_5, pt_123_5, gf_123_6, pt_123_6, gf_123_7, pt_123_7, gf_123_8, pt_123_8, gf_123_9, gf_123_10, gf_123_11, gf_123_12, gf_123_13, pt_123_13_0, pt_123_13_1, gf_123_14, pt_123_14_0, pt_123_14_1, gf_123_15, gf_123_16, gf_123_17, gf_123_18, gf_123_19, gf_123_20, gf_123_21, gf_123_22, gf_123_23, gf_123_24, gf_123_25, pt_123_25, gf_123_26, gf_123_27, pt_123_27, gf_123_28, pt_123_28, gf_123_29, gf_123_30, pt_123_30, gf_123_31, pt_123_31, gf_123_32, pt_123_32, gf_123_33, pt_123_33, gf_123_34, pt_123_34_0, pt_123_34_1, gf_123_35, gf_123_36, gf_123_37, gf_123_38, pt_123_38, gf_123_39, pt_123_39, gf_123_40, pt_123_40, gf_123_41, gf_123_42, gf_123_43, gf_123_44, gf_123_45, gf_123_46, gf_123_47, pt_123_47, ln_138, al_138, si_138, ln_139, al_139, si_139, h1, if_false, if_true, ib8 h3, nI_clamp h2, r72, up_n (show 127 ≠ 139 by decide), h4 127 _ (by decide) (by decide), hM, h5, its7 _ _ h3, nI_succ]
      congr 1
      refine rs_step (fun c j h => ?_) (fun c q1 q2 => ?_)
      · rw [up_o _ _ _ _ _ _ (by omega), up_o _ _ _ _ _ _ (by omega)]
      · rcases c11 q1 q2 with rfl | rfl | rfl | rfl | rfl | rfl | rfl | rfl | rfl | rfl | rfl <;> simp [ab_up, rs_k, frF, hkn, fr0]
    · have h5 : nI n ≤ nI k := nI_le (by omega) (by omega)
      rw [q139_18]
      simp only [q139_0, q139_1, q139_3, q139_6, q139_7, q139_8, q139_11, q139_12, q139_13, q139_16, q139_17, q139_19, q139_21, q139_24, q139_25, q139_28, q139_29, q139_30, q139_31, q139_32, q139_35, q139_36, q139_37, q139_38, q139_41, q139_43, q139_44, q139_47, q139_48, q139_49, q139_51, q139_54, q139_57, q139_58, q139_59, q139_62, q139_65, n10, n01, Bool.false_eq_true, ab_bs, ab_bn, ab_pr0, ab_pr1, nl_n, nl_i, nl_r, nl_j, nl_nl, rc_123, gf_123_0, gf_123_1, pt_123_1, gf_123_2, pt_123_2, gf_123_3, pt_123_3, gf_123_4, pt_123_4, gf_123_5, pt_123_5, gf_123_6, pt_123_6, gf_123_7, pt_123_7, gf_123_8, pt_123_8, gf_123_9, gf_123_10, gf_123_11, gf_123_12, gf_123_13, pt_123_13_0, pt_123_13_1, gf_123_14, pt_123_14_0, pt_123_14_1, gf_123_15, gf_123_16, gf_123_17, gf_123_18, gf_123_19, gf_123_20, gf_123_21, gf_123_22, gf_123_23, gf_123_24, gf_123_25, pt_123_25, gf_123_26, gf_123_27, pt_123_27, gf_123_28, pt_123_28, gf_123_29, gf_123_30, pt_123_30, gf_123_31, pt_123_31, gf_123_32, pt_123_32, gf_123_33, pt_123_33, gf_123_34, pt_123_34_0, pt_123_34_1, gf_123_35, gf_123_36, gf_123_37, gf_123_38, pt_123_38, gf_123_39, pt_123_39, gf_123_40, pt_123_40, gf_123_41, gf_123_42, gf_123_43, gf_123_44, gf_123_45, gf_123_46, gf_123_47, pt_123_47, ln_138, al_138, si_138, ln_139, al_139, si_139, h1, if_false, if_true, ib8 h3, nI_clamp h2, r72, up_n (show 127 ≠ 139 by decide), h4 127 _ (by decide) (by decide), hM, h5, nI_succ]
      congr 1
      refine rs_step (fun c j h => ?_) (fun c q1 q2 => ?_)
      · rw [up_o _ _ _ _ _ _ (by omega), up_o _ _ _ _ _ _ (by omega)]
      · rcases c11 q1 q2 with rfl | rfl | rfl | rfl | rfl | rfl | rfl | rfl | rfl | rfl | rfl <;> simp [ab_up, rs_k, frF, hkn, fr0]
  · show ab_res scr 139 2 _ 18 _ [] = _
    rw [q139_18]
    simp only [q139_0, q139_1, q139_3, q139_6, q139_7, q139_8, q139_11, q139_12, q139_13, q139_16, q139_17, q139_19, q139_21, q139_24, q139_25, q139_28, q139_29, q139_30, q139_31, q139_32, q139_35, q139_36, q139_37, q139_38, q139_41, q139_43, q139_44, q139_47, q139_48, q139_49, q139_51, q139_54, q139_57, q139_58, q139_59, q139_62, q139_65, n10, n01, Bool.false_eq_true, ab_bs, ab_bn, ab_pr0, ab_pr1, nl_n, nl_i, nl_r, nl_j, nl_nl, nI_rfl8, if_true]
/-! opens -/
def on0 (M : ab_M) : ab_M := ab_up (ab_up (ab_up (ab_up M 123 30 0) 123 31 0) 123 32 0) 123 33 0
theorem on0_n {M : ab_M} {c j : Nat} (h : c ≠ 123) : on0 M c j = M c j := by
  unfold on0
  rw [up_n h, up_n h, up_n h, up_n h]
def onF (n : Nat) (M : ab_M) (c j : Nat) : Int32 := if c = 129 then 0 else if c = 130 then -4 else if c = 131 then -4 else if c = 132 then 0 else if c = 133 then 0 else if c = 134 then 0 else if c = 135 then 0 else if c = 136 then (if j < n then M 127 (9 * j + 4) else 0) else if c = 137 then 0 else M c j
theorem nar1 : vp_nar .boolean 1 = 1 := by decide
theorem nar0 : vp_nar .boolean 0 = 0 := by decide
theorem rp_opens {scr : Option (List Int32)} (M : ab_M) (n : Nat) (hn : n ≤ 8) (hM : M 127 72 = nI n) : ab_ms scr 142 [.ref 123] M = some (rs 8 (onF n M) (on0 M), none) := by
  rw [ms142]
  simp only [q142_0, q142_1, q142_2, q142_5, q142_6, q142_7, q142_10, q142_11, q142_12, q142_15, q142_16, q142_17, q142_20, q142_21, q142_23, q142_25, q142_28, q142_29, q142_32, q142_33, q142_34, q142_35, q142_36, q142_39, q142_40, q142_42, q142_43, q142_44, q142_47, q142_48, q142_50, q142_51, q142_52, q142_55, q142_56, q142_57, q142_58, q142_59, q142_62, q142_63, q142_64, q142_65, q142_66, q142_69, q142_70, q142_71, q142_72, q142_73, q142_76, q142_77, q142_78, q142_79, q142_80, q142_83, q142_84, q142_85, q142_86, q142_89, q142_91, q142_92, q142_95, q142_96, q142_97, q142_98, q142_101, q142_104, q142_105, q142_106, q142_107, q142_110, q142_111, q142_112, q142_113, q142_116, q142_119, n10, n01, Bool.false_eq_true, ab_bs, ab_bn, ab_pr0, ab_pr1, nl_n, nl_i, nl_r, nl_j, nl_nl, rc_123, gf_123_0, gf_123_1, pt_123_1, gf_123_2, pt_123_2, gf_123_3, pt_123_3, gf_123_4, pt_123_4, gf_123_5, pt_123_5, gf_123_6, pt_123_6, gf_123_7, pt_123_7, gf_123_8, pt_123_8, gf_123_9, gf_123_10, gf_123_11, gf_123_12, gf_123_13, pt_123_13_0, pt_123_13_1, gf_123_14, pt_123_14_0, pt_123_14_1, gf_123_15, gf_123_16, gf_123_17, gf_123_18, gf_123_19, gf_123_20, gf_123_21, gf_123_22, gf_123_23, gf_123_24, gf_123_25, pt_123_25, gf_123_26, gf_123_27, pt_123_27, gf_123_28, pt_123_28, gf_123_29, gf_123_30, pt_123_30, gf_123_31, pt_123_31, gf_123_32, pt_123_32, gf_123_33, pt_123_33, gf_123_34, pt_123_34_0, pt_123_34_1, gf_123_35, gf_123_36, gf_123_37, gf_123_38, pt_123_38, gf_123_39, pt_123_39, gf_123_40, pt_123_40, gf_123_41, gf_123_42, gf_123_43, gf_123_44, gf_123_45, gf_123_46, gf_123_47, pt_123_47]
  refine Eq.trans ?_ ((rn (fun k => ab_res scr 142 2 (rs k (onF n M) (on0 M)) 22 [some (.ref 123), some (.int (nI k))] []) (8) (fun k hk => ?_)).trans ?_)
  · rw [rs_0]
    rfl
  · have h1 : ¬ (8 : Int32) ≤ nI k := nI_ge (b := 8) hk (by omega)
    have h3 : k < 8 := by omega
    have h2 : k < 2 ^ 31 := by omega
    have h4 : ∀ c j, c < 129 → c ≠ 123 → rs k (onF n M) (on0 M) c j = M c j := fun c j h h' => by rw [rs_lo h, on0_n h']
    by_cases hkn : k < n
    · have h5 : ¬ nI n ≤ nI k := nI_ge hkn (by omega)
      rw [q142_22]
      simp only [q142_0, q142_1, q142_2, q142_5, q142_6, q142_7, q142_10, q142_11, q142_12, q142_15, q142_16, q142_17, q142_20, q142_21, q142_23, q142_25, q142_28, q142_29, q142_32, q142_33, q142_35, q142_36, q142_39, q142_40, q142_42, q142_43, q142_44, q142_47, q142_48, q142_50, q142_51, q142_52, q142_55, q142_56, q142_57, q142_58, q142_59, q142_62, q142_63, q142_64, q142_65, q142_66, q142_69, q142_70, q142_71, q142_72, q142_73, q142_76, q142_77, q142_78, q142_79, q142_80, q142_83, q142_84, q142_85, q142_86, q142_89, q142_91, q142_92, q142_95, q142_96, q142_97, q142_98, q142_101, q142_104, q142_105, q142_106, q142_107, q142_110, q142_111, q142_112, q142_113, q142_116, q142_119, n10, n01, Bool.false_eq_true, ab_bs, ab_bn, ab_pr0, ab_pr1, nl_n, nl_i, nl_r, nl_j, nl_nl, rc_123, gf_123_0, gf_123_1, pt_123_1, gf_123_2, pt_123_2, gf_123_3, pt_123_3, gf_123_4, pt_123_4, gf_123_5, pt_123_5, gf_123_6, pt_123_6, gf_123_7, pt_123_7, gf_123_8, pt_123_8, gf_123_9, gf_123_10, gf_123_11, gf_123_12, gf_123_13, pt_123_13_0, pt_123_13_1, gf_123_14, pt_123_14_0, pt_123_14_1, gf_123_15, gf_123_16, gf_123_17, gf_123_18, gf_123_19, gf_123_20, gf_123_21, gf_123_22, gf_123_23, gf_123_24, gf_123_25, pt_123_25, gf_123_26, gf_123_27, pt_123_27, gf_123_28, pt_123_28, gf_123_29, gf_123_30, pt_123_30, gf_123_31, pt_123_31, gf_123_32, pt_123_32, gf_123_33, pt_123_33, gf_123_34, pt_123_34_0, pt_123_34_1, gf_123_35, gf_123_36, gf_123_37, gf_123_38, pt_123_38, gf_123_39, pt_123_39, gf_123_40, pt_123_40, gf_123_41, gf_123_42, gf_123_43, gf_123_44, gf_123_45, gf_123_46, gf_123_47, pt_123_47, ln_130, al_130, si_130, ln_131, al_131, si_131, ln_132, al_132, si_132, ln_133, al_133, si_133, ln_134, al_134, si_134, ln_135, al_135, si_135, ln_136, al_136, si_136, ln_137, al_137, si_137, h1, if_false]
      rw [q142_34 (ty := .boolean) (bst129 (ib8 h3))]
      simp only [q142_0, q142_1, q142_2, q142_5, q142_6, q142_7, q142_10, q142_11, q142_12, q142_15, q142_16, q142_17, q142_20, q142_21, q142_23, q142_25, q142_28, q142_29, q142_32, q142_33, q142_35, q142_36, q142_39, q142_40, q142_42, q142_43, q142_44, q142_47, q142_48, q142_50, q142_51, q142_52, q142_55, q142_56, q142_57, q142_58, q142_59, q142_62, q142_63, q142_64, q142_65, q142_66, q142_69, q142_70, q142_71, q142_72, q142_73, q142_76, q142_77, q142_78, q142_79, q142_80, q142_83, q142_84, q142_85, q142_86, q142_89, q142_91, q142_92, q142_95, q142_96, q142_97, q142_98, q142_101, q142_104, q142_105, q142_106, q142_107, q142_110, q142_111, q142_112, q142_113, q142_116, q142_119, n10, n01, Bool.false_eq_true, ab_bs, ab_bn, ab_pr0, ab_pr1, nl_n, nl_i, nl_r, nl_j, nl_nl, rc_123, gf_123_0, gf_123_1, pt_123_1, gf_123_2, pt_123_2, gf_123_3, pt_123_3, gf_123_4, pt_123_4, gf_123_5, pt_123_5, gf_123_6, pt_123_6, gf_123_7, pt_123_7, gf_123_8, pt_123_8, gf_123_9, gf_123_10, gf_123_11, gf_123_12, gf_123_13, pt_123_13_0, pt_123_13_1, gf_123_14, pt_123_14_0, pt_123_14_1, gf_123_15, gf_123_16, gf_123_17, gf_123_18, gf_123_19, gf_123_20, gf_123_21, gf_123_22, gf_123_23, gf_123_24, gf_123_25, pt_123_25, gf_123_26, gf_123_27, pt_123_27, gf_123_28, pt_123_28, gf_123_29, gf_123_30, pt_123_30, gf_123_31, pt_123_31, gf_123_32, pt_123_32, gf_123_33, pt_123_33, gf_123_34, pt_123_34_0, pt_123_34_1, gf_123_35, gf_123_36, gf_123_37, gf_123_38, pt_123_38, gf_123_39, pt_123_39, gf_123_40, pt_123_40, gf_123_41, gf_123_42, gf_123_43, gf_123_44, gf_123_45, gf_123_46, gf_123_47, pt_123_47, ln_130, al_130, si_130, ln_131, al_131, si_131, ln_132, al_132, si_132, ln_133, al_133, si_133, ln_134, al_134, si_134, ln_135, al_135, si_135, ln_136, al_136, si_136, ln_137, al_137, si_137, if_false, if_true, ib8 h3, nI_clamp h2, r72, up_n (show 127 ≠ 129 by decide), up_n (show 127 ≠ 130 by decide), up_n (show 127 ≠ 131 by decide), up_n (show 127 ≠ 132 by decide), up_n (show 127 ≠ 133 by decide), up_n (show 127 ≠ 134 by decide), up_n (show 127 ≠ 135 by decide), h4 127 _ (by decide) (by decide), hM, h5, its4 _ _ h3, nI_succ, nar0]
      congr 1
      refine rs_step (fun c j h => ?_) (fun c q1 q2 => ?_)
      · repeat rw [up_o _ _ _ _ _ _ (by omega)]
      · rcases c11 q1 q2 with rfl | rfl | rfl | rfl | rfl | rfl | rfl | rfl | rfl | rfl | rfl <;> simp [ab_up, rs_k, onF, hkn, on0]
    · have h5 : nI n ≤ nI k := nI_le (by omega) (by omega)
      rw [q142_22]
      simp only [q142_0, q142_1, q142_2, q142_5, q142_6, q142_7, q142_10, q142_11, q142_12, q142_15, q142_16, q142_17, q142_20, q142_21, q142_23, q142_25, q142_28, q142_29, q142_32, q142_33, q142_35, q142_36, q142_39, q142_40, q142_42, q142_43, q142_44, q142_47, q142_48, q142_50, q142_51, q142_52, q142_55, q142_56, q142_57, q142_58, q142_59, q142_62, q142_63, q142_64, q142_65, q142_66, q142_69, q142_70, q142_71, q142_72, q142_73, q142_76, q142_77, q142_78, q142_79, q142_80, q142_83, q142_84, q142_85, q142_86, q142_89, q142_91, q142_92, q142_95, q142_96, q142_97, q142_98, q142_101, q142_104, q142_105, q142_106, q142_107, q142_110, q142_111, q142_112, q142_113, q142_116, q142_119, n10, n01, Bool.false_eq_true, ab_bs, ab_bn, ab_pr0, ab_pr1, nl_n, nl_i, nl_r, nl_j, nl_nl, rc_123, gf_123_0, gf_123_1, pt_123_1, gf_123_2, pt_123_2, gf_123_3, pt_123_3, gf_123_4, pt_123_4, gf_123_5, pt_123_5, gf_123_6, pt_123_6, gf_123_7, pt_123_7, gf_123_8, pt_123_8, gf_123_9, gf_123_10, gf_123_11, gf_123_12, gf_123_13, pt_123_13_0, pt_123_13_1, gf_123_14, pt_123_14_0, pt_123_14_1, gf_123_15, gf_123_16, gf_123_17, gf_123_18, gf_123_19, gf_123_20, gf_123_21, gf_123_22, gf_123_23, gf_123_24, gf_123_25, pt_123_25, gf_123_26, gf_123_27, pt_123_27, gf_123_28, pt_123_28, gf_123_29, gf_123_30, pt_123_30, gf_123_31, pt_123_31, gf_123_32, pt_123_32, gf_123_33, pt_123_33, gf_123_34, pt_123_34_0, pt_123_34_1, gf_123_35, gf_123_36, gf_123_37, gf_123_38, pt_123_38, gf_123_39, pt_123_39, gf_123_40, pt_123_40, gf_123_41, gf_123_42, gf_123_43, gf_123_44, gf_123_45, gf_123_46, gf_123_47, pt_123_47, ln_130, al_130, si_130, ln_131, al_131, si_131, ln_132, al_132, si_132, ln_133, al_133, si_133, ln_134, al_134, si_134, ln_135, al_135, si_135, ln_136, al_136, si_136, ln_137, al_137, si_137, h1, if_false]
      rw [q142_34 (ty := .boolean) (bst129 (ib8 h3))]
      simp only [q142_0, q142_1, q142_2, q142_5, q142_6, q142_7, q142_10, q142_11, q142_12, q142_15, q142_16, q142_17, q142_20, q142_21, q142_23, q142_25, q142_28, q142_29, q142_32, q142_33, q142_35, q142_36, q142_39, q142_40, q142_42, q142_43, q142_44, q142_47, q142_48, q142_50, q142_51, q142_52, q142_55, q142_56, q142_57, q142_58, q142_59, q142_62, q142_63, q142_64, q142_65, q142_66, q142_69, q142_70, q142_71, q142_72, q142_73, q142_76, q142_77, q142_78, q142_79, q142_80, q142_83, q142_84, q142_85, q142_86, q142_89, q142_91, q142_92, q142_95, q142_96, q142_97, q142_98, q142_101, q142_104, q142_105, q142_106, q142_107, q142_110, q142_111, q142_112, q142_113, q142_116, q142_119, n10, n01, Bool.false_eq_true, ab_bs, ab_bn, ab_pr0, ab_pr1, nl_n, nl_i, nl_r, nl_j, nl_nl, rc_123, gf_123_0, gf_123_1, pt_123_1, gf_123_2, pt_123_2, gf_123_3, pt_123_3, gf_123_4, pt_123_4, gf_123_5, pt_123_5, gf_123_6, pt_123_6, gf_123_7, pt_123_7, gf_123_8, pt_123_8, gf_123_9, gf_123_10, gf_123_11, gf_123_12, gf_123_13, pt_123_13_0, pt_123_13_1, gf_123_14, pt_123_14_0, pt_123_14_1, gf_123_15, gf_123_16, gf_123_17, gf_123_18, gf_123_19, gf_123_20, gf_123_21, gf_123_22, gf_123_23, gf_123_24, gf_123_25, pt_123_25, gf_123_26, gf_123_27, pt_123_27, gf_123_28, pt_123_28, gf_123_29, gf_123_30, pt_123_30, gf_123_31, pt_123_31, gf_123_32, pt_123_32, gf_123_33, pt_123_33, gf_123_34, pt_123_34_0, pt_123_34_1, gf_123_35, gf_123_36, gf_123_37, gf_123_38, pt_123_38, gf_123_39, pt_123_39, gf_123_40, pt_123_40, gf_123_41, gf_123_42, gf_123_43, gf_123_44, gf_123_45, gf_123_46, gf_123_47, pt_123_47, ln_130, al_130, si_130, ln_131, al_131, si_131, ln_132, al_132, si_132, ln_133, al_133, si_133, ln_134, al_134, si_134, ln_135, al_135, si_135, ln_136, al_136, si_136, ln_137, al_137, si_137, if_false, if_true, ib8 h3, nI_clamp h2, r72, up_n (show 127 ≠ 129 by decide), up_n (show 127 ≠ 130 by decide), up_n (show 127 ≠ 131 by decide), up_n (show 127 ≠ 132 by decide), up_n (show 127 ≠ 133 by decide), up_n (show 127 ≠ 134 by decide), up_n (show 127 ≠ 135 by decide), h4 127 _ (by decide) (by decide), hM, h5, nI_succ, nar0]
      congr 1
      refine rs_step (fun c j h => ?_) (fun c q1 q2 => ?_)
      · repeat rw [up_o _ _ _ _ _ _ (by omega)]
      · rcases c11 q1 q2 with rfl | rfl | rfl | rfl | rfl | rfl | rfl | rfl | rfl | rfl | rfl <;> simp [ab_up, rs_k, onF, hkn, on0]
  · show ab_res scr 142 2 _ 22 _ [] = _
    rw [q142_22]
    simp only [q142_0, q142_1, q142_2, q142_5, q142_6, q142_7, q142_10, q142_11, q142_12, q142_15, q142_16, q142_17, q142_20, q142_21, q142_23, q142_25, q142_28, q142_29, q142_32, q142_33, q142_34, q142_35, q142_36, q142_39, q142_40, q142_42, q142_43, q142_44, q142_47, q142_48, q142_50, q142_51, q142_52, q142_55, q142_56, q142_57, q142_58, q142_59, q142_62, q142_63, q142_64, q142_65, q142_66, q142_69, q142_70, q142_71, q142_72, q142_73, q142_76, q142_77, q142_78, q142_79, q142_80, q142_83, q142_84, q142_85, q142_86, q142_89, q142_91, q142_92, q142_95, q142_96, q142_97, q142_98, q142_101, q142_104, q142_105, q142_106, q142_107, q142_110, q142_111, q142_112, q142_113, q142_116, q142_119, n10, n01, Bool.false_eq_true, ab_bs, ab_bn, ab_pr0, ab_pr1, nl_n, nl_i, nl_r, nl_j, nl_nl, nI_rfl8, if_true]
