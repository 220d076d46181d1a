/-! PEOPLE copied -/
def PO (ob fb : Nat) : Prop := ∀ M : ab_M, ab_gF ab_L0 M ob 4 0 = some (.ref (ob + 1)) ∧ ab_gF ab_L0 M ob 4 1 = some (.ref (fb + 8)) ∧ ab_gF ab_L0 M ob 4 2 = some (.ref (fb + 9)) ∧ ab_gF ab_L0 M ob 4 3 = some (.int (M ob 3)) ∧ ab_gF ab_L0 M ob 4 4 = some (.int (M ob 4)) ∧ ab_gF ab_L0 M ob 4 5 = some (.int (M ob 5)) ∧ (∀ w, w < 8 → ab_qe (ob + 1) (nI w) = some (.ref (fb + w))) ∧ (∀ w, w < 9 → ab_ar ab_L0 (fb + w) .int = some 8) ∧ ab_ar ab_L0 (fb + 9) .int = some 12 ∧ (∀ x, ab_pt ob 4 3 x = true) ∧ (∀ x, ab_pt ob 4 4 x = true) ∧ ∀ x, ab_pt ob 4 5 x = true
theorem PO16 : PO 16 18 := fun M => ⟨rfl, rfl, rfl, rfl, rfl, rfl, fun w h => qe_17 h, by decide +kernel, rfl, pt_16_3, pt_16_4, pt_16_5⟩
theorem PO4 : PO 4 6 := fun M => ⟨rfl, rfl, rfl, rfl, rfl, rfl, fun w h => qe_5 h, by decide +kernel, rfl, pt_4_3, pt_4_4, pt_4_5⟩
theorem PO90 : PO 90 92 := fun M => ⟨rfl, rfl, rfl, rfl, rfl, rfl, fun w h => qe_91 h, by decide +kernel, rfl, pt_90_3, pt_90_4, pt_90_5⟩
theorem PO103 : PO 103 105 := fun M => ⟨rfl, rfl, rfl, rfl, rfl, rfl, fun w h => qe_104 h, by decide +kernel, rfl, pt_103_3, pt_103_4, pt_103_5⟩
def cpL (fb fb' k : Nat) (M : ab_M) : ab_M := fun c j => if fb ≤ c ∧ c < fb + k ∧ j < 8 then M (fb' + (c - fb)) j else M c j
def cpC (ob fb ob' fb' : Nat) (M : ab_M) : ab_M := fun c j => if fb ≤ c ∧ c < fb + 9 ∧ j < 8 then M (fb' + (c - fb)) j else if c = fb + 9 ∧ j < 12 then M (fb' + 9) j else if c = ob ∧ 3 ≤ j ∧ j ≤ 5 then M ob' j else M c j
theorem cp8 : (8 : Int32).toNatClampNeg = 8 ∧ (12 : Int32).toNatClampNeg = 12 ∧ (0 : Int32).toNatClampNeg = 0 ∧ (0 : Int32).toInt = 0 ∧ (8 : Int32).toInt = 8 ∧ (12 : Int32).toInt = 12 := by decide
theorem cpy_at {M : ab_M} {a0 a n c j : Nat} : ab_cpy M a0 a 0 0 n c j = if c = a ∧ j < n then M a0 j else M c j := by
  unfold ab_cpy va_cpy
  by_cases h : c = a
  · subst h
    by_cases hj : j < n
    · rw [if_pos rfl, if_pos (by omega), if_pos ⟨rfl, hj⟩, show 0 + (j - 0) = j by omega]
    · rw [if_pos rfl, if_neg (by omega), if_neg (fun q => hj q.2)]
  · rw [if_neg h, if_neg (fun q => h q.1)]
theorem sp_copy {scr : Option (List Int32)} (ob fb ob' fb' : Nat) (h1 : PO ob fb) (h2 : PO ob' fb') (hd : fb + 12 ≤ fb' ∨ fb' + 12 ≤ fb) (ho : ob + 2 = fb) (ho' : ob' + 2 = fb') (hob : ob ≠ ob') (M : ab_M) : ab_ms scr 41 [.ref ob, .ref ob'] M = some (cpC ob fb ob' fb' M, none) := by
  obtain ⟨z8, z12, z0, i0, i8, i12⟩ := cp8
  rw [ms41]
  simp only [q41_0, q41_1, q41_3, q41_5, q41_8, q41_9, q41_12, q41_13, q41_14, q41_15, q41_16, q41_19, q41_20, q41_21, q41_22, q41_27, q41_30, q41_33, q41_34, q41_37, q41_38, q41_39, q41_42, q41_43, q41_48, q41_49, q41_52, q41_53, q41_54, q41_57, q41_58, q41_63, q41_64, q41_65, q41_68, q41_71, q41_72, q41_73, q41_76, q41_79, q41_80, q41_81, q41_84, q41_87, n10, n01, Bool.false_eq_true, ab_bs, ab_bn, ab_pr0, ab_pr1, nl_n, nl_i, nl_r, nl_j, nl_nl]
  refine Eq.trans ?_ ((rn (fun k => ab_res scr 41 1 (cpL fb fb' k M) 2 [some (.ref ob), some (.ref ob'), some (.int (nI k))] []) (8) (fun k hk => ?_)).trans ?_)
  · have : cpL fb fb' 0 M = M := by
      funext c j
      unfold cpL
      rw [if_neg (by omega)]
    rw [this]
    rfl
  · obtain ⟨a1, a2, a3, a4, a5, a6, a7, a8, a9, a10, a11, a12⟩ := h1 (cpL fb fb' k M)
    obtain ⟨b1, b2, b3, b4, b5, b6, b7, b8, b9, b10, b11, b12⟩ := h2 (cpL fb fb' k M)
    have hk8 : ¬ (8 : Int32) ≤ nI k := nI_ge (b := 8) hk (by decide)
    rw [q41_2]
    simp only [q41_0, q41_1, q41_3, q41_5, q41_8, q41_9, q41_12, q41_13, q41_14, q41_15, q41_16, q41_19, q41_20, q41_21, q41_22, q41_27, q41_30, q41_33, q41_34, q41_37, q41_38, q41_39, q41_42, q41_43, q41_48, q41_49, q41_52, q41_53, q41_54, q41_57, q41_58, q41_63, q41_64, q41_65, q41_68, q41_71, q41_72, q41_73, q41_76, q41_79, q41_80, q41_81, q41_84, q41_87, n10, n01, Bool.false_eq_true, ab_bs, ab_bn, ab_pr0, ab_pr1, nl_n, nl_i, nl_r, nl_j, nl_nl, hk8, if_false, a1, b1, a7 k hk, b7 k hk]
    rw [q41_24 (n0 := 8) (n1 := 8) (b8 k (by omega)) (a8 k (by omega)) (by rw [i0, i8, z0, z8]; decide)]
    simp only [q41_0, q41_1, q41_3, q41_5, q41_8, q41_9, q41_12, q41_13, q41_14, q41_15, q41_16, q41_19, q41_20, q41_21, q41_22, q41_27, q41_30, q41_33, q41_34, q41_37, q41_38, q41_39, q41_42, q41_43, q41_48, q41_49, q41_52, q41_53, q41_54, q41_57, q41_58, q41_63, q41_64, q41_65, q41_68, q41_71, q41_72, q41_73, q41_76, q41_79, q41_80, q41_81, q41_84, q41_87, n10, n01, Bool.false_eq_true, ab_bs, ab_bn, ab_pr0, ab_pr1, nl_n, nl_i, nl_r, nl_j, nl_nl, nI_succ]
    congr 1
    funext c j
    rw [z0, z8]
    unfold ab_cpy va_cpy cpL
    by_cases hc : c = fb + k
    · subst hc
      by_cases hj : j < 8
      · rw [if_pos rfl, if_pos (by omega), if_neg (by omega), if_pos (by omega), show fb + k - fb = k by omega, show 0 + (j - 0) = j by omega]
      · rw [if_pos rfl, if_neg (by omega), if_neg (by omega), if_neg (by omega)]
    · rw [if_neg hc]
      by_cases hj : fb ≤ c ∧ c < fb + k ∧ j < 8
      · rw [if_pos hj, if_pos (by omega)]
      · rw [if_neg hj, if_neg (by omega)]
  · obtain ⟨a1, a2, a3, a4, a5, a6, a7, a8, a9, a10, a11, a12⟩ := h1 (cpL fb fb' 8 M)
    obtain ⟨b1, b2, b3, b4, b5, b6, b7, b8, b9, b10, b11, b12⟩ := h2 (cpL fb fb' 8 M)
    show ab_res scr 41 1 _ 2 _ [] = _
    rw [q41_2]
    simp only [q41_0, q41_1, q41_3, q41_5, q41_8, q41_9, q41_12, q41_13, q41_14, q41_15, q41_16, q41_19, q41_20, q41_21, q41_22, q41_27, q41_30, q41_33, q41_34, q41_37, q41_38, q41_39, q41_42, q41_43, q41_48, q41_49, q41_52, q41_53, q41_54, q41_57, q41_58, q41_63, q41_64, q41_65, q41_68, q41_71, q41_72, q41_73, q41_76, q41_79, q41_80, q41_81, q41_84, q41_87, n10, n01, Bool.false_eq_true, ab_bs, ab_bn, ab_pr0, ab_pr1, nl_n, nl_i, nl_r, nl_j, nl_nl, nI_rfl8, if_true, a2, b2]
    rw [q41_45 (n0 := 8) (n1 := 8) (b8 8 (by omega)) (a8 8 (by omega)) (by rw [i0, i8, z0, z8]; decide)]
    rw [z0, z8]
    obtain ⟨-, -, a3', -⟩ := h1 (ab_cpy (cpL fb fb' 8 M) (fb' + 8) (fb + 8) 0 0 8)
    obtain ⟨-, -, b3', -⟩ := h2 (ab_cpy (cpL fb fb' 8 M) (fb' + 8) (fb + 8) 0 0 8)
    simp only [q41_0, q41_1, q41_3, q41_5, q41_8, q41_9, q41_12, q41_13, q41_14, q41_15, q41_16, q41_19, q41_20, q41_21, q41_22, q41_27, q41_30, q41_33, q41_34, q41_37, q41_38, q41_39, q41_42, q41_43, q41_48, q41_49, q41_52, q41_53, q41_54, q41_57, q41_58, q41_63, q41_64, q41_65, q41_68, q41_71, q41_72, q41_73, q41_76, q41_79, q41_80, q41_81, q41_84, q41_87, n10, n01, Bool.false_eq_true, ab_bs, ab_bn, ab_pr0, ab_pr1, nl_n, nl_i, nl_r, nl_j, nl_nl, a3', b3']
    rw [q41_60 (n0 := 12) (n1 := 12) b9 a9 (by rw [i0, i12, z0, z12]; decide)]
    rw [z0, z12]
    generalize hW : ab_cpy (ab_cpy (cpL fb fb' 8 M) (fb' + 8) (fb + 8) 0 0 8) (fb' + 9) (fb + 9) 0 0 12 = W
    have c3 := fun N => (h2 N).2.2.2.1
    have c4 := fun N => (h2 N).2.2.2.2.1
    have c5 := fun N => (h2 N).2.2.2.2.2.1
    simp only [q41_0, q41_1, q41_3, q41_5, q41_8, q41_9, q41_12, q41_13, q41_14, q41_15, q41_16, q41_19, q41_20, q41_21, q41_22, q41_27, q41_30, q41_33, q41_34, q41_37, q41_38, q41_39, q41_42, q41_43, q41_48, q41_49, q41_52, q41_53, q41_54, q41_57, q41_58, q41_63, q41_64, q41_65, q41_68, q41_71, q41_72, q41_73, q41_76, q41_79, q41_80, q41_81, q41_84, q41_87, n10, n01, Bool.false_eq_true, ab_bs, ab_bn, ab_pr0, ab_pr1, nl_n, nl_i, nl_r, nl_j, nl_nl, a10, a11, a12, c3, c4, c5, up_n hob.symm]
    refine congrArg (fun x => some (x, none)) ?_
    have eW : ∀ c j, W c j = if fb ≤ c ∧ c < fb + 9 ∧ j < 8 then M (fb' + (c - fb)) j else if c = fb + 9 ∧ j < 12 then M (fb' + 9) j else M c j := by
      intro c j
      rw [← hW, cpy_at, cpy_at, cpy_at]
      unfold cpL
      by_cases e9 : c = fb + 9
      · subst e9
        by_cases hj : j < 12
        · rw [if_pos ⟨rfl, hj⟩, if_neg (by omega), if_neg (by omega), if_neg (by omega), if_pos ⟨rfl, hj⟩]
        · rw [if_neg (by omega), if_neg (by omega), if_neg (by omega), if_neg (by omega), if_neg (by omega)]
      · rw [if_neg (by omega)]
        by_cases e8 : c = fb + 8
        · subst e8
          by_cases hj : j < 8
          · rw [if_pos ⟨rfl, hj⟩, if_neg (by omega), if_pos (by omega), show fb' + (fb + 8 - fb) = fb' + 8 by omega]
          · rw [if_neg (by omega), if_neg (by omega), if_neg (by omega), if_neg (by omega)]
        · rw [if_neg (by omega)]
          by_cases hj : fb ≤ c ∧ c < fb + 8 ∧ j < 8
          · rw [if_pos hj, if_pos (by omega)]
          · rw [if_neg hj, if_neg (by omega), if_neg (by omega)]
    have eo : ∀ j, W ob' j = M ob' j := fun j => by rw [eW, if_neg (by omega), if_neg (by omega)]
    funext c j
    unfold cpC
    rw [eo, eo, eo]
    by_cases e1 : c = ob
    · subst e1
      rw [if_neg (by omega), if_neg (by omega)]
      by_cases x5 : j = 5
      · subst x5
        rw [up_s, if_pos (by omega)]
      · rw [up_o _ _ _ _ _ _ (by omega)]
        by_cases x4 : j = 4
        · subst x4
          rw [up_s, if_pos (by omega)]
        · rw [up_o _ _ _ _ _ _ (by omega)]
          by_cases x3 : j = 3
          · subst x3
            rw [up_s, if_pos (by omega)]
          · rw [up_o _ _ _ _ _ _ (by omega), if_neg (by omega), eW, if_neg (by omega), if_neg (by omega)]
    · rw [up_n e1, up_n e1, up_n e1, eW]
      by_cases x : fb ≤ c ∧ c < fb + 9 ∧ j < 8
      · rw [if_pos x, if_pos x]
      · rw [if_neg x, if_neg x]
        by_cases y : c = fb + 9 ∧ j < 12
        · rw [if_pos y, if_pos y]
        · rw [if_neg y, if_neg y, if_neg (by omega)]
/-- what is read of a copy -/
theorem cp_row {ob fb ob' fb' : Nat} {M : ab_M} {w j : Nat} (hw : w < 9) (hj : j < 8) : cpC ob fb ob' fb' M (fb + w) j = M (fb' + w) j := by
  unfold cpC
  rw [if_pos (by omega), show fb + w - fb = w by omega]
theorem cp_book {ob fb ob' fb' : Nat} {M : ab_M} {j : Nat} (hj : j < 12) : cpC ob fb ob' fb' M (fb + 9) j = M (fb' + 9) j := by
  unfold cpC
  rw [if_neg (by omega), if_pos ⟨rfl, hj⟩]
theorem cp_ob {ob fb ob' fb' : Nat} {M : ab_M} {j : Nat} (ho : ob + 2 = fb) (h : 3 ≤ j ∧ j ≤ 5) : cpC ob fb ob' fb' M ob j = M ob' j := by
  unfold cpC
  rw [if_neg (by omega), if_neg (by omega), if_pos ⟨rfl, h⟩]
theorem cp_n {ob fb ob' fb' : Nat} {M : ab_M} {c j : Nat} (h : c ≠ ob) (h2 : ¬ (fb ≤ c ∧ c < fb + 10)) : cpC ob fb ob' fb' M c j = M c j := by
  unfold cpC
  rw [if_neg (by omega), if_neg (by omega), if_neg (by omega)]
theorem pgV_cp {ob fb ob' fb' n t : Nat} {K : Int} {M : ab_M} (ho : ob + 2 = fb) (h : pgV ob' fb' n t K M) : pgV ob fb n t K (cpC ob fb ob' fb' M) := by
  obtain ⟨a, b, c, d, e, f, g⟩ := h
  refine ⟨a, b, by rw [cp_ob ho (by decide), c], by rw [cp_ob ho (by decide), d], by rw [cp_ob ho (by decide)]; exact e, fun p hp => ?_, fun i hi => by rw [cp_book (by omega)]; exact g i hi⟩
  have := f p hp
  have h0 : cpC ob fb ob' fb' M fb p = M fb' p := cp_row (w := 0) (by decide) (by omega)
  unfold fok at this ⊢
  rw [h0, cp_row (by decide) (by omega), cp_row (by decide) (by omega), cp_row (by decide) (by omega), cp_row (by decide) (by omega), cp_row (by decide) (by omega), cp_row (by decide) (by omega), cp_row (by decide) (by omega)]
  exact this
