/-! best -/
theorem df_rows {n : Nat} {mk : Nat → Nat → Bool} {c : Nat → Int} : ∀ (k i : Nat) (o : Nat → Int) (w : Nat → Nat) (st : Int × (Nat → Nat)), (∀ j, j < i → w j < 8) → df n mk c k i o w st = st ∨ ∀ j, j < i + k → (df n mk c k i o w st).2 j < 8 := by
  intro k
  induction k with
  | zero =>
    intro i o w st h
    unfold df
    split
    · exact Or.inr h
    · exact Or.inl rfl
  | succ k ih =>
    intro i o w st h
    unfold df
    have : ∀ p, p ≤ 8 → fo (fun p st => if mk i p = true then df n mk c k (i + 1) (ad o p (c i)) (pl w i p) st else st) p st = st ∨ ∀ j, j < i + (k + 1) → (fo (fun p st => if mk i p = true then df n mk c k (i + 1) (ad o p (c i)) (pl w i p) st else st) p st).2 j < 8 := by
      intro p
      induction p with
      | zero => intro _; exact Or.inl rfl
      | succ p ihp =>
        intro hp
        have h2 := ihp (by omega)
        show (if mk i p = true then df n mk c k (i + 1) (ad o p (c i)) (pl w i p) (fo _ p st) else fo _ p st) = st ∨ ∀ j, j < i + (k + 1) → (if mk i p = true then df n mk c k (i + 1) (ad o p (c i)) (pl w i p) (fo _ p st) else fo _ p st).2 j < 8
        generalize fo (fun p st => if mk i p = true then df n mk c k (i + 1) (ad o p (c i)) (pl w i p) st else st) p st = s at *
        by_cases x : mk i p = true
        · rw [if_pos x]
          rcases ih (i + 1) (ad o p (c i)) (pl w i p) s (fun j hj => by
            unfold pl
            split
            · omega
            · exact h j (by omega)) with e | e
          · rw [e]
            exact h2
          · exact Or.inr fun j hj => e j (by omega)
        · rw [if_neg x]
          exact h2
    exact this 8 (by omega)
theorem ti_eq {a b : Int32} (h : a.toInt = b.toInt) : a = b := Int32.toInt_inj.mp h
/-- make and layBest agree -/
theorem bs_agree {i n : Nat} {F S N : ab_M} (hs : SR i (bsV n i F) S) (hr : RS i (bsV n i F) N) : N 123 38 = S 81 3 ∧ ∀ j, j < i → N 143 j = S 82 j ∧ ∃ q, q < 8 ∧ S 82 j = nI q := by
  obtain ⟨a, b⟩ := hs
  obtain ⟨d, e, f, g⟩ := hr
  have hb := b (by omega)
  refine ⟨ti_eq (by rw [a, d]), fun j hj => ⟨by rw [g j hj, hb j hj], (bsV n i F).2 j, ?_, hb j hj⟩⟩
  rcases df_rows (n := n) (mk := mkB n F) (c := coB F) i 0 (obF F) (fun _ => 0) (2147483647, fun _ => 0) (fun j hj => absurd hj (by omega)) with x | x
  · have : (bsV n i F).1 = 2147483647 := congrArg Prod.fst x
    omega
  · exact x j (by omega)
section
variable {scr : Option (List Int32)} {n t : Nat} {K : Int} {M : ab_M}
theorem cl_best (hK : 0 ≤ K) (hK2 : K ≤ 200000000) (h : CR n t K M) (what : Int32) : cokI scr 89 171 [.int what] M (AX M) := by
  have hFC := (frC_ok h).2.2.1
  obtain ⟨i, hi, hi2, m1, m2, m3⟩ := sp_make (scr := scr) hK hK2 h
  have sl := fun M1 hF => sp_lay (scr := scr) (M1 := M1) hK hK2 h hF hi hi2
  have no : (¬ (0 ≤ what ∧ what < 2) ∧ ¬ (10 ≤ what ∧ what < 16)) → cokI scr 89 171 [.int what] M (AX M) := fun q => by
    have q0 : ¬ what = 0 := fun e => q.1 (by rw [e]; decide)
    have q1 : ¬ what = 1 := fun e => q.1 (by rw [e]; decide)
    refine ⟨M, -1, M, ?_, ?_, AX_refl M⟩
    · by_cases z : what < 10
      · rw [ms89]; simp only [q89_0, q89_1, q89_3, q89_4, q89_5, q89_6, q89_9, q89_10, q89_11, q89_14, q89_15, q89_17, q89_20, q89_21, q89_23, q89_26, q89_27, q89_28, q89_29, q89_32, q89_35, q89_36, q89_37, q89_40, q89_41, q89_42, q89_45, q89_46, q89_47, q89_48, q89_51, q89_52, q89_55, q89_58, q89_59, q89_60, q89_61, q89_64, q89_65, q89_68, q89_71, q89_72, q89_73, q89_76, q89_77, n10, n01, Bool.false_eq_true, ab_bs, ab_bn, ab_pr0, ab_pr1, nl_n, nl_i, nl_r, nl_j, nl_nl, rc_0, gf_0_0, gf_0_1, gf_0_2, gf_0_3, gf_0_4, gf_0_5, gf_0_6, gf_0_7, gf_0_8, gf_0_9, pt_0_9, q0, q1, z, if_true, if_false]
      · have z2 : ¬ what - 10 < 6 := fun y => q.2 ⟨Int32.not_lt.mp z, by
          rw [Int32.lt_iff_toInt_lt] at y ⊢
          rw [Int32.lt_iff_toInt_lt] at z
          have u := Int32.toInt_lt what
          have e1 : (10 : Int32).toInt = 10 := by decide
          have e2 : (6 : Int32).toInt = 6 := by decide
          have e3 : (16 : Int32).toInt = 16 := by decide
          rw [ti_sub (by omega) (by omega)] at y
          omega⟩
        rw [ms89]; simp only [q89_0, q89_1, q89_3, q89_4, q89_5, q89_6, q89_9, q89_10, q89_11, q89_14, q89_15, q89_17, q89_20, q89_21, q89_23, q89_26, q89_27, q89_28, q89_29, q89_32, q89_35, q89_36, q89_37, q89_40, q89_41, q89_42, q89_45, q89_46, q89_47, q89_48, q89_51, q89_52, q89_55, q89_58, q89_59, q89_60, q89_61, q89_64, q89_65, q89_68, q89_71, q89_72, q89_73, q89_76, q89_77, n10, n01, Bool.false_eq_true, ab_bs, ab_bn, ab_pr0, ab_pr1, nl_n, nl_i, nl_r, nl_j, nl_nl, rc_0, gf_0_0, gf_0_1, gf_0_2, gf_0_3, gf_0_4, gf_0_5, gf_0_6, gf_0_7, gf_0_8, gf_0_9, pt_0_9, q0, q1, z, z2, if_true, if_false]
    · rw [ms171]; simp only [q171_0, q171_1, q171_2, q171_3, q171_4, q171_7, q171_10, q171_11, q171_12, q171_15, q171_18, q171_21, q171_24, q171_25, q171_26, q171_27, q171_30, q171_31, q171_32, q171_35, q171_36, q171_37, q171_38, q171_41, q171_42, q171_45, q171_48, q171_49, q171_50, q171_53, q171_54, q171_57, q171_60, q171_61, q171_63, q171_64, q171_65, q171_68, q171_71, q171_72, q171_75, q171_76, q171_78, q171_79, q171_80, q171_83, q171_84, n10, n01, Bool.false_eq_true, ab_bs, ab_bn, ab_pr0, ab_pr1, nl_n, nl_i, nl_r, nl_j, nl_nl, rc_123, gf_123_0, gf_123_1, pt_123_1, gf_123_2, pt_123_2, gf_123_3, pt_123_3, gf_123_4, pt_123_4, gf_123_5, pt_123_5, gf_123_6, pt_123_6, gf_123_7, pt_123_7, gf_123_8, pt_123_8, gf_123_9, gf_123_10, gf_123_11, gf_123_12, gf_123_13, pt_123_13_0, pt_123_13_1, gf_123_14, pt_123_14_0, pt_123_14_1, gf_123_15, gf_123_16, gf_123_17, gf_123_18, gf_123_19, gf_123_20, gf_123_21, gf_123_22, gf_123_23, gf_123_24, gf_123_25, pt_123_25, gf_123_26, gf_123_27, pt_123_27, gf_123_28, pt_123_28, gf_123_29, gf_123_30, pt_123_30, gf_123_31, pt_123_31, gf_123_32, pt_123_32, gf_123_33, pt_123_33, gf_123_34, pt_123_34_0, pt_123_34_1, gf_123_35, gf_123_36, gf_123_37, gf_123_38, pt_123_38, gf_123_39, pt_123_39, gf_123_40, pt_123_40, gf_123_41, gf_123_42, gf_123_43, gf_123_44, gf_123_45, gf_123_46, gf_123_47, pt_123_47, sp_in, k0, k10, l1, l15, q.1, q.2, if_true, if_false, not_true]
  -- what the class makes, and the reference
  have ok : (∃ a S N', a < 0 ∧ ab_ms scr 47 [.ref 81] M = some (S, some (.int a)) ∧ ab_ms scr 170 [.ref 123] S = some (N', some (.int a)) ∧ AX M N') ∨ (∃ S N', i ≤ 6 ∧ ab_ms scr 47 [.ref 81] M = some (S, some (.int (nI i))) ∧ ab_ms scr 170 [.ref 123] S = some (N', some (.int 0)) ∧ AX M N' ∧ N' 123 30 = nI i ∧ N' 123 38 = S 81 3 ∧ ∀ j, j < i → N' 143 j = S 82 j ∧ ∃ q, q < 8 ∧ S 82 j = nI q) := by
    by_cases h6 : i ≤ 6
    · by_cases hb : 0 < frC n M 30 6
      · obtain ⟨N', a, b⟩ := (sl _ (FA_of hFC)).2.1 h6 hb
        exact Or.inl ⟨_, _, N', by decide, m2 h6 hb, a, b⟩
      · obtain ⟨S, a, b, c⟩ := m3 h6 hb
        have hF : FA M S := fun c j hc => by rw [b c j (by omega), hFC c j (by omega)]
        obtain ⟨N', d, e, f, g⟩ := (sl _ hF).2.2 h6 hb
        obtain ⟨u, v⟩ := bs_agree c g
        exact Or.inr ⟨S, N', h6, a, d, e, f, u, v⟩
    · obtain ⟨N', a, b⟩ := (sl _ (FA_of hFC)).1 (by omega)
      exact Or.inl ⟨_, _, N', by decide, m1 (by omega), a, b⟩
  clear m1 m2 m3 sl
  generalize frC n M = F at *
  by_cases q0 : what = 0
  · subst q0
    rcases ok with ⟨a, S, N', a1, a2, a3, a4⟩ | ⟨S, N', h6, a2, a3, a4, a5, a6, a7⟩
    · have a0 : ¬ a = 0 := fun e => absurd a1 (by rw [e]; decide)
      refine ⟨S, a, N', ?_, ?_, a4⟩
      · rw [ms89]; simp only [q89_0, q89_1, q89_3, q89_4, q89_5, q89_6, q89_9, q89_10, q89_11, q89_14, q89_15, q89_17, q89_20, q89_21, q89_23, q89_26, q89_27, q89_28, q89_29, q89_32, q89_35, q89_36, q89_37, q89_40, q89_41, q89_42, q89_45, q89_46, q89_47, q89_48, q89_51, q89_52, q89_55, q89_58, q89_59, q89_60, q89_61, q89_64, q89_65, q89_68, q89_71, q89_72, q89_73, q89_76, q89_77, n10, n01, Bool.false_eq_true, ab_bs, ab_bn, ab_pr0, ab_pr1, nl_n, nl_i, nl_r, nl_j, nl_nl, rc_0, gf_0_0, gf_0_1, gf_0_2, gf_0_3, gf_0_4, gf_0_5, gf_0_6, gf_0_7, gf_0_8, gf_0_9, pt_0_9, rc_81, gf_81_0, gf_81_1, gf_81_2, gf_81_3, pt_81_3, gf_81_4, gf_81_5, gf_81_6, pt_81_6, if_true, a2, a1]
      · rw [ms171]; simp only [q171_0, q171_1, q171_2, q171_3, q171_4, q171_7, q171_10, q171_11, q171_12, q171_15, q171_18, q171_21, q171_24, q171_25, q171_26, q171_27, q171_30, q171_31, q171_32, q171_35, q171_36, q171_37, q171_38, q171_41, q171_42, q171_45, q171_48, q171_49, q171_50, q171_53, q171_54, q171_57, q171_60, q171_61, q171_63, q171_64, q171_65, q171_68, q171_71, q171_72, q171_75, q171_76, q171_78, q171_79, q171_80, q171_83, q171_84, n10, n01, Bool.false_eq_true, ab_bs, ab_bn, ab_pr0, ab_pr1, nl_n, nl_i, nl_r, nl_j, nl_nl, rc_123, gf_123_0, gf_123_1, pt_123_1, gf_123_2, pt_123_2, gf_123_3, pt_123_3, gf_123_4, pt_123_4, gf_123_5, pt_123_5, gf_123_6, pt_123_6, gf_123_7, pt_123_7, gf_123_8, pt_123_8, gf_123_9, gf_123_10, gf_123_11, gf_123_12, gf_123_13, pt_123_13_0, pt_123_13_1, gf_123_14, pt_123_14_0, pt_123_14_1, gf_123_15, gf_123_16, gf_123_17, gf_123_18, gf_123_19, gf_123_20, gf_123_21, gf_123_22, gf_123_23, gf_123_24, gf_123_25, pt_123_25, gf_123_26, gf_123_27, pt_123_27, gf_123_28, pt_123_28, gf_123_29, gf_123_30, pt_123_30, gf_123_31, pt_123_31, gf_123_32, pt_123_32, gf_123_33, pt_123_33, gf_123_34, pt_123_34_0, pt_123_34_1, gf_123_35, gf_123_36, gf_123_37, gf_123_38, pt_123_38, gf_123_39, pt_123_39, gf_123_40, pt_123_40, gf_123_41, gf_123_42, gf_123_43, gf_123_44, gf_123_45, gf_123_46, gf_123_47, pt_123_47, sp_in, k0, k10, l1, l15, (show (0 : Int32) ≤ 0 ∧ (0 : Int32) < 2 by decide), and_self, if_true, not_false_eq_true, (show ¬ (1 : Int32) = 0 by decide), a3, a0, if_false]
    · have x0 : ¬ nI i < 0 := Int32.not_lt.mpr ((nI_leI (a := 0) (b := i) (by decide) (by omega)).mpr (by omega))
      refine ⟨S, S 81 3, N', ?_, ?_, a4⟩
      · rw [ms89]; simp only [q89_0, q89_1, q89_3, q89_4, q89_5, q89_6, q89_9, q89_10, q89_11, q89_14, q89_15, q89_17, q89_20, q89_21, q89_23, q89_26, q89_27, q89_28, q89_29, q89_32, q89_35, q89_36, q89_37, q89_40, q89_41, q89_42, q89_45, q89_46, q89_47, q89_48, q89_51, q89_52, q89_55, q89_58, q89_59, q89_60, q89_61, q89_64, q89_65, q89_68, q89_71, q89_72, q89_73, q89_76, q89_77, n10, n01, Bool.false_eq_true, ab_bs, ab_bn, ab_pr0, ab_pr1, nl_n, nl_i, nl_r, nl_j, nl_nl, rc_0, gf_0_0, gf_0_1, gf_0_2, gf_0_3, gf_0_4, gf_0_5, gf_0_6, gf_0_7, gf_0_8, gf_0_9, pt_0_9, rc_81, gf_81_0, gf_81_1, gf_81_2, gf_81_3, pt_81_3, gf_81_4, gf_81_5, gf_81_6, pt_81_6, if_true, a2, x0, if_false, (show ¬ (0 : Int32) = 1 by decide), not_true, not_false_eq_true]
      · rw [ms171]; simp only [q171_0, q171_1, q171_2, q171_3, q171_4, q171_7, q171_10, q171_11, q171_12, q171_15, q171_18, q171_21, q171_24, q171_25, q171_26, q171_27, q171_30, q171_31, q171_32, q171_35, q171_36, q171_37, q171_38, q171_41, q171_42, q171_45, q171_48, q171_49, q171_50, q171_53, q171_54, q171_57, q171_60, q171_61, q171_63, q171_64, q171_65, q171_68, q171_71, q171_72, q171_75, q171_76, q171_78, q171_79, q171_80, q171_83, q171_84, n10, n01, Bool.false_eq_true, ab_bs, ab_bn, ab_pr0, ab_pr1, nl_n, nl_i, nl_r, nl_j, nl_nl, rc_123, gf_123_0, gf_123_1, pt_123_1, gf_123_2, pt_123_2, gf_123_3, pt_123_3, gf_123_4, pt_123_4, gf_123_5, pt_123_5, gf_123_6, pt_123_6, gf_123_7, pt_123_7, gf_123_8, pt_123_8, gf_123_9, gf_123_10, gf_123_11, gf_123_12, gf_123_13, pt_123_13_0, pt_123_13_1, gf_123_14, pt_123_14_0, pt_123_14_1, gf_123_15, gf_123_16, gf_123_17, gf_123_18, gf_123_19, gf_123_20, gf_123_21, gf_123_22, gf_123_23, gf_123_24, gf_123_25, pt_123_25, gf_123_26, gf_123_27, pt_123_27, gf_123_28, pt_123_28, gf_123_29, gf_123_30, pt_123_30, gf_123_31, pt_123_31, gf_123_32, pt_123_32, gf_123_33, pt_123_33, gf_123_34, pt_123_34_0, pt_123_34_1, gf_123_35, gf_123_36, gf_123_37, gf_123_38, pt_123_38, gf_123_39, pt_123_39, gf_123_40, pt_123_40, gf_123_41, gf_123_42, gf_123_43, gf_123_44, gf_123_45, gf_123_46, gf_123_47, pt_123_47, sp_in, k0, k10, l1, l15, (show (0 : Int32) ≤ 0 ∧ (0 : Int32) < 2 by decide), and_self, if_true, not_false_eq_true, (show ¬ (1 : Int32) = 0 by decide), a3, not_true, if_false, a6]
  · by_cases q1 : what = 1
    · subst q1
      rcases ok with ⟨a, S, N', a1, a2, a3, a4⟩ | ⟨S, N', h6, a2, a3, a4, a5, a6, a7⟩
      · have a0 : ¬ a = 0 := fun e => absurd a1 (by rw [e]; decide)
        refine ⟨S, a, N', ?_, ?_, a4⟩
        · rw [ms89]; simp only [q89_0, q89_1, q89_3, q89_4, q89_5, q89_6, q89_9, q89_10, q89_11, q89_14, q89_15, q89_17, q89_20, q89_21, q89_23, q89_26, q89_27, q89_28, q89_29, q89_32, q89_35, q89_36, q89_37, q89_40, q89_41, q89_42, q89_45, q89_46, q89_47, q89_48, q89_51, q89_52, q89_55, q89_58, q89_59, q89_60, q89_61, q89_64, q89_65, q89_68, q89_71, q89_72, q89_73, q89_76, q89_77, n10, n01, Bool.false_eq_true, ab_bs, ab_bn, ab_pr0, ab_pr1, nl_n, nl_i, nl_r, nl_j, nl_nl, rc_0, gf_0_0, gf_0_1, gf_0_2, gf_0_3, gf_0_4, gf_0_5, gf_0_6, gf_0_7, gf_0_8, gf_0_9, pt_0_9, rc_81, gf_81_0, gf_81_1, gf_81_2, gf_81_3, pt_81_3, gf_81_4, gf_81_5, gf_81_6, pt_81_6, if_true, if_false, q0, a2, a1]
        · rw [ms171]; simp only [q171_0, q171_1, q171_2, q171_3, q171_4, q171_7, q171_10, q171_11, q171_12, q171_15, q171_18, q171_21, q171_24, q171_25, q171_26, q171_27, q171_30, q171_31, q171_32, q171_35, q171_36, q171_37, q171_38, q171_41, q171_42, q171_45, q171_48, q171_49, q171_50, q171_53, q171_54, q171_57, q171_60, q171_61, q171_63, q171_64, q171_65, q171_68, q171_71, q171_72, q171_75, q171_76, q171_78, q171_79, q171_80, q171_83, q171_84, n10, n01, Bool.false_eq_true, ab_bs, ab_bn, ab_pr0, ab_pr1, nl_n, nl_i, nl_r, nl_j, nl_nl, rc_123, gf_123_0, gf_123_1, pt_123_1, gf_123_2, pt_123_2, gf_123_3, pt_123_3, gf_123_4, pt_123_4, gf_123_5, pt_123_5, gf_123_6, pt_123_6, gf_123_7, pt_123_7, gf_123_8, pt_123_8, gf_123_9, gf_123_10, gf_123_11, gf_123_12, gf_123_13, pt_123_13_0, pt_123_13_1, gf_123_14, pt_123_14_0, pt_123_14_1, gf_123_15, gf_123_16, gf_123_17, gf_123_18, gf_123_19, gf_123_20, gf_123_21, gf_123_22, gf_123_23, gf_123_24, gf_123_25, pt_123_25, gf_123_26, gf_123_27, pt_123_27, gf_123_28, pt_123_28, gf_123_29, gf_123_30, pt_123_30, gf_123_31, pt_123_31, gf_123_32, pt_123_32, gf_123_33, pt_123_33, gf_123_34, pt_123_34_0, pt_123_34_1, gf_123_35, gf_123_36, gf_123_37, gf_123_38, pt_123_38, gf_123_39, pt_123_39, gf_123_40, pt_123_40, gf_123_41, gf_123_42, gf_123_43, gf_123_44, gf_123_45, gf_123_46, gf_123_47, pt_123_47, sp_in, k0, k10, l1, l15, (show (0 : Int32) ≤ 1 ∧ (1 : Int32) < 2 by decide), and_self, if_true, not_false_eq_true, (show ¬ (1 : Int32) = 0 by decide), a3, a0, if_false]
      · have x0 : ¬ nI i < 0 := Int32.not_lt.mpr ((nI_leI (a := 0) (b := i) (by decide) (by omega)).mpr (by omega))
        refine ⟨S, nI i, N', ?_, ?_, a4⟩
        · rw [ms89]; simp only [q89_0, q89_1, q89_3, q89_4, q89_5, q89_6, q89_9, q89_10, q89_11, q89_14, q89_15, q89_17, q89_20, q89_21, q89_23, q89_26, q89_27, q89_28, q89_29, q89_32, q89_35, q89_36, q89_37, q89_40, q89_41, q89_42, q89_45, q89_46, q89_47, q89_48, q89_51, q89_52, q89_55, q89_58, q89_59, q89_60, q89_61, q89_64, q89_65, q89_68, q89_71, q89_72, q89_73, q89_76, q89_77, n10, n01, Bool.false_eq_true, ab_bs, ab_bn, ab_pr0, ab_pr1, nl_n, nl_i, nl_r, nl_j, nl_nl, rc_0, gf_0_0, gf_0_1, gf_0_2, gf_0_3, gf_0_4, gf_0_5, gf_0_6, gf_0_7, gf_0_8, gf_0_9, pt_0_9, rc_81, gf_81_0, gf_81_1, gf_81_2, gf_81_3, pt_81_3, gf_81_4, gf_81_5, gf_81_6, pt_81_6, if_true, q0, a2, x0, if_false, not_true, not_false_eq_true]
        · rw [ms171]; simp only [q171_0, q171_1, q171_2, q171_3, q171_4, q171_7, q171_10, q171_11, q171_12, q171_15, q171_18, q171_21, q171_24, q171_25, q171_26, q171_27, q171_30, q171_31, q171_32, q171_35, q171_36, q171_37, q171_38, q171_41, q171_42, q171_45, q171_48, q171_49, q171_50, q171_53, q171_54, q171_57, q171_60, q171_61, q171_63, q171_64, q171_65, q171_68, q171_71, q171_72, q171_75, q171_76, q171_78, q171_79, q171_80, q171_83, q171_84, n10, n01, Bool.false_eq_true, ab_bs, ab_bn, ab_pr0, ab_pr1, nl_n, nl_i, nl_r, nl_j, nl_nl, rc_123, gf_123_0, gf_123_1, pt_123_1, gf_123_2, pt_123_2, gf_123_3, pt_123_3, gf_123_4, pt_123_4, gf_123_5, pt_123_5, gf_123_6, pt_123_6, gf_123_7, pt_123_7, gf_123_8, pt_123_8, gf_123_9, gf_123_10, gf_123_11, gf_123_12, gf_123_13, pt_123_13_0, pt_123_13_1, gf_123_14, pt_123_14_0, pt_123_14_1, gf_123_15, gf_123_16, gf_123_17, gf_123_18, gf_123_19, gf_123_20, gf_123_21, gf_123_22, gf_123_23, gf_123_24, gf_123_25, pt_123_25, gf_123_26, gf_123_27, pt_123_27, gf_123_28, pt_123_28, gf_123_29, gf_123_30, pt_123_30, gf_123_31, pt_123_31, gf_123_32, pt_123_32, gf_123_33, pt_123_33, gf_123_34, pt_123_34_0, pt_123_34_1, gf_123_35, gf_123_36, gf_123_37, gf_123_38, pt_123_38, gf_123_39, pt_123_39, gf_123_40, pt_123_40, gf_123_41, gf_123_42, gf_123_43, gf_123_44, gf_123_45, gf_123_46, gf_123_47, pt_123_47, sp_in, k0, k10, l1, l15, (show (0 : Int32) ≤ 1 ∧ (1 : Int32) < 2 by decide), and_self, if_true, not_false_eq_true, (show ¬ (1 : Int32) = 0 by decide), a3, not_true, if_false, a5]
    · by_cases q2 : 10 ≤ what ∧ what < 16
      · obtain ⟨j, hj, rfl⟩ := rng (b := 16) (by decide) ⟨Int32.le_trans (by decide) q2.1, q2.2⟩
        have hj10 : 10 ≤ j := (nI_leI (a := 10) (b := j) (by decide) (by omega)).mp q2.1
        obtain ⟨k, rfl⟩ : ∃ k, j = k + 10 := ⟨j - 10, by omega⟩
        have e10 : nI (k + 10) - 10 = nI k := by
          rw [← nI_add k 10]
          exact Int32.add_sub_cancel _ _
        have z10 : ¬ nI (k + 10) < 10 := Int32.not_lt.mpr q2.1
        have k6 : nI k < 6 := nI_lt (a := k) (b := 6) (by omega) (by omega)
        have q3 : ¬ (0 ≤ nI (k + 10) ∧ nI (k + 10) < 2) := fun y => by
          have := (nI_ltI (a := k + 10) (b := 2) (by omega) (by decide)).mp y.2
          omega
        rcases ok with ⟨a, S, N', a1, a2, a3, a4⟩ | ⟨S, N', h6, a2, a3, a4, a5, a6, a7⟩
        · have a0 : ¬ a = 0 := fun e => absurd a1 (by rw [e]; decide)
          refine ⟨S, a, N', ?_, ?_, a4⟩
          · rw [ms89]; simp only [q89_0, q89_1, q89_3, q89_4, q89_5, q89_6, q89_9, q89_10, q89_11, q89_14, q89_15, q89_17, q89_20, q89_21, q89_23, q89_26, q89_27, q89_28, q89_29, q89_32, q89_35, q89_36, q89_37, q89_40, q89_41, q89_42, q89_45, q89_46, q89_47, q89_48, q89_51, q89_52, q89_55, q89_58, q89_59, q89_60, q89_61, q89_64, q89_65, q89_68, q89_71, q89_72, q89_73, q89_76, q89_77, n10, n01, Bool.false_eq_true, ab_bs, ab_bn, ab_pr0, ab_pr1, nl_n, nl_i, nl_r, nl_j, nl_nl, rc_0, gf_0_0, gf_0_1, gf_0_2, gf_0_3, gf_0_4, gf_0_5, gf_0_6, gf_0_7, gf_0_8, gf_0_9, pt_0_9, rc_81, gf_81_0, gf_81_1, gf_81_2, gf_81_3, pt_81_3, gf_81_4, gf_81_5, gf_81_6, pt_81_6, if_true, if_false, q0, q1, e10, z10, k6, a2, a1]
          · rw [ms171]; simp only [q171_0, q171_1, q171_2, q171_3, q171_4, q171_7, q171_10, q171_11, q171_12, q171_15, q171_18, q171_21, q171_24, q171_25, q171_26, q171_27, q171_30, q171_31, q171_32, q171_35, q171_36, q171_37, q171_38, q171_41, q171_42, q171_45, q171_48, q171_49, q171_50, q171_53, q171_54, q171_57, q171_60, q171_61, q171_63, q171_64, q171_65, q171_68, q171_71, q171_72, q171_75, q171_76, q171_78, q171_79, q171_80, q171_83, q171_84, n10, n01, Bool.false_eq_true, ab_bs, ab_bn, ab_pr0, ab_pr1, nl_n, nl_i, nl_r, nl_j, nl_nl, rc_123, gf_123_0, gf_123_1, pt_123_1, gf_123_2, pt_123_2, gf_123_3, pt_123_3, gf_123_4, pt_123_4, gf_123_5, pt_123_5, gf_123_6, pt_123_6, gf_123_7, pt_123_7, gf_123_8, pt_123_8, gf_123_9, gf_123_10, gf_123_11, gf_123_12, gf_123_13, pt_123_13_0, pt_123_13_1, gf_123_14, pt_123_14_0, pt_123_14_1, gf_123_15, gf_123_16, gf_123_17, gf_123_18, gf_123_19, gf_123_20, gf_123_21, gf_123_22, gf_123_23, gf_123_24, gf_123_25, pt_123_25, gf_123_26, gf_123_27, pt_123_27, gf_123_28, pt_123_28, gf_123_29, gf_123_30, pt_123_30, gf_123_31, pt_123_31, gf_123_32, pt_123_32, gf_123_33, pt_123_33, gf_123_34, pt_123_34_0, pt_123_34_1, gf_123_35, gf_123_36, gf_123_37, gf_123_38, pt_123_38, gf_123_39, pt_123_39, gf_123_40, pt_123_40, gf_123_41, gf_123_42, gf_123_43, gf_123_44, gf_123_45, gf_123_46, gf_123_47, pt_123_47, sp_in, k0, k10, l1, l15, q3, q2, and_self, if_true, not_false_eq_true, not_true, (show ¬ (1 : Int32) = 0 by decide), a3, a0, if_false]
        · have x0 : ¬ nI i < 0 := Int32.not_lt.mpr ((nI_leI (a := 0) (b := i) (by decide) (by omega)).mpr (by omega))
          by_cases hki : k < i
          · have x1 : ¬ nI i ≤ nI k := nI_ge hki (by omega)
            refine ⟨S, S 82 k, N', ?_, ?_, a4⟩
            · rw [ms89]; simp only [q89_0, q89_1, q89_3, q89_4, q89_5, q89_6, q89_9, q89_10, q89_11, q89_14, q89_15, q89_17, q89_20, q89_21, q89_23, q89_26, q89_27, q89_28, q89_29, q89_32, q89_35, q89_36, q89_37, q89_40, q89_41, q89_42, q89_45, q89_46, q89_47, q89_48, q89_51, q89_52, q89_55, q89_58, q89_59, q89_60, q89_61, q89_64, q89_65, q89_68, q89_71, q89_72, q89_73, q89_76, q89_77, n10, n01, Bool.false_eq_true, ab_bs, ab_bn, ab_pr0, ab_pr1, nl_n, nl_i, nl_r, nl_j, nl_nl, rc_0, gf_0_0, gf_0_1, gf_0_2, gf_0_3, gf_0_4, gf_0_5, gf_0_6, gf_0_7, gf_0_8, gf_0_9, pt_0_9, rc_81, gf_81_0, gf_81_1, gf_81_2, gf_81_3, pt_81_3, gf_81_4, gf_81_5, gf_81_6, pt_81_6, ln_82, al_82, si_82, if_true, q0, q1, e10, z10, k6, a2, x0, x1, if_false, not_true, not_false_eq_true, (show ab_inB (nI k) 6 = true from ib_nI (by omega) (by decide)), nI_clamp (show k < 2 ^ 31 by omega)]
            · rw [ms171]; simp only [q171_0, q171_1, q171_2, q171_3, q171_4, q171_7, q171_10, q171_11, q171_12, q171_15, q171_18, q171_21, q171_24, q171_25, q171_26, q171_27, q171_30, q171_31, q171_32, q171_35, q171_36, q171_37, q171_38, q171_41, q171_42, q171_45, q171_48, q171_49, q171_50, q171_53, q171_54, q171_57, q171_60, q171_61, q171_63, q171_64, q171_65, q171_68, q171_71, q171_72, q171_75, q171_76, q171_78, q171_79, q171_80, q171_83, q171_84, n10, n01, Bool.false_eq_true, ab_bs, ab_bn, ab_pr0, ab_pr1, nl_n, nl_i, nl_r, nl_j, nl_nl, rc_123, gf_123_0, gf_123_1, pt_123_1, gf_123_2, pt_123_2, gf_123_3, pt_123_3, gf_123_4, pt_123_4, gf_123_5, pt_123_5, gf_123_6, pt_123_6, gf_123_7, pt_123_7, gf_123_8, pt_123_8, gf_123_9, gf_123_10, gf_123_11, gf_123_12, gf_123_13, pt_123_13_0, pt_123_13_1, gf_123_14, pt_123_14_0, pt_123_14_1, gf_123_15, gf_123_16, gf_123_17, gf_123_18, gf_123_19, gf_123_20, gf_123_21, gf_123_22, gf_123_23, gf_123_24, gf_123_25, pt_123_25, gf_123_26, gf_123_27, pt_123_27, gf_123_28, pt_123_28, gf_123_29, gf_123_30, pt_123_30, gf_123_31, pt_123_31, gf_123_32, pt_123_32, gf_123_33, pt_123_33, gf_123_34, pt_123_34_0, pt_123_34_1, gf_123_35, gf_123_36, gf_123_37, gf_123_38, pt_123_38, gf_123_39, pt_123_39, gf_123_40, pt_123_40, gf_123_41, gf_123_42, gf_123_43, gf_123_44, gf_123_45, gf_123_46, gf_123_47, pt_123_47, ln_143, al_143, si_143, sp_in, k0, k10, l1, l15, q3, q2, and_self, if_true, not_false_eq_true, not_true, (show ¬ (1 : Int32) = 0 by decide), a3, if_false, a5, e10, x1, q0, q1, (show ab_inB (nI k) 6 = true from ib_nI (by omega) (by decide)), nI_clamp (show k < 2 ^ 31 by omega), (a7 k hki).1]
          · have x1 : nI i ≤ nI k := (nI_leI (by omega) (by omega)).mpr (by omega)
            refine ⟨S, -1, N', ?_, ?_, a4⟩
            · rw [ms89]; simp only [q89_0, q89_1, q89_3, q89_4, q89_5, q89_6, q89_9, q89_10, q89_11, q89_14, q89_15, q89_17, q89_20, q89_21, q89_23, q89_26, q89_27, q89_28, q89_29, q89_32, q89_35, q89_36, q89_37, q89_40, q89_41, q89_42, q89_45, q89_46, q89_47, q89_48, q89_51, q89_52, q89_55, q89_58, q89_59, q89_60, q89_61, q89_64, q89_65, q89_68, q89_71, q89_72, q89_73, q89_76, q89_77, n10, n01, Bool.false_eq_true, ab_bs, ab_bn, ab_pr0, ab_pr1, nl_n, nl_i, nl_r, nl_j, nl_nl, rc_0, gf_0_0, gf_0_1, gf_0_2, gf_0_3, gf_0_4, gf_0_5, gf_0_6, gf_0_7, gf_0_8, gf_0_9, pt_0_9, rc_81, gf_81_0, gf_81_1, gf_81_2, gf_81_3, pt_81_3, gf_81_4, gf_81_5, gf_81_6, pt_81_6, ln_82, al_82, si_82, if_true, q0, q1, e10, z10, k6, a2, x0, x1, if_false, not_true, not_false_eq_true]
            · rw [ms171]; simp only [q171_0, q171_1, q171_2, q171_3, q171_4, q171_7, q171_10, q171_11, q171_12, q171_15, q171_18, q171_21, q171_24, q171_25, q171_26, q171_27, q171_30, q171_31, q171_32, q171_35, q171_36, q171_37, q171_38, q171_41, q171_42, q171_45, q171_48, q171_49, q171_50, q171_53, q171_54, q171_57, q171_60, q171_61, q171_63, q171_64, q171_65, q171_68, q171_71, q171_72, q171_75, q171_76, q171_78, q171_79, q171_80, q171_83, q171_84, n10, n01, Bool.false_eq_true, ab_bs, ab_bn, ab_pr0, ab_pr1, nl_n, nl_i, nl_r, nl_j, nl_nl, rc_123, gf_123_0, gf_123_1, pt_123_1, gf_123_2, pt_123_2, gf_123_3, pt_123_3, gf_123_4, pt_123_4, gf_123_5, pt_123_5, gf_123_6, pt_123_6, gf_123_7, pt_123_7, gf_123_8, pt_123_8, gf_123_9, gf_123_10, gf_123_11, gf_123_12, gf_123_13, pt_123_13_0, pt_123_13_1, gf_123_14, pt_123_14_0, pt_123_14_1, gf_123_15, gf_123_16, gf_123_17, gf_123_18, gf_123_19, gf_123_20, gf_123_21, gf_123_22, gf_123_23, gf_123_24, gf_123_25, pt_123_25, gf_123_26, gf_123_27, pt_123_27, gf_123_28, pt_123_28, gf_123_29, gf_123_30, pt_123_30, gf_123_31, pt_123_31, gf_123_32, pt_123_32, gf_123_33, pt_123_33, gf_123_34, pt_123_34_0, pt_123_34_1, gf_123_35, gf_123_36, gf_123_37, gf_123_38, pt_123_38, gf_123_39, pt_123_39, gf_123_40, pt_123_40, gf_123_41, gf_123_42, gf_123_43, gf_123_44, gf_123_45, gf_123_46, gf_123_47, pt_123_47, ln_143, al_143, si_143, sp_in, k0, k10, l1, l15, q3, q2, and_self, if_true, not_false_eq_true, not_true, (show ¬ (1 : Int32) = 0 by decide), a3, if_false, a5, e10, x1, q0, q1]
      · refine no ⟨fun y => ?_, q2⟩
        rcases rng2 y with e | e
        · exact q0 e
        · exact q1 e
end
