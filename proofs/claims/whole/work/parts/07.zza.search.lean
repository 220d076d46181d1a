/-! BEST: the search of the class -/
theorem ia_ti {x : Int32} (h : -2147483648 < x.toInt) : (ia x).toInt = x.toInt.natAbs := by
  unfold ia
  by_cases q : (0 : Int32) ≤ x
  · rw [if_pos q]
    have : (0 : Int32).toInt ≤ x.toInt := Int32.le_iff_toInt_le.mp q
    have e : (0 : Int32).toInt = 0 := by decide
    omega
  · rw [if_neg q]
    have q2 : ¬ (0 : Int32).toInt ≤ x.toInt := fun y => q (Int32.le_iff_toInt_le.mpr y)
    have e : (0 : Int32).toInt = 0 := by decide
    have u := Int32.toInt_lt x
    rw [ti_sub (by omega) (by omega)]
    omega
theorem mx_wm {M : ab_M} {n : Nat} (h : ∀ p, p < n → -2147483648 < (M 84 p).toInt) : (mxO M n).toInt = wm (fun p => (M 84 p).toInt) n := by
  induction n with
  | zero => rfl
  | succ n ih =>
    have e := ia_ti (h n (by omega))
    have i := ih (fun p hp => h p (by omega))
    rw [mxO_s]
    unfold wm
    by_cases q : mxO M n < ia (M 84 n)
    · have := Int32.lt_iff_toInt_lt.mp q
      rw [if_pos q, e]
      omega
    · have q2 : ¬ (mxO M n).toInt < (ia (M 84 n)).toInt := fun y => q (Int32.lt_iff_toInt_lt.mpr y)
      rw [if_neg q, i]
      rw [i, e] at q2
      omega
/-- what the search leaves alone -/
def SE (S0 S : ab_M) : Prop := ∀ c j, c ≠ 82 → c ≠ 83 → c ≠ 84 → ¬ (c = 81 ∧ j = 3) → S c j = S0 c j
def mkB (n : Nat) (S0 : ab_M) (i p : Nat) : Bool := tb (npV n S0 (S0 (41 + i) 4)) p
def coB (S0 : ab_M) (i : Nat) : Int := (S0 (41 + i) 2).toInt
def SR (R : Nat) (st : Int × (Nat → Nat)) (S : ab_M) : Prop := (S 81 3).toInt = st.1 ∧ (st.1 ≠ 2147483647 → ∀ j, j < R → S 82 j = nI (st.2 j))
def SK (i : Nat) (S S' : ab_M) : Prop := (∀ p, S' 84 p = S 84 p) ∧ ∀ j, j < i → S' 83 j = S 83 j
def HB (n R : Nat) (S0 : ab_M) : Prop := n ≤ 8 ∧ S0 16 3 = nI n ∧ R ≤ 6 ∧ S0 81 6 = nI R ∧ ∀ r, r < R → mk n (npV n S0 (S0 (41 + r) 4)) ∧ 0 ≤ coB S0 r ∧ coB S0 r ≤ 792
theorem npV_SE {n : Nat} {S0 S : ab_M} (h : SE S0 S) (w : Int32) : npV n S w = npV n S0 w := npV_same fun p => h 24 p (by decide) (by decide) (by decide) (by omega)
theorem lf_le {c : Nat → Int} : ∀ (k i : Nat), (∀ j, j < i + k → c j ≤ 792) → lf c k i ≤ 792 * k := by
  intro k
  induction k with
  | zero => intro i _; exact Int.le_refl _
  | succ k ih =>
    intro i h
    have := ih (i + 1) (fun j hj => h j (by omega))
    have := h i (by omega)
    unfold lf
    omega
theorem ad_up {S : ab_M} {i p n : Nat} {c : Int32} (h : -2147483648 ≤ (S 84 p).toInt + c.toInt ∧ (S 84 p).toInt + c.toInt < 2147483648) : (fun q => (ab_up (ab_up S 83 i (nI n)) 84 p (S 84 p + c) 84 q).toInt) = ad (fun q => (S 84 q).toInt) p c.toInt := by
  funext q
  unfold ad
  by_cases e : q = p
  · subst e
    rw [up_s, if_pos rfl, ti_add h.1 h.2]
  · rw [if_neg e, up_o _ _ _ _ _ _ (by omega), up_n (by decide)]
theorem mb_no {left : Int32} {S : ab_M} {p : Nat} {L : Int} (hL : left.toInt = L) (h0 : 0 ≤ L) (h1 : -1000000000 ≤ (S 84 p).toInt - L ∧ (S 84 p).toInt + L ≤ 1000000000) (h : mb left S p = some 0) : (S 81 3).toInt ≤ (S 84 p).toInt ∨ (S 81 3).toInt ≤ -((S 84 p).toInt + L) := by
  unfold mb at h
  have a : (S 84 p + left).toInt = (S 84 p).toInt + L := by rw [ti_add (by omega) (by omega), hL]
  have b : (-(S 84 p + left)).toInt = -((S 84 p).toInt + L) := by
    have e : (0 : Int32).toInt = 0 := by decide
    rw [← Int32.zero_sub, ti_sub (by omega) (by omega)]
    omega
  by_cases q : S 84 p < S 81 3 ∧ -(S 84 p + left) < S 81 3
  · rw [if_pos q] at h
    cases h
  · by_cases q1 : S 84 p < S 81 3
    · right
      have q2 : ¬ -(S 84 p + left) < S 81 3 := fun y => q ⟨q1, y⟩
      rw [Int32.lt_iff_toInt_lt, b] at q2
      omega
    · left
      rw [Int32.lt_iff_toInt_lt] at q1
      omega
theorem mb_yes {left : Int32} {S : ab_M} {p : Nat} {L : Int} (hL : left.toInt = L) (h0 : 0 ≤ L) (h1 : -1000000000 ≤ (S 84 p).toInt - L ∧ (S 84 p).toInt + L ≤ 1000000000) (h : mb left S p = none) : (S 84 p).toInt < (S 81 3).toInt ∧ -((S 84 p).toInt + L) < (S 81 3).toInt := by
  unfold mb at h
  have a : (S 84 p + left).toInt = (S 84 p).toInt + L := by rw [ti_add (by omega) (by omega), hL]
  have b : (-(S 84 p + left)).toInt = -((S 84 p).toInt + L) := by
    have e : (0 : Int32).toInt = 0 := by decide
    rw [← Int32.zero_sub, ti_sub (by omega) (by omega)]
    omega
  by_cases q : S 84 p < S 81 3 ∧ -(S 84 p + left) < S 81 3
  · rw [Int32.lt_iff_toInt_lt, Int32.lt_iff_toInt_lt, b] at q
    exact q
  · rw [if_neg q] at h
    cases h
theorem wm_lt {o : Nat → Int} {n : Nat} {b : Int} (h0 : 0 < b) (h : ∀ p, p < n → o p < b ∧ -(o p) < b) : wm o n < b := by
  induction n with
  | zero => exact h0
  | succ n ih =>
    have := ih (fun p hp => h p (by omega))
    have := h n (by omega)
    unfold wm
    omega
/-- the leaf: all rounds have a buyer -/
theorem sr_leaf {scr : Option (List Int32)} {n R : Nat} {S0 S : ab_M} {left : Int32} {w : Nat → Nat} {st : Int × (Nat → Nat)} (h0 : HB n R S0) (hS : SE S0 S) (hn0 : n = 0 → 0 < st.1) (hl : left.toInt = 0) (ho : ∀ p, p < n → -1000000000 ≤ (S 84 p).toInt ∧ (S 84 p).toInt ≤ 1000000000) (hw : ∀ j, j < R → S 83 j = nI (w j)) (hs : SR R st S) : ∃ S', ab_ms scr 48 [.ref 81, .int (nI R), .int left] S = some (S', none) ∧ SE S0 S' ∧ SK R S S' ∧ SR R (df n (mkB n S0) (coB S0) 0 R (fun p => (S 84 p).toInt) w st) S' := by
  obtain ⟨hn, hM, hR, h6, hr⟩ := h0
  have hM1 : S 16 3 = nI n := by rw [hS _ _ (by decide) (by decide) (by decide) (by decide), hM]
  have h61 : S 81 6 = nI R := by rw [hS _ _ (by decide) (by decide) (by decide) (by decide), h6]
  obtain ⟨m1, m2⟩ := sp_may (scr := scr) hn hM1 left
  unfold df
  by_cases q : ∀ p, p < n → mb left S p = none
  · have hb : wm (fun p => (S 84 p).toInt) n < st.1 := by
      have hp : ∀ p, p < n → (S 84 p).toInt < st.1 ∧ -(S 84 p).toInt < st.1 := fun p hp => by
        have a := mb_yes hl (by omega) (by have := ho p hp; omega) (q p hp)
        rw [hs.1] at a
        omega
      refine wm_lt ?_ hp
      rcases Nat.eq_zero_or_pos n with e | e
      · exact hn0 e
      · have := hp 0 e
        omega
    rw [if_pos hb]
    have e := m1 q
    refine ⟨ab_cpy (ab_up S 81 3 (mxO S n)) 83 82 0 0 6, ?_, fun c j a b d f => ?_, ⟨fun p => ?_, fun j hj => ?_⟩, ?_, fun _ j hj => ?_⟩
    · rw [ms48]
      simp only [q48_0, q48_1, q48_2, q48_5, q48_8, q48_9, q48_10, q48_11, q48_14, q48_17, q48_18, q48_20, q48_23, q48_24, q48_27, q48_28, q48_29, q48_32, q48_33, q48_36, q48_39, q48_40, q48_41, q48_44, q48_47, q48_48, q48_49, q48_52, q48_55, q48_56, q48_57, q48_60, q48_62, q48_63, q48_67, q48_69, q48_72, q48_74, q48_75, q48_78, q48_81, q48_82, q48_85, q48_86, q48_88, q48_89, q48_90, q48_93, q48_95, q48_96, q48_97, q48_99, q48_100, q48_101, q48_102, q48_103, q48_104, q48_105, q48_106, q48_108, q48_109, q48_112, q48_113, q48_116, q48_118, q48_119, q48_120, q48_122, q48_123, q48_124, q48_127, q48_130, n10, n01, Bool.false_eq_true, ab_bs, ab_bn, ab_pr0, ab_pr1, nl_n, nl_i, nl_r, nl_j, nl_nl, rc_81, gf_81_0, gf_81_1, gf_81_2, gf_81_3, pt_81_3, gf_81_4, gf_81_5, gf_81_6, pt_81_6, nI_clamp (show R < 2 ^ 31 by omega)]
      rw [q48_2 (by show Nat.ble 2 _ = true; exact Nat.ble_eq_true_of_le (by omega)) (by simp [rc_81]), e]
      simp only [q48_0, q48_1, q48_5, q48_8, q48_9, q48_10, q48_11, q48_14, q48_17, q48_18, q48_20, q48_23, q48_27, q48_28, q48_29, q48_32, q48_33, q48_36, q48_39, q48_40, q48_41, q48_44, q48_47, q48_48, q48_49, q48_52, q48_55, q48_56, q48_57, q48_60, q48_62, q48_63, q48_67, q48_69, q48_72, q48_74, q48_75, q48_78, q48_81, q48_82, q48_85, q48_86, q48_88, q48_89, q48_90, q48_93, q48_95, q48_96, q48_97, q48_99, q48_100, q48_101, q48_102, q48_103, q48_104, q48_105, q48_106, q48_108, q48_109, q48_112, q48_113, q48_116, q48_118, q48_119, q48_120, q48_122, q48_123, q48_124, q48_127, q48_130, n10, n01, Bool.false_eq_true, ab_bs, ab_bn, ab_pr0, ab_pr1, nl_n, nl_i, nl_r, nl_j, nl_nl, rc_81, gf_81_0, gf_81_1, gf_81_2, gf_81_3, pt_81_3, gf_81_4, gf_81_5, gf_81_6, pt_81_6, h61, nI_rfl, if_true, n10, n01, not_false_eq_true]
      rw [q48_24 (by show Nat.ble 2 _ = true; exact Nat.ble_eq_true_of_le (by omega)) (by simp [rc_81]), sp_take hn hM1]
      simp only [q48_0, q48_1, q48_5, q48_8, q48_9, q48_10, q48_11, q48_14, q48_17, q48_18, q48_20, q48_23, q48_27, q48_28, q48_29, q48_32, q48_33, q48_36, q48_39, q48_40, q48_41, q48_44, q48_47, q48_48, q48_49, q48_52, q48_55, q48_56, q48_57, q48_60, q48_62, q48_63, q48_67, q48_69, q48_72, q48_74, q48_75, q48_78, q48_81, q48_82, q48_85, q48_86, q48_88, q48_89, q48_90, q48_93, q48_95, q48_96, q48_97, q48_99, q48_100, q48_101, q48_102, q48_103, q48_104, q48_105, q48_106, q48_108, q48_109, q48_112, q48_113, q48_116, q48_118, q48_119, q48_120, q48_122, q48_123, q48_124, q48_127, q48_130, n10, n01, Bool.false_eq_true, ab_bs, ab_bn, ab_pr0, ab_pr1, nl_n, nl_i, nl_r, nl_j, nl_nl, not_false_eq_true, if_true]
    · rw [cpy_at, if_neg (by omega), up_o _ _ _ _ _ _ f]
      exact hS c j a b d f
    · rw [cpy_at, if_neg (by omega), up_n (by decide)]
    · rw [cpy_at, if_neg (by omega), up_n (by decide)]
    · rw [cpy_at, if_neg (by omega), up_s]
      exact mx_wm (fun p hp => by have := ho p hp; omega)
    · rw [cpy_at, if_pos ⟨rfl, by omega⟩, up_n (by decide)]
      exact hw j hj
  · obtain ⟨p, hp, hb⟩ : ∃ p, p < n ∧ mb left S p = some 0 := by
      apply Classical.byContradiction
      intro y
      apply q
      intro p hp
      by_cases z : mb left S p = none
      · exact z
      · refine absurd ⟨p, hp, ?_⟩ y
        unfold mb at z ⊢
        split <;> simp_all
    have a := mb_no hl (by omega) (by have := ho p hp; omega) hb
    have g := wm_ge (o := fun p => (S 84 p).toInt) hp
    rw [hs.1] at a
    rw [if_neg (by show ¬ wm _ n < st.1; have : (fun p => (S 84 p).toInt) p = (S 84 p).toInt := rfl; omega)]
    have e := m2 ⟨p, hp, hb⟩
    refine ⟨S, ?_, hS, ⟨fun _ => rfl, fun _ _ => rfl⟩, hs⟩
    rw [ms48]
    simp only [q48_0, q48_1, q48_2, q48_5, q48_8, q48_9, q48_10, q48_11, q48_14, q48_17, q48_18, q48_20, q48_23, q48_24, q48_27, q48_28, q48_29, q48_32, q48_33, q48_36, q48_39, q48_40, q48_41, q48_44, q48_47, q48_48, q48_49, q48_52, q48_55, q48_56, q48_57, q48_60, q48_62, q48_63, q48_67, q48_69, q48_72, q48_74, q48_75, q48_78, q48_81, q48_82, q48_85, q48_86, q48_88, q48_89, q48_90, q48_93, q48_95, q48_96, q48_97, q48_99, q48_100, q48_101, q48_102, q48_103, q48_104, q48_105, q48_106, q48_108, q48_109, q48_112, q48_113, q48_116, q48_118, q48_119, q48_120, q48_122, q48_123, q48_124, q48_127, q48_130, n10, n01, Bool.false_eq_true, ab_bs, ab_bn, ab_pr0, ab_pr1, nl_n, nl_i, nl_r, nl_j, nl_nl, rc_81, gf_81_0, gf_81_1, gf_81_2, gf_81_3, pt_81_3, gf_81_4, gf_81_5, gf_81_6, pt_81_6, nI_clamp (show R < 2 ^ 31 by omega)]
    rw [q48_2 (by show Nat.ble 2 _ = true; exact Nat.ble_eq_true_of_le (by omega)) (by simp [rc_81]), e]
    simp only [q48_0, q48_1, q48_5, q48_8, q48_9, q48_10, q48_11, q48_14, q48_17, q48_18, q48_20, q48_23, q48_27, q48_28, q48_29, q48_32, q48_33, q48_36, q48_39, q48_40, q48_41, q48_44, q48_47, q48_48, q48_49, q48_52, q48_55, q48_56, q48_57, q48_60, q48_62, q48_63, q48_67, q48_69, q48_72, q48_74, q48_75, q48_78, q48_81, q48_82, q48_85, q48_86, q48_88, q48_89, q48_90, q48_93, q48_95, q48_96, q48_97, q48_99, q48_100, q48_101, q48_102, q48_103, q48_104, q48_105, q48_106, q48_108, q48_109, q48_112, q48_113, q48_116, q48_118, q48_119, q48_120, q48_122, q48_123, q48_124, q48_127, q48_130, n10, n01, Bool.false_eq_true, ab_bs, ab_bn, ab_pr0, ab_pr1, nl_n, nl_i, nl_r, nl_j, nl_nl, rc_81, gf_81_0, gf_81_1, gf_81_2, gf_81_3, pt_81_3, gf_81_4, gf_81_5, gf_81_6, pt_81_6, if_true, not_true, if_false]
