/-! Euclid -/
def eu (a b : Nat) : Nat → Nat × Nat
  | 0 => (a, b)
  | k + 1 => ((eu a b k).2, (eu a b k).1 % (eu a b k).2)
theorem eu_s (a b k : Nat) : eu a b (k + 1) = ((eu a b k).2, (eu a b k).1 % (eu a b k).2) := rfl
theorem eu_half {x y : Nat} (h0 : 0 < x % y) (hy : 0 < y) : 2 * (y % (x % y)) < y := by
  have h1 : x % y < y := Nat.mod_lt _ hy
  generalize x % y = r at *
  have h2 : y % r < r := Nat.mod_lt _ h0
  by_cases h : 2 * r ≤ y
  · omega
  · have e : y % r = y - r := by
      rw [Nat.mod_eq_sub_mod (by omega), Nat.mod_eq_of_lt (by omega)]
    omega
theorem eu_lt {a b : Nat} : ∀ i k, (∀ j, j < k + 2 * i → 0 < (eu a b j).2) → (eu a b (k + 2 * i)).2 * 2 ^ i ≤ (eu a b k).2 := by
  intro i
  induction i with
  | zero => intro k _; simp
  | succ i ih =>
    intro k h
    have h1 := ih (k + 2) (fun j hj => h j (by omega))
    rw [show k + 2 + 2 * i = k + 2 * (i + 1) by omega] at h1
    have h2 : 2 * (eu a b (k + 2)).2 < (eu a b k).2 := by
      have a1 := h (k + 1) (by omega)
      have a2 := h k (by omega)
      rw [eu_s (k := k + 1), eu_s] at *
      exact eu_half a1 a2
    rw [Nat.pow_succ]
    have : (eu a b (k + 2 * (i + 1))).2 * (2 ^ i * 2) = 2 * ((eu a b (k + 2 * (i + 1))).2 * 2 ^ i) := by
      rw [← Nat.mul_assoc, Nat.mul_comm]
    omega
theorem eu_end {a b : Nat} (hb : b < 2 ^ 20) (h0 : 0 < b) : ∃ k, 0 < k ∧ k < 42 ∧ (eu a b k).2 = 0 ∧ 0 < (eu a b k).1 ∧ ∀ j, j < k → 0 < (eu a b j).2 := by
  have h1 : ∃ k, k < 42 ∧ decide ((eu a b k).2 = 0) = true := by
    by_cases q : ∃ k, k < 42 ∧ decide ((eu a b k).2 = 0) = true
    · exact q
    · exfalso
      have hp : ∀ j, j < 42 → 0 < (eu a b j).2 := by
        intro j hj
        by_cases e : (eu a b j).2 = 0
        · exact absurd ⟨j, hj, decide_eq_true e⟩ q
        · omega
      have h2 := eu_lt (a := a) (b := b) 20 0 (fun j hj => hp j (by omega))
      have h3 := hp 40 (by decide)
      have h4 : (eu a b 0).2 = b := rfl
      rw [h4, show 0 + 2 * 20 = 40 by decide] at h2
      have : 1 * 2 ^ 20 ≤ (eu a b 40).2 * 2 ^ 20 := Nat.mul_le_mul_right _ h3
      omega
  obtain ⟨k, h2, h3, h4⟩ := ex_least 42 h1
  have h5 : ∀ j, j < k → 0 < (eu a b j).2 := fun j hj => by
    have := h4 j hj
    have := of_decide_eq_false this
    omega
  have hk : 0 < k := by
    rcases Nat.eq_zero_or_pos k with e | e
    · subst e
      have h6 : (eu a b 0).2 = 0 := of_decide_eq_true h3
      have h7 : (eu a b 0).2 = b := rfl
      omega
    · exact e
  refine ⟨k, hk, h2, of_decide_eq_true h3, ?_, h5⟩
  obtain ⟨m, rfl⟩ : ∃ m, k = m + 1 := ⟨k - 1, by omega⟩
  rw [eu_s]
  exact h5 m (by omega)
theorem eu_le {a b : Nat} (k : Nat) : (eu a b k).1 ≤ max a b ∧ (eu a b k).2 ≤ max a b := by
  induction k with
  | zero => exact ⟨Nat.le_max_left _ _, Nat.le_max_right _ _⟩
  | succ k ih =>
    rw [eu_s]
    exact ⟨ih.2, Nat.le_trans (Nat.mod_le _ _) ih.1⟩
theorem lNz {a : Nat} (h : a < 2 ^ 63) : (lN a = 0) = (a = 0) := by
  apply propext
  exact pk_lEQ (b := 0) h (by decide)
/-- the greatest common divisor, by both -/
theorem eu_both {scr : Option (List Int32)} (M M1 : ab_M) (a b : Nat) (ha : a < 2 ^ 62) (hb : b < 2 ^ 20) (h0 : 0 < b) : ∃ g, 0 < g ∧ g < 2 ^ 62 ∧ ab_ms scr 118 [.long (lN a), .long (lN b)] M = some (M, some (.long (lN g))) ∧ ∀ w : Int32, ∃ l : Option Value, ∃ l2 : Option Value, ab_res scr 180 1 M1 17 [some (.long (lN a)), none, some (.long (lN b)), none, some (.int w), some (.long (lN a)), none, some (.long (lN b)), none, none, none] [] = ab_res scr 180 1 M1 42 [some (.long (lN a)), none, some (.long (lN b)), none, some (.int w), some (.long (lN g)), none, some (.long 0), none, l, l2] [] := by
  obtain ⟨k, hk0, hk, e1, e2, e3⟩ := eu_end (a := a) hb h0
  have hm : max a b < 2 ^ 62 := by
    rcases Nat.le_total a b with q | q
    · rw [Nat.max_eq_right q]; omega
    · rw [Nat.max_eq_left q]; exact ha
  have bd := fun j => eu_le (a := a) (b := b) j
  refine ⟨(eu a b k).1, e2, by have := (bd k).1; omega, ?_, fun w => ?_⟩
  · have hx := rx (fun j (s : Option Value × Option Value) => ab_res scr 118 1 M 3 [some (.long (lN (eu a b j).1)), none, some (.long (lN (eu a b j).2)), none, some (.int (nI j)), s.1, s.2] []) (fun _ _ => True) k (none, none) trivial (fun j s hj _ => ?_)
    · obtain ⟨⟨l, l2⟩, x, -⟩ := hx
      rw [ms118]
      simp only [q118_0, q118_1, q118_5, q118_7, q118_10, q118_11, q118_12, q118_13, q118_16, q118_17, q118_18, q118_19, q118_21, q118_22, q118_23, q118_25, q118_26, q118_29, q118_32, q118_33, n10, n01, Bool.false_eq_true, ab_bs, ab_bn, ab_pr0, ab_pr1, nl_n, nl_i, nl_r, nl_j, nl_nl]
      refine Eq.trans x ?_
      have h1 : ¬ (100 : Int32) ≤ nI k := nI_ge (b := 100) (by omega) (by decide)
      show ab_res scr 118 1 M 3 _ [] = _
      rw [q118_3, e1]
      simp only [q118_0, q118_1, q118_5, q118_7, q118_10, q118_11, q118_12, q118_13, q118_16, q118_17, q118_18, q118_19, q118_21, q118_22, q118_23, q118_25, q118_26, q118_29, q118_32, q118_33, n10, n01, Bool.false_eq_true, ab_bs, ab_bn, ab_pr0, ab_pr1, nl_n, nl_i, nl_r, nl_j, nl_nl, h1, if_false, lg_cmp_eq, (show lN 0 = 0 from rfl), if_true]
    · have h1 : ¬ (100 : Int32) ≤ nI j := nI_ge (b := 100) (by omega) (by decide)
      have y1 := bd j
      have y2 := e3 j hj
      have hz : ¬ lN (eu a b j).2 = 0 := by rw [lNz (by omega)]; omega
      refine ⟨(some (.long (lN ((eu a b j).1 % (eu a b j).2))), none), ?_, trivial⟩
      have hr := pk_lRem (a := (eu a b j).1) (b := (eu a b j).2) (by omega) y2 (by omega)
      rw [q118_3]
      simp only [q118_0, q118_1, q118_5, q118_7, q118_10, q118_11, q118_12, q118_13, q118_16, q118_17, q118_18, q118_19, q118_21, q118_22, q118_23, q118_25, q118_26, q118_29, q118_32, q118_33, n10, n01, Bool.false_eq_true, ab_bs, ab_bn, ab_pr0, ab_pr1, nl_n, nl_i, nl_r, nl_j, nl_nl, h1, if_false, lg_cmp_eq, hz, hr, eu_s, nI_succ]
  · have hx := rx (fun j (s : Option Value × Option Value) => ab_res scr 180 1 M1 17 [some (.long (lN a)), none, some (.long (lN b)), none, some (.int w), some (.long (lN (eu a b j).1)), none, some (.long (lN (eu a b j).2)), none, s.1, s.2] []) (fun _ _ => True) k (none, none) trivial (fun j s hj _ => ?_)
    · obtain ⟨⟨l, l2⟩, x, -⟩ := hx
      refine ⟨l, l2, Eq.trans x ?_⟩
      show ab_res scr 180 1 M1 17 _ [] = _
      rw [q180_17, e1]
      simp only [q180_0, q180_1, q180_2, q180_3, q180_6, q180_7, q180_8, q180_11, q180_12, q180_14, q180_15, q180_19, q180_20, q180_21, q180_24, q180_26, q180_28, q180_29, q180_31, q180_33, q180_35, q180_37, q180_39, q180_44, q180_45, q180_46, q180_49, q180_50, q180_53, q180_54, q180_56, q180_57, n10, n01, Bool.false_eq_true, ab_bs, ab_bn, ab_pr0, ab_pr1, nl_n, nl_i, nl_r, nl_j, nl_nl, lg_cmp_eq, (show lN 0 = 0 from rfl), if_true]
    · have y1 := bd j
      have y2 := e3 j hj
      have hz : ¬ lN (eu a b j).2 = 0 := by rw [lNz (by omega)]; omega
      refine ⟨(some (.long (lN ((eu a b j).1 % (eu a b j).2))), none), ?_, trivial⟩
      have hr := pk_lRem (a := (eu a b j).1) (b := (eu a b j).2) (by omega) y2 (by omega)
      rw [q180_17]
      simp only [q180_0, q180_1, q180_2, q180_3, q180_6, q180_7, q180_8, q180_11, q180_12, q180_14, q180_15, q180_19, q180_20, q180_21, q180_24, q180_26, q180_28, q180_29, q180_31, q180_33, q180_35, q180_37, q180_39, q180_44, q180_45, q180_46, q180_49, q180_50, q180_53, q180_54, q180_56, q180_57, n10, n01, Bool.false_eq_true, ab_bs, ab_bn, ab_pr0, ab_pr1, nl_n, nl_i, nl_r, nl_j, nl_nl, if_false, lg_cmp_eq, hz, hr, eu_s]
theorem lo_both {scr : Option (List Int32)} (M M1 : ab_M) (a b : Nat) (ha : a < 2 ^ 62) (hb : b < 2 ^ 20) (h0 : 0 < b) (num : Bool) (w : Int32) (hw : w - w / 2 * 2 = if num = true then 0 else 1) : ∃ v, ab_ms scr 117 [.long (lN a), .long (lN b), .int (if num = true then 1 else 0)] M = some (M, some (.long v)) ∧ ab_ms scr 180 [.long (lN a), .long (lN b), .int w] M1 = some (M1, some (.long v)) := by
  obtain ⟨g, g1, g2, g3, g4⟩ := eu_both (scr := scr) M M1 a b ha hb h0
  obtain ⟨l, l', h⟩ := g4 w
  have hz : ¬ lN g = 0 := by rw [lNz (by omega)]; omega
  have hu : (0 : Int64) ≤ lN a := by
    have := (pk_lLE (a := 0) (b := a) (by decide) (by omega)).mpr (by omega)
    exact this
  cases num with
  | true =>
    have hw : w - w / 2 * 2 = 0 := hw
    refine ⟨lN a / lN g, ?_, ?_⟩
    · rw [ms117]
      simp only [q117_0, q117_1, q117_2, q117_5, q117_7, q117_9, q117_10, q117_11, q117_14, q117_15, q117_16, q117_18, q117_21, q117_22, q117_25, q117_26, q117_28, q117_29, n10, n01, Bool.false_eq_true, ab_bs, ab_bn, ab_pr0, ab_pr1, nl_n, nl_i, nl_r, nl_j, nl_nl, g3, lg_cmp_eq, hz, not_false_eq_true, if_true, if_false]
    · rw [ms180]
      simp only [q180_0, q180_1, q180_2, q180_3, q180_6, q180_7, q180_8, q180_11, q180_12, q180_14, q180_15, q180_19, q180_20, q180_21, q180_24, q180_26, q180_28, q180_29, q180_31, q180_33, q180_35, q180_37, q180_39, q180_44, q180_45, q180_46, q180_49, q180_50, q180_53, q180_54, q180_56, q180_57, n10, n01, Bool.false_eq_true, ab_bs, ab_bn, ab_pr0, ab_pr1, nl_n, nl_i, nl_r, nl_j, nl_nl, lg_cmp_ge, hu, if_true]
      rw [h, q180_42]
      simp only [q180_0, q180_1, q180_2, q180_3, q180_6, q180_7, q180_8, q180_11, q180_12, q180_14, q180_15, q180_19, q180_20, q180_21, q180_24, q180_26, q180_28, q180_29, q180_31, q180_33, q180_35, q180_37, q180_39, q180_44, q180_45, q180_46, q180_49, q180_50, q180_53, q180_54, q180_56, q180_57, n10, n01, Bool.false_eq_true, ab_bs, ab_bn, ab_pr0, ab_pr1, nl_n, nl_i, nl_r, nl_j, nl_nl, hw, show ¬ (2 : Int32) = 0 by decide, if_false, not_true, hz]
  | false =>
    have hw : w - w / 2 * 2 = 1 := hw
    refine ⟨lN b / lN g, ?_, ?_⟩
    · rw [ms117]
      simp only [q117_0, q117_1, q117_2, q117_5, q117_7, q117_9, q117_10, q117_11, q117_14, q117_15, q117_16, q117_18, q117_21, q117_22, q117_25, q117_26, q117_28, q117_29, n10, n01, Bool.false_eq_true, ab_bs, ab_bn, ab_pr0, ab_pr1, nl_n, nl_i, nl_r, nl_j, nl_nl, g3, lg_cmp_eq, hz, not_false_eq_true, if_true, if_false]
    · rw [ms180]
      simp only [q180_0, q180_1, q180_2, q180_3, q180_6, q180_7, q180_8, q180_11, q180_12, q180_14, q180_15, q180_19, q180_20, q180_21, q180_24, q180_26, q180_28, q180_29, q180_31, q180_33, q180_35, q180_37, q180_39, q180_44, q180_45, q180_46, q180_49, q180_50, q180_53, q180_54, q180_56, q180_57, n10, n01, Bool.false_eq_true, ab_bs, ab_bn, ab_pr0, ab_pr1, nl_n, nl_i, nl_r, nl_j, nl_nl, lg_cmp_ge, hu, if_true]
      rw [h, q180_42]
      simp only [q180_0, q180_1, q180_2, q180_3, q180_6, q180_7, q180_8, q180_11, q180_12, q180_14, q180_15, q180_19, q180_20, q180_21, q180_24, q180_26, q180_28, q180_29, q180_31, q180_33, q180_35, q180_37, q180_39, q180_44, q180_45, q180_46, q180_49, q180_50, q180_53, q180_54, q180_56, q180_57, n10, n01, Bool.false_eq_true, ab_bs, ab_bn, ab_pr0, ab_pr1, nl_n, nl_i, nl_r, nl_j, nl_nl, hw, show ¬ (2 : Int32) = 0 by decide, if_false, not_false_eq_true, if_true, hz]
