/-! table: the tokens of the text -/
theorem sb_tst : ∀ b, b < 256 → ((sb_b b = 32) = (b = 32)) ∧ ((sb_b b = 59) = (b = 59)) ∧ ((¬ sb_b b < 97 ∧ ¬ 122 < sb_b b) = (97 ≤ b ∧ b ≤ 122)) ∧ ((¬ sb_b b < 48 ∧ ¬ 57 < sb_b b) = (48 ≤ b ∧ b ≤ 57)) ∧ ((48 ≤ b ∧ b ≤ 57) → sb_b b = nI b) := by
  have : ∀ b, b < 256 → (decide (sb_b b = 32) = decide (b = 32)) ∧ (decide (sb_b b = 59) = decide (b = 59)) ∧ (decide (¬ sb_b b < 97 ∧ ¬ 122 < sb_b b) = decide (97 ≤ b ∧ b ≤ 122)) ∧ (decide (¬ sb_b b < 48 ∧ ¬ 57 < sb_b b) = decide (48 ≤ b ∧ b ≤ 57)) ∧ ((48 ≤ b ∧ b ≤ 57) → sb_b b = nI b) := by decide +kernel
  intro b hb
  obtain ⟨a1, a2, a3, a4, a5⟩ := this b hb
  exact ⟨propext (decide_eq_decide.mp a1), propext (decide_eq_decide.mp a2), propext (decide_eq_decide.mp a3), propext (decide_eq_decide.mp a4), a5⟩
def isL (b : Nat) : Bool := decide (97 ≤ b ∧ b ≤ 122)
def isF (b : Nat) : Bool := decide (48 ≤ b ∧ b ≤ 57)
theorem sp_letter {scr : Option (List Int32)} (M : ab_M) {b : Nat} (hb : b < 256) : ab_ms scr 75 [.int (sb_b b)] M = some (M, some (.int (if isL b = true then 1 else 0))) := by
  obtain ⟨-, -, h, -⟩ := sb_tst b hb
  have e : isL b = decide (¬ sb_b b < 97 ∧ ¬ 122 < sb_b b) := decide_eq_decide.mpr (by rw [h])
  rw [e, ms75]
  by_cases x : sb_b b < 97
  · simp only [q75_0, q75_1, q75_3, q75_6, q75_7, q75_9, q75_12, q75_13, q75_16, q75_17, n10, n01, Bool.false_eq_true, ab_bs, ab_bn, ab_pr0, ab_pr1, nl_n, nl_i, nl_r, nl_j, nl_nl, decide_eq_true_eq, x, if_true, not_true, false_and, if_false, narrow_b0, narrow_b1]
  · by_cases y : 122 < sb_b b
    · simp only [q75_0, q75_1, q75_3, q75_6, q75_7, q75_9, q75_12, q75_13, q75_16, q75_17, n10, n01, Bool.false_eq_true, ab_bs, ab_bn, ab_pr0, ab_pr1, nl_n, nl_i, nl_r, nl_j, nl_nl, decide_eq_true_eq, x, y, if_true, not_true, and_false, if_false, narrow_b0, narrow_b1]
    · simp only [q75_0, q75_1, q75_3, q75_6, q75_7, q75_9, q75_12, q75_13, q75_16, q75_17, n10, n01, Bool.false_eq_true, ab_bs, ab_bn, ab_pr0, ab_pr1, nl_n, nl_i, nl_r, nl_j, nl_nl, decide_eq_true_eq, x, y, if_true, not_false_eq_true, and_self, if_false, narrow_b0, narrow_b1]
theorem sp_figure {scr : Option (List Int32)} (M : ab_M) {b : Nat} (hb : b < 256) : ab_ms scr 76 [.int (sb_b b)] M = some (M, some (.int (if isF b = true then 1 else 0))) := by
  obtain ⟨-, -, -, h, -⟩ := sb_tst b hb
  have e : isF b = decide (¬ sb_b b < 48 ∧ ¬ 57 < sb_b b) := decide_eq_decide.mpr (by rw [h])
  rw [e, ms76]
  by_cases x : sb_b b < 48
  · simp only [q76_0, q76_1, q76_3, q76_6, q76_7, q76_9, q76_12, q76_13, q76_16, q76_17, n10, n01, Bool.false_eq_true, ab_bs, ab_bn, ab_pr0, ab_pr1, nl_n, nl_i, nl_r, nl_j, nl_nl, decide_eq_true_eq, x, if_true, not_true, false_and, if_false, narrow_b0, narrow_b1]
  · by_cases y : 57 < sb_b b
    · simp only [q76_0, q76_1, q76_3, q76_6, q76_7, q76_9, q76_12, q76_13, q76_16, q76_17, n10, n01, Bool.false_eq_true, ab_bs, ab_bn, ab_pr0, ab_pr1, nl_n, nl_i, nl_r, nl_j, nl_nl, decide_eq_true_eq, x, y, if_true, not_true, and_false, if_false, narrow_b0, narrow_b1]
    · simp only [q76_0, q76_1, q76_3, q76_6, q76_7, q76_9, q76_12, q76_13, q76_16, q76_17, n10, n01, Bool.false_eq_true, ab_bs, ab_bn, ab_pr0, ab_pr1, nl_n, nl_i, nl_r, nl_j, nl_nl, decide_eq_true_eq, x, y, if_true, not_false_eq_true, and_self, if_false, narrow_b0, narrow_b1]
/-- the text, as the class and as the reference hold it -/
def TC (B : Nat → Nat) (L : Nat) (S : ab_M) : Prop := L ≤ 320 ∧ S 1 1 = nI L ∧ ∀ i, i < L → B i < 256 ∧ S 2 i = sb_b (B i)
def TR (B : Nat → Nat) (L : Nat) (N : ab_M) : Prop := L ≤ 320 ∧ N 123 1 = nI L ∧ ∀ i, i < L → B i < 256 ∧ N 124 i = nI (B i)
/-- a token from place s on: spaces up to a, and its signs up to e -/
def TP (B : Nat → Nat) (L s a e : Nat) : Prop := s ≤ a ∧ a ≤ e ∧ e ≤ L ∧ (∀ j, s ≤ j → j < a → B j = 32) ∧ (a < L → B a ≠ 32) ∧ (a < L → a < e) ∧ (a < L → isL (B a) = true → (∀ j, a ≤ j → j < e → isL (B j) = true) ∧ (e < L → isL (B e) = false)) ∧ (a < L → isL (B a) = false → isF (B a) = true → (∀ j, a ≤ j → j < e → isF (B j) = true) ∧ (e < L → isF (B e) = false)) ∧ (a < L → isL (B a) = false → isF (B a) = false → e = a + 1)
def kd (B : Nat → Nat) (L a e : Nat) : Nat := if a < L then (if isL (B a) = true then 1 else if isF (B a) = true then (if e - a ≤ 3 then 2 else 4) else if B a = 59 then 3 else 4) else 0
def nv (B : Nat → Nat) (a k : Nat) : Nat := fo (fun j v => 10 * v + (B (a + j) - 48)) k 0
theorem tp_ex (B : Nat → Nat) {L s : Nat} (h : s ≤ L) : ∃ a e, TP B L s a e := by
  have hs : ∃ a, s ≤ a ∧ a ≤ L ∧ (∀ j, s ≤ j → j < a → B j = 32) ∧ (a < L → B a ≠ 32) := by
    rcases nx_or (fun j => decide (B j ≠ 32)) s (L - s) with ⟨q, h1, h2, h3, h4⟩ | h4
    · exact ⟨q, h1, by omega, fun j a b => by simpa using h4 j a b, fun _ => by simpa using h3⟩
    · exact ⟨L, h, Nat.le_refl _, fun j a b => by simpa using h4 j a (by omega), fun x => absurd x (by omega)⟩
  obtain ⟨a, a1, a2, a3, a4⟩ := hs
  by_cases hL : a < L
  · have hp : ∀ P : Nat → Bool, P (B a) = true → ∃ e, a < e ∧ e ≤ L ∧ (∀ j, a ≤ j → j < e → P (B j) = true) ∧ (e < L → P (B e) = false) := fun P hP => by
      rcases nx_or (fun j => !P (B j)) a (L - a) with ⟨q, h1, h2, h3, h4⟩ | h4
      · refine ⟨q, ?_, by omega, fun j a b => by simpa using h4 j a b, fun _ => by simpa using h3⟩
        rcases Nat.eq_or_lt_of_le h1 with x | x
        · subst x
          simp [hP] at h3
        · exact x
      · exact ⟨L, hL, Nat.le_refl _, fun j a b => by simpa using h4 j a (by omega), fun x => absurd x (by omega)⟩
    by_cases x : isL (B a) = true
    · obtain ⟨e, e1, e2, e3, e4⟩ := hp isL x
      exact ⟨a, e, a1, by omega, e2, a3, a4, fun _ => e1, fun _ _ => ⟨e3, e4⟩, fun _ y => absurd x (by rw [y]; decide), fun _ y => absurd x (by rw [y]; decide)⟩
    · by_cases z : isF (B a) = true
      · obtain ⟨e, e1, e2, e3, e4⟩ := hp isF z
        exact ⟨a, e, a1, by omega, e2, a3, a4, fun _ => e1, fun _ y => absurd y x, fun _ _ _ => ⟨e3, e4⟩, fun _ _ y => absurd z (by rw [y]; decide)⟩
      · exact ⟨a, a + 1, a1, by omega, by omega, a3, a4, fun _ => by omega, fun _ y => absurd y x, fun _ _ y => absurd y z, fun _ _ _ => rfl⟩
  · exact ⟨a, a, a1, Nat.le_refl _, a2, a3, a4, fun y => absurd y hL, fun y => absurd y hL, fun y => absurd y hL, fun y => absurd y hL⟩
theorem nv_lt {B : Nat → Nat} {a : Nat} : ∀ k, (∀ j, j < k → isF (B (a + j)) = true) → nv B a k < 10 ^ k := by
  intro k
  induction k with
  | zero => intro _; exact Nat.zero_lt_one
  | succ k ih =>
    intro h
    have := ih (fun j hj => h j (by omega))
    have h2 := of_decide_eq_true (h k (by omega))
    show 10 * nv B a k + (B (a + k) - 48) < 10 ^ (k + 1)
    rw [Nat.pow_succ]
    omega
section
variable {scr : Option (List Int32)} {B : Nat → Nat} {L : Nat}
theorem TC_up {S : ab_M} (h : TC B L S) {j : Nat} {v : Int32} (hj : j ≠ 1) : TC B L (ab_up S 1 j v) := ⟨h.1, by rw [up_o _ _ _ _ _ _ (by omega)]; exact h.2.1, fun i hi => by rw [up_n (by decide)]; exact h.2.2 i hi⟩
/-- names -/
theorem tk_name {S : ab_M} {a e : Nat} (hT : TC B L S) (ha : S 1 2 = nI a) (h1 : a ≤ e) (h2 : e ≤ L) (h3 : ∀ j, a ≤ j → j < e → isL (B j) = true) (h4 : e < L → isL (B e) = false) : ab_ms scr 73 [.ref 1] S = some (ab_up (ab_up S 1 3 1) 1 2 (nI e), none) := by
  obtain ⟨hL, t1, t2⟩ := TC_up hT (j := 3) (v := 1) (by decide)
  have hL : L ≤ 320 := hL
  have z2 : ab_up S 1 3 1 1 2 = nI a := by rw [up_o _ _ _ _ _ _ (by decide), ha]
  rw [ms73]
  simp only [q73_0, q73_1, q73_2, q73_6, q73_9, q73_10, q73_13, q73_16, q73_17, q73_20, q73_21, q73_24, q73_25, q73_28, q73_31, q73_32, q73_33, q73_36, q73_37, q73_38, q73_41, q73_44, n10, n01, Bool.false_eq_true, ab_bs, ab_bn, ab_pr0, ab_pr1, nl_n, nl_i, nl_r, nl_j, nl_nl, rc_1, gf_1_0, gf_1_1, pt_1_1, gf_1_2, pt_1_2, gf_1_3, pt_1_3, gf_1_4, pt_1_4, gf_1_5, pt_1_5]
  generalize ab_up S 1 3 1 = T at *
  have y : ∀ v j, j < L → ab_up T 1 2 v 1 1 = nI L ∧ ab_up T 1 2 v 2 j = sb_b (B j) ∧ ab_up T 1 2 v 1 2 = v := fun v j hj => ⟨by rw [up_o _ _ _ _ _ _ (by decide), t1], by rw [up_n (by decide), (t2 j hj).2], up_s _ _ _ _⟩
  have e1 := rn (fun k => ab_res scr 73 2 (ab_up T 1 2 (nI (a + k))) 5 [some (.ref 1)] []) (e - a) (fun k hk => ?_)
  · have e0 : ab_up T 1 2 (nI a) = T := by rw [← z2, up_id]
    have e1 : ab_res scr 73 2 (ab_up T 1 2 (nI a)) 5 [some (.ref 1)] [] = ab_res scr 73 2 (ab_up T 1 2 (nI (a + (e - a)))) 5 [some (.ref 1)] [] := e1
    rw [e0, show a + (e - a) = e by omega] at e1
    rw [e1]
    by_cases x : e < L
    · obtain ⟨y1, y2, y3⟩ := y (nI e) e x
      have x1 : ¬ nI L ≤ nI e := nI_ge x (by omega)
      have x2 := sp_letter (scr := scr) (ab_up T 1 2 (nI e)) (t2 e x).1
      rw [h4 x] at x2
      rw [q73_5]
      simp only [q73_0, q73_1, q73_2, q73_6, q73_9, q73_10, q73_13, q73_16, q73_17, q73_20, q73_21, q73_24, q73_25, q73_28, q73_31, q73_32, q73_33, q73_36, q73_37, q73_38, q73_41, q73_44, n10, n01, Bool.false_eq_true, ab_bs, ab_bn, ab_pr0, ab_pr1, nl_n, nl_i, nl_r, nl_j, nl_nl, rc_1, gf_1_0, gf_1_1, pt_1_1, gf_1_2, pt_1_2, gf_1_3, pt_1_3, gf_1_4, pt_1_4, gf_1_5, pt_1_5, ln_2, bl_2, bs_2, y1, y2, y3, x1, x2, if_false, if_true, Bool.false_eq_true, (show ab_inB (nI e) 320 = true from ib_nI (by omega) (by decide)), nI_clamp (show e < 2 ^ 31 by omega)]
    · have x1 : nI L ≤ nI e := (nI_leI (by omega) (by omega)).mpr (by omega)
      have y1 : ab_up T 1 2 (nI e) 1 1 = nI L := by rw [up_o _ _ _ _ _ _ (by decide), t1]
      rw [q73_5]
      simp only [q73_0, q73_1, q73_2, q73_6, q73_9, q73_10, q73_13, q73_16, q73_17, q73_20, q73_21, q73_24, q73_25, q73_28, q73_31, q73_32, q73_33, q73_36, q73_37, q73_38, q73_41, q73_44, n10, n01, Bool.false_eq_true, ab_bs, ab_bn, ab_pr0, ab_pr1, nl_n, nl_i, nl_r, nl_j, nl_nl, rc_1, gf_1_0, gf_1_1, pt_1_1, gf_1_2, pt_1_2, gf_1_3, pt_1_3, gf_1_4, pt_1_4, gf_1_5, pt_1_5, ln_2, bl_2, bs_2, y1, up_s, x1, if_true]
  · obtain ⟨y1, y2, y3⟩ := y (nI (a + k)) (a + k) (by omega)
    have x1 : ¬ nI L ≤ nI (a + k) := nI_ge (by omega) (by omega)
    have x2 := sp_letter (scr := scr) (ab_up T 1 2 (nI (a + k))) (t2 (a + k) (by omega)).1
    rw [if_pos (h3 (a + k) (by omega) (by omega))] at x2
    rw [q73_5]
    simp only [q73_0, q73_1, q73_2, q73_6, q73_9, q73_10, q73_13, q73_16, q73_17, q73_20, q73_21, q73_24, q73_25, q73_28, q73_31, q73_32, q73_33, q73_36, q73_37, q73_38, q73_41, q73_44, n10, n01, Bool.false_eq_true, ab_bs, ab_bn, ab_pr0, ab_pr1, nl_n, nl_i, nl_r, nl_j, nl_nl, rc_1, gf_1_0, gf_1_1, pt_1_1, gf_1_2, pt_1_2, gf_1_3, pt_1_3, gf_1_4, pt_1_4, gf_1_5, pt_1_5, ln_2, bl_2, bs_2, y1, y2, y3, x1, x2, if_false, if_true, (show ¬ (1 : Int32) = 0 by decide), (show ab_inB (nI (a + k)) 320 = true from ib_nI (by omega) (by decide)), nI_clamp (show a + k < 2 ^ 31 by omega), up_up, nI_1, Nat.add_assoc]
/-- numbers -/
def nmC (B : Nat → Nat) (a j : Nat) (S : ab_M) : ab_M := fun c i => if c = 1 ∧ i = 2 then nI (a + j) else if c = 1 ∧ i = 5 then nI (nv B a (min j 3)) else if c = 1 ∧ i = 3 then (if j ≤ 3 then 2 else 4) else S c i
theorem nm_lo {a j : Nat} {S : ab_M} (h : j < 3) : ab_up (ab_up (nmC B a j S) 1 5 (nI (nv B a (j + 1)))) 1 2 (nI (a + j + 1)) = nmC B a (j + 1) S := by
  funext c i
  unfold ab_up nmC
  by_cases e2 : c = 1 ∧ i = 2
  · simp only [if_pos e2, Nat.add_assoc]
  · by_cases e5 : c = 1 ∧ i = 5
    · simp only [if_neg e2, if_pos e5, Nat.min_eq_left (show j + 1 ≤ 3 by omega)]
    · by_cases e3 : c = 1 ∧ i = 3
      · simp only [if_neg e2, if_neg e5, if_pos e3, if_pos (show j ≤ 3 by omega), if_pos (show j + 1 ≤ 3 by omega)]
      · simp only [if_neg e2, if_neg e5, if_neg e3]
theorem nm_hi {a j : Nat} {S : ab_M} (h : 3 ≤ j) : ab_up (ab_up (nmC B a j S) 1 3 4) 1 2 (nI (a + j + 1)) = nmC B a (j + 1) S := by
  funext c i
  unfold ab_up nmC
  by_cases e2 : c = 1 ∧ i = 2
  · simp only [if_pos e2, Nat.add_assoc]
  · by_cases e3 : c = 1 ∧ i = 3
    · have e5 : ¬ (c = 1 ∧ i = 5) := by omega
      simp only [if_neg e2, if_pos e3, if_neg e5, if_neg (show ¬ j + 1 ≤ 3 by omega)]
    · by_cases e5 : c = 1 ∧ i = 5
      · simp only [if_neg e2, if_neg e3, if_pos e5, Nat.min_eq_right (show 3 ≤ j + 1 by omega), Nat.min_eq_right h]
      · simp only [if_neg e2, if_neg e5, if_neg e3]
theorem nm_val {a k : Nat} (hk : k < 3) (h : ∀ j, j < k + 1 → isF (B (a + j)) = true) : nI (nv B a k) * 10 + nI (B (a + k)) - 48 = nI (nv B a (k + 1)) := by
  have hb := of_decide_eq_true (h k (by omega))
  rw [show (10 : Int32) = nI 10 from rfl, pk_mul, nI_add, show (48 : Int32) = nI 48 from rfl, pk_sub (by omega)]
  congr 1
  show nv B a k * 10 + B (a + k) - 48 = 10 * nv B a k + (B (a + k) - 48)
  omega
theorem tk_num {S : ab_M} {a e : Nat} (hT : TC B L S) (ha : S 1 2 = nI a) (h40 : S 1 4 = nI a) (h1 : a ≤ e) (h2 : e ≤ L) (h3 : ∀ j, a ≤ j → j < e → isF (B j) = true) (h4 : e < L → isF (B e) = false) : ab_ms scr 74 [.ref 1] S = some (nmC B a (e - a) S, none) := by
  obtain ⟨hL, t1, t2⟩ := hT
  have e0 : ab_up (ab_up S 1 3 2) 1 5 0 = nmC B a 0 S := by
    funext c i
    unfold ab_up nmC
    by_cases e5 : c = 1 ∧ i = 5
    · rw [if_pos e5, if_neg (by omega), if_pos e5]
      rfl
    · rw [if_neg e5]
      by_cases e3 : c = 1 ∧ i = 3
      · rw [if_pos e3, if_neg (by omega), if_neg e5, if_pos e3]
        rfl
      · rw [if_neg e3]
        by_cases e2 : c = 1 ∧ i = 2
        · rw [if_pos e2, e2.1, e2.2, ha]
          rfl
        · rw [if_neg e2, if_neg e5, if_neg e3]
  have y : ∀ k, nmC B a k S 1 1 = nI L ∧ nmC B a k S 1 2 = nI (a + k) ∧ nmC B a k S 1 4 = nI a ∧ (∀ j, nmC B a k S 2 j = S 2 j) ∧ nmC B a k S 1 5 = nI (nv B a (min k 3)) := fun k => ⟨t1, rfl, h40, fun _ => rfl, rfl⟩
  rw [ms74]
  simp only [q74_0, q74_1, q74_2, q74_5, q74_6, q74_7, q74_11, q74_14, q74_15, q74_18, q74_21, q74_22, q74_25, q74_26, q74_29, q74_30, q74_33, q74_36, q74_37, q74_40, q74_41, q74_44, q74_45, q74_46, q74_49, q74_50, q74_51, q74_54, q74_56, q74_57, q74_58, q74_61, q74_62, q74_65, q74_66, q74_67, q74_69, q74_70, q74_73, q74_76, q74_77, q74_78, q74_81, q74_82, q74_83, q74_86, q74_87, q74_88, q74_91, q74_94, n10, n01, Bool.false_eq_true, ab_bs, ab_bn, ab_pr0, ab_pr1, nl_n, nl_i, nl_r, nl_j, nl_nl, rc_1, gf_1_0, gf_1_1, pt_1_1, gf_1_2, pt_1_2, gf_1_3, pt_1_3, gf_1_4, pt_1_4, gf_1_5, pt_1_5]
  rw [e0]
  have e1 := rn (fun k => ab_res scr 74 2 (nmC B a k S) 10 [some (.ref 1)] []) (e - a) (fun k hk => ?_)
  · refine Eq.trans e1 ?_
    obtain ⟨y1, y2, y3, y4, y5⟩ := y (e - a)
    rw [show a + (e - a) = e by omega] at y2
    show ab_res scr 74 2 (nmC B a (e - a) S) 10 [some (.ref 1)] [] = _
    generalize nmC B a (e - a) S = T at *
    by_cases x : e < L
    · have x1 : ¬ nI L ≤ nI e := nI_ge x (by omega)
      have x2 := sp_figure (scr := scr) T (t2 e x).1
      rw [h4 x] at x2
      rw [q74_10]
      simp only [q74_0, q74_1, q74_2, q74_5, q74_6, q74_7, q74_11, q74_14, q74_15, q74_18, q74_21, q74_22, q74_25, q74_26, q74_29, q74_30, q74_33, q74_36, q74_37, q74_40, q74_41, q74_44, q74_45, q74_46, q74_49, q74_50, q74_51, q74_54, q74_56, q74_57, q74_58, q74_61, q74_62, q74_65, q74_66, q74_67, q74_69, q74_70, q74_73, q74_76, q74_77, q74_78, q74_81, q74_82, q74_83, q74_86, q74_87, q74_88, q74_91, q74_94, n10, n01, Bool.false_eq_true, ab_bs, ab_bn, ab_pr0, ab_pr1, nl_n, nl_i, nl_r, nl_j, nl_nl, rc_1, gf_1_0, gf_1_1, pt_1_1, gf_1_2, pt_1_2, gf_1_3, pt_1_3, gf_1_4, pt_1_4, gf_1_5, pt_1_5, ln_2, bl_2, bs_2, y1, y2, y4, (t2 e x).2, x1, x2, if_false, if_true, Bool.false_eq_true, (show ab_inB (nI e) 320 = true from ib_nI (by omega) (by decide)), nI_clamp (show e < 2 ^ 31 by omega)]
    · have x1 : nI L ≤ nI e := (nI_leI (by omega) (by omega)).mpr (by omega)
      rw [q74_10]
      simp only [q74_0, q74_1, q74_2, q74_5, q74_6, q74_7, q74_11, q74_14, q74_15, q74_18, q74_21, q74_22, q74_25, q74_26, q74_29, q74_30, q74_33, q74_36, q74_37, q74_40, q74_41, q74_44, q74_45, q74_46, q74_49, q74_50, q74_51, q74_54, q74_56, q74_57, q74_58, q74_61, q74_62, q74_65, q74_66, q74_67, q74_69, q74_70, q74_73, q74_76, q74_77, q74_78, q74_81, q74_82, q74_83, q74_86, q74_87, q74_88, q74_91, q74_94, n10, n01, Bool.false_eq_true, ab_bs, ab_bn, ab_pr0, ab_pr1, nl_n, nl_i, nl_r, nl_j, nl_nl, rc_1, gf_1_0, gf_1_1, pt_1_1, gf_1_2, pt_1_2, gf_1_3, pt_1_3, gf_1_4, pt_1_4, gf_1_5, pt_1_5, ln_2, bl_2, bs_2, y1, y2, x1, if_true]
  · obtain ⟨y1, y2, y3, y4, y5⟩ := y k
    have x1 : ¬ nI L ≤ nI (a + k) := nI_ge (by omega) (by omega)
    have x2 := sp_figure (scr := scr) (nmC B a k S) (t2 (a + k) (by omega)).1
    rw [if_pos (h3 (a + k) (by omega) (by omega))] at x2
    have x3 : nI (a + k) - nI a = nI k := by
      rw [pk_sub (by omega), show a + k - a = k by omega]
    have x4 := (sb_tst _ (t2 (a + k) (by omega)).1).2.2.2.2 (of_decide_eq_true (h3 (a + k) (by omega) (by omega)))
    have x5 : S 2 (a + k) = sb_b (B (a + k)) := (t2 (a + k) (by omega)).2
    rw [x4] at x2 x5
    by_cases z : k < 3
    · have z1 : ¬ (3 : Int32) ≤ nI k := nI_ge (a := k) (b := 3) z (by decide)
      have z2 := nm_val (B := B) (a := a) z (fun j hj => h3 (a + j) (by omega) (by omega))
      have z3 := nm_lo (B := B) (a := a) (S := S) z
      have z4 : ab_up (nmC B a k S) 1 5 (nI (nv B a (k + 1))) 1 2 = nI (a + k) := by rw [up_o _ _ _ _ _ _ (by decide), y2]
      rw [Nat.min_eq_left (by omega)] at y5
      generalize nmC B a (k + 1) S = T2 at *
      generalize nmC B a k S = T at *
      rw [q74_10]
      simp only [q74_0, q74_1, q74_2, q74_5, q74_6, q74_7, q74_11, q74_14, q74_15, q74_18, q74_21, q74_22, q74_25, q74_26, q74_29, q74_30, q74_33, q74_36, q74_37, q74_40, q74_41, q74_44, q74_45, q74_46, q74_49, q74_50, q74_51, q74_54, q74_56, q74_57, q74_58, q74_61, q74_62, q74_65, q74_66, q74_67, q74_69, q74_70, q74_73, q74_76, q74_77, q74_78, q74_81, q74_82, q74_83, q74_86, q74_87, q74_88, q74_91, q74_94, n10, n01, Bool.false_eq_true, ab_bs, ab_bn, ab_pr0, ab_pr1, nl_n, nl_i, nl_r, nl_j, nl_nl, rc_1, gf_1_0, gf_1_1, pt_1_1, gf_1_2, pt_1_2, gf_1_3, pt_1_3, gf_1_4, pt_1_4, gf_1_5, pt_1_5, ln_2, bl_2, bs_2, y1, y2, y3, y4, y5, x1, x2, x3, x5, z1, z2, if_false, if_true, (show ¬ (1 : Int32) = 0 by decide), (show ab_inB (nI (a + k)) 320 = true from ib_nI (by omega) (by decide)), nI_clamp (show a + k < 2 ^ 31 by omega), z4, nI_1, z3]
    · have z1 : (3 : Int32) ≤ nI k := (nI_leI (a := 3) (b := k) (by decide) (by omega)).mpr (by omega)
      have z3 := nm_hi (B := B) (a := a) (S := S) (Nat.not_lt.mp z)
      have z4 : ab_up (nmC B a k S) 1 3 4 1 2 = nI (a + k) := by rw [up_o _ _ _ _ _ _ (by decide), y2]
      generalize nmC B a (k + 1) S = T2 at *
      generalize nmC B a k S = T at *
      rw [q74_10]
      simp only [q74_0, q74_1, q74_2, q74_5, q74_6, q74_7, q74_11, q74_14, q74_15, q74_18, q74_21, q74_22, q74_25, q74_26, q74_29, q74_30, q74_33, q74_36, q74_37, q74_40, q74_41, q74_44, q74_45, q74_46, q74_49, q74_50, q74_51, q74_54, q74_56, q74_57, q74_58, q74_61, q74_62, q74_65, q74_66, q74_67, q74_69, q74_70, q74_73, q74_76, q74_77, q74_78, q74_81, q74_82, q74_83, q74_86, q74_87, q74_88, q74_91, q74_94, n10, n01, Bool.false_eq_true, ab_bs, ab_bn, ab_pr0, ab_pr1, nl_n, nl_i, nl_r, nl_j, nl_nl, rc_1, gf_1_0, gf_1_1, pt_1_1, gf_1_2, pt_1_2, gf_1_3, pt_1_3, gf_1_4, pt_1_4, gf_1_5, pt_1_5, ln_2, bl_2, bs_2, y1, y2, y3, y4, y5, x1, x2, x3, x5, z1, if_false, if_true, (show ¬ (1 : Int32) = 0 by decide), (show ab_inB (nI (a + k)) 320 = true from ib_nI (by omega) (by decide)), nI_clamp (show a + k < 2 ^ 31 by omega), z4, nI_1, z3]
end
