/-! calls: numbers within bounds -/
theorem sp_within {scr : Option (List Int32)} (M : ab_M) (x b : Int32) : ab_ms scr 111 [.int x, .int b] M = some (M, some (.int (if 0 ≤ x ∧ x < b then 1 else 0))) := by
  rw [ms111]
  by_cases h1 : x < 0
  · simp only [q111_0, q111_1, q111_4, q111_5, q111_6, q111_9, q111_10, q111_13, q111_14, n10, n01, Bool.false_eq_true, ab_bs, ab_bn, ab_pr0, ab_pr1, nl_n, nl_i, nl_r, nl_j, nl_nl, h1, if_true, narrow_b0, Int32.not_le.mpr h1, false_and, if_false]
  · by_cases h2 : b ≤ x
    · simp only [q111_0, q111_1, q111_4, q111_5, q111_6, q111_9, q111_10, q111_13, q111_14, n10, n01, Bool.false_eq_true, ab_bs, ab_bn, ab_pr0, ab_pr1, nl_n, nl_i, nl_r, nl_j, nl_nl, h1, h2, if_true, if_false, narrow_b0, Int32.not_lt.mpr h2, and_false]
    · simp only [q111_0, q111_1, q111_4, q111_5, q111_6, q111_9, q111_10, q111_13, q111_14, n10, n01, Bool.false_eq_true, ab_bs, ab_bn, ab_pr0, ab_pr1, nl_n, nl_i, nl_r, nl_j, nl_nl, h1, h2, if_false, narrow_b1, Int32.not_lt.mp h1, Int32.not_le.mp h2, and_self, if_true]
theorem le64 {x : Int32} {n : Nat} {c : Int64} (hn : n < 100000) (hc : c = (nI n).toInt64) : (x.toInt64 ≤ c) = (x < nI (n + 1)) := by
  rw [hc, i64_le]
  apply propext
  rw [Int32.le_iff_toInt_le, Int32.lt_iff_toInt_lt, nI_toInt (by omega), nI_toInt (by omega)]
  omega
theorem l1 {x : Int32} : (x.toInt64 ≤ 1) = (x < 2) := le64 (n := 1) (by decide) (by decide)
theorem l2 {x : Int32} : (x.toInt64 ≤ 2) = (x < 3) := le64 (n := 2) (by decide) (by decide)
theorem l3 {x : Int32} : (x.toInt64 ≤ 3) = (x < 4) := le64 (n := 3) (by decide) (by decide)
theorem l4 {x : Int32} : (x.toInt64 ≤ 4) = (x < 5) := le64 (n := 4) (by decide) (by decide)
theorem l6 {x : Int32} : (x.toInt64 ≤ 6) = (x < 7) := le64 (n := 6) (by decide) (by decide)
theorem l7 {x : Int32} : (x.toInt64 ≤ 7) = (x < 8) := le64 (n := 7) (by decide) (by decide)
theorem l9 {x : Int32} : (x.toInt64 ≤ 9) = (x < 10) := le64 (n := 9) (by decide) (by decide)
theorem l12 {x : Int32} : (x.toInt64 ≤ 12) = (x < 13) := le64 (n := 12) (by decide) (by decide)
theorem l15 {x : Int32} : (x.toInt64 ≤ 15) = (x < 16) := le64 (n := 15) (by decide) (by decide)
theorem l60 {x : Int32} : (x.toInt64 ≤ 60) = (x < 61) := le64 (n := 60) (by decide) (by decide)
theorem l99 {x : Int32} : (x.toInt64 ≤ 99) = (x < 100) := le64 (n := 99) (by decide) (by decide)
theorem l999 {x : Int32} : (x.toInt64 ≤ 999) = (x < 1000) := le64 (n := 999) (by decide) (by decide)
theorem l240 {x : Int32} : (x.toInt64 ≤ 240) = (x < 241) := le64 (n := 240) (by decide) (by decide)
theorem l9999 {x : Int32} : (x.toInt64 ≤ 9999) = (x < 10000) := le64 (n := 9999) (by decide) (by decide)
theorem l99999 {x : Int32} : (x.toInt64 ≤ 99999) = (x < 100000) := le64 (n := 99999) (by decide) (by decide)
theorem k0 {x : Int32} : ((0 : Int64) ≤ x.toInt64) = (0 ≤ x) := by rw [i64_0, i64_le]
theorem k1 {x : Int32} : ((1 : Int64) ≤ x.toInt64) = (1 ≤ x) := by rw [show (1 : Int64) = (1 : Int32).toInt64 by decide, i64_le]
theorem k10 {x : Int32} : ((10 : Int64) ≤ x.toInt64) = (10 ≤ x) := by rw [show (10 : Int64) = (10 : Int32).toInt64 by decide, i64_le]
theorem sp_isRule {scr : Option (List Int32)} (M : ab_M) (x : Int32) : ab_ms scr 160 [.int x] M = some (M, some (.int (if 0 ≤ x ∧ x < 7 then 1 else 0))) := by
  rw [ms160]
  simp only [q160_0, q160_1, q160_2, q160_3, q160_6, q160_9, n10, n01, Bool.false_eq_true, ab_bs, ab_bn, ab_pr0, ab_pr1, nl_n, nl_i, nl_r, nl_j, nl_nl, sp_in, k0, l6, narrow_bi]
theorem rng {x : Int32} {b : Nat} (hb : b < 100000) (h : 0 ≤ x ∧ x < nI b) : ∃ j, j < b ∧ x = nI j := by
  obtain ⟨j, hj, rfl⟩ := nI_of (Int32.not_lt.mpr h.1)
  exact ⟨j, (nI_ltI hj (by omega)).mp h.2, rfl⟩
theorem okR_of {x : Int32} (h : 0 ≤ x ∧ x < 7) : okR x := by
  obtain ⟨j, hj, rfl⟩ := rng (b := 7) (by decide) h
  unfold okR
  have : j = 0 ∨ j = 1 ∨ j = 2 ∨ j = 3 ∨ j = 4 ∨ j = 5 ∨ j = 6 := by omega
  rcases this with rfl | rfl | rfl | rfl | rfl | rfl | rfl <;> decide
/-! what holds between calls -/
def fok (fb : Nat) (K : Int) (M : ab_M) (p : Nat) : Prop := (∃ c g, c < g ∧ g ≤ 240 ∧ M fb p = nI c ∧ M (fb + 1) p = nI g) ∧ (∃ a, 1 ≤ a ∧ a ≤ 99 ∧ M (fb + 2) p = nI a) ∧ (∃ a, 1 ≤ a ∧ a ≤ 99 ∧ M (fb + 3) p = nI a) ∧ (∃ a, a ≤ 999 ∧ M (fb + 4) p = nI a) ∧ (∃ a, a ≤ 9 ∧ M (fb + 5) p = nI a) ∧ (∃ a, a ≤ 1 ∧ M (fb + 6) p = nI a) ∧ -K ≤ (M (fb + 7) p).toInt ∧ (M (fb + 7) p).toInt ≤ K
/-- a page of PEOPLE that is valid -/
def pgV (ob fb n t : Nat) (K : Int) (M : ab_M) : Prop := n ≤ 8 ∧ t ≤ 12 ∧ M ob 3 = nI n ∧ M ob 5 = nI t ∧ (∃ g, 1 ≤ g ∧ g ≤ 8 ∧ M ob 4 = nI g) ∧ (∀ p, p < n → fok fb K M p) ∧ ∀ i, i < t → ∃ q, q < 8 ∧ M (fb + 9) i = nI q
/-- the same page in the reference -/
def pgR (ob fb off n t : Nat) (M : ab_M) : Prop := M 127 (off + 72) = nI n ∧ M 127 (off + 86) = nI t ∧ (∀ w, w < 9 → ∀ p, p < n → M 127 (off + (9 * p + w)) = M (fb + w) p) ∧ ∀ i, i < t → M 127 (off + (74 + i)) = M (fb + 9) i
def imR (k : Nat) (K : Int) (M : ab_M) : Prop := (M (89 + 13 * k) 1 = 0 ∧ M 146 k = 0) ∨ (M (89 + 13 * k) 1 = 1 ∧ M 146 k = 1 ∧ M 123 14 ≠ 0 ∧ ∃ n t, pgV (90 + 13 * k) (92 + 13 * k) n t K M ∧ pgR (90 + 13 * k) (92 + 13 * k) (100 * (k + 1)) n t M ∧ M 127 (100 * (k + 1) + 73) = M (90 + 13 * k) 4)
def shR (k : Nat) (M : ab_M) : Prop := (M (115 + 2 * k) 2 = -1 ∧ M 147 k = -4) ∨ ∃ s l, s ≤ 40 ∧ l < 3 ∧ M (115 + 2 * k) 2 = nI s ∧ M 148 k = nI s ∧ M (115 + 2 * k) 1 = nI l ∧ M 147 k = nI l ∧ ∀ i, i < s → M (116 + 2 * k) i = M 149 (40 * k + i)
def tpR (M : ab_M) : Prop := ∃ L, L ≤ 320 ∧ M 1 1 = nI L ∧ M 123 1 = nI L ∧ ∀ i, i < L → ∃ b, b < 256 ∧ M 2 i = sb_b b ∧ M 124 i = nI b
def ctR (M : ab_M) : Prop := ∀ q ∈ ab_q0, (q.1.1 = 125 ∨ q.1.1 = 126 ∨ ((q.1.1 = 87 ∨ q.1.1 = 88) ∧ q.1.2 = 0)) → M q.1.1 q.1.2 = q.2
def CR (n t : Nat) (K : Int) (M : ab_M) : Prop := pgV 16 18 n t K M ∧ PW n t M M ∧ (∀ k, k < 2 → imR k K M) ∧ (∀ k, k < 4 → shR k M) ∧ tpR M ∧ ctR M ∧ M 3 2 = M 123 2 ∧ M 0 9 = M 123 47
theorem CR_n {n t : Nat} {K : Int} {M : ab_M} (h : CR n t K M) : n ≤ 8 := h.1.1
theorem CR_3 {n t : Nat} {K : Int} {M : ab_M} (h : CR n t K M) : M 16 3 = nI n := h.1.2.2.1
theorem CR_bk {n t : Nat} {K : Int} {M : ab_M} (h : CR n t K M) : bkV t M := ⟨h.1.2.1, h.1.2.2.2.1, h.1.2.2.2.2.2.2⟩
theorem CR_PV {n t : Nat} {K : Int} {M : ab_M} (h : CR n t K M) : PV n M := ⟨fun p hp => (h.1.2.2.2.2.2.1 p hp).1, h.1.2.2.2.2.1⟩
/-- what a call may change that only looks -/
def AX (M M' : ab_M) : Prop := (∀ c j, (c < 30 ∨ (86 < c ∧ c < 123) ∨ (123 < c ∧ c < 127) ∨ c = 128 ∨ 145 < c) → M' c j = M c j) ∧ (∀ j, ¬ (25 ≤ j ∧ j ≤ 34) → j ≠ 14 → ¬ (38 ≤ j ∧ j ≤ 40) → M' 123 j = M 123 j) ∧ (∀ j, j ≠ 73 → M' 127 j = M 127 j) ∧ ((M' 123 14 = M 123 14 ∧ M' 127 73 = M 127 73) ∨ (M' 123 14 ≠ 0 ∧ M' 127 73 = M 16 4))
theorem AX_refl (M : ab_M) : AX M M := ⟨fun _ _ _ => rfl, fun _ _ _ _ => rfl, fun _ _ => rfl, Or.inl ⟨rfl, rfl⟩⟩
theorem AX_trans {A B C : ab_M} (h1 : AX A B) (h2 : AX B C) : AX A C := by
  obtain ⟨a1, a2, a3, a4⟩ := h1
  obtain ⟨b1, b2, b3, b4⟩ := h2
  refine ⟨fun c j h => (b1 c j h).trans (a1 c j h), fun j x y z => (b2 j x y z).trans (a2 j x y z), fun j h => (b3 j h).trans (a3 j h), ?_⟩
  rcases b4 with ⟨x, y⟩ | ⟨x, y⟩
  · rcases a4 with ⟨z, w⟩ | ⟨z, w⟩
    · exact Or.inl ⟨x.trans z, y.trans w⟩
    · exact Or.inr ⟨by rw [x]; exact z, by rw [y, w]⟩
  · exact Or.inr ⟨x, by rw [y, a1 _ _ (by decide)]⟩
theorem pgV_of {ob fb n t : Nat} {K : Int} {M M' : ab_M} (h : pgV ob fb n t K M) (h1 : ∀ j, M' ob j = M ob j) (h2 : ∀ w j, w < 10 → M' (fb + w) j = M (fb + w) j) : pgV ob fb n t K M' := by
  obtain ⟨a, b, c, d, e, f, g⟩ := h
  refine ⟨a, b, by rw [h1, c], by rw [h1, d], by rw [h1]; exact e, fun p hp => ?_, fun i hi => by rw [h2 9 _ (by decide)]; exact g i hi⟩
  have := f p hp
  unfold fok at this ⊢
  have h0 : M' fb p = M fb p := h2 0 p (by decide)
  rw [h0, h2 1 _ (by decide), h2 2 _ (by decide), h2 3 _ (by decide), h2 4 _ (by decide), h2 5 _ (by decide), h2 6 _ (by decide), h2 7 _ (by decide)]
  exact this
theorem pgR_of {ob fb off n t : Nat} {M M' : ab_M} (h : pgR ob fb off n t M) (hn : n ≤ 8) (ht : t ≤ 12) (h2 : ∀ w j, w < 10 → M' (fb + w) j = M (fb + w) j) (h3 : ∀ j, j < 100 → j ≠ 73 → M' 127 (off + j) = M 127 (off + j)) : pgR ob fb off n t M' := by
  obtain ⟨a, b, c, d⟩ := h
  exact ⟨by rw [h3 _ (by decide) (by decide), a], by rw [h3 _ (by decide) (by decide), b], fun w hw p hp => by rw [h3 _ (by omega) (by omega), h2 _ _ (by omega)]; exact c w hw p hp, fun i hi => by rw [h3 _ (by omega) (by omega), h2 _ _ (by decide)]; exact d i hi⟩
theorem CR_ax {n t : Nat} {K : Int} {M M' : ab_M} (h : CR n t K M) (hx : AX M M') : CR n t K M' := by
  obtain ⟨h1, h2, h3, h4, h5, h6, h7, h8⟩ := h
  obtain ⟨x1, x2, x3, x4⟩ := hx
  have y : ∀ c j, c < 30 → M' c j = M c j := fun c j hc => x1 c j (Or.inl hc)
  have y2 : ∀ c j, 86 < c → c < 123 → M' c j = M c j := fun c j a b => x1 c j (by omega)
  refine ⟨pgV_of h1 (fun j => y _ _ (by decide)) (fun w j hw => y _ _ (by omega)), ?_, fun k hk => ?_, fun k hk => ?_, ?_, ?_, ?_, ?_⟩
  · obtain ⟨a, b, c, d, e⟩ := h2
    have hn := h1.1
    have ht := h1.2.1
    refine ⟨by rw [x3 _ (by decide), a], ?_, by rw [x3 _ (by decide), c], fun w hw p hp => by rw [x3 _ (by omega), y _ _ (by omega)]; exact d w hw p hp, fun i hi => by rw [x3 _ (by omega), y _ _ (by decide)]; exact e i hi⟩
    rw [y 16 _ (by decide)]
    rcases x4 with ⟨u, v⟩ | ⟨u, v⟩
    · rw [u, v]; exact b
    · exact Or.inr ⟨u, v⟩
  · rcases h3 k hk with ⟨a, b⟩ | ⟨a, b, c, n', t', d, e, f⟩
    · exact Or.inl ⟨by rw [y2 _ _ (by omega) (by omega), a], by rw [x1 _ _ (by omega), b]⟩
    · refine Or.inr ⟨by rw [y2 _ _ (by omega) (by omega), a], by rw [x1 _ _ (by omega), b], ?_, n', t', pgV_of d (fun j => y2 _ _ (by omega) (by omega)) (fun w j hw => y2 _ _ (by omega) (by omega)), pgR_of e d.1 d.2.1 (fun w j hw => y2 _ _ (by omega) (by omega)) (fun j _ _ => x3 _ (by omega)), by rw [x3 _ (by omega), y2 _ _ (by omega) (by omega), f]⟩
      rcases x4 with ⟨u, v⟩ | ⟨u, v⟩
      · rw [u]; exact c
      · exact u
  · rcases h4 k hk with ⟨a, b⟩ | ⟨s, l, a, b, c, d, e, f, g⟩
    · exact Or.inl ⟨by rw [y2 _ _ (by omega) (by omega), a], by rw [x1 _ _ (by omega), b]⟩
    · exact Or.inr ⟨s, l, a, b, by rw [y2 _ _ (by omega) (by omega), c], by rw [x1 _ _ (by omega), d], by rw [y2 _ _ (by omega) (by omega), e], by rw [x1 _ _ (by omega), f], fun i hi => by rw [y2 _ _ (by omega) (by omega), x1 _ _ (by omega)]; exact g i hi⟩
  · obtain ⟨L, a, b, c, d⟩ := h5
    exact ⟨L, a, by rw [y _ _ (by decide), b], by rw [x2 _ (by decide) (by decide) (by decide), c], fun i hi => by rw [y _ _ (by decide), x1 _ _ (by decide)]; exact d i hi⟩
  · intro q hq hq2
    rw [x1 _ _ (by omega)]
    exact h6 q hq hq2
  · rw [y _ _ (by decide), x2 _ (by decide) (by decide) (by decide), h7]
  · rw [y _ _ (by decide), x2 _ (by decide) (by decide) (by decide), h8]
/-- the class's part of what only looks -/
def FA (M M1 : ab_M) : Prop := ∀ c j, (c < 30 ∨ 86 < c) → M1 c j = M c j
theorem FA_refl (M : ab_M) : FA M M := fun _ _ _ => rfl
theorem FA_trans {A B C : ab_M} (h1 : FA A B) (h2 : FA B C) : FA A C := fun c j h => (h2 c j h).trans (h1 c j h)
theorem FA_of {M M1 : ab_M} (h : FC M M1) : FA M M1 := fun c j hc => h c j (by omega)
theorem FA_up {M : ab_M} {c j : Nat} {v : Int32} (h : 30 ≤ c ∧ c ≤ 86) : FA M (ab_up M c j v) := fun a i ha => up_n (by omega)
theorem AX_FA {M M1 : ab_M} (h : FA M M1) : AX M M1 := ⟨fun c j hc => h c j (by omega), fun j _ _ _ => h _ _ (by decide), fun j _ => h _ _ (by decide), Or.inl ⟨h _ _ (by decide), h _ _ (by decide)⟩⟩
theorem AX_FG {n t : Nat} {N N' H : ab_M} (h : FG N N') (hz : RZ n t N' H) (h4 : H 16 4 = N 16 4) : AX N N' := by
  obtain ⟨a, b, c, d⟩ := h
  refine ⟨fun x j hx => ?_, fun j h1 h2 _ => b j h1 h2, c, Or.inr ⟨d, by rw [hz.1.1.2.1, h4]⟩⟩
  by_cases e : x = 123
  · omega
  · exact a x j (by omega)
/-- hold, and evenings behind it -/
theorem both {scr : Option (List Int32)} {n t : Nat} {K : Int} {M : ab_M} (h : CR n t K M) (rule seed : Int32) (hr : okR rule) : (ab_ms scr 113 [.ref 0, .int rule, .int seed] M = some (hoC n rule seed M, none) ∧ CI n t (hoC n rule seed M) ∧ FC M (hoC n rule seed M)) ∧ ∀ M1, FA M M1 → ∃ N', ab_ms scr 159 [.ref 123, .int rule, .int seed] M1 = some (N', none) ∧ RZ n t N' (hoC n rule seed M) ∧ AX M N' := by
  have hn := CR_n h
  have h1 := sp_hold (scr := scr) M n t hn (CR_3 h) (CR_bk h) rule seed
  refine ⟨h1, fun M1 hM1 => ?_⟩
  have hw : PW n t M1 M := PW_of h.2.1 (fun _ _ _ => rfl) (fun j => hM1 _ _ (by decide)) (hM1 _ _ (by decide))
  obtain ⟨N', a, b, c⟩ := rp_evenings (scr := scr) hn (CR_3 h) (CR_bk h) hw (CR_PV h) rule seed hr
  exact ⟨N', a, b, AX_trans (AX_FA hM1) (AX_FG c b (by rw [h1.2.2 16 4 (by decide), hM1 16 4 (by decide)]))⟩
