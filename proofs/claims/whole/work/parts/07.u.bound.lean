/-! how large -/
theorem ti_add {a b : Int32} (h1 : -2147483648 ≤ a.toInt + b.toInt) (h2 : a.toInt + b.toInt < 2147483648) : (a + b).toInt = a.toInt + b.toInt := by
  rw [Int32.toInt_add]
  exact Int.bmod_eq_of_le (by omega) (by omega)
theorem ti_sub {a b : Int32} (h1 : -2147483648 ≤ a.toInt - b.toInt) (h2 : a.toInt - b.toInt < 2147483648) : (a - b).toInt = a.toInt - b.toInt := by
  rw [Int32.toInt_sub]
  exact Int.bmod_eq_of_le (by omega) (by omega)
def sumc (S : ab_M) (i : Nat) : Int := fo (fun r s => s + (S (41 + r) 2).toInt) i 0
def BD (n : Nat) (S : ab_M) : Prop := (∀ p, p < n → ∃ a, 1 ≤ a ∧ a ≤ 99 ∧ S 20 p = nI a) ∧ ∃ i, i ≤ 40 ∧ S 30 3 = nI i ∧ 0 ≤ (S 30 4).toInt ∧ (S 30 4).toInt ≤ 792 * i ∧ (S 30 4).toInt = sumc S i ∧ (∀ r, r < i → 0 ≤ (S (41 + r) 2).toInt ∧ (S (41 + r) 2).toInt ≤ 792) ∧ ∀ p, p < n → 0 ≤ (S (33 + p) 1).toInt ∧ (S (33 + p) 1).toInt ≤ 99 * i ∧ 0 ≤ (S (33 + p) 2).toInt ∧ (S (33 + p) 2).toInt ≤ 792 * i
theorem pr_bd {n : Nat} {S : ab_M} {w : Int32} (hn : n ≤ 8) (h : ∀ p, p < n → ∃ a, 1 ≤ a ∧ a ≤ 99 ∧ S 20 p = nI a) : 0 ≤ (prC n w S).toInt ∧ (prC n w S).toInt ≤ 99 * n := by
  unfold prC
  refine fo_inv (P := fun k (s : Int32) => 0 ≤ s.toInt ∧ s.toInt ≤ 99 * k) n (by decide) (fun k s hk hs => ?_)
  obtain ⟨a, h1, h2, h3⟩ := h k hk
  by_cases ht : tb w k = true
  · rw [if_pos ht, h3]
    have e : (nI a).toInt = a := nI_toInt (by omega)
    rw [ti_add (by omega) (by omega), e]
    omega
  · rw [if_neg ht]
    omega
theorem sumc_s (S : ab_M) (i : Nat) : sumc S (i + 1) = sumc S i + (S (41 + i) 2).toInt := rfl
theorem sumc_eq {S S' : ab_M} {i : Nat} (h : ∀ r, r < i → S' (41 + r) 2 = S (41 + r) 2) : sumc S' i = sumc S i := by
  unfold sumc
  exact fo_congr fun k hk => by rw [h k hk]
theorem BD_same {n : Nat} {S S' : ab_M} (h : BD n S) (h1 : ∀ p, S' 20 p = S 20 p) (h2 : S' 30 3 = S 30 3) (h3 : S' 30 4 = S 30 4) (h4 : ∀ r, S' (41 + r) 2 = S (41 + r) 2) (h5 : ∀ p, p < n → S' (33 + p) 1 = S (33 + p) 1 ∧ S' (33 + p) 2 = S (33 + p) 2) : BD n S' := by
  obtain ⟨a, i, b, c, d, e, f, g, hh⟩ := h
  refine ⟨fun p hp => by rw [h1]; exact a p hp, i, b, by rw [h2, c], by rw [h3]; exact d, by rw [h3]; exact e, by rw [h3, f, sumc_eq fun r _ => h4 r], fun r hr => by rw [h4]; exact g r hr, fun p hp => ?_⟩
  obtain ⟨x, y⟩ := h5 p hp
  rw [x, y]
  exact hh p hp
theorem BD_cg {n : Nat} {m : Int32} {S : ab_M} (hn : n ≤ 8) (h : BD n S) : BD n (cgC n m S) := BD_same h (fun p => cg_lo (by decide) (by decide)) (cg_30 (by decide) (by decide)) (cg_30 (by decide) (by decide)) (fun r => cg_r hn) (fun p hp => by rw [cg_s hp, cg_s hp]; exact ⟨rfl, rfl⟩)
theorem BD_bk {n : Nat} {S : ab_M} (h : BD n S) : BD n (bk S) := BD_same h (fun p => bk_c (by decide)) (bk_j (by decide)) (bk_j (by decide)) (fun r => bk_c (by omega)) (fun p hp => ⟨bk_s, bk_s⟩)
theorem BD_rd {n t : Nat} {m : Int32} {S : ab_M} (hC : CI n t S) (h : BD n S) : BD n (rdC n m S) := by
  unfold rdC
  by_cases hw : wtC S = true
  · rw [if_pos hw]
    obtain ⟨hw1, hw2⟩ := wt_at hw
    by_cases hr : S 30 8 = 6
    · rw [if_pos hr]
      by_cases h0 : owN n S = 0
      · rw [if_pos h0]
        exact BD_bk h
      · rw [if_neg h0]
        have hn := hC.1
        obtain ⟨a, i, b, c, d, e, f, g, hh⟩ := h
        have hi3 : i < 40 := by
          rw [c] at hw2
          exact (nI_ltI (b := 40) (by omega) (by decide)).mp hw2
        obtain ⟨q1, q2⟩ := pr_bd (w := owN n S) hn a
        have e4 : bgO n m S 30 4 = S 30 4 + prC n (owN n S) S := by rw [bgO_30 (by decide)]; simp
        have e4i : (bgO n m S 30 4).toInt = (S 30 4).toInt + (prC n (owN n S) S).toInt := by rw [e4, ti_add (by omega) (by omega)]
        have er : ∀ r, bgO n m S (41 + r) 2 = if r = i then prC n (owN n S) S else S (41 + r) 2 := fun r => by
          rw [bgO_r hn (by decide), c, nI_clamp (by omega)]
          rfl
        refine ⟨fun p hp => by rw [bgO_lo (by decide) (by decide)]; exact a p hp, i + 1, by omega, by rw [bgO_30 (by decide), if_pos rfl, c, nI_1], by rw [e4i]; omega, by rw [e4i]; omega, ?_, fun r hr => ?_, fun p hp => ?_⟩
        · rw [e4i, sumc_s, er, if_pos rfl, f, sumc_eq (S := S) (S' := bgO n m S) fun r hr => by rw [er, if_neg (by omega)]]
        · rw [er]
          by_cases x : r = i
          · rw [if_pos x]; omega
          · rw [if_neg x]; exact g r (by omega)
        · rw [bgO_s hn hp, bgO_s hn hp]
          obtain ⟨y1, y2, y3, y4⟩ := hh p hp
          obtain ⟨z, z1, z2, z3⟩ := a p hp
          have ez : (nI z).toInt = z := nI_toInt (by omega)
          by_cases ht : tb (owN n S) p = true
          · simp only [ht, if_true, (show ¬ (2 = 1) by decide), if_false]
            rw [z3, ti_add (by omega) (by omega), ti_add (by omega) (by omega), ez]
            omega
          · simp only [ht, if_false, Bool.false_eq_true]
            omega
    · rw [if_neg hr]
      by_cases h0 : abC n (prC n (S 30 13) S) S = 0
      · rw [if_pos h0]
        exact BD_bk h
      · rw [if_neg h0]
        obtain ⟨w, hwn, hwb, -⟩ := by_ok hC h0
        rw [hwb, nI_clamp (by have := hC.1; omega)]
        have hn := hC.1
        obtain ⟨a, i, b, c, d, e, f, g, hh⟩ := h
        have hi3 : i < 40 := by
          rw [c] at hw2
          exact (nI_ltI (b := 40) (by omega) (by decide)).mp hw2
        obtain ⟨q1, q2⟩ := pr_bd (w := S 30 13) hn a
        generalize prC n (S 30 13) S = co at *
        have e4 : bgB n m w co (S 30 13) (byM S) 30 4 = S 30 4 + co := by rw [bgB_30 (by decide)]; simp [byM_30]
        have e4i : (bgB n m w co (S 30 13) (byM S) 30 4).toInt = (S 30 4).toInt + co.toInt := by rw [e4, ti_add (by omega) (by omega)]
        have er : ∀ r, bgB n m w co (S 30 13) (byM S) (41 + r) 2 = if r = i then co else S (41 + r) 2 := fun r => by
          rw [bgB_r hn (by omega) (by decide), byM_30 (by decide), byM_n (c := 41 + r) (by omega), c, nI_clamp (by omega)]
          rfl
        refine ⟨fun p hp => by rw [bgB_lo (by decide) (by decide), byM_n (by decide)]; exact a p hp, i + 1, by omega, by rw [bgB_30 (by decide), if_neg (by decide), if_pos rfl, byM_30 (by decide), c, nI_1], by rw [e4i]; omega, by rw [e4i]; omega, ?_, fun r hr => ?_, fun p hp => ?_⟩
        · rw [e4i, sumc_s, er, if_pos rfl, f, sumc_eq (S := S) (S' := bgB n m w co (S 30 13) (byM S)) fun r hr => by rw [er, if_neg (by omega)]]
        · rw [er]
          by_cases x : r = i
          · rw [if_pos x]; omega
          · rw [if_neg x]; exact g r (by omega)
        · rw [bgB_s hn hp, bgB_s hn hp]
          obtain ⟨y1, y2, y3, y4⟩ := hh p hp
          obtain ⟨z, z1, z2, z3⟩ := a p hp
          have ez : (nI z).toInt = z := nI_toInt (by omega)
          have b1 : ∀ j, byM S (33 + p) j = S (33 + p) j := fun j => byM_n (by omega)
          have b2 : byM S 20 p = S 20 p := byM_n (by decide)
          simp only [b1, b2, (show ¬ (1 = 2) by decide), (show ¬ (1 = 4) by decide), (show ¬ (1 = 7) by decide), (show ¬ (2 = 4) by decide), (show ¬ (2 = 7) by decide), (show ¬ (2 = 1) by decide), (show ¬ (2 = 3) by decide), (show ¬ (2 = 6) by decide), and_false, if_false, and_true, if_true]
          have g1 : 0 ≤ (if tb (S 30 13) p = true then S (33 + p) 1 + S 20 p else S (33 + p) 1).toInt ∧ (if tb (S 30 13) p = true then S (33 + p) 1 + S 20 p else S (33 + p) 1).toInt ≤ 99 * (i + 1) := by
            by_cases ht : tb (S 30 13) p = true
            · rw [if_pos ht, z3, ti_add (by omega) (by omega), ez]
              omega
            · rw [if_neg ht]
              omega
          have g2 : 0 ≤ (if p = w then S (33 + p) 2 + co else if tb (S 30 13) p = true then S (33 + p) 2 else S (33 + p) 2).toInt ∧ (if p = w then S (33 + p) 2 + co else if tb (S 30 13) p = true then S (33 + p) 2 else S (33 + p) 2).toInt ≤ 792 * (i + 1) := by
            by_cases hpw : p = w
            · rw [if_pos hpw, ti_add (by omega) (by omega)]
              omega
            · rw [if_neg hpw]
              split <;> omega
          exact ⟨g1.1, by have := g1.2; omega, g2.1, by have := g2.2; omega⟩
  · rw [if_neg hw]
    exact h
theorem BD_ev {n t : Nat} {M : ab_M} (hn : n ≤ 8) (hM : M 16 3 = nI n) (ht : bkV t M) (hb : ∃ b, b < 8 ∧ M 30 10 = nI b) (hp : ∀ p, p < n → ∃ a, 1 ≤ a ∧ a ≤ 99 ∧ M 20 p = nI a) : BD n (evC n M) := by
  have hC0 := CI_clear hn hM ht hb
  have h0 : BD n (fo clG n (cl0 M)) := by
    have e30 : ∀ j, fo clG n (cl0 M) 30 j = cl0 M 30 j := fun j => by rw [fo_clG, if_neg (by omega)]
    refine ⟨fun p hpn => by rw [fo_clG, if_neg (by omega), cl0_o _ _ (by decide)]; exact hp p hpn, 0, by decide, by rw [e30]; simp [cl0, ab_up]; rfl, ?_, ?_, ?_, fun r hr => absurd hr (by omega), fun p hpn => ?_⟩
    · rw [e30]; simp [cl0, ab_up]
    · rw [e30]; simp [cl0, ab_up]
    · rw [e30]; simp [cl0, ab_up, sumc, fo]
    · rw [fo_clG, fo_clG, if_pos (by omega), if_pos (by omega)]
      decide
  unfold evC
  generalize fo clG n (cl0 M) = C0 at *
  have : ∀ k, BD n (fo (fun k S => mnC n (nI k) S) k C0) := by
    intro k
    induction k with
    | zero => exact h0
    | succ k ih => exact BD_rd (CI_cg (CI_k hC0 k)) (BD_cg hn ih)
  exact this 240
/-- what is carried stays -/
theorem ca_ev {n t : Nat} {M : ab_M} (hn : n ≤ 8) (hM : M 16 3 = nI n) (ht : bkV t M) (hb : ∃ b, b < 8 ∧ M 30 10 = nI b) {p : Nat} (hp : p < n) : evC n M (33 + p) 0 = M (33 + p) 0 := by
  have hC0 := CI_clear hn hM ht hb
  have h0 : fo clG n (cl0 M) (33 + p) 0 = M (33 + p) 0 := by rw [fo_clG, if_neg (by omega), cl0_o _ _ (by omega)]
  unfold evC
  generalize fo clG n (cl0 M) = C0 at *
  have hrd : ∀ S m, CI n t S → rdC n m S (33 + p) 0 = S (33 + p) 0 := by
    intro S m hC
    unfold rdC
    split
    · split
      · split
        · exact bk_s
        · rw [bgO_s hn hp]
          split <;> simp
      · split
        · exact bk_s
        · rw [bgB_s hn hp]
          have b1 : ∀ j, byM S (33 + p) j = S (33 + p) j := fun j => byM_n (by omega)
          simp [b1]
    · rfl
  have : ∀ k, (fo (fun k S => mnC n (nI k) S) k C0) (33 + p) 0 = M (33 + p) 0 := by
    intro k
    induction k with
    | zero => exact h0
    | succ k ih =>
      show rdC n (nI k) (cgC n (nI k) _) (33 + p) 0 = _
      rw [hrd _ _ (CI_cg (CI_k hC0 k)), cg_s hp]
      simpa [cgF] using ih
  exact this 240
theorem ou_bd {n : Nat} {H : ab_M} {K : Int} (hK : 0 ≤ K) (hK2 : K ≤ 1000000000) (h : BD n H) {p : Nat} (hp : p < n) (h1 : -K ≤ (H (33 + p) 0).toInt) (h2 : (H (33 + p) 0).toInt ≤ K) : -(K + 31680) ≤ (oX H p).toInt ∧ (oX H p).toInt ≤ K + 31680 ∧ (oX H p).toInt = (H (33 + p) 2).toInt - (H (33 + p) 1).toInt + (H (33 + p) 0).toInt := by
  obtain ⟨-, i, b, -, -, -, -, -, hh⟩ := h
  obtain ⟨y1, y2, y3, y4⟩ := hh p hp
  unfold oX
  have e1 : (H (33 + p) 2 - H (33 + p) 1).toInt = (H (33 + p) 2).toInt - (H (33 + p) 1).toInt := ti_sub (by omega) (by omega)
  rw [ti_add (by rw [e1]; omega) (by rw [e1]; omega), e1]
  omega
