/-! BEST: without purses, someone could have paid every round -/
theorem fo_id {α : Type} {g : Nat → α → α} {n : Nat} {a : α} (h : ∀ k s, g k s = s) : fo g n a = a := by
  induction n with
  | zero => rfl
  | succ n ih => show g n (fo g n a) = a; rw [h, ih]
def RN (n : Nat) (S : ab_M) : Prop := S 30 9 = 0 ∧ S 30 8 = 0 ∧ ∃ i, i ≤ 40 ∧ S 30 3 = nI i ∧ ∀ r, r < i → npV n S (S (41 + r) 4) ≠ 0
theorem npV_same {n : Nat} {S S' : ab_M} {w : Int32} (h : ∀ p, S' 24 p = S 24 p) : npV n S' w = npV n S w := by
  unfold npV
  exact fo_congr fun p hp => by rw [h p]
theorem RN_same {n : Nat} {S S' : ab_M} (h : RN n S) (h9 : S' 30 9 = S 30 9) (h8 : S' 30 8 = S 30 8) (h2 : S' 30 3 = S 30 3) (h24 : ∀ p, S' 24 p = S 24 p) (h4 : ∀ r, S' (41 + r) 4 = S (41 + r) 4) : RN n S' := by
  obtain ⟨x, y, i, a, b, c⟩ := h
  exact ⟨by rw [h9, x], by rw [h8, y], i, a, by rw [h2, b], fun r hr => by rw [h4, npV_same h24]; exact c r hr⟩
theorem RN_rd {n t : Nat} {m : Int32} {S : ab_M} (hC : CI n t S) (h : RN n S) : RN n (rdC n m S) := by
  have hn := hC.1
  unfold rdC
  by_cases hw : wtC S = true
  · rw [if_pos hw]
    obtain ⟨hw1, hw2⟩ := wt_at hw
    obtain ⟨x9, x8, i, a, c, g⟩ := h
    have hi3 : i < 40 := by
      rw [c] at hw2
      exact (nI_ltI (b := 40) (by omega) (by decide)).mp hw2
    have hr : ¬ S 30 8 = 6 := by rw [x8]; decide
    rw [if_neg hr]
    by_cases h0 : abC n (prC n (S 30 13) S) S = 0
    · rw [if_pos h0]
      exact RN_same ⟨x9, x8, i, a, c, g⟩ (bk_j (by decide)) (bk_j (by decide)) (bk_j (by decide)) (fun p => bk_c (by decide)) (fun r => bk_c (by omega))
    · rw [if_neg h0]
      have hne : npV n S (S 30 12) ≠ 0 := by
        intro q
        apply h0
        unfold abC
        rw [fo_id (fun k s => by rw [if_pos x9])]
        exact q
      obtain ⟨w, hwn, hwb, -⟩ := by_ok hC h0
      rw [hwb, nI_clamp (by have := hC.1; omega)]
      generalize prC n (S 30 13) S = co at *
      have h24 : ∀ p, bgB n m w co (S 30 13) (byM S) 24 p = S 24 p := fun p => by rw [bgB_lo (by decide) (by decide), byM_n (by decide)]
      refine ⟨by rw [bgB_30 (by decide)]; simp [byM_30, x9], by rw [bgB_30 (by decide)]; simp [byM_30, x8], i + 1, by omega, by rw [bgB_30 (by decide), if_neg (by decide), if_pos rfl, byM_30 (by decide), c, nI_1], fun r hr => ?_⟩
      rw [npV_same h24, bgB_r hn (by omega) (by decide), byM_30 (by decide), byM_n (c := 41 + r) (by omega), c, nI_clamp (by omega)]
      by_cases x : r = i
      · rw [if_pos x, byM_30 (by decide)]
        exact hne
      · rw [if_neg x]
        exact g r (by omega)
  · rw [if_neg hw]
    exact h
theorem RN_ev {n t : Nat} {M : ab_M} (hn : n ≤ 8) (hM : M 16 3 = nI n) (ht : bkV t M) (hb : ∃ b, b < 8 ∧ M 30 10 = nI b) (h9 : M 30 9 = 0) (h8 : M 30 8 = 0) : RN n (evC n M) := by
  have hC0 := CI_clear hn hM ht hb
  have h0 : RN n (fo clG n (cl0 M)) := by
    have e30 : ∀ j, fo clG n (cl0 M) 30 j = cl0 M 30 j := fun j => by rw [fo_clG, if_neg (by omega)]
    refine ⟨?_, ?_, 0, by decide, ?_, fun r hr => absurd hr (by omega)⟩
    · rw [e30]; simp [cl0, ab_up, h9]
    · rw [e30]; simp [cl0, ab_up, h8]
    · rw [e30]; simp [cl0, ab_up]; rfl
  unfold evC
  generalize fo clG n (cl0 M) = C0 at *
  have : ∀ k, RN n (fo (fun k S => mnC n (nI k) S) k C0) := by
    intro k
    induction k with
    | zero => exact h0
    | succ k ih => exact RN_rd (CI_cg (CI_k hC0 k)) (RN_same ih (cg_30 (by decide) (by decide)) (cg_30 (by decide) (by decide)) (cg_30 (by decide) (by decide)) (fun p => cg_lo (by decide) (by decide)) (fun r => cg_r hn))
  exact this 240
theorem RN_fr {n t : Nat} {K : Int} {M : ab_M} (h : CR n t K M) : RN n (frC n M) := by
  have hn := CR_n h
  have e30 : ∀ j, j ≠ 9 → ab_up (opC n 0 0 M) 30 9 0 30 j = opC n 0 0 M 30 j := fun j hj => up_o _ _ _ _ _ _ (by omega)
  have elo : ∀ c j, c < 30 → ab_up (opC n 0 0 M) 30 9 0 c j = M c j := fun c j hc => by rw [up_n (by omega), op_lo hc]
  exact RN_ev hn (by rw [elo _ _ (by decide), CR_3 h]) (bkV_of (CR_bk h) (elo _ _ (by decide)) (fun i => elo _ _ (by decide))) ⟨7, by decide, by rw [e30 _ (by decide), op_30]; rfl⟩ (up_s _ _ _ _) (by rw [e30 _ (by decide), op_30]; simp)
