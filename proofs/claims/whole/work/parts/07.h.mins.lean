/-! a MINUTE of the class -/
def bk (S : ab_M) : ab_M := ab_up S 30 6 (S 30 6 + 1)
def rdC (n : Nat) (m : Int32) (S : ab_M) : ab_M :=
  if wtC S = true then
    (if S 30 8 = 6 then (if owN n S = 0 then bk S else bgO n m S)
     else (if abC n (prC n (S 30 13) S) S = 0 then bk S else bgB n m (byV n (abC n (prC n (S 30 13) S) S) S).toNatClampNeg (prC n (S 30 13) S) (S 30 13) (byM S)))
  else S
def mnC (n : Nat) (m : Int32) (S : ab_M) : ab_M := rdC n m (cgC n m S)
/-- nobody buys -/
def stk (n : Nat) (S : ab_M) : Prop := wtC S = true ∧ ((S 30 8 = 6 ∧ owN n S = 0) ∨ (S 30 8 ≠ 6 ∧ abC n (prC n (S 30 13) S) S = 0))
/-! what is read of it -/
theorem ntC_s {m bu co got : Int32} {M : ab_M} {p j : Nat} (hp : p < 8) : ntC m bu co got M (33 + p) j = M (33 + p) j := by
  unfold ntC
  rw [up_ls, up_ls, up_ls, up_rl (by omega), up_rl (by omega), up_rl (by omega), up_rl (by omega), up_rl (by omega)]
theorem ntC_30 {m bu co got : Int32} {M : ab_M} {j : Nat} : ntC m bu co got M 30 j = if j = 3 then M 30 3 + 1 else if j = 4 then M 30 4 + co else if j = 11 then M 30 11 + 1 else M 30 j := by
  unfold ntC
  simp only [up_ll, up_rl (show 30 < 41 by decide)]
  by_cases e1 : j = 3
  · subst e1; simp
  · by_cases e2 : j = 4
    · subst e2; simp
    · by_cases e3 : j = 11
      · subst e3; simp
      · simp [e1, e2, e3]
def rdV (m bu co got th : Int32) (k : Nat) : Int32 := if k = 0 then m else if k = 1 then bu else if k = 2 then co else if k = 3 then got else th
theorem ntC_r {m bu co got : Int32} {M : ab_M} {r k : Nat} (hk : k < 5) : ntC m bu co got M (41 + r) k = if r = (M 30 3).toNatClampNeg then rdV m bu co got (M 30 12) k else M (41 + r) k := by
  unfold ntC
  rw [up_n (by omega), up_n (by omega), up_n (by omega)]
  generalize (M 30 3).toNatClampNeg = i
  by_cases h : r = i
  · subst h
    rw [if_pos rfl]
    have : k = 0 ∨ k = 1 ∨ k = 2 ∨ k = 3 ∨ k = 4 := by omega
    rcases this with rfl | rfl | rfl | rfl | rfl <;> simp [ab_up, rdV]
  · rw [if_neg h, up_n (by omega), up_n (by omega), up_n (by omega), up_n (by omega), up_n (by omega)]
theorem puC_s {n : Nat} {got m : Int32} {M : ab_M} {p j : Nat} (hp : p < n) : puC n got m M (33 + p) j = puF got m M p j := by
  unfold puC
  rw [up_ls, sw_i hp]
theorem puC_30 {n : Nat} {got m : Int32} {M : ab_M} {j : Nat} : puC n got m M 30 j = if j = 13 then M 30 13 &&& (got ^^^ -1) else M 30 j := by
  unfold puC
  rw [up_ll, sw_c (by decide)]
theorem puC_r {n : Nat} {got m : Int32} {M : ab_M} {r k : Nat} (hn : n ≤ 8) : puC n got m M (41 + r) k = M (41 + r) k := by
  unfold puC
  rw [up_n (by omega), sw_hi hn (by omega)]
theorem evX_n {n : Nat} {M : ab_M} {c j : Nat} (h : ¬ (c = 30 ∧ j = 5)) : evX n M c j = M c j := by
  unfold evX
  rw [up_o _ _ _ _ _ _ h]
section BGO
variable {n : Nat} {m : Int32} {S : ab_M}
theorem bgO_lo {c j : Nat} (h : c < 33) (h2 : c ≠ 30) : bgO n m S c j = S c j := by
  unfold bgO
  rw [evX_n (by omega), sw_c h, puC_lo h h2, ntC_lo (by omega) h2]
theorem bgO_30 {j : Nat} (h5 : j ≠ 5) : bgO n m S 30 j = if j = 3 then S 30 3 + 1 else if j = 4 then S 30 4 + prC n (owN n S) S else if j = 11 then S 30 11 + 1 else if j = 13 then S 30 13 &&& (owN n S ^^^ -1) else S 30 j := by
  unfold bgO
  rw [evX_n (by omega), sw_c (by decide), puC_30, ntC_30, ntC_30]
  by_cases e : j = 13
  · subst e; simp
  · simp only [e, if_false]
theorem bgO_s {p j : Nat} (hn : n ≤ 8) (hp : p < n) : bgO n m S (33 + p) j = if tb (owN n S) p = true then (if j = 1 then S (33 + p) 1 + S 20 p else if j = 2 then S (33 + p) 2 + S 20 p else if j = 3 then S (33 + p) 3 + 1 else if j = 6 then m + S 21 p else S (33 + p) j) else S (33 + p) j := by
  unfold bgO
  rw [evX_n (by omega), sw_i hp]
  unfold poF
  rw [puC_s hp, puC_s hp, puC_lo (by decide) (by decide), ntC_lo (by decide) (by decide)]
  unfold puF
  rw [ntC_s (by omega), ntC_s (by omega), ntC_s (by omega), ntC_s (by omega), ntC_lo (by decide) (by decide), ntC_lo (by decide) (by decide)]
  by_cases ht : tb (owN n S) p = true
  · simp only [ht, if_true]
    by_cases e1 : j = 2
    · subst e1; simp
    · simp [e1]
  · simp only [ht, if_false, Bool.false_eq_true]
theorem bgO_r {r k : Nat} (hn : n ≤ 8) (hk : k < 5) : bgO n m S (41 + r) k = if r = (S 30 3).toNatClampNeg then rdV m (-4) (prC n (owN n S) S) (owN n S) (S 30 12) k else S (41 + r) k := by
  unfold bgO
  rw [evX_n (by omega), sw_hi hn (by omega), puC_r hn, ntC_r hk]
end BGO
section BGB
variable {n : Nat} {m : Int32} {w : Nat} {co em : Int32} {S : ab_M}
theorem bgB_lo {c j : Nat} (h : c < 33) (h2 : c ≠ 30) : bgB n m w co em S c j = S c j := by
  unfold bgB
  rw [evX_n (by omega), pyC_lo h h2, puC_lo h h2, ntC_lo (by omega) h2]
theorem bgB_30 {j : Nat} (h5 : j ≠ 5) : bgB n m w co em S 30 j = if j = 10 then nI w else if j = 3 then S 30 3 + 1 else if j = 4 then S 30 4 + co else if j = 11 then S 30 11 + 1 else if j = 13 then S 30 13 &&& (em ^^^ -1) else S 30 j := by
  unfold bgB pyC
  rw [evX_n (by omega), up_ll, up_sl (by decide), up_sl (by decide), up_sl (by decide), puC_30, ntC_30, ntC_30]
  by_cases e1 : j = 10
  · subst e1; simp
  · by_cases e : j = 13
    · subst e; simp
    · simp only [e, e1, if_false]
theorem bgB_s {p j : Nat} (hn : n ≤ 8) (hp : p < n) : bgB n m w co em S (33 + p) j = if p = w ∧ j = 2 then S (33 + p) 2 + co else if p = w ∧ j = 4 then S (33 + p) 4 + 1 else if p = w ∧ j = 7 then S 30 11 + 1 else if tb em p = true then (if j = 1 then S (33 + p) 1 + S 20 p else if j = 3 then S (33 + p) 3 + 1 else if j = 6 then m + S 21 p else S (33 + p) j) else S (33 + p) j := by
  have hB : ∀ j, puC n em m (ntC m (nI w) co em S) (33 + p) j = if tb em p = true then (if j = 1 then S (33 + p) 1 + S 20 p else if j = 3 then S (33 + p) 3 + 1 else if j = 6 then m + S 21 p else S (33 + p) j) else S (33 + p) j := by
    intro j
    rw [puC_s hp]
    unfold puF
    rw [ntC_s (by omega), ntC_s (by omega), ntC_s (by omega), ntC_lo (by decide) (by decide), ntC_lo (by decide) (by decide)]
  have hB11 : puC n em m (ntC m (nI w) co em S) 30 11 = S 30 11 + 1 := by
    rw [puC_30, if_neg (by decide), ntC_30]
    simp
  unfold bgB pyC
  rw [evX_n (by omega), up_ls]
  generalize puC n em m (ntC m (nI w) co em S) = B at *
  by_cases e : p = w
  · subst e
    rw [up_ss, up_ss, up_ss, hB11, hB, hB, hB]
    by_cases e1 : j = 7
    · subst e1; simp
    · by_cases e2 : j = 4
      · subst e2; simp
      · by_cases e3 : j = 2
        · subst e3; simp
        · simp [e1, e2, e3]
  · rw [up_n (by omega), up_n (by omega), up_n (by omega), hB]
    simp only [e, false_and, if_false]
theorem bgB_r {r k : Nat} (hn : n ≤ 8) (hw : w < 8) (hk : k < 5) : bgB n m w co em S (41 + r) k = if r = (S 30 3).toNatClampNeg then rdV m (nI w) co em (S 30 12) k else S (41 + r) k := by
  unfold bgB pyC
  rw [evX_n (by omega), up_n (by omega), up_n (by omega), up_n (by omega), up_n (by omega), puC_r hn, ntC_r hk]
end BGB
/-! what stays true -/
theorem wt_at {S : ab_M} (h : wtC S = true) : S 30 13 ≠ 0 ∧ S 30 3 < 40 := by
  unfold wtC at h
  simp only [Bool.and_eq_true, Bool.not_eq_true', decide_eq_false_iff_not, decide_eq_true_eq] at h
  exact h.1
theorem evX_5 {n : Nat} {M : ab_M} (h : 0 ≤ M 30 5) : 0 ≤ evX n M 30 5 := by
  unfold evX
  rw [up_ll, if_pos rfl]
  split
  · rename_i h2
    exact Int32.le_trans h (Int32.le_of_lt h2)
  · exact h
theorem CI_cg {n t : Nat} {m : Int32} {S : ab_M} (h : CI n t S) : CI n t (cgC n m S) := by
  obtain ⟨hn, hM, ⟨ht1, ht2, ht3⟩, ⟨b, hb, hb2⟩, ⟨i, hi, hi2⟩, hk1, hk2, hsub, h5⟩ := h
  have e30 : ∀ j, j ≠ 12 → j ≠ 13 → cgC n m S 30 j = S 30 j := fun j a b => by unfold cgC; rw [sw_c (by decide), cgB_30 a b]
  have elo : ∀ c j, c < 30 → cgC n m S c j = S c j := fun c j a => by unfold cgC; rw [sw_c (by omega), cgB_n (by omega)]
  have e12 : cgC n m S 30 12 = cgT m S n := by unfold cgC; rw [sw_c (by decide), cgB_12]
  have e13 : cgC n m S 30 13 = cgE m S n := by unfold cgC; rw [sw_c (by decide), cgB_13]
  refine ⟨hn, by rw [elo _ _ (by decide), hM], ⟨ht1, by rw [elo _ _ (by decide), ht2], fun i hi => by rw [elo _ _ (by decide)]; exact ht3 i hi⟩, ⟨b, hb, by rw [e30 _ (by decide) (by decide), hb2]⟩, ⟨i, hi, by rw [e30 _ (by decide) (by decide), hi2]⟩, ?_, ?_, ?_, by rw [e30 _ (by decide) (by decide)]; exact h5⟩
  · rw [e12]
    intro q h1 h2
    unfold cgT
    rw [sc_hi _ _ _ hn h2 h1, hk1 q h1 h2]
  · rw [e13]
    intro q h1 h2
    unfold cgE
    rw [sc_hi _ _ _ hn h2 h1, hk2 q h1 h2]
  · rw [e12, e13]
    intro q hq
    unfold cgT cgE
    by_cases hqn : q < n
    · rw [sc_lo _ _ _ hn hqn, sc_lo _ _ _ hn hqn]
      unfold cgG
      have := hsub q hq
      revert this
      cases tb (S 30 13) q <;> cases tb (S 30 12) q <;> by_cases e1 : S 18 q = m <;> by_cases e2 : S 19 q = m <;> simp [e1, e2]
    · rw [sc_hi _ _ _ hn (by omega) (by omega), sc_hi _ _ _ hn (by omega) (by omega)]
      exact hsub q hq
theorem CI_bk {n t : Nat} {S : ab_M} (h : CI n t S) : CI n t (bk S) := by
  obtain ⟨hn, hM, ⟨ht1, ht2, ht3⟩, ⟨b, hb, hb2⟩, ⟨i, hi, hi2⟩, hk1, hk2, hsub, h5⟩ := h
  have e30 : ∀ j, j ≠ 6 → bk S 30 j = S 30 j := fun j a => by unfold bk; rw [up_ll, if_neg a]
  have elo : ∀ c j, c ≠ 30 → bk S c j = S c j := fun c j a => by unfold bk; rw [up_n a]
  refine ⟨hn, by rw [elo _ _ (by decide), hM], ⟨ht1, by rw [elo _ _ (by decide), ht2], fun i hi => by rw [elo _ _ (by decide)]; exact ht3 i hi⟩, ⟨b, hb, by rw [e30 _ (by decide), hb2]⟩, ⟨i, hi, by rw [e30 _ (by decide), hi2]⟩, ?_, ?_, ?_, by rw [e30 _ (by decide)]; exact h5⟩
  · rw [e30 _ (by decide)]; exact hk1
  · rw [e30 _ (by decide)]; exact hk2
  · rw [e30 _ (by decide), e30 _ (by decide)]; exact hsub
theorem CI_rd {n t : Nat} {m : Int32} {S : ab_M} (h : CI n t S) : CI n t (rdC n m S) := by
  unfold rdC
  by_cases hw : wtC S = true
  · rw [if_pos hw]
    obtain ⟨hw1, hw2⟩ := wt_at hw
    by_cases hr : S 30 8 = 6
    · rw [if_pos hr]
      by_cases h0 : owN n S = 0
      · rw [if_pos h0]
        exact CI_bk h
      · rw [if_neg h0]
        obtain ⟨hn, hM, ⟨ht1, ht2, ht3⟩, ⟨b, hb, hb2⟩, ⟨i, hi, hi2⟩, hk1, hk2, hsub, h5⟩ := h
        have hi3 : i < 40 := by
          rw [hi2] at hw2
          exact (nI_ltI (b := 40) (by omega) (by decide)).mp hw2
        refine ⟨hn, by rw [bgO_lo (by decide) (by decide), hM], ⟨ht1, by rw [bgO_lo (by decide) (by decide), ht2], fun i hi => by rw [bgO_lo (by decide) (by decide)]; exact ht3 i hi⟩, ⟨b, hb, by rw [bgO_30 (by decide), ← hb2]; simp⟩, ⟨i + 1, by omega, by rw [bgO_30 (by decide), if_pos rfl, hi2, nI_1]⟩, ?_, ?_, ?_, ?_⟩
        · rw [show bgO n m S 30 12 = S 30 12 by rw [bgO_30 (by decide)]; simp]
          exact hk1
        · rw [show bgO n m S 30 13 = S 30 13 &&& (owN n S ^^^ -1) by rw [bgO_30 (by decide)]; simp]
          intro q h1 h2
          rw [tb_and, hk2 q h1 h2]
          rfl
        · rw [show bgO n m S 30 12 = S 30 12 by rw [bgO_30 (by decide)]; simp, show bgO n m S 30 13 = S 30 13 &&& (owN n S ^^^ -1) by rw [bgO_30 (by decide)]; simp]
          intro q hq h9
          rw [tb_and, Bool.and_eq_true] at h9
          exact hsub q hq h9.1
        · unfold bgO
          refine evX_5 ?_
          rw [sw_c (by decide), puC_30, if_neg (by decide), ntC_30]
          simpa using h5
    · rw [if_neg hr]
      by_cases h0 : abC n (prC n (S 30 13) S) S = 0
      · rw [if_pos h0]
        exact CI_bk h
      · rw [if_neg h0]
        obtain ⟨w, hwn, hwb, hwt⟩ := by_ok h h0
        obtain ⟨hn, hM, ⟨ht1, ht2, ht3⟩, ⟨b, hb, hb2⟩, ⟨i, hi, hi2⟩, hk1, hk2, hsub, h5⟩ := h
        rw [hwb, nI_clamp (by omega)]
        have hi3 : i < 40 := by
          rw [hi2] at hw2
          exact (nI_ltI (b := 40) (by omega) (by decide)).mp hw2
        refine ⟨hn, by rw [bgB_lo (by decide) (by decide), byM_n (by decide), hM], ⟨ht1, by rw [bgB_lo (by decide) (by decide), byM_n (by decide), ht2], fun i hi => by rw [bgB_lo (by decide) (by decide), byM_n (by decide)]; exact ht3 i hi⟩, ⟨w, by omega, by rw [bgB_30 (by decide), if_pos rfl]⟩, ⟨i + 1, by omega, by rw [bgB_30 (by decide), if_neg (by decide), if_pos rfl, byM_30 (by decide), hi2, nI_1]⟩, ?_, ?_, ?_, ?_⟩
        · rw [show bgB n m w (prC n (S 30 13) S) (S 30 13) (byM S) 30 12 = S 30 12 by rw [bgB_30 (by decide)]; simp [byM_30]]
          exact hk1
        · rw [show bgB n m w (prC n (S 30 13) S) (S 30 13) (byM S) 30 13 = S 30 13 &&& (S 30 13 ^^^ -1) by rw [bgB_30 (by decide)]; simp [byM_30]]
          intro q h1 h2
          rw [tb_and, hk2 q h1 h2]
          rfl
        · rw [show bgB n m w (prC n (S 30 13) S) (S 30 13) (byM S) 30 12 = S 30 12 by rw [bgB_30 (by decide)]; simp [byM_30], show bgB n m w (prC n (S 30 13) S) (S 30 13) (byM S) 30 13 = S 30 13 &&& (S 30 13 ^^^ -1) by rw [bgB_30 (by decide)]; simp [byM_30]]
          intro q hq h9
          rw [tb_and, Bool.and_eq_true] at h9
          exact hsub q hq h9.1
        · unfold bgB
          refine evX_5 ?_
          unfold pyC
          rw [up_ll, if_neg (by decide), up_sl (by decide), up_sl (by decide), up_sl (by decide), puC_30, if_neg (by decide), ntC_30, if_neg (by decide), if_neg (by decide), if_neg (by decide), byM_30 (by decide)]
          exact h5
  · rw [if_neg hw]
    exact h
