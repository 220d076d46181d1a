/-! the reference behind a ROUND: what is read -/
theorem th_rs {n : Nat} {em : Int32} {N : ab_M} : thO n (rs n (owF em N) N) = thO n N := by
  unfold thO
  refine fo_congr fun k hk => ?_
  rw [rs_i (by decide) (by decide) hk]
  unfold owF
  simp
def pnO (i n : Nat) (m who co got : Int32) (N : ab_M) (j : Nat) : Int32 := if j = 30 then nI (i + 1) else if j = 27 then N 123 27 + 1 else if j = 31 then N 123 31 + co else N 123 j
theorem dr0_123 {i n : Nat} {m who co got : Int32} {N : ab_M} {j : Nat} : dr0 i n m who co got N 123 j = pnO i n m who co got N j := by
  unfold dr0 pnO
  have e : ∀ a v M, ab_up M 140 a v 123 j = M 123 j := fun a v M => up_n (by decide)
  by_cases e1 : j = 31
  · subst e1
    rw [up_s]
    simp
  · by_cases e2 : j = 27
    · subst e2
      rw [up_o _ _ _ _ _ _ (by decide), up_s]
      simp
    · by_cases e3 : j = 30
      · subst e3
        rw [up_o _ _ _ _ _ _ (by decide), up_o _ _ _ _ _ _ (by decide), up_s]
        simp
      · rw [up_o _ _ _ _ _ _ (by omega), up_o _ _ _ _ _ _ (by omega), up_o _ _ _ _ _ _ (by omega), e, e, e, e, e]
        simp [e1, e2, e3]
theorem dr0_140 {i n : Nat} {m who co got : Int32} {N : ab_M} {r k : Nat} (hk : k < 5) : dr0 i n m who co got N 140 (5 * r + k) = if r = i then rdV m who co got (thO n N) k else N 140 (5 * r + k) := by
  unfold dr0
  rw [up_n (by decide), up_n (by decide), up_n (by decide)]
  by_cases h : r = i
  · subst h
    rw [if_pos rfl]
    have : k = 0 ∨ k = 1 ∨ k = 2 ∨ k = 3 ∨ k = 4 := by omega
    rcases this with rfl | rfl | rfl | rfl | rfl <;> simp [ab_up, rdV]
  · rw [if_neg h, up_o _ _ _ _ _ _ (by omega), up_o _ _ _ _ _ _ (by omega), up_o _ _ _ _ _ _ (by omega), up_o _ _ _ _ _ _ (by omega), up_o _ _ _ _ _ _ (by omega)]
/-- of one who has got the own glass -/
def ogF (m : Int32) (N : ab_M) (c p : Nat) : Int32 := if c = 132 then N 132 p + N 127 (9 * p + 2) else if c = 134 then N 134 p + 1 else if c = 131 then m else if c = 130 then -4 else if c = 136 then N 136 p - N 127 (9 * p + 2) else if c = 133 then N 133 p + N 127 (9 * p + 2) else N c p
theorem owC_s {n i : Nat} {m em : Int32} {N : ab_M} (g : Int32) (hg : owV n em N = g) {c p : Nat} (hp : p < n) (h1 : 129 ≤ c) (h2 : c ≤ 139) (hgt : tb g p = (tb em p && !decide (N 136 p < N 127 (9 * p + 2)))) : owC n m em N i c p = if tb g p = true then ogF m N c p else N c p := by
  unfold owC
  show ab_up _ 123 32 _ c p = _
  rw [up_n (by omega), rs_i h1 h2 hp, hg]
  have hN : ∀ c, 129 ≤ c → c ≤ 139 → rs n (owF em N) N c p = owF em N c p := fun c a b => rs_i a b hp
  have h127 : ∀ j, rs n (owF em N) N 127 j = N 127 j := fun j => rs_lo (by decide)
  unfold drF
  by_cases ht : tb g p = true
  · rw [if_pos ht, if_pos ht]
    rw [ht] at hgt
    have hgt' := hgt.symm
    simp only [Bool.and_eq_true, Bool.not_eq_true', decide_eq_false_iff_not] at hgt'
    obtain ⟨q1, q2⟩ := hgt'
    have hF : ∀ c, owF em N c p = if c = 136 then N 136 p - N 127 (9 * p + 2) else if c = 133 then N 133 p + N 127 (9 * p + 2) else N c p := fun c => by unfold owF; rw [if_pos q1, if_neg q2]
    rw [hN 132 (by decide) (by decide), hN 134 (by decide) (by decide), hN c h1 h2, h127, hF, hF, hF]
    unfold ogF
    simp
  · rw [if_neg ht, if_neg ht, hN c h1 h2]
    unfold owF
    by_cases q1 : tb em p = true
    · rw [if_pos q1]
      by_cases q2 : N 136 p < N 127 (9 * p + 2)
      · rw [if_pos q2]
      · rw [hgt, q1] at ht
        simp [q2] at ht
    · rw [if_neg q1]
theorem owC_lo {n i : Nat} {m em : Int32} {N : ab_M} {c j : Nat} (h : c < 123 ∨ (123 < c ∧ c < 129)) : owC n m em N i c j = N c j := by
  unfold owC
  show ab_up _ 123 32 _ c j = _
  rw [up_n (by omega), rs_lo (by omega), dr0_n (by omega) (by omega), rs_lo (by omega)]
theorem owC_123 {n i : Nat} {m em : Int32} {N : ab_M} {j : Nat} (h : j ≠ 32) : owC n m em N i 123 j = if j = 30 then nI (i + 1) else if j = 27 then N 123 27 + 1 else if j = 31 then N 123 31 + prO n (owV n em N) (rs n (owF em N) N) else N 123 j := by
  unfold owC
  show ab_up _ 123 32 _ 123 j = _
  rw [up_o _ _ _ _ _ _ (by omega), rs_lo (by decide), dr0_123]
  unfold pnO prO
  simp only [rs_lo (show 123 < 129 by decide)]
theorem owC_140 {n i : Nat} {m em : Int32} {N : ab_M} {r k : Nat} (hk : k < 5) : owC n m em N i 140 (5 * r + k) = if r = i then rdV m (-4) (prO n (owV n em N) (rs n (owF em N) N)) (owV n em N) (thO n N) k else N 140 (5 * r + k) := by
  unfold owC
  show ab_up _ 123 32 _ 140 (5 * r + k) = _
  rw [up_n (by decide), rs_hi (by decide), dr0_140 hk, th_rs, rs_hi (by decide)]
  rfl
theorem ms_up {n : Nat} {K : ab_M} {x : Int32} : fo (msG (ab_up K 123 32 x)) n = fo (msG K) n := by
  have : msG (ab_up K 123 32 x) = msG K := by
    funext p s
    unfold msG rO
    simp only [up_n (show 129 ≠ 123 by decide), up_n (show 132 ≠ 123 by decide), up_n (show 133 ≠ 123 by decide), up_n (show 138 ≠ 123 by decide)]
  rw [this]
theorem owC_32 {n i : Nat} {m em : Int32} {N : ab_M} : owC n m em N i 123 32 = fo (msG (owC n m em N i)) n (N 123 32) := by
  have e : ∀ K : ab_M, K 123 32 = N 123 32 → (ab_up K 123 32 (msV n K)) 123 32 = fo (msG (ab_up K 123 32 (msV n K))) n (N 123 32) := by
    intro K hK
    rw [ms_up, up_s]
    unfold msV
    rw [hK]
  refine e _ ?_
  rw [rs_lo (by decide), dr0_123]
  unfold pnO
  simp only [rs_lo (show 123 < 129 by decide)]
  simp
/-- of who has bought -/
def buA (w : Nat) (co : Int32) (N : ab_M) : ab_M := ab_up (ab_up (ab_up N 133 w (N 133 w + co)) 136 w (N 136 w - co)) 135 w (N 135 w + 1)
theorem buA_n {w : Nat} {co : Int32} {N : ab_M} {c j : Nat} (h : c ≠ 133) (h2 : c ≠ 136) (h3 : c ≠ 135) : buA w co N c j = N c j := by
  unfold buA
  rw [up_n h3, up_n h2, up_n h]
theorem buA_s {w : Nat} {co : Int32} {N : ab_M} {c p : Nat} : buA w co N c p = if p = w ∧ c = 133 then N 133 p + co else if p = w ∧ c = 136 then N 136 p - co else if p = w ∧ c = 135 then N 135 p + 1 else N c p := by
  by_cases h : p = w
  · subst h
    unfold buA ab_up
    by_cases e1 : c = 133
    · subst e1; simp
    · by_cases e2 : c = 136
      · subst e2; simp
      · by_cases e3 : c = 135
        · subst e3; simp
        · simp [e1, e2, e3]
  · unfold buA ab_up
    simp [h]
theorem buO_eq {n i : Nat} {m : Int32} {w : Nat} {co em : Int32} {N : ab_M} : buO n i m w co em N = ab_up (ab_up (ab_up (rs n (drF em m (buA w co N)) (dr0 i n m (nI w) co em (buA w co N))) 123 25 (nI w)) 139 w (rs n (drF em m (buA w co N)) (dr0 i n m (nI w) co em (buA w co N)) 123 27)) 123 32 (msV n (ab_up (ab_up (rs n (drF em m (buA w co N)) (dr0 i n m (nI w) co em (buA w co N))) 123 25 (nI w)) 139 w (rs n (drF em m (buA w co N)) (dr0 i n m (nI w) co em (buA w co N)) 123 27))) := rfl
theorem buO_27 {n i : Nat} {m : Int32} {w : Nat} {co em : Int32} {N : ab_M} : rs n (drF em m (buA w co N)) (dr0 i n m (nI w) co em (buA w co N)) 123 27 = N 123 27 + 1 := by
  rw [rs_lo (by decide), dr0_123]
  unfold pnO
  rw [buA_n (by decide) (by decide) (by decide)]
  simp
theorem buO_s {n i : Nat} {m : Int32} {w : Nat} {co em : Int32} {N : ab_M} {c p : Nat} (hp : p < n) (h1 : 129 ≤ c) (h2 : c ≤ 139) : buO n i m w co em N c p = if p = w ∧ c = 139 then N 123 27 + 1 else drF em m (buA w co N) c p := by
  rw [buO_eq, buO_27, up_n (by omega)]
  by_cases h : p = w ∧ c = 139
  · obtain ⟨rfl, rfl⟩ := h
    rw [up_s, if_pos ⟨rfl, rfl⟩]
  · rw [up_o _ _ _ _ _ _ (by omega), up_n (by omega), rs_i h1 h2 hp, if_neg h]
theorem buO_lo {n i : Nat} {m : Int32} {w : Nat} {co em : Int32} {N : ab_M} {c j : Nat} (h : c < 123 ∨ (123 < c ∧ c < 129)) : buO n i m w co em N c j = N c j := by
  rw [buO_eq, up_n (by omega), up_n (by omega), up_n (by omega), rs_lo (by omega), dr0_n (by omega) (by omega), buA_n (by omega) (by omega) (by omega)]
theorem buO_123 {n i : Nat} {m : Int32} {w : Nat} {co em : Int32} {N : ab_M} {j : Nat} (h : j ≠ 32) : buO n i m w co em N 123 j = if j = 25 then nI w else if j = 30 then nI (i + 1) else if j = 27 then N 123 27 + 1 else if j = 31 then N 123 31 + co else N 123 j := by
  rw [buO_eq, up_o _ _ _ _ _ _ (by omega), up_n (by decide)]
  by_cases e : j = 25
  · subst e
    rw [up_s, if_pos rfl]
  · rw [up_o _ _ _ _ _ _ (by omega), rs_lo (by decide), dr0_123, if_neg e]
    unfold pnO
    simp only [buA_n (show 123 ≠ 133 by decide) (show 123 ≠ 136 by decide) (show 123 ≠ 135 by decide)]
theorem buO_140 {n i : Nat} {m : Int32} {w : Nat} {co em : Int32} {N : ab_M} {r k : Nat} (hk : k < 5) : buO n i m w co em N 140 (5 * r + k) = if r = i then rdV m (nI w) co em (thO n N) k else N 140 (5 * r + k) := by
  have e : thO n (buA w co N) = thO n N := by
    unfold thO
    exact fo_ext fun k s => by rw [buA_n (by decide) (by decide) (by decide)]
  rw [buO_eq, up_n (by decide), up_n (by decide), up_n (by decide), rs_hi (by decide), dr0_140 hk, e, buA_n (by decide) (by decide) (by decide)]
theorem buO_32 {n i : Nat} {m : Int32} {w : Nat} {co em : Int32} {N : ab_M} : buO n i m w co em N 123 32 = fo (msG (buO n i m w co em N)) n (N 123 32) := by
  have e : ∀ K : ab_M, K 123 32 = N 123 32 → (ab_up K 123 32 (msV n K)) 123 32 = fo (msG (ab_up K 123 32 (msV n K))) n (N 123 32) := by
    intro K hK
    rw [ms_up, up_s]
    unfold msV
    rw [hK]
  rw [buO_eq]
  refine e _ ?_
  rw [up_n (by decide), up_o _ _ _ _ _ _ (by decide), rs_lo (by decide), dr0_123]
  unfold pnO
  simp [buA_n (show (123 : Nat) ≠ 133 by decide) (show (123 : Nat) ≠ 136 by decide) (show (123 : Nat) ≠ 135 by decide)]
