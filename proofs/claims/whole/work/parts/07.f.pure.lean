/-! whose key is least: what is the same -/
theorem am_congr {c c' : Nat → Bool} {lt lt' : Nat → Nat → Bool} {n : Nat} (hn : n ≤ 8) (hc : ∀ p, p < n → c p = c' p) (hl : ∀ p q, p < n → q < n → lt p q = lt' p q) : fo (am c lt) n (-4) = fo (am c' lt') n (-4) := by
  refine fo_congr (fun k hk => ?_)
  unfold am
  rw [hc k hk]
  rcases am_inv c lt k with e | ⟨j, hj, e, -⟩
  · rw [show (fo (fun p s => if c p = true then if s = -4 then nI p else if lt p s.toNatClampNeg = true then nI p else s else s) k (-4)) = -4 from e]
    rfl
  · rw [show (fo (fun p s => if c p = true then if s = -4 then nI p else if lt p s.toNatClampNeg = true then nI p else s else s) k (-4)) = nI j from e]
    rw [nI_clamp (show j < 2 ^ 31 by omega), hl k j hk (by omega)]
theorem am_s (c : Nat → Bool) (lt : Nat → Nat → Bool) (k : Nat) : fo (am c lt) (k + 1) (-4) = am c lt k (fo (am c lt) k (-4)) := rfl
theorem am_no {c : Nat → Bool} {lt : Nat → Nat → Bool} {k : Nat} {s : Int32} (h : c k = false) : am c lt k s = s := by
  unfold am
  rw [h]
  rfl
theorem am_4 {c : Nat → Bool} {lt : Nat → Nat → Bool} {k : Nat} (h : c k = true) : am c lt k (-4) = nI k := by
  unfold am
  rw [h]
  rfl
theorem am_j {c : Nat → Bool} {lt : Nat → Nat → Bool} {k j : Nat} (hj : j < 8) (h : c k = true) : am c lt k (nI j) = if lt k j = true then nI k else nI j := by
  unfold am
  rw [if_pos h, if_neg (by rw [nI_n4 hj]; exact not_false), nI_clamp (by omega)]
theorem am_some {c : Nat → Bool} {lt : Nat → Nat → Bool} {n : Nat} (hn : n ≤ 8) (h : ∃ p, p < n ∧ c p = true) : ∃ j, j < n ∧ fo (am c lt) n (-4) = nI j ∧ c j = true := by
  obtain ⟨p, hp, hc⟩ := h
  rcases am_inv c lt n with e | h
  · exfalso
    have : ∀ k, p < k → k ≤ n → fo (am c lt) k (-4) ≠ -4 := by
      intro k
      induction k with
      | zero => intro h _; omega
      | succ k ih =>
        intro h1 h2 h3
        rw [am_s] at h3
        by_cases e1 : c k = true
        · rcases am_inv c lt k with e2 | ⟨j, hj, e2, -⟩
          · rw [e2, am_4 e1] at h3
            rw [nI_n4 (by omega)] at h3
            exact h3
          · rw [e2, am_j (by omega) e1] at h3
            split at h3
            · rw [nI_n4 (by omega)] at h3
              exact h3
            · rw [nI_n4 (by omega)] at h3
              exact h3
        · rw [Bool.not_eq_true] at e1
          rw [am_no e1] at h3
          by_cases e3 : p < k
          · exact ih e3 (by omega) h3
          · have : p = k := by omega
            subst this
            rw [hc] at e1
            cases e1
    exact this n hp (Nat.le_refl _) e
  · exact h
/-- who is EMPTY longest: by ranks -/
theorem am_rank {a e : Nat → Bool} {s : Nat → Int32} {n : Nat} (hn : n ≤ 8) (hs : ∀ p, p < n → e p = true → s p < 240) : ∀ k, k ≤ n →
    (fo (am (fun p => a p && e p) (fun p q => decide (s p < s q))) k (-4) ≠ -4 → fo (am a (fun p q => decide ((if e p = true then s p else 240) < (if e q = true then s q else 240)))) k (-4) = fo (am (fun p => a p && e p) (fun p q => decide (s p < s q))) k (-4)) ∧
    (fo (am (fun p => a p && e p) (fun p q => decide (s p < s q))) k (-4) = -4 → fo (am a (fun p q => decide ((if e p = true then s p else 240) < (if e q = true then s q else 240)))) k (-4) = fo (am a (fun _ _ => false)) k (-4) ∧ ∀ p, p < k → (a p && e p) = false) := by
  intro k
  induction k with
  | zero => exact fun _ => ⟨fun h => absurd rfl h, fun _ => ⟨rfl, fun p h => absurd h (by omega)⟩⟩
  | succ k ih =>
    intro hk
    obtain ⟨i1, i2⟩ := ih (by omega)
    rw [am_s, am_s, am_s]
    have v1 := am_inv a (fun p q => decide ((if e p = true then s p else 240) < (if e q = true then s q else 240))) k
    have v2 := am_inv (fun p => a p && e p) (fun p q => decide (s p < s q)) k
    have v3 := am_inv a (fun _ _ => false) k
    generalize fo (am (fun p => a p && e p) (fun p q => decide (s p < s q))) k (-4) = f2 at *
    generalize fo (am a (fun p q => decide ((if e p = true then s p else 240) < (if e q = true then s q else 240)))) k (-4) = f1 at *
    generalize fo (am a (fun _ _ => false)) k (-4) = f3 at *
    by_cases ha : a k = true
    · by_cases he : e k = true
      · have hae : (a k && e k) = true := by rw [ha, he]; rfl
        by_cases h4 : f2 = -4
        · obtain ⟨e1, e2⟩ := i2 h4
          have e3 : am (fun p => a p && e p) (fun p q => decide (s p < s q)) k f2 = nI k := by rw [h4]; exact am_4 hae
          rw [e3]
          refine ⟨fun _ => ?_, fun h => ?_⟩
          · rcases v1 with v | ⟨j, hj, v, vj⟩
            · rw [v]
              exact am_4 ha
            · rw [v, am_j (by omega) ha]
              have ej : e j = false := by
                have := e2 j hj
                rw [vj] at this
                simpa using this
              have := hs k (by omega) he
              simp [he, ej, this]
          · rw [nI_n4 (by omega)] at h
            exact h.elim
        · have e1 := i1 h4
          rcases v2 with v | ⟨j, hj, v, vj⟩
          · exact absurd v h4
          · have ej : e j = true := by
              rw [Bool.and_eq_true] at vj
              exact vj.2
            have e3 : am (fun p => a p && e p) (fun p q => decide (s p < s q)) k f2 = if decide (s k < s j) = true then nI k else nI j := by rw [v]; exact am_j (by omega) hae
            have e4 : am a (fun p q => decide ((if e p = true then s p else 240) < (if e q = true then s q else 240))) k f1 = if decide (s k < s j) = true then nI k else nI j := by
              rw [e1, v, am_j (by omega) ha]
              simp [he, ej]
            rw [e3, e4]
            refine ⟨fun _ => rfl, fun h => ?_⟩
            split at h
            · rw [nI_n4 (by omega)] at h
              exact h.elim
            · rw [nI_n4 (by omega)] at h
              exact h.elim
      · rw [Bool.not_eq_true] at he
        have hae : (fun p => a p && e p) k = false := by show (a k && e k) = false; rw [he]; simp
        rw [am_no hae]
        refine ⟨fun h4 => ?_, fun h4 => ?_⟩
        · have e1 := i1 h4
          rcases v2 with v | ⟨j, hj, v, vj⟩
          · exact absurd v h4
          · have ej : e j = true := by
              rw [Bool.and_eq_true] at vj
              exact vj.2
            rw [e1, v, am_j (by omega) ha]
            have := Int32.not_lt.mpr (Int32.le_of_lt (hs j (by omega) ej))
            simp [he, ej, this]
        · obtain ⟨e1, e2⟩ := i2 h4
          refine ⟨?_, fun p hp => ?_⟩
          · rcases v1 with v | ⟨j, hj, v, vj⟩
            · rw [← e1, v, am_4 ha, am_4 ha]
            · have ej : e j = false := by
                have := e2 j hj
                rw [vj] at this
                simpa using this
              rw [← e1, v, am_j (by omega) ha, am_j (by omega) ha]
              simp [he, ej]
          · by_cases q : p = k
            · subst q
              exact hae
            · exact e2 p (by omega)
    · rw [Bool.not_eq_true] at ha
      have hae : (fun p => a p && e p) k = false := by show (a k && e k) = false; rw [ha]; rfl
      rw [am_no hae, am_no ha, am_no ha]
      refine ⟨i1, fun h4 => ⟨(i2 h4).1, fun p hp => ?_⟩⟩
      by_cases q : p = k
      · subst q
        exact hae
      · exact (i2 h4).2 p (by omega)
theorem nf_first : ∀ j, j < 256 → nfR (nI j) 0 = fo (am (fun p => tb (nI j) p) (fun _ _ => false)) 8 (-4) := by decide +kernel
theorem am_up {c : Nat → Bool} {lt : Nat → Nat → Bool} {n : Nat} (h : ∀ p, n ≤ p → p < 8 → c p = false) : ∀ k, n + k ≤ 8 → fo (am c lt) (n + k) (-4) = fo (am c lt) n (-4) := by
  intro k
  induction k with
  | zero => intro _; rfl
  | succ k ih =>
    intro hk
    show am c lt (n + k) (fo (am c lt) (n + k) (-4)) = _
    rw [am_no (h _ (by omega) (by omega)), ih (by omega)]
theorem nf_n {n : Nat} {w : Int32} (hn : n ≤ 8) (h : mk n w) : nfR w 0 = fo (am (fun p => tb w p) (fun _ _ => false)) n (-4) := by
  obtain ⟨j, hj, rfl⟩ := mk_nI hn h
  rw [nf_first j hj, show 8 = n + (8 - n) by omega]
  exact am_up (fun p h1 h2 => h p h1 (by omega)) _ (by omega)
theorem nf_in : ∀ j, j < 256 → ∀ a, a < 8 → nI a < bn (nI j) → tb (nI j) (nfR (nI j) (nI a)).toNatClampNeg = true := by decide +kernel
theorem tb_lt {n : Nat} {w : Int32} {p : Nat} (h : mk n w) (hp : p < 32) (ht : tb w p = true) : p < n := by
  by_cases e : p < n
  · exact e
  · rw [h p (by omega) hp] at ht
    cases ht
/-- what holds of the class's EVENING, whoever asks -/
def CI (n t : Nat) (S : ab_M) : Prop := n ≤ 8 ∧ S 16 3 = nI n ∧ bkV t S ∧ (∃ b, b < 8 ∧ S 30 10 = nI b) ∧ (∃ i, i ≤ 40 ∧ S 30 3 = nI i) ∧ mk n (S 30 12) ∧ mk n (S 30 13) ∧ (∀ q, q < 8 → tb (S 30 13) q = true → tb (S 30 12) q = true) ∧ 0 ≤ S 30 5
theorem by_ok {n t : Nat} {S : ab_M} {co : Int32} (hC : CI n t S) (h0 : abC n co S ≠ 0) : ∃ w, w < n ∧ byV n (abC n co S) S = nI w ∧ tb (abC n co S) w = true := by
  obtain ⟨hn, hM, ⟨ht1, ht2, ht3⟩, ⟨b, hb, hb2⟩, ⟨i, hi, hi2⟩, hk1, hk2, hsub, -⟩ := hC
  have hmk := abC_mk (co := co) hn hk1
  generalize abC n co S = able at *
  have hex := mk_ne hn hmk h0
  have hturn : ∃ w, w < n ∧ inR able (S 30 10).toNatClampNeg = nI w ∧ tb able w = true := by
    obtain ⟨i, h1, h2, h3, h4⟩ := ex_turn hn hb hmk h0
    rw [hb2, nI_clamp (by omega)]
    exact ⟨_, h4, inR_at h1 h2 h3, h2⟩
  have hnf : ∀ a, nI a < bn able → a < 8 → ∃ w, w < n ∧ nfR able (nI a) = nI w ∧ tb able w = true := by
    intro a h1 h2
    obtain ⟨j, hj, rfl⟩ := mk_nI hn hmk
    obtain ⟨p, hp, -, e⟩ := rl_at hj h2 h1
    have h3 := nf_in j hj a h2 h1
    rw [e, nI_clamp (by omega)] at h3
    exact ⟨p, tb_lt hmk (by omega) h3, e, h3⟩
  unfold byV
  by_cases e1 : S 30 8 = 1
  · rw [if_pos e1]
    exact am_some hn hex
  rw [if_neg e1]
  by_cases e2 : S 30 8 = 2
  · rw [if_pos e2]
    by_cases e3 : able &&& S 30 13 = 0
    · rw [if_pos e3]
      rw [nf_n hn hmk]
      exact am_some hn hex
    · rw [if_neg e3]
      have hmk2 : mk n (able &&& S 30 13) := fun q h1 h2 => by rw [tb_and, hmk q h1 h2]; rfl
      obtain ⟨j, h1, h2, h3⟩ := am_some (c := fun p => tb (able &&& S 30 13) p) (lt := fun p q => decide (S (33 + p) 5 < S (33 + q) 5)) hn (mk_ne hn hmk2 e3)
      refine ⟨j, h1, h2, ?_⟩
      have h3 : tb (able &&& S 30 13) j = true := h3
      rw [tb_and, Bool.and_eq_true] at h3
      exact h3.1
  rw [if_neg e2]
  by_cases e3 : S 30 8 = 3
  · rw [if_pos e3]
    obtain ⟨x, hx, hdr⟩ := dr_at (S 30 7)
    obtain ⟨j, hj, e⟩ := mk_nI hn hmk
    obtain ⟨k, hk, hk0, hbn⟩ := bn_at j hj (by rw [← e]; exact h0)
    rw [← e] at hbn
    have hlt : x % k < k := Nat.mod_lt _ hk0
    rw [hdr, hbn, pk_rem (by omega) hk0 (by omega)]
    exact hnf _ (by rw [hbn]; exact nI_lt hlt (by omega)) (by omega)
  rw [if_neg e3]
  by_cases e4 : S 30 8 = 4
  · rw [if_pos e4]
    exact am_some hn hex
  rw [if_neg e4]
  by_cases e5 : S 30 8 = 5
  · rw [if_pos e5]
    by_cases e6 : S 30 3 < S 16 5 ∧ tb able (S 27 (S 30 3).toNatClampNeg).toNatClampNeg = true
    · rw [if_pos e6]
      rw [hi2, ht2, nI_ltI (by omega) (by omega)] at e6
      obtain ⟨e7, e8⟩ := e6
      rw [hi2, nI_clamp (by omega)] 
      rw [nI_clamp (by omega)] at e8
      obtain ⟨q, hq, hq2⟩ := ht3 i e7
      rw [hq2, nI_clamp (by omega)] at e8
      exact ⟨q, tb_lt hmk (by omega) e8, hq2, e8⟩
    · rw [if_neg e6]
      exact hturn
  · rw [if_neg e5]
    exact hturn
