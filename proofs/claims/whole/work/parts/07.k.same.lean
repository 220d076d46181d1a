/-! what both compute of a ROUND -/
theorem z0 (q : Nat) : tb 0 q = false := by simp [tb]
theorem orf_sc (c : Nat → Bool) (n : Nat) (w : Int32) : fo (fun p s => if c p = true then s ||| bt p else s) n w = fo (sc c (fun _ => false)) n w := by
  refine fo_ext fun k s => ?_
  unfold sc
  split
  · rfl
  · rfl
theorem orf_tb {c : Nat → Bool} {n q : Nat} (hn : n ≤ 8) (hq : q < n) : tb (fo (fun p s => if c p = true then s ||| bt p else s) n 0) q = c q := by
  rw [orf_sc, sc_lo _ _ _ hn hq, z0]
  simp
theorem orf_mk {c : Nat → Bool} {n : Nat} (hn : n ≤ 8) : mk n (fo (fun p s => if c p = true then s ||| bt p else s) n 0) := by
  intro q h1 h2
  rw [orf_sc, sc_hi _ _ _ hn h2 h1, z0]
theorem mk_ext {n : Nat} {a b : Int32} (ha : mk n a) (hb : mk n b) (h : ∀ q, q < n → tb a q = tb b q) : a = b := by
  refine tb_ext fun q hq => ?_
  by_cases e : q < n
  · exact h q e
  · rw [ha q (by omega) hq, hb q (by omega) hq]
section SAME
variable {n t k : Nat} {N S : ab_M}
theorem rEd_eq (hC : CI n t S) (h : RR n t k N S) {p : Nat} (hp : p < n) : rEd N p = tb (S 30 13) p := by
  obtain ⟨-, -, -, hP, -⟩ := h
  obtain ⟨-, -, -, -, -, -, -, p8, p9, -⟩ := hP p hp
  obtain ⟨hn, -, -, -, -, -, -, hsub, -⟩ := hC
  unfold rEd
  rw [p8]
  by_cases h1 : tb (S 30 12) p = true
  · obtain ⟨q1, q2⟩ := p9 h1
    by_cases h2 : tb (S 30 13) p = true
    · obtain ⟨q3, e, he, q4⟩ := q1 h2
      have q5 : ¬ S (33 + p) 5 = -4 := by rw [q4]; exact nI_ne4 he
      simp [h1, h2, q3, q5]
    · rw [Bool.not_eq_true] at h2
      obtain ⟨q3, -⟩ := q2 h2
      simp [h2, q3]
  · have h2 : tb (S 30 13) p = false := by
      cases e : tb (S 30 13) p with
      | false => rfl
      | true => exact absurd (hsub p (by omega) e) h1
    simp [h1, h2]
theorem em_eq (hC : CI n t S) (h : RR n t k N S) : emO n N = S 30 13 := by
  obtain ⟨hn, -, -, -, -, -, hk2, -⟩ := id hC
  unfold emO
  refine mk_ext (orf_mk hn) hk2 fun q hq => ?_
  rw [orf_tb hn hq, rEd_eq hC h hq]
theorem th_eq (hC : CI n t S) (h : RR n t k N S) : thO n N = S 30 12 := by
  obtain ⟨hn, -, -, -, -, hk1, -⟩ := id hC
  have e : thO n N = fo (fun p s => if (!decide (N 129 p = 0)) = true then s ||| bt p else s) n 0 := by
    unfold thO
    refine fo_ext fun k s => ?_
    by_cases h : N 129 k = 0 <;> simp [h]
  rw [e]
  refine mk_ext (orf_mk hn) hk1 fun q hq => ?_
  rw [orf_tb hn hq]
  obtain ⟨-, -, -, hP, -⟩ := h
  obtain ⟨-, -, -, -, -, -, -, p8, -⟩ := hP q hq
  rw [p8]
  cases tb (S 30 12) q <;> simp
theorem pr_eq (h : RR n t k N S) (w : Int32) : prO n w N = prC n w S := by
  obtain ⟨⟨-, -, -, g4, -⟩, -⟩ := h
  unfold prO prC
  refine fo_congr fun k hk => ?_
  rw [g4 2 (by decide) k hk]
theorem bn_pos : ∀ j, j < 256 → (0 < bn (nI j) ↔ nI j ≠ 0) := by decide +kernel
theorem due_eq (hC : CI n t S) (h : RR n t k N S) (h40 : S 30 3 < 40) : dueO n N = wtC S := by
  have e1 := em_eq hC h
  have e2 := th_eq hC h
  obtain ⟨hn, -, -, -, -, -, hk2, -⟩ := hC
  obtain ⟨⟨-, g2, -⟩, ⟨-, g, hg1, hg8, hg⟩, -⟩ := h
  unfold dueO wtC
  rw [e1, e2, g2]
  obtain ⟨j, hj, e⟩ := mk_nI hn hk2
  have hb := bn_pos j hj
  rw [← e] at hb
  by_cases h0 : S 30 13 = 0
  · have e9 : bn 0 = 0 := by decide
    have h9 : ¬ S 16 4 ≤ 0 := by rw [hg]; exact nI_nle hg1 (by omega)
    rw [h0, e9]
    simp [h9]
  · have h1 := hb.mpr h0
    simp [h0, h1, h40, Bool.or_comm]
theorem ab_eq (hC : CI n t S) (h : RR n t k N S) (co : Int32) : abO n co N = abC n co S := by
  obtain ⟨hn, -, -, -, -, hk1, -⟩ := hC
  obtain ⟨⟨-, -, -, g4, -⟩, -, ⟨-, -, -, -, -, -, -, a8⟩, hP, -⟩ := h
  have e : abO n co N = fo (fun p s => if (!decide (N 129 p = 0) && decide (N 127 (9 * p + 6) = 0) && (!decide (N 123 34 = 0) || !decide (N 136 p < co))) = true then s ||| bt p else s) n 0 := by
    unfold abO
    refine fo_ext fun k s => ?_
    by_cases h1 : N 129 k = 0 <;> by_cases h2 : N 127 (9 * k + 6) = 0 <;> by_cases h3 : N 123 34 = 0 <;> by_cases h4 : N 136 k < co <;> simp [h1, h2, h3, h4]
  rw [e]
  refine mk_ext (orf_mk hn) (abC_mk hn hk1) fun q hq => ?_
  rw [orf_tb hn hq, abC_tb hn hq]
  obtain ⟨-, -, -, -, p5, -, -, p8, -⟩ := hP q hq
  rw [p8, g4 6 (by decide) q hq, p5]
  have e9 : decide (N 123 34 = 0) = !decide (S 30 9 = 0) := by
    by_cases h9 : S 30 9 = 0
    · have : ¬ N 123 34 = 0 := fun q => a8.mp q h9
      simp [h9, this]
    · have := a8.mpr h9
      simp [h9, this]
  rw [e9]
  have e8 : decide (co ≤ S 22 q - S (33 + q) 2) = !decide (S 22 q - S (33 + q) 2 < co) := by
    by_cases h8 : S 22 q - S (33 + q) 2 < co
    · have := Int32.not_le.mpr h8
      simp [h8]
    · have := Int32.not_lt.mp h8
      simp [h8, this]
  rw [e8]
  cases tb (S 30 12) q <;> by_cases h9 : S 30 9 = 0 <;> by_cases h8 : S 24 q = 0 <;> simp [h9, h8]
theorem ow_eq (h : RR n t k N S) : owV n (S 30 13) N = owN n S := by
  obtain ⟨⟨-, -, -, g4, -⟩, -, -, hP, -⟩ := h
  unfold owV owN
  refine fo_congr fun k hk => ?_
  obtain ⟨-, -, -, -, p5, -⟩ := hP k hk
  unfold owG
  rw [g4 2 (by decide) k hk, p5]
theorem ow_tb (hn : n ≤ 8) {q : Nat} (hq : q < n) : tb (owN n S) q = (tb (S 30 13) q && !decide (S 22 q - S (33 + q) 2 < S 20 q)) := by
  have e : owN n S = fo (fun p s => if (tb (S 30 13) p && !decide (S 22 p - S (33 + p) 2 < S 20 p)) = true then s ||| bt p else s) n 0 := by
    unfold owN
    refine fo_ext fun k s => ?_
    cases tb (S 30 13) k <;> by_cases h : S 22 k - S (33 + k) 2 < S 20 k <;> simp [h]
  rw [e, orf_tb hn hq]
end SAME
/-! the greatest -/
theorem mx_fo {c : Nat → Bool} {x : Nat → Int32} {e : Int32} (he : 0 ≤ e) (n : Nat) : fo (fun p s => if c p = true then (if s < x p then x p else s) else s) n e = if e < fo (fun p s => if c p = true then (if s < x p then x p else s) else s) n 0 then fo (fun p s => if c p = true then (if s < x p then x p else s) else s) n 0 else e := by
  induction n with
  | zero =>
    show e = if e < 0 then 0 else e
    rw [if_neg (Int32.not_lt.mpr he)]
  | succ n ih =>
    show (if c n = true then (if fo (fun p s => if c p = true then (if s < x p then x p else s) else s) n e < x n then x n else fo (fun p s => if c p = true then (if s < x p then x p else s) else s) n e) else fo (fun p s => if c p = true then (if s < x p then x p else s) else s) n e) = if e < (if c n = true then (if fo (fun p s => if c p = true then (if s < x p then x p else s) else s) n 0 < x n then x n else fo (fun p s => if c p = true then (if s < x p then x p else s) else s) n 0) else fo (fun p s => if c p = true then (if s < x p then x p else s) else s) n 0) then (if c n = true then (if fo (fun p s => if c p = true then (if s < x p then x p else s) else s) n 0 < x n then x n else fo (fun p s => if c p = true then (if s < x p then x p else s) else s) n 0) else fo (fun p s => if c p = true then (if s < x p then x p else s) else s) n 0) else e
    rw [ih]
    generalize fo (fun p s => if c p = true then (if s < x p then x p else s) else s) n 0 = a
    generalize x n = y
    by_cases hc : c n = true
    · simp only [hc, if_true]
      by_cases h1 : e < a
      · simp only [h1, if_true]
        by_cases h2 : a < y
        · simp only [h2, if_true, Int32.lt_trans h1 h2]
        · simp only [h2, if_false, h1, if_true]
      · simp only [h1, if_false]
        by_cases h2 : a < y
        · simp only [h2, if_true]
        · have h3 : ¬ e < y := by
            intro q
            have := Int32.lt_of_lt_of_le q (Int32.not_lt.mp h2)
            exact h1 this
          simp only [h2, h3, h1, if_false]
    · simp only [hc, if_false, Bool.false_eq_true]
theorem ms_eq {n : Nat} {W S' : ab_M} {e : Int32} (h1 : ∀ p, p < n → W 129 p = if tb (S' 30 12) p = true then 1 else 0) (h2 : ∀ p, p < n → rO W p = oX S' p) (he : 0 ≤ e) : fo (msG W) n e = if e < grC n S' then grC n S' else e := by
  have e1 : fo (msG W) n e = fo (fun p s => if tb (S' 30 12) p = true then (if s < ia (oX S' p) then ia (oX S' p) else s) else s) n e := by
    refine fo_congr fun k hk => ?_
    unfold msG
    rw [h1 k hk, h2 k hk]
    cases tb (S' 30 12) k <;> simp
  rw [e1]
  exact mx_fo (c := fun p => tb (S' 30 12) p) (x := fun p => ia (oX S' p)) he n
theorem gr_ev {n : Nat} {C : ab_M} : grC n (evX n C) = grC n C := by
  unfold grC
  rw [evX_n (by omega)]
  refine fo_ext fun k s => ?_
  have : oX (evX n C) k = oX C k := by
    unfold oX
    rw [evX_n (by omega), evX_n (by omega), evX_n (by omega)]
  rw [this]
theorem evX_at {n : Nat} {C : ab_M} : evX n C 30 5 = if C 30 5 < grC n (evX n C) then grC n (evX n C) else C 30 5 := by
  rw [gr_ev]
  unfold evX
  rw [up_ll, if_pos rfl]
theorem bgO_5 {n : Nat} {m : Int32} {S : ab_M} : bgO n m S 30 5 = if S 30 5 < grC n (bgO n m S) then grC n (bgO n m S) else S 30 5 := by
  have e : ∀ B : ab_M, B 30 5 = S 30 5 → evX n (sw n (poF (owN n S) B) B) 30 5 = if S 30 5 < grC n (evX n (sw n (poF (owN n S) B) B)) then grC n (evX n (sw n (poF (owN n S) B) B)) else S 30 5 := by
    intro B hB
    rw [evX_at, sw_c (by decide), hB]
  refine e _ ?_
  rw [puC_30, if_neg (by decide), ntC_30]
  simp
theorem bgB_5 {n : Nat} {m : Int32} {w : Nat} {co em : Int32} {S : ab_M} : bgB n m w co em S 30 5 = if S 30 5 < grC n (bgB n m w co em S) then grC n (bgB n m w co em S) else S 30 5 := by
  have e : ∀ B : ab_M, B 30 5 = S 30 5 → evX n (pyC w co B) 30 5 = if S 30 5 < grC n (evX n (pyC w co B)) then grC n (evX n (pyC w co B)) else S 30 5 := by
    intro B hB
    have h : pyC w co B 30 5 = S 30 5 := by
      unfold pyC
      rw [up_ll, if_neg (by decide), up_sl (by decide), up_sl (by decide), up_sl (by decide), hB]
    rw [evX_at, h]
  refine e _ ?_
  rw [puC_30, if_neg (by decide), ntC_30]
  simp
