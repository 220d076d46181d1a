/-! the reference's buyer is the class's -/
def byN (rule : Int32) (N : ab_M) : ab_M := if rule = 3 then ab_up N 123 28 (sd (N 123 28)) else N
theorem by_ref {scr : Option (List Int32)} {n t k : Nat} {N S : ab_M} (hC : CI n t S) (h : RR n t k N S) {able : Int32} (hmk : mk n able) (hsub : ∀ p, p < n → tb able p = true → tb (S 30 12) p = true) (h0 : able ≠ 0) (w : Nat) (hw : w < n) (hby : byV n able S = nI w) (rule : Int32) (hr : S 30 8 = rule) (hr2 : rule = 0 ∨ rule = 1 ∨ rule = 2 ∨ rule = 3 ∨ rule = 4 ∨ rule = 5) : ab_ms scr 153 [.ref 123, .int rule, .int able] N = some (byN rule N, some (.int (nI w))) := by
  have hE := fun p (hp : p < n) => rEd_eq hC h hp
  obtain ⟨hn, hM, ⟨ht1, ht2, ht3⟩, ⟨b, hb, hb2⟩, ⟨i, hi, hi2⟩, hk1, hk2, hsub2, -⟩ := hC
  obtain ⟨⟨g1, g2, g3, g4, g5⟩, -, ⟨a1, a2, a3, a4, a5, a6, a7, a8⟩, hP, -⟩ := id h
  obtain ⟨ii, h1, h2, h3, h4⟩ := ex_turn hn hb hmk h0
  have hin := inR_at h1 h2 h3
  have hcb : (S 30 10).toNatClampNeg = b := by rw [hb2, nI_clamp (by omega)]
  unfold byV at hby
  unfold byN
  rw [hr, hcb] at hby
  rcases hr2 with e | e | e | e | e | e
  · subst e
    simp only [show ¬ ((0 : Int32) = 1) by decide, show ¬ ((0 : Int32) = 2) by decide, show ¬ ((0 : Int32) = 3) by decide, show ¬ ((0 : Int32) = 4) by decide, show ¬ ((0 : Int32) = 5) by decide, if_false] at hby ⊢
    rw [rk_buyer0 N able b ii hb (by rw [a1, hb2]) h1 h2 h3, ← hin, hby]
  · subst e
    simp only [if_true, show ¬ ((1 : Int32) = 3) by decide, if_false] at hby ⊢
    rw [rk_buyer N n hn g1 1 able (by decide) (by decide) (by decide), ← hby]
    refine congrArg (fun x => some (N, some (Value.int x))) (am_congr hn (fun p _ => rfl) fun p q hp hq => ?_)
    unfold rkV
    rw [if_pos rfl, if_pos rfl, rO_oX (hP p hp), rO_oX (hP q hq)]
  · subst e
    simp only [if_true, show ¬ ((2 : Int32) = 1) by decide, show ¬ ((2 : Int32) = 3) by decide, if_false] at hby ⊢
    rw [rk_buyer N n hn g1 2 able (by decide) (by decide) (by decide), ← hby]
    refine congrArg (fun x => some (N, some (Value.int x))) ?_
    have hsn : ∀ p, p < n → tb able p = true → tb (S 30 13) p = true → N 130 p = S (33 + p) 5 ∧ S (33 + p) 5 < 240 := by
      intro p hp hpa hpe
      obtain ⟨-, -, -, -, -, -, -, -, p9, -⟩ := hP p hp
      obtain ⟨q1, -⟩ := p9 (hsub p hp hpa)
      obtain ⟨q3, e, he, q4⟩ := q1 hpe
      exact ⟨q3, by rw [q4]; exact nI_lt (b := 240) he (by decide)⟩
    have hsn' : ∀ p, p < n → tb (S 30 13) p = true → S (33 + p) 5 < 240 := by
      intro p hp hpe
      obtain ⟨-, -, -, -, -, -, -, -, p9, -⟩ := hP p hp
      obtain ⟨q1, -⟩ := p9 (hsub2 p (by omega) hpe)
      obtain ⟨q3, e, he, q4⟩ := q1 hpe
      rw [q4]
      exact nI_lt (b := 240) he (by decide)
    have e9 : fo (am (fun p => tb able p) (fun p q => decide (rkV N 2 p < rkV N 2 q))) n (-4) = fo (am (fun p => tb able p) (fun p q => decide ((if tb (S 30 13) p = true then S (33 + p) 5 else 240) < (if tb (S 30 13) q = true then S (33 + q) 5 else 240)))) n (-4) := by
      have e8 : ∀ p, p < n → tb able p = true → rkV N 2 p = if tb (S 30 13) p = true then S (33 + p) 5 else 240 := by
        intro p hp hpa
        unfold rkV
        rw [if_neg (by decide), if_pos rfl, hE p hp]
        by_cases x : tb (S 30 13) p = true
        · rw [if_pos x, if_pos x, (hsn p hp hpa x).1]
        · rw [if_neg x, if_neg x]
      refine fo_congr fun k hk => ?_
      by_cases hka : tb able k = true
      · rcases am_inv (fun p => tb able p) (fun p q => decide (rkV N 2 p < rkV N 2 q)) k with e7 | ⟨j, hj, e7, hja⟩
        · rw [e7, am_4 hka, am_4 hka]
        · rw [e7, am_j (by omega) hka, am_j (by omega) hka, e8 k hk hka, e8 j (by omega) hja]
      · rw [Bool.not_eq_true] at hka
        rw [am_no hka, am_no hka]
    rw [e9]
    obtain ⟨r1, r2⟩ := am_rank (a := fun p => tb able p) (e := fun p => tb (S 30 13) p) (s := fun p => S (33 + p) 5) hn hsn' n (Nat.le_refl _)
    have e6 : fo (am (fun p => tb able p && tb (S 30 13) p) (fun p q => decide (S (33 + p) 5 < S (33 + q) 5))) n (-4) = fo (am (fun p => tb (able &&& S 30 13) p) (fun p q => decide (S (33 + p) 5 < S (33 + q) 5))) n (-4) := am_congr hn (fun p _ => (tb_and _ _ _).symm) (fun _ _ _ _ => rfl)
    by_cases x : able &&& S 30 13 = 0
    · rw [if_pos x]
      have x4 : fo (am (fun p => tb able p && tb (S 30 13) p) (fun p q => decide (S (33 + p) 5 < S (33 + q) 5))) n (-4) = -4 := by
        rcases am_inv (fun p => tb able p && tb (S 30 13) p) (fun p q => decide (S (33 + p) 5 < S (33 + q) 5)) n with y | ⟨j, hj, -, y⟩
        · exact y
        · rw [← tb_and, x, z0] at y
          cases y
      rw [(r2 x4).1, nf_n hn hmk]
    · rw [if_neg x]
      have hmk2 : mk n (able &&& S 30 13) := fun q h1 h2 => by rw [tb_and, hmk q h1 h2]; rfl
      obtain ⟨j, y1, y2, -⟩ := am_some (c := fun p => tb (able &&& S 30 13) p) (lt := fun p q => decide (S (33 + p) 5 < S (33 + q) 5)) hn (mk_ne hn hmk2 x)
      rw [r1 (by rw [e6, y2]; intro z; rw [nI_n4 (by omega)] at z; exact z), e6]
  · subst e
    simp only [if_true, show ¬ ((3 : Int32) = 1) by decide, show ¬ ((3 : Int32) = 2) by decide, if_false] at hby ⊢
    obtain ⟨j, hj, rfl⟩ := mk_nI hn hmk
    obtain ⟨p, hp, q1, q2⟩ := sp_byLot (scr := scr) N j hj h0
    rw [a3] at q1 q2
    rw [q2] at hby
    rw [rk_buyer3 N (nI j) (nI p) _ q1, hby, a3]
  · subst e
    simp only [if_true, show ¬ ((4 : Int32) = 1) by decide, show ¬ ((4 : Int32) = 2) by decide, show ¬ ((4 : Int32) = 3) by decide, if_false] at hby ⊢
    rw [rk_buyer N n hn g1 4 able (by decide) (by decide) (by decide), ← hby]
    refine congrArg (fun x => some (N, some (Value.int x))) (am_congr hn (fun p _ => rfl) fun p q hp hq => ?_)
    obtain ⟨-, -, -, -, -, -, p7, -⟩ := hP p hp
    obtain ⟨-, -, -, -, -, -, q7, -⟩ := hP q hq
    unfold rkV
    rw [if_neg (by decide), if_neg (by decide), if_neg (by decide), if_neg (by decide), p7, q7]
  · subst e
    simp only [if_true, show ¬ ((5 : Int32) = 1) by decide, show ¬ ((5 : Int32) = 2) by decide, show ¬ ((5 : Int32) = 3) by decide, show ¬ ((5 : Int32) = 4) by decide, if_false] at hby ⊢
    rw [hi2, ht2, nI_clamp (show i < 2 ^ 31 by omega)] at hby
    simp only [nI_ltI (show i < 2 ^ 31 by omega) (show t < 2 ^ 31 by omega)] at hby
    by_cases x : i < t
    · obtain ⟨q, hq, hq2⟩ := ht3 i x
      rw [hq2, nI_clamp (show q < 2 ^ 31 by omega)] at hby
      rw [rk_buyer5 N able b ii hb (by rw [a1, hb2]) h1 h2 h3 i t q (by rw [a4, hi2]) hi g3 ht1 (fun _ => ⟨by rw [g5 i x, hq2], hq⟩), ← hin, hby]
    · rw [if_neg (fun q => x q.1)] at hby
      rw [rk_buyer5 N able b ii hb (by rw [a1, hb2]) h1 h2 h3 i t 0 (by rw [a4, hi2]) hi g3 ht1 (fun q => absurd q x), if_neg (fun q => x q.1), ← hin, hby]
