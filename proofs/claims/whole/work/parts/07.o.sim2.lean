theorem i32_ss (a b c : Int32) : a - b - c = a - (b + c) := by
  rw [Int32.sub_eq_add_neg, Int32.sub_eq_add_neg, Int32.sub_eq_add_neg, Int32.neg_add, Int32.sub_eq_add_neg, Int32.add_assoc]
theorem RR_buy {n t k i : Nat} {N S : ab_M} (hC : CI n t S) (h : RR n t k N S) (m : Int32) (hi : i < 40) (hi2 : S 30 3 = nI i) (w : Nat) (hw : w < n) (hwt : tb (S 30 12) w = true) (co : Int32) : RR n t k (buO n i m w co (S 30 13) (byN (S 30 8) N)) (bgB n m w co (S 30 13) (byM S)) := by
  have hth := th_eq hC h
  obtain ⟨hn, hM, hbk, hb, -, hk1, hk2, hsub, h5⟩ := id hC
  obtain ⟨⟨g1, g2, g3, g4, g5⟩, ⟨v1, v2⟩, ⟨a1, a2, a3, a4, a5, a6, a7, a8⟩, hP, hq⟩ := h
  have n1 : ∀ c j, c ≠ 123 → byN (S 30 8) N c j = N c j := by
    intro c j hc
    unfold byN
    split
    · rw [up_n hc]
    · rfl
  have n2 : ∀ j, j ≠ 28 → byN (S 30 8) N 123 j = N 123 j := by
    intro j hj
    unfold byN
    split
    · rw [up_o _ _ _ _ _ _ (fun q => hj q.2)]
    · rfl
  have n3 : byN (S 30 8) N 123 28 = byM S 30 7 := by
    unfold byN byM
    split
    · rw [up_s, up_s, a3]
    · exact a3
  have hth2 : thO n (byN (S 30 8) N) = S 30 12 := by
    rw [← hth]
    unfold thO
    exact fo_ext fun k s => by rw [n1 _ _ (by decide)]
  have s1 : ∀ c j, c ≠ 30 → byM S c j = S c j := fun c j hc => byM_n hc
  have s2 : ∀ j, j ≠ 7 → byM S 30 j = S 30 j := fun j hj => byM_30 hj
  generalize byN (S 30 8) N = N1 at *
  generalize byM S = S1 at *
  have eS : ∀ c j, c < 33 → c ≠ 30 → bgB n m w co (S 30 13) S1 c j = S c j := fun c j h h2 => by rw [bgB_lo h h2, s1 _ _ h2]
  have e12 : bgB n m w co (S 30 13) S1 30 12 = S 30 12 := by rw [bgB_30 (by decide), s2 12 (by decide)]; simp
  have e13 : bgB n m w co (S 30 13) S1 30 13 = S 30 13 &&& (S 30 13 ^^^ -1) := by rw [bgB_30 (by decide), s2 13 (by decide)]; simp
  have hPer : ∀ p, p < n → RP (buO n i m w co (S 30 13) N1) (bgB n m w co (S 30 13) S1) k p := by
    intro p hp
    obtain ⟨p1, p2, p3, p4, p5, p6, p7, p8, p9, p10⟩ := hP p hp
    have x2 : N1 127 (9 * p + 2) = S 20 p := by rw [n1 _ _ (by decide)]; exact g4 2 (by decide) p hp
    have x3 : N1 127 (9 * p + 3) = S 21 p := by rw [n1 _ _ (by decide)]; exact g4 3 (by decide) p hp
    have y : ∀ c, c ≠ 123 → N1 c p = N c p := fun c hc => n1 c p hc
    have y27 : N1 123 27 = S 30 11 := by rw [n2 _ (by decide), a2]
    have eN : ∀ c, 129 ≤ c → c ≤ 139 → buO n i m w co (S 30 13) N1 c p = if p = w ∧ c = 139 then N1 123 27 + 1 else drF (S 30 13) m (buA w co N1) c p := fun c a b => buO_s hp a b
    have eA : ∀ c, buA w co N1 c p = if p = w ∧ c = 133 then N1 133 p + co else if p = w ∧ c = 136 then N1 136 p - co else if p = w ∧ c = 135 then N1 135 p + 1 else N1 c p := fun c => buA_s
    have eA7 : ∀ j, buA w co N1 127 j = N1 127 j := fun j => buA_n (by decide) (by decide) (by decide)
    have es : ∀ j, bgB n m w co (S 30 13) S1 (33 + p) j = if p = w ∧ j = 2 then S (33 + p) 2 + co else if p = w ∧ j = 4 then S (33 + p) 4 + 1 else if p = w ∧ j = 7 then S 30 11 + 1 else if tb (S 30 13) p = true then (if j = 1 then S (33 + p) 1 + S 20 p else if j = 3 then S (33 + p) 3 + 1 else if j = 6 then m + S 21 p else S (33 + p) j) else S (33 + p) j := fun j => by
      rw [bgB_s hn hp]
      simp only [s1 (33 + p) _ (show 33 + p ≠ 30 by omega), s1 20 _ (by decide), s1 21 _ (by decide), s2 11 (by decide)]
    unfold RP RE oX
    simp only [eN 132 (by decide) (by decide), eN 133 (by decide) (by decide), eN 134 (by decide) (by decide), eN 135 (by decide) (by decide), eN 136 (by decide) (by decide), eN 138 (by decide) (by decide), eN 139 (by decide) (by decide), eN 129 (by decide) (by decide), eN 130 (by decide) (by decide), eN 131 (by decide) (by decide), eN 137 (by decide) (by decide), es, e12, e13, eS 22 _ (by decide) (by decide), eS 21 _ (by decide) (by decide), eS 19 _ (by decide) (by decide), tb_nn _ _ p (show p < 32 by omega), y27]
    unfold drF
    simp only [eA, eA7, x2, y 132 (by decide), y 133 (by decide), y 134 (by decide), y 135 (by decide), y 136 (by decide), y 138 (by decide), y 139 (by decide), y 129 (by decide), y 130 (by decide), y 131 (by decide), y 137 (by decide), p1, p2, p3, p4, p5, p6, p7, p8]
    by_cases hpw : p = w
    · subst hpw
      have hT : tb (S 30 12) p = true := hwt
      have h137 : ∀ g, g ≤ 240 → S 19 p = nI g → g < k → False := by
        intro g a b c
        have := (p10 g a b c).2
        rw [hT] at this
        cases this
      by_cases ht : tb (S 30 13) p = true
      · simp only [true_and, ht, hT, if_true]
        refine ⟨by simp, by simp, by simp, by simp, ?_, by simp, by simp, by simp, fun _ => ⟨fun q => by simp at q, fun _ => by simp⟩, fun g a b c => absurd (h137 g a b c) not_false⟩
        simp [i32_ss]
      · rw [Bool.not_eq_true] at ht
        simp only [true_and, ht, hT, if_true, Bool.false_eq_true, if_false]
        refine ⟨by simp, by simp, by simp, by simp, ?_, by simp, by simp, by simp, fun _ => ⟨fun q => by simp at q, fun _ => ?_⟩, fun g a b c => absurd (h137 g a b c) not_false⟩
        · simp [i32_ss]
        · obtain ⟨-, q2⟩ := p9 hT
          simpa using q2 ht
    · by_cases ht : tb (S 30 13) p = true
      · have hT := hsub p (by omega) ht
        have h137 : ∀ g, g ≤ 240 → S 19 p = nI g → g < k → False := by
          intro g a b c
          have := (p10 g a b c).2
          rw [hT] at this
          cases this
        simp only [hpw, false_and, ht, hT, if_true, if_false]
        exact ⟨by simp, by simp, by simp, by simp, by simp, by simp, by simp, by simp, fun _ => ⟨fun q => by simp at q, fun _ => by simp⟩, fun g a b c => absurd (h137 g a b c) not_false⟩
      · rw [Bool.not_eq_true] at ht
        simp only [hpw, false_and, ht, if_true, Bool.false_eq_true, if_false, Bool.not_false, Bool.and_true]
        exact ⟨trivial, trivial, trivial, trivial, trivial, trivial, trivial, trivial, fun hT => ⟨fun q => by simp at q, fun _ => (p9 hT).2 ht⟩, fun g a b c => p10 g a b c⟩
  refine ⟨⟨by rw [buO_lo (by decide), n1 _ _ (by decide), g1], by rw [buO_lo (by decide), n1 _ _ (by decide), g2, eS _ _ (by decide) (by decide)], by rw [buO_lo (by decide), n1 _ _ (by decide), g3], fun w hw p hp => by rw [buO_lo (by decide), n1 _ _ (by decide), g4 w hw p hp, eS _ _ (by omega) (by omega)], fun i hi => by rw [buO_lo (by decide), n1 _ _ (by decide), eS _ _ (by decide) (by decide), g5 i hi]⟩, ⟨fun p hp => by rw [eS _ _ (by decide) (by decide), eS _ _ (by decide) (by decide)]; exact v1 p hp, by rw [eS _ _ (by decide) (by decide)]; exact v2⟩, ?_, hPer, fun r j hr hj => ?_⟩
  · refine ⟨by rw [buO_123 (by decide), bgB_30 (by decide)]; simp, by rw [buO_123 (by decide), bgB_30 (by decide), n2 27 (by decide), s2 11 (by decide), a2]; simp, by rw [buO_123 (by decide), bgB_30 (by decide), n3]; simp, by rw [buO_123 (by decide), bgB_30 (by decide), s2 3 (by decide), hi2, nI_1]; simp, by rw [buO_123 (by decide), bgB_30 (by decide), n2 31 (by decide), s2 4 (by decide), a5]; simp, ?_, by rw [buO_123 (by decide), bgB_30 (by decide), n2 33 (by decide), s2 6 (by decide)]; simpa using a7, by rw [buO_123 (by decide), bgB_30 (by decide), n2 34 (by decide), s2 9 (by decide)]; simpa using a8⟩
    rw [buO_32, bgB_5, n2 32 (by decide), a6, s2 5 (by decide)]
    refine ms_eq (fun p hp => ?_) (fun p hp => rO_oX (hPer p hp)) h5
    obtain ⟨-, -, -, -, -, -, -, p8, -⟩ := hPer p hp
    exact p8
  · rw [buO_140 hj, bgB_r hn (by omega) hj, s2 3 (by decide), hi2, nI_clamp (by omega), hth2, s2 12 (by decide), n1 _ _ (by decide), s1 _ _ (by omega)]
    rw [bgB_30 (by decide), if_neg (by decide), if_pos rfl, s2 3 (by decide), hi2, nI_1, nI_clamp (by omega)] at hr
    by_cases e : r = i
    · rw [if_pos e, if_pos e]
    · rw [if_neg e, if_neg e]
      exact hq r j (by rw [hi2, nI_clamp (by omega)]; omega) hj
