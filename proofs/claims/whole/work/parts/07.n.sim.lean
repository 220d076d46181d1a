/-! oneRound keeps both side by side -/
theorem tb_nn (w x : Int32) (p : Nat) (hp : p < 32) : tb (w &&& (x ^^^ -1)) p = (tb w p && !tb x p) := by
  rw [tb_and, tb_off _ _ hp]
theorem RR_bk {n t k : Nat} {N S : ab_M} (h : RR n t k N S) : RR n t k (ab_up N 123 33 (N 123 33 + 1)) (bk S) := by
  obtain ⟨⟨g1, g2, g3, g4, g5⟩, ⟨v1, v2⟩, ⟨a1, a2, a3, a4, a5, a6, a7, a8⟩, hP, hq⟩ := h
  have eN : ∀ c j, c ≠ 123 → ab_up N 123 33 (N 123 33 + 1) c j = N c j := fun c j h => up_n h
  have e3 : ∀ j, j ≠ 33 → ab_up N 123 33 (N 123 33 + 1) 123 j = N 123 j := fun j h => up_o _ _ _ _ _ _ (fun q => h q.2)
  have eS : ∀ c j, ¬ c = 30 → bk S c j = S c j := fun c j h => bk_c h
  refine ⟨⟨by rw [eN _ _ (by decide), g1], by rw [eN _ _ (by decide), g2, eS _ _ (by decide)], by rw [eN _ _ (by decide), g3], fun w hw p hp => by rw [eN _ _ (by decide), g4 w hw p hp, eS _ _ (by omega)], fun i hi => by rw [eN _ _ (by decide), eS _ _ (by decide), g5 i hi]⟩, ⟨fun p hp => by rw [eS _ _ (by decide), eS _ _ (by decide)]; exact v1 p hp, by rw [eS _ _ (by decide)]; exact v2⟩, ?_, fun p hp => ?_, fun r j hr hj => ?_⟩
  · refine ⟨by rw [e3 _ (by decide), bk_j (by decide), a1], by rw [e3 _ (by decide), bk_j (by decide), a2], by rw [e3 _ (by decide), bk_j (by decide), a3], by rw [e3 _ (by decide), bk_j (by decide), a4], by rw [e3 _ (by decide), bk_j (by decide), a5], by rw [e3 _ (by decide), bk_j (by decide), a6], ?_, by rw [e3 _ (by decide), bk_j (by decide)]; exact a8⟩
    rw [up_s, a7]
    unfold bk
    rw [up_s]
  · have eo : oX (bk S) p = oX S p := by
      unfold oX
      rw [bk_s, bk_s, bk_s]
    have hp9 := hP p hp
    unfold RP RE at hp9 ⊢
    rw [eo, eS 22 _ (by decide), eS 21 _ (by decide), eS 19 _ (by decide), bk_j (by decide), bk_j (by decide)]
    simp only [bk_s]
    rw [eN _ _ (by decide), eN _ _ (by decide), eN _ _ (by decide), eN _ _ (by decide), eN _ _ (by decide), eN _ _ (by decide), eN _ _ (by decide), eN _ _ (by decide), eN _ _ (by decide), eN _ _ (by decide), eN _ _ (by decide)]
    exact hp9
  · rw [eN _ _ (by decide), eS _ _ (by omega)]
    rw [bk_j (by decide)] at hr
    exact hq r j hr hj
theorem RR_own {n t k i : Nat} {N S : ab_M} (hC : CI n t S) (h : RR n t k N S) (m : Int32) (hi : i < 40) (hi2 : S 30 3 = nI i) : RR n t k (owC n m (S 30 13) N i) (bgO n m S) := by
  have hth := th_eq hC h
  have how := ow_eq h
  have hR := h
  obtain ⟨hn, hM, hbk, hb, -, hk1, hk2, hsub, h5⟩ := id hC
  obtain ⟨⟨g1, g2, g3, g4, g5⟩, ⟨v1, v2⟩, ⟨a1, a2, a3, a4, a5, a6, a7, a8⟩, hP, hq⟩ := h
  have hpr : prO n (owV n (S 30 13) N) (rs n (owF (S 30 13) N) N) = prC n (owN n S) S := by
    rw [how]
    unfold prO prC
    refine fo_congr fun q hq => ?_
    rw [rs_lo (by decide), g4 2 (by decide) q hq]
  have eS : ∀ c j, c < 33 → c ≠ 30 → bgO n m S c j = S c j := fun c j h h2 => bgO_lo h h2
  have e12 : bgO n m S 30 12 = S 30 12 := by rw [bgO_30 (by decide)]; simp
  have e13 : bgO n m S 30 13 = S 30 13 &&& (owN n S ^^^ -1) := by rw [bgO_30 (by decide)]; simp
  have hPer : ∀ p, p < n → RP (owC n m (S 30 13) N i) (bgO n m S) k p := by
    intro p hp
    have hP9 := hP p hp
    have hro := rO_oX hP9
    obtain ⟨p1, p2, p3, p4, p5, p6, p7, p8, p9, p10⟩ := hP9
    have x2 : N 127 (9 * p + 2) = S 20 p := g4 2 (by decide) p hp
    have x3 : N 127 (9 * p + 3) = S 21 p := g4 3 (by decide) p hp
    have htb := ow_tb (S := S) hn hp
    have eN : ∀ c, 129 ≤ c → c ≤ 139 → owC n m (S 30 13) N i c p = if tb (owN n S) p = true then ogF m N c p else N c p := fun c a b => owC_s (owN n S) how hp a b (by rw [htb, p5, x2])
    have es : ∀ j, bgO n m S (33 + p) j = if tb (owN n S) p = true then (if j = 1 then S (33 + p) 1 + S 20 p else if j = 2 then S (33 + p) 2 + S 20 p else if j = 3 then S (33 + p) 3 + 1 else if j = 6 then m + S 21 p else S (33 + p) j) else S (33 + p) j := fun j => bgO_s hn hp
    unfold RP RE oX
    simp only [eN 132 (by decide) (by decide), eN 133 (by decide) (by decide), eN 134 (by decide) (by decide), eN 135 (by decide) (by decide), eN 136 (by decide) (by decide), eN 138 (by decide) (by decide), eN 139 (by decide) (by decide), eN 129 (by decide) (by decide), eN 130 (by decide) (by decide), eN 131 (by decide) (by decide), eN 137 (by decide) (by decide), es, e12, e13, eS 22 _ (by decide) (by decide), eS 21 _ (by decide) (by decide), eS 19 _ (by decide) (by decide), tb_nn _ _ p (by omega)]
    by_cases ht : tb (owN n S) p = true
    · have ht9 := ht
      rw [htb, Bool.and_eq_true] at ht9
      have hE := ht9.1
      have hT := hsub p (by omega) hE
      simp only [ht, if_true, ogF, x2, p1, p2, p3, p4, p5, p6, p7, p8, hE, hT]
      refine ⟨by simp, by simp, by simp, by simp, ?_, by simp, by simp, by simp, fun _ => ⟨fun q => by simp at q, fun _ => by simp⟩, fun g hg e hgk => ?_⟩
      · simp only [show ¬ (136 = 132) by decide, show ¬ (136 = 134) by decide, show ¬ (136 = 131) by decide, show ¬ (136 = 130) by decide, if_false, if_true, show ¬ (2 = 1) by decide]
        rw [Int32.sub_eq_add_neg, Int32.sub_eq_add_neg, Int32.sub_eq_add_neg, Int32.neg_add, Int32.sub_eq_add_neg, Int32.add_assoc]
      · obtain ⟨-, r2⟩ := p10 g hg e hgk
        rw [hT] at r2
        cases r2
    · rw [Bool.not_eq_true] at ht
      simp only [ht, Bool.false_eq_true, if_false, Bool.not_false, Bool.and_true]
      exact ⟨p1, p2, p3, p4, p5, p6, p7, p8, p9, p10⟩
  refine ⟨⟨by rw [owC_lo (by decide), g1], by rw [owC_lo (by decide), g2, eS _ _ (by decide) (by decide)], by rw [owC_lo (by decide), g3], fun w hw p hp => by rw [owC_lo (by decide), g4 w hw p hp, eS _ _ (by omega) (by omega)], fun i hi => by rw [owC_lo (by decide), eS _ _ (by decide) (by decide), g5 i hi]⟩, ⟨fun p hp => by rw [eS _ _ (by decide) (by decide), eS _ _ (by decide) (by decide)]; exact v1 p hp, by rw [eS _ _ (by decide) (by decide)]; exact v2⟩, ?_, hPer, fun r j hr hj => ?_⟩
  · refine ⟨by rw [owC_123 (by decide), bgO_30 (by decide)]; simpa using a1, by rw [owC_123 (by decide), bgO_30 (by decide)]; simp [a2], by rw [owC_123 (by decide), bgO_30 (by decide)]; simpa using a3, by rw [owC_123 (by decide), bgO_30 (by decide)]; simp [hi2, nI_1], by rw [owC_123 (by decide), bgO_30 (by decide), hpr]; simp [a5], ?_, by rw [owC_123 (by decide), bgO_30 (by decide)]; simpa using a7, by rw [owC_123 (by decide), bgO_30 (by decide)]; simpa using a8⟩
    rw [owC_32, bgO_5, a6]
    refine ms_eq (fun p hp => ?_) (fun p hp => rO_oX (hPer p hp)) h5
    obtain ⟨-, -, -, -, -, -, -, p8, -⟩ := hPer p hp
    exact p8
  · rw [owC_140 hj, bgO_r hn hj, hi2, nI_clamp (by omega), hpr, how, hth]
    rw [bgO_30 (by decide), if_pos rfl, hi2, nI_1, nI_clamp (by omega)] at hr
    by_cases e : r = i
    · rw [if_pos e, if_pos e]
    · rw [if_neg e, if_neg e]
      exact hq r j (by rw [hi2, nI_clamp (by omega)]; omega) hj
