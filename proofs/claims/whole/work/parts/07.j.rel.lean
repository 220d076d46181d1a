/-! class and reference side by side -/
theorem i32_sub (m a l : Int32) : m - a = l ↔ a + l = m := by
  constructor
  · intro h
    rw [← h, Int32.add_comm, Int32.sub_add_cancel]
  · intro h
    rw [← h, Int32.add_comm, Int32.add_sub_cancel]
def PG (n t : Nat) (N S : ab_M) : Prop := N 127 72 = nI n ∧ N 127 73 = S 16 4 ∧ N 127 86 = nI t ∧ (∀ w, w < 9 → ∀ p, p < n → N 127 (9 * p + w) = S (18 + w) p) ∧ ∀ i, i < t → N 127 (74 + i) = S 27 i
def PV (n : Nat) (S : ab_M) : Prop := (∀ p, p < n → ∃ c g, c < g ∧ g ≤ 240 ∧ S 18 p = nI c ∧ S 19 p = nI g) ∧ ∃ g, 1 ≤ g ∧ g ≤ 8 ∧ S 16 4 = nI g
def RA (N S : ab_M) : Prop := N 123 25 = S 30 10 ∧ N 123 27 = S 30 11 ∧ N 123 28 = S 30 7 ∧ N 123 30 = S 30 3 ∧ N 123 31 = S 30 4 ∧ N 123 32 = S 30 5 ∧ N 123 33 = S 30 6 ∧ (N 123 34 = 0 ↔ S 30 9 ≠ 0)
def RE (N S : ab_M) (p : Nat) : Prop := (tb (S 30 13) p = true → N 130 p = S (33 + p) 5 ∧ ∃ e, e < 240 ∧ S (33 + p) 5 = nI e) ∧ (tb (S 30 13) p = false → N 130 p = -4 ∧ N 131 p + S 21 p = S (33 + p) 6)
def RP (N S : ab_M) (k p : Nat) : Prop := N 132 p = S (33 + p) 1 ∧ N 133 p = S (33 + p) 2 ∧ N 134 p = S (33 + p) 3 ∧ N 135 p = S (33 + p) 4 ∧ N 136 p = S 22 p - S (33 + p) 2 ∧ N 138 p = S (33 + p) 0 ∧ N 139 p = S (33 + p) 7 ∧ N 129 p = (if tb (S 30 12) p = true then 1 else 0) ∧ (tb (S 30 12) p = true → RE N S p) ∧ ∀ g, g ≤ 240 → S 19 p = nI g → g < k → N 137 p = ia (oX S p) ∧ tb (S 30 12) p = false
def RQ (N S : ab_M) : Prop := ∀ r k, r < (S 30 3).toNatClampNeg → k < 5 → N 140 (5 * r + k) = S (41 + r) k
def RR (n t k : Nat) (N S : ab_M) : Prop := PG n t N S ∧ PV n S ∧ RA N S ∧ (∀ p, p < n → RP N S k p) ∧ RQ N S
theorem rO_oX {N S : ab_M} {k p : Nat} (h : RP N S k p) : rO N p = oX S p := by
  obtain ⟨a, b, -, -, -, c, -⟩ := h
  unfold rO oX
  rw [a, b, c]
/-! arrives and comeAndGo -/
theorem cg_lo {n : Nat} {m : Int32} {S : ab_M} {c j : Nat} (h : c < 33) (h2 : c ≠ 30) : cgC n m S c j = S c j := by
  unfold cgC
  rw [sw_c h, cgB_n h2]
theorem cg_30 {n : Nat} {m : Int32} {S : ab_M} {j : Nat} (a : j ≠ 12) (b : j ≠ 13) : cgC n m S 30 j = S 30 j := by
  unfold cgC
  rw [sw_c (by decide), cgB_30 a b]
theorem cg_12 {n : Nat} {m : Int32} {S : ab_M} {p : Nat} (hn : n ≤ 8) (hp : p < n) : tb (cgC n m S 30 12) p = (decide (S 18 p = m) || (!decide (S 19 p = m) && tb (S 30 12) p)) := by
  unfold cgC
  rw [sw_c (by decide), cgB_12]
  unfold cgT
  rw [sc_lo _ _ _ hn hp]
theorem cg_13 {n : Nat} {m : Int32} {S : ab_M} {p : Nat} (hn : n ≤ 8) (hp : p < n) : tb (cgC n m S 30 13) p = (cgG m S p || (!decide (S 19 p = m) && tb (S 30 13) p)) := by
  unfold cgC
  rw [sw_c (by decide), cgB_13]
  unfold cgE
  rw [sc_lo _ _ _ hn hp]
theorem cg_s {n : Nat} {m : Int32} {S : ab_M} {p j : Nat} (hp : p < n) : cgC n m S (33 + p) j = cgF m S p j := by
  unfold cgC
  rw [sw_i hp]
theorem cg_r {n : Nat} {m : Int32} {S : ab_M} {r j : Nat} (hn : n ≤ 8) : cgC n m S (41 + r) j = S (41 + r) j := by
  unfold cgC
  rw [sw_hi hn (by omega), cgB_n (by omega)]
theorem nI_ne4 {e : Nat} (h : e < 240) : nI e ≠ -4 := by
  have : ∀ e, e < 240 → nI e ≠ -4 := by decide +kernel
  exact this e h
theorem RR_arrives {n t k : Nat} {N S : ab_M} (hC : CI n t S) (hk : k < 240) (h : RR n t k N S) : RR n t (k + 1) (rs n (arF (nI k) N) N) (cgC n (nI k) S) := by
  obtain ⟨⟨g1, g2, g3, g4, g5⟩, ⟨v1, v2⟩, ⟨a1, a2, a3, a4, a5, a6, a7, a8⟩, hp, hq⟩ := h
  obtain ⟨hn, hM, hbk, hb, hi, hk1, hk2, hsub, h5⟩ := hC
  have eN : ∀ c j, c < 129 → rs n (arF (nI k) N) N c j = N c j := fun c j h => rs_lo h
  refine ⟨⟨by rw [eN _ _ (by decide), g1], by rw [eN _ _ (by decide), g2, cg_lo (by decide) (by decide)], by rw [eN _ _ (by decide), g3], fun w hw p hp => ?_, fun i hi => by rw [eN _ _ (by decide), cg_lo (by decide) (by decide), g5 i hi]⟩, ⟨fun p hp => ?_, ?_⟩, ?_, fun p hpn => ?_, ?_⟩
  · rw [eN _ _ (by decide), g4 w hw p hp, cg_lo (by omega) (by omega)]
  · rw [cg_lo (by decide) (by decide), cg_lo (by decide) (by decide)]
    exact v1 p hp
  · rw [cg_lo (by decide) (by decide)]
    exact v2
  · unfold RA
    rw [eN _ _ (by decide), eN _ _ (by decide), eN _ _ (by decide), eN _ _ (by decide), eN _ _ (by decide), eN _ _ (by decide), eN _ _ (by decide), eN _ _ (by decide), cg_30 (by decide) (by decide), cg_30 (by decide) (by decide), cg_30 (by decide) (by decide), cg_30 (by decide) (by decide), cg_30 (by decide) (by decide), cg_30 (by decide) (by decide), cg_30 (by decide) (by decide), cg_30 (by decide) (by decide)]
    exact ⟨a1, a2, a3, a4, a5, a6, a7, a8⟩
  · have hP := hp p hpn
    have hro := rO_oX hP
    obtain ⟨p1, p2, p3, p4, p5, p6, p7, p8, p9, p10⟩ := hP
    obtain ⟨c, g, hcg, hg240, hc, hg⟩ := v1 p hpn
    have x0 : N 127 (9 * p) = S 18 p := g4 0 (by decide) p hpn
    have x1 : N 127 (9 * p + 1) = S 19 p := g4 1 (by decide) p hpn
    have x3 : N 127 (9 * p + 3) = S 21 p := g4 3 (by decide) p hpn
    have eR : ∀ c, 129 ≤ c → c ≤ 139 → rs n (arF (nI k) N) N c p = arF (nI k) N c p := fun c h1 h2 => rs_i h1 h2 hpn
    have hsubp := hsub p (by omega)
    have eoX : oX (cgC n (nI k) S) p = oX S p := by
      unfold oX
      rw [cg_s hpn, cg_s hpn, cg_s hpn]
      simp [cgF]
    have es : ∀ j, j ≠ 5 → cgC n (nI k) S (33 + p) j = S (33 + p) j := fun j hj => by rw [cg_s hpn]; unfold cgF; rw [if_neg hj]
    have es5 : cgC n (nI k) S (33 + p) 5 = if cgG (nI k) S p = true then nI k else S (33 + p) 5 := by rw [cg_s hpn]; unfold cgF; rw [if_pos rfl]
    have e29 : rs n (arF (nI k) N) N 129 p = arT (nI k) N p := eR 129 (by decide) (by decide)
    have e30 : rs n (arF (nI k) N) N 130 p = arE (nI k) N p := eR 130 (by decide) (by decide)
    have e31 : rs n (arF (nI k) N) N 131 p = N 131 p := eR 131 (by decide) (by decide)
    have e37 : rs n (arF (nI k) N) N 137 p = arW (nI k) N p := eR 137 (by decide) (by decide)
    have eo : ∀ c, 129 ≤ c → c ≤ 139 → c ≠ 129 → c ≠ 130 → c ≠ 137 → rs n (arF (nI k) N) N c p = N c p := by
      intro c h1 h2 h3 h4 h5
      rw [eR c h1 h2]
      unfold arF
      rw [if_neg h3, if_neg h4, if_neg h5]
    unfold RP RE
    rw [eo 132 (by decide) (by decide) (by decide) (by decide) (by decide), eo 133 (by decide) (by decide) (by decide) (by decide) (by decide), eo 134 (by decide) (by decide) (by decide) (by decide) (by decide), eo 135 (by decide) (by decide) (by decide) (by decide) (by decide), eo 136 (by decide) (by decide) (by decide) (by decide) (by decide), eo 138 (by decide) (by decide) (by decide) (by decide) (by decide), eo 139 (by decide) (by decide) (by decide) (by decide) (by decide), e29, e30, e31, e37, es 1 (by decide), es 2 (by decide), es 3 (by decide), es 4 (by decide), es 0 (by decide), es 7 (by decide), es 6 (by decide), es5, eoX, cg_12 hn hpn, cg_13 hn hpn, cg_lo (by decide) (by decide), cg_lo (by decide) (by decide), cg_lo (by decide) (by decide)]
    refine ⟨p1, p2, p3, p4, p5, p6, p7, ?_⟩
    unfold arE arE1 arT arW
    rw [x0, x1, x3, hro]
    by_cases h1 : c = k
    · have c1 : S 18 p = nI k := by rw [hc, h1]
      have c2 : ¬ S 19 p = nI k := by rw [hg, nI_eq (by omega) (by omega)]; omega
      have hG : cgG (nI k) S p = true := by simp [cgG, c1]
      refine ⟨by simp [c1, c2], fun _ => ⟨fun _ => ⟨?_, ?_⟩, fun h => ?_⟩, fun g' hg' e h => ?_⟩
      · simp [c1, c2, hG, nI_ne4 hk]
      · rw [if_pos hG]
        exact ⟨k, hk, rfl⟩
      · rw [hG] at h
        simp at h
      · rw [hg, nI_eq (by omega) (by omega)] at e
        omega
    · have c1 : ¬ S 18 p = nI k := by rw [hc, nI_eq (by omega) (by omega)]; exact h1
      by_cases h2 : g = k
      · have c2 : S 19 p = nI k := by rw [hg, h2]
        have hG : cgG (nI k) S p = false := by simp [cgG, c1, c2]
        refine ⟨by simp [c1, c2], fun h => ?_, fun g' hg' e h => ⟨by simp [c2], by simp [c1, c2]⟩⟩
        simp [c1, c2] at h
      · have c2 : ¬ S 19 p = nI k := by rw [hg, nI_eq (by omega) (by omega)]; exact h2
        refine ⟨by simp [c1, c2, p8], fun h => ?_, fun g' hg' e h => ?_⟩
        · simp only [c1, c2, decide_false, Bool.false_or, Bool.not_false, Bool.true_and] at h
          have h9 := p9 h
          obtain ⟨q1, q2⟩ := h9
          by_cases hE : tb (S 30 13) p = true
          · obtain ⟨q3, e, he, q4⟩ := q1 hE
            have hG : cgG (nI k) S p = false := by simp [cgG, c1, c2, hE]
            have q5 : ¬ S (33 + p) 5 = -4 := by rw [q4]; exact nI_ne4 he
            refine ⟨fun _ => ⟨by simp [c1, c2, hG, q3, q5], by rw [hG]; exact ⟨e, he, by simpa using q4⟩⟩, fun h => ?_⟩
            rw [hE] at h
            simp [c2] at h
          · rw [Bool.not_eq_true] at hE
            obtain ⟨q3, q4⟩ := q2 hE
            have q5 : N 129 p = 1 := by rw [p8, h]; rfl
            by_cases h3 : S (33 + p) 6 = nI k
            · have hG : cgG (nI k) S p = true := by simp [cgG, c1, c2, hE, h, h3]
              have q6 : nI k - N 131 p = S 21 p := by rw [i32_sub, q4, h3]
              refine ⟨fun _ => ⟨by simp [c1, c2, hG, q3, q5, q6], by rw [if_pos hG]; exact ⟨k, hk, rfl⟩⟩, fun h => ?_⟩
              rw [hG] at h
              simp at h
            · have hG : cgG (nI k) S p = false := by simp [cgG, c1, c2, h3]
              have q6 : ¬ nI k - N 131 p = S 21 p := by rw [i32_sub, q4]; exact h3
              refine ⟨fun h => ?_, fun _ => ⟨by simp [c1, c2, q3, q6], q4⟩⟩
              rw [hG, hE] at h
              simp at h
        · rw [hg, nI_eq (by omega) (by omega)] at e
          obtain ⟨r1, r2⟩ := p10 g hg240 hg (by omega)
          exact ⟨by simp [c2, r1], by simp [c1, r2]⟩
  · intro r j hr hj
    rw [rs_hi (by decide), cg_r hn]
    rw [cg_30 (by decide) (by decide)] at hr
    exact hq r j hr hj
