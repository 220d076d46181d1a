/-! play: quiet MINUTES -/
theorem rx {σ γ : Type} (R : Nat → σ → γ) (P : Nat → σ → Prop) (n : Nat) (s0 : σ) (h0 : P 0 s0) (hs : ∀ k s, k < n → P k s → ∃ s', R k s = R (k + 1) s' ∧ P (k + 1) s') : ∃ s', R 0 s0 = R n s' ∧ P n s' := by
  induction n with
  | zero => exact ⟨s0, rfl, h0⟩
  | succ n ih =>
    obtain ⟨s', h1, h2⟩ := ih (fun k s hk => hs k s (by omega))
    obtain ⟨s2, h3, h4⟩ := hs n s' (by omega) h2
    exact ⟨s2, h1.trans h3, h4⟩
def nev (n : Nat) (m : Int32) (S : ab_M) : Prop := ∀ p, p < n → S 18 p ≠ m ∧ S 19 p ≠ m ∧ ¬ ((tb (S 30 12) p = true ∧ tb (S 30 13) p = false) ∧ S (33 + p) 6 = m)
theorem sc_none {a b : Nat → Bool} {n : Nat} {w : Int32} (h : ∀ p, p < n → a p = false ∧ b p = false) : fo (sc a b) n w = w := by
  induction n with
  | zero => rfl
  | succ n ih =>
    show sc a b n (fo (sc a b) n w) = w
    rw [ih (fun p hp => h p (by omega))]
    unfold sc
    rw [(h n (by omega)).1, (h n (by omega)).2]
    rfl
theorem nev_cg {n : Nat} {m : Int32} {S : ab_M} (h : nev n m S) : cgC n m S = S := by
  have hg : ∀ p, p < n → cgG m S p = false := by
    intro p hp
    obtain ⟨h1, h2, h3⟩ := h p hp
    unfold cgG
    by_cases h4 : S (33 + p) 6 = m
    · have h5 : ¬ (tb (S 30 12) p = true ∧ tb (S 30 13) p = false) := fun q => h3 ⟨q, h4⟩
      revert h5
      cases tb (S 30 12) p <;> cases tb (S 30 13) p <;> simp [h1]
    · simp [h1, h4]
  have e1 : cgT m S n = S 30 12 := sc_none fun p hp => ⟨decide_eq_false (h p hp).1, decide_eq_false (h p hp).2.1⟩
  have e2 : cgE m S n = S 30 13 := sc_none fun p hp => ⟨hg p hp, decide_eq_false (h p hp).2.1⟩
  have e3 : cgB m S n = S := by
    unfold cgB
    rw [e1, e2, up_id, up_id]
  unfold cgC
  rw [e3]
  refine (sw_ext (fun p j hp => ?_) (fun _ _ _ => rfl)).symm
  unfold cgF
  rw [hg p hp]
  by_cases e : j = 5
  · subst e
    simp
  · simp [e]
theorem sn_a {now s x : Int32} (h : now < s) : now < sn now s x := by
  unfold sn
  split
  · rename_i q
    exact q.1
  · exact h
theorem sn_b {now s x : Int32} : sn now s x ≤ s := by
  unfold sn
  split
  · rename_i q
    exact Int32.le_of_lt q.2
  · exact Int32.le_refl _
theorem sn_c {now s x : Int32} : ¬ (now < x ∧ x < sn now s x) := by
  unfold sn
  split
  · exact fun q => Int32.lt_irrefl q.2
  · rename_i h
    exact h
theorem sn_d {now s s' x : Int32} (h : s' ≤ s) (hx : ¬ (now < x ∧ x < s)) : ¬ (now < x ∧ x < s') := fun q => hx ⟨q.1, Int32.lt_of_lt_of_le q.2 h⟩
def nxG (now : Int32) (S : ab_M) (p : Nat) (s : Int32) : Int32 := if tb (S 30 12) p = true ∧ tb (S 30 13) p = false then sn now (sn now (sn now s (S 18 p)) (S 19 p)) (S (33 + p) 6) else sn now (sn now s (S 18 p)) (S 19 p)
theorem nx_ok {now : Int32} {S : ab_M} (h : now < 240) (n : Nat) : now < fo (nxG now S) n 240 ∧ ∀ p, p < n → ¬ (now < S 18 p ∧ S 18 p < fo (nxG now S) n 240) ∧ ¬ (now < S 19 p ∧ S 19 p < fo (nxG now S) n 240) ∧ ((tb (S 30 12) p = true ∧ tb (S 30 13) p = false) → ¬ (now < S (33 + p) 6 ∧ S (33 + p) 6 < fo (nxG now S) n 240)) := by
  refine fo_inv (P := fun k s => now < s ∧ ∀ p, p < k → ¬ (now < S 18 p ∧ S 18 p < s) ∧ ¬ (now < S 19 p ∧ S 19 p < s) ∧ ((tb (S 30 12) p = true ∧ tb (S 30 13) p = false) → ¬ (now < S (33 + p) 6 ∧ S (33 + p) 6 < s))) n ⟨h, fun p hp => absurd hp (by omega)⟩ (fun k b hk hb => ?_)
  obtain ⟨h1, h2⟩ := hb
  have hle : nxG now S k b ≤ b := by
    unfold nxG
    split
    · exact Int32.le_trans sn_b (Int32.le_trans sn_b sn_b)
    · exact Int32.le_trans sn_b sn_b
  refine ⟨?_, fun p hp => ?_⟩
  · unfold nxG
    split
    · exact sn_a (sn_a (sn_a h1))
    · exact sn_a (sn_a h1)
  · by_cases e : p = k
    · subst e
      unfold nxG
      by_cases hg : tb (S 30 12) p = true ∧ tb (S 30 13) p = false
      · rw [if_pos hg]
        exact ⟨sn_d (Int32.le_trans sn_b sn_b) sn_c, sn_d sn_b sn_c, fun _ => sn_c⟩
      · rw [if_neg hg]
        exact ⟨sn_d sn_b sn_c, sn_c, fun q => absurd q hg⟩
    · obtain ⟨a, b, c⟩ := h2 p (by omega)
      exact ⟨sn_d hle a, sn_d hle b, fun q => sn_d hle (c q)⟩
/-! what one more blocked MINUTE leaves -/
theorem bk_c {S : ab_M} {c j : Nat} (h : ¬ c = 30) : bk S c j = S c j := by
  unfold bk
  rw [up_n h]
theorem bk_j {S : ab_M} {j : Nat} (h : ¬ j = 6) : bk S 30 j = S 30 j := by
  unfold bk
  rw [up_ll, if_neg h]
theorem bk_s {S : ab_M} {p j : Nat} : bk S (33 + p) j = S (33 + p) j := by
  unfold bk
  rw [up_ls]
theorem bk_wt {S : ab_M} : wtC (bk S) = wtC S := by
  unfold wtC
  rw [bk_j (by decide), bk_j (by decide), bk_j (by decide), bk_c (by decide)]
theorem bk_ow {n : Nat} {S : ab_M} : owN n (bk S) = owN n S := by
  unfold owN
  rw [bk_j (by decide)]
  refine fo_congr (fun k hk => ?_)
  rw [bk_s, bk_c (by decide), bk_c (by decide)]
theorem bk_pr {n : Nat} {w : Int32} {S : ab_M} : prC n w (bk S) = prC n w S := by
  unfold prC
  refine fo_congr (fun k hk => ?_)
  rw [bk_c (by decide)]
theorem fo_ext {α : Type} {g g' : Nat → α → α} {n : Nat} {a : α} (h : ∀ k s, g k s = g' k s) : fo g n a = fo g' n a := by
  rw [show g = g' from funext fun k => funext fun s => h k s]
theorem bk_ab {n : Nat} {co : Int32} {S : ab_M} : abC n co (bk S) = abC n co S := by
  unfold abC
  rw [bk_j (by decide)]
  rw [show (fun (p : Nat) (s : Int32) => if bk S 24 p = 0 then s else s &&& (bt p ^^^ -1)) = (fun p s => if S 24 p = 0 then s else s &&& (bt p ^^^ -1)) from funext fun p => funext fun s => by rw [bk_c (by decide)]]
  rw [bk_j (by decide)]
  exact fo_ext fun k s => by rw [bk_c (by decide), bk_s]
theorem bk_stk {n : Nat} {S : ab_M} (h : stk n S) : stk n (bk S) := by
  unfold stk at h ⊢
  rw [bk_wt, bk_ow, bk_j (by decide), bk_j (by decide), bk_pr, bk_ab]
  exact h
theorem bk_nev {n : Nat} {m : Int32} {S : ab_M} (h : nev n m S) : nev n m (bk S) := by
  intro p hp
  rw [bk_c (by decide), bk_c (by decide), bk_j (by decide), bk_j (by decide), bk_s]
  exact h p hp
theorem rd_stk {n : Nat} {m : Int32} {S : ab_M} (h : stk n S) : rdC n m S = bk S := by
  unfold rdC
  rw [if_pos h.1]
  rcases h.2 with ⟨a, b⟩ | ⟨a, b⟩
  · rw [if_pos a, if_pos b]
  · rw [if_neg a, if_pos b]
theorem rd_no {n : Nat} {m : Int32} {S : ab_M} (h : wtC S = false) : rdC n m S = S := by
  unfold rdC
  rw [h]
  rfl
/-- beginRound as a whole -/
theorem sp_begin {scr : Option (List Int32)} {n t : Nat} {S : ab_M} (hC : CI n t S) (hw : wtC S = true) (m : Int32) : (stk n S ∧ ab_ms scr 14 [.ref 30, .int m] S = some (S, some (.int 0))) ∨ ab_ms scr 14 [.ref 30, .int m] S = some (rdC n m S, some (.int 1)) := by
  obtain ⟨hw1, hw2⟩ := wt_at hw
  by_cases hr : S 30 8 = 6
  · by_cases h0 : owN n S = 0
    · obtain ⟨hn, hM, -, -, ⟨i, hi, hi2⟩, -⟩ := hC
      have hi3 : i < 40 := by
        rw [hi2] at hw2
        exact (nI_ltI (b := 40) (by omega) (by decide)).mp hw2
      exact Or.inl ⟨⟨hw, Or.inl ⟨hr, h0⟩⟩, bg_own0 S n i hn hM hi3 hi2 m hr h0⟩
    · obtain ⟨hn, hM, -, -, ⟨i, hi, hi2⟩, -⟩ := hC
      have hi3 : i < 40 := by
        rw [hi2] at hw2
        exact (nI_ltI (b := 40) (by omega) (by decide)).mp hw2
      refine Or.inr ?_
      rw [bg_own S n i hn hM hi3 hi2 m hr h0]
      unfold rdC
      rw [if_pos hw, if_pos hr, if_neg h0]
  · by_cases h0 : abC n (prC n (S 30 13) S) S = 0
    · obtain ⟨hn, hM, -, -, ⟨i, hi, hi2⟩, -⟩ := hC
      have hi3 : i < 40 := by
        rw [hi2] at hw2
        exact (nI_ltI (b := 40) (by omega) (by decide)).mp hw2
      exact Or.inl ⟨⟨hw, Or.inr ⟨hr, h0⟩⟩, bg_dry S n i hn hM hi3 hi2 m hr hw1 h0⟩
    · obtain ⟨w, hwn, hwb, hwt⟩ := by_ok hC h0
      obtain ⟨hn, hM, ht, ⟨b, hb, hb2⟩, ⟨i, hi, hi2⟩, hk1, -⟩ := hC
      have hi3 : i < 40 := by
        rw [hi2] at hw2
        exact (nI_ltI (b := 40) (by omega) (by decide)).mp hw2
      refine Or.inr ?_
      have e := sp_buyer (scr := scr) S n t i b hn hM _ h0 hk1 hb hb2 hi hi2 ht
      rw [hwb] at e
      rw [bg_buy S n i hn hM hi3 hi2 m hr hw1 w (by omega) e]
      unfold rdC
      rw [if_pos hw, if_neg hr, if_neg h0, hwb, nI_clamp (by omega)]
def evC (n : Nat) (M : ab_M) : ab_M := fo (fun k S => mnC n (nI k) S) 240 (fo clG n (cl0 M))
theorem CI_clear {n t : Nat} {M : ab_M} (hn : n ≤ 8) (hM : M 16 3 = nI n) (ht : bkV t M) (hb : ∃ b, b < 8 ∧ M 30 10 = nI b) : CI n t (fo clG n (cl0 M)) := by
  have elo : ∀ c j, c < 33 → fo clG n (cl0 M) c j = cl0 M c j := fun c j h => by rw [fo_clG, if_neg (by omega)]
  obtain ⟨t1, t2, t3⟩ := ht
  have z : ∀ k, k = 3 ∨ k = 5 ∨ k = 12 ∨ k = 13 → cl0 M 30 k = 0 := by
    rintro k (rfl | rfl | rfl | rfl) <;> simp [cl0, ab_up]
  have z0 : ∀ q, tb 0 q = false := fun q => by simp [tb]
  refine ⟨hn, by rw [elo _ _ (by decide), cl0_o _ _ (by decide), hM], ⟨t1, by rw [elo _ _ (by decide), cl0_o _ _ (by decide), t2], fun i hi => by rw [elo _ _ (by decide), cl0_o _ _ (by decide)]; exact t3 i hi⟩, ?_, ⟨0, by decide, by rw [elo _ _ (by decide), z 3 (by omega)]; rfl⟩, ?_, ?_, ?_, ?_⟩
  · obtain ⟨b, h1, h2⟩ := hb
    exact ⟨b, h1, by rw [elo _ _ (by decide), ← h2]; simp [cl0, ab_up]⟩
  · rw [elo _ _ (by decide), z 12 (by omega)]
    exact fun q _ _ => z0 q
  · rw [elo _ _ (by decide), z 13 (by omega)]
    exact fun q _ _ => z0 q
  · rw [elo _ _ (by decide), z 13 (by omega)]
    intro q _ h
    rw [z0] at h
    cases h
  · rw [elo _ _ (by decide), z 5 (by omega)]
    exact Int32.le_refl _
def pyP (n t : Nat) (C0 : ab_M) (k : Nat) (s : ab_M × Int32 × Int32 × Option Value × Option Value) : Prop := s.1 = fo (fun k S => mnC n (nI k) S) k C0 ∧ CI n t s.1 ∧ (s.2.1 ≤ nI k ∨ ((∀ m', k ≤ m' → m' < 240 → nI m' < s.2.1 → nev n (nI m') s.1) ∧ ((s.2.2.1 = 1 ∧ stk n s.1) ∨ (s.2.2.1 = 0 ∧ wtC s.1 = false))))
theorem nx_nev {n k : Nat} {S : ab_M} (hk : k < 240) : ∀ m', k + 1 ≤ m' → m' < 240 → nI m' < fo (nxG (nI k) S) n 240 → nev n (nI m') S := by
  intro m' h1 h2 h3 p hp
  obtain ⟨-, h4⟩ := nx_ok (now := nI k) (S := S) (nI_lt (b := 240) hk (by decide)) n
  obtain ⟨a, b, c⟩ := h4 p hp
  have hlt : nI k < nI m' := nI_lt (by omega) (by omega)
  refine ⟨fun e => a ?_, fun e => b ?_, fun e => c e.1 ?_⟩
  · rw [e]; exact ⟨hlt, h3⟩
  · rw [e]; exact ⟨hlt, h3⟩
  · rw [e.2]; exact ⟨hlt, h3⟩
theorem py_step {scr : Option (List Int32)} {n t : Nat} (C0 : ab_M) (k : Nat) (hk : k < 240) (s : ab_M × Int32 × Int32 × Option Value × Option Value) (hP : pyP n t C0 k s) : ∃ s' : ab_M × Int32 × Int32 × Option Value × Option Value, ab_res scr 6 6 s.1 10 [some (.ref 30), some (.int s.2.1), some (.int s.2.2.1), some (.int (nI k)), s.2.2.2.1, s.2.2.2.2] [] = ab_res scr 6 6 s'.1 10 [some (.ref 30), some (.int s'.2.1), some (.int s'.2.2.1), some (.int (nI (k + 1))), s'.2.2.2.1, s'.2.2.2.2] [] ∧ pyP n t C0 (k + 1) s' := by
  obtain ⟨S, q, st, l4, l5⟩ := s
  obtain ⟨hS, hC, hq⟩ := hP
  have hS : S = fo (fun k S => mnC n (nI k) S) k C0 := hS
  have hC : CI n t S := hC
  have hq : q ≤ nI k ∨ ((∀ m', k ≤ m' → m' < 240 → nI m' < q → nev n (nI m') S) ∧ ((st = 1 ∧ stk n S) ∨ (st = 0 ∧ wtC S = false))) := hq
  have h1 : ¬ (240 : Int32) ≤ nI k := nI_ge (b := 240) hk (by decide)
  have hnext : fo (fun k S => mnC n (nI k) S) (k + 1) C0 = mnC n (nI k) S := by rw [hS]; rfl
  show ∃ s' : ab_M × Int32 × Int32 × Option Value × Option Value, ab_res scr 6 6 S 10 [some (.ref 30), some (.int q), some (.int st), some (.int (nI k)), l4, l5] [] = _ ∧ _
  by_cases hlt : nI k < q
  · rcases hq with hq | ⟨hq1, hq2⟩
    · exact absurd hlt (Int32.not_lt.mpr hq)
    · have hcg := nev_cg (hq1 k (Nat.le_refl _) hk hlt)
      rcases hq2 with ⟨e1, e2⟩ | ⟨e1, e2⟩
      · refine ⟨(bk S, q, st, l4, l5), ?_, ?_, CI_bk hC, Or.inr ⟨fun m' a b c => bk_nev (hq1 m' (by omega) b c), Or.inl ⟨e1, bk_stk e2⟩⟩⟩
        · subst e1
          rw [q6_10]
          simp only [q6_0, q6_1, q6_4, q6_5, q6_6, q6_7, q6_8, q6_9, q6_11, q6_14, q6_17, q6_18, q6_19, q6_22, q6_23, q6_24, q6_27, q6_28, q6_31, q6_33, q6_35, q6_38, q6_39, q6_40, q6_43, q6_46, q6_47, q6_50, q6_51, q6_53, q6_55, q6_58, q6_60, q6_63, q6_64, q6_67, q6_68, q6_69, q6_71, q6_74, q6_75, q6_76, q6_77, q6_80, q6_81, q6_82, q6_85, q6_86, q6_87, q6_90, q6_91, q6_92, q6_95, q6_96, q6_97, q6_100, q6_103, q6_106, n10, n01, Bool.false_eq_true, ab_bs, ab_bn, ab_pr0, ab_pr1, nl_n, nl_i, nl_r, nl_j, nl_nl, rc_30, gf_30_0, gf_30_1, gf_30_2, gf_30_3, pt_30_3, gf_30_4, pt_30_4, gf_30_5, pt_30_5, gf_30_6, pt_30_6, gf_30_7, pt_30_7, gf_30_8, pt_30_8, gf_30_9, pt_30_9_0, pt_30_9_1, gf_30_10, pt_30_10, gf_30_11, pt_30_11, gf_30_12, pt_30_12, gf_30_13, pt_30_13, h1, if_false, hlt, if_true, nI_succ]
          rfl
        · show bk S = _
          rw [hnext]
          unfold mnC
          rw [hcg, rd_stk e2]
      · refine ⟨(S, q, st, l4, l5), ?_, ?_, hC, Or.inr ⟨fun m' a b c => hq1 m' (by omega) b c, Or.inr ⟨e1, e2⟩⟩⟩
        · subst e1
          rw [q6_10]
          simp only [q6_0, q6_1, q6_4, q6_5, q6_6, q6_7, q6_8, q6_9, q6_11, q6_14, q6_17, q6_18, q6_19, q6_22, q6_23, q6_24, q6_27, q6_28, q6_31, q6_33, q6_35, q6_38, q6_39, q6_40, q6_43, q6_46, q6_47, q6_50, q6_51, q6_53, q6_55, q6_58, q6_60, q6_63, q6_64, q6_67, q6_68, q6_69, q6_71, q6_74, q6_75, q6_76, q6_77, q6_80, q6_81, q6_82, q6_85, q6_86, q6_87, q6_90, q6_91, q6_92, q6_95, q6_96, q6_97, q6_100, q6_103, q6_106, n10, n01, Bool.false_eq_true, ab_bs, ab_bn, ab_pr0, ab_pr1, nl_n, nl_i, nl_r, nl_j, nl_nl, rc_30, gf_30_0, gf_30_1, gf_30_2, gf_30_3, pt_30_3, gf_30_4, pt_30_4, gf_30_5, pt_30_5, gf_30_6, pt_30_6, gf_30_7, pt_30_7, gf_30_8, pt_30_8, gf_30_9, pt_30_9_0, pt_30_9_1, gf_30_10, pt_30_10, gf_30_11, pt_30_11, gf_30_12, pt_30_12, gf_30_13, pt_30_13, h1, if_false, hlt, if_true, nI_succ]
        · show S = _
          rw [hnext]
          unfold mnC
          rw [hcg, rd_no e2]
  · obtain ⟨hn, hM, -⟩ := id hC
    have hC1 := CI_cg (m := nI k) hC
    have e8 := sp_comeAndGo (scr := scr) S n hn hM (nI k)
    have hmn : mnC n (nI k) S = rdC n (nI k) (cgC n (nI k) S) := rfl
    rw [hmn] at hnext
    generalize cgC n (nI k) S = S1 at *
    obtain ⟨-, hM1, -, -, -, -, hk13, -⟩ := id hC1
    have e11 := sp_nextChange (scr := scr) S1 n hn hM1 (nI k)
    rw [show fo (fun p s => if tb (S1 30 12) p = true ∧ tb (S1 30 13) p = false then sn (nI k) (sn (nI k) (sn (nI k) s (S1 18 p)) (S1 19 p)) (S1 (33 + p) 6) else sn (nI k) (sn (nI k) s (S1 18 p)) (S1 19 p)) n 240 = fo (nxG (nI k) S1) n 240 from rfl] at e11
    have e13 := sp_wants (scr := scr) S1 hn hk13
    by_cases hw : wtC S1 = true
    · rcases sp_begin (scr := scr) hC1 hw (nI k) with ⟨hs, e14⟩ | e14
      · refine ⟨(bk S1, fo (nxG (nI k) S1) n 240, 1, some (.int 1), some (.int 0)), ?_, ?_, CI_bk hC1, Or.inr ⟨fun m' a b c => bk_nev (nx_nev hk m' a b c), Or.inl ⟨rfl, bk_stk hs⟩⟩⟩
        · rw [q6_10]
          simp only [q6_0, q6_1, q6_4, q6_5, q6_6, q6_7, q6_8, q6_9, q6_11, q6_14, q6_17, q6_18, q6_19, q6_22, q6_23, q6_24, q6_27, q6_28, q6_31, q6_33, q6_35, q6_38, q6_39, q6_40, q6_43, q6_46, q6_47, q6_50, q6_51, q6_53, q6_55, q6_58, q6_60, q6_63, q6_64, q6_67, q6_68, q6_69, q6_71, q6_74, q6_75, q6_76, q6_77, q6_80, q6_81, q6_82, q6_85, q6_86, q6_87, q6_90, q6_91, q6_92, q6_95, q6_96, q6_97, q6_100, q6_103, q6_106, n10, n01, Bool.false_eq_true, ab_bs, ab_bn, ab_pr0, ab_pr1, nl_n, nl_i, nl_r, nl_j, nl_nl, rc_30, gf_30_0, gf_30_1, gf_30_2, gf_30_3, pt_30_3, gf_30_4, pt_30_4, gf_30_5, pt_30_5, gf_30_6, pt_30_6, gf_30_7, pt_30_7, gf_30_8, pt_30_8, gf_30_9, pt_30_9_0, pt_30_9_1, gf_30_10, pt_30_10, gf_30_11, pt_30_11, gf_30_12, pt_30_12, gf_30_13, pt_30_13, h1, if_false, hlt, if_true, e8, e13, hw, e14, e11, not_true, nI_succ]
          rfl
        · show bk S1 = _
          rw [hnext, rd_stk hs]
      · refine ⟨(rdC n (nI k) S1, nI k + 1, 0, some (.int 1), some (.int 1)), ?_, hnext.symm, CI_rd hC1, Or.inl (by show nI k + 1 ≤ nI (k + 1); rw [nI_succ]; exact Int32.le_refl _)⟩
        rw [q6_10]
        simp only [q6_0, q6_1, q6_4, q6_5, q6_6, q6_7, q6_8, q6_9, q6_11, q6_14, q6_17, q6_18, q6_19, q6_22, q6_23, q6_24, q6_27, q6_28, q6_31, q6_33, q6_35, q6_38, q6_39, q6_40, q6_43, q6_46, q6_47, q6_50, q6_51, q6_53, q6_55, q6_58, q6_60, q6_63, q6_64, q6_67, q6_68, q6_69, q6_71, q6_74, q6_75, q6_76, q6_77, q6_80, q6_81, q6_82, q6_85, q6_86, q6_87, q6_90, q6_91, q6_92, q6_95, q6_96, q6_97, q6_100, q6_103, q6_106, n10, n01, Bool.false_eq_true, ab_bs, ab_bn, ab_pr0, ab_pr1, nl_n, nl_i, nl_r, nl_j, nl_nl, rc_30, gf_30_0, gf_30_1, gf_30_2, gf_30_3, pt_30_3, gf_30_4, pt_30_4, gf_30_5, pt_30_5, gf_30_6, pt_30_6, gf_30_7, pt_30_7, gf_30_8, pt_30_8, gf_30_9, pt_30_9_0, pt_30_9_1, gf_30_10, pt_30_10, gf_30_11, pt_30_11, gf_30_12, pt_30_12, gf_30_13, pt_30_13, h1, if_false, hlt, if_true, e8, e13, hw, e14, not_true, not_false_eq_true, nI_succ]
    · have hw' : wtC S1 = false := Bool.not_eq_true _ ▸ hw
      refine ⟨(S1, fo (nxG (nI k) S1) n 240, 0, some (.int 0), some (.int 0)), ?_, ?_, hC1, Or.inr ⟨fun m' a b c => nx_nev hk m' a b c, Or.inr ⟨rfl, hw'⟩⟩⟩
      · rw [q6_10]
        simp only [q6_0, q6_1, q6_4, q6_5, q6_6, q6_7, q6_8, q6_9, q6_11, q6_14, q6_17, q6_18, q6_19, q6_22, q6_23, q6_24, q6_27, q6_28, q6_31, q6_33, q6_35, q6_38, q6_39, q6_40, q6_43, q6_46, q6_47, q6_50, q6_51, q6_53, q6_55, q6_58, q6_60, q6_63, q6_64, q6_67, q6_68, q6_69, q6_71, q6_74, q6_75, q6_76, q6_77, q6_80, q6_81, q6_82, q6_85, q6_86, q6_87, q6_90, q6_91, q6_92, q6_95, q6_96, q6_97, q6_100, q6_103, q6_106, n10, n01, Bool.false_eq_true, ab_bs, ab_bn, ab_pr0, ab_pr1, nl_n, nl_i, nl_r, nl_j, nl_nl, rc_30, gf_30_0, gf_30_1, gf_30_2, gf_30_3, pt_30_3, gf_30_4, pt_30_4, gf_30_5, pt_30_5, gf_30_6, pt_30_6, gf_30_7, pt_30_7, gf_30_8, pt_30_8, gf_30_9, pt_30_9_0, pt_30_9_1, gf_30_10, pt_30_10, gf_30_11, pt_30_11, gf_30_12, pt_30_12, gf_30_13, pt_30_13, h1, if_false, hlt, if_true, e8, e13, hw', e11, nI_succ]
      · show S1 = _
        rw [hnext, rd_no hw']
theorem sp_play {scr : Option (List Int32)} (M : ab_M) (n t : Nat) (hn : n ≤ 8) (hM : M 16 3 = nI n) (ht : bkV t M) (hb : ∃ b, b < 8 ∧ M 30 10 = nI b) : ab_ms scr 6 [.ref 30] M = some (evC n M, none) ∧ CI n t (evC n M) := by
  have hC0 := CI_clear hn hM ht hb
  have e7 := sp_clear (scr := scr) M n hn hM
  have hev : evC n M = fo (fun k S => mnC n (nI k) S) 240 (fo clG n (cl0 M)) := rfl
  rw [hev]
  generalize fo clG n (cl0 M) = C0 at *
  obtain ⟨s', h1, h2, h3, -⟩ := rx (fun k (s : ab_M × Int32 × Int32 × Option Value × Option Value) => ab_res scr 6 6 s.1 10 [some (.ref 30), some (.int s.2.1), some (.int s.2.2.1), some (.int (nI k)), s.2.2.2.1, s.2.2.2.2] []) (pyP n t C0) 240 (C0, 0, 0, none, none) ⟨rfl, hC0, Or.inl (by show (0 : Int32) ≤ nI 0; decide)⟩ (fun k s hk hP => py_step C0 k hk s hP)
  rw [← h2]
  refine ⟨?_, h3⟩
  rw [ms6]
  simp only [q6_0, q6_1, q6_4, q6_5, q6_6, q6_7, q6_8, q6_9, q6_11, q6_14, q6_17, q6_18, q6_19, q6_22, q6_23, q6_24, q6_27, q6_28, q6_31, q6_33, q6_35, q6_38, q6_39, q6_40, q6_43, q6_46, q6_47, q6_50, q6_51, q6_53, q6_55, q6_58, q6_60, q6_63, q6_64, q6_67, q6_68, q6_69, q6_71, q6_74, q6_75, q6_76, q6_77, q6_80, q6_81, q6_82, q6_85, q6_86, q6_87, q6_90, q6_91, q6_92, q6_95, q6_96, q6_97, q6_100, q6_103, q6_106, n10, n01, Bool.false_eq_true, ab_bs, ab_bn, ab_pr0, ab_pr1, nl_n, nl_i, nl_r, nl_j, nl_nl, rc_30, gf_30_0, gf_30_1, gf_30_2, gf_30_3, pt_30_3, gf_30_4, pt_30_4, gf_30_5, pt_30_5, gf_30_6, pt_30_6, gf_30_7, pt_30_7, gf_30_8, pt_30_8, gf_30_9, pt_30_9_0, pt_30_9_1, gf_30_10, pt_30_10, gf_30_11, pt_30_11, gf_30_12, pt_30_12, gf_30_13, pt_30_13, e7]
  refine Eq.trans h1 ?_
  show ab_res scr 6 6 _ 10 _ [] = _
  rw [q6_10]
  simp only [q6_0, q6_1, q6_4, q6_5, q6_6, q6_7, q6_8, q6_9, q6_11, q6_14, q6_17, q6_18, q6_19, q6_22, q6_23, q6_24, q6_27, q6_28, q6_31, q6_33, q6_35, q6_38, q6_39, q6_40, q6_43, q6_46, q6_47, q6_50, q6_51, q6_53, q6_55, q6_58, q6_60, q6_63, q6_64, q6_67, q6_68, q6_69, q6_71, q6_74, q6_75, q6_76, q6_77, q6_80, q6_81, q6_82, q6_85, q6_86, q6_87, q6_90, q6_91, q6_92, q6_95, q6_96, q6_97, q6_100, q6_103, q6_106, n10, n01, Bool.false_eq_true, ab_bs, ab_bn, ab_pr0, ab_pr1, nl_n, nl_i, nl_r, nl_j, nl_nl, (show (240 : Int32) ≤ nI 240 by decide), if_true]
