/-! bits set and cleared -/
theorem tb_bt2 (p q : Nat) (hp : p < 8) (hq : q < 32) : tb (bt p) q = decide (p = q) := by
  have : ∀ p, p < 8 → ∀ q, q < 32 → tb (bt p) q = decide (p = q) := by decide +kernel
  exact this p hp q hq
theorem tb_set (s : Int32) (p q : Nat) (hp : p < 8) (hq : q < 32) : tb (s ||| bt p) q = (tb s q || decide (p = q)) := by
  rw [tb_or, tb_bt2 p q hp hq]
theorem tb_clr (s : Int32) (p q : Nat) (hp : p < 8) (hq : q < 32) : tb (s &&& (bt p ^^^ -1)) q = (tb s q && !decide (p = q)) := by
  rw [tb_and, tb_off _ _ hq, tb_bt2 p q hp hq]
/-- a step of a fold that touches its own bit alone -/
def ob (g : Nat → Int32 → Int32) : Prop := ∀ p s q, p < 8 → q < 32 → q ≠ p → tb (g p s) q = tb s q
theorem fb_hi {g : Nat → Int32 → Int32} (hg : ob g) {n : Nat} (w : Int32) {q : Nat} (hn : n ≤ 8) (hq : q < 32) (h : n ≤ q) : tb (fo g n w) q = tb w q := by
  induction n with
  | zero => rfl
  | succ n ih =>
    show tb (g n (fo g n w)) q = _
    rw [hg n _ q (by omega) hq (by omega), ih (by omega) (by omega)]
theorem fb_lo {g : Nat → Int32 → Int32} (hg : ob g) {n : Nat} (w : Int32) {q : Nat} (hn : n ≤ 8) (h : q < n) : tb (fo g n w) q = tb (g q (fo g q w)) q := by
  induction n with
  | zero => omega
  | succ n ih =>
    by_cases e : q = n
    · subst e
      rfl
    · show tb (g n (fo g n w)) q = _
      rw [hg n _ q (by omega) (by omega) e, ih (by omega) (by omega)]
/-- set here, cleared there -/
def sc (a b : Nat → Bool) (p : Nat) (s : Int32) : Int32 := if a p = true then s ||| bt p else if b p = true then s &&& (bt p ^^^ -1) else s
theorem sc_ob (a b : Nat → Bool) : ob (sc a b) := by
  intro p s q hp hq hne
  unfold sc
  have e : decide (p = q) = false := decide_eq_false (fun h => hne h.symm)
  split
  · rw [tb_set _ _ _ hp hq, e, Bool.or_false]
  · split
    · rw [tb_clr _ _ _ hp hq, e]
      simp
    · rfl
theorem sc_lo (a b : Nat → Bool) {n : Nat} (w : Int32) {q : Nat} (hn : n ≤ 8) (h : q < n) : tb (fo (sc a b) n w) q = (a q || (!b q && tb w q)) := by
  rw [fb_lo (sc_ob a b) w hn h]
  have e := fb_hi (n := q) (sc_ob a b) w (q := q) (by omega) (by omega) (Nat.le_refl _)
  unfold sc at e ⊢
  split
  · rename_i h1
    rw [tb_set _ _ _ (by omega) (by omega), h1]
    simp
  · rename_i h1
    rw [Bool.not_eq_true] at h1
    split
    · rename_i h2
      rw [tb_clr _ _ _ (by omega) (by omega), h1, h2]
      simp
    · rename_i h2
      rw [Bool.not_eq_true] at h2
      rw [e, h1, h2]
      simp
theorem sc_hi (a b : Nat → Bool) {n : Nat} (w : Int32) {q : Nat} (hn : n ≤ 8) (hq : q < 32) (h : n ≤ q) : tb (fo (sc a b) n w) q = tb w q := fb_hi (sc_ob a b) w hn hq h
/-- a set of PEOPLE below n -/
def mk (n : Nat) (w : Int32) : Prop := ∀ q, n ≤ q → q < 32 → tb w q = false
theorem tb_ext {a b : Int32} (h : ∀ q, q < 32 → tb a q = tb b q) : a = b := by
  apply Int32.toBitVec_inj.mp
  apply BitVec.eq_of_getLsbD_eq
  intro i hi
  exact h i hi
theorem mk_nI {n : Nat} {w : Int32} (hn : n ≤ 8) (h : mk n w) : ∃ j, j < 256 ∧ w = nI j := by
  have e : w.toBitVec = (w.toBitVec.setWidth 8).setWidth 32 := by
    apply BitVec.eq_of_getLsbD_eq
    intro i hi
    rw [BitVec.getLsbD_setWidth, BitVec.getLsbD_setWidth]
    by_cases h8 : i < 8
    · simp [h8, hi]
    · have := h i (by omega) hi
      unfold tb at this
      rw [this]
      simp [h8]
  obtain ⟨y, hy⟩ : ∃ y : BitVec 8, w.toBitVec = y.setWidth 32 := ⟨_, e⟩
  refine ⟨y.toNat, y.isLt, ?_⟩
  apply Int32.toBitVec_inj.mp
  rw [hy]
  apply BitVec.eq_of_toNat_eq
  unfold nI
  show _ = (BitVec.ofNat 32 y.toNat).toNat
  rw [BitVec.toNat_ofNat, BitVec.toNat_setWidth]
/-! comeAndGo -/
def cgT (m : Int32) (M : ab_M) (k : Nat) : Int32 := fo (sc (fun p => decide (M 18 p = m)) (fun p => decide (M 19 p = m))) k (M 30 12)
def cgG (m : Int32) (M : ab_M) (p : Nat) : Bool := decide (M 18 p = m) || (!decide (M 19 p = m) && (tb (M 30 12) p && !tb (M 30 13) p && decide (M (33 + p) 6 = m)))
def cgE (m : Int32) (M : ab_M) (k : Nat) : Int32 := fo (sc (cgG m M) (fun p => decide (M 19 p = m))) k (M 30 13)
def cgF (m : Int32) (M : ab_M) (p j : Nat) : Int32 := if j = 5 then (if cgG m M p = true then m else M (33 + p) 5) else M (33 + p) j
def cgB (m : Int32) (M : ab_M) (k : Nat) : ab_M := ab_up (ab_up M 30 12 (cgT m M k)) 30 13 (cgE m M k)
def cgC (n : Nat) (m : Int32) (M : ab_M) : ab_M := sw n (cgF m M) (cgB m M n)
theorem cg_ext {k : Nat} {m : Int32} {M W : ab_M} (h1 : ∀ j, W (33 + k) j = cgF m M k j) (h2 : W 30 12 = cgT m M (k + 1)) (h3 : W 30 13 = cgE m M (k + 1)) (h4 : ∀ j, j ≠ 12 → j ≠ 13 → W 30 j = M 30 j) (h5 : ∀ c j, c ≠ 30 → c ≠ 33 + k → W c j = sw k (cgF m M) (cgB m M k) c j) : W = sw (k + 1) (cgF m M) (cgB m M (k + 1)) := by
  refine sw_ext (fun p j hp => ?_) (fun c j hc => ?_)
  · by_cases h : p = k
    · subst h
      exact h1 j
    · rw [h5 _ _ (by omega) (by omega), sw_i (by omega)]
  · by_cases h : c = 30
    · subst h
      unfold cgB
      rw [up_ll, up_ll]
      by_cases e1 : j = 13
      · subst e1
        rw [if_pos rfl, h3]
      · rw [if_neg e1]
        by_cases e2 : j = 12
        · subst e2
          rw [if_pos rfl, h2]
        · rw [if_neg e2, h4 j e2 e1]
    · rw [h5 c j h (by omega), sw_n (by omega)]
      unfold cgB
      rw [up_l h, up_l h, up_l h, up_l h]
theorem cgB_n {m : Int32} {M : ab_M} {k c j : Nat} (h : ¬ c = 30) : cgB m M k c j = M c j := by
  unfold cgB
  rw [up_l h, up_l h]
theorem cgB_12 {m : Int32} {M : ab_M} {k : Nat} : cgB m M k 30 12 = cgT m M k := by
  simp [cgB, ab_up]
theorem cgB_13 {m : Int32} {M : ab_M} {k : Nat} : cgB m M k 30 13 = cgE m M k := by
  simp [cgB, ab_up]
theorem cgB_30 {m : Int32} {M : ab_M} {k j : Nat} (h1 : j ≠ 12) (h2 : j ≠ 13) : cgB m M k 30 j = M 30 j := by
  simp [cgB, ab_up, h1, h2]
theorem cgT_s (m : Int32) (M : ab_M) (k : Nat) : cgT m M (k + 1) = sc (fun p => decide (M 18 p = m)) (fun p => decide (M 19 p = m)) k (cgT m M k) := rfl
theorem cgE_s (m : Int32) (M : ab_M) (k : Nat) : cgE m M (k + 1) = sc (cgG m M) (fun p => decide (M 19 p = m)) k (cgE m M k) := rfl
theorem sp_comeAndGo {scr : Option (List Int32)} (M : ab_M) (n : Nat) (hn : n ≤ 8) (hM : M 16 3 = nI n) (m : Int32) : ab_ms scr 8 [.ref 30, .int m] M = some (cgC n m M, none) := by
  rw [ms8]
  simp only [q8_0, q8_1, q8_3, q8_4, q8_7, q8_10, q8_13, q8_14, q8_15, q8_16, q8_17, q8_18, q8_21, q8_24, q8_25, q8_26, q8_27, q8_28, q8_29, q8_32, q8_33, q8_34, q8_37, q8_38, q8_39, q8_42, q8_43, q8_44, q8_45, q8_48, q8_51, q8_52, q8_55, q8_58, q8_59, q8_60, q8_61, q8_62, q8_63, q8_66, q8_67, q8_68, q8_71, q8_72, q8_73, q8_74, q8_75, q8_78, q8_79, q8_80, q8_83, q8_84, q8_85, q8_86, q8_87, q8_90, q8_93, q8_94, q8_95, q8_98, q8_101, q8_102, q8_105, q8_106, q8_107, q8_110, q8_111, q8_114, q8_115, q8_116, q8_117, q8_120, q8_123, q8_126, n10, n01, Bool.false_eq_true, ab_bs, ab_bn, ab_pr0, ab_pr1, nl_n, nl_i, nl_r, nl_j, nl_nl]
  have hl : ∃ l : Nat → Option Value, l 0 = none ∧ ∀ k, l (k + 1) = some (.int (bt k)) := ⟨fun k => match k with | 0 => none | k + 1 => some (.int (bt k)), rfl, fun _ => rfl⟩
  obtain ⟨l, hl0, hl1⟩ := hl
  refine Eq.trans ?_ ((rn (fun k => ab_res scr 8 3 (sw k (cgF m M) (cgB m M k)) 2 [some (.ref 30), some (.int m), some (.int (nI k)), l k] []) (n) (fun k hk => ?_)).trans ?_)
  · rw [sw_0, hl0]
    congr 1
    funext c j
    by_cases hc : c = 30
    · subst hc
      by_cases e1 : j = 12
      · subst e1
        rw [cgB_12]
        rfl
      · by_cases e2 : j = 13
        · subst e2
          rw [cgB_13]
          rfl
        · rw [cgB_30 e1 e2]
    · rw [cgB_n hc]
  · have h1 : ¬ nI n ≤ nI k := nI_ge hk (by omega)
    have h3 : k < 8 := by omega
    have h2 : k < 2 ^ 31 := by omega
    have h4 : sw k (cgF m M) (cgB m M k) 16 3 = nI n := by rw [sw_c (by decide), cgB_n (by decide), hM]
    have h5 : sw k (cgF m M) (cgB m M k) 18 k = M 18 k := by rw [sw_c (by decide), cgB_n (by decide)]
    have h6 : sw k (cgF m M) (cgB m M k) 19 k = M 19 k := by rw [sw_c (by decide), cgB_n (by decide)]
    have h7 : sw k (cgF m M) (cgB m M k) 30 12 = cgT m M k := by rw [sw_c (by decide), cgB_12]
    have h8 : sw k (cgF m M) (cgB m M k) 30 13 = cgE m M k := by rw [sw_c (by decide), cgB_13]
    have h9 : tb (cgT m M k) k = tb (M 30 12) k := sc_hi _ _ _ (by omega) (by omega) (Nat.le_refl _)
    have ha : tb (cgE m M k) k = tb (M 30 13) k := sc_hi _ _ _ (by omega) (by omega) (Nat.le_refl _)
    have hb : ∀ j, sw k (cgF m M) (cgB m M k) (33 + k) j = M (33 + k) j := fun j => by rw [sw_k, cgB_n (by omega)]
    have hc : ∀ j, j ≠ 12 → j ≠ 13 → sw k (cgF m M) (cgB m M k) 30 j = M 30 j := fun j e1 e2 => by rw [sw_c (by decide), cgB_30 e1 e2]
    rw [hl1]
    by_cases hA : M 18 k = m
    · have hg : cgG m M k = true := by simp [cgG, hA]
      rw [q8_2]
      simp only [q8_0, q8_1, q8_3, q8_4, q8_7, q8_10, q8_13, q8_14, q8_15, q8_16, q8_17, q8_18, q8_21, q8_24, q8_25, q8_26, q8_27, q8_28, q8_29, q8_32, q8_33, q8_34, q8_37, q8_38, q8_39, q8_42, q8_43, q8_44, q8_45, q8_48, q8_51, q8_52, q8_55, q8_58, q8_59, q8_60, q8_61, q8_62, q8_63, q8_66, q8_67, q8_68, q8_71, q8_72, q8_73, q8_74, q8_75, q8_78, q8_79, q8_80, q8_83, q8_84, q8_85, q8_86, q8_87, q8_90, q8_93, q8_94, q8_95, q8_98, q8_101, q8_102, q8_105, q8_106, q8_107, q8_110, q8_111, q8_114, q8_115, q8_116, q8_117, q8_120, q8_123, q8_126, n10, n01, Bool.false_eq_true, ab_bs, ab_bn, ab_pr0, ab_pr1, nl_n, nl_i, nl_r, nl_j, nl_nl, rc_16, gf_16_0, gf_16_1, gf_16_2, gf_16_3, pt_16_3, gf_16_4, pt_16_4, gf_16_5, pt_16_5, qe_17_0, qe_17_1, qe_17_2, qe_17_3, qe_17_4, qe_17_5, qe_17_6, qe_17_7, qe_17, ln_18, al_18, si_18, ln_19, al_19, si_19, rc_30, gf_30_0, gf_30_1, gf_30_2, gf_30_3, pt_30_3, gf_30_4, pt_30_4, gf_30_5, pt_30_5, gf_30_6, pt_30_6, gf_30_7, pt_30_7, gf_30_8, pt_30_8, gf_30_9, pt_30_9_0, pt_30_9_1, gf_30_10, pt_30_10, gf_30_11, pt_30_11, gf_30_12, pt_30_12, gf_30_13, pt_30_13, h4, h5, h6, hA, not_true, h1, if_false, nI_clamp h2, ib8 h3, if_true, bt_eq, sp_turnEmpty _ _ h3, teG, nI_succ]
      congr 1
      refine cg_ext (fun j => ?_) ?_ ?_ (fun j e1 e2 => ?_) (fun c j e1 e2 => ?_)
      · rw [up_ss, up_ls, up_ls, hb]
        simp only [cgF, hg, if_true]
      · rw [up_sl (by decide), up_ll, if_neg (by decide), up_ll, if_pos rfl, h7, cgT_s]
        simp [sc, hA]
      · rw [up_sl (by decide), up_ll, if_pos rfl, up_ll, if_neg (by decide), h8, cgE_s]
        simp [sc, hg]
      · rw [up_sl (by decide), up_ll, if_neg e2, up_ll, if_neg e1, hc j e1 e2]
      · rw [up_sn e2, up_l e1, up_l e1]
    · by_cases hB : M 19 k = m
      · have hg : cgG m M k = false := by simp [cgG, hA, hB]
        rw [q8_2]
        simp only [q8_0, q8_1, q8_3, q8_4, q8_7, q8_10, q8_13, q8_14, q8_15, q8_16, q8_17, q8_18, q8_21, q8_24, q8_25, q8_26, q8_27, q8_28, q8_29, q8_32, q8_33, q8_34, q8_37, q8_38, q8_39, q8_42, q8_43, q8_44, q8_45, q8_48, q8_51, q8_52, q8_55, q8_58, q8_59, q8_60, q8_61, q8_62, q8_63, q8_66, q8_67, q8_68, q8_71, q8_72, q8_73, q8_74, q8_75, q8_78, q8_79, q8_80, q8_83, q8_84, q8_85, q8_86, q8_87, q8_90, q8_93, q8_94, q8_95, q8_98, q8_101, q8_102, q8_105, q8_106, q8_107, q8_110, q8_111, q8_114, q8_115, q8_116, q8_117, q8_120, q8_123, q8_126, n10, n01, Bool.false_eq_true, ab_bs, ab_bn, ab_pr0, ab_pr1, nl_n, nl_i, nl_r, nl_j, nl_nl, rc_16, gf_16_0, gf_16_1, gf_16_2, gf_16_3, pt_16_3, gf_16_4, pt_16_4, gf_16_5, pt_16_5, qe_17_0, qe_17_1, qe_17_2, qe_17_3, qe_17_4, qe_17_5, qe_17_6, qe_17_7, qe_17, ln_18, al_18, si_18, ln_19, al_19, si_19, rc_30, gf_30_0, gf_30_1, gf_30_2, gf_30_3, pt_30_3, gf_30_4, pt_30_4, gf_30_5, pt_30_5, gf_30_6, pt_30_6, gf_30_7, pt_30_7, gf_30_8, pt_30_8, gf_30_9, pt_30_9_0, pt_30_9_1, gf_30_10, pt_30_10, gf_30_11, pt_30_11, gf_30_12, pt_30_12, gf_30_13, pt_30_13, h4, h5, h6, hA, hB, not_true, not_false_eq_true, h1, if_false, nI_clamp h2, ib8 h3, if_true, bt_eq, nI_succ]
        congr 1
        refine cg_ext (fun j => ?_) ?_ ?_ (fun j e1 e2 => ?_) (fun c j e1 e2 => ?_)
        · rw [up_ls, up_ls, hb]
          simp only [cgF, hg]
          by_cases e : j = 5
          · subst e
            simp
          · simp [e]
        · rw [up_ll, if_neg (by decide), up_ll, if_pos rfl, h7, cgT_s]
          simp [sc, hA, hB]
        · rw [up_ll, if_pos rfl, up_ll, if_neg (by decide), h8, cgE_s]
          simp [sc, hg, hB]
        · rw [up_ll, if_neg e2, up_ll, if_neg e1, hc j e1 e2]
        · rw [up_l e1, up_l e1]
      · by_cases hC : tb (M 30 12) k = true ∧ tb (M 30 13) k = false
        · by_cases hD : M (33 + k) 6 = m
          · have hg : cgG m M k = true := by simp [cgG, hA, hB, hC, hD]
            rw [q8_2]
            simp only [q8_0, q8_1, q8_3, q8_4, q8_7, q8_10, q8_13, q8_14, q8_15, q8_16, q8_17, q8_18, q8_21, q8_24, q8_25, q8_26, q8_27, q8_28, q8_29, q8_32, q8_33, q8_34, q8_37, q8_38, q8_39, q8_42, q8_43, q8_44, q8_45, q8_48, q8_51, q8_52, q8_55, q8_58, q8_59, q8_60, q8_61, q8_62, q8_63, q8_66, q8_67, q8_68, q8_71, q8_72, q8_73, q8_74, q8_75, q8_78, q8_79, q8_80, q8_83, q8_84, q8_85, q8_86, q8_87, q8_90, q8_93, q8_94, q8_95, q8_98, q8_101, q8_102, q8_105, q8_106, q8_107, q8_110, q8_111, q8_114, q8_115, q8_116, q8_117, q8_120, q8_123, q8_126, n10, n01, Bool.false_eq_true, ab_bs, ab_bn, ab_pr0, ab_pr1, nl_n, nl_i, nl_r, nl_j, nl_nl, rc_16, gf_16_0, gf_16_1, gf_16_2, gf_16_3, pt_16_3, gf_16_4, pt_16_4, gf_16_5, pt_16_5, qe_17_0, qe_17_1, qe_17_2, qe_17_3, qe_17_4, qe_17_5, qe_17_6, qe_17_7, qe_17, ln_18, al_18, si_18, ln_19, al_19, si_19, rc_30, gf_30_0, gf_30_1, gf_30_2, gf_30_3, pt_30_3, gf_30_4, pt_30_4, gf_30_5, pt_30_5, gf_30_6, pt_30_6, gf_30_7, pt_30_7, gf_30_8, pt_30_8, gf_30_9, pt_30_9_0, pt_30_9_1, gf_30_10, pt_30_10, gf_30_11, pt_30_11, gf_30_12, pt_30_12, gf_30_13, pt_30_13, h4, h5, h6, h7, h8, h9, ha, hb, hA, hB, hC, hD, i10, (show ¬ ((1 : Int32) = 0) by decide), and_self, and_true, not_true, not_false_eq_true, h1, if_false, nI_clamp h2, ib8 h3, if_true, bt_eq, nI_succ, sp_hasGlass _ _ h3, sp_turnEmpty _ _ h3, teG, qe_31 h3, gf_seat h3 (show 6 < 8 by decide)]
            congr 1
            refine cg_ext (fun j => ?_) ?_ ?_ (fun j e1 e2 => ?_) (fun c j e1 e2 => ?_)
            · rw [up_ss, up_ls, hb]
              simp only [cgF, hg, if_true]
            · rw [up_sl (by decide), up_ll, if_neg (by decide), h7, cgT_s]
              simp [sc, hA, hB]
            · rw [up_sl (by decide), up_ll, if_pos rfl, cgE_s]
              simp [sc, hg, h8]
            · rw [up_sl (by decide), up_ll, if_neg e2, hc j e1 e2]
            · rw [up_sn e2, up_l e1]
          · have hg : cgG m M k = false := by simp [cgG, hA, hB, hD]
            rw [q8_2]
            simp only [q8_0, q8_1, q8_3, q8_4, q8_7, q8_10, q8_13, q8_14, q8_15, q8_16, q8_17, q8_18, q8_21, q8_24, q8_25, q8_26, q8_27, q8_28, q8_29, q8_32, q8_33, q8_34, q8_37, q8_38, q8_39, q8_42, q8_43, q8_44, q8_45, q8_48, q8_51, q8_52, q8_55, q8_58, q8_59, q8_60, q8_61, q8_62, q8_63, q8_66, q8_67, q8_68, q8_71, q8_72, q8_73, q8_74, q8_75, q8_78, q8_79, q8_80, q8_83, q8_84, q8_85, q8_86, q8_87, q8_90, q8_93, q8_94, q8_95, q8_98, q8_101, q8_102, q8_105, q8_106, q8_107, q8_110, q8_111, q8_114, q8_115, q8_116, q8_117, q8_120, q8_123, q8_126, n10, n01, Bool.false_eq_true, ab_bs, ab_bn, ab_pr0, ab_pr1, nl_n, nl_i, nl_r, nl_j, nl_nl, rc_16, gf_16_0, gf_16_1, gf_16_2, gf_16_3, pt_16_3, gf_16_4, pt_16_4, gf_16_5, pt_16_5, qe_17_0, qe_17_1, qe_17_2, qe_17_3, qe_17_4, qe_17_5, qe_17_6, qe_17_7, qe_17, ln_18, al_18, si_18, ln_19, al_19, si_19, rc_30, gf_30_0, gf_30_1, gf_30_2, gf_30_3, pt_30_3, gf_30_4, pt_30_4, gf_30_5, pt_30_5, gf_30_6, pt_30_6, gf_30_7, pt_30_7, gf_30_8, pt_30_8, gf_30_9, pt_30_9_0, pt_30_9_1, gf_30_10, pt_30_10, gf_30_11, pt_30_11, gf_30_12, pt_30_12, gf_30_13, pt_30_13, h4, h5, h6, h7, h8, h9, ha, hb, hA, hB, hC, hD, i10, (show ¬ ((1 : Int32) = 0) by decide), and_self, and_true, not_true, not_false_eq_true, h1, if_false, nI_clamp h2, ib8 h3, if_true, bt_eq, nI_succ, sp_hasGlass _ _ h3, qe_31 h3, gf_seat h3 (show 6 < 8 by decide)]
            congr 1
            refine cg_ext (fun j => ?_) ?_ ?_ (fun j e1 e2 => ?_) (fun c j e1 e2 => rfl)
            · rw [hb]
              simp only [cgF, hg]
              by_cases e : j = 5
              · subst e
                simp
              · simp [e]
            · rw [h7, cgT_s]
              simp [sc, hA, hB]
            · rw [h8, cgE_s]
              simp [sc, hg, hB]
            · rw [hc j e1 e2]
        · have hg : cgG m M k = false := by
            simp only [not_and, Bool.not_eq_false] at hC
            simp only [cgG, hA, hB, decide_false, Bool.false_or, Bool.not_false, Bool.true_and]
            by_cases h : tb (M 30 12) k = true
            · rw [hC h]
              simp
            · rw [Bool.not_eq_true] at h
              rw [h]
              simp
          rw [q8_2]
          simp only [q8_0, q8_1, q8_3, q8_4, q8_7, q8_10, q8_13, q8_14, q8_15, q8_16, q8_17, q8_18, q8_21, q8_24, q8_25, q8_26, q8_27, q8_28, q8_29, q8_32, q8_33, q8_34, q8_37, q8_38, q8_39, q8_42, q8_43, q8_44, q8_45, q8_48, q8_51, q8_52, q8_55, q8_58, q8_59, q8_60, q8_61, q8_62, q8_63, q8_66, q8_67, q8_68, q8_71, q8_72, q8_73, q8_74, q8_75, q8_78, q8_79, q8_80, q8_83, q8_84, q8_85, q8_86, q8_87, q8_90, q8_93, q8_94, q8_95, q8_98, q8_101, q8_102, q8_105, q8_106, q8_107, q8_110, q8_111, q8_114, q8_115, q8_116, q8_117, q8_120, q8_123, q8_126, n10, n01, Bool.false_eq_true, ab_bs, ab_bn, ab_pr0, ab_pr1, nl_n, nl_i, nl_r, nl_j, nl_nl, rc_16, gf_16_0, gf_16_1, gf_16_2, gf_16_3, pt_16_3, gf_16_4, pt_16_4, gf_16_5, pt_16_5, qe_17_0, qe_17_1, qe_17_2, qe_17_3, qe_17_4, qe_17_5, qe_17_6, qe_17_7, qe_17, ln_18, al_18, si_18, ln_19, al_19, si_19, rc_30, gf_30_0, gf_30_1, gf_30_2, gf_30_3, pt_30_3, gf_30_4, pt_30_4, gf_30_5, pt_30_5, gf_30_6, pt_30_6, gf_30_7, pt_30_7, gf_30_8, pt_30_8, gf_30_9, pt_30_9_0, pt_30_9_1, gf_30_10, pt_30_10, gf_30_11, pt_30_11, gf_30_12, pt_30_12, gf_30_13, pt_30_13, h4, h5, h6, h7, h8, h9, ha, hb, hA, hB, hC, i10, not_true, not_false_eq_true, h1, if_false, nI_clamp h2, ib8 h3, if_true, bt_eq, nI_succ, sp_hasGlass _ _ h3, qe_31 h3, gf_seat h3 (show 6 < 8 by decide)]
          congr 1
          refine cg_ext (fun j => ?_) ?_ ?_ (fun j e1 e2 => ?_) (fun c j e1 e2 => rfl)
          · rw [hb]
            simp only [cgF, hg]
            by_cases e : j = 5
            · subst e
              simp
            · simp [e]
          · rw [h7, cgT_s]
            simp [sc, hA, hB]
          · rw [h8, cgE_s]
            simp [sc, hg, hB]
          · rw [hc j e1 e2]
  · have h4 : sw n (cgF m M) (cgB m M n) 16 3 = nI n := by rw [sw_c (by decide), cgB_n (by decide), hM]
    show ab_res scr 8 3 _ 2 _ [] = _
    rw [q8_2]
    simp only [q8_0, q8_1, q8_3, q8_4, q8_7, q8_10, q8_13, q8_14, q8_15, q8_16, q8_17, q8_18, q8_21, q8_24, q8_25, q8_26, q8_27, q8_28, q8_29, q8_32, q8_33, q8_34, q8_37, q8_38, q8_39, q8_42, q8_43, q8_44, q8_45, q8_48, q8_51, q8_52, q8_55, q8_58, q8_59, q8_60, q8_61, q8_62, q8_63, q8_66, q8_67, q8_68, q8_71, q8_72, q8_73, q8_74, q8_75, q8_78, q8_79, q8_80, q8_83, q8_84, q8_85, q8_86, q8_87, q8_90, q8_93, q8_94, q8_95, q8_98, q8_101, q8_102, q8_105, q8_106, q8_107, q8_110, q8_111, q8_114, q8_115, q8_116, q8_117, q8_120, q8_123, q8_126, n10, n01, Bool.false_eq_true, ab_bs, ab_bn, ab_pr0, ab_pr1, nl_n, nl_i, nl_r, nl_j, nl_nl, rc_16, gf_16_0, gf_16_1, gf_16_2, gf_16_3, pt_16_3, gf_16_4, pt_16_4, gf_16_5, pt_16_5, rc_30, gf_30_0, gf_30_1, gf_30_2, gf_30_3, pt_30_3, gf_30_4, pt_30_4, gf_30_5, pt_30_5, gf_30_6, pt_30_6, gf_30_7, pt_30_7, gf_30_8, pt_30_8, gf_30_9, pt_30_9_0, pt_30_9_1, gf_30_10, pt_30_10, gf_30_11, pt_30_11, gf_30_12, pt_30_12, gf_30_13, pt_30_13, h4, nI_rfl, if_true]
    rfl
