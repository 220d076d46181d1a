/-! COINS: the class's table -/
theorem tb_nI8 : ∀ p, p < 8 → ∀ x, x < 256 → tb (nI x) p = x.testBit p := by decide +kernel
theorem rm_nI8 : ∀ p, p < 8 → ∀ x, x < 256 → nI x &&& (bt p ^^^ -1) = nI (rm x p) := by decide +kernel
theorem all8 : ∀ n, n < 9 → (1 : Int32) <<< (nI n &&& 31) - 1 = nI (2 ^ n - 1) := by decide +kernel
theorem SZ_bd (c : Nat → Int) (K : Int) (hK : 0 ≤ K) (x n : Nat) (h : ∀ p, p < n → -K ≤ c p ∧ c p ≤ K) : -(n * K) ≤ SZ c x n ∧ SZ c x n ≤ n * K := by
  induction n with
  | zero => simp [SZ]
  | succ n ih =>
    have i := ih (fun p hp => h p (by omega))
    have j := h n (by omega)
    unfold SZ
    have e : ((n + 1 : Nat) : Int) * K = n * K + K := by
      rw [Int.natCast_add, Int.add_mul]
      simp
    rw [e]
    split <;> omega
def fV (V : ab_M) (x : Nat) : Nat := (V 88 x).toNatClampNeg
def cI (M : ab_M) (p : Nat) : Int := (M 25 p).toInt
theorem bs_congr {x : Nat} {f g : Nat → Nat} {n : Nat} (h : ∀ p, p < n → x.testBit p = true → f (rm x p) = g (rm x p)) : bs x f n = bs x g n := by
  induction n with
  | zero => rfl
  | succ n ih =>
    unfold bs
    rw [ih (fun p hp => h p (by omega))]
    by_cases hx : x.testBit n = true
    · rw [if_pos hx, if_pos hx, h n (by omega) hx]
    · rw [if_neg hx, if_neg hx]
/-- the table up to a set -/
def TB (n : Nat) (M V : ab_M) (k : Nat) : Prop := (∀ c j, ¬ ((c = 87 ∨ c = 88) ∧ 0 < j) → V c j = M c j) ∧ ∀ x, 0 < x → x < k → (V 87 x).toInt = SZ (cI M) x n ∧ V 88 x = nI (fV V x) ∧ fV V x ≤ x ∧ fV V x = bs x (fV V) n + if SZ (cI M) x n = 0 then 1 else 0
theorem co_in {scr : Option (List Int32)} {n : Nat} {M V : ab_M} {K : Int} (hn : n ≤ 8) (hM : M 16 3 = nI n) (hK : 0 ≤ K) (hK2 : K ≤ 200000000) (hc : ∀ p, p < n → -K ≤ cI M p ∧ cI M p ≤ K) (h87 : M 87 0 = 0) (h88 : M 88 0 = 0) {x : Nat} (h0 : 0 < x) (hx : x < 2 ^ n) (hV : TB n M V x) (a : Int32) (l : Option Value) : ∃ (s : Int32) (l' : Option Value), s.toInt = SZ (cI M) x n ∧ bs x (fV V) n + 1 ≤ x ∧ ab_res scr 1 2 V 27 [some (.ref 86), some (.int a), some (.int (nI x)), some (.int 0), some (.int 0), some (.int 0), l] [] = ab_res scr 1 2 V 99 [some (.ref 86), some (.int a), some (.int (nI x)), some (.int (nI (bs x (fV V) n))), some (.int s), some (.int (nI n)), l'] [] := by
  obtain ⟨v1, v2⟩ := hV
  have h256 : 2 ^ n ≤ 2 ^ 8 := Nat.pow_le_pow_right (by decide) hn
  have v163 : V 16 3 = nI n := by rw [v1 _ _ (by omega), hM]
  have v87 : V 87 0 = 0 := by rw [v1 _ _ (by omega), h87]
  have v88 : V 88 0 = 0 := by rw [v1 _ _ (by omega), h88]
  have hlow : ∀ y, y < x → (V 87 y).toInt = SZ (cI M) y n ∧ V 88 y = nI (fV V y) ∧ fV V y ≤ y := fun y hy => by
    rcases Nat.eq_zero_or_pos y with rfl | q
    · have e : fV V 0 = 0 := by
        unfold fV
        rw [v88]
        rfl
      refine ⟨?_, by rw [v88, e]; rfl, by rw [e]; exact Nat.le_refl _⟩
      rw [v87]
      have : ∀ n, SZ (cI M) 0 n = 0 := by
        intro n
        induction n with
        | zero => rfl
        | succ n ih => unfold SZ; rw [ih, Nat.zero_testBit]; rfl
      rw [this]
      rfl
    · obtain ⟨a, b, c, -⟩ := v2 y q hy
      exact ⟨a, b, c⟩
  have hbs : ∀ p, p ≤ n → bs x (fV V) p + 1 ≤ x := by
    intro p
    induction p with
    | zero => intro _; show 0 + 1 ≤ x; omega
    | succ p ih =>
      intro hp
      unfold bs
      have := ih (by omega)
      by_cases hb : x.testBit p = true
      · rw [if_pos hb]
        have hl := lt_rm hn hx (by omega) hb
        have := (hlow _ hl).2.2
        have hm : max (bs x (fV V) p) (fV V (rm x p)) ≤ x - 1 := Nat.max_le.mpr ⟨by omega, by omega⟩
        omega
      · rw [if_neg hb]
        omega
  have hr := rx (fun p (s : Int32 × Option Value) => ab_res scr 1 2 V 27 [some (.ref 86), some (.int a), some (.int (nI x)), some (.int (nI (bs x (fV V) p))), some (.int s.1), some (.int (nI p)), s.2] []) (fun p s => (∃ q, q < p ∧ x.testBit q = true) → s.1.toInt = SZ (cI M) x n) n (0, l) (fun ⟨q, hq, _⟩ => absurd hq (by omega)) (fun p s hp hs => ?_)
  · obtain ⟨⟨s, l'⟩, e1, e2⟩ := hr
    refine ⟨s, l', e2 ?_, hbs n (Nat.le_refl _), Eq.trans e1 ?_⟩
    · obtain ⟨p, hp⟩ := Nat.exists_testBit_of_ne_zero (show x ≠ 0 by omega)
      refine ⟨p, ?_, hp⟩
      rcases Nat.lt_or_ge p n with q | q
      · exact q
      · rw [Nat.testBit_lt_two_pow (Nat.lt_of_lt_of_le hx (Nat.pow_le_pow_right (by decide) q))] at hp
        cases hp
    · show ab_res scr 1 2 V 27 _ [] = _
      rw [q1_27]
      simp only [q1_0, q1_1, q1_2, q1_5, q1_8, q1_9, q1_10, q1_11, q1_12, q1_13, q1_14, q1_15, q1_16, q1_19, q1_20, q1_21, q1_22, q1_24, q1_25, q1_29, q1_30, q1_33, q1_36, q1_39, q1_41, q1_42, q1_45, q1_48, q1_49, q1_50, q1_52, q1_53, q1_54, q1_55, q1_56, q1_58, q1_59, q1_60, q1_63, q1_65, q1_66, q1_69, q1_70, q1_71, q1_74, q1_76, q1_77, q1_78, q1_81, q1_84, q1_86, q1_87, q1_89, q1_90, q1_91, q1_93, q1_96, q1_100, q1_103, q1_104, q1_106, q1_107, q1_108, q1_111, q1_112, q1_113, q1_115, q1_118, q1_119, q1_122, q1_123, q1_124, q1_125, q1_128, q1_131, q1_132, q1_135, q1_136, q1_137, n10, n01, Bool.false_eq_true, ab_bs, ab_bn, ab_pr0, ab_pr1, nl_n, nl_i, nl_r, nl_j, nl_nl, rc_16, gf_16_0, gf_16_1, gf_16_2, gf_16_3, pt_16_3, gf_16_4, pt_16_4, gf_16_5, pt_16_5, rc_86, gf_86_0, gf_86_1, gf_86_2, v163, nI_rfl, if_true]
  · obtain ⟨s, l⟩ := s
    have h1 : ¬ nI n ≤ nI p := nI_ge hp (by omega)
    have hp8 : p < 8 := by omega
    have x1 := sp_among (scr := scr) V p (nI x) hp8
    rw [tb_nI8 p hp8 x (by omega)] at x1
    by_cases hb : x.testBit p = true
    · rw [if_pos hb] at x1
      have hl := lt_rm hn hx hp hb
      obtain ⟨w1, w2, w3⟩ := hlow _ hl
      have hcl : (nI (rm x p)).toNatClampNeg = rm x p := nI_clamp (by omega)
      have hib : ab_inB (nI (rm x p)) 256 = true := ib_nI (by omega) (by decide)
      have e87 : ab_ald scr ab_L0 V 87 .int (nI (rm x p)) = some (V 87 (rm x p)) := by rw [al_87, hib, hcl]; rfl
      have e88 : ab_ald scr ab_L0 V 88 .int (nI (rm x p)) = some (nI (fV V (rm x p))) := by rw [al_88, hib, hcl, w2]; rfl
      have e25 : V 25 p = M 25 p := v1 _ _ (by omega)
      have hmx : (if nI (bs x (fV V) p) < nI (fV V (rm x p)) then nI (fV V (rm x p)) else nI (bs x (fV V) p)) = nI (bs x (fV V) (p + 1)) := by
        have q1 := hbs p (by omega)
        show _ = nI (if x.testBit p = true then max (bs x (fV V) p) (fV V (rm x p)) else bs x (fV V) p)
        rw [if_pos hb]
        by_cases q : bs x (fV V) p < fV V (rm x p)
        · rw [if_pos (nI_lt q (by omega)), Nat.max_eq_right (by omega)]
        · rw [if_neg (nI_nlt (by omega) (by omega)), Nat.max_eq_left (by omega)]
      refine ⟨(V 87 (rm x p) + M 25 p, some (.int (nI (rm x p)))), ?_, fun _ => ?_⟩
      · show ab_res scr 1 2 V 27 _ [] = _
        rw [q1_27]
        simp only [q1_0, q1_1, q1_2, q1_5, q1_8, q1_9, q1_10, q1_11, q1_12, q1_13, q1_14, q1_15, q1_16, q1_19, q1_20, q1_21, q1_22, q1_24, q1_25, q1_29, q1_30, q1_33, q1_36, q1_39, q1_41, q1_42, q1_45, q1_48, q1_49, q1_50, q1_52, q1_53, q1_54, q1_55, q1_56, q1_58, q1_59, q1_60, q1_63, q1_65, q1_66, q1_69, q1_70, q1_71, q1_74, q1_76, q1_77, q1_78, q1_81, q1_84, q1_86, q1_87, q1_89, q1_90, q1_91, q1_93, q1_96, q1_100, q1_103, q1_104, q1_106, q1_107, q1_108, q1_111, q1_112, q1_113, q1_115, q1_118, q1_119, q1_122, q1_123, q1_124, q1_125, q1_128, q1_131, q1_132, q1_135, q1_136, q1_137, n10, n01, Bool.false_eq_true, ab_bs, ab_bn, ab_pr0, ab_pr1, nl_n, nl_i, nl_r, nl_j, nl_nl, rc_16, gf_16_0, gf_16_1, gf_16_2, gf_16_3, pt_16_3, gf_16_4, pt_16_4, gf_16_5, pt_16_5, rc_86, gf_86_0, gf_86_1, gf_86_2, ln_25, al_25, si_25, v163, h1, if_false, x1, (show ¬ (1 : Int32) = 0 by decide), bt_eq, rm_nI8 p hp8 x (by omega), e88, hmx, e87, qe_17_7, al_25, nI_clamp (show p < 2 ^ 31 by omega), ib8 hp8, if_true, e25, nI_succ]
      · show (V 87 (rm x p) + M 25 p).toInt = _
        have hz := SZ_rm (cI M) x p n hn hb
        rw [if_pos hp] at hz
        have bd1 := SZ_bd (cI M) K hK x n hc
        have bd2 := SZ_bd (cI M) K hK (rm x p) n hc
        have nk : (n : Int) * K ≤ 1600000000 := by
          have h8 : (n : Int) ≤ 8 := by omega
          have := Int.mul_le_mul h8 hK2 hK (by decide)
          omega
        have ec : (M 25 p).toInt = cI M p := rfl
        rw [ti_add (by rw [w1, ec]; omega) (by rw [w1, ec]; omega), w1, ec]
        exact hz.symm
    · rw [if_neg hb] at x1
      refine ⟨(s, l), ?_, fun ⟨q, hq, hq2⟩ => hs ⟨q, ?_, hq2⟩⟩
      · have e : bs x (fV V) (p + 1) = bs x (fV V) p := by
          show (if x.testBit p = true then _ else _) = _
          rw [if_neg hb]
        show ab_res scr 1 2 V 27 _ [] = _
        rw [e]
        rw [q1_27]
        simp only [q1_0, q1_1, q1_2, q1_5, q1_8, q1_9, q1_10, q1_11, q1_12, q1_13, q1_14, q1_15, q1_16, q1_19, q1_20, q1_21, q1_22, q1_24, q1_25, q1_29, q1_30, q1_33, q1_36, q1_39, q1_41, q1_42, q1_45, q1_48, q1_49, q1_50, q1_52, q1_53, q1_54, q1_55, q1_56, q1_58, q1_59, q1_60, q1_63, q1_65, q1_66, q1_69, q1_70, q1_71, q1_74, q1_76, q1_77, q1_78, q1_81, q1_84, q1_86, q1_87, q1_89, q1_90, q1_91, q1_93, q1_96, q1_100, q1_103, q1_104, q1_106, q1_107, q1_108, q1_111, q1_112, q1_113, q1_115, q1_118, q1_119, q1_122, q1_123, q1_124, q1_125, q1_128, q1_131, q1_132, q1_135, q1_136, q1_137, n10, n01, Bool.false_eq_true, ab_bs, ab_bn, ab_pr0, ab_pr1, nl_n, nl_i, nl_r, nl_j, nl_nl, rc_16, gf_16_0, gf_16_1, gf_16_2, gf_16_3, pt_16_3, gf_16_4, pt_16_4, gf_16_5, pt_16_5, rc_86, gf_86_0, gf_86_1, gf_86_2, v163, h1, if_false, x1, if_true, nI_succ]
      · rcases Nat.lt_or_ge q p with w | w
        · exact w
        · have : q = p := by omega
          rw [this] at hq2
          exact absurd hq2 hb
