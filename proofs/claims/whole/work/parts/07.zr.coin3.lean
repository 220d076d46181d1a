/-! COINS: the reference -/
theorem or_add : ∀ (a b : Nat), a &&& b = 0 → a ||| b = a + b := by
  intro a
  induction a using Nat.strongRecOn with
  | ind a ih =>
    intro b h
    rcases Nat.eq_zero_or_pos a with rfl | q
    · simp
    · have h2 : a / 2 &&& b / 2 = 0 := by rw [← and2, h]
      have i := ih (a / 2) (by omega) (b / 2) h2
      have d : (a ||| b) / 2 = a / 2 ||| b / 2 := Nat.or_div_two
      rw [i] at d
      have m : (a ||| b) % 2 = (a % 2) ||| (b % 2) := by
        have := @Nat.or_mod_two_pow a b 1
        simpa using this
      have ma : (a % 2) &&& (b % 2) = 0 := by rw [← andm, h]
      have k := Nat.div_add_mod (a ||| b) 2
      have m2 : (a ||| b) % 2 = a % 2 + b % 2 := by
        rw [m]
        rcases Nat.mod_two_eq_zero_or_one a with x | x <;> rcases Nat.mod_two_eq_zero_or_one b with y | y <;> rw [x, y] at ma ⊢ <;> first | rfl | exact absurd ma (by decide)
      omega
theorem tb_nI32 : ∀ q, q < 32 → ∀ x, x < 256 → tb (nI x) q = x.testBit q := by decide +kernel
theorem and_nI {a b : Nat} (ha : a < 256) (hb : b < 256) : nI a &&& nI b = nI (a &&& b) := tb_ext fun q hq => by
  rw [tb_and, tb_nI32 q hq a ha, tb_nI32 q hq b hb, tb_nI32 q hq _ (Nat.lt_of_le_of_lt Nat.and_le_left ha), Nat.testBit_and]
theorem xor_nI {x s : Nat} (hx : x < 256) (hs : s < 256) (h : s &&& x = s) : nI x &&& (nI s ^^^ -1) = nI (x ^^^ s) := tb_ext fun q hq => by
  rw [tb_and, tb_off _ _ hq, tb_nI32 q hq x hx, tb_nI32 q hq s hs, tb_nI32 q hq _ (Nat.xor_lt_two_pow (n := 8) hx hs), Nat.testBit_xor]
  have := congrArg (fun z => z.testBit q) h
  simp only [Nat.testBit_and] at this
  cases h1 : s.testBit q <;> cases h2 : x.testBit q <;> simp [h1, h2] at this ⊢
def cbL (M : ab_M) (x p : Nat) : Int64 := fo (fun p s => s + if x.testBit p = true then (M 25 p).toInt64 else 0) p 0
theorem cbL_s (M : ab_M) (x p : Nat) : cbL M x (p + 1) = cbL M x p + if x.testBit p = true then (M 25 p).toInt64 else 0 := rfl
theorem cbL_i {n : Nat} {M : ab_M} {K : Int} (hn : n ≤ 8) (hK : 0 ≤ K) (hK2 : K ≤ 200000000) (hc : ∀ p, p < n → -K ≤ cI M p ∧ cI M p ≤ K) (x : Nat) : ∀ p, p ≤ n → (cbL M x p).toInt = SZ (cI M) x p := by
  intro p
  induction p with
  | zero => intro _; rfl
  | succ p ih =>
    intro hp
    have i := ih (by omega)
    have bd := SZ_bd (cI M) K hK x p (fun q hq => hc q (by omega))
    have nk : (p : Int) * K ≤ 1600000000 := by
      have h8 : (p : Int) ≤ 8 := by omega
      have := Int.mul_le_mul h8 hK2 hK (by decide)
      omega
    have c := hc p (by omega)
    rw [cbL_s]
    unfold SZ
    by_cases h : x.testBit p = true
    · rw [if_pos h, if_pos h, Int64.toInt_add, i, Int32.toInt_toInt64]
      exact Int.bmod_eq_of_le (by unfold cI at c; omega) (by unfold cI at c; omega)
    · rw [if_neg h, if_neg h, Int64.toInt_add, i]
      exact Int.bmod_eq_of_le (by rw [show (0 : Int64).toInt = 0 by decide]; omega) (by rw [show (0 : Int64).toInt = 0 by decide]; omega)
theorem sp_by {scr : Option (List Int32)} {n : Nat} {M N : ab_M} (hn : n ≤ 8) (hM : N 127 72 = nI n) (h7 : ∀ p, p < n → N 127 (9 * p + 7) = M 25 p) {x : Nat} (hx : x < 256) : ab_ms scr 185 [.ref 123, .int (nI x)] N = some (N, some (.long (cbL M x n))) := by
  rw [ms185]
  simp only [q185_0, q185_1, q185_2, q185_3, q185_7, q185_8, q185_11, q185_13, q185_14, q185_17, q185_18, q185_19, q185_21, q185_22, q185_23, q185_24, q185_25, q185_28, q185_29, q185_31, q185_33, q185_36, q185_37, q185_40, q185_41, q185_42, q185_43, q185_46, q185_49, q185_50, n10, n01, Bool.false_eq_true, ab_bs, ab_bn, ab_pr0, ab_pr1, nl_n, nl_i, nl_r, nl_j, nl_nl]
  refine Eq.trans ?_ ((rn (fun k => ab_res scr 185 2 N 5 [some (.ref 123), some (.int (nI x)), some (.long (cbL M x k)), none, some (.int (nI k))] []) n (fun k hk => ?_)).trans ?_)
  · rfl
  · have h1 : ¬ nI n ≤ nI k := nI_ge hk (by omega)
    have h8 : k < 8 := by omega
    have e := tb_sh (nI x) k h8
    rw [tb_nI8 k h8 x hx] at e
    rw [cbL_s]
    by_cases hb : x.testBit k = true
    · rw [if_pos hb] at e ⊢
      rw [q185_5]
      simp only [q185_0, q185_1, q185_2, q185_3, q185_7, q185_8, q185_11, q185_13, q185_14, q185_17, q185_18, q185_19, q185_21, q185_22, q185_23, q185_24, q185_25, q185_28, q185_29, q185_31, q185_33, q185_36, q185_37, q185_40, q185_41, q185_42, q185_43, q185_46, q185_49, q185_50, n10, n01, Bool.false_eq_true, ab_bs, ab_bn, ab_pr0, ab_pr1, nl_n, nl_i, nl_r, nl_j, nl_nl, rc_123, gf_123_0, gf_123_1, pt_123_1, gf_123_2, pt_123_2, gf_123_3, pt_123_3, gf_123_4, pt_123_4, gf_123_5, pt_123_5, gf_123_6, pt_123_6, gf_123_7, pt_123_7, gf_123_8, pt_123_8, gf_123_9, gf_123_10, gf_123_11, gf_123_12, gf_123_13, pt_123_13_0, pt_123_13_1, gf_123_14, pt_123_14_0, pt_123_14_1, gf_123_15, gf_123_16, gf_123_17, gf_123_18, gf_123_19, gf_123_20, gf_123_21, gf_123_22, gf_123_23, gf_123_24, gf_123_25, pt_123_25, gf_123_26, gf_123_27, pt_123_27, gf_123_28, pt_123_28, gf_123_29, gf_123_30, pt_123_30, gf_123_31, pt_123_31, gf_123_32, pt_123_32, gf_123_33, pt_123_33, gf_123_34, pt_123_34_0, pt_123_34_1, gf_123_35, gf_123_36, gf_123_37, gf_123_38, pt_123_38, gf_123_39, pt_123_39, gf_123_40, pt_123_40, gf_123_41, gf_123_42, gf_123_43, gf_123_44, gf_123_45, gf_123_46, gf_123_47, pt_123_47, r72, hM, h1, if_false, e, if_true, not_true, its7 _ _ h8, h7 k hk, a1]
    · rw [if_neg hb] at e ⊢
      rw [q185_5]
      simp only [q185_0, q185_1, q185_2, q185_3, q185_7, q185_8, q185_11, q185_13, q185_14, q185_17, q185_18, q185_19, q185_21, q185_22, q185_23, q185_24, q185_25, q185_28, q185_29, q185_31, q185_33, q185_36, q185_37, q185_40, q185_41, q185_42, q185_43, q185_46, q185_49, q185_50, n10, n01, Bool.false_eq_true, ab_bs, ab_bn, ab_pr0, ab_pr1, nl_n, nl_i, nl_r, nl_j, nl_nl, rc_123, gf_123_0, gf_123_1, pt_123_1, gf_123_2, pt_123_2, gf_123_3, pt_123_3, gf_123_4, pt_123_4, gf_123_5, pt_123_5, gf_123_6, pt_123_6, gf_123_7, pt_123_7, gf_123_8, pt_123_8, gf_123_9, gf_123_10, gf_123_11, gf_123_12, gf_123_13, pt_123_13_0, pt_123_13_1, gf_123_14, pt_123_14_0, pt_123_14_1, gf_123_15, gf_123_16, gf_123_17, gf_123_18, gf_123_19, gf_123_20, gf_123_21, gf_123_22, gf_123_23, gf_123_24, gf_123_25, pt_123_25, gf_123_26, gf_123_27, pt_123_27, gf_123_28, pt_123_28, gf_123_29, gf_123_30, pt_123_30, gf_123_31, pt_123_31, gf_123_32, pt_123_32, gf_123_33, pt_123_33, gf_123_34, pt_123_34_0, pt_123_34_1, gf_123_35, gf_123_36, gf_123_37, gf_123_38, pt_123_38, gf_123_39, pt_123_39, gf_123_40, pt_123_40, gf_123_41, gf_123_42, gf_123_43, gf_123_44, gf_123_45, gf_123_46, gf_123_47, pt_123_47, r72, hM, h1, if_false, e, if_true, (show ¬ (0 : Int32) = 1 by decide), not_false_eq_true, a1]
  · show ab_res scr 185 2 N 5 _ [] = _
    rw [q185_5]
    simp only [q185_0, q185_1, q185_2, q185_3, q185_7, q185_8, q185_11, q185_13, q185_14, q185_17, q185_18, q185_19, q185_21, q185_22, q185_23, q185_24, q185_25, q185_28, q185_29, q185_31, q185_33, q185_36, q185_37, q185_40, q185_41, q185_42, q185_43, q185_46, q185_49, q185_50, n10, n01, Bool.false_eq_true, ab_bs, ab_bn, ab_pr0, ab_pr1, nl_n, nl_i, nl_r, nl_j, nl_nl, rc_123, gf_123_0, gf_123_1, pt_123_1, gf_123_2, pt_123_2, gf_123_3, pt_123_3, gf_123_4, pt_123_4, gf_123_5, pt_123_5, gf_123_6, pt_123_6, gf_123_7, pt_123_7, gf_123_8, pt_123_8, gf_123_9, gf_123_10, gf_123_11, gf_123_12, gf_123_13, pt_123_13_0, pt_123_13_1, gf_123_14, pt_123_14_0, pt_123_14_1, gf_123_15, gf_123_16, gf_123_17, gf_123_18, gf_123_19, gf_123_20, gf_123_21, gf_123_22, gf_123_23, gf_123_24, gf_123_25, pt_123_25, gf_123_26, gf_123_27, pt_123_27, gf_123_28, pt_123_28, gf_123_29, gf_123_30, pt_123_30, gf_123_31, pt_123_31, gf_123_32, pt_123_32, gf_123_33, pt_123_33, gf_123_34, pt_123_34_0, pt_123_34_1, gf_123_35, gf_123_36, gf_123_37, gf_123_38, pt_123_38, gf_123_39, pt_123_39, gf_123_40, pt_123_40, gf_123_41, gf_123_42, gf_123_43, gf_123_44, gf_123_45, gf_123_46, gf_123_47, pt_123_47, r72, hM, nI_rfl, if_true]
def gV (V : ab_M) (x : Nat) : Nat := (V 145 x).toNatClampNeg
/-- an entry of the reference's table -/
def en (n : Nat) (M V : ab_M) (x : Nat) : Prop := (SZ (cI M) x n ≠ 0 → V 145 x = -1) ∧ (SZ (cI M) x n = 0 → V 145 x = nI (gV V x) ∧ 1 ≤ gV V x ∧ gV V x ≤ x)
theorem restL {n : Nat} {c : Nat → Int} {x s : Nat} (h0 : 0 < s) (hl : s < x) (hs : s &&& x = s) : (0 < x ^^^ s ∧ x ^^^ s < x ∧ s + (x ^^^ s) = x) ∧ (SZ c x n = SZ c s n + SZ c (x ^^^ s) n) := by
  obtain ⟨u1, u2⟩ := xor_sub hs
  have e := or_add _ _ u1
  rw [u2] at e
  have z := SZ_or c s (x ^^^ s) n u1
  rw [u2] at z
  exact ⟨⟨by omega, by omega, e.symm⟩, z⟩
/-- the loop over parts of a set -/
theorem pa_in {scr : Option (List Int32)} {n : Nat} {M : ab_M} {x : Nat} (h0 : 0 < x) (hx : x < 256) (hz : SZ (cI M) x n = 0) (what all : Int32) : ∀ (s : Nat) (V : ab_M) (w : Nat) (l5 l6 : Option Value), s &&& x = s → s < x → (∀ y, 0 < y → y < x → en n M V y) → V 145 x = nI w → 1 ≤ w → w ≤ x → (∀ T, s < T → T < x → T &&& x = T → SZ (cI M) T n = 0 → gV V T + gV V (x ^^^ T) ≤ w) → (w = 1 ∨ ∃ T, 0 < T ∧ T < x ∧ T &&& x = T ∧ SZ (cI M) T n = 0 ∧ w = gV V T + gV V (x ^^^ T)) → ∃ (w' : Nat) (l4' l5' l6' : Option Value), ab_res scr 186 3 V 72 [some (.ref 123), some (.int what), some (.int all), some (.int (nI x)), some (.int (nI s)), l5, l6] [] = ab_res scr 186 3 (ab_up V 145 x (nI w')) 174 [some (.ref 123), some (.int what), some (.int all), some (.int (nI x)), l4', l5', l6'] [] ∧ 1 ≤ w' ∧ w' ≤ x ∧ (∀ T, 0 < T → T < x → T &&& x = T → SZ (cI M) T n = 0 → gV V T + gV V (x ^^^ T) ≤ w') ∧ (w' = 1 ∨ ∃ T, 0 < T ∧ T < x ∧ T &&& x = T ∧ SZ (cI M) T n = 0 ∧ w' = gV V T + gV V (x ^^^ T)) := by
  intro s
  induction s using Nat.strongRecOn with
  | ind s ih =>
    intro V w l5 l6 hs hsx hen hVx w1 wx hall hex
    have hibx : ab_inB (nI x) 256 = true := ib_nI hx (by decide)
    have hclx : (nI x).toNatClampNeg = x := nI_clamp (by omega)
    have hup : ab_up V 145 x (nI w) = V := by rw [← hVx, up_id]
    rcases Nat.eq_zero_or_pos s with rfl | hs0
    · refine ⟨w, some (.int (nI 0)), l5, l6, ?_, w1, wx, fun T t0 t1 t2 t3 => hall T t0 t1 t2 t3, hex⟩
      rw [hup]
      rw [q186_72]
      simp only [q186_0, q186_1, q186_2, q186_3, q186_4, q186_7, q186_10, q186_11, q186_12, q186_13, q186_14, q186_17, q186_19, q186_20, q186_21, q186_22, q186_23, q186_24, q186_25, q186_26, q186_29, q186_30, q186_31, q186_34, q186_36, q186_37, q186_38, q186_39, q186_40, q186_41, q186_44, q186_45, q186_48, q186_49, q186_50, q186_51, q186_54, q186_55, q186_56, q186_59, q186_60, q186_63, q186_64, q186_65, q186_66, q186_67, q186_68, q186_69, q186_70, q186_74, q186_77, q186_78, q186_81, q186_82, q186_83, q186_86, q186_87, q186_89, q186_90, q186_91, q186_92, q186_94, q186_95, q186_98, q186_100, q186_101, q186_104, q186_105, q186_108, q186_110, q186_111, q186_114, q186_115, q186_118, q186_120, q186_121, q186_122, q186_125, q186_127, q186_128, q186_129, q186_132, q186_133, q186_135, q186_136, q186_139, q186_140, q186_142, q186_143, q186_146, q186_147, q186_148, q186_151, q186_153, q186_156, q186_157, q186_160, q186_161, q186_162, q186_163, q186_165, q186_166, q186_167, q186_168, q186_169, q186_171, q186_177, q186_180, q186_181, q186_184, q186_185, q186_188, q186_189, q186_192, q186_193, q186_194, q186_195, q186_196, q186_199, q186_200, q186_203, q186_205, q186_206, q186_207, q186_208, q186_211, q186_212, n10, n01, Bool.false_eq_true, ab_bs, ab_bn, ab_pr0, ab_pr1, nl_n, nl_i, nl_r, nl_j, nl_nl, (show nI 0 ≤ 0 by decide), if_true]
    · have hsn : ¬ nI s ≤ 0 := nI_ge (a := 0) (b := s) hs0 (by omega)
      have hwn : ¬ nI w ≤ 0 := nI_ge (a := 0) (b := w) (by omega) (by omega)
      obtain ⟨⟨r0, r1, r2⟩, rz⟩ := restL (n := n) (c := cI M) hs0 hsx hs
      have hibs : ab_inB (nI s) 256 = true := ib_nI (by omega) (by decide)
      have hcls : (nI s).toNatClampNeg = s := nI_clamp (by omega)
      have hibr : ab_inB (nI (x ^^^ s)) 256 = true := ib_nI (by omega) (by decide)
      have hclr : (nI (x ^^^ s)).toNatClampNeg = x ^^^ s := nI_clamp (by omega)
      have ax : ab_ald scr ab_L0 V 145 .int (nI x) = some (nI w) := by rw [al_145, hibx, hclx, hVx]; rfl
      have as : ab_ald scr ab_L0 V 145 .int (nI s) = some (V 145 s) := by rw [al_145, hibs, hcls]; rfl
      have ar : ab_ald scr ab_L0 V 145 .int (nI (x ^^^ s)) = some (V 145 (x ^^^ s)) := by rw [al_145, hibr, hclr]; rfl
      have sx : ab_si 145 .int (nI x) = true := hibx
      have en1 := hen s hs0 hsx
      have en2 := hen (x ^^^ s) r0 r1
      have hxr := xor_nI hx (by omega : s < 256) hs
      have hnx : (nI s - 1) &&& nI x = nI ((s - 1) &&& x) := by
        have : nI s - 1 = nI (s - 1) := by
          obtain ⟨k, rfl⟩ : ∃ k, s = k + 1 := ⟨s - 1, by omega⟩
          rw [nI_succ, Nat.add_sub_cancel]
          exact Int32.add_sub_cancel _ _
        rw [this, and_nI (by omega) hx]
      have hlt : (s - 1) &&& x < s := Nat.lt_of_le_of_lt Nat.and_le_left (by omega)
      have hsub : ((s - 1) &&& x) &&& x = (s - 1) &&& x := by rw [Nat.and_assoc, Nat.and_self]
      have hnext : ∀ T, (s - 1) &&& x < T → T < s → T &&& x = T → False := fun T t1 t2 t3 => by
        have := sub_next s x T hs0 hs t3 t2
        omega
      by_cases hz1 : SZ (cI M) s n = 0
      · have hz2 : SZ (cI M) (x ^^^ s) n = 0 := by omega
        obtain ⟨a1', a2', a3'⟩ := en1.2 hz1
        obtain ⟨b1', b2', b3'⟩ := en2.2 hz2
        have hsn1 : ¬ nI (gV V s) ≤ 0 := nI_ge (a := 0) (b := gV V s) (by omega) (by omega)
        have hsn2 : ¬ nI (gV V (x ^^^ s)) ≤ 0 := nI_ge (a := 0) (b := gV V (x ^^^ s)) (by omega) (by omega)
        obtain ⟨w2, hw2⟩ : ∃ w2, w2 = if w < gV V s + gV V (x ^^^ s) then gV V s + gV V (x ^^^ s) else w := ⟨_, rfl⟩
        have wf : ∀ y, y ≠ x → gV (ab_up V 145 x (nI w2)) y = gV V y := fun y hy => by
          unfold gV
          rw [up_o _ _ _ _ _ _ (by omega)]
        have wr : ∀ T, 0 < T → T < x → T &&& x = T → gV (ab_up V 145 x (nI w2)) T + gV (ab_up V 145 x (nI w2)) (x ^^^ T) = gV V T + gV V (x ^^^ T) := fun T t0 t1 t2 => by
          have := (restL (n := n) (c := cI M) t0 t1 t2).1
          rw [wf T (by omega), wf (x ^^^ T) (by omega)]
        obtain ⟨w', m1, m2, m3, k1, k2, k3, k4, k5⟩ := ih ((s - 1) &&& x) hlt (ab_up V 145 x (nI w2)) w2 (some (.int (nI (x ^^^ s)))) (some (.int (nI (gV V s + gV V (x ^^^ s))))) hsub (by omega) (fun y y0 y1 => by
            obtain ⟨p1, p2⟩ := hen y y0 y1
            have e : ab_up V 145 x (nI w2) 145 y = V 145 y := up_o _ _ _ _ _ _ (by omega)
            exact ⟨fun q => by rw [e, p1 q], fun q => by rw [e, wf y (by omega)]; exact p2 q⟩) (by rw [up_s]) (by rw [hw2]; split <;> omega) (by rw [hw2]; split <;> omega) (fun T t0 t1 t2 t3 => by
            rw [wr T (by omega) t1 t2]
            by_cases e : T = s
            · rw [e, hw2]
              split <;> omega
            · by_cases g : s < T
              · have := hall T g t1 t2 t3
                rw [hw2]
                split <;> omega
              · exact absurd (hnext T t0 (by omega) t2) id) (by
            by_cases g : w < gV V s + gV V (x ^^^ s)
            · rw [if_pos g] at hw2
              exact Or.inr ⟨s, hs0, hsx, hs, hz1, by rw [wr s hs0 hsx hs, hw2]⟩
            · rw [if_neg g] at hw2
              rcases hex with q | ⟨T, t0, t1, t2, t3, t4⟩
              · exact Or.inl (by omega)
              · exact Or.inr ⟨T, t0, t1, t2, t3, by rw [wr T t0 t1 t2, hw2, t4]⟩)
        refine ⟨w', m1, m2, m3, Eq.trans ?_ k1 |>.trans ?_, k2, k3, fun T t0 t1 t2 t3 => by rw [← wr T t0 t1 t2]; exact k4 T t0 t1 t2 t3, ?_⟩
        · by_cases g : w < gV V s + gV V (x ^^^ s)
          · have g1 : ¬ nI (gV V s + gV V (x ^^^ s)) ≤ nI w := nI_ge g (by omega)
            rw [if_pos g] at hw2
            rw [hw2]
            rw [q186_72]
            simp only [q186_0, q186_1, q186_2, q186_3, q186_4, q186_7, q186_10, q186_11, q186_12, q186_13, q186_14, q186_17, q186_19, q186_20, q186_21, q186_22, q186_23, q186_24, q186_25, q186_26, q186_29, q186_30, q186_31, q186_34, q186_36, q186_37, q186_38, q186_39, q186_40, q186_41, q186_44, q186_45, q186_48, q186_49, q186_50, q186_51, q186_54, q186_55, q186_56, q186_59, q186_60, q186_63, q186_64, q186_65, q186_66, q186_67, q186_68, q186_69, q186_70, q186_74, q186_77, q186_78, q186_81, q186_82, q186_83, q186_86, q186_87, q186_89, q186_90, q186_91, q186_92, q186_94, q186_95, q186_98, q186_100, q186_101, q186_104, q186_105, q186_108, q186_110, q186_111, q186_114, q186_115, q186_118, q186_120, q186_121, q186_122, q186_125, q186_127, q186_128, q186_129, q186_132, q186_133, q186_135, q186_136, q186_139, q186_140, q186_142, q186_143, q186_146, q186_147, q186_148, q186_151, q186_153, q186_156, q186_157, q186_160, q186_161, q186_162, q186_163, q186_165, q186_166, q186_167, q186_168, q186_169, q186_171, q186_177, q186_180, q186_181, q186_184, q186_185, q186_188, q186_189, q186_192, q186_193, q186_194, q186_195, q186_196, q186_199, q186_200, q186_203, q186_205, q186_206, q186_207, q186_208, q186_211, q186_212, n10, n01, Bool.false_eq_true, ab_bs, ab_bn, ab_pr0, ab_pr1, nl_n, nl_i, nl_r, nl_j, nl_nl, rc_123, gf_123_0, gf_123_1, pt_123_1, gf_123_2, pt_123_2, gf_123_3, pt_123_3, gf_123_4, pt_123_4, gf_123_5, pt_123_5, gf_123_6, pt_123_6, gf_123_7, pt_123_7, gf_123_8, pt_123_8, gf_123_9, gf_123_10, gf_123_11, gf_123_12, gf_123_13, pt_123_13_0, pt_123_13_1, gf_123_14, pt_123_14_0, pt_123_14_1, gf_123_15, gf_123_16, gf_123_17, gf_123_18, gf_123_19, gf_123_20, gf_123_21, gf_123_22, gf_123_23, gf_123_24, gf_123_25, pt_123_25, gf_123_26, gf_123_27, pt_123_27, gf_123_28, pt_123_28, gf_123_29, gf_123_30, pt_123_30, gf_123_31, pt_123_31, gf_123_32, pt_123_32, gf_123_33, pt_123_33, gf_123_34, pt_123_34_0, pt_123_34_1, gf_123_35, gf_123_36, gf_123_37, gf_123_38, pt_123_38, gf_123_39, pt_123_39, gf_123_40, pt_123_40, gf_123_41, gf_123_42, gf_123_43, gf_123_44, gf_123_45, gf_123_46, gf_123_47, pt_123_47, hsn, if_false, ax, hwn, hxr, as, ar, a1', b1', hsn1, hsn2, nI_add, g1, sx, if_true, hclx, hnx]
          · have g1 : nI (gV V s + gV V (x ^^^ s)) ≤ nI w := nI_le (by omega) (by omega)
            rw [if_neg g] at hw2
            rw [hw2]
            rw [q186_72]
            simp only [q186_0, q186_1, q186_2, q186_3, q186_4, q186_7, q186_10, q186_11, q186_12, q186_13, q186_14, q186_17, q186_19, q186_20, q186_21, q186_22, q186_23, q186_24, q186_25, q186_26, q186_29, q186_30, q186_31, q186_34, q186_36, q186_37, q186_38, q186_39, q186_40, q186_41, q186_44, q186_45, q186_48, q186_49, q186_50, q186_51, q186_54, q186_55, q186_56, q186_59, q186_60, q186_63, q186_64, q186_65, q186_66, q186_67, q186_68, q186_69, q186_70, q186_74, q186_77, q186_78, q186_81, q186_82, q186_83, q186_86, q186_87, q186_89, q186_90, q186_91, q186_92, q186_94, q186_95, q186_98, q186_100, q186_101, q186_104, q186_105, q186_108, q186_110, q186_111, q186_114, q186_115, q186_118, q186_120, q186_121, q186_122, q186_125, q186_127, q186_128, q186_129, q186_132, q186_133, q186_135, q186_136, q186_139, q186_140, q186_142, q186_143, q186_146, q186_147, q186_148, q186_151, q186_153, q186_156, q186_157, q186_160, q186_161, q186_162, q186_163, q186_165, q186_166, q186_167, q186_168, q186_169, q186_171, q186_177, q186_180, q186_181, q186_184, q186_185, q186_188, q186_189, q186_192, q186_193, q186_194, q186_195, q186_196, q186_199, q186_200, q186_203, q186_205, q186_206, q186_207, q186_208, q186_211, q186_212, n10, n01, Bool.false_eq_true, ab_bs, ab_bn, ab_pr0, ab_pr1, nl_n, nl_i, nl_r, nl_j, nl_nl, rc_123, gf_123_0, gf_123_1, pt_123_1, gf_123_2, pt_123_2, gf_123_3, pt_123_3, gf_123_4, pt_123_4, gf_123_5, pt_123_5, gf_123_6, pt_123_6, gf_123_7, pt_123_7, gf_123_8, pt_123_8, gf_123_9, gf_123_10, gf_123_11, gf_123_12, gf_123_13, pt_123_13_0, pt_123_13_1, gf_123_14, pt_123_14_0, pt_123_14_1, gf_123_15, gf_123_16, gf_123_17, gf_123_18, gf_123_19, gf_123_20, gf_123_21, gf_123_22, gf_123_23, gf_123_24, gf_123_25, pt_123_25, gf_123_26, gf_123_27, pt_123_27, gf_123_28, pt_123_28, gf_123_29, gf_123_30, pt_123_30, gf_123_31, pt_123_31, gf_123_32, pt_123_32, gf_123_33, pt_123_33, gf_123_34, pt_123_34_0, pt_123_34_1, gf_123_35, gf_123_36, gf_123_37, gf_123_38, pt_123_38, gf_123_39, pt_123_39, gf_123_40, pt_123_40, gf_123_41, gf_123_42, gf_123_43, gf_123_44, gf_123_45, gf_123_46, gf_123_47, pt_123_47, hsn, if_false, ax, hwn, hxr, as, ar, a1', b1', hsn1, hsn2, nI_add, g1, sx, if_true, hclx, hnx]
        · rw [up_up]
        · rcases k5 with q | ⟨T, t0, t1, t2, t3, t4⟩
          · exact Or.inl q
          · exact Or.inr ⟨T, t0, t1, t2, t3, by rw [← wr T t0 t1 t2]; exact t4⟩
      · have e1 := en1.1 hz1
        obtain ⟨w', m1, m2, m3, k1, k2⟩ := ih ((s - 1) &&& x) hlt V w (some (.int (nI (x ^^^ s)))) (some (.int 0)) hsub (by omega) hen hVx w1 wx (fun T t0 t1 t2 t3 => by
            by_cases e : T = s
            · rw [e] at t3
              exact absurd t3 hz1
            · by_cases g : s < T
              · exact hall T g t1 t2 t3
              · exact absurd (hnext T t0 (by omega) t2) id) hex
        refine ⟨w', m1, m2, m3, Eq.trans ?_ k1, k2⟩
        have g1 : (0 : Int32) ≤ nI w := nI_pos' (by omega)
        rw [q186_72]
        simp only [q186_0, q186_1, q186_2, q186_3, q186_4, q186_7, q186_10, q186_11, q186_12, q186_13, q186_14, q186_17, q186_19, q186_20, q186_21, q186_22, q186_23, q186_24, q186_25, q186_26, q186_29, q186_30, q186_31, q186_34, q186_36, q186_37, q186_38, q186_39, q186_40, q186_41, q186_44, q186_45, q186_48, q186_49, q186_50, q186_51, q186_54, q186_55, q186_56, q186_59, q186_60, q186_63, q186_64, q186_65, q186_66, q186_67, q186_68, q186_69, q186_70, q186_74, q186_77, q186_78, q186_81, q186_82, q186_83, q186_86, q186_87, q186_89, q186_90, q186_91, q186_92, q186_94, q186_95, q186_98, q186_100, q186_101, q186_104, q186_105, q186_108, q186_110, q186_111, q186_114, q186_115, q186_118, q186_120, q186_121, q186_122, q186_125, q186_127, q186_128, q186_129, q186_132, q186_133, q186_135, q186_136, q186_139, q186_140, q186_142, q186_143, q186_146, q186_147, q186_148, q186_151, q186_153, q186_156, q186_157, q186_160, q186_161, q186_162, q186_163, q186_165, q186_166, q186_167, q186_168, q186_169, q186_171, q186_177, q186_180, q186_181, q186_184, q186_185, q186_188, q186_189, q186_192, q186_193, q186_194, q186_195, q186_196, q186_199, q186_200, q186_203, q186_205, q186_206, q186_207, q186_208, q186_211, q186_212, n10, n01, Bool.false_eq_true, ab_bs, ab_bn, ab_pr0, ab_pr1, nl_n, nl_i, nl_r, nl_j, nl_nl, rc_123, gf_123_0, gf_123_1, pt_123_1, gf_123_2, pt_123_2, gf_123_3, pt_123_3, gf_123_4, pt_123_4, gf_123_5, pt_123_5, gf_123_6, pt_123_6, gf_123_7, pt_123_7, gf_123_8, pt_123_8, gf_123_9, gf_123_10, gf_123_11, gf_123_12, gf_123_13, pt_123_13_0, pt_123_13_1, gf_123_14, pt_123_14_0, pt_123_14_1, gf_123_15, gf_123_16, gf_123_17, gf_123_18, gf_123_19, gf_123_20, gf_123_21, gf_123_22, gf_123_23, gf_123_24, gf_123_25, pt_123_25, gf_123_26, gf_123_27, pt_123_27, gf_123_28, pt_123_28, gf_123_29, gf_123_30, pt_123_30, gf_123_31, pt_123_31, gf_123_32, pt_123_32, gf_123_33, pt_123_33, gf_123_34, pt_123_34_0, pt_123_34_1, gf_123_35, gf_123_36, gf_123_37, gf_123_38, pt_123_38, gf_123_39, pt_123_39, gf_123_40, pt_123_40, gf_123_41, gf_123_42, gf_123_43, gf_123_44, gf_123_45, gf_123_46, gf_123_47, pt_123_47, hsn, if_false, ax, hwn, hxr, as, e1, (show (-1 : Int32) ≤ 0 by decide), g1, sx, if_true, hclx, hnx, hup]
