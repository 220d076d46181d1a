/-! THE LAW's loop -/
theorem CRX_mono {K K' : Int} {M : ab_M} (hK : K ≤ K') (h : CRX K M) : CRX K' M := by
  obtain ⟨n, t, h⟩ := h
  exact ⟨n, t, CR_mono hK h⟩
theorem cokI_mono {scr : Option (List Int32)} {c r : Nat} {As : List Value} {M : ab_M} {Q Q' : ab_M → Prop} (h : ∀ N, Q N → Q' N) (hc : cokI scr c r As M Q) : cokI scr c r As M Q' := by
  obtain ⟨M1, a, M2, x, y, z⟩ := hc
  exact ⟨M1, a, M2, x, y, h _ z⟩
theorem cokJ_mono {scr : Option (List Int32)} {c r : Nat} {As : List Value} {M : ab_M} {Q Q' : ab_M → Prop} (h : ∀ N, Q N → Q' N) (hc : cokJ scr c r As M Q) : cokJ scr c r As M Q' := by
  obtain ⟨M1, a, M2, x, y, z⟩ := hc
  exact ⟨M1, a, M2, x, y, h _ z⟩
theorem and31 (x : Int32) : ∃ c, c < 32 ∧ x &&& 31 = nI c := ⟨x.toBitVec.toNat % 2 ^ 5, Nat.mod_lt _ (by decide), pk_and x 5 (by decide)⟩
def caseP (c : Nat) : Nat := [176, 229, 252, 265, 278, 311, 354, 397, 450, 503, 536, 559, 582, 595, 638, 651, 704, 757, 790, 844, 878, 931, 964, 987, 1020, 1063, 1086, 1109, 1152, 1195, 1248, 1261].getD c 0
section
variable {scr : List Int32} {i : Nat} {M : ab_M}
theorem lw_case {K : Int} (hK : 99999 ≤ K) (hK2 : K ≤ 100000000) (h : CRX K M) (hi : i + 5 ≤ scr.length) (hl : scr.length ≤ 2560) : ∀ c, c < 32 → ∃ M2, ab_res (some scr) 205 13 M (caseP c) (lwL i) [] = ab_res (some scr) 205 13 M2 18 (lwL (i + 5)) [] ∧ CRX (K + 31680) M2 := by
  obtain ⟨n, t, h⟩ := h
  have k0 : 0 ≤ K := by omega
  have mo : ∀ N, CRX K N → CRX (K + 31680) N := fun N hN => CRX_mono (by omega) hN
  intro c hc
  match c, hc with
  | 0, _ => exact lw_0 hi hl (cokI_mono mo (cl_feed h _))
  | 1, _ => exact lw_1 hi hl (cokI_mono mo (cl_end h _))
  | 2, _ => exact lw_2 hi hl (cokI_mono mo (cl_table k0 h))
  | 3, _ => exact lw_3 hi hl (cokI_mono mo (cl_fault h))
  | 4, _ => exact lw_4 hi hl (cokI_mono mo (cl_one h _ _))
  | 5, _ => exact lw_5 hi hl (cokI_mono mo (cl_set hK h _ _ _))
  | 6, _ => exact lw_6 hi hl (cokI_mono mo (cok_ax h (cl_evening h _ _ _)))
  | 7, _ => exact lw_7 hi hl (cokI_mono mo (cok_ax h (cl_round h _ _ _ _)))
  | 8, _ => exact lw_8 hi hl (cokI_mono mo (cok_ax h (cl_of h _ _ _ _)))
  | 9, _ => exact lw_9 hi hl (cokI_mono mo (cok_ax h (cl_fairest h _ _)))
  | 10, _ => exact lw_10 hi hl (cokI_mono mo (cok_ax h (cl_best k0 (by omega) h _)))
  | 11, _ => exact lw_11 hi hl (cokI_mono mo (cl_book h _))
  | 12, _ => exact lw_12 hi hl (cokI_mono mo (cl_shut h))
  | 13, _ => exact lw_13 hi hl (cokI_mono mo (cok_ax h (cl_judge h _ _ _)))
  | 14, _ => exact lw_14 hi hl (cokI_mono mo (cl_adopt k0 (by omega) h))
  | 15, _ => exact lw_15 hi hl (cokI_mono mo (cok_ax h (cl_late h _ _ _ _)))
  | 16, _ => exact lw_16 hi hl (cokI_mono mo (cok_ax h (cl_slow h _ _ _ _)))
  | 17, _ => exact lw_17 hi hl (cokI_mono mo (cok_ax h (cl_sure h _ _)))
  | 18, _ => exact lw_18 hi hl (cokJ_mono mo (cokJ_ax h (cl_right k0 (by omega) h _ _ _ _)))
  | 19, _ => exact lw_19 hi hl (cokJ_mono mo (cokJ_ax h (cl_lot h _ _)))
  | 20, _ => exact lw_20 hi hl (cokI_mono mo (cok_ax h (cl_fridays h k0 hK2 _ _ _ _)))
  | 21, _ => exact lw_21 hi hl (cl_goes k0 (by omega) h _ _)
  | 22, _ => exact lw_22 hi hl (cokI_mono mo (cl_coins h k0 (by omega) _))
  | 23, _ => exact lw_23 hi hl (cokI_mono mo (cl_think h _ _))
  | 24, _ => exact lw_24 hi hl (cokI_mono mo (cok_ax h (cl_thought h _ _ _)))
  | 25, _ => exact lw_25 hi hl (cokI_mono mo (cl_keep h _))
  | 26, _ => exact lw_26 hi hl (cokI_mono mo (cl_back h _))
  | 27, _ => exact lw_27 hi hl (cokI_mono mo (cl_sheet h _ _ _))
  | 28, _ => exact lw_28 hi hl (cokI_mono mo (cl_lay h _ _ _))
  | 29, _ => exact lw_29 hi hl (cokI_mono mo (cl_read h _ _ _ _))
  | 30, _ => exact lw_30 hi hl (cokI_mono mo (cl_torn h))
  | 31, _ => exact lw_31 hi hl (cokI_mono mo (cok_ax h (cl_count h _)))
  | c + 32, hc => omega
theorem sw_to {v : Int32} {c : Nat} (hc : c < 32) (hv : v = nI c) : ab_res (some scr) 205 13 M 32 (lwL i) [.int v] = ab_res (some scr) 205 13 M (caseP c) (lwL i) [] := by
  subst hv
  unfold lwL
  rw [q205_32]
  match c, hc with
  | 0, _ => rfl
  | 1, _ => rfl
  | 2, _ => rfl
  | 3, _ => rfl
  | 4, _ => rfl
  | 5, _ => rfl
  | 6, _ => rfl
  | 7, _ => rfl
  | 8, _ => rfl
  | 9, _ => rfl
  | 10, _ => rfl
  | 11, _ => rfl
  | 12, _ => rfl
  | 13, _ => rfl
  | 14, _ => rfl
  | 15, _ => rfl
  | 16, _ => rfl
  | 17, _ => rfl
  | 18, _ => rfl
  | 19, _ => rfl
  | 20, _ => rfl
  | 21, _ => rfl
  | 22, _ => rfl
  | 23, _ => rfl
  | 24, _ => rfl
  | 25, _ => rfl
  | 26, _ => rfl
  | 27, _ => rfl
  | 28, _ => rfl
  | 29, _ => rfl
  | 30, _ => rfl
  | 31, _ => rfl
  | c + 32, hc => omega
theorem len_3000 : ab_len (some scr) ab_L0 3000 = some (nI scr.length) := rfl
theorem lw_turn {K : Int} (hK : 99999 ≤ K) (hK2 : K ≤ 100000000) (h : CRX K M) (hi : i + 5 ≤ scr.length) (hl : scr.length ≤ 2560) : ∃ M2, ab_res (some scr) 205 13 M 18 (lwL i) [] = ab_res (some scr) 205 13 M2 18 (lwL (i + 5)) [] ∧ CRX (K + 31680) M2 := by
  obtain ⟨c, hc, hv⟩ := and31 (scV scr i)
  obtain ⟨M2, e, q⟩ := lw_case hK hK2 h hi hl c hc
  refine ⟨M2, ?_, q⟩
  rw [← e, ← sw_to hc hv]
  have x : ¬ nI scr.length - 5 < nI i := by
    rw [show (5 : Int32) = nI 5 from rfl, pk_sub (by omega)]
    exact nI_nlt (by omega) (by omega)
  unfold lwL
  rw [q205_18]
  simp only [q205_19, q205_20, q205_21, q205_22, q205_23, q205_26, q205_27, q205_28, q205_29, q205_31, n10, n01, Bool.false_eq_true, ab_bs, ab_bn, ab_pr0, ab_pr1, nl_n, nl_i, nl_r, nl_j, nl_nl, len_3000, x, if_false, al_3000 (show i < scr.length by omega) hl]
theorem lw_end (hi : scr.length < i + 5) (hi2 : i ≤ scr.length) (hl : scr.length ≤ 2560) : ab_res (some scr) 205 13 M 18 (lwL i) [] = some (M, some (.int 1)) := by
  have x : nI scr.length - 5 < nI i := by
    rw [Int32.lt_iff_toInt_lt, ti_sub (by rw [nI_toInt (by omega), show (5 : Int32).toInt = 5 by decide]; omega) (by rw [nI_toInt (by omega), show (5 : Int32).toInt = 5 by decide]; omega), nI_toInt (by omega), nI_toInt (by omega), show (5 : Int32).toInt = 5 by decide]
    omega
  unfold lwL
  rw [q205_18]
  simp only [q205_19, q205_20, q205_21, q205_22, q205_23, q205_1290, q205_1291, n10, n01, Bool.false_eq_true, ab_bs, ab_bn, ab_pr0, ab_pr1, nl_n, nl_i, nl_r, nl_j, nl_nl, len_3000, x, if_true, narrow_b1]
theorem lw_run (hl : scr.length ≤ 2560) : ∀ d i k (M : ab_M), scr.length - i ≤ d → i = 5 * k → i ≤ scr.length → CRX (99999 + 31680 * k) M → ∃ M1, ab_res (some scr) 205 13 M 18 (lwL i) [] = some (M1, some (.int 1)) := by
  intro d
  induction d using Nat.strongRecOn with
  | ind d ih =>
    intro i k M hd hk hi h
    by_cases x : i + 5 ≤ scr.length
    · obtain ⟨M2, e, q⟩ := lw_turn (by omega) (by omega) h x hl
      obtain ⟨M1, e1⟩ := ih (scr.length - (i + 5)) (by omega) (i + 5) (k + 1) M2 (Nat.le_refl _) (by omega) x (by
        have : (99999 : Int) + 31680 * ((k + 1 : Nat) : Int) = 99999 + 31680 * (k : Int) + 31680 := by omega
        rw [this]
        exact q)
      exact ⟨M1, e.trans e1⟩
    · exact ⟨M, lw_end (by omega) hi hl⟩
end
theorem CR_0 {M0 : ab_M} (h0 : ∀ q ∈ ab_q0, M0 q.1.1 q.1.2 = q.2) : CR 0 0 99999 M0 := by
  have g : ∀ c j v, ((c, j), v) ∈ ab_q0 → M0 c j = v := fun c j v h => h0 _ h
  have z1 := g 16 3 0 (by decide)
  have z2 := g 16 5 0 (by decide)
  have z3 := g 16 4 1 (by decide)
  refine ⟨⟨by decide, by decide, z1, z2, ⟨1, by decide, by decide, z3⟩, fun p hp => absurd hp (by omega), fun i hi => absurd hi (by omega)⟩, ⟨g 127 72 0 (by decide), Or.inl ⟨g 123 14 0 (by decide), z3⟩, g 127 86 0 (by decide), fun w _ p hp => absurd hp (by omega), fun i hi => absurd hi (by omega)⟩, fun k hk => ?_, fun k hk => ?_, ⟨0, by decide, g 1 1 0 (by decide), g 123 1 0 (by decide), fun i hi => absurd hi (by omega)⟩, fun q hq _ => h0 q hq, ?_, ?_⟩
  · have : k = 0 ∨ k = 1 := by omega
    rcases this with rfl | rfl
    · exact Or.inl ⟨g 89 1 0 (by decide), g 146 0 0 (by decide)⟩
    · exact Or.inl ⟨g 102 1 0 (by decide), g 146 1 0 (by decide)⟩
  · have : k = 0 ∨ k = 1 ∨ k = 2 ∨ k = 3 := by omega
    rcases this with rfl | rfl | rfl | rfl
    · exact Or.inl ⟨g 115 2 (-1) (by decide), g 147 0 (-4) (by decide)⟩
    · exact Or.inl ⟨g 117 2 (-1) (by decide), g 147 1 (-4) (by decide)⟩
    · exact Or.inl ⟨g 119 2 (-1) (by decide), g 147 2 (-4) (by decide)⟩
    · exact Or.inl ⟨g 121 2 (-1) (by decide), g 147 3 (-4) (by decide)⟩
  · rw [g 3 2 0 (by decide), g 123 2 0 (by decide)]
  · rw [g 0 9 0 (by decide), g 123 47 0 (by decide)]
/-- THE LAW, over the fixed layout, from its start to its end -/
theorem law_run (scr : List Int32) (h : scr.length ≤ 2560) (M0 : ab_M) (h0 : ∀ q ∈ ab_q0, M0 q.1.1 q.1.2 = q.2) : ∃ M1, ab_res (some scr) 205 13 M0 18 [some (.ref 3000), some (.ref 0), some (.ref 123), some (.int 0)] [] = some (M1, some (.int 1)) := lw_run h scr.length 0 0 M0 (by omega) rfl (by omega) ⟨0, 0, CR_0 h0⟩
