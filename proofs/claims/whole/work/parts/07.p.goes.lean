/-! frames -/
def FR (N N' : ab_M) : Prop := (∀ c j, (c < 123 ∨ (123 < c ∧ c < 129) ∨ 140 < c) → N' c j = N c j) ∧ ∀ j, ¬ (25 ≤ j ∧ j ≤ 33) → N' 123 j = N 123 j
theorem FR_refl (N : ab_M) : FR N N := ⟨fun _ _ _ => rfl, fun _ _ => rfl⟩
theorem FR_trans {A B C : ab_M} (h1 : FR A B) (h2 : FR B C) : FR A C := ⟨fun c j h => (h2.1 c j h).trans (h1.1 c j h), fun j h => (h2.2 j h).trans (h1.2 j h)⟩
theorem FR_up {N : ab_M} {j : Nat} {v : Int32} (h : 25 ≤ j ∧ j ≤ 33) : FR N (ab_up N 123 j v) := ⟨fun c i hc => up_n (by omega), fun i hi => up_o _ _ _ _ _ _ (by rintro ⟨-, rfl⟩; exact hi h)⟩
theorem FR_rs {n : Nat} {F : Nat → Nat → Int32} {B : ab_M} : FR B (rs n F B) := ⟨fun c j h => by unfold rs; rw [if_neg (by omega)], fun j h => rs_lo (by decide)⟩
theorem FR_dr0 {i n : Nat} {m who co got : Int32} {N : ab_M} : FR N (dr0 i n m who co got N) := ⟨fun c j h => dr0_n (by omega) (by omega), fun j h => by rw [dr0_123]; unfold pnO; rw [if_neg (by omega), if_neg (by omega), if_neg (by omega)]⟩
theorem FR_up9 {N : ab_M} {c j : Nat} {v : Int32} (h : 129 ≤ c ∧ c ≤ 140) : FR N (ab_up N c j v) := ⟨fun c i hc => up_n (by omega), fun i hi => up_n (by omega)⟩
theorem FR_own {n i : Nat} {m em : Int32} {N : ab_M} : FR N (owC n m em N i) := FR_trans (FR_trans FR_rs (FR_trans FR_dr0 FR_rs)) (FR_up (by decide))
theorem FR_buy {n i : Nat} {m : Int32} {w : Nat} {co em : Int32} {N : ab_M} : FR N (buO n i m w co em N) := by
  rw [buO_eq]
  refine FR_trans (FR_trans (FR_trans (FR_trans ?_ (FR_trans FR_dr0 FR_rs)) (FR_up (by decide))) (FR_up9 (by decide))) (FR_up (by decide))
  unfold buA
  exact FR_trans (FR_trans (FR_up9 (by decide)) (FR_up9 (by decide))) (FR_up9 (by decide))
theorem FR_byN {rule : Int32} {N : ab_M} : FR N (byN rule N) := by
  unfold byN
  split
  · exact FR_up (by decide)
  · exact FR_refl N
/-- one MINUTE of the reference, whole -/
theorem RR_one {scr : Option (List Int32)} {n t k : Nat} {N S : ab_M} (hC : CI n t S) (h : RR n t k N S) (m rule : Int32) (hr : S 30 8 = rule) (hr2 : rule = 0 ∨ rule = 1 ∨ rule = 2 ∨ rule = 3 ∨ rule = 4 ∨ rule = 5 ∨ rule = 6) : ∃ N', ab_ms scr 157 [.ref 123, .int m, .int rule] N = some (N', none) ∧ RR n t k N' (rdC n m S) ∧ FR N N' := by
  obtain ⟨hn, hM, hbk, hb, ⟨i, hi, hi2⟩, hk1, hk2, hsub, h5⟩ := id hC
  obtain ⟨⟨g1, g2, g3, g4, g5⟩, hv, ⟨a1, a2, a3, a4, a5, a6, a7, a8⟩, hP, hq⟩ := id h
  have hem := em_eq hC h
  by_cases h40 : S 30 3 < 40
  · have hdue := due_eq hC h h40
    have hi3 : i < 40 := by
      rw [hi2] at h40
      exact (nI_ltI (b := 40) (by omega) (by decide)).mp h40
    have hN30 : N 123 30 = nI i := by rw [a4, hi2]
    by_cases hw : wtC S = true
    · rw [hw] at hdue
      by_cases h6 : rule = 6
      · subst h6
        have how := ow_eq h
        rw [oo_own N n hn g1 i hi3 hN30 m hdue, hem, how]
        by_cases h0 : owN n S = 0
        · have e : rs n (owF (S 30 13) N) N = N := by
            refine (rs_ext (fun c p q1 q2 hp => ?_) (fun _ _ _ => rfl)).symm
            have ht := ow_tb (S := S) hn hp
            obtain ⟨-, -, -, -, p5, -⟩ := hP p hp
            rw [h0, z0] at ht
            unfold owF
            rw [p5, g4 2 (by decide) p hp]
            by_cases x : tb (S 30 13) p = true
            · rw [if_pos x]
              rw [x] at ht
              by_cases y : S 22 p - S (33 + p) 2 < S 20 p
              · rw [if_pos y]
              · simp [y] at ht
            · rw [if_neg x]
          rw [if_pos h0, e]
          refine ⟨_, rfl, ?_, FR_up (by decide)⟩
          rw [rd_stk ⟨hw, Or.inl ⟨hr, h0⟩⟩]
          exact RR_bk h
        · rw [if_neg h0]
          refine ⟨_, rfl, ?_, FR_own⟩
          have e : rdC n m S = bgO n m S := by
            unfold rdC
            rw [if_pos hw, if_pos hr, if_neg h0]
          rw [e]
          exact RR_own hC h m hi3 hi2
      · have hr6 : S 30 8 ≠ 6 := by rw [hr]; exact h6
        have hpr := pr_eq h (S 30 13)
        have hab := ab_eq hC h (prC n (S 30 13) S)
        have ecall : abO n (prO n (emO n N) N) N = abC n (prC n (S 30 13) S) S := by rw [hem, hpr, hab]
        by_cases h0 : abC n (prC n (S 30 13) S) S = 0
        · rw [oo_dry N n hn g1 i hi3 hN30 m rule h6 hdue (by rw [ecall, h0])]
          refine ⟨_, rfl, ?_, FR_up (by decide)⟩
          rw [rd_stk ⟨hw, Or.inr ⟨hr6, h0⟩⟩]
          exact RR_bk h
        · obtain ⟨w, hwn, hwb, hwt⟩ := by_ok hC h0
          have hmk := abC_mk (co := prC n (S 30 13) S) hn hk1
          have hsb : ∀ p, p < n → tb (abC n (prC n (S 30 13) S) S) p = true → tb (S 30 12) p = true := by
            intro p hp q
            rw [abC_tb hn hp] at q
            simp only [Bool.and_eq_true] at q
            exact q.1.1
          have hby := by_ref (scr := scr) hC h hmk hsb h0 w hwn hwb rule hr (by rcases hr2 with e | e | e | e | e | e | e <;> simp_all)
          rw [← ecall] at hby h0
          have hN1 : ∀ c j, c ≠ 123 → byN rule N c j = N c j := by
            intro c j hc
            unfold byN
            split
            · rw [up_n hc]
            · rfl
          have hN2 : byN rule N 123 30 = nI i := by
            rw [← hN30]
            unfold byN
            split
            · rw [up_o _ _ _ _ _ _ (by decide)]
            · rfl
          rw [oo_buy N n hn g1 i hi3 hN30 m rule h6 hdue h0 (byN rule N) w (by omega) hby (by rw [hN1 _ _ (by decide), g1]) hN2]
          refine ⟨_, rfl, ?_, FR_trans FR_byN FR_buy⟩
          rw [ecall] at h0
          have e : rdC n m S = bgB n m w (prC n (S 30 13) S) (S 30 13) (byM S) := by
            unfold rdC
            rw [if_pos hw, if_neg hr6, if_neg h0, hwb, nI_clamp (by omega)]
          rw [e, hem, hpr, ← hr]
          exact RR_buy hC h m hi3 hi2 w hwn (hsb w hwn hwt) _
    · rw [Bool.not_eq_true] at hw
      rw [oo_no N n hn g1 m rule (Or.inl (by rw [hdue, hw])), rd_no hw]
      exact ⟨N, rfl, h, FR_refl N⟩
  · have hw : wtC S = false := by simp [wtC, h40]
    have e40 : N 123 30 = 40 := by
      rw [a4, hi2]
      rw [hi2] at h40
      have : ¬ i < 40 := fun q => h40 (nI_lt (b := 40) q (by decide))
      have : i = 40 := by omega
      rw [this]
      rfl
    rw [oo_no N n hn g1 m rule (Or.inr e40), rd_no hw]
    exact ⟨N, rfl, h, FR_refl N⟩
/-! the class's rule stays -/
theorem mn_8 {n : Nat} {m : Int32} {S : ab_M} : mnC n m S 30 8 = S 30 8 := by
  have e : ∀ S : ab_M, rdC n m S 30 8 = S 30 8 := by
    intro S
    unfold rdC
    split
    · split
      · split
        · exact bk_j (by decide)
        · rw [bgO_30 (by decide)]
          simp
      · split
        · exact bk_j (by decide)
        · rw [bgB_30 (by decide)]
          simp [byM_30]
    · rfl
  unfold mnC
  rw [e, cg_30 (by decide) (by decide)]
theorem CI_k {n t : Nat} {C0 : ab_M} (h : CI n t C0) (k : Nat) : CI n t (fo (fun k S => mnC n (nI k) S) k C0) := by
  induction k with
  | zero => exact h
  | succ k ih => exact CI_rd (CI_cg ih)
theorem k_8 {n : Nat} {C0 : ab_M} (k : Nat) : fo (fun k S => mnC n (nI k) S) k C0 30 8 = C0 30 8 := by
  induction k with
  | zero => rfl
  | succ k ih =>
    show mnC n (nI k) _ 30 8 = _
    rw [mn_8, ih]
/-! goesOn -/
def awk (N : ab_M) : ab_M := if N 123 14 = 0 then ab_up (ab_up N 127 73 1) 123 14 1 else N
theorem rp_awake {scr : Option (List Int32)} (N : ab_M) : ab_ms scr 121 [.ref 123] N = some (awk N, none) := by
  rw [ms121]
  unfold awk
  have s73 : ab_si 127 .int 73 = true := s127 (k := 73) (by decide)
  have c73 : (73 : Int32).toNatClampNeg = 73 := by decide
  by_cases h : N 123 14 = 0
  · simp only [q121_0, q121_1, q121_4, q121_7, q121_8, q121_11, q121_13, q121_14, q121_15, q121_16, q121_17, q121_20, n10, n01, Bool.false_eq_true, ab_bs, ab_bn, ab_pr0, ab_pr1, nl_n, nl_i, nl_r, nl_j, nl_nl, rc_123, gf_123_0, gf_123_1, pt_123_1, gf_123_2, pt_123_2, gf_123_3, pt_123_3, gf_123_4, pt_123_4, gf_123_5, pt_123_5, gf_123_6, pt_123_6, gf_123_7, pt_123_7, gf_123_8, pt_123_8, gf_123_9, gf_123_10, gf_123_11, gf_123_12, gf_123_13, pt_123_13_0, pt_123_13_1, gf_123_14, pt_123_14_0, pt_123_14_1, gf_123_15, gf_123_16, gf_123_17, gf_123_18, gf_123_19, gf_123_20, gf_123_21, gf_123_22, gf_123_23, gf_123_24, gf_123_25, pt_123_25, gf_123_26, gf_123_27, pt_123_27, gf_123_28, pt_123_28, gf_123_29, gf_123_30, pt_123_30, gf_123_31, pt_123_31, gf_123_32, pt_123_32, gf_123_33, pt_123_33, gf_123_34, pt_123_34_0, pt_123_34_1, gf_123_35, gf_123_36, gf_123_37, gf_123_38, pt_123_38, gf_123_39, pt_123_39, gf_123_40, pt_123_40, gf_123_41, gf_123_42, gf_123_43, gf_123_44, gf_123_45, gf_123_46, gf_123_47, pt_123_47, h, not_true, if_false, s73, if_true, c73]
  · simp only [q121_0, q121_1, q121_4, q121_7, q121_8, q121_11, q121_13, q121_14, q121_15, q121_16, q121_17, q121_20, n10, n01, Bool.false_eq_true, ab_bs, ab_bn, ab_pr0, ab_pr1, nl_n, nl_i, nl_r, nl_j, nl_nl, rc_123, gf_123_0, gf_123_1, pt_123_1, gf_123_2, pt_123_2, gf_123_3, pt_123_3, gf_123_4, pt_123_4, gf_123_5, pt_123_5, gf_123_6, pt_123_6, gf_123_7, pt_123_7, gf_123_8, pt_123_8, gf_123_9, gf_123_10, gf_123_11, gf_123_12, gf_123_13, pt_123_13_0, pt_123_13_1, gf_123_14, pt_123_14_0, pt_123_14_1, gf_123_15, gf_123_16, gf_123_17, gf_123_18, gf_123_19, gf_123_20, gf_123_21, gf_123_22, gf_123_23, gf_123_24, gf_123_25, pt_123_25, gf_123_26, gf_123_27, pt_123_27, gf_123_28, pt_123_28, gf_123_29, gf_123_30, pt_123_30, gf_123_31, pt_123_31, gf_123_32, pt_123_32, gf_123_33, pt_123_33, gf_123_34, pt_123_34_0, pt_123_34_1, gf_123_35, gf_123_36, gf_123_37, gf_123_38, pt_123_38, gf_123_39, pt_123_39, gf_123_40, pt_123_40, gf_123_41, gf_123_42, gf_123_43, gf_123_44, gf_123_45, gf_123_46, gf_123_47, pt_123_47, h, not_false_eq_true, if_false, if_true]
def fzF (M : ab_M) (c p : Nat) : Int32 := if c = 137 then (if M 127 (9 * p + 1) = 240 then ia (rO M p) else M 137 p) else M c p
theorem rp_far {scr : Option (List Int32)} (M : ab_M) (n : Nat) (hn : n ≤ 8) (hM : M 127 72 = nI n) (rule : Int32) : ab_res scr 158 5 M 36 [some (.ref 123), some (.int rule), some (.int (nI 0))] [] = some (rs n (fzF M) M, none) := by
  refine Eq.trans ?_ ((rn (fun k => ab_res scr 158 5 (rs k (fzF M) M) 36 [some (.ref 123), some (.int rule), some (.int (nI k))] []) (n) (fun k hk => ?_)).trans ?_)
  · rw [rs_0]
  · have h1 : ¬ nI n ≤ nI k := nI_ge hk (by omega)
    have h3 : k < 8 := by omega
    have h2 : k < 2 ^ 31 := by omega
    have h4 : ∀ j, rs k (fzF M) M 127 j = M 127 j := fun j => rs_lo (by decide)
    have hb : ∀ c, rs k (fzF M) M c k = M c k := fun c => rs_k
    have ho : rO (rs k (fzF M) M) k = rO M k := by unfold rO; rw [hb, hb, hb]
    by_cases hA : M 127 (9 * k + 1) = 240
    · rw [q158_36]
      simp only [q158_0, q158_1, q158_4, q158_5, q158_8, q158_9, q158_10, q158_11, q158_14, q158_17, q158_18, q158_19, q158_22, q158_23, q158_24, q158_25, q158_28, q158_31, q158_34, q158_35, q158_37, q158_38, q158_41, q158_43, q158_44, q158_47, q158_48, q158_51, q158_52, q158_53, q158_54, q158_55, q158_58, q158_61, q158_64, q158_65, q158_66, q158_69, q158_72, q158_75, q158_76, q158_79, q158_80, q158_81, q158_82, q158_85, q158_88, n10, n01, Bool.false_eq_true, ab_bs, ab_bn, ab_pr0, ab_pr1, nl_n, nl_i, nl_r, nl_j, nl_nl, rc_123, gf_123_0, gf_123_1, pt_123_1, gf_123_2, pt_123_2, gf_123_3, pt_123_3, gf_123_4, pt_123_4, gf_123_5, pt_123_5, gf_123_6, pt_123_6, gf_123_7, pt_123_7, gf_123_8, pt_123_8, gf_123_9, gf_123_10, gf_123_11, gf_123_12, gf_123_13, pt_123_13_0, pt_123_13_1, gf_123_14, pt_123_14_0, pt_123_14_1, gf_123_15, gf_123_16, gf_123_17, gf_123_18, gf_123_19, gf_123_20, gf_123_21, gf_123_22, gf_123_23, gf_123_24, gf_123_25, pt_123_25, gf_123_26, gf_123_27, pt_123_27, gf_123_28, pt_123_28, gf_123_29, gf_123_30, pt_123_30, gf_123_31, pt_123_31, gf_123_32, pt_123_32, gf_123_33, pt_123_33, gf_123_34, pt_123_34_0, pt_123_34_1, gf_123_35, gf_123_36, gf_123_37, gf_123_38, pt_123_38, gf_123_39, pt_123_39, gf_123_40, pt_123_40, gf_123_41, gf_123_42, gf_123_43, gf_123_44, gf_123_45, gf_123_46, gf_123_47, pt_123_47, ln_137, al_137, si_137, r72, h4, hM, h1, if_false, its1 _ _ h3, hA, not_true, sp_outOf _ _ h3, sp_size, ho, ib8 h3, nI_clamp h2, if_true, nI_succ]
      congr 1
      refine rs_step (fun c j h => ?_) (fun c q1 q2 => ?_)
      · rw [up_o _ _ _ _ _ _ (by omega)]
      · unfold fzF
        by_cases e : c = 137
        · subst e
          rw [up_s, if_pos rfl, if_pos hA]
        · rw [up_n e, rs_k, if_neg e]
    · rw [q158_36]
      simp only [q158_0, q158_1, q158_4, q158_5, q158_8, q158_9, q158_10, q158_11, q158_14, q158_17, q158_18, q158_19, q158_22, q158_23, q158_24, q158_25, q158_28, q158_31, q158_34, q158_35, q158_37, q158_38, q158_41, q158_43, q158_44, q158_47, q158_48, q158_51, q158_52, q158_53, q158_54, q158_55, q158_58, q158_61, q158_64, q158_65, q158_66, q158_69, q158_72, q158_75, q158_76, q158_79, q158_80, q158_81, q158_82, q158_85, q158_88, n10, n01, Bool.false_eq_true, ab_bs, ab_bn, ab_pr0, ab_pr1, nl_n, nl_i, nl_r, nl_j, nl_nl, rc_123, gf_123_0, gf_123_1, pt_123_1, gf_123_2, pt_123_2, gf_123_3, pt_123_3, gf_123_4, pt_123_4, gf_123_5, pt_123_5, gf_123_6, pt_123_6, gf_123_7, pt_123_7, gf_123_8, pt_123_8, gf_123_9, gf_123_10, gf_123_11, gf_123_12, gf_123_13, pt_123_13_0, pt_123_13_1, gf_123_14, pt_123_14_0, pt_123_14_1, gf_123_15, gf_123_16, gf_123_17, gf_123_18, gf_123_19, gf_123_20, gf_123_21, gf_123_22, gf_123_23, gf_123_24, gf_123_25, pt_123_25, gf_123_26, gf_123_27, pt_123_27, gf_123_28, pt_123_28, gf_123_29, gf_123_30, pt_123_30, gf_123_31, pt_123_31, gf_123_32, pt_123_32, gf_123_33, pt_123_33, gf_123_34, pt_123_34_0, pt_123_34_1, gf_123_35, gf_123_36, gf_123_37, gf_123_38, pt_123_38, gf_123_39, pt_123_39, gf_123_40, pt_123_40, gf_123_41, gf_123_42, gf_123_43, gf_123_44, gf_123_45, gf_123_46, gf_123_47, pt_123_47, ln_137, al_137, si_137, r72, h4, hM, h1, if_false, its1 _ _ h3, hA, not_false_eq_true, ib8 h3, nI_clamp h2, if_true, nI_succ]
      congr 1
      refine rs_step (fun c j h => ?_) (fun c q1 q2 => ?_)
      · rw [up_o _ _ _ _ _ _ (by omega)]
      · unfold fzF
        by_cases e : c = 137
        · subst e
          rw [up_s, if_pos rfl, if_neg hA, rs_k]
        · rw [up_n e, rs_k, if_neg e]
  · have h4 : ∀ j, rs n (fzF M) M 127 j = M 127 j := fun j => rs_lo (by decide)
    show ab_res scr 158 5 _ 36 _ [] = _
    rw [q158_36]
    simp only [q158_0, q158_1, q158_4, q158_5, q158_8, q158_9, q158_10, q158_11, q158_14, q158_17, q158_18, q158_19, q158_22, q158_23, q158_24, q158_25, q158_28, q158_31, q158_34, q158_35, q158_37, q158_38, q158_41, q158_43, q158_44, q158_47, q158_48, q158_51, q158_52, q158_53, q158_54, q158_55, q158_58, q158_61, q158_64, q158_65, q158_66, q158_69, q158_72, q158_75, q158_76, q158_79, q158_80, q158_81, q158_82, q158_85, q158_88, n10, n01, Bool.false_eq_true, ab_bs, ab_bn, ab_pr0, ab_pr1, nl_n, nl_i, nl_r, nl_j, nl_nl, rc_123, gf_123_0, gf_123_1, pt_123_1, gf_123_2, pt_123_2, gf_123_3, pt_123_3, gf_123_4, pt_123_4, gf_123_5, pt_123_5, gf_123_6, pt_123_6, gf_123_7, pt_123_7, gf_123_8, pt_123_8, gf_123_9, gf_123_10, gf_123_11, gf_123_12, gf_123_13, pt_123_13_0, pt_123_13_1, gf_123_14, pt_123_14_0, pt_123_14_1, gf_123_15, gf_123_16, gf_123_17, gf_123_18, gf_123_19, gf_123_20, gf_123_21, gf_123_22, gf_123_23, gf_123_24, gf_123_25, pt_123_25, gf_123_26, gf_123_27, pt_123_27, gf_123_28, pt_123_28, gf_123_29, gf_123_30, pt_123_30, gf_123_31, pt_123_31, gf_123_32, pt_123_32, gf_123_33, pt_123_33, gf_123_34, pt_123_34_0, pt_123_34_1, gf_123_35, gf_123_36, gf_123_37, gf_123_38, pt_123_38, gf_123_39, pt_123_39, gf_123_40, pt_123_40, gf_123_41, gf_123_42, gf_123_43, gf_123_44, gf_123_45, gf_123_46, gf_123_47, pt_123_47, r72, h4, hM, nI_rfl, if_true]
