/-! LOT -/
theorem frC_ok {n t : Nat} {K : Int} {M : ab_M} (h : CR n t K M) : (∀ scr : Option (List Int32), ab_ms scr 4 [.ref 30] M = some (ab_up (opC n 0 0 M) 30 9 0, none) ∧ ab_ms scr 6 [.ref 30] (ab_up (opC n 0 0 M) 30 9 0) = some (frC n M, none)) ∧ CI n t (frC n M) ∧ FC M (frC n M) ∧ BD n (frC n M) ∧ RM n (frC n M) := by
  have hn := CR_n h
  have e30 : ∀ j, j ≠ 9 → ab_up (opC n 0 0 M) 30 9 0 30 j = opC n 0 0 M 30 j := fun j hj => up_o _ _ _ _ _ _ (by omega)
  have elo : ∀ c j, c < 30 → ab_up (opC n 0 0 M) 30 9 0 c j = M c j := fun c j hc => by rw [up_n (by omega), op_lo hc]
  have hM : ab_up (opC n 0 0 M) 30 9 0 16 3 = nI n := by rw [elo _ _ (by decide), CR_3 h]
  have hb : bkV t (ab_up (opC n 0 0 M) 30 9 0) := bkV_of (CR_bk h) (elo _ _ (by decide)) (fun i => elo _ _ (by decide))
  have hl : ∃ b, b < 8 ∧ ab_up (opC n 0 0 M) 30 9 0 30 10 = nI b := ⟨7, by decide, by rw [e30 _ (by decide), op_30]; rfl⟩
  refine ⟨fun scr => ⟨sp_openFree M n hn (CR_3 h), (sp_play _ n t hn hM hb hl).1⟩, (sp_play (scr := none) _ n t hn hM hb hl).2, FC_trans (FC_op (rule := 0) (seed := 0) hn) (FC_trans (fun c j hc => up_n (by omega)) (FC_evC hn hM hb hl)), BD_ev hn hM hb hl (fun p hp => by rw [elo 20 p (by decide)]; exact (h.1.2.2.2.2.2.1 p hp).2.1), RM_ev hn hM hb hl⟩
theorem sp_freeW {scr : Option (List Int32)} {n t : Nat} {K : Int} {M M1 : ab_M} (h : CR n t K M) (hw : PW n t M1 M) (hF4 : M1 16 4 = M 16 4) : ∃ N' : ab_M, ab_ms scr 167 [.ref 123] M1 = some (N', some (.int (if frC n M 30 6 ≤ 0 then 0 else -4))) ∧ N' 123 30 = frC n M 30 3 ∧ RQ N' (frC n M) ∧ (∀ r, r < (frC n M 30 3).toNatClampNeg → N' 141 r = npV n (frC n M) (frC n M (41 + r) 4) ∧ mk n (npV n (frC n M) (frC n M (41 + r) 4))) ∧ AX M1 N' ∧ (∀ w, w < 9 → ∀ p, p < n → N' 127 (9 * p + w) = frC n M (18 + w) p) ∧ N' 127 72 = nI n ∧ ∀ p, p < n → N' 138 p = frC n M (33 + p) 0 ∧ N' 132 p = frC n M (33 + p) 1 := by
  have hn := CR_n h
  obtain ⟨-, hC, hFC, hB, hR⟩ := frC_ok h
  have e30 : ∀ j, j ≠ 9 → ab_up (opC n 0 0 M) 30 9 0 30 j = opC n 0 0 M 30 j := fun j hj => up_o _ _ _ _ _ _ (by omega)
  have elo : ∀ c j, c < 30 → ab_up (opC n 0 0 M) 30 9 0 c j = M c j := fun c j hc => by rw [up_n (by omega), op_lo hc]
  have hM : ab_up (opC n 0 0 M) 30 9 0 16 3 = nI n := by rw [elo _ _ (by decide), CR_3 h]
  have hb : bkV t (ab_up (opC n 0 0 M) 30 9 0) := bkV_of (CR_bk h) (elo _ _ (by decide)) (fun i => elo _ _ (by decide))
  have hl : ∃ b, b < 8 ∧ ab_up (opC n 0 0 M) 30 9 0 30 10 = nI b := ⟨7, by decide, by rw [e30 _ (by decide), op_30]; rfl⟩
  obtain ⟨r1, r2⟩ := fr_rel (N := M1) (M := M) 0 0 1 0 hn hw (by decide)
  have hf := rp_fresh (scr := scr) (ab_up M1 123 34 1) n hn (by rw [up_n (by decide)]; exact hw.1) 0
  obtain ⟨p1, p2⟩ := fr_pre (n := n) (N := M1) (seed := 0) (fre := 1)
  generalize rs 8 (frF n (ab_up M1 123 34 1)) (fr0 0 (ab_up M1 123 34 1)) = A at *
  obtain ⟨N', h1, h2, h3⟩ := rp_goesOn (scr := scr) hn hM hb hl r1 (PV_of (CR_PV h) (fun c j h => elo c j (by omega))) r2 0 (by rw [e30 _ (by decide), op_30]; simp) (Or.inl rfl)
  have h3 := FG_pre h3 p1 p2
  have hX : AX M1 N' := AX_FG h3 h2 (by rw [show evC n (ab_up (opC n 0 0 M) 30 9 0) = frC n M from rfl, hFC 16 4 (by decide), hF4])
  have h2 : RZ n t N' (frC n M) := h2
  obtain ⟨⟨⟨g1, g2, g3, g4, g5⟩, -, ⟨-, -, -, a4, -, -, a7, -⟩, hP, hq⟩, -⟩ := h2
  obtain ⟨i, hi, hi2, hi3⟩ := hR
  generalize frC n M = S at *
  have y : ∀ c j, c ≠ 123 → ab_up N' 123 34 0 c j = N' c j := fun c j z => up_n z
  have y3 : ∀ j, j ≠ 34 → ab_up N' 123 34 0 123 j = N' 123 j := fun j z => up_o _ _ _ _ _ _ (by omega)
  have y33 : ab_up N' 123 34 0 123 33 = S 30 6 := by rw [y3 _ (by decide), a7]
  have z : ∀ c j, c ≠ 141 → caL n i (ab_up N' 123 34 0) c j = ab_up N' 123 34 0 c j := fun c j q => by
    unfold caL
    rw [if_neg (by omega)]
  have hc := fun x => ca_out (scr := scr) (ab_up N' 123 34 0) n i hn hi (by rw [y _ _ (by decide), g1]) (by rw [y3 _ (by decide), a4, hi2]) x
  have hic : (S 30 3).toNatClampNeg = i := by rw [hi2, nI_clamp (by omega)]
  refine ⟨caL n i (ab_up N' 123 34 0), ?_, ?_, ?_, fun r hr => ?_, ?_, ?_, ?_, fun p hp => ?_⟩
  · rw [ms167]
    by_cases hd : S 30 6 ≤ 0
    · simp only [q167_0, q167_1, q167_2, q167_5, q167_6, q167_7, q167_10, q167_11, q167_12, q167_15, q167_16, q167_17, q167_20, q167_21, q167_24, q167_27, q167_29, q167_32, q167_33, q167_34, q167_35, q167_37, q167_38, q167_41, q167_44, q167_45, q167_48, q167_49, q167_50, q167_51, q167_52, q167_54, q167_55, q167_58, q167_60, q167_61, q167_64, q167_65, q167_68, q167_69, q167_70, q167_71, q167_72, q167_75, q167_76, q167_77, q167_78, q167_79, q167_80, q167_81, q167_82, q167_83, q167_84, q167_85, q167_86, q167_89, q167_90, q167_91, q167_93, q167_96, q167_99, q167_100, q167_101, q167_102, q167_105, q167_106, q167_107, q167_108, q167_111, q167_117, q167_120, q167_121, n10, n01, Bool.false_eq_true, ab_bs, ab_bn, ab_pr0, ab_pr1, nl_n, nl_i, nl_r, nl_j, nl_nl, rc_123, gf_123_0, gf_123_1, pt_123_1, gf_123_2, pt_123_2, gf_123_3, pt_123_3, gf_123_4, pt_123_4, gf_123_5, pt_123_5, gf_123_6, pt_123_6, gf_123_7, pt_123_7, gf_123_8, pt_123_8, gf_123_9, gf_123_10, gf_123_11, gf_123_12, gf_123_13, pt_123_13_0, pt_123_13_1, gf_123_14, pt_123_14_0, pt_123_14_1, gf_123_15, gf_123_16, gf_123_17, gf_123_18, gf_123_19, gf_123_20, gf_123_21, gf_123_22, gf_123_23, gf_123_24, gf_123_25, pt_123_25, gf_123_26, gf_123_27, pt_123_27, gf_123_28, pt_123_28, gf_123_29, gf_123_30, pt_123_30, gf_123_31, pt_123_31, gf_123_32, pt_123_32, gf_123_33, pt_123_33, gf_123_34, pt_123_34_0, pt_123_34_1, gf_123_35, gf_123_36, gf_123_37, gf_123_38, pt_123_38, gf_123_39, pt_123_39, gf_123_40, pt_123_40, gf_123_41, gf_123_42, gf_123_43, gf_123_44, gf_123_45, gf_123_46, gf_123_47, pt_123_47, hf, h1, y33, hd, if_true]
      exact hc 0
    · simp only [q167_0, q167_1, q167_2, q167_5, q167_6, q167_7, q167_10, q167_11, q167_12, q167_15, q167_16, q167_17, q167_20, q167_21, q167_24, q167_27, q167_29, q167_32, q167_33, q167_34, q167_35, q167_37, q167_38, q167_41, q167_44, q167_45, q167_48, q167_49, q167_50, q167_51, q167_52, q167_54, q167_55, q167_58, q167_60, q167_61, q167_64, q167_65, q167_68, q167_69, q167_70, q167_71, q167_72, q167_75, q167_76, q167_77, q167_78, q167_79, q167_80, q167_81, q167_82, q167_83, q167_84, q167_85, q167_86, q167_89, q167_90, q167_91, q167_93, q167_96, q167_99, q167_100, q167_101, q167_102, q167_105, q167_106, q167_107, q167_108, q167_111, q167_117, q167_120, q167_121, n10, n01, Bool.false_eq_true, ab_bs, ab_bn, ab_pr0, ab_pr1, nl_n, nl_i, nl_r, nl_j, nl_nl, rc_123, gf_123_0, gf_123_1, pt_123_1, gf_123_2, pt_123_2, gf_123_3, pt_123_3, gf_123_4, pt_123_4, gf_123_5, pt_123_5, gf_123_6, pt_123_6, gf_123_7, pt_123_7, gf_123_8, pt_123_8, gf_123_9, gf_123_10, gf_123_11, gf_123_12, gf_123_13, pt_123_13_0, pt_123_13_1, gf_123_14, pt_123_14_0, pt_123_14_1, gf_123_15, gf_123_16, gf_123_17, gf_123_18, gf_123_19, gf_123_20, gf_123_21, gf_123_22, gf_123_23, gf_123_24, gf_123_25, pt_123_25, gf_123_26, gf_123_27, pt_123_27, gf_123_28, pt_123_28, gf_123_29, gf_123_30, pt_123_30, gf_123_31, pt_123_31, gf_123_32, pt_123_32, gf_123_33, pt_123_33, gf_123_34, pt_123_34_0, pt_123_34_1, gf_123_35, gf_123_36, gf_123_37, gf_123_38, pt_123_38, gf_123_39, pt_123_39, gf_123_40, pt_123_40, gf_123_41, gf_123_42, gf_123_43, gf_123_44, gf_123_45, gf_123_46, gf_123_47, pt_123_47, hf, h1, y33, hd, if_false]
      exact hc (-4)
  · rw [z _ _ (by decide), y3 _ (by decide), a4]
  · intro r k hr hk
    rw [z _ _ (by decide), y _ _ (by decide)]
    exact hq r k hr hk
  · rw [hic] at hr
    have e : caL n i (ab_up N' 123 34 0) 141 r = cdV (ab_up N' 123 34 0) (S (41 + r) 4) n := by
      unfold caL
      rw [if_pos ⟨rfl, hr⟩, y _ _ (by decide), hq r 4 (by rw [hic]; exact hr) (by decide)]
    rw [e]
    obtain ⟨c1, c2⟩ := cd_np (N := ab_up N' 123 34 0) (S := S) hn (hi3 r hr) (fun p hp => by rw [y _ _ (by decide), g4 6 (by decide) p hp])
    exact ⟨c1, c2⟩
  · refine AX_trans hX ⟨fun c j q => ?_, fun j a b d => ?_, fun j q => ?_, Or.inl ⟨?_, ?_⟩⟩
    · rw [z _ _ (by omega), y _ _ (by omega)]
    · rw [z _ _ (by decide), y3 _ (by omega)]
    · rw [z _ _ (by decide), y _ _ (by decide)]
    · rw [z _ _ (by decide), y3 _ (by decide)]
    · rw [z _ _ (by decide), y _ _ (by decide)]
  · intro w hw p hp
    rw [z _ _ (by decide), y _ _ (by decide)]
    exact g4 w hw p hp
  · rw [z _ _ (by decide), y _ _ (by decide), g1]
  · obtain ⟨p1', -, -, -, -, p6', -⟩ := hP p hp
    exact ⟨by rw [z _ _ (by decide), y _ _ (by decide), p6'], by rw [z _ _ (by decide), y _ _ (by decide), p1']⟩
theorem sp_free {scr : Option (List Int32)} {n t : Nat} {K : Int} {M M1 : ab_M} (h : CR n t K M) (hF : FA M M1) : ∃ N' : ab_M, ab_ms scr 167 [.ref 123] M1 = some (N', some (.int (if frC n M 30 6 ≤ 0 then 0 else -4))) ∧ N' 123 30 = frC n M 30 3 ∧ RQ N' (frC n M) ∧ (∀ r, r < (frC n M 30 3).toNatClampNeg → N' 141 r = npV n (frC n M) (frC n M (41 + r) 4) ∧ mk n (npV n (frC n M) (frC n M (41 + r) 4))) ∧ AX M N' ∧ (∀ w, w < 9 → ∀ p, p < n → N' 127 (9 * p + w) = frC n M (18 + w) p) ∧ N' 127 72 = nI n ∧ ∀ p, p < n → N' 138 p = frC n M (33 + p) 0 ∧ N' 132 p = frC n M (33 + p) 1 := by
  obtain ⟨N', a, b, c, d, e, f⟩ := sp_freeW (scr := scr) h (PW_of h.2.1 (fun _ _ _ => rfl) (fun j => hF _ _ (by decide)) (hF _ _ (by decide))) (hF 16 4 (by decide))
  exact ⟨N', a, b, c, d, AX_trans (AX_FA hF) e, f⟩
theorem dv8 : ∀ k, k < 9 → 0 < k → (840 / nI k).toInt64 = lN (840 / k) ∧ (nI k - 1).toInt64 = lN (k - 1) ∧ (705600 / (nI k * nI k)).toInt64 = lN (705600 / (k * k)) ∧ nI k ≠ 0 ∧ nI k * nI k ≠ 0 := by decide +kernel
theorem sq8 : ∀ k, k < 9 → 0 < k → (840 / k) * (840 - 840 / k) = (k - 1) * (705600 / (k * k)) := by decide +kernel
/-- what is at stake in a round: its price, and how many could have paid it -/
def cN (S : ab_M) (r : Nat) : Nat := (S (41 + r) 2).toNatClampNeg
def kN (n : Nat) (S : ab_M) (r : Nat) : Nat := (bn (npV n S (S (41 + r) 4))).toNatClampNeg
def sN (n : Nat) (S : ab_M) (p r : Nat) : Nat := if tb (npV n S (S (41 + r) 4)) p = true then cN S r * (840 / kN n S r) else 0
def vN (n : Nat) (S : ab_M) (p r : Nat) : Nat := if tb (npV n S (S (41 + r) 4)) p = true then cN S r * cN S r * (kN n S r - 1) * (705600 / (kN n S r * kN n S r)) else 0
theorem kN_ok {n : Nat} {S : ab_M} {p r : Nat} (hn : n ≤ 8) (hp : p < 8) (hm : mk n (npV n S (S (41 + r) 4))) (ht : tb (npV n S (S (41 + r) 4)) p = true) : bn (npV n S (S (41 + r) 4)) = nI (kN n S r) ∧ 0 < kN n S r ∧ kN n S r < 9 := by
  unfold kN
  generalize npV n S (S (41 + r) 4) = w at *
  obtain ⟨j, hj, rfl⟩ := mk_nI hn hm
  have h0 : nI j ≠ 0 := by
    intro e
    rw [e] at ht
    simp [tb] at ht
  obtain ⟨k, k1, k2, k3⟩ := bn_at j hj h0
  rw [k3, nI_clamp (by omega)]
  exact ⟨rfl, k2, k1⟩
theorem sv_eq {n : Nat} {S : ab_M} {p r : Nat} (hn : n ≤ 8) (hp : p < 8) (hm : mk n (npV n S (S (41 + r) 4))) : sN n S p r * (cN S r * 840 - sN n S p r) = vN n S p r ∧ sN n S p r ≤ cN S r * 840 := by
  unfold sN vN
  by_cases ht : tb (npV n S (S (41 + r) 4)) p = true
  · obtain ⟨-, h1, h2⟩ := kN_ok hn hp hm ht
    rw [if_pos ht, if_pos ht]
    have e := sq8 _ h2 h1
    generalize kN n S r = k at *
    have hle : 840 / k ≤ 840 := Nat.div_le_self _ _
    refine ⟨?_, Nat.mul_le_mul_left _ hle⟩
    rw [← Nat.mul_sub, Nat.mul_mul_mul_comm, e, Nat.mul_assoc, Nat.mul_assoc, Nat.mul_assoc]
  · rw [if_neg ht, if_neg ht]
    exact ⟨by simp, Nat.zero_le _⟩
theorem sp_share {scr : Option (List Int32)} {n t : Nat} {S : ab_M} (hC : CI n t S) {p r : Nat} (hp : p < 8) (hr : r < 40) (hm : mk n (npV n S (S (41 + r) 4))) (hc : S (41 + r) 2 = nI (cN S r)) (hc9 : cN S r ≤ 792) : ab_ms scr 116 [.ref 0, .ref (41 + r), .int (nI p)] S = some (S, some (.long (lN (sN n S p r)))) := by
  have hn := hC.1
  have x1 : ab_ms scr 45 [.ref 16, .int (S (41 + r) 4)] S = some (S, some (.int (npV n S (S (41 + r) 4)))) := sp_notPoor S _ n hn hC.2.1
  have x2 := sp_bits2 (scr := scr) S hn hm
  have x3 := sp_among (scr := scr) S p (npV n S (S (41 + r) 4)) hp
  rw [ms116]
  unfold sN
  by_cases ht : tb (npV n S (S (41 + r) 4)) p = true
  · obtain ⟨k1, k2, k3⟩ := kN_ok hn hp hm ht
    obtain ⟨d1, -, -, d4, -⟩ := dv8 _ k3 k2
    rw [if_pos ht] at x3 ⊢
    rw [k1] at x2
    generalize npV n S (S (41 + r) 4) = w at *
    simp only [q116_0, q116_1, q116_4, q116_5, q116_8, q116_11, q116_12, q116_13, q116_16, q116_18, q116_20, q116_23, q116_24, q116_25, q116_28, q116_31, q116_32, q116_33, q116_34, q116_37, q116_38, q116_41, q116_43, q116_44, q116_45, q116_46, n10, n01, Bool.false_eq_true, ab_bs, ab_bn, ab_pr0, ab_pr1, nl_n, nl_i, nl_r, nl_j, nl_nl, rc_0, gf_0_0, gf_0_1, gf_0_2, gf_0_3, gf_0_4, gf_0_5, gf_0_6, gf_0_7, gf_0_8, gf_0_9, pt_0_9, rc_16, gf_16_0, gf_16_1, gf_16_2, gf_16_3, pt_16_3, gf_16_4, pt_16_4, gf_16_5, pt_16_5, gf_round hr (show 4 < 5 by decide), gf_round hr (show 2 < 5 by decide), x1, x2, x3, d4, if_false, if_true, not_false_eq_true, hc, nI_l (show cN S r < 2 ^ 31 by omega), d1, lN_mul]
  · rw [if_neg ht] at x3 ⊢
    generalize npV n S (S (41 + r) 4) = w at *
    by_cases hk : bn w = 0
    · simp only [q116_0, q116_1, q116_4, q116_5, q116_8, q116_11, q116_12, q116_13, q116_16, q116_18, q116_20, q116_23, q116_24, q116_25, q116_28, q116_31, q116_32, q116_33, q116_34, q116_37, q116_38, q116_41, q116_43, q116_44, q116_45, q116_46, n10, n01, Bool.false_eq_true, ab_bs, ab_bn, ab_pr0, ab_pr1, nl_n, nl_i, nl_r, nl_j, nl_nl, rc_0, gf_0_0, gf_0_1, gf_0_2, gf_0_3, gf_0_4, gf_0_5, gf_0_6, gf_0_7, gf_0_8, gf_0_9, pt_0_9, rc_16, gf_16_0, gf_16_1, gf_16_2, gf_16_3, pt_16_3, gf_16_4, pt_16_4, gf_16_5, pt_16_5, gf_round hr (show 4 < 5 by decide), gf_round hr (show 2 < 5 by decide), x1, x2, hk, if_false, if_true]
      rfl
    · simp only [q116_0, q116_1, q116_4, q116_5, q116_8, q116_11, q116_12, q116_13, q116_16, q116_18, q116_20, q116_23, q116_24, q116_25, q116_28, q116_31, q116_32, q116_33, q116_34, q116_37, q116_38, q116_41, q116_43, q116_44, q116_45, q116_46, n10, n01, Bool.false_eq_true, ab_bs, ab_bn, ab_pr0, ab_pr1, nl_n, nl_i, nl_r, nl_j, nl_nl, rc_0, gf_0_0, gf_0_1, gf_0_2, gf_0_3, gf_0_4, gf_0_5, gf_0_6, gf_0_7, gf_0_8, gf_0_9, pt_0_9, rc_16, gf_16_0, gf_16_1, gf_16_2, gf_16_3, pt_16_3, gf_16_4, pt_16_4, gf_16_5, pt_16_5, gf_round hr (show 4 < 5 by decide), gf_round hr (show 2 < 5 by decide), x1, x2, x3, hk, if_false, if_true, not_true]
      rfl
