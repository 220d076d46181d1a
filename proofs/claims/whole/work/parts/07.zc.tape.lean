/-! feed, end -/
theorem CR_tape {n t : Nat} {K : Int} {M M' : ab_M} (h : CR n t K M) (hx : ∀ c j, ¬ (1 ≤ c ∧ c ≤ 15) → c ≠ 124 → c ≠ 128 → ¬ (c = 123 ∧ ((1 ≤ j ∧ j ≤ 8) ∨ j = 13)) → M' c j = M c j) (h5 : tpR M') (h7 : M' 3 2 = M' 123 2) : CR n t K M' := by
  obtain ⟨h1, h2, h3, h4, -, h6, -, h8⟩ := h
  have y : ∀ c j, 16 ≤ c → c ≠ 123 → c ≠ 124 → c ≠ 128 → M' c j = M c j := fun c j a b d e => hx c j (by omega) d e (by omega)
  have y14 : M' 123 14 = M 123 14 := hx _ _ (by decide) (by decide) (by decide) (by decide)
  have hn := h1.1
  have ht := h1.2.1
  refine ⟨pgV_of h1 (fun j => y _ _ (by decide) (by decide) (by decide) (by decide)) (fun w j hw => y _ _ (by omega) (by omega) (by omega) (by omega)), ?_, fun k hk => ?_, fun k hk => ?_, h5, ?_, h7, ?_⟩
  · obtain ⟨a, b, c, d, e⟩ := h2
    have z : ∀ j, M' 127 j = M 127 j := fun j => y _ _ (by decide) (by decide) (by decide) (by decide)
    exact ⟨by rw [z, a], by rw [z, y14, y _ _ (by decide) (by decide) (by decide) (by decide)]; exact b, by rw [z, c], fun w hw p hp => by rw [z, y _ _ (by omega) (by omega) (by omega) (by omega)]; exact d w hw p hp, fun i hi => by rw [z, y _ _ (by decide) (by decide) (by decide) (by decide)]; exact e i hi⟩
  · rcases h3 k hk with ⟨a, b⟩ | ⟨a, b, c, n', t', d, e, f⟩
    · exact Or.inl ⟨by rw [y _ _ (by omega) (by omega) (by omega) (by omega), a], by rw [y _ _ (by decide) (by decide) (by decide) (by decide), b]⟩
    · exact Or.inr ⟨by rw [y _ _ (by omega) (by omega) (by omega) (by omega), a], by rw [y _ _ (by decide) (by decide) (by decide) (by decide), b], by rw [y14]; exact c, n', t', pgV_of d (fun j => y _ _ (by omega) (by omega) (by omega) (by omega)) (fun w j hw => y _ _ (by omega) (by omega) (by omega) (by omega)), pgR_of e d.1 d.2.1 (fun w j hw => y _ _ (by omega) (by omega) (by omega) (by omega)) (fun j hj _ => y _ _ (by decide) (by decide) (by decide) (by decide)), by rw [y 127 _ (by decide) (by decide) (by decide) (by decide), y _ _ (by omega) (by omega) (by omega) (by omega), f]⟩
  · rcases h4 k hk with ⟨a, b⟩ | ⟨s, l, a, b, c, d, e, f, g⟩
    · exact Or.inl ⟨by rw [y _ _ (by omega) (by omega) (by omega) (by omega), a], by rw [y _ _ (by omega) (by omega) (by omega) (by omega), b]⟩
    · exact Or.inr ⟨s, l, a, b, by rw [y _ _ (by omega) (by omega) (by omega) (by omega), c], by rw [y _ _ (by omega) (by omega) (by omega) (by omega), d], by rw [y _ _ (by omega) (by omega) (by omega) (by omega), e], by rw [y _ _ (by omega) (by omega) (by omega) (by omega), f], fun i hi => by rw [y _ _ (by omega) (by omega) (by omega) (by omega), y _ _ (by omega) (by omega) (by omega) (by omega)]; exact g i hi⟩
  · intro q hq hq2
    rw [y _ _ (by omega) (by omega) (by omega) (by omega)]
    exact h6 q hq hq2
  · rw [hx 0 9 (by decide) (by decide) (by decide) (by decide), hx 123 47 (by decide) (by decide) (by decide) (by decide), h8]
theorem i8_and (y : Int32) : y.toInt8.toInt32 &&& 255 = y &&& 255 := by
  apply Int32.toBitVec_inj.mp
  rw [Int32.toBitVec_and, Int32.toBitVec_and]
  apply BitVec.eq_of_getLsbD_eq
  intro i hi
  rw [BitVec.getLsbD_and, BitVec.getLsbD_and]
  by_cases h : i < 8
  · congr 1
    show ((y.toBitVec.signExtend 8).signExtend 32).getLsbD i = _
    rw [BitVec.getLsbD_signExtend, BitVec.getLsbD_signExtend]
    simp only [h, hi, decide_true, Bool.true_and, if_true]
  · have e3 : (255 : Int32).toBitVec.getLsbD i = false := by
      have : ∀ i, i < 32 → ¬ i < 8 → (255 : Int32).toBitVec.getLsbD i = false := by decide
      exact this i hi h
    rw [e3, Bool.and_false, Bool.and_false]
theorem by8 {y1 y2 : Int32} (h : y1 &&& 255 = y2 &&& 255) : ∃ b, b < 256 ∧ y1.toInt8.toInt32 = sb_b b ∧ y2 &&& 255 = nI b := by
  have e : y1 &&& 255 = nI (y1.toBitVec.toNat % 2 ^ 8) := pk_and y1 8 (by decide)
  refine ⟨y1.toBitVec.toNat % 2 ^ 8, Nat.mod_lt _ (by decide), ?_, by rw [← h, e]⟩
  exact (sc_eq (b := y1.toInt8.toInt32) (by simp) (Nat.mod_lt _ (by decide))).mpr (by rw [i8_and, e])
def shv (k : Nat) : Int32 := 56 - nI (8 * k)
theorem sh_lo (v : Int64) (k : Nat) (hk : k < 8) : ((v.toUInt64 >>> ((shv k).toInt64.toUInt64 &&& Int64.toUInt64 63)).toInt64).toInt32 &&& 255 = (v >>> ((shv k).toInt64 &&& 63)).toInt32 &&& 255 := by
  have e1 : BitVec.smod ((shv k).toInt64 &&& 63).toBitVec 64 = BitVec.ofNat 64 (56 - 8 * k) := by
    have : ∀ k, k < 8 → BitVec.smod ((shv k).toInt64 &&& 63).toBitVec 64 = BitVec.ofNat 64 (56 - 8 * k) := by decide +kernel
    exact this k hk
  have e2 : ((shv k).toInt64.toUInt64 &&& Int64.toUInt64 63).toBitVec % 64 = BitVec.ofNat 64 (56 - 8 * k) := by
    have : ∀ k, k < 8 → ((shv k).toInt64.toUInt64 &&& Int64.toUInt64 63).toBitVec % 64 = BitVec.ofNat 64 (56 - 8 * k) := by decide +kernel
    exact this k hk
  apply Int32.toBitVec_inj.mp
  rw [Int32.toBitVec_and, Int32.toBitVec_and]
  apply BitVec.eq_of_getLsbD_eq
  intro i hi
  rw [BitVec.getLsbD_and, BitVec.getLsbD_and]
  by_cases h : i < 8
  · congr 1
    show (((v.toUInt64 >>> ((shv k).toInt64.toUInt64 &&& Int64.toUInt64 63)).toBitVec).signExtend 32).getLsbD i = (((v >>> ((shv k).toInt64 &&& 63)).toBitVec).signExtend 32).getLsbD i
    rw [UInt64.toBitVec_shiftRight, e2, Int64.toBitVec_shiftRight, e1]
    show ((v.toBitVec >>> BitVec.ofNat 64 (56 - 8 * k)).signExtend 32).getLsbD i = ((BitVec.sshiftRight' v.toBitVec (BitVec.ofNat 64 (56 - 8 * k))).signExtend 32).getLsbD i
    unfold BitVec.sshiftRight'
    rw [BitVec.getLsbD_signExtend, BitVec.getLsbD_signExtend]
    have h3 : (BitVec.ofNat 64 (56 - 8 * k)).toNat = 56 - 8 * k := by
      rw [BitVec.toNat_ofNat, Nat.mod_eq_of_lt (by omega)]
    simp only [show i < 64 by omega, if_true, hi, decide_true, Bool.true_and, BitVec.getLsbD_sshiftRight, h3, BitVec.getLsbD_ushiftRight, BitVec.ushiftRight_eq', show ¬ (64 ≤ i) by omega, decide_false, Bool.not_false, show 56 - 8 * k + i < 64 by omega]
  · have e3 : (255 : Int32).toBitVec.getLsbD i = false := by
      have : ∀ i, i < 32 → ¬ i < 8 → (255 : Int32).toBitVec.getLsbD i = false := by decide
      exact this i hi h
    rw [e3, Bool.and_false, Bool.and_false]
def cb (v : Int64) (k : Nat) : Int32 := ((v.toUInt64 >>> ((shv k).toInt64.toUInt64 &&& Int64.toUInt64 63)).toInt64).toInt32.toInt8.toInt32
def rb (v : Int64) (k : Nat) : Int32 := (v >>> ((shv k).toInt64 &&& 63)).toInt32 &&& 255
theorem cb_rb (v : Int64) (k : Nat) (hk : k < 8) : ∃ b, b < 256 ∧ cb v k = sb_b b ∧ rb v k = nI b := by8 (sh_lo v k hk)
theorem shv_neg : ∀ k, k < 8 → ¬ shv k < 0 := by decide +kernel
theorem shv_s : ∀ k, k < 8 → shv k + -8 = shv (k + 1) := by decide +kernel
theorem bst2 {i : Int32} (h : ab_inB i 320 = true) : (FieldType.byte = .byte ∧ ab_si 2 .byte i = true) ∨ (FieldType.byte = .boolean ∧ ab_ar ab_L0 2 .byte = none ∧ ab_si 2 .boolean i = true) := Or.inl ⟨rfl, by rw [bs_2, h]⟩
def fdP (v : Int64) (L k : Nat) (M N : ab_M) : Prop := N 1 1 = nI (L + k) ∧ (∀ i, i < k → N 2 (L + i) = cb v i) ∧ ∀ c j, ¬ (c = 1 ∧ j = 1) → ¬ (c = 2 ∧ L ≤ j ∧ j < L + k) → N c j = M c j
theorem fd_cls {scr : Option (List Int32)} (M : ab_M) (L : Nat) (hL : L ≤ 312) (hM : M 1 1 = nI L) (v : Int64) : ∃ N, ab_ms scr 71 [.ref 1, .long v] M = some (N, some (.int 1)) ∧ fdP v L 8 M N := by
  have hx := rx (fun k (N : ab_M) => ab_res scr 71 1 N 15 [some (.ref 1), some (.long v), none, some (.int (shv k))] []) (fdP v L · M ·) 8 M ⟨by rw [hM]; rfl, fun i hi => absurd hi (by omega), fun _ _ _ _ => rfl⟩ (fun k N hk hN => ?_)
  · obtain ⟨N, e, h⟩ := hx
    refine ⟨N, ?_, h⟩
    have h1 : nI L ≤ 312 := nI_le (b := 312) hL (by decide)
    rw [ms71]
    simp only [q71_0, q71_1, q71_4, q71_7, q71_10, q71_11, q71_12, q71_14, q71_16, q71_19, q71_20, q71_23, q71_24, q71_27, q71_28, q71_29, q71_30, q71_31, q71_33, q71_34, q71_35, q71_38, q71_39, q71_40, q71_43, q71_46, q71_49, q71_50, n10, n01, Bool.false_eq_true, ab_bs, ab_bn, ab_pr0, ab_pr1, nl_n, nl_i, nl_r, nl_j, nl_nl, rc_1, gf_1_0, gf_1_1, pt_1_1, gf_1_2, pt_1_2, gf_1_3, pt_1_3, gf_1_4, pt_1_4, gf_1_5, pt_1_5, hM, h1, if_true]
    refine Eq.trans e ?_
    show ab_res scr 71 1 N 15 _ [] = _
    rw [q71_15]
    simp only [q71_0, q71_1, q71_4, q71_7, q71_10, q71_11, q71_12, q71_14, q71_16, q71_19, q71_20, q71_23, q71_24, q71_27, q71_28, q71_29, q71_30, q71_31, q71_33, q71_34, q71_35, q71_38, q71_39, q71_40, q71_43, q71_46, q71_49, q71_50, n10, n01, Bool.false_eq_true, ab_bs, ab_bn, ab_pr0, ab_pr1, nl_n, nl_i, nl_r, nl_j, nl_nl, (show shv 8 < 0 by decide), if_true, narrow_b1]
  · obtain ⟨n1, n2, n3⟩ := hN
    have hin : ab_inB (nI (L + k)) 320 = true := ib_nI (by omega) (by decide)
    have hc : (nI (L + k)).toNatClampNeg = L + k := nI_clamp (by omega)
    refine ⟨ab_up (ab_up N 2 (L + k) (cb v k)) 1 1 (nI (L + (k + 1))), ?_, ?_, fun i hi => ?_, fun c j x y => ?_⟩
    · show ab_res scr 71 1 N 15 _ [] = _
      rw [q71_15]
      simp only [q71_0, q71_1, q71_4, q71_7, q71_10, q71_11, q71_12, q71_14, q71_16, q71_19, q71_20, q71_23, q71_24, q71_27, q71_28, q71_29, q71_30, q71_31, q71_33, q71_34, q71_35, q71_38, q71_39, q71_40, q71_43, q71_46, q71_49, q71_50, n10, n01, Bool.false_eq_true, ab_bs, ab_bn, ab_pr0, ab_pr1, nl_n, nl_i, nl_r, nl_j, nl_nl, rc_1, gf_1_0, gf_1_1, pt_1_1, gf_1_2, pt_1_2, gf_1_3, pt_1_3, gf_1_4, pt_1_4, gf_1_5, pt_1_5, shv_neg k hk, if_false, n1]
      rw [q71_32 (ty := .byte) (bst2 hin)]
      simp only [q71_0, q71_1, q71_4, q71_7, q71_10, q71_11, q71_12, q71_14, q71_16, q71_19, q71_20, q71_23, q71_24, q71_27, q71_28, q71_29, q71_30, q71_31, q71_33, q71_34, q71_35, q71_38, q71_39, q71_40, q71_43, q71_46, q71_49, q71_50, n10, n01, Bool.false_eq_true, ab_bs, ab_bn, ab_pr0, ab_pr1, nl_n, nl_i, nl_r, nl_j, nl_nl, rc_1, gf_1_0, gf_1_1, pt_1_1, gf_1_2, pt_1_2, gf_1_3, pt_1_3, gf_1_4, pt_1_4, gf_1_5, pt_1_5, hc, vp_nar_byte, up_n (show 1 ≠ 2 by decide), n1, a1, shv_s k hk]
      have e9 : ((v.toUInt64 >>> ((shv k).toInt64.toUInt64 &&& Int64.toUInt64 63)).toInt64).toInt32.toInt8.toInt32.toInt8.toInt32 = cb v k := by
        unfold cb
        simp
      rw [e9]
      rfl
    · rw [up_s]
    · rw [up_n (by decide)]
      by_cases e : i = k
      · subst e
        rw [up_s]
      · rw [up_o _ _ _ _ _ _ (by omega)]
        exact n2 i (by omega)
    · rw [up_o _ _ _ _ _ _ x, up_o _ _ _ _ _ _ (by omega)]
      exact n3 c j x (by omega)
def fdQ (v : Int64) (L k : Nat) (M N : ab_M) : Prop := N 123 1 = nI (L + k) ∧ (∀ i, i < k → N 124 (L + i) = rb v i) ∧ ∀ c j, ¬ (c = 123 ∧ j = 1) → ¬ (c = 124 ∧ L ≤ j ∧ j < L + k) → N c j = M c j
theorem fd_ref {scr : Option (List Int32)} (M : ab_M) (L : Nat) (hL : L ≤ 312) (hM : M 123 1 = nI L) (v : Int64) : ∃ N, ab_ms scr 122 [.ref 123, .long v] M = some (N, some (.int (nI (L + 8)))) ∧ fdQ v L 8 M N := by
  have hx := rx (fun k (N : ab_M) => ab_res scr 122 1 N 19 [some (.ref 123), some (.long v), none, some (.int (shv k))] []) (fdQ v L · M ·) 8 M ⟨by rw [hM]; rfl, fun i hi => absurd hi (by omega), fun _ _ _ _ => rfl⟩ (fun k N hk hN => ?_)
  · obtain ⟨N, e, h⟩ := hx
    refine ⟨N, ?_, h⟩
    have h1 : nI (L + 8) ≤ 320 := nI_le (b := 320) (by omega) (by decide)
    rw [ms122]
    simp only [q122_0, q122_1, q122_4, q122_6, q122_7, q122_10, q122_13, q122_15, q122_16, q122_18, q122_20, q122_23, q122_24, q122_27, q122_28, q122_31, q122_32, q122_33, q122_34, q122_35, q122_38, q122_39, q122_40, q122_41, q122_42, q122_45, q122_46, q122_47, q122_50, q122_53, q122_56, q122_57, q122_60, n10, n01, Bool.false_eq_true, ab_bs, ab_bn, ab_pr0, ab_pr1, nl_n, nl_i, nl_r, nl_j, nl_nl, rc_123, gf_123_0, gf_123_1, pt_123_1, gf_123_2, pt_123_2, gf_123_3, pt_123_3, gf_123_4, pt_123_4, gf_123_5, pt_123_5, gf_123_6, pt_123_6, gf_123_7, pt_123_7, gf_123_8, pt_123_8, gf_123_9, gf_123_10, gf_123_11, gf_123_12, gf_123_13, pt_123_13_0, pt_123_13_1, gf_123_14, pt_123_14_0, pt_123_14_1, gf_123_15, gf_123_16, gf_123_17, gf_123_18, gf_123_19, gf_123_20, gf_123_21, gf_123_22, gf_123_23, gf_123_24, gf_123_25, pt_123_25, gf_123_26, gf_123_27, pt_123_27, gf_123_28, pt_123_28, gf_123_29, gf_123_30, pt_123_30, gf_123_31, pt_123_31, gf_123_32, pt_123_32, gf_123_33, pt_123_33, gf_123_34, pt_123_34_0, pt_123_34_1, gf_123_35, gf_123_36, gf_123_37, gf_123_38, pt_123_38, gf_123_39, pt_123_39, gf_123_40, pt_123_40, gf_123_41, gf_123_42, gf_123_43, gf_123_44, gf_123_45, gf_123_46, gf_123_47, pt_123_47, hM, (show nI L + 8 = nI (L + 8) from nI_add L 8), h1, if_true]
    refine Eq.trans e ?_
    show ab_res scr 122 1 N 19 _ [] = _
    rw [q122_19]
    simp only [q122_0, q122_1, q122_4, q122_6, q122_7, q122_10, q122_13, q122_15, q122_16, q122_18, q122_20, q122_23, q122_24, q122_27, q122_28, q122_31, q122_32, q122_33, q122_34, q122_35, q122_38, q122_39, q122_40, q122_41, q122_42, q122_45, q122_46, q122_47, q122_50, q122_53, q122_56, q122_57, q122_60, n10, n01, Bool.false_eq_true, ab_bs, ab_bn, ab_pr0, ab_pr1, nl_n, nl_i, nl_r, nl_j, nl_nl, rc_123, gf_123_0, gf_123_1, pt_123_1, gf_123_2, pt_123_2, gf_123_3, pt_123_3, gf_123_4, pt_123_4, gf_123_5, pt_123_5, gf_123_6, pt_123_6, gf_123_7, pt_123_7, gf_123_8, pt_123_8, gf_123_9, gf_123_10, gf_123_11, gf_123_12, gf_123_13, pt_123_13_0, pt_123_13_1, gf_123_14, pt_123_14_0, pt_123_14_1, gf_123_15, gf_123_16, gf_123_17, gf_123_18, gf_123_19, gf_123_20, gf_123_21, gf_123_22, gf_123_23, gf_123_24, gf_123_25, pt_123_25, gf_123_26, gf_123_27, pt_123_27, gf_123_28, pt_123_28, gf_123_29, gf_123_30, pt_123_30, gf_123_31, pt_123_31, gf_123_32, pt_123_32, gf_123_33, pt_123_33, gf_123_34, pt_123_34_0, pt_123_34_1, gf_123_35, gf_123_36, gf_123_37, gf_123_38, pt_123_38, gf_123_39, pt_123_39, gf_123_40, pt_123_40, gf_123_41, gf_123_42, gf_123_43, gf_123_44, gf_123_45, gf_123_46, gf_123_47, pt_123_47, (show shv 8 < 0 by decide), if_true, h.1]
  · obtain ⟨n1, n2, n3⟩ := hN
    have hin : ab_si 124 .int (nI (L + k)) = true := by rw [si_124]; exact ib_nI (by omega) (by decide)
    have hc : (nI (L + k)).toNatClampNeg = L + k := nI_clamp (by omega)
    refine ⟨ab_up (ab_up N 124 (L + k) (rb v k)) 123 1 (nI (L + (k + 1))), ?_, ?_, fun i hi => ?_, fun c j x y => ?_⟩
    · show ab_res scr 122 1 N 19 _ [] = _
      have e9 : (v >>> ((shv k).toInt64 &&& 63)).toInt32 &&& 255 = rb v k := rfl
      rw [q122_19]
      simp only [q122_0, q122_1, q122_4, q122_6, q122_7, q122_10, q122_13, q122_15, q122_16, q122_18, q122_20, q122_23, q122_24, q122_27, q122_28, q122_31, q122_32, q122_33, q122_34, q122_35, q122_38, q122_39, q122_40, q122_41, q122_42, q122_45, q122_46, q122_47, q122_50, q122_53, q122_56, q122_57, q122_60, n10, n01, Bool.false_eq_true, ab_bs, ab_bn, ab_pr0, ab_pr1, nl_n, nl_i, nl_r, nl_j, nl_nl, rc_123, gf_123_0, gf_123_1, pt_123_1, gf_123_2, pt_123_2, gf_123_3, pt_123_3, gf_123_4, pt_123_4, gf_123_5, pt_123_5, gf_123_6, pt_123_6, gf_123_7, pt_123_7, gf_123_8, pt_123_8, gf_123_9, gf_123_10, gf_123_11, gf_123_12, gf_123_13, pt_123_13_0, pt_123_13_1, gf_123_14, pt_123_14_0, pt_123_14_1, gf_123_15, gf_123_16, gf_123_17, gf_123_18, gf_123_19, gf_123_20, gf_123_21, gf_123_22, gf_123_23, gf_123_24, gf_123_25, pt_123_25, gf_123_26, gf_123_27, pt_123_27, gf_123_28, pt_123_28, gf_123_29, gf_123_30, pt_123_30, gf_123_31, pt_123_31, gf_123_32, pt_123_32, gf_123_33, pt_123_33, gf_123_34, pt_123_34_0, pt_123_34_1, gf_123_35, gf_123_36, gf_123_37, gf_123_38, pt_123_38, gf_123_39, pt_123_39, gf_123_40, pt_123_40, gf_123_41, gf_123_42, gf_123_43, gf_123_44, gf_123_45, gf_123_46, gf_123_47, pt_123_47, shv_neg k hk, if_false, n1, hin, if_true, hc, e9, up_n (show 123 ≠ 124 by decide), a1, shv_s k hk]
      rfl
    · rw [up_s]
    · rw [up_n (by decide)]
      by_cases e : i = k
      · subst e
        rw [up_s]
      · rw [up_o _ _ _ _ _ _ (by omega)]
        exact n2 i (by omega)
    · rw [up_o _ _ _ _ _ _ x, up_o _ _ _ _ _ _ (by omega)]
      exact n3 c j x (by omega)
section CT
variable {scr : Option (List Int32)} {n t : Nat} {K : Int} {M : ab_M}
theorem cl_feed (h : CR n t K M) (v : Int64) : cokI scr 79 122 [.long v] M (CRX K) := by
  obtain ⟨L, hL, h1, h2, h3⟩ := h.2.2.2.2.1
  by_cases hL2 : L ≤ 312
  · obtain ⟨W, e1, w1, w2, w3⟩ := fd_cls (scr := scr) M L hL2 h1 v
    obtain ⟨N, f1, n1, n2, n3⟩ := fd_ref (scr := scr) W L hL2 (by rw [w3 _ _ (by decide) (by omega), h2]) v
    refine ⟨W, nI (L + 8), N, ?_, f1, n, t, CR_tape h (fun c j a b d e => by rw [n3 c j (by omega) (by omega), w3 c j (by omega) (by omega)]) ⟨L + 8, by omega, by rw [n3 _ _ (by decide) (by omega), w1], n1, fun i hi => ?_⟩ (by rw [n3 _ _ (by decide) (by omega), w3 _ _ (by decide) (by omega), n3 _ _ (by decide) (by omega), w3 _ _ (by decide) (by omega)]; exact h.2.2.2.2.2.2.1)⟩
    · rw [ms79]
      simp only [q79_0, q79_1, q79_4, q79_5, q79_8, q79_11, q79_12, q79_15, q79_18, q79_21, q79_23, n10, n01, Bool.false_eq_true, ab_bs, ab_bn, ab_pr0, ab_pr1, nl_n, nl_i, nl_r, nl_j, nl_nl, rc_0, gf_0_0, gf_0_1, gf_0_2, gf_0_3, gf_0_4, gf_0_5, gf_0_6, gf_0_7, gf_0_8, gf_0_9, pt_0_9, rc_1, gf_1_0, gf_1_1, pt_1_1, gf_1_2, pt_1_2, gf_1_3, pt_1_3, gf_1_4, pt_1_4, gf_1_5, pt_1_5, e1, w1, if_false]
    · by_cases e : i < L
      · obtain ⟨b, b1, b2, b3⟩ := h3 i e
        exact ⟨b, b1, by rw [n3 _ _ (by omega) (by omega), w3 _ _ (by omega) (by omega), b2], by rw [n3 _ _ (by omega) (by omega), w3 _ _ (by omega) (by omega), b3]⟩
      · obtain ⟨k, rfl⟩ : ∃ k, i = L + k := ⟨i - L, by omega⟩
        obtain ⟨b, b1, b2, b3⟩ := cb_rb v k (by omega)
        exact ⟨b, b1, by rw [n3 _ _ (by omega) (by omega), w2 k (by omega), b2], by rw [n2 k (by omega), b3]⟩
  · have g1 : ¬ nI L ≤ 312 := nI_ge (a := 312) (by omega) (by omega)
    have g2 : ¬ nI (L + 8) ≤ 320 := nI_ge (a := 320) (by omega) (by omega)
    refine ⟨M, -3, M, ?_, ?_, n, t, h⟩
    · have e : ab_ms scr 71 [.ref 1, .long v] M = some (M, some (.int 0)) := by
        rw [ms71]
        simp only [q71_0, q71_1, q71_4, q71_7, q71_10, q71_11, q71_12, q71_14, q71_16, q71_19, q71_20, q71_23, q71_24, q71_27, q71_28, q71_29, q71_30, q71_31, q71_33, q71_34, q71_35, q71_38, q71_39, q71_40, q71_43, q71_46, q71_49, q71_50, n10, n01, Bool.false_eq_true, ab_bs, ab_bn, ab_pr0, ab_pr1, nl_n, nl_i, nl_r, nl_j, nl_nl, rc_1, gf_1_0, gf_1_1, pt_1_1, gf_1_2, pt_1_2, gf_1_3, pt_1_3, gf_1_4, pt_1_4, gf_1_5, pt_1_5, h1, g1, if_false, narrow_b0]
      rw [ms79]
      simp only [q79_0, q79_1, q79_4, q79_5, q79_8, q79_11, q79_12, q79_15, q79_18, q79_21, q79_23, n10, n01, Bool.false_eq_true, ab_bs, ab_bn, ab_pr0, ab_pr1, nl_n, nl_i, nl_r, nl_j, nl_nl, rc_0, gf_0_0, gf_0_1, gf_0_2, gf_0_3, gf_0_4, gf_0_5, gf_0_6, gf_0_7, gf_0_8, gf_0_9, pt_0_9, rc_1, gf_1_0, gf_1_1, pt_1_1, gf_1_2, pt_1_2, gf_1_3, pt_1_3, gf_1_4, pt_1_4, gf_1_5, pt_1_5, e, if_true]
    · rw [ms122]
      simp only [q122_0, q122_1, q122_4, q122_6, q122_7, q122_10, q122_13, q122_15, q122_16, q122_18, q122_20, q122_23, q122_24, q122_27, q122_28, q122_31, q122_32, q122_33, q122_34, q122_35, q122_38, q122_39, q122_40, q122_41, q122_42, q122_45, q122_46, q122_47, q122_50, q122_53, q122_56, q122_57, q122_60, n10, n01, Bool.false_eq_true, ab_bs, ab_bn, ab_pr0, ab_pr1, nl_n, nl_i, nl_r, nl_j, nl_nl, rc_123, gf_123_0, gf_123_1, pt_123_1, gf_123_2, pt_123_2, gf_123_3, pt_123_3, gf_123_4, pt_123_4, gf_123_5, pt_123_5, gf_123_6, pt_123_6, gf_123_7, pt_123_7, gf_123_8, pt_123_8, gf_123_9, gf_123_10, gf_123_11, gf_123_12, gf_123_13, pt_123_13_0, pt_123_13_1, gf_123_14, pt_123_14_0, pt_123_14_1, gf_123_15, gf_123_16, gf_123_17, gf_123_18, gf_123_19, gf_123_20, gf_123_21, gf_123_22, gf_123_23, gf_123_24, gf_123_25, pt_123_25, gf_123_26, gf_123_27, pt_123_27, gf_123_28, pt_123_28, gf_123_29, gf_123_30, pt_123_30, gf_123_31, pt_123_31, gf_123_32, pt_123_32, gf_123_33, pt_123_33, gf_123_34, pt_123_34_0, pt_123_34_1, gf_123_35, gf_123_36, gf_123_37, gf_123_38, pt_123_38, gf_123_39, pt_123_39, gf_123_40, pt_123_40, gf_123_41, gf_123_42, gf_123_43, gf_123_44, gf_123_45, gf_123_46, gf_123_47, pt_123_47, h2, (show nI L + 8 = nI (L + 8) from nI_add L 8), g2, if_false]
theorem cl_end (h : CR n t K M) (x : Int32) : cokI scr 80 123 [.int x] M (CRX K) := by
  obtain ⟨L, hL, h1, h2, h3⟩ := h.2.2.2.2.1
  have hle : (x ≤ nI L) = (x < nI (L + 1)) := by
    apply propext
    rw [Int32.le_iff_toInt_le, Int32.lt_iff_toInt_lt, nI_toInt (by omega), nI_toInt (by omega)]
    omega
  by_cases hx : 0 ≤ x ∧ x < nI (L + 1)
  · obtain ⟨j, hj, rfl⟩ := rng (by omega) hx
    have hj2 : nI j ≤ nI L := nI_le (by omega) (by omega)
    have hng : ¬ nI j < 0 := Int32.not_lt.mpr hx.1
    have ecut : ab_ms scr 70 [.ref 1, .int (nI j)] M = some (ab_up M 1 1 (nI j), none) := by
      rw [ms70]
      simp only [q70_0, q70_1, q70_2, q70_5, n10, n01, Bool.false_eq_true, ab_bs, ab_bn, ab_pr0, ab_pr1, nl_n, nl_i, nl_r, nl_j, nl_nl, rc_1, gf_1_0, gf_1_1, pt_1_1, gf_1_2, pt_1_2, gf_1_3, pt_1_3, gf_1_4, pt_1_4, gf_1_5, pt_1_5]
    refine ⟨ab_up M 1 1 (nI j), nI L, ab_up (ab_up M 1 1 (nI j)) 123 1 (nI j), ?_, ?_, n, t, CR_tape h (fun c i a b d e => by rw [up_o _ _ _ _ _ _ (by omega), up_o _ _ _ _ _ _ (by omega)]) ⟨j, by omega, by rw [up_n (by decide), up_s], by rw [up_s], fun i hi => ?_⟩ (by rw [up_n (by decide), up_n (by decide), up_o _ _ _ _ _ _ (by decide), up_n (by decide)]; exact h.2.2.2.2.2.2.1)⟩
    · rw [ms80]
      simp only [q80_0, q80_1, q80_4, q80_5, q80_6, q80_9, q80_12, q80_15, q80_16, q80_17, q80_18, q80_21, q80_24, q80_25, q80_26, q80_29, q80_30, q80_33, q80_34, n10, n01, Bool.false_eq_true, ab_bs, ab_bn, ab_pr0, ab_pr1, nl_n, nl_i, nl_r, nl_j, nl_nl, rc_0, gf_0_0, gf_0_1, gf_0_2, gf_0_3, gf_0_4, gf_0_5, gf_0_6, gf_0_7, gf_0_8, gf_0_9, pt_0_9, rc_1, gf_1_0, gf_1_1, pt_1_1, gf_1_2, pt_1_2, gf_1_3, pt_1_3, gf_1_4, pt_1_4, gf_1_5, pt_1_5, h1, hng, if_false, hj2, if_true, ecut]
    · rw [ms123]
      simp only [q123_0, q123_1, q123_2, q123_3, q123_4, q123_7, q123_8, q123_11, q123_14, q123_15, q123_16, q123_17, q123_20, q123_21, q123_22, q123_23, q123_26, q123_27, n10, n01, Bool.false_eq_true, ab_bs, ab_bn, ab_pr0, ab_pr1, nl_n, nl_i, nl_r, nl_j, nl_nl, rc_123, gf_123_0, gf_123_1, pt_123_1, gf_123_2, pt_123_2, gf_123_3, pt_123_3, gf_123_4, pt_123_4, gf_123_5, pt_123_5, gf_123_6, pt_123_6, gf_123_7, pt_123_7, gf_123_8, pt_123_8, gf_123_9, gf_123_10, gf_123_11, gf_123_12, gf_123_13, pt_123_13_0, pt_123_13_1, gf_123_14, pt_123_14_0, pt_123_14_1, gf_123_15, gf_123_16, gf_123_17, gf_123_18, gf_123_19, gf_123_20, gf_123_21, gf_123_22, gf_123_23, gf_123_24, gf_123_25, pt_123_25, gf_123_26, gf_123_27, pt_123_27, gf_123_28, pt_123_28, gf_123_29, gf_123_30, pt_123_30, gf_123_31, pt_123_31, gf_123_32, pt_123_32, gf_123_33, pt_123_33, gf_123_34, pt_123_34_0, pt_123_34_1, gf_123_35, gf_123_36, gf_123_37, gf_123_38, pt_123_38, gf_123_39, pt_123_39, gf_123_40, pt_123_40, gf_123_41, gf_123_42, gf_123_43, gf_123_44, gf_123_45, gf_123_46, gf_123_47, pt_123_47, up_n (show 123 ≠ 1 by decide), h2, sp_in, k0, i64_le, hle, hx, and_self, if_true, not_false_eq_true]
    · obtain ⟨b, b1, b2, b3⟩ := h3 i (by omega)
      exact ⟨b, b1, by rw [up_n (by decide), up_n (by decide), b2], by rw [up_n (by decide), up_n (by decide), b3]⟩
  · refine ⟨M, -1, M, ?_, ?_, n, t, h⟩
    · by_cases hng : x < 0
      · rw [ms80]
        simp only [q80_0, q80_1, q80_4, q80_5, q80_6, q80_9, q80_12, q80_15, q80_16, q80_17, q80_18, q80_21, q80_24, q80_25, q80_26, q80_29, q80_30, q80_33, q80_34, n10, n01, Bool.false_eq_true, ab_bs, ab_bn, ab_pr0, ab_pr1, nl_n, nl_i, nl_r, nl_j, nl_nl, rc_0, gf_0_0, gf_0_1, gf_0_2, gf_0_3, gf_0_4, gf_0_5, gf_0_6, gf_0_7, gf_0_8, gf_0_9, pt_0_9, rc_1, gf_1_0, gf_1_1, pt_1_1, gf_1_2, pt_1_2, gf_1_3, pt_1_3, gf_1_4, pt_1_4, gf_1_5, pt_1_5, hng, if_true]
      · have : ¬ x ≤ nI L := fun q => hx ⟨Int32.not_lt.mp hng, by rw [← hle]; exact q⟩
        rw [ms80]
        simp only [q80_0, q80_1, q80_4, q80_5, q80_6, q80_9, q80_12, q80_15, q80_16, q80_17, q80_18, q80_21, q80_24, q80_25, q80_26, q80_29, q80_30, q80_33, q80_34, n10, n01, Bool.false_eq_true, ab_bs, ab_bn, ab_pr0, ab_pr1, nl_n, nl_i, nl_r, nl_j, nl_nl, rc_0, gf_0_0, gf_0_1, gf_0_2, gf_0_3, gf_0_4, gf_0_5, gf_0_6, gf_0_7, gf_0_8, gf_0_9, pt_0_9, rc_1, gf_1_0, gf_1_1, pt_1_1, gf_1_2, pt_1_2, gf_1_3, pt_1_3, gf_1_4, pt_1_4, gf_1_5, pt_1_5, h1, hng, this, if_false]
    · rw [ms123]
      simp only [q123_0, q123_1, q123_2, q123_3, q123_4, q123_7, q123_8, q123_11, q123_14, q123_15, q123_16, q123_17, q123_20, q123_21, q123_22, q123_23, q123_26, q123_27, n10, n01, Bool.false_eq_true, ab_bs, ab_bn, ab_pr0, ab_pr1, nl_n, nl_i, nl_r, nl_j, nl_nl, rc_123, gf_123_0, gf_123_1, pt_123_1, gf_123_2, pt_123_2, gf_123_3, pt_123_3, gf_123_4, pt_123_4, gf_123_5, pt_123_5, gf_123_6, pt_123_6, gf_123_7, pt_123_7, gf_123_8, pt_123_8, gf_123_9, gf_123_10, gf_123_11, gf_123_12, gf_123_13, pt_123_13_0, pt_123_13_1, gf_123_14, pt_123_14_0, pt_123_14_1, gf_123_15, gf_123_16, gf_123_17, gf_123_18, gf_123_19, gf_123_20, gf_123_21, gf_123_22, gf_123_23, gf_123_24, gf_123_25, pt_123_25, gf_123_26, gf_123_27, pt_123_27, gf_123_28, pt_123_28, gf_123_29, gf_123_30, pt_123_30, gf_123_31, pt_123_31, gf_123_32, pt_123_32, gf_123_33, pt_123_33, gf_123_34, pt_123_34_0, pt_123_34_1, gf_123_35, gf_123_36, gf_123_37, gf_123_38, pt_123_38, gf_123_39, pt_123_39, gf_123_40, pt_123_40, gf_123_41, gf_123_42, gf_123_43, gf_123_44, gf_123_45, gf_123_46, gf_123_47, pt_123_47, h2, sp_in, k0, i64_le, hle, hx, if_false, not_true]
end CT
