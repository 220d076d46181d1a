/-! adopt -/
/-- the class's book is told the row -/
def adC (k : Nat) (S : ab_M) : ab_M := fun c j => if c = 27 ∧ j < k then S 82 j else if c = 16 ∧ j = 5 then nI k else S c j
theorem adC_s {k : Nat} {S : ab_M} : ab_up (ab_up (adC k S) 27 k (S 82 k)) 16 5 (nI (k + 1)) = adC (k + 1) S := by
  funext c j
  unfold ab_up adC
  by_cases e : c = 16 ∧ j = 5
  · rw [if_pos e, if_neg (by omega), if_pos e]
  · rw [if_neg e]
    by_cases f : c = 27 ∧ j = k
    · rw [if_pos f, if_pos (by omega), f.2]
    · rw [if_neg f]
      by_cases w : c = 27 ∧ j < k
      · rw [if_pos w, if_pos (by omega)]
      · rw [if_neg w, if_neg e, if_neg (by omega), if_neg e]
def adR (k : Nat) (N : ab_M) : ab_M := fun c j => if c = 127 ∧ 74 ≤ j ∧ j < 74 + k then N 143 (j - 74) else N c j
theorem adR_s {k : Nat} {N : ab_M} : ab_up (adR k N) 127 (74 + k) (N 143 k) = adR (k + 1) N := by
  funext c j
  unfold ab_up adR
  by_cases e : c = 127 ∧ j = 74 + k
  · rw [if_pos e, if_pos (by omega), e.2, show 74 + k - 74 = k by omega]
  · rw [if_neg e]
    by_cases w : c = 127 ∧ 74 ≤ j ∧ j < 74 + k
    · rw [if_pos w, if_pos (by omega)]
    · rw [if_neg w, if_neg (by omega)]
section
variable {scr : Option (List Int32)} {n t : Nat} {K : Int} {M : ab_M}
theorem ad_cls {i : Nat} {S : ab_M} (h6 : i ≤ 6) {l2 : Option Value} : ab_res scr 93 12 (ab_up S 16 5 0) 24 [some (.ref 0), some (.int (nI i)), some (.int 0)] [] = some (adC i S, some (.int (nI i))) := by
  have e0 : ab_up S 16 5 0 = adC 0 S := by
    funext c j
    unfold ab_up adC
    by_cases e : c = 16 ∧ j = 5
    · rw [if_pos e, if_neg (by omega), if_pos e]
      rfl
    · rw [if_neg e, if_neg (by omega), if_neg e]
  have e1 := rn (fun k => ab_res scr 93 12 (adC k S) 24 [some (.ref 0), some (.int (nI i)), some (.int (nI k))] []) i (fun k hk => ?_)
  · have e1 : ab_res scr 93 12 (adC 0 S) 24 [some (.ref 0), some (.int (nI i)), some (.int 0)] [] = ab_res scr 93 12 (adC i S) 24 [some (.ref 0), some (.int (nI i)), some (.int (nI i))] [] := e1
    rw [e0, e1]
    rw [q93_24]
    simp only [q93_0, q93_1, q93_4, q93_7, q93_8, q93_9, q93_12, q93_13, q93_14, q93_15, q93_18, q93_19, q93_22, q93_23, q93_25, q93_26, q93_29, q93_30, q93_33, q93_34, q93_37, q93_40, q93_41, q93_42, q93_45, q93_48, q93_51, q93_52, n10, n01, Bool.false_eq_true, ab_bs, ab_bn, ab_pr0, ab_pr1, nl_n, nl_i, nl_r, nl_j, nl_nl, nI_rfl, if_true]
  · have h1 : ¬ nI i ≤ nI k := nI_ge hk (by omega)
    have x1 : adC k S 82 k = S 82 k := by
      unfold adC
      rw [if_neg (by omega), if_neg (by omega)]
    have x2 : adC k S 16 5 = nI k := by
      unfold adC
      rw [if_neg (by omega), if_pos ⟨rfl, rfl⟩]
    have x3 := sp_tell (scr := scr) (adC k S) k (by omega) x2 (S 82 k)
    rw [q93_24]
    simp only [q93_0, q93_1, q93_4, q93_7, q93_8, q93_9, q93_12, q93_13, q93_14, q93_15, q93_18, q93_19, q93_22, q93_23, q93_25, q93_26, q93_29, q93_30, q93_33, q93_34, q93_37, q93_40, q93_41, q93_42, q93_45, q93_48, q93_51, q93_52, n10, n01, Bool.false_eq_true, ab_bs, ab_bn, ab_pr0, ab_pr1, nl_n, nl_i, nl_r, nl_j, nl_nl, rc_0, gf_0_0, gf_0_1, gf_0_2, gf_0_3, gf_0_4, gf_0_5, gf_0_6, gf_0_7, gf_0_8, gf_0_9, pt_0_9, rc_16, gf_16_0, gf_16_1, gf_16_2, gf_16_3, pt_16_3, gf_16_4, pt_16_4, gf_16_5, pt_16_5, rc_81, gf_81_0, gf_81_1, gf_81_2, gf_81_3, pt_81_3, gf_81_4, gf_81_5, gf_81_6, pt_81_6, ln_82, al_82, si_82, h1, if_false, (show ab_inB (nI k) 6 = true from ib_nI (by omega) (by decide)), nI_clamp (show k < 2 ^ 31 by omega), if_true, x1, x3, adC_s, a1]
theorem ad_ref {i : Nat} {N : ab_M} (h6 : i ≤ 6) (h30 : N 123 30 = nI i) {l1 : Option Value} : ab_res scr 175 8 N 13 [some (.ref 123), some (.int 0), some (.int 0)] [] = some (ab_up (adR i N) 127 86 (nI i), some (.int (nI i))) := by
  have y : ∀ k c j, c ≠ 127 → adR k N c j = N c j := fun k c j h => by
    unfold adR
    rw [if_neg (by omega)]
  have e1 := rn (fun k => ab_res scr 175 8 (adR k N) 13 [some (.ref 123), some (.int 0), some (.int (nI k))] []) i (fun k hk => ?_)
  · have e0 : adR 0 N = N := by
      funext c j
      unfold adR
      rw [if_neg (by omega)]
    have e1 : ab_res scr 175 8 (adR 0 N) 13 [some (.ref 123), some (.int 0), some (.int 0)] [] = ab_res scr 175 8 (adR i N) 13 [some (.ref 123), some (.int 0), some (.int (nI i))] [] := e1
    rw [e0] at e1
    rw [e1]
    have z : ab_up (adR i N) 127 86 (nI i) 123 30 = nI i := by rw [up_n (by decide), y _ _ _ (by decide), h30]
    rw [q175_13]
    simp only [q175_0, q175_1, q175_4, q175_5, q175_6, q175_9, q175_10, q175_11, q175_12, q175_14, q175_15, q175_18, q175_21, q175_22, q175_25, q175_27, q175_28, q175_29, q175_30, q175_33, q175_34, q175_35, q175_36, q175_39, q175_42, q175_43, q175_46, q175_48, q175_49, q175_52, q175_53, q175_54, q175_57, n10, n01, Bool.false_eq_true, ab_bs, ab_bn, ab_pr0, ab_pr1, nl_n, nl_i, nl_r, nl_j, nl_nl, rc_123, gf_123_0, gf_123_1, pt_123_1, gf_123_2, pt_123_2, gf_123_3, pt_123_3, gf_123_4, pt_123_4, gf_123_5, pt_123_5, gf_123_6, pt_123_6, gf_123_7, pt_123_7, gf_123_8, pt_123_8, gf_123_9, gf_123_10, gf_123_11, gf_123_12, gf_123_13, pt_123_13_0, pt_123_13_1, gf_123_14, pt_123_14_0, pt_123_14_1, gf_123_15, gf_123_16, gf_123_17, gf_123_18, gf_123_19, gf_123_20, gf_123_21, gf_123_22, gf_123_23, gf_123_24, gf_123_25, pt_123_25, gf_123_26, gf_123_27, pt_123_27, gf_123_28, pt_123_28, gf_123_29, gf_123_30, pt_123_30, gf_123_31, pt_123_31, gf_123_32, pt_123_32, gf_123_33, pt_123_33, gf_123_34, pt_123_34_0, pt_123_34_1, gf_123_35, gf_123_36, gf_123_37, gf_123_38, pt_123_38, gf_123_39, pt_123_39, gf_123_40, pt_123_40, gf_123_41, gf_123_42, gf_123_43, gf_123_44, gf_123_45, gf_123_46, gf_123_47, pt_123_47, y i 123 30 (by decide), h30, nI_rfl, if_true, @s127_86 scr (adR i N), c86, z]
  · have h1 : ¬ nI i ≤ nI k := nI_ge hk (by omega)
    rw [q175_13]
    simp only [q175_0, q175_1, q175_4, q175_5, q175_6, q175_9, q175_10, q175_11, q175_12, q175_14, q175_15, q175_18, q175_21, q175_22, q175_25, q175_27, q175_28, q175_29, q175_30, q175_33, q175_34, q175_35, q175_36, q175_39, q175_42, q175_43, q175_46, q175_48, q175_49, q175_52, q175_53, q175_54, q175_57, n10, n01, Bool.false_eq_true, ab_bs, ab_bn, ab_pr0, ab_pr1, nl_n, nl_i, nl_r, nl_j, nl_nl, rc_123, gf_123_0, gf_123_1, pt_123_1, gf_123_2, pt_123_2, gf_123_3, pt_123_3, gf_123_4, pt_123_4, gf_123_5, pt_123_5, gf_123_6, pt_123_6, gf_123_7, pt_123_7, gf_123_8, pt_123_8, gf_123_9, gf_123_10, gf_123_11, gf_123_12, gf_123_13, pt_123_13_0, pt_123_13_1, gf_123_14, pt_123_14_0, pt_123_14_1, gf_123_15, gf_123_16, gf_123_17, gf_123_18, gf_123_19, gf_123_20, gf_123_21, gf_123_22, gf_123_23, gf_123_24, gf_123_25, pt_123_25, gf_123_26, gf_123_27, pt_123_27, gf_123_28, pt_123_28, gf_123_29, gf_123_30, pt_123_30, gf_123_31, pt_123_31, gf_123_32, pt_123_32, gf_123_33, pt_123_33, gf_123_34, pt_123_34_0, pt_123_34_1, gf_123_35, gf_123_36, gf_123_37, gf_123_38, pt_123_38, gf_123_39, pt_123_39, gf_123_40, pt_123_40, gf_123_41, gf_123_42, gf_123_43, gf_123_44, gf_123_45, gf_123_46, gf_123_47, pt_123_47, ln_143, al_143, si_143, y k 123 30 (by decide), h30, h1, if_false, (show ab_inB (nI k) 6 = true from ib_nI (by omega) (by decide)), nI_clamp (show k < 2 ^ 31 by omega), if_true, y k 143 k (by decide), n74, s127 (show 74 + k < 300 by omega), cn (show 74 + k < 400 by omega), adR_s, a1]
theorem cl_adopt (hK : 0 ≤ K) (hK2 : K ≤ 200000000) (h : CR n t K M) : cokI scr 93 175 [] M (CRX K) := by
  have hFC := (frC_ok h).2.2.1
  obtain ⟨i, hi, hi2, m1, m2, m3⟩ := sp_make (scr := scr) hK hK2 h
  have sl := fun M1 hw h4 => sp_layW (scr := scr) (M1 := M1) hK hK2 h hw h4 hi hi2
  have hPF := PW_of (N' := frC n M) (M' := M) h.2.1 (fun _ _ _ => rfl) (fun j => hFC _ _ (by decide)) (hFC _ _ (by decide))
  by_cases h6 : i ≤ 6
  · by_cases hb : 0 < frC n M 30 6
    · obtain ⟨N', a, b⟩ := (sl _ hPF (hFC _ _ (by decide))).2.1 h6 hb
      have e := m2 h6 hb
      refine ⟨frC n M, -4, N', ?_, ?_, n, t, CR_ax h (AX_trans (AX_FA (FA_of hFC)) b)⟩
      · generalize frC n M = F at *
        rw [ms93]; simp only [q93_0, q93_1, q93_4, q93_7, q93_8, q93_9, q93_12, q93_13, q93_14, q93_15, q93_18, q93_19, q93_22, q93_23, q93_25, q93_26, q93_29, q93_30, q93_33, q93_34, q93_37, q93_40, q93_41, q93_42, q93_45, q93_48, q93_51, q93_52, n10, n01, Bool.false_eq_true, ab_bs, ab_bn, ab_pr0, ab_pr1, nl_n, nl_i, nl_r, nl_j, nl_nl, rc_0, gf_0_0, gf_0_1, gf_0_2, gf_0_3, gf_0_4, gf_0_5, gf_0_6, gf_0_7, gf_0_8, gf_0_9, pt_0_9, rc_81, gf_81_0, gf_81_1, gf_81_2, gf_81_3, pt_81_3, gf_81_4, gf_81_5, gf_81_6, pt_81_6, e, (show ¬ (0 : Int32) ≤ -4 by decide), if_false]
      · generalize frC n M = F at *
        rw [ms175]; simp only [q175_0, q175_1, q175_4, q175_5, q175_6, q175_9, q175_10, q175_11, q175_12, q175_14, q175_15, q175_18, q175_21, q175_22, q175_25, q175_27, q175_28, q175_29, q175_30, q175_33, q175_34, q175_35, q175_36, q175_39, q175_42, q175_43, q175_46, q175_48, q175_49, q175_52, q175_53, q175_54, q175_57, n10, n01, Bool.false_eq_true, ab_bs, ab_bn, ab_pr0, ab_pr1, nl_n, nl_i, nl_r, nl_j, nl_nl, rc_123, gf_123_0, gf_123_1, pt_123_1, gf_123_2, pt_123_2, gf_123_3, pt_123_3, gf_123_4, pt_123_4, gf_123_5, pt_123_5, gf_123_6, pt_123_6, gf_123_7, pt_123_7, gf_123_8, pt_123_8, gf_123_9, gf_123_10, gf_123_11, gf_123_12, gf_123_13, pt_123_13_0, pt_123_13_1, gf_123_14, pt_123_14_0, pt_123_14_1, gf_123_15, gf_123_16, gf_123_17, gf_123_18, gf_123_19, gf_123_20, gf_123_21, gf_123_22, gf_123_23, gf_123_24, gf_123_25, pt_123_25, gf_123_26, gf_123_27, pt_123_27, gf_123_28, pt_123_28, gf_123_29, gf_123_30, pt_123_30, gf_123_31, pt_123_31, gf_123_32, pt_123_32, gf_123_33, pt_123_33, gf_123_34, pt_123_34_0, pt_123_34_1, gf_123_35, gf_123_36, gf_123_37, gf_123_38, pt_123_38, gf_123_39, pt_123_39, gf_123_40, pt_123_40, gf_123_41, gf_123_42, gf_123_43, gf_123_44, gf_123_45, gf_123_46, gf_123_47, pt_123_47, a, (show ¬ (-4 : Int32) = 0 by decide), if_false]
    · obtain ⟨S, a, b, c⟩ := m3 h6 hb
      have hSM : ∀ c j, (c < 30 ∨ 86 < c) → S c j = M c j := fun c j hc => by rw [b c j (by omega), hFC c j (by omega)]
      have hA : ∀ c j, c ≠ 27 → ¬ (c = 16 ∧ j = 5) → adC i S c j = S c j := fun c j x y => by
        unfold adC
        rw [if_neg (by omega), if_neg y]
      have hPA := PW_of (N' := adC i S) (M' := M) h.2.1 (fun _ _ _ => rfl) (fun j => by rw [hA _ _ (by decide) (by omega), hSM _ _ (by decide)]) (by rw [hA _ _ (by decide) (by decide), hSM _ _ (by decide)])
      obtain ⟨N', d, e, f, g⟩ := (sl _ hPA (by rw [hA _ _ (by decide) (by decide), hSM _ _ (by decide)])).2.2 h6 hb
      obtain ⟨-, v⟩ := bs_agree c g
      have x0 : 0 ≤ nI i := (nI_leI (a := 0) (b := i) (by decide) (by omega)).mpr (by omega)
      have c1 := ad_cls (scr := scr) (S := S) h6 (l2 := none)
      have r1 := ad_ref (scr := scr) h6 f (l1 := none)
      clear m1 m2 m3 sl hPF hi2 hb g c
      generalize frC n M = F at *
      refine ⟨adC i S, nI i, ab_up (adR i N') 127 86 (nI i), ?_, ?_, ?_⟩
      · rw [ms93]; simp only [q93_0, q93_1, q93_4, q93_7, q93_8, q93_9, q93_12, q93_13, q93_14, q93_15, q93_18, q93_19, q93_22, q93_23, q93_25, q93_26, q93_29, q93_30, q93_33, q93_34, q93_37, q93_40, q93_41, q93_42, q93_45, q93_48, q93_51, q93_52, n10, n01, Bool.false_eq_true, ab_bs, ab_bn, ab_pr0, ab_pr1, nl_n, nl_i, nl_r, nl_j, nl_nl, rc_0, gf_0_0, gf_0_1, gf_0_2, gf_0_3, gf_0_4, gf_0_5, gf_0_6, gf_0_7, gf_0_8, gf_0_9, pt_0_9, rc_16, gf_16_0, gf_16_1, gf_16_2, gf_16_3, pt_16_3, gf_16_4, pt_16_4, gf_16_5, pt_16_5, rc_81, gf_81_0, gf_81_1, gf_81_2, gf_81_3, pt_81_3, gf_81_4, gf_81_5, gf_81_6, pt_81_6, a, x0, if_true]
        exact c1
      · rw [ms175]; simp only [q175_0, q175_1, q175_4, q175_5, q175_6, q175_9, q175_10, q175_11, q175_12, q175_14, q175_15, q175_18, q175_21, q175_22, q175_25, q175_27, q175_28, q175_29, q175_30, q175_33, q175_34, q175_35, q175_36, q175_39, q175_42, q175_43, q175_46, q175_48, q175_49, q175_52, q175_53, q175_54, q175_57, n10, n01, Bool.false_eq_true, ab_bs, ab_bn, ab_pr0, ab_pr1, nl_n, nl_i, nl_r, nl_j, nl_nl, rc_123, gf_123_0, gf_123_1, pt_123_1, gf_123_2, pt_123_2, gf_123_3, pt_123_3, gf_123_4, pt_123_4, gf_123_5, pt_123_5, gf_123_6, pt_123_6, gf_123_7, pt_123_7, gf_123_8, pt_123_8, gf_123_9, gf_123_10, gf_123_11, gf_123_12, gf_123_13, pt_123_13_0, pt_123_13_1, gf_123_14, pt_123_14_0, pt_123_14_1, gf_123_15, gf_123_16, gf_123_17, gf_123_18, gf_123_19, gf_123_20, gf_123_21, gf_123_22, gf_123_23, gf_123_24, gf_123_25, pt_123_25, gf_123_26, gf_123_27, pt_123_27, gf_123_28, pt_123_28, gf_123_29, gf_123_30, pt_123_30, gf_123_31, pt_123_31, gf_123_32, pt_123_32, gf_123_33, pt_123_33, gf_123_34, pt_123_34_0, pt_123_34_1, gf_123_35, gf_123_36, gf_123_37, gf_123_38, pt_123_38, gf_123_39, pt_123_39, gf_123_40, pt_123_40, gf_123_41, gf_123_42, gf_123_43, gf_123_44, gf_123_45, gf_123_46, gf_123_47, pt_123_47, d, if_true]
        exact r1
      · have hC : CR n i K (fun c j => if c = 16 ∧ j = 5 then nI i else if c = 27 ∧ j < i then S 82 j else if c = 127 ∧ 74 ≤ j ∧ j < 74 + i then S 82 (j - 74) else if c = 127 ∧ j = 86 then nI i else M c j) := by
          refine CR_book h (by omega) (fun c j x y z => ?_) ?_ ?_ (fun j hj => ?_)
          · show (if c = 16 ∧ j = 5 then nI i else if c = 27 ∧ j < i then S 82 j else if c = 127 ∧ 74 ≤ j ∧ j < 74 + i then S 82 (j - 74) else if c = 127 ∧ j = 86 then nI i else M c j) = _
            rw [if_neg x, if_neg (by omega), if_neg (by omega), if_neg (by omega)]
          · show (if _ then _ else _) = _
            rw [if_pos ⟨rfl, rfl⟩]
          · show (if _ then _ else if _ then _ else if _ then _ else if _ then _ else _) = _
            rw [if_neg (by omega), if_neg (by omega), if_neg (by omega), if_pos ⟨rfl, rfl⟩]
          · constructor
            · show (if 127 = 16 ∧ 74 + j = 5 then nI i else if 127 = 27 ∧ 74 + j < i then S 82 (74 + j) else if 127 = 127 ∧ 74 ≤ 74 + j ∧ 74 + j < 74 + i then S 82 (74 + j - 74) else if 127 = 127 ∧ 74 + j = 86 then nI i else M 127 (74 + j)) = if 27 = 16 ∧ j = 5 then nI i else if 27 = 27 ∧ j < i then S 82 j else _
              rw [if_neg (by omega), if_neg (by omega), if_pos (by omega), if_neg (by omega), if_pos ⟨rfl, hj⟩, show 74 + j - 74 = j by omega]
            · show ∃ q, q < 8 ∧ (if 27 = 16 ∧ j = 5 then nI i else if 27 = 27 ∧ j < i then S 82 j else _) = nI q
              rw [if_neg (by omega), if_pos ⟨rfl, hj⟩]
              exact (v j hj).2
        refine ⟨n, i, CR_ax hC ?_⟩
        obtain ⟨p1, p2, p3, p4⟩ := e
        have yR : ∀ c j, c ≠ 127 → ab_up (adR i N') 127 86 (nI i) c j = N' c j := fun c j q => by
          rw [up_n q]
          unfold adR
          rw [if_neg (by omega)]
        refine ⟨fun c j q => ?_, fun j q1 q2 q3 => ?_, fun j q => ?_, ?_⟩
        · rw [yR _ _ (by omega), p1 c j q]
          show adC i S c j = if c = 16 ∧ j = 5 then nI i else if c = 27 ∧ j < i then S 82 j else if c = 127 ∧ 74 ≤ j ∧ j < 74 + i then S 82 (j - 74) else if c = 127 ∧ j = 86 then nI i else M c j
          unfold adC
          by_cases w : c = 27 ∧ j < i
          · rw [if_pos w, if_neg (by omega), if_pos w]
          · rw [if_neg w, if_neg (c := c = 27 ∧ j < i) w, if_neg (c := c = 127 ∧ 74 ≤ j ∧ j < 74 + i) (by omega), if_neg (c := c = 127 ∧ j = 86) (by omega), hSM c j (by omega)]
        · rw [yR _ _ (by decide), p2 j q1 q2 q3]
          show adC i S 123 j = if 123 = 16 ∧ j = 5 then nI i else if 123 = 27 ∧ j < i then S 82 j else if 123 = 127 ∧ 74 ≤ j ∧ j < 74 + i then S 82 (j - 74) else if 123 = 127 ∧ j = 86 then nI i else M 123 j
          rw [if_neg (by omega), if_neg (by omega), if_neg (by omega), if_neg (by omega), hA _ _ (by decide) (by omega), hSM _ _ (by decide)]
        · show ab_up (adR i N') 127 86 (nI i) 127 j = if 127 = 16 ∧ j = 5 then nI i else if 127 = 27 ∧ j < i then S 82 j else if 127 = 127 ∧ 74 ≤ j ∧ j < 74 + i then S 82 (j - 74) else if 127 = 127 ∧ j = 86 then nI i else M 127 j
          rw [if_neg (c := 127 = 16 ∧ j = 5) (by omega), if_neg (c := 127 = 27 ∧ j < i) (by omega)]
          by_cases w : 74 ≤ j ∧ j < 74 + i
          · rw [if_pos (c := 127 = 127 ∧ 74 ≤ j ∧ j < 74 + i) ⟨rfl, w⟩, up_o _ _ _ _ _ _ (by omega)]
            unfold adR
            rw [if_pos ⟨rfl, w⟩]
            exact (v _ (by omega)).1
          · rw [if_neg (c := 127 = 127 ∧ 74 ≤ j ∧ j < 74 + i) (by omega)]
            by_cases w2 : j = 86
            · rw [if_pos (c := 127 = 127 ∧ j = 86) ⟨rfl, w2⟩, w2, up_s]
            · rw [if_neg (c := 127 = 127 ∧ j = 86) (by omega), up_o _ _ _ _ _ _ (by omega)]
              unfold adR
              rw [if_neg (by omega), p3 j q, hA _ _ (by decide) (by omega), hSM _ _ (by decide)]
        · have y73 : ab_up (adR i N') 127 86 (nI i) 127 73 = N' 127 73 := by
            rw [up_o _ _ _ _ _ _ (by omega)]
            unfold adR
            rw [if_neg (by omega)]
          rw [y73, yR _ _ (by decide)]
          show (N' 123 14 = (if 123 = 16 ∧ 14 = 5 then nI i else if 123 = 27 ∧ 14 < i then S 82 14 else if 123 = 127 ∧ 74 ≤ 14 ∧ 14 < 74 + i then S 82 (14 - 74) else if 123 = 127 ∧ 14 = 86 then nI i else M 123 14) ∧ N' 127 73 = (if 127 = 16 ∧ 73 = 5 then nI i else if 127 = 27 ∧ 73 < i then S 82 73 else if 127 = 127 ∧ 74 ≤ 73 ∧ 73 < 74 + i then S 82 (73 - 74) else if 127 = 127 ∧ 73 = 86 then nI i else M 127 73)) ∨ (N' 123 14 ≠ 0 ∧ N' 127 73 = (if 16 = 16 ∧ 4 = 5 then nI i else if 16 = 27 ∧ 4 < i then S 82 4 else if 16 = 127 ∧ 74 ≤ 4 ∧ 4 < 74 + i then S 82 (4 - 74) else if 16 = 127 ∧ 4 = 86 then nI i else M 16 4))
          simp only [if_neg (show ¬ (123 = 16 ∧ 14 = 5) by omega), if_neg (show ¬ (123 = 27 ∧ 14 < i) by omega), if_neg (show ¬ (123 = 127 ∧ 74 ≤ 14 ∧ 14 < 74 + i) by omega), if_neg (show ¬ (123 = 127 ∧ 14 = 86) by omega), if_neg (show ¬ (127 = 16 ∧ 73 = 5) by omega), if_neg (show ¬ (127 = 27 ∧ 73 < i) by omega), if_neg (show ¬ (127 = 127 ∧ 74 ≤ 73 ∧ 73 < 74 + i) by omega), if_neg (show ¬ (127 = 127 ∧ 73 = 86) by omega), if_neg (show ¬ (16 = 16 ∧ 4 = 5) by omega), if_neg (show ¬ (16 = 27 ∧ 4 < i) by omega), if_neg (show ¬ (16 = 127 ∧ 74 ≤ 4 ∧ 4 < 74 + i) by omega), if_neg (show ¬ (16 = 127 ∧ 4 = 86) by omega)]
          rcases p4 with ⟨w1, w2⟩ | ⟨w1, w2⟩
          · left
            rw [w1, w2, hA _ _ (by decide) (by decide), hA _ _ (by decide) (by decide), hSM _ _ (by decide), hSM _ _ (by decide)]
            exact ⟨rfl, rfl⟩
          · right
            rw [w2, hA _ _ (by decide) (by decide), hSM _ _ (by decide)]
            exact ⟨w1, rfl⟩
  · obtain ⟨N', a, b⟩ := (sl _ hPF (hFC _ _ (by decide))).1 (by omega)
    have e := m1 (by omega)
    refine ⟨frC n M, -2, N', ?_, ?_, n, t, CR_ax h (AX_trans (AX_FA (FA_of hFC)) b)⟩
    · generalize frC n M = F at *
      rw [ms93]; simp only [q93_0, q93_1, q93_4, q93_7, q93_8, q93_9, q93_12, q93_13, q93_14, q93_15, q93_18, q93_19, q93_22, q93_23, q93_25, q93_26, q93_29, q93_30, q93_33, q93_34, q93_37, q93_40, q93_41, q93_42, q93_45, q93_48, q93_51, q93_52, n10, n01, Bool.false_eq_true, ab_bs, ab_bn, ab_pr0, ab_pr1, nl_n, nl_i, nl_r, nl_j, nl_nl, rc_0, gf_0_0, gf_0_1, gf_0_2, gf_0_3, gf_0_4, gf_0_5, gf_0_6, gf_0_7, gf_0_8, gf_0_9, pt_0_9, rc_81, gf_81_0, gf_81_1, gf_81_2, gf_81_3, pt_81_3, gf_81_4, gf_81_5, gf_81_6, pt_81_6, e, (show ¬ (0 : Int32) ≤ -2 by decide), if_false]
    · generalize frC n M = F at *
      rw [ms175]; simp only [q175_0, q175_1, q175_4, q175_5, q175_6, q175_9, q175_10, q175_11, q175_12, q175_14, q175_15, q175_18, q175_21, q175_22, q175_25, q175_27, q175_28, q175_29, q175_30, q175_33, q175_34, q175_35, q175_36, q175_39, q175_42, q175_43, q175_46, q175_48, q175_49, q175_52, q175_53, q175_54, q175_57, n10, n01, Bool.false_eq_true, ab_bs, ab_bn, ab_pr0, ab_pr1, nl_n, nl_i, nl_r, nl_j, nl_nl, rc_123, gf_123_0, gf_123_1, pt_123_1, gf_123_2, pt_123_2, gf_123_3, pt_123_3, gf_123_4, pt_123_4, gf_123_5, pt_123_5, gf_123_6, pt_123_6, gf_123_7, pt_123_7, gf_123_8, pt_123_8, gf_123_9, gf_123_10, gf_123_11, gf_123_12, gf_123_13, pt_123_13_0, pt_123_13_1, gf_123_14, pt_123_14_0, pt_123_14_1, gf_123_15, gf_123_16, gf_123_17, gf_123_18, gf_123_19, gf_123_20, gf_123_21, gf_123_22, gf_123_23, gf_123_24, gf_123_25, pt_123_25, gf_123_26, gf_123_27, pt_123_27, gf_123_28, pt_123_28, gf_123_29, gf_123_30, pt_123_30, gf_123_31, pt_123_31, gf_123_32, pt_123_32, gf_123_33, pt_123_33, gf_123_34, pt_123_34_0, pt_123_34_1, gf_123_35, gf_123_36, gf_123_37, gf_123_38, pt_123_38, gf_123_39, pt_123_39, gf_123_40, pt_123_40, gf_123_41, gf_123_42, gf_123_43, gf_123_44, gf_123_45, gf_123_46, gf_123_47, pt_123_47, a, (show ¬ (-2 : Int32) = 0 by decide), if_false]
end
