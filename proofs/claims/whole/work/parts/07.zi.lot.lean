/-! who came, of each round, is a set of the people -/
def RM (n : Nat) (S : ab_M) : Prop := ∃ i, i ≤ 40 ∧ S 30 3 = nI i ∧ ∀ r, r < i → mk n (S (41 + r) 4)
theorem RM_same {n : Nat} {S S' : ab_M} (h : RM n S) (h2 : S' 30 3 = S 30 3) (h4 : ∀ r, S' (41 + r) 4 = S (41 + r) 4) : RM n S' := by
  obtain ⟨i, a, b, c⟩ := h
  exact ⟨i, a, by rw [h2, b], fun r hr => by rw [h4]; exact c r hr⟩
theorem RM_rd {n t : Nat} {m : Int32} {S : ab_M} (hC : CI n t S) (h : RM n S) : RM n (rdC n m S) := by
  have hn := hC.1
  have hk := hC.2.2.2.2.2.1
  unfold rdC
  by_cases hw : wtC S = true
  · rw [if_pos hw]
    obtain ⟨hw1, hw2⟩ := wt_at hw
    obtain ⟨i, a, c, g⟩ := h
    have hi3 : i < 40 := by
      rw [c] at hw2
      exact (nI_ltI (b := 40) (by omega) (by decide)).mp hw2
    by_cases hr : S 30 8 = 6
    · rw [if_pos hr]
      by_cases h0 : owN n S = 0
      · rw [if_pos h0]
        exact RM_same ⟨i, a, c, g⟩ (bk_j (by decide)) (fun r => bk_c (by omega))
      · rw [if_neg h0]
        refine ⟨i + 1, by omega, by rw [bgO_30 (by decide), if_pos rfl, c, nI_1], fun r hr => ?_⟩
        rw [bgO_r hn (by decide), c, nI_clamp (by omega)]
        by_cases x : r = i
        · rw [if_pos x]
          exact hk
        · rw [if_neg x]
          exact g r (by omega)
    · rw [if_neg hr]
      by_cases h0 : abC n (prC n (S 30 13) S) S = 0
      · rw [if_pos h0]
        exact RM_same ⟨i, a, c, g⟩ (bk_j (by decide)) (fun r => bk_c (by omega))
      · rw [if_neg h0]
        obtain ⟨w, hwn, hwb, -⟩ := by_ok hC h0
        rw [hwb, nI_clamp (by have := hC.1; omega)]
        generalize prC n (S 30 13) S = co at *
        refine ⟨i + 1, by omega, by rw [bgB_30 (by decide), if_neg (by decide), if_pos rfl, byM_30 (by decide), c, nI_1], fun r hr => ?_⟩
        rw [bgB_r hn (by omega) (by decide), byM_30 (by decide), byM_n (c := 41 + r) (by omega), c, nI_clamp (by omega)]
        by_cases x : r = i
        · rw [if_pos x, byM_30 (by decide)]
          exact hk
        · rw [if_neg x]
          exact g r (by omega)
  · rw [if_neg hw]
    exact h
theorem RM_ev {n t : Nat} {M : ab_M} (hn : n ≤ 8) (hM : M 16 3 = nI n) (ht : bkV t M) (hb : ∃ b, b < 8 ∧ M 30 10 = nI b) : RM n (evC n M) := by
  have hC0 := CI_clear hn hM ht hb
  have h0 : RM n (fo clG n (cl0 M)) := by
    refine ⟨0, by decide, ?_, fun r hr => absurd hr (by omega)⟩
    rw [fo_clG, if_neg (by omega)]
    simp [cl0, ab_up]
    rfl
  unfold evC
  generalize fo clG n (cl0 M) = C0 at *
  have : ∀ k, RM n (fo (fun k S => mnC n (nI k) S) k C0) := by
    intro k
    induction k with
    | zero => exact h0
    | succ k ih => exact RM_rd (CI_cg (CI_k hC0 k)) (RM_same ih (cg_30 (by decide) (by decide)) (fun r => cg_r hn))
  exact this 240
/-! LOT: the reference's could -/
def cdV (N : ab_M) (w : Int32) (k : Nat) : Int32 := fo (fun p s => s ||| (if tb w p = true ∧ N 127 (9 * p + 6) = 0 then bt p else 0)) k 0
theorem cdV_s (N : ab_M) (w : Int32) (k : Nat) : cdV N w (k + 1) = cdV N w k ||| (if tb w k = true ∧ N 127 (9 * k + 6) = 0 then bt k else 0) := rfl
theorem cdV_tb (N : ab_M) (w : Int32) (k : Nat) (hk : k ≤ 8) (q : Nat) (hq : q < 32) : tb (cdV N w k) q = (decide (q < k) && (tb w q && decide (N 127 (9 * q + 6) = 0))) := by
  induction k with
  | zero => simp [cdV, fo, tb]
  | succ k ih =>
    rw [cdV_s]
    by_cases h : tb w k = true ∧ N 127 (9 * k + 6) = 0
    · rw [if_pos h, tb_set _ _ _ (by omega) hq, ih (by omega)]
      by_cases e : k = q
      · subst e
        simp [h.1, h.2]
      · have : (q < k + 1) = (q < k) := by
          rw [eq_iff_iff]; omega
        simp [e, this]
    · rw [if_neg h, show cdV N w k ||| 0 = cdV N w k by simp, ih (by omega)]
      by_cases e : k = q
      · subst e
        have : (tb w k && decide (N 127 (9 * k + 6) = 0)) = false := by
          rw [Bool.and_eq_false_iff]
          by_cases a : tb w k = true
          · right
            simp only [decide_eq_false_iff_not]
            exact fun b => h ⟨a, b⟩
          · left
            simpa using a
        rw [this]
        simp
      · have : (q < k + 1) = (q < k) := by
          rw [eq_iff_iff]; omega
        simp [this]
def npV (n : Nat) (S : ab_M) (w : Int32) : Int32 := fo (fun p s => if S 24 p = 0 then s else s &&& (bt p ^^^ -1)) n w
theorem cd_np {n : Nat} {N S : ab_M} {w : Int32} (hn : n ≤ 8) (hw : mk n w) (h6 : ∀ p, p < n → N 127 (9 * p + 6) = S 24 p) : cdV N w n = npV n S w ∧ mk n (npV n S w) := by
  have hmk : mk n (npV n S w) := by
    intro q h1 h2
    unfold npV
    refine fo_inv (P := fun k s => tb s q = false) n (hw q h1 h2) (fun k b hk hb => ?_)
    split
    · exact hb
    · rw [tb_and, hb, Bool.false_and]
  refine ⟨tb_ext fun q hq => ?_, hmk⟩
  rw [cdV_tb _ _ _ hn _ hq]
  by_cases h : q < n
  · have e := fo_notPoor S w n hn q (by omega)
    unfold npV
    rw [e, h6 q h]
    by_cases z : S 24 q = 0 <;> simp [h, z]
  · rw [hmk q (by omega) hq]
    simp [h]
def caL (n k : Nat) (N : ab_M) : ab_M := fun c j => if c = 141 ∧ j < k then cdV N (N 140 (5 * j + 4)) n else N c j
theorem ca_in {scr : Option (List Int32)} (N0 N : ab_M) (n r : Nat) (hn : n ≤ 8) (hr : r < 40) (hM : N0 127 72 = nI n) (hN : N = ab_up N0 141 r 0) (x : Int32) (l : Option Value) : ∃ l2 : Option Value, ab_res scr 167 6 N 53 [some (.ref 123), some (.int x), some (.int (nI r)), some (.int (nI 0))] [] = ab_res scr 167 6 (ab_up N0 141 r (cdV N0 (N0 140 (5 * r + 4)) n)) 114 [some (.ref 123), some (.int x), some (.int (nI r)), l2] [] := by
  have h40 : ab_inB (nI r) 40 = true := ib_nI hr (by decide)
  have hcr : (nI r).toNatClampNeg = r := nI_clamp (by omega)
  have hs141 : ∀ V : ab_M, ab_ald scr ab_L0 V 141 .int (nI r) = some (V 141 r) := fun V => by rw [al_141, h40, hcr]; rfl
  have hi141 : ab_si 141 .int (nI r) = true := by rw [si_141]; exact h40
  have e1 := rn (fun k => ab_res scr 167 6 (ab_up N0 141 r (cdV N0 (N0 140 (5 * r + 4)) k)) 53 [some (.ref 123), some (.int x), some (.int (nI r)), some (.int (nI k))] []) n (fun k hk => ?_)
  · refine ⟨some (.int (nI n)), Eq.trans ?_ (Eq.trans e1 ?_)⟩
    · rw [hN]
      rfl
    · have y72 : ab_up N0 141 r (cdV N0 (N0 140 (5 * r + 4)) n) 127 72 = nI n := by rw [up_n (by decide), hM]
      show ab_res scr 167 6 _ 53 _ [] = _
      rw [q167_53]
      simp only [q167_0, q167_1, q167_2, q167_5, q167_6, q167_7, q167_10, q167_11, q167_12, q167_15, q167_16, q167_17, q167_20, q167_21, q167_24, q167_27, q167_29, q167_32, q167_33, q167_34, q167_35, q167_37, q167_38, q167_41, q167_44, q167_45, q167_48, q167_49, q167_50, q167_51, q167_52, q167_54, q167_55, q167_58, q167_60, q167_61, q167_64, q167_65, q167_68, q167_69, q167_70, q167_71, q167_72, q167_75, q167_76, q167_77, q167_78, q167_79, q167_80, q167_81, q167_82, q167_83, q167_84, q167_85, q167_86, q167_89, q167_90, q167_91, q167_93, q167_96, q167_99, q167_100, q167_101, q167_102, q167_105, q167_106, q167_107, q167_108, q167_111, q167_117, q167_120, q167_121, n10, n01, Bool.false_eq_true, ab_bs, ab_bn, ab_pr0, ab_pr1, nl_n, nl_i, nl_r, nl_j, nl_nl, rc_123, gf_123_0, gf_123_1, pt_123_1, gf_123_2, pt_123_2, gf_123_3, pt_123_3, gf_123_4, pt_123_4, gf_123_5, pt_123_5, gf_123_6, pt_123_6, gf_123_7, pt_123_7, gf_123_8, pt_123_8, gf_123_9, gf_123_10, gf_123_11, gf_123_12, gf_123_13, pt_123_13_0, pt_123_13_1, gf_123_14, pt_123_14_0, pt_123_14_1, gf_123_15, gf_123_16, gf_123_17, gf_123_18, gf_123_19, gf_123_20, gf_123_21, gf_123_22, gf_123_23, gf_123_24, gf_123_25, pt_123_25, gf_123_26, gf_123_27, pt_123_27, gf_123_28, pt_123_28, gf_123_29, gf_123_30, pt_123_30, gf_123_31, pt_123_31, gf_123_32, pt_123_32, gf_123_33, pt_123_33, gf_123_34, pt_123_34_0, pt_123_34_1, gf_123_35, gf_123_36, gf_123_37, gf_123_38, pt_123_38, gf_123_39, pt_123_39, gf_123_40, pt_123_40, gf_123_41, gf_123_42, gf_123_43, gf_123_44, gf_123_45, gf_123_46, gf_123_47, pt_123_47, r72, y72, nI_rfl, if_true]
  · have h1 : ¬ nI n ≤ nI k := nI_ge hk (by omega)
    have n54 : nI (5 * r) + 4 = nI (5 * r + 4) := nI_add _ 4
    have h3 : k < 8 := by omega
    have y : ∀ c j, c ≠ 141 → ab_up N0 141 r (cdV N0 (N0 140 (5 * r + 4)) k) c j = N0 c j := fun c j z => up_n z
    by_cases ht : tb (N0 140 (5 * r + 4)) k = true
    · by_cases h6 : N0 127 (9 * k + 6) = 0
      · rw [q167_53]
        simp only [q167_0, q167_1, q167_2, q167_5, q167_6, q167_7, q167_10, q167_11, q167_12, q167_15, q167_16, q167_17, q167_20, q167_21, q167_24, q167_27, q167_29, q167_32, q167_33, q167_34, q167_35, q167_37, q167_38, q167_41, q167_44, q167_45, q167_48, q167_49, q167_50, q167_51, q167_52, q167_54, q167_55, q167_58, q167_60, q167_61, q167_64, q167_65, q167_68, q167_69, q167_70, q167_71, q167_72, q167_75, q167_76, q167_77, q167_78, q167_79, q167_80, q167_81, q167_82, q167_83, q167_84, q167_85, q167_86, q167_89, q167_90, q167_91, q167_93, q167_96, q167_99, q167_100, q167_101, q167_102, q167_105, q167_106, q167_107, q167_108, q167_111, q167_117, q167_120, q167_121, n10, n01, Bool.false_eq_true, ab_bs, ab_bn, ab_pr0, ab_pr1, nl_n, nl_i, nl_r, nl_j, nl_nl, rc_123, gf_123_0, gf_123_1, pt_123_1, gf_123_2, pt_123_2, gf_123_3, pt_123_3, gf_123_4, pt_123_4, gf_123_5, pt_123_5, gf_123_6, pt_123_6, gf_123_7, pt_123_7, gf_123_8, pt_123_8, gf_123_9, gf_123_10, gf_123_11, gf_123_12, gf_123_13, pt_123_13_0, pt_123_13_1, gf_123_14, pt_123_14_0, pt_123_14_1, gf_123_15, gf_123_16, gf_123_17, gf_123_18, gf_123_19, gf_123_20, gf_123_21, gf_123_22, gf_123_23, gf_123_24, gf_123_25, pt_123_25, gf_123_26, gf_123_27, pt_123_27, gf_123_28, pt_123_28, gf_123_29, gf_123_30, pt_123_30, gf_123_31, pt_123_31, gf_123_32, pt_123_32, gf_123_33, pt_123_33, gf_123_34, pt_123_34_0, pt_123_34_1, gf_123_35, gf_123_36, gf_123_37, gf_123_38, pt_123_38, gf_123_39, pt_123_39, gf_123_40, pt_123_40, gf_123_41, gf_123_42, gf_123_43, gf_123_44, gf_123_45, gf_123_46, gf_123_47, pt_123_47, r72, y 127 72 (by decide), hM, h1, if_false, hs141, up_s, n5m, n54, a1, r140 (show 5 * r + 4 < 200 by omega), y 140 (5 * r + 4) (by decide), tb_sh _ _ h3, ht, if_true, not_true, its6 _ _ h3, y 127 (9 * k + 6) (by decide), h6, hi141, hcr, up_up, bt_eq, cdV_s, and_self]
      · rw [q167_53]
        simp only [q167_0, q167_1, q167_2, q167_5, q167_6, q167_7, q167_10, q167_11, q167_12, q167_15, q167_16, q167_17, q167_20, q167_21, q167_24, q167_27, q167_29, q167_32, q167_33, q167_34, q167_35, q167_37, q167_38, q167_41, q167_44, q167_45, q167_48, q167_49, q167_50, q167_51, q167_52, q167_54, q167_55, q167_58, q167_60, q167_61, q167_64, q167_65, q167_68, q167_69, q167_70, q167_71, q167_72, q167_75, q167_76, q167_77, q167_78, q167_79, q167_80, q167_81, q167_82, q167_83, q167_84, q167_85, q167_86, q167_89, q167_90, q167_91, q167_93, q167_96, q167_99, q167_100, q167_101, q167_102, q167_105, q167_106, q167_107, q167_108, q167_111, q167_117, q167_120, q167_121, n10, n01, Bool.false_eq_true, ab_bs, ab_bn, ab_pr0, ab_pr1, nl_n, nl_i, nl_r, nl_j, nl_nl, rc_123, gf_123_0, gf_123_1, pt_123_1, gf_123_2, pt_123_2, gf_123_3, pt_123_3, gf_123_4, pt_123_4, gf_123_5, pt_123_5, gf_123_6, pt_123_6, gf_123_7, pt_123_7, gf_123_8, pt_123_8, gf_123_9, gf_123_10, gf_123_11, gf_123_12, gf_123_13, pt_123_13_0, pt_123_13_1, gf_123_14, pt_123_14_0, pt_123_14_1, gf_123_15, gf_123_16, gf_123_17, gf_123_18, gf_123_19, gf_123_20, gf_123_21, gf_123_22, gf_123_23, gf_123_24, gf_123_25, pt_123_25, gf_123_26, gf_123_27, pt_123_27, gf_123_28, pt_123_28, gf_123_29, gf_123_30, pt_123_30, gf_123_31, pt_123_31, gf_123_32, pt_123_32, gf_123_33, pt_123_33, gf_123_34, pt_123_34_0, pt_123_34_1, gf_123_35, gf_123_36, gf_123_37, gf_123_38, pt_123_38, gf_123_39, pt_123_39, gf_123_40, pt_123_40, gf_123_41, gf_123_42, gf_123_43, gf_123_44, gf_123_45, gf_123_46, gf_123_47, pt_123_47, r72, y 127 72 (by decide), hM, h1, if_false, hs141, up_s, n5m, n54, a1, r140 (show 5 * r + 4 < 200 by omega), y 140 (5 * r + 4) (by decide), tb_sh _ _ h3, ht, if_true, not_true, its6 _ _ h3, y 127 (9 * k + 6) (by decide), h6, not_false_eq_true, hi141, hcr, up_up, bt_eq, cdV_s, and_false]
    · rw [q167_53]
      simp only [q167_0, q167_1, q167_2, q167_5, q167_6, q167_7, q167_10, q167_11, q167_12, q167_15, q167_16, q167_17, q167_20, q167_21, q167_24, q167_27, q167_29, q167_32, q167_33, q167_34, q167_35, q167_37, q167_38, q167_41, q167_44, q167_45, q167_48, q167_49, q167_50, q167_51, q167_52, q167_54, q167_55, q167_58, q167_60, q167_61, q167_64, q167_65, q167_68, q167_69, q167_70, q167_71, q167_72, q167_75, q167_76, q167_77, q167_78, q167_79, q167_80, q167_81, q167_82, q167_83, q167_84, q167_85, q167_86, q167_89, q167_90, q167_91, q167_93, q167_96, q167_99, q167_100, q167_101, q167_102, q167_105, q167_106, q167_107, q167_108, q167_111, q167_117, q167_120, q167_121, n10, n01, Bool.false_eq_true, ab_bs, ab_bn, ab_pr0, ab_pr1, nl_n, nl_i, nl_r, nl_j, nl_nl, rc_123, gf_123_0, gf_123_1, pt_123_1, gf_123_2, pt_123_2, gf_123_3, pt_123_3, gf_123_4, pt_123_4, gf_123_5, pt_123_5, gf_123_6, pt_123_6, gf_123_7, pt_123_7, gf_123_8, pt_123_8, gf_123_9, gf_123_10, gf_123_11, gf_123_12, gf_123_13, pt_123_13_0, pt_123_13_1, gf_123_14, pt_123_14_0, pt_123_14_1, gf_123_15, gf_123_16, gf_123_17, gf_123_18, gf_123_19, gf_123_20, gf_123_21, gf_123_22, gf_123_23, gf_123_24, gf_123_25, pt_123_25, gf_123_26, gf_123_27, pt_123_27, gf_123_28, pt_123_28, gf_123_29, gf_123_30, pt_123_30, gf_123_31, pt_123_31, gf_123_32, pt_123_32, gf_123_33, pt_123_33, gf_123_34, pt_123_34_0, pt_123_34_1, gf_123_35, gf_123_36, gf_123_37, gf_123_38, pt_123_38, gf_123_39, pt_123_39, gf_123_40, pt_123_40, gf_123_41, gf_123_42, gf_123_43, gf_123_44, gf_123_45, gf_123_46, gf_123_47, pt_123_47, r72, y 127 72 (by decide), hM, h1, if_false, hs141, up_s, n5m, n54, a1, r140 (show 5 * r + 4 < 200 by omega), y 140 (5 * r + 4) (by decide), tb_sh _ _ h3, ht, (show ¬ (0 : Int32) = 1 by decide), not_false_eq_true, if_true, hi141, hcr, up_up, bt_eq, cdV_s, false_and]
theorem ca_out {scr : Option (List Int32)} (N : ab_M) (n i : Nat) (hn : n ≤ 8) (hi : i ≤ 40) (hM : N 127 72 = nI n) (h30 : N 123 30 = nI i) (x : Int32) : ab_res scr 167 6 N 36 [some (.ref 123), some (.int x), some (.int (nI 0)), none] [] = some (caL n i N, some (.int x)) := by
  have hx := rx (fun k (s : Option Value) => ab_res scr 167 6 (caL n k N) 36 [some (.ref 123), some (.int x), some (.int (nI k)), s] []) (fun _ _ => True) i none trivial (fun k l hk _ => ?_)
  · obtain ⟨l, e1, -⟩ := hx
    have e0 : caL n 0 N = N := by
      funext c j
      unfold caL
      rw [if_neg (by omega)]
    have e1 : ab_res scr 167 6 (caL n 0 N) 36 [some (.ref 123), some (.int x), some (.int (nI 0)), none] [] = ab_res scr 167 6 (caL n i N) 36 [some (.ref 123), some (.int x), some (.int (nI i)), l] [] := e1
    rw [e0] at e1
    rw [e1]
    have y30 : caL n i N 123 30 = nI i := by
      unfold caL
      rw [if_neg (by omega), h30]
    rw [q167_36]
    simp only [q167_0, q167_1, q167_2, q167_5, q167_6, q167_7, q167_10, q167_11, q167_12, q167_15, q167_16, q167_17, q167_20, q167_21, q167_24, q167_27, q167_29, q167_32, q167_33, q167_34, q167_35, q167_37, q167_38, q167_41, q167_44, q167_45, q167_48, q167_49, q167_50, q167_51, q167_52, q167_54, q167_55, q167_58, q167_60, q167_61, q167_64, q167_65, q167_68, q167_69, q167_70, q167_71, q167_72, q167_75, q167_76, q167_77, q167_78, q167_79, q167_80, q167_81, q167_82, q167_83, q167_84, q167_85, q167_86, q167_89, q167_90, q167_91, q167_93, q167_96, q167_99, q167_100, q167_101, q167_102, q167_105, q167_106, q167_107, q167_108, q167_111, q167_117, q167_120, q167_121, n10, n01, Bool.false_eq_true, ab_bs, ab_bn, ab_pr0, ab_pr1, nl_n, nl_i, nl_r, nl_j, nl_nl, rc_123, gf_123_0, gf_123_1, pt_123_1, gf_123_2, pt_123_2, gf_123_3, pt_123_3, gf_123_4, pt_123_4, gf_123_5, pt_123_5, gf_123_6, pt_123_6, gf_123_7, pt_123_7, gf_123_8, pt_123_8, gf_123_9, gf_123_10, gf_123_11, gf_123_12, gf_123_13, pt_123_13_0, pt_123_13_1, gf_123_14, pt_123_14_0, pt_123_14_1, gf_123_15, gf_123_16, gf_123_17, gf_123_18, gf_123_19, gf_123_20, gf_123_21, gf_123_22, gf_123_23, gf_123_24, gf_123_25, pt_123_25, gf_123_26, gf_123_27, pt_123_27, gf_123_28, pt_123_28, gf_123_29, gf_123_30, pt_123_30, gf_123_31, pt_123_31, gf_123_32, pt_123_32, gf_123_33, pt_123_33, gf_123_34, pt_123_34_0, pt_123_34_1, gf_123_35, gf_123_36, gf_123_37, gf_123_38, pt_123_38, gf_123_39, pt_123_39, gf_123_40, pt_123_40, gf_123_41, gf_123_42, gf_123_43, gf_123_44, gf_123_45, gf_123_46, gf_123_47, pt_123_47, y30, nI_rfl, if_true]
  · have h1 : ¬ nI i ≤ nI k := nI_ge hk (by omega)
    have h40 : ab_inB (nI k) 40 = true := ib_nI (by omega) (by decide)
    have hcr : (nI k).toNatClampNeg = k := nI_clamp (by omega)
    have hi141 : ab_si 141 .int (nI k) = true := by rw [si_141]; exact h40
    have y : ∀ c j, c ≠ 141 → caL n k N c j = N c j := fun c j z => by
      unfold caL
      rw [if_neg (by omega)]
    obtain ⟨l2, z⟩ := ca_in (scr := scr) (caL n k N) _ n k hn (by omega) (by rw [y _ _ (by decide), hM]) rfl x none
    have z : ab_res scr 167 6 (ab_up (caL n k N) 141 k 0) 53 [some (.ref 123), some (.int x), some (.int (nI k)), some (.int 0)] [] = _ := z
    have hcd : cdV (caL n k N) (caL n k N 140 (5 * k + 4)) n = cdV N (N 140 (5 * k + 4)) n := by
      rw [y _ _ (by decide)]
      unfold cdV
      exact fo_congr fun p hp => by rw [y _ _ (by decide)]
    have hup : ab_up (caL n k N) 141 k (cdV N (N 140 (5 * k + 4)) n) = caL n (k + 1) N := by
      funext c j
      unfold ab_up caL
      by_cases e : c = 141 ∧ j = k
      · rw [if_pos e, if_pos (by omega), e.2]
      · rw [if_neg e]
        by_cases w : c = 141 ∧ j < k
        · rw [if_pos w, if_pos (by omega)]
        · rw [if_neg w, if_neg (by omega)]
    rw [hcd, hup] at z
    refine ⟨l2, ?_, trivial⟩
    show ab_res scr 167 6 (caL n k N) 36 _ [] = _
    rw [q167_36]
    simp only [q167_0, q167_1, q167_2, q167_5, q167_6, q167_7, q167_10, q167_11, q167_12, q167_15, q167_16, q167_17, q167_20, q167_21, q167_24, q167_27, q167_29, q167_32, q167_33, q167_34, q167_35, q167_37, q167_38, q167_41, q167_44, q167_45, q167_48, q167_49, q167_50, q167_51, q167_52, q167_54, q167_55, q167_58, q167_60, q167_61, q167_64, q167_65, q167_68, q167_69, q167_70, q167_71, q167_72, q167_75, q167_76, q167_77, q167_78, q167_79, q167_80, q167_81, q167_82, q167_83, q167_84, q167_85, q167_86, q167_89, q167_90, q167_91, q167_93, q167_96, q167_99, q167_100, q167_101, q167_102, q167_105, q167_106, q167_107, q167_108, q167_111, q167_117, q167_120, q167_121, n10, n01, Bool.false_eq_true, ab_bs, ab_bn, ab_pr0, ab_pr1, nl_n, nl_i, nl_r, nl_j, nl_nl, rc_123, gf_123_0, gf_123_1, pt_123_1, gf_123_2, pt_123_2, gf_123_3, pt_123_3, gf_123_4, pt_123_4, gf_123_5, pt_123_5, gf_123_6, pt_123_6, gf_123_7, pt_123_7, gf_123_8, pt_123_8, gf_123_9, gf_123_10, gf_123_11, gf_123_12, gf_123_13, pt_123_13_0, pt_123_13_1, gf_123_14, pt_123_14_0, pt_123_14_1, gf_123_15, gf_123_16, gf_123_17, gf_123_18, gf_123_19, gf_123_20, gf_123_21, gf_123_22, gf_123_23, gf_123_24, gf_123_25, pt_123_25, gf_123_26, gf_123_27, pt_123_27, gf_123_28, pt_123_28, gf_123_29, gf_123_30, pt_123_30, gf_123_31, pt_123_31, gf_123_32, pt_123_32, gf_123_33, pt_123_33, gf_123_34, pt_123_34_0, pt_123_34_1, gf_123_35, gf_123_36, gf_123_37, gf_123_38, pt_123_38, gf_123_39, pt_123_39, gf_123_40, pt_123_40, gf_123_41, gf_123_42, gf_123_43, gf_123_44, gf_123_45, gf_123_46, gf_123_47, pt_123_47, ln_141, al_141, si_141, y 123 30 (by decide), h30, h1, if_false, hi141, if_true, hcr]
    rw [z, q167_114]
    simp only [q167_0, q167_1, q167_2, q167_5, q167_6, q167_7, q167_10, q167_11, q167_12, q167_15, q167_16, q167_17, q167_20, q167_21, q167_24, q167_27, q167_29, q167_32, q167_33, q167_34, q167_35, q167_37, q167_38, q167_41, q167_44, q167_45, q167_48, q167_49, q167_50, q167_51, q167_52, q167_54, q167_55, q167_58, q167_60, q167_61, q167_64, q167_65, q167_68, q167_69, q167_70, q167_71, q167_72, q167_75, q167_76, q167_77, q167_78, q167_79, q167_80, q167_81, q167_82, q167_83, q167_84, q167_85, q167_86, q167_89, q167_90, q167_91, q167_93, q167_96, q167_99, q167_100, q167_101, q167_102, q167_105, q167_106, q167_107, q167_108, q167_111, q167_117, q167_120, q167_121, n10, n01, Bool.false_eq_true, ab_bs, ab_bn, ab_pr0, ab_pr1, nl_n, nl_i, nl_r, nl_j, nl_nl, nI_succ]
