/-! an EVENING of the reference, whole -/
def PW (n t : Nat) (N S : ab_M) : Prop := N 127 72 = nI n ∧ ((N 123 14 = 0 ∧ S 16 4 = 1) ∨ (N 123 14 ≠ 0 ∧ N 127 73 = S 16 4)) ∧ N 127 86 = nI t ∧ (∀ w, w < 9 → ∀ p, p < n → N 127 (9 * p + w) = S (18 + w) p) ∧ ∀ i, i < t → N 127 (74 + i) = S 27 i
def RF (n t : Nat) (N S : ab_M) : Prop := N 123 25 = S 30 10 ∧ N 123 27 = S 30 11 ∧ N 123 28 = S 30 7 ∧ (N 123 34 = 0 ↔ S 30 9 ≠ 0) ∧ ∀ p, p < n → N 138 p = S (33 + p) 0 ∧ N 139 p = S (33 + p) 7
def RZ (n t : Nat) (N S : ab_M) : Prop := RR n t 240 N S ∧ ∀ p, p < n → N 137 p = ia (oX S p)
def FG (N N' : ab_M) : Prop := (∀ c j, (c < 123 ∨ (123 < c ∧ c < 127) ∨ c = 128 ∨ 140 < c) → N' c j = N c j) ∧ (∀ j, ¬ (25 ≤ j ∧ j ≤ 34) → j ≠ 14 → N' 123 j = N 123 j) ∧ (∀ j, j ≠ 73 → N' 127 j = N 127 j) ∧ N' 123 14 ≠ 0
def okR (rule : Int32) : Prop := rule = 0 ∨ rule = 1 ∨ rule = 2 ∨ rule = 3 ∨ rule = 4 ∨ rule = 5 ∨ rule = 6
theorem awk_c {N : ab_M} {c j : Nat} (h : c ≠ 123) (h2 : ¬ (c = 127 ∧ j = 73)) : awk N c j = N c j := by
  unfold awk
  split
  · rw [up_n h, up_o _ _ _ _ _ _ h2]
  · rfl
theorem awk_123 {N : ab_M} {j : Nat} (h : j ≠ 14) : awk N 123 j = N 123 j := by
  unfold awk
  split
  · rw [up_o _ _ _ _ _ _ (fun q => h q.2), up_n (by decide)]
  · rfl
theorem awk_14 {N : ab_M} : awk N 123 14 ≠ 0 := by
  unfold awk
  split
  · rw [up_s]
    decide
  · assumption
theorem awk_73 {n t : Nat} {N S : ab_M} (h : PW n t N S) : awk N 127 73 = S 16 4 := by
  obtain ⟨-, h, -⟩ := h
  unfold awk
  rcases h with ⟨a, b⟩ | ⟨a, b⟩
  · rw [if_pos a, up_n (by decide), up_s, b]
  · rw [if_neg a, b]
theorem RR_begin {n t : Nat} {N S : ab_M} (hn : n ≤ 8) (hw : PW n t N S) (hv : PV n S) (hf : RF n t N S) : RR n t 0 (rs 8 (onF n (awk N)) (on0 (awk N))) (fo clG n (cl0 S)) := by
  have e73 := awk_73 hw
  obtain ⟨g1, -, g3, g4, g5⟩ := hw
  obtain ⟨f1, f2, f3, f4, f5⟩ := hf
  have eS : ∀ c j, c < 30 → fo clG n (cl0 S) c j = S c j := fun c j h => by rw [fo_clG, if_neg (by omega), cl0_o _ _ (by omega)]
  have e30 : ∀ j, fo clG n (cl0 S) 30 j = cl0 S 30 j := fun j => by rw [fo_clG, if_neg (by omega)]
  have es : ∀ p j, p < n → fo clG n (cl0 S) (33 + p) j = if 1 ≤ j ∧ j ≤ 4 then 0 else S (33 + p) j := by
    intro p j hp
    rw [fo_clG]
    by_cases h : 1 ≤ j ∧ j ≤ 4
    · rw [if_pos (by omega), if_pos h]
    · rw [if_neg (by omega), if_neg h, cl0_o _ _ (by omega)]
  have eN : ∀ j, rs 8 (onF n (awk N)) (on0 (awk N)) 127 j = awk N 127 j := fun j => by rw [rs_lo (by decide), on0_n (by decide)]
  have e3 : ∀ j, rs 8 (onF n (awk N)) (on0 (awk N)) 123 j = on0 (awk N) 123 j := fun j => by rw [rs_lo (by decide)]
  have ep : ∀ c p, p < n → 129 ≤ c → c ≤ 139 → rs 8 (onF n (awk N)) (on0 (awk N)) c p = onF n (awk N) c p := fun c p h a b => by rw [rs_i a b (by omega)]
  refine ⟨⟨by rw [eN, awk_c (by decide) (by decide), g1], by rw [eN, e73, eS _ _ (by decide)], by rw [eN, awk_c (by decide) (by decide), g3], fun w hw p hp => by rw [eN, awk_c (by decide) (by omega), g4 w hw p hp, eS _ _ (by omega)], fun i hi => by rw [eN, awk_c (by decide) (by omega), g5 i hi, eS _ _ (by decide)]⟩, ⟨fun p hp => by rw [eS _ _ (by decide), eS _ _ (by decide)]; exact hv.1 p hp, by rw [eS _ _ (by decide)]; exact hv.2⟩, ?_, fun p hp => ?_, ?_⟩
  · unfold RA
    simp only [e3, e30]
    unfold on0 cl0
    have a25 := awk_123 (N := N) (show 25 ≠ 14 by decide)
    have a27 := awk_123 (N := N) (show 27 ≠ 14 by decide)
    have a28 := awk_123 (N := N) (show 28 ≠ 14 by decide)
    have a34 := awk_123 (N := N) (show 34 ≠ 14 by decide)
    simp only [ab_up]
    simp [a25, a27, a28, a34, f1, f2, f3, f4]
  · obtain ⟨q1, q2⟩ := f5 p hp
    have h12 : fo clG n (cl0 S) 30 12 = 0 := by rw [e30]; simp [cl0, ab_up]
    unfold RP RE
    rw [h12]
    simp only [z0, es p _ hp, ep _ p hp (show 129 ≤ 132 by decide) (by decide), ep _ p hp (show 129 ≤ 133 by decide) (by decide), ep _ p hp (show 129 ≤ 134 by decide) (by decide), ep _ p hp (show 129 ≤ 135 by decide) (by decide), ep _ p hp (show 129 ≤ 136 by decide) (by decide), ep _ p hp (show 129 ≤ 138 by decide) (by decide), ep _ p hp (show 129 ≤ 139 by decide) (by decide), ep _ p hp (show 129 ≤ 129 by decide) (by decide), eS 22 _ (by decide)]
    have x4 : awk N 127 (9 * p + 4) = S 22 p := by rw [awk_c (by decide) (by omega)]; exact g4 4 (by decide) p hp
    have a38 : awk N 138 p = N 138 p := awk_c (by decide) (by omega)
    have a39 : awk N 139 p = N 139 p := awk_c (by decide) (by omega)
    refine ⟨by simp [onF], by simp [onF], by simp [onF], by simp [onF], by simp [onF, hp, x4], by simp [onF, a38, q1], by simp [onF, a39, q2], by simp [onF], fun h => by simp at h, fun g _ _ h => absurd h (by omega)⟩
  · intro r k hr hk
    rw [e30, show cl0 S 30 3 = 0 by simp [cl0, ab_up]] at hr
    exact absurd hr (by simp)
theorem RR_far {n t : Nat} {N S : ab_M} (h : RR n t 240 N S) : RZ n t (rs n (fzF N) N) S := by
  obtain ⟨⟨g1, g2, g3, g4, g5⟩, hv, hA, hP, hq⟩ := h
  have eN : ∀ c j, c < 129 → rs n (fzF N) N c j = N c j := fun c j h => rs_lo h
  have ep : ∀ c p, p < n → 129 ≤ c → c ≤ 139 → c ≠ 137 → rs n (fzF N) N c p = N c p := fun c p h a b d => by rw [rs_i a b h]; unfold fzF; rw [if_neg d]
  have e7 : ∀ p, p < n → rs n (fzF N) N 137 p = ia (oX S p) := by
    intro p hp
    rw [rs_i (by decide) (by decide) hp]
    unfold fzF
    obtain ⟨c, g, hcg, hg, h18, h19⟩ := hv.1 p hp
    have hro := rO_oX (hP p hp)
    obtain ⟨-, -, -, -, -, -, -, -, -, p10⟩ := hP p hp
    have x1 : N 127 (9 * p + 1) = S 19 p := g4 1 (by decide) p hp
    rw [if_pos rfl, x1, h19]
    by_cases e : nI g = 240
    · rw [if_pos e, hro]
    · rw [if_neg e]
      have : g ≠ 240 := by rintro rfl; exact e rfl
      exact (p10 g hg h19 (by omega)).1
  refine ⟨⟨⟨by rw [eN _ _ (by decide), g1], by rw [eN _ _ (by decide), g2], by rw [eN _ _ (by decide), g3], fun w hw p hp => by rw [eN _ _ (by decide), g4 w hw p hp], fun i hi => by rw [eN _ _ (by decide), g5 i hi]⟩, hv, ?_, fun p hp => ?_, fun r k hr hk => by rw [rs_hi (by decide)]; exact hq r k hr hk⟩, e7⟩
  · unfold RA at hA ⊢
    simp only [eN 123 _ (by decide)]
    exact hA
  · have hp9 := hP p hp
    unfold RP RE at hp9 ⊢
    rw [ep 132 p hp (by decide) (by decide) (by decide), ep 133 p hp (by decide) (by decide) (by decide), ep 134 p hp (by decide) (by decide) (by decide), ep 135 p hp (by decide) (by decide) (by decide), ep 136 p hp (by decide) (by decide) (by decide), ep 138 p hp (by decide) (by decide) (by decide), ep 139 p hp (by decide) (by decide) (by decide), ep 129 p hp (by decide) (by decide) (by decide), ep 130 p hp (by decide) (by decide) (by decide), ep 131 p hp (by decide) (by decide) (by decide), e7 p hp]
    obtain ⟨q1, q2, q3, q4, q5, q6, q7, q8, q9, q10⟩ := hp9
    exact ⟨q1, q2, q3, q4, q5, q6, q7, q8, q9, fun g a b c => ⟨rfl, (q10 g a b c).2⟩⟩
theorem FG_of {N N' : ab_M} (h : FR (awk N) N') : FG N N' := by
  obtain ⟨h1, h2⟩ := h
  refine ⟨fun c j hc => ?_, fun j hj hj2 => ?_, fun j hj => ?_, ?_⟩
  · rw [h1 c j (by omega), awk_c (by omega) (by omega)]
  · rw [h2 j (by omega), awk_123 hj2]
  · rw [h1 _ _ (by decide), awk_c (by decide) (fun q => hj q.2)]
  · rw [h2 14 (by decide)]
    exact awk_14
theorem rp_goesOn {scr : Option (List Int32)} {n t : Nat} {N S : ab_M} (hn : n ≤ 8) (hM : S 16 3 = nI n) (hb : bkV t S) (hl : ∃ b, b < 8 ∧ S 30 10 = nI b) (hw : PW n t N S) (hv : PV n S) (hf : RF n t N S) (rule : Int32) (hr : S 30 8 = rule) (hr2 : okR rule) : ∃ N', ab_ms scr 158 [.ref 123, .int rule] N = some (N', none) ∧ RZ n t N' (evC n S) ∧ FG N N' := by
  have hC0 := CI_clear hn hM hb hl
  have hR0 := RR_begin hn hw hv hf
  have hop := rp_opens (scr := scr) (awk N) n hn (by rw [awk_c (by decide) (by decide)]; exact hw.1)
  have h8 : fo clG n (cl0 S) 30 8 = rule := by
    rw [fo_clG, if_neg (by omega), ← hr]
    simp [cl0, ab_up]
  have hev : evC n S = fo (fun k S => mnC n (nI k) S) 240 (fo clG n (cl0 S)) := rfl
  have hfr : FR (awk N) (rs 8 (onF n (awk N)) (on0 (awk N))) := by
    refine FR_trans ?_ FR_rs
    unfold on0
    exact FR_trans (FR_trans (FR_trans (FR_up (by decide)) (FR_up (by decide))) (FR_up (by decide))) (FR_up (by decide))
  rw [hev]
  generalize fo clG n (cl0 S) = C0 at *
  generalize rs 8 (onF n (awk N)) (on0 (awk N)) = N0 at *
  have hx := rx (fun k (s : ab_M) => ab_res scr 158 5 s 10 [some (.ref 123), some (.int rule), some (.int (nI k))] []) (fun k s => RR n t k s (fo (fun k S => mnC n (nI k) S) k C0) ∧ FR (awk N) s) 240 N0 ⟨hR0, hfr⟩ (fun k s hk hs => ?_)
  · obtain ⟨N1, h1, h2, h3⟩ := hx
    refine ⟨rs n (fzF N1) N1, ?_, RR_far h2, FG_of (FR_trans h3 FR_rs)⟩
    rw [ms158]
    simp only [q158_0, q158_1, q158_4, q158_5, q158_8, q158_9, q158_11, q158_14, q158_17, q158_18, q158_19, q158_22, q158_23, q158_24, q158_25, q158_28, q158_31, q158_34, q158_35, q158_37, q158_38, q158_41, q158_43, q158_44, q158_47, q158_48, q158_51, q158_52, q158_53, q158_54, q158_55, q158_58, q158_61, q158_64, q158_65, q158_66, q158_69, q158_72, q158_75, q158_76, q158_79, q158_80, q158_81, q158_82, q158_85, q158_88, n10, n01, Bool.false_eq_true, ab_bs, ab_bn, ab_pr0, ab_pr1, nl_n, nl_i, nl_r, nl_j, nl_nl, rc_123, gf_123_0, gf_123_1, pt_123_1, gf_123_2, pt_123_2, gf_123_3, pt_123_3, gf_123_4, pt_123_4, gf_123_5, pt_123_5, gf_123_6, pt_123_6, gf_123_7, pt_123_7, gf_123_8, pt_123_8, gf_123_9, gf_123_10, gf_123_11, gf_123_12, gf_123_13, pt_123_13_0, pt_123_13_1, gf_123_14, pt_123_14_0, pt_123_14_1, gf_123_15, gf_123_16, gf_123_17, gf_123_18, gf_123_19, gf_123_20, gf_123_21, gf_123_22, gf_123_23, gf_123_24, gf_123_25, pt_123_25, gf_123_26, gf_123_27, pt_123_27, gf_123_28, pt_123_28, gf_123_29, gf_123_30, pt_123_30, gf_123_31, pt_123_31, gf_123_32, pt_123_32, gf_123_33, pt_123_33, gf_123_34, pt_123_34_0, pt_123_34_1, gf_123_35, gf_123_36, gf_123_37, gf_123_38, pt_123_38, gf_123_39, pt_123_39, gf_123_40, pt_123_40, gf_123_41, gf_123_42, gf_123_43, gf_123_44, gf_123_45, gf_123_46, gf_123_47, pt_123_47, rp_awake, hop]
    refine Eq.trans h1 ?_
    show ab_res scr 158 5 N1 10 _ [] = _
    rw [q158_10]
    simp only [q158_0, q158_1, q158_4, q158_5, q158_8, q158_9, q158_11, q158_14, q158_17, q158_18, q158_19, q158_22, q158_23, q158_24, q158_25, q158_28, q158_31, q158_34, q158_35, q158_37, q158_38, q158_41, q158_43, q158_44, q158_47, q158_48, q158_51, q158_52, q158_53, q158_54, q158_55, q158_58, q158_61, q158_64, q158_65, q158_66, q158_69, q158_72, q158_75, q158_76, q158_79, q158_80, q158_81, q158_82, q158_85, q158_88, n10, n01, Bool.false_eq_true, ab_bs, ab_bn, ab_pr0, ab_pr1, nl_n, nl_i, nl_r, nl_j, nl_nl, rc_123, gf_123_0, gf_123_1, pt_123_1, gf_123_2, pt_123_2, gf_123_3, pt_123_3, gf_123_4, pt_123_4, gf_123_5, pt_123_5, gf_123_6, pt_123_6, gf_123_7, pt_123_7, gf_123_8, pt_123_8, gf_123_9, gf_123_10, gf_123_11, gf_123_12, gf_123_13, pt_123_13_0, pt_123_13_1, gf_123_14, pt_123_14_0, pt_123_14_1, gf_123_15, gf_123_16, gf_123_17, gf_123_18, gf_123_19, gf_123_20, gf_123_21, gf_123_22, gf_123_23, gf_123_24, gf_123_25, pt_123_25, gf_123_26, gf_123_27, pt_123_27, gf_123_28, pt_123_28, gf_123_29, gf_123_30, pt_123_30, gf_123_31, pt_123_31, gf_123_32, pt_123_32, gf_123_33, pt_123_33, gf_123_34, pt_123_34_0, pt_123_34_1, gf_123_35, gf_123_36, gf_123_37, gf_123_38, pt_123_38, gf_123_39, pt_123_39, gf_123_40, pt_123_40, gf_123_41, gf_123_42, gf_123_43, gf_123_44, gf_123_45, gf_123_46, gf_123_47, pt_123_47, (show (240 : Int32) ≤ nI 240 by decide), if_true]
    exact rp_far N1 n hn h2.1.1 rule
  · obtain ⟨hR, hF⟩ := hs
    have hCk := CI_k hC0 k
    have h18 : ¬ (240 : Int32) ≤ nI k := nI_ge (b := 240) hk (by decide)
    have hA := RR_arrives hCk hk hR
    have ha := rp_arrives (scr := scr) s n hn hR.1.1 (nI k)
    have hk8 : cgC n (nI k) (fo (fun k S => mnC n (nI k) S) k C0) 30 8 = rule := by
      rw [cg_30 (by decide) (by decide), k_8, h8]
    obtain ⟨N2, e1, e2, e3⟩ := RR_one (scr := scr) (CI_cg hCk) hA (nI k) rule hk8 hr2
    refine ⟨N2, ?_, e2, FR_trans (FR_trans hF FR_rs) e3⟩
    rw [q158_10]
    simp only [q158_0, q158_1, q158_4, q158_5, q158_8, q158_9, q158_11, q158_14, q158_17, q158_18, q158_19, q158_22, q158_23, q158_24, q158_25, q158_28, q158_31, q158_34, q158_35, q158_37, q158_38, q158_41, q158_43, q158_44, q158_47, q158_48, q158_51, q158_52, q158_53, q158_54, q158_55, q158_58, q158_61, q158_64, q158_65, q158_66, q158_69, q158_72, q158_75, q158_76, q158_79, q158_80, q158_81, q158_82, q158_85, q158_88, n10, n01, Bool.false_eq_true, ab_bs, ab_bn, ab_pr0, ab_pr1, nl_n, nl_i, nl_r, nl_j, nl_nl, rc_123, gf_123_0, gf_123_1, pt_123_1, gf_123_2, pt_123_2, gf_123_3, pt_123_3, gf_123_4, pt_123_4, gf_123_5, pt_123_5, gf_123_6, pt_123_6, gf_123_7, pt_123_7, gf_123_8, pt_123_8, gf_123_9, gf_123_10, gf_123_11, gf_123_12, gf_123_13, pt_123_13_0, pt_123_13_1, gf_123_14, pt_123_14_0, pt_123_14_1, gf_123_15, gf_123_16, gf_123_17, gf_123_18, gf_123_19, gf_123_20, gf_123_21, gf_123_22, gf_123_23, gf_123_24, gf_123_25, pt_123_25, gf_123_26, gf_123_27, pt_123_27, gf_123_28, pt_123_28, gf_123_29, gf_123_30, pt_123_30, gf_123_31, pt_123_31, gf_123_32, pt_123_32, gf_123_33, pt_123_33, gf_123_34, pt_123_34_0, pt_123_34_1, gf_123_35, gf_123_36, gf_123_37, gf_123_38, pt_123_38, gf_123_39, pt_123_39, gf_123_40, pt_123_40, gf_123_41, gf_123_42, gf_123_43, gf_123_44, gf_123_45, gf_123_46, gf_123_47, pt_123_47, h18, if_false, ha, e1, nI_succ]
