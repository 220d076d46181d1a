/-! fridays -/
theorem ia_nn {x : Int32} (h : -2147483648 < x.toInt) : 0 ≤ (ia x).toInt := by
  unfold ia
  by_cases h0 : 0 ≤ x
  · rw [if_pos h0]
    rw [Int32.le_iff_toInt_le, show (0 : Int32).toInt = 0 by decide] at h0
    exact h0
  · rw [if_neg h0]
    rw [Int32.le_iff_toInt_le, show (0 : Int32).toInt = 0 by decide] at h0
    have := Int32.toInt_lt x
    rw [ti_sub (by rw [show (0 : Int32).toInt = 0 by decide]; omega) (by rw [show (0 : Int32).toInt = 0 by decide]; omega), show (0 : Int32).toInt = 0 by decide]
    omega
def mxV (n : Nat) (H : ab_M) : Int32 := fo (fun p s => if s < ia (oX H p) then ia (oX H p) else s) n 0
theorem wr_mx {n : Nat} {H : ab_M} (hn : n ≤ 8) (h : ∀ p, p < n → 0 ≤ (ia (oX H p)).toInt) : wrV n H = mxV n H := by
  have : ∀ k, k ≤ n → (k = 0 ∧ woV k H = -4 ∧ mxV k H = 0) ∨ ∃ j, j < k ∧ woV k H = nI j ∧ mxV k H = ia (oX H j) := by
    intro k
    induction k with
    | zero => intro _; exact Or.inl ⟨rfl, rfl, rfl⟩
    | succ k ih =>
      intro hk
      have hmx : mxV (k + 1) H = if mxV k H < ia (oX H k) then ia (oX H k) else mxV k H := rfl
      have hwo : woV (k + 1) H = am (fun _ => true) (fun p q => decide (ia (oX H q) < ia (oX H p))) k (woV k H) := rfl
      refine Or.inr ?_
      rw [hmx, hwo]
      rcases ih (by omega) with ⟨rfl, e1, e2⟩ | ⟨j, hj, e1, e2⟩
      · rw [e1, e2]
        refine ⟨0, by omega, am_4 rfl, ?_⟩
        by_cases q : (0 : Int32) < ia (oX H 0)
        · rw [if_pos q]
        · rw [if_neg q]
          have h0 := h 0 (by omega)
          apply Int32.toInt_inj.mp
          rw [Int32.lt_iff_toInt_lt] at q
          rw [show (0 : Int32).toInt = 0 by decide] at q ⊢
          omega
      · rw [e1, e2, am_j (by omega) rfl]
        by_cases q : ia (oX H j) < ia (oX H k)
        · exact ⟨k, by omega, by simp [q], by rw [if_pos q]⟩
        · exact ⟨j, by omega, by simp [q], by rw [if_neg q]⟩
  unfold wrV
  rcases this n (Nat.le_refl _) with ⟨-, e1, e2⟩ | ⟨j, hj, e1, e2⟩
  · rw [e1, e2, if_pos rfl]
  · rw [e1, e2, if_neg (by rw [nI_n4 (show j < 8 by omega)]; exact not_false), nI_clamp (by omega)]
def frS (n : Nat) (S : ab_M) : ab_M := sw n (coF (evC n S)) (evC n S)
def Sq (n : Nat) (rule seed : Int32) (M : ab_M) (k : Nat) : ab_M := fo (fun _ S => frS n S) k (opC n rule seed M)
theorem Sq_s (n : Nat) (rule seed : Int32) (M : ab_M) (k : Nat) : Sq n rule seed M (k + 1) = frS n (Sq n rule seed M k) := rfl
/-- what holds as a Friday begins -/
def SqI (n t : Nat) (K : Int) (M S : ab_M) (rule : Int32) (k : Nat) : Prop := FC M S ∧ (∃ b, b < 8 ∧ S 30 10 = nI b) ∧ S 30 8 = rule ∧ ∀ p, p < n → -(K + 31680 * k) ≤ (S (33 + p) 0).toInt ∧ (S (33 + p) 0).toInt ≤ K + 31680 * k
theorem SqI_0 {n t : Nat} {K : Int} {M : ab_M} (h : CR n t K M) (rule seed : Int32) : SqI n t K M (Sq n rule seed M 0) rule 0 := by
  refine ⟨FC_op (CR_n h), ⟨7, by decide, ?_⟩, ?_, fun p hp => ?_⟩
  · show opC n rule seed M 30 10 = _
    rw [op_30]
    rfl
  · show opC n rule seed M 30 8 = _
    rw [op_30]
    simp
  · show -(K + _) ≤ (opC n rule seed M (33 + p) 0).toInt ∧ (opC n rule seed M (33 + p) 0).toInt ≤ _
    rw [op_seat hp]
    obtain ⟨-, -, -, -, -, -, f7, f8⟩ := h.1.2.2.2.2.2.1 p hp
    have e : opF M p 0 = M 25 p := by simp [opF]
    rw [e]
    have f7 : -K ≤ (M 25 p).toInt := f7
    have f8 : (M 25 p).toInt ≤ K := f8
    omega
theorem ev_8 {n : Nat} {S : ab_M} : evC n S 30 8 = S 30 8 := by
  unfold evC
  rw [k_8, fo_clG, if_neg (by omega)]
  simp [cl0, ab_up]
theorem SqI_ev {n t : Nat} {K : Int} {M S : ab_M} {rule : Int32} {k : Nat} (h : CR n t K M) (hK : 0 ≤ K) (hK2 : K ≤ 100000000) (hk : k < 100) (hI : SqI n t K M S rule k) : CI n t (evC n S) ∧ FC S (evC n S) ∧ (∀ p, p < n → -(K + 31680 * ((k : Int) + 1)) ≤ (oX (evC n S) p).toInt ∧ (oX (evC n S) p).toInt ≤ K + 31680 * ((k : Int) + 1)) := by
  obtain ⟨i1, i2, i3, i4⟩ := hI
  have hn := CR_n h
  have hM : S 16 3 = nI n := by rw [i1 16 3 (by decide), CR_3 h]
  have hb : bkV t S := bkV_of (CR_bk h) (i1 16 5 (by decide)) (fun i => i1 27 i (by decide))
  have hB := BD_ev hn hM hb i2 (fun p hp => by rw [i1 20 p (by decide)]; exact (h.1.2.2.2.2.2.1 p hp).2.1)
  refine ⟨(sp_play (scr := none) S n t hn hM hb i2).2, FC_evC hn hM hb i2, fun p hp => ?_⟩
  obtain ⟨j1, j2⟩ := i4 p hp
  have ec := ca_ev hn hM hb i2 hp
  have := ou_bd (K := K + 31680 * k) (by omega) (by omega) hB hp (by rw [ec]; exact j1) (by rw [ec]; exact j2)
  omega
theorem SqI_s {n t : Nat} {K : Int} {M S : ab_M} {rule : Int32} {k : Nat} (h : CR n t K M) (hK : 0 ≤ K) (hK2 : K ≤ 100000000) (hk : k < 100) (hI : SqI n t K M S rule k) : SqI n t K M (frS n S) rule (k + 1) := by
  obtain ⟨c1, c2, c3⟩ := SqI_ev h hK hK2 hk hI
  obtain ⟨i1, i2, i3, i4⟩ := hI
  obtain ⟨-, -, -, ⟨b, hb, hb2⟩, -⟩ := c1
  have hn := CR_n h
  refine ⟨FC_trans i1 (FC_trans c2 (FC_sw hn)), ⟨b, hb, ?_⟩, ?_, fun p hp => ?_⟩
  · unfold frS
    rw [sw_c (by decide), hb2]
  · unfold frS
    rw [sw_c (by decide), ev_8, i3]
  · unfold frS
    rw [sw_i hp]
    have e : coF (evC n S) p 0 = oX (evC n S) p := by simp [coF]
    rw [e]
    have := c3 p hp
    rw [show ((k + 1 : Nat) : Int) = (k : Int) + 1 by omega]
    exact this
theorem SqI_k {n t : Nat} {K : Int} {M : ab_M} (h : CR n t K M) (hK : 0 ≤ K) (hK2 : K ≤ 100000000) (rule seed : Int32) : ∀ k, k ≤ 60 → SqI n t K M (Sq n rule seed M k) rule k := by
  intro k
  induction k with
  | zero => intro _; exact SqI_0 h rule seed
  | succ k ih => intro hk; exact SqI_s h hK hK2 (by omega) (ih (by omega))
/-! the sums over Fridays -/
def wv (n : Nat) (rule seed : Int32) (M : ab_M) (k : Nat) : Int32 := wrV n (evC n (Sq n rule seed M k))
def f1 (v : Nat → Int32) (k : Nat) : Int32 := fo (fun k _ => v k) k 0
def f2 (v : Nat → Int32) (k : Nat) : Int32 := fo (fun k s => if s < v k then v k else s) k 0
def f3 (v : Nat → Int32) (k : Nat) : Int32 := fo (fun k s => if v k = 0 ∧ s = -4 then nI (k + 1) else s) k (-4)
def f4 (c : Nat → Int32) (k : Nat) : Int32 := fo (fun k s => s + c k) k 0
theorem f1_s (v : Nat → Int32) (k : Nat) : f1 v (k + 1) = v k := rfl
theorem f2_s (v : Nat → Int32) (k : Nat) : f2 v (k + 1) = if f2 v k < v k then v k else f2 v k := rfl
theorem f3_s (v : Nat → Int32) (k : Nat) : f3 v (k + 1) = if v k = 0 ∧ f3 v k = -4 then nI (k + 1) else f3 v k := rfl
theorem f4_s (c : Nat → Int32) (k : Nat) : f4 c (k + 1) = f4 c k + c k := rfl
def cv (n : Nat) (rule seed : Int32) (M : ab_M) (k : Nat) : Int32 := evC n (Sq n rule seed M k) 30 4
theorem fd_c {scr : Option (List Int32)} {n t : Nat} {K : Int} {M : ab_M} (h : CR n t K M) (hK : 0 ≤ K) (hK2 : K ≤ 100000000) (rule seed what : Int32) (m : Nat) (hm : m ≤ 60) : ab_res scr 99 7 (opC n rule seed M) 56 [some (.ref 0), some (.int rule), some (.int seed), some (.int (nI m)), some (.int what), some (.int 0), some (.int 0), some (.int (-4)), some (.int 0), some (.int (nI (0 + 1)))] [] = ab_res scr 99 7 (Sq n rule seed M m) 56 [some (.ref 0), some (.int rule), some (.int seed), some (.int (nI m)), some (.int what), some (.int (f1 (wv n rule seed M) m)), some (.int (f2 (wv n rule seed M) m)), some (.int (f3 (wv n rule seed M) m)), some (.int (f4 (cv n rule seed M) m)), some (.int (nI (m + 1)))] [] := by
  refine Eq.trans ?_ (rn (fun k => ab_res scr 99 7 (Sq n rule seed M k) 56 [some (.ref 0), some (.int rule), some (.int seed), some (.int (nI m)), some (.int what), some (.int (f1 (wv n rule seed M) k)), some (.int (f2 (wv n rule seed M) k)), some (.int (f3 (wv n rule seed M) k)), some (.int (f4 (cv n rule seed M) k)), some (.int (nI (k + 1)))] []) m (fun k hk => ?_))
  · rfl
  · have hI := SqI_k h hK hK2 rule seed k (by omega)
    obtain ⟨c1, c2, c3⟩ := SqI_ev h hK hK2 (by omega) hI
    obtain ⟨i1, i2, i3, i4⟩ := hI
    have hn := CR_n h
    have hM : Sq n rule seed M k 16 3 = nI n := by rw [i1 16 3 (by decide), CR_3 h]
    have hb : bkV t (Sq n rule seed M k) := bkV_of (CR_bk h) (i1 16 5 (by decide)) (fun i => i1 27 i (by decide))
    have e1 := (sp_play (scr := scr) (Sq n rule seed M k) n t hn hM hb i2).1
    have e2 := sp_worst (scr := scr) (evC n (Sq n rule seed M k)) n hn c1.2.1
    have e3 := sp_carryOn (scr := scr) (evC n (Sq n rule seed M k)) n hn c1.2.1
    have ew : wrV n (evC n (Sq n rule seed M k)) = wv n rule seed M k := rfl
    have ec : evC n (Sq n rule seed M k) 30 4 = cv n rule seed M k := rfl
    have es : sw n (coF (evC n (Sq n rule seed M k))) (evC n (Sq n rule seed M k)) = Sq n rule seed M (k + 1) := rfl
    rw [ew] at e2
    rw [es] at e3
    have h1 : ¬ nI m < nI (k + 1) := nI_nlt (by omega) (by omega)
    generalize evC n (Sq n rule seed M k) = E at *
    rw [f1_s, f2_s, f3_s, f4_s, show nI (k + 1 + 1) = nI (k + 1) + 1 from nI_succ (k + 1)]
    generalize hki : nI (k + 1) = ki at *
    by_cases hz : wv n rule seed M k = 0
    · by_cases hf : f3 (wv n rule seed M) k = -4
      · rw [q99_56]
        simp only [q99_0, q99_1, q99_3, q99_6, q99_9, q99_10, q99_11, q99_14, q99_15, q99_17, q99_20, q99_22, q99_23, q99_26, q99_29, q99_30, q99_31, q99_32, q99_34, q99_35, q99_37, q99_39, q99_41, q99_42, q99_44, q99_45, q99_48, q99_49, q99_50, q99_53, q99_54, q99_58, q99_59, q99_62, q99_63, q99_66, q99_69, q99_70, q99_73, q99_76, q99_78, q99_80, q99_82, q99_85, q99_87, q99_89, q99_92, q99_94, q99_96, q99_99, q99_101, q99_103, q99_105, q99_106, q99_109, q99_112, q99_113, q99_115, q99_116, q99_119, q99_122, q99_125, q99_128, q99_156, q99_158, q99_159, q99_161, q99_162, q99_164, q99_165, q99_167, q99_130, n10, n01, Bool.false_eq_true, ab_bs, ab_bn, ab_pr0, ab_pr1, nl_n, nl_i, nl_r, nl_j, nl_nl, rc_0, gf_0_0, gf_0_1, gf_0_2, gf_0_3, gf_0_4, gf_0_5, gf_0_6, gf_0_7, gf_0_8, gf_0_9, pt_0_9, rc_30, gf_30_0, gf_30_1, gf_30_2, gf_30_3, pt_30_3, gf_30_4, pt_30_4, gf_30_5, pt_30_5, gf_30_6, pt_30_6, gf_30_7, pt_30_7, gf_30_8, pt_30_8, gf_30_9, pt_30_9_0, pt_30_9_1, gf_30_10, pt_30_10, gf_30_11, pt_30_11, gf_30_12, pt_30_12, gf_30_13, pt_30_13, h1, if_false, e1, e2, hz, hf, not_true, ec, e3, and_self, if_true]
      · rw [q99_56]
        simp only [q99_0, q99_1, q99_3, q99_6, q99_9, q99_10, q99_11, q99_14, q99_15, q99_17, q99_20, q99_22, q99_23, q99_26, q99_29, q99_30, q99_31, q99_32, q99_34, q99_35, q99_37, q99_39, q99_41, q99_42, q99_44, q99_45, q99_48, q99_49, q99_50, q99_53, q99_54, q99_58, q99_59, q99_62, q99_63, q99_66, q99_69, q99_70, q99_73, q99_76, q99_78, q99_80, q99_82, q99_85, q99_87, q99_89, q99_92, q99_94, q99_96, q99_99, q99_101, q99_103, q99_105, q99_106, q99_109, q99_112, q99_113, q99_115, q99_116, q99_119, q99_122, q99_125, q99_128, q99_156, q99_158, q99_159, q99_161, q99_162, q99_164, q99_165, q99_167, q99_130, n10, n01, Bool.false_eq_true, ab_bs, ab_bn, ab_pr0, ab_pr1, nl_n, nl_i, nl_r, nl_j, nl_nl, rc_0, gf_0_0, gf_0_1, gf_0_2, gf_0_3, gf_0_4, gf_0_5, gf_0_6, gf_0_7, gf_0_8, gf_0_9, pt_0_9, rc_30, gf_30_0, gf_30_1, gf_30_2, gf_30_3, pt_30_3, gf_30_4, pt_30_4, gf_30_5, pt_30_5, gf_30_6, pt_30_6, gf_30_7, pt_30_7, gf_30_8, pt_30_8, gf_30_9, pt_30_9_0, pt_30_9_1, gf_30_10, pt_30_10, gf_30_11, pt_30_11, gf_30_12, pt_30_12, gf_30_13, pt_30_13, h1, if_false, e1, e2, hz, hf, not_true, not_false_eq_true, ec, e3, and_false, if_true]
    · rw [q99_56]
      simp only [q99_0, q99_1, q99_3, q99_6, q99_9, q99_10, q99_11, q99_14, q99_15, q99_17, q99_20, q99_22, q99_23, q99_26, q99_29, q99_30, q99_31, q99_32, q99_34, q99_35, q99_37, q99_39, q99_41, q99_42, q99_44, q99_45, q99_48, q99_49, q99_50, q99_53, q99_54, q99_58, q99_59, q99_62, q99_63, q99_66, q99_69, q99_70, q99_73, q99_76, q99_78, q99_80, q99_82, q99_85, q99_87, q99_89, q99_92, q99_94, q99_96, q99_99, q99_101, q99_103, q99_105, q99_106, q99_109, q99_112, q99_113, q99_115, q99_116, q99_119, q99_122, q99_125, q99_128, q99_156, q99_158, q99_159, q99_161, q99_162, q99_164, q99_165, q99_167, q99_130, n10, n01, Bool.false_eq_true, ab_bs, ab_bn, ab_pr0, ab_pr1, nl_n, nl_i, nl_r, nl_j, nl_nl, rc_0, gf_0_0, gf_0_1, gf_0_2, gf_0_3, gf_0_4, gf_0_5, gf_0_6, gf_0_7, gf_0_8, gf_0_9, pt_0_9, rc_30, gf_30_0, gf_30_1, gf_30_2, gf_30_3, pt_30_3, gf_30_4, pt_30_4, gf_30_5, pt_30_5, gf_30_6, pt_30_6, gf_30_7, pt_30_7, gf_30_8, pt_30_8, gf_30_9, pt_30_9_0, pt_30_9_1, gf_30_10, pt_30_10, gf_30_11, pt_30_11, gf_30_12, pt_30_12, gf_30_13, pt_30_13, h1, if_false, e1, e2, hz, not_false_eq_true, ec, e3, false_and, if_true]
