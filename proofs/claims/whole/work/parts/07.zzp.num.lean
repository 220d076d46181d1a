/-! table: numbers -/
def SP (B : Nat → Nat) (L a e : Nat) (S : ab_M) : Prop := S 1 2 = nI e ∧ S 1 3 = nI (kd B L a e) ∧ S 1 4 = nI a ∧ (kd B L a e = 2 → S 1 5 = nI (nv B a (e - a)))
def NP (B : Nat → Nat) (L a e : Nat) (N : ab_M) : Prop := N 123 5 = nI e ∧ N 123 6 = nI a ∧ (kd B L a e ≠ 4 → N 123 3 = 0 ∧ N 123 7 = nI (kd B L a e)) ∧ (kd B L a e = 4 → N 123 3 = 1 ∧ N 123 4 = nI a) ∧ (kd B L a e = 2 → N 123 8 = nI (nv B a (e - a)))
def FT (S N : ab_M) : Prop := ∃ f, 1 ≤ f ∧ f ≤ 5 ∧ S 3 2 = nI f ∧ N 123 3 = nI f ∧ S 3 3 = N 123 4
def clF (S S' : ab_M) : Prop := ∀ c j, ¬ (c = 1 ∧ 2 ≤ j ∧ j ≤ 5) → ¬ (c = 3 ∧ 2 ≤ j ∧ j ≤ 3) → S' c j = S c j
def rfF (N N' : ab_M) : Prop := ∀ c j, ¬ (c = 123 ∧ 3 ≤ j ∧ j ≤ 8) → N' c j = N c j
theorem clF_refl (S : ab_M) : clF S S := fun _ _ _ _ => rfl
theorem rfF_refl (S : ab_M) : rfF S S := fun _ _ _ => rfl
theorem clF_trans {A B C : ab_M} (h1 : clF A B) (h2 : clF B C) : clF A C := fun c j x y => (h2 c j x y).trans (h1 c j x y)
theorem rfF_trans {A B C : ab_M} (h1 : rfF A B) (h2 : rfF B C) : rfF A C := fun c j x => (h2 c j x).trans (h1 c j x)
section
variable {scr : Option (List Int32)} {B : Nat → Nat} {L : Nat}
theorem TC_F {S S' : ab_M} (h : TC B L S) (h1 : S' 1 1 = S 1 1) (h2 : ∀ j, S' 2 j = S 2 j) : TC B L S' := ⟨h.1, by rw [h1, h.2.1], fun i hi => by rw [h2]; exact h.2.2 i hi⟩
theorem TR_F {N N' : ab_M} (h : TR B L N) (h1 : N' 123 1 = N 123 1) (h2 : ∀ j, N' 124 j = N 124 j) : TR B L N' := ⟨h.1, by rw [h1, h.2.1], fun i hi => by rw [h2]; exact h.2.2 i hi⟩
theorem TC_clF {S S' : ab_M} (h : TC B L S) (hF : clF S S') : TC B L S' := TC_F h (hF _ _ (by omega) (by omega)) (fun j => hF _ _ (by omega) (by omega))
theorem TR_rfF {N N' : ab_M} (h : TR B L N) (hF : rfF N N') : TR B L N' := TR_F h (hF _ _ (by omega)) (fun j => hF _ _ (by omega))
/-- the class takes the token that the reference has -/
theorem tk_c {S : ab_M} {s a e : Nat} (hT : TC B L S) (h2 : S 1 2 = nI s) (hP : TP B L s a e) : ∃ S', ab_ms scr 72 [.ref 1] S = some (S', none) ∧ clF S S' ∧ (∀ j, S' 3 j = S 3 j) ∧ SP B L a e S' := by
  obtain ⟨S', e1, e2, e3⟩ := sp_tkc (scr := scr) hT h2 hP
  exact ⟨S', e1, fun c j x _ => e2 c j x, fun j => e2 3 j (by omega), e3⟩
theorem tk_r {N : ab_M} {e : Nat} (hT : TR B L N) (h3 : N 123 3 = 0) (h5 : N 123 5 = nI e) (he : e ≤ L) : ∃ N' a' e', ab_ms scr 127 [.ref 123] N = some (N', none) ∧ rfF N N' ∧ TP B L e a' e' ∧ NP B L a' e' N' := by
  obtain ⟨a', e', hP⟩ := tp_ex B he
  obtain ⟨N', e1, e2, e3⟩ := sp_tkr (scr := scr) hT h3 h5 hP
  exact ⟨N', a', e', e1, e2, hP, e3⟩
theorem sp_refuse {S : ab_M} {f : Int32} : ab_ms scr 68 [.ref 3, .int f] S = some (ab_up (ab_up S 3 2 f) 3 3 (S 1 4), some (.int 0)) := by
  rw [ms68]
  simp only [q68_0, q68_1, q68_2, q68_5, q68_6, q68_7, q68_10, q68_13, q68_16, q68_17, n10, n01, Bool.false_eq_true, ab_bs, ab_bn, ab_pr0, ab_pr1, nl_n, nl_i, nl_r, nl_j, nl_nl, rc_1, gf_1_0, gf_1_1, pt_1_1, gf_1_2, pt_1_2, gf_1_3, pt_1_3, gf_1_4, pt_1_4, gf_1_5, pt_1_5, rc_3, gf_3_0, gf_3_1, gf_3_2, pt_3_2, gf_3_3, pt_3_3, gf_3_4, pt_3_4_0, pt_3_4_1, up_n (show 1 ≠ 3 by decide), narrow_b0]
theorem sp_mis {S : ab_M} {k : Nat} (hk : k ≤ 4) (h : S 1 3 = nI k) : ab_ms scr 67 [.ref 3] S = some (ab_up (ab_up S 3 2 (nI (if k = 4 then 1 else 2))) 3 3 (S 1 4), some (.int 0)) := by
  rw [ms67]
  by_cases x : k = 4
  · have x2 : nI k = 4 := by rw [x]; rfl
    simp only [q67_0, q67_1, q67_2, q67_5, q67_8, q67_9, q67_12, q67_13, q67_16, q67_17, q67_20, n10, n01, Bool.false_eq_true, ab_bs, ab_bn, ab_pr0, ab_pr1, nl_n, nl_i, nl_r, nl_j, nl_nl, rc_1, gf_1_0, gf_1_1, pt_1_1, gf_1_2, pt_1_2, gf_1_3, pt_1_3, gf_1_4, pt_1_4, gf_1_5, pt_1_5, rc_3, gf_3_0, gf_3_1, gf_3_2, pt_3_2, gf_3_3, pt_3_3, gf_3_4, pt_3_4_0, pt_3_4_1, h, x2, not_true, if_false, sp_refuse, narrow_b0, x, if_true]
    rfl
  · have x2 : ¬ nI k = 4 := fun y => x ((nI_eq (a := k) (b := 4) (by omega) (by decide)).mp y)
    simp only [q67_0, q67_1, q67_2, q67_5, q67_8, q67_9, q67_12, q67_13, q67_16, q67_17, q67_20, n10, n01, Bool.false_eq_true, ab_bs, ab_bn, ab_pr0, ab_pr1, nl_n, nl_i, nl_r, nl_j, nl_nl, rc_1, gf_1_0, gf_1_1, pt_1_1, gf_1_2, pt_1_2, gf_1_3, pt_1_3, gf_1_4, pt_1_4, gf_1_5, pt_1_5, rc_3, gf_3_0, gf_3_1, gf_3_2, pt_3_2, gf_3_3, pt_3_3, gf_3_4, pt_3_4_0, pt_3_4_1, h, x2, not_false_eq_true, if_false, sp_refuse, narrow_b0, x, if_true]
    rfl
theorem mis_FT {S N : ab_M} {a e : Nat} (hS : SP B L a e S) (hN : NP B L a e N) : FT (ab_up (ab_up S 3 2 (nI (if kd B L a e = 4 then 1 else 2))) 3 3 (S 1 4)) (if N 123 3 = 0 then ab_up (ab_up N 123 3 2) 123 4 (N 123 6) else N) := by
  obtain ⟨s1, s2, s3, s4⟩ := hS
  obtain ⟨n1, n2, n3, n4, n5⟩ := hN
  by_cases x : kd B L a e = 4
  · obtain ⟨m1, m2⟩ := n4 x
    rw [if_pos x, if_neg (by rw [m1]; decide)]
    exact ⟨1, by decide, by decide, by rw [up_o _ _ _ _ _ _ (by decide), up_s], by rw [m1]; rfl, by rw [up_s, s3, m2]⟩
  · obtain ⟨m1, m2⟩ := n3 x
    rw [if_neg x, if_pos m1]
    exact ⟨2, by decide, by decide, by rw [up_o _ _ _ _ _ _ (by decide), up_s], by rw [up_o _ _ _ _ _ _ (by decide), up_s]; rfl, by rw [up_s, up_s, s3, n2]⟩
theorem ref_FT {S N : ab_M} {a e f : Nat} (h1 : 1 ≤ f) (h5 : f ≤ 5) (hS : SP B L a e S) (hN : NP B L a e N) (hk : kd B L a e ≠ 4) : FT (ab_up (ab_up S 3 2 (nI f)) 3 3 (S 1 4)) (ab_up (ab_up N 123 3 (nI f)) 123 4 (N 123 6)) := ⟨f, h1, h5, by rw [up_o _ _ _ _ _ _ (by decide), up_s], by rw [up_o _ _ _ _ _ _ (by decide), up_s], by rw [up_s, up_s, hS.2.2.1, hN.2.1]⟩
theorem up_clF {S : ab_M} {f v : Int32} : clF S (ab_up (ab_up S 3 2 f) 3 3 v) := fun c j x y => by rw [up_o _ _ _ _ _ _ (by omega), up_o _ _ _ _ _ _ (by omega)]
theorem up_rfF {N : ab_M} {f v : Int32} : rfF N (ab_up (ab_up N 123 3 f) 123 4 v) := fun c j x => by rw [up_o _ _ _ _ _ _ (by omega), up_o _ _ _ _ _ _ (by omega)]
theorem FT_dead {S N : ab_M} (h : FT S N) : ¬ N 123 3 ≤ 0 ∧ ¬ N 123 3 = 0 := by
  obtain ⟨f, f1, f2, -, f3, -⟩ := h
  rw [f3]
  exact ⟨nI_nle f1 (by omega), nI_ne0 f1 (by omega)⟩
/-- after a fault: the reference stands where it stood -/
def DN (L : Nat) (N : ab_M) : Prop := ¬ N 123 3 ≤ 0 ∧ ∃ a e, a ≤ e ∧ e ≤ L ∧ N 123 5 = nI e ∧ N 123 6 = nI a
theorem DN_up {N : ab_M} {a e f : Nat} {v : Int32} (h1 : a ≤ e) (h2 : e ≤ L) (hN : NP B L a e N) (f1 : 1 ≤ f) (f5 : f ≤ 5) : DN L (ab_up (ab_up N 123 3 (nI f)) 123 4 v) := ⟨by rw [up_o _ _ _ _ _ _ (by decide), up_s]; exact nI_nle f1 (by omega), a, e, h1, h2, by rw [up_o _ _ _ _ _ _ (by decide), up_o _ _ _ _ _ _ (by decide), hN.1], by rw [up_o _ _ _ _ _ _ (by decide), up_o _ _ _ _ _ _ (by decide), hN.2.1]⟩
theorem DN_mis {S N : ab_M} {a e : Nat} (h1 : a ≤ e) (h2 : e ≤ L) (hN : NP B L a e N) (hF : FT S (if N 123 3 = 0 then ab_up (ab_up N 123 3 2) 123 4 (N 123 6) else N)) : DN L (if N 123 3 = 0 then ab_up (ab_up N 123 3 2) 123 4 (N 123 6) else N) := by
  refine ⟨(FT_dead hF).1, a, e, h1, h2, ?_, ?_⟩
  · split
    · rw [up_o _ _ _ _ _ _ (by decide), up_o _ _ _ _ _ _ (by decide), hN.1]
    · exact hN.1
  · split
    · rw [up_o _ _ _ _ _ _ (by decide), up_o _ _ _ _ _ _ (by decide), hN.2.1]
    · exact hN.2.1
/-- a number that is asked for -/
theorem rnum {S N : ab_M} {s a e lo hi : Nat} (hC : TC B L S) (hR : TR B L N) (h2 : S 1 2 = nI s) (hP : TP B L s a e) (hN : NP B L a e N) (hlo : lo ≤ 1000) (hhi : hi ≤ 1000) : (∃ v S' N' a' e', lo ≤ v ∧ v ≤ hi ∧ ab_ms scr 66 [.ref 3, .int (nI lo), .int (nI hi)] S = some (S', some (.int 1)) ∧ ab_ms scr 128 [.ref 123, .int (nI lo), .int (nI hi)] N = some (N', some (.int (nI v))) ∧ S' 1 2 = nI e ∧ S' 1 5 = nI v ∧ S' 3 2 = S 3 2 ∧ clF S S' ∧ rfF N N' ∧ TP B L e a' e' ∧ NP B L a' e' N') ∨ (∃ S' N', ab_ms scr 66 [.ref 3, .int (nI lo), .int (nI hi)] S = some (S', some (.int 0)) ∧ ab_ms scr 128 [.ref 123, .int (nI lo), .int (nI hi)] N = some (N', some (.int (nI lo))) ∧ FT S' N' ∧ clF S S' ∧ rfF N N' ∧ DN L N') := by
  obtain ⟨S1, c1, c2, c3, hS⟩ := tk_c (scr := scr) hC h2 hP
  have hS' := hS
  have hN' := hN
  obtain ⟨s1, s2, s3, s4⟩ := hS
  obtain ⟨n1, n2, n3, n4, n5⟩ := hN
  have hL : L ≤ 320 := hC.1
  have k4 := kd_le (B := B) (L := L) (a := a) (e := e)
  by_cases k2 : kd B L a e = 2
  · obtain ⟨m1, m2⟩ := n3 (by omega)
    have s4 := s4 k2
    have n5 := n5 k2
    have vb : nv B a (e - a) ≤ 999 := by
      have := nv_lt (B := B) (a := a) (e - a) (fun j hj => by
        unfold kd at k2
        by_cases x : a < L
        · rw [if_pos x] at k2
          by_cases q : isL (B a) = true
          · rw [if_pos q] at k2; omega
          · rw [if_neg q] at k2
            by_cases r : isF (B a) = true
            · exact (hP.2.2.2.2.2.2.2.1 x (Bool.not_eq_true _ ▸ q) r).1 (a + j) (by omega) (by omega)
            · rw [if_neg r] at k2
              split at k2 <;> omega
        · rw [if_neg x] at k2; omega)
      have h3 : e - a ≤ 3 := by
        unfold kd at k2
        split at k2
        · split at k2
          · omega
          · split at k2
            · split at k2
              · assumption
              · omega
            · split at k2 <;> omega
        · omega
      have : e - a = 0 ∨ e - a = 1 ∨ e - a = 2 ∨ e - a = 3 := by omega
      rcases this with z | z | z | z <;> rw [z] at this ⊢ <;> simp at this <;> rw [z] at * <;> omega
    generalize nv B a (e - a) = v at *
    rw [k2] at s2 m2
    by_cases hv : lo ≤ v ∧ v ≤ hi
    · obtain ⟨N2, a', e', r1, r2, r3, r4⟩ := tk_r (scr := scr) hR m1 n1 hP.2.2.1
      left
      refine ⟨v, S1, N2, a', e', hv.1, hv.2, ?_, ?_, s1, s4, c3 2, c2, r2, r3, r4⟩
      · have y1 : ¬ nI v < nI lo := nI_nlt hv.1 (by omega)
        have y2 : nI v ≤ nI hi := nI_le hv.2 (by omega)
        rw [ms66]
        simp only [q66_0, q66_1, q66_4, q66_7, q66_8, q66_11, q66_14, q66_15, q66_18, q66_19, q66_22, q66_23, q66_24, q66_27, q66_30, q66_31, q66_34, q66_35, q66_38, q66_41, q66_42, q66_45, q66_46, q66_47, q66_50, q66_53, q66_54, q66_57, q66_58, n10, n01, Bool.false_eq_true, ab_bs, ab_bn, ab_pr0, ab_pr1, nl_n, nl_i, nl_r, nl_j, nl_nl, rc_1, gf_1_0, gf_1_1, pt_1_1, gf_1_2, pt_1_2, gf_1_3, pt_1_3, gf_1_4, pt_1_4, gf_1_5, pt_1_5, rc_3, gf_3_0, gf_3_1, gf_3_2, pt_3_2, gf_3_3, pt_3_3, gf_3_4, pt_3_4_0, pt_3_4_1, c1, s2, (show nI 2 = 2 from rfl), if_true, s4, y1, y2, if_false, narrow_b1]
      · have y1 : nI lo ≤ nI v ∧ nI v ≤ nI hi := ⟨nI_le hv.1 (by omega), nI_le hv.2 (by omega)⟩
        rw [ms128]
        simp only [q128_0, q128_1, q128_4, q128_7, q128_8, q128_11, q128_12, q128_15, q128_16, q128_17, q128_20, q128_21, q128_24, q128_27, q128_28, q128_31, q128_32, q128_33, q128_34, q128_35, q128_36, q128_39, q128_42, q128_43, q128_44, q128_47, q128_48, q128_51, q128_54, q128_55, q128_58, q128_61, q128_62, q128_63, q128_64, q128_67, q128_68, n10, n01, Bool.false_eq_true, ab_bs, ab_bn, ab_pr0, ab_pr1, nl_n, nl_i, nl_r, nl_j, nl_nl, rc_123, gf_123_0, gf_123_1, pt_123_1, gf_123_2, pt_123_2, gf_123_3, pt_123_3, gf_123_4, pt_123_4, gf_123_5, pt_123_5, gf_123_6, pt_123_6, gf_123_7, pt_123_7, gf_123_8, pt_123_8, gf_123_9, gf_123_10, gf_123_11, gf_123_12, gf_123_13, pt_123_13_0, pt_123_13_1, gf_123_14, pt_123_14_0, pt_123_14_1, gf_123_15, gf_123_16, gf_123_17, gf_123_18, gf_123_19, gf_123_20, gf_123_21, gf_123_22, gf_123_23, gf_123_24, gf_123_25, pt_123_25, gf_123_26, gf_123_27, pt_123_27, gf_123_28, pt_123_28, gf_123_29, gf_123_30, pt_123_30, gf_123_31, pt_123_31, gf_123_32, pt_123_32, gf_123_33, pt_123_33, gf_123_34, pt_123_34_0, pt_123_34_1, gf_123_35, gf_123_36, gf_123_37, gf_123_38, pt_123_38, gf_123_39, pt_123_39, gf_123_40, pt_123_40, gf_123_41, gf_123_42, gf_123_43, gf_123_44, gf_123_45, gf_123_46, gf_123_47, pt_123_47, m1, m2, (show nI 2 = 2 from rfl), not_true, if_true, if_false, n5, sp_in, i64_le, y1, and_self, not_false_eq_true, (show ¬ (1 : Int32) = 0 by decide), r1]
    · right
      have hdead : ¬ (ab_up (ab_up N 123 3 3) 123 4 (N 123 6)) 123 3 ≤ 0 := by
        rw [up_o _ _ _ _ _ _ (by decide), up_s]
        decide
      have hne : ¬ (ab_up (ab_up N 123 3 3) 123 4 (N 123 6)) 123 3 = 0 := by
        rw [up_o _ _ _ _ _ _ (by decide), up_s]
        decide
      refine ⟨ab_up (ab_up S1 3 2 (nI 3)) 3 3 (S1 1 4), ab_up (ab_up N 123 3 (nI 3)) 123 4 (N 123 6), ?_, ?_, ref_FT (by decide) (by decide) hS' hN' (by omega), clF_trans c2 up_clF, up_rfF, DN_up hP.2.1 hP.2.2.1 hN' (by decide) (by decide)⟩
      · rw [ms66]
        by_cases y1 : v < lo
        · have y1 : nI v < nI lo := nI_lt y1 (by omega)
          simp only [q66_0, q66_1, q66_4, q66_7, q66_8, q66_11, q66_14, q66_15, q66_18, q66_19, q66_22, q66_23, q66_24, q66_27, q66_30, q66_31, q66_34, q66_35, q66_38, q66_41, q66_42, q66_45, q66_46, q66_47, q66_50, q66_53, q66_54, q66_57, q66_58, n10, n01, Bool.false_eq_true, ab_bs, ab_bn, ab_pr0, ab_pr1, nl_n, nl_i, nl_r, nl_j, nl_nl, rc_1, gf_1_0, gf_1_1, pt_1_1, gf_1_2, pt_1_2, gf_1_3, pt_1_3, gf_1_4, pt_1_4, gf_1_5, pt_1_5, rc_3, gf_3_0, gf_3_1, gf_3_2, pt_3_2, gf_3_3, pt_3_3, gf_3_4, pt_3_4_0, pt_3_4_1, c1, s2, (show nI 2 = 2 from rfl), if_true, s4, y1, sp_refuse, narrow_b0]
          rfl
        · have y2 : ¬ nI v ≤ nI hi := nI_ge (by omega) (by omega)
          have y1 : ¬ nI v < nI lo := nI_nlt (by omega) (by omega)
          simp only [q66_0, q66_1, q66_4, q66_7, q66_8, q66_11, q66_14, q66_15, q66_18, q66_19, q66_22, q66_23, q66_24, q66_27, q66_30, q66_31, q66_34, q66_35, q66_38, q66_41, q66_42, q66_45, q66_46, q66_47, q66_50, q66_53, q66_54, q66_57, q66_58, n10, n01, Bool.false_eq_true, ab_bs, ab_bn, ab_pr0, ab_pr1, nl_n, nl_i, nl_r, nl_j, nl_nl, rc_1, gf_1_0, gf_1_1, pt_1_1, gf_1_2, pt_1_2, gf_1_3, pt_1_3, gf_1_4, pt_1_4, gf_1_5, pt_1_5, rc_3, gf_3_0, gf_3_1, gf_3_2, pt_3_2, gf_3_3, pt_3_3, gf_3_4, pt_3_4_0, pt_3_4_1, c1, s2, (show nI 2 = 2 from rfl), if_true, s4, y1, y2, if_false, sp_refuse, narrow_b0]
          rfl
      · have y1 : ¬ (nI lo ≤ nI v ∧ nI v ≤ nI hi) := fun y => hv ⟨(nI_leI (by omega) (by omega)).mp y.1, (nI_leI (by omega) (by omega)).mp y.2⟩
        have d := sp_dead (scr := scr) hdead
        rw [ms128]
        simp only [q128_0, q128_1, q128_4, q128_7, q128_8, q128_11, q128_12, q128_15, q128_16, q128_17, q128_20, q128_21, q128_24, q128_27, q128_28, q128_31, q128_32, q128_33, q128_34, q128_35, q128_36, q128_39, q128_42, q128_43, q128_44, q128_47, q128_48, q128_51, q128_54, q128_55, q128_58, q128_61, q128_62, q128_63, q128_64, q128_67, q128_68, n10, n01, Bool.false_eq_true, ab_bs, ab_bn, ab_pr0, ab_pr1, nl_n, nl_i, nl_r, nl_j, nl_nl, rc_123, gf_123_0, gf_123_1, pt_123_1, gf_123_2, pt_123_2, gf_123_3, pt_123_3, gf_123_4, pt_123_4, gf_123_5, pt_123_5, gf_123_6, pt_123_6, gf_123_7, pt_123_7, gf_123_8, pt_123_8, gf_123_9, gf_123_10, gf_123_11, gf_123_12, gf_123_13, pt_123_13_0, pt_123_13_1, gf_123_14, pt_123_14_0, pt_123_14_1, gf_123_15, gf_123_16, gf_123_17, gf_123_18, gf_123_19, gf_123_20, gf_123_21, gf_123_22, gf_123_23, gf_123_24, gf_123_25, pt_123_25, gf_123_26, gf_123_27, pt_123_27, gf_123_28, pt_123_28, gf_123_29, gf_123_30, pt_123_30, gf_123_31, pt_123_31, gf_123_32, pt_123_32, gf_123_33, pt_123_33, gf_123_34, pt_123_34_0, pt_123_34_1, gf_123_35, gf_123_36, gf_123_37, gf_123_38, pt_123_38, gf_123_39, pt_123_39, gf_123_40, pt_123_40, gf_123_41, gf_123_42, gf_123_43, gf_123_44, gf_123_45, gf_123_46, gf_123_47, pt_123_47, m1, m2, (show nI 2 = 2 from rfl), not_true, if_true, if_false, n5, sp_in, i64_le, y1, sp_fails, hne, not_false_eq_true, d]
        rfl
  · right
    have kn : ¬ nI (kd B L a e) = 2 := fun y => k2 ((nI_eq (a := kd B L a e) (b := 2) (by omega) (by decide)).mp y)
    have hf := mis_FT hS' hN'
    obtain ⟨hd1, hd2⟩ := FT_dead hf
    have d := sp_dead (scr := scr) hd1
    have hm := sp_mis (scr := scr) k4 s2
    refine ⟨_, _, ?_, ?_, hf, clF_trans c2 up_clF, ?_, DN_mis hP.2.1 hP.2.2.1 hN' hf⟩
    · rw [ms66]
      simp only [q66_0, q66_1, q66_4, q66_7, q66_8, q66_11, q66_14, q66_15, q66_18, q66_19, q66_22, q66_23, q66_24, q66_27, q66_30, q66_31, q66_34, q66_35, q66_38, q66_41, q66_42, q66_45, q66_46, q66_47, q66_50, q66_53, q66_54, q66_57, q66_58, n10, n01, Bool.false_eq_true, ab_bs, ab_bn, ab_pr0, ab_pr1, nl_n, nl_i, nl_r, nl_j, nl_nl, rc_1, gf_1_0, gf_1_1, pt_1_1, gf_1_2, pt_1_2, gf_1_3, pt_1_3, gf_1_4, pt_1_4, gf_1_5, pt_1_5, rc_3, gf_3_0, gf_3_1, gf_3_2, pt_3_2, gf_3_3, pt_3_3, gf_3_4, pt_3_4_0, pt_3_4_1, c1, s2, kn, if_false, hm, narrow_b0]
    · rw [ms128]
      by_cases k5 : kd B L a e = 4
      · obtain ⟨m1, m2⟩ := n4 k5
        have m3 : ¬ N 123 3 = 0 := by rw [m1]; decide
        rw [if_neg m3] at d ⊢
        simp only [q128_0, q128_1, q128_4, q128_7, q128_8, q128_11, q128_12, q128_15, q128_16, q128_17, q128_20, q128_21, q128_24, q128_27, q128_28, q128_31, q128_32, q128_33, q128_34, q128_35, q128_36, q128_39, q128_42, q128_43, q128_44, q128_47, q128_48, q128_51, q128_54, q128_55, q128_58, q128_61, q128_62, q128_63, q128_64, q128_67, q128_68, n10, n01, Bool.false_eq_true, ab_bs, ab_bn, ab_pr0, ab_pr1, nl_n, nl_i, nl_r, nl_j, nl_nl, rc_123, gf_123_0, gf_123_1, pt_123_1, gf_123_2, pt_123_2, gf_123_3, pt_123_3, gf_123_4, pt_123_4, gf_123_5, pt_123_5, gf_123_6, pt_123_6, gf_123_7, pt_123_7, gf_123_8, pt_123_8, gf_123_9, gf_123_10, gf_123_11, gf_123_12, gf_123_13, pt_123_13_0, pt_123_13_1, gf_123_14, pt_123_14_0, pt_123_14_1, gf_123_15, gf_123_16, gf_123_17, gf_123_18, gf_123_19, gf_123_20, gf_123_21, gf_123_22, gf_123_23, gf_123_24, gf_123_25, pt_123_25, gf_123_26, gf_123_27, pt_123_27, gf_123_28, pt_123_28, gf_123_29, gf_123_30, pt_123_30, gf_123_31, pt_123_31, gf_123_32, pt_123_32, gf_123_33, pt_123_33, gf_123_34, pt_123_34_0, pt_123_34_1, gf_123_35, gf_123_36, gf_123_37, gf_123_38, pt_123_38, gf_123_39, pt_123_39, gf_123_40, pt_123_40, gf_123_41, gf_123_42, gf_123_43, gf_123_44, gf_123_45, gf_123_46, gf_123_47, pt_123_47, m3, not_false_eq_true, if_true, d]
      · obtain ⟨m1, m2⟩ := n3 k5
        have f2 := sp_fails (scr := scr) (N := N) (c := 2)
        rw [if_pos m1] at d hd2 f2 ⊢
        generalize ab_up (ab_up N 123 3 2) 123 4 (N 123 6) = N2 at *
        simp only [q128_0, q128_1, q128_4, q128_7, q128_8, q128_11, q128_12, q128_15, q128_16, q128_17, q128_20, q128_21, q128_24, q128_27, q128_28, q128_31, q128_32, q128_33, q128_34, q128_35, q128_36, q128_39, q128_42, q128_43, q128_44, q128_47, q128_48, q128_51, q128_54, q128_55, q128_58, q128_61, q128_62, q128_63, q128_64, q128_67, q128_68, n10, n01, Bool.false_eq_true, ab_bs, ab_bn, ab_pr0, ab_pr1, nl_n, nl_i, nl_r, nl_j, nl_nl, rc_123, gf_123_0, gf_123_1, pt_123_1, gf_123_2, pt_123_2, gf_123_3, pt_123_3, gf_123_4, pt_123_4, gf_123_5, pt_123_5, gf_123_6, pt_123_6, gf_123_7, pt_123_7, gf_123_8, pt_123_8, gf_123_9, gf_123_10, gf_123_11, gf_123_12, gf_123_13, pt_123_13_0, pt_123_13_1, gf_123_14, pt_123_14_0, pt_123_14_1, gf_123_15, gf_123_16, gf_123_17, gf_123_18, gf_123_19, gf_123_20, gf_123_21, gf_123_22, gf_123_23, gf_123_24, gf_123_25, pt_123_25, gf_123_26, gf_123_27, pt_123_27, gf_123_28, pt_123_28, gf_123_29, gf_123_30, pt_123_30, gf_123_31, pt_123_31, gf_123_32, pt_123_32, gf_123_33, pt_123_33, gf_123_34, pt_123_34_0, pt_123_34_1, gf_123_35, gf_123_36, gf_123_37, gf_123_38, pt_123_38, gf_123_39, pt_123_39, gf_123_40, pt_123_40, gf_123_41, gf_123_42, gf_123_43, gf_123_44, gf_123_45, gf_123_46, gf_123_47, pt_123_47, m1, m2, kn, not_true, if_false, f2, hd2, not_false_eq_true, if_true, d]
    · split
      · exact up_rfF
      · exact rfF_refl N
end
