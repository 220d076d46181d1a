/-! table: the loop of what stands behind -/
def clE (S S' : ab_M) : Prop := (∀ c j, ¬ (1 ≤ c ∧ c ≤ 15) → S' c j = S c j) ∧ S' 1 1 = S 1 1 ∧ ∀ j, S' 2 j = S 2 j
def rfE (N N' : ab_M) : Prop := (∀ c j, c ≠ 123 → c ≠ 128 → N' c j = N c j) ∧ ∀ j, ¬ (3 ≤ j ∧ j ≤ 8) → j ≠ 13 → N' 123 j = N 123 j
theorem clE_refl (S : ab_M) : clE S S := ⟨fun _ _ _ => rfl, rfl, fun _ => rfl⟩
theorem rfE_refl (N : ab_M) : rfE N N := ⟨fun _ _ _ _ => rfl, fun _ _ _ => rfl⟩
theorem clE_trans {A B C : ab_M} (h1 : clE A B) (h2 : clE B C) : clE A C := ⟨fun c j x => (h2.1 c j x).trans (h1.1 c j x), h2.2.1.trans h1.2.1, fun j => (h2.2.2 j).trans (h1.2.2 j)⟩
theorem rfE_trans {A B C : ab_M} (h1 : rfE A B) (h2 : rfE B C) : rfE A C := ⟨fun c j x y => (h2.1 c j x y).trans (h1.1 c j x y), fun j x y => (h2.2 j x y).trans (h1.2 j x y)⟩
theorem clE_cl {S S' : ab_M} (h : clF S S') : clE S S' := ⟨fun c j x => h c j (by omega) (by omega), h _ _ (by omega) (by omega), fun j => h _ _ (by omega) (by omega)⟩
theorem rfE_rf {N N' : ab_M} (h : rfF N N') : rfE N N' := ⟨fun c j x y => h c j (by omega), fun j x y => h _ _ (by omega)⟩
theorem rfE_d {N N' : ab_M} (h : dF N N') : rfE N N' := ⟨fun c j x y => h c j y, fun j x y => h _ _ (by decide)⟩
theorem clE_up {S : ab_M} {c j : Nat} {v : Int32} (h : 3 ≤ c ∧ c ≤ 15) : clE S (ab_up S c j v) := ⟨fun a i x => up_n (by omega), up_n (by omega), fun i => up_n (by omega)⟩
section
variable {B : Nat → Nat} {L : Nat}
theorem TC_clE {S S' : ab_M} (h : TC B L S) (hF : clE S S') : TC B L S' := TC_F h hF.2.1 hF.2.2
theorem TR_rfE {N N' : ab_M} (h : TR B L N) (hF : rfE N N') : TR B L N' := TR_F h (hF.2 1 (by decide) (by decide)) (fun j => hF.1 _ _ (by decide) (by decide))
theorem CT_rfE {N N' : ab_M} (h : CT N) (hF : rfE N N') : CT N' := CT_F h (fun j => hF.1 _ _ (by decide) (by decide)) (fun j => hF.1 _ _ (by decide) (by decide))
end
/-- the told page, in the class and in the reference -/
def TX (k m : Nat) (S N : ab_M) : Prop := pgV 4 6 k 0 0 S ∧ N 128 72 = nI m ∧ N 128 73 = S 4 4 ∧ (∀ w, w < 9 → ∀ p, p < k → N 128 (9 * p + w) = S (6 + w) p) ∧ S 3 4 = N 123 13 ∧ (S 3 4 = 0 ∨ S 3 4 = 1)
theorem pgV_S {k : Nat} {S S' : ab_M} (h : pgV 4 6 k 0 0 S) (h4 : ∀ j, S' 4 j = S 4 j) (h6 : ∀ w p, w < 9 → S' (6 + w) p = S (6 + w) p) : pgV 4 6 k 0 0 S' := by
  obtain ⟨a, b, c, d, e, f, g⟩ := h
  refine ⟨a, b, by rw [h4, c], by rw [h4, d], by rw [h4]; exact e, fun p hp => ?_, fun i hi => absurd hi (by omega)⟩
  have := f p hp
  unfold fok at this ⊢
  rw [show (6 : Nat) = 6 + 0 from rfl, h6 0 p (by decide), h6 1 p (by decide), h6 2 p (by decide), h6 3 p (by decide), h6 4 p (by decide), h6 5 p (by decide), h6 6 p (by decide), h6 7 p (by decide)]
  exact this
theorem TX_F {k m : Nat} {S S' N N' : ab_M} (h : TX k m S N) (hc : clF S S') (hr : rfF N N') : TX k m S' N' := by
  obtain ⟨a, b, c, d, e, f⟩ := h
  have y4 : ∀ j, S' 4 j = S 4 j := fun j => hc _ _ (by omega) (by omega)
  have y6 : ∀ w p, w < 9 → S' (6 + w) p = S (6 + w) p := fun w p hw => hc _ _ (by omega) (by omega)
  have y3 : S' 3 4 = S 3 4 := hc _ _ (by omega) (by omega)
  exact ⟨pgV_S a y4 y6, by rw [hr _ _ (by omega), b], by rw [hr _ _ (by omega), y4, c], fun w hw p hp => by rw [hr _ _ (by omega), y6 w p hw]; exact d w hw p hp, by rw [y3, hr _ _ (by omega), e], by rw [y3]; exact f⟩
theorem TX_st {k m w p v : Nat} {S N : ab_M} (h : TX k m S N) (hp : p < k) (hw : w < 3) (hv : v ≤ [999, 9, 1].getD w 0) : TX k m (ab_up S (6 + (w + 4)) p (nI v)) (ab_up N 128 (9 * p + (w + 4)) (nI v)) := by
  obtain ⟨a, b, c, d, e, f⟩ := h
  obtain ⟨a1, a2, a3, a4, a5, a6, a7⟩ := a
  have hk := a1
  refine ⟨⟨a1, a2, by rw [up_n (by omega), a3], by rw [up_n (by omega), a4], by rw [up_n (by omega)]; exact a5, fun q hq => ?_, fun i hi => absurd hi (by omega)⟩, by rw [up_o _ _ _ _ _ _ (by omega), b], by rw [up_o _ _ _ _ _ _ (by omega), up_n (by omega), c], fun w' hw' q hq => ?_, by rw [up_n (by omega), up_n (by decide), e], by rw [up_n (by omega)]; exact f⟩
  · obtain ⟨f1, f2, f3, f4, f5, f6, f7⟩ := a6 q hq
    by_cases x : q = p
    · subst x
      have : w = 0 ∨ w = 1 ∨ w = 2 := by omega
      rcases this with rfl | rfl | rfl
      · exact ⟨by rw [up_n (by decide), up_n (by decide)]; exact f1, by rw [up_n (by decide)]; exact f2, by rw [up_n (by decide)]; exact f3, ⟨v, hv, up_s _ _ _ _⟩, by rw [up_n (by decide)]; exact f5, by rw [up_n (by decide)]; exact f6, by rw [up_n (by decide)]; exact f7⟩
      · exact ⟨by rw [up_n (by decide), up_n (by decide)]; exact f1, by rw [up_n (by decide)]; exact f2, by rw [up_n (by decide)]; exact f3, by rw [up_n (by decide)]; exact f4, ⟨v, hv, up_s _ _ _ _⟩, by rw [up_n (by decide)]; exact f6, by rw [up_n (by decide)]; exact f7⟩
      · exact ⟨by rw [up_n (by decide), up_n (by decide)]; exact f1, by rw [up_n (by decide)]; exact f2, by rw [up_n (by decide)]; exact f3, by rw [up_n (by decide)]; exact f4, by rw [up_n (by decide)]; exact f5, ⟨v, hv, up_s _ _ _ _⟩, by rw [up_n (by decide)]; exact f7⟩
    · have y : ∀ c, ab_up S (6 + (w + 4)) p (nI v) c q = S c q := fun c => up_o _ _ _ _ _ _ (by omega)
      unfold fok
      simp only [y]
      exact ⟨f1, f2, f3, f4, f5, f6, f7⟩
  · by_cases x : w' = w + 4 ∧ q = p
    · rw [x.1, x.2, up_s, up_s]
    · rw [up_o _ _ _ _ _ _ (by omega), up_o _ _ _ _ _ _ (by omega)]
      exact d w' hw' q hq
section
variable {scr : Option (List Int32)} {B : Nat → Nat} {L : Nat}
/-- the rest of the reference's readLine finds, or keeps, the class's fault -/
def LF (scr : Option (List Int32)) (B : Nat → Nat) (L : Nat) (S N : ab_M) : Prop := ∀ l1, ∃ N', ab_res scr 131 6 N 66 [some (.ref 123), l1] [] = some (N', none) ∧ FT S N' ∧ DA B L N' ∧ rfE N N'
theorem LF_dead {S N : ab_M} (h : FT S N) (hA : DA B L N) : LF scr B L S N := fun l1 => by
  obtain ⟨d1, d2⟩ := FT_dead h
  have d := sp_dead (scr := scr) d1
  refine ⟨N, ?_, h, hA, rfE_refl N⟩
  rw [q131_66]
  simp only [q131_0, q131_1, q131_4, q131_5, q131_6, q131_9, q131_10, q131_11, q131_14, q131_15, q131_16, q131_19, q131_20, q131_21, q131_24, q131_25, q131_28, q131_31, q131_32, q131_35, q131_38, q131_39, q131_40, q131_43, q131_44, q131_45, q131_48, q131_49, q131_52, q131_53, q131_56, q131_58, q131_59, q131_60, q131_62, q131_65, q131_67, q131_70, q131_73, q131_74, q131_77, q131_78, q131_81, q131_82, q131_83, q131_86, q131_87, q131_90, n10, n01, Bool.false_eq_true, ab_bs, ab_bn, ab_pr0, ab_pr1, nl_n, nl_i, nl_r, nl_j, nl_nl, rc_123, gf_123_0, gf_123_1, pt_123_1, gf_123_2, pt_123_2, gf_123_3, pt_123_3, gf_123_4, pt_123_4, gf_123_5, pt_123_5, gf_123_6, pt_123_6, gf_123_7, pt_123_7, gf_123_8, pt_123_8, gf_123_9, gf_123_10, gf_123_11, gf_123_12, gf_123_13, pt_123_13_0, pt_123_13_1, gf_123_14, pt_123_14_0, pt_123_14_1, gf_123_15, gf_123_16, gf_123_17, gf_123_18, gf_123_19, gf_123_20, gf_123_21, gf_123_22, gf_123_23, gf_123_24, gf_123_25, pt_123_25, gf_123_26, gf_123_27, pt_123_27, gf_123_28, pt_123_28, gf_123_29, gf_123_30, pt_123_30, gf_123_31, pt_123_31, gf_123_32, pt_123_32, gf_123_33, pt_123_33, gf_123_34, pt_123_34_0, pt_123_34_1, gf_123_35, gf_123_36, gf_123_37, gf_123_38, pt_123_38, gf_123_39, pt_123_39, gf_123_40, pt_123_40, gf_123_41, gf_123_42, gf_123_43, gf_123_44, gf_123_45, gf_123_46, gf_123_47, pt_123_47, d2, not_false_eq_true, if_true, d]
theorem LF_tok {S N : ab_M} {a e : Nat} (hR : TR B L N) (hT : CT N) (hS : SP B L a e S) (hN : NP B L a e N) (hae : a ≤ e) (he : e ≤ L) (h3 : kd B L a e ≠ 3) (h4 : kd B L a e ≠ 4) : LF scr B L (ab_up (ab_up S 3 2 (nI 2)) 3 3 (S 1 4)) N := fun l1 => by
  obtain ⟨m1, m2⟩ := hN.2.2.1 h4
  have k4 := kd_le (B := B) (L := L) (a := a) (e := e)
  have y : ¬ nI (kd B L a e) = 3 := fun q => h3 ((nI_eq (a := kd B L a e) (b := 3) (by omega) (by decide)).mp q)
  have f := sp_fails (scr := scr) (N := N) (c := 2)
  rw [if_pos m1] at f
  have hF := ref_FT (f := 2) (by decide) (by decide) hS hN h4
  have d := sp_dead (scr := scr) (FT_dead hF).1
  have hD := DN_up (B := B) (f := 2) (v := N 123 6) hae he hN (by decide) (by decide)
  have f : ab_ms scr 125 [.ref 123, .int 2] N = some (ab_up (ab_up N 123 3 (nI 2)) 123 4 (N 123 6), none) := f
  have hr := up_rfF (N := N) (f := nI 2) (v := N 123 6)
  refine ⟨ab_up (ab_up N 123 3 (nI 2)) 123 4 (N 123 6), ?_, hF, ⟨TR_rfF hR hr, CT_rfE hT (rfE_rf hr), hD⟩, rfE_rf hr⟩
  rw [q131_66]
  simp only [q131_0, q131_1, q131_4, q131_5, q131_6, q131_9, q131_10, q131_11, q131_14, q131_15, q131_16, q131_19, q131_20, q131_21, q131_24, q131_25, q131_28, q131_31, q131_32, q131_35, q131_38, q131_39, q131_40, q131_43, q131_44, q131_45, q131_48, q131_49, q131_52, q131_53, q131_56, q131_58, q131_59, q131_60, q131_62, q131_65, q131_67, q131_70, q131_73, q131_74, q131_77, q131_78, q131_81, q131_82, q131_83, q131_86, q131_87, q131_90, n10, n01, Bool.false_eq_true, ab_bs, ab_bn, ab_pr0, ab_pr1, nl_n, nl_i, nl_r, nl_j, nl_nl, rc_123, gf_123_0, gf_123_1, pt_123_1, gf_123_2, pt_123_2, gf_123_3, pt_123_3, gf_123_4, pt_123_4, gf_123_5, pt_123_5, gf_123_6, pt_123_6, gf_123_7, pt_123_7, gf_123_8, pt_123_8, gf_123_9, gf_123_10, gf_123_11, gf_123_12, gf_123_13, pt_123_13_0, pt_123_13_1, gf_123_14, pt_123_14_0, pt_123_14_1, gf_123_15, gf_123_16, gf_123_17, gf_123_18, gf_123_19, gf_123_20, gf_123_21, gf_123_22, gf_123_23, gf_123_24, gf_123_25, pt_123_25, gf_123_26, gf_123_27, pt_123_27, gf_123_28, pt_123_28, gf_123_29, gf_123_30, pt_123_30, gf_123_31, pt_123_31, gf_123_32, pt_123_32, gf_123_33, pt_123_33, gf_123_34, pt_123_34_0, pt_123_34_1, gf_123_35, gf_123_36, gf_123_37, gf_123_38, pt_123_38, gf_123_39, pt_123_39, gf_123_40, pt_123_40, gf_123_41, gf_123_42, gf_123_43, gf_123_44, gf_123_45, gf_123_46, gf_123_47, pt_123_47, m1, m2, not_true, if_false, y, f, d]
theorem NP_128 {N : ab_M} {a e j : Nat} {v : Int32} (h : NP B L a e N) : NP B L a e (ab_up N 128 j v) := by
  obtain ⟨o1, o2, o3, o4, o5⟩ := h
  exact ⟨by rw [up_n (by decide), o1], by rw [up_n (by decide), o2], fun z => by rw [up_n (by decide), up_n (by decide)]; exact o3 z, fun z => by rw [up_n (by decide), up_n (by decide)]; exact o4 z, fun z => by rw [up_n (by decide)]; exact o5 z⟩
theorem here_np {N : ab_M} {a e : Nat} (hR : TR B L N) (hT : CT N) (hN : NP B L a e N) (hae : a ≤ e) (he : e ≤ L) : ∃ v, (kd B L a e ≠ 4 → NM B a e (kd B L a e) v) ∧ ab_ms scr 126 [.ref 123] N = some (N, some (.int v)) := by
  by_cases k4 : kd B L a e = 4
  · obtain ⟨v, h⟩ := dd_here (scr := scr) hR hT hN.1 hN.2.1 hae he
    exact ⟨v, fun x => absurd k4 x, h⟩
  · obtain ⟨v, h1, h2⟩ := sp_nameHere (scr := scr) hR hT hN.1 hN.2.1 (hN.2.2.1 k4).2 kd_le hae he
    exact ⟨v, fun _ => h1, h2⟩
theorem DA_of4 {N : ab_M} {a e : Nat} (hR : TR B L N) (hT : CT N) (hN : NP B L a e N) (hae : a ≤ e) (he : e ≤ L) (h4 : kd B L a e = 4) : DA B L N := ⟨hR, hT, by rw [(hN.2.2.2.1 h4).1]; decide, a, e, hae, he, hN.1, hN.2.1⟩
theorem FT_of4 {S N : ab_M} {a e : Nat} (hS : SP B L a e S) (hN : NP B L a e N) (h4 : kd B L a e = 4) : FT (ab_up (ab_up S 3 2 (nI (if kd B L a e = 4 then 1 else 2))) 3 3 (S 1 4)) N := by
  have := mis_FT hS hN
  rwa [if_neg (show ¬ N 123 3 = 0 by rw [(hN.2.2.2.1 h4).1]; decide)] at this
theorem with_both {n : Nat} (hn : n < 8) : ∀ d z i (S N : ab_M) (s a e : Nat) (v : Int32) (l4 : Option Value), pc3 z + d = 3 → i + d ≤ 3 → z < 8 → TC B L S → TR B L N → CT N → S 1 2 = nI s → TP B L s a e → NP B L a e N → (kd B L a e ≠ 4 → NM B a e (kd B L a e) v) → TX (n + 1) n S N → (∃ S' N' s' a' e', ab_res scr 63 7 S 4 [some (.ref 3), some (.int (nI n)), some (.int (nI (16 * z))), some (.int (nI i)), l4] [] = some (S', some (.int 1)) ∧ ab_res scr 130 5 N 161 [some (.ref 123), some (.int (nI (9 * n))), some (.int (nI (4 * z))), some (.int v)] [] = some (N', none) ∧ s ≤ s' ∧ S' 3 2 = S 3 2 ∧ TP B L s' a' e' ∧ SP B L a' e' S' ∧ NP B L a' e' N' ∧ kd B L a' e' = 3 ∧ TX (n + 1) (n + 1) S' N' ∧ clE S S' ∧ rfE N N') ∨ (∃ S' N', ab_res scr 63 7 S 4 [some (.ref 3), some (.int (nI n)), some (.int (nI (16 * z))), some (.int (nI i)), l4] [] = some (S', some (.int 0)) ∧ ab_res scr 130 5 N 161 [some (.ref 123), some (.int (nI (9 * n))), some (.int (nI (4 * z))), some (.int v)] [] = some (N', none) ∧ LF scr B L S' N' ∧ clE S S' ∧ rfE N N') := by
  intro d
  induction d using Nat.strongRecOn with
  | ind d ih =>
    intro z i S N s a e v l4 hd hi hz hC hR hT h2 hP hN hv hX
    obtain ⟨S1, t1, t2, t3, hS⟩ := tk_c (scr := scr) hC h2 hP
    have hC1 := TC_clF hC t2
    have hae := hP.2.1
    have he := hP.2.2.1
    have hL : L ≤ 320 := hC.1
    have k4 := kd_le (B := B) (L := L) (a := a) (e := e)
    by_cases q4 : kd B L a e = 4
    · -- a strange sign
      right
      have hnm : NM B a e (kd B L a e) (-4) := Or.inr ⟨rfl, fun w _ y => by omega⟩
      rcases sp_withFact (scr := scr) hC1 hS hae he hnm with ⟨w, w1, w2, w3, -⟩ | ⟨-, hf⟩
      · omega
      · have c := wl_none (scr := scr) (n := n) (i := i) (z := z) (l4 := l4) (by omega) t1 k4 hS.2.1 (by omega) hf
        have hA := DA_of4 hR hT hN hae he q4
        obtain ⟨N', r1, r2⟩ := dd_end (scr := scr) (l1 := some (.int (nI (9 * n)))) (l2 := some (.int (nI (4 * z)))) (x := v) hA
        refine ⟨_, N', c, r1, LF_dead (FT_F (FT_of4 hS hN q4) (r2 _ _ (by decide)) (r2 _ _ (by decide))) (DA_dF hA r2), clE_trans (clE_cl t2) (clE_cl up_clF), rfE_d r2⟩
    · have hv := hv q4
      obtain ⟨m1, m2⟩ := hN.2.2.1 q4
      rcases sp_withFact (scr := scr) hC1 hS hae he hv with ⟨w, w1, rfl, w3, hf⟩ | ⟨hlt, hf⟩
      · have s3 : S1 1 3 = 1 := by rw [hS.2.1, w3]; rfl
        obtain ⟨-, -, mz⟩ := msk z hz w w1
        by_cases hb : z.testBit w = true
        · -- told twice
          right
          have c := wl_twice (scr := scr) (n := n) (i := i) (l4 := l4) (by omega) w1 hz hb t1 s3 hf
          have hF := ref_FT (f := 4) (by decide) (by decide) hS hN q4
          have hD := DN_up (B := B) (f := 4) (v := N 123 6) hae he hN (by decide) (by decide)
          have hr := up_rfF (N := N) (f := nI 4) (v := N 123 6)
          have hA : DA B L (ab_up (ab_up N 123 3 (nI 4)) 123 4 (N 123 6)) := ⟨TR_rfF hR hr, CT_rfE hT (rfE_rf hr), hD⟩
          have hrw : ∃ N1, ab_ms scr 129 [.ref 123, .int (nI (9 * n)), .int (nI (w + 2))] (ab_up (ab_up N 123 3 (nI 4)) 123 4 (N 123 6)) = some (N1, none) ∧ dF (ab_up (ab_up N 123 3 (nI 4)) 123 4 (N 123 6)) N1 := by
            by_cases w2 : w < 2
            · exact ⟨_, rw_num hn w2 (sp_dead hD.1) (dd_num hD.1), dF_up⟩
            · have : w = 2 := by omega
              subst this
              exact ⟨_, rw_poor hn (sp_dead hD.1), dF_up⟩
          obtain ⟨N1, g1, g2⟩ := hrw
          have hA1 := DA_dF hA g2
          obtain ⟨o1, o2, o3, a', e', o4, o5, o6, o7⟩ := id hA1
          obtain ⟨v', hh⟩ := dd_here (scr := scr) o1 o2 o6 o7 o4 o5
          obtain ⟨tt, r1⟩ := rl_twice (scr := scr) m1 w1 hz hb g1 hh
          obtain ⟨N', r2, r3⟩ := dd_end (scr := scr) (l1 := some (.int (nI (9 * n)))) (l2 := some (.int tt)) (x := v') hA1
          have hd2 := dF_trans g2 r3
          exact ⟨_, N', c, r1.trans r2, LF_dead (FT_F hF (hd2 _ _ (by decide)) (hd2 _ _ (by decide))) (DA_dF hA hd2), clE_trans (clE_cl t2) (clE_cl up_clF), rfE_trans (rfE_rf hr) (rfE_d hd2)⟩
        · have hb : z.testBit w = false := Bool.not_eq_true _ ▸ hb
          obtain ⟨z1, z2, z3, z4⟩ := mz hb
          have hp3 : pc3 (z + 2 ^ w) ≤ 3 := by
            have : ∀ z, z < 8 → pc3 z ≤ 3 := by decide
            exact this _ z3
          have hpz : pc3 z + 1 = pc3 (z + 2 ^ w) := z4
          obtain ⟨N1, a1, e1, r1, r2, r3, r4⟩ := tk_r (scr := scr) hR m1 hN.1 he
          have hR1 := TR_rfF hR r2
          have hT1 := CT_rfE hT (rfE_rf r2)
          have hX1 := TX_F hX t2 r2
          by_cases w2 : w < 2
          · have hh : [999, 9].getD w 0 ≤ 1000 := by
              have : ∀ w, w < 2 → [999, 9].getD w 0 ≤ 1000 := by decide
              exact this w w2
            rcases rnum (scr := scr) (lo := 0) hC1 hR1 hS.1 r3 r4 (by omega) hh with ⟨x, S2, N2, a2, e2, x1, x2, d1, d2, d3, d4, d9, d5, d6, d7, d8⟩ | ⟨S2, N2, d1, d2, d3, d4, d5, d6⟩
            · have c := (wl_num (scr := scr) (S2 := S2) (l4 := l4) hn (show i < 320 by omega) w2 hz hb t1 s3 hf).1 d1
              rw [d4] at c
              have g1 := rw_num (scr := scr) hn w2 r1 d2
              have hX2 : TX (n + 1) n (ab_up S2 (6 + (w + 4)) n (nI x)) (ab_up N2 128 (9 * n + (w + 4)) (nI x)) := TX_st (TX_F hX1 d5 d6) (by omega) w1 (by
                have : ∀ w, w < 2 → [999, 9].getD w 0 ≤ [999, 9, 1].getD w 0 := by decide
                have := this w w2
                omega)
              have hN2 := NP_128 (j := 9 * n + (w + 4)) (v := nI x) d8
              have f1 : clE S (ab_up S2 (6 + (w + 4)) n (nI x)) := clE_trans (clE_cl (clF_trans t2 d5)) (clE_up (by omega))
              have f2 : rfE N (ab_up N2 128 (9 * n + (w + 4)) (nI x)) := rfE_trans (rfE_rf (rfF_trans r2 d6)) (rfE_d dF_up)
              have hC2 := TC_clE hC f1
              have hR2 := TR_rfE hR f2
              have hT2 := CT_rfE hT f2
              obtain ⟨v', hv', hh'⟩ := here_np (scr := scr) hR2 hT2 hN2 d7.2.1 d7.2.2.1
              have r := rl_step (scr := scr) m1 w1 hz hb g1 hh'
              have hs1 : s ≤ e1 := by
                have := hP.1
                have := r3.1
                have := r3.2.1
                omega
              rcases ih (d - 1) (by omega) (z + 2 ^ w) (i + 1) _ _ e1 a2 e2 v' (some (.int (nI (w + 4)))) (by omega) (by omega) z3 hC2 hR2 hT2 (by rw [up_n (by omega), d3]) d7 hN2 hv' hX2 with ⟨S', N', s', a', e', y1, y2, y3, y32, y4, y5, y6, y7, y8, y9, y10⟩ | ⟨S', N', y1, y2, y3, y4, y5⟩
              · exact Or.inl ⟨S', N', s', a', e', c.trans y1, r.trans y2, by omega, by rw [y32, up_n (by omega), d9, t3], y4, y5, y6, y7, y8, clE_trans f1 y9, rfE_trans f2 y10⟩
              · exact Or.inr ⟨S', N', c.trans y1, r.trans y2, y3, clE_trans f1 y4, rfE_trans f2 y5⟩
            · right
              have c := (wl_num (scr := scr) (S2 := S2) (l4 := l4) hn (show i < 320 by omega) w2 hz hb t1 s3 hf).2 d1
              have g1 := rw_num (scr := scr) hn w2 r1 d2
              have f2 : rfE N (ab_up N2 128 (9 * n + (w + 4)) (nI 0)) := rfE_trans (rfE_rf (rfF_trans r2 d5)) (rfE_d dF_up)
              have hA : DA B L (ab_up N2 128 (9 * n + (w + 4)) (nI 0)) := DA_dF ⟨TR_rfF hR1 d5, CT_rfE hT1 (rfE_rf d5), d6⟩ dF_up
              obtain ⟨o1, o2, o3, a', e', o4, o5, o6, o7⟩ := id hA
              obtain ⟨v', hh'⟩ := dd_here (scr := scr) o1 o2 o6 o7 o4 o5
              have r := rl_step (scr := scr) m1 w1 hz hb g1 hh'
              obtain ⟨N', y1, y2⟩ := dd_end (scr := scr) (l1 := some (.int (nI (9 * n)))) (l2 := some (.int (nI (4 * (z + 2 ^ w))))) (x := v') hA
              exact ⟨S2, N', c, r.trans y1, LF_dead (FT_F (FT_F d3 (up_n (by decide)) (up_n (by decide))) (y2 _ _ (by decide)) (y2 _ _ (by decide))) (DA_dF hA y2), clE_cl (clF_trans t2 d4), rfE_trans f2 (rfE_d y2)⟩
          · have : w = 2 := by omega
            subst this
            have c := wl_poor (scr := scr) (l4 := l4) hn (show i < 320 by omega) hz hb t1 s3 hf
            have g1 := rw_poor (scr := scr) hn r1
            have hX2 : TX (n + 1) n (ab_up S1 (6 + (2 + 4)) n (nI 1)) (ab_up N1 128 (9 * n + (2 + 4)) (nI 1)) := TX_st hX1 (by omega) (by decide) (by decide)
            have hN2 := NP_128 (j := 9 * n + (2 + 4)) (v := nI 1) r4
            have f1 : clE S (ab_up S1 (6 + (2 + 4)) n (nI 1)) := clE_trans (clE_cl t2) (clE_up (by omega))
            have f2 : rfE N (ab_up N1 128 (9 * n + (2 + 4)) (nI 1)) := rfE_trans (rfE_rf r2) (rfE_d dF_up)
            have hC2 := TC_clE hC f1
            have hR2 := TR_rfE hR f2
            have hT2 := CT_rfE hT f2
            obtain ⟨v', hv', hh'⟩ := here_np (scr := scr) hR2 hT2 hN2 r3.2.1 r3.2.2.1
            have r := rl_step (scr := scr) m1 w1 hz hb g1 hh'
            have hs1 : s ≤ e := by
              have := hP.1
              omega
            rcases ih (d - 1) (by omega) (z + 2 ^ 2) (i + 1) _ _ e a1 e1 v' (some (.int (nI (2 + 4)))) (by omega) (by omega) z3 hC2 hR2 hT2 (by rw [up_n (by omega)]; exact hS.1) r3 hN2 hv' hX2 with ⟨S', N', s', a', e', y1, y2, y3, y32, y4, y5, y6, y7, y8, y9, y10⟩ | ⟨S', N', y1, y2, y3, y4, y5⟩
            · exact Or.inl ⟨S', N', s', a', e', c.trans y1, r.trans y2, by omega, by rw [y32, up_n (by omega), t3], y4, y5, y6, y7, y8, clE_trans f1 y9, rfE_trans f2 y10⟩
            · exact Or.inr ⟨S', N', c.trans y1, r.trans y2, y3, clE_trans f1 y4, rfE_trans f2 y5⟩
      · -- no with: the sign, or a fault
        have r1 := rl_exit (scr := scr) (n := n) (l2 := some (.int (nI (4 * z)))) m1 hlt hX.2.1
        by_cases k3 : kd B L a e = 3
        · left
          have c := wl_sign (scr := scr) (n := n) (i := i) (z := z) (l4 := l4) (by omega) t1 (by rw [hS.2.1, k3]; rfl)
          obtain ⟨b1, b2, b3, b4, b5, b6⟩ := TX_F hX t2 (rfF_refl N)
          refine ⟨S1, _, s, a, e, c, r1, Nat.le_refl _, t3 2, hP, hS, NP_128 hN, k3, ⟨b1, up_s _ _ _ _, by rw [up_o _ _ _ _ _ _ (by decide), b3], fun w hw p hp => by rw [up_o _ _ _ _ _ _ (by omega)]; exact b4 w hw p hp, by rw [up_n (by decide), b5], b6⟩, clE_cl t2, rfE_d dF_up⟩
        · right
          have c := wl_none (scr := scr) (n := n) (i := i) (z := z) (l4 := l4) (by omega) t1 k4 hS.2.1 k3 hf
          rw [if_neg q4] at c
          have hr : dF N (ab_up N 128 72 (nI (n + 1))) := dF_up
          exact ⟨_, _, c, r1, LF_tok (TR_rfE hR (rfE_d hr)) (CT_rfE hT (rfE_d hr)) hS (NP_128 hN) hae he k3 q4, clE_trans (clE_cl t2) (clE_cl up_clF), rfE_d hr⟩
end
