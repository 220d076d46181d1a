/-! hold and evenings -/
def FC (M M' : ab_M) : Prop := ∀ c j, (c < 30 ∨ 80 < c) → M' c j = M c j
theorem FC_refl (M : ab_M) : FC M M := fun _ _ _ => rfl
theorem FC_trans {A B C : ab_M} (h1 : FC A B) (h2 : FC B C) : FC A C := fun c j h => (h2 c j h).trans (h1 c j h)
theorem FC_up {M : ab_M} {c j : Nat} {v : Int32} (h : 30 ≤ c ∧ c ≤ 80) : FC M (ab_up M c j v) := fun a i ha => up_n (by omega)
theorem FC_sw {n : Nat} {F : Nat → Nat → Int32} {M : ab_M} (hn : n ≤ 8) : FC M (sw n F M) := fun c j h => sw_n (by omega)
theorem FC_nt {m bu co got : Int32} {M : ab_M} (h : (M 30 3).toNatClampNeg < 40) : FC M (ntC m bu co got M) := by
  unfold ntC
  exact FC_trans (FC_trans (FC_trans (FC_trans (FC_trans (FC_trans (FC_trans (FC_up (by omega)) (FC_up (by omega))) (FC_up (by omega))) (FC_up (by omega))) (FC_up (by omega))) (FC_up (by decide))) (FC_up (by decide))) (FC_up (by decide))
theorem FC_pu {n : Nat} {got m : Int32} {M : ab_M} (hn : n ≤ 8) : FC M (puC n got m M) := FC_trans (FC_sw hn) (FC_up (by decide))
theorem FC_py {b : Nat} {co : Int32} {M : ab_M} (hb : b < 8) : FC M (pyC b co M) := FC_trans (FC_trans (FC_trans (FC_up (by omega)) (FC_up (by omega))) (FC_up (by omega))) (FC_up (by decide))
theorem FC_ev {n : Nat} {M : ab_M} : FC M (evX n M) := FC_up (by decide)
theorem FC_rd {n t : Nat} {m : Int32} {S : ab_M} (hC : CI n t S) : FC S (rdC n m S) := by
  unfold rdC
  by_cases hw : wtC S = true
  · rw [if_pos hw]
    obtain ⟨hw1, hw2⟩ := wt_at hw
    obtain ⟨hn, -, -, -, ⟨i, hi, hi2⟩, -⟩ := id hC
    have hi3 : i < 40 := by
      rw [hi2] at hw2
      exact (nI_ltI (b := 40) (by omega) (by decide)).mp hw2
    have hic : (S 30 3).toNatClampNeg < 40 := by rw [hi2, nI_clamp (by omega)]; exact hi3
    by_cases hr : S 30 8 = 6
    · rw [if_pos hr]
      by_cases h0 : owN n S = 0
      · rw [if_pos h0]
        exact FC_up (by decide)
      · rw [if_neg h0]
        exact FC_trans (FC_trans (FC_trans (FC_nt hic) (FC_pu hn)) (FC_sw hn)) FC_ev
    · rw [if_neg hr]
      by_cases h0 : abC n (prC n (S 30 13) S) S = 0
      · rw [if_pos h0]
        exact FC_up (by decide)
      · rw [if_neg h0]
        obtain ⟨w, hwn, hwb, -⟩ := by_ok hC h0
        rw [hwb, nI_clamp (by omega)]
        have hb : FC S (byM S) := by
          unfold byM
          split
          · exact FC_up (by decide)
          · exact FC_refl S
        exact FC_trans (FC_trans (FC_trans (FC_trans hb (FC_nt (by rw [byM_30 (by decide)]; exact hic))) (FC_pu hn)) (FC_py (by omega))) FC_ev
  · rw [if_neg hw]
    exact FC_refl S
theorem FC_cg {n : Nat} {m : Int32} {S : ab_M} (hn : n ≤ 8) : FC S (cgC n m S) := fun c j h => by
  unfold cgC
  rw [sw_n (by omega), cgB_n (by omega)]
theorem FC_evC {n t : Nat} {M : ab_M} (hn : n ≤ 8) (hM : M 16 3 = nI n) (ht : bkV t M) (hb : ∃ b, b < 8 ∧ M 30 10 = nI b) : FC M (evC n M) := by
  have hC0 := CI_clear hn hM ht hb
  have h0 : FC M (fo clG n (cl0 M)) := fun c j h => by rw [fo_clG, if_neg (by omega), cl0_o _ _ (by omega)]
  unfold evC
  generalize fo clG n (cl0 M) = C0 at *
  have : ∀ k, FC M (fo (fun k S => mnC n (nI k) S) k C0) := by
    intro k
    induction k with
    | zero => exact h0
    | succ k ih => exact FC_trans ih (FC_trans (FC_cg hn) (FC_rd (CI_cg (CI_k hC0 k))))
  exact this 240
theorem op_lo {n : Nat} {rule seed : Int32} {M : ab_M} {c j : Nat} (h : c < 30) : opC n rule seed M c j = M c j := by
  unfold opC
  rw [sw_c (by omega), op0_n (by omega)]
theorem op_30 {n : Nat} {rule seed : Int32} {M : ab_M} {j : Nat} : opC n rule seed M 30 j = if j = 11 then 0 else if j = 10 then 7 else if j = 9 then 1 else if j = 7 then seed else if j = 8 then rule else M 30 j := by
  unfold opC op0
  rw [sw_c (by decide), up_ll, up_ll, up_ll, up_ll, up_ll]
theorem op_seat {n : Nat} {rule seed : Int32} {M : ab_M} {p j : Nat} (hp : p < n) : opC n rule seed M (33 + p) j = opF M p j := by
  unfold opC
  rw [sw_i hp]
theorem FC_op {n : Nat} {rule seed : Int32} {M : ab_M} (hn : n ≤ 8) : FC M (opC n rule seed M) := fun c j h => by
  unfold opC
  rw [sw_n (by omega), op0_n (by omega)]
theorem bkV_of {t : Nat} {M M' : ab_M} (h : bkV t M) (h1 : M' 16 5 = M 16 5) (h2 : ∀ i, M' 27 i = M 27 i) : bkV t M' := by
  obtain ⟨a, b, c⟩ := h
  exact ⟨a, by rw [h1, b], fun i hi => by rw [h2]; exact c i hi⟩
def hoC (n : Nat) (rule seed : Int32) (M : ab_M) : ab_M := evC n (opC n rule seed M)
theorem sp_hold {scr : Option (List Int32)} (M : ab_M) (n t : Nat) (hn : n ≤ 8) (hM : M 16 3 = nI n) (ht : bkV t M) (rule seed : Int32) : ab_ms scr 113 [.ref 0, .int rule, .int seed] M = some (hoC n rule seed M, none) ∧ CI n t (hoC n rule seed M) ∧ FC M (hoC n rule seed M) := by
  have hM1 : opC n rule seed M 16 3 = nI n := by rw [op_lo (by decide), hM]
  have ht1 : bkV t (opC n rule seed M) := bkV_of ht (op_lo (by decide)) (fun i => op_lo (by decide))
  have hb1 : ∃ b, b < 8 ∧ opC n rule seed M 30 10 = nI b := ⟨7, by decide, by rw [op_30]; rfl⟩
  have hp := sp_play (scr := scr) (opC n rule seed M) n t hn hM1 ht1 hb1
  refine ⟨?_, hp.2, FC_trans (FC_op hn) (FC_evC hn hM1 ht1 hb1)⟩
  rw [ms113]
  simp only [q113_0, q113_1, q113_4, q113_5, q113_6, q113_9, q113_10, q113_13, q113_16, n10, n01, Bool.false_eq_true, ab_bs, ab_bn, ab_pr0, ab_pr1, nl_n, nl_i, nl_r, nl_j, nl_nl, rc_0, gf_0_0, gf_0_1, gf_0_2, gf_0_3, gf_0_4, gf_0_5, gf_0_6, gf_0_7, gf_0_8, gf_0_9, pt_0_9, rc_30, gf_30_0, gf_30_1, gf_30_2, gf_30_3, pt_30_3, gf_30_4, pt_30_4, gf_30_5, pt_30_5, gf_30_6, pt_30_6, gf_30_7, pt_30_7, gf_30_8, pt_30_8, gf_30_9, pt_30_9_0, pt_30_9_1, gf_30_10, pt_30_10, gf_30_11, pt_30_11, gf_30_12, pt_30_12, gf_30_13, pt_30_13, sp_open M n hn hM, hp.1]
  rfl
theorem PV_of {n : Nat} {M M' : ab_M} (h : PV n M) (h1 : ∀ c j, c < 30 → M' c j = M c j) : PV n M' := ⟨fun p hp => by rw [h1 _ _ (by decide), h1 _ _ (by decide)]; exact h.1 p hp, by rw [h1 _ _ (by decide)]; exact h.2⟩
theorem PW_of {n t : Nat} {N N' M M' : ab_M} (h : PW n t N M) (h1 : ∀ c j, c < 30 → M' c j = M c j) (h2 : ∀ j, N' 127 j = N 127 j) (h3 : N' 123 14 = N 123 14) : PW n t N' M' := by
  obtain ⟨a, b, c, d, e⟩ := h
  exact ⟨by rw [h2, a], by rw [h2, h3, h1 _ _ (by decide)]; exact b, by rw [h2, c], fun w hw p hp => by rw [h2, h1 _ _ (by omega)]; exact d w hw p hp, fun i hi => by rw [h2, h1 _ _ (by decide)]; exact e i hi⟩
theorem fr_rel {n t : Nat} {N M : ab_M} (rule seed fre : Int32) (pu : Int32) (hn : n ≤ 8) (hw : PW n t N M) (hfp : fre = 0 ↔ pu ≠ 0) : PW n t (rs 8 (frF n (ab_up N 123 34 fre)) (fr0 seed (ab_up N 123 34 fre))) (ab_up (opC n rule seed M) 30 9 pu) ∧ RF n t (rs 8 (frF n (ab_up N 123 34 fre)) (fr0 seed (ab_up N 123 34 fre))) (ab_up (opC n rule seed M) 30 9 pu) := by
  have e7 : ∀ j, rs 8 (frF n (ab_up N 123 34 fre)) (fr0 seed (ab_up N 123 34 fre)) 127 j = N 127 j := fun j => by rw [rs_lo (by decide), fr0_n (by decide), up_n (by decide)]
  have e3 : ∀ j, rs 8 (frF n (ab_up N 123 34 fre)) (fr0 seed (ab_up N 123 34 fre)) 123 j = fr0 seed (ab_up N 123 34 fre) 123 j := fun j => rs_lo (by decide)
  refine ⟨PW_of hw (fun c j h => by rw [up_n (by omega), op_lo h]) e7 ?_, ?_, ?_, ?_, ?_, fun p hp => ?_⟩
  · rw [e3]
    simp [fr0, ab_up]
  · rw [e3, up_ll, if_neg (by decide), op_30]
    simp [fr0, ab_up]
  · rw [e3, up_ll, if_neg (by decide), op_30]
    simp [fr0, ab_up]
  · rw [e3, up_ll, if_neg (by decide), op_30]
    simp [fr0, ab_up]
  · rw [e3, up_ll, if_pos rfl]
    simpa [fr0, ab_up] using hfp
  · rw [rs_i (by decide) (by decide) (by omega), rs_i (by decide) (by decide) (by omega), up_ls, up_ls, op_seat hp, op_seat hp]
    obtain ⟨-, -, -, d, -⟩ := hw
    have := d 7 (by decide) p hp
    unfold frF opF
    rw [if_neg (by decide), if_pos rfl, if_pos hp, if_pos rfl, if_neg (by decide), if_pos rfl, if_pos rfl, up_n (by decide)]
    exact ⟨this, rfl⟩
theorem FG_pre {N A N' : ab_M} (h : FG A N') (h1 : ∀ c j, (c < 123 ∨ (123 < c ∧ c < 129) ∨ 140 < c) → A c j = N c j) (h2 : ∀ j, ¬ (25 ≤ j ∧ j ≤ 34) → A 123 j = N 123 j) : FG N N' := by
  obtain ⟨a, b, c, d⟩ := h
  exact ⟨fun x j hx => by rw [a x j hx, h1 x j (by omega)], fun j hj hj2 => by rw [b j hj hj2, h2 j hj], fun j hj => by rw [c j hj, h1 _ _ (by decide)], d⟩
theorem fr_pre {n : Nat} {N : ab_M} {seed fre : Int32} : (∀ c j, (c < 123 ∨ (123 < c ∧ c < 129) ∨ 140 < c) → rs 8 (frF n (ab_up N 123 34 fre)) (fr0 seed (ab_up N 123 34 fre)) c j = N c j) ∧ ∀ j, ¬ (25 ≤ j ∧ j ≤ 34) → rs 8 (frF n (ab_up N 123 34 fre)) (fr0 seed (ab_up N 123 34 fre)) 123 j = N 123 j := by
  refine ⟨fun c j h => ?_, fun j hj => ?_⟩
  · unfold rs
    rw [if_neg (by omega), fr0_n (by omega), up_n (by omega)]
  · rw [rs_lo (by decide)]
    unfold fr0
    rw [up_o _ _ _ _ _ _ (by omega), up_o _ _ _ _ _ _ (by omega), up_o _ _ _ _ _ _ (by omega), up_o _ _ _ _ _ _ (by omega)]
theorem rp_evenings {scr : Option (List Int32)} {n t : Nat} {N M : ab_M} (hn : n ≤ 8) (hM : M 16 3 = nI n) (ht : bkV t M) (hw : PW n t N M) (hv : PV n M) (rule seed : Int32) (hr : okR rule) : ∃ N', ab_ms scr 159 [.ref 123, .int rule, .int seed] N = some (N', none) ∧ RZ n t N' (hoC n rule seed M) ∧ FG N N' := by
  obtain ⟨r1, r2⟩ := fr_rel (N := N) (M := M) rule seed 0 1 hn hw (by decide)
  have e9 : ab_up (opC n rule seed M) 30 9 1 = opC n rule seed M := by
    have : opC n rule seed M 30 9 = 1 := by rw [op_30]; simp
    rw [← this, up_id]
  rw [e9] at r1 r2
  have hf := rp_fresh (scr := scr) (ab_up N 123 34 0) n hn (by rw [up_n (by decide)]; exact hw.1) seed
  obtain ⟨p1, p2⟩ := fr_pre (n := n) (N := N) (seed := seed) (fre := 0)
  generalize rs 8 (frF n (ab_up N 123 34 0)) (fr0 seed (ab_up N 123 34 0)) = A at *
  obtain ⟨N', h1, h2, h3⟩ := rp_goesOn (scr := scr) hn (by rw [op_lo (by decide), hM]) (bkV_of ht (op_lo (by decide)) (fun i => op_lo (by decide))) ⟨7, by decide, by rw [op_30]; rfl⟩ r1 (PV_of hv (fun c j h => op_lo h)) r2 rule (by rw [op_30]; simp) hr
  refine ⟨N', ?_, h2, FG_pre h3 p1 p2⟩
  rw [ms159]
  simp only [q159_0, q159_1, q159_2, q159_5, q159_6, q159_7, q159_10, q159_11, q159_12, q159_15, n10, n01, Bool.false_eq_true, ab_bs, ab_bn, ab_pr0, ab_pr1, nl_n, nl_i, nl_r, nl_j, nl_nl, rc_123, gf_123_0, gf_123_1, pt_123_1, gf_123_2, pt_123_2, gf_123_3, pt_123_3, gf_123_4, pt_123_4, gf_123_5, pt_123_5, gf_123_6, pt_123_6, gf_123_7, pt_123_7, gf_123_8, pt_123_8, gf_123_9, gf_123_10, gf_123_11, gf_123_12, gf_123_13, pt_123_13_0, pt_123_13_1, gf_123_14, pt_123_14_0, pt_123_14_1, gf_123_15, gf_123_16, gf_123_17, gf_123_18, gf_123_19, gf_123_20, gf_123_21, gf_123_22, gf_123_23, gf_123_24, gf_123_25, pt_123_25, gf_123_26, gf_123_27, pt_123_27, gf_123_28, pt_123_28, gf_123_29, gf_123_30, pt_123_30, gf_123_31, pt_123_31, gf_123_32, pt_123_32, gf_123_33, pt_123_33, gf_123_34, pt_123_34_0, pt_123_34_1, gf_123_35, gf_123_36, gf_123_37, gf_123_38, pt_123_38, gf_123_39, pt_123_39, gf_123_40, pt_123_40, gf_123_41, gf_123_42, gf_123_43, gf_123_44, gf_123_45, gf_123_46, gf_123_47, pt_123_47, hf, h1]
/-- purses not looked at -/
def frC (n : Nat) (M : ab_M) : ab_M := evC n (ab_up (opC n 0 0 M) 30 9 0)
