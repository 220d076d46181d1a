theorem sp_sooner {scr : Option (List Int32)} (M : ab_M) (next change now : Int32) : ab_ms scr 12 [.int next, .int change, .int now] M = some (M, some (.int (if now < change ∧ change < next then change else next))) := by
  rw [ms12]
  simp only [q12_0, q12_1, q12_2, q12_5, q12_6, q12_7, q12_10, q12_11, q12_14, q12_15, n10, n01, Bool.false_eq_true, ab_bs, ab_bn, ab_pr0, ab_pr1, nl_n, nl_i, nl_r, nl_j, nl_nl]
  by_cases h1 : now < change
  · by_cases h2 : change < next
    · rw [if_neg (Int32.not_le.mpr h1), if_neg (Int32.not_le.mpr h2), if_pos ⟨h1, h2⟩]
    · rw [if_neg (Int32.not_le.mpr h1), if_pos (Int32.not_lt.mp h2), if_neg (fun h => h2 h.2)]
  · rw [if_pos (Int32.not_lt.mp h1), if_neg (fun h => h1 h.1)]
def sn (now next change : Int32) : Int32 := if now < change ∧ change < next then change else next
theorem sn_eq (now next change : Int32) : (if now < change ∧ change < next then change else next) = sn now next change := rfl
theorem sp_nextChange {scr : Option (List Int32)} (M : ab_M) (n : Nat) (hn : n ≤ 8) (hM : M 16 3 = nI n) (now : Int32) : ab_ms scr 11 [.ref 30, .int now] M = some (M, some (.int (fo (fun p s => if tb (M 30 12) p = true ∧ tb (M 30 13) p = false then sn now (sn now (sn now s (M 18 p)) (M 19 p)) (M (33 + p) 6) else sn now (sn now s (M 18 p)) (M 19 p)) n (240)))) := by
  rw [ms11]
  simp only [q11_0, q11_3, q11_4, q11_5, q11_7, q11_8, q11_11, q11_14, q11_17, q11_18, q11_19, q11_22, q11_25, q11_26, q11_27, q11_28, q11_29, q11_30, q11_33, q11_34, q11_35, q11_36, q11_39, q11_42, q11_43, q11_44, q11_45, q11_46, q11_47, q11_50, q11_51, q11_52, q11_53, q11_56, q11_59, q11_60, q11_61, q11_64, q11_65, q11_66, q11_69, q11_70, q11_73, q11_74, q11_77, q11_80, q11_81, n10, n01, Bool.false_eq_true, ab_bs, ab_bn, ab_pr0, ab_pr1, nl_n, nl_i, nl_r, nl_j, nl_nl, rc_16, gf_16_0, gf_16_1, gf_16_2, gf_16_3, pt_16_3, gf_16_4, pt_16_4, gf_16_5, pt_16_5, ln_18, al_18, si_18, ln_19, al_19, si_19, rc_30, gf_30_0, gf_30_1, gf_30_2, gf_30_3, pt_30_3, gf_30_4, pt_30_4, gf_30_5, pt_30_5, gf_30_6, pt_30_6, gf_30_7, pt_30_7, gf_30_8, pt_30_8, gf_30_9, pt_30_9_0, pt_30_9_1, gf_30_10, pt_30_10, gf_30_11, pt_30_11, gf_30_12, pt_30_12, gf_30_13, pt_30_13, hM]
  refine Eq.trans ?_ ((fo_run (fun k s => ab_res scr 11 3 M 6 [some (.ref 30), some (.int now), some (.int s), some (.int (nI k))] []) (fun p s => if tb (M 30 12) p = true ∧ tb (M 30 13) p = false then sn now (sn now (sn now s (M 18 p)) (M 19 p)) (M (33 + p) 6) else sn now (sn now s (M 18 p)) (M 19 p)) (n) (240) (fun k hk => ?_)).trans ?_)
  · rfl
  · have h1 : ¬ nI n ≤ nI k := nI_ge hk (by omega)
    have h2 : k < 2 ^ 31 := by omega
    have h3 : k < 8 := by omega
    rw [q11_6]
    simp only [q11_0, q11_3, q11_4, q11_5, q11_7, q11_8, q11_11, q11_14, q11_17, q11_18, q11_19, q11_22, q11_25, q11_26, q11_27, q11_28, q11_29, q11_30, q11_33, q11_34, q11_35, q11_36, q11_39, q11_42, q11_43, q11_44, q11_45, q11_46, q11_47, q11_50, q11_51, q11_52, q11_53, q11_56, q11_59, q11_60, q11_61, q11_64, q11_65, q11_66, q11_69, q11_70, q11_73, q11_74, q11_77, q11_80, q11_81, n10, n01, Bool.false_eq_true, ab_bs, ab_bn, ab_pr0, ab_pr1, nl_n, nl_i, nl_r, nl_j, nl_nl, rc_16, gf_16_0, gf_16_1, gf_16_2, gf_16_3, pt_16_3, gf_16_4, pt_16_4, gf_16_5, pt_16_5, ln_18, al_18, si_18, ln_19, al_19, si_19, rc_30, gf_30_0, gf_30_1, gf_30_2, gf_30_3, pt_30_3, gf_30_4, pt_30_4, gf_30_5, pt_30_5, gf_30_6, pt_30_6, gf_30_7, pt_30_7, gf_30_8, pt_30_8, gf_30_9, pt_30_9_0, pt_30_9_1, gf_30_10, pt_30_10, gf_30_11, pt_30_11, gf_30_12, pt_30_12, gf_30_13, pt_30_13, hM, sp_hasGlass _ _ h3, sp_sooner, sn_eq, qe_17_0, qe_17_1, al_18, al_19, qe_31 h3, gf_seat h3 (show 6 < 8 by decide), nI_clamp h2, ib8 h3, nI_succ, if_true, bt_eq, i10, ite_not, h1, if_false] <;> (repeat' split) <;> first | rfl | (simp_all; done)
  · show ab_res scr 11 3 M 6 _ [] = _
    rw [q11_6]
    simp only [q11_0, q11_3, q11_4, q11_5, q11_7, q11_8, q11_11, q11_14, q11_17, q11_18, q11_19, q11_22, q11_25, q11_26, q11_27, q11_28, q11_29, q11_30, q11_33, q11_34, q11_35, q11_36, q11_39, q11_42, q11_43, q11_44, q11_45, q11_46, q11_47, q11_50, q11_51, q11_52, q11_53, q11_56, q11_59, q11_60, q11_61, q11_64, q11_65, q11_66, q11_69, q11_70, q11_73, q11_74, q11_77, q11_80, q11_81, n10, n01, Bool.false_eq_true, ab_bs, ab_bn, ab_pr0, ab_pr1, nl_n, nl_i, nl_r, nl_j, nl_nl, rc_16, gf_16_0, gf_16_1, gf_16_2, gf_16_3, pt_16_3, gf_16_4, pt_16_4, gf_16_5, pt_16_5, ln_18, al_18, si_18, ln_19, al_19, si_19, rc_30, gf_30_0, gf_30_1, gf_30_2, gf_30_3, pt_30_3, gf_30_4, pt_30_4, gf_30_5, pt_30_5, gf_30_6, pt_30_6, gf_30_7, pt_30_7, gf_30_8, pt_30_8, gf_30_9, pt_30_9_0, pt_30_9_1, gf_30_10, pt_30_10, gf_30_11, pt_30_11, gf_30_12, pt_30_12, gf_30_13, pt_30_13, hM, nI_rfl, if_true]
/-! loops that may be left early -/
def fx {α β : Type} (g : Nat → α → α ⊕ β) : Nat → Nat → α → α ⊕ β
  | 0, _, a => .inl a
  | n + 1, k, a => match g k a with
    | .inl a2 => fx g n (k + 1) a2
    | .inr b => .inr b
def fxo {α β γ : Type} (f : α → γ) (o : β → γ) : α ⊕ β → γ
  | .inl a => f a
  | .inr b => o b
theorem fx_run {α β γ : Type} (R : Nat → α → γ) (o : β → γ) (g : Nat → α → α ⊕ β) : ∀ (n k : Nat) (a : α), (∀ i b, k ≤ i → i < k + n → R i b = fxo (R (i + 1)) o (g i b)) → R k a = fxo (R (k + n)) o (fx g n k a) := by
  intro n
  induction n with
  | zero => intro k a _; rfl
  | succ n ih =>
    intro k a h
    rw [h k a (Nat.le_refl _) (by omega)]
    unfold fx
    cases hg : g k a with
    | inl a2 =>
      show R (k + 1) a2 = _
      rw [ih (k + 1) a2 (fun i b h1 h2 => h i b (by omega) (by omega))]
      rw [show k + 1 + n = k + (n + 1) by omega]
    | inr b => rfl
