/-! the reference: who buys -/
theorem fx_at {α β : Type} {g : Nat → α → α ⊕ β} {v : β} : ∀ (i n k : Nat) (a : α), i < n → (∀ j, j < i → ∀ s, ∃ s', g (k + j) s = .inl s') → (∀ s, g (k + i) s = .inr v) → fx g n k a = .inr v := by
  intro i
  induction i with
  | zero =>
    intro n k a hn _ h1
    cases n with
    | zero => omega
    | succ n =>
      unfold fx
      rw [show g k a = .inr v from h1 a]
  | succ i ih =>
    intro n k a hn h0 h1
    cases n with
    | zero => omega
    | succ n =>
      unfold fx
      obtain ⟨s', hs⟩ := h0 0 (by omega) a
      rw [show g k a = .inl s' from hs]
      exact ih n (k + 1) s' (by omega) (fun j hj s => by rw [show k + 1 + j = k + (j + 1) by omega]; exact h0 (j + 1) (by omega) s) (fun s => by rw [show k + 1 + i = k + (i + 1) by omega]; exact h1 s)
theorem ex_least {P : Nat → Bool} : ∀ n, (∃ i, i < n ∧ P i = true) → ∃ i, i < n ∧ P i = true ∧ ∀ j, j < i → P j = false := by
  intro n
  induction n with
  | zero => rintro ⟨i, h, _⟩; omega
  | succ n ih =>
    rintro ⟨i, h, hp⟩
    by_cases q : ∃ i, i < n ∧ P i = true
    · obtain ⟨j, h1, h2, h3⟩ := ih q
      exact ⟨j, by omega, h2, h3⟩
    · refine ⟨i, h, hp, fun j hj => ?_⟩
      cases hq : P j with
      | false => rfl
      | true => exact absurd ⟨j, by omega, hq⟩ q
theorem mk_ne {n : Nat} {w : Int32} (hn : n ≤ 8) (h : mk n w) (h0 : w ≠ 0) : ∃ q, q < n ∧ tb w q = true := by
  by_cases q : ∃ q, q < n ∧ tb w q = true
  · exact q
  · refine absurd (tb_ext fun p hp => ?_) h0
    have e0 : tb 0 p = false := by simp [tb]
    rw [e0]
    by_cases e : p < n
    · cases hq : tb w p with
      | false => rfl
      | true => exact absurd ⟨p, e, hq⟩ q
    · exact h p (by omega) hp
/-- the next of a set behind b -/
theorem ex_turn {n b : Nat} {w : Int32} (hn : n ≤ 8) (hb : b < 8) (h : mk n w) (h0 : w ≠ 0) : ∃ i, i < 8 ∧ tb w ((b + (i + 1)) % 8) = true ∧ (∀ j, j < i → tb w ((b + (j + 1)) % 8) = false) ∧ (b + (i + 1)) % 8 < n := by
  obtain ⟨q, hq, ht⟩ := mk_ne hn h h0
  have e1 : ∃ i, i < 8 ∧ tb w ((b + (i + 1)) % 8) = true := by
    refine ⟨(q + 7 - b) % 8, by omega, ?_⟩
    rw [show (b + ((q + 7 - b) % 8 + 1)) % 8 = q by omega]
    exact ht
  obtain ⟨i, h1, h2, h3⟩ := ex_least (P := fun i => tb w ((b + (i + 1)) % 8)) 8 e1
  refine ⟨i, h1, h2, h3, ?_⟩
  by_cases e : (b + (i + 1)) % 8 < n
  · exact e
  · rw [h _ (by omega) (by omega)] at h2
    cases h2
theorem inR_at {able : Int32} {b i : Nat} (hi : i < 8) (h1 : tb able ((b + (i + 1)) % 8) = true) (h0 : ∀ j, j < i → tb able ((b + (j + 1)) % 8) = false) : inR able b = nI ((b + (i + 1)) % 8) := by
  unfold inR
  rw [fx_at (v := nI ((b + (i + 1)) % 8)) i 8 0 none hi (fun j hj s => ?_) (fun s => ?_)]
  · rfl
  · unfold inT
    rw [Nat.zero_add, h0 j hj]
    exact ⟨_, rfl⟩
  · unfold inT
    rw [Nat.zero_add, h1]
    rfl
theorem mod8b (b : Nat) (hb : b < 8) : (nI b + 1) - (nI b + 1) / 8 * 8 = nI ((b + 1) % 8) := by
  have : ∀ b, b < 8 → (nI b + 1) - (nI b + 1) / 8 * 8 = nI ((b + 1) % 8) := by decide
  exact this b hb
theorem ne8 : ((8 : Int32) = 0) = False := by decide
theorem sp_byTurn {scr : Option (List Int32)} (M : ab_M) (able : Int32) (b i : Nat) (hb : b < 8) (hM : M 123 25 = nI b) (hi : i < 8) (h1 : tb able ((b + (i + 1)) % 8) = true) (h0 : ∀ j, j < i → tb able ((b + (j + 1)) % 8) = false) : ab_ms scr 150 [.ref 123, .int able] M = some (M, some (.int (nI ((b + (i + 1)) % 8)))) := by
  rw [ms150]
  simp only [q150_0, q150_1, q150_4, q150_6, q150_7, q150_8, q150_10, q150_11, q150_12, q150_13, q150_14, q150_15, q150_16, q150_17, q150_20, q150_21, n10, n01, Bool.false_eq_true, ab_bs, ab_bn, ab_pr0, ab_pr1, nl_n, nl_i, nl_r, nl_j, nl_nl, rc_123, gf_123_0, gf_123_1, pt_123_1, gf_123_2, pt_123_2, gf_123_3, pt_123_3, gf_123_4, pt_123_4, gf_123_5, pt_123_5, gf_123_6, pt_123_6, gf_123_7, pt_123_7, gf_123_8, pt_123_8, gf_123_9, gf_123_10, gf_123_11, gf_123_12, gf_123_13, pt_123_13_0, pt_123_13_1, gf_123_14, pt_123_14_0, pt_123_14_1, gf_123_15, gf_123_16, gf_123_17, gf_123_18, gf_123_19, gf_123_20, gf_123_21, gf_123_22, gf_123_23, gf_123_24, gf_123_25, pt_123_25, gf_123_26, gf_123_27, pt_123_27, gf_123_28, pt_123_28, gf_123_29, gf_123_30, pt_123_30, gf_123_31, pt_123_31, gf_123_32, pt_123_32, gf_123_33, pt_123_33, gf_123_34, pt_123_34_0, pt_123_34_1, gf_123_35, gf_123_36, gf_123_37, gf_123_38, pt_123_38, gf_123_39, pt_123_39, gf_123_40, pt_123_40, gf_123_41, gf_123_42, gf_123_43, gf_123_44, gf_123_45, gf_123_46, gf_123_47, pt_123_47, hM]
  refine Eq.trans ?_ ((rn (fun k => ab_res scr 150 1 (M) 5 [some (.ref 123), some (.int able), some (.int (nI ((b + k) % 8)))] []) (i) (fun k hk => ?_)).trans ?_)
  · rw [Nat.add_zero, Nat.mod_eq_of_lt hb]
  · have h3 : (b + k) % 8 < 8 := by omega
    have h4 : (b + (k + 1)) % 8 < 8 := by omega
    have e : ((b + k) % 8 + 1) % 8 = (b + (k + 1)) % 8 := by omega
    rw [q150_5]
    simp only [q150_0, q150_1, q150_4, q150_6, q150_7, q150_8, q150_10, q150_11, q150_12, q150_13, q150_14, q150_15, q150_16, q150_17, q150_20, q150_21, n10, n01, Bool.false_eq_true, ab_bs, ab_bn, ab_pr0, ab_pr1, nl_n, nl_i, nl_r, nl_j, nl_nl, mod8b _ h3, ne8, if_false, e, tb_sh able _ h4, h0 k hk, (show ¬ (false = true) by decide), if_true]
  · have h3 : (b + i) % 8 < 8 := by omega
    have h4 : (b + (i + 1)) % 8 < 8 := by omega
    have e : ((b + i) % 8 + 1) % 8 = (b + (i + 1)) % 8 := by omega
    show ab_res scr 150 1 _ 5 _ [] = _
    rw [q150_5]
    simp only [q150_0, q150_1, q150_4, q150_6, q150_7, q150_8, q150_10, q150_11, q150_12, q150_13, q150_14, q150_15, q150_16, q150_17, q150_20, q150_21, n10, n01, Bool.false_eq_true, ab_bs, ab_bn, ab_pr0, ab_pr1, nl_n, nl_i, nl_r, nl_j, nl_nl, mod8b _ h3, ne8, if_false, e, tb_sh able _ h4, h1, if_true, (show ¬ ((1 : Int32) = 0) by decide)]
/-! by lot -/
def rl (able : Int32) (p : Nat) (s : Int32) : Int32 ⊕ Int32 := if tb able p = true then (if 0 < s then .inl (s - 1) else .inr (nI p)) else .inl s
def rlb (o p : Int32 ⊕ Int32) : Bool := match o, p with
  | .inr x, .inr y => decide (x = y) && decide (x.toNatClampNeg < 8) && decide (nI x.toNatClampNeg = x)
  | _, _ => false
theorem rl_ok : ∀ j, j < 256 → ∀ a, a < 8 → nI a < bn (nI j) → rlb (fx (rl (nI j)) 8 0 (nI a)) (fx (nof (nI j) (nI a)) 8 0 0) = true := by decide +kernel
theorem rl_at {j a : Nat} (hj : j < 256) (ha : a < 8) (h : nI a < bn (nI j)) : ∃ p, p < 8 ∧ fx (rl (nI j)) 8 0 (nI a) = .inr (nI p) ∧ nfR (nI j) (nI a) = nI p := by
  have e := rl_ok j hj a ha h
  unfold nfR
  cases h1 : fx (rl (nI j)) 8 0 (nI a) with
  | inl x => rw [h1] at e; cases e
  | inr x =>
    cases h2 : fx (nof (nI j) (nI a)) 8 0 0 with
    | inl y => rw [h1, h2] at e; cases e
    | inr y =>
      rw [h1, h2] at e
      simp only [rlb, Bool.and_eq_true, decide_eq_true_eq] at e
      obtain ⟨⟨e1, e2⟩, e3⟩ := e
      subst e1
      exact ⟨x.toNatClampNeg, e2, by rw [e3], e3.symm⟩
theorem bn_at : ∀ j, j < 256 → nI j ≠ 0 → ∃ k, k < 9 ∧ 0 < k ∧ bn (nI j) = nI k := by decide +kernel
theorem sh16 (x : Int32) : (x >>> ((16 : Int32) &&& 31)) &&& 32767 = ((x.toUInt32 >>> (Int32.toUInt32 16 &&& Int32.toUInt32 31)).toInt32 &&& 32767) := by
  have e1 : BitVec.smod ((16 : Int32) &&& 31).toBitVec 32 = 16#32 := by decide
  have e2 : (Int32.toUInt32 16 &&& Int32.toUInt32 31).toBitVec % 32 = 16#32 := by decide
  apply Int32.toBitVec_inj.mp
  rw [Int32.toBitVec_and, Int32.toBitVec_shiftRight, e1, Int32.toBitVec_and]
  show _ = (x.toUInt32 >>> (Int32.toUInt32 16 &&& Int32.toUInt32 31)).toBitVec &&& _
  rw [UInt32.toBitVec_shiftRight, e2]
  show BitVec.sshiftRight' x.toBitVec 16#32 &&& 32767#32 = (x.toBitVec >>> 16#32) &&& 32767#32
  apply BitVec.eq_of_getLsbD_eq
  intro i hi
  rw [BitVec.getLsbD_and, BitVec.getLsbD_and]
  by_cases h : i < 15
  · congr 1
    unfold BitVec.sshiftRight'
    rw [BitVec.getLsbD_sshiftRight]
    simp [show i < 32 by omega, show 16 + i < 32 by omega]
  · have e3 : (32767#32).getLsbD i = false := by
      have : ∀ i, i < 32 → ¬ i < 15 → (32767#32).getLsbD i = false := by decide
      exact this i hi h
    rw [e3, Bool.and_false, Bool.and_false]
theorem dr_at (x : Int32) : ∃ a, a < 32768 ∧ dr x = nI a := by
  unfold dr
  exact ⟨_, Nat.mod_lt _ (by decide), pk_and _ 15 (by decide)⟩
theorem lt_of_nI {j k : Nat} (h : nI (j % k) < nI k → True) : True := trivial
theorem sp_byLot {scr : Option (List Int32)} (M : ab_M) (j : Nat) (hj : j < 256) (h0 : nI j ≠ 0) : ∃ p, p < 8 ∧ ab_ms scr 151 [.ref 123, .int (nI j)] M = some (ab_up M 123 28 (sd (M 123 28)), some (.int (nI p))) ∧ nfR (nI j) (dr (M 123 28) - dr (M 123 28) / bn (nI j) * bn (nI j)) = nI p := by
  obtain ⟨k, hk, hk0, hbn⟩ := bn_at j hj h0
  obtain ⟨x, hx, hdr⟩ := dr_at (M 123 28)
  have hr : dr (M 123 28) - dr (M 123 28) / bn (nI j) * bn (nI j) = nI (x % k) := by
    rw [hdr, hbn, pk_rem (by omega) hk0 (by omega)]
  have hlt : x % k < k := Nat.mod_lt _ hk0
  obtain ⟨p, hp, hp1, hp2⟩ := rl_at hj (a := x % k) (by omega) (by rw [hbn]; exact nI_lt hlt (by omega))
  refine ⟨p, hp, ?_, by rw [hr]; exact hp2⟩
  have hb : ∀ N : ab_M, ab_ms scr 147 [.int (nI j)] N = some (N, some (.int (bn (nI j)))) := fun N => sp_bitsOf N (nI j)
  have hbz : ¬ bn (nI j) = 0 := by
    rw [hbn]
    exact nI_ne0 hk0 (by omega)
  rw [ms151]
  simp only [q151_0, q151_1, q151_2, q151_5, q151_7, q151_8, q151_11, q151_12, q151_15, q151_16, q151_19, q151_21, q151_22, q151_25, q151_26, q151_27, q151_30, q151_31, q151_32, q151_33, q151_35, q151_36, q151_37, q151_38, q151_39, q151_42, q151_43, q151_46, q151_47, q151_48, q151_49, q151_50, q151_51, q151_52, q151_53, q151_54, q151_57, q151_60, q151_61, n10, n01, Bool.false_eq_true, ab_bs, ab_bn, ab_pr0, ab_pr1, nl_n, nl_i, nl_r, nl_j, nl_nl, rc_123, gf_123_0, gf_123_1, pt_123_1, gf_123_2, pt_123_2, gf_123_3, pt_123_3, gf_123_4, pt_123_4, gf_123_5, pt_123_5, gf_123_6, pt_123_6, gf_123_7, pt_123_7, gf_123_8, pt_123_8, gf_123_9, gf_123_10, gf_123_11, gf_123_12, gf_123_13, pt_123_13_0, pt_123_13_1, gf_123_14, pt_123_14_0, pt_123_14_1, gf_123_15, gf_123_16, gf_123_17, gf_123_18, gf_123_19, gf_123_20, gf_123_21, gf_123_22, gf_123_23, gf_123_24, gf_123_25, pt_123_25, gf_123_26, gf_123_27, pt_123_27, gf_123_28, pt_123_28, gf_123_29, gf_123_30, pt_123_30, gf_123_31, pt_123_31, gf_123_32, pt_123_32, gf_123_33, pt_123_33, gf_123_34, pt_123_34_0, pt_123_34_1, gf_123_35, gf_123_36, gf_123_37, gf_123_38, pt_123_38, gf_123_39, pt_123_39, gf_123_40, pt_123_40, gf_123_41, gf_123_42, gf_123_43, gf_123_44, gf_123_45, gf_123_46, gf_123_47, pt_123_47, hb, hbz, if_false, up_s, sh16]
  have h := fx_run (fun k s => ab_res scr 151 2 (ab_up M 123 28 (sd (M 123 28))) 34 [some (.ref 123), some (.int (nI j)), some (.int s), some (.int (nI k))] []) (fun v => some (ab_up M 123 28 (sd (M 123 28)), some (.int v))) (rl (nI j)) 8 0 (nI (x % k)) (fun i b h0 hi => ?_)
  · rw [hp1] at h
    refine Eq.trans ?_ h
    show ab_res scr 151 2 _ 34 _ [] = _
    rw [← hr]
    rfl
  · have h3 : i < 8 := by omega
    show ab_res scr 151 2 _ 34 _ [] = _
    by_cases ht : tb (nI j) i = true
    · by_cases hs : 0 < b
      · have hs' : ¬ b ≤ 0 := Int32.not_le.mpr hs
        rw [q151_34]
        simp only [q151_0, q151_1, q151_2, q151_5, q151_7, q151_8, q151_11, q151_12, q151_15, q151_16, q151_19, q151_21, q151_22, q151_25, q151_26, q151_27, q151_30, q151_31, q151_32, q151_33, q151_35, q151_36, q151_37, q151_38, q151_39, q151_42, q151_43, q151_46, q151_47, q151_48, q151_49, q151_50, q151_51, q151_52, q151_53, q151_54, q151_57, q151_60, q151_61, n10, n01, Bool.false_eq_true, ab_bs, ab_bn, ab_pr0, ab_pr1, nl_n, nl_i, nl_r, nl_j, nl_nl, tb_sh (nI j) _ h3, ht, if_true, (show ¬ ((1 : Int32) = 0) by decide), if_false, hs', nI_succ, rl, hs]
        rfl
      · have hs' : b ≤ 0 := Int32.not_lt.mp hs
        rw [q151_34]
        simp only [q151_0, q151_1, q151_2, q151_5, q151_7, q151_8, q151_11, q151_12, q151_15, q151_16, q151_19, q151_21, q151_22, q151_25, q151_26, q151_27, q151_30, q151_31, q151_32, q151_33, q151_35, q151_36, q151_37, q151_38, q151_39, q151_42, q151_43, q151_46, q151_47, q151_48, q151_49, q151_50, q151_51, q151_52, q151_53, q151_54, q151_57, q151_60, q151_61, n10, n01, Bool.false_eq_true, ab_bs, ab_bn, ab_pr0, ab_pr1, nl_n, nl_i, nl_r, nl_j, nl_nl, tb_sh (nI j) _ h3, ht, if_true, (show ¬ ((1 : Int32) = 0) by decide), if_false, hs', nI_succ, rl, hs]
        rfl
    · rw [q151_34]
      simp only [q151_0, q151_1, q151_2, q151_5, q151_7, q151_8, q151_11, q151_12, q151_15, q151_16, q151_19, q151_21, q151_22, q151_25, q151_26, q151_27, q151_30, q151_31, q151_32, q151_33, q151_35, q151_36, q151_37, q151_38, q151_39, q151_42, q151_43, q151_46, q151_47, q151_48, q151_49, q151_50, q151_51, q151_52, q151_53, q151_54, q151_57, q151_60, q151_61, n10, n01, Bool.false_eq_true, ab_bs, ab_bn, ab_pr0, ab_pr1, nl_n, nl_i, nl_r, nl_j, nl_nl, tb_sh (nI j) _ h3, ht, if_true, if_false, nI_succ, rl, Int32.sub_zero]
      rfl
def rkV (M : ab_M) (rule : Int32) (p : Nat) : Int32 := if rule = 1 then rO M p else if rule = 2 then (if rEd M p = true then M 130 p else 240) else M 139 p
theorem sp_rankOf {scr : Option (List Int32)} (M : ab_M) (p : Nat) (hp : p < 8) (rule : Int32) : ab_ms scr 152 [.ref 123, .int (nI p), .int rule] M = some (M, some (.long (rkV M rule p).toInt64)) := by
  rw [ms152]
  have h2 : p < 2 ^ 31 := by omega
  unfold rkV
  by_cases e1 : rule = 1
  · simp only [q152_0, q152_1, q152_2, q152_5, q152_6, q152_7, q152_10, q152_11, q152_14, q152_15, q152_16, q152_19, q152_20, q152_21, q152_24, q152_27, q152_28, q152_31, q152_32, q152_33, q152_34, q152_37, q152_40, q152_43, q152_44, q152_47, q152_48, q152_49, q152_50, n10, n01, Bool.false_eq_true, ab_bs, ab_bn, ab_pr0, ab_pr1, nl_n, nl_i, nl_r, nl_j, nl_nl, rc_123, gf_123_0, gf_123_1, pt_123_1, gf_123_2, pt_123_2, gf_123_3, pt_123_3, gf_123_4, pt_123_4, gf_123_5, pt_123_5, gf_123_6, pt_123_6, gf_123_7, pt_123_7, gf_123_8, pt_123_8, gf_123_9, gf_123_10, gf_123_11, gf_123_12, gf_123_13, pt_123_13_0, pt_123_13_1, gf_123_14, pt_123_14_0, pt_123_14_1, gf_123_15, gf_123_16, gf_123_17, gf_123_18, gf_123_19, gf_123_20, gf_123_21, gf_123_22, gf_123_23, gf_123_24, gf_123_25, pt_123_25, gf_123_26, gf_123_27, pt_123_27, gf_123_28, pt_123_28, gf_123_29, gf_123_30, pt_123_30, gf_123_31, pt_123_31, gf_123_32, pt_123_32, gf_123_33, pt_123_33, gf_123_34, pt_123_34_0, pt_123_34_1, gf_123_35, gf_123_36, gf_123_37, gf_123_38, pt_123_38, gf_123_39, pt_123_39, gf_123_40, pt_123_40, gf_123_41, gf_123_42, gf_123_43, gf_123_44, gf_123_45, gf_123_46, gf_123_47, pt_123_47, ln_130, al_130, si_130, ln_139, al_139, si_139, e1, not_true, if_false, if_true, sp_outOf _ _ hp]
  · by_cases e2 : rule = 2
    · by_cases e3 : rEd M p = true
      · simp only [q152_0, q152_1, q152_2, q152_5, q152_6, q152_7, q152_10, q152_11, q152_14, q152_15, q152_16, q152_19, q152_20, q152_21, q152_24, q152_27, q152_28, q152_31, q152_32, q152_33, q152_34, q152_37, q152_40, q152_43, q152_44, q152_47, q152_48, q152_49, q152_50, n10, n01, Bool.false_eq_true, ab_bs, ab_bn, ab_pr0, ab_pr1, nl_n, nl_i, nl_r, nl_j, nl_nl, rc_123, gf_123_0, gf_123_1, pt_123_1, gf_123_2, pt_123_2, gf_123_3, pt_123_3, gf_123_4, pt_123_4, gf_123_5, pt_123_5, gf_123_6, pt_123_6, gf_123_7, pt_123_7, gf_123_8, pt_123_8, gf_123_9, gf_123_10, gf_123_11, gf_123_12, gf_123_13, pt_123_13_0, pt_123_13_1, gf_123_14, pt_123_14_0, pt_123_14_1, gf_123_15, gf_123_16, gf_123_17, gf_123_18, gf_123_19, gf_123_20, gf_123_21, gf_123_22, gf_123_23, gf_123_24, gf_123_25, pt_123_25, gf_123_26, gf_123_27, pt_123_27, gf_123_28, pt_123_28, gf_123_29, gf_123_30, pt_123_30, gf_123_31, pt_123_31, gf_123_32, pt_123_32, gf_123_33, pt_123_33, gf_123_34, pt_123_34_0, pt_123_34_1, gf_123_35, gf_123_36, gf_123_37, gf_123_38, pt_123_38, gf_123_39, pt_123_39, gf_123_40, pt_123_40, gf_123_41, gf_123_42, gf_123_43, gf_123_44, gf_123_45, gf_123_46, gf_123_47, pt_123_47, ln_130, al_130, si_130, ln_139, al_139, si_139, e2, (show ¬ ((2 : Int32) = 1) by decide), not_true, not_false_eq_true, if_false, if_true, sp_isEmpty2 _ _ hp, e3, (show ¬ ((1 : Int32) = 0) by decide), ib8 hp, nI_clamp h2]
      · simp only [q152_0, q152_1, q152_2, q152_5, q152_6, q152_7, q152_10, q152_11, q152_14, q152_15, q152_16, q152_19, q152_20, q152_21, q152_24, q152_27, q152_28, q152_31, q152_32, q152_33, q152_34, q152_37, q152_40, q152_43, q152_44, q152_47, q152_48, q152_49, q152_50, n10, n01, Bool.false_eq_true, ab_bs, ab_bn, ab_pr0, ab_pr1, nl_n, nl_i, nl_r, nl_j, nl_nl, rc_123, gf_123_0, gf_123_1, pt_123_1, gf_123_2, pt_123_2, gf_123_3, pt_123_3, gf_123_4, pt_123_4, gf_123_5, pt_123_5, gf_123_6, pt_123_6, gf_123_7, pt_123_7, gf_123_8, pt_123_8, gf_123_9, gf_123_10, gf_123_11, gf_123_12, gf_123_13, pt_123_13_0, pt_123_13_1, gf_123_14, pt_123_14_0, pt_123_14_1, gf_123_15, gf_123_16, gf_123_17, gf_123_18, gf_123_19, gf_123_20, gf_123_21, gf_123_22, gf_123_23, gf_123_24, gf_123_25, pt_123_25, gf_123_26, gf_123_27, pt_123_27, gf_123_28, pt_123_28, gf_123_29, gf_123_30, pt_123_30, gf_123_31, pt_123_31, gf_123_32, pt_123_32, gf_123_33, pt_123_33, gf_123_34, pt_123_34_0, pt_123_34_1, gf_123_35, gf_123_36, gf_123_37, gf_123_38, pt_123_38, gf_123_39, pt_123_39, gf_123_40, pt_123_40, gf_123_41, gf_123_42, gf_123_43, gf_123_44, gf_123_45, gf_123_46, gf_123_47, pt_123_47, ln_130, al_130, si_130, ln_139, al_139, si_139, e2, (show ¬ ((2 : Int32) = 1) by decide), not_true, not_false_eq_true, if_false, if_true, sp_isEmpty2 _ _ hp, e3]
        rfl
    · simp only [q152_0, q152_1, q152_2, q152_5, q152_6, q152_7, q152_10, q152_11, q152_14, q152_15, q152_16, q152_19, q152_20, q152_21, q152_24, q152_27, q152_28, q152_31, q152_32, q152_33, q152_34, q152_37, q152_40, q152_43, q152_44, q152_47, q152_48, q152_49, q152_50, n10, n01, Bool.false_eq_true, ab_bs, ab_bn, ab_pr0, ab_pr1, nl_n, nl_i, nl_r, nl_j, nl_nl, rc_123, gf_123_0, gf_123_1, pt_123_1, gf_123_2, pt_123_2, gf_123_3, pt_123_3, gf_123_4, pt_123_4, gf_123_5, pt_123_5, gf_123_6, pt_123_6, gf_123_7, pt_123_7, gf_123_8, pt_123_8, gf_123_9, gf_123_10, gf_123_11, gf_123_12, gf_123_13, pt_123_13_0, pt_123_13_1, gf_123_14, pt_123_14_0, pt_123_14_1, gf_123_15, gf_123_16, gf_123_17, gf_123_18, gf_123_19, gf_123_20, gf_123_21, gf_123_22, gf_123_23, gf_123_24, gf_123_25, pt_123_25, gf_123_26, gf_123_27, pt_123_27, gf_123_28, pt_123_28, gf_123_29, gf_123_30, pt_123_30, gf_123_31, pt_123_31, gf_123_32, pt_123_32, gf_123_33, pt_123_33, gf_123_34, pt_123_34_0, pt_123_34_1, gf_123_35, gf_123_36, gf_123_37, gf_123_38, pt_123_38, gf_123_39, pt_123_39, gf_123_40, pt_123_40, gf_123_41, gf_123_42, gf_123_43, gf_123_44, gf_123_45, gf_123_46, gf_123_47, pt_123_47, ln_130, al_130, si_130, ln_139, al_139, si_139, e1, e2, not_true, not_false_eq_true, if_false, if_true, ib8 hp, nI_clamp h2]
theorem rk_buyer {scr : Option (List Int32)} (M : ab_M) (n : Nat) (hn : n ≤ 8) (hM : M 127 72 = nI n) (rule able : Int32) (h3r : rule ≠ 3) (h5r : rule ≠ 5) (h0r : rule ≠ 0) : ab_ms scr 153 [.ref 123, .int rule, .int able] M = some (M, some (.int (fo (am (fun p => tb able p) (fun p q => decide (rkV M rule p < rkV M rule q))) n (-4)))) := by
  rw [ms153]
  simp only [q153_0, q153_1, q153_2, q153_5, q153_6, q153_7, q153_10, q153_11, q153_12, q153_13, q153_16, q153_17, q153_20, q153_21, q153_24, q153_26, q153_27, q153_30, q153_31, q153_34, q153_36, q153_37, q153_40, q153_41, q153_42, q153_45, q153_47, q153_48, q153_49, q153_51, q153_54, q153_55, q153_56, q153_57, q153_58, q153_59, q153_60, q153_63, q153_64, q153_65, q153_66, q153_69, q153_70, q153_71, q153_74, q153_75, q153_76, q153_79, q153_80, q153_82, q153_84, q153_85, q153_89, q153_90, q153_93, q153_95, q153_96, q153_99, q153_100, q153_102, q153_103, q153_104, q153_105, q153_106, q153_109, q153_111, q153_113, q153_116, q153_117, q153_119, q153_120, q153_123, q153_124, q153_126, q153_127, q153_130, q153_131, q153_134, q153_136, q153_139, q153_141, q153_143, q153_146, q153_149, q153_151, n10, n01, Bool.false_eq_true, ab_bs, ab_bn, ab_pr0, ab_pr1, nl_n, nl_i, nl_r, nl_j, nl_nl, rc_123, gf_123_0, gf_123_1, pt_123_1, gf_123_2, pt_123_2, gf_123_3, pt_123_3, gf_123_4, pt_123_4, gf_123_5, pt_123_5, gf_123_6, pt_123_6, gf_123_7, pt_123_7, gf_123_8, pt_123_8, gf_123_9, gf_123_10, gf_123_11, gf_123_12, gf_123_13, pt_123_13_0, pt_123_13_1, gf_123_14, pt_123_14_0, pt_123_14_1, gf_123_15, gf_123_16, gf_123_17, gf_123_18, gf_123_19, gf_123_20, gf_123_21, gf_123_22, gf_123_23, gf_123_24, gf_123_25, pt_123_25, gf_123_26, gf_123_27, pt_123_27, gf_123_28, pt_123_28, gf_123_29, gf_123_30, pt_123_30, gf_123_31, pt_123_31, gf_123_32, pt_123_32, gf_123_33, pt_123_33, gf_123_34, pt_123_34_0, pt_123_34_1, gf_123_35, gf_123_36, gf_123_37, gf_123_38, pt_123_38, gf_123_39, pt_123_39, gf_123_40, pt_123_40, gf_123_41, gf_123_42, gf_123_43, gf_123_44, gf_123_45, gf_123_46, gf_123_47, pt_123_47, h3r, h5r, h0r, not_false_eq_true, if_true, if_false]
  refine Eq.trans ?_ ((fo_run (fun k s => ab_res scr 153 3 M 87 [some (.ref 123), some (.int rule), some (.int able), some (.int (-4)), some (.int s), some (.int (nI k))] []) (am (fun p => tb able p) (fun p q => decide (rkV M rule p < rkV M rule q))) (n) (-4) (fun k hk => ?_)).trans ?_)
  · rfl
  · have h1 : ¬ nI n ≤ nI k := nI_ge hk (by omega)
    have h2 : k < 2 ^ 31 := by omega
    have h3 : k < 8 := by omega
    rcases am_inv (fun p => tb able p) (fun p q => decide (rkV M rule p < rkV M rule q)) k with e | ⟨j, hj, e, -⟩
    · rw [e, q153_87]
      simp only [q153_0, q153_1, q153_2, q153_5, q153_6, q153_7, q153_10, q153_11, q153_12, q153_13, q153_16, q153_17, q153_20, q153_21, q153_24, q153_26, q153_27, q153_30, q153_31, q153_34, q153_36, q153_37, q153_40, q153_41, q153_42, q153_45, q153_47, q153_48, q153_49, q153_51, q153_54, q153_55, q153_56, q153_57, q153_58, q153_59, q153_60, q153_63, q153_64, q153_65, q153_66, q153_69, q153_70, q153_71, q153_74, q153_75, q153_76, q153_79, q153_80, q153_82, q153_84, q153_85, q153_89, q153_90, q153_93, q153_95, q153_96, q153_99, q153_100, q153_102, q153_103, q153_104, q153_105, q153_106, q153_109, q153_111, q153_113, q153_116, q153_117, q153_119, q153_120, q153_123, q153_124, q153_126, q153_127, q153_130, q153_131, q153_134, q153_136, q153_139, q153_141, q153_143, q153_146, q153_149, q153_151, n10, n01, Bool.false_eq_true, ab_bs, ab_bn, ab_pr0, ab_pr1, nl_n, nl_i, nl_r, nl_j, nl_nl, rc_123, gf_123_0, gf_123_1, pt_123_1, gf_123_2, pt_123_2, gf_123_3, pt_123_3, gf_123_4, pt_123_4, gf_123_5, pt_123_5, gf_123_6, pt_123_6, gf_123_7, pt_123_7, gf_123_8, pt_123_8, gf_123_9, gf_123_10, gf_123_11, gf_123_12, gf_123_13, pt_123_13_0, pt_123_13_1, gf_123_14, pt_123_14_0, pt_123_14_1, gf_123_15, gf_123_16, gf_123_17, gf_123_18, gf_123_19, gf_123_20, gf_123_21, gf_123_22, gf_123_23, gf_123_24, gf_123_25, pt_123_25, gf_123_26, gf_123_27, pt_123_27, gf_123_28, pt_123_28, gf_123_29, gf_123_30, pt_123_30, gf_123_31, pt_123_31, gf_123_32, pt_123_32, gf_123_33, pt_123_33, gf_123_34, pt_123_34_0, pt_123_34_1, gf_123_35, gf_123_36, gf_123_37, gf_123_38, pt_123_38, gf_123_39, pt_123_39, gf_123_40, pt_123_40, gf_123_41, gf_123_42, gf_123_43, gf_123_44, gf_123_45, gf_123_46, gf_123_47, pt_123_47, r72, hM, h1, if_false, tb_sh able k h3, nI_succ, am, decide_eq_true_eq, if_true]
      by_cases ht : tb able k = true
      · simp only [ht, if_true, not_true, if_false]
        try rfl
      · simp only [ht, if_false, (show ¬ ((0 : Int32) = 1) by decide), not_false_eq_true, if_true]
        try rfl
    · have h9 : j < 8 := by omega
      rw [e, q153_87]
      simp only [q153_0, q153_1, q153_2, q153_5, q153_6, q153_7, q153_10, q153_11, q153_12, q153_13, q153_16, q153_17, q153_20, q153_21, q153_24, q153_26, q153_27, q153_30, q153_31, q153_34, q153_36, q153_37, q153_40, q153_41, q153_42, q153_45, q153_47, q153_48, q153_49, q153_51, q153_54, q153_55, q153_56, q153_57, q153_58, q153_59, q153_60, q153_63, q153_64, q153_65, q153_66, q153_69, q153_70, q153_71, q153_74, q153_75, q153_76, q153_79, q153_80, q153_82, q153_84, q153_85, q153_89, q153_90, q153_93, q153_95, q153_96, q153_99, q153_100, q153_102, q153_103, q153_104, q153_105, q153_106, q153_109, q153_111, q153_113, q153_116, q153_117, q153_119, q153_120, q153_123, q153_124, q153_126, q153_127, q153_130, q153_131, q153_134, q153_136, q153_139, q153_141, q153_143, q153_146, q153_149, q153_151, n10, n01, Bool.false_eq_true, ab_bs, ab_bn, ab_pr0, ab_pr1, nl_n, nl_i, nl_r, nl_j, nl_nl, rc_123, gf_123_0, gf_123_1, pt_123_1, gf_123_2, pt_123_2, gf_123_3, pt_123_3, gf_123_4, pt_123_4, gf_123_5, pt_123_5, gf_123_6, pt_123_6, gf_123_7, pt_123_7, gf_123_8, pt_123_8, gf_123_9, gf_123_10, gf_123_11, gf_123_12, gf_123_13, pt_123_13_0, pt_123_13_1, gf_123_14, pt_123_14_0, pt_123_14_1, gf_123_15, gf_123_16, gf_123_17, gf_123_18, gf_123_19, gf_123_20, gf_123_21, gf_123_22, gf_123_23, gf_123_24, gf_123_25, pt_123_25, gf_123_26, gf_123_27, pt_123_27, gf_123_28, pt_123_28, gf_123_29, gf_123_30, pt_123_30, gf_123_31, pt_123_31, gf_123_32, pt_123_32, gf_123_33, pt_123_33, gf_123_34, pt_123_34_0, pt_123_34_1, gf_123_35, gf_123_36, gf_123_37, gf_123_38, pt_123_38, gf_123_39, pt_123_39, gf_123_40, pt_123_40, gf_123_41, gf_123_42, gf_123_43, gf_123_44, gf_123_45, gf_123_46, gf_123_47, pt_123_47, r72, hM, h1, if_false, tb_sh able k h3, nI_succ, am, decide_eq_true_eq, if_true, nI_n4 h9, sp_rankOf _ _ h3, sp_rankOf _ _ h9, lg_cmp_ge, i64_le, nI_clamp (show j < 2 ^ 31 by omega)]
      by_cases ht : tb able k = true
      · by_cases hr : rkV M rule k < rkV M rule j
        · simp only [ht, if_true, not_true, if_false, hr, Int32.not_le.mpr hr]
          try rfl
        · simp only [ht, if_true, not_true, if_false, hr, Int32.not_lt.mp hr]
          try rfl
      · simp only [ht, if_false, (show ¬ ((0 : Int32) = 1) by decide), not_false_eq_true, if_true]
        try rfl
  · show ab_res scr 153 3 M 87 _ [] = _
    rw [q153_87]
    simp only [q153_0, q153_1, q153_2, q153_5, q153_6, q153_7, q153_10, q153_11, q153_12, q153_13, q153_16, q153_17, q153_20, q153_21, q153_24, q153_26, q153_27, q153_30, q153_31, q153_34, q153_36, q153_37, q153_40, q153_41, q153_42, q153_45, q153_47, q153_48, q153_49, q153_51, q153_54, q153_55, q153_56, q153_57, q153_58, q153_59, q153_60, q153_63, q153_64, q153_65, q153_66, q153_69, q153_70, q153_71, q153_74, q153_75, q153_76, q153_79, q153_80, q153_82, q153_84, q153_85, q153_89, q153_90, q153_93, q153_95, q153_96, q153_99, q153_100, q153_102, q153_103, q153_104, q153_105, q153_106, q153_109, q153_111, q153_113, q153_116, q153_117, q153_119, q153_120, q153_123, q153_124, q153_126, q153_127, q153_130, q153_131, q153_134, q153_136, q153_139, q153_141, q153_143, q153_146, q153_149, q153_151, n10, n01, Bool.false_eq_true, ab_bs, ab_bn, ab_pr0, ab_pr1, nl_n, nl_i, nl_r, nl_j, nl_nl, rc_123, gf_123_0, gf_123_1, pt_123_1, gf_123_2, pt_123_2, gf_123_3, pt_123_3, gf_123_4, pt_123_4, gf_123_5, pt_123_5, gf_123_6, pt_123_6, gf_123_7, pt_123_7, gf_123_8, pt_123_8, gf_123_9, gf_123_10, gf_123_11, gf_123_12, gf_123_13, pt_123_13_0, pt_123_13_1, gf_123_14, pt_123_14_0, pt_123_14_1, gf_123_15, gf_123_16, gf_123_17, gf_123_18, gf_123_19, gf_123_20, gf_123_21, gf_123_22, gf_123_23, gf_123_24, gf_123_25, pt_123_25, gf_123_26, gf_123_27, pt_123_27, gf_123_28, pt_123_28, gf_123_29, gf_123_30, pt_123_30, gf_123_31, pt_123_31, gf_123_32, pt_123_32, gf_123_33, pt_123_33, gf_123_34, pt_123_34_0, pt_123_34_1, gf_123_35, gf_123_36, gf_123_37, gf_123_38, pt_123_38, gf_123_39, pt_123_39, gf_123_40, pt_123_40, gf_123_41, gf_123_42, gf_123_43, gf_123_44, gf_123_45, gf_123_46, gf_123_47, pt_123_47, r72, hM, nI_rfl, if_true]
theorem n74 (i : Nat) : 74 + nI i = nI (74 + i) := nI_add 74 i
theorem rk_buyer0 {scr : Option (List Int32)} (M : ab_M) (able : Int32) (b i : Nat) (hb : b < 8) (hM : M 123 25 = nI b) (hi : i < 8) (h1 : tb able ((b + (i + 1)) % 8) = true) (h0 : ∀ j, j < i → tb able ((b + (j + 1)) % 8) = false) : ab_ms scr 153 [.ref 123, .int 0, .int able] M = some (M, some (.int (nI ((b + (i + 1)) % 8)))) := by
  rw [ms153]
  simp only [q153_0, q153_1, q153_2, q153_5, q153_6, q153_7, q153_10, q153_11, q153_12, q153_13, q153_16, q153_17, q153_20, q153_21, q153_24, q153_26, q153_27, q153_30, q153_31, q153_34, q153_36, q153_37, q153_40, q153_41, q153_42, q153_45, q153_47, q153_48, q153_49, q153_51, q153_54, q153_55, q153_56, q153_57, q153_58, q153_59, q153_60, q153_63, q153_64, q153_65, q153_66, q153_69, q153_70, q153_71, q153_74, q153_75, q153_76, q153_79, q153_80, q153_82, q153_84, q153_85, q153_89, q153_90, q153_93, q153_95, q153_96, q153_99, q153_100, q153_102, q153_103, q153_104, q153_105, q153_106, q153_109, q153_111, q153_113, q153_116, q153_117, q153_119, q153_120, q153_123, q153_124, q153_126, q153_127, q153_130, q153_131, q153_134, q153_136, q153_139, q153_141, q153_143, q153_146, q153_149, q153_151, n10, n01, Bool.false_eq_true, ab_bs, ab_bn, ab_pr0, ab_pr1, nl_n, nl_i, nl_r, nl_j, nl_nl, rc_123, gf_123_0, gf_123_1, pt_123_1, gf_123_2, pt_123_2, gf_123_3, pt_123_3, gf_123_4, pt_123_4, gf_123_5, pt_123_5, gf_123_6, pt_123_6, gf_123_7, pt_123_7, gf_123_8, pt_123_8, gf_123_9, gf_123_10, gf_123_11, gf_123_12, gf_123_13, pt_123_13_0, pt_123_13_1, gf_123_14, pt_123_14_0, pt_123_14_1, gf_123_15, gf_123_16, gf_123_17, gf_123_18, gf_123_19, gf_123_20, gf_123_21, gf_123_22, gf_123_23, gf_123_24, gf_123_25, pt_123_25, gf_123_26, gf_123_27, pt_123_27, gf_123_28, pt_123_28, gf_123_29, gf_123_30, pt_123_30, gf_123_31, pt_123_31, gf_123_32, pt_123_32, gf_123_33, pt_123_33, gf_123_34, pt_123_34_0, pt_123_34_1, gf_123_35, gf_123_36, gf_123_37, gf_123_38, pt_123_38, gf_123_39, pt_123_39, gf_123_40, pt_123_40, gf_123_41, gf_123_42, gf_123_43, gf_123_44, gf_123_45, gf_123_46, gf_123_47, pt_123_47, (show ¬ ((0 : Int32) = 3) by decide), (show ¬ ((0 : Int32) = 5) by decide), not_false_eq_true, if_true, if_false, sp_byTurn M able b i hb hM hi h1 h0]
theorem rk_buyer5 {scr : Option (List Int32)} (M : ab_M) (able : Int32) (b i : Nat) (hb : b < 8) (hM : M 123 25 = nI b) (hi : i < 8) (h1 : tb able ((b + (i + 1)) % 8) = true) (h0 : ∀ j, j < i → tb able ((b + (j + 1)) % 8) = false) (r t q : Nat) (hr : M 123 30 = nI r) (hr2 : r ≤ 40) (ht : M 127 86 = nI t) (ht2 : t ≤ 12) (hq : r < t → M 127 (74 + r) = nI q ∧ q < 8) : ab_ms scr 153 [.ref 123, .int 5, .int able] M = some (M, some (.int (if r < t ∧ tb able q = true then nI q else nI ((b + (i + 1)) % 8)))) := by
  rw [ms153]
  by_cases h : r < t
  · obtain ⟨hq1, hq2⟩ := hq h
    have h3 : ¬ nI t ≤ nI r := nI_ge h (by omega)
    by_cases hx : tb able q = true
    · simp only [q153_0, q153_1, q153_2, q153_5, q153_6, q153_7, q153_10, q153_11, q153_12, q153_13, q153_16, q153_17, q153_20, q153_21, q153_24, q153_26, q153_27, q153_30, q153_31, q153_34, q153_36, q153_37, q153_40, q153_41, q153_42, q153_45, q153_47, q153_48, q153_49, q153_51, q153_54, q153_55, q153_56, q153_57, q153_58, q153_59, q153_60, q153_63, q153_64, q153_65, q153_66, q153_69, q153_70, q153_71, q153_74, q153_75, q153_76, q153_79, q153_80, q153_82, q153_84, q153_85, q153_89, q153_90, q153_93, q153_95, q153_96, q153_99, q153_100, q153_102, q153_103, q153_104, q153_105, q153_106, q153_109, q153_111, q153_113, q153_116, q153_117, q153_119, q153_120, q153_123, q153_124, q153_126, q153_127, q153_130, q153_131, q153_134, q153_136, q153_139, q153_141, q153_143, q153_146, q153_149, q153_151, n10, n01, Bool.false_eq_true, ab_bs, ab_bn, ab_pr0, ab_pr1, nl_n, nl_i, nl_r, nl_j, nl_nl, rc_123, gf_123_0, gf_123_1, pt_123_1, gf_123_2, pt_123_2, gf_123_3, pt_123_3, gf_123_4, pt_123_4, gf_123_5, pt_123_5, gf_123_6, pt_123_6, gf_123_7, pt_123_7, gf_123_8, pt_123_8, gf_123_9, gf_123_10, gf_123_11, gf_123_12, gf_123_13, pt_123_13_0, pt_123_13_1, gf_123_14, pt_123_14_0, pt_123_14_1, gf_123_15, gf_123_16, gf_123_17, gf_123_18, gf_123_19, gf_123_20, gf_123_21, gf_123_22, gf_123_23, gf_123_24, gf_123_25, pt_123_25, gf_123_26, gf_123_27, pt_123_27, gf_123_28, pt_123_28, gf_123_29, gf_123_30, pt_123_30, gf_123_31, pt_123_31, gf_123_32, pt_123_32, gf_123_33, pt_123_33, gf_123_34, pt_123_34_0, pt_123_34_1, gf_123_35, gf_123_36, gf_123_37, gf_123_38, pt_123_38, gf_123_39, pt_123_39, gf_123_40, pt_123_40, gf_123_41, gf_123_42, gf_123_43, gf_123_44, gf_123_45, gf_123_46, gf_123_47, pt_123_47, (show ¬ ((5 : Int32) = 3) by decide), not_true, not_false_eq_true, if_true, if_false, r86, ht, hr, h3, n74, r127 (show 74 + r < 300 by omega), hq1, nI_n4 hq2, tb_sh able _ hq2, hx, h, true_and]
    · simp only [q153_0, q153_1, q153_2, q153_5, q153_6, q153_7, q153_10, q153_11, q153_12, q153_13, q153_16, q153_17, q153_20, q153_21, q153_24, q153_26, q153_27, q153_30, q153_31, q153_34, q153_36, q153_37, q153_40, q153_41, q153_42, q153_45, q153_47, q153_48, q153_49, q153_51, q153_54, q153_55, q153_56, q153_57, q153_58, q153_59, q153_60, q153_63, q153_64, q153_65, q153_66, q153_69, q153_70, q153_71, q153_74, q153_75, q153_76, q153_79, q153_80, q153_82, q153_84, q153_85, q153_89, q153_90, q153_93, q153_95, q153_96, q153_99, q153_100, q153_102, q153_103, q153_104, q153_105, q153_106, q153_109, q153_111, q153_113, q153_116, q153_117, q153_119, q153_120, q153_123, q153_124, q153_126, q153_127, q153_130, q153_131, q153_134, q153_136, q153_139, q153_141, q153_143, q153_146, q153_149, q153_151, n10, n01, Bool.false_eq_true, ab_bs, ab_bn, ab_pr0, ab_pr1, nl_n, nl_i, nl_r, nl_j, nl_nl, rc_123, gf_123_0, gf_123_1, pt_123_1, gf_123_2, pt_123_2, gf_123_3, pt_123_3, gf_123_4, pt_123_4, gf_123_5, pt_123_5, gf_123_6, pt_123_6, gf_123_7, pt_123_7, gf_123_8, pt_123_8, gf_123_9, gf_123_10, gf_123_11, gf_123_12, gf_123_13, pt_123_13_0, pt_123_13_1, gf_123_14, pt_123_14_0, pt_123_14_1, gf_123_15, gf_123_16, gf_123_17, gf_123_18, gf_123_19, gf_123_20, gf_123_21, gf_123_22, gf_123_23, gf_123_24, gf_123_25, pt_123_25, gf_123_26, gf_123_27, pt_123_27, gf_123_28, pt_123_28, gf_123_29, gf_123_30, pt_123_30, gf_123_31, pt_123_31, gf_123_32, pt_123_32, gf_123_33, pt_123_33, gf_123_34, pt_123_34_0, pt_123_34_1, gf_123_35, gf_123_36, gf_123_37, gf_123_38, pt_123_38, gf_123_39, pt_123_39, gf_123_40, pt_123_40, gf_123_41, gf_123_42, gf_123_43, gf_123_44, gf_123_45, gf_123_46, gf_123_47, pt_123_47, (show ¬ ((5 : Int32) = 3) by decide), (show ¬ ((5 : Int32) = 0) by decide), not_true, not_false_eq_true, if_true, if_false, r86, ht, hr, h3, n74, r127 (show 74 + r < 300 by omega), hq1, nI_n4 hq2, tb_sh able _ hq2, hx, h, and_false, (show ¬ ((0 : Int32) = 1) by decide), sp_byTurn M able b i hb hM hi h1 h0]
  · have h3 : nI t ≤ nI r := nI_le (by omega) (by omega)
    simp only [q153_0, q153_1, q153_2, q153_5, q153_6, q153_7, q153_10, q153_11, q153_12, q153_13, q153_16, q153_17, q153_20, q153_21, q153_24, q153_26, q153_27, q153_30, q153_31, q153_34, q153_36, q153_37, q153_40, q153_41, q153_42, q153_45, q153_47, q153_48, q153_49, q153_51, q153_54, q153_55, q153_56, q153_57, q153_58, q153_59, q153_60, q153_63, q153_64, q153_65, q153_66, q153_69, q153_70, q153_71, q153_74, q153_75, q153_76, q153_79, q153_80, q153_82, q153_84, q153_85, q153_89, q153_90, q153_93, q153_95, q153_96, q153_99, q153_100, q153_102, q153_103, q153_104, q153_105, q153_106, q153_109, q153_111, q153_113, q153_116, q153_117, q153_119, q153_120, q153_123, q153_124, q153_126, q153_127, q153_130, q153_131, q153_134, q153_136, q153_139, q153_141, q153_143, q153_146, q153_149, q153_151, n10, n01, Bool.false_eq_true, ab_bs, ab_bn, ab_pr0, ab_pr1, nl_n, nl_i, nl_r, nl_j, nl_nl, rc_123, gf_123_0, gf_123_1, pt_123_1, gf_123_2, pt_123_2, gf_123_3, pt_123_3, gf_123_4, pt_123_4, gf_123_5, pt_123_5, gf_123_6, pt_123_6, gf_123_7, pt_123_7, gf_123_8, pt_123_8, gf_123_9, gf_123_10, gf_123_11, gf_123_12, gf_123_13, pt_123_13_0, pt_123_13_1, gf_123_14, pt_123_14_0, pt_123_14_1, gf_123_15, gf_123_16, gf_123_17, gf_123_18, gf_123_19, gf_123_20, gf_123_21, gf_123_22, gf_123_23, gf_123_24, gf_123_25, pt_123_25, gf_123_26, gf_123_27, pt_123_27, gf_123_28, pt_123_28, gf_123_29, gf_123_30, pt_123_30, gf_123_31, pt_123_31, gf_123_32, pt_123_32, gf_123_33, pt_123_33, gf_123_34, pt_123_34_0, pt_123_34_1, gf_123_35, gf_123_36, gf_123_37, gf_123_38, pt_123_38, gf_123_39, pt_123_39, gf_123_40, pt_123_40, gf_123_41, gf_123_42, gf_123_43, gf_123_44, gf_123_45, gf_123_46, gf_123_47, pt_123_47, (show ¬ ((5 : Int32) = 3) by decide), (show ¬ ((5 : Int32) = 0) by decide), not_true, not_false_eq_true, if_true, if_false, r86, ht, hr, h3, h, false_and, sp_byTurn M able b i hb hM hi h1 h0]
theorem rk_buyer3 {scr : Option (List Int32)} (M : ab_M) (able v : Int32) (N : ab_M) (h : ab_ms scr 151 [.ref 123, .int able] M = some (N, some (.int v))) : ab_ms scr 153 [.ref 123, .int 3, .int able] M = some (N, some (.int v)) := by
  rw [ms153]
  simp only [q153_0, q153_1, q153_2, q153_5, q153_6, q153_7, q153_10, q153_11, q153_12, q153_13, q153_16, q153_17, q153_20, q153_21, q153_24, q153_26, q153_27, q153_30, q153_31, q153_34, q153_36, q153_37, q153_40, q153_41, q153_42, q153_45, q153_47, q153_48, q153_49, q153_51, q153_54, q153_55, q153_56, q153_57, q153_58, q153_59, q153_60, q153_63, q153_64, q153_65, q153_66, q153_69, q153_70, q153_71, q153_74, q153_75, q153_76, q153_79, q153_80, q153_82, q153_84, q153_85, q153_89, q153_90, q153_93, q153_95, q153_96, q153_99, q153_100, q153_102, q153_103, q153_104, q153_105, q153_106, q153_109, q153_111, q153_113, q153_116, q153_117, q153_119, q153_120, q153_123, q153_124, q153_126, q153_127, q153_130, q153_131, q153_134, q153_136, q153_139, q153_141, q153_143, q153_146, q153_149, q153_151, n10, n01, Bool.false_eq_true, ab_bs, ab_bn, ab_pr0, ab_pr1, nl_n, nl_i, nl_r, nl_j, nl_nl, rc_123, gf_123_0, gf_123_1, pt_123_1, gf_123_2, pt_123_2, gf_123_3, pt_123_3, gf_123_4, pt_123_4, gf_123_5, pt_123_5, gf_123_6, pt_123_6, gf_123_7, pt_123_7, gf_123_8, pt_123_8, gf_123_9, gf_123_10, gf_123_11, gf_123_12, gf_123_13, pt_123_13_0, pt_123_13_1, gf_123_14, pt_123_14_0, pt_123_14_1, gf_123_15, gf_123_16, gf_123_17, gf_123_18, gf_123_19, gf_123_20, gf_123_21, gf_123_22, gf_123_23, gf_123_24, gf_123_25, pt_123_25, gf_123_26, gf_123_27, pt_123_27, gf_123_28, pt_123_28, gf_123_29, gf_123_30, pt_123_30, gf_123_31, pt_123_31, gf_123_32, pt_123_32, gf_123_33, pt_123_33, gf_123_34, pt_123_34_0, pt_123_34_1, gf_123_35, gf_123_36, gf_123_37, gf_123_38, pt_123_38, gf_123_39, pt_123_39, gf_123_40, pt_123_40, gf_123_41, gf_123_42, gf_123_43, gf_123_44, gf_123_45, gf_123_46, gf_123_47, pt_123_47, not_true, if_false, h]
