/-! READ -/
theorem CR_torn {n t : Nat} {K : Int} {M M' : ab_M} (h : CR n t K M) (hx : ∀ c j, ¬ (c = 0 ∧ j = 9) → ¬ (c = 123 ∧ j = 47) → M' c j = M c j) (h8' : M' 0 9 = M' 123 47) : CR n t K M' := by
  obtain ⟨h1, h2, h3, h4, h5, h6, h7, h8⟩ := h
  have y : ∀ c j, 1 ≤ c → c ≠ 123 → M' c j = M c j := fun c j a d => hx c j (by omega) (by omega)
  have y14 : M' 123 14 = M 123 14 := hx _ _ (by decide) (by decide)
  have hn := h1.1
  have ht := h1.2.1
  refine ⟨pgV_of h1 (fun j => y _ _ (by decide) (by decide)) (fun w j hw => y _ _ (by omega) (by omega)), ?_, fun k hk => ?_, fun k hk => ?_, ?_, ?_, ?_, h8'⟩
  · obtain ⟨a, b, c, d, e⟩ := h2
    have z : ∀ j, M' 127 j = M 127 j := fun j => y _ _ (by decide) (by decide)
    exact ⟨by rw [z, a], by rw [z, y14, y _ _ (by decide) (by decide)]; exact b, by rw [z, c], fun w hw p hp => by rw [z, y _ _ (by omega) (by omega)]; exact d w hw p hp, fun i hi => by rw [z, y _ _ (by decide) (by decide)]; exact e i hi⟩
  · rcases h3 k hk with ⟨a, b⟩ | ⟨a, b, c, n', t', d, e, f⟩
    · exact Or.inl ⟨by rw [y _ _ (by omega) (by omega), a], by rw [y _ _ (by decide) (by decide), b]⟩
    · exact Or.inr ⟨by rw [y _ _ (by omega) (by omega), a], by rw [y _ _ (by decide) (by decide), b], by rw [y14]; exact c, n', t', pgV_of d (fun j => y _ _ (by omega) (by omega)) (fun w j hw => y _ _ (by omega) (by omega)), pgR_of e d.1 d.2.1 (fun w j hw => y _ _ (by omega) (by omega)) (fun j hj _ => y _ _ (by decide) (by decide)), by rw [y 127 _ (by decide) (by decide), y _ _ (by omega) (by omega), f]⟩
  · rcases h4 k hk with ⟨a, b⟩ | ⟨s, l, a, b, c, d, e, f, g⟩
    · exact Or.inl ⟨by rw [y _ _ (by omega) (by omega), a], by rw [y _ _ (by omega) (by omega), b]⟩
    · exact Or.inr ⟨s, l, a, b, by rw [y _ _ (by omega) (by omega), c], by rw [y _ _ (by omega) (by omega), d], by rw [y _ _ (by omega) (by omega), e], by rw [y _ _ (by omega) (by omega), f], fun i hi => by rw [y _ _ (by omega) (by omega), y _ _ (by omega) (by omega)]; exact g i hi⟩
  · obtain ⟨L, a, b, c, d⟩ := h5
    exact ⟨L, a, by rw [y _ _ (by decide) (by decide), b], by rw [hx _ _ (by decide) (by decide), c], fun i hi => by rw [y _ _ (by decide) (by decide), y _ _ (by decide) (by decide)]; exact d i hi⟩
  · intro q hq hq2
    rw [y _ _ (by omega) (by omega)]
    exact h6 q hq hq2
  · rw [y _ _ (by decide) (by decide), hx 123 2 (by decide) (by decide), h7]
/-- the fault of a cell -/
def fa (u : Nat) (lane f : Int32) (M : ab_M) (k : Nat) : Int32 := if 0 ≤ M (115 + 2 * u) 2 then (if lane = M (115 + 2 * u) 1 then (if 0 ≤ f + nI k ∧ f + nI k < M (115 + 2 * u) 2 then 0 else 2) else 3) else 1
theorem sp_57 {scr : Option (List Int32)} {u : Nat} (hu : u < 4) (M : ab_M) (lane f : Int32) (k : Nat) : ab_ms scr 57 [.ref (115 + 2 * u), .int lane, .int (f + nI k)] M = some (M, some (.int (fa u lane f M k))) := by
  obtain ⟨g0, g1, g2, -⟩ := SHo (scr := scr) hu
  rw [ms57]
  unfold fa
  by_cases h1 : 0 ≤ M (115 + 2 * u) 2
  · by_cases h2 : lane = M (115 + 2 * u) 1
    · by_cases h3 : f + nI k < 0
      · simp only [q57_0, q57_1, q57_4, q57_7, q57_8, q57_9, q57_10, q57_11, q57_14, q57_17, q57_18, q57_19, q57_20, q57_23, q57_24, q57_25, q57_28, q57_31, q57_32, q57_35, q57_36, n10, n01, Bool.false_eq_true, ab_bs, ab_bn, ab_pr0, ab_pr1, nl_n, nl_i, nl_r, nl_j, nl_nl, g1, g2, h1, ← h2, h3, if_true, Int32.not_le.mpr h3, false_and, if_false]
      · have h3' : 0 ≤ f + nI k := Int32.not_lt.mp h3
        by_cases h4 : f + nI k < M (115 + 2 * u) 2
        · simp only [q57_0, q57_1, q57_4, q57_7, q57_8, q57_9, q57_10, q57_11, q57_14, q57_17, q57_18, q57_19, q57_20, q57_23, q57_24, q57_25, q57_28, q57_31, q57_32, q57_35, q57_36, n10, n01, Bool.false_eq_true, ab_bs, ab_bn, ab_pr0, ab_pr1, nl_n, nl_i, nl_r, nl_j, nl_nl, g1, g2, h1, ← h2, h3, h3', h4, if_true, and_self, if_false]
        · simp only [q57_0, q57_1, q57_4, q57_7, q57_8, q57_9, q57_10, q57_11, q57_14, q57_17, q57_18, q57_19, q57_20, q57_23, q57_24, q57_25, q57_28, q57_31, q57_32, q57_35, q57_36, n10, n01, Bool.false_eq_true, ab_bs, ab_bn, ab_pr0, ab_pr1, nl_n, nl_i, nl_r, nl_j, nl_nl, g1, g2, h1, ← h2, h3, h3', h4, if_true, and_false, if_false]
    · simp only [q57_0, q57_1, q57_4, q57_7, q57_8, q57_9, q57_10, q57_11, q57_14, q57_17, q57_18, q57_19, q57_20, q57_23, q57_24, q57_25, q57_28, q57_31, q57_32, q57_35, q57_36, n10, n01, Bool.false_eq_true, ab_bs, ab_bn, ab_pr0, ab_pr1, nl_n, nl_i, nl_r, nl_j, nl_nl, g1, g2, h1, h2, if_true, if_false]
  · simp only [q57_0, q57_1, q57_4, q57_7, q57_8, q57_9, q57_10, q57_11, q57_14, q57_17, q57_18, q57_19, q57_20, q57_23, q57_24, q57_25, q57_28, q57_31, q57_32, q57_35, q57_36, n10, n01, Bool.false_eq_true, ab_bs, ab_bn, ab_pr0, ab_pr1, nl_n, nl_i, nl_r, nl_j, nl_nl, g1, g2, h1, if_false]
theorem ix_eq (f : Int32) {k s : Nat} (hk : k ≤ 12) (hs : s ≤ 40) : (0 ≤ f.toInt64 + (nI k).toInt64 ∧ f.toInt64 + (nI k).toInt64 ≤ (nI s - 1).toInt64) = (0 ≤ f + nI k ∧ f + nI k < nI s) := by
  apply propext
  have a := Int32.toInt_lt f
  have b := Int32.le_toInt f
  have ek : (nI k).toInt = k := nI_toInt (by omega)
  have es : (nI s).toInt = s := nI_toInt (by omega)
  have e1 : (f.toInt64 + (nI k).toInt64).toInt = f.toInt + k := by
    rw [Int64.toInt_add, Int32.toInt_toInt64, Int32.toInt_toInt64, ek]
    exact Int.bmod_eq_of_le (by omega) (by omega)
  have e2 : (nI s - 1).toInt64.toInt = (s : Int) - 1 := by
    rw [Int32.toInt_toInt64, ti_sub (by rw [es, show (1 : Int32).toInt = 1 by decide]; omega) (by rw [es, show (1 : Int32).toInt = 1 by decide]; omega), es, show (1 : Int32).toInt = 1 by decide]
  rw [Int64.le_iff_toInt_le, Int64.le_iff_toInt_le, e1, e2, Int32.le_iff_toInt_le, Int32.lt_iff_toInt_lt, es, show (0 : Int64).toInt = 0 by decide, show (0 : Int32).toInt = 0 by decide]
  by_cases h : f.toInt + k < 2147483648
  · have e3 : (f + nI k).toInt = f.toInt + k := by rw [ti_add (by omega) (by omega), ek]
    rw [e3]
    omega
  · have e3 : (f + nI k).toInt = f.toInt + k - 4294967296 := by
      rw [Int32.toInt_add, ek]
      have : (f.toInt + k).bmod (2 ^ 32) = (f.toInt + k - 4294967296).bmod (2 ^ 32) := by
        have e := @Int.add_bmod_right (f.toInt + k - 4294967296) (2 ^ 32)
        rw [show ((2 ^ 32 : Nat) : Int) = 4294967296 by decide, Int.sub_add_cancel] at e
        exact e
      rw [this]
      exact Int.bmod_eq_of_le (by omega) (by omega)
    rw [e3]
    omega
/-- what stands in the cell -/
def xv (u : Nat) (f : Int32) (M : ab_M) (k : Nat) : Int32 := M (116 + 2 * u) (f + nI k).toNatClampNeg
theorem fa_0 {u : Nat} {lane f : Int32} {M : ab_M} {k s l : Nat} (hs : s ≤ 40) (c : M (115 + 2 * u) 2 = nI s) (e : M (115 + 2 * u) 1 = nI l) (h : fa u lane f M k = 0) : ∃ j, j < s ∧ f + nI k = nI j := by
  unfold fa at h
  rw [c, e] at h
  split at h
  · split at h
    · split at h
      · next q =>
        obtain ⟨j, hj, hj2⟩ := rng (by omega) q
        exact ⟨j, hj, hj2⟩
      · exact absurd h (by decide)
    · exact absurd h (by decide)
  · exact absurd h (by decide)
/-- what ends the reading at this cell: a fault, or an answer -/
def rv (u n t : Nat) (lane f : Int32) (M : ab_M) (k : Nat) : Option (Int32 ⊕ Int32) := if fa u lane f M k = 0 then (if 0 ≤ xv u f M k ∧ xv u f M k < nI n then (if t + k < 12 then none else some (.inr (-3))) else some (.inr (-20 - nI k))) else some (.inl (fa u lane f M k))
theorem least {β : Type} (v : Nat → Option β) (m : Nat) : ∃ k, k ≤ m ∧ (∀ j, j < k → v j = none) ∧ (k = m ∨ (k < m ∧ ∃ b, v k = some b)) := by
  induction m with
  | zero => exact ⟨0, Nat.le_refl _, fun j h => absurd h (by omega), Or.inl rfl⟩
  | succ m ih =>
    obtain ⟨k, h1, h2, h3⟩ := ih
    rcases h3 with rfl | ⟨h3, b, hb⟩
    · cases hv : v k with
      | some b => exact ⟨k, by omega, h2, Or.inr ⟨by omega, b, hv⟩⟩
      | none =>
        refine ⟨k + 1, Nat.le_refl _, fun j hj => ?_, Or.inl rfl⟩
        by_cases e : j = k
        · rw [e, hv]
        · exact h2 j (by omega)
    · exact ⟨k, by omega, h2, Or.inr ⟨by omega, b, hb⟩⟩
theorem rv_n {u n t : Nat} {lane f : Int32} {M : ab_M} {k : Nat} (h : rv u n t lane f M k = none) : fa u lane f M k = 0 ∧ (0 ≤ xv u f M k ∧ xv u f M k < nI n) ∧ t + k < 12 := by
  unfold rv at h
  split at h
  · split at h
    · split at h
      · exact ⟨by assumption, by assumption, by assumption⟩
      · cases h
    · cases h
  · cases h
section
variable {scr : Option (List Int32)} {n t : Nat} {K : Int} {M : ab_M}
theorem rd_cls (h : CR n t K M) {u : Nat} (hu : u < 4) (lane f : Int32) (m k : Nat) (hm : m ≤ 12) (hk : k ≤ m) (hv : ∀ j, j < k → rv u n t lane f M j = none) : ab_res scr 108 2 M 44 [some (.ref 0), some (.int (nI u)), some (.int lane), some (.int f), some (.int (nI m)), some (.ref (115 + 2 * u)), some (.int 0), some (.int (nI 0)), none] [] = ab_res scr 108 2 M 44 [some (.ref 0), some (.int (nI u)), some (.int lane), some (.int f), some (.int (nI m)), some (.ref (115 + 2 * u)), some (.int 0), some (.int (nI k)), none] [] := by
  obtain ⟨g0, g1, g2, p1, p2, ln, si, al, rc⟩ := SHo (scr := scr) hu
  have hn := CR_n h
  have hM := CR_3 h
  have ht := h.1.2.2.2.1
  refine rn (fun k => ab_res scr 108 2 M 44 [some (.ref 0), some (.int (nI u)), some (.int lane), some (.int f), some (.int (nI m)), some (.ref (115 + 2 * u)), some (.int 0), some (.int (nI k)), none] []) k (fun i hi => ?_)
  obtain ⟨v1, v2, v3⟩ := rv_n (hv i hi)
  have h1 : ¬ nI m ≤ nI i := nI_ge (by omega) (by omega)
  have x1 := sp_57 (scr := scr) hu M lane f i
  rw [v1] at x1
  have x2 := sp_has (scr := scr) M n hn hM (xv u f M i)
  have hin : ab_inB (f + nI i) 40 = true := by
    rcases h.2.2.2.1 u hu with ⟨a, b⟩ | ⟨s, l, a, b, c, d, e, -, -⟩
    · unfold fa at v1
      rw [a, if_neg (show ¬ (0 : Int32) ≤ -1 by decide)] at v1
      exact absurd v1 (by decide)
    · obtain ⟨j, hj, hj2⟩ := fa_0 a c e v1
      rw [hj2]
      exact ib40 (by omega)
  have x3 : ab_ald scr ab_L0 M (116 + 2 * u) .int (f + nI i) = some (xv u f M i) := by rw [al, hin]; rfl
  have x4 : nI (t + i) < 12 := nI_lt (b := 12) v3 (by decide)
  rw [q108_44]
  simp only [q108_0, q108_1, q108_2, q108_5, q108_8, q108_9, q108_10, q108_13, q108_16, q108_18, q108_21, q108_23, q108_25, q108_28, q108_29, q108_30, q108_31, q108_34, q108_35, q108_36, q108_38, q108_39, q108_41, q108_42, q108_46, q108_48, q108_51, q108_53, q108_54, q108_55, q108_57, q108_58, q108_61, q108_63, q108_65, q108_68, q108_71, q108_72, q108_75, q108_77, q108_80, q108_81, q108_83, q108_84, q108_85, q108_88, q108_91, q108_93, q108_95, q108_96, q108_97, q108_98, q108_101, q108_104, q108_106, q108_107, q108_109, q108_112, q108_114, q108_115, q108_118, q108_121, q108_122, q108_126, q108_128, q108_131, q108_132, q108_135, q108_137, q108_140, q108_141, q108_143, q108_144, q108_145, q108_148, q108_151, q108_154, q108_155, q108_157, q108_160, q108_162, n10, n01, Bool.false_eq_true, ab_bs, ab_bn, ab_pr0, ab_pr1, nl_n, nl_i, nl_r, nl_j, nl_nl, rc_0, gf_0_0, gf_0_1, gf_0_2, gf_0_3, gf_0_4, gf_0_5, gf_0_6, gf_0_7, gf_0_8, gf_0_9, pt_0_9, rc_16, gf_16_0, gf_16_1, gf_16_2, gf_16_3, pt_16_3, gf_16_4, pt_16_4, gf_16_5, pt_16_5, h1, if_false, rc, x1, g0, x3, x2, v2, and_self, if_true, (show ¬ (1 : Int32) = 0 by decide), not_false_eq_true, ht, nI_add, x4, nI_succ]
end
