/-! What a method answers over the fixed layout: an equation for every step -/
def ab_r0 (scr : Option (List Int32)) : Nat → Nat → Nat → ab_M → Nat → ab_Lo → List Value → Option (ab_M × Option Value)
  | 0, _, _, _, _, _, _ => none
  | n + 1, mi, d, M, pc, ls, st => match ab_step scr mi ab_L0 M pc ls st with
    | none => none
    | some (.inl (L2, (pc2, ls2, st2), M2)) => if L2 = ab_L0 then ab_r0 scr n mi d M2 pc2 ls2 st2 else none
    | some (.inr (.inl (m2, As, (pc2, ls2, st2)))) => if Nat.ble (ab_dk m2 As + 1) d = true ∧ Nat.ble (ab_lay As).length (ab_nL m2) = true then (match ab_r0 scr n m2 (ab_dk m2 As) M 0 (ab_en (ab_nL m2) As) [] with
      | none => none
      | some (M2, r) => ab_r0 scr n mi d M2 pc2 ls2 (ab_pr r st2)) else none
    | some (.inr (.inr r)) => some (M, r)
theorem ab_gr_rfl (L : List ab_Ds) : ab_gr L L = true := by
  unfold ab_gr
  rw [Bool.and_eq_true]
  exact ⟨Nat.ble_eq_true_of_le (Nat.le_refl _), Nat.ble_eq_true_of_le (Nat.le_refl _)⟩
theorem ab_r0_run (scr : Option (List Int32)) : ∀ (n mi d : Nat) (M : ab_M) (pc : Nat) (ls : ab_Lo) (st : List Value) (M1 : ab_M) (r : Option Value), ab_r0 scr n mi d M pc ls st = some (M1, r) → ab_run scr n mi d ab_L0 M pc ls st = some (ab_L0, M1, r) := by
  intro n
  induction n with
  | zero =>
    intro mi d M pc ls st M1 r h
    cases h
  | succ n ih =>
    intro mi d M pc ls st M1 r h
    unfold ab_r0 at h
    unfold ab_run
    split at h
    · cases h
    · rename_i L2 pc2 ls2 st2 M2 hs
      by_cases hq : L2 = ab_L0
      · rw [if_pos hq] at h
        rw [hs]
        subst hq
        show (if ab_gr ab_L0 ab_L0 = true then ab_run scr n mi d ab_L0 M2 pc2 ls2 st2 else none) = _
        rw [if_pos (ab_gr_rfl _)]
        exact ih _ _ _ _ _ _ _ _ h
      · rw [if_neg hq] at h
        cases h
    · rename_i m2 As pc2 ls2 st2 hs
      by_cases hq : Nat.ble (ab_dk m2 As + 1) d = true ∧ Nat.ble (ab_lay As).length (ab_nL m2) = true
      · rw [if_pos hq] at h
        rw [hs]
        show (if Nat.ble (ab_dk m2 As + 1) d = true ∧ Nat.ble (ab_lay As).length (ab_nL m2) = true then (match ab_run scr n m2 (ab_dk m2 As) ab_L0 M 0 (ab_en (ab_nL m2) As) [] with
          | none => none
          | some (L2, M2, r) => if ab_gr ab_L0 L2 = true then ab_run scr n mi d L2 M2 pc2 ls2 (ab_pr r st2) else none) else none) = _
        rw [if_pos hq]
        split at h
        · cases h
        · rename_i M2 r2 hc
          rw [ih _ _ _ _ _ _ _ _ hc]
          show (if ab_gr ab_L0 ab_L0 = true then ab_run scr n mi d ab_L0 M2 pc2 ls2 (ab_pr r2 st2) else none) = _
          rw [if_pos (ab_gr_rfl _)]
          exact ih _ _ _ _ _ _ _ _ h
      · rw [if_neg hq] at h
        cases h
    · rename_i r2 hs
      rw [hs]
      cases h
      rfl
theorem ab_r0_mono (scr : Option (List Int32)) : ∀ (n mi d : Nat) (M : ab_M) (pc : Nat) (ls : ab_Lo) (st : List Value) (o : ab_M × Option Value), ab_r0 scr n mi d M pc ls st = some o → ab_r0 scr (n + 1) mi d M pc ls st = some o := by
  intro n
  induction n with
  | zero =>
    intro mi d M pc ls st o h
    cases h
  | succ n ih =>
    intro mi d M pc ls st o h
    rw [ab_r0] at h
    rw [ab_r0]
    split at h
    · cases h
    · rename_i L2 pc2 ls2 st2 M2 hs
      by_cases hq : L2 = ab_L0
      · rw [if_pos hq] at h
        show (if L2 = ab_L0 then ab_r0 scr (n + 1) mi d M2 pc2 ls2 st2 else none) = _
        rw [if_pos hq]
        exact ih _ _ _ _ _ _ _ h
      · rw [if_neg hq] at h
        cases h
    · rename_i m2 As pc2 ls2 st2 hs
      by_cases hq : Nat.ble (ab_dk m2 As + 1) d = true ∧ Nat.ble (ab_lay As).length (ab_nL m2) = true
      · rw [if_pos hq] at h
        show (if Nat.ble (ab_dk m2 As + 1) d = true ∧ Nat.ble (ab_lay As).length (ab_nL m2) = true then (match ab_r0 scr (n + 1) m2 (ab_dk m2 As) M 0 (ab_en (ab_nL m2) As) [] with
          | none => none
          | some (M2, r) => ab_r0 scr (n + 1) mi d M2 pc2 ls2 (ab_pr r st2)) else none) = _
        rw [if_pos hq]
        split at h
        · cases h
        · rename_i M2 r2 hc
          rw [ih _ _ _ _ _ _ _ hc]
          exact ih _ _ _ _ _ _ _ h
      · rw [if_neg hq] at h
        cases h
    · exact h
theorem ab_r0_le {scr : Option (List Int32)} {n m mi d : Nat} {M : ab_M} {pc : Nat} {ls : ab_Lo} {st : List Value} {o : ab_M × Option Value} (hnm : n ≤ m) (h : ab_r0 scr n mi d M pc ls st = some o) : ab_r0 scr m mi d M pc ls st = some o := by
  induction m with
  | zero =>
    have : n = 0 := by omega
    subst this
    exact h
  | succ m ih =>
    by_cases q : n = m + 1
    · subst q
      exact h
    · exact ab_r0_mono scr _ _ _ _ _ _ _ _ (ih (by omega))
noncomputable def ab_res (scr : Option (List Int32)) (mi d : Nat) (M : ab_M) (pc : Nat) (ls : ab_Lo) (st : List Value) : Option (ab_M × Option Value) := by
  classical
  exact if h : ∃ o n, ab_r0 scr n mi d M pc ls st = some o then some h.choose else none
theorem ab_res_iff {scr : Option (List Int32)} {mi d : Nat} {M : ab_M} {pc : Nat} {ls : ab_Lo} {st : List Value} {o : ab_M × Option Value} : ab_res scr mi d M pc ls st = some o ↔ ∃ n, ab_r0 scr n mi d M pc ls st = some o := by
  unfold ab_res
  constructor
  · intro h
    split at h
    · rename_i hx
      cases h
      exact hx.choose_spec
    · cases h
  · rintro ⟨n, hn⟩
    have hx : ∃ o n, ab_r0 scr n mi d M pc ls st = some o := ⟨o, n, hn⟩
    rw [dif_pos hx]
    obtain ⟨m, hm⟩ := hx.choose_spec
    have h1 := ab_r0_le (Nat.le_max_left n m) hn
    have h2 := ab_r0_le (Nat.le_max_right n m) hm
    rw [h1] at h2
    exact congrArg some (Option.some.inj h2).symm
/-- what a method answers -/
noncomputable def ab_ms (scr : Option (List Int32)) (mi : Nat) (As : List Value) (M : ab_M) : Option (ab_M × Option Value) := ab_res scr mi (ab_dk mi As) M 0 (ab_en (ab_nL mi) As) []
theorem ab_opt_ext {α : Type} {a b : Option α} (h : ∀ o, a = some o ↔ b = some o) : a = b := by
  cases a with
  | none =>
    cases b with
    | none => rfl
    | some y => exact absurd ((h y).mpr rfl) (by simp)
  | some x => exact ((h x).mp rfl).symm
section ABX
variable {scr : Option (List Int32)} {mi d : Nat} {M M2 : ab_M} {pc pc2 len : Nat} {ls ls2 : ab_Lo} {st st2 : List Value}
theorem ab_x (h : ab_step scr mi ab_L0 M pc ls st = some (.inl (ab_L0, (pc2, ls2, st2), M2))) : ab_res scr mi d M pc ls st = ab_res scr mi d M2 pc2 ls2 st2 := by
  apply ab_opt_ext
  intro o
  rw [ab_res_iff, ab_res_iff]
  constructor
  · rintro ⟨n, hn⟩
    cases n with
    | zero => cases hn
    | succ n =>
      rw [ab_r0, h] at hn
      exact ⟨n, by simpa using hn⟩
  · rintro ⟨n, hn⟩
    refine ⟨n + 1, ?_⟩
    rw [ab_r0, h]
    simpa using hn
theorem ab_x_none (h : ab_step scr mi ab_L0 M pc ls st = none) : ab_res scr mi d M pc ls st = none := by
  apply ab_opt_ext
  intro o
  rw [ab_res_iff]
  constructor
  · rintro ⟨n, hn⟩
    cases n with
    | zero => cases hn
    | succ n =>
      rw [ab_r0, h] at hn
      cases hn
  · intro q
    cases q
theorem ab_x_ret {r : Option Value} (h : ab_step scr mi ab_L0 M pc ls st = some (.inr (.inr r))) : ab_res scr mi d M pc ls st = some (M, r) := by
  rw [ab_res_iff]
  exact ⟨1, by rw [ab_r0, h]⟩
theorem ab_x_call {m2 : Nat} {As : List Value} (h : ab_step scr mi ab_L0 M pc ls st = some (.inr (.inl (m2, As, (pc2, ls2, st2))))) (hq : Nat.ble (ab_dk m2 As + 1) d = true) (hl : Nat.ble (ab_lay As).length (ab_nL m2) = true) : ab_res scr mi d M pc ls st = (ab_ms scr m2 As M).bind fun o => ab_res scr mi d o.1 pc2 ls2 (ab_pr o.2 st2) := by
  apply ab_opt_ext
  intro o
  rw [ab_res_iff, Option.bind_eq_some_iff]
  constructor
  · rintro ⟨n, hn⟩
    cases n with
    | zero => cases hn
    | succ n =>
      rw [ab_r0, h] at hn
      have hn : (if Nat.ble (ab_dk m2 As + 1) d = true ∧ Nat.ble (ab_lay As).length (ab_nL m2) = true then (match ab_r0 scr n m2 (ab_dk m2 As) M 0 (ab_en (ab_nL m2) As) [] with
        | none => none
        | some (M2, r) => ab_r0 scr n mi d M2 pc2 ls2 (ab_pr r st2)) else none) = some o := hn
      rw [if_pos ⟨hq, hl⟩] at hn
      split at hn
      · cases hn
      · rename_i M2 r2 hc
        exact ⟨(M2, r2), ab_res_iff.mpr ⟨n, hc⟩, ab_res_iff.mpr ⟨n, hn⟩⟩
  · rintro ⟨⟨M2, r2⟩, h1, h2⟩
    obtain ⟨n1, h1⟩ := ab_res_iff.mp h1
    obtain ⟨n2, h2⟩ := ab_res_iff.mp h2
    refine ⟨max n1 n2 + 1, ?_⟩
    rw [ab_r0, h]
    show (if Nat.ble (ab_dk m2 As + 1) d = true ∧ Nat.ble (ab_lay As).length (ab_nL m2) = true then (match ab_r0 scr (max n1 n2) m2 (ab_dk m2 As) M 0 (ab_en (ab_nL m2) As) [] with
        | none => none
        | some (M2, r) => ab_r0 scr (max n1 n2) mi d M2 pc2 ls2 (ab_pr r st2)) else none) = some o
    rw [if_pos ⟨hq, hl⟩, ab_r0_le (Nat.le_max_left n1 n2) h1]
    exact ab_r0_le (Nat.le_max_right n1 n2) h2
theorem ab_dc {cc cd : ByteArray} {r : Except DecodeError (Instr × Nat)} (h : cd = cc) (hd : decode cc pc = r) : decode cd pc = r := by rw [h]; exact hd
theorem ab_of {i : Instr} (hd : decode (ab_code mi) pc = .ok (i, len)) : ab_step scr mi ab_L0 M pc ls st = ab_s2 scr mi ab_L0 M pc ls st i len := by
  unfold ab_step
  rw [hd]
/-- an instruction that only goes on -/
theorem ab_xg {i : Instr} (hd : decode (ab_code mi) pc = .ok (i, len)) (hk : ab_kd i = .inl 0) (h : ab_sI scr mi ab_L0 M pc ls st i len = some (ab_L0, (pc2, ls2, st2), M2)) : ab_res scr mi d M pc ls st = ab_res scr mi d M2 pc2 ls2 st2 := by
  apply ab_x
  rw [ab_of hd]
  unfold ab_s2
  rw [hk, h]
  rfl
theorem ab_xn {i : Instr} (hd : decode (ab_code mi) pc = .ok (i, len)) (hk : ab_kd i = .inl 0) (h : ab_sI scr mi ab_L0 M pc ls st i len = none) : ab_res scr mi d M pc ls st = none := by
  apply ab_x_none
  rw [ab_of hd]
  unfold ab_s2
  rw [hk, h]
  rfl
end ABX
