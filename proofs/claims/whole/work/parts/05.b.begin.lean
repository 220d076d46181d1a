/-! What the constructors make: by running them -/
theorem ab_xar_ne {scr : Option (List Int32)} {a : Nat} (h : a ≠ 3000) : ab_xar scr a = ab_xar none a := by
  unfold ab_xar
  split
  · exact absurd rfl h
  all_goals rfl
theorem ab_ald_ne {scr : Option (List Int32)} {L : List ab_Ds} {M : ab_M} {a : Nat} {ty : FieldType} {i : Int32} (h : a ≠ 3000) : ab_ald scr L M a ty i = ab_ald none L M a ty i := by
  unfold ab_ald
  rw [ab_xar_ne h]
theorem ab_ald_no {L : List ab_Ds} {M : ab_M} {a n : Nat} {ty : FieldType} {i : Int32} (scr : Option (List Int32)) (h : ab_ar L a ty = some n) : ab_ald scr L M a ty i = ab_ald none L M a ty i := by
  unfold ab_ald
  rw [h]
theorem ab_ald_ty {L : List ab_Ds} {M : ab_M} {a : Nat} {ty : FieldType} {i : Int32} (scr : Option (List Int32)) (h : ¬ FieldType.int = ty) : ab_ald scr L M a ty i = ab_ald none L M a ty i := by
  by_cases ha : a = 3000
  · subst ha
    unfold ab_ald
    split
    · rfl
    · cases scr with
      | none => rfl
      | some l =>
        show (if FieldType.int = ty ∧ 1000 ≤ 3000 ∧ ab_inB i l.length = true then some (l.getD i.toNatClampNeg 0) else none) = none
        rw [if_neg (fun q => h q.1)]
  · exact ab_ald_ne ha
theorem ab_sI_none {scr : Option (List Int32)} {mi : Nat} {L : List ab_Ds} {M : ab_M} {pc : Nat} {ls : ab_Lo} {st : List Value} {i : Instr} {len : Nat} {o : ab_Ou} (h : ab_sI none mi L M pc ls st i len = some o) : ab_sI scr mi L M pc ls st i len = some o := by
  cases i with
  | arraylength =>
    obtain ⟨h1, h2⟩ := ab_ck_some h
    obtain ⟨a, t, h3, h4⟩ := ab_R_some h2
    by_cases ha : a = 3000
    · subst ha
      cases hL : L[3000]? with
      | none =>
        have : ab_len none L 3000 = none := by
          unfold ab_len
          rw [hL]
          rfl
        rw [this] at h4
        cases h4
      | some dd =>
        have : ab_len scr L 3000 = ab_len none L 3000 := by
          unfold ab_len
          rw [hL]
          cases dd with
          | inl _ => rfl
          | inr _ => rfl
        subst h1
        subst h3
        show ab_ck 1 1 (match ab_len scr L 3000 with | some n => ab_go L M (pc + 1) ls (.int n :: t) | none => none) = _
        rw [this]
        exact h
    · have : ab_len scr L a = ab_len none L a := by
        unfold ab_len
        rw [ab_xar_ne ha]
      subst h1
      subst h3
      show ab_ck 1 1 (match ab_len scr L a with | some n => ab_go L M (pc + 1) ls (.int n :: t) | none => none) = _
      rw [this]
      exact h
  | iaload =>
    obtain ⟨h1, h2⟩ := ab_ck_some h
    obtain ⟨i, t, h3, h4⟩ := ab_I_some h2
    obtain ⟨a, t2, h5, h6⟩ := ab_R_some h4
    subst h1
    subst h3
    subst h5
    have e : ab_ald scr L M a .int i = ab_ald none L M a .int i := by
      by_cases ha : a = 3000
      · subst ha
        cases hr : ab_ar L 3000 .int with
        | some n => exact ab_ald_no scr hr
        | none =>
          have : ab_ald none L M 3000 .int i = none := by
            unfold ab_ald
            rw [hr]
            rfl
          rw [this] at h6
          cases h6
      · exact ab_ald_ne ha
    show ab_ck 1 1 (match ab_ald scr L M a .int i with | some v => ab_go L M (pc + 1) ls (.int v :: t2) | none => none) = _
    rw [e]
    exact h
  | baload =>
    obtain ⟨h1, h2⟩ := ab_ck_some h
    obtain ⟨i, t, h3, h4⟩ := ab_I_some h2
    obtain ⟨a, t2, h5, h6⟩ := ab_R_some h4
    subst h1
    subst h3
    subst h5
    show ab_ck 1 1 (match ab_ald scr L M a .byte i with | some v => ab_go L M (pc + 1) ls (.int v :: t2) | none => match ab_ald scr L M a .boolean i with | some v => ab_go L M (pc + 1) ls (.int v :: t2) | none => none) = _
    rw [ab_ald_ty scr (by decide), ab_ald_ty scr (by decide)]
    exact h
  | _ => exact h
theorem ab_step_none {scr : Option (List Int32)} {mi : Nat} {L : List ab_Ds} {M : ab_M} {pc : Nat} {ls : ab_Lo} {st : List Value} {o : ab_Ov} (h : ab_step none mi L M pc ls st = some o) : ab_step scr mi L M pc ls st = some o := by
  unfold ab_step at h ⊢
  split at h
  · rename_i i len hd
    unfold ab_s2 at h ⊢
    have hm : ∀ o, (ab_sI none mi L M pc ls st i len).map Sum.inl = some o → (ab_sI scr mi L M pc ls st i len).map Sum.inl = (some o : Option ab_Ov) := fun o ho => by
      obtain ⟨x, h1, h2⟩ := ab_map_inl ho
      rw [ab_sI_none h1, h2]
      rfl
    split at h
    · exact hm _ h
    · exact h
    · rename_i kd k hk
      by_cases q : len = 3
      · rw [if_pos q] at h ⊢
        split at h
        · exact h
        · exact hm _ h
      · rw [if_neg q] at h
        cases h
  · cases h
theorem ab_run_none (scr : Option (List Int32)) : ∀ (n mi d : Nat) (L : List ab_Ds) (M : ab_M) (pc : Nat) (ls : ab_Lo) (st : List Value) (r : List ab_Ds × ab_M × Option Value), ab_run none n mi d L M pc ls st = some r → ab_run scr n mi d L M pc ls st = some r := by
  intro n
  induction n with
  | zero =>
    intro mi d L M pc ls st r h
    cases h
  | succ n ih =>
    intro mi d L M pc ls st r h
    rw [ab_run] at h ⊢
    split at h
    · cases h
    · rename_i L2 pc2 ls2 st2 M2 hs
      rw [ab_step_none hs]
      show (if ab_gr L L2 = true then ab_run scr n mi d L2 M2 pc2 ls2 st2 else none) = _
      by_cases hq : ab_gr L L2 = true
      · rw [if_pos hq] at h ⊢
        exact ih _ _ _ _ _ _ _ _ h
      · rw [if_neg hq] at h
        cases h
    · rename_i m2 As pc2 ls2 st2 hs
      rw [ab_step_none hs]
      show (if Nat.ble (ab_dk m2 As + 1) d = true ∧ Nat.ble (ab_lay As).length (ab_nL m2) = true then (match ab_run scr n m2 (ab_dk m2 As) L M 0 (ab_en (ab_nL m2) As) [] with
          | none => none
          | some (L2, M2, r) => if ab_gr L L2 = true then ab_run scr n mi d L2 M2 pc2 ls2 (ab_pr r st2) else none) else none) = _
      by_cases hq : Nat.ble (ab_dk m2 As + 1) d = true ∧ Nat.ble (ab_lay As).length (ab_nL m2) = true
      · rw [if_pos hq] at h ⊢
        split at h
        · cases h
        · rename_i L2 M2 r2 hc
          rw [ih _ _ _ _ _ _ _ _ hc]
          show (if ab_gr L L2 = true then ab_run scr n mi d L2 M2 pc2 ls2 (ab_pr r2 st2) else none) = _
          by_cases hg : ab_gr L L2 = true
          · rw [if_pos hg] at h ⊢
            exact ih _ _ _ _ _ _ _ _ h
          · rw [if_neg hg] at h
            cases h
      · rw [if_neg hq] at h
        cases h
    · rename_i r2 hs
      rw [ab_step_none hs]
      exact h
theorem ab_run_mono (scr : Option (List Int32)) : ∀ (n mi d : Nat) (L : List ab_Ds) (M : ab_M) (pc : Nat) (ls : ab_Lo) (st : List Value) (r : List ab_Ds × ab_M × Option Value), ab_run scr n mi d L M pc ls st = some r → ab_run scr (n + 1) mi d L M pc ls st = some r := by
  intro n
  induction n with
  | zero =>
    intro mi d L M pc ls st r h
    cases h
  | succ n ih =>
    intro mi d L M pc ls st r h
    rw [ab_run] at h
    rw [ab_run]
    split at h
    · cases h
    · rename_i L2 pc2 ls2 st2 M2 hs
      show (if ab_gr L L2 = true then ab_run scr (n + 1) mi d L2 M2 pc2 ls2 st2 else none) = _
      by_cases hq : ab_gr L L2 = true
      · rw [if_pos hq] at h ⊢
        exact ih _ _ _ _ _ _ _ _ h
      · rw [if_neg hq] at h
        cases h
    · rename_i m2 As pc2 ls2 st2 hs
      show (if Nat.ble (ab_dk m2 As + 1) d = true ∧ Nat.ble (ab_lay As).length (ab_nL m2) = true then (match ab_run scr (n + 1) m2 (ab_dk m2 As) L M 0 (ab_en (ab_nL m2) As) [] with
          | none => none
          | some (L2, M2, r) => if ab_gr L L2 = true then ab_run scr (n + 1) mi d L2 M2 pc2 ls2 (ab_pr r st2) else none) else none) = _
      by_cases hq : Nat.ble (ab_dk m2 As + 1) d = true ∧ Nat.ble (ab_lay As).length (ab_nL m2) = true
      · rw [if_pos hq] at h ⊢
        split at h
        · cases h
        · rename_i L2 M2 r2 hc
          rw [ih _ _ _ _ _ _ _ _ hc]
          show (if ab_gr L L2 = true then ab_run scr (n + 1) mi d L2 M2 pc2 ls2 (ab_pr r2 st2) else none) = _
          by_cases hg : ab_gr L L2 = true
          · rw [if_pos hg] at h ⊢
            exact ih _ _ _ _ _ _ _ _ h
          · rw [if_neg hg] at h
            cases h
      · rw [if_neg hq] at h
        cases h
    · exact h
theorem ab_run_le {scr : Option (List Int32)} {n m mi d : Nat} {L : List ab_Ds} {M : ab_M} {pc : Nat} {ls : ab_Lo} {st : List Value} {r : List ab_Ds × ab_M × Option Value} (hnm : n ≤ m) (h : ab_run scr n mi d L M pc ls st = some r) : ab_run scr m mi d L M pc ls st = some r := by
  induction m with
  | zero =>
    have : n = 0 := by omega
    subst this
    exact h
  | succ m ih =>
    by_cases q : n = m + 1
    · subst q
      exact h
    · exact ab_run_mono scr _ _ _ _ _ _ _ _ _ (ih (by omega))
