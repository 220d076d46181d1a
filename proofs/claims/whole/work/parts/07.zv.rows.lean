/-! BEST: the rows below a prefix -/
/-- the most that anyone is away from nothing -/
def wm (o : Nat → Int) : Nat → Int
  | 0 => 0
  | n + 1 => max (wm o n) (o n).natAbs
theorem wm_ge {o : Nat → Int} {n p : Nat} (h : p < n) : o p ≤ wm o n ∧ -(o p) ≤ wm o n := by
  induction n with
  | zero => omega
  | succ n ih =>
    unfold wm
    by_cases e : p = n
    · subst e
      omega
    · have := ih (by omega)
      omega
def ad (o : Nat → Int) (q : Nat) (c : Int) : Nat → Int := fun p => if p = q then o p + c else o p
def pl (w : Nat → Nat) (i q : Nat) : Nat → Nat := fun j => if j = i then q else w j
/-- all rows below a prefix, the first least kept -/
def df (n : Nat) (mk : Nat → Nat → Bool) (c : Nat → Int) : Nat → Nat → (Nat → Int) → (Nat → Nat) → Int × (Nat → Nat) → Int × (Nat → Nat)
  | 0, _, o, w, st => if wm o n < st.1 then (wm o n, w) else st
  | k + 1, i, o, w, st => fo (fun p st => if mk i p = true then df n mk c k (i + 1) (ad o p (c i)) (pl w i p) st else st) 8 st
def lf (c : Nat → Int) : Nat → Nat → Int
  | 0, _ => 0
  | k + 1, i => c i + lf c k (i + 1)
theorem lf_nn {c : Nat → Int} : ∀ (k i : Nat), (∀ j, j < i + k → 0 ≤ c j) → 0 ≤ lf c k i := by
  intro k
  induction k with
  | zero => intro i _; exact Int.le_refl _
  | succ k ih =>
    intro i h
    have := ih (i + 1) (fun j hj => h j (by omega))
    have := h i (by omega)
    unfold lf
    omega
/-- nothing below is better: nothing changes -/
theorem df_cut {n : Nat} {mk : Nat → Nat → Bool} {c : Nat → Int} (st : Int × (Nat → Nat)) : ∀ (k i : Nat) (o : Nat → Int) (w : Nat → Nat), (∀ j, j < i + k → 0 ≤ c j) → (∃ p, p < n ∧ (st.1 ≤ o p ∨ st.1 ≤ -(o p + lf c k i))) → df n mk c k i o w st = st := by
  intro k
  induction k with
  | zero =>
    intro i o w _ h
    obtain ⟨p, hp, hb⟩ := h
    have := wm_ge (o := o) hp
    unfold df
    unfold lf at hb
    rw [if_neg (by omega)]
  | succ k ih =>
    intro i o w hc h
    obtain ⟨p, hp, hb⟩ := h
    have ci := hc i (by omega)
    have key : ∀ q, df n mk c k (i + 1) (ad o q (c i)) (pl w i q) st = st := fun q => by
      refine ih (i + 1) _ _ (fun j hj => hc j (by omega)) ⟨p, hp, ?_⟩
      unfold lf at hb
      unfold ad
      split <;> omega
    unfold df
    have : ∀ m, fo (fun p st => if mk i p = true then df n mk c k (i + 1) (ad o p (c i)) (pl w i p) st else st) m st = st := by
      intro m
      induction m with
      | zero => rfl
      | succ m im =>
        show (if mk i m = true then df n mk c k (i + 1) (ad o m (c i)) (pl w i m) (fo _ m st) else fo _ m st) = st
        rw [im]
        split
        · exact key m
        · rfl
    exact this 8
