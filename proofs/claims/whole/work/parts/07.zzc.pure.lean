/-! BEST: what is owed, as a sum over the row -/
theorem wm_congr {n : Nat} {o o' : Nat → Int} (h : ∀ p, p < n → o p = o' p) : wm o n = wm o' n := by
  induction n with
  | zero => rfl
  | succ n ih =>
    unfold wm
    rw [ih (fun p hp => h p (by omega)), h n (by omega)]
theorem df_congr {n : Nat} {mk : Nat → Nat → Bool} {c : Nat → Int} : ∀ (k i : Nat) (o o' : Nat → Int) (w : Nat → Nat) (st : Int × (Nat → Nat)), (∀ p, p < n → o p = o' p) → df n mk c k i o w st = df n mk c k i o' w st := by
  intro k
  induction k with
  | zero =>
    intro i o o' w st h
    unfold df
    rw [wm_congr h]
  | succ k ih =>
    intro i o o' w st h
    unfold df
    apply fo_congr
    intro p _
    have : ∀ s, df n mk c k (i + 1) (ad o p (c i)) (pl w i p) s = df n mk c k (i + 1) (ad o' p (c i)) (pl w i p) s := fun s => ih (i + 1) _ _ _ s (fun q hq => by
      unfold ad
      rw [h q hq])
    rw [this]
theorem df_mk {n : Nat} {m m' : Nat → Nat → Bool} {c c' : Nat → Int} : ∀ (k i : Nat) (o : Nat → Int) (w : Nat → Nat) (st : Int × (Nat → Nat)), (∀ j p, j < i + k → p < 8 → m j p = m' j p) → (∀ j, j < i + k → c j = c' j) → df n m c k i o w st = df n m' c' k i o w st := by
  intro k
  induction k with
  | zero =>
    intro i o w st _ _
    unfold df
    rfl
  | succ k ih =>
    intro i o w st h hc
    unfold df
    apply fo_congr
    intro p hp
    rw [h i p (by omega) hp, hc i (by omega), ih (i + 1) _ _ _ (fun j p hj hp => h j p (by omega) hp) (fun j hj => hc j (by omega))]
def po (b : Nat → Int) (c : Nat → Int) (w : Nat → Nat) (k : Nat) (p : Nat) : Int := fo (fun r s => s + (if w r = p then c r else 0)) k (b p)
theorem po_s (b c : Nat → Int) (w : Nat → Nat) (k p : Nat) : po b c w (k + 1) p = po b c w k p + (if w k = p then c k else 0) := rfl
theorem po_congr {b c : Nat → Int} {w w' : Nat → Nat} {k p : Nat} (h : ∀ r, r < k → w r = w' r) : po b c w k p = po b c w' k p := fo_congr fun r hr => by rw [h r hr]
theorem po_pl {b c : Nat → Int} {w : Nat → Nat} {i q : Nat} : (fun p => po b c (pl w i q) (i + 1) p) = ad (fun p => po b c w i p) q (c i) := by
  funext p
  rw [po_s, po_congr (w' := w) (fun r hr => by unfold pl; rw [if_neg (by omega)])]
  unfold ad pl
  rw [if_pos rfl]
  by_cases e : p = q
  · rw [if_pos e.symm, if_pos e]
  · rw [if_neg (fun y => e y.symm), if_neg e]
    exact Int.add_zero _
theorem po_bd {b c : Nat → Int} {w : Nat → Nat} {p : Nat} : ∀ k, (∀ r, r < k → 0 ≤ c r ∧ c r ≤ 792) → b p ≤ po b c w k p ∧ po b c w k p ≤ b p + 792 * k := by
  intro k
  induction k with
  | zero => intro _; exact ⟨Int.le_refl _, by show b p ≤ b p + 792 * ((0 : Nat) : Int); omega⟩
  | succ k ih =>
    intro h
    have := ih (fun r hr => h r (by omega))
    have := h k (by omega)
    rw [po_s]
    split <;> omega
theorem sumc_lf {S : ab_M} : ∀ k i, (sumc S (i + k)) = sumc S i + lf (coB S) k i := by
  intro k
  induction k with
  | zero => intro i; show sumc S i = sumc S i + 0; omega
  | succ k ih =>
    intro i
    rw [show i + (k + 1) = (i + 1) + k by omega, ih (i + 1)]
    show sumc S i + (S (41 + i) 2).toInt + _ = sumc S i + (coB S i + lf (coB S) k (i + 1))
    unfold coB
    omega
/-- the first least row is found: some row there is -/
theorem po_st {N : ab_M} {b c : Nat → Int} {w : Nat → Nat} {p R : Nat} (hp : p < 8) (hb : (N 138 p - N 132 p).toInt = b p) (b1 : -500000000 ≤ b p ∧ b p ≤ 500000000) (hR : R ≤ 6) (hc : ∀ r, r < R → (N 140 (5 * r + 2)).toInt = c r ∧ 0 ≤ c r ∧ c r ≤ 792) (hw : ∀ r, r < R → N 142 r = nI (w r) ∧ w r < 8) : ∀ k, k ≤ R → (stR N p k).toInt = po b c w k p := by
  intro k
  induction k with
  | zero => intro _; exact hb
  | succ k ih =>
    intro hk
    have e := ih (by omega)
    obtain ⟨c1, c2, c3⟩ := hc k (by omega)
    obtain ⟨w1, w2⟩ := hw k (by omega)
    have g := po_bd (b := b) (w := w) (p := p) k (fun r hr => (hc r (by omega)).2)
    rw [stR_s, po_s, w1]
    by_cases x : w k = p
    · rw [if_pos (by rw [x]), if_pos x, ti_add (by rw [e, c1]; omega) (by rw [e, c1]; omega), e, c1]
    · rw [if_neg (fun y => x (by have e := congrArg Int32.toNatClampNeg y; rwa [nI_clamp (by omega), nI_clamp (by omega)] at e)), if_neg x, Int32.add_zero, e]
      omega
theorem wo_wm {N : ab_M} {b c : Nat → Int} {w : Nat → Nat} {n R : Nat} (hn : n ≤ 8) (hb : ∀ p, p < n → (N 138 p - N 132 p).toInt = b p ∧ -500000000 ≤ b p ∧ b p ≤ 500000000) (hR : R ≤ 6) (hc : ∀ r, r < R → (N 140 (5 * r + 2)).toInt = c r ∧ 0 ≤ c r ∧ c r ≤ 792) (hw : ∀ r, r < R → N 142 r = nI (w r) ∧ w r < 8) : ∀ k, k ≤ n → (woR N R k).toInt = wm (fun p => po b c w R p) k := by
  intro k
  induction k with
  | zero => intro _; rfl
  | succ k ih =>
    intro hk
    have e := ih (by omega)
    obtain ⟨b1, b2⟩ := hb k (by omega)
    have s := po_st (by omega) b1 b2 hR hc hw R (Nat.le_refl _)
    have g := po_bd (b := b) (w := w) (p := k) R (fun r hr => (hc r hr).2)
    have a := ia_ti (x := stR N k R) (by rw [s]; omega)
    rw [s] at a
    rw [woR_s]
    show _ = max (wm (fun p => po b c w R p) k) (((po b c w R k).natAbs : Nat) : Int)
    by_cases q : woR N R k < ia (stR N k R)
    · have := Int32.lt_iff_toInt_lt.mp q
      rw [if_pos q, a]
      omega
    · have q2 : ¬ (woR N R k).toInt < (ia (stR N k R)).toInt := fun y => q (Int32.lt_iff_toInt_lt.mpr y)
      rw [if_neg q, e]
      rw [e, a] at q2
      omega
