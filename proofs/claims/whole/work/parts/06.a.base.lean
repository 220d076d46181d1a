theorem n10 : ((1 : Int32) = 0) = False := by decide
theorem n01 : ((0 : Int32) = 1) = False := by decide
/-! folds: a loop over p = 0, 1, .. -/
def fo {α : Type} (g : Nat → α → α) : Nat → α → α
  | 0, a => a
  | n + 1, a => g n (fo g n a)
theorem fo_run {α β : Type} (R : Nat → α → β) (g : Nat → α → α) (n : Nat) (a : α) (h : ∀ k, k < n → R k (fo g k a) = R (k + 1) (g k (fo g k a))) : R 0 a = R n (fo g n a) := by
  have : ∀ k, k ≤ n → R 0 a = R k (fo g k a) := by
    intro k
    induction k with
    | zero => intro _; rfl
    | succ k ih =>
      intro hk
      rw [ih (by omega), h k (by omega)]
      rfl
  exact this n (Nat.le_refl _)
theorem fo_congr {α : Type} {g g' : Nat → α → α} {n : Nat} {a : α} (h : ∀ k, k < n → g k (fo g k a) = g' k (fo g k a)) : fo g n a = fo g' n a := by
  induction n with
  | zero => rfl
  | succ n ih =>
    show g n (fo g n a) = g' n (fo g' n a)
    rw [h n (by omega), ih (fun k hk => h k (by omega))]
theorem fo_inv {α : Type} {g : Nat → α → α} {a : α} (P : Nat → α → Prop) (n : Nat) (h0 : P 0 a) (hs : ∀ k b, k < n → P k b → P (k + 1) (g k b)) : P n (fo g n a) := by
  have : ∀ k, k ≤ n → P k (fo g k a) := by
    intro k
    induction k with
    | zero => intro _; exact h0
    | succ k ih =>
      intro hk
      exact hs k _ (by omega) (ih (by omega))
  exact this n (Nat.le_refl _)
/-! bits -/
def tb (w : Int32) (p : Nat) : Bool := w.toBitVec.getLsbD p
theorem tb_or (a b : Int32) (p : Nat) : tb (a ||| b) p = (tb a p || tb b p) := by
  simp [tb]
theorem tb_and (a b : Int32) (p : Nat) : tb (a &&& b) p = (tb a p && tb b p) := by
  simp [tb]
theorem tb_not (a : Int32) (p : Nat) (hp : p < 32) : tb (~~~ a) p = !tb a p := by
  simp [tb, hp]
theorem tb_sh (w : Int32) (p : Nat) (hp : p < 8) : (w >>> (nI p &&& 31)) &&& 1 = if tb w p = true then 1 else 0 := by
  have hs : (BitVec.smod (nI p &&& 31).toBitVec 32) = BitVec.ofNat 32 p := by
    have : ∀ p, p < 8 → (BitVec.smod (nI p &&& 31).toBitVec 32) = BitVec.ofNat 32 p := by decide
    exact this p hp
  apply Int32.toBitVec_inj.mp
  rw [Int32.toBitVec_and, Int32.toBitVec_shiftRight, hs]
  apply BitVec.eq_of_getLsbD_eq
  intro i hi
  rw [BitVec.getLsbD_and]
  unfold tb
  by_cases h0 : i = 0
  · subst h0
    have hp2 : p < 32 := by omega
    have e2 : (BitVec.sshiftRight' w.toBitVec (BitVec.ofNat 32 p)).getLsbD 0 = w.toBitVec.getLsbD p := by
      unfold BitVec.sshiftRight'
      rw [BitVec.getLsbD_sshiftRight, BitVec.toNat_ofNat, Nat.mod_eq_of_lt (by omega)]
      simp [hp2]
    rw [e2]
    by_cases hq : w.toBitVec.getLsbD p = true
    · rw [if_pos hq, hq]
      rfl
    · rw [if_neg hq, Bool.eq_false_iff.mpr hq]
      rfl
  · have e3 : (1 : Int32).toBitVec.getLsbD i = false := by
      have : ∀ i, i < 32 → i ≠ 0 → (1 : Int32).toBitVec.getLsbD i = false := by decide
      exact this i hi h0
    rw [e3, Bool.and_false]
    have e4 : (0 : Int32).toBitVec.getLsbD i = false := by
      have : ∀ i, i < 32 → (0 : Int32).toBitVec.getLsbD i = false := by decide
      exact this i hi
    by_cases hq : w.toBitVec.getLsbD p = true
    · rw [if_pos hq, e3]
    · rw [if_neg hq, e4]
theorem tb_bit (p q : Nat) (hp : p < 8) (hq : q < 8) : tb (1 <<< nI p) q = decide (p = q) := by
  have : ∀ p, p < 8 → ∀ q, q < 8 → tb (1 <<< nI p) q = decide (p = q) := by decide
  exact this p hp q hq
theorem ib8 {k : Nat} (h : k < 8) : ab_inB (nI k) 8 = true := ib_nI h (by decide)
theorem ib12 {k : Nat} (h : k < 12) : ab_inB (nI k) 12 = true := ib_nI h (by decide)
theorem ib40 {k : Nat} (h : k < 40) : ab_inB (nI k) 40 = true := ib_nI h (by decide)
theorem nI_rfl (n : Nat) : nI n ≤ nI n := Int32.le_refl _
def bt (p : Nat) : Int32 := 1 <<< (nI p &&& 31)
theorem bt_eq (p : Nat) : (1 : Int32) <<< (nI p &&& 31) = bt p := rfl
theorem tb_bt (p q : Nat) (hp : p < 8) (hq : q < 8) : tb (bt p) q = decide (p = q) := by
  have : ∀ p, p < 8 → ∀ q, q < 8 → tb (bt p) q = decide (p = q) := by decide
  exact this p hp q hq
theorem tb_off (w : Int32) (p : Nat) (hp : p < 32) : tb (w ^^^ -1) p = !tb w p := by
  have e : tb (-1) p = true := by
    have : ∀ p, p < 32 → tb (-1) p = true := by decide
    exact this p hp
  unfold tb at e ⊢
  rw [Int32.toBitVec_xor, BitVec.getLsbD_xor, e]
  simp
