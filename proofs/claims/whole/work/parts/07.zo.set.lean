/-! sets of people as numbers -/
theorem and2 (a b : Nat) : (a &&& b) / 2 = (a / 2) &&& (b / 2) := Nat.and_div_two
theorem andm (a b : Nat) : (a &&& b) % 2 = (a % 2) &&& (b % 2) := by
  have := @Nat.and_mod_two_pow a b 1
  simpa using this
theorem sub_next : ∀ (s x T : Nat), 0 < s → s &&& x = s → T &&& x = T → T < s → T ≤ (s - 1) &&& x := by
  intro s
  induction s using Nat.strongRecOn with
  | ind s ih =>
    intro x T h0 hs hT hlt
    have hx2 := Nat.mod_two_eq_zero_or_one x
    have hT2 := Nat.mod_two_eq_zero_or_one T
    have e2 : T / 2 &&& x / 2 = T / 2 := by rw [← and2, hT]
    have e3 : s / 2 &&& x / 2 = s / 2 := by rw [← and2, hs]
    have m2 : (T % 2) &&& (x % 2) = T % 2 := by rw [← andm, hT]
    have m3 : (s % 2) &&& (x % 2) = s % 2 := by rw [← andm, hs]
    have d2 := and2 (s - 1) x
    have dm := andm (s - 1) x
    have k := Nat.div_add_mod ((s - 1) &&& x) 2
    rcases Nat.mod_two_eq_zero_or_one s with hs2 | hs2
    · -- even
      have i := ih (s / 2) (by omega) (x / 2) (T / 2) (by omega) e3 e2 (by omega)
      have f1 : (s - 1) / 2 = s / 2 - 1 := by omega
      have f2 : (s - 1) % 2 = 1 := by omega
      rw [f1] at d2
      rw [f2] at dm
      have g : (1 : Nat) &&& (x % 2) = x % 2 := by
        rcases hx2 with h | h <;> rw [h] <;> rfl
      rw [g] at dm
      have g2 : T % 2 ≤ x % 2 := by
        rcases hx2 with h | h
        · rw [h] at m2
          simp at m2
          omega
        · omega
      omega
    · have f1 : (s - 1) / 2 = s / 2 := by omega
      have f2 : (s - 1) % 2 = 0 := by omega
      rw [f1, e3] at d2
      rw [f2] at dm
      simp at dm
      omega
def rm (x p : Nat) : Nat := x &&& (255 ^^^ 2 ^ p)
theorem rm_lt : ∀ p, p < 8 → ∀ x, x < 256 → x.testBit p = true → rm x p < x := by decide +kernel
theorem tb_rm (x p q : Nat) (hq : q < 8) : (rm x p).testBit q = (x.testBit q && !decide (p = q)) := by
  unfold rm
  rw [Nat.testBit_and, Nat.testBit_xor, Nat.testBit_two_pow, show (255 : Nat) = 2 ^ 8 - 1 by decide, Nat.testBit_two_pow_sub_one]
  by_cases h : p = q <;> simp [h, hq]
theorem tb_hi {x q : Nat} (hx : x < 256) (hq : 8 ≤ q) : x.testBit q = false := Nat.testBit_lt_two_pow (Nat.lt_of_lt_of_le hx (by
  have : 2 ^ 8 ≤ 2 ^ q := Nat.pow_le_pow_right (by decide) hq
  omega))
theorem nx {a b : Nat} (ha : a < 256) (hb : b < 256) (h : ∀ q, q < 8 → a.testBit q = b.testBit q) : a = b := by
  apply Nat.eq_of_testBit_eq
  intro q
  by_cases hq : q < 8
  · exact h q hq
  · rw [tb_hi ha (by omega), tb_hi hb (by omega)]
/-- the sum over a set -/
def SZ (c : Nat → Int) (x : Nat) : Nat → Int
  | 0 => 0
  | n + 1 => SZ c x n + if x.testBit n = true then c n else 0
theorem SZ_rm (c : Nat → Int) (x p n : Nat) (hn : n ≤ 8) (hx : x.testBit p = true) : SZ c x n = SZ c (rm x p) n + if p < n then c p else 0 := by
  induction n with
  | zero => simp [SZ]
  | succ n ih =>
    unfold SZ
    rw [ih (by omega), tb_rm _ _ _ (by omega)]
    by_cases e : p = n
    · subst e
      simp [hx]
    · by_cases h : p < n
      · simp [e, h, show p < n + 1 by omega]
        omega
      · simp [e, h, show ¬ p < n + 1 by omega]
theorem SZ_or (c : Nat → Int) (a b n : Nat) (h : a &&& b = 0) : SZ c (a ||| b) n = SZ c a n + SZ c b n := by
  induction n with
  | zero => simp [SZ]
  | succ n ih =>
    unfold SZ
    rw [ih, Nat.testBit_or]
    have : (a.testBit n && b.testBit n) = false := by
      rw [← Nat.testBit_and, h, Nat.zero_testBit]
    cases ha : a.testBit n <;> cases hb : b.testBit n <;> simp [ha, hb] at this ⊢ <;> omega
/-- the best over the last one taken away -/
def bs (x : Nat) (f : Nat → Nat) : Nat → Nat
  | 0 => 0
  | n + 1 => if x.testBit n = true then max (bs x f n) (f (rm x n)) else bs x f n
theorem bs_ge {x : Nat} {f : Nat → Nat} {n p : Nat} (h : p < n) (hp : x.testBit p = true) : f (rm x p) ≤ bs x f n := by
  induction n with
  | zero => omega
  | succ n ih =>
    unfold bs
    by_cases e : p = n
    · subst e
      rw [if_pos hp]
      exact Nat.le_max_right _ _
    · have := ih (by omega)
      split
      · exact Nat.le_trans this (Nat.le_max_left _ _)
      · exact this
theorem bs_at {x : Nat} {f : Nat → Nat} {n : Nat} (h : bs x f n ≠ 0) : ∃ p, p < n ∧ x.testBit p = true ∧ bs x f n = f (rm x p) := by
  induction n with
  | zero => exact absurd rfl h
  | succ n ih =>
    unfold bs at h ⊢
    by_cases hx : x.testBit n = true
    · rw [if_pos hx] at h ⊢
      by_cases hm : bs x f n ≤ f (rm x n)
      · exact ⟨n, by omega, hx, Nat.max_eq_right hm⟩
      · rw [Nat.max_eq_left (by omega)] at h ⊢
        obtain ⟨p, a, b, c⟩ := ih h
        exact ⟨p, by omega, b, c⟩
    · rw [if_neg hx] at h ⊢
      obtain ⟨p, a, b, c⟩ := ih h
      exact ⟨p, by omega, b, c⟩
/-- what the class's table keeps -/
def FF (n : Nat) (c : Nat → Int) (f : Nat → Nat) : Prop := f 0 = 0 ∧ ∀ x, 0 < x → x < 2 ^ n → f x = bs x f n + if SZ c x n = 0 then 1 else 0
theorem lt_rm {n x p : Nat} (hn : n ≤ 8) (hx : x < 2 ^ n) (hp : p < n) (h : x.testBit p = true) : rm x p < x := by
  have : 2 ^ n ≤ 2 ^ 8 := Nat.pow_le_pow_right (by decide) hn
  exact rm_lt p (by omega) x (by omega) h
theorem FF_mono {n : Nat} {c : Nat → Int} {f : Nat → Nat} (hf : FF n c f) {x p : Nat} (hx : x < 2 ^ n) (hp : p < n) (h : x.testBit p = true) : f (rm x p) ≤ f x := by
  have h0 : 0 < x := by
    rcases Nat.eq_zero_or_pos x with rfl | q
    · simp at h
    · exact q
  rw [hf.2 x h0 hx]
  have := bs_ge (f := f) hp h
  omega
theorem or_rm (a b p : Nat) (ha : a < 256) (hb : b < 256) (hd : a &&& b = 0) (hp : b.testBit p = true) (hp8 : p < 8) : rm (a ||| b) p = a ||| rm b p := by
  have hr : rm b p < 256 := by
    unfold rm
    exact Nat.lt_of_le_of_lt Nat.and_le_left hb
  refine nx ?_ (Nat.or_lt_two_pow (n := 8) ha hr) (fun q hq => ?_)
  · unfold rm
    exact Nat.lt_of_le_of_lt Nat.and_le_left (Nat.or_lt_two_pow (n := 8) ha hb)
  · rw [tb_rm _ _ _ hq, Nat.testBit_or, Nat.testBit_or, tb_rm _ _ _ hq]
    have : (a.testBit q && b.testBit q) = false := by
      rw [← Nat.testBit_and, hd, Nat.zero_testBit]
    by_cases e : p = q
    · subst e
      rw [hp] at this ⊢
      simp at this
      simp [this]
    · simp [e]
theorem FF_add {n : Nat} (hn : n ≤ 8) {c : Nat → Int} {f : Nat → Nat} (hf : FF n c f) {a : Nat} (ha : a < 2 ^ n) (hz : SZ c a n = 0) : ∀ b, b < 2 ^ n → a &&& b = 0 → f a + f b ≤ f (a ||| b) := by
  have h256 : 2 ^ n ≤ 2 ^ 8 := Nat.pow_le_pow_right (by decide) hn
  intro b
  induction b using Nat.strongRecOn with
  | ind b ih =>
    intro hb hd
    rcases Nat.eq_zero_or_pos b with rfl | h0
    · rw [hf.1]
      simp
    · have hab : a ||| b < 2 ^ n := Nat.or_lt_two_pow ha hb
      have hp0 : 0 < a ||| b := Nat.lt_of_lt_of_le h0 Nat.right_le_or
      rw [hf.2 b h0 hb, hf.2 (a ||| b) hp0 hab, SZ_or _ _ _ _ hd, hz, Int.zero_add]
      by_cases hB : bs b f n = 0
      · have : f a ≤ bs (a ||| b) f n := by
          -- some p of b
          obtain ⟨p, hp⟩ := Nat.exists_testBit_of_ne_zero (show b ≠ 0 by omega)
          have hpn : p < n := by
            rcases Nat.lt_or_ge p n with q | q
            · exact q
            · rw [Nat.testBit_lt_two_pow (Nat.lt_of_lt_of_le hb (Nat.pow_le_pow_right (by decide) q))] at hp
              cases hp
          have h1 := bs_ge (f := f) hpn (show (a ||| b).testBit p = true by rw [Nat.testBit_or, hp, Bool.or_true])
          rw [or_rm a b p (by omega) (by omega) hd hp (by omega)] at h1
          have hlt := lt_rm hn hb hpn hp
          have h2 := ih (rm b p) hlt (by omega) (by
            unfold rm
            rw [← Nat.and_assoc, hd, Nat.zero_and])
          omega
        omega
      · obtain ⟨p, hpn, hp, e⟩ := bs_at hB
        have h1 := bs_ge (f := f) hpn (show (a ||| b).testBit p = true by rw [Nat.testBit_or, hp, Bool.or_true])
        rw [or_rm a b p (by omega) (by omega) hd hp (by omega)] at h1
        have hlt := lt_rm hn hb hpn hp
        have h2 := ih (rm b p) hlt (by omega) (by
          unfold rm
          rw [← Nat.and_assoc, hd, Nat.zero_and])
        omega
theorem FF_zero {n : Nat} (hn : n ≤ 8) {c : Nat → Int} {f : Nat → Nat} (hf : FF n c f) : ∀ y, y < 2 ^ n → f y ≠ 0 → ∃ T, 0 < T ∧ T &&& y = T ∧ SZ c T n = 0 ∧ f T = f y := by
  intro y
  induction y using Nat.strongRecOn with
  | ind y ih =>
    intro hy h
    have h0 : 0 < y := by
      rcases Nat.eq_zero_or_pos y with rfl | q
      · exact absurd hf.1 h
      · exact q
    by_cases hz : SZ c y n = 0
    · exact ⟨y, h0, Nat.and_self y, hz, rfl⟩
    · have e := hf.2 y h0 hy
      rw [if_neg hz, Nat.add_zero] at e
      rw [e] at h
      obtain ⟨p, hpn, hp, e2⟩ := bs_at h
      have hlt := lt_rm hn hy hpn hp
      obtain ⟨T, t1, t2, t3, t4⟩ := ih (rm y p) hlt (by omega) (by rw [← e2]; exact h)
      refine ⟨T, t1, ?_, t3, by rw [t4, e, e2]⟩
      rw [← t2]
      unfold rm
      rw [Nat.and_assoc]
      congr 1
      rw [Nat.and_comm y, Nat.and_assoc, Nat.and_self]
/-- what the reference's table keeps -/
def GG (n : Nat) (c : Nat → Int) (g : Nat → Nat) : Prop := ∀ x, 0 < x → x < 2 ^ n → SZ c x n = 0 → 1 ≤ g x ∧ (∀ T, 0 < T → T < x → T &&& x = T → SZ c T n = 0 → g T + g (x ^^^ T) ≤ g x) ∧ (g x = 1 ∨ ∃ T, 0 < T ∧ T < x ∧ T &&& x = T ∧ SZ c T n = 0 ∧ g x = g T + g (x ^^^ T))
theorem xor_sub {x T : Nat} (h : T &&& x = T) : T &&& (x ^^^ T) = 0 ∧ T ||| (x ^^^ T) = x := by
  have hb : ∀ q, T.testBit q = true → x.testBit q = true := fun q hq => by
    have := congrArg (fun z => z.testBit q) h
    simp only [Nat.testBit_and, hq, Bool.true_and] at this
    exact this
  refine ⟨Nat.eq_of_testBit_eq fun q => ?_, Nat.eq_of_testBit_eq fun q => ?_⟩
  · rw [Nat.testBit_and, Nat.testBit_xor, Nat.zero_testBit]
    cases h1 : T.testBit q
    · rfl
    · simp [hb q h1]
  · rw [Nat.testBit_or, Nat.testBit_xor]
    cases h1 : T.testBit q
    · simp
    · simp [hb q h1]
theorem FG_eq {n : Nat} (hn : n ≤ 8) {c : Nat → Int} {f g : Nat → Nat} (hf : FF n c f) (hg : GG n c g) : ∀ x, 0 < x → x < 2 ^ n → SZ c x n = 0 → f x = g x := by
  intro x
  induction x using Nat.strongRecOn with
  | ind x ih =>
    intro h0 hx hz
    obtain ⟨g1, g2, g3⟩ := hg x h0 hx hz
    have part : ∀ T, 0 < T → T < x → T &&& x = T → SZ c T n = 0 → f T = g T ∧ f (x ^^^ T) = g (x ^^^ T) ∧ T &&& (x ^^^ T) = 0 ∧ T ||| (x ^^^ T) = x ∧ x ^^^ T < 2 ^ n := by
      intro T t0 t1 t2 t3
      obtain ⟨u1, u2⟩ := xor_sub t2
      have hs := SZ_or c T (x ^^^ T) n u1
      rw [u2, hz, t3] at hs
      have hr0 : 0 < x ^^^ T := by
        rcases Nat.eq_zero_or_pos (x ^^^ T) with e | q
        · rw [e, Nat.or_zero] at u2
          omega
        · exact q
      have hr : x ^^^ T < x := by
        have : x ^^^ T ≤ x := by
          have := @Nat.right_le_or T (x ^^^ T)
          rw [u2] at this
          exact this
        rcases Nat.lt_or_eq_of_le this with q | q
        · exact q
        · rw [q, t2] at u1
          omega
      exact ⟨ih T t1 t0 (by omega) t3, ih _ hr hr0 (by omega) (by omega), u1, u2, by omega⟩
    apply Nat.le_antisymm
    · rw [hf.2 x h0 hx, if_pos hz]
      by_cases hB : bs x f n = 0
      · omega
      · obtain ⟨p, hpn, hp, e⟩ := bs_at hB
        have hlt := lt_rm hn hx hpn hp
        obtain ⟨T, t1, t2, t3, t4⟩ := FF_zero hn hf (rm x p) (by omega) (by rw [← e]; exact hB)
        have tx : T &&& x = T := by
          rw [← t2]
          unfold rm
          rw [Nat.and_assoc]
          congr 1
          rw [Nat.and_comm x, Nat.and_assoc, Nat.and_self]
        have tl : T < x := by
          have : T ≤ rm x p := by
            rw [← t2]
            exact Nat.and_le_right
          omega
        obtain ⟨a, b, u1, u2, u3⟩ := part T t1 tl tx t3
        have := g2 T t1 tl tx t3
        have hs := SZ_or c T (x ^^^ T) n u1
        rw [u2, hz, t3] at hs
        have hr0 : 0 < x ^^^ T := by
          rcases Nat.eq_zero_or_pos (x ^^^ T) with e | q
          · rw [e, Nat.or_zero] at u2
            omega
          · exact q
        have := (hg (x ^^^ T) hr0 u3 (by omega)).1
        rw [e, ← t4]
        omega
    · rcases g3 with h1 | ⟨T, t0, t1, t2, t3, h1⟩
      · rw [h1, hf.2 x h0 hx, if_pos hz]
        omega
      · obtain ⟨a, b, u1, u2, u3⟩ := part T t0 t1 t2 t3
        have := FF_add hn hf (show T < 2 ^ n by omega) t3 (x ^^^ T) u3 u1
        rw [u2] at this
        omega
