/-! table: names -/
def wl (w : Nat) : Nat := [3, 5, 5, 4, 4].getD w 0
def wc (w i : Nat) : Nat := ([[111, 110, 101], [98, 101, 103, 105, 110], [112, 117, 114, 115, 101], [112, 97, 114, 116], [112, 111, 111, 114]].getD w []).getD i 0
def Wd (B : Nat → Nat) (a e w : Nat) : Prop := e - a = wl w ∧ ∀ i, i < wl w → B (a + i) = wc w i
theorem wc_in : ∀ w, w < 5 → ∀ i, i < wl w → 97 ≤ wc w i ∧ wc w i < 123 := by decide
theorem sb_wc : ∀ b, b < 256 → ∀ c, c < 26 → (decide (sb_b b = nI (97 + c)) = decide (b = 97 + c)) ∧ (decide (nI b = nI (97 + c)) = decide (b = 97 + c)) := by decide +kernel
theorem sb_wc2 {b c : Nat} (hb : b < 256) (h1 : 97 ≤ c) (h2 : c < 123) : (sb_b b = nI c) = (b = c) ∧ (nI b = nI c) = (b = c) := by
  have := sb_wc b hb (c - 97) (by omega)
  rw [show 97 + (c - 97) = c by omega] at this
  exact ⟨propext (decide_eq_decide.mp this.1), propext (decide_eq_decide.mp this.2)⟩
section
variable {scr : Option (List Int32)} {B : Nat → Nat} {L : Nat} {M : ab_M}
theorem rc_S : ∀ w, w < 5 → ab_rc ab_L0 (1000 + w) = some 20
  | 0, _ => rfl
  | 1, _ => rfl
  | 2, _ => rfl
  | 3, _ => rfl
  | 4, _ => rfl
theorem is_S : ∀ w, w < 5 → ab_isS (1000 + w) = true := by decide
theorem len_S : ∀ w, w < 5 → ab_len scr ab_L0 (1000 + w + 1002) = some (nI (wl w))
  | 0, _ => rfl
  | 1, _ => rfl
  | 2, _ => rfl
  | 3, _ => rfl
  | 4, _ => rfl
theorem bl_S : ∀ w, w < 5 → ∀ i, i < wl w → ab_bl scr M (1000 + w + 1002) (nI i) = some (nI (wc w i))
  | 0, _, 0, _ => rfl
  | 0, _, 1, _ => rfl
  | 0, _, 2, _ => rfl
  | 1, _, 0, _ => rfl
  | 1, _, 1, _ => rfl
  | 1, _, 2, _ => rfl
  | 1, _, 3, _ => rfl
  | 1, _, 4, _ => rfl
  | 2, _, 0, _ => rfl
  | 2, _, 1, _ => rfl
  | 2, _, 2, _ => rfl
  | 2, _, 3, _ => rfl
  | 2, _, 4, _ => rfl
  | 3, _, 0, _ => rfl
  | 3, _, 1, _ => rfl
  | 3, _, 2, _ => rfl
  | 3, _, 3, _ => rfl
  | 4, _, 0, _ => rfl
  | 4, _, 1, _ => rfl
  | 4, _, 2, _ => rfl
  | 4, _, 3, _ => rfl
theorem ch_ok : ∀ c, c < 256 → nI c &&& 255 = nI c ∧ ((nI c).toUInt32 % 65536).toInt32 = nI c ∧ narrow .char (.int (nI c)) = .int (nI c) := by decide +kernel
theorem sp_coder {w : Nat} (hw : w < 5) : ab_ms scr 199 [.ref (1000 + w)] M = some (M, some (.int 0)) := by
  have h := is_S w hw
  rw [ms199]
  simp only [q199_0, q199_3, q199_6, q199_10, q199_13, q199_14, n10, n01, Bool.false_eq_true, ab_bs, ab_bn, ab_pr0, ab_pr1, nl_n, nl_i, nl_r, nl_j, nl_nl, (show ¬ (1 : Int32) = 0 by decide), if_false]
  rw [q199_7 h]
  simp only [q199_0, q199_3, q199_6, q199_10, q199_13, q199_14, n10, n01, Bool.false_eq_true, ab_bs, ab_bn, ab_pr0, ab_pr1, nl_n, nl_i, nl_r, nl_j, nl_nl, (show narrow .byte (.int 0) = .int 0 by decide)]
theorem sp_latin {w : Nat} (hw : w < 5) : ab_ms scr 200 [.ref (1000 + w)] M = some (M, some (.int 1)) := by
  have h := is_S w hw
  rw [ms200]
  simp only [q200_0, q200_3, q200_6, q200_10, q200_13, q200_14, q200_17, q200_18, n10, n01, Bool.false_eq_true, ab_bs, ab_bn, ab_pr0, ab_pr1, nl_n, nl_i, nl_r, nl_j, nl_nl, (show ¬ (1 : Int32) = 0 by decide), if_false]
  rw [q200_7 h]
  simp only [q200_0, q200_3, q200_6, q200_10, q200_13, q200_14, q200_17, q200_18, n10, n01, Bool.false_eq_true, ab_bs, ab_bn, ab_pr0, ab_pr1, nl_n, nl_i, nl_r, nl_j, nl_nl, not_true, if_false, narrow_b1]
theorem sp_len {w : Nat} (hw : w < 5) : ab_ms scr 197 [.ref (1000 + w)] M = some (M, some (.int (nI (wl w)))) := by
  have h := is_S w hw
  have h2 := len_S (scr := scr) w hw
  have h3 : (ab_rc ab_L0 (1000 + w) = some 20) = True := by rw [rc_S w hw]; simp
  have h4 := sp_coder (scr := scr) (M := M) hw
  have h5 : nI (wl w) >>> ((0 : Int32) &&& 31) = nI (wl w) := by
    have : ∀ w, w < 5 → nI (wl w) >>> ((0 : Int32) &&& 31) = nI (wl w) := by decide
    exact this w hw
  rw [ms197]
  simp only [q197_0, q197_4, q197_5, q197_9, q197_10, n10, n01, Bool.false_eq_true, ab_bs, ab_bn, ab_pr0, ab_pr1, nl_n, nl_i, nl_r, nl_j, nl_nl]
  rw [q197_1 h]
  simp only [q197_0, q197_4, q197_5, q197_9, q197_10, n10, n01, Bool.false_eq_true, ab_bs, ab_bn, ab_pr0, ab_pr1, nl_n, nl_i, nl_r, nl_j, nl_nl, h2]
  rw [q197_6 h3, h4]
  simp only [q197_0, q197_4, q197_5, q197_9, q197_10, n10, n01, Bool.false_eq_true, ab_bs, ab_bn, ab_pr0, ab_pr1, nl_n, nl_i, nl_r, nl_j, nl_nl, h5]
theorem sp_chk {i l : Nat} (hi : i < l) (hl : l < 256) : ab_ms scr 201 [.int (nI i), .int (nI l)] M = some (M, none) := by
  have h1 : ¬ nI i < 0 := nI_pos (by omega)
  have h2 : nI i < nI l := nI_lt hi (by omega)
  have h4 : ab_ms scr 204 [.int (nI i), .int (nI l), .null] M = some (M, some (.int (nI i))) := by
    rw [ms204]
    simp only [q204_0, q204_1, q204_4, q204_5, q204_6, q204_9, q204_10, q204_11, q204_16, q204_17, n10, n01, Bool.false_eq_true, ab_bs, ab_bn, ab_pr0, ab_pr1, nl_n, nl_i, nl_r, nl_j, nl_nl, h1, h2, if_false, if_true]
  rw [ms201]
  simp only [q201_0, q201_1, q201_2, q201_5, q201_8, q201_9, n10, n01, Bool.false_eq_true, ab_bs, ab_bn, ab_pr0, ab_pr1, nl_n, nl_i, nl_r, nl_j, nl_nl, h4]
theorem wl_lt : ∀ w, w < 5 → wl w < 256 ∧ 0 < wl w ∧ wl w ≤ 5 := by decide
theorem sp_charAt {w i : Nat} (hw : w < 5) (hi : i < wl w) : ab_ms scr 198 [.ref (1000 + w), .int (nI i)] M = some (M, some (.int (nI (wc w i)))) := by
  have h := is_S w hw
  have h2 := len_S (scr := scr) w hw
  have h3 : (ab_rc ab_L0 (1000 + w) = some 20) = True := by rw [rc_S w hw]; simp
  have h4 := sp_latin (scr := scr) (M := M) hw
  have h5 := bl_S (scr := scr) (M := M) w hw i hi
  have h6 := sp_chk (scr := scr) (M := M) hi (wl_lt w hw).1
  have hc := wc_in w hw i hi
  obtain ⟨c1, c2, c3⟩ := ch_ok (wc w i) (by omega)
  have e : ab_ms scr 202 [.ref (1000 + w + 1002), .int (nI i)] M = some (M, some (.int (nI (wc w i)))) := by
    rw [ms202]
    simp only [q202_0, q202_1, q202_2, q202_3, q202_6, q202_7, q202_8, q202_9, q202_12, q202_13, q202_14, n10, n01, Bool.false_eq_true, ab_bs, ab_bn, ab_pr0, ab_pr1, nl_n, nl_i, nl_r, nl_j, nl_nl, h2, h6, h5, c1, c2, c3]
  rw [ms198]
  simp only [q198_0, q198_4, q198_7, q198_11, q198_12, q198_15, q198_16, q198_20, n10, n01, Bool.false_eq_true, ab_bs, ab_bn, ab_pr0, ab_pr1, nl_n, nl_i, nl_r, nl_j, nl_nl]
  rw [q198_1 h3, h4]
  simp only [q198_0, q198_4, q198_7, q198_11, q198_12, q198_15, q198_16, q198_20, n10, n01, Bool.false_eq_true, ab_bs, ab_bn, ab_pr0, ab_pr1, nl_n, nl_i, nl_r, nl_j, nl_nl, (show ¬ (1 : Int32) = 0 by decide), if_false]
  rw [q198_8 h]
  simp only [q198_0, q198_4, q198_7, q198_11, q198_12, q198_15, q198_16, q198_20, n10, n01, Bool.false_eq_true, ab_bs, ab_bn, ab_pr0, ab_pr1, nl_n, nl_i, nl_r, nl_j, nl_nl, e, c3]
end
