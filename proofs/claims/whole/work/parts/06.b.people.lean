/-! PEOPLE of the class -/
def bt (p : Nat) : Int32 := 1 <<< (nI p &&& 31)
theorem bt_eq (p : Nat) : (1 : Int32) <<< (nI p &&& 31) = bt p := rfl
theorem tb_bt (p q : Nat) (hp : p < 8) (hq : q < 8) : tb (bt p) q = decide (p = q) := by
  have : ∀ p, p < 8 → ∀ q, q < 8 → tb (bt p) q = decide (p = q) := by decide
  exact this p hp q hq
theorem tb_off (w : Int32) (p : Nat) (hp : p < 32) : tb (w ^^^ -1) p = !tb w p := by
  have e : tb (-1) p = true := by
    have : ∀ p, p < 32 → tb (-1) p = true := by decide
    exact this p hp
  unfold tb at e ⊢
  rw [Int32.toBitVec_xor, BitVec.getLsbD_xor, e]
  simp
theorem sp_sum {scr : Option (List Int32)} (M : ab_M) (w n : Nat) (hw : w < 8) (hn : n ≤ 8) (hM : M 16 3 = nI n) : ab_ms scr 44 [.ref 16, .int (nI w)] M = some (M, some (.int (fo (fun p s => s + M (18 + w) p) n 0))) := by
  rw [ms44]
  simp only [q44_0, q44_1, q44_2, q44_3, q44_5, q44_6, q44_9, q44_12, q44_13, q44_14, q44_17, q44_18, q44_19, q44_20, q44_21, q44_22, q44_23, q44_26, q44_29, q44_30, ab_bs, ab_bn, ab_pr0, ab_pr1, nl_n, nl_i, nl_r, nl_j, nl_nl]
  refine Eq.trans ?_ ((fo_run (fun k s => ab_res scr 44 1 M 4 [some (.ref 16), some (.int (nI w)), some (.int s), some (.int (nI k))] []) (fun p s => s + M (18 + w) p) n 0 (fun k hk => ?_)).trans ?_)
  · rfl
  · have h1 : ¬ nI n ≤ nI k := nI_ge hk (by omega)
    have h2 : k < 2 ^ 31 := by omega
    have h3 : k < 8 := by omega
    rw [q44_4]
    simp only [q44_0, q44_1, q44_2, q44_3, q44_5, q44_6, q44_9, q44_12, q44_13, q44_14, q44_17, q44_18, q44_19, q44_20, q44_21, q44_22, q44_23, q44_26, q44_29, q44_30, ab_bs, ab_bn, ab_pr0, ab_pr1, nl_n, nl_i, nl_r, nl_j, nl_nl, rc_16, gf_16_0, gf_16_1, gf_16_2, gf_16_3, pt_16_3, gf_16_4, pt_16_4, gf_16_5, pt_16_5, hM, h1, if_false, qe_17 hw, al_f17 hw, nI_clamp h2, ib_nI, nI_succ, h3]
    trace_state
    sorry
  · show ab_res scr 44 1 M 4 _ [] = _
    rw [q44_4]
    simp only [q44_0, q44_1, q44_2, q44_3, q44_5, q44_6, q44_9, q44_12, q44_13, q44_14, q44_17, q44_18, q44_19, q44_20, q44_21, q44_22, q44_23, q44_26, q44_29, q44_30, ab_bs, ab_bn, ab_pr0, ab_pr1, nl_n, nl_i, nl_r, nl_j, nl_nl, rc_16, gf_16_0, gf_16_1, gf_16_2, gf_16_3, pt_16_3, gf_16_4, pt_16_4, gf_16_5, pt_16_5, hM]
    trace_state
    sorry
