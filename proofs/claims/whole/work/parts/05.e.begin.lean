def ab_z0 : ab_M := fun _ _ => 0
def ab_q0 : List ((Nat × Nat) × Int32) := [((0, 9), 0), ((1, 1), 0), ((3, 2), 0), ((16, 3), 0), ((16, 4), 1), ((16, 5), 0), ((87, 0), 0), ((88, 0), 0), ((89, 1), 0), ((102, 1), 0), ((115, 1), 0), ((115, 2), -1), ((117, 1), 0), ((117, 2), -1), ((119, 1), 0), ((119, 2), -1), ((121, 1), 0), ((121, 2), -1), ((123, 1), 0), ((123, 2), 0), ((123, 14), 0), ((123, 47), 0), ((127, 72), 0), ((127, 73), 0), ((127, 86), 0), ((147, 0), -4), ((147, 1), -4), ((147, 2), -4), ((147, 3), -4), ((146, 0), 0), ((146, 1), 0), ((125, 0), 0), ((125, 1), 3), ((125, 2), 8), ((125, 3), 13), ((125, 4), 17), ((125, 5), 21), ((126, 0), 111), ((126, 1), 110), ((126, 2), 101), ((126, 3), 98), ((126, 4), 101), ((126, 5), 103), ((126, 6), 105), ((126, 7), 110), ((126, 8), 112), ((126, 9), 117), ((126, 10), 114), ((126, 11), 115), ((126, 12), 101), ((126, 13), 112), ((126, 14), 97), ((126, 15), 114), ((126, 16), 116), ((126, 17), 112), ((126, 18), 111), ((126, 19), 111), ((126, 20), 114)]
def ab_bf (o : Option (List ab_Ds × ab_M × ab_Fr)) : Bool := match o with
  | some (L, M, (pc, ls, st)) => decide (L = ab_L0) && decide (pc = 18) && decide (ls = [some (.ref 3000), some (.ref 0), some (.ref 123), some (.int 0)]) && decide (st = []) && ab_q0.all fun q => decide (M q.1.1 q.1.2 = q.2)
  | none => false
theorem ab_bf_of {o : Option (List ab_Ds × ab_M × ab_Fr)} (h : ab_bf o = true) : ∃ M0 : ab_M, (∀ q ∈ ab_q0, M0 q.1.1 q.1.2 = q.2) ∧ o = some (ab_L0, M0, (18, [some (.ref 3000), some (.ref 0), some (.ref 123), some (.int 0)], [])) := by
  unfold ab_bf at h
  split at h
  · rename_i L M pc ls st
    simp only [Bool.and_eq_true, decide_eq_true_eq, List.all_eq_true] at h
    obtain ⟨⟨⟨⟨rfl, rfl⟩, rfl⟩, rfl⟩, h5⟩ := h
    exact ⟨M, fun q hq => h5 q hq, rfl⟩
  · cases h
theorem ab_bg_ok : ab_bf (ab_to 2200 10 205 13 [] ab_z0 0 (ab_en 4 [.ref 3000]) []) = true := by decide +kernel
/-- the law at the head of its loop -/
theorem ab_begin : ∃ M0 : ab_M, (∀ q ∈ ab_q0, M0 q.1.1 q.1.2 = q.2) ∧ ∀ (scr : Option (List Int32)) (n : Nat) (r : List ab_Ds × ab_M × Option Value), 2200 ≤ n → ab_run scr n 205 13 ab_L0 M0 18 [some (.ref 3000), some (.ref 0), some (.ref 123), some (.int 0)] [] = some r → ab_run scr (n + 10) 205 13 [] ab_z0 0 (ab_en 4 [.ref 3000]) [] = some r := by
  obtain ⟨M, h1, h2⟩ := ab_bf_of ab_bg_ok
  exact ⟨M, h1, fun scr n r hn hr => ab_to_run scr 2200 10 _ _ _ _ _ _ _ _ _ _ _ _ _ _ h2 hn hr⟩
