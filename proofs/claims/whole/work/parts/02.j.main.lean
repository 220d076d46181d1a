theorem ab_kd_call {i : Instr} {kd k : Nat} (h : ab_kd i = .inr (.inr (kd, k))) : (kd = 0 ∧ i = .invokevirtual k) ∨ (kd = 1 ∧ i = .invokestatic k) ∨ (kd = 2 ∧ i = .invokespecial k) := by
  cases i with
  | invokevirtual n =>
    cases h
    exact Or.inl ⟨rfl, rfl⟩
  | invokestatic n =>
    cases h
    exact Or.inr (Or.inl ⟨rfl, rfl⟩)
  | invokespecial n =>
    cases h
    exact Or.inr (Or.inr ⟨rfl, rfl⟩)
  | _ => cases h
theorem ab_kd_ret {i : Instr} {kd : Nat} (h : ab_kd i = .inr (.inl kd)) : (kd = 0 ∧ i = .ireturn) ∨ (kd = 1 ∧ i = .lreturn) ∨ (kd = 2 ∧ i = .return_) := by
  cases i with
  | ireturn =>
    cases h
    exact Or.inl ⟨rfl, rfl⟩
  | lreturn =>
    cases h
    exact Or.inr (Or.inl ⟨rfl, rfl⟩)
  | return_ =>
    cases h
    exact Or.inr (Or.inr ⟨rfl, rfl⟩)
  | _ => cases h
theorem ab_map_inl {o : Option ab_Ou} {r : ab_Ov} (h : o.map .inl = some r) : ∃ x, o = some x ∧ r = .inl x := by
  cases o with
  | none => cases h
  | some x =>
    cases h
    exact ⟨x, rfl, rfl⟩
section ABJ
variable {p : Program} {l : Launch} {e : Env} {R : Room} {s : State} {m : MethodId} {args : Array Value} {below : List Frame} {meth : Method} {c : Code} {Q : State → Prop} {scr : Option (List Int32)} {mi dp : Nat} {X : Nat → Nat} {A : Nat → Prop} {D : va_G} {Lf L L2 : List ab_Ds} {M M2 : ab_M} {pc pc2 len : Nat} {ls ls2 : ab_Lo} {st st2 : List Value} {ad : List Nat}
theorem ab_step_plain (h : ab_step scr mi L M pc ls st = some (.inl (L2, (pc2, ls2, st2), M2))) : ∃ i len, decode (ab_code mi) pc = .ok (i, len) ∧ ab_sI scr mi L M pc ls st i len = some (L2, (pc2, ls2, st2), M2) := by
  unfold ab_step at h
  cases hd : decode (ab_code mi) pc with
  | error e =>
    rw [hd] at h
    cases h
  | ok r =>
    obtain ⟨i, len⟩ := r
    rw [hd] at h
    refine ⟨i, len, rfl, ?_⟩
    replace h : ab_s2 scr mi L M pc ls st i len = some (.inl (L2, (pc2, ls2, st2), M2)) := h
    unfold ab_s2 at h
    split at h
    · obtain ⟨x, h1, h2⟩ := ab_map_inl h
      cases h2
      exact h1
    · rename_i kd hk
      by_cases q : len = 1
      · rw [if_pos q] at h
        unfold ab_rt at h
        split at h
        · split at h
          · split at h <;> cases h
          · cases h
        · split at h <;> cases h
        · split at h <;> cases h
        · cases h
      · rw [if_neg q] at h
        cases h
    · rename_i kd k hk
      by_cases q : len = 3
      · rw [if_pos q] at h
        split at h
        · unfold ab_iv at h
          exfalso
          split at h
          · split at h
            · split at h
              · split at h
                · unfold ab_ca at h
                  split at h <;> cases h
                · cases h
              · split at h
                · split at h
                  · split at h
                    · split at h
                      · unfold ab_ca at h
                        split at h <;> cases h
                      · cases h
                    · split at h
                      · unfold ab_ca at h
                        split at h <;> cases h
                      · cases h
                  · cases h
                · cases h
            · cases h
          · cases h
        · obtain ⟨x, h1, h2⟩ := ab_map_inl h
          cases h2
          exact h1
      · rw [if_neg q] at h
        cases h
theorem ab_step_ret {r : Option Value} (h : ab_step scr mi L M pc ls st = some (.inr (.inr r))) : (decode (ab_code mi) pc = .ok (.ireturn, 1) ∧ ∃ x ty, st = [.int x] ∧ r = some (.int x) ∧ ab_ret mi = some ty ∧ narrow ty (.int x) = .int x) ∨ (decode (ab_code mi) pc = .ok (.lreturn, 1) ∧ ∃ x, st = [.long x] ∧ r = some (.long x) ∧ ab_ret mi = some .long) ∨ (decode (ab_code mi) pc = .ok (.return_, 1) ∧ st = [] ∧ r = none ∧ ab_ret mi = none) := by
  unfold ab_step at h
  cases hd : decode (ab_code mi) pc with
  | error e =>
    rw [hd] at h
    cases h
  | ok r9 =>
    obtain ⟨i, len⟩ := r9
    rw [hd] at h
    replace h : ab_s2 scr mi L M pc ls st i len = some (.inr (.inr r)) := h
    unfold ab_s2 at h
    split at h
    · obtain ⟨x, h1, h2⟩ := ab_map_inl h
      cases h2
    · rename_i kd hk
      by_cases q : len = 1
      · rw [if_pos q] at h
        subst q
        unfold ab_rt at h
        rcases ab_kd_ret hk with ⟨rfl, rfl⟩ | ⟨rfl, rfl⟩ | ⟨rfl, rfl⟩
        · split at h
          · split at h
            · rename_i ty hty
              split at h
              · rename_i hn
                cases h
                exact Or.inl ⟨rfl, _, ty, rfl, rfl, hty, hn⟩
              · cases h
            · cases h
          · omega
          · omega
          · cases h
        · split at h
          · omega
          · split at h
            · rename_i hn
              cases h
              exact Or.inr (Or.inl ⟨rfl, _, rfl, rfl, hn⟩)
            · cases h
          · omega
          · cases h
        · split at h
          · omega
          · omega
          · split at h
            · rename_i hn
              cases h
              exact Or.inr (Or.inr ⟨rfl, rfl, rfl, hn⟩)
            · cases h
          · cases h
      · rw [if_neg q] at h
        cases h
    · rename_i kd k hk
      by_cases q : len = 3
      · rw [if_pos q] at h
        split at h
        · unfold ab_iv at h
          exfalso
          split at h
          · split at h
            · split at h
              · split at h
                · unfold ab_ca at h
                  split at h <;> cases h
                · cases h
              · split at h
                · split at h
                  · split at h
                    · split at h
                      · unfold ab_ca at h
                        split at h <;> cases h
                      · cases h
                    · split at h
                      · unfold ab_ca at h
                        split at h <;> cases h
                      · cases h
                  · cases h
                · cases h
            · cases h
          · cases h
        · obtain ⟨x, h1, h2⟩ := ab_map_inl h
          cases h2
      · rw [if_neg q] at h
        cases h
theorem ab_ca_some {m9 m2 pc9 : Nat} {As9 As : List Value} {ls9 : ab_Lo} {st9 : List Value} (h : ab_ca m9 As9 pc9 ls9 st9 = some (.inr (.inl (m2, As, (pc2, ls2, st2))))) : m9 = m2 ∧ As9 = As ∧ pc9 = pc2 ∧ ls9 = ls2 ∧ st9 = st2 ∧ ab_wd st9 = true ∧ m9 < ab_mtA.length := by
  unfold ab_ca at h
  by_cases q : ab_wd st9 = true ∧ m9 < ab_mtA.length
  · rw [if_pos q] at h
    cases h
    exact ⟨rfl, rfl, rfl, rfl, rfl, q.1, q.2⟩
  · rw [if_neg q] at h
    cases h
theorem ab_step_call {m2 : Nat} {As : List Value} (h : ab_step scr mi L M pc ls st = some (.inr (.inl (m2, As, (pc2, ls2, st2))))) : ∃ (k : Nat) (nest : Bool) (z : Nat × Nat), ab_lk ab_cat (ab_ky mi) k = some ((m2, nest), z) ∧ pc + 3 = pc2 ∧ ls = ls2 ∧ ab_wd st2 = true ∧ m2 < ab_mtA.length ∧ ab_na m2 ≤ st.length ∧
    ((decode (ab_code mi) pc = .ok (.invokestatic k, 3) ∧ ab_sta m2 = true ∧ (st.take (ab_na m2)).reverse = As ∧ st.drop (ab_na m2) = st2) ∨
     (∃ b : Nat, ab_sta m2 = false ∧ st.drop (ab_na m2) = .ref b :: st2 ∧ .ref b :: (st.take (ab_na m2)).reverse = As ∧ ((decode (ab_code mi) pc = .ok (.invokevirtual k, 3) ∧ nest = false ∧ ab_rc L b = some (ab_ky m2) ∧ (ab_mr m2).1.1.name ≠ "<init>") ∨ (decode (ab_code mi) pc = .ok (.invokespecial k, 3) ∧ (ab_mr m2).1.1.name = "<init>")))) := by
  unfold ab_step at h
  cases hd : decode (ab_code mi) pc with
  | error e =>
    rw [hd] at h
    cases h
  | ok r9 =>
    obtain ⟨i, len⟩ := r9
    rw [hd] at h
    replace h : ab_s2 scr mi L M pc ls st i len = some (.inr (.inl (m2, As, (pc2, ls2, st2)))) := h
    unfold ab_s2 at h
    split at h
    · obtain ⟨x, h1, h2⟩ := ab_map_inl h
      cases h2
    · rename_i kd hk
      by_cases q : len = 1
      · rw [if_pos q] at h
        unfold ab_rt at h
        split at h
        · split at h
          · split at h <;> cases h
          · cases h
        · split at h <;> cases h
        · split at h <;> cases h
        · cases h
      · rw [if_neg q] at h
        cases h
    · rename_i kd k hk
      by_cases q : len = 3
      · rw [if_pos q] at h
        subst q
        split at h
        · unfold ab_iv at h
          split at h
          · rename_i m9 nest z hlk
            split at h
            · rename_i hna
              split at h
              · rename_i hkd
                subst hkd
                have hi : i = .invokestatic k := by
                  rcases ab_kd_call hk with ⟨e, -⟩ | ⟨-, e⟩ | ⟨e, -⟩
                  · cases e
                  · exact e
                  · cases e
                subst hi
                split at h
                · rename_i hsta
                  obtain ⟨rfl, rfl, rfl, rfl, rfl, hw, hlt⟩ := ab_ca_some h
                  exact ⟨k, nest, z, hlk, rfl, rfl, hw, hlt, hna, Or.inl ⟨rfl, hsta, rfl, rfl⟩⟩
                · cases h
              · rename_i hkd
                split at h
                · rename_i hsta
                  split at h
                  · rename_i b r hdr
                    split at h
                    · rename_i hk0
                      subst hk0
                      have hi : i = .invokevirtual k := by
                        rcases ab_kd_call hk with ⟨-, e⟩ | ⟨e, -⟩ | ⟨e, -⟩
                        · exact e
                        · cases e
                        · cases e
                      subst hi
                      split at h
                      · rename_i hc
                        obtain ⟨rfl, rfl, rfl, rfl, rfl, hw, hlt⟩ := ab_ca_some h
                        exact ⟨k, nest, z, hlk, rfl, rfl, hw, hlt, hna, Or.inr ⟨b, hsta, hdr, rfl, Or.inl ⟨rfl, hc⟩⟩⟩
                      · cases h
                    · rename_i hk0
                      have hi : i = .invokespecial k := by
                        rcases ab_kd_call hk with ⟨e, -⟩ | ⟨e, -⟩ | ⟨-, e⟩
                        · exact absurd e hk0
                        · exact absurd e hkd
                        · exact e
                      subst hi
                      split at h
                      · rename_i hc
                        obtain ⟨rfl, rfl, rfl, rfl, rfl, hw, hlt⟩ := ab_ca_some h
                        exact ⟨k, nest, z, hlk, rfl, rfl, hw, hlt, hna, Or.inr ⟨b, hsta, hdr, rfl, Or.inr ⟨rfl, hc⟩⟩⟩
                      · cases h
                  · cases h
                · cases h
            · cases h
          · cases h
        · obtain ⟨x, h1, h2⟩ := ab_map_inl h
          cases h2
      · rw [if_neg q] at h
        cases h
end ABJ
theorem ab_init_all : ∀ r ∈ ab_mtA, r.1.1.name = "<init>" → r.1.2.2.2 = none := by
  intro r hr
  have h : ab_mtA.all (fun r => !(decide (r.1.1.name = "<init>")) || r.1.2.2.2.isNone) = true := by decide +kernel
  have := List.all_eq_true.mp h r hr
  intro hn
  simp only [hn, decide_true, Bool.not_true, Bool.false_or] at this
  exact Option.isNone_iff_eq_none.mp this
theorem ab_init_ret (m2 : Nat) (hm : m2 < ab_mtA.length) (hn : (ab_mr m2).1.1.name = "<init>") : ab_ret m2 = none := by
  have hmem : ab_mr m2 ∈ ab_mtA := by
    unfold ab_mr ab_mt
    rw [List.getD_eq_getElem?_getD, List.getElem?_append_left hm, List.getElem?_eq_getElem hm]
    exact List.getElem_mem hm
  exact ab_init_all _ hmem hn
section ABM
variable {p : Program} {l : Launch} {e : Env} {R : Room} {s : State} {m : MethodId} {args : Array Value} {below : List Frame} {meth : Method} {c : Code} {Q : State → Prop} {scr : Option (List Int32)} {mi dp : Nat} {X : Nat → Nat} {A : Nat → Prop} {D : va_G} {Lf L L2 : List ab_Ds} {M M2 : ab_M} {pc pc2 len : Nat} {ls ls2 : ab_Lo} {st st2 : List Value} {ad : List Nat}
theorem ab_step_goes {m2 d2 : Nat} {As : List Value} {L1 : List ab_Ds} {M1 : ab_M} {r : Option Value} (C0 : ab_C scr p s m args meth c R mi dp X A) (hs2 : ab_step scr mi L M pc ls st = some (.inr (.inl (m2, As, (pc2, ls2, st2))))) (hM : ab_Met scr l X D m2 d2 As L M L1 M1 r) (hd2 : d2 + 1 ≤ dp) (hg1 : L.length ≤ L1.length ∧ ab_sz L ≤ ab_sz L1) (hg2 : L1.length ≤ Lf.length ∧ ab_sz L1 ≤ ab_sz Lf) (k : ∀ ad2, ad <+: ad2 → ab_G p l e R s m args below meth c Q mi X A D Lf (L1) (M1) (pc2) (ls2) (ab_pr r st2) (ad2)) : ab_G p l e R s m args below meth c Q mi X A D Lf L M pc ls st ad := by
  obtain ⟨kx, nest, z, hlk, rfl, rfl, hwd, hm2, hna, hcase⟩ := ab_step_call hs2
  obtain ⟨hGood, hok⟩ := ab_ws_good m2 hm2
  obtain ⟨o1, o2, o3, o4, o5, o6, o7, o8⟩ := hok
  obtain ⟨-, hq2, hq3⟩ := ab_keys_ok _ o6
  obtain ⟨hx, hb, hml, hown, hts, hA, hE, hN, hmn, hR1, hR2⟩ := id C0
  have hmem := ab_lk_some hlk
  obtain ⟨hlink, -⟩ := ab_ca_ok _ hmem
  simp only at hlink
  have hini := hts _ (ab_wAt_in o4)
  have hroom : (ab_rm d2 (L1.length - L.length) (ab_sz L1 - ab_sz L)).frames + 1 ≤ R.frames ∧ 8 + (ab_nL m2 + 11) + (ab_rm d2 (L1.length - L.length) (ab_sz L1 - ab_sz L)).locals ≤ R.locals := by
    have o5 : ab_nL m2 ≤ 40 := o5
    show d2 + 1 ≤ R.frames ∧ 8 + (ab_nL m2 + 11) + 64 * d2 ≤ R.locals
    omega
  have hdesc : (ab_mr m2).1.1.cls ≠ "java/lang/invoke/MethodHandle" ∧ (ab_mr m2).1.1.cls ≠ "java/lang/invoke/VarHandle" ∧ (parseMethodDescriptor (ab_mr m2).1.1.desc).map (fun d => d.parameters.length) = some (ab_na m2) := by
    rw [← o7]
    exact ⟨hq2, hq3, o8⟩
  intro H locs cells slots tys ws la lv sa hK hP hD hS hW hl hL hs hc1 hc2
  have hf : cells + (L1.length - L.length) ≤ R.cells ∧ slots + (ab_sz L1 - ab_sz L) ≤ R.slots := by omega
  obtain ⟨hs1, hs3⟩ := ab_rS_split (ab_na m2) hs
  have hlen := ab_rS_len hs
  have hsplit : sa = sa.take (ab_na m2) ++ sa.drop (ab_na m2) := (List.take_append_drop _ _).symm
  have hn : (sa.take (ab_na m2)).reverse.length = ab_na m2 := by
    rw [List.length_reverse, List.length_take]
    omega
  have CF : CallFix p m c (ab_code mi) (ab_nL mi) s args wsL_law (ab_cn (ab_ky mi)) := ⟨hx, hb, hml, hown, hts⟩
  rcases hcase with ⟨hd, hsta, hAs, hdr⟩ | ⟨b, hsta, hdr, hAs, hkind⟩
  · -- static
    have hkw := o2
    rw [show (ab_mr m2).2.1.2.2 = true from hsta, if_pos rfl] at hkw
    have hstat := hts _ (ab_wAt_in hkw)
    rw [hdr] at hs3
    have hrs := ab_rS_rev hs1
    rw [hAs] at hrs
    have hMet := hM ad H.size _ hrs
    have hpre : PreS s H (ab_Pc scr X D ad H.size L M (sa.take (ab_na m2)).reverse) (sa.take (ab_na m2)).reverse := ⟨ab_Pc_blind, ab_Pc_of C0 hK hP hD hS hW⟩
    have hW8 : 2 * (F0 m pc la sa).monitorRoom + ((sa.drop (ab_na m2)).map fun v => v.category).sum ≤ 8 := lv_room (ab_wd_of hwd hs3)
    have hstk : (F0 m pc la sa).stack = (sa.take (ab_na m2)).reverse.reverse ++ sa.drop (ab_na m2) := by
      rw [List.reverse_reverse]
      exact hsplit
    rcases hlink with hnest | hlink
    · have hnl := hN.1 _ hmem hnest
      exact ab_after C0 hg1 hD hS hW hl hL hs3 hc1 hc2 (va_runSN CF hMet ⟨va_cnB (ab_na m2) hts hGood rfl rfl rfl hnl hini hdesc hroom, hstat, trivial⟩ hpre rfl hn hl.1 hstk hW8 hd hf) k
    · exact ab_after C0 hg1 hD hS hW hl hL hs3 hc1 hc2 (va_runS CF hMet ⟨callB_of (ab_na m2) hts hGood rfl rfl rfl hini (hts _ (ab_wAt_in hlink)) hdesc hroom, hstat⟩ hpre rfl hn hl.1 hstk hW8 hd hf) k
  · have hkw := o2
    rw [show (ab_mr m2).2.1.2.2 = false from hsta, if_neg (by decide)] at hkw
    have hinst := hts _ (ab_wAt_in hkw)
    rw [hdr] at hs3
    obtain ⟨b3, sr, hb3, hsr, hs4⟩ := ab_rS_ref hs3
    have hrs : ab_rS X ad As (.ref b3 :: (sa.take (ab_na m2)).reverse) := by
      rw [← hAs]
      exact ⟨⟨b3, hb3, rfl⟩, ab_rS_rev hs1⟩
    have hMet := hM ad H.size _ hrs
    have hW8 : 2 * (F0 m pc la sa).monitorRoom + (sr.map fun v => v.category).sum ≤ 8 := lv_room (ab_wd_of hwd hs4)
    have hstk : (F0 m pc la sa).stack = (sa.take (ab_na m2)).reverse.reverse ++ .ref b3 :: sr := by
      rw [List.reverse_reverse, ← hsr]
      exact hsplit
    rcases hkind with ⟨hd, hnest, hrc, hnm⟩ | ⟨hd, hnm⟩
    · have hsel : (Cond.selects (ab_mr m2).1.1.cls (ab_mr m2).1.1 (ab_mr m2).1.1).before args s = true := by
        rcases o3 with q | q | q
        · rw [show (ab_mr m2).2.1.2.2 = false from hsta] at q
          cases q
        · exact absurd q hnm
        · exact hts _ (ab_wAt_in q)
      have hlink : ab_wAt z = some (.methodLink (ab_cn (ab_ky mi)) kx (ab_mr m2).1.1) := by
        rcases hlink with q | q
        · rw [hnest] at q
          cases q
        · exact q
      have hrecv : ∃ cellB : Cell, H[b3]? = some cellB ∧ cellB.vm.isStatics = false ∧ s.vm.findClass (ab_mr m2).1.1.cls = some cellB.cls := by
        unfold ab_rc at hrc
        split at hrc
        · rename_i ci ks hLb
          have e : ci = ab_ky m2 := Option.some.inj hrc
          obtain ⟨e1, hwa, fs, rfl, -, -⟩ := ab_ref_ad hW hLb hb3
          have hci : ci < 13 := by
            obtain ⟨r9, hr9, -⟩ := hP b _ hwa
            have := (List.getElem?_eq_some_iff.mp hr9).1
            simpa [vwCl] using this
          have := va_recv hK hP (ab_cls ci hci).1 hwa
          rw [e] at this
          rw [← o7]
          exact this
        · cases hrc
        · by_cases hst : ab_isS b = true
          · rw [if_pos hst] at hrc
            have hb9 : 1000 ≤ b ∧ b < 1005 := of_decide_eq_true hst
            have e : 20 = ab_ky m2 := Option.some.inj hrc
            rw [ab_ad_out hb9.1] at hb3
            cases hb3
            obtain ⟨i, rfl⟩ : ∃ i, b = 1000 + i := ⟨b - 1000, by omega⟩
            obtain ⟨g1, -, -⟩ := hE.2.2.1 i (by omega)
            obtain ⟨cellB, f1, f2, f3, -⟩ := g1.kept hS.2.1
            refine ⟨cellB, f1, f2, ?_⟩
            rw [← o7, show (ab_mr m2).2.1.1 = 20 from e.symm]
            exact f3
          · rw [if_neg hst] at hrc
            cases hrc
      exact ab_after C0 hg1 hD hS hW hl hL hs4 hc1 hc2 (va_runV CF hMet ⟨callB_of (ab_na m2) hts hGood rfl rfl rfl hini (hts _ (ab_wAt_in hlink)) hdesc hroom, hinst, hsel⟩ ⟨ab_Pc_blind, hrecv, ab_Pc_of C0 hK hP hD hS hW⟩ rfl hn hl.1 hstk hW8 hd hf) k
    · have hret : ab_ret m2 = none := ab_init_ret m2 hm2 hnm
      have hGood2 := hGood
      have hpre : PreS s H (ab_Pc scr X D ad H.size L M (.ref b3 :: (sa.take (ab_na m2)).reverse)) (.ref b3 :: (sa.take (ab_na m2)).reverse) := ⟨ab_Pc_blind, ab_Pc_of C0 hK hP hD hS hW⟩
      have hwe : ab_ws m2 = Cond.code (ab_mr m2).1.1 (ab_code m2) (ab_nL m2) none :: wsL_law := by
        unfold ab_ws
        rw [hret]
      rcases hlink with hnest | hlink
      · have hnl := hN.1 _ hmem hnest
        exact ab_after C0 hg1 hD hS hW hl hL hs4 hc1 hc2 (va_runIN CF hMet ⟨va_cnB (ab_na m2) hts hGood2 hwe rfl rfl hnl hini hdesc hroom, hnm, hinst⟩ hpre rfl hn hl.1 hstk hW8 hd hf) k
      · exact ab_after C0 hg1 hD hS hW hl hL hs4 hc1 hc2 (va_runI CF hMet ⟨callB_of (ab_na m2) hts hGood2 hwe rfl rfl hini (hts _ (ab_wAt_in hlink)) hdesc hroom, hnm, hinst⟩ hpre rfl hn hl.1 hstk hW8 hd hf) k
end ABM
