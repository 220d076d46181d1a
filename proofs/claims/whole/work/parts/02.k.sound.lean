section ABN
variable {p : Program} {l : Launch} {e : Env} {R : Room} {s : State} {m : MethodId} {args : Array Value} {below : List Frame} {meth : Method} {c : Code} {Q : State → Prop} {scr : Option (List Int32)} {mi dp : Nat} {X : Nat → Nat} {A : Nat → Prop} {D : va_G} {Lf L L2 : List ab_Ds} {M M2 : ab_M} {pc pc2 len : Nat} {ls ls2 : ab_Lo} {st st2 : List Value} {ad : List Nat}
/-- the end of a method -/
theorem ab_ret_goes {r : Option Value} {ad0 : List Nat} {sz0 : Nat} {L0 : List ab_Ds} {as : Array Value} (C0 : ab_C scr p s m args meth c R mi dp X (ab_A1 ad0 sz0)) (hrt : meth.sig.returnType = ab_ret mi) (hlocks : meth.locks = false) (hR : R.cells = L.length - L0.length ∧ R.slots = ab_sz L - ab_sz L0) (hg : L0.length ≤ L.length ∧ ab_sz L0 ≤ ab_sz L) (hp : ad0 <+: ad) (hsz : s.heap.size = sz0) (hs2 : ab_step scr mi L M pc ls st = some (.inr (.inr r))) :
    ab_G p l e R s m args below meth c (MQ below (ab_Qc X D ad0 sz0 L M r) args s (L.length - L0.length) (ab_sz L - ab_sz L0) (ab_A1 ad0 sz0)) mi X (ab_A1 ad0 sz0) D L L M pc ls st ad := by
  obtain ⟨hx, hb, hml, hown, hts, hA, hE, hN, hmn, hR1, hR2⟩ := C0
  intro H locs cells slots tys ws la lv sa hK hP hD hS hW hl hL hs hc1 hc2
  have hB : ∀ t : State, t.heap = H → s.WarmedH t.vm → ab_B D ad0 sz0 L M X ad t := fun t ht hW2 => ⟨hp, ws, tys, by rw [ht]; exact hP, va_K.moved hW2.alike hK, hD, hW⟩
  refine W.widen (k := L.length - L0.length) (n := ab_sz L - ab_sz L0) (by omega) (by omega) ?_
  rcases ab_step_ret hs2 with ⟨hd, x, ty, rfl, rfl, hret, hn⟩ | ⟨hd, x, rfl, rfl, hret⟩ | ⟨hd, rfl, rfl, hret⟩
  · obtain ⟨sa, e9, hs9⟩ := ab_rS_int hs; subst e9; clear hs; have hs := hs9; clear hs9
    have e0 := ab_rS_nil hs
    subst e0
    exact W.zret hx hb (hrt.trans hret) hn (fun t ht hW2 => ⟨⟨x, ad, rfl, rfl, hB t ht hW2⟩, hS.F ht⟩) hS.2.2 hd hlocks
  · obtain ⟨sa, e9, hs9⟩ := ab_rS_long hs; subst e9; clear hs; have hs := hs9; clear hs9
    have e0 := ab_rS_nil hs
    subst e0
    exact W.lret hx hb (hrt.trans hret) (fun t ht hW2 => ⟨⟨x, ad, rfl, rfl, hB t ht hW2⟩, hS.F ht⟩) hS.2.2 hd hlocks
  · have e0 := ab_rS_nil hs
    subst e0
    exact W.vret hx hb (hrt.trans hret) (fun t ht hW2 => ⟨⟨ad, rfl, trivial, hB t ht hW2⟩, hS.F ht⟩) hS.2.2 hd hlocks
end ABN
def ab_Sound (scr : Option (List Int32)) (l : Launch) (X : Nat → Nat) (D : va_G) (n : Nat) : Prop :=
  ∀ (mi dp : Nat) (L : List ab_Ds) (M : ab_M) (pc : Nat) (ls : ab_Lo) (st : List Value) (L1 : List ab_Ds) (M1 : ab_M) (r : Option Value), ab_run scr n mi dp L M pc ls st = some (L1, M1, r) → 1 ≤ dp →
    ∀ (p : Program) (e : Env) (R : Room) (s : State) (m : MethodId) (args : Array Value) (below : List Frame) (meth : Method) (c : Code) (Q : State → Prop) (A : Nat → Prop) (ad : List Nat), ab_C scr p s m args meth c R mi dp X A →
      (∀ (ad2 : List Nat) (pc2 : Nat) (ls2 : ab_Lo) (st2 : List Value), ad <+: ad2 → ab_step scr mi L1 M1 pc2 ls2 st2 = some (.inr (.inr r)) → ab_G p l e R s m args below meth c Q mi X A D L1 L1 M1 pc2 ls2 st2 ad2) →
      ab_G p l e R s m args below meth c Q mi X A D L1 L M pc ls st ad
theorem ab_met_of {scr : Option (List Int32)} {l : Launch} {X : Nat → Nat} {D : va_G} {n : Nat} (hn : ab_Sound scr l X D n) {m2 d2 : Nat} {As : List Value} {L : List ab_Ds} {M : ab_M} {L1 : List ab_Ds} {M1 : ab_M} {r : Option Value} (hm2 : m2 < ab_mtA.length) (hd2 : 1 ≤ d2) (hlay : (ab_lay As).length ≤ ab_nL m2) (h : ab_run scr n m2 d2 L M 0 (ab_en (ab_nL m2) As) [] = some (L1, M1, r)) : ab_Met scr l X D m2 d2 As L M L1 M1 r := by
  intro ad sz sa hrs
  obtain ⟨hGood, o1, o2, o3, o4, o5, o6, o7, o8⟩ := ab_ws_good m2 hm2
  obtain ⟨hq1, hq2, hq3⟩ := ab_keys_ok _ o6
  refine Met.ofW (cc := ab_code m2) (maxL := ab_nL m2) (ret := ab_ret m2) (by rw [← o7]; exact hq1) rfl ?_
  intro p e s m args below meth c s₁ B hml hv
  obtain ⟨rfl, hsz, hE, hN, ws, tys, hP, hK, hD, hW⟩ := hv
  have hts := atoms_spec (ws := ab_ws m2) B.pre
  have hown : s.vm.findClass (ab_mr m2).1.1.cls = some m.cls := findClass_of_methodNamed B.named
  have hmn := (name_of_methodNamed B.named B.method).1
  have hg := ab_run_gr _ _ _ _ _ _ _ _ _ _ _ _ h
  have hA : ∀ q, s.heap.size ≤ q → ab_A1 ad sz q := fun q hq => Or.inr (by rw [← hsz]; exact hq)
  have hC : ab_C scr p s m sa.toArray meth c (headSpec (ab_ws m2) (ab_rm d2 (L1.length - L.length) (ab_sz L1 - ab_sz L))).room m2 d2 X (ab_A1 ad sz) :=
    ⟨B.exec, B.bytes, hml, by rw [← o7] at hown; exact hown, fun w hw => hts w (List.mem_cons_of_mem _ hw), hA, hE, hN, fun h9 => hmn.trans h9, Nat.le_refl _, Nat.le_refl _⟩
  have hD1 : va_D (ab_A1 ad sz) ws := by
    refine ⟨hD.1, fun k q hk => Or.inl ?_⟩
    have hlt : k < ws.length := (List.getElem?_eq_some_iff.mp hk).1
    obtain ⟨a, e9, g1, g2, -⟩ := hW.2.2 k _ (List.getElem?_eq_getElem (show k < L.length by rw [← hW.2.1.1]; exact hlt))
    rw [hk] at g2
    cases g2
    exact List.mem_of_getElem? g1
  have hl := lv_entry sa (n := ab_nL m2) (by rw [ab_lay_len hrs]; exact hlay)
  rw [lg_entry_eq]
  have hrt : meth.sig.returnType = ab_ret m2 := B.returns
  exact hn _ _ _ _ _ _ _ _ _ _ h hd2 p e _ s m sa.toArray below meth c _ (ab_A1 ad sz) ad hC (fun ad2 pc2 ls2 st2 hp hs2 => ab_ret_goes (as := sa.toArray) hC hrt B.notSynchronized ⟨rfl, rfl⟩ hg hp hsz hs2) s.heap [] 0 0 tys ws _ _ [] hK hP hD1 va_S.rf hW hl (ab_en_rL _ hrs) trivial (by
    show 0 + L1.length ≤ (L1.length - L.length) + L.length
    omega) (by
    show 0 + ab_sz L1 ≤ (ab_sz L1 - ab_sz L) + ab_sz L
    omega)
theorem ab_sound (scr : Option (List Int32)) (l : Launch) (X : Nat → Nat) (D : va_G) : ∀ n, ab_Sound scr l X D n := by
  intro n
  induction n with
  | zero =>
    intro mi dp L M pc ls st L1 M1 r h
    cases h
  | succ n ih =>
    intro mi dp L M pc ls st L1 M1 r h hdp p e R s m args below meth c Q A ad C0 hret
    have hgr := ab_run_gr _ _ _ _ _ _ _ _ _ _ _ _ h
    unfold ab_run at h
    split at h
    · cases h
    · rename_i L2 pc2 ls2 st2 M2 hs
      by_cases hg : ab_gr L L2 = true
      · rw [if_pos hg] at h
        have h2 := ab_run_gr _ _ _ _ _ _ _ _ _ _ _ _ h
        obtain ⟨i, len, hd, hI⟩ := ab_step_plain hs
        exact ab_plain C0 hdp hgr h2 hd hI (fun ad2 hp => ih _ _ _ _ _ _ _ _ _ _ h hdp p e R s m args below meth c Q A ad2 C0 (fun ad3 pc3 ls3 st3 hp3 => hret ad3 pc3 ls3 st3 (hp.trans hp3)))
      · rw [if_neg hg] at h
        cases h
    · rename_i m2 As pc2 ls2 st2 hs
      by_cases hq : Nat.ble (ab_dk m2 As + 1) dp = true ∧ Nat.ble (ab_lay As).length (ab_nL m2) = true
      · rw [if_pos hq] at h
        split at h
        · cases h
        · rename_i L2 M2 r2 hc
          by_cases hg : ab_gr L L2 = true
          · rw [if_pos hg] at h
            have h2 := ab_run_gr _ _ _ _ _ _ _ _ _ _ _ _ h
            obtain ⟨-, -, -, -, -, -, -, hm2, -⟩ := ab_step_call hs
            have hMet := ab_met_of ih hm2 (ab_rk_pos m2 As) (Nat.le_of_ble_eq_true hq.2) hc
            exact ab_step_goes C0 hs hMet (Nat.le_of_ble_eq_true hq.1) (ab_gr_of hg) h2 (fun ad2 hp => ih _ _ _ _ _ _ _ _ _ _ h hdp p e R s m args below meth c Q A ad2 C0 (fun ad3 pc3 ls3 st3 hp3 => hret ad3 pc3 ls3 st3 (hp.trans hp3)))
          · rw [if_neg hg] at h
            cases h
      · rw [if_neg hq] at h
        cases h
    · rename_i r2 hs
      cases h
      exact hret ad pc ls st (List.prefix_refl _) hs
