theorem ab_sz_set {L : List ab_Ds} {a : Nat} {d d2 : ab_Ds} (h : L[a]? = some d) (he : ab_sz1 d2 = ab_sz1 d) : ab_sz (L.set a d2) = ab_sz L := by
  unfold ab_sz
  congr 1
  apply List.ext_getElem?
  intro j
  by_cases hj : a = j
  · subst hj
    have hlt := (List.getElem?_eq_some_iff.mp h).1
    rw [List.getElem?_map, List.getElem?_map, List.getElem?_set_self hlt, h]
    simp [he]
  · rw [List.getElem?_map, List.getElem?_map, List.getElem?_set_ne hj]
theorem ab_sz_app (L ds : List ab_Ds) : ab_sz (L ++ ds) = ab_sz L + ab_sz ds := by
  unfold ab_sz
  rw [List.map_append, List.sum_append]
theorem ab_Wd_app {ad : List Nat} {tys tys' : List (ClassId × FieldType)} {L : List ab_Ds} {M M' : ab_M} {ws : va_W} (h : ab_Wd ad tys L M ws) (ht : tys <+: tys') (wn : va_W) (ds : List ab_Ds) (hl : wn.length = ds.length) (hk : L.length + ds.length ≤ 1000) (hM : ∀ j, j < L.length → M' j = M j) (hd : ∀ (i : Nat) (d : ab_Ds), ds[i]? = some d → ∃ a e, wn[i]? = some (a, e) ∧ ab_cell (ad ++ wn.map (fun q => q.1)) tys' (M' (L.length + i)) d e) : ab_Wd (ad ++ wn.map (fun q => q.1)) tys' (L ++ ds) M' (ws ++ wn) := by
  obtain ⟨h1, ⟨h2, -⟩, h3⟩ := h
  refine ⟨by simp [h1, hl], ⟨by simp [h2, hl], by simpa using hk⟩, fun j d hj => ?_⟩
  by_cases hjl : j < L.length
  · rw [List.getElem?_append_left hjl] at hj
    obtain ⟨a', e', g1, g2, g3⟩ := h3 j d hj
    refine ⟨a', e', ?_, ?_, ?_⟩
    · rw [List.getElem?_append_left (by omega)]
      exact g1
    · rw [List.getElem?_append_left (by omega)]
      exact g2
    · rw [hM j hjl]
      exact ab_cell_mono (List.prefix_append ad _) ht g3
  · rw [List.getElem?_append_right (by omega)] at hj
    obtain ⟨a, e, g1, g2⟩ := hd _ d hj
    refine ⟨a, e, ?_, ?_, ?_⟩
    · rw [List.getElem?_append_right (by omega), h1, List.getElem?_map, g1]
      rfl
    · rw [List.getElem?_append_right (by omega), h2]
      exact g1
    · rw [show L.length + (j - L.length) = j by omega] at g2
      exact g2
theorem ab_dflt : ∀ ci, ci < 13 → ∀ k, k < ab_fN ci → (ab_isRf (ab_fty ci k) = true ∧ defaultValue (ab_fty ci k) = .null) ∨ (ab_isRf (ab_fty ci k) = false ∧ defaultValue (ab_fty ci k) = .int 0) := by decide +kernel
theorem ab_zr_at (M : ab_M) (a n b : Nat) (h : a ≤ b ∧ b < a + n) : ab_zr M a n b = fun _ => 0 := by
  funext j
  simp [ab_zr, h]
theorem ab_zr_ne (M : ab_M) (a n b : Nat) (h : b < a) : ab_zr M a n b = M b := by
  funext j
  have : ¬ a ≤ b := by omega
  simp [ab_zr, this]
theorem ab_clamp {x : Int32} (h : 0 ≤ x.toInt) : ¬ x < 0 ∧ (x.toNatClampNeg : Int) = x.toInt := by
  refine ⟨fun q => ?_, ?_⟩
  · have := Int32.lt_iff_toInt_lt.mp q
    simp at this
    omega
  · show ((x.toInt.toNat : Nat) : Int) = x.toInt
    omega
section ABH2
variable {p : Program} {l : Launch} {e : Env} {R : Room} {s : State} {m : MethodId} {args : Array Value} {below : List Frame} {meth : Method} {c : Code} {Q : State → Prop} {scr : Option (List Int32)} {mi dp : Nat} {X : Nat → Nat} {A : Nat → Prop} {D : va_G} {Lf L L2 : List ab_Ds} {M M2 : ab_M} {pc pc2 len : Nat} {ls ls2 : ab_Lo} {st st2 : List Value} {ad : List Nat}
theorem ab_putW {H : Heap} {locs : List Loc} {cells slots : Nat} {la : Array Slot} {sa : List Value} {tys : List (ClassId × FieldType)} {ws : va_W} {a b ci kk n : Nat} {z : Nat × Nat} {fs : List Value} {v : Value} (C0 : ab_C scr p s m args meth c R mi dp X A) (hlk : ab_lk ab_flt (ab_ky mi) n = some ((ci, kk), z)) (hfin : ¬ (ab_fin ci kk = true ∧ ¬ ((ab_mr mi).1.1.name = "<init>" ∧ ab_ky mi = ci))) (hK : va_K D vwCl tys s) (hP : va_P D vwCl ws H) (hD : va_D A ws) (hS : va_S A s.heap H locs) (hwa : ws[a]? = some (b, .inr (ci, fs))) (hl : kk < fs.length) (hn : narrow (ab_fty ci kk) v = v) (hfit : fits (ab_fty ci kk) v = true) (hd : decode (ab_code mi) pc = .ok (.putfield n, 3))
    (kg : ∀ (H1 : Heap) (locs1 : List Loc), va_P D vwCl (ws.set a (b, .inr (ci, fs.set kk v))) H1 → va_D A (ws.set a (b, .inr (ci, fs.set kk v))) → va_S A s.heap H1 locs1 → W p l e R s m args below meth c (H1) (locs1) (cells) (slots) Q (F0 m (pc + 3) la sa)) : W p l e R s m args below meth c (H) (locs) (cells) (slots) Q (F0 m pc la (v :: .ref b :: sa)) := by
  obtain ⟨hx, hb, hml, hown, hts, hA, hE, hN, hmn, hR1, hR2⟩ := C0
  obtain ⟨hw, hci, hkN⟩ := ab_fl_ok _ (ab_lk_some hlk)
  have hw := hts _ (ab_wAt_in hw)
  obtain ⟨k1, k2, k3, k4, k5⟩ := ab_cls ci hci
  have hsame : ∀ x, s.fieldFound? ((ab_T ci) kk).1 ((ab_T ci) kk).2.1 ((ab_T ci) kk).2.2.1 = some x → s.fieldFound? (ab_cn ci) ((ab_T ci) kk).2.1 ((ab_T ci) kk).2.2.1 = some x := by rw [k5 kk hkN]; exact fun _ h9 => h9
  by_cases hf : ab_fin ci kk = true
  · have hq : (ab_mr mi).1.1.name = "<init>" ∧ ab_ky mi = ci := Classical.byContradiction fun q => hfin ⟨hf, q⟩
    exact va_putF hx hb hts k2 (ab_fty ci) k3 k4 hown hK hP hD hS a hwa k1 kk hkN hw hsame hf (hmn hq.1) (by rw [k5 kk hkN, hq.2]) (k3 kk hkN) hn hfit hl hd kg
  · exact va_put hx hb hts k2 (ab_fty ci) k3 k4 hown hK hP hD hS a hwa k1 kk hkN hw hsame (by cases hq : ((ab_T ci) kk).2.2.2 with | true => exact absurd hq hf | false => rfl) (k3 kk hkN) hn hfit hl hd kg
theorem ab_put_some {own n a : Nat} {v : Value} {f : List ab_Ds → ab_M → Option ab_Ou} {o : ab_Ou} (h : ab_put L M own n a v f mi = some o) : ∃ ci kk z, ab_lk ab_flt own n = some ((ci, kk), z) ∧ ¬ (ab_fin ci kk = true ∧ ¬ ((ab_mr mi).1.1.name = "<init>" ∧ own = ci)) ∧
    ((∃ x y, v = .int x ∧ ab_fit (ab_fty ci kk) x = true ∧ ab_gF L M a ci kk = some (.int y) ∧ f L (ab_up M a kk x) = some o) ∨ ∃ (q : Nat) (ks : List (Option (Option Nat))) (L9 : List ab_Ds), v = .ref q ∧ ab_isRf (ab_fty ci kk) = true ∧ q < 1000 ∧ L[a]? = some (.inl (ci, ks)) ∧ ab_sL L a kk q = some L9 ∧ f L9 M = some o) := by
  unfold ab_put at h
  cases hlk : ab_lk ab_flt own n with
  | none =>
    rw [hlk] at h
    cases h
  | some r =>
    obtain ⟨⟨ci, kk⟩, z⟩ := r
    rw [hlk] at h
    obtain ⟨hfin, h⟩ := ab_ifn_some h
    refine ⟨ci, kk, z, rfl, hfin, ?_⟩
    cases v with
    | int x =>
      obtain ⟨hfit, h⟩ := ab_if_some h
      cases hg : ab_gF L M a ci kk with
      | none =>
        rw [hg] at h
        cases h
      | some w =>
        rw [hg] at h
        cases w with
        | int y => exact Or.inl ⟨x, y, rfl, hfit, rfl, h⟩
        | _ => cases h
    | ref q =>
      obtain ⟨⟨hrf, hq⟩, h⟩ := ab_if_some h
      cases hL : L[a]? with
      | none =>
        rw [hL] at h
        cases h
      | some d =>
        rw [hL] at h
        cases d with
        | inr _ => cases h
        | inl r =>
          obtain ⟨c9, ks⟩ := r
          obtain ⟨hcc, h9⟩ := ab_if_some h
          subst hcc
          clear h
          have h := h9
          cases hs : ab_sL L a kk q with
          | none =>
            rw [hs] at h
            cases h
          | some L9 =>
            rw [hs] at h
            exact Or.inr ⟨q, ks, L9, rfl, hrf, hq, rfl, hs, h⟩
    | _ => cases h
theorem ab_sL_some {a k q c : Nat} {ks : List (Option (Option Nat))} {L9 : List ab_Ds} (hL : L[a]? = some (.inl (c, ks))) (h : ab_sL L a k q = some L9) : (∃ o, ks[k]? = some (some o)) ∧ L9 = L.set a (.inl (c, ks.set k (some (some q)))) := by
  unfold ab_sL at h
  rw [hL] at h
  simp only at h
  split at h
  · rename_i o ho
    cases h
    exact ⟨⟨o, ho⟩, rfl⟩
  · cases h
theorem ab_p_putfield (C0 : ab_C scr p s m args meth c R mi dp X A) {n : Nat} (hd : decode (ab_code mi) pc = .ok (.putfield n, len)) (h : ab_sI scr mi L M pc ls st (.putfield n) len = some (L2, (pc2, ls2, st2), M2)) (k : ∀ ad2, ad <+: ad2 → ab_G p l e R s m args below meth c Q mi X A D Lf L2 M2 pc2 ls2 st2 ad2) : ab_G p l e R s m args below meth c Q mi X A D Lf L M pc ls st ad := by
  obtain ⟨e9, h9⟩ := ab_ck_some h; subst e9; clear h; have h := h9; clear h9
  match st, h with
  | [], h => cases h
  | [_], h => cases h
  | v :: .ref a :: t, h =>
    have h : ab_put L M (ab_ky mi) n a v (fun L' M' => ab_go L' M' (pc + 3) ls t) mi = some (L2, (pc2, ls2, st2), M2) := h
    obtain ⟨ci, kk, z, hlk, hfin, h | h⟩ := ab_put_some h
    · obtain ⟨x, y, rfl, hfit, hg, h⟩ := h
      simp only [ab_fit, Bool.and_eq_true, decide_eq_true_eq] at hfit
      obtain ⟨rfl, rfl, rfl, rfl, rfl⟩ := ab_go_some h
      obtain ⟨ks, o, hLa, hko, hvo⟩ := ab_gF_some hg
      have ho : o = none := by
        rcases hvo with ⟨h1, -⟩ | ⟨q, -, h1⟩
        · exact h1
        · cases h1
      subst ho
      intro H locs cells slots tys ws la lv sa hK hP hD hS hW hl hL hs hc1 hc2
      obtain ⟨sa, e9, hs9⟩ := ab_rS_int hs; subst e9; clear hs; have hs := hs9; clear hs9
      obtain ⟨b, sa, hb2, e9, hs9⟩ := ab_rS_ref hs; subst e9; clear hs; have hs := hs9; clear hs9
      obtain ⟨e1, hwa, fs, rfl, hfl, hfs⟩ := ab_ref_ad hW hLa hb2
      have hkl : kk < fs.length := by rw [hfl]; exact (List.getElem?_eq_some_iff.mp hko).1
      refine ab_putW C0 hlk hfin hK hP hD hS hwa hkl hfit.1 hfit.2 hd (fun H1 locs1 hP hD hS => ?_)
      have hW2 := ab_Wd_set (M' := ab_up M a kk x) hW hwa (.inr (ci, fs.set kk (.int x))) (.inl (ci, ks)) (by
        refine ⟨fs.set kk (.int x), rfl, by simpa using hfl, fun j o ho => ?_⟩
        obtain ⟨v2, hv2, hfd⟩ := hfs j o ho
        by_cases hj : kk = j
        · subst hj
          rw [hko] at ho
          cases ho
          refine ⟨.int x, by rw [List.getElem?_set_self hkl], ?_⟩
          show Value.int x = .int (ab_up M a kk x a kk)
          simp [ab_up]
        · refine ⟨v2, by rw [List.getElem?_set_ne hj]; exact hv2, ?_⟩
          have e : ab_up M a kk x a j = M a j := by
            have hq : ¬ j = kk := fun q => hj q.symm
            simp [ab_up, hq]
          rw [e]
          exact hfd) (fun j hj => ab_up_ne M kk x hj)
      rw [ab_set_self hLa] at hW2
      exact k ad (List.prefix_refl _) H1 locs1 cells slots tys _ la lv sa hK hP hD hS hW2 hl hL hs hc1 hc2
    · obtain ⟨q, ks, L9, rfl, hrf, hq1000, hLa, hsL, h⟩ := h
      obtain ⟨⟨o, hko⟩, rfl⟩ := ab_sL_some hLa hsL
      obtain ⟨rfl, rfl, rfl, rfl, rfl⟩ := ab_go_some h
      intro H locs cells slots tys ws la lv sa hK hP hD hS hW hl hL hs hc1 hc2
      obtain ⟨b3, sa, hb3, e9, hs9⟩ := ab_rS_ref hs; subst e9; clear hs; have hs := hs9; clear hs9
      obtain ⟨b, sa, hb2, e9, hs9⟩ := ab_rS_ref hs; subst e9; clear hs; have hs := hs9; clear hs9
      obtain ⟨e1, hwa, fs, rfl, hfl, hfs⟩ := ab_ref_ad hW hLa hb2
      have hkl : kk < fs.length := by rw [hfl]; exact (List.getElem?_eq_some_iff.mp hko).1
      have hkl2 : kk < ks.length := (List.getElem?_eq_some_iff.mp hko).1
      obtain ⟨hn, hft⟩ := ab_rf_nar hrf b3
      have hadq : ad[q]? = some b3 := by
        unfold ab_ad at hb3
        rw [if_pos hq1000] at hb3
        exact hb3
      refine ab_putW C0 hlk hfin hK hP hD hS hwa hkl hn hft hd (fun H1 locs1 hP hD hS => ?_)
      have hW2 := ab_Wd_set (M' := M) hW hwa (.inr (ci, fs.set kk (.ref b3))) (.inl (ci, ks.set kk (some (some q)))) (by
        refine ⟨fs.set kk (.ref b3), rfl, by simpa using hfl, fun j o ho => ?_⟩
        by_cases hj : kk = j
        · subst hj
          rw [List.getElem?_set_self hkl2] at ho
          cases ho
          exact ⟨.ref b3, by rw [List.getElem?_set_self hkl], b3, hadq, rfl⟩
        · rw [List.getElem?_set_ne hj] at ho
          obtain ⟨v2, hv2, hfd⟩ := hfs j o ho
          exact ⟨v2, by rw [List.getElem?_set_ne hj]; exact hv2, hfd⟩) (fun j hj => rfl)
      have hlen : (L.set a (.inl (ci, ks.set kk (some (some q))))).length = L.length := by simp
      have hsz : ab_sz (L.set a (.inl (ci, ks.set kk (some (some q))))) = ab_sz L := ab_sz_set hLa (by simp [ab_sz1])
      exact k ad (List.prefix_refl _) H1 locs1 cells slots tys _ la lv sa hK hP hD hS hW2 hl hL hs (by rw [hlen]; exact hc1) (by rw [hsz]; exact hc2)
  | _ :: .int _ :: _, h => cases h
  | _ :: .long _ :: _, h => cases h
  | _ :: .float _ :: _, h => cases h
  | _ :: .double _ :: _, h => cases h
  | _ :: .null :: _, h => cases h
  | _ :: .retAddr _ :: _, h => cases h
theorem ab_p_aaload (C0 : ab_C scr p s m args meth c R mi dp X A) (hd : decode (ab_code mi) pc = .ok (.aaload, len)) (h : ab_sI scr mi L M pc ls st .aaload len = some (L2, (pc2, ls2, st2), M2)) (k : ∀ ad2, ad <+: ad2 → ab_G p l e R s m args below meth c Q mi X A D Lf L2 M2 pc2 ls2 st2 ad2) : ab_G p l e R s m args below meth c Q mi X A D Lf L M pc ls st ad := by
  obtain ⟨e9, h9⟩ := ab_ck_some h; subst e9; clear h; have h := h9; clear h9
  obtain ⟨i, t, e9, h9⟩ := ab_I_some h; subst e9; clear h; have h := h9; clear h9
  obtain ⟨a, t, e9, h9⟩ := ab_R_some h; subst e9; clear h; have h := h9; clear h9
  obtain ⟨hx, hb, hml, hown, hts, hA, hE, hN, hmn, hR1, hR2⟩ := C0
  split at h
  · rename_i ty n qs hq
    obtain ⟨hin, h⟩ := ab_if_some h
    split at h
    · rename_i q hqs
      obtain ⟨rfl, rfl, rfl, rfl, rfl⟩ := ab_go_some h
      have hLa := ab_aq_some hq
      intro H locs cells slots tys ws la lv sa hK hP hD hS hW hl hL hs hc1 hc2
      obtain ⟨sa, e9, hs9⟩ := ab_rS_int hs; subst e9; clear hs; have hs := hs9; clear hs9
      obtain ⟨b, sa, hb2, e9, hs9⟩ := ab_rS_ref hs; subst e9; clear hs; have hs := hs9; clear hs9
      obtain ⟨e1, hwa, cA, t0, g, rfl, ht0, hg⟩ := ab_ref_ad hW hLa hb2
      obtain ⟨b3, h3, h4⟩ := hg _ _ hqs
      have hrf := ab_rf_is hin.2
      exact ab_aald hx hb hK hP a t0 hrf hwa ht0 (ab_inB_of hin.1) hd (by
        rw [h4]
        exact k ad (List.prefix_refl _) H locs cells slots tys ws la lv (.ref b3 :: sa) hK hP hD hS hW hl hL ⟨⟨b3, ab_ad_of hW h3, rfl⟩, hs⟩ hc1 hc2)
    · cases h
  · cases h
theorem ab_p_iastore (C0 : ab_C scr p s m args meth c R mi dp X A) (hd : decode (ab_code mi) pc = .ok (.iastore, len)) (h : ab_sI scr mi L M pc ls st .iastore len = some (L2, (pc2, ls2, st2), M2)) (k : ∀ ad2, ad <+: ad2 → ab_G p l e R s m args below meth c Q mi X A D Lf L2 M2 pc2 ls2 st2 ad2) : ab_G p l e R s m args below meth c Q mi X A D Lf L M pc ls st ad := by
  obtain ⟨e9, h9⟩ := ab_ck_some h; subst e9; clear h; have h := h9; clear h9
  obtain ⟨x, t, e9, h9⟩ := ab_I_some h; subst e9; clear h; have h := h9; clear h9
  obtain ⟨i, t, e9, h9⟩ := ab_I_some h; subst e9; clear h; have h := h9; clear h9
  obtain ⟨a, t, e9, h9⟩ := ab_R_some h; subst e9; clear h; have h := h9; clear h9
  obtain ⟨hx, hb, hml, hown, hts, hA, hE, hN, hmn, hR1, hR2⟩ := C0
  split at h
  · rename_i n hn
    obtain ⟨hin, h⟩ := ab_if_some h
    obtain ⟨rfl, rfl, rfl, rfl, rfl⟩ := ab_go_some h
    have hLa := ab_ar_some hn
    intro H locs cells slots tys ws la lv sa hK hP hD hS hW hl hL hs hc1 hc2
    obtain ⟨sa, e9, hs9⟩ := ab_rS_int hs; subst e9; clear hs; have hs := hs9; clear hs9
    obtain ⟨sa, e9, hs9⟩ := ab_rS_int hs; subst e9; clear hs; have hs := hs9; clear hs9
    obtain ⟨b, sa, hb2, e9, hs9⟩ := ab_rS_ref hs; subst e9; clear hs; have hs := hs9; clear hs9
    obtain ⟨e1, hwa, cA, t0, rfl, ht0⟩ := ab_ref_ad hW hLa hb2
    refine va_iast hx hb hK hP hD hS a t0 hwa ht0 (ab_inB_of hin) hd (fun H1 locs1 hP hD hS => ?_)
    have hW2 := ab_Wd_set (M' := ab_up M a i.toNatClampNeg x) hW hwa (.inl (cA, n, .inl (upd (M a) i.toNatClampNeg x))) (.inr (.int, n, none)) ⟨cA, t0, by rw [ab_up_self], ht0⟩ (fun j hj => ab_up_ne M _ x hj)
    rw [ab_set_self hLa] at hW2
    exact k ad (List.prefix_refl _) H1 locs1 cells slots tys _ la lv sa hK hP hD hS hW2 hl hL hs hc1 hc2
  · cases h
theorem ab_p_bastore (C0 : ab_C scr p s m args meth c R mi dp X A) (hd : decode (ab_code mi) pc = .ok (.bastore, len)) (h : ab_sI scr mi L M pc ls st .bastore len = some (L2, (pc2, ls2, st2), M2)) (k : ∀ ad2, ad <+: ad2 → ab_G p l e R s m args below meth c Q mi X A D Lf L2 M2 pc2 ls2 st2 ad2) : ab_G p l e R s m args below meth c Q mi X A D Lf L M pc ls st ad := by
  obtain ⟨e9, h9⟩ := ab_ck_some h; subst e9; clear h; have h := h9; clear h9
  obtain ⟨x, t, e9, h9⟩ := ab_I_some h; subst e9; clear h; have h := h9; clear h9
  obtain ⟨i, t, e9, h9⟩ := ab_I_some h; subst e9; clear h; have h := h9; clear h9
  obtain ⟨a, t, e9, h9⟩ := ab_R_some h; subst e9; clear h; have h := h9; clear h9
  obtain ⟨hx, hb, hml, hown, hts, hA, hE, hN, hmn, hR1, hR2⟩ := C0
  split at h
  · rename_i n hn
    obtain ⟨hin, h⟩ := ab_if_some h
    obtain ⟨rfl, rfl, rfl, rfl, rfl⟩ := ab_go_some h
    have hLa := ab_ar_some hn
    intro H locs cells slots tys ws la lv sa hK hP hD hS hW hl hL hs hc1 hc2
    obtain ⟨sa, e9, hs9⟩ := ab_rS_int hs; subst e9; clear hs; have hs := hs9; clear hs9
    obtain ⟨sa, e9, hs9⟩ := ab_rS_int hs; subst e9; clear hs; have hs := hs9; clear hs9
    obtain ⟨b, sa, hb2, e9, hs9⟩ := ab_rS_ref hs; subst e9; clear hs; have hs := hs9; clear hs9
    obtain ⟨e1, hwa, cA, t0, rfl, ht0⟩ := ab_ref_ad hW hLa hb2
    refine va_bast hx hb hK hP hD hS a t0 hwa ht0 (ab_inB_of hin) hd (fun H1 locs1 hP hD hS => ?_)
    have hW2 := ab_Wd_set (M' := ab_up M a i.toNatClampNeg (vp_nar .byte x)) hW hwa (.inl (cA, n, .inl (upd (M a) i.toNatClampNeg (vp_nar .byte x)))) (.inr (.byte, n, none)) ⟨cA, t0, by rw [ab_up_self], ht0⟩ (fun j hj => ab_up_ne M _ _ hj)
    rw [ab_set_self hLa] at hW2
    exact k ad (List.prefix_refl _) H1 locs1 cells slots tys _ la lv sa hK hP hD hS hW2 hl hL hs hc1 hc2
  · split at h
    · rename_i n hn
      obtain ⟨hin, h⟩ := ab_if_some h
      obtain ⟨rfl, rfl, rfl, rfl, rfl⟩ := ab_go_some h
      have hLa := ab_ar_some hn
      intro H locs cells slots tys ws la lv sa hK hP hD hS hW hl hL hs hc1 hc2
      obtain ⟨sa, e9, hs9⟩ := ab_rS_int hs; subst e9; clear hs; have hs := hs9; clear hs9
      obtain ⟨sa, e9, hs9⟩ := ab_rS_int hs; subst e9; clear hs; have hs := hs9; clear hs9
      obtain ⟨b, sa, hb2, e9, hs9⟩ := ab_rS_ref hs; subst e9; clear hs; have hs := hs9; clear hs9
      obtain ⟨e1, hwa, cA, t0, rfl, ht0⟩ := ab_ref_ad hW hLa hb2
      refine va_zast hx hb hK hP hD hS a t0 hwa ht0 (ab_inB_of hin) hd (fun H1 locs1 hP hD hS => ?_)
      have hW2 := ab_Wd_set (M' := ab_up M a i.toNatClampNeg (vp_nar .boolean x)) hW hwa (.inl (cA, n, .inl (upd (M a) i.toNatClampNeg (vp_nar .boolean x)))) (.inr (.boolean, n, none)) ⟨cA, t0, by rw [ab_up_self], ht0⟩ (fun j hj => ab_up_ne M _ _ hj)
      rw [ab_set_self hLa] at hW2
      exact k ad (List.prefix_refl _) H1 locs1 cells slots tys _ la lv sa hK hP hD hS hW2 hl hL hs hc1 hc2
    · cases h
theorem ab_p_aastore (C0 : ab_C scr p s m args meth c R mi dp X A) (hd : decode (ab_code mi) pc = .ok (.aastore, len)) (h : ab_sI scr mi L M pc ls st .aastore len = some (L2, (pc2, ls2, st2), M2)) (k : ∀ ad2, ad <+: ad2 → ab_G p l e R s m args below meth c Q mi X A D Lf L2 M2 pc2 ls2 st2 ad2) : ab_G p l e R s m args below meth c Q mi X A D Lf L M pc ls st ad := by
  obtain ⟨e9, h9⟩ := ab_ck_some h; subst e9; clear h; have h := h9; clear h9
  obtain ⟨q, t, e9, h9⟩ := ab_R_some h; subst e9; clear h; have h := h9; clear h9
  obtain ⟨i, t, e9, h9⟩ := ab_I_some h; subst e9; clear h; have h := h9; clear h9
  obtain ⟨a, t, e9, h9⟩ := ab_R_some h; subst e9; clear h; have h := h9; clear h9
  obtain ⟨hx, hb, hml, hown, hts, hA, hE, hN, hmn, hR1, hR2⟩ := C0
  cases hq : ab_aq L a with
  | none =>
    rw [hq] at h
    cases h
  | some r =>
    obtain ⟨ty, n, qs⟩ := r
    cases hc : ab_rc L q with
    | none =>
      rw [hq, hc] at h
      cases h
    | some c9 =>
      rw [hq, hc] at h
      obtain ⟨⟨hin, hty, hc13, hq1000⟩, h⟩ := ab_if_some h
      have hLa := ab_aq_some hq
      simp only at hLa
      cases hsq : ab_sQ L a i.toNatClampNeg q with
      | none =>
        rw [hsq] at h
        cases h
      | some L9 =>
        rw [hsq] at h
        obtain ⟨rfl, rfl, rfl, rfl, rfl⟩ := ab_go_some h
        unfold ab_sQ at hsq
        rw [hLa] at hsq
        simp only at hsq
        by_cases hk9 : i.toNatClampNeg < qs.length ∧ qs.length = n
        · rw [if_pos hk9] at hsq
          cases hsq
          have hob : ∃ ks, L[q]? = some (.inl (c9, ks)) := by
            unfold ab_rc at hc
            split at hc
            · rename_i ks hL
              cases hc
              exact ⟨_, hL⟩
            · cases hc
            · by_cases hS9 : ab_isS q = true
              · rw [if_pos hS9] at hc
                have := of_decide_eq_true hS9
                omega
              · rw [if_neg hS9] at hc
                cases hc
          obtain ⟨ks, hLq⟩ := hob
          obtain ⟨k1, k2, k3, k4, k5⟩ := ab_cls c9 hc13
          intro H locs cells slots tys ws la lv sa hK hP hD hS hW hl hL hs hc1 hc2
          obtain ⟨b3, sa, hb3, e9, hs9⟩ := ab_rS_ref hs; subst e9; clear hs; have hs := hs9; clear hs9
          obtain ⟨sa, e9, hs9⟩ := ab_rS_int hs; subst e9; clear hs; have hs := hs9; clear hs9
          obtain ⟨b, sa, hb2, e9, hs9⟩ := ab_rS_ref hs; subst e9; clear hs; have hs := hs9; clear hs9
          obtain ⟨e1, hwa, cA, t0, g, rfl, ht0, hg⟩ := ab_ref_ad hW hLa hb2
          obtain ⟨e2, hwq, fs, rfl, hfl, hfs⟩ := ab_ref_ad hW hLq hb3
          have hadq : ad[q]? = some b3 := by
            unfold ab_ad at hb3
            rw [if_pos hq1000] at hb3
            exact hb3
          rw [hty] at ht0
          refine va_astq (r := (ab_cn c9, ab_T c9, ab_fN c9)) hx hb hK hP hD hS a t0 q c9 hwa ht0 hwq k1 (ab_inB_of hin) hd (fun H1 locs1 hP hD hS => ?_)
          have hW2 := ab_Wd_set (M' := M) hW hwa (.inl (cA, n, .inr (.inr (.inr (.inr (va_up g i.toNatClampNeg (some b3))))))) (.inr (ty, n, some (qs.set i.toNatClampNeg (some q)))) (by
            refine ⟨cA, t0, _, rfl, by rw [hty]; exact ht0, fun j q2 hj => ?_⟩
            by_cases hj2 : i.toNatClampNeg = j
            · subst hj2
              rw [List.getElem?_set_self hk9.1] at hj
              cases hj
              exact ⟨b3, hadq, by simp [va_up]⟩
            · rw [List.getElem?_set_ne hj2] at hj
              obtain ⟨b4, h4, h5⟩ := hg j q2 hj
              have hq : ¬ j = i.toNatClampNeg := fun z => hj2 z.symm
              exact ⟨b4, h4, by simp [va_up, hq, h5]⟩) (fun j hj => rfl)
          have hlen : (L.set a (.inr (ty, n, some (qs.set i.toNatClampNeg (some q))))).length = L.length := by simp
          have hsz : ab_sz (L.set a (.inr (ty, n, some (qs.set i.toNatClampNeg (some q))))) = ab_sz L := ab_sz_set hLa rfl
          exact k ad (List.prefix_refl _) H1 locs1 cells slots tys _ la lv sa hK hP hD hS hW2 hl hL hs (by rw [hlen]; exact hc1) (by rw [hsz]; exact hc2)
        · rw [if_neg hk9] at hsq
          cases hsq
theorem ab_p_new (C0 : ab_C scr p s m args meth c R mi dp X A) (hLf : L2.length ≤ Lf.length ∧ ab_sz L2 ≤ ab_sz Lf) {n : Nat} (hd : decode (ab_code mi) pc = .ok (.new n, len)) (h : ab_sI scr mi L M pc ls st (.new n) len = some (L2, (pc2, ls2, st2), M2)) (k : ∀ ad2, ad <+: ad2 → ab_G p l e R s m args below meth c Q mi X A D Lf L2 M2 pc2 ls2 st2 ad2) : ab_G p l e R s m args below meth c Q mi X A D Lf L M pc ls st ad := by
  obtain ⟨e9, h9⟩ := ab_ck_some h; subst e9; clear h; have h := h9; clear h9
  obtain ⟨hx, hb, hml, hown, hts, hA, hE, hN, hmn, hR1, hR2⟩ := C0
  cases hlk : ab_lk ab_nwt (ab_ky mi) n with
  | none =>
    rw [hlk] at h
    cases h
  | some r =>
    obtain ⟨⟨ci, N⟩, z⟩ := r
    rw [hlk] at h
    obtain ⟨hlt, h⟩ := ab_if_some h
    obtain ⟨rfl, rfl, rfl, rfl, rfl⟩ := ab_go_some h
    obtain ⟨w1, w2, w3, hci, hNe⟩ := ab_nw_ok _ (ab_lk_some hlk)
    simp only at w1 w2 w3 hci hNe
    subst hNe
    have w1 := hts _ (ab_wAt_in w1)
    have w2 := hts _ (ab_wAt_in w2)
    have w3 := hts _ (ab_wAt_in w3)
    obtain ⟨k1, k2, k3, k4, k5⟩ := ab_cls ci hci
    intro H locs cells slots tys ws la lv sa hK hP hD hS hW hl hL hs hc1 hc2
    have hsz1 : ab_sz1 (.inl (ci, ab_nf (ab_fN ci) ci)) = ab_fN ci := by simp [ab_sz1, ab_nf]
    rw [List.length_append, List.length_singleton, ab_sz_app, show ab_sz [(.inl (ci, ab_nf (ab_fN ci) ci) : ab_Ds)] = ab_fN ci by simp [ab_sz, hsz1]] at hLf
    refine va_new hx hb hts k2 (ab_fty ci) k3 hown w1 w2 w3 hK hP hD hS hA k1 (fs := (List.range (ab_fN ci)).map fun j => defaultValue (ab_fty ci j)) (fun j hj => by simp [vp_V, List.getD_eq_getElem?_getD, hj]) (by omega) (by omega) hd (fun q H1 hP hD hS => ?_)
    have hW2 := ab_Wd_app (M' := ab_zr M L.length 1) hW (List.prefix_refl tys) [(q, .inr (ci, (List.range (ab_fN ci)).map fun j => defaultValue (ab_fty ci j)))] [.inl (ci, ab_nf (ab_fN ci) ci)] rfl (by simp; omega) (fun j hj => ab_zr_ne M _ _ _ hj) (by
      intro i d hi
      match i, hi with
      | 0, hi =>
        cases hi
        refine ⟨q, _, rfl, _, rfl, by simp [ab_nf], fun j o ho => ?_⟩
        have hj : j < ab_fN ci := by
          have := (List.getElem?_eq_some_iff.mp ho).1
          simpa [ab_nf] using this
        refine ⟨defaultValue (ab_fty ci j), by simp [hj], ?_⟩
        have ho2 : o = if ab_isRf (ab_fty ci j) = true then some none else none := by
          have : (ab_nf (ab_fN ci) ci)[j]? = some (if ab_isRf (ab_fty ci j) = true then some none else none) := by simp [ab_nf, hj]
          rw [this] at ho
          exact (Option.some.inj ho).symm
        rw [ab_zr_at M _ _ _ (by omega)]
        rcases ab_dflt ci hci j hj with ⟨f1, f2⟩ | ⟨f1, f2⟩
        · rw [ho2, if_pos f1, f2]
          exact rfl
        · rw [ho2, f1, f2]
          exact rfl
      | i + 1, hi => cases hi)
    exact k (ad ++ [q]) (List.prefix_append ad [q]) H1 locs (cells + 1) (slots + ab_fN ci) tys _ la lv (.ref q :: sa) hK hP hD hS hW2 hl (ab_rL_mono (List.prefix_append ad [q]) hL) ⟨⟨q, by
      unfold ab_ad
      rw [if_pos hlt, ← hW.1, List.getElem?_append_right (Nat.le_refl _)]
      simp, rfl⟩, ab_rS_mono (List.prefix_append ad [q]) hs⟩ (by rw [List.length_append, List.length_singleton]; omega) (by rw [ab_sz_app, show ab_sz [(.inl (ci, ab_nf (ab_fN ci) ci) : ab_Ds)] = ab_fN ci by simp [ab_sz, hsz1]]; omega)
end ABH2
