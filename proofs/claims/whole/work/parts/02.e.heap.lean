/-! The heap's steps -/
theorem ab_ref_ad {X : Nat → Nat} {ad : List Nat} {tys : List (ClassId × FieldType)} {L : List ab_Ds} {M : ab_M} {ws : va_W} (hW : ab_Wd ad tys L M ws) {a b : Nat} {d : ab_Ds} (hd : L[a]? = some d) (hb : ab_ad X ad a = some b) : ∃ e, ws[a]? = some (b, e) ∧ ab_cell ad tys (M a) d e := by
  obtain ⟨h1, ⟨h2, h4⟩, h3⟩ := hW
  obtain ⟨b', e, g1, g2, g3⟩ := h3 a d hd
  have hlt : a < L.length := (List.getElem?_eq_some_iff.mp hd).1
  unfold ab_ad at hb
  rw [if_pos (by omega), g1] at hb
  cases hb
  exact ⟨e, g2, g3⟩
theorem ab_ad_of {X : Nat → Nat} {ad : List Nat} {tys : List (ClassId × FieldType)} {L : List ab_Ds} {M : ab_M} {ws : va_W} (hW : ab_Wd ad tys L M ws) {q b : Nat} (hq : ad[q]? = some b) : ab_ad X ad q = some b := by
  obtain ⟨h1, ⟨h2, h4⟩, h3⟩ := hW
  have hlt : q < ad.length := (List.getElem?_eq_some_iff.mp hq).1
  unfold ab_ad
  rw [if_pos (by omega)]
  exact hq
theorem ab_gF_some {L : List ab_Ds} {M : ab_M} {a ci k : Nat} {v : Value} (h : ab_gF L M a ci k = some v) : ∃ ks o, L[a]? = some (.inl (ci, ks)) ∧ ks[k]? = some o ∧ ((o = none ∧ v = .int (M a k)) ∨ ∃ q, o = some (some q) ∧ v = .ref q) := by
  unfold ab_gF at h
  split at h
  · rename_i c ks hL
    by_cases hc : c = ci
    · subst hc
      rw [if_pos rfl] at h
      split at h
      · rename_i hk
        cases h
        exact ⟨ks, none, hL, hk, Or.inl ⟨rfl, rfl⟩⟩
      · rename_i q hk
        cases h
        exact ⟨ks, _, hL, hk, Or.inr ⟨q, rfl, rfl⟩⟩
      · cases h
    · rw [if_neg hc] at h
      cases h
  · cases h
theorem ab_str_some {own k j : Nat} (h : ab_str own k = some j) : own = 9 ∧ j < 5 ∧ (ab_tx j).1 = k := by
  unfold ab_str at h
  by_cases ho : own = 9
  · rw [if_pos ho] at h
    refine ⟨ho, ?_⟩
    split at h
    all_goals first
      | (cases h; exact ⟨by decide, rfl⟩)
      | cases h
  · rw [if_neg ho] at h
    cases h
theorem ab_ad_out {X : Nat → Nat} {ad : List Nat} {i : Nat} (h : 1000 ≤ i) : ab_ad X ad i = some (X i) := by
  unfold ab_ad
  rw [if_neg (by omega)]
theorem ab_rf_is {ty : FieldType} (h : ab_isRf ty = true) : ty.isReference = true := by
  cases ty with
  | object n => rfl
  | array t => rfl
  | _ => exact absurd h (by simp [ab_isRf])
theorem ab_rf_nar {ty : FieldType} (h : ab_isRf ty = true) (a : Nat) : narrow ty (.ref a) = .ref a ∧ fits ty (.ref a) = true := by
  cases ty with
  | object n => exact ⟨rfl, rfl⟩
  | array t => exact ⟨rfl, rfl⟩
  | _ => exact absurd h (by simp [ab_isRf])
theorem ab_zC_wr (w : Nat) (hw : w < 2) : (ab_zC w).1 = "WhoseRound" := by
  match w, hw with
  | 0, _ => rfl
  | 1, _ => rfl
section ABH
variable {p : Program} {l : Launch} {e : Env} {R : Room} {s : State} {m : MethodId} {args : Array Value} {below : List Frame} {meth : Method} {c : Code} {Q : State → Prop} {scr : Option (List Int32)} {mi dp : Nat} {X : Nat → Nat} {A : Nat → Prop} {D : va_G} {Lf L L2 : List ab_Ds} {M M2 : ab_M} {pc pc2 len : Nat} {ls ls2 : ab_Lo} {st st2 : List Value} {ad : List Nat}
theorem ab_p_ldc (C0 : ab_C scr p s m args meth c R mi dp X A) {n : Nat} (hd : decode (ab_code mi) pc = .ok (.ldc n, len)) (h : ab_sI scr mi L M pc ls st (.ldc n) len = some (L2, (pc2, ls2, st2), M2)) (k : ∀ ad2, ad <+: ad2 → ab_G p l e R s m args below meth c Q mi X A D Lf L2 M2 pc2 ls2 st2 ad2) : ab_G p l e R s m args below meth c Q mi X A D Lf L M pc ls st ad := by
  obtain ⟨e9, h9⟩ := ab_ck_some h; subst e9; clear h; have h := h9; clear h9
  obtain ⟨hx, hb, hml, hown, hts, hA, hE, hN, hmn, hR1, hR2⟩ := C0
  split at h
  · rename_i v z hlk
    obtain ⟨rfl, rfl, rfl, rfl, rfl⟩ := ab_go_some h
    have hw := hts _ (ab_wAt_in (ab_ko_ok _ (ab_lk_some hlk)))
    refine ab_pS ⟨rfl, rfl, rfl⟩ (fun H locs cells slots la lv sa hl hL hs hS => ?_) k
    exact ⟨.int v :: sa, ⟨rfl, hs⟩, fun g => lv_ldc hx hb hown hw hd g⟩
  · cases h
  · split at h
    · rename_i j hj
      obtain ⟨ho, hj5, hjk⟩ := ab_str_some hj
      obtain ⟨rfl, rfl, rfl, rfl, rfl⟩ := ab_go_some h
      have hown9 : s.vm.findClass RX9 = some m.cls := by rw [ho] at hown; exact hown
      have hZ := hE.2.2.2 j hj5
      rw [hjk] at hZ
      refine ab_pS ⟨rfl, rfl, rfl⟩ (fun H locs cells slots la lv sa hl hL hs hS => ?_) k
      exact ⟨.ref (X (1000 + j)) :: sa, ⟨⟨_, ab_ad_out (by omega), rfl⟩, hs⟩, fun g => va_ldcS hx hb hown9 hZ hd g⟩
    · cases h
theorem ab_p_ldc_w (C0 : ab_C scr p s m args meth c R mi dp X A) {n : Nat} (hd : decode (ab_code mi) pc = .ok (.ldc_w n, len)) (h : ab_sI scr mi L M pc ls st (.ldc_w n) len = some (L2, (pc2, ls2, st2), M2)) (k : ∀ ad2, ad <+: ad2 → ab_G p l e R s m args below meth c Q mi X A D Lf L2 M2 pc2 ls2 st2 ad2) : ab_G p l e R s m args below meth c Q mi X A D Lf L M pc ls st ad := by
  obtain ⟨e9, h9⟩ := ab_ck_some h; subst e9; clear h; have h := h9; clear h9
  obtain ⟨hx, hb, hml, hown, hts, hA, hE, hN, hmn, hR1, hR2⟩ := C0
  split at h
  · rename_i v z hlk
    obtain ⟨rfl, rfl, rfl, rfl, rfl⟩ := ab_go_some h
    have hw := hts _ (ab_wAt_in (ab_ko_ok _ (ab_lk_some hlk)))
    refine ab_pS ⟨rfl, rfl, rfl⟩ (fun H locs cells slots la lv sa hl hL hs hS => ?_) k
    exact ⟨.int v :: sa, ⟨rfl, hs⟩, fun g => lv_ldcw hx hb hown hw hd g⟩
  · cases h
theorem ab_p_ldc2_w (C0 : ab_C scr p s m args meth c R mi dp X A) {n : Nat} (hd : decode (ab_code mi) pc = .ok (.ldc2_w n, len)) (h : ab_sI scr mi L M pc ls st (.ldc2_w n) len = some (L2, (pc2, ls2, st2), M2)) (k : ∀ ad2, ad <+: ad2 → ab_G p l e R s m args below meth c Q mi X A D Lf L2 M2 pc2 ls2 st2 ad2) : ab_G p l e R s m args below meth c Q mi X A D Lf L M pc ls st ad := by
  obtain ⟨e9, h9⟩ := ab_ck_some h; subst e9; clear h; have h := h9; clear h9
  obtain ⟨hx, hb, hml, hown, hts, hA, hE, hN, hmn, hR1, hR2⟩ := C0
  split at h
  · rename_i v z hlk
    obtain ⟨rfl, rfl, rfl, rfl, rfl⟩ := ab_go_some h
    have hw := hts _ (ab_wAt_in (ab_ko_ok _ (ab_lk_some hlk)))
    refine ab_pS ⟨rfl, rfl, rfl⟩ (fun H locs cells slots la lv sa hl hL hs hS => ?_) k
    exact ⟨.long v :: sa, ⟨rfl, hs⟩, fun g => lv_ldc2 hx hb hown hw hd g⟩
  · cases h
theorem ab_p_tableswitch (C0 : ab_C scr p s m args meth c R mi dp X A) {df lo hi : Int} {offs : Array Int} (hd : decode (ab_code mi) pc = .ok (.tableswitch df lo hi offs, len)) (h : ab_sI scr mi L M pc ls st (.tableswitch df lo hi offs) len = some (L2, (pc2, ls2, st2), M2)) (k : ∀ ad2, ad <+: ad2 → ab_G p l e R s m args below meth c Q mi X A D Lf L2 M2 pc2 ls2 st2 ad2) : ab_G p l e R s m args below meth c Q mi X A D Lf L M pc ls st ad := by
  obtain ⟨x, t, e9, h9⟩ := ab_I_some h; subst e9; clear h; have h := h9; clear h9
  by_cases q : x.toInt < lo ∨ hi < x.toInt
  · rw [if_pos q] at h
    obtain ⟨rfl, rfl, ht, rfl, rfl⟩ := ab_jm_some h
    refine ab_pS ⟨rfl, rfl, rfl⟩ (fun H locs cells slots la lv sa hl hL hs hS => ?_) k
    obtain ⟨ws, e9, hs9⟩ := ab_rS_int hs; subst e9; clear hs; have hs := hs9; clear hs9
    exact ⟨ws, hs, fun g => lv_tableOut C0.1 C0.2.1 hd q ht g⟩
  · rw [if_neg q] at h
    split at h
    · rename_i off ho
      obtain ⟨rfl, rfl, ht, rfl, rfl⟩ := ab_jm_some h
      refine ab_pS ⟨rfl, rfl, rfl⟩ (fun H locs cells slots la lv sa hl hL hs hS => ?_) k
      obtain ⟨ws, e9, hs9⟩ := ab_rS_int hs; subst e9; clear hs; have hs := hs9; clear hs9
      exact ⟨ws, hs, fun g => lv_tableIn C0.1 C0.2.1 hd (fun z => q (Or.inl z)) (fun z => q (Or.inr z)) ho ht g⟩
    · cases h
theorem ab_p_lookupswitch (C0 : ab_C scr p s m args meth c R mi dp X A) {df : Int} {ps : Array (Int × Int)} (hd : decode (ab_code mi) pc = .ok (.lookupswitch df ps, len)) (h : ab_sI scr mi L M pc ls st (.lookupswitch df ps) len = some (L2, (pc2, ls2, st2), M2)) (k : ∀ ad2, ad <+: ad2 → ab_G p l e R s m args below meth c Q mi X A D Lf L2 M2 pc2 ls2 st2 ad2) : ab_G p l e R s m args below meth c Q mi X A D Lf L M pc ls st ad := by
  obtain ⟨x, t, e9, h9⟩ := ab_I_some h; subst e9; clear h; have h := h9; clear h9
  obtain ⟨hp, h⟩ := ab_if_some h
  obtain ⟨rfl, rfl, ht, rfl, rfl⟩ := ab_jm_some h
  refine ab_pS ⟨rfl, rfl, rfl⟩ (fun H locs cells slots la lv sa hl hL hs hS => ?_) k
  obtain ⟨ws, e9, hs9⟩ := ab_rS_int hs; subst e9; clear hs; have hs := hs9; clear hs9
  exact ⟨ws, hs, fun g => lv_lookup C0.1 C0.2.1 hd hp rfl ht g⟩
theorem ab_p_getfield (C0 : ab_C scr p s m args meth c R mi dp X A) {n : Nat} (hd : decode (ab_code mi) pc = .ok (.getfield n, len)) (h : ab_sI scr mi L M pc ls st (.getfield n) len = some (L2, (pc2, ls2, st2), M2)) (k : ∀ ad2, ad <+: ad2 → ab_G p l e R s m args below meth c Q mi X A D Lf L2 M2 pc2 ls2 st2 ad2) : ab_G p l e R s m args below meth c Q mi X A D Lf L M pc ls st ad := by
  obtain ⟨e9, h9⟩ := ab_ck_some h; subst e9; clear h; have h := h9; clear h9
  obtain ⟨a, t, e9, h9⟩ := ab_R_some h; subst e9; clear h; have h := h9; clear h9
  obtain ⟨hx, hb, hml, hown, hts, hA, hE, hN, hmn, hR1, hR2⟩ := C0
  split at h
  · rename_i v hv
    obtain ⟨rfl, rfl, rfl, rfl, rfl⟩ := ab_go_some h
    unfold ab_get at hv
    split at hv
    · rename_i ci kk z hlk
      obtain ⟨ks, o, hLa, hko, hvo⟩ := ab_gF_some hv
      obtain ⟨hw, hci, hkN⟩ := ab_fl_ok _ (ab_lk_some hlk)
      have hw := hts _ (ab_wAt_in hw)
      obtain ⟨k1, k2, k3, k4, k5⟩ := ab_cls ci hci
      intro H locs cells slots tys ws la lv sa hK hP hD hS hW hl hL hs hc1 hc2
      obtain ⟨b, sa, hb2, e9, hs9⟩ := ab_rS_ref hs; subst e9; clear hs; have hs := hs9; clear hs9
      obtain ⟨e1, hwa, fs, rfl, hfl, hfs⟩ := ab_ref_ad hW hLa hb2
      obtain ⟨v2, hv2, hfd⟩ := hfs kk o hko
      have hrv : ab_rv X ad v v2 := by
        rcases hvo with ⟨rfl, rfl⟩ | ⟨q, rfl, rfl⟩
        · exact hfd
        · obtain ⟨b3, h3, rfl⟩ := hfd
          exact ⟨b3, ab_ad_of hW h3, rfl⟩
      exact va_get hx hb hts k2 hown hK hP a hwa k1 kk hkN hw (by rw [k5 kk hkN]; exact fun _ h9 => h9) hv2 hd (k ad (List.prefix_refl _) H locs cells slots tys ws la lv (v2 :: sa) hK hP hD hS hW hl hL ⟨hrv, hs⟩ hc1 hc2)
    · split at hv
      · rename_i w z hlk
        by_cases hst : ab_isS a = true
        · rw [if_pos hst] at hv
          cases hv
          have ha : 1000 ≤ a ∧ a < 1005 := of_decide_eq_true hst
          obtain ⟨i, rfl⟩ : ∃ i, a = 1000 + i := ⟨a - 1000, by omega⟩
          obtain ⟨g1, g2, g3⟩ := hE.2.2.1 i (by omega)
          obtain ⟨hw, hw2⟩ := ab_sf_ok _ (ab_lk_some hlk)
          have hw := hts _ (ab_wAt_in hw)
          intro H locs cells slots tys ws la lv sa hK hP hD hS hW hl hL hs hc1 hc2
          obtain ⟨b, sa, hb2, e9, hs9⟩ := ab_rS_ref hs; subst e9; clear hs; have hs := hs9; clear hs9
          rw [ab_ad_out (by omega)] at hb2
          cases hb2
          by_cases w0 : w = 0
          · simp only [w0] at hw ⊢
            exact vk_getf hx hb g2 hS hown hw (fun _ h9 => h9) hd (k ad (List.prefix_refl _) H locs cells slots tys ws la lv (.int 0 :: sa) hK hP hD hS hW hl hL ⟨by simp [w0, ab_rv], hs⟩ hc1 hc2)
          · simp only [w0] at hw ⊢
            exact vk_getf hx hb g3 hS hown hw (fun _ h9 => h9) hd (k ad (List.prefix_refl _) H locs cells slots tys ws la lv (.ref (X (2002 + i)) :: sa) hK hP hD hS hW hl hL ⟨by
              simp only [w0, if_false]
              exact ⟨_, by rw [ab_ad_out (by omega)], by rw [show 1000 + i + 1002 = 2002 + i by omega]⟩, hs⟩ hc1 hc2)
        · rw [if_neg hst] at hv
          cases hv
      · cases hv
  · cases h
theorem ab_p_getstatic (C0 : ab_C scr p s m args meth c R mi dp X A) {n : Nat} (hd : decode (ab_code mi) pc = .ok (.getstatic n, len)) (h : ab_sI scr mi L M pc ls st (.getstatic n) len = some (L2, (pc2, ls2, st2), M2)) (k : ∀ ad2, ad <+: ad2 → ab_G p l e R s m args below meth c Q mi X A D Lf L2 M2 pc2 ls2 st2 ad2) : ab_G p l e R s m args below meth c Q mi X A D Lf L M pc ls st ad := by
  obtain ⟨e9, h9⟩ := ab_ck_some h; subst e9; clear h; have h := h9; clear h9
  obtain ⟨hx, hb, hml, hown, hts, hA, hE, hN, hmn, hR1, hR2⟩ := C0
  split at h
  · rename_i w nest z hlk
    obtain ⟨rfl, rfl, rfl, rfl, rfl⟩ := ab_go_some h
    have hmem := ab_lk_some hlk
    obtain ⟨hw, hw4, hw2⟩ := ab_st_ok _ hmem
    obtain ⟨v9, hrv9, hZ⟩ := hE.1 w hw4
    have hrv : ab_rv X ad (ab_stv w) v9 := ab_rv_mono (List.nil_prefix) hrv9
    refine ab_pS ⟨rfl, rfl, rfl⟩ (fun H locs cells slots la lv sa hl hL hs hS => ?_) k
    refine ⟨v9 :: sa, ⟨hrv, hs⟩, fun g => ?_⟩
    rcases hw with hn | hw
    · have hlk2 := (hN.2.1 _ hmem hn).use (A := args) rfl
      have h1 : (ab_zC w).1 = "WhoseRound" := ab_zC_wr w (hw2 hn)
      rw [h1] at hZ
      exact va_getsN hx hb hZ hS hown hlk2 (fun _ h9 => h9) hd g
    · exact va_gets hx hb hZ hS hown (hts _ (ab_wAt_in hw)) (fun _ h9 => h9) hd g
  · cases h
theorem ab_ar_some {a n : Nat} {ty : FieldType} (h : ab_ar L a ty = some n) : L[a]? = some (.inr (ty, n, none)) := by
  unfold ab_ar at h
  split at h
  · rename_i t n2 hL
    by_cases ht : t = ty
    · rw [if_pos ht] at h
      cases h
      rw [hL, ht]
    · rw [if_neg ht] at h
      cases h
  · cases h
theorem ab_aq_some {a : Nat} {r : FieldType × Nat × List (Option Nat)} (h : ab_aq L a = some r) : L[a]? = some (.inr (r.1, r.2.1, some r.2.2)) := by
  unfold ab_aq at h
  split at h
  · rename_i hL
    cases h
    exact hL
  · cases h
theorem ab_p_arraylength (C0 : ab_C scr p s m args meth c R mi dp X A) (hd : decode (ab_code mi) pc = .ok (.arraylength, len)) (h : ab_sI scr mi L M pc ls st .arraylength len = some (L2, (pc2, ls2, st2), M2)) (k : ∀ ad2, ad <+: ad2 → ab_G p l e R s m args below meth c Q mi X A D Lf L2 M2 pc2 ls2 st2 ad2) : ab_G p l e R s m args below meth c Q mi X A D Lf L M pc ls st ad := by
  obtain ⟨e9, h9⟩ := ab_ck_some h; subst e9; clear h; have h := h9; clear h9
  obtain ⟨a, t, e9, h9⟩ := ab_R_some h; subst e9; clear h; have h := h9; clear h9
  obtain ⟨hx, hb, hml, hown, hts, hA, hE, hN, hmn, hR1, hR2⟩ := C0
  split at h
  · rename_i v hv
    obtain ⟨rfl, rfl, rfl, rfl, rfl⟩ := ab_go_some h
    intro H locs cells slots tys ws la lv sa hK hP hD hS hW hl hL hs hc1 hc2
    obtain ⟨b, sa, hb2, e9, hs9⟩ := ab_rS_ref hs; subst e9; clear hs; have hs := hs9; clear hs9
    have kk := k ad (List.prefix_refl _) H locs cells slots tys ws la lv (.int v :: sa) hK hP hD hS hW hl hL ⟨rfl, hs⟩ hc1 hc2
    unfold ab_len at hv
    split at hv
    · rename_i t9 n9 q9 hLa
      cases hv
      obtain ⟨e1, hwa, hce⟩ := ab_ref_ad hW hLa hb2
      cases q9 with
      | none =>
        obtain ⟨cA, t0, rfl, ht0⟩ := hce
        exact va_alen hx hb hK hP a t0 hwa ht0 rfl hd kk
      | some qs =>
        obtain ⟨cA, t0, g, rfl, ht0, -⟩ := hce
        exact va_alen hx hb hK hP a t0 hwa ht0 rfl hd kk
    · cases hv
    · split at hv
      · rename_i hxa
        by_cases h1000 : 1000 ≤ a
        · rw [if_pos h1000] at hv
          cases hv
          rw [ab_ad_out h1000] at hb2
          cases hb2
          exact va_tlen hx hb (hE.2.1 _ _ _ hxa) hS rfl hd kk
        · rw [if_neg h1000] at hv
          cases hv
      · cases hv
  · cases h
theorem ab_ald_some {a : Nat} {ty : FieldType} {i v : Int32} (h : ab_ald scr L M a ty i = some v) : (∃ n, L[a]? = some (.inr (ty, n, none)) ∧ vp_in i n ∧ v = M a i.toNatClampNeg) ∨ ∃ l, ab_xar scr a = some (ty, l) ∧ 1000 ≤ a ∧ vp_in i l.length ∧ v = l.getD i.toNatClampNeg 0 := by
  unfold ab_ald at h
  split at h
  · rename_i n hn
    by_cases hi : ab_inB i n = true
    · rw [if_pos hi] at h
      cases h
      exact Or.inl ⟨n, ab_ar_some hn, ab_inB_of hi, rfl⟩
    · rw [if_neg hi] at h
      cases h
  · split at h
    · rename_i t l hxa
      by_cases hc : t = ty ∧ 1000 ≤ a ∧ ab_inB i l.length = true
      · rw [if_pos hc] at h
        cases h
        exact Or.inr ⟨l, by rw [hxa, hc.1], hc.2.1, ab_inB_of hc.2.2, rfl⟩
      · rw [if_neg hc] at h
        cases h
    · cases h
theorem ab_p_iaload (C0 : ab_C scr p s m args meth c R mi dp X A) (hd : decode (ab_code mi) pc = .ok (.iaload, len)) (h : ab_sI scr mi L M pc ls st .iaload len = some (L2, (pc2, ls2, st2), M2)) (k : ∀ ad2, ad <+: ad2 → ab_G p l e R s m args below meth c Q mi X A D Lf L2 M2 pc2 ls2 st2 ad2) : ab_G p l e R s m args below meth c Q mi X A D Lf L M pc ls st ad := by
  obtain ⟨e9, h9⟩ := ab_ck_some h; subst e9; clear h; have h := h9; clear h9
  obtain ⟨i, t, e9, h9⟩ := ab_I_some h; subst e9; clear h; have h := h9; clear h9
  obtain ⟨a, t, e9, h9⟩ := ab_R_some h; subst e9; clear h; have h := h9; clear h9
  obtain ⟨hx, hb, hml, hown, hts, hA, hE, hN, hmn, hR1, hR2⟩ := C0
  split at h
  · rename_i v hv
    obtain ⟨rfl, rfl, rfl, rfl, rfl⟩ := ab_go_some h
    intro H locs cells slots tys ws la lv sa hK hP hD hS hW hl hL hs hc1 hc2
    obtain ⟨sa, e9, hs9⟩ := ab_rS_int hs; subst e9; clear hs; have hs := hs9; clear hs9
    obtain ⟨b, sa, hb2, e9, hs9⟩ := ab_rS_ref hs; subst e9; clear hs; have hs := hs9; clear hs9
    have kk := k ad (List.prefix_refl _) H locs cells slots tys ws la lv (.int v :: sa) hK hP hD hS hW hl hL ⟨rfl, hs⟩ hc1 hc2
    rcases ab_ald_some hv with ⟨n, hLa, hin, rfl⟩ | ⟨l, hxa, h1000, hin, rfl⟩
    · obtain ⟨e1, hwa, cA, t0, rfl, ht0⟩ := ab_ref_ad hW hLa hb2
      exact va_iald hx hb hK hP a t0 hwa ht0 hin hd kk
    · rw [ab_ad_out h1000] at hb2
      cases hb2
      exact va_ti hx hb (hE.2.1 _ _ _ hxa) hS hin rfl hd kk
  · cases h
theorem ab_p_baload (C0 : ab_C scr p s m args meth c R mi dp X A) (hd : decode (ab_code mi) pc = .ok (.baload, len)) (h : ab_sI scr mi L M pc ls st .baload len = some (L2, (pc2, ls2, st2), M2)) (k : ∀ ad2, ad <+: ad2 → ab_G p l e R s m args below meth c Q mi X A D Lf L2 M2 pc2 ls2 st2 ad2) : ab_G p l e R s m args below meth c Q mi X A D Lf L M pc ls st ad := by
  obtain ⟨e9, h9⟩ := ab_ck_some h; subst e9; clear h; have h := h9; clear h9
  obtain ⟨i, t, e9, h9⟩ := ab_I_some h; subst e9; clear h; have h := h9; clear h9
  obtain ⟨a, t, e9, h9⟩ := ab_R_some h; subst e9; clear h; have h := h9; clear h9
  obtain ⟨hx, hb, hml, hown, hts, hA, hE, hN, hmn, hR1, hR2⟩ := C0
  split at h
  · rename_i v hv
    obtain ⟨rfl, rfl, rfl, rfl, rfl⟩ := ab_go_some h
    intro H locs cells slots tys ws la lv sa hK hP hD hS hW hl hL hs hc1 hc2
    obtain ⟨sa, e9, hs9⟩ := ab_rS_int hs; subst e9; clear hs; have hs := hs9; clear hs9
    obtain ⟨b, sa, hb2, e9, hs9⟩ := ab_rS_ref hs; subst e9; clear hs; have hs := hs9; clear hs9
    have kk := k ad (List.prefix_refl _) H locs cells slots tys ws la lv (.int v :: sa) hK hP hD hS hW hl hL ⟨rfl, hs⟩ hc1 hc2
    rcases ab_ald_some hv with ⟨n, hLa, hin, rfl⟩ | ⟨l, hxa, h1000, hin, rfl⟩
    · obtain ⟨e1, hwa, cA, t0, rfl, ht0⟩ := ab_ref_ad hW hLa hb2
      exact va_bald hx hb hK hP a t0 hwa ht0 hin hd kk
    · rw [ab_ad_out h1000] at hb2
      cases hb2
      exact va_tb hx hb (hE.2.1 _ _ _ hxa) hS hin rfl hd kk
  · split at h
    · rename_i v hv
      obtain ⟨rfl, rfl, rfl, rfl, rfl⟩ := ab_go_some h
      intro H locs cells slots tys ws la lv sa hK hP hD hS hW hl hL hs hc1 hc2
      obtain ⟨sa, e9, hs9⟩ := ab_rS_int hs; subst e9; clear hs; have hs := hs9; clear hs9
      obtain ⟨b, sa, hb2, e9, hs9⟩ := ab_rS_ref hs; subst e9; clear hs; have hs := hs9; clear hs9
      have kk := k ad (List.prefix_refl _) H locs cells slots tys ws la lv (.int v :: sa) hK hP hD hS hW hl hL ⟨rfl, hs⟩ hc1 hc2
      rcases ab_ald_some hv with ⟨n, hLa, hin, rfl⟩ | ⟨l, hxa, h1000, hin, rfl⟩
      · obtain ⟨e1, hwa, cA, t0, rfl, ht0⟩ := ab_ref_ad hW hLa hb2
        exact va_zald hx hb hK hP a t0 hwa ht0 hin hd kk
      · rw [ab_ad_out h1000] at hb2
        cases hb2
        exact va_tz hx hb (hE.2.1 _ _ _ hxa) hS hin rfl hd kk
    · cases h
theorem ab_aald {H : Heap} {locs : List Loc} {cells slots : Nat} {la : Array Slot} {rest : List Value} {tys : List (ClassId × FieldType)} {ws : va_W} {cc : ByteArray} {a : Nat} (hexec : p.tables.exec = Jvm.exec) (hb : c.code = cc) (hK : va_K D vwCl tys s) (hP : va_P D vwCl ws H) (q0 t0 : Nat) {cA : ClassId} {ty : FieldType} (hty : ty.isReference = true) {n : Nat} {f : Nat → Option Nat} (ha : ws[q0]? = some (a, .inl (cA, n, .inr (.inr (.inr (.inr f)))))) (ht : tys[t0]? = some (cA, ty)) {i : Int32} (hin : vp_in i n) (hdg : decode cc pc = .ok (.aaload, 1))
    (kk : W p l e R s m args below meth c (H) (locs) (cells) (slots) Q (F0 m (pc + 1) la (va_rf (f i.toNatClampNeg) :: rest))) : W p l e R s m args below meth c (H) (locs) (cells) (slots) Q (F0 m pc la (.int i :: .ref a :: rest)) := by
  have hlt : i.toNatClampNeg < n := Nat.not_le.mp fun q => hin (Or.inr q)
  exact W.aald (v := va_rf (f i.toNatClampNeg)) (ty := ty) hexec hb (hP q0 _ ha) ((hK.2 t0 _ ht).1 n (fun j => va_rf (f j))) hty (fun q => by cases q) (by show ¬ (i < 0 ∨ (arrV _ _ _).slots.size ≤ _); rw [arrV_size]; exact hin) (by show (arrV _ _ _).slots[_]? = _; rw [arrV_read _ _ hlt]) rfl rfl hdg kk
end ABH
