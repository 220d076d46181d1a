theorem ab_ao {s : State} {ci : Nat} (hN : ab_N s) (h : ci = 3 ∨ ci = 6 ∨ ci = 7 ∨ ci = 8) : va_AO (ab_cn ci) s := by
  obtain ⟨-, -, h3, h6, h7, h8, -⟩ := hN
  rcases h with rfl | rfl | rfl | rfl
  · exact h3
  · exact h6
  · exact h7
  · exact h8
section ABG
variable {p : Program} {l : Launch} {e : Env} {R : Room} {s : State} {m : MethodId} {args : Array Value} {below : List Frame} {meth : Method} {c : Code} {Q : State → Prop} {scr : Option (List Int32)} {mi dp : Nat} {X : Nat → Nat} {A : Nat → Prop} {D : va_G} {Lf L L2 : List ab_Ds} {M M2 : ab_M} {pc pc2 len : Nat} {ls ls2 : ab_Lo} {st st2 : List Value} {ad : List Nat}
theorem ab_new_ref (hlen : ad.length = L.length) (hlt : L.length < 1000) (q : Nat) (as : List Nat) : ab_rv X (ad ++ q :: as) (.ref L.length) (.ref q) := by
  refine ⟨q, ?_, rfl⟩
  unfold ab_ad
  rw [if_pos hlt, ← hlen, List.getElem?_append_right (Nat.le_refl _)]
  simp
theorem ab_p_newarray (C0 : ab_C scr p s m args meth c R mi dp X A) (hLf : L2.length ≤ Lf.length ∧ ab_sz L2 ≤ ab_sz Lf) {ty : ArrayType} (hd : decode (ab_code mi) pc = .ok (.newarray ty, len)) (h : ab_sI scr mi L M pc ls st (.newarray ty) len = some (L2, (pc2, ls2, st2), M2)) (k : ∀ ad2, ad <+: ad2 → ab_G p l e R s m args below meth c Q mi X A D Lf L2 M2 pc2 ls2 st2 ad2) : ab_G p l e R s m args below meth c Q mi X A D Lf L M pc ls st ad := by
  obtain ⟨e9, h9⟩ := ab_ck_some h; subst e9; clear h; have h := h9; clear h9
  obtain ⟨n, t, e9, h9⟩ := ab_I_some h; subst e9; clear h; have h := h9; clear h9
  obtain ⟨hx, hb, hml, hown, hts, hA, hE, hN, hmn, hR1, hR2⟩ := C0
  obtain ⟨⟨h0, h1000, hlt, hty⟩, h⟩ := ab_if_some h
  obtain ⟨rfl, rfl, rfl, rfl, rfl⟩ := ab_go_some h
  obtain ⟨hn, hcl⟩ := ab_clamp h0
  rw [List.length_append, List.length_singleton, ab_sz_app, show ab_sz [(.inr (newarray.typeOf ty, n.toNatClampNeg, none) : ab_Ds)] = n.toNatClampNeg by simp [ab_sz, ab_sz1]] at hLf
  have hw : Cond.arrayClass (newarray.typeOf ty) ∈ wsL_law := by
    rcases hty with rfl | rfl | rfl
    · exact ab_more.2.2.2.2.2.1
    · exact ab_more.2.2.2.2.2.2.1
    · exact ab_more.2.2.2.2.2.2.2.1
  have hdv : defaultValue (newarray.typeOf ty) = .int 0 := by rcases hty with rfl | rfl | rfl <;> rfl
  have hcb : componentBytes (newarray.typeOf ty) ≤ 8 := by rcases hty with rfl | rfl | rfl <;> decide
  intro H locs cells slots tys ws la lv sa hK hP hD hS hW hl hL hs hc1 hc2
  obtain ⟨sa, e9, hs9⟩ := ab_rS_int hs; subst e9; clear hs; have hs := hs9; clear hs9
  refine va_newa (atype := ty) hx hb (hts _ hw) rfl hK hP hD hS hA (N' := n.toNatClampNeg) (a0 := (n.toNatClampNeg, .inl (fun _ => 0))) (fun cA => by rw [vp_cell_i, hdv]) hn rfl (by
    have : n.toNatClampNeg * componentBytes (newarray.typeOf ty) ≤ 1000 * 8 := Nat.mul_le_mul (by omega) hcb
    omega) (by omega) (by omega) hd (fun q cA H1 hK hP hD hS => ?_)
  have hW2 := ab_Wd_app (M' := ab_zr M L.length 1) hW (List.prefix_append tys [(cA, newarray.typeOf ty)]) [(q, .inl (cA, n.toNatClampNeg, .inl (fun _ => 0)))] [.inr (newarray.typeOf ty, n.toNatClampNeg, none)] rfl (by simp; omega) (fun j hj => ab_zr_ne M _ _ _ hj) (by
    intro i d hi
    match i, hi with
    | 0, hi =>
      cases hi
      refine ⟨q, _, rfl, cA, tys.length, ?_, by simp⟩
      rw [ab_zr_at M _ _ _ (by omega)]
    | i + 1, hi => cases hi)
  exact k (ad ++ [q]) (List.prefix_append ad [q]) H1 locs (cells + 1) (slots + n.toNatClampNeg) _ _ la lv (.ref q :: sa) hK hP hD hS hW2 hl (ab_rL_mono (List.prefix_append ad [q]) hL) ⟨ab_new_ref hW.1 hlt q [], ab_rS_mono (List.prefix_append ad [q]) hs⟩ (by rw [List.length_append, List.length_singleton]; omega) (by rw [ab_sz_app, show ab_sz [(.inr (newarray.typeOf ty, n.toNatClampNeg, none) : ab_Ds)] = n.toNatClampNeg by simp [ab_sz, ab_sz1]]; omega)
theorem ab_p_anewarray (C0 : ab_C scr p s m args meth c R mi dp X A) (hLf : L2.length ≤ Lf.length ∧ ab_sz L2 ≤ ab_sz Lf) {x : Nat} (hd : decode (ab_code mi) pc = .ok (.anewarray x, len)) (h : ab_sI scr mi L M pc ls st (.anewarray x) len = some (L2, (pc2, ls2, st2), M2)) (k : ∀ ad2, ad <+: ad2 → ab_G p l e R s m args below meth c Q mi X A D Lf L2 M2 pc2 ls2 st2 ad2) : ab_G p l e R s m args below meth c Q mi X A D Lf L M pc ls st ad := by
  obtain ⟨e9, h9⟩ := ab_ck_some h; subst e9; clear h; have h := h9; clear h9
  obtain ⟨n, t, e9, h9⟩ := ab_I_some h; subst e9; clear h; have h := h9; clear h9
  obtain ⟨hx, hb, hml, hown, hts, hA, hE, hN, hmn, hR1, hR2⟩ := C0
  cases hlk : ab_lk ab_nwt (ab_ky mi) x with
  | none =>
    rw [hlk] at h
    cases h
  | some r =>
    obtain ⟨⟨ci, N⟩, z⟩ := r
    rw [hlk] at h
    obtain ⟨⟨h0, h1000, hlt, hci⟩, h⟩ := ab_if_some h
    obtain ⟨rfl, rfl, rfl, rfl, rfl⟩ := ab_go_some h
    obtain ⟨hn, hcl⟩ := ab_clamp h0
    obtain ⟨w1, -, -, -, -⟩ := ab_nw_ok _ (ab_lk_some hlk)
    simp only at w1
    have w1 := hts _ (ab_wAt_in w1)
    rw [List.length_append, List.length_singleton, ab_sz_app, show ab_sz [(.inr (.object (ab_cn ci), n.toNatClampNeg, some (List.replicate n.toNatClampNeg none)) : ab_Ds)] = n.toNatClampNeg by simp [ab_sz, ab_sz1]] at hLf
    intro H locs cells slots tys ws la lv sa hK hP hD hS hW hl hL hs hc1 hc2
    obtain ⟨sa, e9, hs9⟩ := ab_rS_int hs; subst e9; clear hs; have hs := hs9; clear hs9
    refine va_newq hx hb hown w1 (ab_ao hN hci) hK hP hD hS hA (N' := n.toNatClampNeg) hn rfl (by omega) (by omega) (by omega) hd (fun q cA H1 hK hP hD hS => ?_)
    have hW2 := ab_Wd_app (M' := ab_zr M L.length 1) hW (List.prefix_append tys [(cA, .object (ab_cn ci))]) [(q, .inl (cA, n.toNatClampNeg, .inr (.inr (.inr (.inr (fun _ => none))))))] [.inr (.object (ab_cn ci), n.toNatClampNeg, some (List.replicate n.toNatClampNeg none))] rfl (by simp; omega) (fun j hj => ab_zr_ne M _ _ _ hj) (by
      intro i d hi
      match i, hi with
      | 0, hi =>
        cases hi
        refine ⟨q, _, rfl, cA, tys.length, _, rfl, by simp, fun j q2 hj => ?_⟩
        have := List.mem_of_getElem? hj
        rw [List.mem_replicate] at this
        cases this.2
      | i + 1, hi => cases hi)
    exact k (ad ++ [q]) (List.prefix_append ad [q]) H1 locs (cells + 1) (slots + n.toNatClampNeg) _ _ la lv (.ref q :: sa) hK hP hD hS hW2 hl (ab_rL_mono (List.prefix_append ad [q]) hL) ⟨ab_new_ref hW.1 hlt q [], ab_rS_mono (List.prefix_append ad [q]) hs⟩ (by rw [List.length_append, List.length_singleton]; omega) (by rw [ab_sz_app, show ab_sz [(.inr (.object (ab_cn ci), n.toNatClampNeg, some (List.replicate n.toNatClampNeg none)) : ab_Ds)] = n.toNatClampNeg by simp [ab_sz, ab_sz1]]; omega)
theorem ab_p_multianewarray (C0 : ab_C scr p s m args meth c R mi dp X A) (hLf : L2.length ≤ Lf.length ∧ ab_sz L2 ≤ ab_sz Lf) {x dm : Nat} (hd : decode (ab_code mi) pc = .ok (.multianewarray x dm, len)) (h : ab_sI scr mi L M pc ls st (.multianewarray x dm) len = some (L2, (pc2, ls2, st2), M2)) (k : ∀ ad2, ad <+: ad2 → ab_G p l e R s m args below meth c Q mi X A D Lf L2 M2 pc2 ls2 st2 ad2) : ab_G p l e R s m args below meth c Q mi X A D Lf L M pc ls st ad := by
  obtain ⟨e9, h9⟩ := ab_ck_some h; subst e9; clear h; have h := h9; clear h9
  obtain ⟨n1, t, e9, h9⟩ := ab_I_some h; subst e9; clear h; have h := h9; clear h9
  obtain ⟨n0, t, e9, h9⟩ := ab_I_some h; subst e9; clear h; have h := h9; clear h9
  obtain ⟨hx, hb, hml, hown, hts, hA, hE, hN, hmn, hR1, hR2⟩ := C0
  obtain ⟨⟨hky, g1, g2, g3, g4, hlt⟩, h9⟩ := ab_if_some h
  clear h
  have h := h9
  clear h9
  subst g1; subst g2; subst g3; subst g4
  obtain ⟨rfl, rfl, rfl, rfl, rfl⟩ := ab_go_some h
  have hown4 : s.vm.findClass RX4 = some m.cls := by rw [hky] at hown; exact hown
  obtain ⟨-, -, -, -, -, -, hAOA, cy, hcy⟩ := hN
  have w1 := hts _ ab_more.2.2.2.2.2.2.2.2
  have w2 := hts _ ab_more.2.2.2.2.2.1
  have hdl : ((.inr (.array .int, 8, some ((List.range 8).map fun i => some (L.length + 1 + i))) : ab_Ds) :: List.replicate 8 (.inr (.int, 8, none))).length = 9 := by simp
  have hds : ab_sz ((.inr (.array .int, 8, some ((List.range 8).map fun i => some (L.length + 1 + i))) : ab_Ds) :: List.replicate 8 (.inr (.int, 8, none))) = 72 := by simp [ab_sz, ab_sz1]
  rw [List.length_append, hdl, ab_sz_app, hds] at hLf
  intro H locs cells slots tys ws la lv sa hK hP hD hS hW hl hL hs hc1 hc2
  obtain ⟨sa, e9, hs9⟩ := ab_rS_int hs; subst e9; clear hs; have hs := hs9; clear hs9
  obtain ⟨sa, e9, hs9⟩ := ab_rS_int hs; subst e9; clear hs; have hs := hs9; clear hs9
  have hcls : ∃ (k9 : Class) (comp : ClassId), s.vm.classes[cy]? = some k9 ∧ k9.kind = .array comp .int ∧ s.vm.findClass "[I" = some cy := by
    obtain ⟨c9, k9, comp, h1, h2, h3⟩ := Cond.arrayClass_spec w2
    have e : c9 = cy := Option.some.inj (h1.symm.trans hcy)
    subst e
    exact ⟨k9, comp, h2, h3, h1⟩
  obtain ⟨k9, comp, hk91, hk92, hk93⟩ := hcls
  have hK0 : va_K D vwCl [(cy, .int)] s := by
    refine ⟨hK.1, fun kq q hq => ?_⟩
    match kq, hq with
    | 0, hq =>
      cases hq
      exact ⟨fun N z => ⟨(fun q hq => by cases hq), k9, hk91, comp, hk92⟩, hk93⟩
    | kq + 1, hq => cases hq
  have hP0 : va_P D vwCl (ws ++ va_pl [] (fun _ => (.inl (cy, 0, .inl (fun _ => 0)) : va_E))) H := by
    simpa [va_pl] using hP
  have hD0 : va_D A (ws ++ va_pl [] (fun _ => (.inl (cy, 0, .inl (fun _ => 0)) : va_E))) := by
    simpa [va_pl] using hD
  refine va_mna (L := []) (f := fun _ => (.inl (cy, 0, .inl (fun _ => 0)) : va_E)) (N' := 8) (K' := 8) (z := (8, .inl (fun _ => 0))) hx hb hown4 w1 hAOA w2 hcy hK hP0 hD0 hS hA (by decide) (by decide) (by decide) (by decide) (by decide) (by decide) (by decide) rfl rfl (by omega) (by omega) (fun c => by
    rw [vp_cell_i]
    exact arrV_new c 8 (.int 0)) hd (fun q r cA H1 hr hrL hK hP hD hS => ?_)
  have hrow : ∀ i, i < 8 → vr_up (fun _ => (.inl (cy, 0, .inl (fun _ => 0)) : va_E)) ((List.range 8).map r) (.inl (cy, 8, .inl (fun _ => 0))) (r i) = .inl (cy, 8, .inl (fun _ => 0)) := fun i hi => vr_up_in (List.mem_map.mpr ⟨i, List.mem_range.mpr hi, rfl⟩)
  have hwn : (ws ++ [(q, (.inl (cA, 8, .inr (.inr (.inr (.inr (fun i => if i < 8 then some (r i) else none))))) : va_E))]) ++ va_pl ([] ++ (List.range 8).map r) (vr_up (fun _ => (.inl (cy, 0, .inl (fun _ => 0)) : va_E)) ((List.range 8).map r) (.inl (cy, 8, .inl (fun _ => 0)))) = ws ++ ((q, .inl (cA, 8, .inr (.inr (.inr (.inr (fun i => if i < 8 then some (r i) else none)))))) :: (List.range 8).map (fun i => (r i, .inl (cy, 8, .inl (fun _ => 0))))) := by
    rw [List.append_assoc, List.nil_append]
    congr 1
    rw [List.singleton_append]
    congr 1
    unfold va_pl
    rw [List.map_map]
    apply List.map_congr_left
    intro i hi
    show (r i, _) = (r i, _)
    rw [hrow i (List.mem_range.mp hi)]
  rw [hwn] at hP hD
  have hK2 := hK.app hK0
  have hmapad : ((q, (.inl (cA, 8, .inr (.inr (.inr (.inr (fun i => if i < 8 then some (r i) else none))))) : va_E)) :: (List.range 8).map (fun i => (r i, (.inl (cy, 8, .inl (fun _ => 0)) : va_E)))).map (fun q => q.1) = q :: (List.range 8).map r := by
    rw [List.map_cons, List.map_map]
    rfl
  have hadr : ∀ i, i < 8 → (ad ++ q :: (List.range 8).map r)[L.length + 1 + i]? = some (r i) := fun i hi => by
    rw [List.getElem?_append_right (by rw [hW.1]; omega), hW.1, show L.length + 1 + i - L.length = i + 1 by omega, List.getElem?_cons_succ, List.getElem?_map, List.getElem?_range hi]
    rfl
  have hW2 := ab_Wd_app (M' := ab_zr M L.length 9) (tys' := (tys ++ [(cA, .array .int)]) ++ [(cy, .int)]) hW (by rw [List.append_assoc]; exact List.prefix_append tys _) ((q, .inl (cA, 8, .inr (.inr (.inr (.inr (fun i => if i < 8 then some (r i) else none)))))) :: (List.range 8).map (fun i => (r i, .inl (cy, 8, .inl (fun _ => 0))))) (.inr (.array .int, 8, some ((List.range 8).map fun i => some (L.length + 1 + i))) :: List.replicate 8 (.inr (.int, 8, none))) (by simp) (by rw [hdl]; omega) (fun j hj => ab_zr_ne M _ _ _ hj) (by
    intro i d hi
    rw [hmapad]
    match i, hi with
    | 0, hi =>
      cases hi
      refine ⟨q, _, rfl, cA, tys.length, _, rfl, by simp, fun j q2 hj => ?_⟩
      have hj8 : j < 8 := by
        have := (List.getElem?_eq_some_iff.mp hj).1
        simpa using this
      rw [List.getElem?_map, List.getElem?_range hj8] at hj
      cases hj
      exact ⟨r j, hadr j hj8, if_pos hj8⟩
    | i + 1, hi =>
      rw [List.getElem?_cons_succ] at hi
      have hm := List.mem_of_getElem? hi
      have hi8 : i < 8 := by
        have := (List.getElem?_eq_some_iff.mp hi).1
        simpa using this
      rw [List.mem_replicate] at hm
      rw [hm.2]
      refine ⟨r i, .inl (cy, 8, .inl (fun _ => 0)), ?_, cy, tys.length + 1, ?_, by simp⟩
      · rw [List.getElem?_cons_succ, List.getElem?_map, List.getElem?_range hi8]
        rfl
      · rw [ab_zr_at M _ _ _ (by omega)])
  rw [hmapad] at hW2
  exact k _ (List.prefix_append ad _) H1 locs (cells + 1 + 8) (slots + 8 + 8 * 8) _ _ la lv (.ref q :: sa) hK2 hP hD hS hW2 hl (ab_rL_mono (List.prefix_append ad _) hL) ⟨ab_new_ref hW.1 (by omega) q _, ab_rS_mono (List.prefix_append ad _) hs⟩ (by rw [List.length_append, hdl]; omega) (by rw [ab_sz_app, hds]; omega)
theorem ab_p_objinit (C0 : ab_C scr p s m args meth c R mi dp X A) (hdp : 1 ≤ dp) {n : Nat} (hd : decode (ab_code mi) pc = .ok (.invokespecial n, len)) (hno : ab_lk ab_cat (ab_ky mi) n = none) (h : ab_sI scr mi L M pc ls st (.invokespecial n) len = some (L2, (pc2, ls2, st2), M2)) (k : ∀ ad2, ad <+: ad2 → ab_G p l e R s m args below meth c Q mi X A D Lf L2 M2 pc2 ls2 st2 ad2) : ab_G p l e R s m args below meth c Q mi X A D Lf L M pc ls st ad := by
  obtain ⟨e9, h9⟩ := ab_ck_some h; subst e9; clear h; have h := h9; clear h9
  obtain ⟨hx, hb, hml, hown, hts, hA, hE, hN, hmn, hR1, hR2⟩ := C0
  rw [hno] at h
  cases hlk : ab_lk ab_obt (ab_ky mi) n with
  | none =>
    rw [hlk] at h
    cases h
  | some r =>
    rw [hlk] at h
    obtain ⟨a, t, e9, h9⟩ := ab_R_some h; subst e9; clear h; have h := h9; clear h9
    obtain ⟨hr, h9⟩ := ab_if_some h
    clear h
    have h := h9
    subst hr
    obtain ⟨rfl, rfl, rfl, rfl, rfl⟩ := ab_go_some h
    have w1 := hts _ (ab_wAt_in (ab_ob_ok _ (ab_lk_some hlk)))
    refine ab_pS ⟨rfl, rfl, rfl⟩ (fun H locs cells slots la lv sa hl hL hs hS => ?_) k
    obtain ⟨b, sa, hb2, e9, hs9⟩ := ab_rS_ref hs; subst e9; clear hs; have hs := hs9; clear hs9
    have e0 := ab_rS_nil hs
    subst e0
    exact ⟨[], trivial, fun g => W.objInit hx hb hown w1 (hts _ ab_more.1) (hts _ ab_more.2.1) rfl (by rw [hml]; exact hl.1) rfl hd (by omega) (by
      show 2 * (F0 m pc la [.ref b]).monitorRoom + 0 + 12 ≤ R.locals
      have : (F0 m pc la [.ref b]).monitorRoom = 0 := rfl
      omega) g⟩
theorem ab_wd_of {X : Nat → Nat} {ad : List Nat} {st sa : List Value} (h : ab_wd st = true) (hs : ab_rS X ad st sa) : (sa.map fun v => v.category).sum ≤ 8 := by
  rw [ab_rS_cats hs]
  exact of_decide_eq_true h
theorem ab_p_prim (C0 : ab_C scr p s m args meth c R mi dp X A) (hdp : 1 ≤ dp) {n : Nat} (hd : decode (ab_code mi) pc = .ok (.invokestatic n, len)) (hno : ab_lk ab_cat (ab_ky mi) n = none) (hLf : L.length ≤ Lf.length ∧ ab_sz L ≤ ab_sz Lf) (h : ab_sI scr mi L M pc ls st (.invokestatic n) len = some (L2, (pc2, ls2, st2), M2)) (k : ∀ ad2, ad <+: ad2 → ab_G p l e R s m args below meth c Q mi X A D Lf L2 M2 pc2 ls2 st2 ad2) : ab_G p l e R s m args below meth c Q mi X A D Lf L M pc ls st ad := by
  obtain ⟨e9, h9⟩ := ab_ck_some h; subst e9; clear h; have h := h9; clear h9
  obtain ⟨hx, hb, hml, hown, hts, hA, hE, hN, hmn, hR1, hR2⟩ := C0
  rw [hno] at h
  cases hlk : ab_lk ab_mat (ab_ky mi) n with
  | some r =>
    obtain ⟨q, z⟩ := r
    obtain ⟨w1, hq3⟩ := ab_ma_ok _ (ab_lk_some hlk)
    simp only at w1 hq3
    have w1 := hts _ (ab_wAt_in w1)
    obtain ⟨m1, m2, m3, m4, m5, m6, m7⟩ := ab_maW
    rw [hlk] at h
    match q, hq3 with
    | 0, _ =>
      have h : (ab_I st fun y r => ab_I r fun x r => if ab_wd r = true then ab_go L M (pc + 3) ls (.int (if (0 : Nat) = 0 then (if x < y then y else x) else (if y < x then y else x)) :: r) else none) = some (L2, (pc2, ls2, st2), M2) := h
      obtain ⟨y, t, e9, h9⟩ := ab_I_some h; subst e9; clear h; have h := h9; clear h9
      obtain ⟨x, t, e9, h9⟩ := ab_I_some h; subst e9; clear h; have h := h9; clear h9
      obtain ⟨hwd, h⟩ := ab_if_some h
      rw [if_pos rfl] at h
      obtain ⟨rfl, rfl, rfl, rfl, rfl⟩ := ab_go_some h
      intro H locs cells slots tys ws la lv sa hK hP hD hS hW hl hL hs hc1 hc2
      obtain ⟨sa, e9, hs9⟩ := ab_rS_int hs; subst e9; clear hs; have hs := hs9; clear hs9
      obtain ⟨sa, e9, hs9⟩ := ab_rS_int hs; subst e9; clear hs; have hs := hs9; clear hs9
      have h8 := ab_wd_of hwd hs
      exact va_mmax hx hb (by rw [hml]; exact hl.1.symm) hown w1 (hts _ m1) (hts _ m7) (hts _ m4) (by omega) (by omega) (by omega) (by omega) hd (k ad (List.prefix_refl _) H locs cells slots tys ws la lv _ hK hP hD hS hW hl hL (ab_rS_i hs) hc1 hc2)
    | 1, _ =>
      have h : (ab_I st fun y r => ab_I r fun x r => if ab_wd r = true then ab_go L M (pc + 3) ls (.int (if (1 : Nat) = 0 then (if x < y then y else x) else (if y < x then y else x)) :: r) else none) = some (L2, (pc2, ls2, st2), M2) := h
      obtain ⟨y, t, e9, h9⟩ := ab_I_some h; subst e9; clear h; have h := h9; clear h9
      obtain ⟨x, t, e9, h9⟩ := ab_I_some h; subst e9; clear h; have h := h9; clear h9
      obtain ⟨hwd, h⟩ := ab_if_some h
      rw [if_neg (by decide)] at h
      obtain ⟨rfl, rfl, rfl, rfl, rfl⟩ := ab_go_some h
      intro H locs cells slots tys ws la lv sa hK hP hD hS hW hl hL hs hc1 hc2
      obtain ⟨sa, e9, hs9⟩ := ab_rS_int hs; subst e9; clear hs; have hs := hs9; clear hs9
      obtain ⟨sa, e9, hs9⟩ := ab_rS_int hs; subst e9; clear hs; have hs := hs9; clear hs9
      have h8 := ab_wd_of hwd hs
      exact va_mmin hx hb (by rw [hml]; exact hl.1.symm) hown w1 (hts _ m2) (hts _ m7) (hts _ m5) (by omega) (by omega) (by omega) (by omega) hd (k ad (List.prefix_refl _) H locs cells slots tys ws la lv _ hK hP hD hS hW hl hL (ab_rS_i hs) hc1 hc2)
    | 2, _ =>
      have h : (ab_I st fun x r => if ab_wd r = true then ab_go L M (pc + 3) ls (.int (if 0 ≤ x then x else 0 - x) :: r) else none) = some (L2, (pc2, ls2, st2), M2) := h
      obtain ⟨x, t, e9, h9⟩ := ab_I_some h; subst e9; clear h; have h := h9; clear h9
      obtain ⟨hwd, h⟩ := ab_if_some h
      obtain ⟨rfl, rfl, rfl, rfl, rfl⟩ := ab_go_some h
      intro H locs cells slots tys ws la lv sa hK hP hD hS hW hl hL hs hc1 hc2
      obtain ⟨sa, e9, hs9⟩ := ab_rS_int hs; subst e9; clear hs; have hs := hs9; clear hs9
      have h8 := ab_wd_of hwd hs
      exact va_mabs hx hb (by rw [hml]; exact hl.1.symm) hown w1 (hts _ m3) (hts _ m7) (hts _ m6) (by omega) (by omega) (by omega) (by omega) hd (k ad (List.prefix_refl _) H locs cells slots tys ws la lv _ hK hP hD hS hW hl hL (ab_rS_i hs) hc1 hc2)
  | none =>
    rw [hlk] at h
    cases hac : ab_lk ab_act (ab_ky mi) n with
    | none =>
      rw [hac] at h
      cases h
    | some r =>
      rw [hac] at h
      have w1 := hts _ (ab_wAt_in (ab_ac_ok _ (ab_lk_some hac)))
      match st, h with
      | .int n9 :: .int dp9 :: .ref a :: .int sp :: .ref a0 :: t, h =>
        have h : (match ab_ar L a0 .int, ab_ar L a .int with
          | some n0, some n1 => if 0 ≤ sp.toInt ∧ 0 ≤ dp9.toInt ∧ 0 ≤ n9.toInt ∧ sp.toNatClampNeg + n9.toNatClampNeg ≤ n0 ∧ dp9.toNatClampNeg + n9.toNatClampNeg ≤ n1 ∧ ab_wd t = true then
              ab_go L (ab_cpy M a0 a sp.toNatClampNeg dp9.toNatClampNeg n9.toNatClampNeg) (pc + 3) ls t else none
          | _, _ => none) = some (L2, (pc2, ls2, st2), M2) := h
        cases h0 : ab_ar L a0 .int with
        | none =>
          rw [h0] at h
          cases h
        | some n0 =>
          cases h1 : ab_ar L a .int with
          | none =>
            rw [h0, h1] at h
            cases h
          | some n1 =>
            rw [h0, h1] at h
            obtain ⟨⟨c1, c2, c3, c4, c5, hwd⟩, h⟩ := ab_if_some h
            obtain ⟨rfl, rfl, rfl, rfl, rfl⟩ := ab_go_some h
            have hL0 := ab_ar_some h0
            have hL1 := ab_ar_some h1
            intro H locs cells slots tys ws la lv sa hK hP hD hS hW hl hL hs hc1 hc2
            obtain ⟨sa, e9, hs9⟩ := ab_rS_int hs; subst e9; clear hs; have hs := hs9; clear hs9
            obtain ⟨sa, e9, hs9⟩ := ab_rS_int hs; subst e9; clear hs; have hs := hs9; clear hs9
            obtain ⟨b, sa, hb2, e9, hs9⟩ := ab_rS_ref hs; subst e9; clear hs; have hs := hs9; clear hs9
            obtain ⟨sa, e9, hs9⟩ := ab_rS_int hs; subst e9; clear hs; have hs := hs9; clear hs9
            obtain ⟨b0, sa, hb3, e9, hs9⟩ := ab_rS_ref hs; subst e9; clear hs; have hs := hs9; clear hs9
            obtain ⟨e1, hwa, cA, t0, rfl, ht0⟩ := ab_ref_ad hW hL1 hb2
            obtain ⟨e2, hwb, cB, t1, rfl, ht1⟩ := ab_ref_ad hW hL0 hb3
            have h8 := ab_wd_of hwd hs
            obtain ⟨-, -, m3, m4, m5, -⟩ := ab_more
            refine va_copyi hx hb (by rw [hml]; exact hl.1.symm) hown w1 (hts _ m3) (hts _ m4) (hts _ m5) hK hP hD hS a0 a t1 t0 hwb hwa ht1 ht0 rfl (ab_clamp c1).1 (ab_clamp c2).1 (ab_clamp c3).1 c4 c5 (fun _ _ => rfl) (by omega) (by
              have : nativeFrameWords "java/lang/System" "arraycopy" 5 ≤ 40 := by decide +kernel
              omega) hd (fun H1 locs1 hP hD hS => ?_)
            have hW2 := ab_Wd_set (M' := ab_cpy M a0 a sp.toNatClampNeg dp9.toNatClampNeg n9.toNatClampNeg) hW hwa (.inl (cA, n1, .inl (va_cpy (M a0) (M a) sp.toNatClampNeg dp9.toNatClampNeg n9.toNatClampNeg))) (.inr (.int, n1, none)) ⟨cA, t0, by
              congr
              funext j
              simp [ab_cpy], ht0⟩ (fun j hj => by
              funext i
              simp [ab_cpy, hj])
            rw [ab_set_self hL1] at hW2
            exact k ad (List.prefix_refl _) H1 locs1 cells slots tys _ la lv sa hK hP hD hS hW2 hl hL hs hc1 hc2
end ABG
