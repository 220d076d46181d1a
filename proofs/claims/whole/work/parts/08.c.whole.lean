theorem ab_inst : ∀ ci, ci < 13 → Cond.instantiable (ab_cn ci) (ab_fN ci) ∈ lw_tbl
  | 0, _ => ab_in2 (i := 93) rfl
  | 1, _ => ab_in1 (i := 140) rfl
  | 2, _ => ab_in2 (i := 72) rfl
  | 3, _ => ab_in2 (i := 108) rfl
  | 4, _ => ab_in1 (i := 68) rfl
  | 5, _ => ab_in2 (i := 42) rfl
  | 6, _ => ab_in1 (i := 192) rfl
  | 7, _ => ab_in1 (i := 149) rfl
  | 8, _ => ab_in2 (i := 124) rfl
  | 9, _ => ab_in1 (i := 62) rfl
  | 10, _ => ab_in1 (i := 31) rfl
  | 11, _ => ab_in1 (i := 23) rfl
  | 12, _ => ab_in4 (i := 226) rfl
  | n + 13, h => absurd h (by omega)
/-- THE LAW, over the fixed layout -/
theorem ab_law_ok (scr : List Int32) (h : scr.length ≤ 2560) (M0 : ab_M) (h0 : ∀ q ∈ ab_q0, M0 q.1.1 q.1.2 = q.2) : ∃ M1, ab_res (some scr) 205 13 M0 18 [some (.ref 3000), some (.ref 0), some (.ref 123), some (.int 0)] [] = some (M1, some (.int 1)) := law_run scr h M0 h0
theorem ab_sz0_le : ab_sz ab_L0 ≤ 7302250 := by decide +kernel
theorem whole_start {p : Program} {e : Env} {s : State} {m : MethodId} {below : List Frame} {meth : Method} {c : Code} (l : Launch) (hflags : l.flags = flags0) {b L : Nat} {xs : Nat → Int32} (hL : L ≤ 2560) (C0 : lw_At p s m meth c b L xs) : W p l e room_1 s m #[Value.ref b] below meth c s.heap [] 0 0 (lw_Z below #[Value.ref b] s) (entryFrame m ([Value.ref b] : List Value).toArray 4) := by
  obtain ⟨hx, hb, hr, hml, hown, hts, hX, hbl, hlocks, hgv⟩ := id C0
  obtain ⟨X, hX3, hE⟩ := ab_E_start (scr := (List.range L).map xs) (by simp) (fun j hj => by simp [List.getD_eq_getElem?_getD, hj]) hL C0
  have hN := ab_N_start C0
  have hn : ((List.range L).map xs).length ≤ 2560 := by simpa using hL
  obtain ⟨M0, hM0, hbeg⟩ := ab_begin
  obtain ⟨M1, hres⟩ := ab_law_ok _ hn M0 hM0
  obtain ⟨n, h0⟩ := ab_res_iff.mp hres
  have hrun := hbeg (some ((List.range L).map xs)) (max n 2200) _ (Nat.le_max_right ..) (ab_r0_run _ _ _ _ _ _ _ _ _ _ (ab_r0_le (Nat.le_max_left ..) h0))
  have hk : ∀ ci, ci < 13 → ∃ (cC : ClassId) (iS : Nat → Nat), u_Kn s (ab_cn ci) (ab_T ci) (ab_fN ci) cC iS := fun ci hc => u_known hts (fun w hw => wsL_law_in w ((ab_cls ci hc).2.1 w hw)) (hts _ (ab_inst ci hc))
  obtain ⟨D, hDk⟩ : ∃ D : va_G, ∀ ci, ci < 13 → u_Kn s (ab_cn ci) (ab_T ci) (ab_fN ci) (D.1 ci) (D.2 ci) := by
    classical
    refine ⟨(fun ci => if h : ci < 13 then (hk ci h).choose else (hk 0 (by decide)).choose, fun ci => if h : ci < 13 then (hk ci h).choose_spec.choose else fun _ => 0), fun ci hc => ?_⟩
    simp only [dif_pos hc]
    exact (hk ci hc).choose_spec.choose_spec
  have hK : va_K D vwCl [] s := by
    refine ⟨fun k q hq => ?_, fun k q h => by simp at h⟩
    have hk13 : k < 13 := by
      have := (List.getElem?_eq_some_iff.mp hq).1
      simpa [vwCl] using this
    have e9 := (ab_cls k hk13).1
    rw [hq] at e9
    obtain rfl := Option.some.inj e9
    exact hDk k hk13
  have hP : va_P D vwCl [] s.heap := fun k q h => by simp at h
  have hD : va_D (fun q : Nat => s.heap.size ≤ q) [] := ⟨fun i j p q h => by simp at h, fun k q h => by simp at h⟩
  have hl := lv_entry ([.ref b]) (n := 4) (Nat.le_of_ble_eq_true rfl)
  rw [lg_entry_eq]
  have hC : ab_C (some ((List.range L).map xs)) p s m #[Value.ref b] meth c room_1 205 13 X (fun q => s.heap.size ≤ q) :=
    ⟨hx, hb, hml, hown, fun w hw => hts w (wsL_law_in w hw), fun q hq => hq, hE, hN, fun h9 => absurd h9 (by decide), by decide, by decide⟩
  refine ab_sound _ l X D _ 205 13 _ _ _ _ _ _ _ _ hrun (by decide) p e room_1 s m #[Value.ref b] below meth c _ (fun q => s.heap.size ≤ q) [] hC (fun ad2 pc2 ls2 st2 _ hs2 => ?_) s.heap [] 0 0 [] [] _ _ [] hK hP hD va_S.rf ⟨rfl, ⟨rfl, by decide⟩, fun k d h => by simp at h⟩ hl (ab_en_rL (sa := [.ref b]) 4 ⟨⟨b, by rw [← hX3]; rfl, rfl⟩, trivial⟩) trivial (by decide +kernel) (by show 0 + ab_sz ab_L0 ≤ 7302250 + 0; have := ab_sz0_le; omega)
  intro H locs cells slots tys ws la lv sa hK hP hD hS hW hl hL hs hc1 hc2
  rcases ab_step_ret hs2 with ⟨hd, x, ty, rfl, hxr, -, -⟩ | ⟨hd, x, rfl, hxr, -⟩ | ⟨hd, rfl, hxr, -⟩
  · cases hxr
    obtain ⟨sa, e9, hs9⟩ := ab_rS_int hs
    subst e9
    have e0 := ab_rS_nil hs9
    subst e0
    have h1 : room_1.cells = 600000 := rfl
    have h2 : room_1.slots = 7302250 := rfl
    exact va_forget hS.2.2 (W.widen (by omega) (by omega) (lw_ret hx hb hr hlocks hd))
  · cases hxr
  · cases hxr
