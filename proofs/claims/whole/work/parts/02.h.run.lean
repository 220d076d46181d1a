/-! Calls and runs -/
theorem ab_lay_len {X : Nat → Nat} {ad : List Nat} : ∀ {vs sa : List Value}, ab_rS X ad vs sa → (lg_sl sa).length = (ab_lay vs).length
  | [], [], _ => rfl
  | v :: vs, w :: ws, h => by
    have h1 := ab_lay_len h.2
    have hc := ab_rv_cat h.1
    unfold lg_sl at h1 ⊢
    rw [List.flatMap_cons, List.length_append, h1]
    rw [show ab_lay (v :: vs) = if v.category = 2 then some v :: none :: ab_lay vs else some v :: ab_lay vs from rfl]
    by_cases q : v.category = 2
    · rw [if_pos (hc.trans q), if_pos q]
      simp
      omega
    · rw [if_neg (fun z => q (hc.symm.trans z)), if_neg q]
      simp
      omega
  | [], _ :: _, h => absurd h (by simp [ab_rS])
  | _ :: _, [], h => absurd h (by simp [ab_rS])
theorem ab_lay_at {X : Nat → Nat} {ad : List Nat} : ∀ {vs sa : List Value} (off i : Nat) (v : Value), ab_rS X ad vs sa → (ab_lay vs)[i]? = some (some v) → ∃ w, (off + i, w) ∈ lv_args off sa ∧ ab_rv X ad v w
  | [], [], off, i, v, _, hi => by simp [ab_lay] at hi
  | u :: vs, w :: ws, off, i, v, h, hi => by
    have hc := ab_rv_cat h.1
    unfold ab_lay at hi
    unfold lv_args
    by_cases q : u.category = 2
    · rw [if_pos q] at hi
      rw [if_pos (hc.trans q)]
      match i, hi with
      | 0, hi =>
        cases hi
        exact ⟨w, List.mem_cons_self, h.1⟩
      | 1, hi => cases hi
      | i + 2, hi =>
        rw [List.getElem?_cons_succ, List.getElem?_cons_succ] at hi
        obtain ⟨w2, h1, h2⟩ := ab_lay_at (off + 2) i v h.2 hi
        exact ⟨w2, List.mem_cons_of_mem _ (by rw [show off + (i + 2) = off + 2 + i by omega]; exact h1), h2⟩
    · rw [if_neg q] at hi
      rw [if_neg (fun z => q (hc.symm.trans z))]
      match i, hi with
      | 0, hi =>
        cases hi
        exact ⟨w, List.mem_cons_self, h.1⟩
      | i + 1, hi =>
        rw [List.getElem?_cons_succ] at hi
        obtain ⟨w2, h1, h2⟩ := ab_lay_at (off + 1) i v h.2 hi
        exact ⟨w2, List.mem_cons_of_mem _ (by rw [show off + (i + 1) = off + 1 + i by omega]; exact h1), h2⟩
  | [], _ :: _, _, _, _, h, _ => absurd h (by simp [ab_rS])
  | _ :: _, [], _, _, _, h, _ => absurd h (by simp [ab_rS])
theorem ab_en_rL {X : Nat → Nat} {ad : List Nat} {vs sa : List Value} (nL : Nat) (h : ab_rS X ad vs sa) : ab_rL X ad (ab_en nL vs) (lv_args 0 sa) := by
  intro i v hi
  unfold ab_en at hi
  by_cases hl : i < (ab_lay vs).length
  · rw [List.getElem?_append_left hl] at hi
    obtain ⟨w, h1, h2⟩ := ab_lay_at 0 i v h hi
    exact ⟨w, by rw [Nat.zero_add] at h1; exact h1, h2⟩
  · rw [List.getElem?_append_right (by omega)] at hi
    have := List.mem_of_getElem? hi
    rw [List.mem_replicate] at this
    cases this.2
/-- the room of a call that may go dp deep and makes mc cells of ms slots -/
def ab_rm (dp mc ms : Nat) : Room := { frames := dp, cells := mc, slots := ms, locals := 64 * dp }
def ab_A1 (ad : List Nat) (sz : Nat) : Nat → Prop := fun q => q ∈ ad ∨ sz ≤ q
def ab_Pc (scr : Option (List Int32)) (X : Nat → Nat) (D : va_G) (ad : List Nat) (sz : Nat) (L : List ab_Ds) (M : ab_M) (sa : List Value) : Array Value → State → Prop :=
  va_Pc sa (fun U => U.heap.size = sz ∧ ab_E scr X (ab_A1 ad sz) U U.heap ∧ ab_N U ∧ ∃ (ws : va_W) (tys : List (ClassId × FieldType)), va_P D vwCl ws U.heap ∧ va_K D vwCl tys U ∧ va_D (fun _ => True) ws ∧ ab_Wd ad tys L M ws)
def ab_B (D : va_G) (ad : List Nat) (sz : Nat) (L : List ab_Ds) (M : ab_M) (X : Nat → Nat) (ad2 : List Nat) (t : State) : Prop :=
  ad <+: ad2 ∧ ∃ (ws : va_W) (tys : List (ClassId × FieldType)), va_P D vwCl ws t.heap ∧ va_K D vwCl tys t ∧ va_D (ab_A1 ad sz) ws ∧ ab_Wd ad2 tys L M ws
def ab_Qc (X : Nat → Nat) (D : va_G) (ad : List Nat) (sz : Nat) (L : List ab_Ds) (M : ab_M) (r : Option Value) : Array Value → State → Outcome → State → Prop := match r with
  | none => va_Qv (fun _ : List Nat => True) (ab_B D ad sz L M X) (ab_A1 ad sz)
  | some (.int x) => va_Qi (fun (y : Int32) (_ : List Nat) => y = x) (ab_B D ad sz L M X) (ab_A1 ad sz)
  | some (.long x) => va_Ql (fun (y : Int64) (_ : List Nat) => y = x) (ab_B D ad sz L M X) (ab_A1 ad sz)
  | _ => fun _ _ _ _ => False
def ab_ws (mi : Nat) : List Cond := .code (ab_mr mi).1.1 (ab_code mi) (ab_nL mi) (ab_ret mi) :: wsL_law
def ab_Met (scr : Option (List Int32)) (l : Launch) (X : Nat → Nat) (D : va_G) (mi dp : Nat) (As : List Value) (L : List ab_Ds) (M : ab_M) (L1 : List ab_Ds) (M1 : ab_M) (r : Option Value) : Prop :=
  ∀ (ad : List Nat) (sz : Nat) (sa : List Value), ab_rS X ad As sa → Met l (ab_mr mi).1.1 (ab_ws mi) (ab_rm dp (L1.length - L.length) (ab_sz L1 - ab_sz L)) (ab_Pc scr X D ad sz L M sa) (ab_Qc X D ad sz L1 M1 r) (L1.length - L.length) (ab_sz L1 - ab_sz L) (ab_A1 ad sz)
theorem ab_ws_good (mi : Nat) (hmi : mi < ab_mtA.length) : GoodIn wsL_law (ab_ws mi) ∧ ab_mOK (ab_mr mi) := by
  have hmem : ab_mr mi ∈ ab_mtA := by
    unfold ab_mr ab_mt
    rw [List.getD_eq_getElem?_getD, List.getElem?_append_left hmi, List.getElem?_eq_getElem hmi]
    exact List.getElem_mem hmi
  have hok := ab_mt_ok _ hmem
  refine ⟨?_, hok⟩
  intro w hw
  have hg : ∀ w ∈ wsL_law, w ∈ wsL_law ∧ ((w.onTables && w.keeps) = true ∨ ∃ ty, w = .arrayClass ty) := fun w h => ⟨h, good_of_word (List.all_eq_true.mp ab_good w h)⟩
  rcases List.mem_cons.mp hw with rfl | hw
  · exact hg _ (ab_wAt_in hok.1)
  · exact hg _ hw
section ABK
variable {p : Program} {l : Launch} {e : Env} {R : Room} {s : State} {m : MethodId} {args : Array Value} {below : List Frame} {meth : Method} {c : Code} {Q : State → Prop} {scr : Option (List Int32)} {mi dp : Nat} {X : Nat → Nat} {A : Nat → Prop} {D : va_G} {Lf L L2 : List ab_Ds} {M M2 : ab_M} {pc pc2 len : Nat} {ls ls2 : ab_Lo} {st st2 : List Value} {ad : List Nat}
theorem ab_A1_in {tys : List (ClassId × FieldType)} {ws : va_W} (hW : ab_Wd ad tys L M ws) {q : Nat} (hq : q ∈ ad) : ∃ (k : Nat) (e : va_E), ws[k]? = some (q, e) := by
  obtain ⟨k, hk⟩ := List.getElem?_of_mem hq
  have hlt : k < ad.length := (List.getElem?_eq_some_iff.mp hk).1
  obtain ⟨a, e, h1, h2, -⟩ := hW.2.2 k _ (List.getElem?_eq_getElem (by rw [← hW.1]; exact hlt))
  rw [hk] at h1
  cases h1
  exact ⟨k, e, h2⟩
theorem ab_A1_sub {tys : List (ClassId × FieldType)} {ws : va_W} {H : Heap} {locs : List Loc} (hA : ∀ q, s.heap.size ≤ q → A q) (hD : va_D A ws) (hS : va_S A s.heap H locs) (hW : ab_Wd ad tys L M ws) : ∀ q, ab_A1 ad H.size q → A q := by
  intro q h
  rcases h with h | h
  · obtain ⟨k, e, hk⟩ := ab_A1_in hW h
    exact hD.2 k _ hk
  · exact hA q (Nat.le_trans hS.1 h)
theorem ab_Pc_blind {sz : Nat} {sa : List Value} : FrameBlind (ab_Pc scr X D ad sz L M sa) := by
  intro a U g mk h
  obtain ⟨h1, h2, h3, h4, ws, tys, h5, h6, h7, h8⟩ := h
  exact ⟨h1, h2, h3.blind rfl rfl, h4.blind rfl, ws, tys, h5, va_K.moved (u := U) (U := U.calling g mk a) (Vm.Alike.refl U.vm) h6, h7, h8⟩
theorem ab_Pc_of {tys : List (ClassId × FieldType)} {ws : va_W} {H : Heap} {locs : List Loc} {sa : List Value} (C0 : ab_C scr p s m args meth c R mi dp X A) (hK : va_K D vwCl tys s) (hP : va_P D vwCl ws H) (hD : va_D A ws) (hS : va_S A s.heap H locs) (hW : ab_Wd ad tys L M ws) : ∀ U : State, U.heap = H → s.WarmedH U.vm → ab_Pc scr X D ad H.size L M sa sa.toArray U := by
  obtain ⟨hx, hb, hml, hown, hts, hA, hE, hN, hmn, hR1, hR2⟩ := C0
  intro U hU hW2
  refine ⟨rfl, by rw [hU], hE.step hS.2.1 (ab_A1_sub hA hD hS hW) hU hW2, hN.step hW2, ws, tys, by rw [hU]; exact hP, va_K.moved hW2.alike hK, hD.weaken (fun _ _ _ _ => trivial), hW⟩
/-- behind a call -/
theorem ab_after {L1 : List ab_Ds} {M1 : ab_M} {r : Option Value} {H : Heap} {locs : List Loc} {cells slots : Nat} {tys : List (ClassId × FieldType)} {ws : va_W} {la : Array Slot} {lv : List (Nat × Value)} {sa0 rest : List Value} {a9 : Array Value} (C0 : ab_C scr p s m args meth c R mi dp X A) (hg1 : L.length ≤ L1.length ∧ ab_sz L ≤ ab_sz L1)
    (hD : va_D A ws) (hS : va_S A s.heap H locs) (hW : ab_Wd ad tys L M ws) (hl : lv_has la (ab_nL mi) lv) (hL : ab_rL X ad ls lv) (hs : ab_rS X ad st2 rest) (hc1 : cells + Lf.length ≤ R.cells + L.length) (hc2 : slots + ab_sz Lf ≤ R.slots + ab_sz L)
    (hr : va_Run p l e R s m args below meth c H locs cells slots (L1.length - L.length) (ab_sz L1 - ab_sz L) (F0 m pc la sa0) rest (ab_Qc X D ad H.size L1 M1 r a9) (ab_A1 ad H.size))
    (k : ∀ ad2, ad <+: ad2 → ab_G p l e R s m args below meth c Q mi X A D Lf (L1) (M1) (pc + 3) (ls) (ab_pr r st2) (ad2)) : W p l e R s m args below meth c (H) (locs) (cells) (slots) Q (F0 m pc la sa0) := by
  obtain ⟨hx, hb, hml, hown, hts, hA, hE, hN, hmn, hR1, hR2⟩ := C0
  have hsub := ab_A1_sub hA hD hS hW
  have fin : ∀ (ad2 : List Nat) (t : State) (H1 : Heap) (locs1 : List Loc) (sa1 : List Value), t.heap = H1 → s.vm.Alike t.vm → ab_B D ad H.size L1 M1 X ad2 t → va_S A s.heap H1 locs1 → ab_rS X ad2 (ab_pr r st2) sa1 → W p l e R s m args below meth c (H1) (locs1) (cells + (L1.length - L.length)) (slots + (ab_sz L1 - ab_sz L)) Q (F0 m (pc + 3) la sa1) := by
    intro ad2 t H1 locs1 sa1 ht hvm hB hS1 hs1
    obtain ⟨hp, ws1, tys1, hP1, hK1, hD1, hW1⟩ := hB
    rw [ht] at hP1
    exact k ad2 hp H1 locs1 _ _ tys1 ws1 la lv sa1 (va_K.moved hvm.symm hK1) hP1 (hD1.weaken (fun _ q _ h => hsub q.1 h)) hS1 hW1 hl (ab_rL_mono hp hL) hs1 (by omega) (by omega)
  match r, hr, fin with
  | none, hr, fin => exact va_callv (a := a9) hr hS (fun q _ h => hsub q h) hsub (fun u t H1 locs1 ht hvm hw hB hz hk hS1 => fin u t H1 locs1 rest ht hvm hB hS1 (ab_rS_mono hB.1 hs))
  | some (.int x), hr, fin => exact va_calli (a := a9) hr hS (fun q _ h => hsub q h) hsub (fun y u t H1 locs1 ht hvm hw hB hz hk hS1 => fin u t H1 locs1 (.int y :: rest) ht hvm hB hS1 (by rw [hw]; exact ab_rS_i (ab_rS_mono hB.1 hs)))
  | some (.long x), hr, fin => exact va_calll (a := a9) hr hS (fun q _ h => hsub q h) hsub (fun y u t H1 locs1 ht hvm hw hB hz hk hS1 => fin u t H1 locs1 (.long y :: rest) ht hvm hB hS1 (by rw [hw]; exact ab_rS_j (ab_rS_mono hB.1 hs)))
  | some (.float x), hr, fin => exact fun T hT XX => (by obtain ⟨v, st0, t, T1, L9, -, -, -, -, -, hF, -⟩ := hr T hT XX; exact hF.elim)
  | some (.double x), hr, fin => exact fun T hT XX => (by obtain ⟨v, st0, t, T1, L9, -, -, -, -, -, hF, -⟩ := hr T hT XX; exact hF.elim)
  | some (.ref x), hr, fin => exact fun T hT XX => (by obtain ⟨v, st0, t, T1, L9, -, -, -, -, -, hF, -⟩ := hr T hT XX; exact hF.elim)
  | some .null, hr, fin => exact fun T hT XX => (by obtain ⟨v, st0, t, T1, L9, -, -, -, -, -, hF, -⟩ := hr T hT XX; exact hF.elim)
  | some (.retAddr x), hr, fin => exact fun T hT XX => (by obtain ⟨v, st0, t, T1, L9, -, -, -, -, -, hF, -⟩ := hr T hT XX; exact hF.elim)
end ABK
