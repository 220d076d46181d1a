theorem ab_pre {α : Type} {l l2 : List α} (hp : l <+: l2) {i : Nat} {a : α} (h : l[i]? = some a) : l2[i]? = some a := by
  obtain ⟨t, rfl⟩ := hp
  rw [List.getElem?_append_left (List.getElem?_eq_some_iff.mp h).1]
  exact h
/-! The abstract machine's layout and memory, held against the machine's heap -/
def ab_ad (X : Nat → Nat) (ad : List Nat) (i : Nat) : Option Nat := if i < 1000 then ad[i]? else some (X i)
def ab_rv (X : Nat → Nat) (ad : List Nat) (v w : Value) : Prop := match v with
  | .ref i => ∃ a, ab_ad X ad i = some a ∧ w = .ref a
  | .null => w = .null ∨ ∃ a, w = .ref a
  | v => w = v
def ab_rS (X : Nat → Nat) (ad : List Nat) : List Value → List Value → Prop
  | [], [] => True
  | v :: vs, w :: ws => ab_rv X ad v w ∧ ab_rS X ad vs ws
  | _, _ => False
def ab_rL (X : Nat → Nat) (ad : List Nat) (ls : ab_Lo) (lv : List (Nat × Value)) : Prop := ∀ (i : Nat) (v : Value), ls[i]? = some (some v) → ∃ w, (i, w) ∈ lv ∧ ab_rv X ad v w
def ab_fd (ad : List Nat) (x : Int32) (o : Option (Option Nat)) (v : Value) : Prop := match o with
  | none => v = .int x
  | some none => v = .null
  | some (some q) => ∃ a, ad[q]? = some a ∧ v = .ref a
def ab_cell (ad : List Nat) (tys : List (ClassId × FieldType)) (f : Nat → Int32) (d : ab_Ds) (e : va_E) : Prop := match d with
  | .inl (ci, ks) => ∃ fs : List Value, e = .inr (ci, fs) ∧ fs.length = ks.length ∧ ∀ (j : Nat) (o : Option (Option Nat)), ks[j]? = some o → ∃ v, fs[j]? = some v ∧ ab_fd ad (f j) o v
  | .inr (ty, n, none) => ∃ (cA : ClassId) (t0 : Nat), e = .inl (cA, n, .inl f) ∧ tys[t0]? = some (cA, ty)
  | .inr (ty, n, some qs) => ∃ (cA : ClassId) (t0 : Nat) (g : Nat → Option Nat), e = .inl (cA, n, .inr (.inr (.inr (.inr g)))) ∧ tys[t0]? = some (cA, ty) ∧ ∀ j q : Nat, qs[j]? = some (some q) → ∃ a, ad[q]? = some a ∧ g j = some a
def ab_Wd (ad : List Nat) (tys : List (ClassId × FieldType)) (L : List ab_Ds) (M : ab_M) (ws : va_W) : Prop :=
  ad.length = L.length ∧ (ws.length = L.length ∧ L.length ≤ 1000) ∧ ∀ (k : Nat) (d : ab_Ds), L[k]? = some d → ∃ a e, ad[k]? = some a ∧ ws[k]? = some (a, e) ∧ ab_cell ad tys (M k) d e
theorem ab_rv_int {X : Nat → Nat} {ad : List Nat} {x : Int32} {w : Value} (h : ab_rv X ad (.int x) w) : w = .int x := h
theorem ab_rv_long {X : Nat → Nat} {ad : List Nat} {x : Int64} {w : Value} (h : ab_rv X ad (.long x) w) : w = .long x := h
theorem ab_rv_cat {X : Nat → Nat} {ad : List Nat} {v w : Value} (h : ab_rv X ad v w) : w.category = v.category := by
  cases v with
  | ref i =>
    obtain ⟨a, -, rfl⟩ := h
    rfl
  | null =>
    rcases h with rfl | ⟨a, rfl⟩
    · rfl
    · rfl
  | _ =>
    cases h
    rfl
theorem ab_rS_cons {X : Nat → Nat} {ad : List Nat} {v : Value} {vs sa : List Value} (h : ab_rS X ad (v :: vs) sa) : ∃ w ws, sa = w :: ws ∧ ab_rv X ad v w ∧ ab_rS X ad vs ws := by
  cases sa with
  | nil => exact absurd h (by simp [ab_rS])
  | cons w ws => exact ⟨w, ws, rfl, h.1, h.2⟩
theorem ab_rS_nil {X : Nat → Nat} {ad : List Nat} {sa : List Value} (h : ab_rS X ad [] sa) : sa = [] := by
  cases sa with
  | nil => rfl
  | cons w ws => exact absurd h (by simp [ab_rS])
theorem ab_rS_int {X : Nat → Nat} {ad : List Nat} {x : Int32} {vs sa : List Value} (h : ab_rS X ad (.int x :: vs) sa) : ∃ ws, sa = .int x :: ws ∧ ab_rS X ad vs ws := by
  obtain ⟨w, ws, rfl, h1, h2⟩ := ab_rS_cons h
  exact ⟨ws, by rw [ab_rv_int h1], h2⟩
theorem ab_rS_long {X : Nat → Nat} {ad : List Nat} {x : Int64} {vs sa : List Value} (h : ab_rS X ad (.long x :: vs) sa) : ∃ ws, sa = .long x :: ws ∧ ab_rS X ad vs ws := by
  obtain ⟨w, ws, rfl, h1, h2⟩ := ab_rS_cons h
  exact ⟨ws, by rw [ab_rv_long h1], h2⟩
theorem ab_rS_ref {X : Nat → Nat} {ad : List Nat} {x : Nat} {vs sa : List Value} (h : ab_rS X ad (.ref x :: vs) sa) : ∃ a ws, ab_ad X ad x = some a ∧ sa = .ref a :: ws ∧ ab_rS X ad vs ws := by
  obtain ⟨w, ws, rfl, ⟨a, h1, rfl⟩, h2⟩ := ab_rS_cons h
  exact ⟨a, ws, h1, rfl, h2⟩
theorem ab_rS_len {X : Nat → Nat} {ad : List Nat} : ∀ {vs sa : List Value}, ab_rS X ad vs sa → sa.length = vs.length
  | [], [], _ => rfl
  | _ :: _, _ :: _, h => by
    simp only [List.length_cons]
    rw [ab_rS_len h.2]
  | [], _ :: _, h => absurd h (by simp [ab_rS])
  | _ :: _, [], h => absurd h (by simp [ab_rS])
theorem ab_rS_cats {X : Nat → Nat} {ad : List Nat} : ∀ {vs sa : List Value}, ab_rS X ad vs sa → (sa.map fun v => v.category) = (vs.map fun v => v.category)
  | [], [], _ => rfl
  | _ :: _, _ :: _, h => by
    simp only [List.map_cons]
    rw [ab_rS_cats h.2, ab_rv_cat h.1]
  | [], _ :: _, h => absurd h (by simp [ab_rS])
  | _ :: _, [], h => absurd h (by simp [ab_rS])
theorem ab_rS_app {X : Nat → Nat} {ad : List Nat} : ∀ {vs sa vs2 sa2 : List Value}, ab_rS X ad vs sa → ab_rS X ad vs2 sa2 → ab_rS X ad (vs ++ vs2) (sa ++ sa2)
  | [], [], _, _, _, h2 => h2
  | _ :: _, _ :: _, _, _, h, h2 => ⟨h.1, ab_rS_app h.2 h2⟩
  | [], _ :: _, _, _, h, _ => absurd h (by simp [ab_rS])
  | _ :: _, [], _, _, h, _ => absurd h (by simp [ab_rS])
theorem ab_rS_rev {X : Nat → Nat} {ad : List Nat} : ∀ {vs sa : List Value}, ab_rS X ad vs sa → ab_rS X ad vs.reverse sa.reverse
  | [], [], _ => trivial
  | v :: vs, w :: ws, h => by
    rw [List.reverse_cons, List.reverse_cons]
    exact ab_rS_app (ab_rS_rev h.2) ⟨h.1, trivial⟩
  | [], _ :: _, h => absurd h (by simp [ab_rS])
  | _ :: _, [], h => absurd h (by simp [ab_rS])
theorem ab_rS_split {X : Nat → Nat} {ad : List Nat} : ∀ (n : Nat) {vs sa : List Value}, ab_rS X ad vs sa → ab_rS X ad (vs.take n) (sa.take n) ∧ ab_rS X ad (vs.drop n) (sa.drop n)
  | 0, _, _, h => ⟨trivial, h⟩
  | _ + 1, [], [], _ => ⟨trivial, trivial⟩
  | n + 1, _ :: _, _ :: _, h => ⟨⟨h.1, (ab_rS_split n h.2).1⟩, (ab_rS_split n h.2).2⟩
  | _ + 1, [], _ :: _, h => absurd h (by simp [ab_rS])
  | _ + 1, _ :: _, [], h => absurd h (by simp [ab_rS])
/-! more addresses -/
theorem ab_ad_mono {X : Nat → Nat} {ad ad' : List Nat} (hp : ad <+: ad') {i a : Nat} (h : ab_ad X ad i = some a) : ab_ad X ad' i = some a := by
  unfold ab_ad at h ⊢
  by_cases hi : i < 1000
  · rw [if_pos hi] at h ⊢
    exact ab_pre hp h
  · rw [if_neg hi] at h ⊢
    exact h
theorem ab_rv_mono {X : Nat → Nat} {ad ad' : List Nat} (hp : ad <+: ad') {v w : Value} (h : ab_rv X ad v w) : ab_rv X ad' v w := by
  cases v with
  | ref i =>
    obtain ⟨a, h1, h2⟩ := h
    exact ⟨a, ab_ad_mono hp h1, h2⟩
  | _ => exact h
theorem ab_rS_mono {X : Nat → Nat} {ad ad' : List Nat} (hp : ad <+: ad') : ∀ {vs sa : List Value}, ab_rS X ad vs sa → ab_rS X ad' vs sa
  | [], [], _ => trivial
  | _ :: _, _ :: _, h => ⟨ab_rv_mono hp h.1, ab_rS_mono hp h.2⟩
  | [], _ :: _, h => absurd h (by simp [ab_rS])
  | _ :: _, [], h => absurd h (by simp [ab_rS])
theorem ab_rL_mono {X : Nat → Nat} {ad ad' : List Nat} (hp : ad <+: ad') {ls : ab_Lo} {lv : List (Nat × Value)} (h : ab_rL X ad ls lv) : ab_rL X ad' ls lv := fun i v hi => by
  obtain ⟨w, h1, h2⟩ := h i v hi
  exact ⟨w, h1, ab_rv_mono hp h2⟩
theorem ab_fd_mono {ad ad' : List Nat} (hp : ad <+: ad') {x : Int32} {o : Option (Option Nat)} {v : Value} (h : ab_fd ad x o v) : ab_fd ad' x o v := by
  match o, h with
  | none, h => exact h
  | some none, h => exact h
  | some (some q), h =>
    obtain ⟨a, h1, h2⟩ := h
    exact ⟨a, ab_pre hp h1, h2⟩
theorem ab_cell_mono {ad ad' : List Nat} (hp : ad <+: ad') {tys tys' : List (ClassId × FieldType)} (ht : tys <+: tys') {f : Nat → Int32} {d : ab_Ds} {e : va_E} (h : ab_cell ad tys f d e) : ab_cell ad' tys' f d e := by
  match d, h with
  | .inl (ci, ks), h =>
    obtain ⟨fs, h1, h2, h3⟩ := h
    refine ⟨fs, h1, h2, fun j o ho => ?_⟩
    obtain ⟨v, h4, h5⟩ := h3 j o ho
    exact ⟨v, h4, ab_fd_mono hp h5⟩
  | .inr (ty, n, none), h =>
    obtain ⟨cA, t0, h1, h2⟩ := h
    exact ⟨cA, t0, h1, ab_pre ht h2⟩
  | .inr (ty, n, some qs), h =>
    obtain ⟨cA, t0, g, h1, h2, h3⟩ := h
    refine ⟨cA, t0, g, h1, ab_pre ht h2, fun j q hj => ?_⟩
    obtain ⟨a, h4, h5⟩ := h3 j q hj
    exact ⟨a, ab_pre hp h4, h5⟩
/-- the cell k becomes another one -/
theorem ab_Wd_set {ad : List Nat} {tys : List (ClassId × FieldType)} {L : List ab_Ds} {M M' : ab_M} {ws : va_W} (h : ab_Wd ad tys L M ws) {k a : Nat} {e0 : va_E} (hk : ws[k]? = some (a, e0)) (e : va_E) (d : ab_Ds) (hd : ab_cell ad tys (M' k) d e) (hM : ∀ j, j ≠ k → M' j = M j) : ab_Wd ad tys (L.set k d) M' (ws.set k (a, e)) := by
  obtain ⟨h1, ⟨h2, h4⟩, h3⟩ := h
  refine ⟨by simpa using h1, ⟨by simpa using h2, by simpa using h4⟩, fun j d' hj => ?_⟩
  have hkl : k < ws.length := (List.getElem?_eq_some_iff.mp hk).1
  by_cases hjk : k = j
  · subst hjk
    have hL : k < L.length := by omega
    obtain ⟨a', e', g1, g2, -⟩ := h3 k L[k] (List.getElem?_eq_getElem hL)
    rw [hk] at g2
    cases g2
    rw [List.getElem?_set_self hL] at hj
    cases hj
    exact ⟨a, e, g1, by rw [List.getElem?_set_self hkl], hd⟩
  · rw [List.getElem?_set_ne hjk] at hj
    obtain ⟨a', e', g1, g2, g3⟩ := h3 j d' hj
    exact ⟨a', e', g1, by rw [List.getElem?_set_ne hjk]; exact g2, by rw [hM j (fun q => hjk q.symm)]; exact g3⟩
theorem ab_set_self {L : List ab_Ds} {k : Nat} {d : ab_Ds} (h : L[k]? = some d) : L.set k d = L := by
  apply List.ext_getElem?
  intro j
  by_cases hj : k = j
  · subst hj
    rw [List.getElem?_set_self (List.getElem?_eq_some_iff.mp h).1, h]
  · rw [List.getElem?_set_ne hj]
/-- a cell more -/
theorem ab_Wd_push {ad : List Nat} {tys tys' : List (ClassId × FieldType)} {L : List ab_Ds} {M M' : ab_M} {ws : va_W} (h : ab_Wd ad tys L M ws) (ht : tys <+: tys') (a : Nat) (e : va_E) (d : ab_Ds) (hd : ab_cell (ad ++ [a]) tys' (M' L.length) d e) (hM : ∀ j, j < L.length → M' j = M j) (hlt : L.length < 1000) : ab_Wd (ad ++ [a]) tys' (L ++ [d]) M' (ws ++ [(a, e)]) := by
  obtain ⟨h1, ⟨h2, -⟩, h3⟩ := h
  refine ⟨by simp [h1], ⟨by simp [h2], by simp; omega⟩, fun j d' hj => ?_⟩
  by_cases hjl : j < L.length
  · rw [List.getElem?_append_left hjl] at hj
    obtain ⟨a', e', g1, g2, g3⟩ := h3 j d' hj
    refine ⟨a', e', ?_, ?_, ?_⟩
    · rw [List.getElem?_append_left (by omega)]
      exact g1
    · rw [List.getElem?_append_left (by omega)]
      exact g2
    · rw [hM j hjl]
      exact ab_cell_mono (List.prefix_append ad [a]) ht g3
  · have hlt : j < (L ++ [d]).length := (List.getElem?_eq_some_iff.mp hj).1
    have hje : j = L.length := by
      rw [List.length_append, List.length_singleton] at hlt
      omega
    subst hje
    rw [List.getElem?_append_right (Nat.le_refl _)] at hj
    simp at hj
    subst hj
    refine ⟨a, e, ?_, ?_, hd⟩
    · rw [List.getElem?_append_right (by omega), h1]
      simp
    · rw [List.getElem?_append_right (by omega), h2]
      simp
theorem ab_up_self (M : ab_M) (a k : Nat) (v : Int32) : ab_up M a k v a = upd (M a) k v := by
  funext j
  simp [ab_up, upd]
theorem ab_up_ne (M : ab_M) {a b : Nat} (k : Nat) (v : Int32) (h : b ≠ a) : ab_up M a k v b = M b := by
  funext j
  simp [ab_up, h]
/-! what lies outside -/
def ab_tx (i : Nat) : Nat × String := match i with
  | 0 => (51, "one")
  | 1 => (67, "begin")
  | 2 => (103, "purse")
  | 3 => (105, "part")
  | _ => (107, "poor")
def ab_E (scr : Option (List Int32)) (X : Nat → Nat) (A : Nat → Prop) (U : State) (H : Heap) : Prop :=
  (∀ k, k < 4 → ∃ v, ab_rv X [] (ab_stv k) v ∧ va_Z (ab_zC k).1 (ab_zC k).2.1 (ab_zC k).2.2 v A U H) ∧
  (∀ a ty l, ab_xar scr a = some (ty, l) → va_T ty (X a) l.length (fun j => .int (l.getD j 0)) A U H) ∧
  (∀ i, i < 5 → va_O "java/lang/String" (X (1000 + i)) A U H ∧ va_OF "java/lang/String" "coder" "B" (.int 0) (X (1000 + i)) A U H ∧ va_OF "java/lang/String" "value" "[B" (.ref (X (2002 + i))) (X (1000 + i)) A U H) ∧
  (∀ i, i < 5 → vk_R RX9 (ab_tx i).1 (ab_tx i).2 (X (1000 + i)) U)
theorem ab_E.step {scr : Option (List Int32)} {X : Nat → Nat} {A B : Nat → Prop} {s U : State} {H : Heap} (h : ab_E scr X A s s.heap) (hS : ∀ a : Nat, a < s.heap.size → ¬ A a → H[a]? = s.heap[a]?) (hAB : ∀ q, B q → A q) (hU : U.heap = H) (hW : s.WarmedH U.vm) : ab_E scr X B U U.heap := by
  subst hU
  obtain ⟨h1, h2, h3, h4⟩ := h
  have hvm := hW.alike
  refine ⟨fun k hk => (by
    obtain ⟨v, hv, hz⟩ := h1 k hk
    exact ⟨v, hv, va_Z.moved hvm ((hz.kept hS).narrow hAB)⟩), fun a ty l hl => va_T.moved hvm (((h2 a ty l hl).kept hS).narrow hAB), fun i hi => ?_, fun i hi => vk_R.warm hW (h4 i hi)⟩
  obtain ⟨g1, g2, g3⟩ := h3 i hi
  exact ⟨va_O.moved hvm ((g1.kept hS).narrow hAB), va_OF.moved hvm ((g2.kept hS).narrow hAB), va_OF.moved hvm ((g3.kept hS).narrow hAB)⟩
theorem ab_E.blind {scr : Option (List Int32)} {X : Nat → Nat} {A : Nat → Prop} {U V : State} (h : ab_E scr X A U U.heap) (hh : V.heap = U.heap) (hv : U.vm = V.vm) : ab_E scr X A V V.heap := by
  rw [hh]
  obtain ⟨h1, h2, h3, h4⟩ := h
  have hvm : U.vm.Alike V.vm := by rw [hv]; exact Vm.Alike.refl _
  exact ⟨fun k hk => (by
    obtain ⟨v, hv, hz⟩ := h1 k hk
    exact ⟨v, hv, va_Z.moved hvm hz⟩), fun a ty l hl => va_T.moved hvm (h2 a ty l hl), fun i hi => ⟨va_O.moved hvm (h3 i hi).1, va_OF.moved hvm (h3 i hi).2.1, va_OF.moved hvm (h3 i hi).2.2⟩, fun i hi => vk_R.same hv.symm (h4 i hi)⟩
/-- links between nest mates, arrays of references -/
def ab_N (U : State) : Prop :=
  (∀ r ∈ ab_cat, r.2.1.2 = true → va_Nw (.methodLinkNest (ab_cn r.1.1) r.1.2 (ab_mr r.2.1.1).1.1 "WhoseRound") U) ∧
  (∀ r ∈ ab_stt, r.2.1.2 = true → va_Nw (.fieldLinkNest (ab_cn r.1.1) r.1.2 "WhoseRound" (ab_zC r.2.1.1).2.1 (ab_zC r.2.1.1).2.2 "WhoseRound") U) ∧
  va_AO RX3 U ∧ va_AO RX6 U ∧ va_AO RX7 U ∧ va_AO RX8 U ∧ ab_AOA .int U ∧ ∃ cy, U.vm.findClass (FieldType.array .int).toString = some cy
theorem ab_N.step {s U : State} (h : ab_N s) (hW : s.WarmedH U.vm) : ab_N U := by
  obtain ⟨h1, h2, h3, h4, h5, h6, h7, cy, h8⟩ := h
  exact ⟨fun r hr hn => va_Nw.warmM hW (h1 r hr hn), fun r hr hn => va_Nw.warmF hW (h2 r hr hn), va_AO.moved hW.alike h3, va_AO.moved hW.alike h4, va_AO.moved hW.alike h5, va_AO.moved hW.alike h6, ab_AOA.moved hW.alike h7, cy, by rw [hW.alike.findClass]; exact h8⟩
theorem ab_N.blind {U V : State} (h : ab_N U) (hv : U.vm = V.vm) : ab_N V := by
  have hvm : U.vm.Alike V.vm := by rw [hv]; exact Vm.Alike.refl _
  obtain ⟨h1, h2, h3, h4, h5, h6, h7, cy, h8⟩ := h
  exact ⟨fun r hr hn => va_Nw.same rfl hv (h1 r hr hn), fun r hr hn => va_Nw.same rfl hv (h2 r hr hn), va_AO.moved hvm h3, va_AO.moved hvm h4, va_AO.moved hvm h5, va_AO.moved hvm h6, ab_AOA.moved hvm h7, cy, by rw [hvm.findClass]; exact h8⟩
