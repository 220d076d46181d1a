/-! Each step of the abstract machine is a step of the machine -/
def ab_sz1 (d : ab_Ds) : Nat := match d with
  | .inl (_, ks) => ks.length
  | .inr (_, n, _) => n
def ab_sz (L : List ab_Ds) : Nat := (L.map ab_sz1).sum
def ab_C (scr : Option (List Int32)) (p : Program) (s : State) (m : MethodId) (args : Array Value) (meth : Method) (c : Code) (R : Room) (mi dp : Nat) (X : Nat → Nat) (A : Nat → Prop) : Prop :=
  p.tables.exec = Jvm.exec ∧ c.code = ab_code mi ∧ c.maxLocals = ab_nL mi ∧ s.vm.findClass (ab_cn (ab_ky mi)) = some m.cls ∧ (∀ w ∈ wsL_law, w.before args s = true) ∧ (∀ q, s.heap.size ≤ q → A q) ∧ ab_E scr X A s s.heap ∧ ab_N s ∧ ((ab_mr mi).1.1.name = "<init>" → meth.name = "<init>") ∧ dp ≤ R.frames ∧ 64 * dp ≤ R.locals
def ab_G (p : Program) (l : Launch) (e : Env) (R : Room) (s : State) (m : MethodId) (args : Array Value) (below : List Frame) (meth : Method) (c : Code) (Q : State → Prop) (mi : Nat) (X : Nat → Nat) (A : Nat → Prop) (D : va_G) (Lf L : List ab_Ds) (M : ab_M) (pc : Nat) (ls : ab_Lo) (st : List Value) (ad : List Nat) : Prop :=
  ∀ (H : Heap) (locs : List Loc) (cells slots : Nat) (tys : List (ClassId × FieldType)) (ws : va_W) (la : Array Slot) (lv : List (Nat × Value)) (sa : List Value), va_K D vwCl tys s → va_P D vwCl ws H → va_D A ws → va_S A s.heap H locs → ab_Wd ad tys L M ws → lv_has la (ab_nL mi) lv → ab_rL X ad ls lv → ab_rS X ad st sa → cells + Lf.length ≤ R.cells + L.length → slots + ab_sz Lf ≤ R.slots + ab_sz L → W p l e R s m args below meth c H locs cells slots Q (F0 m pc la sa)
/-! taking an equation of a step apart -/
theorem ab_ck_some {a b : Nat} {o : Option ab_Ou} {r : ab_Ou} (h : ab_ck a b o = some r) : a = b ∧ o = some r := by
  unfold ab_ck at h
  by_cases q : a = b
  · rw [if_pos q] at h
    exact ⟨q, h⟩
  · rw [if_neg q] at h
    cases h
theorem ab_go_some {L L2 : List ab_Ds} {M M2 : ab_M} {pc pc2 : Nat} {ls ls2 : ab_Lo} {st st2 : List Value} (h : ab_go L M pc ls st = some (L2, (pc2, ls2, st2), M2)) : L = L2 ∧ M = M2 ∧ pc = pc2 ∧ ls = ls2 ∧ st = st2 := by
  cases h
  exact ⟨rfl, rfl, rfl, rfl, rfl⟩
theorem ab_jm_some {L L2 : List ab_Ds} {M M2 : ab_M} {pc pc2 : Nat} {off : Int} {ls ls2 : ab_Lo} {st st2 : List Value} (h : ab_jm L M pc off ls st = some (L2, (pc2, ls2, st2), M2)) : L = L2 ∧ M = M2 ∧ (pc : Int) + off = (pc2 : Int) ∧ ls = ls2 ∧ st = st2 := by
  unfold ab_jm at h
  by_cases q : 0 ≤ (pc : Int) + off
  · rw [if_pos q] at h
    obtain ⟨a, b, c, d, e⟩ := ab_go_some h
    exact ⟨a, b, by omega, d, e⟩
  · rw [if_neg q] at h
    cases h
theorem ab_br_some {L L2 : List ab_Ds} {M M2 : ab_M} {pc pc2 : Nat} {off : Int} {b : Bool} {ls ls2 : ab_Lo} {st st2 : List Value} (h : ab_br L M pc off b ls st = some (L2, (pc2, ls2, st2), M2)) : ∃ tgt : Nat, (pc : Int) + off = (tgt : Int) ∧ ((b = true ∧ ab_go L M tgt ls st = some (L2, (pc2, ls2, st2), M2)) ∨ (b = false ∧ ab_go L M (pc + 3) ls st = some (L2, (pc2, ls2, st2), M2))) := by
  unfold ab_br at h
  by_cases q : 0 ≤ (pc : Int) + off
  · rw [if_pos q] at h
    refine ⟨((pc : Int) + off).toNat, by omega, ?_⟩
    cases b with
    | true => exact Or.inl ⟨rfl, h⟩
    | false => exact Or.inr ⟨rfl, h⟩
  · rw [if_neg q] at h
    cases h
theorem ab_I_some {st : List Value} {f : Int32 → List Value → Option ab_Ou} {r : ab_Ou} (h : ab_I st f = some r) : ∃ x t, st = .int x :: t ∧ f x t = some r := by
  unfold ab_I at h
  split at h
  · exact ⟨_, _, rfl, h⟩
  · cases h
theorem ab_J_some {st : List Value} {f : Int64 → List Value → Option ab_Ou} {r : ab_Ou} (h : ab_J st f = some r) : ∃ x t, st = .long x :: t ∧ f x t = some r := by
  unfold ab_J at h
  split at h
  · exact ⟨_, _, rfl, h⟩
  · cases h
theorem ab_R_some {st : List Value} {f : Nat → List Value → Option ab_Ou} {r : ab_Ou} (h : ab_R st f = some r) : ∃ (x : Nat) (t : List Value), st = .ref x :: t ∧ f x t = some r := by
  unfold ab_R at h
  split at h
  · exact ⟨_, _, rfl, h⟩
  · cases h
theorem ab_li_some {ls : ab_Lo} {i : Nat} {f : Int32 → Option ab_Ou} {r : ab_Ou} (h : ab_li ls i f = some r) : ∃ x, ls[i]? = some (some (.int x)) ∧ f x = some r := by
  unfold ab_li at h
  split at h
  · exact ⟨_, by assumption, h⟩
  · cases h
theorem ab_lj_some {ls : ab_Lo} {i : Nat} {f : Int64 → Option ab_Ou} {r : ab_Ou} (h : ab_lj ls i f = some r) : ∃ x, ls[i]? = some (some (.long x)) ∧ f x = some r := by
  unfold ab_lj at h
  split at h
  · exact ⟨_, by assumption, h⟩
  · cases h
theorem ab_lr_some {ls : ab_Lo} {i : Nat} {f : Nat → Option ab_Ou} {r : ab_Ou} (h : ab_lr ls i f = some r) : ∃ x : Nat, ls[i]? = some (some (.ref x)) ∧ f x = some r := by
  unfold ab_lr at h
  split at h
  · exact ⟨_, by assumption, h⟩
  · cases h
theorem ab_if_some {P : Prop} [Decidable P] {o : Option ab_Ou} {r : ab_Ou} (h : (if P then o else none) = some r) : P ∧ o = some r := by
  by_cases q : P
  · rw [if_pos q] at h
    exact ⟨q, h⟩
  · rw [if_neg q] at h
    cases h
theorem ab_ifn_some {P : Prop} [Decidable P] {o : Option ab_Ou} {r : ab_Ou} (h : (if P then none else o) = some r) : ¬ P ∧ o = some r := by
  by_cases q : P
  · rw [if_pos q] at h
    cases h
  · rw [if_neg q] at h
    exact ⟨q, h⟩
theorem ab_inB_of {i : Int32} {n : Nat} (h : ab_inB i n = true) : vp_in i n := vp_in_iff.mpr (of_decide_eq_true h)
/-! the locals -/
theorem ab_kill_at {ls : ab_Lo} {i j : Nat} {u : Value} (h : (ab_kill ls i)[j]? = some (some u)) : ls[j]? = some (some u) ∧ ¬ (j + 1 = i ∧ u.category = 2) := by
  have set_case : ∀ (v : Value), ls[i - 1]? = some (some v) → (if i = 0 then ls else ls.set (i - 1) none)[j]? = some (some u) → ls[j]? = some (some u) ∧ ¬ (j + 1 = i ∧ u.category = 2) := by
    intro v hv h
    by_cases h0 : i = 0
    · rw [if_pos h0] at h
      exact ⟨h, fun q => by omega⟩
    · rw [if_neg h0] at h
      by_cases hj : i - 1 = j
      · subst hj
        rw [List.getElem?_set_self (List.getElem?_eq_some_iff.mp hv).1] at h
        cases h
      · rw [List.getElem?_set_ne hj] at h
        exact ⟨h, fun q => hj (by omega)⟩
  unfold ab_kill at h
  split at h
  · exact set_case _ (by assumption) h
  · exact set_case _ (by assumption) h
  · rename_i n1 n2
    refine ⟨h, fun q => ?_⟩
    have e : i - 1 = j := by omega
    rw [e] at n1 n2
    cases u with
    | long x => exact n1 x h
    | double x => exact n2 x h
    | _ => exact absurd q.2 (by simp [Value.category])
theorem ab_rL_st1 {X : Nat → Nat} {ad : List Nat} {ls : ab_Lo} {lv : List (Nat × Value)} {i : Nat} {v w : Value} (h : ab_rL X ad ls lv) (hv : ab_rv X ad v w) : ab_rL X ad (ab_st1 ls i v) ((i, w) :: lv.filter (fun q => !(q.1 == i) && !(q.1 + 1 == i && q.2.category == 2))) := by
  intro j u hj
  unfold ab_st1 at hj
  by_cases e : i = j
  · subst e
    have hlt : i < (ab_kill ls i).length := by
      have := (List.getElem?_eq_some_iff.mp hj).1
      simpa using this
    rw [List.getElem?_set_self hlt] at hj
    cases hj
    exact ⟨w, List.mem_cons_self, hv⟩
  · rw [List.getElem?_set_ne e] at hj
    obtain ⟨h1, h2⟩ := ab_kill_at hj
    obtain ⟨w', hm, hr⟩ := h j u h1
    refine ⟨w', List.mem_cons_of_mem _ (List.mem_filter.mpr ⟨hm, ?_⟩), hr⟩
    have hc := ab_rv_cat hr
    have e2 : ¬ j = i := fun q => e q.symm
    have e3 : ¬ (j + 1 = i ∧ w'.category = 2) := by rw [hc]; exact h2
    simp only [Bool.and_eq_true, Bool.not_eq_true', beq_eq_false_iff_ne, ne_eq, e2, not_false_eq_true, true_and]
    by_cases q : j + 1 = i
    · have : ¬ w'.category = 2 := fun z => e3 ⟨q, z⟩
      simp [q, this]
    · simp [q]
theorem ab_rL_st2 {X : Nat → Nat} {ad : List Nat} {ls : ab_Lo} {lv : List (Nat × Value)} {i : Nat} {v w : Value} (h : ab_rL X ad ls lv) (hv : ab_rv X ad v w) : ab_rL X ad (ab_st2 ls i v) ((i, w) :: lv.filter (fun q => !(q.1 == i) && (!(q.1 == i + 1) && !(q.1 + 1 == i && q.2.category == 2)))) := by
  intro j u hj
  unfold ab_st2 at hj
  by_cases e1 : i + 1 = j
  · subst e1
    have hlt : i + 1 < ((ab_kill ls i).set i (some v)).length := by
      have := (List.getElem?_eq_some_iff.mp hj).1
      simpa using this
    rw [List.getElem?_set_self hlt] at hj
    cases hj
  · rw [List.getElem?_set_ne e1] at hj
    by_cases e : i = j
    · subst e
      have hlt : i < (ab_kill ls i).length := by
        have := (List.getElem?_eq_some_iff.mp hj).1
        simpa using this
      rw [List.getElem?_set_self hlt] at hj
      cases hj
      exact ⟨w, List.mem_cons_self, hv⟩
    · rw [List.getElem?_set_ne e] at hj
      obtain ⟨h1, h2⟩ := ab_kill_at hj
      obtain ⟨w', hm, hr⟩ := h j u h1
      refine ⟨w', List.mem_cons_of_mem _ (List.mem_filter.mpr ⟨hm, ?_⟩), hr⟩
      have hc := ab_rv_cat hr
      have e2 : ¬ j = i := fun q => e q.symm
      have e4 : ¬ j = i + 1 := fun q => e1 q.symm
      have e3 : ¬ (j + 1 = i ∧ w'.category = 2) := by rw [hc]; exact h2
      by_cases q : j + 1 = i
      · have : ¬ w'.category = 2 := fun z => e3 ⟨q, z⟩
        simp [q, this, e2, e4]
      · simp [q, e2, e4]
theorem ab_rS_i {X : Nat → Nat} {ad : List Nat} {t ws : List Value} {x : Int32} (h : ab_rS X ad t ws) : ab_rS X ad (.int x :: t) (.int x :: ws) := ⟨rfl, h⟩
theorem ab_rS_j {X : Nat → Nat} {ad : List Nat} {t ws : List Value} {x : Int64} (h : ab_rS X ad t ws) : ab_rS X ad (.long x :: t) (.long x :: ws) := ⟨rfl, h⟩
section ABR
variable {p : Program} {l : Launch} {e : Env} {R : Room} {s : State} {m : MethodId} {args : Array Value} {below : List Frame} {meth : Method} {c : Code} {Q : State → Prop} {scr : Option (List Int32)} {mi dp : Nat} {X : Nat → Nat} {A : Nat → Prop} {D : va_G} {Lf L L2 : List ab_Ds} {M M2 : ab_M} {pc pc2 len : Nat} {ls ls2 : ab_Lo} {st st2 : List Value} {ad : List Nat}
/-- what changes the stack alone -/
theorem ab_pS (h : L = L2 ∧ M = M2 ∧ ls = ls2) (hT : ∀ (H : Heap) (locs : List Loc) (cells slots : Nat) (la : Array Slot) (lv : List (Nat × Value)) (sa : List Value), lv_has la (ab_nL mi) lv → ab_rL X ad ls lv → ab_rS X ad st sa → va_S A s.heap H locs → ∃ sa2, ab_rS X ad st2 sa2 ∧ (W p l e R s m args below meth c (H) (locs) (cells) (slots) Q (F0 m pc2 la sa2) → W p l e R s m args below meth c (H) (locs) (cells) (slots) Q (F0 m pc la sa))) (k : ∀ ad2, ad <+: ad2 → ab_G p l e R s m args below meth c Q mi X A D Lf L2 M2 pc2 ls2 st2 ad2) : ab_G p l e R s m args below meth c Q mi X A D Lf L M pc ls st ad := by
  obtain ⟨rfl, rfl, rfl⟩ := h
  intro H locs cells slots tys ws la lv sa hK hP hD hS hW hl hL hs hc1 hc2
  obtain ⟨sa2, h1, h2⟩ := hT H locs cells slots la lv sa hl hL hs hS
  exact h2 (k ad (List.prefix_refl _) H locs cells slots tys ws la lv sa2 hK hP hD hS hW hl hL h1 hc1 hc2)
theorem ab_at {la : Array Slot} {nL : Nat} {lv : List (Nat × Value)} (hl : lv_has la nL lv) (hL : ab_rL X ad ls lv) {i : Nat} {v : Value} (h : ls[i]? = some (some v)) : ∃ w, la[i]? = some (.val w) ∧ ab_rv X ad v w := by
  obtain ⟨w, h1, h2⟩ := hL i v h
  exact ⟨w, hl.2.2 (i, w) h1, h2⟩
theorem ab_p_iconst (C0 : ab_C scr p s m args meth c R mi dp X A) {n : Int} (hd : decode (ab_code mi) pc = .ok (.iconst n, len)) (h : ab_sI scr mi L M pc ls st (.iconst n) len = some (L2, (pc2, ls2, st2), M2)) (k : ∀ ad2, ad <+: ad2 → ab_G p l e R s m args below meth c Q mi X A D Lf L2 M2 pc2 ls2 st2 ad2) : ab_G p l e R s m args below meth c Q mi X A D Lf L M pc ls st ad := by
  obtain ⟨rfl, h⟩ := ab_ck_some h
  obtain ⟨rfl, rfl, rfl, rfl, rfl⟩ := ab_go_some h
  refine ab_pS ⟨rfl, rfl, rfl⟩ (fun H locs cells slots la lv sa hl hL hs hS => ?_) k
  exact ⟨.int (Int32.ofInt n) :: sa, ⟨rfl, hs⟩, fun g => lv_iconst C0.1 C0.2.1 hd rfl g⟩
theorem ab_p_bipush (C0 : ab_C scr p s m args meth c R mi dp X A) {n : Int} (hd : decode (ab_code mi) pc = .ok (.bipush n, len)) (h : ab_sI scr mi L M pc ls st (.bipush n) len = some (L2, (pc2, ls2, st2), M2)) (k : ∀ ad2, ad <+: ad2 → ab_G p l e R s m args below meth c Q mi X A D Lf L2 M2 pc2 ls2 st2 ad2) : ab_G p l e R s m args below meth c Q mi X A D Lf L M pc ls st ad := by
  obtain ⟨rfl, h⟩ := ab_ck_some h
  obtain ⟨rfl, rfl, rfl, rfl, rfl⟩ := ab_go_some h
  refine ab_pS ⟨rfl, rfl, rfl⟩ (fun H locs cells slots la lv sa hl hL hs hS => ?_) k
  exact ⟨.int (Int8.ofInt n).toInt32 :: sa, ⟨rfl, hs⟩, fun g => lv_bipush C0.1 C0.2.1 hd rfl g⟩
theorem ab_p_sipush (C0 : ab_C scr p s m args meth c R mi dp X A) {n : Int} (hd : decode (ab_code mi) pc = .ok (.sipush n, len)) (h : ab_sI scr mi L M pc ls st (.sipush n) len = some (L2, (pc2, ls2, st2), M2)) (k : ∀ ad2, ad <+: ad2 → ab_G p l e R s m args below meth c Q mi X A D Lf L2 M2 pc2 ls2 st2 ad2) : ab_G p l e R s m args below meth c Q mi X A D Lf L M pc ls st ad := by
  obtain ⟨rfl, h⟩ := ab_ck_some h
  obtain ⟨rfl, rfl, rfl, rfl, rfl⟩ := ab_go_some h
  refine ab_pS ⟨rfl, rfl, rfl⟩ (fun H locs cells slots la lv sa hl hL hs hS => ?_) k
  exact ⟨.int (Int16.ofInt n).toInt32 :: sa, ⟨rfl, hs⟩, fun g => lv_sipush C0.1 C0.2.1 hd rfl g⟩
theorem ab_p_lconst (C0 : ab_C scr p s m args meth c R mi dp X A) {n : Fin 2} (hd : decode (ab_code mi) pc = .ok (.lconst n, len)) (h : ab_sI scr mi L M pc ls st (.lconst n) len = some (L2, (pc2, ls2, st2), M2)) (k : ∀ ad2, ad <+: ad2 → ab_G p l e R s m args below meth c Q mi X A D Lf L2 M2 pc2 ls2 st2 ad2) : ab_G p l e R s m args below meth c Q mi X A D Lf L M pc ls st ad := by
  obtain ⟨rfl, h⟩ := ab_ck_some h
  obtain ⟨rfl, rfl, rfl, rfl, rfl⟩ := ab_go_some h
  refine ab_pS ⟨rfl, rfl, rfl⟩ (fun H locs cells slots la lv sa hl hL hs hS => ?_) k
  exact ⟨.long (Int64.ofNat (n : Nat)) :: sa, ⟨rfl, hs⟩, fun g => lv_lconst C0.1 C0.2.1 hd rfl g⟩
theorem ab_p_iload_n (C0 : ab_C scr p s m args meth c R mi dp X A) {n : Fin 4} (hd : decode (ab_code mi) pc = .ok (.iload_n n, len)) (h : ab_sI scr mi L M pc ls st (.iload_n n) len = some (L2, (pc2, ls2, st2), M2)) (k : ∀ ad2, ad <+: ad2 → ab_G p l e R s m args below meth c Q mi X A D Lf L2 M2 pc2 ls2 st2 ad2) : ab_G p l e R s m args below meth c Q mi X A D Lf L M pc ls st ad := by
  obtain ⟨rfl, h⟩ := ab_ck_some h
  obtain ⟨x, hx, h⟩ := ab_li_some h
  obtain ⟨rfl, rfl, rfl, rfl, rfl⟩ := ab_go_some h
  refine ab_pS ⟨rfl, rfl, rfl⟩ (fun H locs cells slots la lv sa hl hL hs hS => ?_) k
  obtain ⟨w, h1, rfl⟩ := ab_at hl hL hx
  exact ⟨.int x :: sa, ⟨rfl, hs⟩, fun g => lv_iload_n C0.1 C0.2.1 hd rfl h1 g⟩
theorem ab_p_iload (C0 : ab_C scr p s m args meth c R mi dp X A) {n : Nat} (hd : decode (ab_code mi) pc = .ok (.iload n, len)) (h : ab_sI scr mi L M pc ls st (.iload n) len = some (L2, (pc2, ls2, st2), M2)) (k : ∀ ad2, ad <+: ad2 → ab_G p l e R s m args below meth c Q mi X A D Lf L2 M2 pc2 ls2 st2 ad2) : ab_G p l e R s m args below meth c Q mi X A D Lf L M pc ls st ad := by
  obtain ⟨rfl, h⟩ := ab_ck_some h
  obtain ⟨x, hx, h⟩ := ab_li_some h
  obtain ⟨rfl, rfl, rfl, rfl, rfl⟩ := ab_go_some h
  refine ab_pS ⟨rfl, rfl, rfl⟩ (fun H locs cells slots la lv sa hl hL hs hS => ?_) k
  obtain ⟨w, h1, rfl⟩ := ab_at hl hL hx
  exact ⟨.int x :: sa, ⟨rfl, hs⟩, fun g => lv_iload C0.1 C0.2.1 hd h1 g⟩
theorem ab_p_lload_n (C0 : ab_C scr p s m args meth c R mi dp X A) {n : Fin 4} (hd : decode (ab_code mi) pc = .ok (.lload_n n, len)) (h : ab_sI scr mi L M pc ls st (.lload_n n) len = some (L2, (pc2, ls2, st2), M2)) (k : ∀ ad2, ad <+: ad2 → ab_G p l e R s m args below meth c Q mi X A D Lf L2 M2 pc2 ls2 st2 ad2) : ab_G p l e R s m args below meth c Q mi X A D Lf L M pc ls st ad := by
  obtain ⟨rfl, h⟩ := ab_ck_some h
  obtain ⟨x, hx, h⟩ := ab_lj_some h
  obtain ⟨rfl, rfl, rfl, rfl, rfl⟩ := ab_go_some h
  refine ab_pS ⟨rfl, rfl, rfl⟩ (fun H locs cells slots la lv sa hl hL hs hS => ?_) k
  obtain ⟨w, h1, rfl⟩ := ab_at hl hL hx
  exact ⟨.long x :: sa, ⟨rfl, hs⟩, fun g => lv_lload_n C0.1 C0.2.1 hd rfl h1 g⟩
theorem ab_p_lload (C0 : ab_C scr p s m args meth c R mi dp X A) {n : Nat} (hd : decode (ab_code mi) pc = .ok (.lload n, len)) (h : ab_sI scr mi L M pc ls st (.lload n) len = some (L2, (pc2, ls2, st2), M2)) (k : ∀ ad2, ad <+: ad2 → ab_G p l e R s m args below meth c Q mi X A D Lf L2 M2 pc2 ls2 st2 ad2) : ab_G p l e R s m args below meth c Q mi X A D Lf L M pc ls st ad := by
  obtain ⟨rfl, h⟩ := ab_ck_some h
  obtain ⟨x, hx, h⟩ := ab_lj_some h
  obtain ⟨rfl, rfl, rfl, rfl, rfl⟩ := ab_go_some h
  refine ab_pS ⟨rfl, rfl, rfl⟩ (fun H locs cells slots la lv sa hl hL hs hS => ?_) k
  obtain ⟨w, h1, rfl⟩ := ab_at hl hL hx
  exact ⟨.long x :: sa, ⟨rfl, hs⟩, fun g => lv_lload C0.1 C0.2.1 hd h1 g⟩
theorem ab_p_aload_n (C0 : ab_C scr p s m args meth c R mi dp X A) {n : Fin 4} (hd : decode (ab_code mi) pc = .ok (.aload_n n, len)) (h : ab_sI scr mi L M pc ls st (.aload_n n) len = some (L2, (pc2, ls2, st2), M2)) (k : ∀ ad2, ad <+: ad2 → ab_G p l e R s m args below meth c Q mi X A D Lf L2 M2 pc2 ls2 st2 ad2) : ab_G p l e R s m args below meth c Q mi X A D Lf L M pc ls st ad := by
  obtain ⟨rfl, h⟩ := ab_ck_some h
  obtain ⟨x, hx, h⟩ := ab_lr_some h
  obtain ⟨rfl, rfl, rfl, rfl, rfl⟩ := ab_go_some h
  refine ab_pS ⟨rfl, rfl, rfl⟩ (fun H locs cells slots la lv sa hl hL hs hS => ?_) k
  obtain ⟨w, h1, a, h2, rfl⟩ := ab_at hl hL hx
  exact ⟨.ref a :: sa, ⟨⟨a, h2, rfl⟩, hs⟩, fun g => lv_aload_n C0.1 C0.2.1 hd rfl h1 g⟩
theorem ab_p_aload (C0 : ab_C scr p s m args meth c R mi dp X A) {n : Nat} (hd : decode (ab_code mi) pc = .ok (.aload n, len)) (h : ab_sI scr mi L M pc ls st (.aload n) len = some (L2, (pc2, ls2, st2), M2)) (k : ∀ ad2, ad <+: ad2 → ab_G p l e R s m args below meth c Q mi X A D Lf L2 M2 pc2 ls2 st2 ad2) : ab_G p l e R s m args below meth c Q mi X A D Lf L M pc ls st ad := by
  obtain ⟨rfl, h⟩ := ab_ck_some h
  obtain ⟨x, hx, h⟩ := ab_lr_some h
  obtain ⟨rfl, rfl, rfl, rfl, rfl⟩ := ab_go_some h
  refine ab_pS ⟨rfl, rfl, rfl⟩ (fun H locs cells slots la lv sa hl hL hs hS => ?_) k
  obtain ⟨w, h1, a, h2, rfl⟩ := ab_at hl hL hx
  exact ⟨.ref a :: sa, ⟨⟨a, h2, rfl⟩, hs⟩, fun g => lv_aload C0.1 C0.2.1 hd h1 g⟩
/-- what changes the locals too -/
theorem ab_pT (h : L = L2 ∧ M = M2) (hT : ∀ (H : Heap) (locs : List Loc) (cells slots : Nat) (la : Array Slot) (lv : List (Nat × Value)) (sa : List Value), lv_has la (ab_nL mi) lv → ab_rL X ad ls lv → ab_rS X ad st sa → ∃ sa2 lv2, ab_rS X ad st2 sa2 ∧ ab_rL X ad ls2 lv2 ∧ ((∀ la2, lv_has la2 (ab_nL mi) lv2 → W p l e R s m args below meth c (H) (locs) (cells) (slots) Q (F0 m pc2 la2 sa2)) → W p l e R s m args below meth c (H) (locs) (cells) (slots) Q (F0 m pc la sa))) (k : ∀ ad2, ad <+: ad2 → ab_G p l e R s m args below meth c Q mi X A D Lf L2 M2 pc2 ls2 st2 ad2) : ab_G p l e R s m args below meth c Q mi X A D Lf L M pc ls st ad := by
  obtain ⟨rfl, rfl⟩ := h
  intro H locs cells slots tys ws la lv sa hK hP hD hS hW hl hL hs hc1 hc2
  obtain ⟨sa2, lv2, h1, h2, h3⟩ := hT H locs cells slots la lv sa hl hL hs
  exact h3 (fun la2 hl2 => k ad (List.prefix_refl _) H locs cells slots tys ws la2 lv2 sa2 hK hP hD hS hW hl2 h2 h1 hc1 hc2)
theorem ab_p_istore_n (C0 : ab_C scr p s m args meth c R mi dp X A) {n : Fin 4} (hd : decode (ab_code mi) pc = .ok (.istore_n n, len)) (h : ab_sI scr mi L M pc ls st (.istore_n n) len = some (L2, (pc2, ls2, st2), M2)) (k : ∀ ad2, ad <+: ad2 → ab_G p l e R s m args below meth c Q mi X A D Lf L2 M2 pc2 ls2 st2 ad2) : ab_G p l e R s m args below meth c Q mi X A D Lf L M pc ls st ad := by
  obtain ⟨rfl, h⟩ := ab_ck_some h
  obtain ⟨x, t, rfl, h⟩ := ab_I_some h
  obtain ⟨hn, h⟩ := ab_if_some h
  obtain ⟨rfl, rfl, rfl, rfl, rfl⟩ := ab_go_some h
  refine ab_pT ⟨rfl, rfl⟩ (fun H locs cells slots la lv sa hl hL hs => ?_) k
  obtain ⟨ws, e9, hs9⟩ := ab_rS_int hs; subst e9; clear hs; have hs := hs9; clear hs9
  exact ⟨ws, _, hs, ab_rL_st1 hL (rfl : ab_rv X ad (.int x) (.int x)), fun g => lv_istore_n C0.1 C0.2.1 hd rfl hl hn rfl g⟩
theorem ab_p_istore (C0 : ab_C scr p s m args meth c R mi dp X A) {n : Nat} (hd : decode (ab_code mi) pc = .ok (.istore n, len)) (h : ab_sI scr mi L M pc ls st (.istore n) len = some (L2, (pc2, ls2, st2), M2)) (k : ∀ ad2, ad <+: ad2 → ab_G p l e R s m args below meth c Q mi X A D Lf L2 M2 pc2 ls2 st2 ad2) : ab_G p l e R s m args below meth c Q mi X A D Lf L M pc ls st ad := by
  obtain ⟨rfl, h⟩ := ab_ck_some h
  obtain ⟨x, t, rfl, h⟩ := ab_I_some h
  obtain ⟨hn, h⟩ := ab_if_some h
  obtain ⟨rfl, rfl, rfl, rfl, rfl⟩ := ab_go_some h
  refine ab_pT ⟨rfl, rfl⟩ (fun H locs cells slots la lv sa hl hL hs => ?_) k
  obtain ⟨ws, e9, hs9⟩ := ab_rS_int hs; subst e9; clear hs; have hs := hs9; clear hs9
  exact ⟨ws, _, hs, ab_rL_st1 hL (rfl : ab_rv X ad (.int x) (.int x)), fun g => lv_istore C0.1 C0.2.1 hd hl hn rfl g⟩
theorem ab_p_lstore_n (C0 : ab_C scr p s m args meth c R mi dp X A) {n : Fin 4} (hd : decode (ab_code mi) pc = .ok (.lstore_n n, len)) (h : ab_sI scr mi L M pc ls st (.lstore_n n) len = some (L2, (pc2, ls2, st2), M2)) (k : ∀ ad2, ad <+: ad2 → ab_G p l e R s m args below meth c Q mi X A D Lf L2 M2 pc2 ls2 st2 ad2) : ab_G p l e R s m args below meth c Q mi X A D Lf L M pc ls st ad := by
  obtain ⟨rfl, h⟩ := ab_ck_some h
  obtain ⟨x, t, rfl, h⟩ := ab_J_some h
  obtain ⟨hn, h⟩ := ab_if_some h
  obtain ⟨rfl, rfl, rfl, rfl, rfl⟩ := ab_go_some h
  refine ab_pT ⟨rfl, rfl⟩ (fun H locs cells slots la lv sa hl hL hs => ?_) k
  obtain ⟨ws, e9, hs9⟩ := ab_rS_long hs; subst e9; clear hs; have hs := hs9; clear hs9
  exact ⟨ws, _, hs, ab_rL_st2 hL (rfl : ab_rv X ad (.long x) (.long x)), fun g => lv_lstore_n C0.1 C0.2.1 hd rfl hl hn rfl g⟩
theorem ab_p_lstore (C0 : ab_C scr p s m args meth c R mi dp X A) {n : Nat} (hd : decode (ab_code mi) pc = .ok (.lstore n, len)) (h : ab_sI scr mi L M pc ls st (.lstore n) len = some (L2, (pc2, ls2, st2), M2)) (k : ∀ ad2, ad <+: ad2 → ab_G p l e R s m args below meth c Q mi X A D Lf L2 M2 pc2 ls2 st2 ad2) : ab_G p l e R s m args below meth c Q mi X A D Lf L M pc ls st ad := by
  obtain ⟨rfl, h⟩ := ab_ck_some h
  obtain ⟨x, t, rfl, h⟩ := ab_J_some h
  obtain ⟨hn, h⟩ := ab_if_some h
  obtain ⟨rfl, rfl, rfl, rfl, rfl⟩ := ab_go_some h
  refine ab_pT ⟨rfl, rfl⟩ (fun H locs cells slots la lv sa hl hL hs => ?_) k
  obtain ⟨ws, e9, hs9⟩ := ab_rS_long hs; subst e9; clear hs; have hs := hs9; clear hs9
  exact ⟨ws, _, hs, ab_rL_st2 hL (rfl : ab_rv X ad (.long x) (.long x)), fun g => lv_lstore C0.1 C0.2.1 hd hl hn rfl g⟩
theorem ab_p_astore_n (C0 : ab_C scr p s m args meth c R mi dp X A) {n : Fin 4} (hd : decode (ab_code mi) pc = .ok (.astore_n n, len)) (h : ab_sI scr mi L M pc ls st (.astore_n n) len = some (L2, (pc2, ls2, st2), M2)) (k : ∀ ad2, ad <+: ad2 → ab_G p l e R s m args below meth c Q mi X A D Lf L2 M2 pc2 ls2 st2 ad2) : ab_G p l e R s m args below meth c Q mi X A D Lf L M pc ls st ad := by
  obtain ⟨rfl, h⟩ := ab_ck_some h
  obtain ⟨x, t, rfl, h⟩ := ab_R_some h
  obtain ⟨hn, h⟩ := ab_if_some h
  obtain ⟨rfl, rfl, rfl, rfl, rfl⟩ := ab_go_some h
  refine ab_pT ⟨rfl, rfl⟩ (fun H locs cells slots la lv sa hl hL hs => ?_) k
  obtain ⟨a, ws, ha, e9, hs9⟩ := ab_rS_ref hs; subst e9; clear hs; have hs := hs9; clear hs9
  exact ⟨ws, _, hs, ab_rL_st1 hL (⟨a, ha, rfl⟩ : ab_rv X ad (.ref x) (.ref a)), fun g => lv_astore_n C0.1 C0.2.1 hd rfl hl hn rfl g⟩
theorem ab_p_astore (C0 : ab_C scr p s m args meth c R mi dp X A) {n : Nat} (hd : decode (ab_code mi) pc = .ok (.astore n, len)) (h : ab_sI scr mi L M pc ls st (.astore n) len = some (L2, (pc2, ls2, st2), M2)) (k : ∀ ad2, ad <+: ad2 → ab_G p l e R s m args below meth c Q mi X A D Lf L2 M2 pc2 ls2 st2 ad2) : ab_G p l e R s m args below meth c Q mi X A D Lf L M pc ls st ad := by
  obtain ⟨rfl, h⟩ := ab_ck_some h
  obtain ⟨x, t, rfl, h⟩ := ab_R_some h
  obtain ⟨hn, h⟩ := ab_if_some h
  obtain ⟨rfl, rfl, rfl, rfl, rfl⟩ := ab_go_some h
  refine ab_pT ⟨rfl, rfl⟩ (fun H locs cells slots la lv sa hl hL hs => ?_) k
  obtain ⟨a, ws, ha, e9, hs9⟩ := ab_rS_ref hs; subst e9; clear hs; have hs := hs9; clear hs9
  exact ⟨ws, _, hs, ab_rL_st1 hL (⟨a, ha, rfl⟩ : ab_rv X ad (.ref x) (.ref a)), fun g => lv_astore C0.1 C0.2.1 hd hl hn rfl g⟩
theorem ab_p_iinc (C0 : ab_C scr p s m args meth c R mi dp X A) {n : Nat} {z : Int} (hd : decode (ab_code mi) pc = .ok (.iinc n z, len)) (h : ab_sI scr mi L M pc ls st (.iinc n z) len = some (L2, (pc2, ls2, st2), M2)) (k : ∀ ad2, ad <+: ad2 → ab_G p l e R s m args below meth c Q mi X A D Lf L2 M2 pc2 ls2 st2 ad2) : ab_G p l e R s m args below meth c Q mi X A D Lf L M pc ls st ad := by
  obtain ⟨rfl, h⟩ := ab_ck_some h
  obtain ⟨x, hx, h⟩ := ab_li_some h
  obtain ⟨hn, h⟩ := ab_if_some h
  obtain ⟨rfl, rfl, rfl, rfl, rfl⟩ := ab_go_some h
  refine ab_pT ⟨rfl, rfl⟩ (fun H locs cells slots la lv sa hl hL hs => ?_) k
  obtain ⟨w, h1, h2⟩ := hL n _ hx
  rw [ab_rv_int h2] at h1
  obtain ⟨q, hq⟩ := List.getElem?_of_mem h1
  exact ⟨sa, _, hs, ab_rL_st1 hL (rfl : ab_rv X ad (.int (x + Int32.ofInt z)) _), fun g => lv_iinc C0.1 C0.2.1 hd hl hq rfl hn rfl g⟩
theorem ab_p_iadd (C0 : ab_C scr p s m args meth c R mi dp X A) (hd : decode (ab_code mi) pc = .ok (.iadd, len)) (h : ab_sI scr mi L M pc ls st (.iadd) len = some (L2, (pc2, ls2, st2), M2)) (k : ∀ ad2, ad <+: ad2 → ab_G p l e R s m args below meth c Q mi X A D Lf L2 M2 pc2 ls2 st2 ad2) : ab_G p l e R s m args below meth c Q mi X A D Lf L M pc ls st ad := by
  obtain ⟨rfl, h⟩ := ab_ck_some h
  obtain ⟨y, t, rfl, h⟩ := ab_I_some h
  obtain ⟨x, t, rfl, h⟩ := ab_I_some h
  obtain ⟨rfl, rfl, rfl, rfl, rfl⟩ := ab_go_some h
  refine ab_pS ⟨rfl, rfl, rfl⟩ (fun H locs cells slots la lv sa hl hL hs hS => ?_) k
  obtain ⟨ws, e9, hs9⟩ := ab_rS_int hs; subst e9; clear hs; have hs := hs9; clear hs9
  obtain ⟨ws, e9, hs9⟩ := ab_rS_int hs; subst e9; clear hs; have hs := hs9; clear hs9
  exact ⟨_, ab_rS_i hs, fun g => lv_iadd C0.1 C0.2.1 hd g⟩
theorem ab_p_isub (C0 : ab_C scr p s m args meth c R mi dp X A) (hd : decode (ab_code mi) pc = .ok (.isub, len)) (h : ab_sI scr mi L M pc ls st (.isub) len = some (L2, (pc2, ls2, st2), M2)) (k : ∀ ad2, ad <+: ad2 → ab_G p l e R s m args below meth c Q mi X A D Lf L2 M2 pc2 ls2 st2 ad2) : ab_G p l e R s m args below meth c Q mi X A D Lf L M pc ls st ad := by
  obtain ⟨rfl, h⟩ := ab_ck_some h
  obtain ⟨y, t, rfl, h⟩ := ab_I_some h
  obtain ⟨x, t, rfl, h⟩ := ab_I_some h
  obtain ⟨rfl, rfl, rfl, rfl, rfl⟩ := ab_go_some h
  refine ab_pS ⟨rfl, rfl, rfl⟩ (fun H locs cells slots la lv sa hl hL hs hS => ?_) k
  obtain ⟨ws, e9, hs9⟩ := ab_rS_int hs; subst e9; clear hs; have hs := hs9; clear hs9
  obtain ⟨ws, e9, hs9⟩ := ab_rS_int hs; subst e9; clear hs; have hs := hs9; clear hs9
  exact ⟨_, ab_rS_i hs, fun g => lv_isub C0.1 C0.2.1 hd g⟩
theorem ab_p_imul (C0 : ab_C scr p s m args meth c R mi dp X A) (hd : decode (ab_code mi) pc = .ok (.imul, len)) (h : ab_sI scr mi L M pc ls st (.imul) len = some (L2, (pc2, ls2, st2), M2)) (k : ∀ ad2, ad <+: ad2 → ab_G p l e R s m args below meth c Q mi X A D Lf L2 M2 pc2 ls2 st2 ad2) : ab_G p l e R s m args below meth c Q mi X A D Lf L M pc ls st ad := by
  obtain ⟨rfl, h⟩ := ab_ck_some h
  obtain ⟨y, t, rfl, h⟩ := ab_I_some h
  obtain ⟨x, t, rfl, h⟩ := ab_I_some h
  obtain ⟨rfl, rfl, rfl, rfl, rfl⟩ := ab_go_some h
  refine ab_pS ⟨rfl, rfl, rfl⟩ (fun H locs cells slots la lv sa hl hL hs hS => ?_) k
  obtain ⟨ws, e9, hs9⟩ := ab_rS_int hs; subst e9; clear hs; have hs := hs9; clear hs9
  obtain ⟨ws, e9, hs9⟩ := ab_rS_int hs; subst e9; clear hs; have hs := hs9; clear hs9
  exact ⟨_, ab_rS_i hs, fun g => lv_imul C0.1 C0.2.1 hd g⟩
theorem ab_p_iand (C0 : ab_C scr p s m args meth c R mi dp X A) (hd : decode (ab_code mi) pc = .ok (.iand, len)) (h : ab_sI scr mi L M pc ls st (.iand) len = some (L2, (pc2, ls2, st2), M2)) (k : ∀ ad2, ad <+: ad2 → ab_G p l e R s m args below meth c Q mi X A D Lf L2 M2 pc2 ls2 st2 ad2) : ab_G p l e R s m args below meth c Q mi X A D Lf L M pc ls st ad := by
  obtain ⟨rfl, h⟩ := ab_ck_some h
  obtain ⟨y, t, rfl, h⟩ := ab_I_some h
  obtain ⟨x, t, rfl, h⟩ := ab_I_some h
  obtain ⟨rfl, rfl, rfl, rfl, rfl⟩ := ab_go_some h
  refine ab_pS ⟨rfl, rfl, rfl⟩ (fun H locs cells slots la lv sa hl hL hs hS => ?_) k
  obtain ⟨ws, e9, hs9⟩ := ab_rS_int hs; subst e9; clear hs; have hs := hs9; clear hs9
  obtain ⟨ws, e9, hs9⟩ := ab_rS_int hs; subst e9; clear hs; have hs := hs9; clear hs9
  exact ⟨_, ab_rS_i hs, fun g => lv_iand C0.1 C0.2.1 hd g⟩
theorem ab_p_ior (C0 : ab_C scr p s m args meth c R mi dp X A) (hd : decode (ab_code mi) pc = .ok (.ior, len)) (h : ab_sI scr mi L M pc ls st (.ior) len = some (L2, (pc2, ls2, st2), M2)) (k : ∀ ad2, ad <+: ad2 → ab_G p l e R s m args below meth c Q mi X A D Lf L2 M2 pc2 ls2 st2 ad2) : ab_G p l e R s m args below meth c Q mi X A D Lf L M pc ls st ad := by
  obtain ⟨rfl, h⟩ := ab_ck_some h
  obtain ⟨y, t, rfl, h⟩ := ab_I_some h
  obtain ⟨x, t, rfl, h⟩ := ab_I_some h
  obtain ⟨rfl, rfl, rfl, rfl, rfl⟩ := ab_go_some h
  refine ab_pS ⟨rfl, rfl, rfl⟩ (fun H locs cells slots la lv sa hl hL hs hS => ?_) k
  obtain ⟨ws, e9, hs9⟩ := ab_rS_int hs; subst e9; clear hs; have hs := hs9; clear hs9
  obtain ⟨ws, e9, hs9⟩ := ab_rS_int hs; subst e9; clear hs; have hs := hs9; clear hs9
  exact ⟨_, ab_rS_i hs, fun g => lv_ior C0.1 C0.2.1 hd g⟩
theorem ab_p_ixor (C0 : ab_C scr p s m args meth c R mi dp X A) (hd : decode (ab_code mi) pc = .ok (.ixor, len)) (h : ab_sI scr mi L M pc ls st (.ixor) len = some (L2, (pc2, ls2, st2), M2)) (k : ∀ ad2, ad <+: ad2 → ab_G p l e R s m args below meth c Q mi X A D Lf L2 M2 pc2 ls2 st2 ad2) : ab_G p l e R s m args below meth c Q mi X A D Lf L M pc ls st ad := by
  obtain ⟨rfl, h⟩ := ab_ck_some h
  obtain ⟨y, t, rfl, h⟩ := ab_I_some h
  obtain ⟨x, t, rfl, h⟩ := ab_I_some h
  obtain ⟨rfl, rfl, rfl, rfl, rfl⟩ := ab_go_some h
  refine ab_pS ⟨rfl, rfl, rfl⟩ (fun H locs cells slots la lv sa hl hL hs hS => ?_) k
  obtain ⟨ws, e9, hs9⟩ := ab_rS_int hs; subst e9; clear hs; have hs := hs9; clear hs9
  obtain ⟨ws, e9, hs9⟩ := ab_rS_int hs; subst e9; clear hs; have hs := hs9; clear hs9
  exact ⟨_, ab_rS_i hs, fun g => lv_ixor C0.1 C0.2.1 hd g⟩
theorem ab_p_ishl (C0 : ab_C scr p s m args meth c R mi dp X A) (hd : decode (ab_code mi) pc = .ok (.ishl, len)) (h : ab_sI scr mi L M pc ls st (.ishl) len = some (L2, (pc2, ls2, st2), M2)) (k : ∀ ad2, ad <+: ad2 → ab_G p l e R s m args below meth c Q mi X A D Lf L2 M2 pc2 ls2 st2 ad2) : ab_G p l e R s m args below meth c Q mi X A D Lf L M pc ls st ad := by
  obtain ⟨rfl, h⟩ := ab_ck_some h
  obtain ⟨y, t, rfl, h⟩ := ab_I_some h
  obtain ⟨x, t, rfl, h⟩ := ab_I_some h
  obtain ⟨rfl, rfl, rfl, rfl, rfl⟩ := ab_go_some h
  refine ab_pS ⟨rfl, rfl, rfl⟩ (fun H locs cells slots la lv sa hl hL hs hS => ?_) k
  obtain ⟨ws, e9, hs9⟩ := ab_rS_int hs; subst e9; clear hs; have hs := hs9; clear hs9
  obtain ⟨ws, e9, hs9⟩ := ab_rS_int hs; subst e9; clear hs; have hs := hs9; clear hs9
  exact ⟨_, ab_rS_i hs, fun g => lv_ishl C0.1 C0.2.1 hd g⟩
theorem ab_p_ishr (C0 : ab_C scr p s m args meth c R mi dp X A) (hd : decode (ab_code mi) pc = .ok (.ishr, len)) (h : ab_sI scr mi L M pc ls st (.ishr) len = some (L2, (pc2, ls2, st2), M2)) (k : ∀ ad2, ad <+: ad2 → ab_G p l e R s m args below meth c Q mi X A D Lf L2 M2 pc2 ls2 st2 ad2) : ab_G p l e R s m args below meth c Q mi X A D Lf L M pc ls st ad := by
  obtain ⟨rfl, h⟩ := ab_ck_some h
  obtain ⟨y, t, rfl, h⟩ := ab_I_some h
  obtain ⟨x, t, rfl, h⟩ := ab_I_some h
  obtain ⟨rfl, rfl, rfl, rfl, rfl⟩ := ab_go_some h
  refine ab_pS ⟨rfl, rfl, rfl⟩ (fun H locs cells slots la lv sa hl hL hs hS => ?_) k
  obtain ⟨ws, e9, hs9⟩ := ab_rS_int hs; subst e9; clear hs; have hs := hs9; clear hs9
  obtain ⟨ws, e9, hs9⟩ := ab_rS_int hs; subst e9; clear hs; have hs := hs9; clear hs9
  exact ⟨_, ab_rS_i hs, fun g => lv_ishr C0.1 C0.2.1 hd g⟩
theorem ab_p_iushr (C0 : ab_C scr p s m args meth c R mi dp X A) (hd : decode (ab_code mi) pc = .ok (.iushr, len)) (h : ab_sI scr mi L M pc ls st (.iushr) len = some (L2, (pc2, ls2, st2), M2)) (k : ∀ ad2, ad <+: ad2 → ab_G p l e R s m args below meth c Q mi X A D Lf L2 M2 pc2 ls2 st2 ad2) : ab_G p l e R s m args below meth c Q mi X A D Lf L M pc ls st ad := by
  obtain ⟨rfl, h⟩ := ab_ck_some h
  obtain ⟨y, t, rfl, h⟩ := ab_I_some h
  obtain ⟨x, t, rfl, h⟩ := ab_I_some h
  obtain ⟨rfl, rfl, rfl, rfl, rfl⟩ := ab_go_some h
  refine ab_pS ⟨rfl, rfl, rfl⟩ (fun H locs cells slots la lv sa hl hL hs hS => ?_) k
  obtain ⟨ws, e9, hs9⟩ := ab_rS_int hs; subst e9; clear hs; have hs := hs9; clear hs9
  obtain ⟨ws, e9, hs9⟩ := ab_rS_int hs; subst e9; clear hs; have hs := hs9; clear hs9
  exact ⟨_, ab_rS_i hs, fun g => lv_iushr C0.1 C0.2.1 hd rfl g⟩
theorem ab_p_ineg (C0 : ab_C scr p s m args meth c R mi dp X A) (hd : decode (ab_code mi) pc = .ok (.ineg, len)) (h : ab_sI scr mi L M pc ls st (.ineg) len = some (L2, (pc2, ls2, st2), M2)) (k : ∀ ad2, ad <+: ad2 → ab_G p l e R s m args below meth c Q mi X A D Lf L2 M2 pc2 ls2 st2 ad2) : ab_G p l e R s m args below meth c Q mi X A D Lf L M pc ls st ad := by
  obtain ⟨rfl, h⟩ := ab_ck_some h
  obtain ⟨x, t, rfl, h⟩ := ab_I_some h
  obtain ⟨rfl, rfl, rfl, rfl, rfl⟩ := ab_go_some h
  refine ab_pS ⟨rfl, rfl, rfl⟩ (fun H locs cells slots la lv sa hl hL hs hS => ?_) k
  obtain ⟨ws, e9, hs9⟩ := ab_rS_int hs; subst e9; clear hs; have hs := hs9; clear hs9
  exact ⟨_, ab_rS_i hs, fun g => lv_ineg C0.1 C0.2.1 hd g⟩
theorem ab_p_i2b (C0 : ab_C scr p s m args meth c R mi dp X A) (hd : decode (ab_code mi) pc = .ok (.i2b, len)) (h : ab_sI scr mi L M pc ls st (.i2b) len = some (L2, (pc2, ls2, st2), M2)) (k : ∀ ad2, ad <+: ad2 → ab_G p l e R s m args below meth c Q mi X A D Lf L2 M2 pc2 ls2 st2 ad2) : ab_G p l e R s m args below meth c Q mi X A D Lf L M pc ls st ad := by
  obtain ⟨rfl, h⟩ := ab_ck_some h
  obtain ⟨x, t, rfl, h⟩ := ab_I_some h
  obtain ⟨rfl, rfl, rfl, rfl, rfl⟩ := ab_go_some h
  refine ab_pS ⟨rfl, rfl, rfl⟩ (fun H locs cells slots la lv sa hl hL hs hS => ?_) k
  obtain ⟨ws, e9, hs9⟩ := ab_rS_int hs; subst e9; clear hs; have hs := hs9; clear hs9
  exact ⟨_, ab_rS_i hs, fun g => lv_i2b C0.1 C0.2.1 hd rfl g⟩
theorem ab_p_i2s (C0 : ab_C scr p s m args meth c R mi dp X A) (hd : decode (ab_code mi) pc = .ok (.i2s, len)) (h : ab_sI scr mi L M pc ls st (.i2s) len = some (L2, (pc2, ls2, st2), M2)) (k : ∀ ad2, ad <+: ad2 → ab_G p l e R s m args below meth c Q mi X A D Lf L2 M2 pc2 ls2 st2 ad2) : ab_G p l e R s m args below meth c Q mi X A D Lf L M pc ls st ad := by
  obtain ⟨rfl, h⟩ := ab_ck_some h
  obtain ⟨x, t, rfl, h⟩ := ab_I_some h
  obtain ⟨rfl, rfl, rfl, rfl, rfl⟩ := ab_go_some h
  refine ab_pS ⟨rfl, rfl, rfl⟩ (fun H locs cells slots la lv sa hl hL hs hS => ?_) k
  obtain ⟨ws, e9, hs9⟩ := ab_rS_int hs; subst e9; clear hs; have hs := hs9; clear hs9
  exact ⟨_, ab_rS_i hs, fun g => lv_i2s C0.1 C0.2.1 hd rfl g⟩
theorem ab_p_i2c (C0 : ab_C scr p s m args meth c R mi dp X A) (hd : decode (ab_code mi) pc = .ok (.i2c, len)) (h : ab_sI scr mi L M pc ls st (.i2c) len = some (L2, (pc2, ls2, st2), M2)) (k : ∀ ad2, ad <+: ad2 → ab_G p l e R s m args below meth c Q mi X A D Lf L2 M2 pc2 ls2 st2 ad2) : ab_G p l e R s m args below meth c Q mi X A D Lf L M pc ls st ad := by
  obtain ⟨rfl, h⟩ := ab_ck_some h
  obtain ⟨x, t, rfl, h⟩ := ab_I_some h
  obtain ⟨rfl, rfl, rfl, rfl, rfl⟩ := ab_go_some h
  refine ab_pS ⟨rfl, rfl, rfl⟩ (fun H locs cells slots la lv sa hl hL hs hS => ?_) k
  obtain ⟨ws, e9, hs9⟩ := ab_rS_int hs; subst e9; clear hs; have hs := hs9; clear hs9
  exact ⟨_, ab_rS_i hs, fun g => lv_i2c C0.1 C0.2.1 hd rfl g⟩
theorem ab_p_i2l (C0 : ab_C scr p s m args meth c R mi dp X A) (hd : decode (ab_code mi) pc = .ok (.i2l, len)) (h : ab_sI scr mi L M pc ls st (.i2l) len = some (L2, (pc2, ls2, st2), M2)) (k : ∀ ad2, ad <+: ad2 → ab_G p l e R s m args below meth c Q mi X A D Lf L2 M2 pc2 ls2 st2 ad2) : ab_G p l e R s m args below meth c Q mi X A D Lf L M pc ls st ad := by
  obtain ⟨rfl, h⟩ := ab_ck_some h
  obtain ⟨x, t, rfl, h⟩ := ab_I_some h
  obtain ⟨rfl, rfl, rfl, rfl, rfl⟩ := ab_go_some h
  refine ab_pS ⟨rfl, rfl, rfl⟩ (fun H locs cells slots la lv sa hl hL hs hS => ?_) k
  obtain ⟨ws, e9, hs9⟩ := ab_rS_int hs; subst e9; clear hs; have hs := hs9; clear hs9
  exact ⟨_, ab_rS_j hs, fun g => lv_i2l C0.1 C0.2.1 hd rfl g⟩
theorem ab_p_lneg (C0 : ab_C scr p s m args meth c R mi dp X A) (hd : decode (ab_code mi) pc = .ok (.lneg, len)) (h : ab_sI scr mi L M pc ls st (.lneg) len = some (L2, (pc2, ls2, st2), M2)) (k : ∀ ad2, ad <+: ad2 → ab_G p l e R s m args below meth c Q mi X A D Lf L2 M2 pc2 ls2 st2 ad2) : ab_G p l e R s m args below meth c Q mi X A D Lf L M pc ls st ad := by
  obtain ⟨rfl, h⟩ := ab_ck_some h
  obtain ⟨x, t, rfl, h⟩ := ab_J_some h
  obtain ⟨rfl, rfl, rfl, rfl, rfl⟩ := ab_go_some h
  refine ab_pS ⟨rfl, rfl, rfl⟩ (fun H locs cells slots la lv sa hl hL hs hS => ?_) k
  obtain ⟨ws, e9, hs9⟩ := ab_rS_long hs; subst e9; clear hs; have hs := hs9; clear hs9
  exact ⟨_, ab_rS_j hs, fun g => lv_lneg C0.1 C0.2.1 hd g⟩
theorem ab_p_l2i (C0 : ab_C scr p s m args meth c R mi dp X A) (hd : decode (ab_code mi) pc = .ok (.l2i, len)) (h : ab_sI scr mi L M pc ls st (.l2i) len = some (L2, (pc2, ls2, st2), M2)) (k : ∀ ad2, ad <+: ad2 → ab_G p l e R s m args below meth c Q mi X A D Lf L2 M2 pc2 ls2 st2 ad2) : ab_G p l e R s m args below meth c Q mi X A D Lf L M pc ls st ad := by
  obtain ⟨rfl, h⟩ := ab_ck_some h
  obtain ⟨x, t, rfl, h⟩ := ab_J_some h
  obtain ⟨rfl, rfl, rfl, rfl, rfl⟩ := ab_go_some h
  refine ab_pS ⟨rfl, rfl, rfl⟩ (fun H locs cells slots la lv sa hl hL hs hS => ?_) k
  obtain ⟨ws, e9, hs9⟩ := ab_rS_long hs; subst e9; clear hs; have hs := hs9; clear hs9
  exact ⟨_, ab_rS_i hs, fun g => lv_l2i C0.1 C0.2.1 hd rfl g⟩
theorem ab_p_ladd (C0 : ab_C scr p s m args meth c R mi dp X A) (hd : decode (ab_code mi) pc = .ok (.ladd, len)) (h : ab_sI scr mi L M pc ls st (.ladd) len = some (L2, (pc2, ls2, st2), M2)) (k : ∀ ad2, ad <+: ad2 → ab_G p l e R s m args below meth c Q mi X A D Lf L2 M2 pc2 ls2 st2 ad2) : ab_G p l e R s m args below meth c Q mi X A D Lf L M pc ls st ad := by
  obtain ⟨rfl, h⟩ := ab_ck_some h
  obtain ⟨y, t, rfl, h⟩ := ab_J_some h
  obtain ⟨x, t, rfl, h⟩ := ab_J_some h
  obtain ⟨rfl, rfl, rfl, rfl, rfl⟩ := ab_go_some h
  refine ab_pS ⟨rfl, rfl, rfl⟩ (fun H locs cells slots la lv sa hl hL hs hS => ?_) k
  obtain ⟨ws, e9, hs9⟩ := ab_rS_long hs; subst e9; clear hs; have hs := hs9; clear hs9
  obtain ⟨ws, e9, hs9⟩ := ab_rS_long hs; subst e9; clear hs; have hs := hs9; clear hs9
  exact ⟨_, ab_rS_j hs, fun g => lv_ladd C0.1 C0.2.1 hd g⟩
theorem ab_p_lsub (C0 : ab_C scr p s m args meth c R mi dp X A) (hd : decode (ab_code mi) pc = .ok (.lsub, len)) (h : ab_sI scr mi L M pc ls st (.lsub) len = some (L2, (pc2, ls2, st2), M2)) (k : ∀ ad2, ad <+: ad2 → ab_G p l e R s m args below meth c Q mi X A D Lf L2 M2 pc2 ls2 st2 ad2) : ab_G p l e R s m args below meth c Q mi X A D Lf L M pc ls st ad := by
  obtain ⟨rfl, h⟩ := ab_ck_some h
  obtain ⟨y, t, rfl, h⟩ := ab_J_some h
  obtain ⟨x, t, rfl, h⟩ := ab_J_some h
  obtain ⟨rfl, rfl, rfl, rfl, rfl⟩ := ab_go_some h
  refine ab_pS ⟨rfl, rfl, rfl⟩ (fun H locs cells slots la lv sa hl hL hs hS => ?_) k
  obtain ⟨ws, e9, hs9⟩ := ab_rS_long hs; subst e9; clear hs; have hs := hs9; clear hs9
  obtain ⟨ws, e9, hs9⟩ := ab_rS_long hs; subst e9; clear hs; have hs := hs9; clear hs9
  exact ⟨_, ab_rS_j hs, fun g => lv_lsub C0.1 C0.2.1 hd g⟩
theorem ab_p_lmul (C0 : ab_C scr p s m args meth c R mi dp X A) (hd : decode (ab_code mi) pc = .ok (.lmul, len)) (h : ab_sI scr mi L M pc ls st (.lmul) len = some (L2, (pc2, ls2, st2), M2)) (k : ∀ ad2, ad <+: ad2 → ab_G p l e R s m args below meth c Q mi X A D Lf L2 M2 pc2 ls2 st2 ad2) : ab_G p l e R s m args below meth c Q mi X A D Lf L M pc ls st ad := by
  obtain ⟨rfl, h⟩ := ab_ck_some h
  obtain ⟨y, t, rfl, h⟩ := ab_J_some h
  obtain ⟨x, t, rfl, h⟩ := ab_J_some h
  obtain ⟨rfl, rfl, rfl, rfl, rfl⟩ := ab_go_some h
  refine ab_pS ⟨rfl, rfl, rfl⟩ (fun H locs cells slots la lv sa hl hL hs hS => ?_) k
  obtain ⟨ws, e9, hs9⟩ := ab_rS_long hs; subst e9; clear hs; have hs := hs9; clear hs9
  obtain ⟨ws, e9, hs9⟩ := ab_rS_long hs; subst e9; clear hs; have hs := hs9; clear hs9
  exact ⟨_, ab_rS_j hs, fun g => lv_lmul C0.1 C0.2.1 hd g⟩
theorem ab_p_land (C0 : ab_C scr p s m args meth c R mi dp X A) (hd : decode (ab_code mi) pc = .ok (.land, len)) (h : ab_sI scr mi L M pc ls st (.land) len = some (L2, (pc2, ls2, st2), M2)) (k : ∀ ad2, ad <+: ad2 → ab_G p l e R s m args below meth c Q mi X A D Lf L2 M2 pc2 ls2 st2 ad2) : ab_G p l e R s m args below meth c Q mi X A D Lf L M pc ls st ad := by
  obtain ⟨rfl, h⟩ := ab_ck_some h
  obtain ⟨y, t, rfl, h⟩ := ab_J_some h
  obtain ⟨x, t, rfl, h⟩ := ab_J_some h
  obtain ⟨rfl, rfl, rfl, rfl, rfl⟩ := ab_go_some h
  refine ab_pS ⟨rfl, rfl, rfl⟩ (fun H locs cells slots la lv sa hl hL hs hS => ?_) k
  obtain ⟨ws, e9, hs9⟩ := ab_rS_long hs; subst e9; clear hs; have hs := hs9; clear hs9
  obtain ⟨ws, e9, hs9⟩ := ab_rS_long hs; subst e9; clear hs; have hs := hs9; clear hs9
  exact ⟨_, ab_rS_j hs, fun g => lv_land C0.1 C0.2.1 hd g⟩
theorem ab_p_lor (C0 : ab_C scr p s m args meth c R mi dp X A) (hd : decode (ab_code mi) pc = .ok (.lor, len)) (h : ab_sI scr mi L M pc ls st (.lor) len = some (L2, (pc2, ls2, st2), M2)) (k : ∀ ad2, ad <+: ad2 → ab_G p l e R s m args below meth c Q mi X A D Lf L2 M2 pc2 ls2 st2 ad2) : ab_G p l e R s m args below meth c Q mi X A D Lf L M pc ls st ad := by
  obtain ⟨rfl, h⟩ := ab_ck_some h
  obtain ⟨y, t, rfl, h⟩ := ab_J_some h
  obtain ⟨x, t, rfl, h⟩ := ab_J_some h
  obtain ⟨rfl, rfl, rfl, rfl, rfl⟩ := ab_go_some h
  refine ab_pS ⟨rfl, rfl, rfl⟩ (fun H locs cells slots la lv sa hl hL hs hS => ?_) k
  obtain ⟨ws, e9, hs9⟩ := ab_rS_long hs; subst e9; clear hs; have hs := hs9; clear hs9
  obtain ⟨ws, e9, hs9⟩ := ab_rS_long hs; subst e9; clear hs; have hs := hs9; clear hs9
  exact ⟨_, ab_rS_j hs, fun g => lv_lor C0.1 C0.2.1 hd g⟩
theorem ab_p_lcmp (C0 : ab_C scr p s m args meth c R mi dp X A) (hd : decode (ab_code mi) pc = .ok (.lcmp, len)) (h : ab_sI scr mi L M pc ls st (.lcmp) len = some (L2, (pc2, ls2, st2), M2)) (k : ∀ ad2, ad <+: ad2 → ab_G p l e R s m args below meth c Q mi X A D Lf L2 M2 pc2 ls2 st2 ad2) : ab_G p l e R s m args below meth c Q mi X A D Lf L M pc ls st ad := by
  obtain ⟨rfl, h⟩ := ab_ck_some h
  obtain ⟨y, t, rfl, h⟩ := ab_J_some h
  obtain ⟨x, t, rfl, h⟩ := ab_J_some h
  obtain ⟨rfl, rfl, rfl, rfl, rfl⟩ := ab_go_some h
  refine ab_pS ⟨rfl, rfl, rfl⟩ (fun H locs cells slots la lv sa hl hL hs hS => ?_) k
  obtain ⟨ws, e9, hs9⟩ := ab_rS_long hs; subst e9; clear hs; have hs := hs9; clear hs9
  obtain ⟨ws, e9, hs9⟩ := ab_rS_long hs; subst e9; clear hs; have hs := hs9; clear hs9
  exact ⟨_, ab_rS_i hs, fun g => W.lcmp C0.1 C0.2.1 hd g⟩
theorem ab_p_lshl (C0 : ab_C scr p s m args meth c R mi dp X A) (hd : decode (ab_code mi) pc = .ok (.lshl, len)) (h : ab_sI scr mi L M pc ls st (.lshl) len = some (L2, (pc2, ls2, st2), M2)) (k : ∀ ad2, ad <+: ad2 → ab_G p l e R s m args below meth c Q mi X A D Lf L2 M2 pc2 ls2 st2 ad2) : ab_G p l e R s m args below meth c Q mi X A D Lf L M pc ls st ad := by
  obtain ⟨rfl, h⟩ := ab_ck_some h
  obtain ⟨y, t, rfl, h⟩ := ab_I_some h
  obtain ⟨x, t, rfl, h⟩ := ab_J_some h
  obtain ⟨rfl, rfl, rfl, rfl, rfl⟩ := ab_go_some h
  refine ab_pS ⟨rfl, rfl, rfl⟩ (fun H locs cells slots la lv sa hl hL hs hS => ?_) k
  obtain ⟨ws, e9, hs9⟩ := ab_rS_int hs; subst e9; clear hs; have hs := hs9; clear hs9
  obtain ⟨ws, e9, hs9⟩ := ab_rS_long hs; subst e9; clear hs; have hs := hs9; clear hs9
  exact ⟨_, ab_rS_j hs, fun g => lv_lshl C0.1 C0.2.1 hd rfl g⟩
theorem ab_p_lshr (C0 : ab_C scr p s m args meth c R mi dp X A) (hd : decode (ab_code mi) pc = .ok (.lshr, len)) (h : ab_sI scr mi L M pc ls st (.lshr) len = some (L2, (pc2, ls2, st2), M2)) (k : ∀ ad2, ad <+: ad2 → ab_G p l e R s m args below meth c Q mi X A D Lf L2 M2 pc2 ls2 st2 ad2) : ab_G p l e R s m args below meth c Q mi X A D Lf L M pc ls st ad := by
  obtain ⟨rfl, h⟩ := ab_ck_some h
  obtain ⟨y, t, rfl, h⟩ := ab_I_some h
  obtain ⟨x, t, rfl, h⟩ := ab_J_some h
  obtain ⟨rfl, rfl, rfl, rfl, rfl⟩ := ab_go_some h
  refine ab_pS ⟨rfl, rfl, rfl⟩ (fun H locs cells slots la lv sa hl hL hs hS => ?_) k
  obtain ⟨ws, e9, hs9⟩ := ab_rS_int hs; subst e9; clear hs; have hs := hs9; clear hs9
  obtain ⟨ws, e9, hs9⟩ := ab_rS_long hs; subst e9; clear hs; have hs := hs9; clear hs9
  exact ⟨_, ab_rS_j hs, fun g => lv_lshr C0.1 C0.2.1 hd rfl g⟩
theorem ab_p_lushr (C0 : ab_C scr p s m args meth c R mi dp X A) (hd : decode (ab_code mi) pc = .ok (.lushr, len)) (h : ab_sI scr mi L M pc ls st (.lushr) len = some (L2, (pc2, ls2, st2), M2)) (k : ∀ ad2, ad <+: ad2 → ab_G p l e R s m args below meth c Q mi X A D Lf L2 M2 pc2 ls2 st2 ad2) : ab_G p l e R s m args below meth c Q mi X A D Lf L M pc ls st ad := by
  obtain ⟨rfl, h⟩ := ab_ck_some h
  obtain ⟨y, t, rfl, h⟩ := ab_I_some h
  obtain ⟨x, t, rfl, h⟩ := ab_J_some h
  obtain ⟨rfl, rfl, rfl, rfl, rfl⟩ := ab_go_some h
  refine ab_pS ⟨rfl, rfl, rfl⟩ (fun H locs cells slots la lv sa hl hL hs hS => ?_) k
  obtain ⟨ws, e9, hs9⟩ := ab_rS_int hs; subst e9; clear hs; have hs := hs9; clear hs9
  obtain ⟨ws, e9, hs9⟩ := ab_rS_long hs; subst e9; clear hs; have hs := hs9; clear hs9
  exact ⟨_, ab_rS_j hs, fun g => lv_lushr C0.1 C0.2.1 hd rfl g⟩
theorem ab_p_idiv (C0 : ab_C scr p s m args meth c R mi dp X A) (hd : decode (ab_code mi) pc = .ok (.idiv, len)) (h : ab_sI scr mi L M pc ls st (.idiv) len = some (L2, (pc2, ls2, st2), M2)) (k : ∀ ad2, ad <+: ad2 → ab_G p l e R s m args below meth c Q mi X A D Lf L2 M2 pc2 ls2 st2 ad2) : ab_G p l e R s m args below meth c Q mi X A D Lf L M pc ls st ad := by
  obtain ⟨rfl, h⟩ := ab_ck_some h
  obtain ⟨y, t, rfl, h⟩ := ab_I_some h
  obtain ⟨x, t, rfl, h⟩ := ab_I_some h
  obtain ⟨hn, h⟩ := ab_ifn_some h
  obtain ⟨rfl, rfl, rfl, rfl, rfl⟩ := ab_go_some h
  refine ab_pS ⟨rfl, rfl, rfl⟩ (fun H locs cells slots la lv sa hl hL hs hS => ?_) k
  obtain ⟨ws, e9, hs9⟩ := ab_rS_int hs; subst e9; clear hs; have hs := hs9; clear hs9
  obtain ⟨ws, e9, hs9⟩ := ab_rS_int hs; subst e9; clear hs; have hs := hs9; clear hs9
  exact ⟨_, ab_rS_i hs, fun g => lv_idiv C0.1 C0.2.1 hd hn g⟩
theorem ab_p_irem (C0 : ab_C scr p s m args meth c R mi dp X A) (hd : decode (ab_code mi) pc = .ok (.irem, len)) (h : ab_sI scr mi L M pc ls st (.irem) len = some (L2, (pc2, ls2, st2), M2)) (k : ∀ ad2, ad <+: ad2 → ab_G p l e R s m args below meth c Q mi X A D Lf L2 M2 pc2 ls2 st2 ad2) : ab_G p l e R s m args below meth c Q mi X A D Lf L M pc ls st ad := by
  obtain ⟨rfl, h⟩ := ab_ck_some h
  obtain ⟨y, t, rfl, h⟩ := ab_I_some h
  obtain ⟨x, t, rfl, h⟩ := ab_I_some h
  obtain ⟨hn, h⟩ := ab_ifn_some h
  obtain ⟨rfl, rfl, rfl, rfl, rfl⟩ := ab_go_some h
  refine ab_pS ⟨rfl, rfl, rfl⟩ (fun H locs cells slots la lv sa hl hL hs hS => ?_) k
  obtain ⟨ws, e9, hs9⟩ := ab_rS_int hs; subst e9; clear hs; have hs := hs9; clear hs9
  obtain ⟨ws, e9, hs9⟩ := ab_rS_int hs; subst e9; clear hs; have hs := hs9; clear hs9
  exact ⟨_, ab_rS_i hs, fun g => lv_irem C0.1 C0.2.1 hd hn g⟩
theorem ab_p_ldiv (C0 : ab_C scr p s m args meth c R mi dp X A) (hd : decode (ab_code mi) pc = .ok (.ldiv, len)) (h : ab_sI scr mi L M pc ls st (.ldiv) len = some (L2, (pc2, ls2, st2), M2)) (k : ∀ ad2, ad <+: ad2 → ab_G p l e R s m args below meth c Q mi X A D Lf L2 M2 pc2 ls2 st2 ad2) : ab_G p l e R s m args below meth c Q mi X A D Lf L M pc ls st ad := by
  obtain ⟨rfl, h⟩ := ab_ck_some h
  obtain ⟨y, t, rfl, h⟩ := ab_J_some h
  obtain ⟨x, t, rfl, h⟩ := ab_J_some h
  obtain ⟨hn, h⟩ := ab_ifn_some h
  obtain ⟨rfl, rfl, rfl, rfl, rfl⟩ := ab_go_some h
  refine ab_pS ⟨rfl, rfl, rfl⟩ (fun H locs cells slots la lv sa hl hL hs hS => ?_) k
  obtain ⟨ws, e9, hs9⟩ := ab_rS_long hs; subst e9; clear hs; have hs := hs9; clear hs9
  obtain ⟨ws, e9, hs9⟩ := ab_rS_long hs; subst e9; clear hs; have hs := hs9; clear hs9
  exact ⟨_, ab_rS_j hs, fun g => lv_ldiv C0.1 C0.2.1 hd hn g⟩
theorem ab_p_lrem (C0 : ab_C scr p s m args meth c R mi dp X A) (hd : decode (ab_code mi) pc = .ok (.lrem, len)) (h : ab_sI scr mi L M pc ls st (.lrem) len = some (L2, (pc2, ls2, st2), M2)) (k : ∀ ad2, ad <+: ad2 → ab_G p l e R s m args below meth c Q mi X A D Lf L2 M2 pc2 ls2 st2 ad2) : ab_G p l e R s m args below meth c Q mi X A D Lf L M pc ls st ad := by
  obtain ⟨rfl, h⟩ := ab_ck_some h
  obtain ⟨y, t, rfl, h⟩ := ab_J_some h
  obtain ⟨x, t, rfl, h⟩ := ab_J_some h
  obtain ⟨hn, h⟩ := ab_ifn_some h
  obtain ⟨rfl, rfl, rfl, rfl, rfl⟩ := ab_go_some h
  refine ab_pS ⟨rfl, rfl, rfl⟩ (fun H locs cells slots la lv sa hl hL hs hS => ?_) k
  obtain ⟨ws, e9, hs9⟩ := ab_rS_long hs; subst e9; clear hs; have hs := hs9; clear hs9
  obtain ⟨ws, e9, hs9⟩ := ab_rS_long hs; subst e9; clear hs; have hs := hs9; clear hs9
  exact ⟨_, ab_rS_j hs, fun g => lv_lrem C0.1 C0.2.1 hd hn g⟩
theorem ab_p_dup (C0 : ab_C scr p s m args meth c R mi dp X A) (hd : decode (ab_code mi) pc = .ok (.dup, len)) (h : ab_sI scr mi L M pc ls st (.dup) len = some (L2, (pc2, ls2, st2), M2)) (k : ∀ ad2, ad <+: ad2 → ab_G p l e R s m args below meth c Q mi X A D Lf L2 M2 pc2 ls2 st2 ad2) : ab_G p l e R s m args below meth c Q mi X A D Lf L M pc ls st ad := by
  obtain ⟨rfl, h⟩ := ab_ck_some h
  match st, h with
  | [], h => cases h
  | v :: r, h =>
    obtain ⟨hv, h⟩ := ab_if_some h
    obtain ⟨rfl, rfl, rfl, rfl, rfl⟩ := ab_go_some h
    refine ab_pS ⟨rfl, rfl, rfl⟩ (fun H locs cells slots la lv sa hl hL hs hS => ?_) k
    obtain ⟨w, ws, e9, h1, hs9⟩ := ab_rS_cons hs; subst e9; clear hs; have hs := hs9; clear hs9
    exact ⟨w :: w :: ws, ⟨h1, h1, hs⟩, fun g => lv_dup C0.1 C0.2.1 hd (by rw [ab_rv_cat h1]; exact Nat.eq_of_beq_eq_true hv) g⟩
theorem ab_p_pop (C0 : ab_C scr p s m args meth c R mi dp X A) (hd : decode (ab_code mi) pc = .ok (.pop, len)) (h : ab_sI scr mi L M pc ls st (.pop) len = some (L2, (pc2, ls2, st2), M2)) (k : ∀ ad2, ad <+: ad2 → ab_G p l e R s m args below meth c Q mi X A D Lf L2 M2 pc2 ls2 st2 ad2) : ab_G p l e R s m args below meth c Q mi X A D Lf L M pc ls st ad := by
  obtain ⟨rfl, h⟩ := ab_ck_some h
  match st, h with
  | [], h => cases h
  | v :: r, h =>
    obtain ⟨hv, h⟩ := ab_if_some h
    obtain ⟨rfl, rfl, rfl, rfl, rfl⟩ := ab_go_some h
    refine ab_pS ⟨rfl, rfl, rfl⟩ (fun H locs cells slots la lv sa hl hL hs hS => ?_) k
    obtain ⟨w, ws, e9, h1, hs9⟩ := ab_rS_cons hs; subst e9; clear hs; have hs := hs9; clear hs9
    exact ⟨ws, hs, fun g => lv_pop C0.1 C0.2.1 hd (by rw [ab_rv_cat h1]; exact Nat.eq_of_beq_eq_true hv) g⟩
theorem ab_p_dup2 (C0 : ab_C scr p s m args meth c R mi dp X A) (hd : decode (ab_code mi) pc = .ok (.dup2, len)) (h : ab_sI scr mi L M pc ls st (.dup2) len = some (L2, (pc2, ls2, st2), M2)) (k : ∀ ad2, ad <+: ad2 → ab_G p l e R s m args below meth c Q mi X A D Lf L2 M2 pc2 ls2 st2 ad2) : ab_G p l e R s m args below meth c Q mi X A D Lf L M pc ls st ad := by
  obtain ⟨rfl, h⟩ := ab_ck_some h
  match st, h with
  | [], h => cases h
  | [_], h => cases h
  | v :: w :: r, h =>
    obtain ⟨⟨hv, hw⟩, h⟩ := ab_if_some h
    obtain ⟨rfl, rfl, rfl, rfl, rfl⟩ := ab_go_some h
    refine ab_pS ⟨rfl, rfl, rfl⟩ (fun H locs cells slots la lv sa hl hL hs hS => ?_) k
    obtain ⟨v1, ws, e9, h1, hs9⟩ := ab_rS_cons hs; subst e9; clear hs; have hs := hs9; clear hs9
    obtain ⟨w1, ws, e9, h2, hs9⟩ := ab_rS_cons hs; subst e9; clear hs; have hs := hs9; clear hs9
    exact ⟨v1 :: w1 :: v1 :: w1 :: ws, ⟨h1, h2, h1, h2, hs⟩, fun g => lv_dup2_11 C0.1 C0.2.1 hd (by rw [ab_rv_cat h1]; exact Nat.eq_of_beq_eq_true hv) (by rw [ab_rv_cat h2]; exact Nat.eq_of_beq_eq_true hw) g⟩
theorem ab_p_goto (C0 : ab_C scr p s m args meth c R mi dp X A) {off : Int} (hd : decode (ab_code mi) pc = .ok (.goto off, len)) (h : ab_sI scr mi L M pc ls st (.goto off) len = some (L2, (pc2, ls2, st2), M2)) (k : ∀ ad2, ad <+: ad2 → ab_G p l e R s m args below meth c Q mi X A D Lf L2 M2 pc2 ls2 st2 ad2) : ab_G p l e R s m args below meth c Q mi X A D Lf L M pc ls st ad := by
  obtain ⟨rfl, h⟩ := ab_ck_some h
  obtain ⟨rfl, rfl, ht, rfl, rfl⟩ := ab_jm_some h
  refine ab_pS ⟨rfl, rfl, rfl⟩ (fun H locs cells slots la lv sa hl hL hs hS => ?_) k
  exact ⟨sa, hs, fun g => lv_goto C0.1 C0.2.1 hd ht g⟩
theorem ab_p_if_eq (C0 : ab_C scr p s m args meth c R mi dp X A) {off : Int} (hd : decode (ab_code mi) pc = .ok (.ifCond .eq off, len)) (h : ab_sI scr mi L M pc ls st (.ifCond .eq off) len = some (L2, (pc2, ls2, st2), M2)) (k : ∀ ad2, ad <+: ad2 → ab_G p l e R s m args below meth c Q mi X A D Lf L2 M2 pc2 ls2 st2 ad2) : ab_G p l e R s m args below meth c Q mi X A D Lf L M pc ls st ad := by
  obtain ⟨rfl, h⟩ := ab_ck_some h
  obtain ⟨x, t, rfl, h⟩ := ab_I_some h
  obtain ⟨tgt, ht, h⟩ := ab_br_some h
  rcases h with ⟨q, h⟩ | ⟨q, h⟩
  · obtain ⟨rfl, rfl, rfl, rfl, rfl⟩ := ab_go_some h
    have q : x = 0 := of_decide_eq_true q
    refine ab_pS ⟨rfl, rfl, rfl⟩ (fun H locs cells slots la lv sa hl hL hs hS => ?_) k
    obtain ⟨ws, e9, hs9⟩ := ab_rS_int hs; subst e9; clear hs; have hs := hs9; clear hs9
    exact ⟨ws, hs, fun g => lv_if_eq C0.1 C0.2.1 hd ht (fun _ => g) (fun z => absurd q z)⟩
  · obtain ⟨rfl, rfl, rfl, rfl, rfl⟩ := ab_go_some h
    have q : ¬ (x = 0) := of_decide_eq_false q
    refine ab_pS ⟨rfl, rfl, rfl⟩ (fun H locs cells slots la lv sa hl hL hs hS => ?_) k
    obtain ⟨ws, e9, hs9⟩ := ab_rS_int hs; subst e9; clear hs; have hs := hs9; clear hs9
    exact ⟨ws, hs, fun g => lv_if_eq C0.1 C0.2.1 hd ht (fun z => absurd z q) (fun _ => g)⟩
theorem ab_p_icmp_eq (C0 : ab_C scr p s m args meth c R mi dp X A) {off : Int} (hd : decode (ab_code mi) pc = .ok (.if_icmp .eq off, len)) (h : ab_sI scr mi L M pc ls st (.if_icmp .eq off) len = some (L2, (pc2, ls2, st2), M2)) (k : ∀ ad2, ad <+: ad2 → ab_G p l e R s m args below meth c Q mi X A D Lf L2 M2 pc2 ls2 st2 ad2) : ab_G p l e R s m args below meth c Q mi X A D Lf L M pc ls st ad := by
  obtain ⟨rfl, h⟩ := ab_ck_some h
  obtain ⟨y, t, rfl, h⟩ := ab_I_some h
  obtain ⟨x, t, rfl, h⟩ := ab_I_some h
  obtain ⟨tgt, ht, h⟩ := ab_br_some h
  rcases h with ⟨q, h⟩ | ⟨q, h⟩
  · obtain ⟨rfl, rfl, rfl, rfl, rfl⟩ := ab_go_some h
    have q : x = y := of_decide_eq_true q
    refine ab_pS ⟨rfl, rfl, rfl⟩ (fun H locs cells slots la lv sa hl hL hs hS => ?_) k
    obtain ⟨ws, e9, hs9⟩ := ab_rS_int hs; subst e9; clear hs; have hs := hs9; clear hs9
    obtain ⟨ws, e9, hs9⟩ := ab_rS_int hs; subst e9; clear hs; have hs := hs9; clear hs9
    exact ⟨ws, hs, fun g => lv_icmp_eq C0.1 C0.2.1 hd ht (fun _ => g) (fun z => absurd q z)⟩
  · obtain ⟨rfl, rfl, rfl, rfl, rfl⟩ := ab_go_some h
    have q : ¬ (x = y) := of_decide_eq_false q
    refine ab_pS ⟨rfl, rfl, rfl⟩ (fun H locs cells slots la lv sa hl hL hs hS => ?_) k
    obtain ⟨ws, e9, hs9⟩ := ab_rS_int hs; subst e9; clear hs; have hs := hs9; clear hs9
    obtain ⟨ws, e9, hs9⟩ := ab_rS_int hs; subst e9; clear hs; have hs := hs9; clear hs9
    exact ⟨ws, hs, fun g => lv_icmp_eq C0.1 C0.2.1 hd ht (fun z => absurd z q) (fun _ => g)⟩
theorem ab_p_if_ne (C0 : ab_C scr p s m args meth c R mi dp X A) {off : Int} (hd : decode (ab_code mi) pc = .ok (.ifCond .ne off, len)) (h : ab_sI scr mi L M pc ls st (.ifCond .ne off) len = some (L2, (pc2, ls2, st2), M2)) (k : ∀ ad2, ad <+: ad2 → ab_G p l e R s m args below meth c Q mi X A D Lf L2 M2 pc2 ls2 st2 ad2) : ab_G p l e R s m args below meth c Q mi X A D Lf L M pc ls st ad := by
  obtain ⟨rfl, h⟩ := ab_ck_some h
  obtain ⟨x, t, rfl, h⟩ := ab_I_some h
  obtain ⟨tgt, ht, h⟩ := ab_br_some h
  rcases h with ⟨q, h⟩ | ⟨q, h⟩
  · obtain ⟨rfl, rfl, rfl, rfl, rfl⟩ := ab_go_some h
    have q : ¬ x = 0 := of_decide_eq_true q
    refine ab_pS ⟨rfl, rfl, rfl⟩ (fun H locs cells slots la lv sa hl hL hs hS => ?_) k
    obtain ⟨ws, e9, hs9⟩ := ab_rS_int hs; subst e9; clear hs; have hs := hs9; clear hs9
    exact ⟨ws, hs, fun g => lv_if_ne C0.1 C0.2.1 hd ht (fun _ => g) (fun z => absurd z q)⟩
  · obtain ⟨rfl, rfl, rfl, rfl, rfl⟩ := ab_go_some h
    have q : ¬ (¬ x = 0) := of_decide_eq_false q
    refine ab_pS ⟨rfl, rfl, rfl⟩ (fun H locs cells slots la lv sa hl hL hs hS => ?_) k
    obtain ⟨ws, e9, hs9⟩ := ab_rS_int hs; subst e9; clear hs; have hs := hs9; clear hs9
    exact ⟨ws, hs, fun g => lv_if_ne C0.1 C0.2.1 hd ht (fun z => absurd z q) (fun _ => g)⟩
theorem ab_p_icmp_ne (C0 : ab_C scr p s m args meth c R mi dp X A) {off : Int} (hd : decode (ab_code mi) pc = .ok (.if_icmp .ne off, len)) (h : ab_sI scr mi L M pc ls st (.if_icmp .ne off) len = some (L2, (pc2, ls2, st2), M2)) (k : ∀ ad2, ad <+: ad2 → ab_G p l e R s m args below meth c Q mi X A D Lf L2 M2 pc2 ls2 st2 ad2) : ab_G p l e R s m args below meth c Q mi X A D Lf L M pc ls st ad := by
  obtain ⟨rfl, h⟩ := ab_ck_some h
  obtain ⟨y, t, rfl, h⟩ := ab_I_some h
  obtain ⟨x, t, rfl, h⟩ := ab_I_some h
  obtain ⟨tgt, ht, h⟩ := ab_br_some h
  rcases h with ⟨q, h⟩ | ⟨q, h⟩
  · obtain ⟨rfl, rfl, rfl, rfl, rfl⟩ := ab_go_some h
    have q : ¬ x = y := of_decide_eq_true q
    refine ab_pS ⟨rfl, rfl, rfl⟩ (fun H locs cells slots la lv sa hl hL hs hS => ?_) k
    obtain ⟨ws, e9, hs9⟩ := ab_rS_int hs; subst e9; clear hs; have hs := hs9; clear hs9
    obtain ⟨ws, e9, hs9⟩ := ab_rS_int hs; subst e9; clear hs; have hs := hs9; clear hs9
    exact ⟨ws, hs, fun g => lv_icmp_ne C0.1 C0.2.1 hd ht (fun _ => g) (fun z => absurd z q)⟩
  · obtain ⟨rfl, rfl, rfl, rfl, rfl⟩ := ab_go_some h
    have q : ¬ (¬ x = y) := of_decide_eq_false q
    refine ab_pS ⟨rfl, rfl, rfl⟩ (fun H locs cells slots la lv sa hl hL hs hS => ?_) k
    obtain ⟨ws, e9, hs9⟩ := ab_rS_int hs; subst e9; clear hs; have hs := hs9; clear hs9
    obtain ⟨ws, e9, hs9⟩ := ab_rS_int hs; subst e9; clear hs; have hs := hs9; clear hs9
    exact ⟨ws, hs, fun g => lv_icmp_ne C0.1 C0.2.1 hd ht (fun z => absurd z q) (fun _ => g)⟩
theorem ab_p_if_lt (C0 : ab_C scr p s m args meth c R mi dp X A) {off : Int} (hd : decode (ab_code mi) pc = .ok (.ifCond .lt off, len)) (h : ab_sI scr mi L M pc ls st (.ifCond .lt off) len = some (L2, (pc2, ls2, st2), M2)) (k : ∀ ad2, ad <+: ad2 → ab_G p l e R s m args below meth c Q mi X A D Lf L2 M2 pc2 ls2 st2 ad2) : ab_G p l e R s m args below meth c Q mi X A D Lf L M pc ls st ad := by
  obtain ⟨rfl, h⟩ := ab_ck_some h
  obtain ⟨x, t, rfl, h⟩ := ab_I_some h
  obtain ⟨tgt, ht, h⟩ := ab_br_some h
  rcases h with ⟨q, h⟩ | ⟨q, h⟩
  · obtain ⟨rfl, rfl, rfl, rfl, rfl⟩ := ab_go_some h
    have q : x < 0 := of_decide_eq_true q
    refine ab_pS ⟨rfl, rfl, rfl⟩ (fun H locs cells slots la lv sa hl hL hs hS => ?_) k
    obtain ⟨ws, e9, hs9⟩ := ab_rS_int hs; subst e9; clear hs; have hs := hs9; clear hs9
    exact ⟨ws, hs, fun g => lv_if_lt C0.1 C0.2.1 hd ht (fun _ => g) (fun z => absurd q z)⟩
  · obtain ⟨rfl, rfl, rfl, rfl, rfl⟩ := ab_go_some h
    have q : ¬ (x < 0) := of_decide_eq_false q
    refine ab_pS ⟨rfl, rfl, rfl⟩ (fun H locs cells slots la lv sa hl hL hs hS => ?_) k
    obtain ⟨ws, e9, hs9⟩ := ab_rS_int hs; subst e9; clear hs; have hs := hs9; clear hs9
    exact ⟨ws, hs, fun g => lv_if_lt C0.1 C0.2.1 hd ht (fun z => absurd z q) (fun _ => g)⟩
theorem ab_p_icmp_lt (C0 : ab_C scr p s m args meth c R mi dp X A) {off : Int} (hd : decode (ab_code mi) pc = .ok (.if_icmp .lt off, len)) (h : ab_sI scr mi L M pc ls st (.if_icmp .lt off) len = some (L2, (pc2, ls2, st2), M2)) (k : ∀ ad2, ad <+: ad2 → ab_G p l e R s m args below meth c Q mi X A D Lf L2 M2 pc2 ls2 st2 ad2) : ab_G p l e R s m args below meth c Q mi X A D Lf L M pc ls st ad := by
  obtain ⟨rfl, h⟩ := ab_ck_some h
  obtain ⟨y, t, rfl, h⟩ := ab_I_some h
  obtain ⟨x, t, rfl, h⟩ := ab_I_some h
  obtain ⟨tgt, ht, h⟩ := ab_br_some h
  rcases h with ⟨q, h⟩ | ⟨q, h⟩
  · obtain ⟨rfl, rfl, rfl, rfl, rfl⟩ := ab_go_some h
    have q : x < y := of_decide_eq_true q
    refine ab_pS ⟨rfl, rfl, rfl⟩ (fun H locs cells slots la lv sa hl hL hs hS => ?_) k
    obtain ⟨ws, e9, hs9⟩ := ab_rS_int hs; subst e9; clear hs; have hs := hs9; clear hs9
    obtain ⟨ws, e9, hs9⟩ := ab_rS_int hs; subst e9; clear hs; have hs := hs9; clear hs9
    exact ⟨ws, hs, fun g => lv_icmp_lt C0.1 C0.2.1 hd ht (fun _ => g) (fun z => absurd q z)⟩
  · obtain ⟨rfl, rfl, rfl, rfl, rfl⟩ := ab_go_some h
    have q : ¬ (x < y) := of_decide_eq_false q
    refine ab_pS ⟨rfl, rfl, rfl⟩ (fun H locs cells slots la lv sa hl hL hs hS => ?_) k
    obtain ⟨ws, e9, hs9⟩ := ab_rS_int hs; subst e9; clear hs; have hs := hs9; clear hs9
    obtain ⟨ws, e9, hs9⟩ := ab_rS_int hs; subst e9; clear hs; have hs := hs9; clear hs9
    exact ⟨ws, hs, fun g => lv_icmp_lt C0.1 C0.2.1 hd ht (fun z => absurd z q) (fun _ => g)⟩
theorem ab_p_if_ge (C0 : ab_C scr p s m args meth c R mi dp X A) {off : Int} (hd : decode (ab_code mi) pc = .ok (.ifCond .ge off, len)) (h : ab_sI scr mi L M pc ls st (.ifCond .ge off) len = some (L2, (pc2, ls2, st2), M2)) (k : ∀ ad2, ad <+: ad2 → ab_G p l e R s m args below meth c Q mi X A D Lf L2 M2 pc2 ls2 st2 ad2) : ab_G p l e R s m args below meth c Q mi X A D Lf L M pc ls st ad := by
  obtain ⟨rfl, h⟩ := ab_ck_some h
  obtain ⟨x, t, rfl, h⟩ := ab_I_some h
  obtain ⟨tgt, ht, h⟩ := ab_br_some h
  rcases h with ⟨q, h⟩ | ⟨q, h⟩
  · obtain ⟨rfl, rfl, rfl, rfl, rfl⟩ := ab_go_some h
    have q : 0 ≤ x := of_decide_eq_true q
    refine ab_pS ⟨rfl, rfl, rfl⟩ (fun H locs cells slots la lv sa hl hL hs hS => ?_) k
    obtain ⟨ws, e9, hs9⟩ := ab_rS_int hs; subst e9; clear hs; have hs := hs9; clear hs9
    exact ⟨ws, hs, fun g => lv_if_ge C0.1 C0.2.1 hd ht (fun _ => g) (fun z => absurd q z)⟩
  · obtain ⟨rfl, rfl, rfl, rfl, rfl⟩ := ab_go_some h
    have q : ¬ (0 ≤ x) := of_decide_eq_false q
    refine ab_pS ⟨rfl, rfl, rfl⟩ (fun H locs cells slots la lv sa hl hL hs hS => ?_) k
    obtain ⟨ws, e9, hs9⟩ := ab_rS_int hs; subst e9; clear hs; have hs := hs9; clear hs9
    exact ⟨ws, hs, fun g => lv_if_ge C0.1 C0.2.1 hd ht (fun z => absurd z q) (fun _ => g)⟩
theorem ab_p_icmp_ge (C0 : ab_C scr p s m args meth c R mi dp X A) {off : Int} (hd : decode (ab_code mi) pc = .ok (.if_icmp .ge off, len)) (h : ab_sI scr mi L M pc ls st (.if_icmp .ge off) len = some (L2, (pc2, ls2, st2), M2)) (k : ∀ ad2, ad <+: ad2 → ab_G p l e R s m args below meth c Q mi X A D Lf L2 M2 pc2 ls2 st2 ad2) : ab_G p l e R s m args below meth c Q mi X A D Lf L M pc ls st ad := by
  obtain ⟨rfl, h⟩ := ab_ck_some h
  obtain ⟨y, t, rfl, h⟩ := ab_I_some h
  obtain ⟨x, t, rfl, h⟩ := ab_I_some h
  obtain ⟨tgt, ht, h⟩ := ab_br_some h
  rcases h with ⟨q, h⟩ | ⟨q, h⟩
  · obtain ⟨rfl, rfl, rfl, rfl, rfl⟩ := ab_go_some h
    have q : y ≤ x := of_decide_eq_true q
    refine ab_pS ⟨rfl, rfl, rfl⟩ (fun H locs cells slots la lv sa hl hL hs hS => ?_) k
    obtain ⟨ws, e9, hs9⟩ := ab_rS_int hs; subst e9; clear hs; have hs := hs9; clear hs9
    obtain ⟨ws, e9, hs9⟩ := ab_rS_int hs; subst e9; clear hs; have hs := hs9; clear hs9
    exact ⟨ws, hs, fun g => lv_icmp_ge C0.1 C0.2.1 hd ht (fun _ => g) (fun z => absurd q z)⟩
  · obtain ⟨rfl, rfl, rfl, rfl, rfl⟩ := ab_go_some h
    have q : ¬ (y ≤ x) := of_decide_eq_false q
    refine ab_pS ⟨rfl, rfl, rfl⟩ (fun H locs cells slots la lv sa hl hL hs hS => ?_) k
    obtain ⟨ws, e9, hs9⟩ := ab_rS_int hs; subst e9; clear hs; have hs := hs9; clear hs9
    obtain ⟨ws, e9, hs9⟩ := ab_rS_int hs; subst e9; clear hs; have hs := hs9; clear hs9
    exact ⟨ws, hs, fun g => lv_icmp_ge C0.1 C0.2.1 hd ht (fun z => absurd z q) (fun _ => g)⟩
theorem ab_p_if_gt (C0 : ab_C scr p s m args meth c R mi dp X A) {off : Int} (hd : decode (ab_code mi) pc = .ok (.ifCond .gt off, len)) (h : ab_sI scr mi L M pc ls st (.ifCond .gt off) len = some (L2, (pc2, ls2, st2), M2)) (k : ∀ ad2, ad <+: ad2 → ab_G p l e R s m args below meth c Q mi X A D Lf L2 M2 pc2 ls2 st2 ad2) : ab_G p l e R s m args below meth c Q mi X A D Lf L M pc ls st ad := by
  obtain ⟨rfl, h⟩ := ab_ck_some h
  obtain ⟨x, t, rfl, h⟩ := ab_I_some h
  obtain ⟨tgt, ht, h⟩ := ab_br_some h
  rcases h with ⟨q, h⟩ | ⟨q, h⟩
  · obtain ⟨rfl, rfl, rfl, rfl, rfl⟩ := ab_go_some h
    have q : 0 < x := of_decide_eq_true q
    refine ab_pS ⟨rfl, rfl, rfl⟩ (fun H locs cells slots la lv sa hl hL hs hS => ?_) k
    obtain ⟨ws, e9, hs9⟩ := ab_rS_int hs; subst e9; clear hs; have hs := hs9; clear hs9
    exact ⟨ws, hs, fun g => lv_if_gt C0.1 C0.2.1 hd ht (fun _ => g) (fun z => absurd q z)⟩
  · obtain ⟨rfl, rfl, rfl, rfl, rfl⟩ := ab_go_some h
    have q : ¬ (0 < x) := of_decide_eq_false q
    refine ab_pS ⟨rfl, rfl, rfl⟩ (fun H locs cells slots la lv sa hl hL hs hS => ?_) k
    obtain ⟨ws, e9, hs9⟩ := ab_rS_int hs; subst e9; clear hs; have hs := hs9; clear hs9
    exact ⟨ws, hs, fun g => lv_if_gt C0.1 C0.2.1 hd ht (fun z => absurd z q) (fun _ => g)⟩
theorem ab_p_icmp_gt (C0 : ab_C scr p s m args meth c R mi dp X A) {off : Int} (hd : decode (ab_code mi) pc = .ok (.if_icmp .gt off, len)) (h : ab_sI scr mi L M pc ls st (.if_icmp .gt off) len = some (L2, (pc2, ls2, st2), M2)) (k : ∀ ad2, ad <+: ad2 → ab_G p l e R s m args below meth c Q mi X A D Lf L2 M2 pc2 ls2 st2 ad2) : ab_G p l e R s m args below meth c Q mi X A D Lf L M pc ls st ad := by
  obtain ⟨rfl, h⟩ := ab_ck_some h
  obtain ⟨y, t, rfl, h⟩ := ab_I_some h
  obtain ⟨x, t, rfl, h⟩ := ab_I_some h
  obtain ⟨tgt, ht, h⟩ := ab_br_some h
  rcases h with ⟨q, h⟩ | ⟨q, h⟩
  · obtain ⟨rfl, rfl, rfl, rfl, rfl⟩ := ab_go_some h
    have q : y < x := of_decide_eq_true q
    refine ab_pS ⟨rfl, rfl, rfl⟩ (fun H locs cells slots la lv sa hl hL hs hS => ?_) k
    obtain ⟨ws, e9, hs9⟩ := ab_rS_int hs; subst e9; clear hs; have hs := hs9; clear hs9
    obtain ⟨ws, e9, hs9⟩ := ab_rS_int hs; subst e9; clear hs; have hs := hs9; clear hs9
    exact ⟨ws, hs, fun g => lv_icmp_gt C0.1 C0.2.1 hd ht (fun _ => g) (fun z => absurd q z)⟩
  · obtain ⟨rfl, rfl, rfl, rfl, rfl⟩ := ab_go_some h
    have q : ¬ (y < x) := of_decide_eq_false q
    refine ab_pS ⟨rfl, rfl, rfl⟩ (fun H locs cells slots la lv sa hl hL hs hS => ?_) k
    obtain ⟨ws, e9, hs9⟩ := ab_rS_int hs; subst e9; clear hs; have hs := hs9; clear hs9
    obtain ⟨ws, e9, hs9⟩ := ab_rS_int hs; subst e9; clear hs; have hs := hs9; clear hs9
    exact ⟨ws, hs, fun g => lv_icmp_gt C0.1 C0.2.1 hd ht (fun z => absurd z q) (fun _ => g)⟩
theorem ab_p_if_le (C0 : ab_C scr p s m args meth c R mi dp X A) {off : Int} (hd : decode (ab_code mi) pc = .ok (.ifCond .le off, len)) (h : ab_sI scr mi L M pc ls st (.ifCond .le off) len = some (L2, (pc2, ls2, st2), M2)) (k : ∀ ad2, ad <+: ad2 → ab_G p l e R s m args below meth c Q mi X A D Lf L2 M2 pc2 ls2 st2 ad2) : ab_G p l e R s m args below meth c Q mi X A D Lf L M pc ls st ad := by
  obtain ⟨rfl, h⟩ := ab_ck_some h
  obtain ⟨x, t, rfl, h⟩ := ab_I_some h
  obtain ⟨tgt, ht, h⟩ := ab_br_some h
  rcases h with ⟨q, h⟩ | ⟨q, h⟩
  · obtain ⟨rfl, rfl, rfl, rfl, rfl⟩ := ab_go_some h
    have q : x ≤ 0 := of_decide_eq_true q
    refine ab_pS ⟨rfl, rfl, rfl⟩ (fun H locs cells slots la lv sa hl hL hs hS => ?_) k
    obtain ⟨ws, e9, hs9⟩ := ab_rS_int hs; subst e9; clear hs; have hs := hs9; clear hs9
    exact ⟨ws, hs, fun g => lv_if_le C0.1 C0.2.1 hd ht (fun _ => g) (fun z => absurd q z)⟩
  · obtain ⟨rfl, rfl, rfl, rfl, rfl⟩ := ab_go_some h
    have q : ¬ (x ≤ 0) := of_decide_eq_false q
    refine ab_pS ⟨rfl, rfl, rfl⟩ (fun H locs cells slots la lv sa hl hL hs hS => ?_) k
    obtain ⟨ws, e9, hs9⟩ := ab_rS_int hs; subst e9; clear hs; have hs := hs9; clear hs9
    exact ⟨ws, hs, fun g => lv_if_le C0.1 C0.2.1 hd ht (fun z => absurd z q) (fun _ => g)⟩
theorem ab_p_icmp_le (C0 : ab_C scr p s m args meth c R mi dp X A) {off : Int} (hd : decode (ab_code mi) pc = .ok (.if_icmp .le off, len)) (h : ab_sI scr mi L M pc ls st (.if_icmp .le off) len = some (L2, (pc2, ls2, st2), M2)) (k : ∀ ad2, ad <+: ad2 → ab_G p l e R s m args below meth c Q mi X A D Lf L2 M2 pc2 ls2 st2 ad2) : ab_G p l e R s m args below meth c Q mi X A D Lf L M pc ls st ad := by
  obtain ⟨rfl, h⟩ := ab_ck_some h
  obtain ⟨y, t, rfl, h⟩ := ab_I_some h
  obtain ⟨x, t, rfl, h⟩ := ab_I_some h
  obtain ⟨tgt, ht, h⟩ := ab_br_some h
  rcases h with ⟨q, h⟩ | ⟨q, h⟩
  · obtain ⟨rfl, rfl, rfl, rfl, rfl⟩ := ab_go_some h
    have q : x ≤ y := of_decide_eq_true q
    refine ab_pS ⟨rfl, rfl, rfl⟩ (fun H locs cells slots la lv sa hl hL hs hS => ?_) k
    obtain ⟨ws, e9, hs9⟩ := ab_rS_int hs; subst e9; clear hs; have hs := hs9; clear hs9
    obtain ⟨ws, e9, hs9⟩ := ab_rS_int hs; subst e9; clear hs; have hs := hs9; clear hs9
    exact ⟨ws, hs, fun g => lv_icmp_le C0.1 C0.2.1 hd ht (fun _ => g) (fun z => absurd q z)⟩
  · obtain ⟨rfl, rfl, rfl, rfl, rfl⟩ := ab_go_some h
    have q : ¬ (x ≤ y) := of_decide_eq_false q
    refine ab_pS ⟨rfl, rfl, rfl⟩ (fun H locs cells slots la lv sa hl hL hs hS => ?_) k
    obtain ⟨ws, e9, hs9⟩ := ab_rS_int hs; subst e9; clear hs; have hs := hs9; clear hs9
    obtain ⟨ws, e9, hs9⟩ := ab_rS_int hs; subst e9; clear hs; have hs := hs9; clear hs9
    exact ⟨ws, hs, fun g => lv_icmp_le C0.1 C0.2.1 hd ht (fun z => absurd z q) (fun _ => g)⟩
end ABR
