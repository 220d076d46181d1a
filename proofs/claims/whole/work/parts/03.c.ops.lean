/-! An equation for every kind of instruction -/
def ab_nl (l : Option Value) : Option Value := match l with
  | some (.long _) => none
  | some (.double _) => none
  | l => l
/-- the element of a row of references -/
def ab_qe (a : Nat) (i : Int32) : Option Value := match ab_aq ab_L0 a with
  | some (t, n, qs) => if ab_inB i n = true ∧ ab_isRf t = true then (match qs[i.toNatClampNeg]? with
    | some (some q) => some (.ref q)
    | _ => none) else none
  | none => none
/-- may an int be put there -/
def ab_pt (a ci k : Nat) (x : Int32) : Bool := ab_fit (ab_fty ci k) x && !(ab_fin ci k) && (match ab_L0[a]? with
  | some (.inl (c, ks)) => Nat.beq c ci && (match ks[k]? with
    | some none => true
    | _ => false)
  | _ => false)
def ab_si (a : Nat) (ty : FieldType) (i : Int32) : Bool := match ab_ar ab_L0 a ty with
  | some n => ab_inB i n
  | none => false
def ab_bl (scr : Option (List Int32)) (M : ab_M) (a : Nat) (i : Int32) : Option Int32 := match ab_ald scr ab_L0 M a .byte i with
  | some v => some v
  | none => ab_ald scr ab_L0 M a .boolean i
theorem ab_ite_res {c : Prop} [Decidable c] {α : Type} (f : Nat → Option α) (a b : Nat) : f (if c then a else b) = if c then f a else f b := by
  by_cases h : c
  · rw [if_pos h, if_pos h]
  · rw [if_neg h, if_neg h]
section ABO
variable {scr : Option (List Int32)} {mi d : Nat} {M M2 : ab_M} {pc pc2 len : Nat} {ls ls2 : ab_Lo} {st st2 : List Value}
theorem ab_o_iconst {n : Int} (hd : decode (ab_code mi) pc = .ok (.iconst n, 1)) : ab_res scr mi d M pc ls st = ab_res scr mi d M (pc + 1) ls (.int (Int32.ofInt n) :: st) := ab_xg hd rfl rfl
theorem ab_o_bipush {n : Int} (hd : decode (ab_code mi) pc = .ok (.bipush n, 2)) : ab_res scr mi d M pc ls st = ab_res scr mi d M (pc + 2) ls (.int (Int8.ofInt n).toInt32 :: st) := ab_xg hd rfl rfl
theorem ab_o_sipush {n : Int} (hd : decode (ab_code mi) pc = .ok (.sipush n, 3)) : ab_res scr mi d M pc ls st = ab_res scr mi d M (pc + 3) ls (.int (Int16.ofInt n).toInt32 :: st) := ab_xg hd rfl rfl
theorem ab_o_lconst {n : Fin 2} (hd : decode (ab_code mi) pc = .ok (.lconst n, 1)) : ab_res scr mi d M pc ls st = ab_res scr mi d M (pc + 1) ls (.long (Int64.ofNat (n : Nat)) :: st) := ab_xg hd rfl rfl
theorem ab_o_ldc {n k : Nat} {v : Int32} {z : Nat × Nat} (hd : decode (ab_code mi) pc = .ok (.ldc n, 2)) (hk : ab_ky mi = k) (hl : ab_lk ab_kot k n = some (.inl v, z)) : ab_res scr mi d M pc ls st = ab_res scr mi d M (pc + 2) ls (.int v :: st) := by
  refine ab_xg hd rfl ?_
  show ab_ck 2 2 (match ab_lk ab_kot (ab_ky mi) n with | some (.inl v, _) => ab_go ab_L0 M (pc + 2) ls (.int v :: st) | some (.inr _, _) => none | none => _) = _
  rw [hk, hl]
  rfl
theorem ab_o_ldcS {n k j : Nat} (hd : decode (ab_code mi) pc = .ok (.ldc n, 2)) (hk : ab_ky mi = k) (hl : ab_lk ab_kot k n = none) (hs : ab_str k n = some j) : ab_res scr mi d M pc ls st = ab_res scr mi d M (pc + 2) ls (.ref (1000 + j) :: st) := by
  refine ab_xg hd rfl ?_
  show ab_ck 2 2 (match ab_lk ab_kot (ab_ky mi) n with | some (.inl v, _) => ab_go ab_L0 M (pc + 2) ls (.int v :: st) | some (.inr _, _) => none | none => (match ab_str (ab_ky mi) n with | some j => ab_go ab_L0 M (pc + 2) ls (.ref (1000 + j) :: st) | none => none)) = _
  rw [hk, hl, hs]
  rfl
theorem ab_o_ldc_w {n k : Nat} {v : Int32} {z : Nat × Nat} (hd : decode (ab_code mi) pc = .ok (.ldc_w n, 3)) (hk : ab_ky mi = k) (hl : ab_lk ab_kot k n = some (.inl v, z)) : ab_res scr mi d M pc ls st = ab_res scr mi d M (pc + 3) ls (.int v :: st) := by
  refine ab_xg hd rfl ?_
  show ab_ck 3 3 (match ab_lk ab_kot (ab_ky mi) n with | some (.inl v, _) => ab_go ab_L0 M (pc + 3) ls (.int v :: st) | _ => none) = _
  rw [hk, hl]
  rfl
theorem ab_o_ldc2_w {n k : Nat} {v : Int64} {z : Nat × Nat} (hd : decode (ab_code mi) pc = .ok (.ldc2_w n, 3)) (hk : ab_ky mi = k) (hl : ab_lk ab_kot k n = some (.inr v, z)) : ab_res scr mi d M pc ls st = ab_res scr mi d M (pc + 3) ls (.long v :: st) := by
  refine ab_xg hd rfl ?_
  show ab_ck 3 3 (match ab_lk ab_kot (ab_ky mi) n with | some (.inr v, _) => ab_go ab_L0 M (pc + 3) ls (.long v :: st) | _ => none) = _
  rw [hk, hl]
  rfl
theorem ab_o_iload_n {k : Fin 4} {x : Int32} (hd : decode (ab_code mi) pc = .ok (.iload_n k, 1)) (hl : ls[(k : Nat)]? = some (some (.int x))) : ab_res scr mi d M pc ls st = ab_res scr mi d M (pc + 1) ls (.int x :: st) := by
  refine ab_xg hd rfl ?_
  show ab_ck 1 1 (ab_li ls k fun x => ab_go ab_L0 M (pc + 1) ls (.int x :: st)) = _
  unfold ab_li
  rw [hl]
  rfl
theorem ab_o_iload {k : Nat} {x : Int32} (hd : decode (ab_code mi) pc = .ok (.iload k, 2)) (hl : ls[k]? = some (some (.int x))) : ab_res scr mi d M pc ls st = ab_res scr mi d M (pc + 2) ls (.int x :: st) := by
  refine ab_xg hd rfl ?_
  show ab_ck 2 2 (ab_li ls k fun x => ab_go ab_L0 M (pc + 2) ls (.int x :: st)) = _
  unfold ab_li
  rw [hl]
  rfl
theorem ab_o_lload_n {k : Fin 4} {x : Int64} (hd : decode (ab_code mi) pc = .ok (.lload_n k, 1)) (hl : ls[(k : Nat)]? = some (some (.long x))) : ab_res scr mi d M pc ls st = ab_res scr mi d M (pc + 1) ls (.long x :: st) := by
  refine ab_xg hd rfl ?_
  show ab_ck 1 1 (ab_lj ls k fun x => ab_go ab_L0 M (pc + 1) ls (.long x :: st)) = _
  unfold ab_lj
  rw [hl]
  rfl
theorem ab_o_lload {k : Nat} {x : Int64} (hd : decode (ab_code mi) pc = .ok (.lload k, 2)) (hl : ls[k]? = some (some (.long x))) : ab_res scr mi d M pc ls st = ab_res scr mi d M (pc + 2) ls (.long x :: st) := by
  refine ab_xg hd rfl ?_
  show ab_ck 2 2 (ab_lj ls k fun x => ab_go ab_L0 M (pc + 2) ls (.long x :: st)) = _
  unfold ab_lj
  rw [hl]
  rfl
theorem ab_o_aload_n {k : Fin 4} {x : Nat} (hd : decode (ab_code mi) pc = .ok (.aload_n k, 1)) (hl : ls[(k : Nat)]? = some (some (.ref x))) : ab_res scr mi d M pc ls st = ab_res scr mi d M (pc + 1) ls (.ref x :: st) := by
  refine ab_xg hd rfl ?_
  show ab_ck 1 1 (ab_lr ls k fun x => ab_go ab_L0 M (pc + 1) ls (.ref x :: st)) = _
  unfold ab_lr
  rw [hl]
  rfl
theorem ab_o_aload {k : Nat} {x : Nat} (hd : decode (ab_code mi) pc = .ok (.aload k, 2)) (hl : ls[k]? = some (some (.ref x))) : ab_res scr mi d M pc ls st = ab_res scr mi d M (pc + 2) ls (.ref x :: st) := by
  refine ab_xg hd rfl ?_
  show ab_ck 2 2 (ab_lr ls k fun x => ab_go ab_L0 M (pc + 2) ls (.ref x :: st)) = _
  unfold ab_lr
  rw [hl]
  rfl
theorem ab_o_st1 {i : Instr} {k nL len : Nat} {v : Value} (hd : decode (ab_code mi) pc = .ok (i, len)) (hi : (i = .istore k ∧ len = 2 ∧ ∃ x, v = .int x) ∨ (i = .astore k ∧ len = 2 ∧ ∃ x, v = .ref x) ∨ (∃ q : Fin 4, i = .istore_n q ∧ (q : Nat) = k ∧ len = 1 ∧ ∃ x, v = .int x) ∨ (∃ q : Fin 4, i = .astore_n q ∧ (q : Nat) = k ∧ len = 1 ∧ ∃ x, v = .ref x)) (hn : ab_nL mi = nL) (hk : k < nL) : ab_res scr mi d M pc ls (v :: st) = ab_res scr mi d M (pc + len) (ab_st1 ls k v) st := by
  subst hn
  rcases hi with ⟨rfl, rfl, x, rfl⟩ | ⟨rfl, rfl, x, rfl⟩ | ⟨q, rfl, rfl, rfl, x, rfl⟩ | ⟨q, rfl, rfl, rfl, x, rfl⟩
  · refine ab_xg hd rfl ?_
    show ab_ck 2 2 (if k < ab_nL mi then ab_go ab_L0 M (pc + 2) (ab_st1 ls k (.int x)) st else none) = _
    rw [if_pos hk]
    rfl
  · refine ab_xg hd rfl ?_
    show ab_ck 2 2 (if k < ab_nL mi then ab_go ab_L0 M (pc + 2) (ab_st1 ls k (.ref x)) st else none) = _
    rw [if_pos hk]
    rfl
  · refine ab_xg hd rfl ?_
    show ab_ck 1 1 (if (q : Nat) < ab_nL mi then ab_go ab_L0 M (pc + 1) (ab_st1 ls q (.int x)) st else none) = _
    rw [if_pos hk]
    rfl
  · refine ab_xg hd rfl ?_
    show ab_ck 1 1 (if (q : Nat) < ab_nL mi then ab_go ab_L0 M (pc + 1) (ab_st1 ls q (.ref x)) st else none) = _
    rw [if_pos hk]
    rfl
theorem ab_o_st2 {i : Instr} {k nL len : Nat} {x : Int64} (hd : decode (ab_code mi) pc = .ok (i, len)) (hi : (i = .lstore k ∧ len = 2) ∨ (∃ q : Fin 4, i = .lstore_n q ∧ (q : Nat) = k ∧ len = 1)) (hn : ab_nL mi = nL) (hk : k + 1 < nL) : ab_res scr mi d M pc ls (.long x :: st) = ab_res scr mi d M (pc + len) (ab_st2 ls k (.long x)) st := by
  subst hn
  rcases hi with ⟨rfl, rfl⟩ | ⟨q, rfl, rfl, rfl⟩
  · refine ab_xg hd rfl ?_
    show ab_ck 2 2 (if k + 1 < ab_nL mi then ab_go ab_L0 M (pc + 2) (ab_st2 ls k (.long x)) st else none) = _
    rw [if_pos hk]
    rfl
  · refine ab_xg hd rfl ?_
    show ab_ck 1 1 (if (q : Nat) + 1 < ab_nL mi then ab_go ab_L0 M (pc + 1) (ab_st2 ls q (.long x)) st else none) = _
    rw [if_pos hk]
    rfl
theorem ab_o_iinc {k nL : Nat} {n : Int} {x : Int32} (hd : decode (ab_code mi) pc = .ok (.iinc k n, 3)) (hn : ab_nL mi = nL) (hk : k < nL) (hl : ls[k]? = some (some (.int x))) : ab_res scr mi d M pc ls st = ab_res scr mi d M (pc + 3) (ab_st1 ls k (.int (x + Int32.ofInt n))) st := by
  subst hn
  refine ab_xg hd rfl ?_
  show ab_ck 3 3 (ab_li ls k fun x => if k < ab_nL mi then ab_go ab_L0 M (pc + 3) (ab_st1 ls k (.int (x + Int32.ofInt n))) st else none) = _
  unfold ab_li
  rw [hl]
  show ab_ck 3 3 (if k < ab_nL mi then ab_go ab_L0 M (pc + 3) (ab_st1 ls k (.int (x + Int32.ofInt n))) st else none) = _
  rw [if_pos hk]
  rfl
theorem ab_o_b1 {i : Instr} {f : Int32 → Int32} {x : Int32} (hd : decode (ab_code mi) pc = .ok (i, 1)) (h : ab_kd i = .inl 0 ∧ ab_sI scr mi ab_L0 M pc ls (.int x :: st) i 1 = some (ab_L0, (pc + 1, ls, .int (f x) :: st), M)) : ab_res scr mi d M pc ls (.int x :: st) = ab_res scr mi d M (pc + 1) ls (.int (f x) :: st) := ab_xg hd h.1 h.2
theorem ab_o_div {i : Instr} {x y w : Int32} (hd : decode (ab_code mi) pc = .ok (i, 1)) (h : (i = .idiv ∧ w = x / y) ∨ (i = .irem ∧ w = x - x / y * y)) : ab_res scr mi d M pc ls (.int y :: .int x :: st) = if y = 0 then none else ab_res scr mi d M (pc + 1) ls (.int w :: st) := by
  rcases h with ⟨rfl, rfl⟩ | ⟨rfl, rfl⟩
  · by_cases hy : y = 0
    · rw [if_pos hy]
      refine ab_xn hd rfl ?_
      show ab_ck 1 1 (if y = 0 then none else ab_go ab_L0 M (pc + 1) ls (.int (x / y) :: st)) = none
      rw [if_pos hy]
      rfl
    · rw [if_neg hy]
      refine ab_xg hd rfl ?_
      show ab_ck 1 1 (if y = 0 then none else ab_go ab_L0 M (pc + 1) ls (.int (x / y) :: st)) = _
      rw [if_neg hy]
      rfl
  · by_cases hy : y = 0
    · rw [if_pos hy]
      refine ab_xn hd rfl ?_
      show ab_ck 1 1 (if y = 0 then none else ab_go ab_L0 M (pc + 1) ls (.int (x - x / y * y) :: st)) = none
      rw [if_pos hy]
      rfl
    · rw [if_neg hy]
      refine ab_xg hd rfl ?_
      show ab_ck 1 1 (if y = 0 then none else ab_go ab_L0 M (pc + 1) ls (.int (x - x / y * y) :: st)) = _
      rw [if_neg hy]
      rfl
theorem ab_o_ldiv {i : Instr} {x y w : Int64} (hd : decode (ab_code mi) pc = .ok (i, 1)) (h : (i = .ldiv ∧ w = x / y) ∨ (i = .lrem ∧ w = x - x / y * y)) : ab_res scr mi d M pc ls (.long y :: .long x :: st) = if y = 0 then none else ab_res scr mi d M (pc + 1) ls (.long w :: st) := by
  rcases h with ⟨rfl, rfl⟩ | ⟨rfl, rfl⟩
  · by_cases hy : y = 0
    · rw [if_pos hy]
      refine ab_xn hd rfl ?_
      show ab_ck 1 1 (if y = 0 then none else ab_go ab_L0 M (pc + 1) ls (.long (x / y) :: st)) = none
      rw [if_pos hy]
      rfl
    · rw [if_neg hy]
      refine ab_xg hd rfl ?_
      show ab_ck 1 1 (if y = 0 then none else ab_go ab_L0 M (pc + 1) ls (.long (x / y) :: st)) = _
      rw [if_neg hy]
      rfl
  · by_cases hy : y = 0
    · rw [if_pos hy]
      refine ab_xn hd rfl ?_
      show ab_ck 1 1 (if y = 0 then none else ab_go ab_L0 M (pc + 1) ls (.long (x - x / y * y) :: st)) = none
      rw [if_pos hy]
      rfl
    · rw [if_neg hy]
      refine ab_xg hd rfl ?_
      show ab_ck 1 1 (if y = 0 then none else ab_go ab_L0 M (pc + 1) ls (.long (x - x / y * y) :: st)) = _
      rw [if_neg hy]
      rfl
theorem ab_o_goto {off : Int} {tgt : Nat} (hd : decode (ab_code mi) pc = .ok (.goto off, 3)) (ht : (pc : Int) + off = (tgt : Int)) : ab_res scr mi d M pc ls st = ab_res scr mi d M tgt ls st := by
  refine ab_xg hd rfl ?_
  show ab_ck 3 3 (if 0 ≤ (pc : Int) + off then ab_go ab_L0 M ((pc : Int) + off).toNat ls st else none) = _
  rw [ht, if_pos (Int.natCast_nonneg _), Int.toNat_natCast]
  rfl
theorem ab_o_br {i : Instr} {off : Int} {tgt : Nat} {b : Bool} (hd : decode (ab_code mi) pc = .ok (i, 3)) (ht : (pc : Int) + off = (tgt : Int)) (hk : ab_kd i = .inl 0) (h : ab_sI scr mi ab_L0 M pc ls st i 3 = ab_br ab_L0 M pc off b ls st2) : ab_res scr mi d M pc ls st = if b = true then ab_res scr mi d M tgt ls st2 else ab_res scr mi d M (pc + 3) ls st2 := by
  unfold ab_br at h
  rw [ht, if_pos (Int.natCast_nonneg _), Int.toNat_natCast] at h
  cases b with
  | true =>
    rw [if_pos rfl] at h ⊢
    exact ab_xg hd hk h
  | false =>
    rw [if_neg (by decide)] at h ⊢
    exact ab_xg hd hk h
theorem ab_o_br2 {i : Instr} {off : Int} {tgt : Nat} {P : Prop} [Decidable P] (hd : decode (ab_code mi) pc = .ok (i, 3)) (ht : (pc : Int) + off = (tgt : Int)) (hk : ab_kd i = .inl 0) (h : ab_sI scr mi ab_L0 M pc ls st i 3 = ab_br ab_L0 M pc off (decide P) ls st2) : ab_res scr mi d M pc ls st = if P then ab_res scr mi d M tgt ls st2 else ab_res scr mi d M (pc + 3) ls st2 := by
  rw [ab_o_br hd ht hk h]
  by_cases q : P
  · rw [if_pos (decide_eq_true q), if_pos q]
  · rw [if_neg (by simp [q]), if_neg q]
theorem ab_o_getfield {n k ci kk a : Nat} {z : Nat × Nat} (hd : decode (ab_code mi) pc = .ok (.getfield n, 3)) (hk : ab_ky mi = k) (hl : ab_lk ab_flt k n = some ((ci, kk), z)) : ab_res scr mi d M pc ls (.ref a :: st) = (ab_gF ab_L0 M a ci kk).bind fun v => ab_res scr mi d M (pc + 3) ls (v :: st) := by
  have e : ab_get ab_L0 M (ab_ky mi) n a = ab_gF ab_L0 M a ci kk := by
    unfold ab_get
    rw [hk, hl]
  have hs : ab_sI scr mi ab_L0 M pc ls (.ref a :: st) (.getfield n) 3 = (match ab_gF ab_L0 M a ci kk with | some v => ab_go ab_L0 M (pc + 3) ls (v :: st) | none => none) := by
    rw [← e]
    rfl
  cases h : ab_gF ab_L0 M a ci kk with
  | none =>
    rw [h] at hs
    exact ab_xn hd rfl hs
  | some v =>
    rw [h] at hs
    exact ab_xg hd rfl hs
theorem ab_o_getfS {n k w a : Nat} {z : Nat × Nat} {v : Value} (hd : decode (ab_code mi) pc = .ok (.getfield n, 3)) (hk : ab_ky mi = k) (hl : ab_lk ab_flt k n = none) (hl2 : ab_lk ab_sft k n = some (w, z)) (ha : ab_isS a = true) (hv : v = if w = 0 then .int 0 else .ref (a + 1002)) : ab_res scr mi d M pc ls (.ref a :: st) = ab_res scr mi d M (pc + 3) ls (v :: st) := by
  have e : ab_get ab_L0 M (ab_ky mi) n a = some v := by
    unfold ab_get
    rw [hk, hl, hl2]
    show (if ab_isS a = true then some (if w = 0 then Value.int 0 else .ref (a + 1002)) else none) = _
    rw [if_pos ha, hv]
  have hs : ab_sI scr mi ab_L0 M pc ls (.ref a :: st) (.getfield n) 3 = (match ab_get ab_L0 M (ab_ky mi) n a with | some v => ab_go ab_L0 M (pc + 3) ls (v :: st) | none => none) := rfl
  rw [e] at hs
  exact ab_xg hd rfl hs
theorem ab_o_putfield {n k ci kk a : Nat} {z : Nat × Nat} {x : Int32} (hd : decode (ab_code mi) pc = .ok (.putfield n, 3)) (hk : ab_ky mi = k) (hl : ab_lk ab_flt k n = some ((ci, kk), z)) (hp : ab_pt a ci kk x = true) : ab_res scr mi d M pc ls (.int x :: .ref a :: st) = ab_res scr mi d (ab_up M a kk x) (pc + 3) ls st := by
  unfold ab_pt at hp
  simp only [Bool.and_eq_true, Bool.not_eq_true'] at hp
  obtain ⟨⟨h1, h2⟩, h3⟩ := hp
  have hg : ab_gF ab_L0 M a ci kk = some (.int (M a kk)) := by
    unfold ab_gF
    split at h3
    · rename_i c ks hL
      rw [hL]
      simp only [Bool.and_eq_true] at h3
      have hc : c = ci := Nat.eq_of_beq_eq_true h3.1
      subst hc
      simp only [if_pos rfl]
      have h4 := h3.2
      split at h4
      · rename_i hk9
        rw [hk9]
        rfl
      · cases h4
    · cases h3
  refine ab_xg hd rfl ?_
  show ab_ck 3 3 (ab_put ab_L0 M (ab_ky mi) n a (.int x) (fun L' M' => ab_go L' M' (pc + 3) ls st) mi) = _
  unfold ab_put
  rw [hk, hl]
  show ab_ck 3 3 (if ab_fin ci kk = true ∧ _ then none else (if ab_fit (ab_fty ci kk) x = true then (match ab_gF ab_L0 M a ci kk with | some (.int _) => ab_go ab_L0 (ab_up M a kk x) (pc + 3) ls st | _ => none) else none)) = _
  rw [if_neg (by rw [h2]; exact fun q => by cases q.1), if_pos h1, hg]
  rfl
theorem ab_o_getstatic {n k w : Nat} {q : Bool} {z : Nat × Nat} (hd : decode (ab_code mi) pc = .ok (.getstatic n, 3)) (hk : ab_ky mi = k) (hl : ab_lk ab_stt k n = some ((w, q), z)) : ab_res scr mi d M pc ls st = ab_res scr mi d M (pc + 3) ls (ab_stv w :: st) := by
  refine ab_xg hd rfl ?_
  show ab_ck 3 3 (match ab_lk ab_stt (ab_ky mi) n with | some ((w, _), _) => ab_go ab_L0 M (pc + 3) ls (ab_stv w :: st) | none => none) = _
  rw [hk, hl]
  rfl
theorem ab_o_arraylength {a : Nat} (hd : decode (ab_code mi) pc = .ok (.arraylength, 1)) : ab_res scr mi d M pc ls (.ref a :: st) = (ab_len scr ab_L0 a).bind fun v => ab_res scr mi d M (pc + 1) ls (.int v :: st) := by
  have hs : ab_sI scr mi ab_L0 M pc ls (.ref a :: st) .arraylength 1 = (match ab_len scr ab_L0 a with | some n => ab_go ab_L0 M (pc + 1) ls (.int n :: st) | none => none) := rfl
  cases h : ab_len scr ab_L0 a with
  | none =>
    rw [h] at hs
    exact ab_xn hd rfl hs
  | some v =>
    rw [h] at hs
    exact ab_xg hd rfl hs
theorem ab_o_iaload {a : Nat} {i : Int32} (hd : decode (ab_code mi) pc = .ok (.iaload, 1)) : ab_res scr mi d M pc ls (.int i :: .ref a :: st) = (ab_ald scr ab_L0 M a .int i).bind fun v => ab_res scr mi d M (pc + 1) ls (.int v :: st) := by
  have hs : ab_sI scr mi ab_L0 M pc ls (.int i :: .ref a :: st) .iaload 1 = (match ab_ald scr ab_L0 M a .int i with | some v => ab_go ab_L0 M (pc + 1) ls (.int v :: st) | none => none) := rfl
  cases h : ab_ald scr ab_L0 M a .int i with
  | none =>
    rw [h] at hs
    exact ab_xn hd rfl hs
  | some v =>
    rw [h] at hs
    exact ab_xg hd rfl hs
theorem ab_o_baload {a : Nat} {i : Int32} (hd : decode (ab_code mi) pc = .ok (.baload, 1)) : ab_res scr mi d M pc ls (.int i :: .ref a :: st) = (ab_bl scr M a i).bind fun v => ab_res scr mi d M (pc + 1) ls (.int v :: st) := by
  have hs : ab_sI scr mi ab_L0 M pc ls (.int i :: .ref a :: st) .baload 1 = (match ab_ald scr ab_L0 M a .byte i with | some v => ab_go ab_L0 M (pc + 1) ls (.int v :: st) | none => match ab_ald scr ab_L0 M a .boolean i with | some v => ab_go ab_L0 M (pc + 1) ls (.int v :: st) | none => none) := rfl
  unfold ab_bl
  cases h : ab_ald scr ab_L0 M a .byte i with
  | some v =>
    rw [h] at hs
    exact ab_xg hd rfl hs
  | none =>
    rw [h] at hs
    cases h2 : ab_ald scr ab_L0 M a .boolean i with
    | none =>
      rw [h2] at hs
      exact ab_xn hd rfl hs
    | some v =>
      rw [h2] at hs
      exact ab_xg hd rfl hs
theorem ab_o_aaload {a : Nat} {i : Int32} (hd : decode (ab_code mi) pc = .ok (.aaload, 1)) : ab_res scr mi d M pc ls (.int i :: .ref a :: st) = (ab_qe a i).bind fun v => ab_res scr mi d M (pc + 1) ls (v :: st) := by
  have hs : ab_sI scr mi ab_L0 M pc ls (.int i :: .ref a :: st) .aaload 1 = (match ab_aq ab_L0 a with | some (t, n, qs) => (if ab_inB i n = true ∧ ab_isRf t = true then (match qs[i.toNatClampNeg]? with | some (some q) => ab_go ab_L0 M (pc + 1) ls (.ref q :: st) | _ => none) else none) | none => none) := rfl
  unfold ab_qe
  cases h : ab_aq ab_L0 a with
  | none =>
    rw [h] at hs
    exact ab_xn hd rfl hs
  | some r =>
    obtain ⟨t, n, qs⟩ := r
    rw [h] at hs
    simp only at hs ⊢
    by_cases q : ab_inB i n = true ∧ ab_isRf t = true
    · rw [if_pos q] at hs ⊢
      cases h3 : qs[i.toNatClampNeg]? with
      | none =>
        rw [h3] at hs
        exact ab_xn hd rfl hs
      | some o =>
        cases o with
        | none =>
          rw [h3] at hs
          exact ab_xn hd rfl hs
        | some q =>
          rw [h3] at hs
          exact ab_xg hd rfl hs
    · rw [if_neg q] at hs ⊢
      exact ab_xn hd rfl hs
theorem ab_o_iastore {a : Nat} {i x : Int32} (hd : decode (ab_code mi) pc = .ok (.iastore, 1)) : ab_res scr mi d M pc ls (.int x :: .int i :: .ref a :: st) = if ab_si a .int i = true then ab_res scr mi d (ab_up M a i.toNatClampNeg x) (pc + 1) ls st else none := by
  have hs : ab_sI scr mi ab_L0 M pc ls (.int x :: .int i :: .ref a :: st) .iastore 1 = (match ab_ar ab_L0 a .int with | some n => (if ab_inB i n = true then ab_go ab_L0 (ab_up M a i.toNatClampNeg x) (pc + 1) ls st else none) | none => none) := rfl
  unfold ab_si
  cases h : ab_ar ab_L0 a .int with
  | none =>
    rw [h] at hs
    rw [if_neg (by simp)]
    exact ab_xn hd rfl hs
  | some n =>
    rw [h] at hs
    simp only at hs ⊢
    by_cases q : ab_inB i n = true
    · rw [if_pos q] at hs ⊢
      exact ab_xg hd rfl hs
    · rw [if_neg q] at hs ⊢
      exact ab_xn hd rfl hs
theorem ab_o_bastore {a : Nat} {i x : Int32} {ty : FieldType} (hd : decode (ab_code mi) pc = .ok (.bastore, 1)) (hty : (ty = .byte ∧ ab_si a .byte i = true) ∨ (ty = .boolean ∧ ab_ar ab_L0 a .byte = none ∧ ab_si a .boolean i = true)) : ab_res scr mi d M pc ls (.int x :: .int i :: .ref a :: st) = ab_res scr mi d (ab_up M a i.toNatClampNeg (vp_nar ty x)) (pc + 1) ls st := by
  have hs : ab_sI scr mi ab_L0 M pc ls (.int x :: .int i :: .ref a :: st) .bastore 1 = (match ab_ar ab_L0 a .byte with | some n => (if ab_inB i n = true then ab_go ab_L0 (ab_up M a i.toNatClampNeg (vp_nar .byte x)) (pc + 1) ls st else none) | none => match ab_ar ab_L0 a .boolean with | some n => (if ab_inB i n = true then ab_go ab_L0 (ab_up M a i.toNatClampNeg (vp_nar .boolean x)) (pc + 1) ls st else none) | none => none) := rfl
  rcases hty with ⟨rfl, h⟩ | ⟨rfl, h0, h⟩
  · unfold ab_si at h
    cases h2 : ab_ar ab_L0 a .byte with
    | none =>
      rw [h2] at h
      cases h
    | some n =>
      rw [h2] at h hs
      simp only at h hs
      rw [if_pos h] at hs
      exact ab_xg hd rfl hs
  · unfold ab_si at h
    rw [h0] at hs
    cases h2 : ab_ar ab_L0 a .boolean with
    | none =>
      rw [h2] at h
      cases h
    | some n =>
      rw [h2] at h hs
      simp only at h hs
      rw [if_pos h] at hs
      exact ab_xg hd rfl hs
theorem ab_s2c {kd n k m2 : Nat} {nest : Bool} {z : Nat × Nat} {i : Instr} (hd : decode (ab_code mi) pc = .ok (i, 3)) (hi : ab_kd i = .inr (.inr (kd, n))) (hk : ab_ky mi = k) (hl : ab_lk ab_cat k n = some ((m2, nest), z)) : ab_step scr mi ab_L0 M pc ls st = ab_iv kd mi ab_L0 pc ls st n := by
  rw [ab_of hd]
  unfold ab_s2
  rw [hi]
  show (if 3 = 3 then (match ab_lk ab_cat (ab_ky mi) n with | some _ => ab_iv kd mi ab_L0 pc ls st n | none => _) else none) = _
  rw [if_pos rfl, hk, hl]
/-- a call of a static method: As as they stand, the stack below -/
theorem ab_o_static {n k m2 na : Nat} {nest : Bool} {z : Nat × Nat} {As : List Value} (hd : decode (ab_code mi) pc = .ok (.invokestatic n, 3)) (hk : ab_ky mi = k) (hl : ab_lk ab_cat k n = some ((m2, nest), z)) (hm : ab_sta m2 = true ∧ ab_na m2 = na ∧ m2 < ab_mtA.length) (h1 : na ≤ st.length) (h2 : (st.take na).reverse = As) (h3 : st.drop na = st2) (h4 : ab_wd st2 = true) (hq : Nat.ble (ab_dk m2 As + 1) d = true) (hy : Nat.ble (ab_lay As).length (ab_nL m2) = true) : ab_res scr mi d M pc ls st = (ab_ms scr m2 As M).bind fun o => ab_res scr mi d o.1 (pc + 3) ls (ab_pr o.2 st2) := by
  refine ab_x_call ?_ hq hy
  rw [ab_s2c hd rfl hk hl]
  unfold ab_iv
  rw [hk, hl]
  simp only
  rw [hm.2.1, if_pos h1, if_pos trivial, if_pos hm.1, h2, h3]
  unfold ab_ca
  rw [if_pos ⟨h4, hm.2.2⟩]
theorem ab_o_virtual {n k m2 na b ky : Nat} {z : Nat × Nat} {As : List Value} (hd : decode (ab_code mi) pc = .ok (.invokevirtual n, 3)) (hk : ab_ky mi = k) (hl : ab_lk ab_cat k n = some ((m2, false), z)) (hm : ab_sta m2 = false ∧ ab_na m2 = na ∧ m2 < ab_mtA.length ∧ (ab_mr m2).1.1.name ≠ "<init>" ∧ ab_ky m2 = ky) (h1 : na ≤ st.length) (h2 : .ref b :: (st.take na).reverse = As) (h3 : st.drop na = .ref b :: st2) (h4 : ab_wd st2 = true) (hb : ab_rc ab_L0 b = some ky) (hq : Nat.ble (ab_dk m2 As + 1) d = true) (hy : Nat.ble (ab_lay As).length (ab_nL m2) = true) : ab_res scr mi d M pc ls st = (ab_ms scr m2 As M).bind fun o => ab_res scr mi d o.1 (pc + 3) ls (ab_pr o.2 st2) := by
  refine ab_x_call ?_ hq hy
  rw [ab_s2c hd rfl hk hl]
  unfold ab_iv
  rw [hk, hl]
  simp only
  rw [hm.2.1, if_pos h1, if_neg (by decide), if_pos hm.1, h3]
  simp only
  rw [if_pos trivial, if_pos ⟨trivial, by rw [hm.2.2.2.2]; exact hb, hm.2.2.2.1⟩, h2]
  unfold ab_ca
  rw [if_pos ⟨h4, hm.2.2.1⟩]
theorem ab_o_ireturn {x : Int32} {ty : FieldType} (hd : decode (ab_code mi) pc = .ok (.ireturn, 1)) (hr : ab_ret mi = some ty) (hn : narrow ty (.int x) = .int x) : ab_res scr mi d M pc ls [.int x] = some (M, some (.int x)) := by
  apply ab_x_ret
  rw [ab_of hd]
  show (if 1 = 1 then (match ab_ret mi with | some ty => (if narrow ty (.int x) = .int x then (some (.inr (.inr (some (.int x)))) : Option ab_Ov) else none) | none => none) else none) = _
  rw [if_pos rfl, hr]
  simp only
  rw [if_pos hn]
theorem ab_o_lreturn {x : Int64} (hd : decode (ab_code mi) pc = .ok (.lreturn, 1)) (hr : ab_ret mi = some .long) : ab_res scr mi d M pc ls [.long x] = some (M, some (.long x)) := by
  apply ab_x_ret
  rw [ab_of hd]
  show (if 1 = 1 then (if ab_ret mi = some .long then (some (.inr (.inr (some (.long x)))) : Option ab_Ov) else none) else none) = _
  rw [if_pos rfl, if_pos hr]
theorem ab_o_return (hd : decode (ab_code mi) pc = .ok (.return_, 1)) (hr : ab_ret mi = none) : ab_res scr mi d M pc ls [] = some (M, none) := by
  apply ab_x_ret
  rw [ab_of hd]
  show (if 1 = 1 then (if ab_ret mi = none then (some (.inr (.inr none)) : Option ab_Ov) else none) else none) = _
  rw [if_pos rfl, if_pos hr]
/-- max, min, abs, arraycopy -/
theorem ab_s2p {n k : Nat} {o : ab_Ou} (hd : decode (ab_code mi) pc = .ok (.invokestatic n, 3)) (hk : ab_ky mi = k) (hl : ab_lk ab_cat k n = none) (h : ab_sI scr mi ab_L0 M pc ls st (.invokestatic n) 3 = some o) : ab_step scr mi ab_L0 M pc ls st = some (.inl o) := by
  rw [ab_of hd]
  show (if 3 = 3 then (match ab_lk ab_cat (ab_ky mi) n with | some _ => ab_iv 1 mi ab_L0 pc ls st n | none => (ab_sI scr mi ab_L0 M pc ls st (.invokestatic n) 3).map Sum.inl) else none) = _
  rw [if_pos rfl, hk, hl, h]
  rfl
theorem ab_o_max {n k : Nat} {x y : Int32} {z : Nat × Nat} (hd : decode (ab_code mi) pc = .ok (.invokestatic n, 3)) (hk : ab_ky mi = k) (hl : ab_lk ab_cat k n = none) (hl2 : ab_lk ab_mat k n = some (0, z)) (hw : ab_wd st = true) : ab_res scr mi d M pc ls (.int y :: .int x :: st) = ab_res scr mi d M (pc + 3) ls (.int (if x < y then y else x) :: st) := by
  apply ab_x
  refine ab_s2p hd hk hl ?_
  show ab_ck 3 3 (match ab_lk ab_cat (ab_ky mi) n with | some _ => none | none => match ab_lk ab_mat (ab_ky mi) n with | some (2, _) => _ | some (q, _) => (if ab_wd st = true then ab_go ab_L0 M (pc + 3) ls (.int (if q = 0 then (if x < y then y else x) else (if y < x then y else x)) :: st) else none) | none => _) = _
  rw [hk, hl, hl2]
  simp only [if_pos hw]
  rfl
theorem ab_o_min {n k : Nat} {x y : Int32} {z : Nat × Nat} (hd : decode (ab_code mi) pc = .ok (.invokestatic n, 3)) (hk : ab_ky mi = k) (hl : ab_lk ab_cat k n = none) (hl2 : ab_lk ab_mat k n = some (1, z)) (hw : ab_wd st = true) : ab_res scr mi d M pc ls (.int y :: .int x :: st) = ab_res scr mi d M (pc + 3) ls (.int (if y < x then y else x) :: st) := by
  apply ab_x
  refine ab_s2p hd hk hl ?_
  show ab_ck 3 3 (match ab_lk ab_cat (ab_ky mi) n with | some _ => none | none => match ab_lk ab_mat (ab_ky mi) n with | some (2, _) => _ | some (q, _) => (if ab_wd st = true then ab_go ab_L0 M (pc + 3) ls (.int (if q = 0 then (if x < y then y else x) else (if y < x then y else x)) :: st) else none) | none => _) = _
  rw [hk, hl, hl2]
  simp only [if_pos hw]
  rfl
theorem ab_o_abs {n k : Nat} {x : Int32} {z : Nat × Nat} (hd : decode (ab_code mi) pc = .ok (.invokestatic n, 3)) (hk : ab_ky mi = k) (hl : ab_lk ab_cat k n = none) (hl2 : ab_lk ab_mat k n = some (2, z)) (hw : ab_wd st = true) : ab_res scr mi d M pc ls (.int x :: st) = ab_res scr mi d M (pc + 3) ls (.int (if 0 ≤ x then x else 0 - x) :: st) := by
  apply ab_x
  refine ab_s2p hd hk hl ?_
  show ab_ck 3 3 (match ab_lk ab_cat (ab_ky mi) n with | some _ => none | none => match ab_lk ab_mat (ab_ky mi) n with | some (2, _) => (if ab_wd st = true then ab_go ab_L0 M (pc + 3) ls (.int (if 0 ≤ x then x else 0 - x) :: st) else none) | some (q, _) => _ | none => _) = _
  rw [hk, hl, hl2]
  simp only [if_pos hw]
  rfl
theorem ab_o_copy {n k a a0 n0 n1 : Nat} {sp dp9 n9 : Int32} {z : Nat × Nat} (hd : decode (ab_code mi) pc = .ok (.invokestatic n, 3)) (hk : ab_ky mi = k) (hl : ab_lk ab_cat k n = none) (hl2 : ab_lk ab_mat k n = none) (hl3 : ab_lk ab_act k n = some z) (h0 : ab_ar ab_L0 a0 .int = some n0) (h1 : ab_ar ab_L0 a .int = some n1) (hc : 0 ≤ sp.toInt ∧ 0 ≤ dp9.toInt ∧ 0 ≤ n9.toInt ∧ sp.toNatClampNeg + n9.toNatClampNeg ≤ n0 ∧ dp9.toNatClampNeg + n9.toNatClampNeg ≤ n1 ∧ ab_wd st = true) : ab_res scr mi d M pc ls (.int n9 :: .int dp9 :: .ref a :: .int sp :: .ref a0 :: st) = ab_res scr mi d (ab_cpy M a0 a sp.toNatClampNeg dp9.toNatClampNeg n9.toNatClampNeg) (pc + 3) ls st := by
  apply ab_x
  refine ab_s2p hd hk hl ?_
  show ab_ck 3 3 (match ab_lk ab_cat (ab_ky mi) n with | some _ => none | none => match ab_lk ab_mat (ab_ky mi) n with | some (2, _) => _ | some (q, _) => _ | none => (match ab_lk ab_act (ab_ky mi) n, (.int n9 :: .int dp9 :: .ref a :: .int sp :: .ref a0 :: st : List Value) with | some _, .int n :: .int dp :: .ref a :: .int sp :: .ref a0 :: r => (match ab_ar ab_L0 a0 .int, ab_ar ab_L0 a .int with | some n0, some n1 => (if 0 ≤ sp.toInt ∧ 0 ≤ dp.toInt ∧ 0 ≤ n.toInt ∧ sp.toNatClampNeg + n.toNatClampNeg ≤ n0 ∧ dp.toNatClampNeg + n.toNatClampNeg ≤ n1 ∧ ab_wd r = true then ab_go ab_L0 (ab_cpy M a0 a sp.toNatClampNeg dp.toNatClampNeg n.toNatClampNeg) (pc + 3) ls r else none) | _, _ => none) | _, _ => none)) = _
  rw [hk, hl, hl2, hl3]
  simp only [h0, h1, if_pos hc]
  rfl
end ABO
