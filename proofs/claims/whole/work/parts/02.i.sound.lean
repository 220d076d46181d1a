/-! A run of the abstract machine is a run of the machine -/
def ab_gr (L L2 : List ab_Ds) : Bool := Nat.ble L.length L2.length && Nat.ble (ab_sz L) (ab_sz L2)
theorem ab_gr_of {L L2 : List ab_Ds} (h : ab_gr L L2 = true) : L.length ≤ L2.length ∧ ab_sz L ≤ ab_sz L2 := by
  unfold ab_gr at h
  rw [Bool.and_eq_true] at h
  exact ⟨Nat.le_of_ble_eq_true h.1, Nat.le_of_ble_eq_true h.2⟩
def ab_run (scr : Option (List Int32)) : Nat → Nat → Nat → List ab_Ds → ab_M → Nat → ab_Lo → List Value → Option (List ab_Ds × ab_M × Option Value)
  | 0, _, _, _, _, _, _, _ => none
  | n + 1, mi, d, L, M, pc, ls, st => match ab_step scr mi L M pc ls st with
    | none => none
    | some (.inl (L2, (pc2, ls2, st2), M2)) => if ab_gr L L2 = true then ab_run scr n mi d L2 M2 pc2 ls2 st2 else none
    | some (.inr (.inl (m2, As, (pc2, ls2, st2)))) => if Nat.ble (ab_dk m2 As + 1) d = true ∧ Nat.ble (ab_lay As).length (ab_nL m2) = true then (match ab_run scr n m2 (ab_dk m2 As) L M 0 (ab_en (ab_nL m2) As) [] with
      | none => none
      | some (L2, M2, r) => if ab_gr L L2 = true then ab_run scr n mi d L2 M2 pc2 ls2 (ab_pr r st2) else none) else none
    | some (.inr (.inr r)) => some (L, M, r)
theorem ab_run_gr (scr : Option (List Int32)) : ∀ (n mi d : Nat) (L : List ab_Ds) (M : ab_M) (pc : Nat) (ls : ab_Lo) (st : List Value) (L1 : List ab_Ds) (M1 : ab_M) (r : Option Value), ab_run scr n mi d L M pc ls st = some (L1, M1, r) → L.length ≤ L1.length ∧ ab_sz L ≤ ab_sz L1 := by
  intro n
  induction n with
  | zero =>
    intro mi d L M pc ls st L1 M1 r h
    cases h
  | succ n ih =>
    intro mi d L M pc ls st L1 M1 r h
    unfold ab_run at h
    split at h
    · cases h
    · rename_i L2 pc2 ls2 st2 M2 hs
      by_cases hg : ab_gr L L2 = true
      · rw [if_pos hg] at h
        have h1 := ab_gr_of hg
        have h2 := ih _ _ _ _ _ _ _ _ _ _ h
        omega
      · rw [if_neg hg] at h
        cases h
    · rename_i m2 As pc2 ls2 st2 hs
      by_cases hq : Nat.ble (ab_dk m2 As + 1) d = true ∧ Nat.ble (ab_lay As).length (ab_nL m2) = true
      · rw [if_pos hq] at h
        split at h
        · cases h
        · rename_i L2 M2 r2 hc
          by_cases hg : ab_gr L L2 = true
          · rw [if_pos hg] at h
            have h1 := ab_gr_of hg
            have h2 := ih _ _ _ _ _ _ _ _ _ _ h
            omega
          · rw [if_neg hg] at h
            cases h
      · rw [if_neg hq] at h
        cases h
    · cases h
      exact ⟨Nat.le_refl _, Nat.le_refl _⟩
theorem ab_rk_pos : ∀ (m2 : Nat) (As : List Value), 1 ≤ ab_dk m2 As := by
  intro m2 As
  unfold ab_dk
  by_cases hq : Nat.beq m2 48 = true
  · rw [if_pos hq]
    split
    · omega
    · omega
  · rw [if_neg hq]
    have hall : ∀ x ∈ ab_rkl, 1 ≤ x := by decide +kernel
    rw [List.getD_eq_getElem?_getD]
    cases hx : ab_rkl[m2]? with
    | none => exact Nat.le_refl 1
    | some x => exact hall x (List.mem_of_getElem? hx)
section ABS
variable {p : Program} {l : Launch} {e : Env} {R : Room} {s : State} {m : MethodId} {args : Array Value} {below : List Frame} {meth : Method} {c : Code} {Q : State → Prop} {scr : Option (List Int32)} {mi dp : Nat} {X : Nat → Nat} {A : Nat → Prop} {D : va_G} {Lf L L2 : List ab_Ds} {M M2 : ab_M} {pc pc2 len : Nat} {ls ls2 : ab_Lo} {st st2 : List Value} {ad : List Nat}
theorem ab_plain (C0 : ab_C scr p s m args meth c R mi dp X A) (hdp : 1 ≤ dp) (hLf0 : L.length ≤ Lf.length ∧ ab_sz L ≤ ab_sz Lf) (hLf : L2.length ≤ Lf.length ∧ ab_sz L2 ≤ ab_sz Lf) {i : Instr} (hd : decode (ab_code mi) pc = .ok (i, len)) (h : ab_sI scr mi L M pc ls st i len = some (L2, (pc2, ls2, st2), M2)) (k : ∀ ad2, ad <+: ad2 → ab_G p l e R s m args below meth c Q mi X A D Lf L2 M2 pc2 ls2 st2 ad2) : ab_G p l e R s m args below meth c Q mi X A D Lf L M pc ls st ad := by
  cases i with
  | iconst n => exact ab_p_iconst C0 hd h k
  | bipush n => exact ab_p_bipush C0 hd h k
  | sipush n => exact ab_p_sipush C0 hd h k
  | lconst n => exact ab_p_lconst C0 hd h k
  | ldc n => exact ab_p_ldc C0 hd h k
  | ldc_w n => exact ab_p_ldc_w C0 hd h k
  | ldc2_w n => exact ab_p_ldc2_w C0 hd h k
  | iload_n n => exact ab_p_iload_n C0 hd h k
  | iload n => exact ab_p_iload C0 hd h k
  | lload_n n => exact ab_p_lload_n C0 hd h k
  | lload n => exact ab_p_lload C0 hd h k
  | aload_n n => exact ab_p_aload_n C0 hd h k
  | aload n => exact ab_p_aload C0 hd h k
  | istore_n n => exact ab_p_istore_n C0 hd h k
  | istore n => exact ab_p_istore C0 hd h k
  | lstore_n n => exact ab_p_lstore_n C0 hd h k
  | lstore n => exact ab_p_lstore C0 hd h k
  | astore_n n => exact ab_p_astore_n C0 hd h k
  | astore n => exact ab_p_astore C0 hd h k
  | iinc n z => exact ab_p_iinc C0 hd h k
  | idiv => exact ab_p_idiv C0 hd h k
  | irem => exact ab_p_irem C0 hd h k
  | ldiv => exact ab_p_ldiv C0 hd h k
  | lrem => exact ab_p_lrem C0 hd h k
  | lneg => exact ab_p_lneg C0 hd h k
  | lcmp => exact ab_p_lcmp C0 hd h k
  | i2l => exact ab_p_i2l C0 hd h k
  | l2i => exact ab_p_l2i C0 hd h k
  | dup => exact ab_p_dup C0 hd h k
  | pop => exact ab_p_pop C0 hd h k
  | dup2 => exact ab_p_dup2 C0 hd h k
  | goto o => exact ab_p_goto C0 hd h k
  | ifCond cc o => cases cc with
    | eq => exact ab_p_if_eq C0 hd h k
    | ne => exact ab_p_if_ne C0 hd h k
    | lt => exact ab_p_if_lt C0 hd h k
    | ge => exact ab_p_if_ge C0 hd h k
    | gt => exact ab_p_if_gt C0 hd h k
    | le => exact ab_p_if_le C0 hd h k
  | if_icmp cc o => cases cc with
    | eq => exact ab_p_icmp_eq C0 hd h k
    | ne => exact ab_p_icmp_ne C0 hd h k
    | lt => exact ab_p_icmp_lt C0 hd h k
    | ge => exact ab_p_icmp_ge C0 hd h k
    | gt => exact ab_p_icmp_gt C0 hd h k
    | le => exact ab_p_icmp_le C0 hd h k
  | tableswitch df lo hi os => exact ab_p_tableswitch C0 hd h k
  | lookupswitch df ps => exact ab_p_lookupswitch C0 hd h k
  | getfield n => exact ab_p_getfield C0 hd h k
  | putfield n => exact ab_p_putfield C0 hd h k
  | getstatic n => exact ab_p_getstatic C0 hd h k
  | arraylength => exact ab_p_arraylength C0 hd h k
  | iaload => exact ab_p_iaload C0 hd h k
  | baload => exact ab_p_baload C0 hd h k
  | aaload => exact ab_p_aaload C0 hd h k
  | iastore => exact ab_p_iastore C0 hd h k
  | bastore => exact ab_p_bastore C0 hd h k
  | aastore => exact ab_p_aastore C0 hd h k
  | new n => exact ab_p_new C0 hLf hd h k
  | newarray t => exact ab_p_newarray C0 hLf hd h k
  | anewarray n => exact ab_p_anewarray C0 hLf hd h k
  | multianewarray n q => exact ab_p_multianewarray C0 hLf hd h k
  | invokestatic n =>
    cases hno : ab_lk ab_cat (ab_ky mi) n with
    | none => exact ab_p_prim C0 hdp hd hno hLf0 h k
    | some r =>
      obtain ⟨-, h⟩ := ab_ck_some h
      rw [hno] at h
      cases h
  | invokespecial n =>
    cases hno : ab_lk ab_cat (ab_ky mi) n with
    | none => exact ab_p_objinit C0 hdp hd hno h k
    | some r =>
      obtain ⟨-, h⟩ := ab_ck_some h
      rw [hno] at h
      cases h
  | iadd => exact ab_p_iadd C0 hd h k
  | isub => exact ab_p_isub C0 hd h k
  | imul => exact ab_p_imul C0 hd h k
  | iand => exact ab_p_iand C0 hd h k
  | ior => exact ab_p_ior C0 hd h k
  | ixor => exact ab_p_ixor C0 hd h k
  | ishl => exact ab_p_ishl C0 hd h k
  | ishr => exact ab_p_ishr C0 hd h k
  | iushr => exact ab_p_iushr C0 hd h k
  | ineg => exact ab_p_ineg C0 hd h k
  | i2b => exact ab_p_i2b C0 hd h k
  | i2s => exact ab_p_i2s C0 hd h k
  | i2c => exact ab_p_i2c C0 hd h k
  | ladd => exact ab_p_ladd C0 hd h k
  | lsub => exact ab_p_lsub C0 hd h k
  | lmul => exact ab_p_lmul C0 hd h k
  | land => exact ab_p_land C0 hd h k
  | lor => exact ab_p_lor C0 hd h k
  | lshl => exact ab_p_lshl C0 hd h k
  | lshr => exact ab_p_lshr C0 hd h k
  | lushr => exact ab_p_lushr C0 hd h k
  | _ =>
    obtain ⟨-, h⟩ := ab_ck_some h
    cases h
end ABS
