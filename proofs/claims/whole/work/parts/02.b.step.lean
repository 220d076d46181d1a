/-! An abstract machine over a layout (list of cells: objects with their references, arrays) and a memory of ints; its steps; its runs. -/
abbrev ab_Lo : Type := List (Option Value)
abbrev ab_Ds : Type := (Nat × List (Option (Option Nat))) ⊕ (FieldType × Nat × Option (List (Option Nat)))
abbrev ab_M : Type := Nat → Nat → Int32
abbrev ab_Fr : Type := Nat × ab_Lo × List Value
abbrev ab_Ou : Type := List ab_Ds × ab_Fr × ab_M
abbrev ab_Ov : Type := ab_Ou ⊕ ((Nat × List Value × ab_Fr) ⊕ Option Value)
def ab_up (M : ab_M) (a k : Nat) (v : Int32) : ab_M := fun b j => if b = a ∧ j = k then v else M b j
def ab_kill (ls : ab_Lo) (i : Nat) : ab_Lo := match ls[i - 1]? with
  | some (some (.long _)) => if i = 0 then ls else ls.set (i - 1) none
  | some (some (.double _)) => if i = 0 then ls else ls.set (i - 1) none
  | _ => ls
def ab_st1 (ls : ab_Lo) (i : Nat) (v : Value) : ab_Lo := (ab_kill ls i).set i (some v)
def ab_st2 (ls : ab_Lo) (i : Nat) (v : Value) : ab_Lo := ((ab_kill ls i).set i (some v)).set (i + 1) none
def ab_ck (a b : Nat) (o : Option ab_Ou) : Option ab_Ou := if a = b then o else none
def ab_go (L : List ab_Ds) (M : ab_M) (pc : Nat) (ls : ab_Lo) (st : List Value) : Option ab_Ou := some (L, (pc, ls, st), M)
def ab_jm (L : List ab_Ds) (M : ab_M) (pc : Nat) (off : Int) (ls : ab_Lo) (st : List Value) : Option ab_Ou := if 0 ≤ (pc : Int) + off then ab_go L M ((pc : Int) + off).toNat ls st else none
def ab_br (L : List ab_Ds) (M : ab_M) (pc : Nat) (off : Int) (b : Bool) (ls : ab_Lo) (st : List Value) : Option ab_Ou := if 0 ≤ (pc : Int) + off then (if b = true then ab_go L M ((pc : Int) + off).toNat ls st else ab_go L M (pc + 3) ls st) else none
def ab_I (st : List Value) (f : Int32 → List Value → Option ab_Ou) : Option ab_Ou := match st with
  | .int x :: r => f x r
  | _ => none
def ab_J (st : List Value) (f : Int64 → List Value → Option ab_Ou) : Option ab_Ou := match st with
  | .long x :: r => f x r
  | _ => none
def ab_R (st : List Value) (f : Nat → List Value → Option ab_Ou) : Option ab_Ou := match st with
  | .ref x :: r => f x r
  | _ => none
def ab_li (ls : ab_Lo) (i : Nat) (f : Int32 → Option ab_Ou) : Option ab_Ou := match ls[i]? with
  | some (some (.int x)) => f x
  | _ => none
def ab_lj (ls : ab_Lo) (i : Nat) (f : Int64 → Option ab_Ou) : Option ab_Ou := match ls[i]? with
  | some (some (.long x)) => f x
  | _ => none
def ab_lr (ls : ab_Lo) (i : Nat) (f : Nat → Option ab_Ou) : Option ab_Ou := match ls[i]? with
  | some (some (.ref x)) => f x
  | _ => none
def ab_gF (L : List ab_Ds) (M : ab_M) (a ci k : Nat) : Option Value := match L[a]? with
  | some (.inl (c, ks)) => if c = ci then (match ks[k]? with
    | some none => some (.int (M a k))
    | some (some (some q)) => some (.ref q)
    | _ => none) else none
  | _ => none
def ab_cd (c : ClassFile.Cond) (x y : Int32) : Bool := match c with
  | .eq => decide (x = y)
  | .ne => decide (¬ x = y)
  | .lt => decide (x < y)
  | .ge => decide (y ≤ x)
  | .gt => decide (y < x)
  | .le => decide (x ≤ y)
def ab_inB (i : Int32) (n : Nat) : Bool := decide (0 ≤ i.toInt ∧ i.toInt < n)
/-- an int (or byte, boolean) array of the layout -/
def ab_ar (L : List ab_Ds) (a : Nat) (ty : FieldType) : Option Nat := match L[a]? with
  | some (.inr (t, n, none)) => if t = ty then some n else none
  | _ => none
def ab_aq (L : List ab_Ds) (a : Nat) : Option (FieldType × Nat × List (Option Nat)) := match L[a]? with
  | some (.inr (t, n, some q)) => some (t, n, q)
  | _ => none
def ab_nL (mi : Nat) : Nat := (ab_mr mi).1.2.2.1
def ab_code (mi : Nat) : ByteArray := (ab_mr mi).1.2.1
def ab_ret (mi : Nat) : Option FieldType := (ab_mr mi).1.2.2.2
def ab_ky (mi : Nat) : Nat := (ab_mr mi).2.1.1
def ab_na (mi : Nat) : Nat := (ab_mr mi).2.1.2.1
def ab_sta (mi : Nat) : Bool := (ab_mr mi).2.1.2.2
def ab_fin (ci k : Nat) : Bool := (ab_T ci k).2.2.2
/-- what lies outside and is only read: texts 1000 to 1004, LEAST 2000, MOST 2001, the script 3000, the bytes of the texts 2002 to 2006; .null stands for a reference or null of which nothing is asked -/
def ab_sxt : List (List Int32) := [[111, 110, 101], [98, 101, 103, 105, 110], [112, 117, 114, 115, 101], [112, 97, 114, 116], [112, 111, 111, 114]]
def ab_xar (scr : Option (List Int32)) (a : Nat) : Option (FieldType × List Int32) := match a with
  | 3000 => scr.map fun l => (.int, l)
  | 2000 => some (.int, [0, 1, 1, 1, 0, 0, 0, -99999])
  | 2001 => some (.int, [239, 240, 99, 99, 999, 9, 1, 99999])
  | 2002 => some (.byte, [111, 110, 101])
  | 2003 => some (.byte, [98, 101, 103, 105, 110])
  | 2004 => some (.byte, [112, 117, 114, 115, 101])
  | 2005 => some (.byte, [112, 97, 114, 116])
  | 2006 => some (.byte, [112, 111, 111, 114])
  | _ => none
def ab_stv (k : Nat) : Value := match k with
  | 0 => .ref 2000
  | 1 => .ref 2001
  | 2 => .int 1
  | _ => .null
def ab_str (own idx : Nat) : Option Nat := if own = 9 then (match idx with
  | 51 => some 0
  | 67 => some 1
  | 103 => some 2
  | 105 => some 3
  | 107 => some 4
  | _ => none) else none
def ab_isS (a : Nat) : Bool := decide (1000 ≤ a ∧ a < 1005)
/-- reading a field -/
def ab_get (L : List ab_Ds) (M : ab_M) (own idx a : Nat) : Option Value := match ab_lk ab_flt own idx with
  | some ((ci, k), _) => ab_gF L M a ci k
  | none => match ab_lk ab_sft own idx with
    | some (w, _) => if ab_isS a = true then some (if w = 0 then .int 0 else .ref (a + 1002)) else none
    | none => none
/-- an int that a field or an array of the type keeps -/
def ab_fit (ty : FieldType) (x : Int32) : Bool := decide (narrow ty (.int x) = .int x) && fits ty (.int x)
def ab_isRf (ty : FieldType) : Bool := match ty with
  | .object _ => true
  | .array _ => true
  | _ => false
def ab_sL (L : List ab_Ds) (a k q : Nat) : Option (List ab_Ds) := match L[a]? with
  | some (.inl (c, ks)) => (match ks[k]? with
    | some (some _) => some (L.set a (.inl (c, ks.set k (some (some q)))))
    | _ => none)
  | _ => none
def ab_put (L : List ab_Ds) (M : ab_M) (own idx a : Nat) (v : Value) (f : List ab_Ds → ab_M → Option ab_Ou) (mi : Nat) : Option ab_Ou := match ab_lk ab_flt own idx with
  | some ((ci, k), _) => if ab_fin ci k = true ∧ ¬ ((ab_mr mi).1.1.name = "<init>" ∧ own = ci) then none else
    (match v with
    | .int x => if ab_fit (ab_fty ci k) x = true then (match ab_gF L M a ci k with
        | some (.int _) => f L (ab_up M a k x)
        | _ => none) else none
    | .ref q => if ab_isRf (ab_fty ci k) = true ∧ q < 1000 then (match L[a]? with
        | some (.inl (c, _)) => if c = ci then (match ab_sL L a k q with
          | some L' => f L' M
          | none => none) else none
        | _ => none) else none
    | _ => none)
  | none => none
/-- an element of an array of ints (bytes, booleans), of the layout or outside -/
def ab_ald (scr : Option (List Int32)) (L : List ab_Ds) (M : ab_M) (a : Nat) (ty : FieldType) (i : Int32) : Option Int32 := match ab_ar L a ty with
  | some n => if ab_inB i n = true then some (M a i.toNatClampNeg) else none
  | none => match ab_xar scr a with
    | some (t, l) => if t = ty ∧ 1000 ≤ a ∧ ab_inB i l.length = true then some (l.getD i.toNatClampNeg 0) else none
    | none => none
def ab_len (scr : Option (List Int32)) (L : List ab_Ds) (a : Nat) : Option Int32 := match L[a]? with
  | some (.inr (_, n, _)) => some (Int32.ofNat n)
  | some _ => none
  | none => match ab_xar scr a with
    | some (_, l) => if 1000 ≤ a then some (Int32.ofNat l.length) else none
    | none => none
def ab_b1 (i : Instr) : Option (Int32 → Int32) := match i with
  | .ineg => some (fun x => -x)
  | .i2b => some (fun x => x.toInt8.toInt32)
  | .i2s => some (fun x => x.toInt16.toInt32)
  | .i2c => some (fun x => (x.toUInt32 % 65536).toInt32)
  | _ => none
def ab_b2 (i : Instr) : Option (Int32 → Int32 → Int32) := match i with
  | .iadd => some (fun x y => x + y)
  | .isub => some (fun x y => x - y)
  | .imul => some (fun x y => x * y)
  | .iand => some (fun x y => x &&& y)
  | .ior => some (fun x y => x ||| y)
  | .ixor => some (fun x y => x ^^^ y)
  | .ishl => some (fun x y => x <<< (y &&& 31))
  | .ishr => some (fun x y => x >>> (y &&& 31))
  | .iushr => some (fun x y => (x.toUInt32 >>> (y.toUInt32 &&& Int32.toUInt32 31)).toInt32)
  | _ => none
def ab_b3 (i : Instr) : Option (Int64 → Int64 → Int64) := match i with
  | .ladd => some (fun x y => x + y)
  | .lsub => some (fun x y => x - y)
  | .lmul => some (fun x y => x * y)
  | .land => some (fun x y => x &&& y)
  | .lor => some (fun x y => x ||| y)
  | _ => none
def ab_b4 (i : Instr) : Option (Int64 → Int32 → Int64) := match i with
  | .lshl => some (fun x y => x <<< (y.toInt64 &&& 63))
  | .lshr => some (fun x y => x >>> (y.toInt64 &&& 63))
  | .lushr => some (fun x y => (x.toUInt64 >>> (y.toInt64.toUInt64 &&& Int64.toUInt64 63)).toInt64)
  | _ => none
def ab_cat1 (v : Value) : Bool := Nat.beq v.category 1
def ab_wd (st : List Value) : Bool := decide ((st.map fun v => v.category).sum ≤ 8)
/-- the home of what is called upon -/
def ab_rc (L : List ab_Ds) (a : Nat) : Option Nat := match L[a]? with
  | some (.inl (c, _)) => some c
  | some _ => none
  | none => if ab_isS a = true then some 20 else none
/-- the layout with what is new behind it -/
def ab_nf (N : Nat) (ci : Nat) : List (Option (Option Nat)) := (List.range N).map fun k => if ab_isRf (ab_fty ci k) = true then some none else none
def ab_zr (M : ab_M) (a n : Nat) : ab_M := fun b j => if a ≤ b ∧ b < a + n then 0 else M b j
def ab_cpy (M : ab_M) (a0 a : Nat) (sp dp n : Nat) : ab_M := fun b j => if b = a then va_cpy (M a0) (M a) sp dp n j else M b j
def ab_sQ (L : List ab_Ds) (a k q : Nat) : Option (List ab_Ds) := match L[a]? with
  | some (.inr (t, n, some qs)) => if k < qs.length ∧ qs.length = n then some (L.set a (.inr (t, n, some (qs.set k (some q))))) else none
  | _ => none
/-- one step -/
def ab_sI (scr : Option (List Int32)) (mi : Nat) (L : List ab_Ds) (M : ab_M) (pc : Nat) (ls : ab_Lo) (st : List Value) (i : Instr) (len : Nat) : Option ab_Ou := match i with
  | .iconst n => ab_ck len 1 (ab_go L M (pc + 1) ls (.int (Int32.ofInt n) :: st))
  | .bipush n => ab_ck len 2 (ab_go L M (pc + 2) ls (.int (Int8.ofInt n).toInt32 :: st))
  | .sipush n => ab_ck len 3 (ab_go L M (pc + 3) ls (.int (Int16.ofInt n).toInt32 :: st))
  | .lconst n => ab_ck len 1 (ab_go L M (pc + 1) ls (.long (Int64.ofNat (n : Nat)) :: st))
  | .ldc k => ab_ck len 2 (match ab_lk ab_kot (ab_ky mi) k with
    | some (.inl v, _) => ab_go L M (pc + 2) ls (.int v :: st)
    | some (.inr _, _) => none
    | none => match ab_str (ab_ky mi) k with
      | some j => ab_go L M (pc + 2) ls (.ref (1000 + j) :: st)
      | none => none)
  | .ldc_w k => ab_ck len 3 (match ab_lk ab_kot (ab_ky mi) k with
    | some (.inl v, _) => ab_go L M (pc + 3) ls (.int v :: st)
    | _ => none)
  | .ldc2_w k => ab_ck len 3 (match ab_lk ab_kot (ab_ky mi) k with
    | some (.inr v, _) => ab_go L M (pc + 3) ls (.long v :: st)
    | _ => none)
  | .iload_n k => ab_ck len 1 (ab_li ls k fun x => ab_go L M (pc + 1) ls (.int x :: st))
  | .iload k => ab_ck len 2 (ab_li ls k fun x => ab_go L M (pc + 2) ls (.int x :: st))
  | .lload_n k => ab_ck len 1 (ab_lj ls k fun x => ab_go L M (pc + 1) ls (.long x :: st))
  | .lload k => ab_ck len 2 (ab_lj ls k fun x => ab_go L M (pc + 2) ls (.long x :: st))
  | .aload_n k => ab_ck len 1 (ab_lr ls k fun x => ab_go L M (pc + 1) ls (.ref x :: st))
  | .aload k => ab_ck len 2 (ab_lr ls k fun x => ab_go L M (pc + 2) ls (.ref x :: st))
  | .istore_n k => ab_ck len 1 (ab_I st fun x r => if (k : Nat) < ab_nL mi then ab_go L M (pc + 1) (ab_st1 ls k (.int x)) r else none)
  | .istore k => ab_ck len 2 (ab_I st fun x r => if k < ab_nL mi then ab_go L M (pc + 2) (ab_st1 ls k (.int x)) r else none)
  | .lstore_n k => ab_ck len 1 (ab_J st fun x r => if (k : Nat) + 1 < ab_nL mi then ab_go L M (pc + 1) (ab_st2 ls k (.long x)) r else none)
  | .lstore k => ab_ck len 2 (ab_J st fun x r => if k + 1 < ab_nL mi then ab_go L M (pc + 2) (ab_st2 ls k (.long x)) r else none)
  | .astore_n k => ab_ck len 1 (ab_R st fun x r => if (k : Nat) < ab_nL mi then ab_go L M (pc + 1) (ab_st1 ls k (.ref x)) r else none)
  | .astore k => ab_ck len 2 (ab_R st fun x r => if k < ab_nL mi then ab_go L M (pc + 2) (ab_st1 ls k (.ref x)) r else none)
  | .iinc k n => ab_ck len 3 (ab_li ls k fun x => if k < ab_nL mi then ab_go L M (pc + 3) (ab_st1 ls k (.int (x + Int32.ofInt n))) st else none)
  | .idiv => ab_ck len 1 (ab_I st fun y r => ab_I r fun x r => if y = 0 then none else ab_go L M (pc + 1) ls (.int (x / y) :: r))
  | .irem => ab_ck len 1 (ab_I st fun y r => ab_I r fun x r => if y = 0 then none else ab_go L M (pc + 1) ls (.int (x - x / y * y) :: r))
  | .ldiv => ab_ck len 1 (ab_J st fun y r => ab_J r fun x r => if y = 0 then none else ab_go L M (pc + 1) ls (.long (x / y) :: r))
  | .lrem => ab_ck len 1 (ab_J st fun y r => ab_J r fun x r => if y = 0 then none else ab_go L M (pc + 1) ls (.long (x - x / y * y) :: r))
  | .lneg => ab_ck len 1 (ab_J st fun x r => ab_go L M (pc + 1) ls (.long (-x) :: r))
  | .lcmp => ab_ck len 1 (ab_J st fun y r => ab_J r fun x r => ab_go L M (pc + 1) ls (.int (lg_cmp x y) :: r))
  | .i2l => ab_ck len 1 (ab_I st fun x r => ab_go L M (pc + 1) ls (.long x.toInt64 :: r))
  | .l2i => ab_ck len 1 (ab_J st fun x r => ab_go L M (pc + 1) ls (.int x.toInt32 :: r))
  | .dup => ab_ck len 1 (match st with
    | v :: r => if ab_cat1 v = true then ab_go L M (pc + 1) ls (v :: v :: r) else none
    | _ => none)
  | .pop => ab_ck len 1 (match st with
    | v :: r => if ab_cat1 v = true then ab_go L M (pc + 1) ls r else none
    | _ => none)
  | .dup2 => ab_ck len 1 (match st with
    | v :: w :: r => if ab_cat1 v = true ∧ ab_cat1 w = true then ab_go L M (pc + 1) ls (v :: w :: v :: w :: r) else none
    | _ => none)
  | .goto off => ab_ck len 3 (ab_jm L M pc off ls st)
  | .ifCond c off => ab_ck len 3 (ab_I st fun x r => ab_br L M pc off (ab_cd c x 0) ls r)
  | .if_icmp c off => ab_ck len 3 (ab_I st fun y r => ab_I r fun x r => ab_br L M pc off (ab_cd c x y) ls r)
  | .tableswitch df lo hi offs => ab_I st fun x r => if x.toInt < lo ∨ hi < x.toInt then ab_jm L M pc df ls r else (match offs[(x.toInt - lo).toNat]? with
    | some off => ab_jm L M pc off ls r
    | none => none)
  | .lookupswitch df ps => ab_I st fun x r => if (ps.toList.zip (ps.toList.drop 1)).all (fun (a, next) => a.1 < next.1) = true then ab_jm L M pc (Op.lookupswitch.offset ps.toList df x.toInt) ls r else none
  | .getfield k => ab_ck len 3 (ab_R st fun a r => match ab_get L M (ab_ky mi) k a with
    | some v => ab_go L M (pc + 3) ls (v :: r)
    | none => none)
  | .putfield k => ab_ck len 3 (match st with
    | v :: .ref a :: r => ab_put L M (ab_ky mi) k a v (fun L' M' => ab_go L' M' (pc + 3) ls r) mi
    | _ => none)
  | .getstatic k => ab_ck len 3 (match ab_lk ab_stt (ab_ky mi) k with
    | some ((w, _), _) => ab_go L M (pc + 3) ls (ab_stv w :: st)
    | none => none)
  | .arraylength => ab_ck len 1 (ab_R st fun a r => match ab_len scr L a with
    | some n => ab_go L M (pc + 1) ls (.int n :: r)
    | none => none)
  | .iaload => ab_ck len 1 (ab_I st fun i r => ab_R r fun a r => match ab_ald scr L M a .int i with
    | some v => ab_go L M (pc + 1) ls (.int v :: r)
    | none => none)
  | .baload => ab_ck len 1 (ab_I st fun i r => ab_R r fun a r => match ab_ald scr L M a .byte i with
    | some v => ab_go L M (pc + 1) ls (.int v :: r)
    | none => match ab_ald scr L M a .boolean i with
      | some v => ab_go L M (pc + 1) ls (.int v :: r)
      | none => none)
  | .aaload => ab_ck len 1 (ab_I st fun i r => ab_R r fun a r => match ab_aq L a with
    | some (t, n, qs) => if ab_inB i n = true ∧ ab_isRf t = true then (match qs[i.toNatClampNeg]? with
      | some (some q) => ab_go L M (pc + 1) ls (.ref q :: r)
      | _ => none) else none
    | none => none)
  | .iastore => ab_ck len 1 (ab_I st fun x r => ab_I r fun i r => ab_R r fun a r => match ab_ar L a .int with
    | some n => if ab_inB i n = true then ab_go L (ab_up M a i.toNatClampNeg x) (pc + 1) ls r else none
    | none => none)
  | .bastore => ab_ck len 1 (ab_I st fun x r => ab_I r fun i r => ab_R r fun a r => match ab_ar L a .byte with
    | some n => if ab_inB i n = true then ab_go L (ab_up M a i.toNatClampNeg (vp_nar .byte x)) (pc + 1) ls r else none
    | none => match ab_ar L a .boolean with
      | some n => if ab_inB i n = true then ab_go L (ab_up M a i.toNatClampNeg (vp_nar .boolean x)) (pc + 1) ls r else none
      | none => none)
  | .aastore => ab_ck len 1 (ab_R st fun q r => ab_I r fun i r => ab_R r fun a r => match ab_aq L a, ab_rc L q with
    | some (t, n, _), some c => if ab_inB i n = true ∧ t = .object (ab_cn c) ∧ c < 13 ∧ q < 1000 then (match ab_sQ L a i.toNatClampNeg q with
      | some L' => ab_go L' M (pc + 1) ls r
      | none => none) else none
    | _, _ => none)
  | .new k => ab_ck len 3 (match ab_lk ab_nwt (ab_ky mi) k with
    | some ((ci, N), _) => if L.length < 1000 then ab_go (L ++ [.inl (ci, ab_nf N ci)]) (ab_zr M L.length 1) (pc + 3) ls (.ref L.length :: st) else none
    | none => none)
  | .newarray t => ab_ck len 2 (ab_I st fun n r => if 0 ≤ n.toInt ∧ n.toInt ≤ 1000 ∧ L.length < 1000 ∧ (t = .int ∨ t = .boolean ∨ t = .byte) then
      ab_go (L ++ [.inr (newarray.typeOf t, n.toNatClampNeg, none)]) (ab_zr M L.length 1) (pc + 2) ls (.ref L.length :: r) else none)
  | .anewarray k => ab_ck len 3 (ab_I st fun n r => match ab_lk ab_nwt (ab_ky mi) k with
    | some ((ci, _), _) => if 0 ≤ n.toInt ∧ n.toInt ≤ 1000 ∧ L.length < 1000 ∧ (ci = 3 ∨ ci = 6 ∨ ci = 7 ∨ ci = 8) then
      ab_go (L ++ [.inr (.object (ab_cn ci), n.toNatClampNeg, some (List.replicate n.toNatClampNeg none))]) (ab_zr M L.length 1) (pc + 3) ls (.ref L.length :: r) else none
    | none => none)
  | .multianewarray k dm => ab_ck len 4 (ab_I st fun n1 r => ab_I r fun n0 r => if ab_ky mi = 4 ∧ k = 9 ∧ dm = 2 ∧ n0 = 8 ∧ n1 = 8 ∧ L.length + 9 ≤ 1000 then
      ab_go (L ++ (.inr (.array .int, 8, some ((List.range 8).map fun i => some (L.length + 1 + i))) :: List.replicate 8 (.inr (.int, 8, none)))) (ab_zr M L.length 9) (pc + 4) ls (.ref L.length :: r) else none)
  | .invokestatic k => ab_ck len 3 (match ab_lk ab_cat (ab_ky mi) k with
    | some _ => none
    | none => match ab_lk ab_mat (ab_ky mi) k with
      | some (2, _) => ab_I st fun x r => if ab_wd r = true then ab_go L M (pc + 3) ls (.int (if 0 ≤ x then x else 0 - x) :: r) else none
      | some (q, _) => ab_I st fun y r => ab_I r fun x r => if ab_wd r = true then ab_go L M (pc + 3) ls (.int (if q = 0 then (if x < y then y else x) else (if y < x then y else x)) :: r) else none
      | none => match ab_lk ab_act (ab_ky mi) k, st with
        | some _, .int n :: .int dp :: .ref a :: .int sp :: .ref a0 :: r => (match ab_ar L a0 .int, ab_ar L a .int with
          | some n0, some n1 => if 0 ≤ sp.toInt ∧ 0 ≤ dp.toInt ∧ 0 ≤ n.toInt ∧ sp.toNatClampNeg + n.toNatClampNeg ≤ n0 ∧ dp.toNatClampNeg + n.toNatClampNeg ≤ n1 ∧ ab_wd r = true then
              ab_go L (ab_cpy M a0 a sp.toNatClampNeg dp.toNatClampNeg n.toNatClampNeg) (pc + 3) ls r else none
          | _, _ => none)
        | _, _ => none)
  | .invokespecial k => ab_ck len 3 (match ab_lk ab_cat (ab_ky mi) k with
    | some _ => none
    | none => match ab_lk ab_obt (ab_ky mi) k with
      | some _ => ab_R st fun _ r => if r = [] then ab_go L M (pc + 3) ls r else none
      | none => none)
  | i => ab_ck len 1 (match ab_b1 i with
    | some f => ab_I st fun x r => ab_go L M (pc + 1) ls (.int (f x) :: r)
    | none => match ab_b2 i with
      | some f => ab_I st fun y r => ab_I r fun x r => ab_go L M (pc + 1) ls (.int (f x y) :: r)
      | none => match ab_b3 i with
        | some f => ab_J st fun y r => ab_J r fun x r => ab_go L M (pc + 1) ls (.long (f x y) :: r)
        | none => match ab_b4 i with
          | some f => ab_I st fun y r => ab_J r fun x r => ab_go L M (pc + 1) ls (.long (f x y) :: r)
          | none => none)
def ab_ca (mi : Nat) (As : List Value) (pc : Nat) (ls : ab_Lo) (st : List Value) : Option ab_Ov := if ab_wd st = true ∧ mi < ab_mtA.length then some (.inr (.inl (mi, As, (pc, ls, st)))) else none
/-- a call: kind 0 by the home of what is called upon, 1 static, 2 of a constructor -/
def ab_iv (kd : Nat) (mi : Nat) (L : List ab_Ds) (pc : Nat) (ls : ab_Lo) (st : List Value) (k : Nat) : Option ab_Ov := match ab_lk ab_cat (ab_ky mi) k with
  | some ((m2, nest), _) => if ab_na m2 ≤ st.length then
    (if kd = 1 then (if ab_sta m2 = true then ab_ca m2 (st.take (ab_na m2)).reverse (pc + 3) ls (st.drop (ab_na m2)) else none)
    else if ab_sta m2 = false then (match st.drop (ab_na m2) with
      | .ref b :: r => if kd = 0 then (if nest = false ∧ ab_rc L b = some (ab_ky m2) ∧ (ab_mr m2).1.1.name ≠ "<init>" then ab_ca m2 (.ref b :: (st.take (ab_na m2)).reverse) (pc + 3) ls r else none)
        else (if (ab_mr m2).1.1.name = "<init>" then ab_ca m2 (.ref b :: (st.take (ab_na m2)).reverse) (pc + 3) ls r else none)
      | _ => none) else none) else none
  | none => none
def ab_rt (kd : Nat) (mi : Nat) (st : List Value) : Option ab_Ov := match kd, st with
  | 0, [.int x] => (match ab_ret mi with
    | some ty => if narrow ty (.int x) = .int x then some (.inr (.inr (some (.int x)))) else none
    | none => none)
  | 1, [.long x] => if ab_ret mi = some .long then some (.inr (.inr (some (.long x)))) else none
  | 2, [] => if ab_ret mi = none then some (.inr (.inr none)) else none
  | _, _ => none
def ab_kd (i : Instr) : Nat ⊕ (Nat ⊕ Nat × Nat) := match i with
  | .ireturn => .inr (.inl 0)
  | .lreturn => .inr (.inl 1)
  | .return_ => .inr (.inl 2)
  | .invokevirtual k => .inr (.inr (0, k))
  | .invokestatic k => .inr (.inr (1, k))
  | .invokespecial k => .inr (.inr (2, k))
  | _ => .inl 0
def ab_s2 (scr : Option (List Int32)) (mi : Nat) (L : List ab_Ds) (M : ab_M) (pc : Nat) (ls : ab_Lo) (st : List Value) (i : Instr) (len : Nat) : Option ab_Ov := match ab_kd i with
  | .inl _ => (ab_sI scr mi L M pc ls st i len).map .inl
  | .inr (.inl kd) => if len = 1 then ab_rt kd mi st else none
  | .inr (.inr (kd, k)) => if len = 3 then (match ab_lk ab_cat (ab_ky mi) k with
    | some _ => ab_iv kd mi L pc ls st k
    | none => (ab_sI scr mi L M pc ls st i len).map .inl) else none
def ab_step (scr : Option (List Int32)) (mi : Nat) (L : List ab_Ds) (M : ab_M) (pc : Nat) (ls : ab_Lo) (st : List Value) : Option ab_Ov := match decode (ab_code mi) pc with
  | .ok (i, len) => ab_s2 scr mi L M pc ls st i len
  | .error _ => none
def ab_lay : List Value → ab_Lo
  | [] => []
  | v :: vs => if v.category = 2 then some v :: none :: ab_lay vs else some v :: ab_lay vs
def ab_en (nL : Nat) (As : List Value) : ab_Lo := ab_lay As ++ List.replicate (nL - (ab_lay As).length) none
def ab_pr (r : Option Value) (st : List Value) : List Value := match r with
  | some v => v :: st
  | none => st
