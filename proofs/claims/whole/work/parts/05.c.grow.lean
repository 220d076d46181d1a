/-! a step never makes the layout less -/
def ab_P (L : List ab_Ds) (o : Option ab_Ou) : Prop := ∀ r, o = some r → r.1 = L
theorem ab_P_none {L : List ab_Ds} : ab_P L none := fun r h => by cases h
theorem ab_P_go {L : List ab_Ds} {M : ab_M} {pc : Nat} {ls : ab_Lo} {st : List Value} : ab_P L (ab_go L M pc ls st) := fun r h => by
  cases h
  rfl
theorem ab_P_if {L : List ab_Ds} {c : Prop} [Decidable c] {a b : Option ab_Ou} (ha : ab_P L a) (hb : ab_P L b) : ab_P L (if c then a else b) := by
  by_cases h : c
  · rw [if_pos h]
    exact ha
  · rw [if_neg h]
    exact hb
theorem ab_P_jm {L : List ab_Ds} {M : ab_M} {pc : Nat} {off : Int} {ls : ab_Lo} {st : List Value} : ab_P L (ab_jm L M pc off ls st) := ab_P_if ab_P_go ab_P_none
theorem ab_P_br {L : List ab_Ds} {M : ab_M} {pc : Nat} {off : Int} {b : Bool} {ls : ab_Lo} {st : List Value} : ab_P L (ab_br L M pc off b ls st) := ab_P_if (ab_P_if ab_P_go ab_P_go) ab_P_none
theorem ab_P_ck {L : List ab_Ds} {a b : Nat} {o : Option ab_Ou} (h : ab_P L o) : ab_P L (ab_ck a b o) := ab_P_if h ab_P_none
theorem ab_P_I {L : List ab_Ds} {st : List Value} {f : Int32 → List Value → Option ab_Ou} (h : ∀ x r, ab_P L (f x r)) : ab_P L (ab_I st f) := by
  unfold ab_I
  split
  · exact h _ _
  · exact ab_P_none
theorem ab_P_J {L : List ab_Ds} {st : List Value} {f : Int64 → List Value → Option ab_Ou} (h : ∀ x r, ab_P L (f x r)) : ab_P L (ab_J st f) := by
  unfold ab_J
  split
  · exact h _ _
  · exact ab_P_none
theorem ab_P_R {L : List ab_Ds} {st : List Value} {f : Nat → List Value → Option ab_Ou} (h : ∀ x r, ab_P L (f x r)) : ab_P L (ab_R st f) := by
  unfold ab_R
  split
  · exact h _ _
  · exact ab_P_none
theorem ab_P_li {L : List ab_Ds} {ls : ab_Lo} {i : Nat} {f : Int32 → Option ab_Ou} (h : ∀ x, ab_P L (f x)) : ab_P L (ab_li ls i f) := by
  unfold ab_li
  split
  · exact h _
  · exact ab_P_none
theorem ab_P_lj {L : List ab_Ds} {ls : ab_Lo} {i : Nat} {f : Int64 → Option ab_Ou} (h : ∀ x, ab_P L (f x)) : ab_P L (ab_lj ls i f) := by
  unfold ab_lj
  split
  · exact h _
  · exact ab_P_none
theorem ab_P_lr {L : List ab_Ds} {ls : ab_Lo} {i : Nat} {f : Nat → Option ab_Ou} (h : ∀ x, ab_P L (f x)) : ab_P L (ab_lr ls i f) := by
  unfold ab_lr
  split
  · exact h _
  · exact ab_P_none
def ab_mk (i : Instr) : Bool := match i with
  | .new _ => true
  | .newarray _ => true
  | .anewarray _ => true
  | .multianewarray _ _ => true
  | .putfield _ => true
  | .aastore => true
  | _ => false
theorem ab_sI_same {scr : Option (List Int32)} {mi : Nat} {L : List ab_Ds} {M : ab_M} {pc : Nat} {ls : ab_Lo} {st : List Value} {i : Instr} {len : Nat} (hi : ab_mk i = false) : ab_P L (ab_sI scr mi L M pc ls st i len) := by
  cases i
  all_goals first
    | (cases hi; done)
    | (refine ab_P_ck ?_
       first
         | exact ab_P_none
         | exact ab_P_go
         | exact ab_P_jm
         | exact ab_P_I fun _ _ => ab_P_go
         | exact ab_P_J fun _ _ => ab_P_go
         | exact ab_P_I fun _ _ => ab_P_I fun _ _ => ab_P_go
         | exact ab_P_J fun _ _ => ab_P_J fun _ _ => ab_P_go
         | exact ab_P_I fun _ _ => ab_P_J fun _ _ => ab_P_go
         | exact ab_P_I fun _ _ => ab_P_I fun _ _ => ab_P_if ab_P_none ab_P_go
         | exact ab_P_J fun _ _ => ab_P_J fun _ _ => ab_P_if ab_P_none ab_P_go
         | exact ab_P_I fun _ _ => ab_P_br
         | exact ab_P_I fun _ _ => ab_P_I fun _ _ => ab_P_br
         | exact ab_P_li fun _ => ab_P_go
         | exact ab_P_lj fun _ => ab_P_go
         | exact ab_P_lr fun _ => ab_P_go
         | exact ab_P_li fun _ => ab_P_if ab_P_go ab_P_none
         | exact ab_P_I fun _ _ => ab_P_if ab_P_go ab_P_none
         | exact ab_P_J fun _ _ => ab_P_if ab_P_go ab_P_none
         | exact ab_P_R fun _ _ => ab_P_if ab_P_go ab_P_none
         | (split <;> first | exact ab_P_go | exact ab_P_none | exact ab_P_if ab_P_go ab_P_none | (split <;> first | exact ab_P_go | exact ab_P_none | exact ab_P_R fun _ _ => ab_P_if ab_P_go ab_P_none))
         | (refine ab_P_R fun _ _ => ?_; split <;> first | exact ab_P_go | exact ab_P_none)
         | (refine ab_P_I fun _ _ => ab_P_R fun _ _ => ?_; split <;> first | exact ab_P_go | exact ab_P_none | (refine ab_P_if ?_ ab_P_none; split <;> first | exact ab_P_go | exact ab_P_none) | (split <;> first | exact ab_P_go | exact ab_P_none))
         | (refine ab_P_I fun _ _ => ab_P_I fun _ _ => ab_P_R fun _ _ => ?_; split <;> first | exact ab_P_if ab_P_go ab_P_none | exact ab_P_none | (split <;> first | exact ab_P_if ab_P_go ab_P_none | exact ab_P_none))
         | (split
            · exact ab_P_none
            · split
              · exact ab_P_I fun _ _ => ab_P_if ab_P_go ab_P_none
              · exact ab_P_I fun _ _ => ab_P_I fun _ _ => ab_P_if ab_P_go ab_P_none
              · split
                · split
                  · exact ab_P_if ab_P_go ab_P_none
                  · exact ab_P_none
                · exact ab_P_none))
    | (refine ab_P_I fun _ _ => ?_
       first
         | exact ab_P_if ab_P_jm ab_P_none
         | (refine ab_P_if ab_P_jm ?_; split <;> first | exact ab_P_jm | exact ab_P_none))
