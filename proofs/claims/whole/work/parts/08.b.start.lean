/-! THE CLAIM OUT OF ONE WALK OF THE LAW'S BODY. Your part is whole_start (and what it stands on); all else here is the same for every law, but numbers. -/
def R_law : String := "WhoseRoundLaw"
def lw_P (b : Addr) (xs : List Int32) (args : Array Value) (s : State) : Prop := args = #[.ref b] ∧ s.IntsAt b xs ∧ xs.length ≤ 2560 ∧ (Jvm.Cond.and given_1 narrow_1).before args s = true
def lw_Q (_ : Array Value) (s : State) (o : Outcome) (t : State) : Prop := o = .returned (some (.int 1)) ∧ Framed s o t [] 600000 7302250
def lw_Z (below : List Frame) (a : Array Value) (s : State) : State → Prop := fun t => ∃ o, t.status = .running ∧ Ended t below o ∧ lw_Q a s o t
/-- the law's own end, with 1 on the stack, nothing written that was there before, its room as the claim has it -/
theorem lw_ret {p : Program} {l : Launch} {e : Env} {s : State} {m : MethodId} {below : List Frame} {meth : Method} {c : Code} {b : Nat} (hx : p.tables.exec = Jvm.exec) (hb : c.code = code) (hr : meth.sig.returnType = ret) (hlocks : meth.locks = false) {pc : Nat} {H : Heap} {ls : Array Slot} (hdg : decode code pc = .ok (.ireturn, 1)) : W p l e room_1 s m #[Value.ref b] below meth c H [] 600000 7302250 (lw_Z below #[Value.ref b] s) (F0 m pc ls [.int 1]) := by
  intro T hT X
  obtain ⟨fs, hret, hrun, hended, hW, hframe⟩ := X.leave (v := some (.int 1)) (hlocks := hlocks) (fun h => by rw [hr] at h; cases h)
  have hmeth' : T.vm.method? m = some meth := X.method'
  refine ⟨T.setFrames fs, ?_, .returned (some (.int 1)), hrun, hended, rfl, ⟨_, rfl⟩, hW, hframe⟩
  jvm_step X.here [X.here.top, hx, hb, hdg, hmeth', hr, ret, narrow_b1]
  (try refine ⟨rfl, ?_⟩); (try refine ⟨rfl, ?_⟩)
  first | (intro acts; rw [hret _ acts rfl rfl rfl]) | rw [hret _ _ rfl rfl rfl]
  exact Steps.refl _
/-- what holds at the law's entry: the machine, the code, the tables' words (any of lw_tbl by 'hts w (by decide +kernel)'), the script of L ints xs at the cell b, what the Statement gives of the start (any of its parts by flat_of_before) -/
def lw_At (p : Program) (s : State) (m : MethodId) (meth : Method) (c : Code) (b L : Nat) (xs : Nat → Int32) : Prop :=
  p.tables.exec = Jvm.exec ∧ c.code = code ∧ meth.sig.returnType = ret ∧ c.maxLocals = 4 ∧ s.vm.findClass R_law = some m.cls ∧ (∀ w ∈ lw_tbl, w.before #[Value.ref b] s = true) ∧ va_X b L xs s s.heap ∧ b < s.heap.size ∧ meth.locks = false ∧ (Jvm.Cond.and given_1 narrow_1).before #[Value.ref b] s = true
/-! what the Statement gives of the start -/
theorem fx_21 {a : Array Value} {s : State} (h : (Jvm.Cond.and given_1 narrow_1).before a s = true) : (Jvm.Cond.arrayOf (.static "WhoseRound" "LEAST" "[I") .int).before a s = true := flat_of_before _ h _ (List.mem_of_getElem? (i := 21) (by decide +kernel))
theorem fx_22 {a : Array Value} {s : State} (h : (Jvm.Cond.and given_1 narrow_1).before a s = true) : (Jvm.Cond.eq (.length (.static "WhoseRound" "LEAST" "[I")) (.int 8)).before a s = true := flat_of_before _ h _ (List.mem_of_getElem? (i := 22) (by decide +kernel))
theorem fx_23 {a : Array Value} {s : State} (h : (Jvm.Cond.and given_1 narrow_1).before a s = true) : (Jvm.Cond.eq (.elem (.static "WhoseRound" "LEAST" "[I") (.int 0)) (.int (0))).before a s = true := flat_of_before _ h _ (List.mem_of_getElem? (i := 23) (by decide +kernel))
theorem fx_24 {a : Array Value} {s : State} (h : (Jvm.Cond.and given_1 narrow_1).before a s = true) : (Jvm.Cond.eq (.elem (.static "WhoseRound" "LEAST" "[I") (.int 1)) (.int (1))).before a s = true := flat_of_before _ h _ (List.mem_of_getElem? (i := 24) (by decide +kernel))
theorem fx_25 {a : Array Value} {s : State} (h : (Jvm.Cond.and given_1 narrow_1).before a s = true) : (Jvm.Cond.eq (.elem (.static "WhoseRound" "LEAST" "[I") (.int 2)) (.int (1))).before a s = true := flat_of_before _ h _ (List.mem_of_getElem? (i := 25) (by decide +kernel))
theorem fx_26 {a : Array Value} {s : State} (h : (Jvm.Cond.and given_1 narrow_1).before a s = true) : (Jvm.Cond.eq (.elem (.static "WhoseRound" "LEAST" "[I") (.int 3)) (.int (1))).before a s = true := flat_of_before _ h _ (List.mem_of_getElem? (i := 26) (by decide +kernel))
theorem fx_27 {a : Array Value} {s : State} (h : (Jvm.Cond.and given_1 narrow_1).before a s = true) : (Jvm.Cond.eq (.elem (.static "WhoseRound" "LEAST" "[I") (.int 4)) (.int (0))).before a s = true := flat_of_before _ h _ (List.mem_of_getElem? (i := 27) (by decide +kernel))
theorem fx_28 {a : Array Value} {s : State} (h : (Jvm.Cond.and given_1 narrow_1).before a s = true) : (Jvm.Cond.eq (.elem (.static "WhoseRound" "LEAST" "[I") (.int 5)) (.int (0))).before a s = true := flat_of_before _ h _ (List.mem_of_getElem? (i := 28) (by decide +kernel))
theorem fx_29 {a : Array Value} {s : State} (h : (Jvm.Cond.and given_1 narrow_1).before a s = true) : (Jvm.Cond.eq (.elem (.static "WhoseRound" "LEAST" "[I") (.int 6)) (.int (0))).before a s = true := flat_of_before _ h _ (List.mem_of_getElem? (i := 29) (by decide +kernel))
theorem fx_30 {a : Array Value} {s : State} (h : (Jvm.Cond.and given_1 narrow_1).before a s = true) : (Jvm.Cond.eq (.elem (.static "WhoseRound" "LEAST" "[I") (.int 7)) (.int (-99999))).before a s = true := flat_of_before _ h _ (List.mem_of_getElem? (i := 30) (by decide +kernel))
theorem fx_10 {a : Array Value} {s : State} (h : (Jvm.Cond.and given_1 narrow_1).before a s = true) : (Jvm.Cond.arrayOf (.static "WhoseRound" "MOST" "[I") .int).before a s = true := flat_of_before _ h _ (List.mem_of_getElem? (i := 10) (by decide +kernel))
theorem fx_11 {a : Array Value} {s : State} (h : (Jvm.Cond.and given_1 narrow_1).before a s = true) : (Jvm.Cond.eq (.length (.static "WhoseRound" "MOST" "[I")) (.int 8)).before a s = true := flat_of_before _ h _ (List.mem_of_getElem? (i := 11) (by decide +kernel))
theorem fx_12 {a : Array Value} {s : State} (h : (Jvm.Cond.and given_1 narrow_1).before a s = true) : (Jvm.Cond.eq (.elem (.static "WhoseRound" "MOST" "[I") (.int 0)) (.int (239))).before a s = true := flat_of_before _ h _ (List.mem_of_getElem? (i := 12) (by decide +kernel))
theorem fx_13 {a : Array Value} {s : State} (h : (Jvm.Cond.and given_1 narrow_1).before a s = true) : (Jvm.Cond.eq (.elem (.static "WhoseRound" "MOST" "[I") (.int 1)) (.int (240))).before a s = true := flat_of_before _ h _ (List.mem_of_getElem? (i := 13) (by decide +kernel))
theorem fx_14 {a : Array Value} {s : State} (h : (Jvm.Cond.and given_1 narrow_1).before a s = true) : (Jvm.Cond.eq (.elem (.static "WhoseRound" "MOST" "[I") (.int 2)) (.int (99))).before a s = true := flat_of_before _ h _ (List.mem_of_getElem? (i := 14) (by decide +kernel))
theorem fx_15 {a : Array Value} {s : State} (h : (Jvm.Cond.and given_1 narrow_1).before a s = true) : (Jvm.Cond.eq (.elem (.static "WhoseRound" "MOST" "[I") (.int 3)) (.int (99))).before a s = true := flat_of_before _ h _ (List.mem_of_getElem? (i := 15) (by decide +kernel))
theorem fx_16 {a : Array Value} {s : State} (h : (Jvm.Cond.and given_1 narrow_1).before a s = true) : (Jvm.Cond.eq (.elem (.static "WhoseRound" "MOST" "[I") (.int 4)) (.int (999))).before a s = true := flat_of_before _ h _ (List.mem_of_getElem? (i := 16) (by decide +kernel))
theorem fx_17 {a : Array Value} {s : State} (h : (Jvm.Cond.and given_1 narrow_1).before a s = true) : (Jvm.Cond.eq (.elem (.static "WhoseRound" "MOST" "[I") (.int 5)) (.int (9))).before a s = true := flat_of_before _ h _ (List.mem_of_getElem? (i := 17) (by decide +kernel))
theorem fx_18 {a : Array Value} {s : State} (h : (Jvm.Cond.and given_1 narrow_1).before a s = true) : (Jvm.Cond.eq (.elem (.static "WhoseRound" "MOST" "[I") (.int 6)) (.int (1))).before a s = true := flat_of_before _ h _ (List.mem_of_getElem? (i := 18) (by decide +kernel))
theorem fx_19 {a : Array Value} {s : State} (h : (Jvm.Cond.and given_1 narrow_1).before a s = true) : (Jvm.Cond.eq (.elem (.static "WhoseRound" "MOST" "[I") (.int 7)) (.int (99999))).before a s = true := flat_of_before _ h _ (List.mem_of_getElem? (i := 19) (by decide +kernel))
theorem fx_4 {a : Array Value} {s : State} (h : (Jvm.Cond.and given_1 narrow_1).before a s = true) : (Jvm.Cond.eq (.static "java/lang/String" "COMPACT_STRINGS" "Z") (.int 1)).before a s = true := flat_of_before _ h _ (List.mem_of_getElem? (i := 4) (by decide +kernel))
theorem fx_5 {a : Array Value} {s : State} (h : (Jvm.Cond.and given_1 narrow_1).before a s = true) : (Jvm.Cond.isRef (.static "jdk/internal/util/Preconditions" "SIOOBE_FORMATTER" "Ljava/util/function/BiFunction;")).before a s = true := flat_of_before _ h _ (List.mem_of_getElem? (i := 5) (by decide +kernel))
theorem fx_83 {a : Array Value} {s : State} (h : (Jvm.Cond.and given_1 narrow_1).before a s = true) : (Jvm.Cond.exactly (.string RX9 51) "java/lang/String").before a s = true := flat_of_before _ h _ (List.mem_of_getElem? (i := 83) (by decide +kernel))
theorem fx_84 {a : Array Value} {s : State} (h : (Jvm.Cond.and given_1 narrow_1).before a s = true) : (Jvm.Cond.eq (.field (.string RX9 51) "java/lang/String" "coder" "B") (.int 0)).before a s = true := flat_of_before _ h _ (List.mem_of_getElem? (i := 84) (by decide +kernel))
theorem fx_85 {a : Array Value} {s : State} (h : (Jvm.Cond.and given_1 narrow_1).before a s = true) : (Jvm.Cond.arrayOf (.field (.string RX9 51) "java/lang/String" "value" "[B") .byte).before a s = true := flat_of_before _ h _ (List.mem_of_getElem? (i := 85) (by decide +kernel))
theorem fx_86 {a : Array Value} {s : State} (h : (Jvm.Cond.and given_1 narrow_1).before a s = true) : (Jvm.Cond.eq (.length (.field (.string RX9 51) "java/lang/String" "value" "[B")) (.int 3)).before a s = true := flat_of_before _ h _ (List.mem_of_getElem? (i := 86) (by decide +kernel))
theorem fx_87 {a : Array Value} {s : State} (h : (Jvm.Cond.and given_1 narrow_1).before a s = true) : (Jvm.Cond.eq (.elem (.field (.string RX9 51) "java/lang/String" "value" "[B") (.int 0)) (.int 111)).before a s = true := flat_of_before _ h _ (List.mem_of_getElem? (i := 87) (by decide +kernel))
theorem fx_88 {a : Array Value} {s : State} (h : (Jvm.Cond.and given_1 narrow_1).before a s = true) : (Jvm.Cond.eq (.elem (.field (.string RX9 51) "java/lang/String" "value" "[B") (.int 1)) (.int 110)).before a s = true := flat_of_before _ h _ (List.mem_of_getElem? (i := 88) (by decide +kernel))
theorem fx_89 {a : Array Value} {s : State} (h : (Jvm.Cond.and given_1 narrow_1).before a s = true) : (Jvm.Cond.eq (.elem (.field (.string RX9 51) "java/lang/String" "value" "[B") (.int 2)) (.int 101)).before a s = true := flat_of_before _ h _ (List.mem_of_getElem? (i := 89) (by decide +kernel))
theorem fx_121 {a : Array Value} {s : State} (h : (Jvm.Cond.and given_1 narrow_1).before a s = true) : (Jvm.Cond.exactly (.string RX9 67) "java/lang/String").before a s = true := flat_of_before _ h _ (List.mem_of_getElem? (i := 121) (by decide +kernel))
theorem fx_122 {a : Array Value} {s : State} (h : (Jvm.Cond.and given_1 narrow_1).before a s = true) : (Jvm.Cond.eq (.field (.string RX9 67) "java/lang/String" "coder" "B") (.int 0)).before a s = true := flat_of_before _ h _ (List.mem_of_getElem? (i := 122) (by decide +kernel))
theorem fx_123 {a : Array Value} {s : State} (h : (Jvm.Cond.and given_1 narrow_1).before a s = true) : (Jvm.Cond.arrayOf (.field (.string RX9 67) "java/lang/String" "value" "[B") .byte).before a s = true := flat_of_before _ h _ (List.mem_of_getElem? (i := 123) (by decide +kernel))
theorem fx_124 {a : Array Value} {s : State} (h : (Jvm.Cond.and given_1 narrow_1).before a s = true) : (Jvm.Cond.eq (.length (.field (.string RX9 67) "java/lang/String" "value" "[B")) (.int 5)).before a s = true := flat_of_before _ h _ (List.mem_of_getElem? (i := 124) (by decide +kernel))
theorem fx_125 {a : Array Value} {s : State} (h : (Jvm.Cond.and given_1 narrow_1).before a s = true) : (Jvm.Cond.eq (.elem (.field (.string RX9 67) "java/lang/String" "value" "[B") (.int 0)) (.int 98)).before a s = true := flat_of_before _ h _ (List.mem_of_getElem? (i := 125) (by decide +kernel))
theorem fx_126 {a : Array Value} {s : State} (h : (Jvm.Cond.and given_1 narrow_1).before a s = true) : (Jvm.Cond.eq (.elem (.field (.string RX9 67) "java/lang/String" "value" "[B") (.int 1)) (.int 101)).before a s = true := flat_of_before _ h _ (List.mem_of_getElem? (i := 126) (by decide +kernel))
theorem fx_127 {a : Array Value} {s : State} (h : (Jvm.Cond.and given_1 narrow_1).before a s = true) : (Jvm.Cond.eq (.elem (.field (.string RX9 67) "java/lang/String" "value" "[B") (.int 2)) (.int 103)).before a s = true := flat_of_before _ h _ (List.mem_of_getElem? (i := 127) (by decide +kernel))
theorem fx_128 {a : Array Value} {s : State} (h : (Jvm.Cond.and given_1 narrow_1).before a s = true) : (Jvm.Cond.eq (.elem (.field (.string RX9 67) "java/lang/String" "value" "[B") (.int 3)) (.int 105)).before a s = true := flat_of_before _ h _ (List.mem_of_getElem? (i := 128) (by decide +kernel))
theorem fx_129 {a : Array Value} {s : State} (h : (Jvm.Cond.and given_1 narrow_1).before a s = true) : (Jvm.Cond.eq (.elem (.field (.string RX9 67) "java/lang/String" "value" "[B") (.int 4)) (.int 110)).before a s = true := flat_of_before _ h _ (List.mem_of_getElem? (i := 129) (by decide +kernel))
theorem fx_90 {a : Array Value} {s : State} (h : (Jvm.Cond.and given_1 narrow_1).before a s = true) : (Jvm.Cond.exactly (.string RX9 103) "java/lang/String").before a s = true := flat_of_before _ h _ (List.mem_of_getElem? (i := 90) (by decide +kernel))
theorem fx_91 {a : Array Value} {s : State} (h : (Jvm.Cond.and given_1 narrow_1).before a s = true) : (Jvm.Cond.eq (.field (.string RX9 103) "java/lang/String" "coder" "B") (.int 0)).before a s = true := flat_of_before _ h _ (List.mem_of_getElem? (i := 91) (by decide +kernel))
theorem fx_92 {a : Array Value} {s : State} (h : (Jvm.Cond.and given_1 narrow_1).before a s = true) : (Jvm.Cond.arrayOf (.field (.string RX9 103) "java/lang/String" "value" "[B") .byte).before a s = true := flat_of_before _ h _ (List.mem_of_getElem? (i := 92) (by decide +kernel))
theorem fx_93 {a : Array Value} {s : State} (h : (Jvm.Cond.and given_1 narrow_1).before a s = true) : (Jvm.Cond.eq (.length (.field (.string RX9 103) "java/lang/String" "value" "[B")) (.int 5)).before a s = true := flat_of_before _ h _ (List.mem_of_getElem? (i := 93) (by decide +kernel))
theorem fx_94 {a : Array Value} {s : State} (h : (Jvm.Cond.and given_1 narrow_1).before a s = true) : (Jvm.Cond.eq (.elem (.field (.string RX9 103) "java/lang/String" "value" "[B") (.int 0)) (.int 112)).before a s = true := flat_of_before _ h _ (List.mem_of_getElem? (i := 94) (by decide +kernel))
theorem fx_95 {a : Array Value} {s : State} (h : (Jvm.Cond.and given_1 narrow_1).before a s = true) : (Jvm.Cond.eq (.elem (.field (.string RX9 103) "java/lang/String" "value" "[B") (.int 1)) (.int 117)).before a s = true := flat_of_before _ h _ (List.mem_of_getElem? (i := 95) (by decide +kernel))
theorem fx_96 {a : Array Value} {s : State} (h : (Jvm.Cond.and given_1 narrow_1).before a s = true) : (Jvm.Cond.eq (.elem (.field (.string RX9 103) "java/lang/String" "value" "[B") (.int 2)) (.int 114)).before a s = true := flat_of_before _ h _ (List.mem_of_getElem? (i := 96) (by decide +kernel))
theorem fx_97 {a : Array Value} {s : State} (h : (Jvm.Cond.and given_1 narrow_1).before a s = true) : (Jvm.Cond.eq (.elem (.field (.string RX9 103) "java/lang/String" "value" "[B") (.int 3)) (.int 115)).before a s = true := flat_of_before _ h _ (List.mem_of_getElem? (i := 97) (by decide +kernel))
theorem fx_98 {a : Array Value} {s : State} (h : (Jvm.Cond.and given_1 narrow_1).before a s = true) : (Jvm.Cond.eq (.elem (.field (.string RX9 103) "java/lang/String" "value" "[B") (.int 4)) (.int 101)).before a s = true := flat_of_before _ h _ (List.mem_of_getElem? (i := 98) (by decide +kernel))
theorem fx_100 {a : Array Value} {s : State} (h : (Jvm.Cond.and given_1 narrow_1).before a s = true) : (Jvm.Cond.exactly (.string RX9 105) "java/lang/String").before a s = true := flat_of_before _ h _ (List.mem_of_getElem? (i := 100) (by decide +kernel))
theorem fx_101 {a : Array Value} {s : State} (h : (Jvm.Cond.and given_1 narrow_1).before a s = true) : (Jvm.Cond.eq (.field (.string RX9 105) "java/lang/String" "coder" "B") (.int 0)).before a s = true := flat_of_before _ h _ (List.mem_of_getElem? (i := 101) (by decide +kernel))
theorem fx_102 {a : Array Value} {s : State} (h : (Jvm.Cond.and given_1 narrow_1).before a s = true) : (Jvm.Cond.arrayOf (.field (.string RX9 105) "java/lang/String" "value" "[B") .byte).before a s = true := flat_of_before _ h _ (List.mem_of_getElem? (i := 102) (by decide +kernel))
theorem fx_103 {a : Array Value} {s : State} (h : (Jvm.Cond.and given_1 narrow_1).before a s = true) : (Jvm.Cond.eq (.length (.field (.string RX9 105) "java/lang/String" "value" "[B")) (.int 4)).before a s = true := flat_of_before _ h _ (List.mem_of_getElem? (i := 103) (by decide +kernel))
theorem fx_104 {a : Array Value} {s : State} (h : (Jvm.Cond.and given_1 narrow_1).before a s = true) : (Jvm.Cond.eq (.elem (.field (.string RX9 105) "java/lang/String" "value" "[B") (.int 0)) (.int 112)).before a s = true := flat_of_before _ h _ (List.mem_of_getElem? (i := 104) (by decide +kernel))
theorem fx_105 {a : Array Value} {s : State} (h : (Jvm.Cond.and given_1 narrow_1).before a s = true) : (Jvm.Cond.eq (.elem (.field (.string RX9 105) "java/lang/String" "value" "[B") (.int 1)) (.int 97)).before a s = true := flat_of_before _ h _ (List.mem_of_getElem? (i := 105) (by decide +kernel))
theorem fx_106 {a : Array Value} {s : State} (h : (Jvm.Cond.and given_1 narrow_1).before a s = true) : (Jvm.Cond.eq (.elem (.field (.string RX9 105) "java/lang/String" "value" "[B") (.int 2)) (.int 114)).before a s = true := flat_of_before _ h _ (List.mem_of_getElem? (i := 106) (by decide +kernel))
theorem fx_107 {a : Array Value} {s : State} (h : (Jvm.Cond.and given_1 narrow_1).before a s = true) : (Jvm.Cond.eq (.elem (.field (.string RX9 105) "java/lang/String" "value" "[B") (.int 3)) (.int 116)).before a s = true := flat_of_before _ h _ (List.mem_of_getElem? (i := 107) (by decide +kernel))
theorem fx_110 {a : Array Value} {s : State} (h : (Jvm.Cond.and given_1 narrow_1).before a s = true) : (Jvm.Cond.exactly (.string RX9 107) "java/lang/String").before a s = true := flat_of_before _ h _ (List.mem_of_getElem? (i := 110) (by decide +kernel))
theorem fx_111 {a : Array Value} {s : State} (h : (Jvm.Cond.and given_1 narrow_1).before a s = true) : (Jvm.Cond.eq (.field (.string RX9 107) "java/lang/String" "coder" "B") (.int 0)).before a s = true := flat_of_before _ h _ (List.mem_of_getElem? (i := 111) (by decide +kernel))
theorem fx_112 {a : Array Value} {s : State} (h : (Jvm.Cond.and given_1 narrow_1).before a s = true) : (Jvm.Cond.arrayOf (.field (.string RX9 107) "java/lang/String" "value" "[B") .byte).before a s = true := flat_of_before _ h _ (List.mem_of_getElem? (i := 112) (by decide +kernel))
theorem fx_113 {a : Array Value} {s : State} (h : (Jvm.Cond.and given_1 narrow_1).before a s = true) : (Jvm.Cond.eq (.length (.field (.string RX9 107) "java/lang/String" "value" "[B")) (.int 4)).before a s = true := flat_of_before _ h _ (List.mem_of_getElem? (i := 113) (by decide +kernel))
theorem fx_114 {a : Array Value} {s : State} (h : (Jvm.Cond.and given_1 narrow_1).before a s = true) : (Jvm.Cond.eq (.elem (.field (.string RX9 107) "java/lang/String" "value" "[B") (.int 0)) (.int 112)).before a s = true := flat_of_before _ h _ (List.mem_of_getElem? (i := 114) (by decide +kernel))
theorem fx_115 {a : Array Value} {s : State} (h : (Jvm.Cond.and given_1 narrow_1).before a s = true) : (Jvm.Cond.eq (.elem (.field (.string RX9 107) "java/lang/String" "value" "[B") (.int 1)) (.int 111)).before a s = true := flat_of_before _ h _ (List.mem_of_getElem? (i := 115) (by decide +kernel))
theorem fx_116 {a : Array Value} {s : State} (h : (Jvm.Cond.and given_1 narrow_1).before a s = true) : (Jvm.Cond.eq (.elem (.field (.string RX9 107) "java/lang/String" "value" "[B") (.int 2)) (.int 111)).before a s = true := flat_of_before _ h _ (List.mem_of_getElem? (i := 116) (by decide +kernel))
theorem fx_117 {a : Array Value} {s : State} (h : (Jvm.Cond.and given_1 narrow_1).before a s = true) : (Jvm.Cond.eq (.elem (.field (.string RX9 107) "java/lang/String" "value" "[B") (.int 3)) (.int 114)).before a s = true := flat_of_before _ h _ (List.mem_of_getElem? (i := 117) (by decide +kernel))
theorem fx_130 {a : Array Value} {s : State} (h : (Jvm.Cond.and given_1 narrow_1).before a s = true) : (Jvm.Cond.not (.eq (.string RX9 51) (.string RX9 67))).before a s = true := flat_of_before _ h _ (List.mem_of_getElem? (i := 130) (by decide +kernel))
theorem fx_99 {a : Array Value} {s : State} (h : (Jvm.Cond.and given_1 narrow_1).before a s = true) : (Jvm.Cond.not (.eq (.string RX9 51) (.string RX9 103))).before a s = true := flat_of_before _ h _ (List.mem_of_getElem? (i := 99) (by decide +kernel))
theorem fx_108 {a : Array Value} {s : State} (h : (Jvm.Cond.and given_1 narrow_1).before a s = true) : (Jvm.Cond.not (.eq (.string RX9 51) (.string RX9 105))).before a s = true := flat_of_before _ h _ (List.mem_of_getElem? (i := 108) (by decide +kernel))
theorem fx_118 {a : Array Value} {s : State} (h : (Jvm.Cond.and given_1 narrow_1).before a s = true) : (Jvm.Cond.not (.eq (.string RX9 51) (.string RX9 107))).before a s = true := flat_of_before _ h _ (List.mem_of_getElem? (i := 118) (by decide +kernel))
theorem fx_131 {a : Array Value} {s : State} (h : (Jvm.Cond.and given_1 narrow_1).before a s = true) : (Jvm.Cond.not (.eq (.string RX9 103) (.string RX9 67))).before a s = true := flat_of_before _ h _ (List.mem_of_getElem? (i := 131) (by decide +kernel))
theorem fx_109 {a : Array Value} {s : State} (h : (Jvm.Cond.and given_1 narrow_1).before a s = true) : (Jvm.Cond.not (.eq (.string RX9 103) (.string RX9 105))).before a s = true := flat_of_before _ h _ (List.mem_of_getElem? (i := 109) (by decide +kernel))
theorem fx_119 {a : Array Value} {s : State} (h : (Jvm.Cond.and given_1 narrow_1).before a s = true) : (Jvm.Cond.not (.eq (.string RX9 103) (.string RX9 107))).before a s = true := flat_of_before _ h _ (List.mem_of_getElem? (i := 119) (by decide +kernel))
theorem fx_132 {a : Array Value} {s : State} (h : (Jvm.Cond.and given_1 narrow_1).before a s = true) : (Jvm.Cond.not (.eq (.string RX9 105) (.string RX9 67))).before a s = true := flat_of_before _ h _ (List.mem_of_getElem? (i := 132) (by decide +kernel))
theorem fx_120 {a : Array Value} {s : State} (h : (Jvm.Cond.and given_1 narrow_1).before a s = true) : (Jvm.Cond.not (.eq (.string RX9 105) (.string RX9 107))).before a s = true := flat_of_before _ h _ (List.mem_of_getElem? (i := 120) (by decide +kernel))
theorem fx_133 {a : Array Value} {s : State} (h : (Jvm.Cond.and given_1 narrow_1).before a s = true) : (Jvm.Cond.not (.eq (.string RX9 107) (.string RX9 67))).before a s = true := flat_of_before _ h _ (List.mem_of_getElem? (i := 133) (by decide +kernel))
theorem ab_ls : (∀ k, k < 4 → Cond.laysStatic (ab_zC k).1 (ab_zC k).2.1 (ab_zC k).2.2 ∈ lw_tbl ∧ Cond.initialized (ab_zC k).1 ∈ lw_tbl)
  | 0, _ => ⟨ab_in3 (i := 51) rfl, ab_in1 (i := 1) rfl⟩
  | 1, _ => ⟨ab_in3 (i := 49) rfl, ab_in1 (i := 1) rfl⟩
  | 2, _ => ⟨ab_in2 (i := 237) rfl, ab_in1 (i := 14) rfl⟩
  | 3, _ => ⟨ab_in3 (i := 13) rfl, ab_in1 (i := 16) rfl⟩
  | n + 4, h => absurd h (by omega)
set_option maxRecDepth 100000 in
theorem ab_nc : ∀ r ∈ ab_cat, r.2.1.2 = true → Cond.methodLinkNest (ab_cn r.1.1) r.1.2 (ab_mr r.2.1.1).1.1 "WhoseRound" ∈ lw_tbl := ab_fa_all (⟨fun h => absurd h (by decide), fun h => absurd h (by decide), fun h => absurd h (by decide), fun h => absurd h (by decide), fun h => absurd h (by decide), fun h => absurd h (by decide), fun h => absurd h (by decide), fun h => absurd h (by decide), fun h => absurd h (by decide), fun h => absurd h (by decide), fun h => absurd h (by decide), fun h => absurd h (by decide), fun h => absurd h (by decide), fun h => absurd h (by decide), fun h => absurd h (by decide), fun h => absurd h (by decide), fun h => absurd h (by decide), fun h => absurd h (by decide), fun h => absurd h (by decide), fun h => absurd h (by decide), fun h => absurd h (by decide), fun h => absurd h (by decide), fun h => absurd h (by decide), fun h => absurd h (by decide), fun h => absurd h (by decide), fun h => absurd h (by decide), fun h => absurd h (by decide), fun h => absurd h (by decide), fun h => absurd h (by decide), fun h => absurd h (by decide), fun h => absurd h (by decide), fun h => absurd h (by decide), fun h => absurd h (by decide), fun h => absurd h (by decide), fun h => absurd h (by decide), fun h => absurd h (by decide), fun h => absurd h (by decide), fun h => absurd h (by decide), fun h => absurd h (by decide), fun h => absurd h (by decide), fun h => absurd h (by decide), fun h => absurd h (by decide), fun h => absurd h (by decide), fun h => absurd h (by decide), fun h => absurd h (by decide), fun h => absurd h (by decide), fun h => absurd h (by decide), fun h => absurd h (by decide), fun h => absurd h (by decide), fun h => absurd h (by decide), fun h => absurd h (by decide), fun h => absurd h (by decide), fun h => absurd h (by decide), fun h => absurd h (by decide), fun h => absurd h (by decide), fun h => absurd h (by decide), fun h => absurd h (by decide), fun h => absurd h (by decide), fun h => absurd h (by decide), fun h => absurd h (by decide), fun h => absurd h (by decide), fun h => absurd h (by decide), fun h => absurd h (by decide), fun h => absurd h (by decide), fun h => absurd h (by decide), fun h => absurd h (by decide), fun h => absurd h (by decide), fun h => absurd h (by decide), fun h => absurd h (by decide), fun h => absurd h (by decide), fun h => absurd h (by decide), fun h => absurd h (by decide), fun h => absurd h (by decide), fun h => absurd h (by decide), fun h => absurd h (by decide), fun h => absurd h (by decide), fun h => absurd h (by decide), fun h => absurd h (by decide), fun h => absurd h (by decide), fun h => absurd h (by decide), fun h => absurd h (by decide), fun h => absurd h (by decide), fun h => absurd h (by decide), fun h => absurd h (by decide), fun h => absurd h (by decide), fun h => absurd h (by decide), fun h => absurd h (by decide), fun h => absurd h (by decide), fun h => absurd h (by decide), fun h => absurd h (by decide), fun h => absurd h (by decide), fun h => absurd h (by decide), fun h => absurd h (by decide), fun h => absurd h (by decide), fun h => absurd h (by decide), fun h => absurd h (by decide), fun h => absurd h (by decide), fun h => absurd h (by decide), fun h => absurd h (by decide), fun h => absurd h (by decide), fun h => absurd h (by decide), fun h => absurd h (by decide), fun h => absurd h (by decide), fun h => absurd h (by decide), fun h => absurd h (by decide), fun h => absurd h (by decide), fun h => absurd h (by decide), fun h => absurd h (by decide), fun h => absurd h (by decide), fun h => absurd h (by decide), fun h => absurd h (by decide), fun h => absurd h (by decide), fun h => absurd h (by decide), fun h => absurd h (by decide), fun h => absurd h (by decide), fun h => absurd h (by decide), fun h => absurd h (by decide), fun h => absurd h (by decide), fun h => absurd h (by decide), fun h => absurd h (by decide), fun h => absurd h (by decide), fun h => absurd h (by decide), fun h => absurd h (by decide), fun h => absurd h (by decide), fun h => absurd h (by decide), fun h => absurd h (by decide), fun h => absurd h (by decide), fun h => absurd h (by decide), fun h => absurd h (by decide), fun h => absurd h (by decide), fun h => absurd h (by decide), fun h => absurd h (by decide), fun h => absurd h (by decide), fun h => absurd h (by decide), fun h => absurd h (by decide), fun h => absurd h (by decide), fun h => absurd h (by decide), fun h => absurd h (by decide), fun h => absurd h (by decide), fun h => absurd h (by decide), fun h => absurd h (by decide), fun h => absurd h (by decide), fun h => absurd h (by decide), fun h => absurd h (by decide), fun h => absurd h (by decide), fun h => absurd h (by decide), fun h => absurd h (by decide), fun h => absurd h (by decide), fun h => absurd h (by decide), fun h => absurd h (by decide), fun h => absurd h (by decide), fun h => absurd h (by decide), fun h => absurd h (by decide), fun h => absurd h (by decide), fun h => absurd h (by decide), fun h => absurd h (by decide), fun h => absurd h (by decide), fun h => absurd h (by decide), fun h => absurd h (by decide), fun h => absurd h (by decide), fun h => absurd h (by decide), fun h => absurd h (by decide), fun h => absurd h (by decide), fun h => absurd h (by decide), fun h => absurd h (by decide), fun h => absurd h (by decide), fun h => absurd h (by decide), fun h => absurd h (by decide), fun h => absurd h (by decide), fun h => absurd h (by decide), fun h => absurd h (by decide), fun h => absurd h (by decide), fun h => absurd h (by decide), fun h => absurd h (by decide), fun h => absurd h (by decide), fun h => absurd h (by decide), fun h => absurd h (by decide), fun h => absurd h (by decide), fun h => absurd h (by decide), fun h => absurd h (by decide), fun h => absurd h (by decide), fun h => absurd h (by decide), fun h => absurd h (by decide), fun h => absurd h (by decide), fun h => absurd h (by decide), fun h => absurd h (by decide), fun h => absurd h (by decide), fun h => absurd h (by decide), fun h => absurd h (by decide), fun h => absurd h (by decide), fun h => absurd h (by decide), fun h => absurd h (by decide), fun h => absurd h (by decide), fun h => absurd h (by decide), fun h => absurd h (by decide), fun h => absurd h (by decide), fun h => absurd h (by decide), fun h => absurd h (by decide), fun h => absurd h (by decide), fun h => absurd h (by decide), fun h => absurd h (by decide), fun h => absurd h (by decide), fun h => absurd h (by decide), fun h => absurd h (by decide), fun h => absurd h (by decide), fun h => absurd h (by decide), fun h => absurd h (by decide), fun h => absurd h (by decide), fun h => absurd h (by decide), fun h => absurd h (by decide), fun h => absurd h (by decide), fun h => absurd h (by decide), fun _ => ab_in1 (i := 32) rfl, fun _ => ab_in1 (i := 69) rfl, fun _ => ab_in1 (i := 134) rfl, fun _ => ab_in1 (i := 150) rfl, fun _ => ab_in1 (i := 193) rfl, fun _ => ab_in2 (i := 109) rfl, fun _ => ab_in2 (i := 114) rfl, fun _ => ab_in2 (i := 125) rfl, fun _ => ab_in3 (i := 145) rfl, fun _ => ab_in4 (i := 67) rfl, fun _ => ab_in4 (i := 172) rfl, trivial⟩ : ab_fa (fun r : (Nat × Nat) × (Nat × Bool) × (Nat × Nat) => r.2.1.2 = true → Cond.methodLinkNest (ab_cn r.1.1) r.1.2 (ab_mr r.2.1.1).1.1 "WhoseRound" ∈ lw_tbl) ab_cat)
theorem ab_ns : ∀ r ∈ ab_stt, r.2.1.2 = true → Cond.fieldLinkNest (ab_cn r.1.1) r.1.2 "WhoseRound" (ab_zC r.2.1.1).2.1 (ab_zC r.2.1.1).2.2 "WhoseRound" ∈ lw_tbl := ab_fa_all (⟨fun h => absurd h (by decide), fun h => absurd h (by decide), fun h => absurd h (by decide), fun _ => ab_in3 (i := 48) rfl, fun _ => ab_in3 (i := 108) rfl, fun _ => ab_in3 (i := 50) rfl, fun _ => ab_in3 (i := 52) rfl, fun _ => ab_in4 (i := 102) rfl, trivial⟩ : ab_fa (fun r : (Nat × Nat) × (Nat × Bool) × (Nat × Nat) => r.2.1.2 = true → Cond.fieldLinkNest (ab_cn r.1.1) r.1.2 "WhoseRound" (ab_zC r.2.1.1).2.1 (ab_zC r.2.1.1).2.2 "WhoseRound" ∈ lw_tbl) ab_stt)
theorem ab_ov : Cond.arrayOver (.object RX3) ∈ lw_tbl ∧ Cond.arrayOver (.object RX6) ∈ lw_tbl ∧ Cond.arrayOver (.object RX7) ∈ lw_tbl ∧ Cond.arrayOver (.object RX8) ∈ lw_tbl ∧ Cond.arrayOver (.array .int) ∈ lw_tbl ∧ Cond.arrayClass .int ∈ lw_tbl := ⟨ab_in1 (i := 136) rfl, ab_in1 (i := 148) rfl, ab_in1 (i := 146) rfl, ab_in1 (i := 138) rfl, ab_in1 (i := 74) rfl, ab_in1 (i := 113) rfl⟩
theorem ab_sr : (∀ i, i < 5 → Cond.stringRef RX9 (ab_tx i).1 (ab_tx i).2 ∈ lw_tbl)
  | 0, _ => ab_in2 (i := 223) rfl
  | 1, _ => ab_in3 (i := 72) rfl
  | 2, _ => ab_in3 (i := 69) rfl
  | 3, _ => ab_in3 (i := 70) rfl
  | 4, _ => ab_in3 (i := 71) rfl
  | n + 5, h => absurd h (by omega)
theorem ab_el {a : Array Value} {s : State} (hgv : (Jvm.Cond.and given_1 narrow_1).before a s = true) : ∀ i : Nat, i < 5 → ∀ j : Nat, j < ([3, 5, 5, 4, 4] : List Nat).getD i 0 → (Jvm.Cond.eq (.elem (.field (.string RX9 (ab_tx i).1) "java/lang/String" "value" "[B") (.int (Int32.ofNat j))) (.int ((ab_sxt.getD i []).getD j 0))).before a s = true
  | 0, _, 0, _ => fx_87 hgv
  | 0, _, 1, _ => fx_88 hgv
  | 0, _, 2, _ => fx_89 hgv
  | 0, _, n + 3, h => absurd h (by show ¬ (n + 3 < 3); omega)
  | 1, _, 0, _ => fx_125 hgv
  | 1, _, 1, _ => fx_126 hgv
  | 1, _, 2, _ => fx_127 hgv
  | 1, _, 3, _ => fx_128 hgv
  | 1, _, 4, _ => fx_129 hgv
  | 1, _, n + 5, h => absurd h (by show ¬ (n + 5 < 5); omega)
  | 2, _, 0, _ => fx_94 hgv
  | 2, _, 1, _ => fx_95 hgv
  | 2, _, 2, _ => fx_96 hgv
  | 2, _, 3, _ => fx_97 hgv
  | 2, _, 4, _ => fx_98 hgv
  | 2, _, n + 5, h => absurd h (by show ¬ (n + 5 < 5); omega)
  | 3, _, 0, _ => fx_104 hgv
  | 3, _, 1, _ => fx_105 hgv
  | 3, _, 2, _ => fx_106 hgv
  | 3, _, 3, _ => fx_107 hgv
  | 3, _, n + 4, h => absurd h (by show ¬ (n + 4 < 4); omega)
  | 4, _, 0, _ => fx_114 hgv
  | 4, _, 1, _ => fx_115 hgv
  | 4, _, 2, _ => fx_116 hgv
  | 4, _, 3, _ => fx_117 hgv
  | 4, _, n + 4, h => absurd h (by show ¬ (n + 4 < 4); omega)
  | n + 5, h, _, _ => absurd h (by omega)
theorem ab_ne {a : Array Value} {s : State} (hgv : (Jvm.Cond.and given_1 narrow_1).before a s = true) : ∀ i j : Nat, i < 5 → j < 5 → i ≠ j → (Jvm.Cond.not (Jvm.Cond.eq (.string RX9 (ab_tx i).1) (.string RX9 (ab_tx j).1))).before a s = true ∨ (Jvm.Cond.not (Jvm.Cond.eq (.string RX9 (ab_tx j).1) (.string RX9 (ab_tx i).1))).before a s = true
  | 0, 0, _, _, h => absurd rfl h
  | 0, 1, _, _, _ => Or.inl (fx_130 hgv)
  | 0, 2, _, _, _ => Or.inl (fx_99 hgv)
  | 0, 3, _, _, _ => Or.inl (fx_108 hgv)
  | 0, 4, _, _, _ => Or.inl (fx_118 hgv)
  | 0, n + 5, _, h, _ => absurd h (by omega)
  | 1, 0, _, _, _ => Or.inr (fx_130 hgv)
  | 1, 1, _, _, h => absurd rfl h
  | 1, 2, _, _, _ => Or.inr (fx_131 hgv)
  | 1, 3, _, _, _ => Or.inr (fx_132 hgv)
  | 1, 4, _, _, _ => Or.inr (fx_133 hgv)
  | 1, n + 5, _, h, _ => absurd h (by omega)
  | 2, 0, _, _, _ => Or.inr (fx_99 hgv)
  | 2, 1, _, _, _ => Or.inl (fx_131 hgv)
  | 2, 2, _, _, h => absurd rfl h
  | 2, 3, _, _, _ => Or.inl (fx_109 hgv)
  | 2, 4, _, _, _ => Or.inl (fx_119 hgv)
  | 2, n + 5, _, h, _ => absurd h (by omega)
  | 3, 0, _, _, _ => Or.inr (fx_108 hgv)
  | 3, 1, _, _, _ => Or.inl (fx_132 hgv)
  | 3, 2, _, _, _ => Or.inr (fx_109 hgv)
  | 3, 3, _, _, h => absurd rfl h
  | 3, 4, _, _, _ => Or.inl (fx_120 hgv)
  | 3, n + 5, _, h, _ => absurd h (by omega)
  | 4, 0, _, _, _ => Or.inr (fx_118 hgv)
  | 4, 1, _, _, _ => Or.inl (fx_133 hgv)
  | 4, 2, _, _, _ => Or.inr (fx_119 hgv)
  | 4, 3, _, _, _ => Or.inr (fx_120 hgv)
  | 4, 4, _, _, h => absurd rfl h
  | 4, n + 5, _, h, _ => absurd h (by omega)
  | n + 5, _, h, _, _ => absurd h (by omega)
theorem ab_E_start {p : Program} {s : State} {m : MethodId} {meth : Method} {c : Code} {b L : Nat} {xs : Nat → Int32} {scr : List Int32} (hs : scr.length = L) (hx : ∀ j, j < L → xs j = scr.getD j 0) (hL : L ≤ 2560) (C0 : lw_At p s m meth c b L xs) : ∃ X : Nat → Nat, X 3000 = b ∧ ab_E (some scr) X (fun q => s.heap.size ≤ q) s s.heap := by
  obtain ⟨-, -, -, -, -, hts, hX, hbl, -, hgv⟩ := C0
  have hA : ∀ a : Nat, a < s.heap.size → ¬ (fun q : Nat => s.heap.size ≤ q) a := fun a h => Nat.not_le.mpr h
  obtain ⟨t0, ht0, Tt0⟩ := va_Tof (tm := .static "WhoseRound" "LEAST" "[I") (ty := .int) (N := 8) (f := fun j => .int (([0, 1, 1, 1, 0, 0, 0, -99999] : List Int32).getD j 0)) (A := fun q => s.heap.size ≤ q) (by decide) (fx_21 hgv) (va_eqt (fx_22 hgv)) (fun j hj => match j, hj with
    | 0, _ => va_eqt (fx_23 hgv)
    | 1, _ => va_eqt (fx_24 hgv)
    | 2, _ => va_eqt (fx_25 hgv)
    | 3, _ => va_eqt (fx_26 hgv)
    | 4, _ => va_eqt (fx_27 hgv)
    | 5, _ => va_eqt (fx_28 hgv)
    | 6, _ => va_eqt (fx_29 hgv)
    | 7, _ => va_eqt (fx_30 hgv)
    | n + 8, h => absurd h (by omega)) hA
  obtain ⟨t1, ht1, Tt1⟩ := va_Tof (tm := .static "WhoseRound" "MOST" "[I") (ty := .int) (N := 8) (f := fun j => .int (([239, 240, 99, 99, 999, 9, 1, 99999] : List Int32).getD j 0)) (A := fun q => s.heap.size ≤ q) (by decide) (fx_10 hgv) (va_eqt (fx_11 hgv)) (fun j hj => match j, hj with
    | 0, _ => va_eqt (fx_12 hgv)
    | 1, _ => va_eqt (fx_13 hgv)
    | 2, _ => va_eqt (fx_14 hgv)
    | 3, _ => va_eqt (fx_15 hgv)
    | 4, _ => va_eqt (fx_16 hgv)
    | 5, _ => va_eqt (fx_17 hgv)
    | 6, _ => va_eqt (fx_18 hgv)
    | 7, _ => va_eqt (fx_19 hgv)
    | n + 8, h => absurd h (by omega)) hA
  obtain ⟨adK, adV, hK, hKe⟩ := vk_Sof (N := 5) (tm := fun i => .string RX9 (ab_tx i).1) (len := [3, 5, 5, 4, 4]) (byt := ab_sxt) (A := fun q => s.heap.size ≤ q) (fun i hi => match i, hi with
    | 0, _ => by decide
    | 1, _ => by decide
    | 2, _ => by decide
    | 3, _ => by decide
    | 4, _ => by decide
    | n + 5, h => absurd h (by omega)) (fun i hi => match i, hi with
    | 0, _ => fx_83 hgv
    | 1, _ => fx_121 hgv
    | 2, _ => fx_90 hgv
    | 3, _ => fx_100 hgv
    | 4, _ => fx_110 hgv
    | n + 5, h => absurd h (by omega)) (fun i hi => match i, hi with
    | 0, _ => fx_84 hgv
    | 1, _ => fx_122 hgv
    | 2, _ => fx_91 hgv
    | 3, _ => fx_101 hgv
    | 4, _ => fx_111 hgv
    | n + 5, h => absurd h (by omega)) (fun i hi => match i, hi with
    | 0, _ => fx_85 hgv
    | 1, _ => fx_123 hgv
    | 2, _ => fx_92 hgv
    | 3, _ => fx_102 hgv
    | 4, _ => fx_112 hgv
    | n + 5, h => absurd h (by omega)) (fun i hi => match i, hi with
    | 0, _ => fx_86 hgv
    | 1, _ => fx_124 hgv
    | 2, _ => fx_93 hgv
    | 3, _ => fx_103 hgv
    | 4, _ => fx_113 hgv
    | n + 5, h => absurd h (by omega)) (fun i hi j hj => ab_el hgv i hi j hj) (fun i j hi hj hij => ab_ne hgv i j hi hj hij) hA
  have hZ := va_Zqof (A := fun q => s.heap.size ≤ q) (hts _ (ab_ls 3 (by decide)).1) (hts _ (ab_ls 3 (by decide)).2) (fx_5 hgv) hA
  refine ⟨fun a => if a = 3000 then b else if a = 2000 then t0 else if a = 2001 then t1 else if a < 2000 then adK (a - 1000) else adV (a - 2002), rfl, ?_, ?_, ?_, ?_⟩
  · intro k hk
    match k, hk with
    | 0, _ => exact ⟨.ref t0, ⟨t0, rfl, rfl⟩, va_Zof (hts _ (ab_ls 0 (by decide)).1) (hts _ (ab_ls 0 (by decide)).2) ht0 hA⟩
    | 1, _ => exact ⟨.ref t1, ⟨t1, rfl, rfl⟩, va_Zof (hts _ (ab_ls 1 (by decide)).1) (hts _ (ab_ls 1 (by decide)).2) ht1 hA⟩
    | 2, _ => exact ⟨.int 1, rfl, va_Zof (hts _ (ab_ls 2 (by decide)).1) (hts _ (ab_ls 2 (by decide)).2) (va_eqt (fx_4 hgv)) hA⟩
    | 3, _ =>
      rcases hZ with hZ | ⟨t, hZ⟩
      · exact ⟨.null, Or.inl rfl, hZ⟩
      · exact ⟨.ref t, Or.inr ⟨t, rfl⟩, hZ⟩
    | n + 4, h => exact absurd h (by omega)
  · intro a ty l hl
    unfold ab_xar at hl
    split at hl
    · cases hl
      obtain ⟨cell, g1, g2, g3, g4, g5⟩ := hX
      refine ⟨cell, g1, g2, g3, by omega, by rw [g4, ← hs], fun j hj => ?_, hA b hbl⟩
      rw [g5 j (by omega), hx j (by omega)]
    · cases hl
      exact Tt0
    · cases hl
      exact Tt1
    all_goals first
      | (cases hl; exact (hK.1 0 (by decide)).2.2.2)
      | (cases hl; exact (hK.1 1 (by decide)).2.2.2)
      | (cases hl; exact (hK.1 2 (by decide)).2.2.2)
      | (cases hl; exact (hK.1 3 (by decide)).2.2.2)
      | (cases hl; exact (hK.1 4 (by decide)).2.2.2)
      | cases hl
  · intro i hi
    obtain ⟨g1, g2, g3, g4⟩ := hK.1 i hi
    have e1 : (if 1000 + i = 3000 then b else if 1000 + i = 2000 then t0 else if 1000 + i = 2001 then t1 else if 1000 + i < 2000 then adK (1000 + i - 1000) else adV (1000 + i - 2002)) = adK i := by
      rw [if_neg (by omega), if_neg (by omega), if_neg (by omega), if_pos (by omega), show 1000 + i - 1000 = i by omega]
    have e2 : (if 2002 + i = 3000 then b else if 2002 + i = 2000 then t0 else if 2002 + i = 2001 then t1 else if 2002 + i < 2000 then adK (2002 + i - 1000) else adV (2002 + i - 2002)) = adV i := by
      rw [if_neg (by omega), if_neg (by omega), if_neg (by omega), if_neg (by omega), show 2002 + i - 2002 = i by omega]
    simp only [e1, e2]
    exact ⟨g1, g2, g3⟩
  · intro i hi
    have e1 : (if 1000 + i = 3000 then b else if 1000 + i = 2000 then t0 else if 1000 + i = 2001 then t1 else if 1000 + i < 2000 then adK (1000 + i - 1000) else adV (1000 + i - 2002)) = adK i := by
      rw [if_neg (by omega), if_neg (by omega), if_neg (by omega), if_pos (by omega), show 1000 + i - 1000 = i by omega]
    simp only [e1]
    exact vk_R.of (hts _ (ab_sr i hi)) (hKe i hi)
theorem ab_N_start {p : Program} {s : State} {m : MethodId} {meth : Method} {c : Code} {b L : Nat} {xs : Nat → Int32} (C0 : lw_At p s m meth c b L xs) : ab_N s := by
  obtain ⟨-, -, -, -, -, hts, -, -, -, -⟩ := C0
  obtain ⟨o3, o6, o7, o8, oa, oc⟩ := ab_ov
  refine ⟨fun r hr hn => va_Nw.of rfl (hts _ (ab_nc r hr hn)), fun r hr hn => va_Nw.of rfl (hts _ (ab_ns r hr hn)), va_AO.of (hts _ o3), va_AO.of (hts _ o6), va_AO.of (hts _ o7), va_AO.of (hts _ o8), hts _ oa, ?_⟩
  obtain ⟨c9, k9, comp, h1, h2, h3⟩ := Cond.arrayClass_spec (hts _ oc)
  exact ⟨c9, h1⟩
