theorem hc26 : ab_code 26 = cX1_emptyLongest := rfl
theorem hn26 : ab_nL 26 = 4 := rfl
theorem hk26 : ab_ky 26 = 1 := rfl
theorem hr26 : ab_ret 26 = some .int := rfl
section Q26
variable {scr : Option (List Int32)} {d : Nat} {M : ab_M} {st : List Value} {l0 l1 l2 l3 : Option Value}
theorem q26_0 {x : Int32} : ab_res scr 26 d M 0 [l0, some (.int x), l2, l3] (st) = ab_res scr 26 d M 1 [l0, some (.int x), l2, l3] (.int x :: st) := ab_o_iload_n (ab_dc hc26 dX1_emptyLongest_0) rfl
theorem q26_1 {xr : Nat} : ab_res scr 26 d M 1 [some (.ref xr), l1, l2, l3] (st) = ab_res scr 26 d M 2 [some (.ref xr), l1, l2, l3] (.ref xr :: st) := ab_o_aload_n (ab_dc hc26 dX1_emptyLongest_1) rfl
theorem q26_2 {v0 : Nat} : ab_res scr 26 d M 2 [l0, l1, l2, l3] (.ref v0 :: st) = (ab_gF ab_L0 M v0 1 13).bind fun v => ab_res scr 26 d M 5 [l0, l1, l2, l3] (v :: st) := ab_o_getfield (ab_dc hc26 dX1_emptyLongest_2) hk26 lk_fl_1_55
theorem q26_5 {v0 : Int32} {v1 : Int32} : ab_res scr 26 d M 5 [l0, l1, l2, l3] (.int v0 :: .int v1 :: st) = ab_res scr 26 d M 6 [l0, l1, l2, l3] (.int (v1 &&& v0) :: st) := ab_xg (ab_dc hc26 dX1_emptyLongest_5) rfl rfl
theorem q26_6 {v0 : Int32} : ab_res scr 26 d M 6 [l0, l1, l2, l3] (.int v0 :: st) = if ¬ v0 = 0 then ab_res scr 26 d M 16 [l0, l1, l2, l3] (st) else ab_res scr 26 d M 9 [l0, l1, l2, l3] (st) := ab_o_br2 (off := 10) (ab_dc hc26 dX1_emptyLongest_6) (by decide) rfl rfl
theorem q26_9 {xr : Nat} : ab_res scr 26 d M 9 [some (.ref xr), l1, l2, l3] (st) = ab_res scr 26 d M 10 [some (.ref xr), l1, l2, l3] (.ref xr :: st) := ab_o_aload_n (ab_dc hc26 dX1_emptyLongest_9) rfl
theorem q26_10 {x : Int32} : ab_res scr 26 d M 10 [l0, some (.int x), l2, l3] (st) = ab_res scr 26 d M 11 [l0, some (.int x), l2, l3] (.int x :: st) := ab_o_iload_n (ab_dc hc26 dX1_emptyLongest_10) rfl
theorem q26_11 : ab_res scr 26 d M 11 [l0, l1, l2, l3] (st) = ab_res scr 26 d M 12 [l0, l1, l2, l3] (.int 0 :: st) := (ab_o_iconst (ab_dc hc26 dX1_emptyLongest_11)).trans (by rw [ki_iconst_0])
theorem q26_12 {v0 : Int32} {v1 : Int32} {v2 : Nat} (hb : (ab_rc ab_L0 v2 = some 1) = True) : ab_res scr 26 3 M 12 [l0, l1, l2, l3] ([.int v0, .int v1, .ref v2]) = (ab_ms scr 28 [.ref v2, .int v1, .int v0] M).bind fun o => ab_res scr 26 3 o.1 15 [l0, l1, l2, l3] (ab_pr o.2 []) := ab_o_virtual (ab_dc hc26 dX1_emptyLongest_12) hk26 lk_ca_1_217 hm28 (Nat.le_of_ble_eq_true rfl) rfl rfl rfl (of_eq_true hb) rfl rfl
theorem q26_15 {v0 : Int32} : ab_res scr 26 d M 15 [l0, l1, l2, l3] ([.int v0]) = some (M, some (.int v0)) := ab_o_ireturn (ab_dc hc26 dX1_emptyLongest_15) hr26 rfl
theorem q26_16 : ab_res scr 26 d M 16 [l0, l1, l2, l3] (st) = ab_res scr 26 d M 18 [l0, l1, l2, l3] (.int (-4) :: st) := (ab_o_bipush (ab_dc hc26 dX1_emptyLongest_16)).trans (by rw [ki_bipush_m4])
theorem q26_18 {v0 : Int32} : ab_res scr 26 d M 18 [l0, l1, l2, l3] (.int v0 :: st) = ab_res scr 26 d M 19 [l0, ab_nl l1, some (.int v0), l3] (st) := (ab_o_st1 (k := 2) (ab_dc hc26 dX1_emptyLongest_18) (Or.inr (Or.inr (Or.inl ⟨2, rfl, rfl, rfl, ⟨_, rfl⟩⟩))) hn26 (by decide)).trans (ab_kl1 [l0] _ l1 rfl rfl)
theorem q26_19 : ab_res scr 26 d M 19 [l0, l1, l2, l3] (st) = ab_res scr 26 d M 20 [l0, l1, l2, l3] (.int 0 :: st) := (ab_o_iconst (ab_dc hc26 dX1_emptyLongest_19)).trans (by rw [ki_iconst_0])
theorem q26_20 {v0 : Int32} : ab_res scr 26 d M 20 [l0, l1, l2, l3] (.int v0 :: st) = ab_res scr 26 d M 21 [l0, l1, ab_nl l2, some (.int v0)] (st) := (ab_o_st1 (k := 3) (ab_dc hc26 dX1_emptyLongest_20) (Or.inr (Or.inr (Or.inl ⟨3, rfl, rfl, rfl, ⟨_, rfl⟩⟩))) hn26 (by decide)).trans (ab_kl1 [l0, l1] _ l2 rfl rfl)
theorem q26_21 {x : Int32} : ab_res scr 26 d M 21 [l0, l1, l2, some (.int x)] (st) = ab_res scr 26 d M 22 [l0, l1, l2, some (.int x)] (.int x :: st) := ab_o_iload_n (ab_dc hc26 dX1_emptyLongest_21) rfl
theorem q26_22 {xr : Nat} : ab_res scr 26 d M 22 [some (.ref xr), l1, l2, l3] (st) = ab_res scr 26 d M 23 [some (.ref xr), l1, l2, l3] (.ref xr :: st) := ab_o_aload_n (ab_dc hc26 dX1_emptyLongest_22) rfl
theorem q26_23 {v0 : Nat} : ab_res scr 26 d M 23 [l0, l1, l2, l3] (.ref v0 :: st) = (ab_gF ab_L0 M v0 1 0).bind fun v => ab_res scr 26 d M 26 [l0, l1, l2, l3] (v :: st) := ab_o_getfield (ab_dc hc26 dX1_emptyLongest_23) hk26 lk_fl_1_58
theorem q26_26 {v0 : Nat} : ab_res scr 26 d M 26 [l0, l1, l2, l3] (.ref v0 :: st) = (ab_gF ab_L0 M v0 4 3).bind fun v => ab_res scr 26 d M 29 [l0, l1, l2, l3] (v :: st) := ab_o_getfield (ab_dc hc26 dX1_emptyLongest_26) hk26 lk_fl_1_64
theorem q26_29 {v0 : Int32} {v1 : Int32} : ab_res scr 26 d M 29 [l0, l1, l2, l3] (.int v0 :: .int v1 :: st) = if v0 ≤ v1 then ab_res scr 26 d M 80 [l0, l1, l2, l3] (st) else ab_res scr 26 d M 32 [l0, l1, l2, l3] (st) := ab_o_br2 (off := 51) (ab_dc hc26 dX1_emptyLongest_29) (by decide) rfl rfl
theorem q26_32 {x : Int32} : ab_res scr 26 d M 32 [l0, l1, l2, some (.int x)] (st) = ab_res scr 26 d M 33 [l0, l1, l2, some (.int x)] (.int x :: st) := ab_o_iload_n (ab_dc hc26 dX1_emptyLongest_32) rfl
theorem q26_33 {x : Int32} : ab_res scr 26 d M 33 [l0, some (.int x), l2, l3] (st) = ab_res scr 26 d M 34 [l0, some (.int x), l2, l3] (.int x :: st) := ab_o_iload_n (ab_dc hc26 dX1_emptyLongest_33) rfl
theorem q26_34 {xr : Nat} : ab_res scr 26 d M 34 [some (.ref xr), l1, l2, l3] (st) = ab_res scr 26 d M 35 [some (.ref xr), l1, l2, l3] (.ref xr :: st) := ab_o_aload_n (ab_dc hc26 dX1_emptyLongest_34) rfl
theorem q26_35 {v0 : Nat} : ab_res scr 26 d M 35 [l0, l1, l2, l3] (.ref v0 :: st) = (ab_gF ab_L0 M v0 1 13).bind fun v => ab_res scr 26 d M 38 [l0, l1, l2, l3] (v :: st) := ab_o_getfield (ab_dc hc26 dX1_emptyLongest_35) hk26 lk_fl_1_55
theorem q26_38 {v0 : Int32} {v1 : Int32} : ab_res scr 26 d M 38 [l0, l1, l2, l3] (.int v0 :: .int v1 :: st) = ab_res scr 26 d M 39 [l0, l1, l2, l3] (.int (v1 &&& v0) :: st) := ab_xg (ab_dc hc26 dX1_emptyLongest_38) rfl rfl
theorem q26_39 {v0 : Int32} {v1 : Int32} : ab_res scr 26 3 M 39 [l0, l1, l2, l3] ([.int v0, .int v1]) = (ab_ms scr 112 [.int v1, .int v0] M).bind fun o => ab_res scr 26 3 o.1 42 [l0, l1, l2, l3] (ab_pr o.2 []) := ab_o_static (ab_dc hc26 dX1_emptyLongest_39) hk26 lk_ca_1_117 hm112 (Nat.le_of_ble_eq_true rfl) rfl rfl rfl rfl rfl
theorem q26_42 {v0 : Int32} : ab_res scr 26 d M 42 [l0, l1, l2, l3] (.int v0 :: st) = if v0 = 0 then ab_res scr 26 d M 74 [l0, l1, l2, l3] (st) else ab_res scr 26 d M 45 [l0, l1, l2, l3] (st) := ab_o_br2 (off := 32) (ab_dc hc26 dX1_emptyLongest_42) (by decide) rfl rfl
theorem q26_45 {x : Int32} : ab_res scr 26 d M 45 [l0, l1, some (.int x), l3] (st) = ab_res scr 26 d M 46 [l0, l1, some (.int x), l3] (.int x :: st) := ab_o_iload_n (ab_dc hc26 dX1_emptyLongest_45) rfl
theorem q26_46 : ab_res scr 26 d M 46 [l0, l1, l2, l3] (st) = ab_res scr 26 d M 48 [l0, l1, l2, l3] (.int (-4) :: st) := (ab_o_bipush (ab_dc hc26 dX1_emptyLongest_46)).trans (by rw [ki_bipush_m4])
theorem q26_48 {v0 : Int32} {v1 : Int32} : ab_res scr 26 d M 48 [l0, l1, l2, l3] (.int v0 :: .int v1 :: st) = if v1 = v0 then ab_res scr 26 d M 72 [l0, l1, l2, l3] (st) else ab_res scr 26 d M 51 [l0, l1, l2, l3] (st) := ab_o_br2 (off := 24) (ab_dc hc26 dX1_emptyLongest_48) (by decide) rfl rfl
theorem q26_51 {xr : Nat} : ab_res scr 26 d M 51 [some (.ref xr), l1, l2, l3] (st) = ab_res scr 26 d M 52 [some (.ref xr), l1, l2, l3] (.ref xr :: st) := ab_o_aload_n (ab_dc hc26 dX1_emptyLongest_51) rfl
theorem q26_52 {v0 : Nat} : ab_res scr 26 d M 52 [l0, l1, l2, l3] (.ref v0 :: st) = (ab_gF ab_L0 M v0 1 1).bind fun v => ab_res scr 26 d M 55 [l0, l1, l2, l3] (v :: st) := ab_o_getfield (ab_dc hc26 dX1_emptyLongest_52) hk26 lk_fl_1_11
theorem q26_55 {x : Int32} : ab_res scr 26 d M 55 [l0, l1, l2, some (.int x)] (st) = ab_res scr 26 d M 56 [l0, l1, l2, some (.int x)] (.int x :: st) := ab_o_iload_n (ab_dc hc26 dX1_emptyLongest_55) rfl
theorem q26_56 {v0 : Int32} {v1 : Nat} : ab_res scr 26 d M 56 [l0, l1, l2, l3] (.int v0 :: .ref v1 :: st) = (ab_qe v1 v0).bind fun v => ab_res scr 26 d M 57 [l0, l1, l2, l3] (v :: st) := ab_o_aaload (ab_dc hc26 dX1_emptyLongest_56)
theorem q26_57 {v0 : Nat} : ab_res scr 26 d M 57 [l0, l1, l2, l3] (.ref v0 :: st) = (ab_gF ab_L0 M v0 7 5).bind fun v => ab_res scr 26 d M 60 [l0, l1, l2, l3] (v :: st) := ab_o_getfield (ab_dc hc26 dX1_emptyLongest_57) hk26 lk_fl_1_114
theorem q26_60 {xr : Nat} : ab_res scr 26 d M 60 [some (.ref xr), l1, l2, l3] (st) = ab_res scr 26 d M 61 [some (.ref xr), l1, l2, l3] (.ref xr :: st) := ab_o_aload_n (ab_dc hc26 dX1_emptyLongest_60) rfl
theorem q26_61 {v0 : Nat} : ab_res scr 26 d M 61 [l0, l1, l2, l3] (.ref v0 :: st) = (ab_gF ab_L0 M v0 1 1).bind fun v => ab_res scr 26 d M 64 [l0, l1, l2, l3] (v :: st) := ab_o_getfield (ab_dc hc26 dX1_emptyLongest_61) hk26 lk_fl_1_11
theorem q26_64 {x : Int32} : ab_res scr 26 d M 64 [l0, l1, some (.int x), l3] (st) = ab_res scr 26 d M 65 [l0, l1, some (.int x), l3] (.int x :: st) := ab_o_iload_n (ab_dc hc26 dX1_emptyLongest_64) rfl
theorem q26_65 {v0 : Int32} {v1 : Nat} : ab_res scr 26 d M 65 [l0, l1, l2, l3] (.int v0 :: .ref v1 :: st) = (ab_qe v1 v0).bind fun v => ab_res scr 26 d M 66 [l0, l1, l2, l3] (v :: st) := ab_o_aaload (ab_dc hc26 dX1_emptyLongest_65)
theorem q26_66 {v0 : Nat} : ab_res scr 26 d M 66 [l0, l1, l2, l3] (.ref v0 :: st) = (ab_gF ab_L0 M v0 7 5).bind fun v => ab_res scr 26 d M 69 [l0, l1, l2, l3] (v :: st) := ab_o_getfield (ab_dc hc26 dX1_emptyLongest_66) hk26 lk_fl_1_114
theorem q26_69 {v0 : Int32} {v1 : Int32} : ab_res scr 26 d M 69 [l0, l1, l2, l3] (.int v0 :: .int v1 :: st) = if v0 ≤ v1 then ab_res scr 26 d M 74 [l0, l1, l2, l3] (st) else ab_res scr 26 d M 72 [l0, l1, l2, l3] (st) := ab_o_br2 (off := 5) (ab_dc hc26 dX1_emptyLongest_69) (by decide) rfl rfl
theorem q26_72 {x : Int32} : ab_res scr 26 d M 72 [l0, l1, l2, some (.int x)] (st) = ab_res scr 26 d M 73 [l0, l1, l2, some (.int x)] (.int x :: st) := ab_o_iload_n (ab_dc hc26 dX1_emptyLongest_72) rfl
theorem q26_73 {v0 : Int32} : ab_res scr 26 d M 73 [l0, l1, l2, l3] (.int v0 :: st) = ab_res scr 26 d M 74 [l0, ab_nl l1, some (.int v0), l3] (st) := (ab_o_st1 (k := 2) (ab_dc hc26 dX1_emptyLongest_73) (Or.inr (Or.inr (Or.inl ⟨2, rfl, rfl, rfl, ⟨_, rfl⟩⟩))) hn26 (by decide)).trans (ab_kl1 [l0] _ l1 rfl rfl)
theorem q26_74 {x : Int32} : ab_res scr 26 d M 74 [l0, l1, l2, some (.int x)] (st) = ab_res scr 26 d M 77 [l0, l1, ab_nl l2, some (.int (x + 1))] (st) := (ab_o_iinc (k := 3) (ab_dc hc26 dX1_emptyLongest_74) hn26 (by decide) rfl).trans (by rw [ki_iconst_1]; exact ab_kl1 [l0, l1] _ l2 rfl rfl)
theorem q26_77 : ab_res scr 26 d M 77 [l0, l1, l2, l3] (st) = ab_res scr 26 d M 21 [l0, l1, l2, l3] (st) := ab_o_goto (ab_dc hc26 dX1_emptyLongest_77) (by decide)
theorem q26_80 {x : Int32} : ab_res scr 26 d M 80 [l0, l1, some (.int x), l3] (st) = ab_res scr 26 d M 81 [l0, l1, some (.int x), l3] (.int x :: st) := ab_o_iload_n (ab_dc hc26 dX1_emptyLongest_80) rfl
theorem q26_81 {v0 : Int32} : ab_res scr 26 d M 81 [l0, l1, l2, l3] ([.int v0]) = some (M, some (.int v0)) := ab_o_ireturn (ab_dc hc26 dX1_emptyLongest_81) hr26 rfl
end Q26
theorem hc27 : ab_code 27 = cX1_drawn := rfl
theorem hn27 : ab_nL 27 = 3 := rfl
theorem hk27 : ab_ky 27 = 1 := rfl
theorem hr27 : ab_ret 27 = some .int := rfl
section Q27
variable {scr : Option (List Int32)} {d : Nat} {M : ab_M} {st : List Value} {l0 l1 l2 : Option Value}
theorem q27_0 {x : Int32} : ab_res scr 27 d M 0 [l0, some (.int x), l2] (st) = ab_res scr 27 d M 1 [l0, some (.int x), l2] (.int x :: st) := ab_o_iload_n (ab_dc hc27 dX1_drawn_0) rfl
theorem q27_1 {v0 : Int32} : ab_res scr 27 3 M 1 [l0, l1, l2] ([.int v0]) = (ab_ms scr 196 [.int v0] M).bind fun o => ab_res scr 27 3 o.1 4 [l0, l1, l2] (ab_pr o.2 []) := ab_o_static (ab_dc hc27 dX1_drawn_1) hk27 lk_ca_1_125 hm196 (Nat.le_of_ble_eq_true rfl) rfl rfl rfl rfl rfl
theorem q27_4 {v0 : Int32} : ab_res scr 27 d M 4 [l0, l1, l2] (.int v0 :: st) = ab_res scr 27 d M 5 [l0, ab_nl l1, some (.int v0)] (st) := (ab_o_st1 (k := 2) (ab_dc hc27 dX1_drawn_4) (Or.inr (Or.inr (Or.inl ⟨2, rfl, rfl, rfl, ⟨_, rfl⟩⟩))) hn27 (by decide)).trans (ab_kl1 [l0] _ l1 rfl rfl)
theorem q27_5 {x : Int32} : ab_res scr 27 d M 5 [l0, l1, some (.int x)] (st) = ab_res scr 27 d M 6 [l0, l1, some (.int x)] (.int x :: st) := ab_o_iload_n (ab_dc hc27 dX1_drawn_5) rfl
theorem q27_6 {v0 : Int32} : ab_res scr 27 d M 6 [l0, l1, l2] (.int v0 :: st) = if ¬ v0 = 0 then ab_res scr 27 d M 12 [l0, l1, l2] (st) else ab_res scr 27 d M 9 [l0, l1, l2] (st) := ab_o_br2 (off := 6) (ab_dc hc27 dX1_drawn_6) (by decide) rfl rfl
theorem q27_9 : ab_res scr 27 d M 9 [l0, l1, l2] (st) = ab_res scr 27 d M 11 [l0, l1, l2] (.int (-4) :: st) := (ab_o_bipush (ab_dc hc27 dX1_drawn_9)).trans (by rw [ki_bipush_m4])
theorem q27_11 {v0 : Int32} : ab_res scr 27 d M 11 [l0, l1, l2] ([.int v0]) = some (M, some (.int v0)) := ab_o_ireturn (ab_dc hc27 dX1_drawn_11) hr27 rfl
theorem q27_12 {xr : Nat} : ab_res scr 27 d M 12 [some (.ref xr), l1, l2] (st) = ab_res scr 27 d M 13 [some (.ref xr), l1, l2] (.ref xr :: st) := ab_o_aload_n (ab_dc hc27 dX1_drawn_12) rfl
theorem q27_13 {xr : Nat} : ab_res scr 27 d M 13 [some (.ref xr), l1, l2] (st) = ab_res scr 27 d M 14 [some (.ref xr), l1, l2] (.ref xr :: st) := ab_o_aload_n (ab_dc hc27 dX1_drawn_13) rfl
theorem q27_14 {v0 : Nat} : ab_res scr 27 d M 14 [l0, l1, l2] (.ref v0 :: st) = (ab_gF ab_L0 M v0 1 7).bind fun v => ab_res scr 27 d M 17 [l0, l1, l2] (v :: st) := ab_o_getfield (ab_dc hc27 dX1_drawn_14) hk27 lk_fl_1_36
theorem q27_17 : ab_res scr 27 d M 17 [l0, l1, l2] (st) = ab_res scr 27 d M 19 [l0, l1, l2] (.int 1103515245 :: st) := ab_o_ldc (ab_dc hc27 dX1_drawn_17) hk27 lk_ko_1_220
theorem q27_19 {v0 : Int32} {v1 : Int32} : ab_res scr 27 d M 19 [l0, l1, l2] (.int v0 :: .int v1 :: st) = ab_res scr 27 d M 20 [l0, l1, l2] (.int (v1 * v0) :: st) := ab_xg (ab_dc hc27 dX1_drawn_19) rfl rfl
theorem q27_20 : ab_res scr 27 d M 20 [l0, l1, l2] (st) = ab_res scr 27 d M 23 [l0, l1, l2] (.int 12345 :: st) := (ab_o_sipush (ab_dc hc27 dX1_drawn_20)).trans (by rw [ki_sipush_12345])
theorem q27_23 {v0 : Int32} {v1 : Int32} : ab_res scr 27 d M 23 [l0, l1, l2] (.int v0 :: .int v1 :: st) = ab_res scr 27 d M 24 [l0, l1, l2] (.int (v1 + v0) :: st) := ab_xg (ab_dc hc27 dX1_drawn_23) rfl rfl
theorem q27_24 {v0 : Int32} {v1 : Nat} (hp : (ab_pt v1 1 7 v0 = true) = True) : ab_res scr 27 d M 24 [l0, l1, l2] (.int v0 :: .ref v1 :: st) = ab_res scr 27 d (ab_up M v1 7 v0) 27 [l0, l1, l2] (st) := ab_o_putfield (ab_dc hc27 dX1_drawn_24) hk27 lk_fl_1_36 (of_eq_true hp)
theorem q27_27 {xr : Nat} : ab_res scr 27 d M 27 [some (.ref xr), l1, l2] (st) = ab_res scr 27 d M 28 [some (.ref xr), l1, l2] (.ref xr :: st) := ab_o_aload_n (ab_dc hc27 dX1_drawn_27) rfl
theorem q27_28 {x : Int32} : ab_res scr 27 d M 28 [l0, some (.int x), l2] (st) = ab_res scr 27 d M 29 [l0, some (.int x), l2] (.int x :: st) := ab_o_iload_n (ab_dc hc27 dX1_drawn_28) rfl
theorem q27_29 {xr : Nat} : ab_res scr 27 d M 29 [some (.ref xr), l1, l2] (st) = ab_res scr 27 d M 30 [some (.ref xr), l1, l2] (.ref xr :: st) := ab_o_aload_n (ab_dc hc27 dX1_drawn_29) rfl
theorem q27_30 {v0 : Nat} : ab_res scr 27 d M 30 [l0, l1, l2] (.ref v0 :: st) = (ab_gF ab_L0 M v0 1 7).bind fun v => ab_res scr 27 d M 33 [l0, l1, l2] (v :: st) := ab_o_getfield (ab_dc hc27 dX1_drawn_30) hk27 lk_fl_1_36
theorem q27_33 : ab_res scr 27 d M 33 [l0, l1, l2] (st) = ab_res scr 27 d M 35 [l0, l1, l2] (.int 16 :: st) := (ab_o_bipush (ab_dc hc27 dX1_drawn_33)).trans (by rw [ki_bipush_16])
theorem q27_35 {v0 : Int32} {v1 : Int32} : ab_res scr 27 d M 35 [l0, l1, l2] (.int v0 :: .int v1 :: st) = ab_res scr 27 d M 36 [l0, l1, l2] (.int ((v1.toUInt32 >>> (v0.toUInt32 &&& Int32.toUInt32 31)).toInt32) :: st) := ab_xg (ab_dc hc27 dX1_drawn_35) rfl rfl
theorem q27_36 : ab_res scr 27 d M 36 [l0, l1, l2] (st) = ab_res scr 27 d M 39 [l0, l1, l2] (.int 32767 :: st) := (ab_o_sipush (ab_dc hc27 dX1_drawn_36)).trans (by rw [ki_sipush_32767])
theorem q27_39 {v0 : Int32} {v1 : Int32} : ab_res scr 27 d M 39 [l0, l1, l2] (.int v0 :: .int v1 :: st) = ab_res scr 27 d M 40 [l0, l1, l2] (.int (v1 &&& v0) :: st) := ab_xg (ab_dc hc27 dX1_drawn_39) rfl rfl
theorem q27_40 {x : Int32} : ab_res scr 27 d M 40 [l0, l1, some (.int x)] (st) = ab_res scr 27 d M 41 [l0, l1, some (.int x)] (.int x :: st) := ab_o_iload_n (ab_dc hc27 dX1_drawn_40) rfl
theorem q27_41 {v0 : Int32} {v1 : Int32} : ab_res scr 27 d M 41 [l0, l1, l2] (.int v0 :: .int v1 :: st) = if v0 = 0 then none else ab_res scr 27 d M 42 [l0, l1, l2] (.int (v1 - v1 / v0 * v0) :: st) := ab_o_div (ab_dc hc27 dX1_drawn_41) (Or.inr ⟨rfl, rfl⟩)
theorem q27_42 {v0 : Int32} {v1 : Int32} {v2 : Nat} (hb : (ab_rc ab_L0 v2 = some 1) = True) : ab_res scr 27 3 M 42 [l0, l1, l2] ([.int v0, .int v1, .ref v2]) = (ab_ms scr 28 [.ref v2, .int v1, .int v0] M).bind fun o => ab_res scr 27 3 o.1 45 [l0, l1, l2] (ab_pr o.2 []) := ab_o_virtual (ab_dc hc27 dX1_drawn_42) hk27 lk_ca_1_217 hm28 (Nat.le_of_ble_eq_true rfl) rfl rfl rfl (of_eq_true hb) rfl rfl
theorem q27_45 {v0 : Int32} : ab_res scr 27 d M 45 [l0, l1, l2] ([.int v0]) = some (M, some (.int v0)) := ab_o_ireturn (ab_dc hc27 dX1_drawn_45) hr27 rfl
end Q27
theorem hc28 : ab_code 28 = cX1_numberOf := rfl
theorem hn28 : ab_nL 28 = 5 := rfl
theorem hk28 : ab_ky 28 = 1 := rfl
theorem hr28 : ab_ret 28 = some .int := rfl
section Q28
variable {scr : Option (List Int32)} {d : Nat} {M : ab_M} {st : List Value} {l0 l1 l2 l3 l4 : Option Value}
theorem q28_0 : ab_res scr 28 d M 0 [l0, l1, l2, l3, l4] (st) = ab_res scr 28 d M 1 [l0, l1, l2, l3, l4] (.int 0 :: st) := (ab_o_iconst (ab_dc hc28 dX1_numberOf_0)).trans (by rw [ki_iconst_0])
theorem q28_1 {v0 : Int32} : ab_res scr 28 d M 1 [l0, l1, l2, l3, l4] (.int v0 :: st) = ab_res scr 28 d M 2 [l0, l1, ab_nl l2, some (.int v0), l4] (st) := (ab_o_st1 (k := 3) (ab_dc hc28 dX1_numberOf_1) (Or.inr (Or.inr (Or.inl ⟨3, rfl, rfl, rfl, ⟨_, rfl⟩⟩))) hn28 (by decide)).trans (ab_kl1 [l0, l1] _ l2 rfl rfl)
theorem q28_2 : ab_res scr 28 d M 2 [l0, l1, l2, l3, l4] (st) = ab_res scr 28 d M 3 [l0, l1, l2, l3, l4] (.int 0 :: st) := (ab_o_iconst (ab_dc hc28 dX1_numberOf_2)).trans (by rw [ki_iconst_0])
theorem q28_3 {v0 : Int32} : ab_res scr 28 d M 3 [l0, l1, l2, l3, l4] (.int v0 :: st) = ab_res scr 28 d M 5 [l0, l1, l2, ab_nl l3, some (.int v0)] (st) := (ab_o_st1 (k := 4) (ab_dc hc28 dX1_numberOf_3) (Or.inl ⟨rfl, rfl, ⟨_, rfl⟩⟩) hn28 (by decide)).trans (ab_kl1 [l0, l1, l2] _ l3 rfl rfl)
theorem q28_5 {x : Int32} : ab_res scr 28 d M 5 [l0, l1, l2, l3, some (.int x)] (st) = ab_res scr 28 d M 7 [l0, l1, l2, l3, some (.int x)] (.int x :: st) := ab_o_iload (ab_dc hc28 dX1_numberOf_5) rfl
theorem q28_7 : ab_res scr 28 d M 7 [l0, l1, l2, l3, l4] (st) = ab_res scr 28 d M 9 [l0, l1, l2, l3, l4] (.int 8 :: st) := (ab_o_bipush (ab_dc hc28 dX1_numberOf_7)).trans (by rw [ki_bipush_8])
theorem q28_9 {v0 : Int32} {v1 : Int32} : ab_res scr 28 d M 9 [l0, l1, l2, l3, l4] (.int v0 :: .int v1 :: st) = if v0 ≤ v1 then ab_res scr 28 d M 38 [l0, l1, l2, l3, l4] (st) else ab_res scr 28 d M 12 [l0, l1, l2, l3, l4] (st) := ab_o_br2 (off := 29) (ab_dc hc28 dX1_numberOf_9) (by decide) rfl rfl
theorem q28_12 {x : Int32} : ab_res scr 28 d M 12 [l0, l1, l2, l3, some (.int x)] (st) = ab_res scr 28 d M 14 [l0, l1, l2, l3, some (.int x)] (.int x :: st) := ab_o_iload (ab_dc hc28 dX1_numberOf_12) rfl
theorem q28_14 {x : Int32} : ab_res scr 28 d M 14 [l0, some (.int x), l2, l3, l4] (st) = ab_res scr 28 d M 15 [l0, some (.int x), l2, l3, l4] (.int x :: st) := ab_o_iload_n (ab_dc hc28 dX1_numberOf_14) rfl
theorem q28_15 {v0 : Int32} {v1 : Int32} : ab_res scr 28 2 M 15 [l0, l1, l2, l3, l4] ([.int v0, .int v1]) = (ab_ms scr 112 [.int v1, .int v0] M).bind fun o => ab_res scr 28 2 o.1 18 [l0, l1, l2, l3, l4] (ab_pr o.2 []) := ab_o_static (ab_dc hc28 dX1_numberOf_15) hk28 lk_ca_1_117 hm112 (Nat.le_of_ble_eq_true rfl) rfl rfl rfl rfl rfl
theorem q28_18 {v0 : Int32} : ab_res scr 28 d M 18 [l0, l1, l2, l3, l4] (.int v0 :: st) = if v0 = 0 then ab_res scr 28 d M 32 [l0, l1, l2, l3, l4] (st) else ab_res scr 28 d M 21 [l0, l1, l2, l3, l4] (st) := ab_o_br2 (off := 14) (ab_dc hc28 dX1_numberOf_18) (by decide) rfl rfl
theorem q28_21 {x : Int32} : ab_res scr 28 d M 21 [l0, l1, l2, some (.int x), l4] (st) = ab_res scr 28 d M 22 [l0, l1, l2, some (.int x), l4] (.int x :: st) := ab_o_iload_n (ab_dc hc28 dX1_numberOf_21) rfl
theorem q28_22 {x : Int32} : ab_res scr 28 d M 22 [l0, l1, some (.int x), l3, l4] (st) = ab_res scr 28 d M 23 [l0, l1, some (.int x), l3, l4] (.int x :: st) := ab_o_iload_n (ab_dc hc28 dX1_numberOf_22) rfl
theorem q28_23 {v0 : Int32} {v1 : Int32} : ab_res scr 28 d M 23 [l0, l1, l2, l3, l4] (.int v0 :: .int v1 :: st) = if ¬ v1 = v0 then ab_res scr 28 d M 29 [l0, l1, l2, l3, l4] (st) else ab_res scr 28 d M 26 [l0, l1, l2, l3, l4] (st) := ab_o_br2 (off := 6) (ab_dc hc28 dX1_numberOf_23) (by decide) rfl rfl
theorem q28_26 {x : Int32} : ab_res scr 28 d M 26 [l0, l1, l2, l3, some (.int x)] (st) = ab_res scr 28 d M 28 [l0, l1, l2, l3, some (.int x)] (.int x :: st) := ab_o_iload (ab_dc hc28 dX1_numberOf_26) rfl
theorem q28_28 {v0 : Int32} : ab_res scr 28 d M 28 [l0, l1, l2, l3, l4] ([.int v0]) = some (M, some (.int v0)) := ab_o_ireturn (ab_dc hc28 dX1_numberOf_28) hr28 rfl
theorem q28_29 {x : Int32} : ab_res scr 28 d M 29 [l0, l1, l2, some (.int x), l4] (st) = ab_res scr 28 d M 32 [l0, l1, ab_nl l2, some (.int (x + 1)), l4] (st) := (ab_o_iinc (k := 3) (ab_dc hc28 dX1_numberOf_29) hn28 (by decide) rfl).trans (by rw [ki_iconst_1]; exact ab_kl1 [l0, l1] _ l2 rfl rfl)
theorem q28_32 {x : Int32} : ab_res scr 28 d M 32 [l0, l1, l2, l3, some (.int x)] (st) = ab_res scr 28 d M 35 [l0, l1, l2, ab_nl l3, some (.int (x + 1))] (st) := (ab_o_iinc (k := 4) (ab_dc hc28 dX1_numberOf_32) hn28 (by decide) rfl).trans (by rw [ki_iconst_1]; exact ab_kl1 [l0, l1, l2] _ l3 rfl rfl)
theorem q28_35 : ab_res scr 28 d M 35 [l0, l1, l2, l3, l4] (st) = ab_res scr 28 d M 5 [l0, l1, l2, l3, l4] (st) := ab_o_goto (ab_dc hc28 dX1_numberOf_35) (by decide)
theorem q28_38 : ab_res scr 28 d M 38 [l0, l1, l2, l3, l4] (st) = ab_res scr 28 d M 40 [l0, l1, l2, l3, l4] (.int (-4) :: st) := (ab_o_bipush (ab_dc hc28 dX1_numberOf_38)).trans (by rw [ki_bipush_m4])
theorem q28_40 {v0 : Int32} : ab_res scr 28 d M 40 [l0, l1, l2, l3, l4] ([.int v0]) = some (M, some (.int v0)) := ab_o_ireturn (ab_dc hc28 dX1_numberOf_40) hr28 rfl
end Q28
theorem hc29 : ab_code 29 = cX1_longestAgo := rfl
theorem hn29 : ab_nL 29 = 4 := rfl
theorem hk29 : ab_ky 29 = 1 := rfl
theorem hr29 : ab_ret 29 = some .int := rfl
section Q29
variable {scr : Option (List Int32)} {d : Nat} {M : ab_M} {st : List Value} {l0 l1 l2 l3 : Option Value}
theorem q29_0 : ab_res scr 29 d M 0 [l0, l1, l2, l3] (st) = ab_res scr 29 d M 2 [l0, l1, l2, l3] (.int (-4) :: st) := (ab_o_bipush (ab_dc hc29 dX1_longestAgo_0)).trans (by rw [ki_bipush_m4])
theorem q29_2 {v0 : Int32} : ab_res scr 29 d M 2 [l0, l1, l2, l3] (.int v0 :: st) = ab_res scr 29 d M 3 [l0, ab_nl l1, some (.int v0), l3] (st) := (ab_o_st1 (k := 2) (ab_dc hc29 dX1_longestAgo_2) (Or.inr (Or.inr (Or.inl ⟨2, rfl, rfl, rfl, ⟨_, rfl⟩⟩))) hn29 (by decide)).trans (ab_kl1 [l0] _ l1 rfl rfl)
theorem q29_3 : ab_res scr 29 d M 3 [l0, l1, l2, l3] (st) = ab_res scr 29 d M 4 [l0, l1, l2, l3] (.int 0 :: st) := (ab_o_iconst (ab_dc hc29 dX1_longestAgo_3)).trans (by rw [ki_iconst_0])
theorem q29_4 {v0 : Int32} : ab_res scr 29 d M 4 [l0, l1, l2, l3] (.int v0 :: st) = ab_res scr 29 d M 5 [l0, l1, ab_nl l2, some (.int v0)] (st) := (ab_o_st1 (k := 3) (ab_dc hc29 dX1_longestAgo_4) (Or.inr (Or.inr (Or.inl ⟨3, rfl, rfl, rfl, ⟨_, rfl⟩⟩))) hn29 (by decide)).trans (ab_kl1 [l0, l1] _ l2 rfl rfl)
theorem q29_5 {x : Int32} : ab_res scr 29 d M 5 [l0, l1, l2, some (.int x)] (st) = ab_res scr 29 d M 6 [l0, l1, l2, some (.int x)] (.int x :: st) := ab_o_iload_n (ab_dc hc29 dX1_longestAgo_5) rfl
theorem q29_6 {xr : Nat} : ab_res scr 29 d M 6 [some (.ref xr), l1, l2, l3] (st) = ab_res scr 29 d M 7 [some (.ref xr), l1, l2, l3] (.ref xr :: st) := ab_o_aload_n (ab_dc hc29 dX1_longestAgo_6) rfl
theorem q29_7 {v0 : Nat} : ab_res scr 29 d M 7 [l0, l1, l2, l3] (.ref v0 :: st) = (ab_gF ab_L0 M v0 1 0).bind fun v => ab_res scr 29 d M 10 [l0, l1, l2, l3] (v :: st) := ab_o_getfield (ab_dc hc29 dX1_longestAgo_7) hk29 lk_fl_1_58
theorem q29_10 {v0 : Nat} : ab_res scr 29 d M 10 [l0, l1, l2, l3] (.ref v0 :: st) = (ab_gF ab_L0 M v0 4 3).bind fun v => ab_res scr 29 d M 13 [l0, l1, l2, l3] (v :: st) := ab_o_getfield (ab_dc hc29 dX1_longestAgo_10) hk29 lk_fl_1_64
theorem q29_13 {v0 : Int32} {v1 : Int32} : ab_res scr 29 d M 13 [l0, l1, l2, l3] (.int v0 :: .int v1 :: st) = if v0 ≤ v1 then ab_res scr 29 d M 59 [l0, l1, l2, l3] (st) else ab_res scr 29 d M 16 [l0, l1, l2, l3] (st) := ab_o_br2 (off := 46) (ab_dc hc29 dX1_longestAgo_13) (by decide) rfl rfl
theorem q29_16 {x : Int32} : ab_res scr 29 d M 16 [l0, l1, l2, some (.int x)] (st) = ab_res scr 29 d M 17 [l0, l1, l2, some (.int x)] (.int x :: st) := ab_o_iload_n (ab_dc hc29 dX1_longestAgo_16) rfl
theorem q29_17 {x : Int32} : ab_res scr 29 d M 17 [l0, some (.int x), l2, l3] (st) = ab_res scr 29 d M 18 [l0, some (.int x), l2, l3] (.int x :: st) := ab_o_iload_n (ab_dc hc29 dX1_longestAgo_17) rfl
theorem q29_18 {v0 : Int32} {v1 : Int32} : ab_res scr 29 2 M 18 [l0, l1, l2, l3] ([.int v0, .int v1]) = (ab_ms scr 112 [.int v1, .int v0] M).bind fun o => ab_res scr 29 2 o.1 21 [l0, l1, l2, l3] (ab_pr o.2 []) := ab_o_static (ab_dc hc29 dX1_longestAgo_18) hk29 lk_ca_1_117 hm112 (Nat.le_of_ble_eq_true rfl) rfl rfl rfl rfl rfl
theorem q29_21 {v0 : Int32} : ab_res scr 29 d M 21 [l0, l1, l2, l3] (.int v0 :: st) = if v0 = 0 then ab_res scr 29 d M 53 [l0, l1, l2, l3] (st) else ab_res scr 29 d M 24 [l0, l1, l2, l3] (st) := ab_o_br2 (off := 32) (ab_dc hc29 dX1_longestAgo_21) (by decide) rfl rfl
theorem q29_24 {x : Int32} : ab_res scr 29 d M 24 [l0, l1, some (.int x), l3] (st) = ab_res scr 29 d M 25 [l0, l1, some (.int x), l3] (.int x :: st) := ab_o_iload_n (ab_dc hc29 dX1_longestAgo_24) rfl
theorem q29_25 : ab_res scr 29 d M 25 [l0, l1, l2, l3] (st) = ab_res scr 29 d M 27 [l0, l1, l2, l3] (.int (-4) :: st) := (ab_o_bipush (ab_dc hc29 dX1_longestAgo_25)).trans (by rw [ki_bipush_m4])
theorem q29_27 {v0 : Int32} {v1 : Int32} : ab_res scr 29 d M 27 [l0, l1, l2, l3] (.int v0 :: .int v1 :: st) = if v1 = v0 then ab_res scr 29 d M 51 [l0, l1, l2, l3] (st) else ab_res scr 29 d M 30 [l0, l1, l2, l3] (st) := ab_o_br2 (off := 24) (ab_dc hc29 dX1_longestAgo_27) (by decide) rfl rfl
theorem q29_30 {xr : Nat} : ab_res scr 29 d M 30 [some (.ref xr), l1, l2, l3] (st) = ab_res scr 29 d M 31 [some (.ref xr), l1, l2, l3] (.ref xr :: st) := ab_o_aload_n (ab_dc hc29 dX1_longestAgo_30) rfl
theorem q29_31 {v0 : Nat} : ab_res scr 29 d M 31 [l0, l1, l2, l3] (.ref v0 :: st) = (ab_gF ab_L0 M v0 1 1).bind fun v => ab_res scr 29 d M 34 [l0, l1, l2, l3] (v :: st) := ab_o_getfield (ab_dc hc29 dX1_longestAgo_31) hk29 lk_fl_1_11
theorem q29_34 {x : Int32} : ab_res scr 29 d M 34 [l0, l1, l2, some (.int x)] (st) = ab_res scr 29 d M 35 [l0, l1, l2, some (.int x)] (.int x :: st) := ab_o_iload_n (ab_dc hc29 dX1_longestAgo_34) rfl
theorem q29_35 {v0 : Int32} {v1 : Nat} : ab_res scr 29 d M 35 [l0, l1, l2, l3] (.int v0 :: .ref v1 :: st) = (ab_qe v1 v0).bind fun v => ab_res scr 29 d M 36 [l0, l1, l2, l3] (v :: st) := ab_o_aaload (ab_dc hc29 dX1_longestAgo_35)
theorem q29_36 {v0 : Nat} : ab_res scr 29 d M 36 [l0, l1, l2, l3] (.ref v0 :: st) = (ab_gF ab_L0 M v0 7 7).bind fun v => ab_res scr 29 d M 39 [l0, l1, l2, l3] (v :: st) := ab_o_getfield (ab_dc hc29 dX1_longestAgo_36) hk29 lk_fl_1_74
theorem q29_39 {xr : Nat} : ab_res scr 29 d M 39 [some (.ref xr), l1, l2, l3] (st) = ab_res scr 29 d M 40 [some (.ref xr), l1, l2, l3] (.ref xr :: st) := ab_o_aload_n (ab_dc hc29 dX1_longestAgo_39) rfl
theorem q29_40 {v0 : Nat} : ab_res scr 29 d M 40 [l0, l1, l2, l3] (.ref v0 :: st) = (ab_gF ab_L0 M v0 1 1).bind fun v => ab_res scr 29 d M 43 [l0, l1, l2, l3] (v :: st) := ab_o_getfield (ab_dc hc29 dX1_longestAgo_40) hk29 lk_fl_1_11
theorem q29_43 {x : Int32} : ab_res scr 29 d M 43 [l0, l1, some (.int x), l3] (st) = ab_res scr 29 d M 44 [l0, l1, some (.int x), l3] (.int x :: st) := ab_o_iload_n (ab_dc hc29 dX1_longestAgo_43) rfl
theorem q29_44 {v0 : Int32} {v1 : Nat} : ab_res scr 29 d M 44 [l0, l1, l2, l3] (.int v0 :: .ref v1 :: st) = (ab_qe v1 v0).bind fun v => ab_res scr 29 d M 45 [l0, l1, l2, l3] (v :: st) := ab_o_aaload (ab_dc hc29 dX1_longestAgo_44)
theorem q29_45 {v0 : Nat} : ab_res scr 29 d M 45 [l0, l1, l2, l3] (.ref v0 :: st) = (ab_gF ab_L0 M v0 7 7).bind fun v => ab_res scr 29 d M 48 [l0, l1, l2, l3] (v :: st) := ab_o_getfield (ab_dc hc29 dX1_longestAgo_45) hk29 lk_fl_1_74
theorem q29_48 {v0 : Int32} {v1 : Int32} : ab_res scr 29 d M 48 [l0, l1, l2, l3] (.int v0 :: .int v1 :: st) = if v0 ≤ v1 then ab_res scr 29 d M 53 [l0, l1, l2, l3] (st) else ab_res scr 29 d M 51 [l0, l1, l2, l3] (st) := ab_o_br2 (off := 5) (ab_dc hc29 dX1_longestAgo_48) (by decide) rfl rfl
theorem q29_51 {x : Int32} : ab_res scr 29 d M 51 [l0, l1, l2, some (.int x)] (st) = ab_res scr 29 d M 52 [l0, l1, l2, some (.int x)] (.int x :: st) := ab_o_iload_n (ab_dc hc29 dX1_longestAgo_51) rfl
theorem q29_52 {v0 : Int32} : ab_res scr 29 d M 52 [l0, l1, l2, l3] (.int v0 :: st) = ab_res scr 29 d M 53 [l0, ab_nl l1, some (.int v0), l3] (st) := (ab_o_st1 (k := 2) (ab_dc hc29 dX1_longestAgo_52) (Or.inr (Or.inr (Or.inl ⟨2, rfl, rfl, rfl, ⟨_, rfl⟩⟩))) hn29 (by decide)).trans (ab_kl1 [l0] _ l1 rfl rfl)
theorem q29_53 {x : Int32} : ab_res scr 29 d M 53 [l0, l1, l2, some (.int x)] (st) = ab_res scr 29 d M 56 [l0, l1, ab_nl l2, some (.int (x + 1))] (st) := (ab_o_iinc (k := 3) (ab_dc hc29 dX1_longestAgo_53) hn29 (by decide) rfl).trans (by rw [ki_iconst_1]; exact ab_kl1 [l0, l1] _ l2 rfl rfl)
theorem q29_56 : ab_res scr 29 d M 56 [l0, l1, l2, l3] (st) = ab_res scr 29 d M 5 [l0, l1, l2, l3] (st) := ab_o_goto (ab_dc hc29 dX1_longestAgo_56) (by decide)
theorem q29_59 {x : Int32} : ab_res scr 29 d M 59 [l0, l1, some (.int x), l3] (st) = ab_res scr 29 d M 60 [l0, l1, some (.int x), l3] (.int x :: st) := ab_o_iload_n (ab_dc hc29 dX1_longestAgo_59) rfl
theorem q29_60 {v0 : Int32} : ab_res scr 29 d M 60 [l0, l1, l2, l3] ([.int v0]) = some (M, some (.int v0)) := ab_o_ireturn (ab_dc hc29 dX1_longestAgo_60) hr29 rfl
end Q29
theorem hc30 : ab_code 30 = cX1_asTold := rfl
theorem hn30 : ab_nL 30 = 3 := rfl
theorem hk30 : ab_ky 30 = 1 := rfl
theorem hr30 : ab_ret 30 = some .int := rfl
section Q30
variable {scr : Option (List Int32)} {d : Nat} {M : ab_M} {st : List Value} {l0 l1 l2 : Option Value}
theorem q30_0 {xr : Nat} : ab_res scr 30 d M 0 [some (.ref xr), l1, l2] (st) = ab_res scr 30 d M 1 [some (.ref xr), l1, l2] (.ref xr :: st) := ab_o_aload_n (ab_dc hc30 dX1_asTold_0) rfl
theorem q30_1 {v0 : Nat} : ab_res scr 30 d M 1 [l0, l1, l2] (.ref v0 :: st) = (ab_gF ab_L0 M v0 1 3).bind fun v => ab_res scr 30 d M 4 [l0, l1, l2] (v :: st) := ab_o_getfield (ab_dc hc30 dX1_asTold_1) hk30 lk_fl_1_23
theorem q30_4 {xr : Nat} : ab_res scr 30 d M 4 [some (.ref xr), l1, l2] (st) = ab_res scr 30 d M 5 [some (.ref xr), l1, l2] (.ref xr :: st) := ab_o_aload_n (ab_dc hc30 dX1_asTold_4) rfl
theorem q30_5 {v0 : Nat} : ab_res scr 30 d M 5 [l0, l1, l2] (.ref v0 :: st) = (ab_gF ab_L0 M v0 1 0).bind fun v => ab_res scr 30 d M 8 [l0, l1, l2] (v :: st) := ab_o_getfield (ab_dc hc30 dX1_asTold_5) hk30 lk_fl_1_58
theorem q30_8 {v0 : Nat} : ab_res scr 30 d M 8 [l0, l1, l2] (.ref v0 :: st) = (ab_gF ab_L0 M v0 4 5).bind fun v => ab_res scr 30 d M 11 [l0, l1, l2] (v :: st) := ab_o_getfield (ab_dc hc30 dX1_asTold_8) hk30 lk_fl_1_221
theorem q30_11 {v0 : Int32} {v1 : Int32} : ab_res scr 30 d M 11 [l0, l1, l2] (.int v0 :: .int v1 :: st) = if v0 ≤ v1 then ab_res scr 30 d M 37 [l0, l1, l2] (st) else ab_res scr 30 d M 14 [l0, l1, l2] (st) := ab_o_br2 (off := 26) (ab_dc hc30 dX1_asTold_11) (by decide) rfl rfl
theorem q30_14 {xr : Nat} : ab_res scr 30 d M 14 [some (.ref xr), l1, l2] (st) = ab_res scr 30 d M 15 [some (.ref xr), l1, l2] (.ref xr :: st) := ab_o_aload_n (ab_dc hc30 dX1_asTold_14) rfl
theorem q30_15 {v0 : Nat} : ab_res scr 30 d M 15 [l0, l1, l2] (.ref v0 :: st) = (ab_gF ab_L0 M v0 1 0).bind fun v => ab_res scr 30 d M 18 [l0, l1, l2] (v :: st) := ab_o_getfield (ab_dc hc30 dX1_asTold_15) hk30 lk_fl_1_58
theorem q30_18 {v0 : Nat} : ab_res scr 30 d M 18 [l0, l1, l2] (.ref v0 :: st) = (ab_gF ab_L0 M v0 4 2).bind fun v => ab_res scr 30 d M 21 [l0, l1, l2] (v :: st) := ab_o_getfield (ab_dc hc30 dX1_asTold_18) hk30 lk_fl_1_224
theorem q30_21 {xr : Nat} : ab_res scr 30 d M 21 [some (.ref xr), l1, l2] (st) = ab_res scr 30 d M 22 [some (.ref xr), l1, l2] (.ref xr :: st) := ab_o_aload_n (ab_dc hc30 dX1_asTold_21) rfl
theorem q30_22 {v0 : Nat} : ab_res scr 30 d M 22 [l0, l1, l2] (.ref v0 :: st) = (ab_gF ab_L0 M v0 1 3).bind fun v => ab_res scr 30 d M 25 [l0, l1, l2] (v :: st) := ab_o_getfield (ab_dc hc30 dX1_asTold_22) hk30 lk_fl_1_23
theorem q30_25 {v0 : Int32} {v1 : Nat} : ab_res scr 30 d M 25 [l0, l1, l2] (.int v0 :: .ref v1 :: st) = (ab_ald scr ab_L0 M v1 .int v0).bind fun v => ab_res scr 30 d M 26 [l0, l1, l2] (.int v :: st) := ab_o_iaload (ab_dc hc30 dX1_asTold_25)
theorem q30_26 {v0 : Int32} : ab_res scr 30 d M 26 [l0, l1, l2] (.int v0 :: st) = ab_res scr 30 d M 27 [l0, ab_nl l1, some (.int v0)] (st) := (ab_o_st1 (k := 2) (ab_dc hc30 dX1_asTold_26) (Or.inr (Or.inr (Or.inl ⟨2, rfl, rfl, rfl, ⟨_, rfl⟩⟩))) hn30 (by decide)).trans (ab_kl1 [l0] _ l1 rfl rfl)
theorem q30_27 {x : Int32} : ab_res scr 30 d M 27 [l0, l1, some (.int x)] (st) = ab_res scr 30 d M 28 [l0, l1, some (.int x)] (.int x :: st) := ab_o_iload_n (ab_dc hc30 dX1_asTold_27) rfl
theorem q30_28 {x : Int32} : ab_res scr 30 d M 28 [l0, some (.int x), l2] (st) = ab_res scr 30 d M 29 [l0, some (.int x), l2] (.int x :: st) := ab_o_iload_n (ab_dc hc30 dX1_asTold_28) rfl
theorem q30_29 {v0 : Int32} {v1 : Int32} : ab_res scr 30 3 M 29 [l0, l1, l2] ([.int v0, .int v1]) = (ab_ms scr 112 [.int v1, .int v0] M).bind fun o => ab_res scr 30 3 o.1 32 [l0, l1, l2] (ab_pr o.2 []) := ab_o_static (ab_dc hc30 dX1_asTold_29) hk30 lk_ca_1_117 hm112 (Nat.le_of_ble_eq_true rfl) rfl rfl rfl rfl rfl
theorem q30_32 {v0 : Int32} : ab_res scr 30 d M 32 [l0, l1, l2] (.int v0 :: st) = if v0 = 0 then ab_res scr 30 d M 37 [l0, l1, l2] (st) else ab_res scr 30 d M 35 [l0, l1, l2] (st) := ab_o_br2 (off := 5) (ab_dc hc30 dX1_asTold_32) (by decide) rfl rfl
theorem q30_35 {x : Int32} : ab_res scr 30 d M 35 [l0, l1, some (.int x)] (st) = ab_res scr 30 d M 36 [l0, l1, some (.int x)] (.int x :: st) := ab_o_iload_n (ab_dc hc30 dX1_asTold_35) rfl
theorem q30_36 {v0 : Int32} : ab_res scr 30 d M 36 [l0, l1, l2] ([.int v0]) = some (M, some (.int v0)) := ab_o_ireturn (ab_dc hc30 dX1_asTold_36) hr30 rfl
theorem q30_37 {xr : Nat} : ab_res scr 30 d M 37 [some (.ref xr), l1, l2] (st) = ab_res scr 30 d M 38 [some (.ref xr), l1, l2] (.ref xr :: st) := ab_o_aload_n (ab_dc hc30 dX1_asTold_37) rfl
theorem q30_38 {x : Int32} : ab_res scr 30 d M 38 [l0, some (.int x), l2] (st) = ab_res scr 30 d M 39 [l0, some (.int x), l2] (.int x :: st) := ab_o_iload_n (ab_dc hc30 dX1_asTold_38) rfl
theorem q30_39 {v0 : Int32} {v1 : Nat} (hb : (ab_rc ab_L0 v1 = some 1) = True) : ab_res scr 30 3 M 39 [l0, l1, l2] ([.int v0, .ref v1]) = (ab_ms scr 24 [.ref v1, .int v0] M).bind fun o => ab_res scr 30 3 o.1 42 [l0, l1, l2] (ab_pr o.2 []) := ab_o_virtual (ab_dc hc30 dX1_asTold_39) hk30 lk_ca_1_211 hm24 (Nat.le_of_ble_eq_true rfl) rfl rfl rfl (of_eq_true hb) rfl rfl
theorem q30_42 {v0 : Int32} : ab_res scr 30 d M 42 [l0, l1, l2] ([.int v0]) = some (M, some (.int v0)) := ab_o_ireturn (ab_dc hc30 dX1_asTold_42) hr30 rfl
end Q30
theorem hc31 : ab_code 31 = cX1_left := rfl
theorem hn31 : ab_nL 31 = 2 := rfl
theorem hk31 : ab_ky 31 = 1 := rfl
theorem hr31 : ab_ret 31 = some .int := rfl
section Q31
variable {scr : Option (List Int32)} {d : Nat} {M : ab_M} {st : List Value} {l0 l1 : Option Value}
theorem q31_0 {xr : Nat} : ab_res scr 31 d M 0 [some (.ref xr), l1] (st) = ab_res scr 31 d M 1 [some (.ref xr), l1] (.ref xr :: st) := ab_o_aload_n (ab_dc hc31 dX1_left_0) rfl
theorem q31_1 {v0 : Nat} : ab_res scr 31 d M 1 [l0, l1] (.ref v0 :: st) = (ab_gF ab_L0 M v0 1 0).bind fun v => ab_res scr 31 d M 4 [l0, l1] (v :: st) := ab_o_getfield (ab_dc hc31 dX1_left_1) hk31 lk_fl_1_58
theorem q31_4 {v0 : Nat} : ab_res scr 31 d M 4 [l0, l1] (.ref v0 :: st) = (ab_gF ab_L0 M v0 4 0).bind fun v => ab_res scr 31 d M 7 [l0, l1] (v :: st) := ab_o_getfield (ab_dc hc31 dX1_left_4) hk31 lk_fl_1_67
theorem q31_7 : ab_res scr 31 d M 7 [l0, l1] (st) = ab_res scr 31 d M 8 [l0, l1] (.int 4 :: st) := (ab_o_iconst (ab_dc hc31 dX1_left_7)).trans (by rw [ki_iconst_4])
theorem q31_8 {v0 : Int32} {v1 : Nat} : ab_res scr 31 d M 8 [l0, l1] (.int v0 :: .ref v1 :: st) = (ab_qe v1 v0).bind fun v => ab_res scr 31 d M 9 [l0, l1] (v :: st) := ab_o_aaload (ab_dc hc31 dX1_left_8)
theorem q31_9 {x : Int32} : ab_res scr 31 d M 9 [l0, some (.int x)] (st) = ab_res scr 31 d M 10 [l0, some (.int x)] (.int x :: st) := ab_o_iload_n (ab_dc hc31 dX1_left_9) rfl
theorem q31_10 {v0 : Int32} {v1 : Nat} : ab_res scr 31 d M 10 [l0, l1] (.int v0 :: .ref v1 :: st) = (ab_ald scr ab_L0 M v1 .int v0).bind fun v => ab_res scr 31 d M 11 [l0, l1] (.int v :: st) := ab_o_iaload (ab_dc hc31 dX1_left_10)
theorem q31_11 {xr : Nat} : ab_res scr 31 d M 11 [some (.ref xr), l1] (st) = ab_res scr 31 d M 12 [some (.ref xr), l1] (.ref xr :: st) := ab_o_aload_n (ab_dc hc31 dX1_left_11) rfl
theorem q31_12 {v0 : Nat} : ab_res scr 31 d M 12 [l0, l1] (.ref v0 :: st) = (ab_gF ab_L0 M v0 1 1).bind fun v => ab_res scr 31 d M 15 [l0, l1] (v :: st) := ab_o_getfield (ab_dc hc31 dX1_left_12) hk31 lk_fl_1_11
theorem q31_15 {x : Int32} : ab_res scr 31 d M 15 [l0, some (.int x)] (st) = ab_res scr 31 d M 16 [l0, some (.int x)] (.int x :: st) := ab_o_iload_n (ab_dc hc31 dX1_left_15) rfl
theorem q31_16 {v0 : Int32} {v1 : Nat} : ab_res scr 31 d M 16 [l0, l1] (.int v0 :: .ref v1 :: st) = (ab_qe v1 v0).bind fun v => ab_res scr 31 d M 17 [l0, l1] (v :: st) := ab_o_aaload (ab_dc hc31 dX1_left_16)
theorem q31_17 {v0 : Nat} : ab_res scr 31 d M 17 [l0, l1] (.ref v0 :: st) = (ab_gF ab_L0 M v0 7 2).bind fun v => ab_res scr 31 d M 20 [l0, l1] (v :: st) := ab_o_getfield (ab_dc hc31 dX1_left_17) hk31 lk_fl_1_184
theorem q31_20 {v0 : Int32} {v1 : Int32} : ab_res scr 31 d M 20 [l0, l1] (.int v0 :: .int v1 :: st) = ab_res scr 31 d M 21 [l0, l1] (.int (v1 - v0) :: st) := ab_xg (ab_dc hc31 dX1_left_20) rfl rfl
theorem q31_21 {v0 : Int32} : ab_res scr 31 d M 21 [l0, l1] ([.int v0]) = some (M, some (.int v0)) := ab_o_ireturn (ab_dc hc31 dX1_left_21) hr31 rfl
end Q31
theorem hc32 : ab_code 32 = cX1_worst := rfl
theorem hn32 : ab_nL 32 = 2 := rfl
theorem hk32 : ab_ky 32 = 1 := rfl
theorem hr32 : ab_ret 32 = some .int := rfl
section Q32
variable {scr : Option (List Int32)} {d : Nat} {M : ab_M} {st : List Value} {l0 l1 : Option Value}
theorem q32_0 {xr : Nat} : ab_res scr 32 d M 0 [some (.ref xr), l1] (st) = ab_res scr 32 d M 1 [some (.ref xr), l1] (.ref xr :: st) := ab_o_aload_n (ab_dc hc32 dX1_worst_0) rfl
theorem q32_1 {v0 : Nat} (hb : (ab_rc ab_L0 v0 = some 1) = True) : ab_res scr 32 3 M 1 [l0, l1] ([.ref v0]) = (ab_ms scr 33 [.ref v0] M).bind fun o => ab_res scr 32 3 o.1 4 [l0, l1] (ab_pr o.2 []) := ab_o_virtual (ab_dc hc32 dX1_worst_1) hk32 lk_ca_1_228 hm33 (Nat.le_of_ble_eq_true rfl) rfl rfl rfl (of_eq_true hb) rfl rfl
theorem q32_4 {v0 : Int32} : ab_res scr 32 d M 4 [l0, l1] (.int v0 :: st) = ab_res scr 32 d M 5 [ab_nl l0, some (.int v0)] (st) := (ab_o_st1 (k := 1) (ab_dc hc32 dX1_worst_4) (Or.inr (Or.inr (Or.inl ⟨1, rfl, rfl, rfl, ⟨_, rfl⟩⟩))) hn32 (by decide)).trans (ab_kl1 [] _ l0 rfl rfl)
theorem q32_5 {x : Int32} : ab_res scr 32 d M 5 [l0, some (.int x)] (st) = ab_res scr 32 d M 6 [l0, some (.int x)] (.int x :: st) := ab_o_iload_n (ab_dc hc32 dX1_worst_5) rfl
theorem q32_6 : ab_res scr 32 d M 6 [l0, l1] (st) = ab_res scr 32 d M 8 [l0, l1] (.int (-4) :: st) := (ab_o_bipush (ab_dc hc32 dX1_worst_6)).trans (by rw [ki_bipush_m4])
theorem q32_8 {v0 : Int32} {v1 : Int32} : ab_res scr 32 d M 8 [l0, l1] (.int v0 :: .int v1 :: st) = if ¬ v1 = v0 then ab_res scr 32 d M 15 [l0, l1] (st) else ab_res scr 32 d M 11 [l0, l1] (st) := ab_o_br2 (off := 7) (ab_dc hc32 dX1_worst_8) (by decide) rfl rfl
theorem q32_11 : ab_res scr 32 d M 11 [l0, l1] (st) = ab_res scr 32 d M 12 [l0, l1] (.int 0 :: st) := (ab_o_iconst (ab_dc hc32 dX1_worst_11)).trans (by rw [ki_iconst_0])
theorem q32_12 : ab_res scr 32 d M 12 [l0, l1] (st) = ab_res scr 32 d M 27 [l0, l1] (st) := ab_o_goto (ab_dc hc32 dX1_worst_12) (by decide)
theorem q32_15 {xr : Nat} : ab_res scr 32 d M 15 [some (.ref xr), l1] (st) = ab_res scr 32 d M 16 [some (.ref xr), l1] (.ref xr :: st) := ab_o_aload_n (ab_dc hc32 dX1_worst_15) rfl
theorem q32_16 {v0 : Nat} : ab_res scr 32 d M 16 [l0, l1] (.ref v0 :: st) = (ab_gF ab_L0 M v0 1 1).bind fun v => ab_res scr 32 d M 19 [l0, l1] (v :: st) := ab_o_getfield (ab_dc hc32 dX1_worst_16) hk32 lk_fl_1_11
theorem q32_19 {x : Int32} : ab_res scr 32 d M 19 [l0, some (.int x)] (st) = ab_res scr 32 d M 20 [l0, some (.int x)] (.int x :: st) := ab_o_iload_n (ab_dc hc32 dX1_worst_19) rfl
theorem q32_20 {v0 : Int32} {v1 : Nat} : ab_res scr 32 d M 20 [l0, l1] (.int v0 :: .ref v1 :: st) = (ab_qe v1 v0).bind fun v => ab_res scr 32 d M 21 [l0, l1] (v :: st) := ab_o_aaload (ab_dc hc32 dX1_worst_20)
theorem q32_21 {v0 : Nat} (hb : (ab_rc ab_L0 v0 = some 7) = True) : ab_res scr 32 3 M 21 [l0, l1] ([.ref v0]) = (ab_ms scr 53 [.ref v0] M).bind fun o => ab_res scr 32 3 o.1 24 [l0, l1] (ab_pr o.2 []) := ab_o_virtual (ab_dc hc32 dX1_worst_21) hk32 lk_ca_1_81 hm53 (Nat.le_of_ble_eq_true rfl) rfl rfl rfl (of_eq_true hb) rfl rfl
theorem q32_24 {v0 : Int32} : ab_res scr 32 d M 24 [l0, l1] ([.int v0]) = ab_res scr 32 d M 27 [l0, l1] (.int (if 0 ≤ v0 then v0 else 0 - v0) :: []) := ab_o_abs (ab_dc hc32 dX1_worst_24) hk32 lk_cn_1_190 lk_ma_1_190 rfl
theorem q32_27 {v0 : Int32} : ab_res scr 32 d M 27 [l0, l1] ([.int v0]) = some (M, some (.int v0)) := ab_o_ireturn (ab_dc hc32 dX1_worst_27) hr32 rfl
end Q32
theorem hc33 : ab_code 33 = cX1_whoIsWorst := rfl
theorem hn33 : ab_nL 33 = 3 := rfl
theorem hk33 : ab_ky 33 = 1 := rfl
theorem hr33 : ab_ret 33 = some .int := rfl
section Q33
variable {scr : Option (List Int32)} {d : Nat} {M : ab_M} {st : List Value} {l0 l1 l2 : Option Value}
theorem q33_0 : ab_res scr 33 d M 0 [l0, l1, l2] (st) = ab_res scr 33 d M 2 [l0, l1, l2] (.int (-4) :: st) := (ab_o_bipush (ab_dc hc33 dX1_whoIsWorst_0)).trans (by rw [ki_bipush_m4])
theorem q33_2 {v0 : Int32} : ab_res scr 33 d M 2 [l0, l1, l2] (.int v0 :: st) = ab_res scr 33 d M 3 [ab_nl l0, some (.int v0), l2] (st) := (ab_o_st1 (k := 1) (ab_dc hc33 dX1_whoIsWorst_2) (Or.inr (Or.inr (Or.inl ⟨1, rfl, rfl, rfl, ⟨_, rfl⟩⟩))) hn33 (by decide)).trans (ab_kl1 [] _ l0 rfl rfl)
theorem q33_3 : ab_res scr 33 d M 3 [l0, l1, l2] (st) = ab_res scr 33 d M 4 [l0, l1, l2] (.int 0 :: st) := (ab_o_iconst (ab_dc hc33 dX1_whoIsWorst_3)).trans (by rw [ki_iconst_0])
theorem q33_4 {v0 : Int32} : ab_res scr 33 d M 4 [l0, l1, l2] (.int v0 :: st) = ab_res scr 33 d M 5 [l0, ab_nl l1, some (.int v0)] (st) := (ab_o_st1 (k := 2) (ab_dc hc33 dX1_whoIsWorst_4) (Or.inr (Or.inr (Or.inl ⟨2, rfl, rfl, rfl, ⟨_, rfl⟩⟩))) hn33 (by decide)).trans (ab_kl1 [l0] _ l1 rfl rfl)
theorem q33_5 {x : Int32} : ab_res scr 33 d M 5 [l0, l1, some (.int x)] (st) = ab_res scr 33 d M 6 [l0, l1, some (.int x)] (.int x :: st) := ab_o_iload_n (ab_dc hc33 dX1_whoIsWorst_5) rfl
theorem q33_6 {xr : Nat} : ab_res scr 33 d M 6 [some (.ref xr), l1, l2] (st) = ab_res scr 33 d M 7 [some (.ref xr), l1, l2] (.ref xr :: st) := ab_o_aload_n (ab_dc hc33 dX1_whoIsWorst_6) rfl
theorem q33_7 {v0 : Nat} : ab_res scr 33 d M 7 [l0, l1, l2] (.ref v0 :: st) = (ab_gF ab_L0 M v0 1 0).bind fun v => ab_res scr 33 d M 10 [l0, l1, l2] (v :: st) := ab_o_getfield (ab_dc hc33 dX1_whoIsWorst_7) hk33 lk_fl_1_58
theorem q33_10 {v0 : Nat} : ab_res scr 33 d M 10 [l0, l1, l2] (.ref v0 :: st) = (ab_gF ab_L0 M v0 4 3).bind fun v => ab_res scr 33 d M 13 [l0, l1, l2] (v :: st) := ab_o_getfield (ab_dc hc33 dX1_whoIsWorst_10) hk33 lk_fl_1_64
theorem q33_13 {v0 : Int32} {v1 : Int32} : ab_res scr 33 d M 13 [l0, l1, l2] (.int v0 :: .int v1 :: st) = if v0 ≤ v1 then ab_res scr 33 d M 57 [l0, l1, l2] (st) else ab_res scr 33 d M 16 [l0, l1, l2] (st) := ab_o_br2 (off := 44) (ab_dc hc33 dX1_whoIsWorst_13) (by decide) rfl rfl
theorem q33_16 {x : Int32} : ab_res scr 33 d M 16 [l0, some (.int x), l2] (st) = ab_res scr 33 d M 17 [l0, some (.int x), l2] (.int x :: st) := ab_o_iload_n (ab_dc hc33 dX1_whoIsWorst_16) rfl
theorem q33_17 : ab_res scr 33 d M 17 [l0, l1, l2] (st) = ab_res scr 33 d M 19 [l0, l1, l2] (.int (-4) :: st) := (ab_o_bipush (ab_dc hc33 dX1_whoIsWorst_17)).trans (by rw [ki_bipush_m4])
theorem q33_19 {v0 : Int32} {v1 : Int32} : ab_res scr 33 d M 19 [l0, l1, l2] (.int v0 :: .int v1 :: st) = if v1 = v0 then ab_res scr 33 d M 49 [l0, l1, l2] (st) else ab_res scr 33 d M 22 [l0, l1, l2] (st) := ab_o_br2 (off := 30) (ab_dc hc33 dX1_whoIsWorst_19) (by decide) rfl rfl
theorem q33_22 {xr : Nat} : ab_res scr 33 d M 22 [some (.ref xr), l1, l2] (st) = ab_res scr 33 d M 23 [some (.ref xr), l1, l2] (.ref xr :: st) := ab_o_aload_n (ab_dc hc33 dX1_whoIsWorst_22) rfl
theorem q33_23 {v0 : Nat} : ab_res scr 33 d M 23 [l0, l1, l2] (.ref v0 :: st) = (ab_gF ab_L0 M v0 1 1).bind fun v => ab_res scr 33 d M 26 [l0, l1, l2] (v :: st) := ab_o_getfield (ab_dc hc33 dX1_whoIsWorst_23) hk33 lk_fl_1_11
theorem q33_26 {x : Int32} : ab_res scr 33 d M 26 [l0, l1, some (.int x)] (st) = ab_res scr 33 d M 27 [l0, l1, some (.int x)] (.int x :: st) := ab_o_iload_n (ab_dc hc33 dX1_whoIsWorst_26) rfl
theorem q33_27 {v0 : Int32} {v1 : Nat} : ab_res scr 33 d M 27 [l0, l1, l2] (.int v0 :: .ref v1 :: st) = (ab_qe v1 v0).bind fun v => ab_res scr 33 d M 28 [l0, l1, l2] (v :: st) := ab_o_aaload (ab_dc hc33 dX1_whoIsWorst_27)
theorem q33_28 {v0 : Nat} (hb : (ab_rc ab_L0 v0 = some 7) = True) : ab_res scr 33 2 M 28 [l0, l1, l2] ([.ref v0]) = (ab_ms scr 53 [.ref v0] M).bind fun o => ab_res scr 33 2 o.1 31 [l0, l1, l2] (ab_pr o.2 []) := ab_o_virtual (ab_dc hc33 dX1_whoIsWorst_28) hk33 lk_ca_1_81 hm53 (Nat.le_of_ble_eq_true rfl) rfl rfl rfl (of_eq_true hb) rfl rfl
theorem q33_31 {v0 : Int32} : ab_res scr 33 d M 31 [l0, l1, l2] ([.int v0]) = ab_res scr 33 d M 34 [l0, l1, l2] (.int (if 0 ≤ v0 then v0 else 0 - v0) :: []) := ab_o_abs (ab_dc hc33 dX1_whoIsWorst_31) hk33 lk_cn_1_190 lk_ma_1_190 rfl
theorem q33_34 {xr : Nat} : ab_res scr 33 d M 34 [some (.ref xr), l1, l2] (st) = ab_res scr 33 d M 35 [some (.ref xr), l1, l2] (.ref xr :: st) := ab_o_aload_n (ab_dc hc33 dX1_whoIsWorst_34) rfl
theorem q33_35 {v0 : Nat} : ab_res scr 33 d M 35 [l0, l1, l2] (.ref v0 :: st) = (ab_gF ab_L0 M v0 1 1).bind fun v => ab_res scr 33 d M 38 [l0, l1, l2] (v :: st) := ab_o_getfield (ab_dc hc33 dX1_whoIsWorst_35) hk33 lk_fl_1_11
theorem q33_38 {x : Int32} : ab_res scr 33 d M 38 [l0, some (.int x), l2] (st) = ab_res scr 33 d M 39 [l0, some (.int x), l2] (.int x :: st) := ab_o_iload_n (ab_dc hc33 dX1_whoIsWorst_38) rfl
theorem q33_39 {v0 : Int32} {v1 : Nat} : ab_res scr 33 d M 39 [l0, l1, l2] (.int v0 :: .ref v1 :: st) = (ab_qe v1 v0).bind fun v => ab_res scr 33 d M 40 [l0, l1, l2] (v :: st) := ab_o_aaload (ab_dc hc33 dX1_whoIsWorst_39)
theorem q33_40 {v0 : Nat} {v1 : Int32} (hb : (ab_rc ab_L0 v0 = some 7) = True) : ab_res scr 33 2 M 40 [l0, l1, l2] ([.ref v0, .int v1]) = (ab_ms scr 53 [.ref v0] M).bind fun o => ab_res scr 33 2 o.1 43 [l0, l1, l2] (ab_pr o.2 [.int v1]) := ab_o_virtual (ab_dc hc33 dX1_whoIsWorst_40) hk33 lk_ca_1_81 hm53 (Nat.le_of_ble_eq_true rfl) rfl rfl rfl (of_eq_true hb) rfl rfl
theorem q33_43 {v0 : Int32} {v1 : Int32} : ab_res scr 33 d M 43 [l0, l1, l2] ([.int v0, .int v1]) = ab_res scr 33 d M 46 [l0, l1, l2] (.int (if 0 ≤ v0 then v0 else 0 - v0) :: [.int v1]) := ab_o_abs (ab_dc hc33 dX1_whoIsWorst_43) hk33 lk_cn_1_190 lk_ma_1_190 rfl
theorem q33_46 {v0 : Int32} {v1 : Int32} : ab_res scr 33 d M 46 [l0, l1, l2] (.int v0 :: .int v1 :: st) = if v1 ≤ v0 then ab_res scr 33 d M 51 [l0, l1, l2] (st) else ab_res scr 33 d M 49 [l0, l1, l2] (st) := ab_o_br2 (off := 5) (ab_dc hc33 dX1_whoIsWorst_46) (by decide) rfl rfl
theorem q33_49 {x : Int32} : ab_res scr 33 d M 49 [l0, l1, some (.int x)] (st) = ab_res scr 33 d M 50 [l0, l1, some (.int x)] (.int x :: st) := ab_o_iload_n (ab_dc hc33 dX1_whoIsWorst_49) rfl
theorem q33_50 {v0 : Int32} : ab_res scr 33 d M 50 [l0, l1, l2] (.int v0 :: st) = ab_res scr 33 d M 51 [ab_nl l0, some (.int v0), l2] (st) := (ab_o_st1 (k := 1) (ab_dc hc33 dX1_whoIsWorst_50) (Or.inr (Or.inr (Or.inl ⟨1, rfl, rfl, rfl, ⟨_, rfl⟩⟩))) hn33 (by decide)).trans (ab_kl1 [] _ l0 rfl rfl)
theorem q33_51 {x : Int32} : ab_res scr 33 d M 51 [l0, l1, some (.int x)] (st) = ab_res scr 33 d M 54 [l0, ab_nl l1, some (.int (x + 1))] (st) := (ab_o_iinc (k := 2) (ab_dc hc33 dX1_whoIsWorst_51) hn33 (by decide) rfl).trans (by rw [ki_iconst_1]; exact ab_kl1 [l0] _ l1 rfl rfl)
theorem q33_54 : ab_res scr 33 d M 54 [l0, l1, l2] (st) = ab_res scr 33 d M 5 [l0, l1, l2] (st) := ab_o_goto (ab_dc hc33 dX1_whoIsWorst_54) (by decide)
theorem q33_57 {x : Int32} : ab_res scr 33 d M 57 [l0, some (.int x), l2] (st) = ab_res scr 33 d M 58 [l0, some (.int x), l2] (.int x :: st) := ab_o_iload_n (ab_dc hc33 dX1_whoIsWorst_57) rfl
theorem q33_58 {v0 : Int32} : ab_res scr 33 d M 58 [l0, l1, l2] ([.int v0]) = some (M, some (.int v0)) := ab_o_ireturn (ab_dc hc33 dX1_whoIsWorst_58) hr33 rfl
end Q33
theorem hc35 : ab_code 35 = cX2_search := rfl
theorem hn35 : ab_nL 35 = 10 := rfl
theorem hk35 : ab_ky 35 = 2 := rfl
theorem hr35 : ab_ret 35 = none := rfl
section Q35
variable {scr : Option (List Int32)} {d : Nat} {M : ab_M} {st : List Value} {l0 l1 l2 l3 l4 l5 l6 l7 l8 l9 : Option Value}
theorem q35_0 {xr : Nat} : ab_res scr 35 d M 0 [some (.ref xr), l1, l2, l3, l4, l5, l6, l7, l8, l9] (st) = ab_res scr 35 d M 1 [some (.ref xr), l1, l2, l3, l4, l5, l6, l7, l8, l9] (.ref xr :: st) := ab_o_aload_n (ab_dc hc35 dX2_search_0) rfl
theorem q35_1 {v0 : Nat} : ab_res scr 35 d M 1 [l0, l1, l2, l3, l4, l5, l6, l7, l8, l9] (.ref v0 :: st) = (ab_gF ab_L0 M v0 2 0).bind fun v => ab_res scr 35 d M 4 [l0, l1, l2, l3, l4, l5, l6, l7, l8, l9] (v :: st) := ab_o_getfield (ab_dc hc35 dX2_search_1) hk35 lk_fl_2_16
theorem q35_4 {v0 : Nat} : ab_res scr 35 d M 4 [l0, l1, l2, l3, l4, l5, l6, l7, l8, l9] (.ref v0 :: st) = (ab_gF ab_L0 M v0 4 0).bind fun v => ab_res scr 35 d M 7 [l0, l1, l2, l3, l4, l5, l6, l7, l8, l9] (v :: st) := ab_o_getfield (ab_dc hc35 dX2_search_4) hk35 lk_fl_2_24
theorem q35_7 {x : Int32} : ab_res scr 35 d M 7 [l0, l1, some (.int x), l3, l4, l5, l6, l7, l8, l9] (st) = ab_res scr 35 d M 8 [l0, l1, some (.int x), l3, l4, l5, l6, l7, l8, l9] (.int x :: st) := ab_o_iload_n (ab_dc hc35 dX2_search_7) rfl
theorem q35_8 {v0 : Int32} {v1 : Nat} : ab_res scr 35 d M 8 [l0, l1, l2, l3, l4, l5, l6, l7, l8, l9] (.int v0 :: .ref v1 :: st) = (ab_qe v1 v0).bind fun v => ab_res scr 35 d M 9 [l0, l1, l2, l3, l4, l5, l6, l7, l8, l9] (v :: st) := ab_o_aaload (ab_dc hc35 dX2_search_8)
theorem q35_9 {x : Int32} : ab_res scr 35 d M 9 [l0, some (.int x), l2, l3, l4, l5, l6, l7, l8, l9] (st) = ab_res scr 35 d M 10 [l0, some (.int x), l2, l3, l4, l5, l6, l7, l8, l9] (.int x :: st) := ab_o_iload_n (ab_dc hc35 dX2_search_9) rfl
theorem q35_10 {v0 : Int32} {v1 : Nat} : ab_res scr 35 d M 10 [l0, l1, l2, l3, l4, l5, l6, l7, l8, l9] (.int v0 :: .ref v1 :: st) = (ab_ald scr ab_L0 M v1 .int v0).bind fun v => ab_res scr 35 d M 11 [l0, l1, l2, l3, l4, l5, l6, l7, l8, l9] (.int v :: st) := ab_o_iaload (ab_dc hc35 dX2_search_10)
theorem q35_11 {v0 : Int32} : ab_res scr 35 d M 11 [l0, l1, l2, l3, l4, l5, l6, l7, l8, l9] (.int v0 :: st) = ab_res scr 35 d M 13 [l0, l1, l2, l3, l4, ab_nl l5, some (.int v0), l7, l8, l9] (st) := (ab_o_st1 (k := 6) (ab_dc hc35 dX2_search_11) (Or.inl ⟨rfl, rfl, ⟨_, rfl⟩⟩) hn35 (by decide)).trans (ab_kl1 [l0, l1, l2, l3, l4] _ l5 rfl rfl)
theorem q35_13 {xr : Nat} : ab_res scr 35 d M 13 [some (.ref xr), l1, l2, l3, l4, l5, l6, l7, l8, l9] (st) = ab_res scr 35 d M 14 [some (.ref xr), l1, l2, l3, l4, l5, l6, l7, l8, l9] (.ref xr :: st) := ab_o_aload_n (ab_dc hc35 dX2_search_13) rfl
theorem q35_14 {v0 : Nat} : ab_res scr 35 d M 14 [l0, l1, l2, l3, l4, l5, l6, l7, l8, l9] (.ref v0 :: st) = (ab_gF ab_L0 M v0 2 1).bind fun v => ab_res scr 35 d M 17 [l0, l1, l2, l3, l4, l5, l6, l7, l8, l9] (v :: st) := ab_o_getfield (ab_dc hc35 dX2_search_14) hk35 lk_fl_2_20
theorem q35_17 {x : Int32} : ab_res scr 35 d M 17 [l0, l1, l2, l3, some (.int x), l5, l6, l7, l8, l9] (st) = ab_res scr 35 d M 19 [l0, l1, l2, l3, some (.int x), l5, l6, l7, l8, l9] (.int x :: st) := ab_o_iload (ab_dc hc35 dX2_search_17) rfl
theorem q35_19 {x : Int32} : ab_res scr 35 d M 19 [l0, l1, l2, l3, l4, some (.int x), l6, l7, l8, l9] (st) = ab_res scr 35 d M 21 [l0, l1, l2, l3, l4, some (.int x), l6, l7, l8, l9] (.int x :: st) := ab_o_iload (ab_dc hc35 dX2_search_19) rfl
theorem q35_21 {v0 : Int32} {v1 : Int32} {v2 : Nat} (hb : (ab_rc ab_L0 v2 = some 1) = True) : ab_res scr 35 7 M 21 [l0, l1, l2, l3, l4, l5, l6, l7, l8, l9] ([.int v0, .int v1, .ref v2]) = (ab_ms scr 3 [.ref v2, .int v1, .int v0] M).bind fun o => ab_res scr 35 7 o.1 24 [l0, l1, l2, l3, l4, l5, l6, l7, l8, l9] (ab_pr o.2 []) := ab_o_virtual (ab_dc hc35 dX2_search_21) hk35 lk_ca_2_30 hm3 (Nat.le_of_ble_eq_true rfl) rfl rfl rfl (of_eq_true hb) rfl rfl
theorem q35_24 {xr : Nat} : ab_res scr 35 d M 24 [some (.ref xr), l1, l2, l3, l4, l5, l6, l7, l8, l9] (st) = ab_res scr 35 d M 25 [some (.ref xr), l1, l2, l3, l4, l5, l6, l7, l8, l9] (.ref xr :: st) := ab_o_aload_n (ab_dc hc35 dX2_search_24) rfl
theorem q35_25 {v0 : Nat} : ab_res scr 35 d M 25 [l0, l1, l2, l3, l4, l5, l6, l7, l8, l9] (.ref v0 :: st) = (ab_gF ab_L0 M v0 2 1).bind fun v => ab_res scr 35 d M 28 [l0, l1, l2, l3, l4, l5, l6, l7, l8, l9] (v :: st) := ab_o_getfield (ab_dc hc35 dX2_search_25) hk35 lk_fl_2_20
theorem q35_28 {v0 : Nat} (hb : (ab_rc ab_L0 v0 = some 1) = True) : ab_res scr 35 7 M 28 [l0, l1, l2, l3, l4, l5, l6, l7, l8, l9] ([.ref v0]) = (ab_ms scr 6 [.ref v0] M).bind fun o => ab_res scr 35 7 o.1 31 [l0, l1, l2, l3, l4, l5, l6, l7, l8, l9] (ab_pr o.2 []) := ab_o_virtual (ab_dc hc35 dX2_search_28) hk35 lk_ca_2_36 hm6 (Nat.le_of_ble_eq_true rfl) rfl rfl rfl (of_eq_true hb) rfl rfl
theorem q35_31 {xr : Nat} : ab_res scr 35 d M 31 [some (.ref xr), l1, l2, l3, l4, l5, l6, l7, l8, l9] (st) = ab_res scr 35 d M 32 [some (.ref xr), l1, l2, l3, l4, l5, l6, l7, l8, l9] (.ref xr :: st) := ab_o_aload_n (ab_dc hc35 dX2_search_31) rfl
theorem q35_32 {v0 : Nat} : ab_res scr 35 d M 32 [l0, l1, l2, l3, l4, l5, l6, l7, l8, l9] (.ref v0 :: st) = (ab_gF ab_L0 M v0 2 1).bind fun v => ab_res scr 35 d M 35 [l0, l1, l2, l3, l4, l5, l6, l7, l8, l9] (v :: st) := ab_o_getfield (ab_dc hc35 dX2_search_32) hk35 lk_fl_2_20
theorem q35_35 {v0 : Nat} : ab_res scr 35 d M 35 [l0, l1, l2, l3, l4, l5, l6, l7, l8, l9] (.ref v0 :: st) = (ab_gF ab_L0 M v0 1 1).bind fun v => ab_res scr 35 d M 38 [l0, l1, l2, l3, l4, l5, l6, l7, l8, l9] (v :: st) := ab_o_getfield (ab_dc hc35 dX2_search_35) hk35 lk_fl_2_39
theorem q35_38 {x : Int32} : ab_res scr 35 d M 38 [l0, some (.int x), l2, l3, l4, l5, l6, l7, l8, l9] (st) = ab_res scr 35 d M 39 [l0, some (.int x), l2, l3, l4, l5, l6, l7, l8, l9] (.int x :: st) := ab_o_iload_n (ab_dc hc35 dX2_search_38) rfl
theorem q35_39 {v0 : Int32} {v1 : Nat} : ab_res scr 35 d M 39 [l0, l1, l2, l3, l4, l5, l6, l7, l8, l9] (.int v0 :: .ref v1 :: st) = (ab_qe v1 v0).bind fun v => ab_res scr 35 d M 40 [l0, l1, l2, l3, l4, l5, l6, l7, l8, l9] (v :: st) := ab_o_aaload (ab_dc hc35 dX2_search_39)
theorem q35_40 {v0 : Nat} (hb : (ab_rc ab_L0 v0 = some 7) = True) : ab_res scr 35 7 M 40 [l0, l1, l2, l3, l4, l5, l6, l7, l8, l9] ([.ref v0]) = (ab_ms scr 53 [.ref v0] M).bind fun o => ab_res scr 35 7 o.1 43 [l0, l1, l2, l3, l4, l5, l6, l7, l8, l9] (ab_pr o.2 []) := ab_o_virtual (ab_dc hc35 dX2_search_40) hk35 lk_ca_2_43 hm53 (Nat.le_of_ble_eq_true rfl) rfl rfl rfl (of_eq_true hb) rfl rfl
theorem q35_43 {v0 : Int32} : ab_res scr 35 d M 43 [l0, l1, l2, l3, l4, l5, l6, l7, l8, l9] (.int v0 :: st) = ab_res scr 35 d M 45 [l0, l1, l2, l3, l4, l5, ab_nl l6, some (.int v0), l8, l9] (st) := (ab_o_st1 (k := 7) (ab_dc hc35 dX2_search_43) (Or.inl ⟨rfl, rfl, ⟨_, rfl⟩⟩) hn35 (by decide)).trans (ab_kl1 [l0, l1, l2, l3, l4, l5] _ l6 rfl rfl)
theorem q35_45 {xr : Nat} : ab_res scr 35 d M 45 [some (.ref xr), l1, l2, l3, l4, l5, l6, l7, l8, l9] (st) = ab_res scr 35 d M 46 [some (.ref xr), l1, l2, l3, l4, l5, l6, l7, l8, l9] (.ref xr :: st) := ab_o_aload_n (ab_dc hc35 dX2_search_45) rfl
theorem q35_46 : ab_res scr 35 d M 46 [l0, l1, l2, l3, l4, l5, l6, l7, l8, l9] (st) = ab_res scr 35 d M 47 [l0, l1, l2, l3, l4, l5, l6, l7, l8, l9] (.int 0 :: st) := (ab_o_iconst (ab_dc hc35 dX2_search_46)).trans (by rw [ki_iconst_0])
theorem q35_47 {v0 : Int32} {v1 : Nat} (hp : (ab_pt v1 2 2 v0 = true) = True) : ab_res scr 35 d M 47 [l0, l1, l2, l3, l4, l5, l6, l7, l8, l9] (.int v0 :: .ref v1 :: st) = ab_res scr 35 d (ab_up M v1 2 v0) 50 [l0, l1, l2, l3, l4, l5, l6, l7, l8, l9] (st) := ab_o_putfield (ab_dc hc35 dX2_search_47) hk35 lk_fl_2_7 (of_eq_true hp)
theorem q35_50 {xr : Nat} : ab_res scr 35 d M 50 [some (.ref xr), l1, l2, l3, l4, l5, l6, l7, l8, l9] (st) = ab_res scr 35 d M 51 [some (.ref xr), l1, l2, l3, l4, l5, l6, l7, l8, l9] (.ref xr :: st) := ab_o_aload_n (ab_dc hc35 dX2_search_50) rfl
theorem q35_51 {x : Int32} : ab_res scr 35 d M 51 [l0, l1, l2, l3, l4, l5, some (.int x), l7, l8, l9] (st) = ab_res scr 35 d M 53 [l0, l1, l2, l3, l4, l5, some (.int x), l7, l8, l9] (.int x :: st) := ab_o_iload (ab_dc hc35 dX2_search_51) rfl
theorem q35_53 {v0 : Int32} {v1 : Nat} (hp : (ab_pt v1 2 3 v0 = true) = True) : ab_res scr 35 d M 53 [l0, l1, l2, l3, l4, l5, l6, l7, l8, l9] (.int v0 :: .ref v1 :: st) = ab_res scr 35 d (ab_up M v1 3 v0) 56 [l0, l1, l2, l3, l4, l5, l6, l7, l8, l9] (st) := ab_o_putfield (ab_dc hc35 dX2_search_53) hk35 lk_fl_2_13 (of_eq_true hp)
theorem q35_56 : ab_res scr 35 d M 56 [l0, l1, l2, l3, l4, l5, l6, l7, l8, l9] (st) = ab_res scr 35 d M 59 [l0, l1, l2, l3, l4, l5, l6, l7, l8, l9] (.ref 2000 :: st) := ab_o_getstatic (ab_dc hc35 dX2_search_56) hk35 lk_st_2_49
theorem q35_59 {x : Int32} : ab_res scr 35 d M 59 [l0, l1, some (.int x), l3, l4, l5, l6, l7, l8, l9] (st) = ab_res scr 35 d M 60 [l0, l1, some (.int x), l3, l4, l5, l6, l7, l8, l9] (.int x :: st) := ab_o_iload_n (ab_dc hc35 dX2_search_59) rfl
theorem q35_60 {v0 : Int32} {v1 : Nat} : ab_res scr 35 d M 60 [l0, l1, l2, l3, l4, l5, l6, l7, l8, l9] (.int v0 :: .ref v1 :: st) = (ab_ald scr ab_L0 M v1 .int v0).bind fun v => ab_res scr 35 d M 61 [l0, l1, l2, l3, l4, l5, l6, l7, l8, l9] (.int v :: st) := ab_o_iaload (ab_dc hc35 dX2_search_60)
theorem q35_61 {v0 : Int32} : ab_res scr 35 d M 61 [l0, l1, l2, l3, l4, l5, l6, l7, l8, l9] (.int v0 :: st) = ab_res scr 35 d M 63 [l0, l1, l2, l3, l4, l5, l6, ab_nl l7, some (.int v0), l9] (st) := (ab_o_st1 (k := 8) (ab_dc hc35 dX2_search_61) (Or.inl ⟨rfl, rfl, ⟨_, rfl⟩⟩) hn35 (by decide)).trans (ab_kl1 [l0, l1, l2, l3, l4, l5, l6] _ l7 rfl rfl)
theorem q35_63 {x : Int32} : ab_res scr 35 d M 63 [l0, l1, l2, l3, l4, l5, l6, l7, some (.int x), l9] (st) = ab_res scr 35 d M 65 [l0, l1, l2, l3, l4, l5, l6, l7, some (.int x), l9] (.int x :: st) := ab_o_iload (ab_dc hc35 dX2_search_63) rfl
theorem q35_65 {x : Int32} : ab_res scr 35 d M 65 [l0, l1, l2, some (.int x), l4, l5, l6, l7, l8, l9] (st) = ab_res scr 35 d M 66 [l0, l1, l2, some (.int x), l4, l5, l6, l7, l8, l9] (.int x :: st) := ab_o_iload_n (ab_dc hc35 dX2_search_65) rfl
theorem q35_66 {v0 : Int32} {v1 : Int32} : ab_res scr 35 d M 66 [l0, l1, l2, l3, l4, l5, l6, l7, l8, l9] (.int v0 :: .int v1 :: st) = if v0 < v1 then ab_res scr 35 d M 144 [l0, l1, l2, l3, l4, l5, l6, l7, l8, l9] (st) else ab_res scr 35 d M 69 [l0, l1, l2, l3, l4, l5, l6, l7, l8, l9] (st) := ab_o_br2 (off := 78) (ab_dc hc35 dX2_search_66) (by decide) rfl rfl
theorem q35_69 {xr : Nat} : ab_res scr 35 d M 69 [some (.ref xr), l1, l2, l3, l4, l5, l6, l7, l8, l9] (st) = ab_res scr 35 d M 70 [some (.ref xr), l1, l2, l3, l4, l5, l6, l7, l8, l9] (.ref xr :: st) := ab_o_aload_n (ab_dc hc35 dX2_search_69) rfl
theorem q35_70 {v0 : Nat} : ab_res scr 35 d M 70 [l0, l1, l2, l3, l4, l5, l6, l7, l8, l9] (.ref v0 :: st) = (ab_gF ab_L0 M v0 2 0).bind fun v => ab_res scr 35 d M 73 [l0, l1, l2, l3, l4, l5, l6, l7, l8, l9] (v :: st) := ab_o_getfield (ab_dc hc35 dX2_search_70) hk35 lk_fl_2_16
theorem q35_73 {v0 : Nat} : ab_res scr 35 d M 73 [l0, l1, l2, l3, l4, l5, l6, l7, l8, l9] (.ref v0 :: st) = (ab_gF ab_L0 M v0 4 0).bind fun v => ab_res scr 35 d M 76 [l0, l1, l2, l3, l4, l5, l6, l7, l8, l9] (v :: st) := ab_o_getfield (ab_dc hc35 dX2_search_73) hk35 lk_fl_2_24
theorem q35_76 {x : Int32} : ab_res scr 35 d M 76 [l0, l1, some (.int x), l3, l4, l5, l6, l7, l8, l9] (st) = ab_res scr 35 d M 77 [l0, l1, some (.int x), l3, l4, l5, l6, l7, l8, l9] (.int x :: st) := ab_o_iload_n (ab_dc hc35 dX2_search_76) rfl
theorem q35_77 {v0 : Int32} {v1 : Nat} : ab_res scr 35 d M 77 [l0, l1, l2, l3, l4, l5, l6, l7, l8, l9] (.int v0 :: .ref v1 :: st) = (ab_qe v1 v0).bind fun v => ab_res scr 35 d M 78 [l0, l1, l2, l3, l4, l5, l6, l7, l8, l9] (v :: st) := ab_o_aaload (ab_dc hc35 dX2_search_77)
theorem q35_78 {x : Int32} : ab_res scr 35 d M 78 [l0, some (.int x), l2, l3, l4, l5, l6, l7, l8, l9] (st) = ab_res scr 35 d M 79 [l0, some (.int x), l2, l3, l4, l5, l6, l7, l8, l9] (.int x :: st) := ab_o_iload_n (ab_dc hc35 dX2_search_78) rfl
theorem q35_79 {x : Int32} : ab_res scr 35 d M 79 [l0, l1, l2, l3, l4, l5, l6, l7, some (.int x), l9] (st) = ab_res scr 35 d M 81 [l0, l1, l2, l3, l4, l5, l6, l7, some (.int x), l9] (.int x :: st) := ab_o_iload (ab_dc hc35 dX2_search_79) rfl
theorem q35_81 {v0 : Int32} {v1 : Int32} {v2 : Nat} : ab_res scr 35 d M 81 [l0, l1, l2, l3, l4, l5, l6, l7, l8, l9] (.int v0 :: .int v1 :: .ref v2 :: st) = if ab_si v2 .int v1 = true then ab_res scr 35 d (ab_up M v2 v1.toNatClampNeg v0) 82 [l0, l1, l2, l3, l4, l5, l6, l7, l8, l9] (st) else none := ab_o_iastore (ab_dc hc35 dX2_search_81)
theorem q35_82 {xr : Nat} : ab_res scr 35 d M 82 [some (.ref xr), l1, l2, l3, l4, l5, l6, l7, l8, l9] (st) = ab_res scr 35 d M 83 [some (.ref xr), l1, l2, l3, l4, l5, l6, l7, l8, l9] (.ref xr :: st) := ab_o_aload_n (ab_dc hc35 dX2_search_82) rfl
theorem q35_83 {v0 : Nat} : ab_res scr 35 d M 83 [l0, l1, l2, l3, l4, l5, l6, l7, l8, l9] (.ref v0 :: st) = (ab_gF ab_L0 M v0 2 1).bind fun v => ab_res scr 35 d M 86 [l0, l1, l2, l3, l4, l5, l6, l7, l8, l9] (v :: st) := ab_o_getfield (ab_dc hc35 dX2_search_83) hk35 lk_fl_2_20
theorem q35_86 {x : Int32} : ab_res scr 35 d M 86 [l0, l1, l2, l3, some (.int x), l5, l6, l7, l8, l9] (st) = ab_res scr 35 d M 88 [l0, l1, l2, l3, some (.int x), l5, l6, l7, l8, l9] (.int x :: st) := ab_o_iload (ab_dc hc35 dX2_search_86) rfl
theorem q35_88 {x : Int32} : ab_res scr 35 d M 88 [l0, l1, l2, l3, l4, some (.int x), l6, l7, l8, l9] (st) = ab_res scr 35 d M 90 [l0, l1, l2, l3, l4, some (.int x), l6, l7, l8, l9] (.int x :: st) := ab_o_iload (ab_dc hc35 dX2_search_88) rfl
theorem q35_90 {v0 : Int32} {v1 : Int32} {v2 : Nat} (hb : (ab_rc ab_L0 v2 = some 1) = True) : ab_res scr 35 7 M 90 [l0, l1, l2, l3, l4, l5, l6, l7, l8, l9] ([.int v0, .int v1, .ref v2]) = (ab_ms scr 3 [.ref v2, .int v1, .int v0] M).bind fun o => ab_res scr 35 7 o.1 93 [l0, l1, l2, l3, l4, l5, l6, l7, l8, l9] (ab_pr o.2 []) := ab_o_virtual (ab_dc hc35 dX2_search_90) hk35 lk_ca_2_30 hm3 (Nat.le_of_ble_eq_true rfl) rfl rfl rfl (of_eq_true hb) rfl rfl
theorem q35_93 {xr : Nat} : ab_res scr 35 d M 93 [some (.ref xr), l1, l2, l3, l4, l5, l6, l7, l8, l9] (st) = ab_res scr 35 d M 94 [some (.ref xr), l1, l2, l3, l4, l5, l6, l7, l8, l9] (.ref xr :: st) := ab_o_aload_n (ab_dc hc35 dX2_search_93) rfl
theorem q35_94 {v0 : Nat} : ab_res scr 35 d M 94 [l0, l1, l2, l3, l4, l5, l6, l7, l8, l9] (.ref v0 :: st) = (ab_gF ab_L0 M v0 2 1).bind fun v => ab_res scr 35 d M 97 [l0, l1, l2, l3, l4, l5, l6, l7, l8, l9] (v :: st) := ab_o_getfield (ab_dc hc35 dX2_search_94) hk35 lk_fl_2_20
theorem q35_97 {v0 : Nat} (hb : (ab_rc ab_L0 v0 = some 1) = True) : ab_res scr 35 7 M 97 [l0, l1, l2, l3, l4, l5, l6, l7, l8, l9] ([.ref v0]) = (ab_ms scr 6 [.ref v0] M).bind fun o => ab_res scr 35 7 o.1 100 [l0, l1, l2, l3, l4, l5, l6, l7, l8, l9] (ab_pr o.2 []) := ab_o_virtual (ab_dc hc35 dX2_search_97) hk35 lk_ca_2_36 hm6 (Nat.le_of_ble_eq_true rfl) rfl rfl rfl (of_eq_true hb) rfl rfl
theorem q35_100 {x : Int32} : ab_res scr 35 d M 100 [l0, l1, l2, l3, l4, l5, l6, some (.int x), l8, l9] (st) = ab_res scr 35 d M 102 [l0, l1, l2, l3, l4, l5, l6, some (.int x), l8, l9] (.int x :: st) := ab_o_iload (ab_dc hc35 dX2_search_100) rfl
theorem q35_102 {xr : Nat} : ab_res scr 35 d M 102 [some (.ref xr), l1, l2, l3, l4, l5, l6, l7, l8, l9] (st) = ab_res scr 35 d M 103 [some (.ref xr), l1, l2, l3, l4, l5, l6, l7, l8, l9] (.ref xr :: st) := ab_o_aload_n (ab_dc hc35 dX2_search_102) rfl
theorem q35_103 {v0 : Nat} : ab_res scr 35 d M 103 [l0, l1, l2, l3, l4, l5, l6, l7, l8, l9] (.ref v0 :: st) = (ab_gF ab_L0 M v0 2 1).bind fun v => ab_res scr 35 d M 106 [l0, l1, l2, l3, l4, l5, l6, l7, l8, l9] (v :: st) := ab_o_getfield (ab_dc hc35 dX2_search_103) hk35 lk_fl_2_20
theorem q35_106 {v0 : Nat} : ab_res scr 35 d M 106 [l0, l1, l2, l3, l4, l5, l6, l7, l8, l9] (.ref v0 :: st) = (ab_gF ab_L0 M v0 1 1).bind fun v => ab_res scr 35 d M 109 [l0, l1, l2, l3, l4, l5, l6, l7, l8, l9] (v :: st) := ab_o_getfield (ab_dc hc35 dX2_search_106) hk35 lk_fl_2_39
theorem q35_109 {x : Int32} : ab_res scr 35 d M 109 [l0, some (.int x), l2, l3, l4, l5, l6, l7, l8, l9] (st) = ab_res scr 35 d M 110 [l0, some (.int x), l2, l3, l4, l5, l6, l7, l8, l9] (.int x :: st) := ab_o_iload_n (ab_dc hc35 dX2_search_109) rfl
theorem q35_110 {v0 : Int32} {v1 : Nat} : ab_res scr 35 d M 110 [l0, l1, l2, l3, l4, l5, l6, l7, l8, l9] (.int v0 :: .ref v1 :: st) = (ab_qe v1 v0).bind fun v => ab_res scr 35 d M 111 [l0, l1, l2, l3, l4, l5, l6, l7, l8, l9] (v :: st) := ab_o_aaload (ab_dc hc35 dX2_search_110)
theorem q35_111 {v0 : Nat} {v1 : Int32} (hb : (ab_rc ab_L0 v0 = some 7) = True) : ab_res scr 35 7 M 111 [l0, l1, l2, l3, l4, l5, l6, l7, l8, l9] ([.ref v0, .int v1]) = (ab_ms scr 53 [.ref v0] M).bind fun o => ab_res scr 35 7 o.1 114 [l0, l1, l2, l3, l4, l5, l6, l7, l8, l9] (ab_pr o.2 [.int v1]) := ab_o_virtual (ab_dc hc35 dX2_search_111) hk35 lk_ca_2_43 hm53 (Nat.le_of_ble_eq_true rfl) rfl rfl rfl (of_eq_true hb) rfl rfl
theorem q35_114 {v0 : Int32} {v1 : Int32} : ab_res scr 35 d M 114 [l0, l1, l2, l3, l4, l5, l6, l7, l8, l9] (.int v0 :: .int v1 :: st) = ab_res scr 35 d M 115 [l0, l1, l2, l3, l4, l5, l6, l7, l8, l9] (.int (v1 - v0) :: st) := ab_xg (ab_dc hc35 dX2_search_114) rfl rfl
theorem q35_115 {v0 : Int32} : ab_res scr 35 d M 115 [l0, l1, l2, l3, l4, l5, l6, l7, l8, l9] (.int v0 :: st) = ab_res scr 35 d M 117 [l0, l1, l2, l3, l4, l5, l6, l7, ab_nl l8, some (.int v0)] (st) := (ab_o_st1 (k := 9) (ab_dc hc35 dX2_search_115) (Or.inl ⟨rfl, rfl, ⟨_, rfl⟩⟩) hn35 (by decide)).trans (ab_kl1 [l0, l1, l2, l3, l4, l5, l6, l7] _ l8 rfl rfl)
theorem q35_117 {x : Int32} : ab_res scr 35 d M 117 [l0, l1, l2, l3, l4, l5, l6, l7, l8, some (.int x)] (st) = ab_res scr 35 d M 119 [l0, l1, l2, l3, l4, l5, l6, l7, l8, some (.int x)] (.int x :: st) := ab_o_iload (ab_dc hc35 dX2_search_117) rfl
theorem q35_119 {xr : Nat} : ab_res scr 35 d M 119 [some (.ref xr), l1, l2, l3, l4, l5, l6, l7, l8, l9] (st) = ab_res scr 35 d M 120 [some (.ref xr), l1, l2, l3, l4, l5, l6, l7, l8, l9] (.ref xr :: st) := ab_o_aload_n (ab_dc hc35 dX2_search_119) rfl
theorem q35_120 {v0 : Nat} : ab_res scr 35 d M 120 [l0, l1, l2, l3, l4, l5, l6, l7, l8, l9] (.ref v0 :: st) = (ab_gF ab_L0 M v0 2 2).bind fun v => ab_res scr 35 d M 123 [l0, l1, l2, l3, l4, l5, l6, l7, l8, l9] (v :: st) := ab_o_getfield (ab_dc hc35 dX2_search_120) hk35 lk_fl_2_7
theorem q35_123 {v0 : Int32} {v1 : Int32} : ab_res scr 35 d M 123 [l0, l1, l2, l3, l4, l5, l6, l7, l8, l9] (.int v0 :: .int v1 :: st) = if v1 ≤ v0 then ab_res scr 35 d M 138 [l0, l1, l2, l3, l4, l5, l6, l7, l8, l9] (st) else ab_res scr 35 d M 126 [l0, l1, l2, l3, l4, l5, l6, l7, l8, l9] (st) := ab_o_br2 (off := 15) (ab_dc hc35 dX2_search_123) (by decide) rfl rfl
theorem q35_126 {xr : Nat} : ab_res scr 35 d M 126 [some (.ref xr), l1, l2, l3, l4, l5, l6, l7, l8, l9] (st) = ab_res scr 35 d M 127 [some (.ref xr), l1, l2, l3, l4, l5, l6, l7, l8, l9] (.ref xr :: st) := ab_o_aload_n (ab_dc hc35 dX2_search_126) rfl
theorem q35_127 {x : Int32} : ab_res scr 35 d M 127 [l0, l1, l2, l3, l4, l5, l6, l7, l8, some (.int x)] (st) = ab_res scr 35 d M 129 [l0, l1, l2, l3, l4, l5, l6, l7, l8, some (.int x)] (.int x :: st) := ab_o_iload (ab_dc hc35 dX2_search_127) rfl
theorem q35_129 {v0 : Int32} {v1 : Nat} (hp : (ab_pt v1 2 2 v0 = true) = True) : ab_res scr 35 d M 129 [l0, l1, l2, l3, l4, l5, l6, l7, l8, l9] (.int v0 :: .ref v1 :: st) = ab_res scr 35 d (ab_up M v1 2 v0) 132 [l0, l1, l2, l3, l4, l5, l6, l7, l8, l9] (st) := ab_o_putfield (ab_dc hc35 dX2_search_129) hk35 lk_fl_2_7 (of_eq_true hp)
theorem q35_132 {xr : Nat} : ab_res scr 35 d M 132 [some (.ref xr), l1, l2, l3, l4, l5, l6, l7, l8, l9] (st) = ab_res scr 35 d M 133 [some (.ref xr), l1, l2, l3, l4, l5, l6, l7, l8, l9] (.ref xr :: st) := ab_o_aload_n (ab_dc hc35 dX2_search_132) rfl
theorem q35_133 {x : Int32} : ab_res scr 35 d M 133 [l0, l1, l2, l3, l4, l5, l6, l7, some (.int x), l9] (st) = ab_res scr 35 d M 135 [l0, l1, l2, l3, l4, l5, l6, l7, some (.int x), l9] (.int x :: st) := ab_o_iload (ab_dc hc35 dX2_search_133) rfl
theorem q35_135 {v0 : Int32} {v1 : Nat} (hp : (ab_pt v1 2 3 v0 = true) = True) : ab_res scr 35 d M 135 [l0, l1, l2, l3, l4, l5, l6, l7, l8, l9] (.int v0 :: .ref v1 :: st) = ab_res scr 35 d (ab_up M v1 3 v0) 138 [l0, l1, l2, l3, l4, l5, l6, l7, l8, l9] (st) := ab_o_putfield (ab_dc hc35 dX2_search_135) hk35 lk_fl_2_13 (of_eq_true hp)
theorem q35_138 {x : Int32} : ab_res scr 35 d M 138 [l0, l1, l2, l3, l4, l5, l6, l7, some (.int x), l9] (st) = ab_res scr 35 d M 141 [l0, l1, l2, l3, l4, l5, l6, ab_nl l7, some (.int (x + 1)), l9] (st) := (ab_o_iinc (k := 8) (ab_dc hc35 dX2_search_138) hn35 (by decide) rfl).trans (by rw [ki_iconst_1]; exact ab_kl1 [l0, l1, l2, l3, l4, l5, l6] _ l7 rfl rfl)
theorem q35_141 : ab_res scr 35 d M 141 [l0, l1, l2, l3, l4, l5, l6, l7, l8, l9] (st) = ab_res scr 35 d M 63 [l0, l1, l2, l3, l4, l5, l6, l7, l8, l9] (st) := ab_o_goto (ab_dc hc35 dX2_search_141) (by decide)
theorem q35_144 {xr : Nat} : ab_res scr 35 d M 144 [some (.ref xr), l1, l2, l3, l4, l5, l6, l7, l8, l9] (st) = ab_res scr 35 d M 145 [some (.ref xr), l1, l2, l3, l4, l5, l6, l7, l8, l9] (.ref xr :: st) := ab_o_aload_n (ab_dc hc35 dX2_search_144) rfl
theorem q35_145 {v0 : Nat} : ab_res scr 35 d M 145 [l0, l1, l2, l3, l4, l5, l6, l7, l8, l9] (.ref v0 :: st) = (ab_gF ab_L0 M v0 2 0).bind fun v => ab_res scr 35 d M 148 [l0, l1, l2, l3, l4, l5, l6, l7, l8, l9] (v :: st) := ab_o_getfield (ab_dc hc35 dX2_search_145) hk35 lk_fl_2_16
theorem q35_148 {v0 : Nat} : ab_res scr 35 d M 148 [l0, l1, l2, l3, l4, l5, l6, l7, l8, l9] (.ref v0 :: st) = (ab_gF ab_L0 M v0 4 0).bind fun v => ab_res scr 35 d M 151 [l0, l1, l2, l3, l4, l5, l6, l7, l8, l9] (v :: st) := ab_o_getfield (ab_dc hc35 dX2_search_148) hk35 lk_fl_2_24
theorem q35_151 {x : Int32} : ab_res scr 35 d M 151 [l0, l1, some (.int x), l3, l4, l5, l6, l7, l8, l9] (st) = ab_res scr 35 d M 152 [l0, l1, some (.int x), l3, l4, l5, l6, l7, l8, l9] (.int x :: st) := ab_o_iload_n (ab_dc hc35 dX2_search_151) rfl
theorem q35_152 {v0 : Int32} {v1 : Nat} : ab_res scr 35 d M 152 [l0, l1, l2, l3, l4, l5, l6, l7, l8, l9] (.int v0 :: .ref v1 :: st) = (ab_qe v1 v0).bind fun v => ab_res scr 35 d M 153 [l0, l1, l2, l3, l4, l5, l6, l7, l8, l9] (v :: st) := ab_o_aaload (ab_dc hc35 dX2_search_152)
theorem q35_153 {x : Int32} : ab_res scr 35 d M 153 [l0, some (.int x), l2, l3, l4, l5, l6, l7, l8, l9] (st) = ab_res scr 35 d M 154 [l0, some (.int x), l2, l3, l4, l5, l6, l7, l8, l9] (.int x :: st) := ab_o_iload_n (ab_dc hc35 dX2_search_153) rfl
theorem q35_154 {x : Int32} : ab_res scr 35 d M 154 [l0, l1, l2, l3, l4, l5, some (.int x), l7, l8, l9] (st) = ab_res scr 35 d M 156 [l0, l1, l2, l3, l4, l5, some (.int x), l7, l8, l9] (.int x :: st) := ab_o_iload (ab_dc hc35 dX2_search_154) rfl
theorem q35_156 {v0 : Int32} {v1 : Int32} {v2 : Nat} : ab_res scr 35 d M 156 [l0, l1, l2, l3, l4, l5, l6, l7, l8, l9] (.int v0 :: .int v1 :: .ref v2 :: st) = if ab_si v2 .int v1 = true then ab_res scr 35 d (ab_up M v2 v1.toNatClampNeg v0) 157 [l0, l1, l2, l3, l4, l5, l6, l7, l8, l9] (st) else none := ab_o_iastore (ab_dc hc35 dX2_search_156)
theorem q35_157 : ab_res scr 35 d M 157 [l0, l1, l2, l3, l4, l5, l6, l7, l8, l9] ([]) = some (M, none) := ab_o_return (ab_dc hc35 dX2_search_157) hr35
end Q35
theorem hc38 : ab_code 38 = cX4_has := rfl
theorem hn38 : ab_nL 38 = 2 := rfl
theorem hk38 : ab_ky 38 = 4 := rfl
theorem hr38 : ab_ret 38 = some .boolean := rfl
section Q38
variable {scr : Option (List Int32)} {d : Nat} {M : ab_M} {st : List Value} {l0 l1 : Option Value}
theorem q38_0 {x : Int32} : ab_res scr 38 d M 0 [l0, some (.int x)] (st) = ab_res scr 38 d M 1 [l0, some (.int x)] (.int x :: st) := ab_o_iload_n (ab_dc hc38 dX4_has_0) rfl
theorem q38_1 {v0 : Int32} : ab_res scr 38 d M 1 [l0, l1] (.int v0 :: st) = if v0 < 0 then ab_res scr 38 d M 22 [l0, l1] (st) else ab_res scr 38 d M 4 [l0, l1] (st) := ab_o_br2 (off := 21) (ab_dc hc38 dX4_has_1) (by decide) rfl rfl
theorem q38_4 {x : Int32} : ab_res scr 38 d M 4 [l0, some (.int x)] (st) = ab_res scr 38 d M 5 [l0, some (.int x)] (.int x :: st) := ab_o_iload_n (ab_dc hc38 dX4_has_4) rfl
theorem q38_5 {xr : Nat} : ab_res scr 38 d M 5 [some (.ref xr), l1] (st) = ab_res scr 38 d M 6 [some (.ref xr), l1] (.ref xr :: st) := ab_o_aload_n (ab_dc hc38 dX4_has_5) rfl
theorem q38_6 {v0 : Nat} : ab_res scr 38 d M 6 [l0, l1] (.ref v0 :: st) = (ab_gF ab_L0 M v0 4 3).bind fun v => ab_res scr 38 d M 9 [l0, l1] (v :: st) := ab_o_getfield (ab_dc hc38 dX4_has_6) hk38 lk_fl_4_23
theorem q38_9 {v0 : Int32} {v1 : Int32} : ab_res scr 38 d M 9 [l0, l1] (.int v0 :: .int v1 :: st) = if v0 ≤ v1 then ab_res scr 38 d M 22 [l0, l1] (st) else ab_res scr 38 d M 12 [l0, l1] (st) := ab_o_br2 (off := 13) (ab_dc hc38 dX4_has_9) (by decide) rfl rfl
theorem q38_12 {x : Int32} : ab_res scr 38 d M 12 [l0, some (.int x)] (st) = ab_res scr 38 d M 13 [l0, some (.int x)] (.int x :: st) := ab_o_iload_n (ab_dc hc38 dX4_has_12) rfl
theorem q38_13 : ab_res scr 38 d M 13 [l0, l1] (st) = ab_res scr 38 d M 15 [l0, l1] (.int 8 :: st) := (ab_o_bipush (ab_dc hc38 dX4_has_13)).trans (by rw [ki_bipush_8])
theorem q38_15 {v0 : Int32} {v1 : Int32} : ab_res scr 38 d M 15 [l0, l1] (.int v0 :: .int v1 :: st) = if v0 ≤ v1 then ab_res scr 38 d M 22 [l0, l1] (st) else ab_res scr 38 d M 18 [l0, l1] (st) := ab_o_br2 (off := 7) (ab_dc hc38 dX4_has_15) (by decide) rfl rfl
theorem q38_18 : ab_res scr 38 d M 18 [l0, l1] (st) = ab_res scr 38 d M 19 [l0, l1] (.int 1 :: st) := (ab_o_iconst (ab_dc hc38 dX4_has_18)).trans (by rw [ki_iconst_1])
theorem q38_19 : ab_res scr 38 d M 19 [l0, l1] (st) = ab_res scr 38 d M 23 [l0, l1] (st) := ab_o_goto (ab_dc hc38 dX4_has_19) (by decide)
theorem q38_22 : ab_res scr 38 d M 22 [l0, l1] (st) = ab_res scr 38 d M 23 [l0, l1] (.int 0 :: st) := (ab_o_iconst (ab_dc hc38 dX4_has_22)).trans (by rw [ki_iconst_0])
theorem q38_23 {v0 : Int32} (hv : (narrow .boolean (.int v0) = .int v0) = True) : ab_res scr 38 d M 23 [l0, l1] ([.int v0]) = some (M, some (.int v0)) := ab_o_ireturn (ab_dc hc38 dX4_has_23) hr38 (of_eq_true hv)
end Q38
theorem hc39 : ab_code 39 = cX4_clear := rfl
theorem hn39 : ab_nL 39 = 1 := rfl
theorem hk39 : ab_ky 39 = 4 := rfl
theorem hr39 : ab_ret 39 = none := rfl
section Q39
variable {scr : Option (List Int32)} {d : Nat} {M : ab_M} {st : List Value} {l0 : Option Value}
theorem q39_0 {xr : Nat} : ab_res scr 39 d M 0 [some (.ref xr)] (st) = ab_res scr 39 d M 1 [some (.ref xr)] (.ref xr :: st) := ab_o_aload_n (ab_dc hc39 dX4_clear_0) rfl
theorem q39_1 : ab_res scr 39 d M 1 [l0] (st) = ab_res scr 39 d M 2 [l0] (.int 0 :: st) := (ab_o_iconst (ab_dc hc39 dX4_clear_1)).trans (by rw [ki_iconst_0])
theorem q39_2 {v0 : Int32} {v1 : Nat} (hp : (ab_pt v1 4 3 v0 = true) = True) : ab_res scr 39 d M 2 [l0] (.int v0 :: .ref v1 :: st) = ab_res scr 39 d (ab_up M v1 3 v0) 5 [l0] (st) := ab_o_putfield (ab_dc hc39 dX4_clear_2) hk39 lk_fl_4_23 (of_eq_true hp)
theorem q39_5 {xr : Nat} : ab_res scr 39 d M 5 [some (.ref xr)] (st) = ab_res scr 39 d M 6 [some (.ref xr)] (.ref xr :: st) := ab_o_aload_n (ab_dc hc39 dX4_clear_5) rfl
theorem q39_6 : ab_res scr 39 d M 6 [l0] (st) = ab_res scr 39 d M 7 [l0] (.int 1 :: st) := (ab_o_iconst (ab_dc hc39 dX4_clear_6)).trans (by rw [ki_iconst_1])
theorem q39_7 {v0 : Int32} {v1 : Nat} (hp : (ab_pt v1 4 4 v0 = true) = True) : ab_res scr 39 d M 7 [l0] (.int v0 :: .ref v1 :: st) = ab_res scr 39 d (ab_up M v1 4 v0) 10 [l0] (st) := ab_o_putfield (ab_dc hc39 dX4_clear_7) hk39 lk_fl_4_27 (of_eq_true hp)
theorem q39_10 {xr : Nat} : ab_res scr 39 d M 10 [some (.ref xr)] (st) = ab_res scr 39 d M 11 [some (.ref xr)] (.ref xr :: st) := ab_o_aload_n (ab_dc hc39 dX4_clear_10) rfl
theorem q39_11 : ab_res scr 39 d M 11 [l0] (st) = ab_res scr 39 d M 12 [l0] (.int 0 :: st) := (ab_o_iconst (ab_dc hc39 dX4_clear_11)).trans (by rw [ki_iconst_0])
theorem q39_12 {v0 : Int32} {v1 : Nat} (hp : (ab_pt v1 4 5 v0 = true) = True) : ab_res scr 39 d M 12 [l0] (.int v0 :: .ref v1 :: st) = ab_res scr 39 d (ab_up M v1 5 v0) 15 [l0] (st) := ab_o_putfield (ab_dc hc39 dX4_clear_12) hk39 lk_fl_4_30 (of_eq_true hp)
theorem q39_15 : ab_res scr 39 d M 15 [l0] ([]) = some (M, none) := ab_o_return (ab_dc hc39 dX4_clear_15) hr39
end Q39
theorem hc40 : ab_code 40 = cX4_add := rfl
theorem hn40 : ab_nL 40 = 3 := rfl
theorem hk40 : ab_ky 40 = 4 := rfl
theorem hr40 : ab_ret 40 = some .int := rfl
section Q40
variable {scr : Option (List Int32)} {d : Nat} {M : ab_M} {st : List Value} {l0 l1 l2 : Option Value}
theorem q40_0 {xr : Nat} : ab_res scr 40 d M 0 [some (.ref xr), l1, l2] (st) = ab_res scr 40 d M 1 [some (.ref xr), l1, l2] (.ref xr :: st) := ab_o_aload_n (ab_dc hc40 dX4_add_0) rfl
theorem q40_1 {v0 : Nat} : ab_res scr 40 d M 1 [l0, l1, l2] (.ref v0 :: st) = (ab_gF ab_L0 M v0 4 3).bind fun v => ab_res scr 40 d M 4 [l0, l1, l2] (v :: st) := ab_o_getfield (ab_dc hc40 dX4_add_1) hk40 lk_fl_4_23
theorem q40_4 {v0 : Int32} : ab_res scr 40 d M 4 [l0, l1, l2] (.int v0 :: st) = ab_res scr 40 d M 5 [ab_nl l0, some (.int v0), l2] (st) := (ab_o_st1 (k := 1) (ab_dc hc40 dX4_add_4) (Or.inr (Or.inr (Or.inl ⟨1, rfl, rfl, rfl, ⟨_, rfl⟩⟩))) hn40 (by decide)).trans (ab_kl1 [] _ l0 rfl rfl)
theorem q40_5 : ab_res scr 40 d M 5 [l0, l1, l2] (st) = ab_res scr 40 d M 6 [l0, l1, l2] (.int 0 :: st) := (ab_o_iconst (ab_dc hc40 dX4_add_5)).trans (by rw [ki_iconst_0])
theorem q40_6 {v0 : Int32} : ab_res scr 40 d M 6 [l0, l1, l2] (.int v0 :: st) = ab_res scr 40 d M 7 [l0, ab_nl l1, some (.int v0)] (st) := (ab_o_st1 (k := 2) (ab_dc hc40 dX4_add_6) (Or.inr (Or.inr (Or.inl ⟨2, rfl, rfl, rfl, ⟨_, rfl⟩⟩))) hn40 (by decide)).trans (ab_kl1 [l0] _ l1 rfl rfl)
theorem q40_7 {x : Int32} : ab_res scr 40 d M 7 [l0, l1, some (.int x)] (st) = ab_res scr 40 d M 8 [l0, l1, some (.int x)] (.int x :: st) := ab_o_iload_n (ab_dc hc40 dX4_add_7) rfl
theorem q40_8 : ab_res scr 40 d M 8 [l0, l1, l2] (st) = ab_res scr 40 d M 10 [l0, l1, l2] (.int 8 :: st) := (ab_o_bipush (ab_dc hc40 dX4_add_8)).trans (by rw [ki_bipush_8])
theorem q40_10 {v0 : Int32} {v1 : Int32} : ab_res scr 40 d M 10 [l0, l1, l2] (.int v0 :: .int v1 :: st) = if v0 ≤ v1 then ab_res scr 40 d M 28 [l0, l1, l2] (st) else ab_res scr 40 d M 13 [l0, l1, l2] (st) := ab_o_br2 (off := 18) (ab_dc hc40 dX4_add_10) (by decide) rfl rfl
theorem q40_13 {xr : Nat} : ab_res scr 40 d M 13 [some (.ref xr), l1, l2] (st) = ab_res scr 40 d M 14 [some (.ref xr), l1, l2] (.ref xr :: st) := ab_o_aload_n (ab_dc hc40 dX4_add_13) rfl
theorem q40_14 {v0 : Nat} : ab_res scr 40 d M 14 [l0, l1, l2] (.ref v0 :: st) = (ab_gF ab_L0 M v0 4 0).bind fun v => ab_res scr 40 d M 17 [l0, l1, l2] (v :: st) := ab_o_getfield (ab_dc hc40 dX4_add_14) hk40 lk_fl_4_11
theorem q40_17 {x : Int32} : ab_res scr 40 d M 17 [l0, l1, some (.int x)] (st) = ab_res scr 40 d M 18 [l0, l1, some (.int x)] (.int x :: st) := ab_o_iload_n (ab_dc hc40 dX4_add_17) rfl
theorem q40_18 {v0 : Int32} {v1 : Nat} : ab_res scr 40 d M 18 [l0, l1, l2] (.int v0 :: .ref v1 :: st) = (ab_qe v1 v0).bind fun v => ab_res scr 40 d M 19 [l0, l1, l2] (v :: st) := ab_o_aaload (ab_dc hc40 dX4_add_18)
theorem q40_19 {x : Int32} : ab_res scr 40 d M 19 [l0, some (.int x), l2] (st) = ab_res scr 40 d M 20 [l0, some (.int x), l2] (.int x :: st) := ab_o_iload_n (ab_dc hc40 dX4_add_19) rfl
theorem q40_20 : ab_res scr 40 d M 20 [l0, l1, l2] (st) = ab_res scr 40 d M 21 [l0, l1, l2] (.int 0 :: st) := (ab_o_iconst (ab_dc hc40 dX4_add_20)).trans (by rw [ki_iconst_0])
theorem q40_21 {v0 : Int32} {v1 : Int32} {v2 : Nat} : ab_res scr 40 d M 21 [l0, l1, l2] (.int v0 :: .int v1 :: .ref v2 :: st) = if ab_si v2 .int v1 = true then ab_res scr 40 d (ab_up M v2 v1.toNatClampNeg v0) 22 [l0, l1, l2] (st) else none := ab_o_iastore (ab_dc hc40 dX4_add_21)
theorem q40_22 {x : Int32} : ab_res scr 40 d M 22 [l0, l1, some (.int x)] (st) = ab_res scr 40 d M 25 [l0, ab_nl l1, some (.int (x + 1))] (st) := (ab_o_iinc (k := 2) (ab_dc hc40 dX4_add_22) hn40 (by decide) rfl).trans (by rw [ki_iconst_1]; exact ab_kl1 [l0] _ l1 rfl rfl)
theorem q40_25 : ab_res scr 40 d M 25 [l0, l1, l2] (st) = ab_res scr 40 d M 7 [l0, l1, l2] (st) := ab_o_goto (ab_dc hc40 dX4_add_25) (by decide)
theorem q40_28 {xr : Nat} : ab_res scr 40 d M 28 [some (.ref xr), l1, l2] (st) = ab_res scr 40 d M 29 [some (.ref xr), l1, l2] (.ref xr :: st) := ab_o_aload_n (ab_dc hc40 dX4_add_28) rfl
theorem q40_29 {v0 : Nat} : ab_res scr 40 d M 29 [l0, l1, l2] (.ref v0 :: st) = (ab_gF ab_L0 M v0 4 0).bind fun v => ab_res scr 40 d M 32 [l0, l1, l2] (v :: st) := ab_o_getfield (ab_dc hc40 dX4_add_29) hk40 lk_fl_4_11
theorem q40_32 : ab_res scr 40 d M 32 [l0, l1, l2] (st) = ab_res scr 40 d M 33 [l0, l1, l2] (.int 4 :: st) := (ab_o_iconst (ab_dc hc40 dX4_add_32)).trans (by rw [ki_iconst_4])
theorem q40_33 {v0 : Int32} {v1 : Nat} : ab_res scr 40 d M 33 [l0, l1, l2] (.int v0 :: .ref v1 :: st) = (ab_qe v1 v0).bind fun v => ab_res scr 40 d M 34 [l0, l1, l2] (v :: st) := ab_o_aaload (ab_dc hc40 dX4_add_33)
theorem q40_34 {x : Int32} : ab_res scr 40 d M 34 [l0, some (.int x), l2] (st) = ab_res scr 40 d M 35 [l0, some (.int x), l2] (.int x :: st) := ab_o_iload_n (ab_dc hc40 dX4_add_34) rfl
theorem q40_35 : ab_res scr 40 d M 35 [l0, l1, l2] (st) = ab_res scr 40 d M 38 [l0, l1, l2] (.ref 2001 :: st) := ab_o_getstatic (ab_dc hc40 dX4_add_35) hk40 lk_st_4_33
theorem q40_38 : ab_res scr 40 d M 38 [l0, l1, l2] (st) = ab_res scr 40 d M 39 [l0, l1, l2] (.int 4 :: st) := (ab_o_iconst (ab_dc hc40 dX4_add_38)).trans (by rw [ki_iconst_4])
theorem q40_39 {v0 : Int32} {v1 : Nat} : ab_res scr 40 d M 39 [l0, l1, l2] (.int v0 :: .ref v1 :: st) = (ab_ald scr ab_L0 M v1 .int v0).bind fun v => ab_res scr 40 d M 40 [l0, l1, l2] (.int v :: st) := ab_o_iaload (ab_dc hc40 dX4_add_39)
theorem q40_40 {v0 : Int32} {v1 : Int32} {v2 : Nat} : ab_res scr 40 d M 40 [l0, l1, l2] (.int v0 :: .int v1 :: .ref v2 :: st) = if ab_si v2 .int v1 = true then ab_res scr 40 d (ab_up M v2 v1.toNatClampNeg v0) 41 [l0, l1, l2] (st) else none := ab_o_iastore (ab_dc hc40 dX4_add_40)
theorem q40_41 {xr : Nat} : ab_res scr 40 d M 41 [some (.ref xr), l1, l2] (st) = ab_res scr 40 d M 42 [some (.ref xr), l1, l2] (.ref xr :: st) := ab_o_aload_n (ab_dc hc40 dX4_add_41) rfl
theorem q40_42 {v0 : Nat} : ab_res scr 40 d M 42 [l0, l1, l2] (.ref v0 :: st) = (ab_gF ab_L0 M v0 4 0).bind fun v => ab_res scr 40 d M 45 [l0, l1, l2] (v :: st) := ab_o_getfield (ab_dc hc40 dX4_add_42) hk40 lk_fl_4_11
theorem q40_45 : ab_res scr 40 d M 45 [l0, l1, l2] (st) = ab_res scr 40 d M 46 [l0, l1, l2] (.int 5 :: st) := (ab_o_iconst (ab_dc hc40 dX4_add_45)).trans (by rw [ki_iconst_5])
theorem q40_46 {v0 : Int32} {v1 : Nat} : ab_res scr 40 d M 46 [l0, l1, l2] (.int v0 :: .ref v1 :: st) = (ab_qe v1 v0).bind fun v => ab_res scr 40 d M 47 [l0, l1, l2] (v :: st) := ab_o_aaload (ab_dc hc40 dX4_add_46)
theorem q40_47 {x : Int32} : ab_res scr 40 d M 47 [l0, some (.int x), l2] (st) = ab_res scr 40 d M 48 [l0, some (.int x), l2] (.int x :: st) := ab_o_iload_n (ab_dc hc40 dX4_add_47) rfl
theorem q40_48 : ab_res scr 40 d M 48 [l0, l1, l2] (st) = ab_res scr 40 d M 49 [l0, l1, l2] (.int 1 :: st) := (ab_o_iconst (ab_dc hc40 dX4_add_48)).trans (by rw [ki_iconst_1])
theorem q40_49 {v0 : Int32} {v1 : Int32} {v2 : Nat} : ab_res scr 40 d M 49 [l0, l1, l2] (.int v0 :: .int v1 :: .ref v2 :: st) = if ab_si v2 .int v1 = true then ab_res scr 40 d (ab_up M v2 v1.toNatClampNeg v0) 50 [l0, l1, l2] (st) else none := ab_o_iastore (ab_dc hc40 dX4_add_49)
theorem q40_50 {xr : Nat} : ab_res scr 40 d M 50 [some (.ref xr), l1, l2] (st) = ab_res scr 40 d M 51 [some (.ref xr), l1, l2] (.ref xr :: st) := ab_o_aload_n (ab_dc hc40 dX4_add_50) rfl
theorem q40_51 {v0 : Nat} : ab_res scr 40 d M 51 [l0, l1, l2] (.ref v0 :: st) = (ab_gF ab_L0 M v0 4 1).bind fun v => ab_res scr 40 d M 54 [l0, l1, l2] (v :: st) := ab_o_getfield (ab_dc hc40 dX4_add_51) hk40 lk_fl_4_16
theorem q40_54 {x : Int32} : ab_res scr 40 d M 54 [l0, some (.int x), l2] (st) = ab_res scr 40 d M 55 [l0, some (.int x), l2] (.int x :: st) := ab_o_iload_n (ab_dc hc40 dX4_add_54) rfl
theorem q40_55 : ab_res scr 40 d M 55 [l0, l1, l2] (st) = ab_res scr 40 d M 56 [l0, l1, l2] (.int 0 :: st) := (ab_o_iconst (ab_dc hc40 dX4_add_55)).trans (by rw [ki_iconst_0])
theorem q40_56 {v0 : Int32} {v1 : Int32} {v2 : Nat} : ab_res scr 40 d M 56 [l0, l1, l2] (.int v0 :: .int v1 :: .ref v2 :: st) = if ab_si v2 .int v1 = true then ab_res scr 40 d (ab_up M v2 v1.toNatClampNeg v0) 57 [l0, l1, l2] (st) else none := ab_o_iastore (ab_dc hc40 dX4_add_56)
theorem q40_57 {xr : Nat} : ab_res scr 40 d M 57 [some (.ref xr), l1, l2] (st) = ab_res scr 40 d M 58 [some (.ref xr), l1, l2] (.ref xr :: st) := ab_o_aload_n (ab_dc hc40 dX4_add_57) rfl
theorem q40_58 {v0 : Nat} : ab_res scr 40 d M 58 [l0, l1, l2] (.ref v0 :: st) = ab_res scr 40 d M 59 [l0, l1, l2] (.ref v0 :: .ref v0 :: st) := ab_xg (ab_dc hc40 dX4_add_58) rfl rfl
theorem q40_59 {v0 : Nat} : ab_res scr 40 d M 59 [l0, l1, l2] (.ref v0 :: st) = (ab_gF ab_L0 M v0 4 3).bind fun v => ab_res scr 40 d M 62 [l0, l1, l2] (v :: st) := ab_o_getfield (ab_dc hc40 dX4_add_59) hk40 lk_fl_4_23
theorem q40_62 : ab_res scr 40 d M 62 [l0, l1, l2] (st) = ab_res scr 40 d M 63 [l0, l1, l2] (.int 1 :: st) := (ab_o_iconst (ab_dc hc40 dX4_add_62)).trans (by rw [ki_iconst_1])
theorem q40_63 {v0 : Int32} {v1 : Int32} : ab_res scr 40 d M 63 [l0, l1, l2] (.int v0 :: .int v1 :: st) = ab_res scr 40 d M 64 [l0, l1, l2] (.int (v1 + v0) :: st) := ab_xg (ab_dc hc40 dX4_add_63) rfl rfl
theorem q40_64 {v0 : Int32} {v1 : Nat} (hp : (ab_pt v1 4 3 v0 = true) = True) : ab_res scr 40 d M 64 [l0, l1, l2] (.int v0 :: .ref v1 :: st) = ab_res scr 40 d (ab_up M v1 3 v0) 67 [l0, l1, l2] (st) := ab_o_putfield (ab_dc hc40 dX4_add_64) hk40 lk_fl_4_23 (of_eq_true hp)
theorem q40_67 {x : Int32} : ab_res scr 40 d M 67 [l0, some (.int x), l2] (st) = ab_res scr 40 d M 68 [l0, some (.int x), l2] (.int x :: st) := ab_o_iload_n (ab_dc hc40 dX4_add_67) rfl
theorem q40_68 {v0 : Int32} : ab_res scr 40 d M 68 [l0, l1, l2] ([.int v0]) = some (M, some (.int v0)) := ab_o_ireturn (ab_dc hc40 dX4_add_68) hr40 rfl
end Q40
theorem hc41 : ab_code 41 = cX4_copy := rfl
theorem hn41 : ab_nL 41 = 3 := rfl
theorem hk41 : ab_ky 41 = 4 := rfl
theorem hr41 : ab_ret 41 = none := rfl
section Q41
variable {scr : Option (List Int32)} {d : Nat} {M : ab_M} {st : List Value} {l0 l1 l2 : Option Value}
theorem q41_0 : ab_res scr 41 d M 0 [l0, l1, l2] (st) = ab_res scr 41 d M 1 [l0, l1, l2] (.int 0 :: st) := (ab_o_iconst (ab_dc hc41 dX4_copy_0)).trans (by rw [ki_iconst_0])
theorem q41_1 {v0 : Int32} : ab_res scr 41 d M 1 [l0, l1, l2] (.int v0 :: st) = ab_res scr 41 d M 2 [l0, ab_nl l1, some (.int v0)] (st) := (ab_o_st1 (k := 2) (ab_dc hc41 dX4_copy_1) (Or.inr (Or.inr (Or.inl ⟨2, rfl, rfl, rfl, ⟨_, rfl⟩⟩))) hn41 (by decide)).trans (ab_kl1 [l0] _ l1 rfl rfl)
theorem q41_2 {x : Int32} : ab_res scr 41 d M 2 [l0, l1, some (.int x)] (st) = ab_res scr 41 d M 3 [l0, l1, some (.int x)] (.int x :: st) := ab_o_iload_n (ab_dc hc41 dX4_copy_2) rfl
theorem q41_3 : ab_res scr 41 d M 3 [l0, l1, l2] (st) = ab_res scr 41 d M 5 [l0, l1, l2] (.int 8 :: st) := (ab_o_bipush (ab_dc hc41 dX4_copy_3)).trans (by rw [ki_bipush_8])
theorem q41_5 {v0 : Int32} {v1 : Int32} : ab_res scr 41 d M 5 [l0, l1, l2] (.int v0 :: .int v1 :: st) = if v0 ≤ v1 then ab_res scr 41 d M 33 [l0, l1, l2] (st) else ab_res scr 41 d M 8 [l0, l1, l2] (st) := ab_o_br2 (off := 28) (ab_dc hc41 dX4_copy_5) (by decide) rfl rfl
theorem q41_8 {xr : Nat} : ab_res scr 41 d M 8 [l0, some (.ref xr), l2] (st) = ab_res scr 41 d M 9 [l0, some (.ref xr), l2] (.ref xr :: st) := ab_o_aload_n (ab_dc hc41 dX4_copy_8) rfl
theorem q41_9 {v0 : Nat} : ab_res scr 41 d M 9 [l0, l1, l2] (.ref v0 :: st) = (ab_gF ab_L0 M v0 4 0).bind fun v => ab_res scr 41 d M 12 [l0, l1, l2] (v :: st) := ab_o_getfield (ab_dc hc41 dX4_copy_9) hk41 lk_fl_4_11
theorem q41_12 {x : Int32} : ab_res scr 41 d M 12 [l0, l1, some (.int x)] (st) = ab_res scr 41 d M 13 [l0, l1, some (.int x)] (.int x :: st) := ab_o_iload_n (ab_dc hc41 dX4_copy_12) rfl
theorem q41_13 {v0 : Int32} {v1 : Nat} : ab_res scr 41 d M 13 [l0, l1, l2] (.int v0 :: .ref v1 :: st) = (ab_qe v1 v0).bind fun v => ab_res scr 41 d M 14 [l0, l1, l2] (v :: st) := ab_o_aaload (ab_dc hc41 dX4_copy_13)
theorem q41_14 : ab_res scr 41 d M 14 [l0, l1, l2] (st) = ab_res scr 41 d M 15 [l0, l1, l2] (.int 0 :: st) := (ab_o_iconst (ab_dc hc41 dX4_copy_14)).trans (by rw [ki_iconst_0])
theorem q41_15 {xr : Nat} : ab_res scr 41 d M 15 [some (.ref xr), l1, l2] (st) = ab_res scr 41 d M 16 [some (.ref xr), l1, l2] (.ref xr :: st) := ab_o_aload_n (ab_dc hc41 dX4_copy_15) rfl
theorem q41_16 {v0 : Nat} : ab_res scr 41 d M 16 [l0, l1, l2] (.ref v0 :: st) = (ab_gF ab_L0 M v0 4 0).bind fun v => ab_res scr 41 d M 19 [l0, l1, l2] (v :: st) := ab_o_getfield (ab_dc hc41 dX4_copy_16) hk41 lk_fl_4_11
theorem q41_19 {x : Int32} : ab_res scr 41 d M 19 [l0, l1, some (.int x)] (st) = ab_res scr 41 d M 20 [l0, l1, some (.int x)] (.int x :: st) := ab_o_iload_n (ab_dc hc41 dX4_copy_19) rfl
theorem q41_20 {v0 : Int32} {v1 : Nat} : ab_res scr 41 d M 20 [l0, l1, l2] (.int v0 :: .ref v1 :: st) = (ab_qe v1 v0).bind fun v => ab_res scr 41 d M 21 [l0, l1, l2] (v :: st) := ab_o_aaload (ab_dc hc41 dX4_copy_20)
theorem q41_21 : ab_res scr 41 d M 21 [l0, l1, l2] (st) = ab_res scr 41 d M 22 [l0, l1, l2] (.int 0 :: st) := (ab_o_iconst (ab_dc hc41 dX4_copy_21)).trans (by rw [ki_iconst_0])
theorem q41_22 : ab_res scr 41 d M 22 [l0, l1, l2] (st) = ab_res scr 41 d M 24 [l0, l1, l2] (.int 8 :: st) := (ab_o_bipush (ab_dc hc41 dX4_copy_22)).trans (by rw [ki_bipush_8])
theorem q41_24 {v0 : Int32} {v1 : Int32} {v2 : Nat} {v3 : Int32} {v4 : Nat} {n0 n1 : Nat} (h0 : ab_ar ab_L0 v4 .int = some n0) (h1 : ab_ar ab_L0 v2 .int = some n1) (hc : 0 ≤ v3.toInt ∧ 0 ≤ v1.toInt ∧ 0 ≤ v0.toInt ∧ v3.toNatClampNeg + v0.toNatClampNeg ≤ n0 ∧ v1.toNatClampNeg + v0.toNatClampNeg ≤ n1) : ab_res scr 41 d M 24 [l0, l1, l2] ([.int v0, .int v1, .ref v2, .int v3, .ref v4]) = ab_res scr 41 d (ab_cpy M v4 v2 v3.toNatClampNeg v1.toNatClampNeg v0.toNatClampNeg) 27 [l0, l1, l2] ([]) := ab_o_copy (ab_dc hc41 dX4_copy_24) hk41 lk_cn_4_36 lk_mn_4_36 lk_ac_4_36 h0 h1 ⟨hc.1, hc.2.1, hc.2.2.1, hc.2.2.2.1, hc.2.2.2.2, rfl⟩
theorem q41_27 {x : Int32} : ab_res scr 41 d M 27 [l0, l1, some (.int x)] (st) = ab_res scr 41 d M 30 [l0, ab_nl l1, some (.int (x + 1))] (st) := (ab_o_iinc (k := 2) (ab_dc hc41 dX4_copy_27) hn41 (by decide) rfl).trans (by rw [ki_iconst_1]; exact ab_kl1 [l0] _ l1 rfl rfl)
theorem q41_30 : ab_res scr 41 d M 30 [l0, l1, l2] (st) = ab_res scr 41 d M 2 [l0, l1, l2] (st) := ab_o_goto (ab_dc hc41 dX4_copy_30) (by decide)
theorem q41_33 {xr : Nat} : ab_res scr 41 d M 33 [l0, some (.ref xr), l2] (st) = ab_res scr 41 d M 34 [l0, some (.ref xr), l2] (.ref xr :: st) := ab_o_aload_n (ab_dc hc41 dX4_copy_33) rfl
theorem q41_34 {v0 : Nat} : ab_res scr 41 d M 34 [l0, l1, l2] (.ref v0 :: st) = (ab_gF ab_L0 M v0 4 1).bind fun v => ab_res scr 41 d M 37 [l0, l1, l2] (v :: st) := ab_o_getfield (ab_dc hc41 dX4_copy_34) hk41 lk_fl_4_16
theorem q41_37 : ab_res scr 41 d M 37 [l0, l1, l2] (st) = ab_res scr 41 d M 38 [l0, l1, l2] (.int 0 :: st) := (ab_o_iconst (ab_dc hc41 dX4_copy_37)).trans (by rw [ki_iconst_0])
theorem q41_38 {xr : Nat} : ab_res scr 41 d M 38 [some (.ref xr), l1, l2] (st) = ab_res scr 41 d M 39 [some (.ref xr), l1, l2] (.ref xr :: st) := ab_o_aload_n (ab_dc hc41 dX4_copy_38) rfl
theorem q41_39 {v0 : Nat} : ab_res scr 41 d M 39 [l0, l1, l2] (.ref v0 :: st) = (ab_gF ab_L0 M v0 4 1).bind fun v => ab_res scr 41 d M 42 [l0, l1, l2] (v :: st) := ab_o_getfield (ab_dc hc41 dX4_copy_39) hk41 lk_fl_4_16
theorem q41_42 : ab_res scr 41 d M 42 [l0, l1, l2] (st) = ab_res scr 41 d M 43 [l0, l1, l2] (.int 0 :: st) := (ab_o_iconst (ab_dc hc41 dX4_copy_42)).trans (by rw [ki_iconst_0])
theorem q41_43 : ab_res scr 41 d M 43 [l0, l1, l2] (st) = ab_res scr 41 d M 45 [l0, l1, l2] (.int 8 :: st) := (ab_o_bipush (ab_dc hc41 dX4_copy_43)).trans (by rw [ki_bipush_8])
theorem q41_45 {v0 : Int32} {v1 : Int32} {v2 : Nat} {v3 : Int32} {v4 : Nat} {n0 n1 : Nat} (h0 : ab_ar ab_L0 v4 .int = some n0) (h1 : ab_ar ab_L0 v2 .int = some n1) (hc : 0 ≤ v3.toInt ∧ 0 ≤ v1.toInt ∧ 0 ≤ v0.toInt ∧ v3.toNatClampNeg + v0.toNatClampNeg ≤ n0 ∧ v1.toNatClampNeg + v0.toNatClampNeg ≤ n1) : ab_res scr 41 d M 45 [l0, l1, l2] ([.int v0, .int v1, .ref v2, .int v3, .ref v4]) = ab_res scr 41 d (ab_cpy M v4 v2 v3.toNatClampNeg v1.toNatClampNeg v0.toNatClampNeg) 48 [l0, l1, l2] ([]) := ab_o_copy (ab_dc hc41 dX4_copy_45) hk41 lk_cn_4_36 lk_mn_4_36 lk_ac_4_36 h0 h1 ⟨hc.1, hc.2.1, hc.2.2.1, hc.2.2.2.1, hc.2.2.2.2, rfl⟩
theorem q41_48 {xr : Nat} : ab_res scr 41 d M 48 [l0, some (.ref xr), l2] (st) = ab_res scr 41 d M 49 [l0, some (.ref xr), l2] (.ref xr :: st) := ab_o_aload_n (ab_dc hc41 dX4_copy_48) rfl
theorem q41_49 {v0 : Nat} : ab_res scr 41 d M 49 [l0, l1, l2] (.ref v0 :: st) = (ab_gF ab_L0 M v0 4 2).bind fun v => ab_res scr 41 d M 52 [l0, l1, l2] (v :: st) := ab_o_getfield (ab_dc hc41 dX4_copy_49) hk41 lk_fl_4_20
theorem q41_52 : ab_res scr 41 d M 52 [l0, l1, l2] (st) = ab_res scr 41 d M 53 [l0, l1, l2] (.int 0 :: st) := (ab_o_iconst (ab_dc hc41 dX4_copy_52)).trans (by rw [ki_iconst_0])
theorem q41_53 {xr : Nat} : ab_res scr 41 d M 53 [some (.ref xr), l1, l2] (st) = ab_res scr 41 d M 54 [some (.ref xr), l1, l2] (.ref xr :: st) := ab_o_aload_n (ab_dc hc41 dX4_copy_53) rfl
theorem q41_54 {v0 : Nat} : ab_res scr 41 d M 54 [l0, l1, l2] (.ref v0 :: st) = (ab_gF ab_L0 M v0 4 2).bind fun v => ab_res scr 41 d M 57 [l0, l1, l2] (v :: st) := ab_o_getfield (ab_dc hc41 dX4_copy_54) hk41 lk_fl_4_20
theorem q41_57 : ab_res scr 41 d M 57 [l0, l1, l2] (st) = ab_res scr 41 d M 58 [l0, l1, l2] (.int 0 :: st) := (ab_o_iconst (ab_dc hc41 dX4_copy_57)).trans (by rw [ki_iconst_0])
theorem q41_58 : ab_res scr 41 d M 58 [l0, l1, l2] (st) = ab_res scr 41 d M 60 [l0, l1, l2] (.int 12 :: st) := (ab_o_bipush (ab_dc hc41 dX4_copy_58)).trans (by rw [ki_bipush_12])
theorem q41_60 {v0 : Int32} {v1 : Int32} {v2 : Nat} {v3 : Int32} {v4 : Nat} {n0 n1 : Nat} (h0 : ab_ar ab_L0 v4 .int = some n0) (h1 : ab_ar ab_L0 v2 .int = some n1) (hc : 0 ≤ v3.toInt ∧ 0 ≤ v1.toInt ∧ 0 ≤ v0.toInt ∧ v3.toNatClampNeg + v0.toNatClampNeg ≤ n0 ∧ v1.toNatClampNeg + v0.toNatClampNeg ≤ n1) : ab_res scr 41 d M 60 [l0, l1, l2] ([.int v0, .int v1, .ref v2, .int v3, .ref v4]) = ab_res scr 41 d (ab_cpy M v4 v2 v3.toNatClampNeg v1.toNatClampNeg v0.toNatClampNeg) 63 [l0, l1, l2] ([]) := ab_o_copy (ab_dc hc41 dX4_copy_60) hk41 lk_cn_4_36 lk_mn_4_36 lk_ac_4_36 h0 h1 ⟨hc.1, hc.2.1, hc.2.2.1, hc.2.2.2.1, hc.2.2.2.2, rfl⟩
theorem q41_63 {xr : Nat} : ab_res scr 41 d M 63 [some (.ref xr), l1, l2] (st) = ab_res scr 41 d M 64 [some (.ref xr), l1, l2] (.ref xr :: st) := ab_o_aload_n (ab_dc hc41 dX4_copy_63) rfl
theorem q41_64 {xr : Nat} : ab_res scr 41 d M 64 [l0, some (.ref xr), l2] (st) = ab_res scr 41 d M 65 [l0, some (.ref xr), l2] (.ref xr :: st) := ab_o_aload_n (ab_dc hc41 dX4_copy_64) rfl
theorem q41_65 {v0 : Nat} : ab_res scr 41 d M 65 [l0, l1, l2] (.ref v0 :: st) = (ab_gF ab_L0 M v0 4 3).bind fun v => ab_res scr 41 d M 68 [l0, l1, l2] (v :: st) := ab_o_getfield (ab_dc hc41 dX4_copy_65) hk41 lk_fl_4_23
theorem q41_68 {v0 : Int32} {v1 : Nat} (hp : (ab_pt v1 4 3 v0 = true) = True) : ab_res scr 41 d M 68 [l0, l1, l2] (.int v0 :: .ref v1 :: st) = ab_res scr 41 d (ab_up M v1 3 v0) 71 [l0, l1, l2] (st) := ab_o_putfield (ab_dc hc41 dX4_copy_68) hk41 lk_fl_4_23 (of_eq_true hp)
theorem q41_71 {xr : Nat} : ab_res scr 41 d M 71 [some (.ref xr), l1, l2] (st) = ab_res scr 41 d M 72 [some (.ref xr), l1, l2] (.ref xr :: st) := ab_o_aload_n (ab_dc hc41 dX4_copy_71) rfl
theorem q41_72 {xr : Nat} : ab_res scr 41 d M 72 [l0, some (.ref xr), l2] (st) = ab_res scr 41 d M 73 [l0, some (.ref xr), l2] (.ref xr :: st) := ab_o_aload_n (ab_dc hc41 dX4_copy_72) rfl
theorem q41_73 {v0 : Nat} : ab_res scr 41 d M 73 [l0, l1, l2] (.ref v0 :: st) = (ab_gF ab_L0 M v0 4 4).bind fun v => ab_res scr 41 d M 76 [l0, l1, l2] (v :: st) := ab_o_getfield (ab_dc hc41 dX4_copy_73) hk41 lk_fl_4_27
theorem q41_76 {v0 : Int32} {v1 : Nat} (hp : (ab_pt v1 4 4 v0 = true) = True) : ab_res scr 41 d M 76 [l0, l1, l2] (.int v0 :: .ref v1 :: st) = ab_res scr 41 d (ab_up M v1 4 v0) 79 [l0, l1, l2] (st) := ab_o_putfield (ab_dc hc41 dX4_copy_76) hk41 lk_fl_4_27 (of_eq_true hp)
theorem q41_79 {xr : Nat} : ab_res scr 41 d M 79 [some (.ref xr), l1, l2] (st) = ab_res scr 41 d M 80 [some (.ref xr), l1, l2] (.ref xr :: st) := ab_o_aload_n (ab_dc hc41 dX4_copy_79) rfl
theorem q41_80 {xr : Nat} : ab_res scr 41 d M 80 [l0, some (.ref xr), l2] (st) = ab_res scr 41 d M 81 [l0, some (.ref xr), l2] (.ref xr :: st) := ab_o_aload_n (ab_dc hc41 dX4_copy_80) rfl
theorem q41_81 {v0 : Nat} : ab_res scr 41 d M 81 [l0, l1, l2] (.ref v0 :: st) = (ab_gF ab_L0 M v0 4 5).bind fun v => ab_res scr 41 d M 84 [l0, l1, l2] (v :: st) := ab_o_getfield (ab_dc hc41 dX4_copy_81) hk41 lk_fl_4_30
theorem q41_84 {v0 : Int32} {v1 : Nat} (hp : (ab_pt v1 4 5 v0 = true) = True) : ab_res scr 41 d M 84 [l0, l1, l2] (.int v0 :: .ref v1 :: st) = ab_res scr 41 d (ab_up M v1 5 v0) 87 [l0, l1, l2] (st) := ab_o_putfield (ab_dc hc41 dX4_copy_84) hk41 lk_fl_4_30 (of_eq_true hp)
theorem q41_87 : ab_res scr 41 d M 87 [l0, l1, l2] ([]) = some (M, none) := ab_o_return (ab_dc hc41 dX4_copy_87) hr41
end Q41
theorem hc42 : ab_code 42 = cX4_mayBecome := rfl
theorem hn42 : ab_nL 42 = 4 := rfl
theorem hk42 : ab_ky 42 = 4 := rfl
theorem hr42 : ab_ret 42 = some .boolean := rfl
section Q42
variable {scr : Option (List Int32)} {d : Nat} {M : ab_M} {st : List Value} {l0 l1 l2 l3 : Option Value}
theorem q42_0 {x : Int32} : ab_res scr 42 d M 0 [l0, l1, l2, some (.int x)] (st) = ab_res scr 42 d M 1 [l0, l1, l2, some (.int x)] (.int x :: st) := ab_o_iload_n (ab_dc hc42 dX4_mayBecome_0) rfl
theorem q42_1 : ab_res scr 42 d M 1 [l0, l1, l2, l3] (st) = ab_res scr 42 d M 4 [l0, l1, l2, l3] (.ref 2000 :: st) := ab_o_getstatic (ab_dc hc42 dX4_mayBecome_1) hk42 lk_st_4_42
theorem q42_4 {x : Int32} : ab_res scr 42 d M 4 [l0, l1, some (.int x), l3] (st) = ab_res scr 42 d M 5 [l0, l1, some (.int x), l3] (.int x :: st) := ab_o_iload_n (ab_dc hc42 dX4_mayBecome_4) rfl
theorem q42_5 {v0 : Int32} {v1 : Nat} : ab_res scr 42 d M 5 [l0, l1, l2, l3] (.int v0 :: .ref v1 :: st) = (ab_ald scr ab_L0 M v1 .int v0).bind fun v => ab_res scr 42 d M 6 [l0, l1, l2, l3] (.int v :: st) := ab_o_iaload (ab_dc hc42 dX4_mayBecome_5)
theorem q42_6 {v0 : Int32} {v1 : Int32} : ab_res scr 42 d M 6 [l0, l1, l2, l3] (.int v0 :: .int v1 :: st) = if v1 < v0 then ab_res scr 42 d M 18 [l0, l1, l2, l3] (st) else ab_res scr 42 d M 9 [l0, l1, l2, l3] (st) := ab_o_br2 (off := 12) (ab_dc hc42 dX4_mayBecome_6) (by decide) rfl rfl
theorem q42_9 {x : Int32} : ab_res scr 42 d M 9 [l0, l1, l2, some (.int x)] (st) = ab_res scr 42 d M 10 [l0, l1, l2, some (.int x)] (.int x :: st) := ab_o_iload_n (ab_dc hc42 dX4_mayBecome_9) rfl
theorem q42_10 : ab_res scr 42 d M 10 [l0, l1, l2, l3] (st) = ab_res scr 42 d M 13 [l0, l1, l2, l3] (.ref 2001 :: st) := ab_o_getstatic (ab_dc hc42 dX4_mayBecome_10) hk42 lk_st_4_33
theorem q42_13 {x : Int32} : ab_res scr 42 d M 13 [l0, l1, some (.int x), l3] (st) = ab_res scr 42 d M 14 [l0, l1, some (.int x), l3] (.int x :: st) := ab_o_iload_n (ab_dc hc42 dX4_mayBecome_13) rfl
theorem q42_14 {v0 : Int32} {v1 : Nat} : ab_res scr 42 d M 14 [l0, l1, l2, l3] (.int v0 :: .ref v1 :: st) = (ab_ald scr ab_L0 M v1 .int v0).bind fun v => ab_res scr 42 d M 15 [l0, l1, l2, l3] (.int v :: st) := ab_o_iaload (ab_dc hc42 dX4_mayBecome_14)
theorem q42_15 {v0 : Int32} {v1 : Int32} : ab_res scr 42 d M 15 [l0, l1, l2, l3] (.int v0 :: .int v1 :: st) = if v1 ≤ v0 then ab_res scr 42 d M 20 [l0, l1, l2, l3] (st) else ab_res scr 42 d M 18 [l0, l1, l2, l3] (st) := ab_o_br2 (off := 5) (ab_dc hc42 dX4_mayBecome_15) (by decide) rfl rfl
theorem q42_18 : ab_res scr 42 d M 18 [l0, l1, l2, l3] (st) = ab_res scr 42 d M 19 [l0, l1, l2, l3] (.int 0 :: st) := (ab_o_iconst (ab_dc hc42 dX4_mayBecome_18)).trans (by rw [ki_iconst_0])
theorem q42_19 {v0 : Int32} (hv : (narrow .boolean (.int v0) = .int v0) = True) : ab_res scr 42 d M 19 [l0, l1, l2, l3] ([.int v0]) = some (M, some (.int v0)) := ab_o_ireturn (ab_dc hc42 dX4_mayBecome_19) hr42 (of_eq_true hv)
theorem q42_20 {x : Int32} : ab_res scr 42 d M 20 [l0, l1, some (.int x), l3] (st) = ab_res scr 42 d M 21 [l0, l1, some (.int x), l3] (.int x :: st) := ab_o_iload_n (ab_dc hc42 dX4_mayBecome_20) rfl
theorem q42_21 {v0 : Int32} : ab_res scr 42 d M 21 [l0, l1, l2, l3] (.int v0 :: st) = if ¬ v0 = 0 then ab_res scr 42 d M 42 [l0, l1, l2, l3] (st) else ab_res scr 42 d M 24 [l0, l1, l2, l3] (st) := ab_o_br2 (off := 21) (ab_dc hc42 dX4_mayBecome_21) (by decide) rfl rfl
theorem q42_24 {x : Int32} : ab_res scr 42 d M 24 [l0, l1, l2, some (.int x)] (st) = ab_res scr 42 d M 25 [l0, l1, l2, some (.int x)] (.int x :: st) := ab_o_iload_n (ab_dc hc42 dX4_mayBecome_24) rfl
theorem q42_25 {xr : Nat} : ab_res scr 42 d M 25 [some (.ref xr), l1, l2, l3] (st) = ab_res scr 42 d M 26 [some (.ref xr), l1, l2, l3] (.ref xr :: st) := ab_o_aload_n (ab_dc hc42 dX4_mayBecome_25) rfl
theorem q42_26 {v0 : Nat} : ab_res scr 42 d M 26 [l0, l1, l2, l3] (.ref v0 :: st) = (ab_gF ab_L0 M v0 4 0).bind fun v => ab_res scr 42 d M 29 [l0, l1, l2, l3] (v :: st) := ab_o_getfield (ab_dc hc42 dX4_mayBecome_26) hk42 lk_fl_4_11
theorem q42_29 : ab_res scr 42 d M 29 [l0, l1, l2, l3] (st) = ab_res scr 42 d M 30 [l0, l1, l2, l3] (.int 1 :: st) := (ab_o_iconst (ab_dc hc42 dX4_mayBecome_29)).trans (by rw [ki_iconst_1])
theorem q42_30 {v0 : Int32} {v1 : Nat} : ab_res scr 42 d M 30 [l0, l1, l2, l3] (.int v0 :: .ref v1 :: st) = (ab_qe v1 v0).bind fun v => ab_res scr 42 d M 31 [l0, l1, l2, l3] (v :: st) := ab_o_aaload (ab_dc hc42 dX4_mayBecome_30)
theorem q42_31 {x : Int32} : ab_res scr 42 d M 31 [l0, some (.int x), l2, l3] (st) = ab_res scr 42 d M 32 [l0, some (.int x), l2, l3] (.int x :: st) := ab_o_iload_n (ab_dc hc42 dX4_mayBecome_31) rfl
theorem q42_32 {v0 : Int32} {v1 : Nat} : ab_res scr 42 d M 32 [l0, l1, l2, l3] (.int v0 :: .ref v1 :: st) = (ab_ald scr ab_L0 M v1 .int v0).bind fun v => ab_res scr 42 d M 33 [l0, l1, l2, l3] (.int v :: st) := ab_o_iaload (ab_dc hc42 dX4_mayBecome_32)
theorem q42_33 {v0 : Int32} {v1 : Int32} : ab_res scr 42 d M 33 [l0, l1, l2, l3] (.int v0 :: .int v1 :: st) = if v0 ≤ v1 then ab_res scr 42 d M 40 [l0, l1, l2, l3] (st) else ab_res scr 42 d M 36 [l0, l1, l2, l3] (st) := ab_o_br2 (off := 7) (ab_dc hc42 dX4_mayBecome_33) (by decide) rfl rfl
theorem q42_36 : ab_res scr 42 d M 36 [l0, l1, l2, l3] (st) = ab_res scr 42 d M 37 [l0, l1, l2, l3] (.int 1 :: st) := (ab_o_iconst (ab_dc hc42 dX4_mayBecome_36)).trans (by rw [ki_iconst_1])
theorem q42_37 : ab_res scr 42 d M 37 [l0, l1, l2, l3] (st) = ab_res scr 42 d M 41 [l0, l1, l2, l3] (st) := ab_o_goto (ab_dc hc42 dX4_mayBecome_37) (by decide)
theorem q42_40 : ab_res scr 42 d M 40 [l0, l1, l2, l3] (st) = ab_res scr 42 d M 41 [l0, l1, l2, l3] (.int 0 :: st) := (ab_o_iconst (ab_dc hc42 dX4_mayBecome_40)).trans (by rw [ki_iconst_0])
theorem q42_41 {v0 : Int32} (hv : (narrow .boolean (.int v0) = .int v0) = True) : ab_res scr 42 d M 41 [l0, l1, l2, l3] ([.int v0]) = some (M, some (.int v0)) := ab_o_ireturn (ab_dc hc42 dX4_mayBecome_41) hr42 (of_eq_true hv)
theorem q42_42 {x : Int32} : ab_res scr 42 d M 42 [l0, l1, some (.int x), l3] (st) = ab_res scr 42 d M 43 [l0, l1, some (.int x), l3] (.int x :: st) := ab_o_iload_n (ab_dc hc42 dX4_mayBecome_42) rfl
theorem q42_43 : ab_res scr 42 d M 43 [l0, l1, l2, l3] (st) = ab_res scr 42 d M 44 [l0, l1, l2, l3] (.int 1 :: st) := (ab_o_iconst (ab_dc hc42 dX4_mayBecome_43)).trans (by rw [ki_iconst_1])
theorem q42_44 {v0 : Int32} {v1 : Int32} : ab_res scr 42 d M 44 [l0, l1, l2, l3] (.int v0 :: .int v1 :: st) = if ¬ v1 = v0 then ab_res scr 42 d M 59 [l0, l1, l2, l3] (st) else ab_res scr 42 d M 47 [l0, l1, l2, l3] (st) := ab_o_br2 (off := 15) (ab_dc hc42 dX4_mayBecome_44) (by decide) rfl rfl
theorem q42_47 {x : Int32} : ab_res scr 42 d M 47 [l0, l1, l2, some (.int x)] (st) = ab_res scr 42 d M 48 [l0, l1, l2, some (.int x)] (.int x :: st) := ab_o_iload_n (ab_dc hc42 dX4_mayBecome_47) rfl
theorem q42_48 {xr : Nat} : ab_res scr 42 d M 48 [some (.ref xr), l1, l2, l3] (st) = ab_res scr 42 d M 49 [some (.ref xr), l1, l2, l3] (.ref xr :: st) := ab_o_aload_n (ab_dc hc42 dX4_mayBecome_48) rfl
theorem q42_49 {v0 : Nat} : ab_res scr 42 d M 49 [l0, l1, l2, l3] (.ref v0 :: st) = (ab_gF ab_L0 M v0 4 0).bind fun v => ab_res scr 42 d M 52 [l0, l1, l2, l3] (v :: st) := ab_o_getfield (ab_dc hc42 dX4_mayBecome_49) hk42 lk_fl_4_11
theorem q42_52 : ab_res scr 42 d M 52 [l0, l1, l2, l3] (st) = ab_res scr 42 d M 53 [l0, l1, l2, l3] (.int 0 :: st) := (ab_o_iconst (ab_dc hc42 dX4_mayBecome_52)).trans (by rw [ki_iconst_0])
theorem q42_53 {v0 : Int32} {v1 : Nat} : ab_res scr 42 d M 53 [l0, l1, l2, l3] (.int v0 :: .ref v1 :: st) = (ab_qe v1 v0).bind fun v => ab_res scr 42 d M 54 [l0, l1, l2, l3] (v :: st) := ab_o_aaload (ab_dc hc42 dX4_mayBecome_53)
theorem q42_54 {x : Int32} : ab_res scr 42 d M 54 [l0, some (.int x), l2, l3] (st) = ab_res scr 42 d M 55 [l0, some (.int x), l2, l3] (.int x :: st) := ab_o_iload_n (ab_dc hc42 dX4_mayBecome_54) rfl
theorem q42_55 {v0 : Int32} {v1 : Nat} : ab_res scr 42 d M 55 [l0, l1, l2, l3] (.int v0 :: .ref v1 :: st) = (ab_ald scr ab_L0 M v1 .int v0).bind fun v => ab_res scr 42 d M 56 [l0, l1, l2, l3] (.int v :: st) := ab_o_iaload (ab_dc hc42 dX4_mayBecome_55)
theorem q42_56 {v0 : Int32} {v1 : Int32} : ab_res scr 42 d M 56 [l0, l1, l2, l3] (.int v0 :: .int v1 :: st) = if v1 ≤ v0 then ab_res scr 42 d M 63 [l0, l1, l2, l3] (st) else ab_res scr 42 d M 59 [l0, l1, l2, l3] (st) := ab_o_br2 (off := 7) (ab_dc hc42 dX4_mayBecome_56) (by decide) rfl rfl
theorem q42_59 : ab_res scr 42 d M 59 [l0, l1, l2, l3] (st) = ab_res scr 42 d M 60 [l0, l1, l2, l3] (.int 1 :: st) := (ab_o_iconst (ab_dc hc42 dX4_mayBecome_59)).trans (by rw [ki_iconst_1])
theorem q42_60 : ab_res scr 42 d M 60 [l0, l1, l2, l3] (st) = ab_res scr 42 d M 64 [l0, l1, l2, l3] (st) := ab_o_goto (ab_dc hc42 dX4_mayBecome_60) (by decide)
theorem q42_63 : ab_res scr 42 d M 63 [l0, l1, l2, l3] (st) = ab_res scr 42 d M 64 [l0, l1, l2, l3] (.int 0 :: st) := (ab_o_iconst (ab_dc hc42 dX4_mayBecome_63)).trans (by rw [ki_iconst_0])
theorem q42_64 {v0 : Int32} (hv : (narrow .boolean (.int v0) = .int v0) = True) : ab_res scr 42 d M 64 [l0, l1, l2, l3] ([.int v0]) = some (M, some (.int v0)) := ab_o_ireturn (ab_dc hc42 dX4_mayBecome_64) hr42 (of_eq_true hv)
end Q42
theorem hc43 : ab_code 43 = cX4_tell := rfl
theorem hn43 : ab_nL 43 = 2 := rfl
theorem hk43 : ab_ky 43 = 4 := rfl
theorem hr43 : ab_ret 43 = none := rfl
section Q43
variable {scr : Option (List Int32)} {d : Nat} {M : ab_M} {st : List Value} {l0 l1 : Option Value}
theorem q43_0 {xr : Nat} : ab_res scr 43 d M 0 [some (.ref xr), l1] (st) = ab_res scr 43 d M 1 [some (.ref xr), l1] (.ref xr :: st) := ab_o_aload_n (ab_dc hc43 dX4_tell_0) rfl
theorem q43_1 {v0 : Nat} : ab_res scr 43 d M 1 [l0, l1] (.ref v0 :: st) = (ab_gF ab_L0 M v0 4 5).bind fun v => ab_res scr 43 d M 4 [l0, l1] (v :: st) := ab_o_getfield (ab_dc hc43 dX4_tell_1) hk43 lk_fl_4_30
theorem q43_4 : ab_res scr 43 d M 4 [l0, l1] (st) = ab_res scr 43 d M 6 [l0, l1] (.int 12 :: st) := (ab_o_bipush (ab_dc hc43 dX4_tell_4)).trans (by rw [ki_bipush_12])
theorem q43_6 {v0 : Int32} {v1 : Int32} : ab_res scr 43 d M 6 [l0, l1] (.int v0 :: .int v1 :: st) = if v0 ≤ v1 then ab_res scr 43 d M 29 [l0, l1] (st) else ab_res scr 43 d M 9 [l0, l1] (st) := ab_o_br2 (off := 23) (ab_dc hc43 dX4_tell_6) (by decide) rfl rfl
theorem q43_9 {xr : Nat} : ab_res scr 43 d M 9 [some (.ref xr), l1] (st) = ab_res scr 43 d M 10 [some (.ref xr), l1] (.ref xr :: st) := ab_o_aload_n (ab_dc hc43 dX4_tell_9) rfl
theorem q43_10 {v0 : Nat} : ab_res scr 43 d M 10 [l0, l1] (.ref v0 :: st) = (ab_gF ab_L0 M v0 4 2).bind fun v => ab_res scr 43 d M 13 [l0, l1] (v :: st) := ab_o_getfield (ab_dc hc43 dX4_tell_10) hk43 lk_fl_4_20
theorem q43_13 {xr : Nat} : ab_res scr 43 d M 13 [some (.ref xr), l1] (st) = ab_res scr 43 d M 14 [some (.ref xr), l1] (.ref xr :: st) := ab_o_aload_n (ab_dc hc43 dX4_tell_13) rfl
theorem q43_14 {v0 : Nat} : ab_res scr 43 d M 14 [l0, l1] (.ref v0 :: st) = (ab_gF ab_L0 M v0 4 5).bind fun v => ab_res scr 43 d M 17 [l0, l1] (v :: st) := ab_o_getfield (ab_dc hc43 dX4_tell_14) hk43 lk_fl_4_30
theorem q43_17 {x : Int32} : ab_res scr 43 d M 17 [l0, some (.int x)] (st) = ab_res scr 43 d M 18 [l0, some (.int x)] (.int x :: st) := ab_o_iload_n (ab_dc hc43 dX4_tell_17) rfl
theorem q43_18 {v0 : Int32} {v1 : Int32} {v2 : Nat} : ab_res scr 43 d M 18 [l0, l1] (.int v0 :: .int v1 :: .ref v2 :: st) = if ab_si v2 .int v1 = true then ab_res scr 43 d (ab_up M v2 v1.toNatClampNeg v0) 19 [l0, l1] (st) else none := ab_o_iastore (ab_dc hc43 dX4_tell_18)
theorem q43_19 {xr : Nat} : ab_res scr 43 d M 19 [some (.ref xr), l1] (st) = ab_res scr 43 d M 20 [some (.ref xr), l1] (.ref xr :: st) := ab_o_aload_n (ab_dc hc43 dX4_tell_19) rfl
theorem q43_20 {v0 : Nat} : ab_res scr 43 d M 20 [l0, l1] (.ref v0 :: st) = ab_res scr 43 d M 21 [l0, l1] (.ref v0 :: .ref v0 :: st) := ab_xg (ab_dc hc43 dX4_tell_20) rfl rfl
theorem q43_21 {v0 : Nat} : ab_res scr 43 d M 21 [l0, l1] (.ref v0 :: st) = (ab_gF ab_L0 M v0 4 5).bind fun v => ab_res scr 43 d M 24 [l0, l1] (v :: st) := ab_o_getfield (ab_dc hc43 dX4_tell_21) hk43 lk_fl_4_30
theorem q43_24 : ab_res scr 43 d M 24 [l0, l1] (st) = ab_res scr 43 d M 25 [l0, l1] (.int 1 :: st) := (ab_o_iconst (ab_dc hc43 dX4_tell_24)).trans (by rw [ki_iconst_1])
theorem q43_25 {v0 : Int32} {v1 : Int32} : ab_res scr 43 d M 25 [l0, l1] (.int v0 :: .int v1 :: st) = ab_res scr 43 d M 26 [l0, l1] (.int (v1 + v0) :: st) := ab_xg (ab_dc hc43 dX4_tell_25) rfl rfl
theorem q43_26 {v0 : Int32} {v1 : Nat} (hp : (ab_pt v1 4 5 v0 = true) = True) : ab_res scr 43 d M 26 [l0, l1] (.int v0 :: .ref v1 :: st) = ab_res scr 43 d (ab_up M v1 5 v0) 29 [l0, l1] (st) := ab_o_putfield (ab_dc hc43 dX4_tell_26) hk43 lk_fl_4_30 (of_eq_true hp)
theorem q43_29 : ab_res scr 43 d M 29 [l0, l1] ([]) = some (M, none) := ab_o_return (ab_dc hc43 dX4_tell_29) hr43
end Q43
theorem hc44 : ab_code 44 = cX4_sum := rfl
theorem hn44 : ab_nL 44 = 4 := rfl
theorem hk44 : ab_ky 44 = 4 := rfl
theorem hr44 : ab_ret 44 = some .int := rfl
section Q44
variable {scr : Option (List Int32)} {d : Nat} {M : ab_M} {st : List Value} {l0 l1 l2 l3 : Option Value}
theorem q44_0 : ab_res scr 44 d M 0 [l0, l1, l2, l3] (st) = ab_res scr 44 d M 1 [l0, l1, l2, l3] (.int 0 :: st) := (ab_o_iconst (ab_dc hc44 dX4_sum_0)).trans (by rw [ki_iconst_0])
theorem q44_1 {v0 : Int32} : ab_res scr 44 d M 1 [l0, l1, l2, l3] (.int v0 :: st) = ab_res scr 44 d M 2 [l0, ab_nl l1, some (.int v0), l3] (st) := (ab_o_st1 (k := 2) (ab_dc hc44 dX4_sum_1) (Or.inr (Or.inr (Or.inl ⟨2, rfl, rfl, rfl, ⟨_, rfl⟩⟩))) hn44 (by decide)).trans (ab_kl1 [l0] _ l1 rfl rfl)
theorem q44_2 : ab_res scr 44 d M 2 [l0, l1, l2, l3] (st) = ab_res scr 44 d M 3 [l0, l1, l2, l3] (.int 0 :: st) := (ab_o_iconst (ab_dc hc44 dX4_sum_2)).trans (by rw [ki_iconst_0])
theorem q44_3 {v0 : Int32} : ab_res scr 44 d M 3 [l0, l1, l2, l3] (.int v0 :: st) = ab_res scr 44 d M 4 [l0, l1, ab_nl l2, some (.int v0)] (st) := (ab_o_st1 (k := 3) (ab_dc hc44 dX4_sum_3) (Or.inr (Or.inr (Or.inl ⟨3, rfl, rfl, rfl, ⟨_, rfl⟩⟩))) hn44 (by decide)).trans (ab_kl1 [l0, l1] _ l2 rfl rfl)
theorem q44_4 {x : Int32} : ab_res scr 44 d M 4 [l0, l1, l2, some (.int x)] (st) = ab_res scr 44 d M 5 [l0, l1, l2, some (.int x)] (.int x :: st) := ab_o_iload_n (ab_dc hc44 dX4_sum_4) rfl
theorem q44_5 {xr : Nat} : ab_res scr 44 d M 5 [some (.ref xr), l1, l2, l3] (st) = ab_res scr 44 d M 6 [some (.ref xr), l1, l2, l3] (.ref xr :: st) := ab_o_aload_n (ab_dc hc44 dX4_sum_5) rfl
theorem q44_6 {v0 : Nat} : ab_res scr 44 d M 6 [l0, l1, l2, l3] (.ref v0 :: st) = (ab_gF ab_L0 M v0 4 3).bind fun v => ab_res scr 44 d M 9 [l0, l1, l2, l3] (v :: st) := ab_o_getfield (ab_dc hc44 dX4_sum_6) hk44 lk_fl_4_23
theorem q44_9 {v0 : Int32} {v1 : Int32} : ab_res scr 44 d M 9 [l0, l1, l2, l3] (.int v0 :: .int v1 :: st) = if v0 ≤ v1 then ab_res scr 44 d M 29 [l0, l1, l2, l3] (st) else ab_res scr 44 d M 12 [l0, l1, l2, l3] (st) := ab_o_br2 (off := 20) (ab_dc hc44 dX4_sum_9) (by decide) rfl rfl
theorem q44_12 {x : Int32} : ab_res scr 44 d M 12 [l0, l1, some (.int x), l3] (st) = ab_res scr 44 d M 13 [l0, l1, some (.int x), l3] (.int x :: st) := ab_o_iload_n (ab_dc hc44 dX4_sum_12) rfl
theorem q44_13 {xr : Nat} : ab_res scr 44 d M 13 [some (.ref xr), l1, l2, l3] (st) = ab_res scr 44 d M 14 [some (.ref xr), l1, l2, l3] (.ref xr :: st) := ab_o_aload_n (ab_dc hc44 dX4_sum_13) rfl
theorem q44_14 {v0 : Nat} : ab_res scr 44 d M 14 [l0, l1, l2, l3] (.ref v0 :: st) = (ab_gF ab_L0 M v0 4 0).bind fun v => ab_res scr 44 d M 17 [l0, l1, l2, l3] (v :: st) := ab_o_getfield (ab_dc hc44 dX4_sum_14) hk44 lk_fl_4_11
theorem q44_17 {x : Int32} : ab_res scr 44 d M 17 [l0, some (.int x), l2, l3] (st) = ab_res scr 44 d M 18 [l0, some (.int x), l2, l3] (.int x :: st) := ab_o_iload_n (ab_dc hc44 dX4_sum_17) rfl
theorem q44_18 {v0 : Int32} {v1 : Nat} : ab_res scr 44 d M 18 [l0, l1, l2, l3] (.int v0 :: .ref v1 :: st) = (ab_qe v1 v0).bind fun v => ab_res scr 44 d M 19 [l0, l1, l2, l3] (v :: st) := ab_o_aaload (ab_dc hc44 dX4_sum_18)
theorem q44_19 {x : Int32} : ab_res scr 44 d M 19 [l0, l1, l2, some (.int x)] (st) = ab_res scr 44 d M 20 [l0, l1, l2, some (.int x)] (.int x :: st) := ab_o_iload_n (ab_dc hc44 dX4_sum_19) rfl
theorem q44_20 {v0 : Int32} {v1 : Nat} : ab_res scr 44 d M 20 [l0, l1, l2, l3] (.int v0 :: .ref v1 :: st) = (ab_ald scr ab_L0 M v1 .int v0).bind fun v => ab_res scr 44 d M 21 [l0, l1, l2, l3] (.int v :: st) := ab_o_iaload (ab_dc hc44 dX4_sum_20)
theorem q44_21 {v0 : Int32} {v1 : Int32} : ab_res scr 44 d M 21 [l0, l1, l2, l3] (.int v0 :: .int v1 :: st) = ab_res scr 44 d M 22 [l0, l1, l2, l3] (.int (v1 + v0) :: st) := ab_xg (ab_dc hc44 dX4_sum_21) rfl rfl
theorem q44_22 {v0 : Int32} : ab_res scr 44 d M 22 [l0, l1, l2, l3] (.int v0 :: st) = ab_res scr 44 d M 23 [l0, ab_nl l1, some (.int v0), l3] (st) := (ab_o_st1 (k := 2) (ab_dc hc44 dX4_sum_22) (Or.inr (Or.inr (Or.inl ⟨2, rfl, rfl, rfl, ⟨_, rfl⟩⟩))) hn44 (by decide)).trans (ab_kl1 [l0] _ l1 rfl rfl)
theorem q44_23 {x : Int32} : ab_res scr 44 d M 23 [l0, l1, l2, some (.int x)] (st) = ab_res scr 44 d M 26 [l0, l1, ab_nl l2, some (.int (x + 1))] (st) := (ab_o_iinc (k := 3) (ab_dc hc44 dX4_sum_23) hn44 (by decide) rfl).trans (by rw [ki_iconst_1]; exact ab_kl1 [l0, l1] _ l2 rfl rfl)
theorem q44_26 : ab_res scr 44 d M 26 [l0, l1, l2, l3] (st) = ab_res scr 44 d M 4 [l0, l1, l2, l3] (st) := ab_o_goto (ab_dc hc44 dX4_sum_26) (by decide)
theorem q44_29 {x : Int32} : ab_res scr 44 d M 29 [l0, l1, some (.int x), l3] (st) = ab_res scr 44 d M 30 [l0, l1, some (.int x), l3] (.int x :: st) := ab_o_iload_n (ab_dc hc44 dX4_sum_29) rfl
theorem q44_30 {v0 : Int32} : ab_res scr 44 d M 30 [l0, l1, l2, l3] ([.int v0]) = some (M, some (.int v0)) := ab_o_ireturn (ab_dc hc44 dX4_sum_30) hr44 rfl
end Q44
theorem hc45 : ab_code 45 = cX4_notPoor := rfl
theorem hn45 : ab_nL 45 = 4 := rfl
theorem hk45 : ab_ky 45 = 4 := rfl
theorem hr45 : ab_ret 45 = some .int := rfl
section Q45
variable {scr : Option (List Int32)} {d : Nat} {M : ab_M} {st : List Value} {l0 l1 l2 l3 : Option Value}
theorem q45_0 {x : Int32} : ab_res scr 45 d M 0 [l0, some (.int x), l2, l3] (st) = ab_res scr 45 d M 1 [l0, some (.int x), l2, l3] (.int x :: st) := ab_o_iload_n (ab_dc hc45 dX4_notPoor_0) rfl
theorem q45_1 {v0 : Int32} : ab_res scr 45 d M 1 [l0, l1, l2, l3] (.int v0 :: st) = ab_res scr 45 d M 2 [l0, ab_nl l1, some (.int v0), l3] (st) := (ab_o_st1 (k := 2) (ab_dc hc45 dX4_notPoor_1) (Or.inr (Or.inr (Or.inl ⟨2, rfl, rfl, rfl, ⟨_, rfl⟩⟩))) hn45 (by decide)).trans (ab_kl1 [l0] _ l1 rfl rfl)
theorem q45_2 : ab_res scr 45 d M 2 [l0, l1, l2, l3] (st) = ab_res scr 45 d M 3 [l0, l1, l2, l3] (.int 0 :: st) := (ab_o_iconst (ab_dc hc45 dX4_notPoor_2)).trans (by rw [ki_iconst_0])
theorem q45_3 {v0 : Int32} : ab_res scr 45 d M 3 [l0, l1, l2, l3] (.int v0 :: st) = ab_res scr 45 d M 4 [l0, l1, ab_nl l2, some (.int v0)] (st) := (ab_o_st1 (k := 3) (ab_dc hc45 dX4_notPoor_3) (Or.inr (Or.inr (Or.inl ⟨3, rfl, rfl, rfl, ⟨_, rfl⟩⟩))) hn45 (by decide)).trans (ab_kl1 [l0, l1] _ l2 rfl rfl)
theorem q45_4 {x : Int32} : ab_res scr 45 d M 4 [l0, l1, l2, some (.int x)] (st) = ab_res scr 45 d M 5 [l0, l1, l2, some (.int x)] (.int x :: st) := ab_o_iload_n (ab_dc hc45 dX4_notPoor_4) rfl
theorem q45_5 {xr : Nat} : ab_res scr 45 d M 5 [some (.ref xr), l1, l2, l3] (st) = ab_res scr 45 d M 6 [some (.ref xr), l1, l2, l3] (.ref xr :: st) := ab_o_aload_n (ab_dc hc45 dX4_notPoor_5) rfl
theorem q45_6 {v0 : Nat} : ab_res scr 45 d M 6 [l0, l1, l2, l3] (.ref v0 :: st) = (ab_gF ab_L0 M v0 4 3).bind fun v => ab_res scr 45 d M 9 [l0, l1, l2, l3] (v :: st) := ab_o_getfield (ab_dc hc45 dX4_notPoor_6) hk45 lk_fl_4_23
theorem q45_9 {v0 : Int32} {v1 : Int32} : ab_res scr 45 d M 9 [l0, l1, l2, l3] (.int v0 :: .int v1 :: st) = if v0 ≤ v1 then ab_res scr 45 d M 38 [l0, l1, l2, l3] (st) else ab_res scr 45 d M 12 [l0, l1, l2, l3] (st) := ab_o_br2 (off := 29) (ab_dc hc45 dX4_notPoor_9) (by decide) rfl rfl
theorem q45_12 {xr : Nat} : ab_res scr 45 d M 12 [some (.ref xr), l1, l2, l3] (st) = ab_res scr 45 d M 13 [some (.ref xr), l1, l2, l3] (.ref xr :: st) := ab_o_aload_n (ab_dc hc45 dX4_notPoor_12) rfl
theorem q45_13 {v0 : Nat} : ab_res scr 45 d M 13 [l0, l1, l2, l3] (.ref v0 :: st) = (ab_gF ab_L0 M v0 4 0).bind fun v => ab_res scr 45 d M 16 [l0, l1, l2, l3] (v :: st) := ab_o_getfield (ab_dc hc45 dX4_notPoor_13) hk45 lk_fl_4_11
theorem q45_16 : ab_res scr 45 d M 16 [l0, l1, l2, l3] (st) = ab_res scr 45 d M 18 [l0, l1, l2, l3] (.int 6 :: st) := (ab_o_bipush (ab_dc hc45 dX4_notPoor_16)).trans (by rw [ki_bipush_6])
theorem q45_18 {v0 : Int32} {v1 : Nat} : ab_res scr 45 d M 18 [l0, l1, l2, l3] (.int v0 :: .ref v1 :: st) = (ab_qe v1 v0).bind fun v => ab_res scr 45 d M 19 [l0, l1, l2, l3] (v :: st) := ab_o_aaload (ab_dc hc45 dX4_notPoor_18)
theorem q45_19 {x : Int32} : ab_res scr 45 d M 19 [l0, l1, l2, some (.int x)] (st) = ab_res scr 45 d M 20 [l0, l1, l2, some (.int x)] (.int x :: st) := ab_o_iload_n (ab_dc hc45 dX4_notPoor_19) rfl
theorem q45_20 {v0 : Int32} {v1 : Nat} : ab_res scr 45 d M 20 [l0, l1, l2, l3] (.int v0 :: .ref v1 :: st) = (ab_ald scr ab_L0 M v1 .int v0).bind fun v => ab_res scr 45 d M 21 [l0, l1, l2, l3] (.int v :: st) := ab_o_iaload (ab_dc hc45 dX4_notPoor_20)
theorem q45_21 {v0 : Int32} : ab_res scr 45 d M 21 [l0, l1, l2, l3] (.int v0 :: st) = if v0 = 0 then ab_res scr 45 d M 32 [l0, l1, l2, l3] (st) else ab_res scr 45 d M 24 [l0, l1, l2, l3] (st) := ab_o_br2 (off := 11) (ab_dc hc45 dX4_notPoor_21) (by decide) rfl rfl
theorem q45_24 {x : Int32} : ab_res scr 45 d M 24 [l0, l1, some (.int x), l3] (st) = ab_res scr 45 d M 25 [l0, l1, some (.int x), l3] (.int x :: st) := ab_o_iload_n (ab_dc hc45 dX4_notPoor_24) rfl
theorem q45_25 : ab_res scr 45 d M 25 [l0, l1, l2, l3] (st) = ab_res scr 45 d M 26 [l0, l1, l2, l3] (.int 1 :: st) := (ab_o_iconst (ab_dc hc45 dX4_notPoor_25)).trans (by rw [ki_iconst_1])
theorem q45_26 {x : Int32} : ab_res scr 45 d M 26 [l0, l1, l2, some (.int x)] (st) = ab_res scr 45 d M 27 [l0, l1, l2, some (.int x)] (.int x :: st) := ab_o_iload_n (ab_dc hc45 dX4_notPoor_26) rfl
theorem q45_27 {v0 : Int32} {v1 : Int32} : ab_res scr 45 d M 27 [l0, l1, l2, l3] (.int v0 :: .int v1 :: st) = ab_res scr 45 d M 28 [l0, l1, l2, l3] (.int (v1 <<< (v0 &&& 31)) :: st) := ab_xg (ab_dc hc45 dX4_notPoor_27) rfl rfl
theorem q45_28 : ab_res scr 45 d M 28 [l0, l1, l2, l3] (st) = ab_res scr 45 d M 29 [l0, l1, l2, l3] (.int (-1) :: st) := (ab_o_iconst (ab_dc hc45 dX4_notPoor_28)).trans (by rw [ki_iconst_m1])
theorem q45_29 {v0 : Int32} {v1 : Int32} : ab_res scr 45 d M 29 [l0, l1, l2, l3] (.int v0 :: .int v1 :: st) = ab_res scr 45 d M 30 [l0, l1, l2, l3] (.int (v1 ^^^ v0) :: st) := ab_xg (ab_dc hc45 dX4_notPoor_29) rfl rfl
theorem q45_30 {v0 : Int32} {v1 : Int32} : ab_res scr 45 d M 30 [l0, l1, l2, l3] (.int v0 :: .int v1 :: st) = ab_res scr 45 d M 31 [l0, l1, l2, l3] (.int (v1 &&& v0) :: st) := ab_xg (ab_dc hc45 dX4_notPoor_30) rfl rfl
theorem q45_31 {v0 : Int32} : ab_res scr 45 d M 31 [l0, l1, l2, l3] (.int v0 :: st) = ab_res scr 45 d M 32 [l0, ab_nl l1, some (.int v0), l3] (st) := (ab_o_st1 (k := 2) (ab_dc hc45 dX4_notPoor_31) (Or.inr (Or.inr (Or.inl ⟨2, rfl, rfl, rfl, ⟨_, rfl⟩⟩))) hn45 (by decide)).trans (ab_kl1 [l0] _ l1 rfl rfl)
theorem q45_32 {x : Int32} : ab_res scr 45 d M 32 [l0, l1, l2, some (.int x)] (st) = ab_res scr 45 d M 35 [l0, l1, ab_nl l2, some (.int (x + 1))] (st) := (ab_o_iinc (k := 3) (ab_dc hc45 dX4_notPoor_32) hn45 (by decide) rfl).trans (by rw [ki_iconst_1]; exact ab_kl1 [l0, l1] _ l2 rfl rfl)
theorem q45_35 : ab_res scr 45 d M 35 [l0, l1, l2, l3] (st) = ab_res scr 45 d M 4 [l0, l1, l2, l3] (st) := ab_o_goto (ab_dc hc45 dX4_notPoor_35) (by decide)
theorem q45_38 {x : Int32} : ab_res scr 45 d M 38 [l0, l1, some (.int x), l3] (st) = ab_res scr 45 d M 39 [l0, l1, some (.int x), l3] (.int x :: st) := ab_o_iload_n (ab_dc hc45 dX4_notPoor_38) rfl
theorem q45_39 {v0 : Int32} : ab_res scr 45 d M 39 [l0, l1, l2, l3] ([.int v0]) = some (M, some (.int v0)) := ab_o_ireturn (ab_dc hc45 dX4_notPoor_39) hr45 rfl
end Q45
theorem hc47 : ab_code 47 = cX5_make := rfl
theorem hn47 : ab_nL 47 = 2 := rfl
theorem hk47 : ab_ky 47 = 5 := rfl
theorem hr47 : ab_ret 47 = some .int := rfl
section Q47
variable {scr : Option (List Int32)} {d : Nat} {M : ab_M} {st : List Value} {l0 l1 : Option Value}
theorem q47_0 {xr : Nat} : ab_res scr 47 d M 0 [some (.ref xr), l1] (st) = ab_res scr 47 d M 1 [some (.ref xr), l1] (.ref xr :: st) := ab_o_aload_n (ab_dc hc47 dX5_make_0) rfl
theorem q47_1 {v0 : Nat} : ab_res scr 47 d M 1 [l0, l1] (.ref v0 :: st) = (ab_gF ab_L0 M v0 5 1).bind fun v => ab_res scr 47 d M 4 [l0, l1] (v :: st) := ab_o_getfield (ab_dc hc47 dX5_make_1) hk47 lk_fl_5_32
theorem q47_4 {v0 : Nat} (hb : (ab_rc ab_L0 v0 = some 1) = True) : ab_res scr 47 11 M 4 [l0, l1] ([.ref v0]) = (ab_ms scr 4 [.ref v0] M).bind fun o => ab_res scr 47 11 o.1 7 [l0, l1] (ab_pr o.2 []) := ab_o_virtual (ab_dc hc47 dX5_make_4) hk47 lk_ca_5_36 hm4 (Nat.le_of_ble_eq_true rfl) rfl rfl rfl (of_eq_true hb) rfl rfl
theorem q47_7 {xr : Nat} : ab_res scr 47 d M 7 [some (.ref xr), l1] (st) = ab_res scr 47 d M 8 [some (.ref xr), l1] (.ref xr :: st) := ab_o_aload_n (ab_dc hc47 dX5_make_7) rfl
theorem q47_8 {v0 : Nat} : ab_res scr 47 d M 8 [l0, l1] (.ref v0 :: st) = (ab_gF ab_L0 M v0 5 1).bind fun v => ab_res scr 47 d M 11 [l0, l1] (v :: st) := ab_o_getfield (ab_dc hc47 dX5_make_8) hk47 lk_fl_5_32
theorem q47_11 {v0 : Nat} (hb : (ab_rc ab_L0 v0 = some 1) = True) : ab_res scr 47 11 M 11 [l0, l1] ([.ref v0]) = (ab_ms scr 6 [.ref v0] M).bind fun o => ab_res scr 47 11 o.1 14 [l0, l1] (ab_pr o.2 []) := ab_o_virtual (ab_dc hc47 dX5_make_11) hk47 lk_ca_5_41 hm6 (Nat.le_of_ble_eq_true rfl) rfl rfl rfl (of_eq_true hb) rfl rfl
theorem q47_14 {xr : Nat} : ab_res scr 47 d M 14 [some (.ref xr), l1] (st) = ab_res scr 47 d M 15 [some (.ref xr), l1] (.ref xr :: st) := ab_o_aload_n (ab_dc hc47 dX5_make_14) rfl
theorem q47_15 {v0 : Nat} : ab_res scr 47 d M 15 [l0, l1] (.ref v0 :: st) = (ab_gF ab_L0 M v0 5 1).bind fun v => ab_res scr 47 d M 18 [l0, l1] (v :: st) := ab_o_getfield (ab_dc hc47 dX5_make_15) hk47 lk_fl_5_32
theorem q47_18 {v0 : Nat} : ab_res scr 47 d M 18 [l0, l1] (.ref v0 :: st) = (ab_gF ab_L0 M v0 1 3).bind fun v => ab_res scr 47 d M 21 [l0, l1] (v :: st) := ab_o_getfield (ab_dc hc47 dX5_make_18) hk47 lk_fl_5_44
theorem q47_21 : ab_res scr 47 d M 21 [l0, l1] (st) = ab_res scr 47 d M 23 [l0, l1] (.int 6 :: st) := (ab_o_bipush (ab_dc hc47 dX5_make_21)).trans (by rw [ki_bipush_6])
theorem q47_23 {v0 : Int32} {v1 : Int32} : ab_res scr 47 d M 23 [l0, l1] (.int v0 :: .int v1 :: st) = if v1 ≤ v0 then ab_res scr 47 d M 29 [l0, l1] (st) else ab_res scr 47 d M 26 [l0, l1] (st) := ab_o_br2 (off := 6) (ab_dc hc47 dX5_make_23) (by decide) rfl rfl
theorem q47_26 : ab_res scr 47 d M 26 [l0, l1] (st) = ab_res scr 47 d M 28 [l0, l1] (.int (-2) :: st) := (ab_o_bipush (ab_dc hc47 dX5_make_26)).trans (by rw [ki_bipush_m2])
theorem q47_28 {v0 : Int32} : ab_res scr 47 d M 28 [l0, l1] ([.int v0]) = some (M, some (.int v0)) := ab_o_ireturn (ab_dc hc47 dX5_make_28) hr47 rfl
theorem q47_29 {xr : Nat} : ab_res scr 47 d M 29 [some (.ref xr), l1] (st) = ab_res scr 47 d M 30 [some (.ref xr), l1] (.ref xr :: st) := ab_o_aload_n (ab_dc hc47 dX5_make_29) rfl
theorem q47_30 {v0 : Nat} : ab_res scr 47 d M 30 [l0, l1] (.ref v0 :: st) = (ab_gF ab_L0 M v0 5 1).bind fun v => ab_res scr 47 d M 33 [l0, l1] (v :: st) := ab_o_getfield (ab_dc hc47 dX5_make_30) hk47 lk_fl_5_32
theorem q47_33 {v0 : Nat} : ab_res scr 47 d M 33 [l0, l1] (.ref v0 :: st) = (ab_gF ab_L0 M v0 1 6).bind fun v => ab_res scr 47 d M 36 [l0, l1] (v :: st) := ab_o_getfield (ab_dc hc47 dX5_make_33) hk47 lk_fl_5_47
theorem q47_36 {v0 : Int32} : ab_res scr 47 d M 36 [l0, l1] (.int v0 :: st) = if v0 ≤ 0 then ab_res scr 47 d M 42 [l0, l1] (st) else ab_res scr 47 d M 39 [l0, l1] (st) := ab_o_br2 (off := 6) (ab_dc hc47 dX5_make_36) (by decide) rfl rfl
theorem q47_39 : ab_res scr 47 d M 39 [l0, l1] (st) = ab_res scr 47 d M 41 [l0, l1] (.int (-4) :: st) := (ab_o_bipush (ab_dc hc47 dX5_make_39)).trans (by rw [ki_bipush_m4])
theorem q47_41 {v0 : Int32} : ab_res scr 47 d M 41 [l0, l1] ([.int v0]) = some (M, some (.int v0)) := ab_o_ireturn (ab_dc hc47 dX5_make_41) hr47 rfl
theorem q47_42 {xr : Nat} : ab_res scr 47 d M 42 [some (.ref xr), l1] (st) = ab_res scr 47 d M 43 [some (.ref xr), l1] (.ref xr :: st) := ab_o_aload_n (ab_dc hc47 dX5_make_42) rfl
theorem q47_43 {xr : Nat} : ab_res scr 47 d M 43 [some (.ref xr), l1] (st) = ab_res scr 47 d M 44 [some (.ref xr), l1] (.ref xr :: st) := ab_o_aload_n (ab_dc hc47 dX5_make_43) rfl
theorem q47_44 {v0 : Nat} : ab_res scr 47 d M 44 [l0, l1] (.ref v0 :: st) = (ab_gF ab_L0 M v0 5 1).bind fun v => ab_res scr 47 d M 47 [l0, l1] (v :: st) := ab_o_getfield (ab_dc hc47 dX5_make_44) hk47 lk_fl_5_32
theorem q47_47 {v0 : Nat} : ab_res scr 47 d M 47 [l0, l1] (.ref v0 :: st) = (ab_gF ab_L0 M v0 1 3).bind fun v => ab_res scr 47 d M 50 [l0, l1] (v :: st) := ab_o_getfield (ab_dc hc47 dX5_make_47) hk47 lk_fl_5_44
theorem q47_50 {v0 : Int32} {v1 : Nat} (hp : (ab_pt v1 5 6 v0 = true) = True) : ab_res scr 47 d M 50 [l0, l1] (.int v0 :: .ref v1 :: st) = ab_res scr 47 d (ab_up M v1 6 v0) 53 [l0, l1] (st) := ab_o_putfield (ab_dc hc47 dX5_make_50) hk47 lk_fl_5_25 (of_eq_true hp)
theorem q47_53 {xr : Nat} : ab_res scr 47 d M 53 [some (.ref xr), l1] (st) = ab_res scr 47 d M 54 [some (.ref xr), l1] (.ref xr :: st) := ab_o_aload_n (ab_dc hc47 dX5_make_53) rfl
theorem q47_54 : ab_res scr 47 d M 54 [l0, l1] (st) = ab_res scr 47 d M 56 [l0, l1] (.int 2147483647 :: st) := ab_o_ldc (ab_dc hc47 dX5_make_54) hk47 lk_ko_5_50
theorem q47_56 {v0 : Int32} {v1 : Nat} (hp : (ab_pt v1 5 3 v0 = true) = True) : ab_res scr 47 d M 56 [l0, l1] (.int v0 :: .ref v1 :: st) = ab_res scr 47 d (ab_up M v1 3 v0) 59 [l0, l1] (st) := ab_o_putfield (ab_dc hc47 dX5_make_56) hk47 lk_fl_5_15 (of_eq_true hp)
theorem q47_59 : ab_res scr 47 d M 59 [l0, l1] (st) = ab_res scr 47 d M 60 [l0, l1] (.int 0 :: st) := (ab_o_iconst (ab_dc hc47 dX5_make_59)).trans (by rw [ki_iconst_0])
theorem q47_60 {v0 : Int32} : ab_res scr 47 d M 60 [l0, l1] (.int v0 :: st) = ab_res scr 47 d M 61 [ab_nl l0, some (.int v0)] (st) := (ab_o_st1 (k := 1) (ab_dc hc47 dX5_make_60) (Or.inr (Or.inr (Or.inl ⟨1, rfl, rfl, rfl, ⟨_, rfl⟩⟩))) hn47 (by decide)).trans (ab_kl1 [] _ l0 rfl rfl)
theorem q47_61 {x : Int32} : ab_res scr 47 d M 61 [l0, some (.int x)] (st) = ab_res scr 47 d M 62 [l0, some (.int x)] (.int x :: st) := ab_o_iload_n (ab_dc hc47 dX5_make_61) rfl
theorem q47_62 {xr : Nat} : ab_res scr 47 d M 62 [some (.ref xr), l1] (st) = ab_res scr 47 d M 63 [some (.ref xr), l1] (.ref xr :: st) := ab_o_aload_n (ab_dc hc47 dX5_make_62) rfl
theorem q47_63 {v0 : Nat} : ab_res scr 47 d M 63 [l0, l1] (.ref v0 :: st) = (ab_gF ab_L0 M v0 5 0).bind fun v => ab_res scr 47 d M 66 [l0, l1] (v :: st) := ab_o_getfield (ab_dc hc47 dX5_make_63) hk47 lk_fl_5_28
theorem q47_66 {v0 : Nat} : ab_res scr 47 d M 66 [l0, l1] (.ref v0 :: st) = (ab_gF ab_L0 M v0 4 3).bind fun v => ab_res scr 47 d M 69 [l0, l1] (v :: st) := ab_o_getfield (ab_dc hc47 dX5_make_66) hk47 lk_fl_5_51
theorem q47_69 {v0 : Int32} {v1 : Int32} : ab_res scr 47 d M 69 [l0, l1] (.int v0 :: .int v1 :: st) = if v0 ≤ v1 then ab_res scr 47 d M 109 [l0, l1] (st) else ab_res scr 47 d M 72 [l0, l1] (st) := ab_o_br2 (off := 40) (ab_dc hc47 dX5_make_69) (by decide) rfl rfl
theorem q47_72 {xr : Nat} : ab_res scr 47 d M 72 [some (.ref xr), l1] (st) = ab_res scr 47 d M 73 [some (.ref xr), l1] (.ref xr :: st) := ab_o_aload_n (ab_dc hc47 dX5_make_72) rfl
theorem q47_73 {v0 : Nat} : ab_res scr 47 d M 73 [l0, l1] (.ref v0 :: st) = (ab_gF ab_L0 M v0 5 5).bind fun v => ab_res scr 47 d M 76 [l0, l1] (v :: st) := ab_o_getfield (ab_dc hc47 dX5_make_73) hk47 lk_fl_5_22
theorem q47_76 {x : Int32} : ab_res scr 47 d M 76 [l0, some (.int x)] (st) = ab_res scr 47 d M 77 [l0, some (.int x)] (.int x :: st) := ab_o_iload_n (ab_dc hc47 dX5_make_76) rfl
theorem q47_77 {xr : Nat} : ab_res scr 47 d M 77 [some (.ref xr), l1] (st) = ab_res scr 47 d M 78 [some (.ref xr), l1] (.ref xr :: st) := ab_o_aload_n (ab_dc hc47 dX5_make_77) rfl
theorem q47_78 {v0 : Nat} : ab_res scr 47 d M 78 [l0, l1] (.ref v0 :: st) = (ab_gF ab_L0 M v0 5 0).bind fun v => ab_res scr 47 d M 81 [l0, l1] (v :: st) := ab_o_getfield (ab_dc hc47 dX5_make_78) hk47 lk_fl_5_28
theorem q47_81 {v0 : Nat} : ab_res scr 47 d M 81 [l0, l1] (.ref v0 :: st) = (ab_gF ab_L0 M v0 4 0).bind fun v => ab_res scr 47 d M 84 [l0, l1] (v :: st) := ab_o_getfield (ab_dc hc47 dX5_make_81) hk47 lk_fl_5_54
theorem q47_84 : ab_res scr 47 d M 84 [l0, l1] (st) = ab_res scr 47 d M 86 [l0, l1] (.int 7 :: st) := (ab_o_bipush (ab_dc hc47 dX5_make_84)).trans (by rw [ki_bipush_7])
theorem q47_86 {v0 : Int32} {v1 : Nat} : ab_res scr 47 d M 86 [l0, l1] (.int v0 :: .ref v1 :: st) = (ab_qe v1 v0).bind fun v => ab_res scr 47 d M 87 [l0, l1] (v :: st) := ab_o_aaload (ab_dc hc47 dX5_make_86)
theorem q47_87 {x : Int32} : ab_res scr 47 d M 87 [l0, some (.int x)] (st) = ab_res scr 47 d M 88 [l0, some (.int x)] (.int x :: st) := ab_o_iload_n (ab_dc hc47 dX5_make_87) rfl
theorem q47_88 {v0 : Int32} {v1 : Nat} : ab_res scr 47 d M 88 [l0, l1] (.int v0 :: .ref v1 :: st) = (ab_ald scr ab_L0 M v1 .int v0).bind fun v => ab_res scr 47 d M 89 [l0, l1] (.int v :: st) := ab_o_iaload (ab_dc hc47 dX5_make_88)
theorem q47_89 {xr : Nat} : ab_res scr 47 d M 89 [some (.ref xr), l1] (st) = ab_res scr 47 d M 90 [some (.ref xr), l1] (.ref xr :: st) := ab_o_aload_n (ab_dc hc47 dX5_make_89) rfl
theorem q47_90 {v0 : Nat} : ab_res scr 47 d M 90 [l0, l1] (.ref v0 :: st) = (ab_gF ab_L0 M v0 5 1).bind fun v => ab_res scr 47 d M 93 [l0, l1] (v :: st) := ab_o_getfield (ab_dc hc47 dX5_make_90) hk47 lk_fl_5_32
theorem q47_93 {v0 : Nat} : ab_res scr 47 d M 93 [l0, l1] (.ref v0 :: st) = (ab_gF ab_L0 M v0 1 1).bind fun v => ab_res scr 47 d M 96 [l0, l1] (v :: st) := ab_o_getfield (ab_dc hc47 dX5_make_93) hk47 lk_fl_5_58
theorem q47_96 {x : Int32} : ab_res scr 47 d M 96 [l0, some (.int x)] (st) = ab_res scr 47 d M 97 [l0, some (.int x)] (.int x :: st) := ab_o_iload_n (ab_dc hc47 dX5_make_96) rfl
theorem q47_97 {v0 : Int32} {v1 : Nat} : ab_res scr 47 d M 97 [l0, l1] (.int v0 :: .ref v1 :: st) = (ab_qe v1 v0).bind fun v => ab_res scr 47 d M 98 [l0, l1] (v :: st) := ab_o_aaload (ab_dc hc47 dX5_make_97)
theorem q47_98 {v0 : Nat} : ab_res scr 47 d M 98 [l0, l1] (.ref v0 :: st) = (ab_gF ab_L0 M v0 7 1).bind fun v => ab_res scr 47 d M 101 [l0, l1] (v :: st) := ab_o_getfield (ab_dc hc47 dX5_make_98) hk47 lk_fl_5_62
theorem q47_101 {v0 : Int32} {v1 : Int32} : ab_res scr 47 d M 101 [l0, l1] (.int v0 :: .int v1 :: st) = ab_res scr 47 d M 102 [l0, l1] (.int (v1 - v0) :: st) := ab_xg (ab_dc hc47 dX5_make_101) rfl rfl
theorem q47_102 {v0 : Int32} {v1 : Int32} {v2 : Nat} : ab_res scr 47 d M 102 [l0, l1] (.int v0 :: .int v1 :: .ref v2 :: st) = if ab_si v2 .int v1 = true then ab_res scr 47 d (ab_up M v2 v1.toNatClampNeg v0) 103 [l0, l1] (st) else none := ab_o_iastore (ab_dc hc47 dX5_make_102)
theorem q47_103 {x : Int32} : ab_res scr 47 d M 103 [l0, some (.int x)] (st) = ab_res scr 47 d M 106 [ab_nl l0, some (.int (x + 1))] (st) := (ab_o_iinc (k := 1) (ab_dc hc47 dX5_make_103) hn47 (by decide) rfl).trans (by rw [ki_iconst_1]; exact ab_kl1 [] _ l0 rfl rfl)
theorem q47_106 : ab_res scr 47 d M 106 [l0, l1] (st) = ab_res scr 47 d M 61 [l0, l1] (st) := ab_o_goto (ab_dc hc47 dX5_make_106) (by decide)
theorem q47_109 {xr : Nat} : ab_res scr 47 d M 109 [some (.ref xr), l1] (st) = ab_res scr 47 d M 110 [some (.ref xr), l1] (.ref xr :: st) := ab_o_aload_n (ab_dc hc47 dX5_make_109) rfl
theorem q47_110 : ab_res scr 47 d M 110 [l0, l1] (st) = ab_res scr 47 d M 111 [l0, l1] (.int 0 :: st) := (ab_o_iconst (ab_dc hc47 dX5_make_110)).trans (by rw [ki_iconst_0])
theorem q47_111 {xr : Nat} : ab_res scr 47 d M 111 [some (.ref xr), l1] (st) = ab_res scr 47 d M 112 [some (.ref xr), l1] (.ref xr :: st) := ab_o_aload_n (ab_dc hc47 dX5_make_111) rfl
theorem q47_112 {v0 : Nat} : ab_res scr 47 d M 112 [l0, l1] (.ref v0 :: st) = (ab_gF ab_L0 M v0 5 1).bind fun v => ab_res scr 47 d M 115 [l0, l1] (v :: st) := ab_o_getfield (ab_dc hc47 dX5_make_112) hk47 lk_fl_5_32
theorem q47_115 {v0 : Nat} : ab_res scr 47 d M 115 [l0, l1] (.ref v0 :: st) = (ab_gF ab_L0 M v0 1 4).bind fun v => ab_res scr 47 d M 118 [l0, l1] (v :: st) := ab_o_getfield (ab_dc hc47 dX5_make_115) hk47 lk_fl_5_67
theorem q47_118 {v0 : Int32} {v1 : Int32} {v2 : Nat} (hq : Nat.ble (ab_dk 48 [.ref v2, .int v1, .int v0] + 1) 11 = true) : ab_res scr 47 11 M 118 [l0, l1] ([.int v0, .int v1, .ref v2]) = (ab_ms scr 48 [.ref v2, .int v1, .int v0] M).bind fun o => ab_res scr 47 11 o.1 121 [l0, l1] (ab_pr o.2 []) := ab_o_static (ab_dc hc47 dX5_make_118) hk47 lk_ca_5_70 hm48 (Nat.le_of_ble_eq_true rfl) rfl rfl rfl hq rfl
theorem q47_121 {xr : Nat} : ab_res scr 47 d M 121 [some (.ref xr), l1] (st) = ab_res scr 47 d M 122 [some (.ref xr), l1] (.ref xr :: st) := ab_o_aload_n (ab_dc hc47 dX5_make_121) rfl
theorem q47_122 {v0 : Nat} : ab_res scr 47 d M 122 [l0, l1] (.ref v0 :: st) = (ab_gF ab_L0 M v0 5 6).bind fun v => ab_res scr 47 d M 125 [l0, l1] (v :: st) := ab_o_getfield (ab_dc hc47 dX5_make_122) hk47 lk_fl_5_25
theorem q47_125 {v0 : Int32} : ab_res scr 47 d M 125 [l0, l1] ([.int v0]) = some (M, some (.int v0)) := ab_o_ireturn (ab_dc hc47 dX5_make_125) hr47 rfl
end Q47
theorem hc48 : ab_code 48 = cX5_search := rfl
theorem hn48 : ab_nL 48 = 6 := rfl
theorem hk48 : ab_ky 48 = 5 := rfl
theorem hr48 : ab_ret 48 = none := rfl
section Q48
variable {scr : Option (List Int32)} {d : Nat} {M : ab_M} {st : List Value} {l0 l1 l2 l3 l4 l5 : Option Value}
theorem q48_0 {xr : Nat} : ab_res scr 48 d M 0 [some (.ref xr), l1, l2, l3, l4, l5] (st) = ab_res scr 48 d M 1 [some (.ref xr), l1, l2, l3, l4, l5] (.ref xr :: st) := ab_o_aload_n (ab_dc hc48 dX5_search_0) rfl
theorem q48_1 {x : Int32} : ab_res scr 48 d M 1 [l0, l1, some (.int x), l3, l4, l5] (st) = ab_res scr 48 d M 2 [l0, l1, some (.int x), l3, l4, l5] (.int x :: st) := ab_o_iload_n (ab_dc hc48 dX5_search_1) rfl
theorem q48_2 {v0 : Int32} {v1 : Nat} (hq : Nat.ble (ab_dk 49 [.ref v1, .int v0] + 1) d = true) (hb : (ab_rc ab_L0 v1 = some 5) = True) : ab_res scr 48 d M 2 [l0, l1, l2, l3, l4, l5] ([.int v0, .ref v1]) = (ab_ms scr 49 [.ref v1, .int v0] M).bind fun o => ab_res scr 48 d o.1 5 [l0, l1, l2, l3, l4, l5] (ab_pr o.2 []) := ab_o_virtual (ab_dc hc48 dX5_search_2) hk48 lk_ca_5_74 hm49 (Nat.le_of_ble_eq_true rfl) rfl rfl rfl (of_eq_true hb) hq rfl
theorem q48_5 {v0 : Int32} : ab_res scr 48 d M 5 [l0, l1, l2, l3, l4, l5] (.int v0 :: st) = if ¬ v0 = 0 then ab_res scr 48 d M 9 [l0, l1, l2, l3, l4, l5] (st) else ab_res scr 48 d M 8 [l0, l1, l2, l3, l4, l5] (st) := ab_o_br2 (off := 4) (ab_dc hc48 dX5_search_5) (by decide) rfl rfl
theorem q48_8 : ab_res scr 48 d M 8 [l0, l1, l2, l3, l4, l5] ([]) = some (M, none) := ab_o_return (ab_dc hc48 dX5_search_8) hr48
theorem q48_9 {x : Int32} : ab_res scr 48 d M 9 [l0, some (.int x), l2, l3, l4, l5] (st) = ab_res scr 48 d M 10 [l0, some (.int x), l2, l3, l4, l5] (.int x :: st) := ab_o_iload_n (ab_dc hc48 dX5_search_9) rfl
theorem q48_10 {xr : Nat} : ab_res scr 48 d M 10 [some (.ref xr), l1, l2, l3, l4, l5] (st) = ab_res scr 48 d M 11 [some (.ref xr), l1, l2, l3, l4, l5] (.ref xr :: st) := ab_o_aload_n (ab_dc hc48 dX5_search_10) rfl
theorem q48_11 {v0 : Nat} : ab_res scr 48 d M 11 [l0, l1, l2, l3, l4, l5] (.ref v0 :: st) = (ab_gF ab_L0 M v0 5 6).bind fun v => ab_res scr 48 d M 14 [l0, l1, l2, l3, l4, l5] (v :: st) := ab_o_getfield (ab_dc hc48 dX5_search_11) hk48 lk_fl_5_25
theorem q48_14 {v0 : Int32} {v1 : Int32} : ab_res scr 48 d M 14 [l0, l1, l2, l3, l4, l5] (.int v0 :: .int v1 :: st) = if v0 ≤ v1 then ab_res scr 48 d M 23 [l0, l1, l2, l3, l4, l5] (st) else ab_res scr 48 d M 17 [l0, l1, l2, l3, l4, l5] (st) := ab_o_br2 (off := 9) (ab_dc hc48 dX5_search_14) (by decide) rfl rfl
theorem q48_17 {x : Int32} : ab_res scr 48 d M 17 [l0, some (.int x), l2, l3, l4, l5] (st) = ab_res scr 48 d M 18 [l0, some (.int x), l2, l3, l4, l5] (.int x :: st) := ab_o_iload_n (ab_dc hc48 dX5_search_17) rfl
theorem q48_18 : ab_res scr 48 d M 18 [l0, l1, l2, l3, l4, l5] (st) = ab_res scr 48 d M 20 [l0, l1, l2, l3, l4, l5] (.int 6 :: st) := (ab_o_bipush (ab_dc hc48 dX5_search_18)).trans (by rw [ki_bipush_6])
theorem q48_20 {v0 : Int32} {v1 : Int32} : ab_res scr 48 d M 20 [l0, l1, l2, l3, l4, l5] (.int v0 :: .int v1 :: st) = if v1 < v0 then ab_res scr 48 d M 28 [l0, l1, l2, l3, l4, l5] (st) else ab_res scr 48 d M 23 [l0, l1, l2, l3, l4, l5] (st) := ab_o_br2 (off := 8) (ab_dc hc48 dX5_search_20) (by decide) rfl rfl
theorem q48_23 {xr : Nat} : ab_res scr 48 d M 23 [some (.ref xr), l1, l2, l3, l4, l5] (st) = ab_res scr 48 d M 24 [some (.ref xr), l1, l2, l3, l4, l5] (.ref xr :: st) := ab_o_aload_n (ab_dc hc48 dX5_search_23) rfl
theorem q48_24 {v0 : Nat} (hq : Nat.ble (ab_dk 50 [.ref v0] + 1) d = true) (hb : (ab_rc ab_L0 v0 = some 5) = True) : ab_res scr 48 d M 24 [l0, l1, l2, l3, l4, l5] ([.ref v0]) = (ab_ms scr 50 [.ref v0] M).bind fun o => ab_res scr 48 d o.1 27 [l0, l1, l2, l3, l4, l5] (ab_pr o.2 []) := ab_o_virtual (ab_dc hc48 dX5_search_24) hk48 lk_ca_5_78 hm50 (Nat.le_of_ble_eq_true rfl) rfl rfl rfl (of_eq_true hb) hq rfl
theorem q48_27 : ab_res scr 48 d M 27 [l0, l1, l2, l3, l4, l5] ([]) = some (M, none) := ab_o_return (ab_dc hc48 dX5_search_27) hr48
theorem q48_28 {xr : Nat} : ab_res scr 48 d M 28 [some (.ref xr), l1, l2, l3, l4, l5] (st) = ab_res scr 48 d M 29 [some (.ref xr), l1, l2, l3, l4, l5] (.ref xr :: st) := ab_o_aload_n (ab_dc hc48 dX5_search_28) rfl
theorem q48_29 {v0 : Nat} : ab_res scr 48 d M 29 [l0, l1, l2, l3, l4, l5] (.ref v0 :: st) = (ab_gF ab_L0 M v0 5 0).bind fun v => ab_res scr 48 d M 32 [l0, l1, l2, l3, l4, l5] (v :: st) := ab_o_getfield (ab_dc hc48 dX5_search_29) hk48 lk_fl_5_28
theorem q48_32 {xr : Nat} : ab_res scr 48 d M 32 [some (.ref xr), l1, l2, l3, l4, l5] (st) = ab_res scr 48 d M 33 [some (.ref xr), l1, l2, l3, l4, l5] (.ref xr :: st) := ab_o_aload_n (ab_dc hc48 dX5_search_32) rfl
theorem q48_33 {v0 : Nat} : ab_res scr 48 d M 33 [l0, l1, l2, l3, l4, l5] (.ref v0 :: st) = (ab_gF ab_L0 M v0 5 1).bind fun v => ab_res scr 48 d M 36 [l0, l1, l2, l3, l4, l5] (v :: st) := ab_o_getfield (ab_dc hc48 dX5_search_33) hk48 lk_fl_5_32
theorem q48_36 {v0 : Nat} : ab_res scr 48 d M 36 [l0, l1, l2, l3, l4, l5] (.ref v0 :: st) = (ab_gF ab_L0 M v0 1 2).bind fun v => ab_res scr 48 d M 39 [l0, l1, l2, l3, l4, l5] (v :: st) := ab_o_getfield (ab_dc hc48 dX5_search_36) hk48 lk_fl_5_81
theorem q48_39 {x : Int32} : ab_res scr 48 d M 39 [l0, some (.int x), l2, l3, l4, l5] (st) = ab_res scr 48 d M 40 [l0, some (.int x), l2, l3, l4, l5] (.int x :: st) := ab_o_iload_n (ab_dc hc48 dX5_search_39) rfl
theorem q48_40 {v0 : Int32} {v1 : Nat} : ab_res scr 48 d M 40 [l0, l1, l2, l3, l4, l5] (.int v0 :: .ref v1 :: st) = (ab_qe v1 v0).bind fun v => ab_res scr 48 d M 41 [l0, l1, l2, l3, l4, l5] (v :: st) := ab_o_aaload (ab_dc hc48 dX5_search_40)
theorem q48_41 {v0 : Nat} : ab_res scr 48 d M 41 [l0, l1, l2, l3, l4, l5] (.ref v0 :: st) = (ab_gF ab_L0 M v0 6 4).bind fun v => ab_res scr 48 d M 44 [l0, l1, l2, l3, l4, l5] (v :: st) := ab_o_getfield (ab_dc hc48 dX5_search_41) hk48 lk_fl_5_84
theorem q48_44 {v0 : Int32} {v1 : Nat} (hq : Nat.ble (ab_dk 45 [.ref v1, .int v0] + 1) d = true) (hb : (ab_rc ab_L0 v1 = some 4) = True) : ab_res scr 48 d M 44 [l0, l1, l2, l3, l4, l5] ([.int v0, .ref v1]) = (ab_ms scr 45 [.ref v1, .int v0] M).bind fun o => ab_res scr 48 d o.1 47 [l0, l1, l2, l3, l4, l5] (ab_pr o.2 []) := ab_o_virtual (ab_dc hc48 dX5_search_44) hk48 lk_ca_5_89 hm45 (Nat.le_of_ble_eq_true rfl) rfl rfl rfl (of_eq_true hb) hq rfl
theorem q48_47 {v0 : Int32} : ab_res scr 48 d M 47 [l0, l1, l2, l3, l4, l5] (.int v0 :: st) = ab_res scr 48 d M 48 [l0, l1, ab_nl l2, some (.int v0), l4, l5] (st) := (ab_o_st1 (k := 3) (ab_dc hc48 dX5_search_47) (Or.inr (Or.inr (Or.inl ⟨3, rfl, rfl, rfl, ⟨_, rfl⟩⟩))) hn48 (by decide)).trans (ab_kl1 [l0, l1] _ l2 rfl rfl)
theorem q48_48 {xr : Nat} : ab_res scr 48 d M 48 [some (.ref xr), l1, l2, l3, l4, l5] (st) = ab_res scr 48 d M 49 [some (.ref xr), l1, l2, l3, l4, l5] (.ref xr :: st) := ab_o_aload_n (ab_dc hc48 dX5_search_48) rfl
theorem q48_49 {v0 : Nat} : ab_res scr 48 d M 49 [l0, l1, l2, l3, l4, l5] (.ref v0 :: st) = (ab_gF ab_L0 M v0 5 1).bind fun v => ab_res scr 48 d M 52 [l0, l1, l2, l3, l4, l5] (v :: st) := ab_o_getfield (ab_dc hc48 dX5_search_49) hk48 lk_fl_5_32
theorem q48_52 {v0 : Nat} : ab_res scr 48 d M 52 [l0, l1, l2, l3, l4, l5] (.ref v0 :: st) = (ab_gF ab_L0 M v0 1 2).bind fun v => ab_res scr 48 d M 55 [l0, l1, l2, l3, l4, l5] (v :: st) := ab_o_getfield (ab_dc hc48 dX5_search_52) hk48 lk_fl_5_81
theorem q48_55 {x : Int32} : ab_res scr 48 d M 55 [l0, some (.int x), l2, l3, l4, l5] (st) = ab_res scr 48 d M 56 [l0, some (.int x), l2, l3, l4, l5] (.int x :: st) := ab_o_iload_n (ab_dc hc48 dX5_search_55) rfl
theorem q48_56 {v0 : Int32} {v1 : Nat} : ab_res scr 48 d M 56 [l0, l1, l2, l3, l4, l5] (.int v0 :: .ref v1 :: st) = (ab_qe v1 v0).bind fun v => ab_res scr 48 d M 57 [l0, l1, l2, l3, l4, l5] (v :: st) := ab_o_aaload (ab_dc hc48 dX5_search_56)
theorem q48_57 {v0 : Nat} : ab_res scr 48 d M 57 [l0, l1, l2, l3, l4, l5] (.ref v0 :: st) = (ab_gF ab_L0 M v0 6 2).bind fun v => ab_res scr 48 d M 60 [l0, l1, l2, l3, l4, l5] (v :: st) := ab_o_getfield (ab_dc hc48 dX5_search_57) hk48 lk_fl_5_93
theorem q48_60 {v0 : Int32} : ab_res scr 48 d M 60 [l0, l1, l2, l3, l4, l5] (.int v0 :: st) = ab_res scr 48 d M 62 [l0, l1, l2, ab_nl l3, some (.int v0), l5] (st) := (ab_o_st1 (k := 4) (ab_dc hc48 dX5_search_60) (Or.inl ⟨rfl, rfl, ⟨_, rfl⟩⟩) hn48 (by decide)).trans (ab_kl1 [l0, l1, l2] _ l3 rfl rfl)
theorem q48_62 : ab_res scr 48 d M 62 [l0, l1, l2, l3, l4, l5] (st) = ab_res scr 48 d M 63 [l0, l1, l2, l3, l4, l5] (.int 0 :: st) := (ab_o_iconst (ab_dc hc48 dX5_search_62)).trans (by rw [ki_iconst_0])
theorem q48_63 {v0 : Int32} : ab_res scr 48 d M 63 [l0, l1, l2, l3, l4, l5] (.int v0 :: st) = ab_res scr 48 d M 65 [l0, l1, l2, l3, ab_nl l4, some (.int v0)] (st) := (ab_o_st1 (k := 5) (ab_dc hc48 dX5_search_63) (Or.inl ⟨rfl, rfl, ⟨_, rfl⟩⟩) hn48 (by decide)).trans (ab_kl1 [l0, l1, l2, l3] _ l4 rfl rfl)
theorem q48_65 {x : Int32} : ab_res scr 48 d M 65 [l0, l1, l2, l3, l4, some (.int x)] (st) = ab_res scr 48 d M 67 [l0, l1, l2, l3, l4, some (.int x)] (.int x :: st) := ab_o_iload (ab_dc hc48 dX5_search_65) rfl
theorem q48_67 : ab_res scr 48 d M 67 [l0, l1, l2, l3, l4, l5] (st) = ab_res scr 48 d M 69 [l0, l1, l2, l3, l4, l5] (.int 8 :: st) := (ab_o_bipush (ab_dc hc48 dX5_search_67)).trans (by rw [ki_bipush_8])
theorem q48_69 {v0 : Int32} {v1 : Int32} : ab_res scr 48 d M 69 [l0, l1, l2, l3, l4, l5] (.int v0 :: .int v1 :: st) = if v0 ≤ v1 then ab_res scr 48 d M 130 [l0, l1, l2, l3, l4, l5] (st) else ab_res scr 48 d M 72 [l0, l1, l2, l3, l4, l5] (st) := ab_o_br2 (off := 61) (ab_dc hc48 dX5_search_69) (by decide) rfl rfl
theorem q48_72 {x : Int32} : ab_res scr 48 d M 72 [l0, l1, l2, l3, l4, some (.int x)] (st) = ab_res scr 48 d M 74 [l0, l1, l2, l3, l4, some (.int x)] (.int x :: st) := ab_o_iload (ab_dc hc48 dX5_search_72) rfl
theorem q48_74 {x : Int32} : ab_res scr 48 d M 74 [l0, l1, l2, some (.int x), l4, l5] (st) = ab_res scr 48 d M 75 [l0, l1, l2, some (.int x), l4, l5] (.int x :: st) := ab_o_iload_n (ab_dc hc48 dX5_search_74) rfl
theorem q48_75 {v0 : Int32} {v1 : Int32} (hq : Nat.ble (ab_dk 112 [.int v1, .int v0] + 1) d = true) : ab_res scr 48 d M 75 [l0, l1, l2, l3, l4, l5] ([.int v0, .int v1]) = (ab_ms scr 112 [.int v1, .int v0] M).bind fun o => ab_res scr 48 d o.1 78 [l0, l1, l2, l3, l4, l5] (ab_pr o.2 []) := ab_o_static (ab_dc hc48 dX5_search_75) hk48 lk_ca_5_94 hm112 (Nat.le_of_ble_eq_true rfl) rfl rfl rfl hq rfl
theorem q48_78 {v0 : Int32} : ab_res scr 48 d M 78 [l0, l1, l2, l3, l4, l5] (.int v0 :: st) = if v0 = 0 then ab_res scr 48 d M 124 [l0, l1, l2, l3, l4, l5] (st) else ab_res scr 48 d M 81 [l0, l1, l2, l3, l4, l5] (st) := ab_o_br2 (off := 46) (ab_dc hc48 dX5_search_78) (by decide) rfl rfl
theorem q48_81 {xr : Nat} : ab_res scr 48 d M 81 [some (.ref xr), l1, l2, l3, l4, l5] (st) = ab_res scr 48 d M 82 [some (.ref xr), l1, l2, l3, l4, l5] (.ref xr :: st) := ab_o_aload_n (ab_dc hc48 dX5_search_81) rfl
theorem q48_82 {v0 : Nat} : ab_res scr 48 d M 82 [l0, l1, l2, l3, l4, l5] (.ref v0 :: st) = (ab_gF ab_L0 M v0 5 4).bind fun v => ab_res scr 48 d M 85 [l0, l1, l2, l3, l4, l5] (v :: st) := ab_o_getfield (ab_dc hc48 dX5_search_82) hk48 lk_fl_5_19
theorem q48_85 {x : Int32} : ab_res scr 48 d M 85 [l0, some (.int x), l2, l3, l4, l5] (st) = ab_res scr 48 d M 86 [l0, some (.int x), l2, l3, l4, l5] (.int x :: st) := ab_o_iload_n (ab_dc hc48 dX5_search_85) rfl
theorem q48_86 {x : Int32} : ab_res scr 48 d M 86 [l0, l1, l2, l3, l4, some (.int x)] (st) = ab_res scr 48 d M 88 [l0, l1, l2, l3, l4, some (.int x)] (.int x :: st) := ab_o_iload (ab_dc hc48 dX5_search_86) rfl
theorem q48_88 {v0 : Int32} {v1 : Int32} {v2 : Nat} : ab_res scr 48 d M 88 [l0, l1, l2, l3, l4, l5] (.int v0 :: .int v1 :: .ref v2 :: st) = if ab_si v2 .int v1 = true then ab_res scr 48 d (ab_up M v2 v1.toNatClampNeg v0) 89 [l0, l1, l2, l3, l4, l5] (st) else none := ab_o_iastore (ab_dc hc48 dX5_search_88)
theorem q48_89 {xr : Nat} : ab_res scr 48 d M 89 [some (.ref xr), l1, l2, l3, l4, l5] (st) = ab_res scr 48 d M 90 [some (.ref xr), l1, l2, l3, l4, l5] (.ref xr :: st) := ab_o_aload_n (ab_dc hc48 dX5_search_89) rfl
theorem q48_90 {v0 : Nat} : ab_res scr 48 d M 90 [l0, l1, l2, l3, l4, l5] (.ref v0 :: st) = (ab_gF ab_L0 M v0 5 5).bind fun v => ab_res scr 48 d M 93 [l0, l1, l2, l3, l4, l5] (v :: st) := ab_o_getfield (ab_dc hc48 dX5_search_90) hk48 lk_fl_5_22
theorem q48_93 {x : Int32} : ab_res scr 48 d M 93 [l0, l1, l2, l3, l4, some (.int x)] (st) = ab_res scr 48 d M 95 [l0, l1, l2, l3, l4, some (.int x)] (.int x :: st) := ab_o_iload (ab_dc hc48 dX5_search_93) rfl
theorem q48_95 {v0 : Int32} {v1 : Nat} : ab_res scr 48 d M 95 [l0, l1, l2, l3, l4, l5] (.int v0 :: .ref v1 :: st) = ab_res scr 48 d M 96 [l0, l1, l2, l3, l4, l5] (.int v0 :: .ref v1 :: .int v0 :: .ref v1 :: st) := ab_xg (ab_dc hc48 dX5_search_95) rfl rfl
theorem q48_96 {v0 : Int32} {v1 : Nat} : ab_res scr 48 d M 96 [l0, l1, l2, l3, l4, l5] (.int v0 :: .ref v1 :: st) = (ab_ald scr ab_L0 M v1 .int v0).bind fun v => ab_res scr 48 d M 97 [l0, l1, l2, l3, l4, l5] (.int v :: st) := ab_o_iaload (ab_dc hc48 dX5_search_96)
theorem q48_97 {x : Int32} : ab_res scr 48 d M 97 [l0, l1, l2, l3, some (.int x), l5] (st) = ab_res scr 48 d M 99 [l0, l1, l2, l3, some (.int x), l5] (.int x :: st) := ab_o_iload (ab_dc hc48 dX5_search_97) rfl
theorem q48_99 {v0 : Int32} {v1 : Int32} : ab_res scr 48 d M 99 [l0, l1, l2, l3, l4, l5] (.int v0 :: .int v1 :: st) = ab_res scr 48 d M 100 [l0, l1, l2, l3, l4, l5] (.int (v1 + v0) :: st) := ab_xg (ab_dc hc48 dX5_search_99) rfl rfl
theorem q48_100 {v0 : Int32} {v1 : Int32} {v2 : Nat} : ab_res scr 48 d M 100 [l0, l1, l2, l3, l4, l5] (.int v0 :: .int v1 :: .ref v2 :: st) = if ab_si v2 .int v1 = true then ab_res scr 48 d (ab_up M v2 v1.toNatClampNeg v0) 101 [l0, l1, l2, l3, l4, l5] (st) else none := ab_o_iastore (ab_dc hc48 dX5_search_100)
theorem q48_101 {xr : Nat} : ab_res scr 48 d M 101 [some (.ref xr), l1, l2, l3, l4, l5] (st) = ab_res scr 48 d M 102 [some (.ref xr), l1, l2, l3, l4, l5] (.ref xr :: st) := ab_o_aload_n (ab_dc hc48 dX5_search_101) rfl
theorem q48_102 {x : Int32} : ab_res scr 48 d M 102 [l0, some (.int x), l2, l3, l4, l5] (st) = ab_res scr 48 d M 103 [l0, some (.int x), l2, l3, l4, l5] (.int x :: st) := ab_o_iload_n (ab_dc hc48 dX5_search_102) rfl
theorem q48_103 : ab_res scr 48 d M 103 [l0, l1, l2, l3, l4, l5] (st) = ab_res scr 48 d M 104 [l0, l1, l2, l3, l4, l5] (.int 1 :: st) := (ab_o_iconst (ab_dc hc48 dX5_search_103)).trans (by rw [ki_iconst_1])
theorem q48_104 {v0 : Int32} {v1 : Int32} : ab_res scr 48 d M 104 [l0, l1, l2, l3, l4, l5] (.int v0 :: .int v1 :: st) = ab_res scr 48 d M 105 [l0, l1, l2, l3, l4, l5] (.int (v1 + v0) :: st) := ab_xg (ab_dc hc48 dX5_search_104) rfl rfl
theorem q48_105 {x : Int32} : ab_res scr 48 d M 105 [l0, l1, some (.int x), l3, l4, l5] (st) = ab_res scr 48 d M 106 [l0, l1, some (.int x), l3, l4, l5] (.int x :: st) := ab_o_iload_n (ab_dc hc48 dX5_search_105) rfl
theorem q48_106 {x : Int32} : ab_res scr 48 d M 106 [l0, l1, l2, l3, some (.int x), l5] (st) = ab_res scr 48 d M 108 [l0, l1, l2, l3, some (.int x), l5] (.int x :: st) := ab_o_iload (ab_dc hc48 dX5_search_106) rfl
theorem q48_108 {v0 : Int32} {v1 : Int32} : ab_res scr 48 d M 108 [l0, l1, l2, l3, l4, l5] (.int v0 :: .int v1 :: st) = ab_res scr 48 d M 109 [l0, l1, l2, l3, l4, l5] (.int (v1 - v0) :: st) := ab_xg (ab_dc hc48 dX5_search_108) rfl rfl
theorem q48_109 {v0 : Int32} {v1 : Int32} {v2 : Nat} (hq : Nat.ble (ab_dk 48 [.ref v2, .int v1, .int v0] + 1) d = true) : ab_res scr 48 d M 109 [l0, l1, l2, l3, l4, l5] ([.int v0, .int v1, .ref v2]) = (ab_ms scr 48 [.ref v2, .int v1, .int v0] M).bind fun o => ab_res scr 48 d o.1 112 [l0, l1, l2, l3, l4, l5] (ab_pr o.2 []) := ab_o_static (ab_dc hc48 dX5_search_109) hk48 lk_ca_5_70 hm48 (Nat.le_of_ble_eq_true rfl) rfl rfl rfl hq rfl
theorem q48_112 {xr : Nat} : ab_res scr 48 d M 112 [some (.ref xr), l1, l2, l3, l4, l5] (st) = ab_res scr 48 d M 113 [some (.ref xr), l1, l2, l3, l4, l5] (.ref xr :: st) := ab_o_aload_n (ab_dc hc48 dX5_search_112) rfl
theorem q48_113 {v0 : Nat} : ab_res scr 48 d M 113 [l0, l1, l2, l3, l4, l5] (.ref v0 :: st) = (ab_gF ab_L0 M v0 5 5).bind fun v => ab_res scr 48 d M 116 [l0, l1, l2, l3, l4, l5] (v :: st) := ab_o_getfield (ab_dc hc48 dX5_search_113) hk48 lk_fl_5_22
theorem q48_116 {x : Int32} : ab_res scr 48 d M 116 [l0, l1, l2, l3, l4, some (.int x)] (st) = ab_res scr 48 d M 118 [l0, l1, l2, l3, l4, some (.int x)] (.int x :: st) := ab_o_iload (ab_dc hc48 dX5_search_116) rfl
theorem q48_118 {v0 : Int32} {v1 : Nat} : ab_res scr 48 d M 118 [l0, l1, l2, l3, l4, l5] (.int v0 :: .ref v1 :: st) = ab_res scr 48 d M 119 [l0, l1, l2, l3, l4, l5] (.int v0 :: .ref v1 :: .int v0 :: .ref v1 :: st) := ab_xg (ab_dc hc48 dX5_search_118) rfl rfl
theorem q48_119 {v0 : Int32} {v1 : Nat} : ab_res scr 48 d M 119 [l0, l1, l2, l3, l4, l5] (.int v0 :: .ref v1 :: st) = (ab_ald scr ab_L0 M v1 .int v0).bind fun v => ab_res scr 48 d M 120 [l0, l1, l2, l3, l4, l5] (.int v :: st) := ab_o_iaload (ab_dc hc48 dX5_search_119)
theorem q48_120 {x : Int32} : ab_res scr 48 d M 120 [l0, l1, l2, l3, some (.int x), l5] (st) = ab_res scr 48 d M 122 [l0, l1, l2, l3, some (.int x), l5] (.int x :: st) := ab_o_iload (ab_dc hc48 dX5_search_120) rfl
theorem q48_122 {v0 : Int32} {v1 : Int32} : ab_res scr 48 d M 122 [l0, l1, l2, l3, l4, l5] (.int v0 :: .int v1 :: st) = ab_res scr 48 d M 123 [l0, l1, l2, l3, l4, l5] (.int (v1 - v0) :: st) := ab_xg (ab_dc hc48 dX5_search_122) rfl rfl
theorem q48_123 {v0 : Int32} {v1 : Int32} {v2 : Nat} : ab_res scr 48 d M 123 [l0, l1, l2, l3, l4, l5] (.int v0 :: .int v1 :: .ref v2 :: st) = if ab_si v2 .int v1 = true then ab_res scr 48 d (ab_up M v2 v1.toNatClampNeg v0) 124 [l0, l1, l2, l3, l4, l5] (st) else none := ab_o_iastore (ab_dc hc48 dX5_search_123)
theorem q48_124 {x : Int32} : ab_res scr 48 d M 124 [l0, l1, l2, l3, l4, some (.int x)] (st) = ab_res scr 48 d M 127 [l0, l1, l2, l3, ab_nl l4, some (.int (x + 1))] (st) := (ab_o_iinc (k := 5) (ab_dc hc48 dX5_search_124) hn48 (by decide) rfl).trans (by rw [ki_iconst_1]; exact ab_kl1 [l0, l1, l2, l3] _ l4 rfl rfl)
theorem q48_127 : ab_res scr 48 d M 127 [l0, l1, l2, l3, l4, l5] (st) = ab_res scr 48 d M 65 [l0, l1, l2, l3, l4, l5] (st) := ab_o_goto (ab_dc hc48 dX5_search_127) (by decide)
theorem q48_130 : ab_res scr 48 d M 130 [l0, l1, l2, l3, l4, l5] ([]) = some (M, none) := ab_o_return (ab_dc hc48 dX5_search_130) hr48
end Q48
theorem hc49 : ab_code 49 = cX5_mayBeBetter := rfl
theorem hn49 : ab_nL 49 = 3 := rfl
theorem hk49 : ab_ky 49 = 5 := rfl
theorem hr49 : ab_ret 49 = some .boolean := rfl
section Q49
variable {scr : Option (List Int32)} {d : Nat} {M : ab_M} {st : List Value} {l0 l1 l2 : Option Value}
theorem q49_0 : ab_res scr 49 d M 0 [l0, l1, l2] (st) = ab_res scr 49 d M 1 [l0, l1, l2] (.int 0 :: st) := (ab_o_iconst (ab_dc hc49 dX5_mayBeBetter_0)).trans (by rw [ki_iconst_0])
theorem q49_1 {v0 : Int32} : ab_res scr 49 d M 1 [l0, l1, l2] (.int v0 :: st) = ab_res scr 49 d M 2 [l0, ab_nl l1, some (.int v0)] (st) := (ab_o_st1 (k := 2) (ab_dc hc49 dX5_mayBeBetter_1) (Or.inr (Or.inr (Or.inl ⟨2, rfl, rfl, rfl, ⟨_, rfl⟩⟩))) hn49 (by decide)).trans (ab_kl1 [l0] _ l1 rfl rfl)
theorem q49_2 {x : Int32} : ab_res scr 49 d M 2 [l0, l1, some (.int x)] (st) = ab_res scr 49 d M 3 [l0, l1, some (.int x)] (.int x :: st) := ab_o_iload_n (ab_dc hc49 dX5_mayBeBetter_2) rfl
theorem q49_3 {xr : Nat} : ab_res scr 49 d M 3 [some (.ref xr), l1, l2] (st) = ab_res scr 49 d M 4 [some (.ref xr), l1, l2] (.ref xr :: st) := ab_o_aload_n (ab_dc hc49 dX5_mayBeBetter_3) rfl
theorem q49_4 {v0 : Nat} : ab_res scr 49 d M 4 [l0, l1, l2] (.ref v0 :: st) = (ab_gF ab_L0 M v0 5 0).bind fun v => ab_res scr 49 d M 7 [l0, l1, l2] (v :: st) := ab_o_getfield (ab_dc hc49 dX5_mayBeBetter_4) hk49 lk_fl_5_28
theorem q49_7 {v0 : Nat} : ab_res scr 49 d M 7 [l0, l1, l2] (.ref v0 :: st) = (ab_gF ab_L0 M v0 4 3).bind fun v => ab_res scr 49 d M 10 [l0, l1, l2] (v :: st) := ab_o_getfield (ab_dc hc49 dX5_mayBeBetter_7) hk49 lk_fl_5_51
theorem q49_10 {v0 : Int32} {v1 : Int32} : ab_res scr 49 d M 10 [l0, l1, l2] (.int v0 :: .int v1 :: st) = if v0 ≤ v1 then ab_res scr 49 d M 50 [l0, l1, l2] (st) else ab_res scr 49 d M 13 [l0, l1, l2] (st) := ab_o_br2 (off := 40) (ab_dc hc49 dX5_mayBeBetter_10) (by decide) rfl rfl
theorem q49_13 {xr : Nat} : ab_res scr 49 d M 13 [some (.ref xr), l1, l2] (st) = ab_res scr 49 d M 14 [some (.ref xr), l1, l2] (.ref xr :: st) := ab_o_aload_n (ab_dc hc49 dX5_mayBeBetter_13) rfl
theorem q49_14 {v0 : Nat} : ab_res scr 49 d M 14 [l0, l1, l2] (.ref v0 :: st) = (ab_gF ab_L0 M v0 5 5).bind fun v => ab_res scr 49 d M 17 [l0, l1, l2] (v :: st) := ab_o_getfield (ab_dc hc49 dX5_mayBeBetter_14) hk49 lk_fl_5_22
theorem q49_17 {x : Int32} : ab_res scr 49 d M 17 [l0, l1, some (.int x)] (st) = ab_res scr 49 d M 18 [l0, l1, some (.int x)] (.int x :: st) := ab_o_iload_n (ab_dc hc49 dX5_mayBeBetter_17) rfl
theorem q49_18 {v0 : Int32} {v1 : Nat} : ab_res scr 49 d M 18 [l0, l1, l2] (.int v0 :: .ref v1 :: st) = (ab_ald scr ab_L0 M v1 .int v0).bind fun v => ab_res scr 49 d M 19 [l0, l1, l2] (.int v :: st) := ab_o_iaload (ab_dc hc49 dX5_mayBeBetter_18)
theorem q49_19 {xr : Nat} : ab_res scr 49 d M 19 [some (.ref xr), l1, l2] (st) = ab_res scr 49 d M 20 [some (.ref xr), l1, l2] (.ref xr :: st) := ab_o_aload_n (ab_dc hc49 dX5_mayBeBetter_19) rfl
theorem q49_20 {v0 : Nat} : ab_res scr 49 d M 20 [l0, l1, l2] (.ref v0 :: st) = (ab_gF ab_L0 M v0 5 3).bind fun v => ab_res scr 49 d M 23 [l0, l1, l2] (v :: st) := ab_o_getfield (ab_dc hc49 dX5_mayBeBetter_20) hk49 lk_fl_5_15
theorem q49_23 {v0 : Int32} {v1 : Int32} : ab_res scr 49 d M 23 [l0, l1, l2] (.int v0 :: .int v1 :: st) = if v0 ≤ v1 then ab_res scr 49 d M 42 [l0, l1, l2] (st) else ab_res scr 49 d M 26 [l0, l1, l2] (st) := ab_o_br2 (off := 19) (ab_dc hc49 dX5_mayBeBetter_23) (by decide) rfl rfl
theorem q49_26 {xr : Nat} : ab_res scr 49 d M 26 [some (.ref xr), l1, l2] (st) = ab_res scr 49 d M 27 [some (.ref xr), l1, l2] (.ref xr :: st) := ab_o_aload_n (ab_dc hc49 dX5_mayBeBetter_26) rfl
theorem q49_27 {v0 : Nat} : ab_res scr 49 d M 27 [l0, l1, l2] (.ref v0 :: st) = (ab_gF ab_L0 M v0 5 5).bind fun v => ab_res scr 49 d M 30 [l0, l1, l2] (v :: st) := ab_o_getfield (ab_dc hc49 dX5_mayBeBetter_27) hk49 lk_fl_5_22
theorem q49_30 {x : Int32} : ab_res scr 49 d M 30 [l0, l1, some (.int x)] (st) = ab_res scr 49 d M 31 [l0, l1, some (.int x)] (.int x :: st) := ab_o_iload_n (ab_dc hc49 dX5_mayBeBetter_30) rfl
theorem q49_31 {v0 : Int32} {v1 : Nat} : ab_res scr 49 d M 31 [l0, l1, l2] (.int v0 :: .ref v1 :: st) = (ab_ald scr ab_L0 M v1 .int v0).bind fun v => ab_res scr 49 d M 32 [l0, l1, l2] (.int v :: st) := ab_o_iaload (ab_dc hc49 dX5_mayBeBetter_31)
theorem q49_32 {x : Int32} : ab_res scr 49 d M 32 [l0, some (.int x), l2] (st) = ab_res scr 49 d M 33 [l0, some (.int x), l2] (.int x :: st) := ab_o_iload_n (ab_dc hc49 dX5_mayBeBetter_32) rfl
theorem q49_33 {v0 : Int32} {v1 : Int32} : ab_res scr 49 d M 33 [l0, l1, l2] (.int v0 :: .int v1 :: st) = ab_res scr 49 d M 34 [l0, l1, l2] (.int (v1 + v0) :: st) := ab_xg (ab_dc hc49 dX5_mayBeBetter_33) rfl rfl
theorem q49_34 {v0 : Int32} : ab_res scr 49 d M 34 [l0, l1, l2] (.int v0 :: st) = ab_res scr 49 d M 35 [l0, l1, l2] (.int (-v0) :: st) := ab_xg (ab_dc hc49 dX5_mayBeBetter_34) rfl rfl
theorem q49_35 {xr : Nat} : ab_res scr 49 d M 35 [some (.ref xr), l1, l2] (st) = ab_res scr 49 d M 36 [some (.ref xr), l1, l2] (.ref xr :: st) := ab_o_aload_n (ab_dc hc49 dX5_mayBeBetter_35) rfl
theorem q49_36 {v0 : Nat} : ab_res scr 49 d M 36 [l0, l1, l2] (.ref v0 :: st) = (ab_gF ab_L0 M v0 5 3).bind fun v => ab_res scr 49 d M 39 [l0, l1, l2] (v :: st) := ab_o_getfield (ab_dc hc49 dX5_mayBeBetter_36) hk49 lk_fl_5_15
theorem q49_39 {v0 : Int32} {v1 : Int32} : ab_res scr 49 d M 39 [l0, l1, l2] (.int v0 :: .int v1 :: st) = if v1 < v0 then ab_res scr 49 d M 44 [l0, l1, l2] (st) else ab_res scr 49 d M 42 [l0, l1, l2] (st) := ab_o_br2 (off := 5) (ab_dc hc49 dX5_mayBeBetter_39) (by decide) rfl rfl
theorem q49_42 : ab_res scr 49 d M 42 [l0, l1, l2] (st) = ab_res scr 49 d M 43 [l0, l1, l2] (.int 0 :: st) := (ab_o_iconst (ab_dc hc49 dX5_mayBeBetter_42)).trans (by rw [ki_iconst_0])
theorem q49_43 {v0 : Int32} (hv : (narrow .boolean (.int v0) = .int v0) = True) : ab_res scr 49 d M 43 [l0, l1, l2] ([.int v0]) = some (M, some (.int v0)) := ab_o_ireturn (ab_dc hc49 dX5_mayBeBetter_43) hr49 (of_eq_true hv)
theorem q49_44 {x : Int32} : ab_res scr 49 d M 44 [l0, l1, some (.int x)] (st) = ab_res scr 49 d M 47 [l0, ab_nl l1, some (.int (x + 1))] (st) := (ab_o_iinc (k := 2) (ab_dc hc49 dX5_mayBeBetter_44) hn49 (by decide) rfl).trans (by rw [ki_iconst_1]; exact ab_kl1 [l0] _ l1 rfl rfl)
theorem q49_47 : ab_res scr 49 d M 47 [l0, l1, l2] (st) = ab_res scr 49 d M 2 [l0, l1, l2] (st) := ab_o_goto (ab_dc hc49 dX5_mayBeBetter_47) (by decide)
theorem q49_50 : ab_res scr 49 d M 50 [l0, l1, l2] (st) = ab_res scr 49 d M 51 [l0, l1, l2] (.int 1 :: st) := (ab_o_iconst (ab_dc hc49 dX5_mayBeBetter_50)).trans (by rw [ki_iconst_1])
theorem q49_51 {v0 : Int32} (hv : (narrow .boolean (.int v0) = .int v0) = True) : ab_res scr 49 d M 51 [l0, l1, l2] ([.int v0]) = some (M, some (.int v0)) := ab_o_ireturn (ab_dc hc49 dX5_mayBeBetter_51) hr49 (of_eq_true hv)
end Q49
theorem hc50 : ab_code 50 = cX5_take := rfl
theorem hn50 : ab_nL 50 = 2 := rfl
theorem hk50 : ab_ky 50 = 5 := rfl
theorem hr50 : ab_ret 50 = none := rfl
section Q50
variable {scr : Option (List Int32)} {d : Nat} {M : ab_M} {st : List Value} {l0 l1 : Option Value}
theorem q50_0 {xr : Nat} : ab_res scr 50 d M 0 [some (.ref xr), l1] (st) = ab_res scr 50 d M 1 [some (.ref xr), l1] (.ref xr :: st) := ab_o_aload_n (ab_dc hc50 dX5_take_0) rfl
theorem q50_1 : ab_res scr 50 d M 1 [l0, l1] (st) = ab_res scr 50 d M 2 [l0, l1] (.int 0 :: st) := (ab_o_iconst (ab_dc hc50 dX5_take_1)).trans (by rw [ki_iconst_0])
theorem q50_2 {v0 : Int32} {v1 : Nat} (hp : (ab_pt v1 5 3 v0 = true) = True) : ab_res scr 50 d M 2 [l0, l1] (.int v0 :: .ref v1 :: st) = ab_res scr 50 d (ab_up M v1 3 v0) 5 [l0, l1] (st) := ab_o_putfield (ab_dc hc50 dX5_take_2) hk50 lk_fl_5_15 (of_eq_true hp)
theorem q50_5 : ab_res scr 50 d M 5 [l0, l1] (st) = ab_res scr 50 d M 6 [l0, l1] (.int 0 :: st) := (ab_o_iconst (ab_dc hc50 dX5_take_5)).trans (by rw [ki_iconst_0])
theorem q50_6 {v0 : Int32} : ab_res scr 50 d M 6 [l0, l1] (.int v0 :: st) = ab_res scr 50 d M 7 [ab_nl l0, some (.int v0)] (st) := (ab_o_st1 (k := 1) (ab_dc hc50 dX5_take_6) (Or.inr (Or.inr (Or.inl ⟨1, rfl, rfl, rfl, ⟨_, rfl⟩⟩))) hn50 (by decide)).trans (ab_kl1 [] _ l0 rfl rfl)
theorem q50_7 {x : Int32} : ab_res scr 50 d M 7 [l0, some (.int x)] (st) = ab_res scr 50 d M 8 [l0, some (.int x)] (.int x :: st) := ab_o_iload_n (ab_dc hc50 dX5_take_7) rfl
theorem q50_8 {xr : Nat} : ab_res scr 50 d M 8 [some (.ref xr), l1] (st) = ab_res scr 50 d M 9 [some (.ref xr), l1] (.ref xr :: st) := ab_o_aload_n (ab_dc hc50 dX5_take_8) rfl
theorem q50_9 {v0 : Nat} : ab_res scr 50 d M 9 [l0, l1] (.ref v0 :: st) = (ab_gF ab_L0 M v0 5 0).bind fun v => ab_res scr 50 d M 12 [l0, l1] (v :: st) := ab_o_getfield (ab_dc hc50 dX5_take_9) hk50 lk_fl_5_28
theorem q50_12 {v0 : Nat} : ab_res scr 50 d M 12 [l0, l1] (.ref v0 :: st) = (ab_gF ab_L0 M v0 4 3).bind fun v => ab_res scr 50 d M 15 [l0, l1] (v :: st) := ab_o_getfield (ab_dc hc50 dX5_take_12) hk50 lk_fl_5_51
theorem q50_15 {v0 : Int32} {v1 : Int32} : ab_res scr 50 d M 15 [l0, l1] (.int v0 :: .int v1 :: st) = if v0 ≤ v1 then ab_res scr 50 d M 44 [l0, l1] (st) else ab_res scr 50 d M 18 [l0, l1] (st) := ab_o_br2 (off := 29) (ab_dc hc50 dX5_take_15) (by decide) rfl rfl
theorem q50_18 {xr : Nat} : ab_res scr 50 d M 18 [some (.ref xr), l1] (st) = ab_res scr 50 d M 19 [some (.ref xr), l1] (.ref xr :: st) := ab_o_aload_n (ab_dc hc50 dX5_take_18) rfl
theorem q50_19 {xr : Nat} : ab_res scr 50 d M 19 [some (.ref xr), l1] (st) = ab_res scr 50 d M 20 [some (.ref xr), l1] (.ref xr :: st) := ab_o_aload_n (ab_dc hc50 dX5_take_19) rfl
theorem q50_20 {v0 : Nat} : ab_res scr 50 d M 20 [l0, l1] (.ref v0 :: st) = (ab_gF ab_L0 M v0 5 3).bind fun v => ab_res scr 50 d M 23 [l0, l1] (v :: st) := ab_o_getfield (ab_dc hc50 dX5_take_20) hk50 lk_fl_5_15
theorem q50_23 {xr : Nat} : ab_res scr 50 d M 23 [some (.ref xr), l1] (st) = ab_res scr 50 d M 24 [some (.ref xr), l1] (.ref xr :: st) := ab_o_aload_n (ab_dc hc50 dX5_take_23) rfl
theorem q50_24 {v0 : Nat} : ab_res scr 50 d M 24 [l0, l1] (.ref v0 :: st) = (ab_gF ab_L0 M v0 5 5).bind fun v => ab_res scr 50 d M 27 [l0, l1] (v :: st) := ab_o_getfield (ab_dc hc50 dX5_take_24) hk50 lk_fl_5_22
theorem q50_27 {x : Int32} : ab_res scr 50 d M 27 [l0, some (.int x)] (st) = ab_res scr 50 d M 28 [l0, some (.int x)] (.int x :: st) := ab_o_iload_n (ab_dc hc50 dX5_take_27) rfl
theorem q50_28 {v0 : Int32} {v1 : Nat} : ab_res scr 50 d M 28 [l0, l1] (.int v0 :: .ref v1 :: st) = (ab_ald scr ab_L0 M v1 .int v0).bind fun v => ab_res scr 50 d M 29 [l0, l1] (.int v :: st) := ab_o_iaload (ab_dc hc50 dX5_take_28)
theorem q50_29 {v0 : Int32} {v1 : Int32} {v2 : Nat} : ab_res scr 50 d M 29 [l0, l1] ([.int v0, .int v1, .ref v2]) = ab_res scr 50 d M 32 [l0, l1] (.int (if 0 ≤ v0 then v0 else 0 - v0) :: [.int v1, .ref v2]) := ab_o_abs (ab_dc hc50 dX5_take_29) hk50 lk_cn_5_98 lk_ma_5_98 rfl
theorem q50_32 {v0 : Int32} {v1 : Int32} {v2 : Nat} : ab_res scr 50 d M 32 [l0, l1] ([.int v0, .int v1, .ref v2]) = ab_res scr 50 d M 35 [l0, l1] (.int (if v1 < v0 then v0 else v1) :: [.ref v2]) := ab_o_max (ab_dc hc50 dX5_take_32) hk50 lk_cn_5_103 lk_ma_5_103 rfl
theorem q50_35 {v0 : Int32} {v1 : Nat} (hp : (ab_pt v1 5 3 v0 = true) = True) : ab_res scr 50 d M 35 [l0, l1] (.int v0 :: .ref v1 :: st) = ab_res scr 50 d (ab_up M v1 3 v0) 38 [l0, l1] (st) := ab_o_putfield (ab_dc hc50 dX5_take_35) hk50 lk_fl_5_15 (of_eq_true hp)
theorem q50_38 {x : Int32} : ab_res scr 50 d M 38 [l0, some (.int x)] (st) = ab_res scr 50 d M 41 [ab_nl l0, some (.int (x + 1))] (st) := (ab_o_iinc (k := 1) (ab_dc hc50 dX5_take_38) hn50 (by decide) rfl).trans (by rw [ki_iconst_1]; exact ab_kl1 [] _ l0 rfl rfl)
theorem q50_41 : ab_res scr 50 d M 41 [l0, l1] (st) = ab_res scr 50 d M 7 [l0, l1] (st) := ab_o_goto (ab_dc hc50 dX5_take_41) (by decide)
theorem q50_44 {xr : Nat} : ab_res scr 50 d M 44 [some (.ref xr), l1] (st) = ab_res scr 50 d M 45 [some (.ref xr), l1] (.ref xr :: st) := ab_o_aload_n (ab_dc hc50 dX5_take_44) rfl
theorem q50_45 {v0 : Nat} : ab_res scr 50 d M 45 [l0, l1] (.ref v0 :: st) = (ab_gF ab_L0 M v0 5 4).bind fun v => ab_res scr 50 d M 48 [l0, l1] (v :: st) := ab_o_getfield (ab_dc hc50 dX5_take_45) hk50 lk_fl_5_19
theorem q50_48 : ab_res scr 50 d M 48 [l0, l1] (st) = ab_res scr 50 d M 49 [l0, l1] (.int 0 :: st) := (ab_o_iconst (ab_dc hc50 dX5_take_48)).trans (by rw [ki_iconst_0])
theorem q50_49 {xr : Nat} : ab_res scr 50 d M 49 [some (.ref xr), l1] (st) = ab_res scr 50 d M 50 [some (.ref xr), l1] (.ref xr :: st) := ab_o_aload_n (ab_dc hc50 dX5_take_49) rfl
theorem q50_50 {v0 : Nat} : ab_res scr 50 d M 50 [l0, l1] (.ref v0 :: st) = (ab_gF ab_L0 M v0 5 2).bind fun v => ab_res scr 50 d M 53 [l0, l1] (v :: st) := ab_o_getfield (ab_dc hc50 dX5_take_50) hk50 lk_fl_5_9
theorem q50_53 : ab_res scr 50 d M 53 [l0, l1] (st) = ab_res scr 50 d M 54 [l0, l1] (.int 0 :: st) := (ab_o_iconst (ab_dc hc50 dX5_take_53)).trans (by rw [ki_iconst_0])
theorem q50_54 : ab_res scr 50 d M 54 [l0, l1] (st) = ab_res scr 50 d M 56 [l0, l1] (.int 6 :: st) := (ab_o_bipush (ab_dc hc50 dX5_take_54)).trans (by rw [ki_bipush_6])
theorem q50_56 {v0 : Int32} {v1 : Int32} {v2 : Nat} {v3 : Int32} {v4 : Nat} {n0 n1 : Nat} (h0 : ab_ar ab_L0 v4 .int = some n0) (h1 : ab_ar ab_L0 v2 .int = some n1) (hc : 0 ≤ v3.toInt ∧ 0 ≤ v1.toInt ∧ 0 ≤ v0.toInt ∧ v3.toNatClampNeg + v0.toNatClampNeg ≤ n0 ∧ v1.toNatClampNeg + v0.toNatClampNeg ≤ n1) : ab_res scr 50 d M 56 [l0, l1] ([.int v0, .int v1, .ref v2, .int v3, .ref v4]) = ab_res scr 50 d (ab_cpy M v4 v2 v3.toNatClampNeg v1.toNatClampNeg v0.toNatClampNeg) 59 [l0, l1] ([]) := ab_o_copy (ab_dc hc50 dX5_take_56) hk50 lk_cn_5_107 lk_mn_5_107 lk_ac_5_107 h0 h1 ⟨hc.1, hc.2.1, hc.2.2.1, hc.2.2.2.1, hc.2.2.2.2, rfl⟩
theorem q50_59 : ab_res scr 50 d M 59 [l0, l1] ([]) = some (M, none) := ab_o_return (ab_dc hc50 dX5_take_59) hr50
end Q50
theorem hc53 : ab_code 53 = cX7_out := rfl
theorem hn53 : ab_nL 53 = 1 := rfl
theorem hk53 : ab_ky 53 = 7 := rfl
theorem hr53 : ab_ret 53 = some .int := rfl
section Q53
variable {scr : Option (List Int32)} {d : Nat} {M : ab_M} {st : List Value} {l0 : Option Value}
theorem q53_0 {xr : Nat} : ab_res scr 53 d M 0 [some (.ref xr)] (st) = ab_res scr 53 d M 1 [some (.ref xr)] (.ref xr :: st) := ab_o_aload_n (ab_dc hc53 dX7_out_0) rfl
theorem q53_1 {v0 : Nat} : ab_res scr 53 d M 1 [l0] (.ref v0 :: st) = (ab_gF ab_L0 M v0 7 2).bind fun v => ab_res scr 53 d M 4 [l0] (v :: st) := ab_o_getfield (ab_dc hc53 dX7_out_1) hk53 lk_fl_7_16
theorem q53_4 {xr : Nat} : ab_res scr 53 d M 4 [some (.ref xr)] (st) = ab_res scr 53 d M 5 [some (.ref xr)] (.ref xr :: st) := ab_o_aload_n (ab_dc hc53 dX7_out_4) rfl
theorem q53_5 {v0 : Nat} : ab_res scr 53 d M 5 [l0] (.ref v0 :: st) = (ab_gF ab_L0 M v0 7 1).bind fun v => ab_res scr 53 d M 8 [l0] (v :: st) := ab_o_getfield (ab_dc hc53 dX7_out_5) hk53 lk_fl_7_13
theorem q53_8 {v0 : Int32} {v1 : Int32} : ab_res scr 53 d M 8 [l0] (.int v0 :: .int v1 :: st) = ab_res scr 53 d M 9 [l0] (.int (v1 - v0) :: st) := ab_xg (ab_dc hc53 dX7_out_8) rfl rfl
theorem q53_9 {xr : Nat} : ab_res scr 53 d M 9 [some (.ref xr)] (st) = ab_res scr 53 d M 10 [some (.ref xr)] (.ref xr :: st) := ab_o_aload_n (ab_dc hc53 dX7_out_9) rfl
theorem q53_10 {v0 : Nat} : ab_res scr 53 d M 10 [l0] (.ref v0 :: st) = (ab_gF ab_L0 M v0 7 0).bind fun v => ab_res scr 53 d M 13 [l0] (v :: st) := ab_o_getfield (ab_dc hc53 dX7_out_10) hk53 lk_fl_7_7
theorem q53_13 {v0 : Int32} {v1 : Int32} : ab_res scr 53 d M 13 [l0] (.int v0 :: .int v1 :: st) = ab_res scr 53 d M 14 [l0] (.int (v1 + v0) :: st) := ab_xg (ab_dc hc53 dX7_out_13) rfl rfl
theorem q53_14 {v0 : Int32} : ab_res scr 53 d M 14 [l0] ([.int v0]) = some (M, some (.int v0)) := ab_o_ireturn (ab_dc hc53 dX7_out_14) hr53 rfl
end Q53
theorem hc54 : ab_code 54 = cX7_clear := rfl
theorem hn54 : ab_nL 54 = 1 := rfl
theorem hk54 : ab_ky 54 = 7 := rfl
theorem hr54 : ab_ret 54 = none := rfl
section Q54
variable {scr : Option (List Int32)} {d : Nat} {M : ab_M} {st : List Value} {l0 : Option Value}
theorem q54_0 {xr : Nat} : ab_res scr 54 d M 0 [some (.ref xr)] (st) = ab_res scr 54 d M 1 [some (.ref xr)] (.ref xr :: st) := ab_o_aload_n (ab_dc hc54 dX7_clear_0) rfl
theorem q54_1 : ab_res scr 54 d M 1 [l0] (st) = ab_res scr 54 d M 2 [l0] (.int 0 :: st) := (ab_o_iconst (ab_dc hc54 dX7_clear_1)).trans (by rw [ki_iconst_0])
theorem q54_2 {v0 : Int32} {v1 : Nat} (hp : (ab_pt v1 7 1 v0 = true) = True) : ab_res scr 54 d M 2 [l0] (.int v0 :: .ref v1 :: st) = ab_res scr 54 d (ab_up M v1 1 v0) 5 [l0] (st) := ab_o_putfield (ab_dc hc54 dX7_clear_2) hk54 lk_fl_7_13 (of_eq_true hp)
theorem q54_5 {xr : Nat} : ab_res scr 54 d M 5 [some (.ref xr)] (st) = ab_res scr 54 d M 6 [some (.ref xr)] (.ref xr :: st) := ab_o_aload_n (ab_dc hc54 dX7_clear_5) rfl
theorem q54_6 : ab_res scr 54 d M 6 [l0] (st) = ab_res scr 54 d M 7 [l0] (.int 0 :: st) := (ab_o_iconst (ab_dc hc54 dX7_clear_6)).trans (by rw [ki_iconst_0])
theorem q54_7 {v0 : Int32} {v1 : Nat} (hp : (ab_pt v1 7 2 v0 = true) = True) : ab_res scr 54 d M 7 [l0] (.int v0 :: .ref v1 :: st) = ab_res scr 54 d (ab_up M v1 2 v0) 10 [l0] (st) := ab_o_putfield (ab_dc hc54 dX7_clear_7) hk54 lk_fl_7_16 (of_eq_true hp)
theorem q54_10 {xr : Nat} : ab_res scr 54 d M 10 [some (.ref xr)] (st) = ab_res scr 54 d M 11 [some (.ref xr)] (.ref xr :: st) := ab_o_aload_n (ab_dc hc54 dX7_clear_10) rfl
theorem q54_11 : ab_res scr 54 d M 11 [l0] (st) = ab_res scr 54 d M 12 [l0] (.int 0 :: st) := (ab_o_iconst (ab_dc hc54 dX7_clear_11)).trans (by rw [ki_iconst_0])
theorem q54_12 {v0 : Int32} {v1 : Nat} (hp : (ab_pt v1 7 3 v0 = true) = True) : ab_res scr 54 d M 12 [l0] (.int v0 :: .ref v1 :: st) = ab_res scr 54 d (ab_up M v1 3 v0) 15 [l0] (st) := ab_o_putfield (ab_dc hc54 dX7_clear_12) hk54 lk_fl_7_19 (of_eq_true hp)
theorem q54_15 {xr : Nat} : ab_res scr 54 d M 15 [some (.ref xr)] (st) = ab_res scr 54 d M 16 [some (.ref xr)] (.ref xr :: st) := ab_o_aload_n (ab_dc hc54 dX7_clear_15) rfl
theorem q54_16 : ab_res scr 54 d M 16 [l0] (st) = ab_res scr 54 d M 17 [l0] (.int 0 :: st) := (ab_o_iconst (ab_dc hc54 dX7_clear_16)).trans (by rw [ki_iconst_0])
theorem q54_17 {v0 : Int32} {v1 : Nat} (hp : (ab_pt v1 7 4 v0 = true) = True) : ab_res scr 54 d M 17 [l0] (.int v0 :: .ref v1 :: st) = ab_res scr 54 d (ab_up M v1 4 v0) 20 [l0] (st) := ab_o_putfield (ab_dc hc54 dX7_clear_17) hk54 lk_fl_7_22 (of_eq_true hp)
theorem q54_20 : ab_res scr 54 d M 20 [l0] ([]) = some (M, none) := ab_o_return (ab_dc hc54 dX7_clear_20) hr54
end Q54
theorem hc56 : ab_code 56 = cX8_renew := rfl
theorem hn56 : ab_nL 56 = 3 := rfl
theorem hk56 : ab_ky 56 = 8 := rfl
theorem hr56 : ab_ret 56 = none := rfl
section Q56
variable {scr : Option (List Int32)} {d : Nat} {M : ab_M} {st : List Value} {l0 l1 l2 : Option Value}
theorem q56_0 {xr : Nat} : ab_res scr 56 d M 0 [some (.ref xr), l1, l2] (st) = ab_res scr 56 d M 1 [some (.ref xr), l1, l2] (.ref xr :: st) := ab_o_aload_n (ab_dc hc56 dX8_renew_0) rfl
theorem q56_1 {x : Int32} : ab_res scr 56 d M 1 [l0, some (.int x), l2] (st) = ab_res scr 56 d M 2 [l0, some (.int x), l2] (.int x :: st) := ab_o_iload_n (ab_dc hc56 dX8_renew_1) rfl
theorem q56_2 {v0 : Int32} {v1 : Nat} (hp : (ab_pt v1 8 1 v0 = true) = True) : ab_res scr 56 d M 2 [l0, l1, l2] (.int v0 :: .ref v1 :: st) = ab_res scr 56 d (ab_up M v1 1 v0) 5 [l0, l1, l2] (st) := ab_o_putfield (ab_dc hc56 dX8_renew_2) hk56 lk_fl_8_15 (of_eq_true hp)
theorem q56_5 {xr : Nat} : ab_res scr 56 d M 5 [some (.ref xr), l1, l2] (st) = ab_res scr 56 d M 6 [some (.ref xr), l1, l2] (.ref xr :: st) := ab_o_aload_n (ab_dc hc56 dX8_renew_5) rfl
theorem q56_6 {x : Int32} : ab_res scr 56 d M 6 [l0, l1, some (.int x)] (st) = ab_res scr 56 d M 7 [l0, l1, some (.int x)] (.int x :: st) := ab_o_iload_n (ab_dc hc56 dX8_renew_6) rfl
theorem q56_7 {v0 : Int32} {v1 : Nat} (hp : (ab_pt v1 8 2 v0 = true) = True) : ab_res scr 56 d M 7 [l0, l1, l2] (.int v0 :: .ref v1 :: st) = ab_res scr 56 d (ab_up M v1 2 v0) 10 [l0, l1, l2] (st) := ab_o_putfield (ab_dc hc56 dX8_renew_7) hk56 lk_fl_8_19 (of_eq_true hp)
theorem q56_10 {xr : Nat} : ab_res scr 56 d M 10 [some (.ref xr), l1, l2] (st) = ab_res scr 56 d M 11 [some (.ref xr), l1, l2] (.ref xr :: st) := ab_o_aload_n (ab_dc hc56 dX8_renew_10) rfl
theorem q56_11 {v0 : Nat} : ab_res scr 56 d M 11 [l0, l1, l2] (.ref v0 :: st) = (ab_gF ab_L0 M v0 8 0).bind fun v => ab_res scr 56 d M 14 [l0, l1, l2] (v :: st) := ab_o_getfield (ab_dc hc56 dX8_renew_11) hk56 lk_fl_8_9
theorem q56_14 : ab_res scr 56 d M 14 [l0, l1, l2] (st) = ab_res scr 56 d M 15 [l0, l1, l2] (.int 0 :: st) := (ab_o_iconst (ab_dc hc56 dX8_renew_14)).trans (by rw [ki_iconst_0])
theorem q56_15 {v0 : Int32} {v1 : Nat} : ab_res scr 56 2 M 15 [l0, l1, l2] ([.int v0, .ref v1]) = (ab_ms scr 203 [.ref v1, .int v0] M).bind fun o => ab_res scr 56 2 o.1 18 [l0, l1, l2] (ab_pr o.2 []) := ab_o_static (ab_dc hc56 dX8_renew_15) hk56 lk_ca_8_22 hm203 (Nat.le_of_ble_eq_true rfl) rfl rfl rfl rfl rfl
theorem q56_18 : ab_res scr 56 d M 18 [l0, l1, l2] ([]) = some (M, none) := ab_o_return (ab_dc hc56 dX8_renew_18) hr56
end Q56
theorem hc57 : ab_code 57 = cX8_refusal := rfl
theorem hn57 : ab_nL 57 = 3 := rfl
theorem hk57 : ab_ky 57 = 8 := rfl
theorem hr57 : ab_ret 57 = some .int := rfl
section Q57
variable {scr : Option (List Int32)} {d : Nat} {M : ab_M} {st : List Value} {l0 l1 l2 : Option Value}
theorem q57_0 {xr : Nat} : ab_res scr 57 d M 0 [some (.ref xr), l1, l2] (st) = ab_res scr 57 d M 1 [some (.ref xr), l1, l2] (.ref xr :: st) := ab_o_aload_n (ab_dc hc57 dX8_refusal_0) rfl
theorem q57_1 {v0 : Nat} : ab_res scr 57 d M 1 [l0, l1, l2] (.ref v0 :: st) = (ab_gF ab_L0 M v0 8 2).bind fun v => ab_res scr 57 d M 4 [l0, l1, l2] (v :: st) := ab_o_getfield (ab_dc hc57 dX8_refusal_1) hk57 lk_fl_8_19
theorem q57_4 {v0 : Int32} : ab_res scr 57 d M 4 [l0, l1, l2] (.int v0 :: st) = if 0 ≤ v0 then ab_res scr 57 d M 9 [l0, l1, l2] (st) else ab_res scr 57 d M 7 [l0, l1, l2] (st) := ab_o_br2 (off := 5) (ab_dc hc57 dX8_refusal_4) (by decide) rfl rfl
theorem q57_7 : ab_res scr 57 d M 7 [l0, l1, l2] (st) = ab_res scr 57 d M 8 [l0, l1, l2] (.int 1 :: st) := (ab_o_iconst (ab_dc hc57 dX8_refusal_7)).trans (by rw [ki_iconst_1])
theorem q57_8 {v0 : Int32} : ab_res scr 57 d M 8 [l0, l1, l2] ([.int v0]) = some (M, some (.int v0)) := ab_o_ireturn (ab_dc hc57 dX8_refusal_8) hr57 rfl
theorem q57_9 {x : Int32} : ab_res scr 57 d M 9 [l0, some (.int x), l2] (st) = ab_res scr 57 d M 10 [l0, some (.int x), l2] (.int x :: st) := ab_o_iload_n (ab_dc hc57 dX8_refusal_9) rfl
theorem q57_10 {xr : Nat} : ab_res scr 57 d M 10 [some (.ref xr), l1, l2] (st) = ab_res scr 57 d M 11 [some (.ref xr), l1, l2] (.ref xr :: st) := ab_o_aload_n (ab_dc hc57 dX8_refusal_10) rfl
theorem q57_11 {v0 : Nat} : ab_res scr 57 d M 11 [l0, l1, l2] (.ref v0 :: st) = (ab_gF ab_L0 M v0 8 1).bind fun v => ab_res scr 57 d M 14 [l0, l1, l2] (v :: st) := ab_o_getfield (ab_dc hc57 dX8_refusal_11) hk57 lk_fl_8_15
theorem q57_14 {v0 : Int32} {v1 : Int32} : ab_res scr 57 d M 14 [l0, l1, l2] (.int v0 :: .int v1 :: st) = if v1 = v0 then ab_res scr 57 d M 19 [l0, l1, l2] (st) else ab_res scr 57 d M 17 [l0, l1, l2] (st) := ab_o_br2 (off := 5) (ab_dc hc57 dX8_refusal_14) (by decide) rfl rfl
theorem q57_17 : ab_res scr 57 d M 17 [l0, l1, l2] (st) = ab_res scr 57 d M 18 [l0, l1, l2] (.int 3 :: st) := (ab_o_iconst (ab_dc hc57 dX8_refusal_17)).trans (by rw [ki_iconst_3])
theorem q57_18 {v0 : Int32} : ab_res scr 57 d M 18 [l0, l1, l2] ([.int v0]) = some (M, some (.int v0)) := ab_o_ireturn (ab_dc hc57 dX8_refusal_18) hr57 rfl
theorem q57_19 {x : Int32} : ab_res scr 57 d M 19 [l0, l1, some (.int x)] (st) = ab_res scr 57 d M 20 [l0, l1, some (.int x)] (.int x :: st) := ab_o_iload_n (ab_dc hc57 dX8_refusal_19) rfl
theorem q57_20 {v0 : Int32} : ab_res scr 57 d M 20 [l0, l1, l2] (.int v0 :: st) = if v0 < 0 then ab_res scr 57 d M 31 [l0, l1, l2] (st) else ab_res scr 57 d M 23 [l0, l1, l2] (st) := ab_o_br2 (off := 11) (ab_dc hc57 dX8_refusal_20) (by decide) rfl rfl
theorem q57_23 {x : Int32} : ab_res scr 57 d M 23 [l0, l1, some (.int x)] (st) = ab_res scr 57 d M 24 [l0, l1, some (.int x)] (.int x :: st) := ab_o_iload_n (ab_dc hc57 dX8_refusal_23) rfl
theorem q57_24 {xr : Nat} : ab_res scr 57 d M 24 [some (.ref xr), l1, l2] (st) = ab_res scr 57 d M 25 [some (.ref xr), l1, l2] (.ref xr :: st) := ab_o_aload_n (ab_dc hc57 dX8_refusal_24) rfl
theorem q57_25 {v0 : Nat} : ab_res scr 57 d M 25 [l0, l1, l2] (.ref v0 :: st) = (ab_gF ab_L0 M v0 8 2).bind fun v => ab_res scr 57 d M 28 [l0, l1, l2] (v :: st) := ab_o_getfield (ab_dc hc57 dX8_refusal_25) hk57 lk_fl_8_19
theorem q57_28 {v0 : Int32} {v1 : Int32} : ab_res scr 57 d M 28 [l0, l1, l2] (.int v0 :: .int v1 :: st) = if v1 < v0 then ab_res scr 57 d M 35 [l0, l1, l2] (st) else ab_res scr 57 d M 31 [l0, l1, l2] (st) := ab_o_br2 (off := 7) (ab_dc hc57 dX8_refusal_28) (by decide) rfl rfl
theorem q57_31 : ab_res scr 57 d M 31 [l0, l1, l2] (st) = ab_res scr 57 d M 32 [l0, l1, l2] (.int 2 :: st) := (ab_o_iconst (ab_dc hc57 dX8_refusal_31)).trans (by rw [ki_iconst_2])
theorem q57_32 : ab_res scr 57 d M 32 [l0, l1, l2] (st) = ab_res scr 57 d M 36 [l0, l1, l2] (st) := ab_o_goto (ab_dc hc57 dX8_refusal_32) (by decide)
theorem q57_35 : ab_res scr 57 d M 35 [l0, l1, l2] (st) = ab_res scr 57 d M 36 [l0, l1, l2] (.int 0 :: st) := (ab_o_iconst (ab_dc hc57 dX8_refusal_35)).trans (by rw [ki_iconst_0])
theorem q57_36 {v0 : Int32} : ab_res scr 57 d M 36 [l0, l1, l2] ([.int v0]) = some (M, some (.int v0)) := ab_o_ireturn (ab_dc hc57 dX8_refusal_36) hr57 rfl
end Q57
theorem hc58 : ab_code 58 = cX8_put := rfl
theorem hn58 : ab_nL 58 = 3 := rfl
theorem hk58 : ab_ky 58 = 8 := rfl
theorem hr58 : ab_ret 58 = none := rfl
section Q58
variable {scr : Option (List Int32)} {d : Nat} {M : ab_M} {st : List Value} {l0 l1 l2 : Option Value}
theorem q58_0 {x : Int32} : ab_res scr 58 d M 0 [l0, some (.int x), l2] (st) = ab_res scr 58 d M 1 [l0, some (.int x), l2] (.int x :: st) := ab_o_iload_n (ab_dc hc58 dX8_put_0) rfl
theorem q58_1 {v0 : Int32} : ab_res scr 58 d M 1 [l0, l1, l2] (.int v0 :: st) = if v0 < 0 then ab_res scr 58 d M 18 [l0, l1, l2] (st) else ab_res scr 58 d M 4 [l0, l1, l2] (st) := ab_o_br2 (off := 17) (ab_dc hc58 dX8_put_1) (by decide) rfl rfl
theorem q58_4 {x : Int32} : ab_res scr 58 d M 4 [l0, some (.int x), l2] (st) = ab_res scr 58 d M 5 [l0, some (.int x), l2] (.int x :: st) := ab_o_iload_n (ab_dc hc58 dX8_put_4) rfl
theorem q58_5 {xr : Nat} : ab_res scr 58 d M 5 [some (.ref xr), l1, l2] (st) = ab_res scr 58 d M 6 [some (.ref xr), l1, l2] (.ref xr :: st) := ab_o_aload_n (ab_dc hc58 dX8_put_5) rfl
theorem q58_6 {v0 : Nat} : ab_res scr 58 d M 6 [l0, l1, l2] (.ref v0 :: st) = (ab_gF ab_L0 M v0 8 2).bind fun v => ab_res scr 58 d M 9 [l0, l1, l2] (v :: st) := ab_o_getfield (ab_dc hc58 dX8_put_6) hk58 lk_fl_8_19
theorem q58_9 {v0 : Int32} {v1 : Int32} : ab_res scr 58 d M 9 [l0, l1, l2] (.int v0 :: .int v1 :: st) = if v0 ≤ v1 then ab_res scr 58 d M 18 [l0, l1, l2] (st) else ab_res scr 58 d M 12 [l0, l1, l2] (st) := ab_o_br2 (off := 9) (ab_dc hc58 dX8_put_9) (by decide) rfl rfl
theorem q58_12 {x : Int32} : ab_res scr 58 d M 12 [l0, some (.int x), l2] (st) = ab_res scr 58 d M 13 [l0, some (.int x), l2] (.int x :: st) := ab_o_iload_n (ab_dc hc58 dX8_put_12) rfl
theorem q58_13 : ab_res scr 58 d M 13 [l0, l1, l2] (st) = ab_res scr 58 d M 15 [l0, l1, l2] (.int 40 :: st) := (ab_o_bipush (ab_dc hc58 dX8_put_13)).trans (by rw [ki_bipush_40])
theorem q58_15 {v0 : Int32} {v1 : Int32} : ab_res scr 58 d M 15 [l0, l1, l2] (.int v0 :: .int v1 :: st) = if v1 < v0 then ab_res scr 58 d M 19 [l0, l1, l2] (st) else ab_res scr 58 d M 18 [l0, l1, l2] (st) := ab_o_br2 (off := 4) (ab_dc hc58 dX8_put_15) (by decide) rfl rfl
theorem q58_18 : ab_res scr 58 d M 18 [l0, l1, l2] ([]) = some (M, none) := ab_o_return (ab_dc hc58 dX8_put_18) hr58
theorem q58_19 {xr : Nat} : ab_res scr 58 d M 19 [some (.ref xr), l1, l2] (st) = ab_res scr 58 d M 20 [some (.ref xr), l1, l2] (.ref xr :: st) := ab_o_aload_n (ab_dc hc58 dX8_put_19) rfl
theorem q58_20 {v0 : Nat} : ab_res scr 58 d M 20 [l0, l1, l2] (.ref v0 :: st) = (ab_gF ab_L0 M v0 8 1).bind fun v => ab_res scr 58 d M 23 [l0, l1, l2] (v :: st) := ab_o_getfield (ab_dc hc58 dX8_put_20) hk58 lk_fl_8_15
theorem q58_48 {xr : Nat} : ab_res scr 58 d M 48 [some (.ref xr), l1, l2] (st) = ab_res scr 58 d M 49 [some (.ref xr), l1, l2] (.ref xr :: st) := ab_o_aload_n (ab_dc hc58 dX8_put_48) rfl
theorem q58_49 {v0 : Nat} : ab_res scr 58 d M 49 [l0, l1, l2] (.ref v0 :: st) = (ab_gF ab_L0 M v0 8 0).bind fun v => ab_res scr 58 d M 52 [l0, l1, l2] (v :: st) := ab_o_getfield (ab_dc hc58 dX8_put_49) hk58 lk_fl_8_9
theorem q58_52 {x : Int32} : ab_res scr 58 d M 52 [l0, some (.int x), l2] (st) = ab_res scr 58 d M 53 [l0, some (.int x), l2] (.int x :: st) := ab_o_iload_n (ab_dc hc58 dX8_put_52) rfl
theorem q58_53 {x : Int32} : ab_res scr 58 d M 53 [l0, l1, some (.int x)] (st) = ab_res scr 58 d M 54 [l0, l1, some (.int x)] (.int x :: st) := ab_o_iload_n (ab_dc hc58 dX8_put_53) rfl
theorem q58_54 {v0 : Int32} : ab_res scr 58 d M 54 [l0, l1, l2] (.int v0 :: st) = ab_res scr 58 d M 55 [l0, l1, l2] (.int v0.toInt8.toInt32 :: st) := ab_xg (ab_dc hc58 dX8_put_54) rfl rfl
theorem q58_55 {v0 : Int32} {v1 : Int32} {v2 : Nat} : ab_res scr 58 d M 55 [l0, l1, l2] (.int v0 :: .int v1 :: .ref v2 :: st) = if ab_si v2 .int v1 = true then ab_res scr 58 d (ab_up M v2 v1.toNatClampNeg v0) 56 [l0, l1, l2] (st) else none := ab_o_iastore (ab_dc hc58 dX8_put_55)
theorem q58_56 : ab_res scr 58 d M 56 [l0, l1, l2] (st) = ab_res scr 58 d M 77 [l0, l1, l2] (st) := ab_o_goto (ab_dc hc58 dX8_put_56) (by decide)
theorem q58_59 {xr : Nat} : ab_res scr 58 d M 59 [some (.ref xr), l1, l2] (st) = ab_res scr 58 d M 60 [some (.ref xr), l1, l2] (.ref xr :: st) := ab_o_aload_n (ab_dc hc58 dX8_put_59) rfl
theorem q58_60 {v0 : Nat} : ab_res scr 58 d M 60 [l0, l1, l2] (.ref v0 :: st) = (ab_gF ab_L0 M v0 8 0).bind fun v => ab_res scr 58 d M 63 [l0, l1, l2] (v :: st) := ab_o_getfield (ab_dc hc58 dX8_put_60) hk58 lk_fl_8_9
theorem q58_63 {x : Int32} : ab_res scr 58 d M 63 [l0, some (.int x), l2] (st) = ab_res scr 58 d M 64 [l0, some (.int x), l2] (.int x :: st) := ab_o_iload_n (ab_dc hc58 dX8_put_63) rfl
theorem q58_64 {x : Int32} : ab_res scr 58 d M 64 [l0, l1, some (.int x)] (st) = ab_res scr 58 d M 65 [l0, l1, some (.int x)] (.int x :: st) := ab_o_iload_n (ab_dc hc58 dX8_put_64) rfl
theorem q58_65 {v0 : Int32} : ab_res scr 58 d M 65 [l0, l1, l2] (.int v0 :: st) = ab_res scr 58 d M 66 [l0, l1, l2] (.int v0.toInt16.toInt32 :: st) := ab_xg (ab_dc hc58 dX8_put_65) rfl rfl
theorem q58_66 {v0 : Int32} {v1 : Int32} {v2 : Nat} : ab_res scr 58 d M 66 [l0, l1, l2] (.int v0 :: .int v1 :: .ref v2 :: st) = if ab_si v2 .int v1 = true then ab_res scr 58 d (ab_up M v2 v1.toNatClampNeg v0) 67 [l0, l1, l2] (st) else none := ab_o_iastore (ab_dc hc58 dX8_put_66)
theorem q58_67 : ab_res scr 58 d M 67 [l0, l1, l2] (st) = ab_res scr 58 d M 77 [l0, l1, l2] (st) := ab_o_goto (ab_dc hc58 dX8_put_67) (by decide)
theorem q58_70 {xr : Nat} : ab_res scr 58 d M 70 [some (.ref xr), l1, l2] (st) = ab_res scr 58 d M 71 [some (.ref xr), l1, l2] (.ref xr :: st) := ab_o_aload_n (ab_dc hc58 dX8_put_70) rfl
theorem q58_71 {v0 : Nat} : ab_res scr 58 d M 71 [l0, l1, l2] (.ref v0 :: st) = (ab_gF ab_L0 M v0 8 0).bind fun v => ab_res scr 58 d M 74 [l0, l1, l2] (v :: st) := ab_o_getfield (ab_dc hc58 dX8_put_71) hk58 lk_fl_8_9
theorem q58_74 {x : Int32} : ab_res scr 58 d M 74 [l0, some (.int x), l2] (st) = ab_res scr 58 d M 75 [l0, some (.int x), l2] (.int x :: st) := ab_o_iload_n (ab_dc hc58 dX8_put_74) rfl
theorem q58_75 {x : Int32} : ab_res scr 58 d M 75 [l0, l1, some (.int x)] (st) = ab_res scr 58 d M 76 [l0, l1, some (.int x)] (.int x :: st) := ab_o_iload_n (ab_dc hc58 dX8_put_75) rfl
theorem q58_76 {v0 : Int32} {v1 : Int32} {v2 : Nat} : ab_res scr 58 d M 76 [l0, l1, l2] (.int v0 :: .int v1 :: .ref v2 :: st) = if ab_si v2 .int v1 = true then ab_res scr 58 d (ab_up M v2 v1.toNatClampNeg v0) 77 [l0, l1, l2] (st) else none := ab_o_iastore (ab_dc hc58 dX8_put_76)
theorem q58_77 : ab_res scr 58 d M 77 [l0, l1, l2] ([]) = some (M, none) := ab_o_return (ab_dc hc58 dX8_put_77) hr58
end Q58
section S58_23
variable {scr : Option (List Int32)} {d : Nat} {M : ab_M} {st : List Value} {l0 l1 l2 : Option Value}
theorem q58_23 {v0 : Int32} : ab_res scr 58 d M 23 [l0, l1, l2] (.int v0 :: st) = if v0 = 0 then ab_res scr 58 d M 48 [l0, l1, l2] (st) else if v0 = 1 then ab_res scr 58 d M 59 [l0, l1, l2] (st) else ab_res scr 58 d M 70 [l0, l1, l2] (st) := by
  by_cases h0 : v0 = 0
  · rw [if_pos h0, h0]
    exact ab_xg (ab_dc hc58 dX8_put_23) rfl rfl
  by_cases h1 : v0 = 1
  · rw [if_neg h0, if_pos h1, h1]
    exact ab_xg (ab_dc hc58 dX8_put_23) rfl rfl
  rw [if_neg h0, if_neg h1]
  have e0 : v0.toInt ≠ 0 := fun q => h0 (Int32.toInt_inj.mp (q.trans (by decide)))
  have e1 : v0.toInt ≠ 1 := fun q => h1 (Int32.toInt_inj.mp (q.trans (by decide)))
  refine ab_xg (ab_dc hc58 dX8_put_23) rfl ?_
  show ab_jm ab_L0 M 23 (Op.lookupswitch.offset [(0, 25), (1, 36)] (47) v0.toInt) [l0, l1, l2] st = _
  rw [show Op.lookupswitch.offset [(0, 25), (1, 36)] (47) v0.toInt = 47 by simp [Op.lookupswitch.offset, e0, e0.symm, e1, e1.symm]]
  rfl
end S58_23
theorem hc60 : ab_code 60 = cX9_readLines := rfl
theorem hn60 : ab_nL 60 = 2 := rfl
theorem hk60 : ab_ky 60 = 9 := rfl
theorem hr60 : ab_ret 60 = some .int := rfl
section Q60
variable {scr : Option (List Int32)} {d : Nat} {M : ab_M} {st : List Value} {l0 l1 : Option Value}
theorem q60_0 {xr : Nat} : ab_res scr 60 d M 0 [some (.ref xr), l1] (st) = ab_res scr 60 d M 1 [some (.ref xr), l1] (.ref xr :: st) := ab_o_aload_n (ab_dc hc60 dX9_readLines_0) rfl
theorem q60_1 {v0 : Nat} : ab_res scr 60 d M 1 [l0, l1] (.ref v0 :: st) = (ab_gF ab_L0 M v0 9 0).bind fun v => ab_res scr 60 d M 4 [l0, l1] (v :: st) := ab_o_getfield (ab_dc hc60 dX9_readLines_1) hk60 lk_fl_9_12
theorem q60_4 {v0 : Nat} (hb : (ab_rc ab_L0 v0 = some 4) = True) : ab_res scr 60 9 M 4 [l0, l1] ([.ref v0]) = (ab_ms scr 39 [.ref v0] M).bind fun o => ab_res scr 60 9 o.1 7 [l0, l1] (ab_pr o.2 []) := ab_o_virtual (ab_dc hc60 dX9_readLines_4) hk60 lk_ca_9_33 hm39 (Nat.le_of_ble_eq_true rfl) rfl rfl rfl (of_eq_true hb) rfl rfl
theorem q60_7 {xr : Nat} : ab_res scr 60 d M 7 [some (.ref xr), l1] (st) = ab_res scr 60 d M 8 [some (.ref xr), l1] (.ref xr :: st) := ab_o_aload_n (ab_dc hc60 dX9_readLines_7) rfl
theorem q60_8 : ab_res scr 60 d M 8 [l0, l1] (st) = ab_res scr 60 d M 9 [l0, l1] (.int 0 :: st) := (ab_o_iconst (ab_dc hc60 dX9_readLines_8)).trans (by rw [ki_iconst_0])
theorem q60_9 {v0 : Int32} {v1 : Nat} (hp : (ab_pt v1 9 2 v0 = true) = True) : ab_res scr 60 d M 9 [l0, l1] (.int v0 :: .ref v1 :: st) = ab_res scr 60 d (ab_up M v1 2 v0) 12 [l0, l1] (st) := ab_o_putfield (ab_dc hc60 dX9_readLines_9) hk60 lk_fl_9_18 (of_eq_true hp)
theorem q60_12 {xr : Nat} : ab_res scr 60 d M 12 [some (.ref xr), l1] (st) = ab_res scr 60 d M 13 [some (.ref xr), l1] (.ref xr :: st) := ab_o_aload_n (ab_dc hc60 dX9_readLines_12) rfl
theorem q60_13 : ab_res scr 60 d M 13 [l0, l1] (st) = ab_res scr 60 d M 14 [l0, l1] (.int 0 :: st) := (ab_o_iconst (ab_dc hc60 dX9_readLines_13)).trans (by rw [ki_iconst_0])
theorem q60_14 {v0 : Int32} {v1 : Nat} (hp : (ab_pt v1 9 4 v0 = true) = True) : ab_res scr 60 d M 14 [l0, l1] (.int v0 :: .ref v1 :: st) = ab_res scr 60 d (ab_up M v1 4 v0) 17 [l0, l1] (st) := ab_o_putfield (ab_dc hc60 dX9_readLines_14) hk60 lk_fl_9_25 (of_eq_true hp)
theorem q60_17 {xr : Nat} : ab_res scr 60 d M 17 [some (.ref xr), l1] (st) = ab_res scr 60 d M 18 [some (.ref xr), l1] (.ref xr :: st) := ab_o_aload_n (ab_dc hc60 dX9_readLines_17) rfl
theorem q60_18 {v0 : Nat} : ab_res scr 60 d M 18 [l0, l1] (.ref v0 :: st) = (ab_gF ab_L0 M v0 9 1).bind fun v => ab_res scr 60 d M 21 [l0, l1] (v :: st) := ab_o_getfield (ab_dc hc60 dX9_readLines_18) hk60 lk_fl_9_29
theorem q60_21 : ab_res scr 60 d M 21 [l0, l1] (st) = ab_res scr 60 d M 22 [l0, l1] (.int 0 :: st) := (ab_o_iconst (ab_dc hc60 dX9_readLines_21)).trans (by rw [ki_iconst_0])
theorem q60_22 {v0 : Int32} {v1 : Nat} (hp : (ab_pt v1 10 2 v0 = true) = True) : ab_res scr 60 d M 22 [l0, l1] (.int v0 :: .ref v1 :: st) = ab_res scr 60 d (ab_up M v1 2 v0) 25 [l0, l1] (st) := ab_o_putfield (ab_dc hc60 dX9_readLines_22) hk60 lk_fl_9_36 (of_eq_true hp)
theorem q60_25 {xr : Nat} : ab_res scr 60 d M 25 [some (.ref xr), l1] (st) = ab_res scr 60 d M 26 [some (.ref xr), l1] (.ref xr :: st) := ab_o_aload_n (ab_dc hc60 dX9_readLines_25) rfl
theorem q60_26 {v0 : Nat} : ab_res scr 60 d M 26 [l0, l1] (.ref v0 :: st) = (ab_gF ab_L0 M v0 9 1).bind fun v => ab_res scr 60 d M 29 [l0, l1] (v :: st) := ab_o_getfield (ab_dc hc60 dX9_readLines_26) hk60 lk_fl_9_29
theorem q60_29 {v0 : Nat} (hb : (ab_rc ab_L0 v0 = some 10) = True) : ab_res scr 60 9 M 29 [l0, l1] ([.ref v0]) = (ab_ms scr 72 [.ref v0] M).bind fun o => ab_res scr 60 9 o.1 32 [l0, l1] (ab_pr o.2 []) := ab_o_virtual (ab_dc hc60 dX9_readLines_29) hk60 lk_ca_9_41 hm72 (Nat.le_of_ble_eq_true rfl) rfl rfl rfl (of_eq_true hb) rfl rfl
theorem q60_32 : ab_res scr 60 d M 32 [l0, l1] (st) = ab_res scr 60 d M 33 [l0, l1] (.int 0 :: st) := (ab_o_iconst (ab_dc hc60 dX9_readLines_32)).trans (by rw [ki_iconst_0])
theorem q60_33 {v0 : Int32} : ab_res scr 60 d M 33 [l0, l1] (.int v0 :: st) = ab_res scr 60 d M 34 [ab_nl l0, some (.int v0)] (st) := (ab_o_st1 (k := 1) (ab_dc hc60 dX9_readLines_33) (Or.inr (Or.inr (Or.inl ⟨1, rfl, rfl, rfl, ⟨_, rfl⟩⟩))) hn60 (by decide)).trans (ab_kl1 [] _ l0 rfl rfl)
theorem q60_34 {x : Int32} : ab_res scr 60 d M 34 [l0, some (.int x)] (st) = ab_res scr 60 d M 35 [l0, some (.int x)] (.int x :: st) := ab_o_iload_n (ab_dc hc60 dX9_readLines_34) rfl
theorem q60_35 : ab_res scr 60 d M 35 [l0, l1] (st) = ab_res scr 60 d M 38 [l0, l1] (.int 320 :: st) := (ab_o_sipush (ab_dc hc60 dX9_readLines_35)).trans (by rw [ki_sipush_320])
theorem q60_38 {v0 : Int32} {v1 : Int32} : ab_res scr 60 d M 38 [l0, l1] (.int v0 :: .int v1 :: st) = if v0 ≤ v1 then ab_res scr 60 d M 71 [l0, l1] (st) else ab_res scr 60 d M 41 [l0, l1] (st) := ab_o_br2 (off := 33) (ab_dc hc60 dX9_readLines_38) (by decide) rfl rfl
theorem q60_41 {xr : Nat} : ab_res scr 60 d M 41 [some (.ref xr), l1] (st) = ab_res scr 60 d M 42 [some (.ref xr), l1] (.ref xr :: st) := ab_o_aload_n (ab_dc hc60 dX9_readLines_41) rfl
theorem q60_42 {v0 : Nat} : ab_res scr 60 d M 42 [l0, l1] (.ref v0 :: st) = (ab_gF ab_L0 M v0 9 1).bind fun v => ab_res scr 60 d M 45 [l0, l1] (v :: st) := ab_o_getfield (ab_dc hc60 dX9_readLines_42) hk60 lk_fl_9_29
theorem q60_45 {v0 : Nat} : ab_res scr 60 d M 45 [l0, l1] (.ref v0 :: st) = (ab_gF ab_L0 M v0 10 3).bind fun v => ab_res scr 60 d M 48 [l0, l1] (v :: st) := ab_o_getfield (ab_dc hc60 dX9_readLines_45) hk60 lk_fl_9_44
theorem q60_48 {v0 : Int32} : ab_res scr 60 d M 48 [l0, l1] (.int v0 :: st) = if v0 = 0 then ab_res scr 60 d M 71 [l0, l1] (st) else ab_res scr 60 d M 51 [l0, l1] (st) := ab_o_br2 (off := 23) (ab_dc hc60 dX9_readLines_48) (by decide) rfl rfl
theorem q60_51 {xr : Nat} : ab_res scr 60 d M 51 [some (.ref xr), l1] (st) = ab_res scr 60 d M 52 [some (.ref xr), l1] (.ref xr :: st) := ab_o_aload_n (ab_dc hc60 dX9_readLines_51) rfl
theorem q60_52 {v0 : Nat} (hb : (ab_rc ab_L0 v0 = some 9) = True) : ab_res scr 60 9 M 52 [l0, l1] ([.ref v0]) = (ab_ms scr 61 [.ref v0] M).bind fun o => ab_res scr 60 9 o.1 55 [l0, l1] (ab_pr o.2 []) := ab_o_virtual (ab_dc hc60 dX9_readLines_52) hk60 lk_ca_9_47 hm61 (Nat.le_of_ble_eq_true rfl) rfl rfl rfl (of_eq_true hb) rfl rfl
theorem q60_55 {v0 : Int32} : ab_res scr 60 d M 55 [l0, l1] (.int v0 :: st) = if v0 = 0 then ab_res scr 60 d M 71 [l0, l1] (st) else ab_res scr 60 d M 58 [l0, l1] (st) := ab_o_br2 (off := 16) (ab_dc hc60 dX9_readLines_55) (by decide) rfl rfl
theorem q60_58 {x : Int32} : ab_res scr 60 d M 58 [l0, some (.int x)] (st) = ab_res scr 60 d M 61 [ab_nl l0, some (.int (x + 1))] (st) := (ab_o_iinc (k := 1) (ab_dc hc60 dX9_readLines_58) hn60 (by decide) rfl).trans (by rw [ki_iconst_1]; exact ab_kl1 [] _ l0 rfl rfl)
theorem q60_61 {xr : Nat} : ab_res scr 60 d M 61 [some (.ref xr), l1] (st) = ab_res scr 60 d M 62 [some (.ref xr), l1] (.ref xr :: st) := ab_o_aload_n (ab_dc hc60 dX9_readLines_61) rfl
theorem q60_62 {v0 : Nat} : ab_res scr 60 d M 62 [l0, l1] (.ref v0 :: st) = (ab_gF ab_L0 M v0 9 1).bind fun v => ab_res scr 60 d M 65 [l0, l1] (v :: st) := ab_o_getfield (ab_dc hc60 dX9_readLines_62) hk60 lk_fl_9_29
theorem q60_65 {v0 : Nat} (hb : (ab_rc ab_L0 v0 = some 10) = True) : ab_res scr 60 9 M 65 [l0, l1] ([.ref v0]) = (ab_ms scr 72 [.ref v0] M).bind fun o => ab_res scr 60 9 o.1 68 [l0, l1] (ab_pr o.2 []) := ab_o_virtual (ab_dc hc60 dX9_readLines_65) hk60 lk_ca_9_41 hm72 (Nat.le_of_ble_eq_true rfl) rfl rfl rfl (of_eq_true hb) rfl rfl
theorem q60_68 : ab_res scr 60 d M 68 [l0, l1] (st) = ab_res scr 60 d M 34 [l0, l1] (st) := ab_o_goto (ab_dc hc60 dX9_readLines_68) (by decide)
theorem q60_71 {x : Int32} : ab_res scr 60 d M 71 [l0, some (.int x)] (st) = ab_res scr 60 d M 72 [l0, some (.int x)] (.int x :: st) := ab_o_iload_n (ab_dc hc60 dX9_readLines_71) rfl
theorem q60_72 {v0 : Int32} : ab_res scr 60 d M 72 [l0, l1] ([.int v0]) = some (M, some (.int v0)) := ab_o_ireturn (ab_dc hc60 dX9_readLines_72) hr60 rfl
end Q60
