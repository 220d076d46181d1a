theorem hc111 : ab_code 111 = cX11_within := rfl
theorem hn111 : ab_nL 111 = 2 := rfl
theorem hk111 : ab_ky 111 = 11 := rfl
theorem hr111 : ab_ret 111 = some .boolean := rfl
section Q111
variable {scr : Option (List Int32)} {d : Nat} {M : ab_M} {st : List Value} {l0 l1 : Option Value}
theorem q111_0 {x : Int32} : ab_res scr 111 d M 0 [some (.int x), l1] (st) = ab_res scr 111 d M 1 [some (.int x), l1] (.int x :: st) := ab_o_iload_n (ab_dc hc111 dX11_within_0) rfl
theorem q111_1 {v0 : Int32} : ab_res scr 111 d M 1 [l0, l1] (.int v0 :: st) = if v0 < 0 then ab_res scr 111 d M 13 [l0, l1] (st) else ab_res scr 111 d M 4 [l0, l1] (st) := ab_o_br2 (off := 12) (ab_dc hc111 dX11_within_1) (by decide) rfl rfl
theorem q111_4 {x : Int32} : ab_res scr 111 d M 4 [some (.int x), l1] (st) = ab_res scr 111 d M 5 [some (.int x), l1] (.int x :: st) := ab_o_iload_n (ab_dc hc111 dX11_within_4) rfl
theorem q111_5 {x : Int32} : ab_res scr 111 d M 5 [l0, some (.int x)] (st) = ab_res scr 111 d M 6 [l0, some (.int x)] (.int x :: st) := ab_o_iload_n (ab_dc hc111 dX11_within_5) rfl
theorem q111_6 {v0 : Int32} {v1 : Int32} : ab_res scr 111 d M 6 [l0, l1] (.int v0 :: .int v1 :: st) = if v0 ≤ v1 then ab_res scr 111 d M 13 [l0, l1] (st) else ab_res scr 111 d M 9 [l0, l1] (st) := ab_o_br2 (off := 7) (ab_dc hc111 dX11_within_6) (by decide) rfl rfl
theorem q111_9 : ab_res scr 111 d M 9 [l0, l1] (st) = ab_res scr 111 d M 10 [l0, l1] (.int 1 :: st) := (ab_o_iconst (ab_dc hc111 dX11_within_9)).trans (by rw [ki_iconst_1])
theorem q111_10 : ab_res scr 111 d M 10 [l0, l1] (st) = ab_res scr 111 d M 14 [l0, l1] (st) := ab_o_goto (ab_dc hc111 dX11_within_10) (by decide)
theorem q111_13 : ab_res scr 111 d M 13 [l0, l1] (st) = ab_res scr 111 d M 14 [l0, l1] (.int 0 :: st) := (ab_o_iconst (ab_dc hc111 dX11_within_13)).trans (by rw [ki_iconst_0])
theorem q111_14 {v0 : Int32} (hv : (narrow .boolean (.int v0) = .int v0) = True) : ab_res scr 111 d M 14 [l0, l1] ([.int v0]) = some (M, some (.int v0)) := ab_o_ireturn (ab_dc hc111 dX11_within_14) hr111 (of_eq_true hv)
end Q111
theorem hc112 : ab_code 112 = cX11_isAmong := rfl
theorem hn112 : ab_nL 112 = 2 := rfl
theorem hk112 : ab_ky 112 = 11 := rfl
theorem hr112 : ab_ret 112 = some .boolean := rfl
section Q112
variable {scr : Option (List Int32)} {d : Nat} {M : ab_M} {st : List Value} {l0 l1 : Option Value}
theorem q112_0 {x : Int32} : ab_res scr 112 d M 0 [l0, some (.int x)] (st) = ab_res scr 112 d M 1 [l0, some (.int x)] (.int x :: st) := ab_o_iload_n (ab_dc hc112 dX11_isAmong_0) rfl
theorem q112_1 {x : Int32} : ab_res scr 112 d M 1 [some (.int x), l1] (st) = ab_res scr 112 d M 2 [some (.int x), l1] (.int x :: st) := ab_o_iload_n (ab_dc hc112 dX11_isAmong_1) rfl
theorem q112_2 {v0 : Int32} {v1 : Int32} : ab_res scr 112 d M 2 [l0, l1] (.int v0 :: .int v1 :: st) = ab_res scr 112 d M 3 [l0, l1] (.int (v1 >>> (v0 &&& 31)) :: st) := ab_xg (ab_dc hc112 dX11_isAmong_2) rfl rfl
theorem q112_3 : ab_res scr 112 d M 3 [l0, l1] (st) = ab_res scr 112 d M 4 [l0, l1] (.int 1 :: st) := (ab_o_iconst (ab_dc hc112 dX11_isAmong_3)).trans (by rw [ki_iconst_1])
theorem q112_4 {v0 : Int32} {v1 : Int32} : ab_res scr 112 d M 4 [l0, l1] (.int v0 :: .int v1 :: st) = ab_res scr 112 d M 5 [l0, l1] (.int (v1 &&& v0) :: st) := ab_xg (ab_dc hc112 dX11_isAmong_4) rfl rfl
theorem q112_5 {v0 : Int32} : ab_res scr 112 d M 5 [l0, l1] (.int v0 :: st) = if v0 = 0 then ab_res scr 112 d M 12 [l0, l1] (st) else ab_res scr 112 d M 8 [l0, l1] (st) := ab_o_br2 (off := 7) (ab_dc hc112 dX11_isAmong_5) (by decide) rfl rfl
theorem q112_8 : ab_res scr 112 d M 8 [l0, l1] (st) = ab_res scr 112 d M 9 [l0, l1] (.int 1 :: st) := (ab_o_iconst (ab_dc hc112 dX11_isAmong_8)).trans (by rw [ki_iconst_1])
theorem q112_9 : ab_res scr 112 d M 9 [l0, l1] (st) = ab_res scr 112 d M 13 [l0, l1] (st) := ab_o_goto (ab_dc hc112 dX11_isAmong_9) (by decide)
theorem q112_12 : ab_res scr 112 d M 12 [l0, l1] (st) = ab_res scr 112 d M 13 [l0, l1] (.int 0 :: st) := (ab_o_iconst (ab_dc hc112 dX11_isAmong_12)).trans (by rw [ki_iconst_0])
theorem q112_13 {v0 : Int32} (hv : (narrow .boolean (.int v0) = .int v0) = True) : ab_res scr 112 d M 13 [l0, l1] ([.int v0]) = some (M, some (.int v0)) := ab_o_ireturn (ab_dc hc112 dX11_isAmong_13) hr112 (of_eq_true hv)
end Q112
theorem hc113 : ab_code 113 = cX11_hold := rfl
theorem hn113 : ab_nL 113 = 3 := rfl
theorem hk113 : ab_ky 113 = 11 := rfl
theorem hr113 : ab_ret 113 = none := rfl
section Q113
variable {scr : Option (List Int32)} {d : Nat} {M : ab_M} {st : List Value} {l0 l1 l2 : Option Value}
theorem q113_0 {xr : Nat} : ab_res scr 113 d M 0 [some (.ref xr), l1, l2] (st) = ab_res scr 113 d M 1 [some (.ref xr), l1, l2] (.ref xr :: st) := ab_o_aload_n (ab_dc hc113 dX11_hold_0) rfl
theorem q113_1 {v0 : Nat} : ab_res scr 113 d M 1 [l0, l1, l2] (.ref v0 :: st) = (ab_gF ab_L0 M v0 11 5).bind fun v => ab_res scr 113 d M 4 [l0, l1, l2] (v :: st) := ab_o_getfield (ab_dc hc113 dX11_hold_1) hk113 lk_fl_11_49
theorem q113_4 {x : Int32} : ab_res scr 113 d M 4 [l0, some (.int x), l2] (st) = ab_res scr 113 d M 5 [l0, some (.int x), l2] (.int x :: st) := ab_o_iload_n (ab_dc hc113 dX11_hold_4) rfl
theorem q113_5 {x : Int32} : ab_res scr 113 d M 5 [l0, l1, some (.int x)] (st) = ab_res scr 113 d M 6 [l0, l1, some (.int x)] (.int x :: st) := ab_o_iload_n (ab_dc hc113 dX11_hold_5) rfl
theorem q113_6 {v0 : Int32} {v1 : Int32} {v2 : Nat} (hb : (ab_rc ab_L0 v2 = some 1) = True) : ab_res scr 113 7 M 6 [l0, l1, l2] ([.int v0, .int v1, .ref v2]) = (ab_ms scr 3 [.ref v2, .int v1, .int v0] M).bind fun o => ab_res scr 113 7 o.1 9 [l0, l1, l2] (ab_pr o.2 []) := ab_o_virtual (ab_dc hc113 dX11_hold_6) hk113 lk_ca_11_269 hm3 (Nat.le_of_ble_eq_true rfl) rfl rfl rfl (of_eq_true hb) rfl rfl
theorem q113_9 {xr : Nat} : ab_res scr 113 d M 9 [some (.ref xr), l1, l2] (st) = ab_res scr 113 d M 10 [some (.ref xr), l1, l2] (.ref xr :: st) := ab_o_aload_n (ab_dc hc113 dX11_hold_9) rfl
theorem q113_10 {v0 : Nat} : ab_res scr 113 d M 10 [l0, l1, l2] (.ref v0 :: st) = (ab_gF ab_L0 M v0 11 5).bind fun v => ab_res scr 113 d M 13 [l0, l1, l2] (v :: st) := ab_o_getfield (ab_dc hc113 dX11_hold_10) hk113 lk_fl_11_49
theorem q113_13 {v0 : Nat} (hb : (ab_rc ab_L0 v0 = some 1) = True) : ab_res scr 113 7 M 13 [l0, l1, l2] ([.ref v0]) = (ab_ms scr 6 [.ref v0] M).bind fun o => ab_res scr 113 7 o.1 16 [l0, l1, l2] (ab_pr o.2 []) := ab_o_virtual (ab_dc hc113 dX11_hold_13) hk113 lk_ca_11_253 hm6 (Nat.le_of_ble_eq_true rfl) rfl rfl rfl (of_eq_true hb) rfl rfl
theorem q113_16 : ab_res scr 113 d M 16 [l0, l1, l2] ([]) = some (M, none) := ab_o_return (ab_dc hc113 dX11_hold_16) hr113
end Q113
theorem hc114 : ab_code 114 = cX11_meanShares := rfl
theorem hn114 : ab_nL 114 = 5 := rfl
theorem hk114 : ab_ky 114 = 11 := rfl
theorem hr114 : ab_ret 114 = some .long := rfl
section Q114
variable {scr : Option (List Int32)} {d : Nat} {M : ab_M} {st : List Value} {l0 l1 l2 l3 l4 : Option Value}
theorem q114_0 : ab_res scr 114 d M 0 [l0, l1, l2, l3, l4] (st) = ab_res scr 114 d M 1 [l0, l1, l2, l3, l4] (.long 0 :: st) := ab_o_lconst (ab_dc hc114 dX11_meanShares_0)
theorem q114_1 {v0 : Int64} : ab_res scr 114 d M 1 [l0, l1, l2, l3, l4] (.long v0 :: st) = ab_res scr 114 d M 2 [l0, ab_nl l1, some (.long v0), none, l4] (st) := (ab_o_st2 (k := 2) (ab_dc hc114 dX11_meanShares_1) (Or.inr ⟨2, rfl, rfl, rfl⟩) hn114 (by decide)).trans (ab_kl2 [l0] _ l1 rfl rfl)
theorem q114_2 : ab_res scr 114 d M 2 [l0, l1, l2, l3, l4] (st) = ab_res scr 114 d M 3 [l0, l1, l2, l3, l4] (.int 0 :: st) := (ab_o_iconst (ab_dc hc114 dX11_meanShares_2)).trans (by rw [ki_iconst_0])
theorem q114_3 {v0 : Int32} : ab_res scr 114 d M 3 [l0, l1, l2, l3, l4] (.int v0 :: st) = ab_res scr 114 d M 5 [l0, l1, l2, ab_nl l3, some (.int v0)] (st) := (ab_o_st1 (k := 4) (ab_dc hc114 dX11_meanShares_3) (Or.inl ⟨rfl, rfl, ⟨_, rfl⟩⟩) hn114 (by decide)).trans (ab_kl1 [l0, l1, l2] _ l3 rfl rfl)
theorem q114_5 {x : Int32} : ab_res scr 114 d M 5 [l0, l1, l2, l3, some (.int x)] (st) = ab_res scr 114 d M 7 [l0, l1, l2, l3, some (.int x)] (.int x :: st) := ab_o_iload (ab_dc hc114 dX11_meanShares_5) rfl
theorem q114_7 {xr : Nat} : ab_res scr 114 d M 7 [some (.ref xr), l1, l2, l3, l4] (st) = ab_res scr 114 d M 8 [some (.ref xr), l1, l2, l3, l4] (.ref xr :: st) := ab_o_aload_n (ab_dc hc114 dX11_meanShares_7) rfl
theorem q114_8 {v0 : Nat} : ab_res scr 114 d M 8 [l0, l1, l2, l3, l4] (.ref v0 :: st) = (ab_gF ab_L0 M v0 11 5).bind fun v => ab_res scr 114 d M 11 [l0, l1, l2, l3, l4] (v :: st) := ab_o_getfield (ab_dc hc114 dX11_meanShares_8) hk114 lk_fl_11_49
theorem q114_11 {v0 : Nat} : ab_res scr 114 d M 11 [l0, l1, l2, l3, l4] (.ref v0 :: st) = (ab_gF ab_L0 M v0 1 3).bind fun v => ab_res scr 114 d M 14 [l0, l1, l2, l3, l4] (v :: st) := ab_o_getfield (ab_dc hc114 dX11_meanShares_11) hk114 lk_fl_11_130
theorem q114_14 {v0 : Int32} {v1 : Int32} : ab_res scr 114 d M 14 [l0, l1, l2, l3, l4] (.int v0 :: .int v1 :: st) = if v0 ≤ v1 then ab_res scr 114 d M 41 [l0, l1, l2, l3, l4] (st) else ab_res scr 114 d M 17 [l0, l1, l2, l3, l4] (st) := ab_o_br2 (off := 27) (ab_dc hc114 dX11_meanShares_14) (by decide) rfl rfl
theorem q114_17 {xj : Int64} : ab_res scr 114 d M 17 [l0, l1, some (.long xj), l3, l4] (st) = ab_res scr 114 d M 18 [l0, l1, some (.long xj), l3, l4] (.long xj :: st) := ab_o_lload_n (ab_dc hc114 dX11_meanShares_17) rfl
theorem q114_18 {xr : Nat} : ab_res scr 114 d M 18 [some (.ref xr), l1, l2, l3, l4] (st) = ab_res scr 114 d M 19 [some (.ref xr), l1, l2, l3, l4] (.ref xr :: st) := ab_o_aload_n (ab_dc hc114 dX11_meanShares_18) rfl
theorem q114_19 {xr : Nat} : ab_res scr 114 d M 19 [some (.ref xr), l1, l2, l3, l4] (st) = ab_res scr 114 d M 20 [some (.ref xr), l1, l2, l3, l4] (.ref xr :: st) := ab_o_aload_n (ab_dc hc114 dX11_meanShares_19) rfl
theorem q114_20 {v0 : Nat} : ab_res scr 114 d M 20 [l0, l1, l2, l3, l4] (.ref v0 :: st) = (ab_gF ab_L0 M v0 11 5).bind fun v => ab_res scr 114 d M 23 [l0, l1, l2, l3, l4] (v :: st) := ab_o_getfield (ab_dc hc114 dX11_meanShares_20) hk114 lk_fl_11_49
theorem q114_23 {v0 : Nat} : ab_res scr 114 d M 23 [l0, l1, l2, l3, l4] (.ref v0 :: st) = (ab_gF ab_L0 M v0 1 2).bind fun v => ab_res scr 114 d M 26 [l0, l1, l2, l3, l4] (v :: st) := ab_o_getfield (ab_dc hc114 dX11_meanShares_23) hk114 lk_fl_11_151
theorem q114_26 {x : Int32} : ab_res scr 114 d M 26 [l0, l1, l2, l3, some (.int x)] (st) = ab_res scr 114 d M 28 [l0, l1, l2, l3, some (.int x)] (.int x :: st) := ab_o_iload (ab_dc hc114 dX11_meanShares_26) rfl
theorem q114_28 {v0 : Int32} {v1 : Nat} : ab_res scr 114 d M 28 [l0, l1, l2, l3, l4] (.int v0 :: .ref v1 :: st) = (ab_qe v1 v0).bind fun v => ab_res scr 114 d M 29 [l0, l1, l2, l3, l4] (v :: st) := ab_o_aaload (ab_dc hc114 dX11_meanShares_28)
theorem q114_29 {x : Int32} : ab_res scr 114 d M 29 [l0, some (.int x), l2, l3, l4] (st) = ab_res scr 114 d M 30 [l0, some (.int x), l2, l3, l4] (.int x :: st) := ab_o_iload_n (ab_dc hc114 dX11_meanShares_29) rfl
theorem q114_30 {v0 : Int32} {v1 : Nat} {v2 : Nat} {v3 : Int64} (hb : (ab_rc ab_L0 v2 = some 11) = True) : ab_res scr 114 3 M 30 [l0, l1, l2, l3, l4] ([.int v0, .ref v1, .ref v2, .long v3]) = (ab_ms scr 116 [.ref v2, .ref v1, .int v0] M).bind fun o => ab_res scr 114 3 o.1 33 [l0, l1, l2, l3, l4] (ab_pr o.2 [.long v3]) := ab_o_virtual (ab_dc hc114 dX11_meanShares_30) hk114 lk_ca_11_307 hm116 (Nat.le_of_ble_eq_true rfl) rfl rfl rfl (of_eq_true hb) rfl rfl
theorem q114_33 {v0 : Int64} {v1 : Int64} : ab_res scr 114 d M 33 [l0, l1, l2, l3, l4] (.long v0 :: .long v1 :: st) = ab_res scr 114 d M 34 [l0, l1, l2, l3, l4] (.long (v1 + v0) :: st) := ab_xg (ab_dc hc114 dX11_meanShares_33) rfl rfl
theorem q114_34 {v0 : Int64} : ab_res scr 114 d M 34 [l0, l1, l2, l3, l4] (.long v0 :: st) = ab_res scr 114 d M 35 [l0, ab_nl l1, some (.long v0), none, l4] (st) := (ab_o_st2 (k := 2) (ab_dc hc114 dX11_meanShares_34) (Or.inr ⟨2, rfl, rfl, rfl⟩) hn114 (by decide)).trans (ab_kl2 [l0] _ l1 rfl rfl)
theorem q114_35 {x : Int32} : ab_res scr 114 d M 35 [l0, l1, l2, l3, some (.int x)] (st) = ab_res scr 114 d M 38 [l0, l1, l2, ab_nl l3, some (.int (x + 1))] (st) := (ab_o_iinc (k := 4) (ab_dc hc114 dX11_meanShares_35) hn114 (by decide) rfl).trans (by rw [ki_iconst_1]; exact ab_kl1 [l0, l1, l2] _ l3 rfl rfl)
theorem q114_38 : ab_res scr 114 d M 38 [l0, l1, l2, l3, l4] (st) = ab_res scr 114 d M 5 [l0, l1, l2, l3, l4] (st) := ab_o_goto (ab_dc hc114 dX11_meanShares_38) (by decide)
theorem q114_41 {xj : Int64} : ab_res scr 114 d M 41 [l0, l1, some (.long xj), l3, l4] (st) = ab_res scr 114 d M 42 [l0, l1, some (.long xj), l3, l4] (.long xj :: st) := ab_o_lload_n (ab_dc hc114 dX11_meanShares_41) rfl
theorem q114_42 {v0 : Int64} : ab_res scr 114 d M 42 [l0, l1, l2, l3, l4] ([.long v0]) = some (M, some (.long v0)) := ab_o_lreturn (ab_dc hc114 dX11_meanShares_42) hr114
end Q114
theorem hc115 : ab_code 115 = cX11_spreadShares := rfl
theorem hn115 : ab_nL 115 = 7 := rfl
theorem hk115 : ab_ky 115 = 11 := rfl
theorem hr115 : ab_ret 115 = some .long := rfl
section Q115
variable {scr : Option (List Int32)} {d : Nat} {M : ab_M} {st : List Value} {l0 l1 l2 l3 l4 l5 l6 : Option Value}
theorem q115_0 : ab_res scr 115 d M 0 [l0, l1, l2, l3, l4, l5, l6] (st) = ab_res scr 115 d M 1 [l0, l1, l2, l3, l4, l5, l6] (.long 0 :: st) := ab_o_lconst (ab_dc hc115 dX11_spreadShares_0)
theorem q115_1 {v0 : Int64} : ab_res scr 115 d M 1 [l0, l1, l2, l3, l4, l5, l6] (.long v0 :: st) = ab_res scr 115 d M 2 [l0, ab_nl l1, some (.long v0), none, l4, l5, l6] (st) := (ab_o_st2 (k := 2) (ab_dc hc115 dX11_spreadShares_1) (Or.inr ⟨2, rfl, rfl, rfl⟩) hn115 (by decide)).trans (ab_kl2 [l0] _ l1 rfl rfl)
theorem q115_2 : ab_res scr 115 d M 2 [l0, l1, l2, l3, l4, l5, l6] (st) = ab_res scr 115 d M 3 [l0, l1, l2, l3, l4, l5, l6] (.int 0 :: st) := (ab_o_iconst (ab_dc hc115 dX11_spreadShares_2)).trans (by rw [ki_iconst_0])
theorem q115_3 {v0 : Int32} : ab_res scr 115 d M 3 [l0, l1, l2, l3, l4, l5, l6] (.int v0 :: st) = ab_res scr 115 d M 5 [l0, l1, l2, ab_nl l3, some (.int v0), l5, l6] (st) := (ab_o_st1 (k := 4) (ab_dc hc115 dX11_spreadShares_3) (Or.inl ⟨rfl, rfl, ⟨_, rfl⟩⟩) hn115 (by decide)).trans (ab_kl1 [l0, l1, l2] _ l3 rfl rfl)
theorem q115_5 {x : Int32} : ab_res scr 115 d M 5 [l0, l1, l2, l3, some (.int x), l5, l6] (st) = ab_res scr 115 d M 7 [l0, l1, l2, l3, some (.int x), l5, l6] (.int x :: st) := ab_o_iload (ab_dc hc115 dX11_spreadShares_5) rfl
theorem q115_7 {xr : Nat} : ab_res scr 115 d M 7 [some (.ref xr), l1, l2, l3, l4, l5, l6] (st) = ab_res scr 115 d M 8 [some (.ref xr), l1, l2, l3, l4, l5, l6] (.ref xr :: st) := ab_o_aload_n (ab_dc hc115 dX11_spreadShares_7) rfl
theorem q115_8 {v0 : Nat} : ab_res scr 115 d M 8 [l0, l1, l2, l3, l4, l5, l6] (.ref v0 :: st) = (ab_gF ab_L0 M v0 11 5).bind fun v => ab_res scr 115 d M 11 [l0, l1, l2, l3, l4, l5, l6] (v :: st) := ab_o_getfield (ab_dc hc115 dX11_spreadShares_8) hk115 lk_fl_11_49
theorem q115_11 {v0 : Nat} : ab_res scr 115 d M 11 [l0, l1, l2, l3, l4, l5, l6] (.ref v0 :: st) = (ab_gF ab_L0 M v0 1 3).bind fun v => ab_res scr 115 d M 14 [l0, l1, l2, l3, l4, l5, l6] (v :: st) := ab_o_getfield (ab_dc hc115 dX11_spreadShares_11) hk115 lk_fl_11_130
theorem q115_14 {v0 : Int32} {v1 : Int32} : ab_res scr 115 d M 14 [l0, l1, l2, l3, l4, l5, l6] (.int v0 :: .int v1 :: st) = if v0 ≤ v1 then ab_res scr 115 d M 67 [l0, l1, l2, l3, l4, l5, l6] (st) else ab_res scr 115 d M 17 [l0, l1, l2, l3, l4, l5, l6] (st) := ab_o_br2 (off := 53) (ab_dc hc115 dX11_spreadShares_14) (by decide) rfl rfl
theorem q115_17 {xr : Nat} : ab_res scr 115 d M 17 [some (.ref xr), l1, l2, l3, l4, l5, l6] (st) = ab_res scr 115 d M 18 [some (.ref xr), l1, l2, l3, l4, l5, l6] (.ref xr :: st) := ab_o_aload_n (ab_dc hc115 dX11_spreadShares_17) rfl
theorem q115_18 {xr : Nat} : ab_res scr 115 d M 18 [some (.ref xr), l1, l2, l3, l4, l5, l6] (st) = ab_res scr 115 d M 19 [some (.ref xr), l1, l2, l3, l4, l5, l6] (.ref xr :: st) := ab_o_aload_n (ab_dc hc115 dX11_spreadShares_18) rfl
theorem q115_19 {v0 : Nat} : ab_res scr 115 d M 19 [l0, l1, l2, l3, l4, l5, l6] (.ref v0 :: st) = (ab_gF ab_L0 M v0 11 5).bind fun v => ab_res scr 115 d M 22 [l0, l1, l2, l3, l4, l5, l6] (v :: st) := ab_o_getfield (ab_dc hc115 dX11_spreadShares_19) hk115 lk_fl_11_49
theorem q115_22 {v0 : Nat} : ab_res scr 115 d M 22 [l0, l1, l2, l3, l4, l5, l6] (.ref v0 :: st) = (ab_gF ab_L0 M v0 1 2).bind fun v => ab_res scr 115 d M 25 [l0, l1, l2, l3, l4, l5, l6] (v :: st) := ab_o_getfield (ab_dc hc115 dX11_spreadShares_22) hk115 lk_fl_11_151
theorem q115_25 {x : Int32} : ab_res scr 115 d M 25 [l0, l1, l2, l3, some (.int x), l5, l6] (st) = ab_res scr 115 d M 27 [l0, l1, l2, l3, some (.int x), l5, l6] (.int x :: st) := ab_o_iload (ab_dc hc115 dX11_spreadShares_25) rfl
theorem q115_27 {v0 : Int32} {v1 : Nat} : ab_res scr 115 d M 27 [l0, l1, l2, l3, l4, l5, l6] (.int v0 :: .ref v1 :: st) = (ab_qe v1 v0).bind fun v => ab_res scr 115 d M 28 [l0, l1, l2, l3, l4, l5, l6] (v :: st) := ab_o_aaload (ab_dc hc115 dX11_spreadShares_27)
theorem q115_28 {x : Int32} : ab_res scr 115 d M 28 [l0, some (.int x), l2, l3, l4, l5, l6] (st) = ab_res scr 115 d M 29 [l0, some (.int x), l2, l3, l4, l5, l6] (.int x :: st) := ab_o_iload_n (ab_dc hc115 dX11_spreadShares_28) rfl
theorem q115_29 {v0 : Int32} {v1 : Nat} {v2 : Nat} (hb : (ab_rc ab_L0 v2 = some 11) = True) : ab_res scr 115 3 M 29 [l0, l1, l2, l3, l4, l5, l6] ([.int v0, .ref v1, .ref v2]) = (ab_ms scr 116 [.ref v2, .ref v1, .int v0] M).bind fun o => ab_res scr 115 3 o.1 32 [l0, l1, l2, l3, l4, l5, l6] (ab_pr o.2 []) := ab_o_virtual (ab_dc hc115 dX11_spreadShares_29) hk115 lk_ca_11_307 hm116 (Nat.le_of_ble_eq_true rfl) rfl rfl rfl (of_eq_true hb) rfl rfl
theorem q115_32 {v0 : Int64} : ab_res scr 115 d M 32 [l0, l1, l2, l3, l4, l5, l6] (.long v0 :: st) = ab_res scr 115 d M 34 [l0, l1, l2, l3, ab_nl l4, some (.long v0), none] (st) := (ab_o_st2 (k := 5) (ab_dc hc115 dX11_spreadShares_32) (Or.inl ⟨rfl, rfl⟩) hn115 (by decide)).trans (ab_kl2 [l0, l1, l2, l3] _ l4 rfl rfl)
theorem q115_34 {xj : Int64} : ab_res scr 115 d M 34 [l0, l1, some (.long xj), l3, l4, l5, l6] (st) = ab_res scr 115 d M 35 [l0, l1, some (.long xj), l3, l4, l5, l6] (.long xj :: st) := ab_o_lload_n (ab_dc hc115 dX11_spreadShares_34) rfl
theorem q115_35 {xj : Int64} : ab_res scr 115 d M 35 [l0, l1, l2, l3, l4, some (.long xj), l6] (st) = ab_res scr 115 d M 37 [l0, l1, l2, l3, l4, some (.long xj), l6] (.long xj :: st) := ab_o_lload (ab_dc hc115 dX11_spreadShares_35) rfl
theorem q115_37 {xr : Nat} : ab_res scr 115 d M 37 [some (.ref xr), l1, l2, l3, l4, l5, l6] (st) = ab_res scr 115 d M 38 [some (.ref xr), l1, l2, l3, l4, l5, l6] (.ref xr :: st) := ab_o_aload_n (ab_dc hc115 dX11_spreadShares_37) rfl
theorem q115_38 {v0 : Nat} : ab_res scr 115 d M 38 [l0, l1, l2, l3, l4, l5, l6] (.ref v0 :: st) = (ab_gF ab_L0 M v0 11 5).bind fun v => ab_res scr 115 d M 41 [l0, l1, l2, l3, l4, l5, l6] (v :: st) := ab_o_getfield (ab_dc hc115 dX11_spreadShares_38) hk115 lk_fl_11_49
theorem q115_41 {v0 : Nat} : ab_res scr 115 d M 41 [l0, l1, l2, l3, l4, l5, l6] (.ref v0 :: st) = (ab_gF ab_L0 M v0 1 2).bind fun v => ab_res scr 115 d M 44 [l0, l1, l2, l3, l4, l5, l6] (v :: st) := ab_o_getfield (ab_dc hc115 dX11_spreadShares_41) hk115 lk_fl_11_151
theorem q115_44 {x : Int32} : ab_res scr 115 d M 44 [l0, l1, l2, l3, some (.int x), l5, l6] (st) = ab_res scr 115 d M 46 [l0, l1, l2, l3, some (.int x), l5, l6] (.int x :: st) := ab_o_iload (ab_dc hc115 dX11_spreadShares_44) rfl
theorem q115_46 {v0 : Int32} {v1 : Nat} : ab_res scr 115 d M 46 [l0, l1, l2, l3, l4, l5, l6] (.int v0 :: .ref v1 :: st) = (ab_qe v1 v0).bind fun v => ab_res scr 115 d M 47 [l0, l1, l2, l3, l4, l5, l6] (v :: st) := ab_o_aaload (ab_dc hc115 dX11_spreadShares_46)
theorem q115_47 {v0 : Nat} : ab_res scr 115 d M 47 [l0, l1, l2, l3, l4, l5, l6] (.ref v0 :: st) = (ab_gF ab_L0 M v0 6 2).bind fun v => ab_res scr 115 d M 50 [l0, l1, l2, l3, l4, l5, l6] (v :: st) := ab_o_getfield (ab_dc hc115 dX11_spreadShares_47) hk115 lk_fl_11_163
theorem q115_50 {v0 : Int32} : ab_res scr 115 d M 50 [l0, l1, l2, l3, l4, l5, l6] (.int v0 :: st) = ab_res scr 115 d M 51 [l0, l1, l2, l3, l4, l5, l6] (.long v0.toInt64 :: st) := ab_xg (ab_dc hc115 dX11_spreadShares_50) rfl rfl
theorem q115_51 : ab_res scr 115 d M 51 [l0, l1, l2, l3, l4, l5, l6] (st) = ab_res scr 115 d M 54 [l0, l1, l2, l3, l4, l5, l6] (.long 840 :: st) := ab_o_ldc2_w (ab_dc hc115 dX11_spreadShares_51) hk115 lk_ko_11_262
theorem q115_54 {v0 : Int64} {v1 : Int64} : ab_res scr 115 d M 54 [l0, l1, l2, l3, l4, l5, l6] (.long v0 :: .long v1 :: st) = ab_res scr 115 d M 55 [l0, l1, l2, l3, l4, l5, l6] (.long (v1 * v0) :: st) := ab_xg (ab_dc hc115 dX11_spreadShares_54) rfl rfl
theorem q115_55 {xj : Int64} : ab_res scr 115 d M 55 [l0, l1, l2, l3, l4, some (.long xj), l6] (st) = ab_res scr 115 d M 57 [l0, l1, l2, l3, l4, some (.long xj), l6] (.long xj :: st) := ab_o_lload (ab_dc hc115 dX11_spreadShares_55) rfl
theorem q115_57 {v0 : Int64} {v1 : Int64} : ab_res scr 115 d M 57 [l0, l1, l2, l3, l4, l5, l6] (.long v0 :: .long v1 :: st) = ab_res scr 115 d M 58 [l0, l1, l2, l3, l4, l5, l6] (.long (v1 - v0) :: st) := ab_xg (ab_dc hc115 dX11_spreadShares_57) rfl rfl
theorem q115_58 {v0 : Int64} {v1 : Int64} : ab_res scr 115 d M 58 [l0, l1, l2, l3, l4, l5, l6] (.long v0 :: .long v1 :: st) = ab_res scr 115 d M 59 [l0, l1, l2, l3, l4, l5, l6] (.long (v1 * v0) :: st) := ab_xg (ab_dc hc115 dX11_spreadShares_58) rfl rfl
theorem q115_59 {v0 : Int64} {v1 : Int64} : ab_res scr 115 d M 59 [l0, l1, l2, l3, l4, l5, l6] (.long v0 :: .long v1 :: st) = ab_res scr 115 d M 60 [l0, l1, l2, l3, l4, l5, l6] (.long (v1 + v0) :: st) := ab_xg (ab_dc hc115 dX11_spreadShares_59) rfl rfl
theorem q115_60 {v0 : Int64} : ab_res scr 115 d M 60 [l0, l1, l2, l3, l4, l5, l6] (.long v0 :: st) = ab_res scr 115 d M 61 [l0, ab_nl l1, some (.long v0), none, l4, l5, l6] (st) := (ab_o_st2 (k := 2) (ab_dc hc115 dX11_spreadShares_60) (Or.inr ⟨2, rfl, rfl, rfl⟩) hn115 (by decide)).trans (ab_kl2 [l0] _ l1 rfl rfl)
theorem q115_61 {x : Int32} : ab_res scr 115 d M 61 [l0, l1, l2, l3, some (.int x), l5, l6] (st) = ab_res scr 115 d M 64 [l0, l1, l2, ab_nl l3, some (.int (x + 1)), l5, l6] (st) := (ab_o_iinc (k := 4) (ab_dc hc115 dX11_spreadShares_61) hn115 (by decide) rfl).trans (by rw [ki_iconst_1]; exact ab_kl1 [l0, l1, l2] _ l3 rfl rfl)
theorem q115_64 : ab_res scr 115 d M 64 [l0, l1, l2, l3, l4, l5, l6] (st) = ab_res scr 115 d M 5 [l0, l1, l2, l3, l4, l5, l6] (st) := ab_o_goto (ab_dc hc115 dX11_spreadShares_64) (by decide)
theorem q115_67 {xj : Int64} : ab_res scr 115 d M 67 [l0, l1, some (.long xj), l3, l4, l5, l6] (st) = ab_res scr 115 d M 68 [l0, l1, some (.long xj), l3, l4, l5, l6] (.long xj :: st) := ab_o_lload_n (ab_dc hc115 dX11_spreadShares_67) rfl
theorem q115_68 {v0 : Int64} : ab_res scr 115 d M 68 [l0, l1, l2, l3, l4, l5, l6] ([.long v0]) = some (M, some (.long v0)) := ab_o_lreturn (ab_dc hc115 dX11_spreadShares_68) hr115
end Q115
theorem hc116 : ab_code 116 = cX11_shareOf := rfl
theorem hn116 : ab_nL 116 = 5 := rfl
theorem hk116 : ab_ky 116 = 11 := rfl
theorem hr116 : ab_ret 116 = some .long := rfl
section Q116
variable {scr : Option (List Int32)} {d : Nat} {M : ab_M} {st : List Value} {l0 l1 l2 l3 l4 : Option Value}
theorem q116_0 {xr : Nat} : ab_res scr 116 d M 0 [some (.ref xr), l1, l2, l3, l4] (st) = ab_res scr 116 d M 1 [some (.ref xr), l1, l2, l3, l4] (.ref xr :: st) := ab_o_aload_n (ab_dc hc116 dX11_shareOf_0) rfl
theorem q116_1 {v0 : Nat} : ab_res scr 116 d M 1 [l0, l1, l2, l3, l4] (.ref v0 :: st) = (ab_gF ab_L0 M v0 11 2).bind fun v => ab_res scr 116 d M 4 [l0, l1, l2, l3, l4] (v :: st) := ab_o_getfield (ab_dc hc116 dX11_shareOf_1) hk116 lk_fl_11_28
theorem q116_4 {xr : Nat} : ab_res scr 116 d M 4 [l0, some (.ref xr), l2, l3, l4] (st) = ab_res scr 116 d M 5 [l0, some (.ref xr), l2, l3, l4] (.ref xr :: st) := ab_o_aload_n (ab_dc hc116 dX11_shareOf_4) rfl
theorem q116_5 {v0 : Nat} : ab_res scr 116 d M 5 [l0, l1, l2, l3, l4] (.ref v0 :: st) = (ab_gF ab_L0 M v0 6 4).bind fun v => ab_res scr 116 d M 8 [l0, l1, l2, l3, l4] (v :: st) := ab_o_getfield (ab_dc hc116 dX11_shareOf_5) hk116 lk_fl_11_167
theorem q116_8 {v0 : Int32} {v1 : Nat} (hb : (ab_rc ab_L0 v1 = some 4) = True) : ab_res scr 116 2 M 8 [l0, l1, l2, l3, l4] ([.int v0, .ref v1]) = (ab_ms scr 45 [.ref v1, .int v0] M).bind fun o => ab_res scr 116 2 o.1 11 [l0, l1, l2, l3, l4] (ab_pr o.2 []) := ab_o_virtual (ab_dc hc116 dX11_shareOf_8) hk116 lk_ca_11_311 hm45 (Nat.le_of_ble_eq_true rfl) rfl rfl rfl (of_eq_true hb) rfl rfl
theorem q116_11 {v0 : Int32} : ab_res scr 116 d M 11 [l0, l1, l2, l3, l4] (.int v0 :: st) = ab_res scr 116 d M 12 [l0, l1, ab_nl l2, some (.int v0), l4] (st) := (ab_o_st1 (k := 3) (ab_dc hc116 dX11_shareOf_11) (Or.inr (Or.inr (Or.inl ⟨3, rfl, rfl, rfl, ⟨_, rfl⟩⟩))) hn116 (by decide)).trans (ab_kl1 [l0, l1] _ l2 rfl rfl)
theorem q116_12 {x : Int32} : ab_res scr 116 d M 12 [l0, l1, l2, some (.int x), l4] (st) = ab_res scr 116 d M 13 [l0, l1, l2, some (.int x), l4] (.int x :: st) := ab_o_iload_n (ab_dc hc116 dX11_shareOf_12) rfl
theorem q116_13 {v0 : Int32} : ab_res scr 116 2 M 13 [l0, l1, l2, l3, l4] ([.int v0]) = (ab_ms scr 196 [.int v0] M).bind fun o => ab_res scr 116 2 o.1 16 [l0, l1, l2, l3, l4] (ab_pr o.2 []) := ab_o_static (ab_dc hc116 dX11_shareOf_13) hk116 lk_ca_11_314 hm196 (Nat.le_of_ble_eq_true rfl) rfl rfl rfl rfl rfl
theorem q116_16 {v0 : Int32} : ab_res scr 116 d M 16 [l0, l1, l2, l3, l4] (.int v0 :: st) = ab_res scr 116 d M 18 [l0, l1, l2, ab_nl l3, some (.int v0)] (st) := (ab_o_st1 (k := 4) (ab_dc hc116 dX11_shareOf_16) (Or.inl ⟨rfl, rfl, ⟨_, rfl⟩⟩) hn116 (by decide)).trans (ab_kl1 [l0, l1, l2] _ l3 rfl rfl)
theorem q116_18 {x : Int32} : ab_res scr 116 d M 18 [l0, l1, l2, l3, some (.int x)] (st) = ab_res scr 116 d M 20 [l0, l1, l2, l3, some (.int x)] (.int x :: st) := ab_o_iload (ab_dc hc116 dX11_shareOf_18) rfl
theorem q116_20 {v0 : Int32} : ab_res scr 116 d M 20 [l0, l1, l2, l3, l4] (.int v0 :: st) = if v0 = 0 then ab_res scr 116 d M 31 [l0, l1, l2, l3, l4] (st) else ab_res scr 116 d M 23 [l0, l1, l2, l3, l4] (st) := ab_o_br2 (off := 11) (ab_dc hc116 dX11_shareOf_20) (by decide) rfl rfl
theorem q116_23 {x : Int32} : ab_res scr 116 d M 23 [l0, l1, some (.int x), l3, l4] (st) = ab_res scr 116 d M 24 [l0, l1, some (.int x), l3, l4] (.int x :: st) := ab_o_iload_n (ab_dc hc116 dX11_shareOf_23) rfl
theorem q116_24 {x : Int32} : ab_res scr 116 d M 24 [l0, l1, l2, some (.int x), l4] (st) = ab_res scr 116 d M 25 [l0, l1, l2, some (.int x), l4] (.int x :: st) := ab_o_iload_n (ab_dc hc116 dX11_shareOf_24) rfl
theorem q116_25 {v0 : Int32} {v1 : Int32} : ab_res scr 116 2 M 25 [l0, l1, l2, l3, l4] ([.int v0, .int v1]) = (ab_ms scr 112 [.int v1, .int v0] M).bind fun o => ab_res scr 116 2 o.1 28 [l0, l1, l2, l3, l4] (ab_pr o.2 []) := ab_o_static (ab_dc hc116 dX11_shareOf_25) hk116 lk_ca_11_319 hm112 (Nat.le_of_ble_eq_true rfl) rfl rfl rfl rfl rfl
theorem q116_28 {v0 : Int32} : ab_res scr 116 d M 28 [l0, l1, l2, l3, l4] (.int v0 :: st) = if ¬ v0 = 0 then ab_res scr 116 d M 33 [l0, l1, l2, l3, l4] (st) else ab_res scr 116 d M 31 [l0, l1, l2, l3, l4] (st) := ab_o_br2 (off := 5) (ab_dc hc116 dX11_shareOf_28) (by decide) rfl rfl
theorem q116_31 : ab_res scr 116 d M 31 [l0, l1, l2, l3, l4] (st) = ab_res scr 116 d M 32 [l0, l1, l2, l3, l4] (.long 0 :: st) := ab_o_lconst (ab_dc hc116 dX11_shareOf_31)
theorem q116_32 {v0 : Int64} : ab_res scr 116 d M 32 [l0, l1, l2, l3, l4] ([.long v0]) = some (M, some (.long v0)) := ab_o_lreturn (ab_dc hc116 dX11_shareOf_32) hr116
theorem q116_33 {xr : Nat} : ab_res scr 116 d M 33 [l0, some (.ref xr), l2, l3, l4] (st) = ab_res scr 116 d M 34 [l0, some (.ref xr), l2, l3, l4] (.ref xr :: st) := ab_o_aload_n (ab_dc hc116 dX11_shareOf_33) rfl
theorem q116_34 {v0 : Nat} : ab_res scr 116 d M 34 [l0, l1, l2, l3, l4] (.ref v0 :: st) = (ab_gF ab_L0 M v0 6 2).bind fun v => ab_res scr 116 d M 37 [l0, l1, l2, l3, l4] (v :: st) := ab_o_getfield (ab_dc hc116 dX11_shareOf_34) hk116 lk_fl_11_163
theorem q116_37 {v0 : Int32} : ab_res scr 116 d M 37 [l0, l1, l2, l3, l4] (.int v0 :: st) = ab_res scr 116 d M 38 [l0, l1, l2, l3, l4] (.long v0.toInt64 :: st) := ab_xg (ab_dc hc116 dX11_shareOf_37) rfl rfl
theorem q116_38 : ab_res scr 116 d M 38 [l0, l1, l2, l3, l4] (st) = ab_res scr 116 d M 41 [l0, l1, l2, l3, l4] (.int 840 :: st) := (ab_o_sipush (ab_dc hc116 dX11_shareOf_38)).trans (by rw [ki_sipush_840])
theorem q116_41 {x : Int32} : ab_res scr 116 d M 41 [l0, l1, l2, l3, some (.int x)] (st) = ab_res scr 116 d M 43 [l0, l1, l2, l3, some (.int x)] (.int x :: st) := ab_o_iload (ab_dc hc116 dX11_shareOf_41) rfl
theorem q116_43 {v0 : Int32} {v1 : Int32} : ab_res scr 116 d M 43 [l0, l1, l2, l3, l4] (.int v0 :: .int v1 :: st) = if v0 = 0 then none else ab_res scr 116 d M 44 [l0, l1, l2, l3, l4] (.int (v1 / v0) :: st) := ab_o_div (ab_dc hc116 dX11_shareOf_43) (Or.inl ⟨rfl, rfl⟩)
theorem q116_44 {v0 : Int32} : ab_res scr 116 d M 44 [l0, l1, l2, l3, l4] (.int v0 :: st) = ab_res scr 116 d M 45 [l0, l1, l2, l3, l4] (.long v0.toInt64 :: st) := ab_xg (ab_dc hc116 dX11_shareOf_44) rfl rfl
theorem q116_45 {v0 : Int64} {v1 : Int64} : ab_res scr 116 d M 45 [l0, l1, l2, l3, l4] (.long v0 :: .long v1 :: st) = ab_res scr 116 d M 46 [l0, l1, l2, l3, l4] (.long (v1 * v0) :: st) := ab_xg (ab_dc hc116 dX11_shareOf_45) rfl rfl
theorem q116_46 {v0 : Int64} : ab_res scr 116 d M 46 [l0, l1, l2, l3, l4] ([.long v0]) = some (M, some (.long v0)) := ab_o_lreturn (ab_dc hc116 dX11_shareOf_46) hr116
end Q116
theorem hc117 : ab_code 117 = cX11_lowest := rfl
theorem hn117 : ab_nL 117 = 7 := rfl
theorem hk117 : ab_ky 117 = 11 := rfl
theorem hr117 : ab_ret 117 = some .long := rfl
section Q117
variable {scr : Option (List Int32)} {d : Nat} {M : ab_M} {st : List Value} {l0 l1 l2 l3 l4 l5 l6 : Option Value}
theorem q117_0 {xj : Int64} : ab_res scr 117 d M 0 [some (.long xj), l1, l2, l3, l4, l5, l6] (st) = ab_res scr 117 d M 1 [some (.long xj), l1, l2, l3, l4, l5, l6] (.long xj :: st) := ab_o_lload_n (ab_dc hc117 dX11_lowest_0) rfl
theorem q117_1 {xj : Int64} : ab_res scr 117 d M 1 [l0, l1, some (.long xj), l3, l4, l5, l6] (st) = ab_res scr 117 d M 2 [l0, l1, some (.long xj), l3, l4, l5, l6] (.long xj :: st) := ab_o_lload_n (ab_dc hc117 dX11_lowest_1) rfl
theorem q117_2 {v0 : Int64} {v1 : Int64} : ab_res scr 117 2 M 2 [l0, l1, l2, l3, l4, l5, l6] ([.long v0, .long v1]) = (ab_ms scr 118 [.long v1, .long v0] M).bind fun o => ab_res scr 117 2 o.1 5 [l0, l1, l2, l3, l4, l5, l6] (ab_pr o.2 []) := ab_o_static (ab_dc hc117 dX11_lowest_2) hk117 lk_ca_11_322 hm118 (Nat.le_of_ble_eq_true rfl) rfl rfl rfl rfl rfl
theorem q117_5 {v0 : Int64} : ab_res scr 117 d M 5 [l0, l1, l2, l3, l4, l5, l6] (.long v0 :: st) = ab_res scr 117 d M 7 [l0, l1, l2, l3, ab_nl l4, some (.long v0), none] (st) := (ab_o_st2 (k := 5) (ab_dc hc117 dX11_lowest_5) (Or.inl ⟨rfl, rfl⟩) hn117 (by decide)).trans (ab_kl2 [l0, l1, l2, l3] _ l4 rfl rfl)
theorem q117_7 {xj : Int64} : ab_res scr 117 d M 7 [l0, l1, l2, l3, l4, some (.long xj), l6] (st) = ab_res scr 117 d M 9 [l0, l1, l2, l3, l4, some (.long xj), l6] (.long xj :: st) := ab_o_lload (ab_dc hc117 dX11_lowest_7) rfl
theorem q117_9 : ab_res scr 117 d M 9 [l0, l1, l2, l3, l4, l5, l6] (st) = ab_res scr 117 d M 10 [l0, l1, l2, l3, l4, l5, l6] (.long 0 :: st) := ab_o_lconst (ab_dc hc117 dX11_lowest_9)
theorem q117_10 {v0 : Int64} {v1 : Int64} : ab_res scr 117 d M 10 [l0, l1, l2, l3, l4, l5, l6] (.long v0 :: .long v1 :: st) = ab_res scr 117 d M 11 [l0, l1, l2, l3, l4, l5, l6] (.int (lg_cmp v1 v0) :: st) := ab_xg (ab_dc hc117 dX11_lowest_10) rfl rfl
theorem q117_11 {v0 : Int32} : ab_res scr 117 d M 11 [l0, l1, l2, l3, l4, l5, l6] (.int v0 :: st) = if ¬ v0 = 0 then ab_res scr 117 d M 16 [l0, l1, l2, l3, l4, l5, l6] (st) else ab_res scr 117 d M 14 [l0, l1, l2, l3, l4, l5, l6] (st) := ab_o_br2 (off := 5) (ab_dc hc117 dX11_lowest_11) (by decide) rfl rfl
theorem q117_14 : ab_res scr 117 d M 14 [l0, l1, l2, l3, l4, l5, l6] (st) = ab_res scr 117 d M 15 [l0, l1, l2, l3, l4, l5, l6] (.long 0 :: st) := ab_o_lconst (ab_dc hc117 dX11_lowest_14)
theorem q117_15 {v0 : Int64} : ab_res scr 117 d M 15 [l0, l1, l2, l3, l4, l5, l6] ([.long v0]) = some (M, some (.long v0)) := ab_o_lreturn (ab_dc hc117 dX11_lowest_15) hr117
theorem q117_16 {x : Int32} : ab_res scr 117 d M 16 [l0, l1, l2, l3, some (.int x), l5, l6] (st) = ab_res scr 117 d M 18 [l0, l1, l2, l3, some (.int x), l5, l6] (.int x :: st) := ab_o_iload (ab_dc hc117 dX11_lowest_16) rfl
theorem q117_18 {v0 : Int32} : ab_res scr 117 d M 18 [l0, l1, l2, l3, l4, l5, l6] (.int v0 :: st) = if v0 = 0 then ab_res scr 117 d M 25 [l0, l1, l2, l3, l4, l5, l6] (st) else ab_res scr 117 d M 21 [l0, l1, l2, l3, l4, l5, l6] (st) := ab_o_br2 (off := 7) (ab_dc hc117 dX11_lowest_18) (by decide) rfl rfl
theorem q117_21 {xj : Int64} : ab_res scr 117 d M 21 [some (.long xj), l1, l2, l3, l4, l5, l6] (st) = ab_res scr 117 d M 22 [some (.long xj), l1, l2, l3, l4, l5, l6] (.long xj :: st) := ab_o_lload_n (ab_dc hc117 dX11_lowest_21) rfl
theorem q117_22 : ab_res scr 117 d M 22 [l0, l1, l2, l3, l4, l5, l6] (st) = ab_res scr 117 d M 26 [l0, l1, l2, l3, l4, l5, l6] (st) := ab_o_goto (ab_dc hc117 dX11_lowest_22) (by decide)
theorem q117_25 {xj : Int64} : ab_res scr 117 d M 25 [l0, l1, some (.long xj), l3, l4, l5, l6] (st) = ab_res scr 117 d M 26 [l0, l1, some (.long xj), l3, l4, l5, l6] (.long xj :: st) := ab_o_lload_n (ab_dc hc117 dX11_lowest_25) rfl
theorem q117_26 {xj : Int64} : ab_res scr 117 d M 26 [l0, l1, l2, l3, l4, some (.long xj), l6] (st) = ab_res scr 117 d M 28 [l0, l1, l2, l3, l4, some (.long xj), l6] (.long xj :: st) := ab_o_lload (ab_dc hc117 dX11_lowest_26) rfl
theorem q117_28 {v0 : Int64} {v1 : Int64} : ab_res scr 117 d M 28 [l0, l1, l2, l3, l4, l5, l6] (.long v0 :: .long v1 :: st) = if v0 = 0 then none else ab_res scr 117 d M 29 [l0, l1, l2, l3, l4, l5, l6] (.long (v1 / v0) :: st) := ab_o_ldiv (ab_dc hc117 dX11_lowest_28) (Or.inl ⟨rfl, rfl⟩)
theorem q117_29 {v0 : Int64} : ab_res scr 117 d M 29 [l0, l1, l2, l3, l4, l5, l6] ([.long v0]) = some (M, some (.long v0)) := ab_o_lreturn (ab_dc hc117 dX11_lowest_29) hr117
end Q117
theorem hc118 : ab_code 118 = cX11_commonDivisor := rfl
theorem hn118 : ab_nL 118 = 7 := rfl
theorem hk118 : ab_ky 118 = 11 := rfl
theorem hr118 : ab_ret 118 = some .long := rfl
section Q118
variable {scr : Option (List Int32)} {d : Nat} {M : ab_M} {st : List Value} {l0 l1 l2 l3 l4 l5 l6 : Option Value}
theorem q118_0 : ab_res scr 118 d M 0 [l0, l1, l2, l3, l4, l5, l6] (st) = ab_res scr 118 d M 1 [l0, l1, l2, l3, l4, l5, l6] (.int 0 :: st) := (ab_o_iconst (ab_dc hc118 dX11_commonDivisor_0)).trans (by rw [ki_iconst_0])
theorem q118_1 {v0 : Int32} : ab_res scr 118 d M 1 [l0, l1, l2, l3, l4, l5, l6] (.int v0 :: st) = ab_res scr 118 d M 3 [l0, l1, l2, ab_nl l3, some (.int v0), l5, l6] (st) := (ab_o_st1 (k := 4) (ab_dc hc118 dX11_commonDivisor_1) (Or.inl ⟨rfl, rfl, ⟨_, rfl⟩⟩) hn118 (by decide)).trans (ab_kl1 [l0, l1, l2] _ l3 rfl rfl)
theorem q118_3 {x : Int32} : ab_res scr 118 d M 3 [l0, l1, l2, l3, some (.int x), l5, l6] (st) = ab_res scr 118 d M 5 [l0, l1, l2, l3, some (.int x), l5, l6] (.int x :: st) := ab_o_iload (ab_dc hc118 dX11_commonDivisor_3) rfl
theorem q118_5 : ab_res scr 118 d M 5 [l0, l1, l2, l3, l4, l5, l6] (st) = ab_res scr 118 d M 7 [l0, l1, l2, l3, l4, l5, l6] (.int 100 :: st) := (ab_o_bipush (ab_dc hc118 dX11_commonDivisor_5)).trans (by rw [ki_bipush_100])
theorem q118_7 {v0 : Int32} {v1 : Int32} : ab_res scr 118 d M 7 [l0, l1, l2, l3, l4, l5, l6] (.int v0 :: .int v1 :: st) = if v0 ≤ v1 then ab_res scr 118 d M 32 [l0, l1, l2, l3, l4, l5, l6] (st) else ab_res scr 118 d M 10 [l0, l1, l2, l3, l4, l5, l6] (st) := ab_o_br2 (off := 25) (ab_dc hc118 dX11_commonDivisor_7) (by decide) rfl rfl
theorem q118_10 {xj : Int64} : ab_res scr 118 d M 10 [l0, l1, some (.long xj), l3, l4, l5, l6] (st) = ab_res scr 118 d M 11 [l0, l1, some (.long xj), l3, l4, l5, l6] (.long xj :: st) := ab_o_lload_n (ab_dc hc118 dX11_commonDivisor_10) rfl
theorem q118_11 : ab_res scr 118 d M 11 [l0, l1, l2, l3, l4, l5, l6] (st) = ab_res scr 118 d M 12 [l0, l1, l2, l3, l4, l5, l6] (.long 0 :: st) := ab_o_lconst (ab_dc hc118 dX11_commonDivisor_11)
theorem q118_12 {v0 : Int64} {v1 : Int64} : ab_res scr 118 d M 12 [l0, l1, l2, l3, l4, l5, l6] (.long v0 :: .long v1 :: st) = ab_res scr 118 d M 13 [l0, l1, l2, l3, l4, l5, l6] (.int (lg_cmp v1 v0) :: st) := ab_xg (ab_dc hc118 dX11_commonDivisor_12) rfl rfl
theorem q118_13 {v0 : Int32} : ab_res scr 118 d M 13 [l0, l1, l2, l3, l4, l5, l6] (.int v0 :: st) = if v0 = 0 then ab_res scr 118 d M 32 [l0, l1, l2, l3, l4, l5, l6] (st) else ab_res scr 118 d M 16 [l0, l1, l2, l3, l4, l5, l6] (st) := ab_o_br2 (off := 19) (ab_dc hc118 dX11_commonDivisor_13) (by decide) rfl rfl
theorem q118_16 {xj : Int64} : ab_res scr 118 d M 16 [some (.long xj), l1, l2, l3, l4, l5, l6] (st) = ab_res scr 118 d M 17 [some (.long xj), l1, l2, l3, l4, l5, l6] (.long xj :: st) := ab_o_lload_n (ab_dc hc118 dX11_commonDivisor_16) rfl
theorem q118_17 {xj : Int64} : ab_res scr 118 d M 17 [l0, l1, some (.long xj), l3, l4, l5, l6] (st) = ab_res scr 118 d M 18 [l0, l1, some (.long xj), l3, l4, l5, l6] (.long xj :: st) := ab_o_lload_n (ab_dc hc118 dX11_commonDivisor_17) rfl
theorem q118_18 {v0 : Int64} {v1 : Int64} : ab_res scr 118 d M 18 [l0, l1, l2, l3, l4, l5, l6] (.long v0 :: .long v1 :: st) = if v0 = 0 then none else ab_res scr 118 d M 19 [l0, l1, l2, l3, l4, l5, l6] (.long (v1 - v1 / v0 * v0) :: st) := ab_o_ldiv (ab_dc hc118 dX11_commonDivisor_18) (Or.inr ⟨rfl, rfl⟩)
theorem q118_19 {v0 : Int64} : ab_res scr 118 d M 19 [l0, l1, l2, l3, l4, l5, l6] (.long v0 :: st) = ab_res scr 118 d M 21 [l0, l1, l2, l3, ab_nl l4, some (.long v0), none] (st) := (ab_o_st2 (k := 5) (ab_dc hc118 dX11_commonDivisor_19) (Or.inl ⟨rfl, rfl⟩) hn118 (by decide)).trans (ab_kl2 [l0, l1, l2, l3] _ l4 rfl rfl)
theorem q118_21 {xj : Int64} : ab_res scr 118 d M 21 [l0, l1, some (.long xj), l3, l4, l5, l6] (st) = ab_res scr 118 d M 22 [l0, l1, some (.long xj), l3, l4, l5, l6] (.long xj :: st) := ab_o_lload_n (ab_dc hc118 dX11_commonDivisor_21) rfl
theorem q118_22 {v0 : Int64} : ab_res scr 118 d M 22 [l0, l1, l2, l3, l4, l5, l6] (.long v0 :: st) = ab_res scr 118 d M 23 [some (.long v0), none, l2, l3, l4, l5, l6] (st) := (ab_o_st2 (k := 0) (ab_dc hc118 dX11_commonDivisor_22) (Or.inr ⟨0, rfl, rfl, rfl⟩) hn118 (by decide)).trans (ab_kl20)
theorem q118_23 {xj : Int64} : ab_res scr 118 d M 23 [l0, l1, l2, l3, l4, some (.long xj), l6] (st) = ab_res scr 118 d M 25 [l0, l1, l2, l3, l4, some (.long xj), l6] (.long xj :: st) := ab_o_lload (ab_dc hc118 dX11_commonDivisor_23) rfl
theorem q118_25 {v0 : Int64} : ab_res scr 118 d M 25 [l0, l1, l2, l3, l4, l5, l6] (.long v0 :: st) = ab_res scr 118 d M 26 [l0, ab_nl l1, some (.long v0), none, l4, l5, l6] (st) := (ab_o_st2 (k := 2) (ab_dc hc118 dX11_commonDivisor_25) (Or.inr ⟨2, rfl, rfl, rfl⟩) hn118 (by decide)).trans (ab_kl2 [l0] _ l1 rfl rfl)
theorem q118_26 {x : Int32} : ab_res scr 118 d M 26 [l0, l1, l2, l3, some (.int x), l5, l6] (st) = ab_res scr 118 d M 29 [l0, l1, l2, ab_nl l3, some (.int (x + 1)), l5, l6] (st) := (ab_o_iinc (k := 4) (ab_dc hc118 dX11_commonDivisor_26) hn118 (by decide) rfl).trans (by rw [ki_iconst_1]; exact ab_kl1 [l0, l1, l2] _ l3 rfl rfl)
theorem q118_29 : ab_res scr 118 d M 29 [l0, l1, l2, l3, l4, l5, l6] (st) = ab_res scr 118 d M 3 [l0, l1, l2, l3, l4, l5, l6] (st) := ab_o_goto (ab_dc hc118 dX11_commonDivisor_29) (by decide)
theorem q118_32 {xj : Int64} : ab_res scr 118 d M 32 [some (.long xj), l1, l2, l3, l4, l5, l6] (st) = ab_res scr 118 d M 33 [some (.long xj), l1, l2, l3, l4, l5, l6] (.long xj :: st) := ab_o_lload_n (ab_dc hc118 dX11_commonDivisor_32) rfl
theorem q118_33 {v0 : Int64} : ab_res scr 118 d M 33 [l0, l1, l2, l3, l4, l5, l6] ([.long v0]) = some (M, some (.long v0)) := ab_o_lreturn (ab_dc hc118 dX11_commonDivisor_33) hr118
end Q118
theorem hc120 : ab_code 120 = cX12_in := rfl
theorem hn120 : ab_nL 120 = 6 := rfl
theorem hk120 : ab_ky 120 = 12 := rfl
theorem hr120 : ab_ret 120 = some .boolean := rfl
section Q120
variable {scr : Option (List Int32)} {d : Nat} {M : ab_M} {st : List Value} {l0 l1 l2 l3 l4 l5 : Option Value}
theorem q120_0 {xj : Int64} : ab_res scr 120 d M 0 [some (.long xj), l1, l2, l3, l4, l5] (st) = ab_res scr 120 d M 1 [some (.long xj), l1, l2, l3, l4, l5] (.long xj :: st) := ab_o_lload_n (ab_dc hc120 dX12_in_0) rfl
theorem q120_1 {xj : Int64} : ab_res scr 120 d M 1 [l0, l1, some (.long xj), l3, l4, l5] (st) = ab_res scr 120 d M 2 [l0, l1, some (.long xj), l3, l4, l5] (.long xj :: st) := ab_o_lload_n (ab_dc hc120 dX12_in_1) rfl
theorem q120_2 {v0 : Int64} {v1 : Int64} : ab_res scr 120 d M 2 [l0, l1, l2, l3, l4, l5] (.long v0 :: .long v1 :: st) = ab_res scr 120 d M 3 [l0, l1, l2, l3, l4, l5] (.int (lg_cmp v1 v0) :: st) := ab_xg (ab_dc hc120 dX12_in_2) rfl rfl
theorem q120_3 {v0 : Int32} : ab_res scr 120 d M 3 [l0, l1, l2, l3, l4, l5] (.int v0 :: st) = if v0 < 0 then ab_res scr 120 d M 17 [l0, l1, l2, l3, l4, l5] (st) else ab_res scr 120 d M 6 [l0, l1, l2, l3, l4, l5] (st) := ab_o_br2 (off := 14) (ab_dc hc120 dX12_in_3) (by decide) rfl rfl
theorem q120_6 {xj : Int64} : ab_res scr 120 d M 6 [some (.long xj), l1, l2, l3, l4, l5] (st) = ab_res scr 120 d M 7 [some (.long xj), l1, l2, l3, l4, l5] (.long xj :: st) := ab_o_lload_n (ab_dc hc120 dX12_in_6) rfl
theorem q120_7 {xj : Int64} : ab_res scr 120 d M 7 [l0, l1, l2, l3, some (.long xj), l5] (st) = ab_res scr 120 d M 9 [l0, l1, l2, l3, some (.long xj), l5] (.long xj :: st) := ab_o_lload (ab_dc hc120 dX12_in_7) rfl
theorem q120_9 {v0 : Int64} {v1 : Int64} : ab_res scr 120 d M 9 [l0, l1, l2, l3, l4, l5] (.long v0 :: .long v1 :: st) = ab_res scr 120 d M 10 [l0, l1, l2, l3, l4, l5] (.int (lg_cmp v1 v0) :: st) := ab_xg (ab_dc hc120 dX12_in_9) rfl rfl
theorem q120_10 {v0 : Int32} : ab_res scr 120 d M 10 [l0, l1, l2, l3, l4, l5] (.int v0 :: st) = if 0 < v0 then ab_res scr 120 d M 17 [l0, l1, l2, l3, l4, l5] (st) else ab_res scr 120 d M 13 [l0, l1, l2, l3, l4, l5] (st) := ab_o_br2 (off := 7) (ab_dc hc120 dX12_in_10) (by decide) rfl rfl
theorem q120_13 : ab_res scr 120 d M 13 [l0, l1, l2, l3, l4, l5] (st) = ab_res scr 120 d M 14 [l0, l1, l2, l3, l4, l5] (.int 1 :: st) := (ab_o_iconst (ab_dc hc120 dX12_in_13)).trans (by rw [ki_iconst_1])
theorem q120_14 : ab_res scr 120 d M 14 [l0, l1, l2, l3, l4, l5] (st) = ab_res scr 120 d M 18 [l0, l1, l2, l3, l4, l5] (st) := ab_o_goto (ab_dc hc120 dX12_in_14) (by decide)
theorem q120_17 : ab_res scr 120 d M 17 [l0, l1, l2, l3, l4, l5] (st) = ab_res scr 120 d M 18 [l0, l1, l2, l3, l4, l5] (.int 0 :: st) := (ab_o_iconst (ab_dc hc120 dX12_in_17)).trans (by rw [ki_iconst_0])
theorem q120_18 {v0 : Int32} (hv : (narrow .boolean (.int v0) = .int v0) = True) : ab_res scr 120 d M 18 [l0, l1, l2, l3, l4, l5] ([.int v0]) = some (M, some (.int v0)) := ab_o_ireturn (ab_dc hc120 dX12_in_18) hr120 (of_eq_true hv)
end Q120
theorem hc121 : ab_code 121 = cX12_awake := rfl
theorem hn121 : ab_nL 121 = 1 := rfl
theorem hk121 : ab_ky 121 = 12 := rfl
theorem hr121 : ab_ret 121 = none := rfl
section Q121
variable {scr : Option (List Int32)} {d : Nat} {M : ab_M} {st : List Value} {l0 : Option Value}
theorem q121_0 {xr : Nat} : ab_res scr 121 d M 0 [some (.ref xr)] (st) = ab_res scr 121 d M 1 [some (.ref xr)] (.ref xr :: st) := ab_o_aload_n (ab_dc hc121 dX12_awake_0) rfl
theorem q121_1 {v0 : Nat} : ab_res scr 121 d M 1 [l0] (.ref v0 :: st) = (ab_gF ab_L0 M v0 12 14).bind fun v => ab_res scr 121 d M 4 [l0] (v :: st) := ab_o_getfield (ab_dc hc121 dX12_awake_1) hk121 lk_fl_12_89
theorem q121_4 {v0 : Int32} : ab_res scr 121 d M 4 [l0] (.int v0 :: st) = if ¬ v0 = 0 then ab_res scr 121 d M 20 [l0] (st) else ab_res scr 121 d M 7 [l0] (st) := ab_o_br2 (off := 16) (ab_dc hc121 dX12_awake_4) (by decide) rfl rfl
theorem q121_7 {xr : Nat} : ab_res scr 121 d M 7 [some (.ref xr)] (st) = ab_res scr 121 d M 8 [some (.ref xr)] (.ref xr :: st) := ab_o_aload_n (ab_dc hc121 dX12_awake_7) rfl
theorem q121_8 {v0 : Nat} : ab_res scr 121 d M 8 [l0] (.ref v0 :: st) = (ab_gF ab_L0 M v0 12 11).bind fun v => ab_res scr 121 d M 11 [l0] (v :: st) := ab_o_getfield (ab_dc hc121 dX12_awake_8) hk121 lk_fl_12_19
theorem q121_11 : ab_res scr 121 d M 11 [l0] (st) = ab_res scr 121 d M 13 [l0] (.int 73 :: st) := (ab_o_bipush (ab_dc hc121 dX12_awake_11)).trans (by rw [ki_bipush_73])
theorem q121_13 : ab_res scr 121 d M 13 [l0] (st) = ab_res scr 121 d M 14 [l0] (.int 1 :: st) := (ab_o_iconst (ab_dc hc121 dX12_awake_13)).trans (by rw [ki_iconst_1])
theorem q121_14 {v0 : Int32} {v1 : Int32} {v2 : Nat} : ab_res scr 121 d M 14 [l0] (.int v0 :: .int v1 :: .ref v2 :: st) = if ab_si v2 .int v1 = true then ab_res scr 121 d (ab_up M v2 v1.toNatClampNeg v0) 15 [l0] (st) else none := ab_o_iastore (ab_dc hc121 dX12_awake_14)
theorem q121_15 {xr : Nat} : ab_res scr 121 d M 15 [some (.ref xr)] (st) = ab_res scr 121 d M 16 [some (.ref xr)] (.ref xr :: st) := ab_o_aload_n (ab_dc hc121 dX12_awake_15) rfl
theorem q121_16 : ab_res scr 121 d M 16 [l0] (st) = ab_res scr 121 d M 17 [l0] (.int 1 :: st) := (ab_o_iconst (ab_dc hc121 dX12_awake_16)).trans (by rw [ki_iconst_1])
theorem q121_17 {v0 : Int32} {v1 : Nat} (hp : (ab_pt v1 12 14 v0 = true) = True) : ab_res scr 121 d M 17 [l0] (.int v0 :: .ref v1 :: st) = ab_res scr 121 d (ab_up M v1 14 v0) 20 [l0] (st) := ab_o_putfield (ab_dc hc121 dX12_awake_17) hk121 lk_fl_12_89 (of_eq_true hp)
theorem q121_20 : ab_res scr 121 d M 20 [l0] ([]) = some (M, none) := ab_o_return (ab_dc hc121 dX12_awake_20) hr121
end Q121
theorem hc122 : ab_code 122 = cX12_feed := rfl
theorem hn122 : ab_nL 122 = 4 := rfl
theorem hk122 : ab_ky 122 = 12 := rfl
theorem hr122 : ab_ret 122 = some .int := rfl
section Q122
variable {scr : Option (List Int32)} {d : Nat} {M : ab_M} {st : List Value} {l0 l1 l2 l3 : Option Value}
theorem q122_0 {xr : Nat} : ab_res scr 122 d M 0 [some (.ref xr), l1, l2, l3] (st) = ab_res scr 122 d M 1 [some (.ref xr), l1, l2, l3] (.ref xr :: st) := ab_o_aload_n (ab_dc hc122 dX12_feed_0) rfl
theorem q122_1 {v0 : Nat} : ab_res scr 122 d M 1 [l0, l1, l2, l3] (.ref v0 :: st) = (ab_gF ab_L0 M v0 12 1).bind fun v => ab_res scr 122 d M 4 [l0, l1, l2, l3] (v :: st) := ab_o_getfield (ab_dc hc122 dX12_feed_1) hk122 lk_fl_12_93
theorem q122_4 : ab_res scr 122 d M 4 [l0, l1, l2, l3] (st) = ab_res scr 122 d M 6 [l0, l1, l2, l3] (.int 8 :: st) := (ab_o_bipush (ab_dc hc122 dX12_feed_4)).trans (by rw [ki_bipush_8])
theorem q122_6 {v0 : Int32} {v1 : Int32} : ab_res scr 122 d M 6 [l0, l1, l2, l3] (.int v0 :: .int v1 :: st) = ab_res scr 122 d M 7 [l0, l1, l2, l3] (.int (v1 + v0) :: st) := ab_xg (ab_dc hc122 dX12_feed_6) rfl rfl
theorem q122_7 : ab_res scr 122 d M 7 [l0, l1, l2, l3] (st) = ab_res scr 122 d M 10 [l0, l1, l2, l3] (.int 320 :: st) := (ab_o_sipush (ab_dc hc122 dX12_feed_7)).trans (by rw [ki_sipush_320])
theorem q122_10 {v0 : Int32} {v1 : Int32} : ab_res scr 122 d M 10 [l0, l1, l2, l3] (.int v0 :: .int v1 :: st) = if v1 ≤ v0 then ab_res scr 122 d M 16 [l0, l1, l2, l3] (st) else ab_res scr 122 d M 13 [l0, l1, l2, l3] (st) := ab_o_br2 (off := 6) (ab_dc hc122 dX12_feed_10) (by decide) rfl rfl
theorem q122_13 : ab_res scr 122 d M 13 [l0, l1, l2, l3] (st) = ab_res scr 122 d M 15 [l0, l1, l2, l3] (.int (-3) :: st) := (ab_o_bipush (ab_dc hc122 dX12_feed_13)).trans (by rw [ki_bipush_m3])
theorem q122_15 {v0 : Int32} : ab_res scr 122 d M 15 [l0, l1, l2, l3] ([.int v0]) = some (M, some (.int v0)) := ab_o_ireturn (ab_dc hc122 dX12_feed_15) hr122 rfl
theorem q122_16 : ab_res scr 122 d M 16 [l0, l1, l2, l3] (st) = ab_res scr 122 d M 18 [l0, l1, l2, l3] (.int 56 :: st) := (ab_o_bipush (ab_dc hc122 dX12_feed_16)).trans (by rw [ki_bipush_56])
theorem q122_18 {v0 : Int32} : ab_res scr 122 d M 18 [l0, l1, l2, l3] (.int v0 :: st) = ab_res scr 122 d M 19 [l0, l1, ab_nl l2, some (.int v0)] (st) := (ab_o_st1 (k := 3) (ab_dc hc122 dX12_feed_18) (Or.inr (Or.inr (Or.inl ⟨3, rfl, rfl, rfl, ⟨_, rfl⟩⟩))) hn122 (by decide)).trans (ab_kl1 [l0, l1] _ l2 rfl rfl)
theorem q122_19 {x : Int32} : ab_res scr 122 d M 19 [l0, l1, l2, some (.int x)] (st) = ab_res scr 122 d M 20 [l0, l1, l2, some (.int x)] (.int x :: st) := ab_o_iload_n (ab_dc hc122 dX12_feed_19) rfl
theorem q122_20 {v0 : Int32} : ab_res scr 122 d M 20 [l0, l1, l2, l3] (.int v0 :: st) = if v0 < 0 then ab_res scr 122 d M 56 [l0, l1, l2, l3] (st) else ab_res scr 122 d M 23 [l0, l1, l2, l3] (st) := ab_o_br2 (off := 36) (ab_dc hc122 dX12_feed_20) (by decide) rfl rfl
theorem q122_23 {xr : Nat} : ab_res scr 122 d M 23 [some (.ref xr), l1, l2, l3] (st) = ab_res scr 122 d M 24 [some (.ref xr), l1, l2, l3] (.ref xr :: st) := ab_o_aload_n (ab_dc hc122 dX12_feed_23) rfl
theorem q122_24 {v0 : Nat} : ab_res scr 122 d M 24 [l0, l1, l2, l3] (.ref v0 :: st) = (ab_gF ab_L0 M v0 12 0).bind fun v => ab_res scr 122 d M 27 [l0, l1, l2, l3] (v :: st) := ab_o_getfield (ab_dc hc122 dX12_feed_24) hk122 lk_fl_12_7
theorem q122_27 {xr : Nat} : ab_res scr 122 d M 27 [some (.ref xr), l1, l2, l3] (st) = ab_res scr 122 d M 28 [some (.ref xr), l1, l2, l3] (.ref xr :: st) := ab_o_aload_n (ab_dc hc122 dX12_feed_27) rfl
theorem q122_28 {v0 : Nat} : ab_res scr 122 d M 28 [l0, l1, l2, l3] (.ref v0 :: st) = (ab_gF ab_L0 M v0 12 1).bind fun v => ab_res scr 122 d M 31 [l0, l1, l2, l3] (v :: st) := ab_o_getfield (ab_dc hc122 dX12_feed_28) hk122 lk_fl_12_93
theorem q122_31 {xj : Int64} : ab_res scr 122 d M 31 [l0, some (.long xj), l2, l3] (st) = ab_res scr 122 d M 32 [l0, some (.long xj), l2, l3] (.long xj :: st) := ab_o_lload_n (ab_dc hc122 dX12_feed_31) rfl
theorem q122_32 {x : Int32} : ab_res scr 122 d M 32 [l0, l1, l2, some (.int x)] (st) = ab_res scr 122 d M 33 [l0, l1, l2, some (.int x)] (.int x :: st) := ab_o_iload_n (ab_dc hc122 dX12_feed_32) rfl
theorem q122_33 {v0 : Int32} {v1 : Int64} : ab_res scr 122 d M 33 [l0, l1, l2, l3] (.int v0 :: .long v1 :: st) = ab_res scr 122 d M 34 [l0, l1, l2, l3] (.long (v1 >>> (v0.toInt64 &&& 63)) :: st) := ab_xg (ab_dc hc122 dX12_feed_33) rfl rfl
theorem q122_34 {v0 : Int64} : ab_res scr 122 d M 34 [l0, l1, l2, l3] (.long v0 :: st) = ab_res scr 122 d M 35 [l0, l1, l2, l3] (.int v0.toInt32 :: st) := ab_xg (ab_dc hc122 dX12_feed_34) rfl rfl
theorem q122_35 : ab_res scr 122 d M 35 [l0, l1, l2, l3] (st) = ab_res scr 122 d M 38 [l0, l1, l2, l3] (.int 255 :: st) := (ab_o_sipush (ab_dc hc122 dX12_feed_35)).trans (by rw [ki_sipush_255])
theorem q122_38 {v0 : Int32} {v1 : Int32} : ab_res scr 122 d M 38 [l0, l1, l2, l3] (.int v0 :: .int v1 :: st) = ab_res scr 122 d M 39 [l0, l1, l2, l3] (.int (v1 &&& v0) :: st) := ab_xg (ab_dc hc122 dX12_feed_38) rfl rfl
theorem q122_39 {v0 : Int32} {v1 : Int32} {v2 : Nat} : ab_res scr 122 d M 39 [l0, l1, l2, l3] (.int v0 :: .int v1 :: .ref v2 :: st) = if ab_si v2 .int v1 = true then ab_res scr 122 d (ab_up M v2 v1.toNatClampNeg v0) 40 [l0, l1, l2, l3] (st) else none := ab_o_iastore (ab_dc hc122 dX12_feed_39)
theorem q122_40 {xr : Nat} : ab_res scr 122 d M 40 [some (.ref xr), l1, l2, l3] (st) = ab_res scr 122 d M 41 [some (.ref xr), l1, l2, l3] (.ref xr :: st) := ab_o_aload_n (ab_dc hc122 dX12_feed_40) rfl
theorem q122_41 {v0 : Nat} : ab_res scr 122 d M 41 [l0, l1, l2, l3] (.ref v0 :: st) = ab_res scr 122 d M 42 [l0, l1, l2, l3] (.ref v0 :: .ref v0 :: st) := ab_xg (ab_dc hc122 dX12_feed_41) rfl rfl
theorem q122_42 {v0 : Nat} : ab_res scr 122 d M 42 [l0, l1, l2, l3] (.ref v0 :: st) = (ab_gF ab_L0 M v0 12 1).bind fun v => ab_res scr 122 d M 45 [l0, l1, l2, l3] (v :: st) := ab_o_getfield (ab_dc hc122 dX12_feed_42) hk122 lk_fl_12_93
theorem q122_45 : ab_res scr 122 d M 45 [l0, l1, l2, l3] (st) = ab_res scr 122 d M 46 [l0, l1, l2, l3] (.int 1 :: st) := (ab_o_iconst (ab_dc hc122 dX12_feed_45)).trans (by rw [ki_iconst_1])
theorem q122_46 {v0 : Int32} {v1 : Int32} : ab_res scr 122 d M 46 [l0, l1, l2, l3] (.int v0 :: .int v1 :: st) = ab_res scr 122 d M 47 [l0, l1, l2, l3] (.int (v1 + v0) :: st) := ab_xg (ab_dc hc122 dX12_feed_46) rfl rfl
theorem q122_47 {v0 : Int32} {v1 : Nat} (hp : (ab_pt v1 12 1 v0 = true) = True) : ab_res scr 122 d M 47 [l0, l1, l2, l3] (.int v0 :: .ref v1 :: st) = ab_res scr 122 d (ab_up M v1 1 v0) 50 [l0, l1, l2, l3] (st) := ab_o_putfield (ab_dc hc122 dX12_feed_47) hk122 lk_fl_12_93 (of_eq_true hp)
theorem q122_50 {x : Int32} : ab_res scr 122 d M 50 [l0, l1, l2, some (.int x)] (st) = ab_res scr 122 d M 53 [l0, l1, ab_nl l2, some (.int (x + (-8)))] (st) := (ab_o_iinc (k := 3) (ab_dc hc122 dX12_feed_50) hn122 (by decide) rfl).trans (by rw [ki_iconst_m8]; exact ab_kl1 [l0, l1] _ l2 rfl rfl)
theorem q122_53 : ab_res scr 122 d M 53 [l0, l1, l2, l3] (st) = ab_res scr 122 d M 19 [l0, l1, l2, l3] (st) := ab_o_goto (ab_dc hc122 dX12_feed_53) (by decide)
theorem q122_56 {xr : Nat} : ab_res scr 122 d M 56 [some (.ref xr), l1, l2, l3] (st) = ab_res scr 122 d M 57 [some (.ref xr), l1, l2, l3] (.ref xr :: st) := ab_o_aload_n (ab_dc hc122 dX12_feed_56) rfl
theorem q122_57 {v0 : Nat} : ab_res scr 122 d M 57 [l0, l1, l2, l3] (.ref v0 :: st) = (ab_gF ab_L0 M v0 12 1).bind fun v => ab_res scr 122 d M 60 [l0, l1, l2, l3] (v :: st) := ab_o_getfield (ab_dc hc122 dX12_feed_57) hk122 lk_fl_12_93
theorem q122_60 {v0 : Int32} : ab_res scr 122 d M 60 [l0, l1, l2, l3] ([.int v0]) = some (M, some (.int v0)) := ab_o_ireturn (ab_dc hc122 dX12_feed_60) hr122 rfl
end Q122
theorem hc123 : ab_code 123 = cX12_end := rfl
theorem hn123 : ab_nL 123 = 3 := rfl
theorem hk123 : ab_ky 123 = 12 := rfl
theorem hr123 : ab_ret 123 = some .int := rfl
section Q123
variable {scr : Option (List Int32)} {d : Nat} {M : ab_M} {st : List Value} {l0 l1 l2 : Option Value}
theorem q123_0 {x : Int32} : ab_res scr 123 d M 0 [l0, some (.int x), l2] (st) = ab_res scr 123 d M 1 [l0, some (.int x), l2] (.int x :: st) := ab_o_iload_n (ab_dc hc123 dX12_end_0) rfl
theorem q123_1 {v0 : Int32} : ab_res scr 123 d M 1 [l0, l1, l2] (.int v0 :: st) = ab_res scr 123 d M 2 [l0, l1, l2] (.long v0.toInt64 :: st) := ab_xg (ab_dc hc123 dX12_end_1) rfl rfl
theorem q123_2 : ab_res scr 123 d M 2 [l0, l1, l2] (st) = ab_res scr 123 d M 3 [l0, l1, l2] (.long 0 :: st) := ab_o_lconst (ab_dc hc123 dX12_end_2)
theorem q123_3 {xr : Nat} : ab_res scr 123 d M 3 [some (.ref xr), l1, l2] (st) = ab_res scr 123 d M 4 [some (.ref xr), l1, l2] (.ref xr :: st) := ab_o_aload_n (ab_dc hc123 dX12_end_3) rfl
theorem q123_4 {v0 : Nat} : ab_res scr 123 d M 4 [l0, l1, l2] (.ref v0 :: st) = (ab_gF ab_L0 M v0 12 1).bind fun v => ab_res scr 123 d M 7 [l0, l1, l2] (v :: st) := ab_o_getfield (ab_dc hc123 dX12_end_4) hk123 lk_fl_12_93
theorem q123_7 {v0 : Int32} : ab_res scr 123 d M 7 [l0, l1, l2] (.int v0 :: st) = ab_res scr 123 d M 8 [l0, l1, l2] (.long v0.toInt64 :: st) := ab_xg (ab_dc hc123 dX12_end_7) rfl rfl
theorem q123_8 {v0 : Int64} {v1 : Int64} {v2 : Int64} : ab_res scr 123 2 M 8 [l0, l1, l2] ([.long v0, .long v1, .long v2]) = (ab_ms scr 120 [.long v2, .long v1, .long v0] M).bind fun o => ab_res scr 123 2 o.1 11 [l0, l1, l2] (ab_pr o.2 []) := ab_o_static (ab_dc hc123 dX12_end_8) hk123 lk_ca_12_97 hm120 (Nat.le_of_ble_eq_true rfl) rfl rfl rfl rfl rfl
theorem q123_11 {v0 : Int32} : ab_res scr 123 d M 11 [l0, l1, l2] (.int v0 :: st) = if ¬ v0 = 0 then ab_res scr 123 d M 16 [l0, l1, l2] (st) else ab_res scr 123 d M 14 [l0, l1, l2] (st) := ab_o_br2 (off := 5) (ab_dc hc123 dX12_end_11) (by decide) rfl rfl
theorem q123_14 : ab_res scr 123 d M 14 [l0, l1, l2] (st) = ab_res scr 123 d M 15 [l0, l1, l2] (.int (-1) :: st) := (ab_o_iconst (ab_dc hc123 dX12_end_14)).trans (by rw [ki_iconst_m1])
theorem q123_15 {v0 : Int32} : ab_res scr 123 d M 15 [l0, l1, l2] ([.int v0]) = some (M, some (.int v0)) := ab_o_ireturn (ab_dc hc123 dX12_end_15) hr123 rfl
theorem q123_16 {xr : Nat} : ab_res scr 123 d M 16 [some (.ref xr), l1, l2] (st) = ab_res scr 123 d M 17 [some (.ref xr), l1, l2] (.ref xr :: st) := ab_o_aload_n (ab_dc hc123 dX12_end_16) rfl
theorem q123_17 {v0 : Nat} : ab_res scr 123 d M 17 [l0, l1, l2] (.ref v0 :: st) = (ab_gF ab_L0 M v0 12 1).bind fun v => ab_res scr 123 d M 20 [l0, l1, l2] (v :: st) := ab_o_getfield (ab_dc hc123 dX12_end_17) hk123 lk_fl_12_93
theorem q123_20 {v0 : Int32} : ab_res scr 123 d M 20 [l0, l1, l2] (.int v0 :: st) = ab_res scr 123 d M 21 [l0, ab_nl l1, some (.int v0)] (st) := (ab_o_st1 (k := 2) (ab_dc hc123 dX12_end_20) (Or.inr (Or.inr (Or.inl ⟨2, rfl, rfl, rfl, ⟨_, rfl⟩⟩))) hn123 (by decide)).trans (ab_kl1 [l0] _ l1 rfl rfl)
theorem q123_21 {xr : Nat} : ab_res scr 123 d M 21 [some (.ref xr), l1, l2] (st) = ab_res scr 123 d M 22 [some (.ref xr), l1, l2] (.ref xr :: st) := ab_o_aload_n (ab_dc hc123 dX12_end_21) rfl
theorem q123_22 {x : Int32} : ab_res scr 123 d M 22 [l0, some (.int x), l2] (st) = ab_res scr 123 d M 23 [l0, some (.int x), l2] (.int x :: st) := ab_o_iload_n (ab_dc hc123 dX12_end_22) rfl
theorem q123_23 {v0 : Int32} {v1 : Nat} (hp : (ab_pt v1 12 1 v0 = true) = True) : ab_res scr 123 d M 23 [l0, l1, l2] (.int v0 :: .ref v1 :: st) = ab_res scr 123 d (ab_up M v1 1 v0) 26 [l0, l1, l2] (st) := ab_o_putfield (ab_dc hc123 dX12_end_23) hk123 lk_fl_12_93 (of_eq_true hp)
theorem q123_26 {x : Int32} : ab_res scr 123 d M 26 [l0, l1, some (.int x)] (st) = ab_res scr 123 d M 27 [l0, l1, some (.int x)] (.int x :: st) := ab_o_iload_n (ab_dc hc123 dX12_end_26) rfl
theorem q123_27 {v0 : Int32} : ab_res scr 123 d M 27 [l0, l1, l2] ([.int v0]) = some (M, some (.int v0)) := ab_o_ireturn (ab_dc hc123 dX12_end_27) hr123 rfl
end Q123
theorem hc124 : ab_code 124 = cX12_byteAt := rfl
theorem hn124 : ab_nL 124 = 2 := rfl
theorem hk124 : ab_ky 124 = 12 := rfl
theorem hr124 : ab_ret 124 = some .int := rfl
section Q124
variable {scr : Option (List Int32)} {d : Nat} {M : ab_M} {st : List Value} {l0 l1 : Option Value}
theorem q124_0 {x : Int32} : ab_res scr 124 d M 0 [l0, some (.int x)] (st) = ab_res scr 124 d M 1 [l0, some (.int x)] (.int x :: st) := ab_o_iload_n (ab_dc hc124 dX12_byteAt_0) rfl
theorem q124_1 {xr : Nat} : ab_res scr 124 d M 1 [some (.ref xr), l1] (st) = ab_res scr 124 d M 2 [some (.ref xr), l1] (.ref xr :: st) := ab_o_aload_n (ab_dc hc124 dX12_byteAt_1) rfl
theorem q124_2 {v0 : Nat} : ab_res scr 124 d M 2 [l0, l1] (.ref v0 :: st) = (ab_gF ab_L0 M v0 12 1).bind fun v => ab_res scr 124 d M 5 [l0, l1] (v :: st) := ab_o_getfield (ab_dc hc124 dX12_byteAt_2) hk124 lk_fl_12_93
theorem q124_5 {v0 : Int32} {v1 : Int32} : ab_res scr 124 d M 5 [l0, l1] (.int v0 :: .int v1 :: st) = if v0 ≤ v1 then ab_res scr 124 d M 17 [l0, l1] (st) else ab_res scr 124 d M 8 [l0, l1] (st) := ab_o_br2 (off := 12) (ab_dc hc124 dX12_byteAt_5) (by decide) rfl rfl
theorem q124_8 {xr : Nat} : ab_res scr 124 d M 8 [some (.ref xr), l1] (st) = ab_res scr 124 d M 9 [some (.ref xr), l1] (.ref xr :: st) := ab_o_aload_n (ab_dc hc124 dX12_byteAt_8) rfl
theorem q124_9 {v0 : Nat} : ab_res scr 124 d M 9 [l0, l1] (.ref v0 :: st) = (ab_gF ab_L0 M v0 12 0).bind fun v => ab_res scr 124 d M 12 [l0, l1] (v :: st) := ab_o_getfield (ab_dc hc124 dX12_byteAt_9) hk124 lk_fl_12_7
theorem q124_12 {x : Int32} : ab_res scr 124 d M 12 [l0, some (.int x)] (st) = ab_res scr 124 d M 13 [l0, some (.int x)] (.int x :: st) := ab_o_iload_n (ab_dc hc124 dX12_byteAt_12) rfl
theorem q124_13 {v0 : Int32} {v1 : Nat} : ab_res scr 124 d M 13 [l0, l1] (.int v0 :: .ref v1 :: st) = (ab_ald scr ab_L0 M v1 .int v0).bind fun v => ab_res scr 124 d M 14 [l0, l1] (.int v :: st) := ab_o_iaload (ab_dc hc124 dX12_byteAt_13)
theorem q124_14 : ab_res scr 124 d M 14 [l0, l1] (st) = ab_res scr 124 d M 19 [l0, l1] (st) := ab_o_goto (ab_dc hc124 dX12_byteAt_14) (by decide)
theorem q124_17 : ab_res scr 124 d M 17 [l0, l1] (st) = ab_res scr 124 d M 19 [l0, l1] (.int (-4) :: st) := (ab_o_bipush (ab_dc hc124 dX12_byteAt_17)).trans (by rw [ki_bipush_m4])
theorem q124_19 {v0 : Int32} : ab_res scr 124 d M 19 [l0, l1] ([.int v0]) = some (M, some (.int v0)) := ab_o_ireturn (ab_dc hc124 dX12_byteAt_19) hr124 rfl
end Q124
theorem hc125 : ab_code 125 = cX12_fails := rfl
theorem hn125 : ab_nL 125 = 2 := rfl
theorem hk125 : ab_ky 125 = 12 := rfl
theorem hr125 : ab_ret 125 = none := rfl
section Q125
variable {scr : Option (List Int32)} {d : Nat} {M : ab_M} {st : List Value} {l0 l1 : Option Value}
theorem q125_0 {xr : Nat} : ab_res scr 125 d M 0 [some (.ref xr), l1] (st) = ab_res scr 125 d M 1 [some (.ref xr), l1] (.ref xr :: st) := ab_o_aload_n (ab_dc hc125 dX12_fails_0) rfl
theorem q125_1 {v0 : Nat} : ab_res scr 125 d M 1 [l0, l1] (.ref v0 :: st) = (ab_gF ab_L0 M v0 12 3).bind fun v => ab_res scr 125 d M 4 [l0, l1] (v :: st) := ab_o_getfield (ab_dc hc125 dX12_fails_1) hk125 lk_fl_12_101
theorem q125_4 {v0 : Int32} : ab_res scr 125 d M 4 [l0, l1] (.int v0 :: st) = if ¬ v0 = 0 then ab_res scr 125 d M 20 [l0, l1] (st) else ab_res scr 125 d M 7 [l0, l1] (st) := ab_o_br2 (off := 16) (ab_dc hc125 dX12_fails_4) (by decide) rfl rfl
theorem q125_7 {xr : Nat} : ab_res scr 125 d M 7 [some (.ref xr), l1] (st) = ab_res scr 125 d M 8 [some (.ref xr), l1] (.ref xr :: st) := ab_o_aload_n (ab_dc hc125 dX12_fails_7) rfl
theorem q125_8 {x : Int32} : ab_res scr 125 d M 8 [l0, some (.int x)] (st) = ab_res scr 125 d M 9 [l0, some (.int x)] (.int x :: st) := ab_o_iload_n (ab_dc hc125 dX12_fails_8) rfl
theorem q125_9 {v0 : Int32} {v1 : Nat} (hp : (ab_pt v1 12 3 v0 = true) = True) : ab_res scr 125 d M 9 [l0, l1] (.int v0 :: .ref v1 :: st) = ab_res scr 125 d (ab_up M v1 3 v0) 12 [l0, l1] (st) := ab_o_putfield (ab_dc hc125 dX12_fails_9) hk125 lk_fl_12_101 (of_eq_true hp)
theorem q125_12 {xr : Nat} : ab_res scr 125 d M 12 [some (.ref xr), l1] (st) = ab_res scr 125 d M 13 [some (.ref xr), l1] (.ref xr :: st) := ab_o_aload_n (ab_dc hc125 dX12_fails_12) rfl
theorem q125_13 {xr : Nat} : ab_res scr 125 d M 13 [some (.ref xr), l1] (st) = ab_res scr 125 d M 14 [some (.ref xr), l1] (.ref xr :: st) := ab_o_aload_n (ab_dc hc125 dX12_fails_13) rfl
theorem q125_14 {v0 : Nat} : ab_res scr 125 d M 14 [l0, l1] (.ref v0 :: st) = (ab_gF ab_L0 M v0 12 6).bind fun v => ab_res scr 125 d M 17 [l0, l1] (v :: st) := ab_o_getfield (ab_dc hc125 dX12_fails_14) hk125 lk_fl_12_104
theorem q125_17 {v0 : Int32} {v1 : Nat} (hp : (ab_pt v1 12 4 v0 = true) = True) : ab_res scr 125 d M 17 [l0, l1] (.int v0 :: .ref v1 :: st) = ab_res scr 125 d (ab_up M v1 4 v0) 20 [l0, l1] (st) := ab_o_putfield (ab_dc hc125 dX12_fails_17) hk125 lk_fl_12_107 (of_eq_true hp)
theorem q125_20 : ab_res scr 125 d M 20 [l0, l1] ([]) = some (M, none) := ab_o_return (ab_dc hc125 dX12_fails_20) hr125
end Q125
theorem hc126 : ab_code 126 = cX12_nameHere := rfl
theorem hn126 : ab_nL 126 = 4 := rfl
theorem hk126 : ab_ky 126 = 12 := rfl
theorem hr126 : ab_ret 126 = some .int := rfl
section Q126
variable {scr : Option (List Int32)} {d : Nat} {M : ab_M} {st : List Value} {l0 l1 l2 l3 : Option Value}
theorem q126_0 : ab_res scr 126 d M 0 [l0, l1, l2, l3] (st) = ab_res scr 126 d M 1 [l0, l1, l2, l3] (.int 0 :: st) := (ab_o_iconst (ab_dc hc126 dX12_nameHere_0)).trans (by rw [ki_iconst_0])
theorem q126_1 {v0 : Int32} : ab_res scr 126 d M 1 [l0, l1, l2, l3] (.int v0 :: st) = ab_res scr 126 d M 2 [ab_nl l0, some (.int v0), l2, l3] (st) := (ab_o_st1 (k := 1) (ab_dc hc126 dX12_nameHere_1) (Or.inr (Or.inr (Or.inl ⟨1, rfl, rfl, rfl, ⟨_, rfl⟩⟩))) hn126 (by decide)).trans (ab_kl1 [] _ l0 rfl rfl)
theorem q126_2 {x : Int32} : ab_res scr 126 d M 2 [l0, some (.int x), l2, l3] (st) = ab_res scr 126 d M 3 [l0, some (.int x), l2, l3] (.int x :: st) := ab_o_iload_n (ab_dc hc126 dX12_nameHere_2) rfl
theorem q126_3 : ab_res scr 126 d M 3 [l0, l1, l2, l3] (st) = ab_res scr 126 d M 4 [l0, l1, l2, l3] (.int 5 :: st) := (ab_o_iconst (ab_dc hc126 dX12_nameHere_3)).trans (by rw [ki_iconst_5])
theorem q126_4 {v0 : Int32} {v1 : Int32} : ab_res scr 126 d M 4 [l0, l1, l2, l3] (.int v0 :: .int v1 :: st) = if v0 ≤ v1 then ab_res scr 126 d M 117 [l0, l1, l2, l3] (st) else ab_res scr 126 d M 7 [l0, l1, l2, l3] (st) := ab_o_br2 (off := 113) (ab_dc hc126 dX12_nameHere_4) (by decide) rfl rfl
theorem q126_7 {xr : Nat} : ab_res scr 126 d M 7 [some (.ref xr), l1, l2, l3] (st) = ab_res scr 126 d M 8 [some (.ref xr), l1, l2, l3] (.ref xr :: st) := ab_o_aload_n (ab_dc hc126 dX12_nameHere_7) rfl
theorem q126_8 {v0 : Nat} : ab_res scr 126 d M 8 [l0, l1, l2, l3] (.ref v0 :: st) = (ab_gF ab_L0 M v0 12 7).bind fun v => ab_res scr 126 d M 11 [l0, l1, l2, l3] (v :: st) := ab_o_getfield (ab_dc hc126 dX12_nameHere_8) hk126 lk_fl_12_110
theorem q126_11 : ab_res scr 126 d M 11 [l0, l1, l2, l3] (st) = ab_res scr 126 d M 12 [l0, l1, l2, l3] (.int 1 :: st) := (ab_o_iconst (ab_dc hc126 dX12_nameHere_11)).trans (by rw [ki_iconst_1])
theorem q126_12 {v0 : Int32} {v1 : Int32} : ab_res scr 126 d M 12 [l0, l1, l2, l3] (.int v0 :: .int v1 :: st) = if ¬ v1 = v0 then ab_res scr 126 d M 117 [l0, l1, l2, l3] (st) else ab_res scr 126 d M 15 [l0, l1, l2, l3] (st) := ab_o_br2 (off := 105) (ab_dc hc126 dX12_nameHere_12) (by decide) rfl rfl
theorem q126_15 {xr : Nat} : ab_res scr 126 d M 15 [some (.ref xr), l1, l2, l3] (st) = ab_res scr 126 d M 16 [some (.ref xr), l1, l2, l3] (.ref xr :: st) := ab_o_aload_n (ab_dc hc126 dX12_nameHere_15) rfl
theorem q126_16 {v0 : Nat} : ab_res scr 126 d M 16 [l0, l1, l2, l3] (.ref v0 :: st) = (ab_gF ab_L0 M v0 12 5).bind fun v => ab_res scr 126 d M 19 [l0, l1, l2, l3] (v :: st) := ab_o_getfield (ab_dc hc126 dX12_nameHere_16) hk126 lk_fl_12_113
theorem q126_19 {xr : Nat} : ab_res scr 126 d M 19 [some (.ref xr), l1, l2, l3] (st) = ab_res scr 126 d M 20 [some (.ref xr), l1, l2, l3] (.ref xr :: st) := ab_o_aload_n (ab_dc hc126 dX12_nameHere_19) rfl
theorem q126_20 {v0 : Nat} : ab_res scr 126 d M 20 [l0, l1, l2, l3] (.ref v0 :: st) = (ab_gF ab_L0 M v0 12 6).bind fun v => ab_res scr 126 d M 23 [l0, l1, l2, l3] (v :: st) := ab_o_getfield (ab_dc hc126 dX12_nameHere_20) hk126 lk_fl_12_104
theorem q126_23 {v0 : Int32} {v1 : Int32} : ab_res scr 126 d M 23 [l0, l1, l2, l3] (.int v0 :: .int v1 :: st) = ab_res scr 126 d M 24 [l0, l1, l2, l3] (.int (v1 - v0) :: st) := ab_xg (ab_dc hc126 dX12_nameHere_23) rfl rfl
theorem q126_24 {xr : Nat} : ab_res scr 126 d M 24 [some (.ref xr), l1, l2, l3] (st) = ab_res scr 126 d M 25 [some (.ref xr), l1, l2, l3] (.ref xr :: st) := ab_o_aload_n (ab_dc hc126 dX12_nameHere_24) rfl
theorem q126_25 {v0 : Nat} : ab_res scr 126 d M 25 [l0, l1, l2, l3] (.ref v0 :: st) = (ab_gF ab_L0 M v0 12 9).bind fun v => ab_res scr 126 d M 28 [l0, l1, l2, l3] (v :: st) := ab_o_getfield (ab_dc hc126 dX12_nameHere_25) hk126 lk_fl_12_13
theorem q126_28 {x : Int32} : ab_res scr 126 d M 28 [l0, some (.int x), l2, l3] (st) = ab_res scr 126 d M 29 [l0, some (.int x), l2, l3] (.int x :: st) := ab_o_iload_n (ab_dc hc126 dX12_nameHere_28) rfl
theorem q126_29 : ab_res scr 126 d M 29 [l0, l1, l2, l3] (st) = ab_res scr 126 d M 30 [l0, l1, l2, l3] (.int 1 :: st) := (ab_o_iconst (ab_dc hc126 dX12_nameHere_29)).trans (by rw [ki_iconst_1])
theorem q126_30 {v0 : Int32} {v1 : Int32} : ab_res scr 126 d M 30 [l0, l1, l2, l3] (.int v0 :: .int v1 :: st) = ab_res scr 126 d M 31 [l0, l1, l2, l3] (.int (v1 + v0) :: st) := ab_xg (ab_dc hc126 dX12_nameHere_30) rfl rfl
theorem q126_31 {v0 : Int32} {v1 : Nat} : ab_res scr 126 d M 31 [l0, l1, l2, l3] (.int v0 :: .ref v1 :: st) = (ab_ald scr ab_L0 M v1 .int v0).bind fun v => ab_res scr 126 d M 32 [l0, l1, l2, l3] (.int v :: st) := ab_o_iaload (ab_dc hc126 dX12_nameHere_31)
theorem q126_32 {xr : Nat} : ab_res scr 126 d M 32 [some (.ref xr), l1, l2, l3] (st) = ab_res scr 126 d M 33 [some (.ref xr), l1, l2, l3] (.ref xr :: st) := ab_o_aload_n (ab_dc hc126 dX12_nameHere_32) rfl
theorem q126_33 {v0 : Nat} : ab_res scr 126 d M 33 [l0, l1, l2, l3] (.ref v0 :: st) = (ab_gF ab_L0 M v0 12 9).bind fun v => ab_res scr 126 d M 36 [l0, l1, l2, l3] (v :: st) := ab_o_getfield (ab_dc hc126 dX12_nameHere_33) hk126 lk_fl_12_13
theorem q126_36 {x : Int32} : ab_res scr 126 d M 36 [l0, some (.int x), l2, l3] (st) = ab_res scr 126 d M 37 [l0, some (.int x), l2, l3] (.int x :: st) := ab_o_iload_n (ab_dc hc126 dX12_nameHere_36) rfl
theorem q126_37 {v0 : Int32} {v1 : Nat} : ab_res scr 126 d M 37 [l0, l1, l2, l3] (.int v0 :: .ref v1 :: st) = (ab_ald scr ab_L0 M v1 .int v0).bind fun v => ab_res scr 126 d M 38 [l0, l1, l2, l3] (.int v :: st) := ab_o_iaload (ab_dc hc126 dX12_nameHere_37)
theorem q126_38 {v0 : Int32} {v1 : Int32} : ab_res scr 126 d M 38 [l0, l1, l2, l3] (.int v0 :: .int v1 :: st) = ab_res scr 126 d M 39 [l0, l1, l2, l3] (.int (v1 - v0) :: st) := ab_xg (ab_dc hc126 dX12_nameHere_38) rfl rfl
theorem q126_39 {v0 : Int32} {v1 : Int32} : ab_res scr 126 d M 39 [l0, l1, l2, l3] (.int v0 :: .int v1 :: st) = if ¬ v1 = v0 then ab_res scr 126 d M 46 [l0, l1, l2, l3] (st) else ab_res scr 126 d M 42 [l0, l1, l2, l3] (st) := ab_o_br2 (off := 7) (ab_dc hc126 dX12_nameHere_39) (by decide) rfl rfl
theorem q126_42 : ab_res scr 126 d M 42 [l0, l1, l2, l3] (st) = ab_res scr 126 d M 43 [l0, l1, l2, l3] (.int 1 :: st) := (ab_o_iconst (ab_dc hc126 dX12_nameHere_42)).trans (by rw [ki_iconst_1])
theorem q126_43 : ab_res scr 126 d M 43 [l0, l1, l2, l3] (st) = ab_res scr 126 d M 47 [l0, l1, l2, l3] (st) := ab_o_goto (ab_dc hc126 dX12_nameHere_43) (by decide)
theorem q126_46 : ab_res scr 126 d M 46 [l0, l1, l2, l3] (st) = ab_res scr 126 d M 47 [l0, l1, l2, l3] (.int 0 :: st) := (ab_o_iconst (ab_dc hc126 dX12_nameHere_46)).trans (by rw [ki_iconst_0])
theorem q126_47 {v0 : Int32} : ab_res scr 126 d M 47 [l0, l1, l2, l3] (.int v0 :: st) = ab_res scr 126 d M 48 [l0, ab_nl l1, some (.int v0), l3] (st) := (ab_o_st1 (k := 2) (ab_dc hc126 dX12_nameHere_47) (Or.inr (Or.inr (Or.inl ⟨2, rfl, rfl, rfl, ⟨_, rfl⟩⟩))) hn126 (by decide)).trans (ab_kl1 [l0] _ l1 rfl rfl)
theorem q126_48 : ab_res scr 126 d M 48 [l0, l1, l2, l3] (st) = ab_res scr 126 d M 49 [l0, l1, l2, l3] (.int 0 :: st) := (ab_o_iconst (ab_dc hc126 dX12_nameHere_48)).trans (by rw [ki_iconst_0])
theorem q126_49 {v0 : Int32} : ab_res scr 126 d M 49 [l0, l1, l2, l3] (.int v0 :: st) = ab_res scr 126 d M 50 [l0, l1, ab_nl l2, some (.int v0)] (st) := (ab_o_st1 (k := 3) (ab_dc hc126 dX12_nameHere_49) (Or.inr (Or.inr (Or.inl ⟨3, rfl, rfl, rfl, ⟨_, rfl⟩⟩))) hn126 (by decide)).trans (ab_kl1 [l0, l1] _ l2 rfl rfl)
theorem q126_50 {x : Int32} : ab_res scr 126 d M 50 [l0, l1, some (.int x), l3] (st) = ab_res scr 126 d M 51 [l0, l1, some (.int x), l3] (.int x :: st) := ab_o_iload_n (ab_dc hc126 dX12_nameHere_50) rfl
theorem q126_51 {v0 : Int32} : ab_res scr 126 d M 51 [l0, l1, l2, l3] (.int v0 :: st) = if v0 = 0 then ab_res scr 126 d M 105 [l0, l1, l2, l3] (st) else ab_res scr 126 d M 54 [l0, l1, l2, l3] (st) := ab_o_br2 (off := 54) (ab_dc hc126 dX12_nameHere_51) (by decide) rfl rfl
theorem q126_54 {x : Int32} : ab_res scr 126 d M 54 [l0, l1, l2, some (.int x)] (st) = ab_res scr 126 d M 55 [l0, l1, l2, some (.int x)] (.int x :: st) := ab_o_iload_n (ab_dc hc126 dX12_nameHere_54) rfl
theorem q126_55 {xr : Nat} : ab_res scr 126 d M 55 [some (.ref xr), l1, l2, l3] (st) = ab_res scr 126 d M 56 [some (.ref xr), l1, l2, l3] (.ref xr :: st) := ab_o_aload_n (ab_dc hc126 dX12_nameHere_55) rfl
theorem q126_56 {v0 : Nat} : ab_res scr 126 d M 56 [l0, l1, l2, l3] (.ref v0 :: st) = (ab_gF ab_L0 M v0 12 5).bind fun v => ab_res scr 126 d M 59 [l0, l1, l2, l3] (v :: st) := ab_o_getfield (ab_dc hc126 dX12_nameHere_56) hk126 lk_fl_12_113
theorem q126_59 {xr : Nat} : ab_res scr 126 d M 59 [some (.ref xr), l1, l2, l3] (st) = ab_res scr 126 d M 60 [some (.ref xr), l1, l2, l3] (.ref xr :: st) := ab_o_aload_n (ab_dc hc126 dX12_nameHere_59) rfl
theorem q126_60 {v0 : Nat} : ab_res scr 126 d M 60 [l0, l1, l2, l3] (.ref v0 :: st) = (ab_gF ab_L0 M v0 12 6).bind fun v => ab_res scr 126 d M 63 [l0, l1, l2, l3] (v :: st) := ab_o_getfield (ab_dc hc126 dX12_nameHere_60) hk126 lk_fl_12_104
theorem q126_63 {v0 : Int32} {v1 : Int32} : ab_res scr 126 d M 63 [l0, l1, l2, l3] (.int v0 :: .int v1 :: st) = ab_res scr 126 d M 64 [l0, l1, l2, l3] (.int (v1 - v0) :: st) := ab_xg (ab_dc hc126 dX12_nameHere_63) rfl rfl
theorem q126_64 {v0 : Int32} {v1 : Int32} : ab_res scr 126 d M 64 [l0, l1, l2, l3] (.int v0 :: .int v1 :: st) = if v0 ≤ v1 then ab_res scr 126 d M 105 [l0, l1, l2, l3] (st) else ab_res scr 126 d M 67 [l0, l1, l2, l3] (st) := ab_o_br2 (off := 41) (ab_dc hc126 dX12_nameHere_64) (by decide) rfl rfl
theorem q126_67 {xr : Nat} : ab_res scr 126 d M 67 [some (.ref xr), l1, l2, l3] (st) = ab_res scr 126 d M 68 [some (.ref xr), l1, l2, l3] (.ref xr :: st) := ab_o_aload_n (ab_dc hc126 dX12_nameHere_67) rfl
theorem q126_68 {xr : Nat} : ab_res scr 126 d M 68 [some (.ref xr), l1, l2, l3] (st) = ab_res scr 126 d M 69 [some (.ref xr), l1, l2, l3] (.ref xr :: st) := ab_o_aload_n (ab_dc hc126 dX12_nameHere_68) rfl
theorem q126_69 {v0 : Nat} : ab_res scr 126 d M 69 [l0, l1, l2, l3] (.ref v0 :: st) = (ab_gF ab_L0 M v0 12 6).bind fun v => ab_res scr 126 d M 72 [l0, l1, l2, l3] (v :: st) := ab_o_getfield (ab_dc hc126 dX12_nameHere_69) hk126 lk_fl_12_104
theorem q126_72 {x : Int32} : ab_res scr 126 d M 72 [l0, l1, l2, some (.int x)] (st) = ab_res scr 126 d M 73 [l0, l1, l2, some (.int x)] (.int x :: st) := ab_o_iload_n (ab_dc hc126 dX12_nameHere_72) rfl
theorem q126_73 {v0 : Int32} {v1 : Int32} : ab_res scr 126 d M 73 [l0, l1, l2, l3] (.int v0 :: .int v1 :: st) = ab_res scr 126 d M 74 [l0, l1, l2, l3] (.int (v1 + v0) :: st) := ab_xg (ab_dc hc126 dX12_nameHere_73) rfl rfl
theorem q126_74 {v0 : Int32} {v1 : Nat} (hb : (ab_rc ab_L0 v1 = some 12) = True) : ab_res scr 126 2 M 74 [l0, l1, l2, l3] ([.int v0, .ref v1]) = (ab_ms scr 124 [.ref v1, .int v0] M).bind fun o => ab_res scr 126 2 o.1 77 [l0, l1, l2, l3] (ab_pr o.2 []) := ab_o_virtual (ab_dc hc126 dX12_nameHere_74) hk126 lk_ca_12_116 hm124 (Nat.le_of_ble_eq_true rfl) rfl rfl rfl (of_eq_true hb) rfl rfl
theorem q126_77 {xr : Nat} : ab_res scr 126 d M 77 [some (.ref xr), l1, l2, l3] (st) = ab_res scr 126 d M 78 [some (.ref xr), l1, l2, l3] (.ref xr :: st) := ab_o_aload_n (ab_dc hc126 dX12_nameHere_77) rfl
theorem q126_78 {v0 : Nat} : ab_res scr 126 d M 78 [l0, l1, l2, l3] (.ref v0 :: st) = (ab_gF ab_L0 M v0 12 10).bind fun v => ab_res scr 126 d M 81 [l0, l1, l2, l3] (v :: st) := ab_o_getfield (ab_dc hc126 dX12_nameHere_78) hk126 lk_fl_12_16
theorem q126_81 {xr : Nat} : ab_res scr 126 d M 81 [some (.ref xr), l1, l2, l3] (st) = ab_res scr 126 d M 82 [some (.ref xr), l1, l2, l3] (.ref xr :: st) := ab_o_aload_n (ab_dc hc126 dX12_nameHere_81) rfl
theorem q126_82 {v0 : Nat} : ab_res scr 126 d M 82 [l0, l1, l2, l3] (.ref v0 :: st) = (ab_gF ab_L0 M v0 12 9).bind fun v => ab_res scr 126 d M 85 [l0, l1, l2, l3] (v :: st) := ab_o_getfield (ab_dc hc126 dX12_nameHere_82) hk126 lk_fl_12_13
theorem q126_85 {x : Int32} : ab_res scr 126 d M 85 [l0, some (.int x), l2, l3] (st) = ab_res scr 126 d M 86 [l0, some (.int x), l2, l3] (.int x :: st) := ab_o_iload_n (ab_dc hc126 dX12_nameHere_85) rfl
theorem q126_86 {v0 : Int32} {v1 : Nat} : ab_res scr 126 d M 86 [l0, l1, l2, l3] (.int v0 :: .ref v1 :: st) = (ab_ald scr ab_L0 M v1 .int v0).bind fun v => ab_res scr 126 d M 87 [l0, l1, l2, l3] (.int v :: st) := ab_o_iaload (ab_dc hc126 dX12_nameHere_86)
theorem q126_87 {x : Int32} : ab_res scr 126 d M 87 [l0, l1, l2, some (.int x)] (st) = ab_res scr 126 d M 88 [l0, l1, l2, some (.int x)] (.int x :: st) := ab_o_iload_n (ab_dc hc126 dX12_nameHere_87) rfl
theorem q126_88 {v0 : Int32} {v1 : Int32} : ab_res scr 126 d M 88 [l0, l1, l2, l3] (.int v0 :: .int v1 :: st) = ab_res scr 126 d M 89 [l0, l1, l2, l3] (.int (v1 + v0) :: st) := ab_xg (ab_dc hc126 dX12_nameHere_88) rfl rfl
theorem q126_89 {v0 : Int32} {v1 : Nat} : ab_res scr 126 d M 89 [l0, l1, l2, l3] (.int v0 :: .ref v1 :: st) = (ab_ald scr ab_L0 M v1 .int v0).bind fun v => ab_res scr 126 d M 90 [l0, l1, l2, l3] (.int v :: st) := ab_o_iaload (ab_dc hc126 dX12_nameHere_89)
theorem q126_90 {v0 : Int32} {v1 : Int32} : ab_res scr 126 d M 90 [l0, l1, l2, l3] (.int v0 :: .int v1 :: st) = if ¬ v1 = v0 then ab_res scr 126 d M 97 [l0, l1, l2, l3] (st) else ab_res scr 126 d M 93 [l0, l1, l2, l3] (st) := ab_o_br2 (off := 7) (ab_dc hc126 dX12_nameHere_90) (by decide) rfl rfl
theorem q126_93 : ab_res scr 126 d M 93 [l0, l1, l2, l3] (st) = ab_res scr 126 d M 94 [l0, l1, l2, l3] (.int 1 :: st) := (ab_o_iconst (ab_dc hc126 dX12_nameHere_93)).trans (by rw [ki_iconst_1])
theorem q126_94 : ab_res scr 126 d M 94 [l0, l1, l2, l3] (st) = ab_res scr 126 d M 98 [l0, l1, l2, l3] (st) := ab_o_goto (ab_dc hc126 dX12_nameHere_94) (by decide)
theorem q126_97 : ab_res scr 126 d M 97 [l0, l1, l2, l3] (st) = ab_res scr 126 d M 98 [l0, l1, l2, l3] (.int 0 :: st) := (ab_o_iconst (ab_dc hc126 dX12_nameHere_97)).trans (by rw [ki_iconst_0])
theorem q126_98 {v0 : Int32} : ab_res scr 126 d M 98 [l0, l1, l2, l3] (.int v0 :: st) = ab_res scr 126 d M 99 [l0, ab_nl l1, some (.int v0), l3] (st) := (ab_o_st1 (k := 2) (ab_dc hc126 dX12_nameHere_98) (Or.inr (Or.inr (Or.inl ⟨2, rfl, rfl, rfl, ⟨_, rfl⟩⟩))) hn126 (by decide)).trans (ab_kl1 [l0] _ l1 rfl rfl)
theorem q126_99 {x : Int32} : ab_res scr 126 d M 99 [l0, l1, l2, some (.int x)] (st) = ab_res scr 126 d M 102 [l0, l1, ab_nl l2, some (.int (x + 1))] (st) := (ab_o_iinc (k := 3) (ab_dc hc126 dX12_nameHere_99) hn126 (by decide) rfl).trans (by rw [ki_iconst_1]; exact ab_kl1 [l0, l1] _ l2 rfl rfl)
theorem q126_102 : ab_res scr 126 d M 102 [l0, l1, l2, l3] (st) = ab_res scr 126 d M 50 [l0, l1, l2, l3] (st) := ab_o_goto (ab_dc hc126 dX12_nameHere_102) (by decide)
theorem q126_105 {x : Int32} : ab_res scr 126 d M 105 [l0, l1, some (.int x), l3] (st) = ab_res scr 126 d M 106 [l0, l1, some (.int x), l3] (.int x :: st) := ab_o_iload_n (ab_dc hc126 dX12_nameHere_105) rfl
theorem q126_106 {v0 : Int32} : ab_res scr 126 d M 106 [l0, l1, l2, l3] (.int v0 :: st) = if v0 = 0 then ab_res scr 126 d M 111 [l0, l1, l2, l3] (st) else ab_res scr 126 d M 109 [l0, l1, l2, l3] (st) := ab_o_br2 (off := 5) (ab_dc hc126 dX12_nameHere_106) (by decide) rfl rfl
theorem q126_109 {x : Int32} : ab_res scr 126 d M 109 [l0, some (.int x), l2, l3] (st) = ab_res scr 126 d M 110 [l0, some (.int x), l2, l3] (.int x :: st) := ab_o_iload_n (ab_dc hc126 dX12_nameHere_109) rfl
theorem q126_110 {v0 : Int32} : ab_res scr 126 d M 110 [l0, l1, l2, l3] ([.int v0]) = some (M, some (.int v0)) := ab_o_ireturn (ab_dc hc126 dX12_nameHere_110) hr126 rfl
theorem q126_111 {x : Int32} : ab_res scr 126 d M 111 [l0, some (.int x), l2, l3] (st) = ab_res scr 126 d M 114 [ab_nl l0, some (.int (x + 1)), l2, l3] (st) := (ab_o_iinc (k := 1) (ab_dc hc126 dX12_nameHere_111) hn126 (by decide) rfl).trans (by rw [ki_iconst_1]; exact ab_kl1 [] _ l0 rfl rfl)
theorem q126_114 : ab_res scr 126 d M 114 [l0, l1, l2, l3] (st) = ab_res scr 126 d M 2 [l0, l1, l2, l3] (st) := ab_o_goto (ab_dc hc126 dX12_nameHere_114) (by decide)
theorem q126_117 : ab_res scr 126 d M 117 [l0, l1, l2, l3] (st) = ab_res scr 126 d M 119 [l0, l1, l2, l3] (.int (-4) :: st) := (ab_o_bipush (ab_dc hc126 dX12_nameHere_117)).trans (by rw [ki_bipush_m4])
theorem q126_119 {v0 : Int32} : ab_res scr 126 d M 119 [l0, l1, l2, l3] ([.int v0]) = some (M, some (.int v0)) := ab_o_ireturn (ab_dc hc126 dX12_nameHere_119) hr126 rfl
end Q126
theorem hc127 : ab_code 127 = cX12_next := rfl
theorem hn127 : ab_nL 127 = 2 := rfl
theorem hk127 : ab_ky 127 = 12 := rfl
theorem hr127 : ab_ret 127 = none := rfl
section Q127
variable {scr : Option (List Int32)} {d : Nat} {M : ab_M} {st : List Value} {l0 l1 : Option Value}
theorem q127_0 {xr : Nat} : ab_res scr 127 d M 0 [some (.ref xr), l1] (st) = ab_res scr 127 d M 1 [some (.ref xr), l1] (.ref xr :: st) := ab_o_aload_n (ab_dc hc127 dX12_next_0) rfl
theorem q127_1 {v0 : Nat} : ab_res scr 127 d M 1 [l0, l1] (.ref v0 :: st) = (ab_gF ab_L0 M v0 12 3).bind fun v => ab_res scr 127 d M 4 [l0, l1] (v :: st) := ab_o_getfield (ab_dc hc127 dX12_next_1) hk127 lk_fl_12_101
theorem q127_4 {v0 : Int32} : ab_res scr 127 d M 4 [l0, l1] (.int v0 :: st) = if v0 ≤ 0 then ab_res scr 127 d M 8 [l0, l1] (st) else ab_res scr 127 d M 7 [l0, l1] (st) := ab_o_br2 (off := 4) (ab_dc hc127 dX12_next_4) (by decide) rfl rfl
theorem q127_7 : ab_res scr 127 d M 7 [l0, l1] ([]) = some (M, none) := ab_o_return (ab_dc hc127 dX12_next_7) hr127
theorem q127_8 {xr : Nat} : ab_res scr 127 d M 8 [some (.ref xr), l1] (st) = ab_res scr 127 d M 9 [some (.ref xr), l1] (.ref xr :: st) := ab_o_aload_n (ab_dc hc127 dX12_next_8) rfl
theorem q127_9 {xr : Nat} : ab_res scr 127 d M 9 [some (.ref xr), l1] (st) = ab_res scr 127 d M 10 [some (.ref xr), l1] (.ref xr :: st) := ab_o_aload_n (ab_dc hc127 dX12_next_9) rfl
theorem q127_10 {v0 : Nat} : ab_res scr 127 d M 10 [l0, l1] (.ref v0 :: st) = (ab_gF ab_L0 M v0 12 5).bind fun v => ab_res scr 127 d M 13 [l0, l1] (v :: st) := ab_o_getfield (ab_dc hc127 dX12_next_10) hk127 lk_fl_12_113
theorem q127_13 {v0 : Int32} {v1 : Nat} (hb : (ab_rc ab_L0 v1 = some 12) = True) : ab_res scr 127 2 M 13 [l0, l1] ([.int v0, .ref v1]) = (ab_ms scr 124 [.ref v1, .int v0] M).bind fun o => ab_res scr 127 2 o.1 16 [l0, l1] (ab_pr o.2 []) := ab_o_virtual (ab_dc hc127 dX12_next_13) hk127 lk_ca_12_116 hm124 (Nat.le_of_ble_eq_true rfl) rfl rfl rfl (of_eq_true hb) rfl rfl
theorem q127_16 : ab_res scr 127 d M 16 [l0, l1] (st) = ab_res scr 127 d M 18 [l0, l1] (.int 32 :: st) := (ab_o_bipush (ab_dc hc127 dX12_next_16)).trans (by rw [ki_bipush_32])
theorem q127_18 {v0 : Int32} {v1 : Int32} : ab_res scr 127 d M 18 [l0, l1] (.int v0 :: .int v1 :: st) = if ¬ v1 = v0 then ab_res scr 127 d M 34 [l0, l1] (st) else ab_res scr 127 d M 21 [l0, l1] (st) := ab_o_br2 (off := 16) (ab_dc hc127 dX12_next_18) (by decide) rfl rfl
theorem q127_21 {xr : Nat} : ab_res scr 127 d M 21 [some (.ref xr), l1] (st) = ab_res scr 127 d M 22 [some (.ref xr), l1] (.ref xr :: st) := ab_o_aload_n (ab_dc hc127 dX12_next_21) rfl
theorem q127_22 {v0 : Nat} : ab_res scr 127 d M 22 [l0, l1] (.ref v0 :: st) = ab_res scr 127 d M 23 [l0, l1] (.ref v0 :: .ref v0 :: st) := ab_xg (ab_dc hc127 dX12_next_22) rfl rfl
theorem q127_23 {v0 : Nat} : ab_res scr 127 d M 23 [l0, l1] (.ref v0 :: st) = (ab_gF ab_L0 M v0 12 5).bind fun v => ab_res scr 127 d M 26 [l0, l1] (v :: st) := ab_o_getfield (ab_dc hc127 dX12_next_23) hk127 lk_fl_12_113
theorem q127_26 : ab_res scr 127 d M 26 [l0, l1] (st) = ab_res scr 127 d M 27 [l0, l1] (.int 1 :: st) := (ab_o_iconst (ab_dc hc127 dX12_next_26)).trans (by rw [ki_iconst_1])
theorem q127_27 {v0 : Int32} {v1 : Int32} : ab_res scr 127 d M 27 [l0, l1] (.int v0 :: .int v1 :: st) = ab_res scr 127 d M 28 [l0, l1] (.int (v1 + v0) :: st) := ab_xg (ab_dc hc127 dX12_next_27) rfl rfl
theorem q127_28 {v0 : Int32} {v1 : Nat} (hp : (ab_pt v1 12 5 v0 = true) = True) : ab_res scr 127 d M 28 [l0, l1] (.int v0 :: .ref v1 :: st) = ab_res scr 127 d (ab_up M v1 5 v0) 31 [l0, l1] (st) := ab_o_putfield (ab_dc hc127 dX12_next_28) hk127 lk_fl_12_113 (of_eq_true hp)
theorem q127_31 : ab_res scr 127 d M 31 [l0, l1] (st) = ab_res scr 127 d M 8 [l0, l1] (st) := ab_o_goto (ab_dc hc127 dX12_next_31) (by decide)
theorem q127_34 {xr : Nat} : ab_res scr 127 d M 34 [some (.ref xr), l1] (st) = ab_res scr 127 d M 35 [some (.ref xr), l1] (.ref xr :: st) := ab_o_aload_n (ab_dc hc127 dX12_next_34) rfl
theorem q127_35 {xr : Nat} : ab_res scr 127 d M 35 [some (.ref xr), l1] (st) = ab_res scr 127 d M 36 [some (.ref xr), l1] (.ref xr :: st) := ab_o_aload_n (ab_dc hc127 dX12_next_35) rfl
theorem q127_36 {v0 : Nat} : ab_res scr 127 d M 36 [l0, l1] (.ref v0 :: st) = (ab_gF ab_L0 M v0 12 5).bind fun v => ab_res scr 127 d M 39 [l0, l1] (v :: st) := ab_o_getfield (ab_dc hc127 dX12_next_36) hk127 lk_fl_12_113
theorem q127_39 {v0 : Int32} {v1 : Nat} (hp : (ab_pt v1 12 6 v0 = true) = True) : ab_res scr 127 d M 39 [l0, l1] (.int v0 :: .ref v1 :: st) = ab_res scr 127 d (ab_up M v1 6 v0) 42 [l0, l1] (st) := ab_o_putfield (ab_dc hc127 dX12_next_39) hk127 lk_fl_12_104 (of_eq_true hp)
theorem q127_42 {xr : Nat} : ab_res scr 127 d M 42 [some (.ref xr), l1] (st) = ab_res scr 127 d M 43 [some (.ref xr), l1] (.ref xr :: st) := ab_o_aload_n (ab_dc hc127 dX12_next_42) rfl
theorem q127_43 {xr : Nat} : ab_res scr 127 d M 43 [some (.ref xr), l1] (st) = ab_res scr 127 d M 44 [some (.ref xr), l1] (.ref xr :: st) := ab_o_aload_n (ab_dc hc127 dX12_next_43) rfl
theorem q127_44 {v0 : Nat} : ab_res scr 127 d M 44 [l0, l1] (.ref v0 :: st) = (ab_gF ab_L0 M v0 12 5).bind fun v => ab_res scr 127 d M 47 [l0, l1] (v :: st) := ab_o_getfield (ab_dc hc127 dX12_next_44) hk127 lk_fl_12_113
theorem q127_47 {v0 : Int32} {v1 : Nat} (hb : (ab_rc ab_L0 v1 = some 12) = True) : ab_res scr 127 2 M 47 [l0, l1] ([.int v0, .ref v1]) = (ab_ms scr 124 [.ref v1, .int v0] M).bind fun o => ab_res scr 127 2 o.1 50 [l0, l1] (ab_pr o.2 []) := ab_o_virtual (ab_dc hc127 dX12_next_47) hk127 lk_ca_12_116 hm124 (Nat.le_of_ble_eq_true rfl) rfl rfl rfl (of_eq_true hb) rfl rfl
theorem q127_50 {v0 : Int32} : ab_res scr 127 d M 50 [l0, l1] (.int v0 :: st) = ab_res scr 127 d M 51 [ab_nl l0, some (.int v0)] (st) := (ab_o_st1 (k := 1) (ab_dc hc127 dX12_next_50) (Or.inr (Or.inr (Or.inl ⟨1, rfl, rfl, rfl, ⟨_, rfl⟩⟩))) hn127 (by decide)).trans (ab_kl1 [] _ l0 rfl rfl)
theorem q127_51 {xr : Nat} : ab_res scr 127 d M 51 [some (.ref xr), l1] (st) = ab_res scr 127 d M 52 [some (.ref xr), l1] (.ref xr :: st) := ab_o_aload_n (ab_dc hc127 dX12_next_51) rfl
theorem q127_52 : ab_res scr 127 d M 52 [l0, l1] (st) = ab_res scr 127 d M 53 [l0, l1] (.int 0 :: st) := (ab_o_iconst (ab_dc hc127 dX12_next_52)).trans (by rw [ki_iconst_0])
theorem q127_53 {v0 : Int32} {v1 : Nat} (hp : (ab_pt v1 12 8 v0 = true) = True) : ab_res scr 127 d M 53 [l0, l1] (.int v0 :: .ref v1 :: st) = ab_res scr 127 d (ab_up M v1 8 v0) 56 [l0, l1] (st) := ab_o_putfield (ab_dc hc127 dX12_next_53) hk127 lk_fl_12_120 (of_eq_true hp)
theorem q127_56 {x : Int32} : ab_res scr 127 d M 56 [l0, some (.int x)] (st) = ab_res scr 127 d M 57 [l0, some (.int x)] (.int x :: st) := ab_o_iload_n (ab_dc hc127 dX12_next_56) rfl
theorem q127_57 : ab_res scr 127 d M 57 [l0, l1] (st) = ab_res scr 127 d M 59 [l0, l1] (.int (-4) :: st) := (ab_o_bipush (ab_dc hc127 dX12_next_57)).trans (by rw [ki_bipush_m4])
theorem q127_59 {v0 : Int32} {v1 : Int32} : ab_res scr 127 d M 59 [l0, l1] (.int v0 :: .int v1 :: st) = if ¬ v1 = v0 then ab_res scr 127 d M 70 [l0, l1] (st) else ab_res scr 127 d M 62 [l0, l1] (st) := ab_o_br2 (off := 11) (ab_dc hc127 dX12_next_59) (by decide) rfl rfl
theorem q127_62 {xr : Nat} : ab_res scr 127 d M 62 [some (.ref xr), l1] (st) = ab_res scr 127 d M 63 [some (.ref xr), l1] (.ref xr :: st) := ab_o_aload_n (ab_dc hc127 dX12_next_62) rfl
theorem q127_63 : ab_res scr 127 d M 63 [l0, l1] (st) = ab_res scr 127 d M 64 [l0, l1] (.int 0 :: st) := (ab_o_iconst (ab_dc hc127 dX12_next_63)).trans (by rw [ki_iconst_0])
theorem q127_64 {v0 : Int32} {v1 : Nat} (hp : (ab_pt v1 12 7 v0 = true) = True) : ab_res scr 127 d M 64 [l0, l1] (.int v0 :: .ref v1 :: st) = ab_res scr 127 d (ab_up M v1 7 v0) 67 [l0, l1] (st) := ab_o_putfield (ab_dc hc127 dX12_next_64) hk127 lk_fl_12_110 (of_eq_true hp)
theorem q127_67 : ab_res scr 127 d M 67 [l0, l1] (st) = ab_res scr 127 d M 269 [l0, l1] (st) := ab_o_goto (ab_dc hc127 dX12_next_67) (by decide)
theorem q127_70 {x : Int32} : ab_res scr 127 d M 70 [l0, some (.int x)] (st) = ab_res scr 127 d M 71 [l0, some (.int x)] (.int x :: st) := ab_o_iload_n (ab_dc hc127 dX12_next_70) rfl
theorem q127_71 {v0 : Int32} : ab_res scr 127 d M 71 [l0, l1] (.int v0 :: st) = ab_res scr 127 d M 72 [l0, l1] (.long v0.toInt64 :: st) := ab_xg (ab_dc hc127 dX12_next_71) rfl rfl
theorem q127_72 : ab_res scr 127 d M 72 [l0, l1] (st) = ab_res scr 127 d M 75 [l0, l1] (.long 97 :: st) := ab_o_ldc2_w (ab_dc hc127 dX12_next_72) hk127 lk_ko_12_123
theorem q127_75 : ab_res scr 127 d M 75 [l0, l1] (st) = ab_res scr 127 d M 78 [l0, l1] (.long 122 :: st) := ab_o_ldc2_w (ab_dc hc127 dX12_next_75) hk127 lk_ko_12_125
theorem q127_78 {v0 : Int64} {v1 : Int64} {v2 : Int64} : ab_res scr 127 2 M 78 [l0, l1] ([.long v0, .long v1, .long v2]) = (ab_ms scr 120 [.long v2, .long v1, .long v0] M).bind fun o => ab_res scr 127 2 o.1 81 [l0, l1] (ab_pr o.2 []) := ab_o_static (ab_dc hc127 dX12_next_78) hk127 lk_ca_12_97 hm120 (Nat.le_of_ble_eq_true rfl) rfl rfl rfl rfl rfl
theorem q127_81 {v0 : Int32} : ab_res scr 127 d M 81 [l0, l1] (.int v0 :: st) = if v0 = 0 then ab_res scr 127 d M 126 [l0, l1] (st) else ab_res scr 127 d M 84 [l0, l1] (st) := ab_o_br2 (off := 45) (ab_dc hc127 dX12_next_81) (by decide) rfl rfl
theorem q127_84 {xr : Nat} : ab_res scr 127 d M 84 [some (.ref xr), l1] (st) = ab_res scr 127 d M 85 [some (.ref xr), l1] (.ref xr :: st) := ab_o_aload_n (ab_dc hc127 dX12_next_84) rfl
theorem q127_85 {xr : Nat} : ab_res scr 127 d M 85 [some (.ref xr), l1] (st) = ab_res scr 127 d M 86 [some (.ref xr), l1] (.ref xr :: st) := ab_o_aload_n (ab_dc hc127 dX12_next_85) rfl
theorem q127_86 {v0 : Nat} : ab_res scr 127 d M 86 [l0, l1] (.ref v0 :: st) = (ab_gF ab_L0 M v0 12 5).bind fun v => ab_res scr 127 d M 89 [l0, l1] (v :: st) := ab_o_getfield (ab_dc hc127 dX12_next_86) hk127 lk_fl_12_113
theorem q127_89 {v0 : Int32} {v1 : Nat} (hb : (ab_rc ab_L0 v1 = some 12) = True) : ab_res scr 127 2 M 89 [l0, l1] ([.int v0, .ref v1]) = (ab_ms scr 124 [.ref v1, .int v0] M).bind fun o => ab_res scr 127 2 o.1 92 [l0, l1] (ab_pr o.2 []) := ab_o_virtual (ab_dc hc127 dX12_next_89) hk127 lk_ca_12_116 hm124 (Nat.le_of_ble_eq_true rfl) rfl rfl rfl (of_eq_true hb) rfl rfl
theorem q127_92 {v0 : Int32} : ab_res scr 127 d M 92 [l0, l1] (.int v0 :: st) = ab_res scr 127 d M 93 [l0, l1] (.long v0.toInt64 :: st) := ab_xg (ab_dc hc127 dX12_next_92) rfl rfl
theorem q127_93 : ab_res scr 127 d M 93 [l0, l1] (st) = ab_res scr 127 d M 96 [l0, l1] (.long 97 :: st) := ab_o_ldc2_w (ab_dc hc127 dX12_next_93) hk127 lk_ko_12_123
theorem q127_96 : ab_res scr 127 d M 96 [l0, l1] (st) = ab_res scr 127 d M 99 [l0, l1] (.long 122 :: st) := ab_o_ldc2_w (ab_dc hc127 dX12_next_96) hk127 lk_ko_12_125
theorem q127_99 {v0 : Int64} {v1 : Int64} {v2 : Int64} : ab_res scr 127 2 M 99 [l0, l1] ([.long v0, .long v1, .long v2]) = (ab_ms scr 120 [.long v2, .long v1, .long v0] M).bind fun o => ab_res scr 127 2 o.1 102 [l0, l1] (ab_pr o.2 []) := ab_o_static (ab_dc hc127 dX12_next_99) hk127 lk_ca_12_97 hm120 (Nat.le_of_ble_eq_true rfl) rfl rfl rfl rfl rfl
theorem q127_102 {v0 : Int32} : ab_res scr 127 d M 102 [l0, l1] (.int v0 :: st) = if v0 = 0 then ab_res scr 127 d M 118 [l0, l1] (st) else ab_res scr 127 d M 105 [l0, l1] (st) := ab_o_br2 (off := 16) (ab_dc hc127 dX12_next_102) (by decide) rfl rfl
theorem q127_105 {xr : Nat} : ab_res scr 127 d M 105 [some (.ref xr), l1] (st) = ab_res scr 127 d M 106 [some (.ref xr), l1] (.ref xr :: st) := ab_o_aload_n (ab_dc hc127 dX12_next_105) rfl
theorem q127_106 {v0 : Nat} : ab_res scr 127 d M 106 [l0, l1] (.ref v0 :: st) = ab_res scr 127 d M 107 [l0, l1] (.ref v0 :: .ref v0 :: st) := ab_xg (ab_dc hc127 dX12_next_106) rfl rfl
theorem q127_107 {v0 : Nat} : ab_res scr 127 d M 107 [l0, l1] (.ref v0 :: st) = (ab_gF ab_L0 M v0 12 5).bind fun v => ab_res scr 127 d M 110 [l0, l1] (v :: st) := ab_o_getfield (ab_dc hc127 dX12_next_107) hk127 lk_fl_12_113
theorem q127_110 : ab_res scr 127 d M 110 [l0, l1] (st) = ab_res scr 127 d M 111 [l0, l1] (.int 1 :: st) := (ab_o_iconst (ab_dc hc127 dX12_next_110)).trans (by rw [ki_iconst_1])
theorem q127_111 {v0 : Int32} {v1 : Int32} : ab_res scr 127 d M 111 [l0, l1] (.int v0 :: .int v1 :: st) = ab_res scr 127 d M 112 [l0, l1] (.int (v1 + v0) :: st) := ab_xg (ab_dc hc127 dX12_next_111) rfl rfl
theorem q127_112 {v0 : Int32} {v1 : Nat} (hp : (ab_pt v1 12 5 v0 = true) = True) : ab_res scr 127 d M 112 [l0, l1] (.int v0 :: .ref v1 :: st) = ab_res scr 127 d (ab_up M v1 5 v0) 115 [l0, l1] (st) := ab_o_putfield (ab_dc hc127 dX12_next_112) hk127 lk_fl_12_113 (of_eq_true hp)
theorem q127_115 : ab_res scr 127 d M 115 [l0, l1] (st) = ab_res scr 127 d M 84 [l0, l1] (st) := ab_o_goto (ab_dc hc127 dX12_next_115) (by decide)
theorem q127_118 {xr : Nat} : ab_res scr 127 d M 118 [some (.ref xr), l1] (st) = ab_res scr 127 d M 119 [some (.ref xr), l1] (.ref xr :: st) := ab_o_aload_n (ab_dc hc127 dX12_next_118) rfl
theorem q127_119 : ab_res scr 127 d M 119 [l0, l1] (st) = ab_res scr 127 d M 120 [l0, l1] (.int 1 :: st) := (ab_o_iconst (ab_dc hc127 dX12_next_119)).trans (by rw [ki_iconst_1])
theorem q127_120 {v0 : Int32} {v1 : Nat} (hp : (ab_pt v1 12 7 v0 = true) = True) : ab_res scr 127 d M 120 [l0, l1] (.int v0 :: .ref v1 :: st) = ab_res scr 127 d (ab_up M v1 7 v0) 123 [l0, l1] (st) := ab_o_putfield (ab_dc hc127 dX12_next_120) hk127 lk_fl_12_110 (of_eq_true hp)
theorem q127_123 : ab_res scr 127 d M 123 [l0, l1] (st) = ab_res scr 127 d M 269 [l0, l1] (st) := ab_o_goto (ab_dc hc127 dX12_next_123) (by decide)
theorem q127_126 {x : Int32} : ab_res scr 127 d M 126 [l0, some (.int x)] (st) = ab_res scr 127 d M 127 [l0, some (.int x)] (.int x :: st) := ab_o_iload_n (ab_dc hc127 dX12_next_126) rfl
theorem q127_127 {v0 : Int32} : ab_res scr 127 d M 127 [l0, l1] (.int v0 :: st) = ab_res scr 127 d M 128 [l0, l1] (.long v0.toInt64 :: st) := ab_xg (ab_dc hc127 dX12_next_127) rfl rfl
theorem q127_128 : ab_res scr 127 d M 128 [l0, l1] (st) = ab_res scr 127 d M 131 [l0, l1] (.long 48 :: st) := ab_o_ldc2_w (ab_dc hc127 dX12_next_128) hk127 lk_ko_12_127
theorem q127_131 : ab_res scr 127 d M 131 [l0, l1] (st) = ab_res scr 127 d M 134 [l0, l1] (.long 57 :: st) := ab_o_ldc2_w (ab_dc hc127 dX12_next_131) hk127 lk_ko_12_129
theorem q127_134 {v0 : Int64} {v1 : Int64} {v2 : Int64} : ab_res scr 127 2 M 134 [l0, l1] ([.long v0, .long v1, .long v2]) = (ab_ms scr 120 [.long v2, .long v1, .long v0] M).bind fun o => ab_res scr 127 2 o.1 137 [l0, l1] (ab_pr o.2 []) := ab_o_static (ab_dc hc127 dX12_next_134) hk127 lk_ca_12_97 hm120 (Nat.le_of_ble_eq_true rfl) rfl rfl rfl rfl rfl
theorem q127_137 {v0 : Int32} : ab_res scr 127 d M 137 [l0, l1] (.int v0 :: st) = if v0 = 0 then ab_res scr 127 d M 243 [l0, l1] (st) else ab_res scr 127 d M 140 [l0, l1] (st) := ab_o_br2 (off := 106) (ab_dc hc127 dX12_next_137) (by decide) rfl rfl
theorem q127_140 {xr : Nat} : ab_res scr 127 d M 140 [some (.ref xr), l1] (st) = ab_res scr 127 d M 141 [some (.ref xr), l1] (.ref xr :: st) := ab_o_aload_n (ab_dc hc127 dX12_next_140) rfl
theorem q127_141 {xr : Nat} : ab_res scr 127 d M 141 [some (.ref xr), l1] (st) = ab_res scr 127 d M 142 [some (.ref xr), l1] (.ref xr :: st) := ab_o_aload_n (ab_dc hc127 dX12_next_141) rfl
theorem q127_142 {v0 : Nat} : ab_res scr 127 d M 142 [l0, l1] (.ref v0 :: st) = (ab_gF ab_L0 M v0 12 5).bind fun v => ab_res scr 127 d M 145 [l0, l1] (v :: st) := ab_o_getfield (ab_dc hc127 dX12_next_142) hk127 lk_fl_12_113
theorem q127_145 {v0 : Int32} {v1 : Nat} (hb : (ab_rc ab_L0 v1 = some 12) = True) : ab_res scr 127 2 M 145 [l0, l1] ([.int v0, .ref v1]) = (ab_ms scr 124 [.ref v1, .int v0] M).bind fun o => ab_res scr 127 2 o.1 148 [l0, l1] (ab_pr o.2 []) := ab_o_virtual (ab_dc hc127 dX12_next_145) hk127 lk_ca_12_116 hm124 (Nat.le_of_ble_eq_true rfl) rfl rfl rfl (of_eq_true hb) rfl rfl
theorem q127_148 {v0 : Int32} : ab_res scr 127 d M 148 [l0, l1] (.int v0 :: st) = ab_res scr 127 d M 149 [l0, l1] (.long v0.toInt64 :: st) := ab_xg (ab_dc hc127 dX12_next_148) rfl rfl
theorem q127_149 : ab_res scr 127 d M 149 [l0, l1] (st) = ab_res scr 127 d M 152 [l0, l1] (.long 48 :: st) := ab_o_ldc2_w (ab_dc hc127 dX12_next_149) hk127 lk_ko_12_127
theorem q127_152 : ab_res scr 127 d M 152 [l0, l1] (st) = ab_res scr 127 d M 155 [l0, l1] (.long 57 :: st) := ab_o_ldc2_w (ab_dc hc127 dX12_next_152) hk127 lk_ko_12_129
theorem q127_155 {v0 : Int64} {v1 : Int64} {v2 : Int64} : ab_res scr 127 2 M 155 [l0, l1] ([.long v0, .long v1, .long v2]) = (ab_ms scr 120 [.long v2, .long v1, .long v0] M).bind fun o => ab_res scr 127 2 o.1 158 [l0, l1] (ab_pr o.2 []) := ab_o_static (ab_dc hc127 dX12_next_155) hk127 lk_ca_12_97 hm120 (Nat.le_of_ble_eq_true rfl) rfl rfl rfl rfl rfl
theorem q127_158 {v0 : Int32} : ab_res scr 127 d M 158 [l0, l1] (.int v0 :: st) = if v0 = 0 then ab_res scr 127 d M 217 [l0, l1] (st) else ab_res scr 127 d M 161 [l0, l1] (st) := ab_o_br2 (off := 59) (ab_dc hc127 dX12_next_158) (by decide) rfl rfl
theorem q127_161 {xr : Nat} : ab_res scr 127 d M 161 [some (.ref xr), l1] (st) = ab_res scr 127 d M 162 [some (.ref xr), l1] (.ref xr :: st) := ab_o_aload_n (ab_dc hc127 dX12_next_161) rfl
theorem q127_162 {xr : Nat} : ab_res scr 127 d M 162 [some (.ref xr), l1] (st) = ab_res scr 127 d M 163 [some (.ref xr), l1] (.ref xr :: st) := ab_o_aload_n (ab_dc hc127 dX12_next_162) rfl
theorem q127_163 {v0 : Nat} : ab_res scr 127 d M 163 [l0, l1] (.ref v0 :: st) = (ab_gF ab_L0 M v0 12 5).bind fun v => ab_res scr 127 d M 166 [l0, l1] (v :: st) := ab_o_getfield (ab_dc hc127 dX12_next_163) hk127 lk_fl_12_113
theorem q127_166 {xr : Nat} : ab_res scr 127 d M 166 [some (.ref xr), l1] (st) = ab_res scr 127 d M 167 [some (.ref xr), l1] (.ref xr :: st) := ab_o_aload_n (ab_dc hc127 dX12_next_166) rfl
theorem q127_167 {v0 : Nat} : ab_res scr 127 d M 167 [l0, l1] (.ref v0 :: st) = (ab_gF ab_L0 M v0 12 6).bind fun v => ab_res scr 127 d M 170 [l0, l1] (v :: st) := ab_o_getfield (ab_dc hc127 dX12_next_167) hk127 lk_fl_12_104
theorem q127_170 {v0 : Int32} {v1 : Int32} : ab_res scr 127 d M 170 [l0, l1] (.int v0 :: .int v1 :: st) = ab_res scr 127 d M 171 [l0, l1] (.int (v1 - v0) :: st) := ab_xg (ab_dc hc127 dX12_next_170) rfl rfl
theorem q127_171 : ab_res scr 127 d M 171 [l0, l1] (st) = ab_res scr 127 d M 172 [l0, l1] (.int 3 :: st) := (ab_o_iconst (ab_dc hc127 dX12_next_171)).trans (by rw [ki_iconst_3])
theorem q127_172 {v0 : Int32} {v1 : Int32} : ab_res scr 127 d M 172 [l0, l1] (.int v0 :: .int v1 :: st) = if v0 ≤ v1 then ab_res scr 127 d M 197 [l0, l1] (st) else ab_res scr 127 d M 175 [l0, l1] (st) := ab_o_br2 (off := 25) (ab_dc hc127 dX12_next_172) (by decide) rfl rfl
theorem q127_175 : ab_res scr 127 d M 175 [l0, l1] (st) = ab_res scr 127 d M 177 [l0, l1] (.int 10 :: st) := (ab_o_bipush (ab_dc hc127 dX12_next_175)).trans (by rw [ki_bipush_10])
theorem q127_177 {xr : Nat} : ab_res scr 127 d M 177 [some (.ref xr), l1] (st) = ab_res scr 127 d M 178 [some (.ref xr), l1] (.ref xr :: st) := ab_o_aload_n (ab_dc hc127 dX12_next_177) rfl
theorem q127_178 {v0 : Nat} : ab_res scr 127 d M 178 [l0, l1] (.ref v0 :: st) = (ab_gF ab_L0 M v0 12 8).bind fun v => ab_res scr 127 d M 181 [l0, l1] (v :: st) := ab_o_getfield (ab_dc hc127 dX12_next_178) hk127 lk_fl_12_120
theorem q127_181 {v0 : Int32} {v1 : Int32} : ab_res scr 127 d M 181 [l0, l1] (.int v0 :: .int v1 :: st) = ab_res scr 127 d M 182 [l0, l1] (.int (v1 * v0) :: st) := ab_xg (ab_dc hc127 dX12_next_181) rfl rfl
theorem q127_182 {xr : Nat} : ab_res scr 127 d M 182 [some (.ref xr), l1] (st) = ab_res scr 127 d M 183 [some (.ref xr), l1] (.ref xr :: st) := ab_o_aload_n (ab_dc hc127 dX12_next_182) rfl
theorem q127_183 {xr : Nat} : ab_res scr 127 d M 183 [some (.ref xr), l1] (st) = ab_res scr 127 d M 184 [some (.ref xr), l1] (.ref xr :: st) := ab_o_aload_n (ab_dc hc127 dX12_next_183) rfl
theorem q127_184 {v0 : Nat} : ab_res scr 127 d M 184 [l0, l1] (.ref v0 :: st) = (ab_gF ab_L0 M v0 12 5).bind fun v => ab_res scr 127 d M 187 [l0, l1] (v :: st) := ab_o_getfield (ab_dc hc127 dX12_next_184) hk127 lk_fl_12_113
theorem q127_187 {v0 : Int32} {v1 : Nat} {v2 : Int32} {v3 : Nat} (hb : (ab_rc ab_L0 v1 = some 12) = True) : ab_res scr 127 2 M 187 [l0, l1] ([.int v0, .ref v1, .int v2, .ref v3]) = (ab_ms scr 124 [.ref v1, .int v0] M).bind fun o => ab_res scr 127 2 o.1 190 [l0, l1] (ab_pr o.2 [.int v2, .ref v3]) := ab_o_virtual (ab_dc hc127 dX12_next_187) hk127 lk_ca_12_116 hm124 (Nat.le_of_ble_eq_true rfl) rfl rfl rfl (of_eq_true hb) rfl rfl
theorem q127_190 {v0 : Int32} {v1 : Int32} : ab_res scr 127 d M 190 [l0, l1] (.int v0 :: .int v1 :: st) = ab_res scr 127 d M 191 [l0, l1] (.int (v1 + v0) :: st) := ab_xg (ab_dc hc127 dX12_next_190) rfl rfl
theorem q127_191 : ab_res scr 127 d M 191 [l0, l1] (st) = ab_res scr 127 d M 193 [l0, l1] (.int 48 :: st) := (ab_o_bipush (ab_dc hc127 dX12_next_191)).trans (by rw [ki_bipush_48])
theorem q127_193 {v0 : Int32} {v1 : Int32} : ab_res scr 127 d M 193 [l0, l1] (.int v0 :: .int v1 :: st) = ab_res scr 127 d M 194 [l0, l1] (.int (v1 - v0) :: st) := ab_xg (ab_dc hc127 dX12_next_193) rfl rfl
theorem q127_194 : ab_res scr 127 d M 194 [l0, l1] (st) = ab_res scr 127 d M 201 [l0, l1] (st) := ab_o_goto (ab_dc hc127 dX12_next_194) (by decide)
theorem q127_197 {xr : Nat} : ab_res scr 127 d M 197 [some (.ref xr), l1] (st) = ab_res scr 127 d M 198 [some (.ref xr), l1] (.ref xr :: st) := ab_o_aload_n (ab_dc hc127 dX12_next_197) rfl
theorem q127_198 {v0 : Nat} : ab_res scr 127 d M 198 [l0, l1] (.ref v0 :: st) = (ab_gF ab_L0 M v0 12 8).bind fun v => ab_res scr 127 d M 201 [l0, l1] (v :: st) := ab_o_getfield (ab_dc hc127 dX12_next_198) hk127 lk_fl_12_120
theorem q127_201 {v0 : Int32} {v1 : Nat} (hp : (ab_pt v1 12 8 v0 = true) = True) : ab_res scr 127 d M 201 [l0, l1] (.int v0 :: .ref v1 :: st) = ab_res scr 127 d (ab_up M v1 8 v0) 204 [l0, l1] (st) := ab_o_putfield (ab_dc hc127 dX12_next_201) hk127 lk_fl_12_120 (of_eq_true hp)
theorem q127_204 {xr : Nat} : ab_res scr 127 d M 204 [some (.ref xr), l1] (st) = ab_res scr 127 d M 205 [some (.ref xr), l1] (.ref xr :: st) := ab_o_aload_n (ab_dc hc127 dX12_next_204) rfl
theorem q127_205 {v0 : Nat} : ab_res scr 127 d M 205 [l0, l1] (.ref v0 :: st) = ab_res scr 127 d M 206 [l0, l1] (.ref v0 :: .ref v0 :: st) := ab_xg (ab_dc hc127 dX12_next_205) rfl rfl
theorem q127_206 {v0 : Nat} : ab_res scr 127 d M 206 [l0, l1] (.ref v0 :: st) = (ab_gF ab_L0 M v0 12 5).bind fun v => ab_res scr 127 d M 209 [l0, l1] (v :: st) := ab_o_getfield (ab_dc hc127 dX12_next_206) hk127 lk_fl_12_113
theorem q127_209 : ab_res scr 127 d M 209 [l0, l1] (st) = ab_res scr 127 d M 210 [l0, l1] (.int 1 :: st) := (ab_o_iconst (ab_dc hc127 dX12_next_209)).trans (by rw [ki_iconst_1])
theorem q127_210 {v0 : Int32} {v1 : Int32} : ab_res scr 127 d M 210 [l0, l1] (.int v0 :: .int v1 :: st) = ab_res scr 127 d M 211 [l0, l1] (.int (v1 + v0) :: st) := ab_xg (ab_dc hc127 dX12_next_210) rfl rfl
theorem q127_211 {v0 : Int32} {v1 : Nat} (hp : (ab_pt v1 12 5 v0 = true) = True) : ab_res scr 127 d M 211 [l0, l1] (.int v0 :: .ref v1 :: st) = ab_res scr 127 d (ab_up M v1 5 v0) 214 [l0, l1] (st) := ab_o_putfield (ab_dc hc127 dX12_next_211) hk127 lk_fl_12_113 (of_eq_true hp)
theorem q127_214 : ab_res scr 127 d M 214 [l0, l1] (st) = ab_res scr 127 d M 140 [l0, l1] (st) := ab_o_goto (ab_dc hc127 dX12_next_214) (by decide)
theorem q127_217 {xr : Nat} : ab_res scr 127 d M 217 [some (.ref xr), l1] (st) = ab_res scr 127 d M 218 [some (.ref xr), l1] (.ref xr :: st) := ab_o_aload_n (ab_dc hc127 dX12_next_217) rfl
theorem q127_218 : ab_res scr 127 d M 218 [l0, l1] (st) = ab_res scr 127 d M 219 [l0, l1] (.int 2 :: st) := (ab_o_iconst (ab_dc hc127 dX12_next_218)).trans (by rw [ki_iconst_2])
theorem q127_219 {v0 : Int32} {v1 : Nat} (hp : (ab_pt v1 12 7 v0 = true) = True) : ab_res scr 127 d M 219 [l0, l1] (.int v0 :: .ref v1 :: st) = ab_res scr 127 d (ab_up M v1 7 v0) 222 [l0, l1] (st) := ab_o_putfield (ab_dc hc127 dX12_next_219) hk127 lk_fl_12_110 (of_eq_true hp)
theorem q127_222 {xr : Nat} : ab_res scr 127 d M 222 [some (.ref xr), l1] (st) = ab_res scr 127 d M 223 [some (.ref xr), l1] (.ref xr :: st) := ab_o_aload_n (ab_dc hc127 dX12_next_222) rfl
theorem q127_223 {v0 : Nat} : ab_res scr 127 d M 223 [l0, l1] (.ref v0 :: st) = (ab_gF ab_L0 M v0 12 5).bind fun v => ab_res scr 127 d M 226 [l0, l1] (v :: st) := ab_o_getfield (ab_dc hc127 dX12_next_223) hk127 lk_fl_12_113
theorem q127_226 {xr : Nat} : ab_res scr 127 d M 226 [some (.ref xr), l1] (st) = ab_res scr 127 d M 227 [some (.ref xr), l1] (.ref xr :: st) := ab_o_aload_n (ab_dc hc127 dX12_next_226) rfl
theorem q127_227 {v0 : Nat} : ab_res scr 127 d M 227 [l0, l1] (.ref v0 :: st) = (ab_gF ab_L0 M v0 12 6).bind fun v => ab_res scr 127 d M 230 [l0, l1] (v :: st) := ab_o_getfield (ab_dc hc127 dX12_next_227) hk127 lk_fl_12_104
theorem q127_230 {v0 : Int32} {v1 : Int32} : ab_res scr 127 d M 230 [l0, l1] (.int v0 :: .int v1 :: st) = ab_res scr 127 d M 231 [l0, l1] (.int (v1 - v0) :: st) := ab_xg (ab_dc hc127 dX12_next_230) rfl rfl
theorem q127_231 : ab_res scr 127 d M 231 [l0, l1] (st) = ab_res scr 127 d M 232 [l0, l1] (.int 3 :: st) := (ab_o_iconst (ab_dc hc127 dX12_next_231)).trans (by rw [ki_iconst_3])
theorem q127_232 {v0 : Int32} {v1 : Int32} : ab_res scr 127 d M 232 [l0, l1] (.int v0 :: .int v1 :: st) = if v1 ≤ v0 then ab_res scr 127 d M 269 [l0, l1] (st) else ab_res scr 127 d M 235 [l0, l1] (st) := ab_o_br2 (off := 37) (ab_dc hc127 dX12_next_232) (by decide) rfl rfl
theorem q127_235 {xr : Nat} : ab_res scr 127 d M 235 [some (.ref xr), l1] (st) = ab_res scr 127 d M 236 [some (.ref xr), l1] (.ref xr :: st) := ab_o_aload_n (ab_dc hc127 dX12_next_235) rfl
theorem q127_236 : ab_res scr 127 d M 236 [l0, l1] (st) = ab_res scr 127 d M 237 [l0, l1] (.int 1 :: st) := (ab_o_iconst (ab_dc hc127 dX12_next_236)).trans (by rw [ki_iconst_1])
theorem q127_237 {v0 : Int32} {v1 : Nat} (hb : (ab_rc ab_L0 v1 = some 12) = True) : ab_res scr 127 2 M 237 [l0, l1] ([.int v0, .ref v1]) = (ab_ms scr 125 [.ref v1, .int v0] M).bind fun o => ab_res scr 127 2 o.1 240 [l0, l1] (ab_pr o.2 []) := ab_o_virtual (ab_dc hc127 dX12_next_237) hk127 lk_ca_12_131 hm125 (Nat.le_of_ble_eq_true rfl) rfl rfl rfl (of_eq_true hb) rfl rfl
theorem q127_240 : ab_res scr 127 d M 240 [l0, l1] (st) = ab_res scr 127 d M 269 [l0, l1] (st) := ab_o_goto (ab_dc hc127 dX12_next_240) (by decide)
theorem q127_243 {xr : Nat} : ab_res scr 127 d M 243 [some (.ref xr), l1] (st) = ab_res scr 127 d M 244 [some (.ref xr), l1] (.ref xr :: st) := ab_o_aload_n (ab_dc hc127 dX12_next_243) rfl
theorem q127_244 : ab_res scr 127 d M 244 [l0, l1] (st) = ab_res scr 127 d M 245 [l0, l1] (.int 3 :: st) := (ab_o_iconst (ab_dc hc127 dX12_next_244)).trans (by rw [ki_iconst_3])
theorem q127_245 {v0 : Int32} {v1 : Nat} (hp : (ab_pt v1 12 7 v0 = true) = True) : ab_res scr 127 d M 245 [l0, l1] (.int v0 :: .ref v1 :: st) = ab_res scr 127 d (ab_up M v1 7 v0) 248 [l0, l1] (st) := ab_o_putfield (ab_dc hc127 dX12_next_245) hk127 lk_fl_12_110 (of_eq_true hp)
theorem q127_248 {xr : Nat} : ab_res scr 127 d M 248 [some (.ref xr), l1] (st) = ab_res scr 127 d M 249 [some (.ref xr), l1] (.ref xr :: st) := ab_o_aload_n (ab_dc hc127 dX12_next_248) rfl
theorem q127_249 {v0 : Nat} : ab_res scr 127 d M 249 [l0, l1] (.ref v0 :: st) = ab_res scr 127 d M 250 [l0, l1] (.ref v0 :: .ref v0 :: st) := ab_xg (ab_dc hc127 dX12_next_249) rfl rfl
theorem q127_250 {v0 : Nat} : ab_res scr 127 d M 250 [l0, l1] (.ref v0 :: st) = (ab_gF ab_L0 M v0 12 5).bind fun v => ab_res scr 127 d M 253 [l0, l1] (v :: st) := ab_o_getfield (ab_dc hc127 dX12_next_250) hk127 lk_fl_12_113
theorem q127_253 : ab_res scr 127 d M 253 [l0, l1] (st) = ab_res scr 127 d M 254 [l0, l1] (.int 1 :: st) := (ab_o_iconst (ab_dc hc127 dX12_next_253)).trans (by rw [ki_iconst_1])
theorem q127_254 {v0 : Int32} {v1 : Int32} : ab_res scr 127 d M 254 [l0, l1] (.int v0 :: .int v1 :: st) = ab_res scr 127 d M 255 [l0, l1] (.int (v1 + v0) :: st) := ab_xg (ab_dc hc127 dX12_next_254) rfl rfl
theorem q127_255 {v0 : Int32} {v1 : Nat} (hp : (ab_pt v1 12 5 v0 = true) = True) : ab_res scr 127 d M 255 [l0, l1] (.int v0 :: .ref v1 :: st) = ab_res scr 127 d (ab_up M v1 5 v0) 258 [l0, l1] (st) := ab_o_putfield (ab_dc hc127 dX12_next_255) hk127 lk_fl_12_113 (of_eq_true hp)
theorem q127_258 {x : Int32} : ab_res scr 127 d M 258 [l0, some (.int x)] (st) = ab_res scr 127 d M 259 [l0, some (.int x)] (.int x :: st) := ab_o_iload_n (ab_dc hc127 dX12_next_258) rfl
theorem q127_259 : ab_res scr 127 d M 259 [l0, l1] (st) = ab_res scr 127 d M 261 [l0, l1] (.int 59 :: st) := (ab_o_bipush (ab_dc hc127 dX12_next_259)).trans (by rw [ki_bipush_59])
theorem q127_261 {v0 : Int32} {v1 : Int32} : ab_res scr 127 d M 261 [l0, l1] (.int v0 :: .int v1 :: st) = if v1 = v0 then ab_res scr 127 d M 269 [l0, l1] (st) else ab_res scr 127 d M 264 [l0, l1] (st) := ab_o_br2 (off := 8) (ab_dc hc127 dX12_next_261) (by decide) rfl rfl
theorem q127_264 {xr : Nat} : ab_res scr 127 d M 264 [some (.ref xr), l1] (st) = ab_res scr 127 d M 265 [some (.ref xr), l1] (.ref xr :: st) := ab_o_aload_n (ab_dc hc127 dX12_next_264) rfl
theorem q127_265 : ab_res scr 127 d M 265 [l0, l1] (st) = ab_res scr 127 d M 266 [l0, l1] (.int 1 :: st) := (ab_o_iconst (ab_dc hc127 dX12_next_265)).trans (by rw [ki_iconst_1])
theorem q127_266 {v0 : Int32} {v1 : Nat} (hb : (ab_rc ab_L0 v1 = some 12) = True) : ab_res scr 127 2 M 266 [l0, l1] ([.int v0, .ref v1]) = (ab_ms scr 125 [.ref v1, .int v0] M).bind fun o => ab_res scr 127 2 o.1 269 [l0, l1] (ab_pr o.2 []) := ab_o_virtual (ab_dc hc127 dX12_next_266) hk127 lk_ca_12_131 hm125 (Nat.le_of_ble_eq_true rfl) rfl rfl rfl (of_eq_true hb) rfl rfl
theorem q127_269 : ab_res scr 127 d M 269 [l0, l1] ([]) = some (M, none) := ab_o_return (ab_dc hc127 dX12_next_269) hr127
end Q127
theorem hc128 : ab_code 128 = cX12_number := rfl
theorem hn128 : ab_nL 128 = 4 := rfl
theorem hk128 : ab_ky 128 = 12 := rfl
theorem hr128 : ab_ret 128 = some .int := rfl
section Q128
variable {scr : Option (List Int32)} {d : Nat} {M : ab_M} {st : List Value} {l0 l1 l2 l3 : Option Value}
theorem q128_0 {xr : Nat} : ab_res scr 128 d M 0 [some (.ref xr), l1, l2, l3] (st) = ab_res scr 128 d M 1 [some (.ref xr), l1, l2, l3] (.ref xr :: st) := ab_o_aload_n (ab_dc hc128 dX12_number_0) rfl
theorem q128_1 {v0 : Nat} : ab_res scr 128 d M 1 [l0, l1, l2, l3] (.ref v0 :: st) = (ab_gF ab_L0 M v0 12 3).bind fun v => ab_res scr 128 d M 4 [l0, l1, l2, l3] (v :: st) := ab_o_getfield (ab_dc hc128 dX12_number_1) hk128 lk_fl_12_101
theorem q128_4 {v0 : Int32} : ab_res scr 128 d M 4 [l0, l1, l2, l3] (.int v0 :: st) = if ¬ v0 = 0 then ab_res scr 128 d M 20 [l0, l1, l2, l3] (st) else ab_res scr 128 d M 7 [l0, l1, l2, l3] (st) := ab_o_br2 (off := 16) (ab_dc hc128 dX12_number_4) (by decide) rfl rfl
theorem q128_7 {xr : Nat} : ab_res scr 128 d M 7 [some (.ref xr), l1, l2, l3] (st) = ab_res scr 128 d M 8 [some (.ref xr), l1, l2, l3] (.ref xr :: st) := ab_o_aload_n (ab_dc hc128 dX12_number_7) rfl
theorem q128_8 {v0 : Nat} : ab_res scr 128 d M 8 [l0, l1, l2, l3] (.ref v0 :: st) = (ab_gF ab_L0 M v0 12 7).bind fun v => ab_res scr 128 d M 11 [l0, l1, l2, l3] (v :: st) := ab_o_getfield (ab_dc hc128 dX12_number_8) hk128 lk_fl_12_110
theorem q128_11 : ab_res scr 128 d M 11 [l0, l1, l2, l3] (st) = ab_res scr 128 d M 12 [l0, l1, l2, l3] (.int 2 :: st) := (ab_o_iconst (ab_dc hc128 dX12_number_11)).trans (by rw [ki_iconst_2])
theorem q128_12 {v0 : Int32} {v1 : Int32} : ab_res scr 128 d M 12 [l0, l1, l2, l3] (.int v0 :: .int v1 :: st) = if v1 = v0 then ab_res scr 128 d M 20 [l0, l1, l2, l3] (st) else ab_res scr 128 d M 15 [l0, l1, l2, l3] (st) := ab_o_br2 (off := 8) (ab_dc hc128 dX12_number_12) (by decide) rfl rfl
theorem q128_15 {xr : Nat} : ab_res scr 128 d M 15 [some (.ref xr), l1, l2, l3] (st) = ab_res scr 128 d M 16 [some (.ref xr), l1, l2, l3] (.ref xr :: st) := ab_o_aload_n (ab_dc hc128 dX12_number_15) rfl
theorem q128_16 : ab_res scr 128 d M 16 [l0, l1, l2, l3] (st) = ab_res scr 128 d M 17 [l0, l1, l2, l3] (.int 2 :: st) := (ab_o_iconst (ab_dc hc128 dX12_number_16)).trans (by rw [ki_iconst_2])
theorem q128_17 {v0 : Int32} {v1 : Nat} (hb : (ab_rc ab_L0 v1 = some 12) = True) : ab_res scr 128 3 M 17 [l0, l1, l2, l3] ([.int v0, .ref v1]) = (ab_ms scr 125 [.ref v1, .int v0] M).bind fun o => ab_res scr 128 3 o.1 20 [l0, l1, l2, l3] (ab_pr o.2 []) := ab_o_virtual (ab_dc hc128 dX12_number_17) hk128 lk_ca_12_131 hm125 (Nat.le_of_ble_eq_true rfl) rfl rfl rfl (of_eq_true hb) rfl rfl
theorem q128_20 {xr : Nat} : ab_res scr 128 d M 20 [some (.ref xr), l1, l2, l3] (st) = ab_res scr 128 d M 21 [some (.ref xr), l1, l2, l3] (.ref xr :: st) := ab_o_aload_n (ab_dc hc128 dX12_number_20) rfl
theorem q128_21 {v0 : Nat} : ab_res scr 128 d M 21 [l0, l1, l2, l3] (.ref v0 :: st) = (ab_gF ab_L0 M v0 12 3).bind fun v => ab_res scr 128 d M 24 [l0, l1, l2, l3] (v :: st) := ab_o_getfield (ab_dc hc128 dX12_number_21) hk128 lk_fl_12_101
theorem q128_24 {v0 : Int32} : ab_res scr 128 d M 24 [l0, l1, l2, l3] (.int v0 :: st) = if ¬ v0 = 0 then ab_res scr 128 d M 47 [l0, l1, l2, l3] (st) else ab_res scr 128 d M 27 [l0, l1, l2, l3] (st) := ab_o_br2 (off := 23) (ab_dc hc128 dX12_number_24) (by decide) rfl rfl
theorem q128_27 {xr : Nat} : ab_res scr 128 d M 27 [some (.ref xr), l1, l2, l3] (st) = ab_res scr 128 d M 28 [some (.ref xr), l1, l2, l3] (.ref xr :: st) := ab_o_aload_n (ab_dc hc128 dX12_number_27) rfl
theorem q128_28 {v0 : Nat} : ab_res scr 128 d M 28 [l0, l1, l2, l3] (.ref v0 :: st) = (ab_gF ab_L0 M v0 12 8).bind fun v => ab_res scr 128 d M 31 [l0, l1, l2, l3] (v :: st) := ab_o_getfield (ab_dc hc128 dX12_number_28) hk128 lk_fl_12_120
theorem q128_31 {v0 : Int32} : ab_res scr 128 d M 31 [l0, l1, l2, l3] (.int v0 :: st) = ab_res scr 128 d M 32 [l0, l1, l2, l3] (.long v0.toInt64 :: st) := ab_xg (ab_dc hc128 dX12_number_31) rfl rfl
theorem q128_32 {x : Int32} : ab_res scr 128 d M 32 [l0, some (.int x), l2, l3] (st) = ab_res scr 128 d M 33 [l0, some (.int x), l2, l3] (.int x :: st) := ab_o_iload_n (ab_dc hc128 dX12_number_32) rfl
theorem q128_33 {v0 : Int32} : ab_res scr 128 d M 33 [l0, l1, l2, l3] (.int v0 :: st) = ab_res scr 128 d M 34 [l0, l1, l2, l3] (.long v0.toInt64 :: st) := ab_xg (ab_dc hc128 dX12_number_33) rfl rfl
theorem q128_34 {x : Int32} : ab_res scr 128 d M 34 [l0, l1, some (.int x), l3] (st) = ab_res scr 128 d M 35 [l0, l1, some (.int x), l3] (.int x :: st) := ab_o_iload_n (ab_dc hc128 dX12_number_34) rfl
theorem q128_35 {v0 : Int32} : ab_res scr 128 d M 35 [l0, l1, l2, l3] (.int v0 :: st) = ab_res scr 128 d M 36 [l0, l1, l2, l3] (.long v0.toInt64 :: st) := ab_xg (ab_dc hc128 dX12_number_35) rfl rfl
theorem q128_36 {v0 : Int64} {v1 : Int64} {v2 : Int64} : ab_res scr 128 3 M 36 [l0, l1, l2, l3] ([.long v0, .long v1, .long v2]) = (ab_ms scr 120 [.long v2, .long v1, .long v0] M).bind fun o => ab_res scr 128 3 o.1 39 [l0, l1, l2, l3] (ab_pr o.2 []) := ab_o_static (ab_dc hc128 dX12_number_36) hk128 lk_ca_12_97 hm120 (Nat.le_of_ble_eq_true rfl) rfl rfl rfl rfl rfl
theorem q128_39 {v0 : Int32} : ab_res scr 128 d M 39 [l0, l1, l2, l3] (.int v0 :: st) = if ¬ v0 = 0 then ab_res scr 128 d M 47 [l0, l1, l2, l3] (st) else ab_res scr 128 d M 42 [l0, l1, l2, l3] (st) := ab_o_br2 (off := 8) (ab_dc hc128 dX12_number_39) (by decide) rfl rfl
theorem q128_42 {xr : Nat} : ab_res scr 128 d M 42 [some (.ref xr), l1, l2, l3] (st) = ab_res scr 128 d M 43 [some (.ref xr), l1, l2, l3] (.ref xr :: st) := ab_o_aload_n (ab_dc hc128 dX12_number_42) rfl
theorem q128_43 : ab_res scr 128 d M 43 [l0, l1, l2, l3] (st) = ab_res scr 128 d M 44 [l0, l1, l2, l3] (.int 3 :: st) := (ab_o_iconst (ab_dc hc128 dX12_number_43)).trans (by rw [ki_iconst_3])
theorem q128_44 {v0 : Int32} {v1 : Nat} (hb : (ab_rc ab_L0 v1 = some 12) = True) : ab_res scr 128 3 M 44 [l0, l1, l2, l3] ([.int v0, .ref v1]) = (ab_ms scr 125 [.ref v1, .int v0] M).bind fun o => ab_res scr 128 3 o.1 47 [l0, l1, l2, l3] (ab_pr o.2 []) := ab_o_virtual (ab_dc hc128 dX12_number_44) hk128 lk_ca_12_131 hm125 (Nat.le_of_ble_eq_true rfl) rfl rfl rfl (of_eq_true hb) rfl rfl
theorem q128_47 {xr : Nat} : ab_res scr 128 d M 47 [some (.ref xr), l1, l2, l3] (st) = ab_res scr 128 d M 48 [some (.ref xr), l1, l2, l3] (.ref xr :: st) := ab_o_aload_n (ab_dc hc128 dX12_number_47) rfl
theorem q128_48 {v0 : Nat} : ab_res scr 128 d M 48 [l0, l1, l2, l3] (.ref v0 :: st) = (ab_gF ab_L0 M v0 12 3).bind fun v => ab_res scr 128 d M 51 [l0, l1, l2, l3] (v :: st) := ab_o_getfield (ab_dc hc128 dX12_number_48) hk128 lk_fl_12_101
theorem q128_51 {v0 : Int32} : ab_res scr 128 d M 51 [l0, l1, l2, l3] (.int v0 :: st) = if ¬ v0 = 0 then ab_res scr 128 d M 61 [l0, l1, l2, l3] (st) else ab_res scr 128 d M 54 [l0, l1, l2, l3] (st) := ab_o_br2 (off := 10) (ab_dc hc128 dX12_number_51) (by decide) rfl rfl
theorem q128_54 {xr : Nat} : ab_res scr 128 d M 54 [some (.ref xr), l1, l2, l3] (st) = ab_res scr 128 d M 55 [some (.ref xr), l1, l2, l3] (.ref xr :: st) := ab_o_aload_n (ab_dc hc128 dX12_number_54) rfl
theorem q128_55 {v0 : Nat} : ab_res scr 128 d M 55 [l0, l1, l2, l3] (.ref v0 :: st) = (ab_gF ab_L0 M v0 12 8).bind fun v => ab_res scr 128 d M 58 [l0, l1, l2, l3] (v :: st) := ab_o_getfield (ab_dc hc128 dX12_number_55) hk128 lk_fl_12_120
theorem q128_58 : ab_res scr 128 d M 58 [l0, l1, l2, l3] (st) = ab_res scr 128 d M 62 [l0, l1, l2, l3] (st) := ab_o_goto (ab_dc hc128 dX12_number_58) (by decide)
theorem q128_61 {x : Int32} : ab_res scr 128 d M 61 [l0, some (.int x), l2, l3] (st) = ab_res scr 128 d M 62 [l0, some (.int x), l2, l3] (.int x :: st) := ab_o_iload_n (ab_dc hc128 dX12_number_61) rfl
theorem q128_62 {v0 : Int32} : ab_res scr 128 d M 62 [l0, l1, l2, l3] (.int v0 :: st) = ab_res scr 128 d M 63 [l0, l1, ab_nl l2, some (.int v0)] (st) := (ab_o_st1 (k := 3) (ab_dc hc128 dX12_number_62) (Or.inr (Or.inr (Or.inl ⟨3, rfl, rfl, rfl, ⟨_, rfl⟩⟩))) hn128 (by decide)).trans (ab_kl1 [l0, l1] _ l2 rfl rfl)
theorem q128_63 {xr : Nat} : ab_res scr 128 d M 63 [some (.ref xr), l1, l2, l3] (st) = ab_res scr 128 d M 64 [some (.ref xr), l1, l2, l3] (.ref xr :: st) := ab_o_aload_n (ab_dc hc128 dX12_number_63) rfl
theorem q128_64 {v0 : Nat} (hb : (ab_rc ab_L0 v0 = some 12) = True) : ab_res scr 128 3 M 64 [l0, l1, l2, l3] ([.ref v0]) = (ab_ms scr 127 [.ref v0] M).bind fun o => ab_res scr 128 3 o.1 67 [l0, l1, l2, l3] (ab_pr o.2 []) := ab_o_virtual (ab_dc hc128 dX12_number_64) hk128 lk_ca_12_135 hm127 (Nat.le_of_ble_eq_true rfl) rfl rfl rfl (of_eq_true hb) rfl rfl
theorem q128_67 {x : Int32} : ab_res scr 128 d M 67 [l0, l1, l2, some (.int x)] (st) = ab_res scr 128 d M 68 [l0, l1, l2, some (.int x)] (.int x :: st) := ab_o_iload_n (ab_dc hc128 dX12_number_67) rfl
theorem q128_68 {v0 : Int32} : ab_res scr 128 d M 68 [l0, l1, l2, l3] ([.int v0]) = some (M, some (.int v0)) := ab_o_ireturn (ab_dc hc128 dX12_number_68) hr128 rfl
end Q128
theorem hc129 : ab_code 129 = cX12_readWith := rfl
theorem hn129 : ab_nL 129 = 3 := rfl
theorem hk129 : ab_ky 129 = 12 := rfl
theorem hr129 : ab_ret 129 = none := rfl
section Q129
variable {scr : Option (List Int32)} {d : Nat} {M : ab_M} {st : List Value} {l0 l1 l2 : Option Value}
theorem q129_0 {xr : Nat} : ab_res scr 129 d M 0 [some (.ref xr), l1, l2] (st) = ab_res scr 129 d M 1 [some (.ref xr), l1, l2] (.ref xr :: st) := ab_o_aload_n (ab_dc hc129 dX12_readWith_0) rfl
theorem q129_1 {v0 : Nat} (hb : (ab_rc ab_L0 v0 = some 12) = True) : ab_res scr 129 4 M 1 [l0, l1, l2] ([.ref v0]) = (ab_ms scr 127 [.ref v0] M).bind fun o => ab_res scr 129 4 o.1 4 [l0, l1, l2] (ab_pr o.2 []) := ab_o_virtual (ab_dc hc129 dX12_readWith_1) hk129 lk_ca_12_135 hm127 (Nat.le_of_ble_eq_true rfl) rfl rfl rfl (of_eq_true hb) rfl rfl
theorem q129_4 {x : Int32} : ab_res scr 129 d M 4 [l0, l1, some (.int x)] (st) = ab_res scr 129 d M 5 [l0, l1, some (.int x)] (.int x :: st) := ab_o_iload_n (ab_dc hc129 dX12_readWith_4) rfl
theorem q129_5 : ab_res scr 129 d M 5 [l0, l1, l2] (st) = ab_res scr 129 d M 6 [l0, l1, l2] (.int 2 :: st) := (ab_o_iconst (ab_dc hc129 dX12_readWith_5)).trans (by rw [ki_iconst_2])
theorem q129_6 {v0 : Int32} {v1 : Int32} : ab_res scr 129 d M 6 [l0, l1, l2] (.int v0 :: .int v1 :: st) = if ¬ v1 = v0 then ab_res scr 129 d M 28 [l0, l1, l2] (st) else ab_res scr 129 d M 9 [l0, l1, l2] (st) := ab_o_br2 (off := 22) (ab_dc hc129 dX12_readWith_6) (by decide) rfl rfl
theorem q129_9 {xr : Nat} : ab_res scr 129 d M 9 [some (.ref xr), l1, l2] (st) = ab_res scr 129 d M 10 [some (.ref xr), l1, l2] (.ref xr :: st) := ab_o_aload_n (ab_dc hc129 dX12_readWith_9) rfl
theorem q129_10 {v0 : Nat} : ab_res scr 129 d M 10 [l0, l1, l2] (.ref v0 :: st) = (ab_gF ab_L0 M v0 12 12).bind fun v => ab_res scr 129 d M 13 [l0, l1, l2] (v :: st) := ab_o_getfield (ab_dc hc129 dX12_readWith_10) hk129 lk_fl_12_22
theorem q129_13 {x : Int32} : ab_res scr 129 d M 13 [l0, some (.int x), l2] (st) = ab_res scr 129 d M 14 [l0, some (.int x), l2] (.int x :: st) := ab_o_iload_n (ab_dc hc129 dX12_readWith_13) rfl
theorem q129_14 : ab_res scr 129 d M 14 [l0, l1, l2] (st) = ab_res scr 129 d M 15 [l0, l1, l2] (.int 4 :: st) := (ab_o_iconst (ab_dc hc129 dX12_readWith_14)).trans (by rw [ki_iconst_4])
theorem q129_15 {v0 : Int32} {v1 : Int32} : ab_res scr 129 d M 15 [l0, l1, l2] (.int v0 :: .int v1 :: st) = ab_res scr 129 d M 16 [l0, l1, l2] (.int (v1 + v0) :: st) := ab_xg (ab_dc hc129 dX12_readWith_15) rfl rfl
theorem q129_16 {xr : Nat} : ab_res scr 129 d M 16 [some (.ref xr), l1, l2] (st) = ab_res scr 129 d M 17 [some (.ref xr), l1, l2] (.ref xr :: st) := ab_o_aload_n (ab_dc hc129 dX12_readWith_16) rfl
theorem q129_17 : ab_res scr 129 d M 17 [l0, l1, l2] (st) = ab_res scr 129 d M 18 [l0, l1, l2] (.int 0 :: st) := (ab_o_iconst (ab_dc hc129 dX12_readWith_17)).trans (by rw [ki_iconst_0])
theorem q129_18 : ab_res scr 129 d M 18 [l0, l1, l2] (st) = ab_res scr 129 d M 21 [l0, l1, l2] (.int 999 :: st) := (ab_o_sipush (ab_dc hc129 dX12_readWith_18)).trans (by rw [ki_sipush_999])
theorem q129_21 {v0 : Int32} {v1 : Int32} {v2 : Nat} {v3 : Int32} {v4 : Nat} (hb : (ab_rc ab_L0 v2 = some 12) = True) : ab_res scr 129 4 M 21 [l0, l1, l2] ([.int v0, .int v1, .ref v2, .int v3, .ref v4]) = (ab_ms scr 128 [.ref v2, .int v1, .int v0] M).bind fun o => ab_res scr 129 4 o.1 24 [l0, l1, l2] (ab_pr o.2 [.int v3, .ref v4]) := ab_o_virtual (ab_dc hc129 dX12_readWith_21) hk129 lk_ca_12_138 hm128 (Nat.le_of_ble_eq_true rfl) rfl rfl rfl (of_eq_true hb) rfl rfl
theorem q129_24 {v0 : Int32} {v1 : Int32} {v2 : Nat} : ab_res scr 129 d M 24 [l0, l1, l2] (.int v0 :: .int v1 :: .ref v2 :: st) = if ab_si v2 .int v1 = true then ab_res scr 129 d (ab_up M v2 v1.toNatClampNeg v0) 25 [l0, l1, l2] (st) else none := ab_o_iastore (ab_dc hc129 dX12_readWith_24)
theorem q129_25 : ab_res scr 129 d M 25 [l0, l1, l2] (st) = ab_res scr 129 d M 61 [l0, l1, l2] (st) := ab_o_goto (ab_dc hc129 dX12_readWith_25) (by decide)
theorem q129_28 {x : Int32} : ab_res scr 129 d M 28 [l0, l1, some (.int x)] (st) = ab_res scr 129 d M 29 [l0, l1, some (.int x)] (.int x :: st) := ab_o_iload_n (ab_dc hc129 dX12_readWith_28) rfl
theorem q129_29 : ab_res scr 129 d M 29 [l0, l1, l2] (st) = ab_res scr 129 d M 30 [l0, l1, l2] (.int 3 :: st) := (ab_o_iconst (ab_dc hc129 dX12_readWith_29)).trans (by rw [ki_iconst_3])
theorem q129_30 {v0 : Int32} {v1 : Int32} : ab_res scr 129 d M 30 [l0, l1, l2] (.int v0 :: .int v1 :: st) = if ¬ v1 = v0 then ab_res scr 129 d M 51 [l0, l1, l2] (st) else ab_res scr 129 d M 33 [l0, l1, l2] (st) := ab_o_br2 (off := 21) (ab_dc hc129 dX12_readWith_30) (by decide) rfl rfl
theorem q129_33 {xr : Nat} : ab_res scr 129 d M 33 [some (.ref xr), l1, l2] (st) = ab_res scr 129 d M 34 [some (.ref xr), l1, l2] (.ref xr :: st) := ab_o_aload_n (ab_dc hc129 dX12_readWith_33) rfl
theorem q129_34 {v0 : Nat} : ab_res scr 129 d M 34 [l0, l1, l2] (.ref v0 :: st) = (ab_gF ab_L0 M v0 12 12).bind fun v => ab_res scr 129 d M 37 [l0, l1, l2] (v :: st) := ab_o_getfield (ab_dc hc129 dX12_readWith_34) hk129 lk_fl_12_22
theorem q129_37 {x : Int32} : ab_res scr 129 d M 37 [l0, some (.int x), l2] (st) = ab_res scr 129 d M 38 [l0, some (.int x), l2] (.int x :: st) := ab_o_iload_n (ab_dc hc129 dX12_readWith_37) rfl
theorem q129_38 : ab_res scr 129 d M 38 [l0, l1, l2] (st) = ab_res scr 129 d M 39 [l0, l1, l2] (.int 5 :: st) := (ab_o_iconst (ab_dc hc129 dX12_readWith_38)).trans (by rw [ki_iconst_5])
theorem q129_39 {v0 : Int32} {v1 : Int32} : ab_res scr 129 d M 39 [l0, l1, l2] (.int v0 :: .int v1 :: st) = ab_res scr 129 d M 40 [l0, l1, l2] (.int (v1 + v0) :: st) := ab_xg (ab_dc hc129 dX12_readWith_39) rfl rfl
theorem q129_40 {xr : Nat} : ab_res scr 129 d M 40 [some (.ref xr), l1, l2] (st) = ab_res scr 129 d M 41 [some (.ref xr), l1, l2] (.ref xr :: st) := ab_o_aload_n (ab_dc hc129 dX12_readWith_40) rfl
theorem q129_41 : ab_res scr 129 d M 41 [l0, l1, l2] (st) = ab_res scr 129 d M 42 [l0, l1, l2] (.int 0 :: st) := (ab_o_iconst (ab_dc hc129 dX12_readWith_41)).trans (by rw [ki_iconst_0])
theorem q129_42 : ab_res scr 129 d M 42 [l0, l1, l2] (st) = ab_res scr 129 d M 44 [l0, l1, l2] (.int 9 :: st) := (ab_o_bipush (ab_dc hc129 dX12_readWith_42)).trans (by rw [ki_bipush_9])
theorem q129_44 {v0 : Int32} {v1 : Int32} {v2 : Nat} {v3 : Int32} {v4 : Nat} (hb : (ab_rc ab_L0 v2 = some 12) = True) : ab_res scr 129 4 M 44 [l0, l1, l2] ([.int v0, .int v1, .ref v2, .int v3, .ref v4]) = (ab_ms scr 128 [.ref v2, .int v1, .int v0] M).bind fun o => ab_res scr 129 4 o.1 47 [l0, l1, l2] (ab_pr o.2 [.int v3, .ref v4]) := ab_o_virtual (ab_dc hc129 dX12_readWith_44) hk129 lk_ca_12_138 hm128 (Nat.le_of_ble_eq_true rfl) rfl rfl rfl (of_eq_true hb) rfl rfl
theorem q129_47 {v0 : Int32} {v1 : Int32} {v2 : Nat} : ab_res scr 129 d M 47 [l0, l1, l2] (.int v0 :: .int v1 :: .ref v2 :: st) = if ab_si v2 .int v1 = true then ab_res scr 129 d (ab_up M v2 v1.toNatClampNeg v0) 48 [l0, l1, l2] (st) else none := ab_o_iastore (ab_dc hc129 dX12_readWith_47)
theorem q129_48 : ab_res scr 129 d M 48 [l0, l1, l2] (st) = ab_res scr 129 d M 61 [l0, l1, l2] (st) := ab_o_goto (ab_dc hc129 dX12_readWith_48) (by decide)
theorem q129_51 {xr : Nat} : ab_res scr 129 d M 51 [some (.ref xr), l1, l2] (st) = ab_res scr 129 d M 52 [some (.ref xr), l1, l2] (.ref xr :: st) := ab_o_aload_n (ab_dc hc129 dX12_readWith_51) rfl
theorem q129_52 {v0 : Nat} : ab_res scr 129 d M 52 [l0, l1, l2] (.ref v0 :: st) = (ab_gF ab_L0 M v0 12 12).bind fun v => ab_res scr 129 d M 55 [l0, l1, l2] (v :: st) := ab_o_getfield (ab_dc hc129 dX12_readWith_52) hk129 lk_fl_12_22
theorem q129_55 {x : Int32} : ab_res scr 129 d M 55 [l0, some (.int x), l2] (st) = ab_res scr 129 d M 56 [l0, some (.int x), l2] (.int x :: st) := ab_o_iload_n (ab_dc hc129 dX12_readWith_55) rfl
theorem q129_56 : ab_res scr 129 d M 56 [l0, l1, l2] (st) = ab_res scr 129 d M 58 [l0, l1, l2] (.int 6 :: st) := (ab_o_bipush (ab_dc hc129 dX12_readWith_56)).trans (by rw [ki_bipush_6])
theorem q129_58 {v0 : Int32} {v1 : Int32} : ab_res scr 129 d M 58 [l0, l1, l2] (.int v0 :: .int v1 :: st) = ab_res scr 129 d M 59 [l0, l1, l2] (.int (v1 + v0) :: st) := ab_xg (ab_dc hc129 dX12_readWith_58) rfl rfl
theorem q129_59 : ab_res scr 129 d M 59 [l0, l1, l2] (st) = ab_res scr 129 d M 60 [l0, l1, l2] (.int 1 :: st) := (ab_o_iconst (ab_dc hc129 dX12_readWith_59)).trans (by rw [ki_iconst_1])
theorem q129_60 {v0 : Int32} {v1 : Int32} {v2 : Nat} : ab_res scr 129 d M 60 [l0, l1, l2] (.int v0 :: .int v1 :: .ref v2 :: st) = if ab_si v2 .int v1 = true then ab_res scr 129 d (ab_up M v2 v1.toNatClampNeg v0) 61 [l0, l1, l2] (st) else none := ab_o_iastore (ab_dc hc129 dX12_readWith_60)
theorem q129_61 : ab_res scr 129 d M 61 [l0, l1, l2] ([]) = some (M, none) := ab_o_return (ab_dc hc129 dX12_readWith_61) hr129
end Q129
theorem hc130 : ab_code 130 = cX12_readOne := rfl
theorem hn130 : ab_nL 130 = 4 := rfl
theorem hk130 : ab_ky 130 = 12 := rfl
theorem hr130 : ab_ret 130 = none := rfl
section Q130
variable {scr : Option (List Int32)} {d : Nat} {M : ab_M} {st : List Value} {l0 l1 l2 l3 : Option Value}
theorem q130_0 {xr : Nat} : ab_res scr 130 d M 0 [some (.ref xr), l1, l2, l3] (st) = ab_res scr 130 d M 1 [some (.ref xr), l1, l2, l3] (.ref xr :: st) := ab_o_aload_n (ab_dc hc130 dX12_readOne_0) rfl
theorem q130_1 {v0 : Nat} : ab_res scr 130 d M 1 [l0, l1, l2, l3] (.ref v0 :: st) = (ab_gF ab_L0 M v0 12 12).bind fun v => ab_res scr 130 d M 4 [l0, l1, l2, l3] (v :: st) := ab_o_getfield (ab_dc hc130 dX12_readOne_1) hk130 lk_fl_12_22
theorem q130_4 : ab_res scr 130 d M 4 [l0, l1, l2, l3] (st) = ab_res scr 130 d M 6 [l0, l1, l2, l3] (.int 72 :: st) := (ab_o_bipush (ab_dc hc130 dX12_readOne_4)).trans (by rw [ki_bipush_72])
theorem q130_6 {v0 : Int32} {v1 : Nat} : ab_res scr 130 d M 6 [l0, l1, l2, l3] (.int v0 :: .ref v1 :: st) = (ab_ald scr ab_L0 M v1 .int v0).bind fun v => ab_res scr 130 d M 7 [l0, l1, l2, l3] (.int v :: st) := ab_o_iaload (ab_dc hc130 dX12_readOne_6)
theorem q130_7 : ab_res scr 130 d M 7 [l0, l1, l2, l3] (st) = ab_res scr 130 d M 9 [l0, l1, l2, l3] (.int 8 :: st) := (ab_o_bipush (ab_dc hc130 dX12_readOne_7)).trans (by rw [ki_bipush_8])
theorem q130_9 {v0 : Int32} {v1 : Int32} : ab_res scr 130 d M 9 [l0, l1, l2, l3] (.int v0 :: .int v1 :: st) = if ¬ v1 = v0 then ab_res scr 130 d M 18 [l0, l1, l2, l3] (st) else ab_res scr 130 d M 12 [l0, l1, l2, l3] (st) := ab_o_br2 (off := 9) (ab_dc hc130 dX12_readOne_9) (by decide) rfl rfl
theorem q130_12 {xr : Nat} : ab_res scr 130 d M 12 [some (.ref xr), l1, l2, l3] (st) = ab_res scr 130 d M 13 [some (.ref xr), l1, l2, l3] (.ref xr :: st) := ab_o_aload_n (ab_dc hc130 dX12_readOne_12) rfl
theorem q130_13 : ab_res scr 130 d M 13 [l0, l1, l2, l3] (st) = ab_res scr 130 d M 14 [l0, l1, l2, l3] (.int 5 :: st) := (ab_o_iconst (ab_dc hc130 dX12_readOne_13)).trans (by rw [ki_iconst_5])
theorem q130_14 {v0 : Int32} {v1 : Nat} (hb : (ab_rc ab_L0 v1 = some 12) = True) : ab_res scr 130 5 M 14 [l0, l1, l2, l3] ([.int v0, .ref v1]) = (ab_ms scr 125 [.ref v1, .int v0] M).bind fun o => ab_res scr 130 5 o.1 17 [l0, l1, l2, l3] (ab_pr o.2 []) := ab_o_virtual (ab_dc hc130 dX12_readOne_14) hk130 lk_ca_12_131 hm125 (Nat.le_of_ble_eq_true rfl) rfl rfl rfl (of_eq_true hb) rfl rfl
theorem q130_17 : ab_res scr 130 d M 17 [l0, l1, l2, l3] ([]) = some (M, none) := ab_o_return (ab_dc hc130 dX12_readOne_17) hr130
theorem q130_18 {xr : Nat} : ab_res scr 130 d M 18 [some (.ref xr), l1, l2, l3] (st) = ab_res scr 130 d M 19 [some (.ref xr), l1, l2, l3] (.ref xr :: st) := ab_o_aload_n (ab_dc hc130 dX12_readOne_18) rfl
theorem q130_19 {v0 : Nat} (hb : (ab_rc ab_L0 v0 = some 12) = True) : ab_res scr 130 5 M 19 [l0, l1, l2, l3] ([.ref v0]) = (ab_ms scr 127 [.ref v0] M).bind fun o => ab_res scr 130 5 o.1 22 [l0, l1, l2, l3] (ab_pr o.2 []) := ab_o_virtual (ab_dc hc130 dX12_readOne_19) hk130 lk_ca_12_135 hm127 (Nat.le_of_ble_eq_true rfl) rfl rfl rfl (of_eq_true hb) rfl rfl
theorem q130_22 : ab_res scr 130 d M 22 [l0, l1, l2, l3] (st) = ab_res scr 130 d M 24 [l0, l1, l2, l3] (.int 9 :: st) := (ab_o_bipush (ab_dc hc130 dX12_readOne_22)).trans (by rw [ki_bipush_9])
theorem q130_24 {xr : Nat} : ab_res scr 130 d M 24 [some (.ref xr), l1, l2, l3] (st) = ab_res scr 130 d M 25 [some (.ref xr), l1, l2, l3] (.ref xr :: st) := ab_o_aload_n (ab_dc hc130 dX12_readOne_24) rfl
theorem q130_25 {v0 : Nat} : ab_res scr 130 d M 25 [l0, l1, l2, l3] (.ref v0 :: st) = (ab_gF ab_L0 M v0 12 12).bind fun v => ab_res scr 130 d M 28 [l0, l1, l2, l3] (v :: st) := ab_o_getfield (ab_dc hc130 dX12_readOne_25) hk130 lk_fl_12_22
theorem q130_28 : ab_res scr 130 d M 28 [l0, l1, l2, l3] (st) = ab_res scr 130 d M 30 [l0, l1, l2, l3] (.int 72 :: st) := (ab_o_bipush (ab_dc hc130 dX12_readOne_28)).trans (by rw [ki_bipush_72])
theorem q130_30 {v0 : Int32} {v1 : Nat} : ab_res scr 130 d M 30 [l0, l1, l2, l3] (.int v0 :: .ref v1 :: st) = (ab_ald scr ab_L0 M v1 .int v0).bind fun v => ab_res scr 130 d M 31 [l0, l1, l2, l3] (.int v :: st) := ab_o_iaload (ab_dc hc130 dX12_readOne_30)
theorem q130_31 {v0 : Int32} {v1 : Int32} : ab_res scr 130 d M 31 [l0, l1, l2, l3] (.int v0 :: .int v1 :: st) = ab_res scr 130 d M 32 [l0, l1, l2, l3] (.int (v1 * v0) :: st) := ab_xg (ab_dc hc130 dX12_readOne_31) rfl rfl
theorem q130_32 {v0 : Int32} : ab_res scr 130 d M 32 [l0, l1, l2, l3] (.int v0 :: st) = ab_res scr 130 d M 33 [ab_nl l0, some (.int v0), l2, l3] (st) := (ab_o_st1 (k := 1) (ab_dc hc130 dX12_readOne_32) (Or.inr (Or.inr (Or.inl ⟨1, rfl, rfl, rfl, ⟨_, rfl⟩⟩))) hn130 (by decide)).trans (ab_kl1 [] _ l0 rfl rfl)
theorem q130_33 {xr : Nat} : ab_res scr 130 d M 33 [some (.ref xr), l1, l2, l3] (st) = ab_res scr 130 d M 34 [some (.ref xr), l1, l2, l3] (.ref xr :: st) := ab_o_aload_n (ab_dc hc130 dX12_readOne_33) rfl
theorem q130_34 {v0 : Nat} : ab_res scr 130 d M 34 [l0, l1, l2, l3] (.ref v0 :: st) = (ab_gF ab_L0 M v0 12 12).bind fun v => ab_res scr 130 d M 37 [l0, l1, l2, l3] (v :: st) := ab_o_getfield (ab_dc hc130 dX12_readOne_34) hk130 lk_fl_12_22
theorem q130_37 {x : Int32} : ab_res scr 130 d M 37 [l0, some (.int x), l2, l3] (st) = ab_res scr 130 d M 38 [l0, some (.int x), l2, l3] (.int x :: st) := ab_o_iload_n (ab_dc hc130 dX12_readOne_37) rfl
theorem q130_38 : ab_res scr 130 d M 38 [l0, l1, l2, l3] (st) = ab_res scr 130 d M 39 [l0, l1, l2, l3] (.int 0 :: st) := (ab_o_iconst (ab_dc hc130 dX12_readOne_38)).trans (by rw [ki_iconst_0])
theorem q130_39 {v0 : Int32} {v1 : Int32} : ab_res scr 130 d M 39 [l0, l1, l2, l3] (.int v0 :: .int v1 :: st) = ab_res scr 130 d M 40 [l0, l1, l2, l3] (.int (v1 + v0) :: st) := ab_xg (ab_dc hc130 dX12_readOne_39) rfl rfl
theorem q130_40 {xr : Nat} : ab_res scr 130 d M 40 [some (.ref xr), l1, l2, l3] (st) = ab_res scr 130 d M 41 [some (.ref xr), l1, l2, l3] (.ref xr :: st) := ab_o_aload_n (ab_dc hc130 dX12_readOne_40) rfl
theorem q130_41 : ab_res scr 130 d M 41 [l0, l1, l2, l3] (st) = ab_res scr 130 d M 42 [l0, l1, l2, l3] (.int 0 :: st) := (ab_o_iconst (ab_dc hc130 dX12_readOne_41)).trans (by rw [ki_iconst_0])
theorem q130_42 : ab_res scr 130 d M 42 [l0, l1, l2, l3] (st) = ab_res scr 130 d M 45 [l0, l1, l2, l3] (.int 239 :: st) := (ab_o_sipush (ab_dc hc130 dX12_readOne_42)).trans (by rw [ki_sipush_239])
theorem q130_45 {v0 : Int32} {v1 : Int32} {v2 : Nat} {v3 : Int32} {v4 : Nat} (hb : (ab_rc ab_L0 v2 = some 12) = True) : ab_res scr 130 5 M 45 [l0, l1, l2, l3] ([.int v0, .int v1, .ref v2, .int v3, .ref v4]) = (ab_ms scr 128 [.ref v2, .int v1, .int v0] M).bind fun o => ab_res scr 130 5 o.1 48 [l0, l1, l2, l3] (ab_pr o.2 [.int v3, .ref v4]) := ab_o_virtual (ab_dc hc130 dX12_readOne_45) hk130 lk_ca_12_138 hm128 (Nat.le_of_ble_eq_true rfl) rfl rfl rfl (of_eq_true hb) rfl rfl
theorem q130_48 {v0 : Int32} {v1 : Int32} {v2 : Nat} : ab_res scr 130 d M 48 [l0, l1, l2, l3] (.int v0 :: .int v1 :: .ref v2 :: st) = if ab_si v2 .int v1 = true then ab_res scr 130 d (ab_up M v2 v1.toNatClampNeg v0) 49 [l0, l1, l2, l3] (st) else none := ab_o_iastore (ab_dc hc130 dX12_readOne_48)
theorem q130_49 {xr : Nat} : ab_res scr 130 d M 49 [some (.ref xr), l1, l2, l3] (st) = ab_res scr 130 d M 50 [some (.ref xr), l1, l2, l3] (.ref xr :: st) := ab_o_aload_n (ab_dc hc130 dX12_readOne_49) rfl
theorem q130_50 {v0 : Nat} : ab_res scr 130 d M 50 [l0, l1, l2, l3] (.ref v0 :: st) = (ab_gF ab_L0 M v0 12 12).bind fun v => ab_res scr 130 d M 53 [l0, l1, l2, l3] (v :: st) := ab_o_getfield (ab_dc hc130 dX12_readOne_50) hk130 lk_fl_12_22
theorem q130_53 {x : Int32} : ab_res scr 130 d M 53 [l0, some (.int x), l2, l3] (st) = ab_res scr 130 d M 54 [l0, some (.int x), l2, l3] (.int x :: st) := ab_o_iload_n (ab_dc hc130 dX12_readOne_53) rfl
theorem q130_54 : ab_res scr 130 d M 54 [l0, l1, l2, l3] (st) = ab_res scr 130 d M 55 [l0, l1, l2, l3] (.int 1 :: st) := (ab_o_iconst (ab_dc hc130 dX12_readOne_54)).trans (by rw [ki_iconst_1])
theorem q130_55 {v0 : Int32} {v1 : Int32} : ab_res scr 130 d M 55 [l0, l1, l2, l3] (.int v0 :: .int v1 :: st) = ab_res scr 130 d M 56 [l0, l1, l2, l3] (.int (v1 + v0) :: st) := ab_xg (ab_dc hc130 dX12_readOne_55) rfl rfl
theorem q130_56 {xr : Nat} : ab_res scr 130 d M 56 [some (.ref xr), l1, l2, l3] (st) = ab_res scr 130 d M 57 [some (.ref xr), l1, l2, l3] (.ref xr :: st) := ab_o_aload_n (ab_dc hc130 dX12_readOne_56) rfl
theorem q130_57 {xr : Nat} : ab_res scr 130 d M 57 [some (.ref xr), l1, l2, l3] (st) = ab_res scr 130 d M 58 [some (.ref xr), l1, l2, l3] (.ref xr :: st) := ab_o_aload_n (ab_dc hc130 dX12_readOne_57) rfl
theorem q130_58 {v0 : Nat} : ab_res scr 130 d M 58 [l0, l1, l2, l3] (.ref v0 :: st) = (ab_gF ab_L0 M v0 12 12).bind fun v => ab_res scr 130 d M 61 [l0, l1, l2, l3] (v :: st) := ab_o_getfield (ab_dc hc130 dX12_readOne_58) hk130 lk_fl_12_22
theorem q130_61 {x : Int32} : ab_res scr 130 d M 61 [l0, some (.int x), l2, l3] (st) = ab_res scr 130 d M 62 [l0, some (.int x), l2, l3] (.int x :: st) := ab_o_iload_n (ab_dc hc130 dX12_readOne_61) rfl
theorem q130_62 : ab_res scr 130 d M 62 [l0, l1, l2, l3] (st) = ab_res scr 130 d M 63 [l0, l1, l2, l3] (.int 0 :: st) := (ab_o_iconst (ab_dc hc130 dX12_readOne_62)).trans (by rw [ki_iconst_0])
theorem q130_63 {v0 : Int32} {v1 : Int32} : ab_res scr 130 d M 63 [l0, l1, l2, l3] (.int v0 :: .int v1 :: st) = ab_res scr 130 d M 64 [l0, l1, l2, l3] (.int (v1 + v0) :: st) := ab_xg (ab_dc hc130 dX12_readOne_63) rfl rfl
theorem q130_64 {v0 : Int32} {v1 : Nat} : ab_res scr 130 d M 64 [l0, l1, l2, l3] (.int v0 :: .ref v1 :: st) = (ab_ald scr ab_L0 M v1 .int v0).bind fun v => ab_res scr 130 d M 65 [l0, l1, l2, l3] (.int v :: st) := ab_o_iaload (ab_dc hc130 dX12_readOne_64)
theorem q130_65 : ab_res scr 130 d M 65 [l0, l1, l2, l3] (st) = ab_res scr 130 d M 66 [l0, l1, l2, l3] (.int 1 :: st) := (ab_o_iconst (ab_dc hc130 dX12_readOne_65)).trans (by rw [ki_iconst_1])
theorem q130_66 {v0 : Int32} {v1 : Int32} : ab_res scr 130 d M 66 [l0, l1, l2, l3] (.int v0 :: .int v1 :: st) = ab_res scr 130 d M 67 [l0, l1, l2, l3] (.int (v1 + v0) :: st) := ab_xg (ab_dc hc130 dX12_readOne_66) rfl rfl
theorem q130_67 : ab_res scr 130 d M 67 [l0, l1, l2, l3] (st) = ab_res scr 130 d M 70 [l0, l1, l2, l3] (.int 240 :: st) := (ab_o_sipush (ab_dc hc130 dX12_readOne_67)).trans (by rw [ki_sipush_240])
theorem q130_70 {v0 : Int32} {v1 : Int32} {v2 : Nat} {v3 : Int32} {v4 : Nat} (hb : (ab_rc ab_L0 v2 = some 12) = True) : ab_res scr 130 5 M 70 [l0, l1, l2, l3] ([.int v0, .int v1, .ref v2, .int v3, .ref v4]) = (ab_ms scr 128 [.ref v2, .int v1, .int v0] M).bind fun o => ab_res scr 130 5 o.1 73 [l0, l1, l2, l3] (ab_pr o.2 [.int v3, .ref v4]) := ab_o_virtual (ab_dc hc130 dX12_readOne_70) hk130 lk_ca_12_138 hm128 (Nat.le_of_ble_eq_true rfl) rfl rfl rfl (of_eq_true hb) rfl rfl
theorem q130_73 {v0 : Int32} {v1 : Int32} {v2 : Nat} : ab_res scr 130 d M 73 [l0, l1, l2, l3] (.int v0 :: .int v1 :: .ref v2 :: st) = if ab_si v2 .int v1 = true then ab_res scr 130 d (ab_up M v2 v1.toNatClampNeg v0) 74 [l0, l1, l2, l3] (st) else none := ab_o_iastore (ab_dc hc130 dX12_readOne_73)
theorem q130_74 {xr : Nat} : ab_res scr 130 d M 74 [some (.ref xr), l1, l2, l3] (st) = ab_res scr 130 d M 75 [some (.ref xr), l1, l2, l3] (.ref xr :: st) := ab_o_aload_n (ab_dc hc130 dX12_readOne_74) rfl
theorem q130_75 {v0 : Nat} : ab_res scr 130 d M 75 [l0, l1, l2, l3] (.ref v0 :: st) = (ab_gF ab_L0 M v0 12 12).bind fun v => ab_res scr 130 d M 78 [l0, l1, l2, l3] (v :: st) := ab_o_getfield (ab_dc hc130 dX12_readOne_75) hk130 lk_fl_12_22
theorem q130_78 {x : Int32} : ab_res scr 130 d M 78 [l0, some (.int x), l2, l3] (st) = ab_res scr 130 d M 79 [l0, some (.int x), l2, l3] (.int x :: st) := ab_o_iload_n (ab_dc hc130 dX12_readOne_78) rfl
theorem q130_79 : ab_res scr 130 d M 79 [l0, l1, l2, l3] (st) = ab_res scr 130 d M 80 [l0, l1, l2, l3] (.int 2 :: st) := (ab_o_iconst (ab_dc hc130 dX12_readOne_79)).trans (by rw [ki_iconst_2])
theorem q130_80 {v0 : Int32} {v1 : Int32} : ab_res scr 130 d M 80 [l0, l1, l2, l3] (.int v0 :: .int v1 :: st) = ab_res scr 130 d M 81 [l0, l1, l2, l3] (.int (v1 + v0) :: st) := ab_xg (ab_dc hc130 dX12_readOne_80) rfl rfl
theorem q130_81 {xr : Nat} : ab_res scr 130 d M 81 [some (.ref xr), l1, l2, l3] (st) = ab_res scr 130 d M 82 [some (.ref xr), l1, l2, l3] (.ref xr :: st) := ab_o_aload_n (ab_dc hc130 dX12_readOne_81) rfl
theorem q130_82 : ab_res scr 130 d M 82 [l0, l1, l2, l3] (st) = ab_res scr 130 d M 83 [l0, l1, l2, l3] (.int 1 :: st) := (ab_o_iconst (ab_dc hc130 dX12_readOne_82)).trans (by rw [ki_iconst_1])
theorem q130_83 : ab_res scr 130 d M 83 [l0, l1, l2, l3] (st) = ab_res scr 130 d M 85 [l0, l1, l2, l3] (.int 99 :: st) := (ab_o_bipush (ab_dc hc130 dX12_readOne_83)).trans (by rw [ki_bipush_99])
theorem q130_85 {v0 : Int32} {v1 : Int32} {v2 : Nat} {v3 : Int32} {v4 : Nat} (hb : (ab_rc ab_L0 v2 = some 12) = True) : ab_res scr 130 5 M 85 [l0, l1, l2, l3] ([.int v0, .int v1, .ref v2, .int v3, .ref v4]) = (ab_ms scr 128 [.ref v2, .int v1, .int v0] M).bind fun o => ab_res scr 130 5 o.1 88 [l0, l1, l2, l3] (ab_pr o.2 [.int v3, .ref v4]) := ab_o_virtual (ab_dc hc130 dX12_readOne_85) hk130 lk_ca_12_138 hm128 (Nat.le_of_ble_eq_true rfl) rfl rfl rfl (of_eq_true hb) rfl rfl
theorem q130_88 {v0 : Int32} {v1 : Int32} {v2 : Nat} : ab_res scr 130 d M 88 [l0, l1, l2, l3] (.int v0 :: .int v1 :: .ref v2 :: st) = if ab_si v2 .int v1 = true then ab_res scr 130 d (ab_up M v2 v1.toNatClampNeg v0) 89 [l0, l1, l2, l3] (st) else none := ab_o_iastore (ab_dc hc130 dX12_readOne_88)
theorem q130_89 {xr : Nat} : ab_res scr 130 d M 89 [some (.ref xr), l1, l2, l3] (st) = ab_res scr 130 d M 90 [some (.ref xr), l1, l2, l3] (.ref xr :: st) := ab_o_aload_n (ab_dc hc130 dX12_readOne_89) rfl
theorem q130_90 {v0 : Nat} : ab_res scr 130 d M 90 [l0, l1, l2, l3] (.ref v0 :: st) = (ab_gF ab_L0 M v0 12 12).bind fun v => ab_res scr 130 d M 93 [l0, l1, l2, l3] (v :: st) := ab_o_getfield (ab_dc hc130 dX12_readOne_90) hk130 lk_fl_12_22
theorem q130_93 {x : Int32} : ab_res scr 130 d M 93 [l0, some (.int x), l2, l3] (st) = ab_res scr 130 d M 94 [l0, some (.int x), l2, l3] (.int x :: st) := ab_o_iload_n (ab_dc hc130 dX12_readOne_93) rfl
theorem q130_94 : ab_res scr 130 d M 94 [l0, l1, l2, l3] (st) = ab_res scr 130 d M 95 [l0, l1, l2, l3] (.int 3 :: st) := (ab_o_iconst (ab_dc hc130 dX12_readOne_94)).trans (by rw [ki_iconst_3])
theorem q130_95 {v0 : Int32} {v1 : Int32} : ab_res scr 130 d M 95 [l0, l1, l2, l3] (.int v0 :: .int v1 :: st) = ab_res scr 130 d M 96 [l0, l1, l2, l3] (.int (v1 + v0) :: st) := ab_xg (ab_dc hc130 dX12_readOne_95) rfl rfl
theorem q130_96 {xr : Nat} : ab_res scr 130 d M 96 [some (.ref xr), l1, l2, l3] (st) = ab_res scr 130 d M 97 [some (.ref xr), l1, l2, l3] (.ref xr :: st) := ab_o_aload_n (ab_dc hc130 dX12_readOne_96) rfl
theorem q130_97 : ab_res scr 130 d M 97 [l0, l1, l2, l3] (st) = ab_res scr 130 d M 98 [l0, l1, l2, l3] (.int 1 :: st) := (ab_o_iconst (ab_dc hc130 dX12_readOne_97)).trans (by rw [ki_iconst_1])
theorem q130_98 : ab_res scr 130 d M 98 [l0, l1, l2, l3] (st) = ab_res scr 130 d M 100 [l0, l1, l2, l3] (.int 99 :: st) := (ab_o_bipush (ab_dc hc130 dX12_readOne_98)).trans (by rw [ki_bipush_99])
theorem q130_100 {v0 : Int32} {v1 : Int32} {v2 : Nat} {v3 : Int32} {v4 : Nat} (hb : (ab_rc ab_L0 v2 = some 12) = True) : ab_res scr 130 5 M 100 [l0, l1, l2, l3] ([.int v0, .int v1, .ref v2, .int v3, .ref v4]) = (ab_ms scr 128 [.ref v2, .int v1, .int v0] M).bind fun o => ab_res scr 130 5 o.1 103 [l0, l1, l2, l3] (ab_pr o.2 [.int v3, .ref v4]) := ab_o_virtual (ab_dc hc130 dX12_readOne_100) hk130 lk_ca_12_138 hm128 (Nat.le_of_ble_eq_true rfl) rfl rfl rfl (of_eq_true hb) rfl rfl
theorem q130_103 {v0 : Int32} {v1 : Int32} {v2 : Nat} : ab_res scr 130 d M 103 [l0, l1, l2, l3] (.int v0 :: .int v1 :: .ref v2 :: st) = if ab_si v2 .int v1 = true then ab_res scr 130 d (ab_up M v2 v1.toNatClampNeg v0) 104 [l0, l1, l2, l3] (st) else none := ab_o_iastore (ab_dc hc130 dX12_readOne_103)
theorem q130_104 {xr : Nat} : ab_res scr 130 d M 104 [some (.ref xr), l1, l2, l3] (st) = ab_res scr 130 d M 105 [some (.ref xr), l1, l2, l3] (.ref xr :: st) := ab_o_aload_n (ab_dc hc130 dX12_readOne_104) rfl
theorem q130_105 {v0 : Nat} : ab_res scr 130 d M 105 [l0, l1, l2, l3] (.ref v0 :: st) = (ab_gF ab_L0 M v0 12 12).bind fun v => ab_res scr 130 d M 108 [l0, l1, l2, l3] (v :: st) := ab_o_getfield (ab_dc hc130 dX12_readOne_105) hk130 lk_fl_12_22
theorem q130_108 {x : Int32} : ab_res scr 130 d M 108 [l0, some (.int x), l2, l3] (st) = ab_res scr 130 d M 109 [l0, some (.int x), l2, l3] (.int x :: st) := ab_o_iload_n (ab_dc hc130 dX12_readOne_108) rfl
theorem q130_109 : ab_res scr 130 d M 109 [l0, l1, l2, l3] (st) = ab_res scr 130 d M 110 [l0, l1, l2, l3] (.int 4 :: st) := (ab_o_iconst (ab_dc hc130 dX12_readOne_109)).trans (by rw [ki_iconst_4])
theorem q130_110 {v0 : Int32} {v1 : Int32} : ab_res scr 130 d M 110 [l0, l1, l2, l3] (.int v0 :: .int v1 :: st) = ab_res scr 130 d M 111 [l0, l1, l2, l3] (.int (v1 + v0) :: st) := ab_xg (ab_dc hc130 dX12_readOne_110) rfl rfl
theorem q130_111 : ab_res scr 130 d M 111 [l0, l1, l2, l3] (st) = ab_res scr 130 d M 114 [l0, l1, l2, l3] (.int 999 :: st) := (ab_o_sipush (ab_dc hc130 dX12_readOne_111)).trans (by rw [ki_sipush_999])
theorem q130_114 {v0 : Int32} {v1 : Int32} {v2 : Nat} : ab_res scr 130 d M 114 [l0, l1, l2, l3] (.int v0 :: .int v1 :: .ref v2 :: st) = if ab_si v2 .int v1 = true then ab_res scr 130 d (ab_up M v2 v1.toNatClampNeg v0) 115 [l0, l1, l2, l3] (st) else none := ab_o_iastore (ab_dc hc130 dX12_readOne_114)
theorem q130_115 {xr : Nat} : ab_res scr 130 d M 115 [some (.ref xr), l1, l2, l3] (st) = ab_res scr 130 d M 116 [some (.ref xr), l1, l2, l3] (.ref xr :: st) := ab_o_aload_n (ab_dc hc130 dX12_readOne_115) rfl
theorem q130_116 {v0 : Nat} : ab_res scr 130 d M 116 [l0, l1, l2, l3] (.ref v0 :: st) = (ab_gF ab_L0 M v0 12 12).bind fun v => ab_res scr 130 d M 119 [l0, l1, l2, l3] (v :: st) := ab_o_getfield (ab_dc hc130 dX12_readOne_116) hk130 lk_fl_12_22
theorem q130_119 {x : Int32} : ab_res scr 130 d M 119 [l0, some (.int x), l2, l3] (st) = ab_res scr 130 d M 120 [l0, some (.int x), l2, l3] (.int x :: st) := ab_o_iload_n (ab_dc hc130 dX12_readOne_119) rfl
theorem q130_120 : ab_res scr 130 d M 120 [l0, l1, l2, l3] (st) = ab_res scr 130 d M 121 [l0, l1, l2, l3] (.int 5 :: st) := (ab_o_iconst (ab_dc hc130 dX12_readOne_120)).trans (by rw [ki_iconst_5])
theorem q130_121 {v0 : Int32} {v1 : Int32} : ab_res scr 130 d M 121 [l0, l1, l2, l3] (.int v0 :: .int v1 :: st) = ab_res scr 130 d M 122 [l0, l1, l2, l3] (.int (v1 + v0) :: st) := ab_xg (ab_dc hc130 dX12_readOne_121) rfl rfl
theorem q130_122 : ab_res scr 130 d M 122 [l0, l1, l2, l3] (st) = ab_res scr 130 d M 123 [l0, l1, l2, l3] (.int 1 :: st) := (ab_o_iconst (ab_dc hc130 dX12_readOne_122)).trans (by rw [ki_iconst_1])
theorem q130_123 {v0 : Int32} {v1 : Int32} {v2 : Nat} : ab_res scr 130 d M 123 [l0, l1, l2, l3] (.int v0 :: .int v1 :: .ref v2 :: st) = if ab_si v2 .int v1 = true then ab_res scr 130 d (ab_up M v2 v1.toNatClampNeg v0) 124 [l0, l1, l2, l3] (st) else none := ab_o_iastore (ab_dc hc130 dX12_readOne_123)
theorem q130_124 {xr : Nat} : ab_res scr 130 d M 124 [some (.ref xr), l1, l2, l3] (st) = ab_res scr 130 d M 125 [some (.ref xr), l1, l2, l3] (.ref xr :: st) := ab_o_aload_n (ab_dc hc130 dX12_readOne_124) rfl
theorem q130_125 {v0 : Nat} : ab_res scr 130 d M 125 [l0, l1, l2, l3] (.ref v0 :: st) = (ab_gF ab_L0 M v0 12 12).bind fun v => ab_res scr 130 d M 128 [l0, l1, l2, l3] (v :: st) := ab_o_getfield (ab_dc hc130 dX12_readOne_125) hk130 lk_fl_12_22
theorem q130_128 {x : Int32} : ab_res scr 130 d M 128 [l0, some (.int x), l2, l3] (st) = ab_res scr 130 d M 129 [l0, some (.int x), l2, l3] (.int x :: st) := ab_o_iload_n (ab_dc hc130 dX12_readOne_128) rfl
theorem q130_129 : ab_res scr 130 d M 129 [l0, l1, l2, l3] (st) = ab_res scr 130 d M 131 [l0, l1, l2, l3] (.int 6 :: st) := (ab_o_bipush (ab_dc hc130 dX12_readOne_129)).trans (by rw [ki_bipush_6])
theorem q130_131 {v0 : Int32} {v1 : Int32} : ab_res scr 130 d M 131 [l0, l1, l2, l3] (.int v0 :: .int v1 :: st) = ab_res scr 130 d M 132 [l0, l1, l2, l3] (.int (v1 + v0) :: st) := ab_xg (ab_dc hc130 dX12_readOne_131) rfl rfl
theorem q130_132 : ab_res scr 130 d M 132 [l0, l1, l2, l3] (st) = ab_res scr 130 d M 133 [l0, l1, l2, l3] (.int 0 :: st) := (ab_o_iconst (ab_dc hc130 dX12_readOne_132)).trans (by rw [ki_iconst_0])
theorem q130_133 {v0 : Int32} {v1 : Int32} {v2 : Nat} : ab_res scr 130 d M 133 [l0, l1, l2, l3] (.int v0 :: .int v1 :: .ref v2 :: st) = if ab_si v2 .int v1 = true then ab_res scr 130 d (ab_up M v2 v1.toNatClampNeg v0) 134 [l0, l1, l2, l3] (st) else none := ab_o_iastore (ab_dc hc130 dX12_readOne_133)
theorem q130_134 {xr : Nat} : ab_res scr 130 d M 134 [some (.ref xr), l1, l2, l3] (st) = ab_res scr 130 d M 135 [some (.ref xr), l1, l2, l3] (.ref xr :: st) := ab_o_aload_n (ab_dc hc130 dX12_readOne_134) rfl
theorem q130_135 {v0 : Nat} : ab_res scr 130 d M 135 [l0, l1, l2, l3] (.ref v0 :: st) = (ab_gF ab_L0 M v0 12 12).bind fun v => ab_res scr 130 d M 138 [l0, l1, l2, l3] (v :: st) := ab_o_getfield (ab_dc hc130 dX12_readOne_135) hk130 lk_fl_12_22
theorem q130_138 {x : Int32} : ab_res scr 130 d M 138 [l0, some (.int x), l2, l3] (st) = ab_res scr 130 d M 139 [l0, some (.int x), l2, l3] (.int x :: st) := ab_o_iload_n (ab_dc hc130 dX12_readOne_138) rfl
theorem q130_139 : ab_res scr 130 d M 139 [l0, l1, l2, l3] (st) = ab_res scr 130 d M 141 [l0, l1, l2, l3] (.int 7 :: st) := (ab_o_bipush (ab_dc hc130 dX12_readOne_139)).trans (by rw [ki_bipush_7])
theorem q130_141 {v0 : Int32} {v1 : Int32} : ab_res scr 130 d M 141 [l0, l1, l2, l3] (.int v0 :: .int v1 :: st) = ab_res scr 130 d M 142 [l0, l1, l2, l3] (.int (v1 + v0) :: st) := ab_xg (ab_dc hc130 dX12_readOne_141) rfl rfl
theorem q130_142 : ab_res scr 130 d M 142 [l0, l1, l2, l3] (st) = ab_res scr 130 d M 143 [l0, l1, l2, l3] (.int 0 :: st) := (ab_o_iconst (ab_dc hc130 dX12_readOne_142)).trans (by rw [ki_iconst_0])
theorem q130_143 {v0 : Int32} {v1 : Int32} {v2 : Nat} : ab_res scr 130 d M 143 [l0, l1, l2, l3] (.int v0 :: .int v1 :: .ref v2 :: st) = if ab_si v2 .int v1 = true then ab_res scr 130 d (ab_up M v2 v1.toNatClampNeg v0) 144 [l0, l1, l2, l3] (st) else none := ab_o_iastore (ab_dc hc130 dX12_readOne_143)
theorem q130_144 {xr : Nat} : ab_res scr 130 d M 144 [some (.ref xr), l1, l2, l3] (st) = ab_res scr 130 d M 145 [some (.ref xr), l1, l2, l3] (.ref xr :: st) := ab_o_aload_n (ab_dc hc130 dX12_readOne_144) rfl
theorem q130_145 {v0 : Nat} : ab_res scr 130 d M 145 [l0, l1, l2, l3] (.ref v0 :: st) = (ab_gF ab_L0 M v0 12 12).bind fun v => ab_res scr 130 d M 148 [l0, l1, l2, l3] (v :: st) := ab_o_getfield (ab_dc hc130 dX12_readOne_145) hk130 lk_fl_12_22
theorem q130_148 {x : Int32} : ab_res scr 130 d M 148 [l0, some (.int x), l2, l3] (st) = ab_res scr 130 d M 149 [l0, some (.int x), l2, l3] (.int x :: st) := ab_o_iload_n (ab_dc hc130 dX12_readOne_148) rfl
theorem q130_149 : ab_res scr 130 d M 149 [l0, l1, l2, l3] (st) = ab_res scr 130 d M 151 [l0, l1, l2, l3] (.int 8 :: st) := (ab_o_bipush (ab_dc hc130 dX12_readOne_149)).trans (by rw [ki_bipush_8])
theorem q130_151 {v0 : Int32} {v1 : Int32} : ab_res scr 130 d M 151 [l0, l1, l2, l3] (.int v0 :: .int v1 :: st) = ab_res scr 130 d M 152 [l0, l1, l2, l3] (.int (v1 + v0) :: st) := ab_xg (ab_dc hc130 dX12_readOne_151) rfl rfl
theorem q130_152 : ab_res scr 130 d M 152 [l0, l1, l2, l3] (st) = ab_res scr 130 d M 153 [l0, l1, l2, l3] (.int 0 :: st) := (ab_o_iconst (ab_dc hc130 dX12_readOne_152)).trans (by rw [ki_iconst_0])
theorem q130_153 {v0 : Int32} {v1 : Int32} {v2 : Nat} : ab_res scr 130 d M 153 [l0, l1, l2, l3] (.int v0 :: .int v1 :: .ref v2 :: st) = if ab_si v2 .int v1 = true then ab_res scr 130 d (ab_up M v2 v1.toNatClampNeg v0) 154 [l0, l1, l2, l3] (st) else none := ab_o_iastore (ab_dc hc130 dX12_readOne_153)
theorem q130_154 : ab_res scr 130 d M 154 [l0, l1, l2, l3] (st) = ab_res scr 130 d M 155 [l0, l1, l2, l3] (.int 0 :: st) := (ab_o_iconst (ab_dc hc130 dX12_readOne_154)).trans (by rw [ki_iconst_0])
theorem q130_155 {v0 : Int32} : ab_res scr 130 d M 155 [l0, l1, l2, l3] (.int v0 :: st) = ab_res scr 130 d M 156 [l0, ab_nl l1, some (.int v0), l3] (st) := (ab_o_st1 (k := 2) (ab_dc hc130 dX12_readOne_155) (Or.inr (Or.inr (Or.inl ⟨2, rfl, rfl, rfl, ⟨_, rfl⟩⟩))) hn130 (by decide)).trans (ab_kl1 [l0] _ l1 rfl rfl)
theorem q130_156 {xr : Nat} : ab_res scr 130 d M 156 [some (.ref xr), l1, l2, l3] (st) = ab_res scr 130 d M 157 [some (.ref xr), l1, l2, l3] (.ref xr :: st) := ab_o_aload_n (ab_dc hc130 dX12_readOne_156) rfl
theorem q130_157 {v0 : Nat} (hb : (ab_rc ab_L0 v0 = some 12) = True) : ab_res scr 130 5 M 157 [l0, l1, l2, l3] ([.ref v0]) = (ab_ms scr 126 [.ref v0] M).bind fun o => ab_res scr 130 5 o.1 160 [l0, l1, l2, l3] (ab_pr o.2 []) := ab_o_virtual (ab_dc hc130 dX12_readOne_157) hk130 lk_ca_12_142 hm126 (Nat.le_of_ble_eq_true rfl) rfl rfl rfl (of_eq_true hb) rfl rfl
theorem q130_160 {v0 : Int32} : ab_res scr 130 d M 160 [l0, l1, l2, l3] (.int v0 :: st) = ab_res scr 130 d M 161 [l0, l1, ab_nl l2, some (.int v0)] (st) := (ab_o_st1 (k := 3) (ab_dc hc130 dX12_readOne_160) (Or.inr (Or.inr (Or.inl ⟨3, rfl, rfl, rfl, ⟨_, rfl⟩⟩))) hn130 (by decide)).trans (ab_kl1 [l0, l1] _ l2 rfl rfl)
theorem q130_161 {xr : Nat} : ab_res scr 130 d M 161 [some (.ref xr), l1, l2, l3] (st) = ab_res scr 130 d M 162 [some (.ref xr), l1, l2, l3] (.ref xr :: st) := ab_o_aload_n (ab_dc hc130 dX12_readOne_161) rfl
theorem q130_162 {v0 : Nat} : ab_res scr 130 d M 162 [l0, l1, l2, l3] (.ref v0 :: st) = (ab_gF ab_L0 M v0 12 3).bind fun v => ab_res scr 130 d M 165 [l0, l1, l2, l3] (v :: st) := ab_o_getfield (ab_dc hc130 dX12_readOne_162) hk130 lk_fl_12_101
theorem q130_165 {v0 : Int32} : ab_res scr 130 d M 165 [l0, l1, l2, l3] (.int v0 :: st) = if ¬ v0 = 0 then ab_res scr 130 d M 207 [l0, l1, l2, l3] (st) else ab_res scr 130 d M 168 [l0, l1, l2, l3] (st) := ab_o_br2 (off := 42) (ab_dc hc130 dX12_readOne_165) (by decide) rfl rfl
theorem q130_168 {x : Int32} : ab_res scr 130 d M 168 [l0, l1, l2, some (.int x)] (st) = ab_res scr 130 d M 169 [l0, l1, l2, some (.int x)] (.int x :: st) := ab_o_iload_n (ab_dc hc130 dX12_readOne_168) rfl
theorem q130_169 : ab_res scr 130 d M 169 [l0, l1, l2, l3] (st) = ab_res scr 130 d M 170 [l0, l1, l2, l3] (.int 2 :: st) := (ab_o_iconst (ab_dc hc130 dX12_readOne_169)).trans (by rw [ki_iconst_2])
theorem q130_170 {v0 : Int32} {v1 : Int32} : ab_res scr 130 d M 170 [l0, l1, l2, l3] (.int v0 :: .int v1 :: st) = if v1 < v0 then ab_res scr 130 d M 207 [l0, l1, l2, l3] (st) else ab_res scr 130 d M 173 [l0, l1, l2, l3] (st) := ab_o_br2 (off := 37) (ab_dc hc130 dX12_readOne_170) (by decide) rfl rfl
theorem q130_173 {x : Int32} : ab_res scr 130 d M 173 [l0, l1, some (.int x), l3] (st) = ab_res scr 130 d M 174 [l0, l1, some (.int x), l3] (.int x :: st) := ab_o_iload_n (ab_dc hc130 dX12_readOne_173) rfl
theorem q130_174 {x : Int32} : ab_res scr 130 d M 174 [l0, l1, l2, some (.int x)] (st) = ab_res scr 130 d M 175 [l0, l1, l2, some (.int x)] (.int x :: st) := ab_o_iload_n (ab_dc hc130 dX12_readOne_174) rfl
theorem q130_175 {v0 : Int32} {v1 : Int32} : ab_res scr 130 d M 175 [l0, l1, l2, l3] (.int v0 :: .int v1 :: st) = ab_res scr 130 d M 176 [l0, l1, l2, l3] (.int (v1 >>> (v0 &&& 31)) :: st) := ab_xg (ab_dc hc130 dX12_readOne_175) rfl rfl
theorem q130_176 : ab_res scr 130 d M 176 [l0, l1, l2, l3] (st) = ab_res scr 130 d M 177 [l0, l1, l2, l3] (.int 1 :: st) := (ab_o_iconst (ab_dc hc130 dX12_readOne_176)).trans (by rw [ki_iconst_1])
theorem q130_177 {v0 : Int32} {v1 : Int32} : ab_res scr 130 d M 177 [l0, l1, l2, l3] (.int v0 :: .int v1 :: st) = ab_res scr 130 d M 178 [l0, l1, l2, l3] (.int (v1 &&& v0) :: st) := ab_xg (ab_dc hc130 dX12_readOne_177) rfl rfl
theorem q130_178 : ab_res scr 130 d M 178 [l0, l1, l2, l3] (st) = ab_res scr 130 d M 179 [l0, l1, l2, l3] (.int 1 :: st) := (ab_o_iconst (ab_dc hc130 dX12_readOne_178)).trans (by rw [ki_iconst_1])
theorem q130_179 {v0 : Int32} {v1 : Int32} : ab_res scr 130 d M 179 [l0, l1, l2, l3] (.int v0 :: .int v1 :: st) = if ¬ v1 = v0 then ab_res scr 130 d M 187 [l0, l1, l2, l3] (st) else ab_res scr 130 d M 182 [l0, l1, l2, l3] (st) := ab_o_br2 (off := 8) (ab_dc hc130 dX12_readOne_179) (by decide) rfl rfl
theorem q130_182 {xr : Nat} : ab_res scr 130 d M 182 [some (.ref xr), l1, l2, l3] (st) = ab_res scr 130 d M 183 [some (.ref xr), l1, l2, l3] (.ref xr :: st) := ab_o_aload_n (ab_dc hc130 dX12_readOne_182) rfl
theorem q130_183 : ab_res scr 130 d M 183 [l0, l1, l2, l3] (st) = ab_res scr 130 d M 184 [l0, l1, l2, l3] (.int 4 :: st) := (ab_o_iconst (ab_dc hc130 dX12_readOne_183)).trans (by rw [ki_iconst_4])
theorem q130_184 {v0 : Int32} {v1 : Nat} (hb : (ab_rc ab_L0 v1 = some 12) = True) : ab_res scr 130 5 M 184 [l0, l1, l2, l3] ([.int v0, .ref v1]) = (ab_ms scr 125 [.ref v1, .int v0] M).bind fun o => ab_res scr 130 5 o.1 187 [l0, l1, l2, l3] (ab_pr o.2 []) := ab_o_virtual (ab_dc hc130 dX12_readOne_184) hk130 lk_ca_12_131 hm125 (Nat.le_of_ble_eq_true rfl) rfl rfl rfl (of_eq_true hb) rfl rfl
theorem q130_187 {x : Int32} : ab_res scr 130 d M 187 [l0, l1, some (.int x), l3] (st) = ab_res scr 130 d M 188 [l0, l1, some (.int x), l3] (.int x :: st) := ab_o_iload_n (ab_dc hc130 dX12_readOne_187) rfl
theorem q130_188 : ab_res scr 130 d M 188 [l0, l1, l2, l3] (st) = ab_res scr 130 d M 189 [l0, l1, l2, l3] (.int 1 :: st) := (ab_o_iconst (ab_dc hc130 dX12_readOne_188)).trans (by rw [ki_iconst_1])
theorem q130_189 {x : Int32} : ab_res scr 130 d M 189 [l0, l1, l2, some (.int x)] (st) = ab_res scr 130 d M 190 [l0, l1, l2, some (.int x)] (.int x :: st) := ab_o_iload_n (ab_dc hc130 dX12_readOne_189) rfl
theorem q130_190 {v0 : Int32} {v1 : Int32} : ab_res scr 130 d M 190 [l0, l1, l2, l3] (.int v0 :: .int v1 :: st) = ab_res scr 130 d M 191 [l0, l1, l2, l3] (.int (v1 <<< (v0 &&& 31)) :: st) := ab_xg (ab_dc hc130 dX12_readOne_190) rfl rfl
theorem q130_191 {v0 : Int32} {v1 : Int32} : ab_res scr 130 d M 191 [l0, l1, l2, l3] (.int v0 :: .int v1 :: st) = ab_res scr 130 d M 192 [l0, l1, l2, l3] (.int (v1 ||| v0) :: st) := ab_xg (ab_dc hc130 dX12_readOne_191) rfl rfl
theorem q130_192 {v0 : Int32} : ab_res scr 130 d M 192 [l0, l1, l2, l3] (.int v0 :: st) = ab_res scr 130 d M 193 [l0, ab_nl l1, some (.int v0), l3] (st) := (ab_o_st1 (k := 2) (ab_dc hc130 dX12_readOne_192) (Or.inr (Or.inr (Or.inl ⟨2, rfl, rfl, rfl, ⟨_, rfl⟩⟩))) hn130 (by decide)).trans (ab_kl1 [l0] _ l1 rfl rfl)
theorem q130_193 {xr : Nat} : ab_res scr 130 d M 193 [some (.ref xr), l1, l2, l3] (st) = ab_res scr 130 d M 194 [some (.ref xr), l1, l2, l3] (.ref xr :: st) := ab_o_aload_n (ab_dc hc130 dX12_readOne_193) rfl
theorem q130_194 {x : Int32} : ab_res scr 130 d M 194 [l0, some (.int x), l2, l3] (st) = ab_res scr 130 d M 195 [l0, some (.int x), l2, l3] (.int x :: st) := ab_o_iload_n (ab_dc hc130 dX12_readOne_194) rfl
theorem q130_195 {x : Int32} : ab_res scr 130 d M 195 [l0, l1, l2, some (.int x)] (st) = ab_res scr 130 d M 196 [l0, l1, l2, some (.int x)] (.int x :: st) := ab_o_iload_n (ab_dc hc130 dX12_readOne_195) rfl
theorem q130_196 {v0 : Int32} {v1 : Int32} {v2 : Nat} (hb : (ab_rc ab_L0 v2 = some 12) = True) : ab_res scr 130 5 M 196 [l0, l1, l2, l3] ([.int v0, .int v1, .ref v2]) = (ab_ms scr 129 [.ref v2, .int v1, .int v0] M).bind fun o => ab_res scr 130 5 o.1 199 [l0, l1, l2, l3] (ab_pr o.2 []) := ab_o_virtual (ab_dc hc130 dX12_readOne_196) hk130 lk_ca_12_146 hm129 (Nat.le_of_ble_eq_true rfl) rfl rfl rfl (of_eq_true hb) rfl rfl
theorem q130_199 {xr : Nat} : ab_res scr 130 d M 199 [some (.ref xr), l1, l2, l3] (st) = ab_res scr 130 d M 200 [some (.ref xr), l1, l2, l3] (.ref xr :: st) := ab_o_aload_n (ab_dc hc130 dX12_readOne_199) rfl
theorem q130_200 {v0 : Nat} (hb : (ab_rc ab_L0 v0 = some 12) = True) : ab_res scr 130 5 M 200 [l0, l1, l2, l3] ([.ref v0]) = (ab_ms scr 126 [.ref v0] M).bind fun o => ab_res scr 130 5 o.1 203 [l0, l1, l2, l3] (ab_pr o.2 []) := ab_o_virtual (ab_dc hc130 dX12_readOne_200) hk130 lk_ca_12_142 hm126 (Nat.le_of_ble_eq_true rfl) rfl rfl rfl (of_eq_true hb) rfl rfl
theorem q130_203 {v0 : Int32} : ab_res scr 130 d M 203 [l0, l1, l2, l3] (.int v0 :: st) = ab_res scr 130 d M 204 [l0, l1, ab_nl l2, some (.int v0)] (st) := (ab_o_st1 (k := 3) (ab_dc hc130 dX12_readOne_203) (Or.inr (Or.inr (Or.inl ⟨3, rfl, rfl, rfl, ⟨_, rfl⟩⟩))) hn130 (by decide)).trans (ab_kl1 [l0, l1] _ l2 rfl rfl)
theorem q130_204 : ab_res scr 130 d M 204 [l0, l1, l2, l3] (st) = ab_res scr 130 d M 161 [l0, l1, l2, l3] (st) := ab_o_goto (ab_dc hc130 dX12_readOne_204) (by decide)
theorem q130_207 {xr : Nat} : ab_res scr 130 d M 207 [some (.ref xr), l1, l2, l3] (st) = ab_res scr 130 d M 208 [some (.ref xr), l1, l2, l3] (.ref xr :: st) := ab_o_aload_n (ab_dc hc130 dX12_readOne_207) rfl
theorem q130_208 {v0 : Nat} : ab_res scr 130 d M 208 [l0, l1, l2, l3] (.ref v0 :: st) = (ab_gF ab_L0 M v0 12 12).bind fun v => ab_res scr 130 d M 211 [l0, l1, l2, l3] (v :: st) := ab_o_getfield (ab_dc hc130 dX12_readOne_208) hk130 lk_fl_12_22
theorem q130_211 : ab_res scr 130 d M 211 [l0, l1, l2, l3] (st) = ab_res scr 130 d M 213 [l0, l1, l2, l3] (.int 72 :: st) := (ab_o_bipush (ab_dc hc130 dX12_readOne_211)).trans (by rw [ki_bipush_72])
theorem q130_213 {v0 : Int32} {v1 : Nat} : ab_res scr 130 d M 213 [l0, l1, l2, l3] (.int v0 :: .ref v1 :: st) = ab_res scr 130 d M 214 [l0, l1, l2, l3] (.int v0 :: .ref v1 :: .int v0 :: .ref v1 :: st) := ab_xg (ab_dc hc130 dX12_readOne_213) rfl rfl
theorem q130_214 {v0 : Int32} {v1 : Nat} : ab_res scr 130 d M 214 [l0, l1, l2, l3] (.int v0 :: .ref v1 :: st) = (ab_ald scr ab_L0 M v1 .int v0).bind fun v => ab_res scr 130 d M 215 [l0, l1, l2, l3] (.int v :: st) := ab_o_iaload (ab_dc hc130 dX12_readOne_214)
theorem q130_215 : ab_res scr 130 d M 215 [l0, l1, l2, l3] (st) = ab_res scr 130 d M 216 [l0, l1, l2, l3] (.int 1 :: st) := (ab_o_iconst (ab_dc hc130 dX12_readOne_215)).trans (by rw [ki_iconst_1])
theorem q130_216 {v0 : Int32} {v1 : Int32} : ab_res scr 130 d M 216 [l0, l1, l2, l3] (.int v0 :: .int v1 :: st) = ab_res scr 130 d M 217 [l0, l1, l2, l3] (.int (v1 + v0) :: st) := ab_xg (ab_dc hc130 dX12_readOne_216) rfl rfl
theorem q130_217 {v0 : Int32} {v1 : Int32} {v2 : Nat} : ab_res scr 130 d M 217 [l0, l1, l2, l3] (.int v0 :: .int v1 :: .ref v2 :: st) = if ab_si v2 .int v1 = true then ab_res scr 130 d (ab_up M v2 v1.toNatClampNeg v0) 218 [l0, l1, l2, l3] (st) else none := ab_o_iastore (ab_dc hc130 dX12_readOne_217)
theorem q130_218 : ab_res scr 130 d M 218 [l0, l1, l2, l3] ([]) = some (M, none) := ab_o_return (ab_dc hc130 dX12_readOne_218) hr130
end Q130
theorem hc131 : ab_code 131 = cX12_readLine := rfl
theorem hn131 : ab_nL 131 = 2 := rfl
theorem hk131 : ab_ky 131 = 12 := rfl
theorem hr131 : ab_ret 131 = none := rfl
section Q131
variable {scr : Option (List Int32)} {d : Nat} {M : ab_M} {st : List Value} {l0 l1 : Option Value}
theorem q131_0 {xr : Nat} : ab_res scr 131 d M 0 [some (.ref xr), l1] (st) = ab_res scr 131 d M 1 [some (.ref xr), l1] (.ref xr :: st) := ab_o_aload_n (ab_dc hc131 dX12_readLine_0) rfl
theorem q131_1 {v0 : Nat} (hb : (ab_rc ab_L0 v0 = some 12) = True) : ab_res scr 131 6 M 1 [l0, l1] ([.ref v0]) = (ab_ms scr 126 [.ref v0] M).bind fun o => ab_res scr 131 6 o.1 4 [l0, l1] (ab_pr o.2 []) := ab_o_virtual (ab_dc hc131 dX12_readLine_1) hk131 lk_ca_12_142 hm126 (Nat.le_of_ble_eq_true rfl) rfl rfl rfl (of_eq_true hb) rfl rfl
theorem q131_4 {v0 : Int32} : ab_res scr 131 d M 4 [l0, l1] (.int v0 :: st) = ab_res scr 131 d M 5 [ab_nl l0, some (.int v0)] (st) := (ab_o_st1 (k := 1) (ab_dc hc131 dX12_readLine_4) (Or.inr (Or.inr (Or.inl ⟨1, rfl, rfl, rfl, ⟨_, rfl⟩⟩))) hn131 (by decide)).trans (ab_kl1 [] _ l0 rfl rfl)
theorem q131_5 {x : Int32} : ab_res scr 131 d M 5 [l0, some (.int x)] (st) = ab_res scr 131 d M 6 [l0, some (.int x)] (.int x :: st) := ab_o_iload_n (ab_dc hc131 dX12_readLine_5) rfl
theorem q131_6 {v0 : Int32} : ab_res scr 131 d M 6 [l0, l1] (.int v0 :: st) = if v0 = 0 then ab_res scr 131 d M 20 [l0, l1] (st) else ab_res scr 131 d M 9 [l0, l1] (st) := ab_o_br2 (off := 14) (ab_dc hc131 dX12_readLine_6) (by decide) rfl rfl
theorem q131_9 {x : Int32} : ab_res scr 131 d M 9 [l0, some (.int x)] (st) = ab_res scr 131 d M 10 [l0, some (.int x)] (.int x :: st) := ab_o_iload_n (ab_dc hc131 dX12_readLine_9) rfl
theorem q131_10 : ab_res scr 131 d M 10 [l0, l1] (st) = ab_res scr 131 d M 11 [l0, l1] (.int 1 :: st) := (ab_o_iconst (ab_dc hc131 dX12_readLine_10)).trans (by rw [ki_iconst_1])
theorem q131_11 {v0 : Int32} {v1 : Int32} : ab_res scr 131 d M 11 [l0, l1] (.int v0 :: .int v1 :: st) = if v1 = v0 then ab_res scr 131 d M 20 [l0, l1] (st) else ab_res scr 131 d M 14 [l0, l1] (st) := ab_o_br2 (off := 9) (ab_dc hc131 dX12_readLine_11) (by decide) rfl rfl
theorem q131_14 {xr : Nat} : ab_res scr 131 d M 14 [some (.ref xr), l1] (st) = ab_res scr 131 d M 15 [some (.ref xr), l1] (.ref xr :: st) := ab_o_aload_n (ab_dc hc131 dX12_readLine_14) rfl
theorem q131_15 : ab_res scr 131 d M 15 [l0, l1] (st) = ab_res scr 131 d M 16 [l0, l1] (.int 2 :: st) := (ab_o_iconst (ab_dc hc131 dX12_readLine_15)).trans (by rw [ki_iconst_2])
theorem q131_16 {v0 : Int32} {v1 : Nat} (hb : (ab_rc ab_L0 v1 = some 12) = True) : ab_res scr 131 6 M 16 [l0, l1] ([.int v0, .ref v1]) = (ab_ms scr 125 [.ref v1, .int v0] M).bind fun o => ab_res scr 131 6 o.1 19 [l0, l1] (ab_pr o.2 []) := ab_o_virtual (ab_dc hc131 dX12_readLine_16) hk131 lk_ca_12_131 hm125 (Nat.le_of_ble_eq_true rfl) rfl rfl rfl (of_eq_true hb) rfl rfl
theorem q131_19 : ab_res scr 131 d M 19 [l0, l1] ([]) = some (M, none) := ab_o_return (ab_dc hc131 dX12_readLine_19) hr131
theorem q131_20 {x : Int32} : ab_res scr 131 d M 20 [l0, some (.int x)] (st) = ab_res scr 131 d M 21 [l0, some (.int x)] (.int x :: st) := ab_o_iload_n (ab_dc hc131 dX12_readLine_20) rfl
theorem q131_21 {v0 : Int32} : ab_res scr 131 d M 21 [l0, l1] (.int v0 :: st) = if ¬ v0 = 0 then ab_res scr 131 d M 31 [l0, l1] (st) else ab_res scr 131 d M 24 [l0, l1] (st) := ab_o_br2 (off := 10) (ab_dc hc131 dX12_readLine_21) (by decide) rfl rfl
theorem q131_24 {xr : Nat} : ab_res scr 131 d M 24 [some (.ref xr), l1] (st) = ab_res scr 131 d M 25 [some (.ref xr), l1] (.ref xr :: st) := ab_o_aload_n (ab_dc hc131 dX12_readLine_24) rfl
theorem q131_25 {v0 : Nat} (hb : (ab_rc ab_L0 v0 = some 12) = True) : ab_res scr 131 6 M 25 [l0, l1] ([.ref v0]) = (ab_ms scr 130 [.ref v0] M).bind fun o => ab_res scr 131 6 o.1 28 [l0, l1] (ab_pr o.2 []) := ab_o_virtual (ab_dc hc131 dX12_readLine_25) hk131 lk_ca_12_150 hm130 (Nat.le_of_ble_eq_true rfl) rfl rfl rfl (of_eq_true hb) rfl rfl
theorem q131_28 : ab_res scr 131 d M 28 [l0, l1] (st) = ab_res scr 131 d M 66 [l0, l1] (st) := ab_o_goto (ab_dc hc131 dX12_readLine_28) (by decide)
theorem q131_31 {xr : Nat} : ab_res scr 131 d M 31 [some (.ref xr), l1] (st) = ab_res scr 131 d M 32 [some (.ref xr), l1] (.ref xr :: st) := ab_o_aload_n (ab_dc hc131 dX12_readLine_31) rfl
theorem q131_32 {v0 : Nat} : ab_res scr 131 d M 32 [l0, l1] (.ref v0 :: st) = (ab_gF ab_L0 M v0 12 13).bind fun v => ab_res scr 131 d M 35 [l0, l1] (v :: st) := ab_o_getfield (ab_dc hc131 dX12_readLine_32) hk131 lk_fl_12_153
theorem q131_35 {v0 : Int32} : ab_res scr 131 d M 35 [l0, l1] (.int v0 :: st) = if v0 = 0 then ab_res scr 131 d M 43 [l0, l1] (st) else ab_res scr 131 d M 38 [l0, l1] (st) := ab_o_br2 (off := 8) (ab_dc hc131 dX12_readLine_35) (by decide) rfl rfl
theorem q131_38 {xr : Nat} : ab_res scr 131 d M 38 [some (.ref xr), l1] (st) = ab_res scr 131 d M 39 [some (.ref xr), l1] (.ref xr :: st) := ab_o_aload_n (ab_dc hc131 dX12_readLine_38) rfl
theorem q131_39 : ab_res scr 131 d M 39 [l0, l1] (st) = ab_res scr 131 d M 40 [l0, l1] (.int 4 :: st) := (ab_o_iconst (ab_dc hc131 dX12_readLine_39)).trans (by rw [ki_iconst_4])
theorem q131_40 {v0 : Int32} {v1 : Nat} (hb : (ab_rc ab_L0 v1 = some 12) = True) : ab_res scr 131 6 M 40 [l0, l1] ([.int v0, .ref v1]) = (ab_ms scr 125 [.ref v1, .int v0] M).bind fun o => ab_res scr 131 6 o.1 43 [l0, l1] (ab_pr o.2 []) := ab_o_virtual (ab_dc hc131 dX12_readLine_40) hk131 lk_ca_12_131 hm125 (Nat.le_of_ble_eq_true rfl) rfl rfl rfl (of_eq_true hb) rfl rfl
theorem q131_43 {xr : Nat} : ab_res scr 131 d M 43 [some (.ref xr), l1] (st) = ab_res scr 131 d M 44 [some (.ref xr), l1] (.ref xr :: st) := ab_o_aload_n (ab_dc hc131 dX12_readLine_43) rfl
theorem q131_44 : ab_res scr 131 d M 44 [l0, l1] (st) = ab_res scr 131 d M 45 [l0, l1] (.int 1 :: st) := (ab_o_iconst (ab_dc hc131 dX12_readLine_44)).trans (by rw [ki_iconst_1])
theorem q131_45 {v0 : Int32} {v1 : Nat} (hp : (ab_pt v1 12 13 v0 = true) = True) : ab_res scr 131 d M 45 [l0, l1] (.int v0 :: .ref v1 :: st) = ab_res scr 131 d (ab_up M v1 13 v0) 48 [l0, l1] (st) := ab_o_putfield (ab_dc hc131 dX12_readLine_45) hk131 lk_fl_12_153 (of_eq_true hp)
theorem q131_48 {xr : Nat} : ab_res scr 131 d M 48 [some (.ref xr), l1] (st) = ab_res scr 131 d M 49 [some (.ref xr), l1] (.ref xr :: st) := ab_o_aload_n (ab_dc hc131 dX12_readLine_48) rfl
theorem q131_49 {v0 : Nat} (hb : (ab_rc ab_L0 v0 = some 12) = True) : ab_res scr 131 6 M 49 [l0, l1] ([.ref v0]) = (ab_ms scr 127 [.ref v0] M).bind fun o => ab_res scr 131 6 o.1 52 [l0, l1] (ab_pr o.2 []) := ab_o_virtual (ab_dc hc131 dX12_readLine_49) hk131 lk_ca_12_135 hm127 (Nat.le_of_ble_eq_true rfl) rfl rfl rfl (of_eq_true hb) rfl rfl
theorem q131_52 {xr : Nat} : ab_res scr 131 d M 52 [some (.ref xr), l1] (st) = ab_res scr 131 d M 53 [some (.ref xr), l1] (.ref xr :: st) := ab_o_aload_n (ab_dc hc131 dX12_readLine_52) rfl
theorem q131_53 {v0 : Nat} : ab_res scr 131 d M 53 [l0, l1] (.ref v0 :: st) = (ab_gF ab_L0 M v0 12 12).bind fun v => ab_res scr 131 d M 56 [l0, l1] (v :: st) := ab_o_getfield (ab_dc hc131 dX12_readLine_53) hk131 lk_fl_12_22
theorem q131_56 : ab_res scr 131 d M 56 [l0, l1] (st) = ab_res scr 131 d M 58 [l0, l1] (.int 73 :: st) := (ab_o_bipush (ab_dc hc131 dX12_readLine_56)).trans (by rw [ki_bipush_73])
theorem q131_58 {xr : Nat} : ab_res scr 131 d M 58 [some (.ref xr), l1] (st) = ab_res scr 131 d M 59 [some (.ref xr), l1] (.ref xr :: st) := ab_o_aload_n (ab_dc hc131 dX12_readLine_58) rfl
theorem q131_59 : ab_res scr 131 d M 59 [l0, l1] (st) = ab_res scr 131 d M 60 [l0, l1] (.int 1 :: st) := (ab_o_iconst (ab_dc hc131 dX12_readLine_59)).trans (by rw [ki_iconst_1])
theorem q131_60 : ab_res scr 131 d M 60 [l0, l1] (st) = ab_res scr 131 d M 62 [l0, l1] (.int 8 :: st) := (ab_o_bipush (ab_dc hc131 dX12_readLine_60)).trans (by rw [ki_bipush_8])
theorem q131_62 {v0 : Int32} {v1 : Int32} {v2 : Nat} {v3 : Int32} {v4 : Nat} (hb : (ab_rc ab_L0 v2 = some 12) = True) : ab_res scr 131 6 M 62 [l0, l1] ([.int v0, .int v1, .ref v2, .int v3, .ref v4]) = (ab_ms scr 128 [.ref v2, .int v1, .int v0] M).bind fun o => ab_res scr 131 6 o.1 65 [l0, l1] (ab_pr o.2 [.int v3, .ref v4]) := ab_o_virtual (ab_dc hc131 dX12_readLine_62) hk131 lk_ca_12_138 hm128 (Nat.le_of_ble_eq_true rfl) rfl rfl rfl (of_eq_true hb) rfl rfl
theorem q131_65 {v0 : Int32} {v1 : Int32} {v2 : Nat} : ab_res scr 131 d M 65 [l0, l1] (.int v0 :: .int v1 :: .ref v2 :: st) = if ab_si v2 .int v1 = true then ab_res scr 131 d (ab_up M v2 v1.toNatClampNeg v0) 66 [l0, l1] (st) else none := ab_o_iastore (ab_dc hc131 dX12_readLine_65)
theorem q131_66 {xr : Nat} : ab_res scr 131 d M 66 [some (.ref xr), l1] (st) = ab_res scr 131 d M 67 [some (.ref xr), l1] (.ref xr :: st) := ab_o_aload_n (ab_dc hc131 dX12_readLine_66) rfl
theorem q131_67 {v0 : Nat} : ab_res scr 131 d M 67 [l0, l1] (.ref v0 :: st) = (ab_gF ab_L0 M v0 12 3).bind fun v => ab_res scr 131 d M 70 [l0, l1] (v :: st) := ab_o_getfield (ab_dc hc131 dX12_readLine_67) hk131 lk_fl_12_101
theorem q131_70 {v0 : Int32} : ab_res scr 131 d M 70 [l0, l1] (.int v0 :: st) = if ¬ v0 = 0 then ab_res scr 131 d M 86 [l0, l1] (st) else ab_res scr 131 d M 73 [l0, l1] (st) := ab_o_br2 (off := 16) (ab_dc hc131 dX12_readLine_70) (by decide) rfl rfl
theorem q131_73 {xr : Nat} : ab_res scr 131 d M 73 [some (.ref xr), l1] (st) = ab_res scr 131 d M 74 [some (.ref xr), l1] (.ref xr :: st) := ab_o_aload_n (ab_dc hc131 dX12_readLine_73) rfl
theorem q131_74 {v0 : Nat} : ab_res scr 131 d M 74 [l0, l1] (.ref v0 :: st) = (ab_gF ab_L0 M v0 12 7).bind fun v => ab_res scr 131 d M 77 [l0, l1] (v :: st) := ab_o_getfield (ab_dc hc131 dX12_readLine_74) hk131 lk_fl_12_110
theorem q131_77 : ab_res scr 131 d M 77 [l0, l1] (st) = ab_res scr 131 d M 78 [l0, l1] (.int 3 :: st) := (ab_o_iconst (ab_dc hc131 dX12_readLine_77)).trans (by rw [ki_iconst_3])
theorem q131_78 {v0 : Int32} {v1 : Int32} : ab_res scr 131 d M 78 [l0, l1] (.int v0 :: .int v1 :: st) = if v1 = v0 then ab_res scr 131 d M 86 [l0, l1] (st) else ab_res scr 131 d M 81 [l0, l1] (st) := ab_o_br2 (off := 8) (ab_dc hc131 dX12_readLine_78) (by decide) rfl rfl
theorem q131_81 {xr : Nat} : ab_res scr 131 d M 81 [some (.ref xr), l1] (st) = ab_res scr 131 d M 82 [some (.ref xr), l1] (.ref xr :: st) := ab_o_aload_n (ab_dc hc131 dX12_readLine_81) rfl
theorem q131_82 : ab_res scr 131 d M 82 [l0, l1] (st) = ab_res scr 131 d M 83 [l0, l1] (.int 2 :: st) := (ab_o_iconst (ab_dc hc131 dX12_readLine_82)).trans (by rw [ki_iconst_2])
theorem q131_83 {v0 : Int32} {v1 : Nat} (hb : (ab_rc ab_L0 v1 = some 12) = True) : ab_res scr 131 6 M 83 [l0, l1] ([.int v0, .ref v1]) = (ab_ms scr 125 [.ref v1, .int v0] M).bind fun o => ab_res scr 131 6 o.1 86 [l0, l1] (ab_pr o.2 []) := ab_o_virtual (ab_dc hc131 dX12_readLine_83) hk131 lk_ca_12_131 hm125 (Nat.le_of_ble_eq_true rfl) rfl rfl rfl (of_eq_true hb) rfl rfl
theorem q131_86 {xr : Nat} : ab_res scr 131 d M 86 [some (.ref xr), l1] (st) = ab_res scr 131 d M 87 [some (.ref xr), l1] (.ref xr :: st) := ab_o_aload_n (ab_dc hc131 dX12_readLine_86) rfl
theorem q131_87 {v0 : Nat} (hb : (ab_rc ab_L0 v0 = some 12) = True) : ab_res scr 131 6 M 87 [l0, l1] ([.ref v0]) = (ab_ms scr 127 [.ref v0] M).bind fun o => ab_res scr 131 6 o.1 90 [l0, l1] (ab_pr o.2 []) := ab_o_virtual (ab_dc hc131 dX12_readLine_87) hk131 lk_ca_12_135 hm127 (Nat.le_of_ble_eq_true rfl) rfl rfl rfl (of_eq_true hb) rfl rfl
theorem q131_90 : ab_res scr 131 d M 90 [l0, l1] ([]) = some (M, none) := ab_o_return (ab_dc hc131 dX12_readLine_90) hr131
end Q131
theorem hc132 : ab_code 132 = cX12_table := rfl
theorem hn132 : ab_nL 132 = 3 := rfl
theorem hk132 : ab_ky 132 = 12 := rfl
theorem hr132 : ab_ret 132 = some .int := rfl
section Q132
variable {scr : Option (List Int32)} {d : Nat} {M : ab_M} {st : List Value} {l0 l1 l2 : Option Value}
theorem q132_0 {xr : Nat} : ab_res scr 132 d M 0 [some (.ref xr), l1, l2] (st) = ab_res scr 132 d M 1 [some (.ref xr), l1, l2] (.ref xr :: st) := ab_o_aload_n (ab_dc hc132 dX12_table_0) rfl
theorem q132_1 : ab_res scr 132 d M 1 [l0, l1, l2] (st) = ab_res scr 132 d M 2 [l0, l1, l2] (.int 0 :: st) := (ab_o_iconst (ab_dc hc132 dX12_table_1)).trans (by rw [ki_iconst_0])
theorem q132_2 {v0 : Int32} {v1 : Nat} (hp : (ab_pt v1 12 3 v0 = true) = True) : ab_res scr 132 d M 2 [l0, l1, l2] (.int v0 :: .ref v1 :: st) = ab_res scr 132 d (ab_up M v1 3 v0) 5 [l0, l1, l2] (st) := ab_o_putfield (ab_dc hc132 dX12_table_2) hk132 lk_fl_12_101 (of_eq_true hp)
theorem q132_5 {xr : Nat} : ab_res scr 132 d M 5 [some (.ref xr), l1, l2] (st) = ab_res scr 132 d M 6 [some (.ref xr), l1, l2] (.ref xr :: st) := ab_o_aload_n (ab_dc hc132 dX12_table_5) rfl
theorem q132_6 : ab_res scr 132 d M 6 [l0, l1, l2] (st) = ab_res scr 132 d M 7 [l0, l1, l2] (.int 0 :: st) := (ab_o_iconst (ab_dc hc132 dX12_table_6)).trans (by rw [ki_iconst_0])
theorem q132_7 {v0 : Int32} {v1 : Nat} (hp : (ab_pt v1 12 5 v0 = true) = True) : ab_res scr 132 d M 7 [l0, l1, l2] (.int v0 :: .ref v1 :: st) = ab_res scr 132 d (ab_up M v1 5 v0) 10 [l0, l1, l2] (st) := ab_o_putfield (ab_dc hc132 dX12_table_7) hk132 lk_fl_12_113 (of_eq_true hp)
theorem q132_10 {xr : Nat} : ab_res scr 132 d M 10 [some (.ref xr), l1, l2] (st) = ab_res scr 132 d M 11 [some (.ref xr), l1, l2] (.ref xr :: st) := ab_o_aload_n (ab_dc hc132 dX12_table_10) rfl
theorem q132_11 : ab_res scr 132 d M 11 [l0, l1, l2] (st) = ab_res scr 132 d M 12 [l0, l1, l2] (.int 0 :: st) := (ab_o_iconst (ab_dc hc132 dX12_table_11)).trans (by rw [ki_iconst_0])
theorem q132_12 {v0 : Int32} {v1 : Nat} (hp : (ab_pt v1 12 13 v0 = true) = True) : ab_res scr 132 d M 12 [l0, l1, l2] (.int v0 :: .ref v1 :: st) = ab_res scr 132 d (ab_up M v1 13 v0) 15 [l0, l1, l2] (st) := ab_o_putfield (ab_dc hc132 dX12_table_12) hk132 lk_fl_12_153 (of_eq_true hp)
theorem q132_15 {xr : Nat} : ab_res scr 132 d M 15 [some (.ref xr), l1, l2] (st) = ab_res scr 132 d M 16 [some (.ref xr), l1, l2] (.ref xr :: st) := ab_o_aload_n (ab_dc hc132 dX12_table_15) rfl
theorem q132_16 {v0 : Nat} : ab_res scr 132 d M 16 [l0, l1, l2] (.ref v0 :: st) = (ab_gF ab_L0 M v0 12 12).bind fun v => ab_res scr 132 d M 19 [l0, l1, l2] (v :: st) := ab_o_getfield (ab_dc hc132 dX12_table_16) hk132 lk_fl_12_22
theorem q132_19 : ab_res scr 132 d M 19 [l0, l1, l2] (st) = ab_res scr 132 d M 21 [l0, l1, l2] (.int 72 :: st) := (ab_o_bipush (ab_dc hc132 dX12_table_19)).trans (by rw [ki_bipush_72])
theorem q132_21 : ab_res scr 132 d M 21 [l0, l1, l2] (st) = ab_res scr 132 d M 22 [l0, l1, l2] (.int 0 :: st) := (ab_o_iconst (ab_dc hc132 dX12_table_21)).trans (by rw [ki_iconst_0])
theorem q132_22 {v0 : Int32} {v1 : Int32} {v2 : Nat} : ab_res scr 132 d M 22 [l0, l1, l2] (.int v0 :: .int v1 :: .ref v2 :: st) = if ab_si v2 .int v1 = true then ab_res scr 132 d (ab_up M v2 v1.toNatClampNeg v0) 23 [l0, l1, l2] (st) else none := ab_o_iastore (ab_dc hc132 dX12_table_22)
theorem q132_23 {xr : Nat} : ab_res scr 132 d M 23 [some (.ref xr), l1, l2] (st) = ab_res scr 132 d M 24 [some (.ref xr), l1, l2] (.ref xr :: st) := ab_o_aload_n (ab_dc hc132 dX12_table_23) rfl
theorem q132_24 {v0 : Nat} : ab_res scr 132 d M 24 [l0, l1, l2] (.ref v0 :: st) = (ab_gF ab_L0 M v0 12 12).bind fun v => ab_res scr 132 d M 27 [l0, l1, l2] (v :: st) := ab_o_getfield (ab_dc hc132 dX12_table_24) hk132 lk_fl_12_22
theorem q132_27 : ab_res scr 132 d M 27 [l0, l1, l2] (st) = ab_res scr 132 d M 29 [l0, l1, l2] (.int 73 :: st) := (ab_o_bipush (ab_dc hc132 dX12_table_27)).trans (by rw [ki_bipush_73])
theorem q132_29 : ab_res scr 132 d M 29 [l0, l1, l2] (st) = ab_res scr 132 d M 30 [l0, l1, l2] (.int 1 :: st) := (ab_o_iconst (ab_dc hc132 dX12_table_29)).trans (by rw [ki_iconst_1])
theorem q132_30 {v0 : Int32} {v1 : Int32} {v2 : Nat} : ab_res scr 132 d M 30 [l0, l1, l2] (.int v0 :: .int v1 :: .ref v2 :: st) = if ab_si v2 .int v1 = true then ab_res scr 132 d (ab_up M v2 v1.toNatClampNeg v0) 31 [l0, l1, l2] (st) else none := ab_o_iastore (ab_dc hc132 dX12_table_30)
theorem q132_31 : ab_res scr 132 d M 31 [l0, l1, l2] (st) = ab_res scr 132 d M 32 [l0, l1, l2] (.int 0 :: st) := (ab_o_iconst (ab_dc hc132 dX12_table_31)).trans (by rw [ki_iconst_0])
theorem q132_32 {v0 : Int32} : ab_res scr 132 d M 32 [l0, l1, l2] (.int v0 :: st) = ab_res scr 132 d M 33 [ab_nl l0, some (.int v0), l2] (st) := (ab_o_st1 (k := 1) (ab_dc hc132 dX12_table_32) (Or.inr (Or.inr (Or.inl ⟨1, rfl, rfl, rfl, ⟨_, rfl⟩⟩))) hn132 (by decide)).trans (ab_kl1 [] _ l0 rfl rfl)
theorem q132_33 {xr : Nat} : ab_res scr 132 d M 33 [some (.ref xr), l1, l2] (st) = ab_res scr 132 d M 34 [some (.ref xr), l1, l2] (.ref xr :: st) := ab_o_aload_n (ab_dc hc132 dX12_table_33) rfl
theorem q132_34 {v0 : Nat} (hb : (ab_rc ab_L0 v0 = some 12) = True) : ab_res scr 132 7 M 34 [l0, l1, l2] ([.ref v0]) = (ab_ms scr 127 [.ref v0] M).bind fun o => ab_res scr 132 7 o.1 37 [l0, l1, l2] (ab_pr o.2 []) := ab_o_virtual (ab_dc hc132 dX12_table_34) hk132 lk_ca_12_135 hm127 (Nat.le_of_ble_eq_true rfl) rfl rfl rfl (of_eq_true hb) rfl rfl
theorem q132_37 {xr : Nat} : ab_res scr 132 d M 37 [some (.ref xr), l1, l2] (st) = ab_res scr 132 d M 38 [some (.ref xr), l1, l2] (.ref xr :: st) := ab_o_aload_n (ab_dc hc132 dX12_table_37) rfl
theorem q132_38 {v0 : Nat} : ab_res scr 132 d M 38 [l0, l1, l2] (.ref v0 :: st) = (ab_gF ab_L0 M v0 12 3).bind fun v => ab_res scr 132 d M 41 [l0, l1, l2] (v :: st) := ab_o_getfield (ab_dc hc132 dX12_table_38) hk132 lk_fl_12_101
theorem q132_41 {v0 : Int32} : ab_res scr 132 d M 41 [l0, l1, l2] (.int v0 :: st) = if ¬ v0 = 0 then ab_res scr 132 d M 61 [l0, l1, l2] (st) else ab_res scr 132 d M 44 [l0, l1, l2] (st) := ab_o_br2 (off := 20) (ab_dc hc132 dX12_table_41) (by decide) rfl rfl
theorem q132_44 {xr : Nat} : ab_res scr 132 d M 44 [some (.ref xr), l1, l2] (st) = ab_res scr 132 d M 45 [some (.ref xr), l1, l2] (.ref xr :: st) := ab_o_aload_n (ab_dc hc132 dX12_table_44) rfl
theorem q132_45 {v0 : Nat} : ab_res scr 132 d M 45 [l0, l1, l2] (.ref v0 :: st) = (ab_gF ab_L0 M v0 12 7).bind fun v => ab_res scr 132 d M 48 [l0, l1, l2] (v :: st) := ab_o_getfield (ab_dc hc132 dX12_table_45) hk132 lk_fl_12_110
theorem q132_48 {v0 : Int32} : ab_res scr 132 d M 48 [l0, l1, l2] (.int v0 :: st) = if v0 = 0 then ab_res scr 132 d M 61 [l0, l1, l2] (st) else ab_res scr 132 d M 51 [l0, l1, l2] (st) := ab_o_br2 (off := 13) (ab_dc hc132 dX12_table_48) (by decide) rfl rfl
theorem q132_51 {xr : Nat} : ab_res scr 132 d M 51 [some (.ref xr), l1, l2] (st) = ab_res scr 132 d M 52 [some (.ref xr), l1, l2] (.ref xr :: st) := ab_o_aload_n (ab_dc hc132 dX12_table_51) rfl
theorem q132_52 {v0 : Nat} (hb : (ab_rc ab_L0 v0 = some 12) = True) : ab_res scr 132 7 M 52 [l0, l1, l2] ([.ref v0]) = (ab_ms scr 131 [.ref v0] M).bind fun o => ab_res scr 132 7 o.1 55 [l0, l1, l2] (ab_pr o.2 []) := ab_o_virtual (ab_dc hc132 dX12_table_52) hk132 lk_ca_12_156 hm131 (Nat.le_of_ble_eq_true rfl) rfl rfl rfl (of_eq_true hb) rfl rfl
theorem q132_55 {x : Int32} : ab_res scr 132 d M 55 [l0, some (.int x), l2] (st) = ab_res scr 132 d M 58 [ab_nl l0, some (.int (x + 1)), l2] (st) := (ab_o_iinc (k := 1) (ab_dc hc132 dX12_table_55) hn132 (by decide) rfl).trans (by rw [ki_iconst_1]; exact ab_kl1 [] _ l0 rfl rfl)
theorem q132_58 : ab_res scr 132 d M 58 [l0, l1, l2] (st) = ab_res scr 132 d M 37 [l0, l1, l2] (st) := ab_o_goto (ab_dc hc132 dX12_table_58) (by decide)
theorem q132_61 {xr : Nat} : ab_res scr 132 d M 61 [some (.ref xr), l1, l2] (st) = ab_res scr 132 d M 62 [some (.ref xr), l1, l2] (.ref xr :: st) := ab_o_aload_n (ab_dc hc132 dX12_table_61) rfl
theorem q132_62 : ab_res scr 132 d M 62 [l0, l1, l2] (st) = ab_res scr 132 d M 63 [l0, l1, l2] (.int 0 :: st) := (ab_o_iconst (ab_dc hc132 dX12_table_62)).trans (by rw [ki_iconst_0])
theorem q132_63 {v0 : Int32} {v1 : Nat} (hp : (ab_pt v1 12 1 v0 = true) = True) : ab_res scr 132 d M 63 [l0, l1, l2] (.int v0 :: .ref v1 :: st) = ab_res scr 132 d (ab_up M v1 1 v0) 66 [l0, l1, l2] (st) := ab_o_putfield (ab_dc hc132 dX12_table_63) hk132 lk_fl_12_93 (of_eq_true hp)
theorem q132_66 {xr : Nat} : ab_res scr 132 d M 66 [some (.ref xr), l1, l2] (st) = ab_res scr 132 d M 67 [some (.ref xr), l1, l2] (.ref xr :: st) := ab_o_aload_n (ab_dc hc132 dX12_table_66) rfl
theorem q132_67 {xr : Nat} : ab_res scr 132 d M 67 [some (.ref xr), l1, l2] (st) = ab_res scr 132 d M 68 [some (.ref xr), l1, l2] (.ref xr :: st) := ab_o_aload_n (ab_dc hc132 dX12_table_67) rfl
theorem q132_68 {v0 : Nat} : ab_res scr 132 d M 68 [l0, l1, l2] (.ref v0 :: st) = (ab_gF ab_L0 M v0 12 3).bind fun v => ab_res scr 132 d M 71 [l0, l1, l2] (v :: st) := ab_o_getfield (ab_dc hc132 dX12_table_68) hk132 lk_fl_12_101
theorem q132_71 {v0 : Int32} {v1 : Nat} (hp : (ab_pt v1 12 2 v0 = true) = True) : ab_res scr 132 d M 71 [l0, l1, l2] (.int v0 :: .ref v1 :: st) = ab_res scr 132 d (ab_up M v1 2 v0) 74 [l0, l1, l2] (st) := ab_o_putfield (ab_dc hc132 dX12_table_71) hk132 lk_fl_12_159 (of_eq_true hp)
theorem q132_74 {xr : Nat} : ab_res scr 132 d M 74 [some (.ref xr), l1, l2] (st) = ab_res scr 132 d M 75 [some (.ref xr), l1, l2] (.ref xr :: st) := ab_o_aload_n (ab_dc hc132 dX12_table_74) rfl
theorem q132_75 {v0 : Nat} : ab_res scr 132 d M 75 [l0, l1, l2] (.ref v0 :: st) = (ab_gF ab_L0 M v0 12 3).bind fun v => ab_res scr 132 d M 78 [l0, l1, l2] (v :: st) := ab_o_getfield (ab_dc hc132 dX12_table_75) hk132 lk_fl_12_101
theorem q132_78 {v0 : Int32} : ab_res scr 132 d M 78 [l0, l1, l2] (.int v0 :: st) = if v0 ≤ 0 then ab_res scr 132 d M 89 [l0, l1, l2] (st) else ab_res scr 132 d M 81 [l0, l1, l2] (st) := ab_o_br2 (off := 11) (ab_dc hc132 dX12_table_78) (by decide) rfl rfl
theorem q132_81 : ab_res scr 132 d M 81 [l0, l1, l2] (st) = ab_res scr 132 d M 83 [l0, l1, l2] (.int (-10) :: st) := (ab_o_bipush (ab_dc hc132 dX12_table_81)).trans (by rw [ki_bipush_m10])
theorem q132_83 {xr : Nat} : ab_res scr 132 d M 83 [some (.ref xr), l1, l2] (st) = ab_res scr 132 d M 84 [some (.ref xr), l1, l2] (.ref xr :: st) := ab_o_aload_n (ab_dc hc132 dX12_table_83) rfl
theorem q132_84 {v0 : Nat} : ab_res scr 132 d M 84 [l0, l1, l2] (.ref v0 :: st) = (ab_gF ab_L0 M v0 12 4).bind fun v => ab_res scr 132 d M 87 [l0, l1, l2] (v :: st) := ab_o_getfield (ab_dc hc132 dX12_table_84) hk132 lk_fl_12_107
theorem q132_87 {v0 : Int32} {v1 : Int32} : ab_res scr 132 d M 87 [l0, l1, l2] (.int v0 :: .int v1 :: st) = ab_res scr 132 d M 88 [l0, l1, l2] (.int (v1 - v0) :: st) := ab_xg (ab_dc hc132 dX12_table_87) rfl rfl
theorem q132_88 {v0 : Int32} : ab_res scr 132 d M 88 [l0, l1, l2] ([.int v0]) = some (M, some (.int v0)) := ab_o_ireturn (ab_dc hc132 dX12_table_88) hr132 rfl
theorem q132_89 : ab_res scr 132 d M 89 [l0, l1, l2] (st) = ab_res scr 132 d M 90 [l0, l1, l2] (.int 0 :: st) := (ab_o_iconst (ab_dc hc132 dX12_table_89)).trans (by rw [ki_iconst_0])
theorem q132_90 {v0 : Int32} : ab_res scr 132 d M 90 [l0, l1, l2] (.int v0 :: st) = ab_res scr 132 d M 91 [l0, ab_nl l1, some (.int v0)] (st) := (ab_o_st1 (k := 2) (ab_dc hc132 dX12_table_90) (Or.inr (Or.inr (Or.inl ⟨2, rfl, rfl, rfl, ⟨_, rfl⟩⟩))) hn132 (by decide)).trans (ab_kl1 [l0] _ l1 rfl rfl)
theorem q132_91 {x : Int32} : ab_res scr 132 d M 91 [l0, l1, some (.int x)] (st) = ab_res scr 132 d M 92 [l0, l1, some (.int x)] (.int x :: st) := ab_o_iload_n (ab_dc hc132 dX12_table_91) rfl
theorem q132_92 : ab_res scr 132 d M 92 [l0, l1, l2] (st) = ab_res scr 132 d M 94 [l0, l1, l2] (.int 74 :: st) := (ab_o_bipush (ab_dc hc132 dX12_table_92)).trans (by rw [ki_bipush_74])
theorem q132_94 {v0 : Int32} {v1 : Int32} : ab_res scr 132 d M 94 [l0, l1, l2] (.int v0 :: .int v1 :: st) = if v0 ≤ v1 then ab_res scr 132 d M 115 [l0, l1, l2] (st) else ab_res scr 132 d M 97 [l0, l1, l2] (st) := ab_o_br2 (off := 21) (ab_dc hc132 dX12_table_94) (by decide) rfl rfl
theorem q132_97 {xr : Nat} : ab_res scr 132 d M 97 [some (.ref xr), l1, l2] (st) = ab_res scr 132 d M 98 [some (.ref xr), l1, l2] (.ref xr :: st) := ab_o_aload_n (ab_dc hc132 dX12_table_97) rfl
theorem q132_98 {v0 : Nat} : ab_res scr 132 d M 98 [l0, l1, l2] (.ref v0 :: st) = (ab_gF ab_L0 M v0 12 11).bind fun v => ab_res scr 132 d M 101 [l0, l1, l2] (v :: st) := ab_o_getfield (ab_dc hc132 dX12_table_98) hk132 lk_fl_12_19
theorem q132_101 {x : Int32} : ab_res scr 132 d M 101 [l0, l1, some (.int x)] (st) = ab_res scr 132 d M 102 [l0, l1, some (.int x)] (.int x :: st) := ab_o_iload_n (ab_dc hc132 dX12_table_101) rfl
theorem q132_102 {xr : Nat} : ab_res scr 132 d M 102 [some (.ref xr), l1, l2] (st) = ab_res scr 132 d M 103 [some (.ref xr), l1, l2] (.ref xr :: st) := ab_o_aload_n (ab_dc hc132 dX12_table_102) rfl
theorem q132_103 {v0 : Nat} : ab_res scr 132 d M 103 [l0, l1, l2] (.ref v0 :: st) = (ab_gF ab_L0 M v0 12 12).bind fun v => ab_res scr 132 d M 106 [l0, l1, l2] (v :: st) := ab_o_getfield (ab_dc hc132 dX12_table_103) hk132 lk_fl_12_22
theorem q132_106 {x : Int32} : ab_res scr 132 d M 106 [l0, l1, some (.int x)] (st) = ab_res scr 132 d M 107 [l0, l1, some (.int x)] (.int x :: st) := ab_o_iload_n (ab_dc hc132 dX12_table_106) rfl
theorem q132_107 {v0 : Int32} {v1 : Nat} : ab_res scr 132 d M 107 [l0, l1, l2] (.int v0 :: .ref v1 :: st) = (ab_ald scr ab_L0 M v1 .int v0).bind fun v => ab_res scr 132 d M 108 [l0, l1, l2] (.int v :: st) := ab_o_iaload (ab_dc hc132 dX12_table_107)
theorem q132_108 {v0 : Int32} {v1 : Int32} {v2 : Nat} : ab_res scr 132 d M 108 [l0, l1, l2] (.int v0 :: .int v1 :: .ref v2 :: st) = if ab_si v2 .int v1 = true then ab_res scr 132 d (ab_up M v2 v1.toNatClampNeg v0) 109 [l0, l1, l2] (st) else none := ab_o_iastore (ab_dc hc132 dX12_table_108)
theorem q132_109 {x : Int32} : ab_res scr 132 d M 109 [l0, l1, some (.int x)] (st) = ab_res scr 132 d M 112 [l0, ab_nl l1, some (.int (x + 1))] (st) := (ab_o_iinc (k := 2) (ab_dc hc132 dX12_table_109) hn132 (by decide) rfl).trans (by rw [ki_iconst_1]; exact ab_kl1 [l0] _ l1 rfl rfl)
theorem q132_112 : ab_res scr 132 d M 112 [l0, l1, l2] (st) = ab_res scr 132 d M 91 [l0, l1, l2] (st) := ab_o_goto (ab_dc hc132 dX12_table_112) (by decide)
theorem q132_115 {xr : Nat} : ab_res scr 132 d M 115 [some (.ref xr), l1, l2] (st) = ab_res scr 132 d M 116 [some (.ref xr), l1, l2] (.ref xr :: st) := ab_o_aload_n (ab_dc hc132 dX12_table_115) rfl
theorem q132_116 {v0 : Nat} : ab_res scr 132 d M 116 [l0, l1, l2] (.ref v0 :: st) = (ab_gF ab_L0 M v0 12 11).bind fun v => ab_res scr 132 d M 119 [l0, l1, l2] (v :: st) := ab_o_getfield (ab_dc hc132 dX12_table_116) hk132 lk_fl_12_19
theorem q132_119 : ab_res scr 132 d M 119 [l0, l1, l2] (st) = ab_res scr 132 d M 121 [l0, l1, l2] (.int 86 :: st) := (ab_o_bipush (ab_dc hc132 dX12_table_119)).trans (by rw [ki_bipush_86])
theorem q132_121 : ab_res scr 132 d M 121 [l0, l1, l2] (st) = ab_res scr 132 d M 122 [l0, l1, l2] (.int 0 :: st) := (ab_o_iconst (ab_dc hc132 dX12_table_121)).trans (by rw [ki_iconst_0])
theorem q132_122 {v0 : Int32} {v1 : Int32} {v2 : Nat} : ab_res scr 132 d M 122 [l0, l1, l2] (.int v0 :: .int v1 :: .ref v2 :: st) = if ab_si v2 .int v1 = true then ab_res scr 132 d (ab_up M v2 v1.toNatClampNeg v0) 123 [l0, l1, l2] (st) else none := ab_o_iastore (ab_dc hc132 dX12_table_122)
theorem q132_123 {xr : Nat} : ab_res scr 132 d M 123 [some (.ref xr), l1, l2] (st) = ab_res scr 132 d M 124 [some (.ref xr), l1, l2] (.ref xr :: st) := ab_o_aload_n (ab_dc hc132 dX12_table_123) rfl
theorem q132_124 : ab_res scr 132 d M 124 [l0, l1, l2] (st) = ab_res scr 132 d M 125 [l0, l1, l2] (.int 1 :: st) := (ab_o_iconst (ab_dc hc132 dX12_table_124)).trans (by rw [ki_iconst_1])
theorem q132_125 {v0 : Int32} {v1 : Nat} (hp : (ab_pt v1 12 14 v0 = true) = True) : ab_res scr 132 d M 125 [l0, l1, l2] (.int v0 :: .ref v1 :: st) = ab_res scr 132 d (ab_up M v1 14 v0) 128 [l0, l1, l2] (st) := ab_o_putfield (ab_dc hc132 dX12_table_125) hk132 lk_fl_12_89 (of_eq_true hp)
theorem q132_128 {x : Int32} : ab_res scr 132 d M 128 [l0, some (.int x), l2] (st) = ab_res scr 132 d M 129 [l0, some (.int x), l2] (.int x :: st) := ab_o_iload_n (ab_dc hc132 dX12_table_128) rfl
theorem q132_129 {v0 : Int32} : ab_res scr 132 d M 129 [l0, l1, l2] ([.int v0]) = some (M, some (.int v0)) := ab_o_ireturn (ab_dc hc132 dX12_table_129) hr132 rfl
end Q132
theorem hc133 : ab_code 133 = cX12_fault := rfl
theorem hn133 : ab_nL 133 = 1 := rfl
theorem hk133 : ab_ky 133 = 12 := rfl
theorem hr133 : ab_ret 133 = some .int := rfl
section Q133
variable {scr : Option (List Int32)} {d : Nat} {M : ab_M} {st : List Value} {l0 : Option Value}
theorem q133_0 {xr : Nat} : ab_res scr 133 d M 0 [some (.ref xr)] (st) = ab_res scr 133 d M 1 [some (.ref xr)] (.ref xr :: st) := ab_o_aload_n (ab_dc hc133 dX12_fault_0) rfl
theorem q133_1 {v0 : Nat} : ab_res scr 133 d M 1 [l0] (.ref v0 :: st) = (ab_gF ab_L0 M v0 12 2).bind fun v => ab_res scr 133 d M 4 [l0] (v :: st) := ab_o_getfield (ab_dc hc133 dX12_fault_1) hk133 lk_fl_12_159
theorem q133_4 {v0 : Int32} : ab_res scr 133 d M 4 [l0] ([.int v0]) = some (M, some (.int v0)) := ab_o_ireturn (ab_dc hc133 dX12_fault_4) hr133 rfl
end Q133
theorem hc134 : ab_code 134 = cX12_isOne := rfl
theorem hn134 : ab_nL 134 = 2 := rfl
theorem hk134 : ab_ky 134 = 12 := rfl
theorem hr134 : ab_ret 134 = some .boolean := rfl
section Q134
variable {scr : Option (List Int32)} {d : Nat} {M : ab_M} {st : List Value} {l0 l1 : Option Value}
theorem q134_0 {x : Int32} : ab_res scr 134 d M 0 [l0, some (.int x)] (st) = ab_res scr 134 d M 1 [l0, some (.int x)] (.int x :: st) := ab_o_iload_n (ab_dc hc134 dX12_isOne_0) rfl
theorem q134_1 {v0 : Int32} : ab_res scr 134 d M 1 [l0, l1] (.int v0 :: st) = ab_res scr 134 d M 2 [l0, l1] (.long v0.toInt64 :: st) := ab_xg (ab_dc hc134 dX12_isOne_1) rfl rfl
theorem q134_2 : ab_res scr 134 d M 2 [l0, l1] (st) = ab_res scr 134 d M 3 [l0, l1] (.long 0 :: st) := ab_o_lconst (ab_dc hc134 dX12_isOne_2)
theorem q134_3 {xr : Nat} : ab_res scr 134 d M 3 [some (.ref xr), l1] (st) = ab_res scr 134 d M 4 [some (.ref xr), l1] (.ref xr :: st) := ab_o_aload_n (ab_dc hc134 dX12_isOne_3) rfl
theorem q134_4 {v0 : Nat} : ab_res scr 134 d M 4 [l0, l1] (.ref v0 :: st) = (ab_gF ab_L0 M v0 12 11).bind fun v => ab_res scr 134 d M 7 [l0, l1] (v :: st) := ab_o_getfield (ab_dc hc134 dX12_isOne_4) hk134 lk_fl_12_19
theorem q134_7 : ab_res scr 134 d M 7 [l0, l1] (st) = ab_res scr 134 d M 9 [l0, l1] (.int 72 :: st) := (ab_o_bipush (ab_dc hc134 dX12_isOne_7)).trans (by rw [ki_bipush_72])
theorem q134_9 {v0 : Int32} {v1 : Nat} : ab_res scr 134 d M 9 [l0, l1] (.int v0 :: .ref v1 :: st) = (ab_ald scr ab_L0 M v1 .int v0).bind fun v => ab_res scr 134 d M 10 [l0, l1] (.int v :: st) := ab_o_iaload (ab_dc hc134 dX12_isOne_9)
theorem q134_10 : ab_res scr 134 d M 10 [l0, l1] (st) = ab_res scr 134 d M 11 [l0, l1] (.int 1 :: st) := (ab_o_iconst (ab_dc hc134 dX12_isOne_10)).trans (by rw [ki_iconst_1])
theorem q134_11 {v0 : Int32} {v1 : Int32} : ab_res scr 134 d M 11 [l0, l1] (.int v0 :: .int v1 :: st) = ab_res scr 134 d M 12 [l0, l1] (.int (v1 - v0) :: st) := ab_xg (ab_dc hc134 dX12_isOne_11) rfl rfl
theorem q134_12 {v0 : Int32} : ab_res scr 134 d M 12 [l0, l1] (.int v0 :: st) = ab_res scr 134 d M 13 [l0, l1] (.long v0.toInt64 :: st) := ab_xg (ab_dc hc134 dX12_isOne_12) rfl rfl
theorem q134_13 {v0 : Int64} {v1 : Int64} {v2 : Int64} : ab_res scr 134 2 M 13 [l0, l1] ([.long v0, .long v1, .long v2]) = (ab_ms scr 120 [.long v2, .long v1, .long v0] M).bind fun o => ab_res scr 134 2 o.1 16 [l0, l1] (ab_pr o.2 []) := ab_o_static (ab_dc hc134 dX12_isOne_13) hk134 lk_ca_12_97 hm120 (Nat.le_of_ble_eq_true rfl) rfl rfl rfl rfl rfl
theorem q134_16 {v0 : Int32} (hv : (narrow .boolean (.int v0) = .int v0) = True) : ab_res scr 134 d M 16 [l0, l1] ([.int v0]) = some (M, some (.int v0)) := ab_o_ireturn (ab_dc hc134 dX12_isOne_16) hr134 (of_eq_true hv)
end Q134
theorem hc135 : ab_code 135 = cX12_its := rfl
theorem hn135 : ab_nL 135 = 3 := rfl
theorem hk135 : ab_ky 135 = 12 := rfl
theorem hr135 : ab_ret 135 = some .int := rfl
section Q135
variable {scr : Option (List Int32)} {d : Nat} {M : ab_M} {st : List Value} {l0 l1 l2 : Option Value}
theorem q135_0 {xr : Nat} : ab_res scr 135 d M 0 [some (.ref xr), l1, l2] (st) = ab_res scr 135 d M 1 [some (.ref xr), l1, l2] (.ref xr :: st) := ab_o_aload_n (ab_dc hc135 dX12_its_0) rfl
theorem q135_1 {v0 : Nat} : ab_res scr 135 d M 1 [l0, l1, l2] (.ref v0 :: st) = (ab_gF ab_L0 M v0 12 11).bind fun v => ab_res scr 135 d M 4 [l0, l1, l2] (v :: st) := ab_o_getfield (ab_dc hc135 dX12_its_1) hk135 lk_fl_12_19
theorem q135_4 : ab_res scr 135 d M 4 [l0, l1, l2] (st) = ab_res scr 135 d M 6 [l0, l1, l2] (.int 9 :: st) := (ab_o_bipush (ab_dc hc135 dX12_its_4)).trans (by rw [ki_bipush_9])
theorem q135_6 {x : Int32} : ab_res scr 135 d M 6 [l0, some (.int x), l2] (st) = ab_res scr 135 d M 7 [l0, some (.int x), l2] (.int x :: st) := ab_o_iload_n (ab_dc hc135 dX12_its_6) rfl
theorem q135_7 {v0 : Int32} {v1 : Int32} : ab_res scr 135 d M 7 [l0, l1, l2] (.int v0 :: .int v1 :: st) = ab_res scr 135 d M 8 [l0, l1, l2] (.int (v1 * v0) :: st) := ab_xg (ab_dc hc135 dX12_its_7) rfl rfl
theorem q135_8 {x : Int32} : ab_res scr 135 d M 8 [l0, l1, some (.int x)] (st) = ab_res scr 135 d M 9 [l0, l1, some (.int x)] (.int x :: st) := ab_o_iload_n (ab_dc hc135 dX12_its_8) rfl
theorem q135_9 {v0 : Int32} {v1 : Int32} : ab_res scr 135 d M 9 [l0, l1, l2] (.int v0 :: .int v1 :: st) = ab_res scr 135 d M 10 [l0, l1, l2] (.int (v1 + v0) :: st) := ab_xg (ab_dc hc135 dX12_its_9) rfl rfl
theorem q135_10 {v0 : Int32} {v1 : Nat} : ab_res scr 135 d M 10 [l0, l1, l2] (.int v0 :: .ref v1 :: st) = (ab_ald scr ab_L0 M v1 .int v0).bind fun v => ab_res scr 135 d M 11 [l0, l1, l2] (.int v :: st) := ab_o_iaload (ab_dc hc135 dX12_its_10)
theorem q135_11 {v0 : Int32} : ab_res scr 135 d M 11 [l0, l1, l2] ([.int v0]) = some (M, some (.int v0)) := ab_o_ireturn (ab_dc hc135 dX12_its_11) hr135 rfl
end Q135
theorem hc136 : ab_code 136 = cX12_one := rfl
theorem hn136 : ab_nL 136 = 3 := rfl
theorem hk136 : ab_ky 136 = 12 := rfl
theorem hr136 : ab_ret 136 = some .int := rfl
section Q136
variable {scr : Option (List Int32)} {d : Nat} {M : ab_M} {st : List Value} {l0 l1 l2 : Option Value}
theorem q136_0 {xr : Nat} : ab_res scr 136 d M 0 [some (.ref xr), l1, l2] (st) = ab_res scr 136 d M 1 [some (.ref xr), l1, l2] (.ref xr :: st) := ab_o_aload_n (ab_dc hc136 dX12_one_0) rfl
theorem q136_1 {x : Int32} : ab_res scr 136 d M 1 [l0, some (.int x), l2] (st) = ab_res scr 136 d M 2 [l0, some (.int x), l2] (.int x :: st) := ab_o_iload_n (ab_dc hc136 dX12_one_1) rfl
theorem q136_2 {v0 : Int32} {v1 : Nat} (hb : (ab_rc ab_L0 v1 = some 12) = True) : ab_res scr 136 3 M 2 [l0, l1, l2] ([.int v0, .ref v1]) = (ab_ms scr 134 [.ref v1, .int v0] M).bind fun o => ab_res scr 136 3 o.1 5 [l0, l1, l2] (ab_pr o.2 []) := ab_o_virtual (ab_dc hc136 dX12_one_2) hk136 lk_ca_12_162 hm134 (Nat.le_of_ble_eq_true rfl) rfl rfl rfl (of_eq_true hb) rfl rfl
theorem q136_5 {v0 : Int32} : ab_res scr 136 d M 5 [l0, l1, l2] (.int v0 :: st) = if v0 = 0 then ab_res scr 136 d M 29 [l0, l1, l2] (st) else ab_res scr 136 d M 8 [l0, l1, l2] (st) := ab_o_br2 (off := 24) (ab_dc hc136 dX12_one_5) (by decide) rfl rfl
theorem q136_8 {x : Int32} : ab_res scr 136 d M 8 [l0, l1, some (.int x)] (st) = ab_res scr 136 d M 9 [l0, l1, some (.int x)] (.int x :: st) := ab_o_iload_n (ab_dc hc136 dX12_one_8) rfl
theorem q136_9 {v0 : Int32} : ab_res scr 136 d M 9 [l0, l1, l2] (.int v0 :: st) = ab_res scr 136 d M 10 [l0, l1, l2] (.long v0.toInt64 :: st) := ab_xg (ab_dc hc136 dX12_one_9) rfl rfl
theorem q136_10 : ab_res scr 136 d M 10 [l0, l1, l2] (st) = ab_res scr 136 d M 11 [l0, l1, l2] (.long 0 :: st) := ab_o_lconst (ab_dc hc136 dX12_one_10)
theorem q136_11 : ab_res scr 136 d M 11 [l0, l1, l2] (st) = ab_res scr 136 d M 14 [l0, l1, l2] (.long 7 :: st) := ab_o_ldc2_w (ab_dc hc136 dX12_one_11) hk136 lk_ko_12_166
theorem q136_14 {v0 : Int64} {v1 : Int64} {v2 : Int64} : ab_res scr 136 3 M 14 [l0, l1, l2] ([.long v0, .long v1, .long v2]) = (ab_ms scr 120 [.long v2, .long v1, .long v0] M).bind fun o => ab_res scr 136 3 o.1 17 [l0, l1, l2] (ab_pr o.2 []) := ab_o_static (ab_dc hc136 dX12_one_14) hk136 lk_ca_12_97 hm120 (Nat.le_of_ble_eq_true rfl) rfl rfl rfl rfl rfl
theorem q136_17 {v0 : Int32} : ab_res scr 136 d M 17 [l0, l1, l2] (.int v0 :: st) = if v0 = 0 then ab_res scr 136 d M 29 [l0, l1, l2] (st) else ab_res scr 136 d M 20 [l0, l1, l2] (st) := ab_o_br2 (off := 12) (ab_dc hc136 dX12_one_17) (by decide) rfl rfl
theorem q136_20 {xr : Nat} : ab_res scr 136 d M 20 [some (.ref xr), l1, l2] (st) = ab_res scr 136 d M 21 [some (.ref xr), l1, l2] (.ref xr :: st) := ab_o_aload_n (ab_dc hc136 dX12_one_20) rfl
theorem q136_21 {x : Int32} : ab_res scr 136 d M 21 [l0, some (.int x), l2] (st) = ab_res scr 136 d M 22 [l0, some (.int x), l2] (.int x :: st) := ab_o_iload_n (ab_dc hc136 dX12_one_21) rfl
theorem q136_22 {x : Int32} : ab_res scr 136 d M 22 [l0, l1, some (.int x)] (st) = ab_res scr 136 d M 23 [l0, l1, some (.int x)] (.int x :: st) := ab_o_iload_n (ab_dc hc136 dX12_one_22) rfl
theorem q136_23 {v0 : Int32} {v1 : Int32} {v2 : Nat} (hb : (ab_rc ab_L0 v2 = some 12) = True) : ab_res scr 136 3 M 23 [l0, l1, l2] ([.int v0, .int v1, .ref v2]) = (ab_ms scr 135 [.ref v2, .int v1, .int v0] M).bind fun o => ab_res scr 136 3 o.1 26 [l0, l1, l2] (ab_pr o.2 []) := ab_o_virtual (ab_dc hc136 dX12_one_23) hk136 lk_ca_12_168 hm135 (Nat.le_of_ble_eq_true rfl) rfl rfl rfl (of_eq_true hb) rfl rfl
theorem q136_26 : ab_res scr 136 d M 26 [l0, l1, l2] (st) = ab_res scr 136 d M 31 [l0, l1, l2] (st) := ab_o_goto (ab_dc hc136 dX12_one_26) (by decide)
theorem q136_29 : ab_res scr 136 d M 29 [l0, l1, l2] (st) = ab_res scr 136 d M 31 [l0, l1, l2] (.int (-1000000) :: st) := ab_o_ldc (ab_dc hc136 dX12_one_29) hk136 lk_ko_12_171
theorem q136_31 {v0 : Int32} : ab_res scr 136 d M 31 [l0, l1, l2] ([.int v0]) = some (M, some (.int v0)) := ab_o_ireturn (ab_dc hc136 dX12_one_31) hr136 rfl
end Q136
