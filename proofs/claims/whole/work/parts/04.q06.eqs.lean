theorem hc158 : ab_code 158 = cX12_goesOn := rfl
theorem hn158 : ab_nL 158 = 3 := rfl
theorem hk158 : ab_ky 158 = 12 := rfl
theorem hr158 : ab_ret 158 = none := rfl
section Q158
variable {scr : Option (List Int32)} {d : Nat} {M : ab_M} {st : List Value} {l0 l1 l2 : Option Value}
theorem q158_0 {xr : Nat} : ab_res scr 158 d M 0 [some (.ref xr), l1, l2] (st) = ab_res scr 158 d M 1 [some (.ref xr), l1, l2] (.ref xr :: st) := ab_o_aload_n (ab_dc hc158 dX12_goesOn_0) rfl
theorem q158_1 {v0 : Nat} (hb : (ab_rc ab_L0 v0 = some 12) = True) : ab_res scr 158 5 M 1 [l0, l1, l2] ([.ref v0]) = (ab_ms scr 121 [.ref v0] M).bind fun o => ab_res scr 158 5 o.1 4 [l0, l1, l2] (ab_pr o.2 []) := ab_o_virtual (ab_dc hc158 dX12_goesOn_1) hk158 lk_ca_12_260 hm121 (Nat.le_of_ble_eq_true rfl) rfl rfl rfl (of_eq_true hb) rfl rfl
theorem q158_4 {xr : Nat} : ab_res scr 158 d M 4 [some (.ref xr), l1, l2] (st) = ab_res scr 158 d M 5 [some (.ref xr), l1, l2] (.ref xr :: st) := ab_o_aload_n (ab_dc hc158 dX12_goesOn_4) rfl
theorem q158_5 {v0 : Nat} (hb : (ab_rc ab_L0 v0 = some 12) = True) : ab_res scr 158 5 M 5 [l0, l1, l2] ([.ref v0]) = (ab_ms scr 142 [.ref v0] M).bind fun o => ab_res scr 158 5 o.1 8 [l0, l1, l2] (ab_pr o.2 []) := ab_o_virtual (ab_dc hc158 dX12_goesOn_5) hk158 lk_ca_12_263 hm142 (Nat.le_of_ble_eq_true rfl) rfl rfl rfl (of_eq_true hb) rfl rfl
theorem q158_8 : ab_res scr 158 d M 8 [l0, l1, l2] (st) = ab_res scr 158 d M 9 [l0, l1, l2] (.int 0 :: st) := (ab_o_iconst (ab_dc hc158 dX12_goesOn_8)).trans (by rw [ki_iconst_0])
theorem q158_9 {v0 : Int32} : ab_res scr 158 d M 9 [l0, l1, l2] (.int v0 :: st) = ab_res scr 158 d M 10 [l0, ab_nl l1, some (.int v0)] (st) := (ab_o_st1 (k := 2) (ab_dc hc158 dX12_goesOn_9) (Or.inr (Or.inr (Or.inl ⟨2, rfl, rfl, rfl, ⟨_, rfl⟩⟩))) hn158 (by decide)).trans (ab_kl1 [l0] _ l1 rfl rfl)
theorem q158_10 {x : Int32} : ab_res scr 158 d M 10 [l0, l1, some (.int x)] (st) = ab_res scr 158 d M 11 [l0, l1, some (.int x)] (.int x :: st) := ab_o_iload_n (ab_dc hc158 dX12_goesOn_10) rfl
theorem q158_11 : ab_res scr 158 d M 11 [l0, l1, l2] (st) = ab_res scr 158 d M 14 [l0, l1, l2] (.int 240 :: st) := (ab_o_sipush (ab_dc hc158 dX12_goesOn_11)).trans (by rw [ki_sipush_240])
theorem q158_14 {v0 : Int32} {v1 : Int32} : ab_res scr 158 d M 14 [l0, l1, l2] (.int v0 :: .int v1 :: st) = if v0 ≤ v1 then ab_res scr 158 d M 34 [l0, l1, l2] (st) else ab_res scr 158 d M 17 [l0, l1, l2] (st) := ab_o_br2 (off := 20) (ab_dc hc158 dX12_goesOn_14) (by decide) rfl rfl
theorem q158_17 {xr : Nat} : ab_res scr 158 d M 17 [some (.ref xr), l1, l2] (st) = ab_res scr 158 d M 18 [some (.ref xr), l1, l2] (.ref xr :: st) := ab_o_aload_n (ab_dc hc158 dX12_goesOn_17) rfl
theorem q158_18 {x : Int32} : ab_res scr 158 d M 18 [l0, l1, some (.int x)] (st) = ab_res scr 158 d M 19 [l0, l1, some (.int x)] (.int x :: st) := ab_o_iload_n (ab_dc hc158 dX12_goesOn_18) rfl
theorem q158_19 {v0 : Int32} {v1 : Nat} (hb : (ab_rc ab_L0 v1 = some 12) = True) : ab_res scr 158 5 M 19 [l0, l1, l2] ([.int v0, .ref v1]) = (ab_ms scr 143 [.ref v1, .int v0] M).bind fun o => ab_res scr 158 5 o.1 22 [l0, l1, l2] (ab_pr o.2 []) := ab_o_virtual (ab_dc hc158 dX12_goesOn_19) hk158 lk_ca_12_266 hm143 (Nat.le_of_ble_eq_true rfl) rfl rfl rfl (of_eq_true hb) rfl rfl
theorem q158_22 {xr : Nat} : ab_res scr 158 d M 22 [some (.ref xr), l1, l2] (st) = ab_res scr 158 d M 23 [some (.ref xr), l1, l2] (.ref xr :: st) := ab_o_aload_n (ab_dc hc158 dX12_goesOn_22) rfl
theorem q158_23 {x : Int32} : ab_res scr 158 d M 23 [l0, l1, some (.int x)] (st) = ab_res scr 158 d M 24 [l0, l1, some (.int x)] (.int x :: st) := ab_o_iload_n (ab_dc hc158 dX12_goesOn_23) rfl
theorem q158_24 {x : Int32} : ab_res scr 158 d M 24 [l0, some (.int x), l2] (st) = ab_res scr 158 d M 25 [l0, some (.int x), l2] (.int x :: st) := ab_o_iload_n (ab_dc hc158 dX12_goesOn_24) rfl
theorem q158_25 {v0 : Int32} {v1 : Int32} {v2 : Nat} (hb : (ab_rc ab_L0 v2 = some 12) = True) : ab_res scr 158 5 M 25 [l0, l1, l2] ([.int v0, .int v1, .ref v2]) = (ab_ms scr 157 [.ref v2, .int v1, .int v0] M).bind fun o => ab_res scr 158 5 o.1 28 [l0, l1, l2] (ab_pr o.2 []) := ab_o_virtual (ab_dc hc158 dX12_goesOn_25) hk158 lk_ca_12_269 hm157 (Nat.le_of_ble_eq_true rfl) rfl rfl rfl (of_eq_true hb) rfl rfl
theorem q158_28 {x : Int32} : ab_res scr 158 d M 28 [l0, l1, some (.int x)] (st) = ab_res scr 158 d M 31 [l0, ab_nl l1, some (.int (x + 1))] (st) := (ab_o_iinc (k := 2) (ab_dc hc158 dX12_goesOn_28) hn158 (by decide) rfl).trans (by rw [ki_iconst_1]; exact ab_kl1 [l0] _ l1 rfl rfl)
theorem q158_31 : ab_res scr 158 d M 31 [l0, l1, l2] (st) = ab_res scr 158 d M 10 [l0, l1, l2] (st) := ab_o_goto (ab_dc hc158 dX12_goesOn_31) (by decide)
theorem q158_34 : ab_res scr 158 d M 34 [l0, l1, l2] (st) = ab_res scr 158 d M 35 [l0, l1, l2] (.int 0 :: st) := (ab_o_iconst (ab_dc hc158 dX12_goesOn_34)).trans (by rw [ki_iconst_0])
theorem q158_35 {v0 : Int32} : ab_res scr 158 d M 35 [l0, l1, l2] (.int v0 :: st) = ab_res scr 158 d M 36 [l0, ab_nl l1, some (.int v0)] (st) := (ab_o_st1 (k := 2) (ab_dc hc158 dX12_goesOn_35) (Or.inr (Or.inr (Or.inl ⟨2, rfl, rfl, rfl, ⟨_, rfl⟩⟩))) hn158 (by decide)).trans (ab_kl1 [l0] _ l1 rfl rfl)
theorem q158_36 {x : Int32} : ab_res scr 158 d M 36 [l0, l1, some (.int x)] (st) = ab_res scr 158 d M 37 [l0, l1, some (.int x)] (.int x :: st) := ab_o_iload_n (ab_dc hc158 dX12_goesOn_36) rfl
theorem q158_37 {xr : Nat} : ab_res scr 158 d M 37 [some (.ref xr), l1, l2] (st) = ab_res scr 158 d M 38 [some (.ref xr), l1, l2] (.ref xr :: st) := ab_o_aload_n (ab_dc hc158 dX12_goesOn_37) rfl
theorem q158_38 {v0 : Nat} : ab_res scr 158 d M 38 [l0, l1, l2] (.ref v0 :: st) = (ab_gF ab_L0 M v0 12 11).bind fun v => ab_res scr 158 d M 41 [l0, l1, l2] (v :: st) := ab_o_getfield (ab_dc hc158 dX12_goesOn_38) hk158 lk_fl_12_19
theorem q158_41 : ab_res scr 158 d M 41 [l0, l1, l2] (st) = ab_res scr 158 d M 43 [l0, l1, l2] (.int 72 :: st) := (ab_o_bipush (ab_dc hc158 dX12_goesOn_41)).trans (by rw [ki_bipush_72])
theorem q158_43 {v0 : Int32} {v1 : Nat} : ab_res scr 158 d M 43 [l0, l1, l2] (.int v0 :: .ref v1 :: st) = (ab_ald scr ab_L0 M v1 .int v0).bind fun v => ab_res scr 158 d M 44 [l0, l1, l2] (.int v :: st) := ab_o_iaload (ab_dc hc158 dX12_goesOn_43)
theorem q158_44 {v0 : Int32} {v1 : Int32} : ab_res scr 158 d M 44 [l0, l1, l2] (.int v0 :: .int v1 :: st) = if v0 ≤ v1 then ab_res scr 158 d M 88 [l0, l1, l2] (st) else ab_res scr 158 d M 47 [l0, l1, l2] (st) := ab_o_br2 (off := 44) (ab_dc hc158 dX12_goesOn_44) (by decide) rfl rfl
theorem q158_47 {xr : Nat} : ab_res scr 158 d M 47 [some (.ref xr), l1, l2] (st) = ab_res scr 158 d M 48 [some (.ref xr), l1, l2] (.ref xr :: st) := ab_o_aload_n (ab_dc hc158 dX12_goesOn_47) rfl
theorem q158_48 {v0 : Nat} : ab_res scr 158 d M 48 [l0, l1, l2] (.ref v0 :: st) = (ab_gF ab_L0 M v0 12 23).bind fun v => ab_res scr 158 d M 51 [l0, l1, l2] (v :: st) := ab_o_getfield (ab_dc hc158 dX12_goesOn_48) hk158 lk_fl_12_50
theorem q158_51 {x : Int32} : ab_res scr 158 d M 51 [l0, l1, some (.int x)] (st) = ab_res scr 158 d M 52 [l0, l1, some (.int x)] (.int x :: st) := ab_o_iload_n (ab_dc hc158 dX12_goesOn_51) rfl
theorem q158_52 {xr : Nat} : ab_res scr 158 d M 52 [some (.ref xr), l1, l2] (st) = ab_res scr 158 d M 53 [some (.ref xr), l1, l2] (.ref xr :: st) := ab_o_aload_n (ab_dc hc158 dX12_goesOn_52) rfl
theorem q158_53 {x : Int32} : ab_res scr 158 d M 53 [l0, l1, some (.int x)] (st) = ab_res scr 158 d M 54 [l0, l1, some (.int x)] (.int x :: st) := ab_o_iload_n (ab_dc hc158 dX12_goesOn_53) rfl
theorem q158_54 : ab_res scr 158 d M 54 [l0, l1, l2] (st) = ab_res scr 158 d M 55 [l0, l1, l2] (.int 1 :: st) := (ab_o_iconst (ab_dc hc158 dX12_goesOn_54)).trans (by rw [ki_iconst_1])
theorem q158_55 {v0 : Int32} {v1 : Int32} {v2 : Nat} {v3 : Int32} {v4 : Nat} (hb : (ab_rc ab_L0 v2 = some 12) = True) : ab_res scr 158 5 M 55 [l0, l1, l2] ([.int v0, .int v1, .ref v2, .int v3, .ref v4]) = (ab_ms scr 135 [.ref v2, .int v1, .int v0] M).bind fun o => ab_res scr 158 5 o.1 58 [l0, l1, l2] (ab_pr o.2 [.int v3, .ref v4]) := ab_o_virtual (ab_dc hc158 dX12_goesOn_55) hk158 lk_ca_12_168 hm135 (Nat.le_of_ble_eq_true rfl) rfl rfl rfl (of_eq_true hb) rfl rfl
theorem q158_58 : ab_res scr 158 d M 58 [l0, l1, l2] (st) = ab_res scr 158 d M 61 [l0, l1, l2] (.int 240 :: st) := (ab_o_sipush (ab_dc hc158 dX12_goesOn_58)).trans (by rw [ki_sipush_240])
theorem q158_61 {v0 : Int32} {v1 : Int32} : ab_res scr 158 d M 61 [l0, l1, l2] (.int v0 :: .int v1 :: st) = if ¬ v1 = v0 then ab_res scr 158 d M 75 [l0, l1, l2] (st) else ab_res scr 158 d M 64 [l0, l1, l2] (st) := ab_o_br2 (off := 14) (ab_dc hc158 dX12_goesOn_61) (by decide) rfl rfl
theorem q158_64 {xr : Nat} : ab_res scr 158 d M 64 [some (.ref xr), l1, l2] (st) = ab_res scr 158 d M 65 [some (.ref xr), l1, l2] (.ref xr :: st) := ab_o_aload_n (ab_dc hc158 dX12_goesOn_64) rfl
theorem q158_65 {x : Int32} : ab_res scr 158 d M 65 [l0, l1, some (.int x)] (st) = ab_res scr 158 d M 66 [l0, l1, some (.int x)] (.int x :: st) := ab_o_iload_n (ab_dc hc158 dX12_goesOn_65) rfl
theorem q158_66 {v0 : Int32} {v1 : Nat} {v2 : Int32} {v3 : Nat} (hb : (ab_rc ab_L0 v1 = some 12) = True) : ab_res scr 158 5 M 66 [l0, l1, l2] ([.int v0, .ref v1, .int v2, .ref v3]) = (ab_ms scr 141 [.ref v1, .int v0] M).bind fun o => ab_res scr 158 5 o.1 69 [l0, l1, l2] (ab_pr o.2 [.int v2, .ref v3]) := ab_o_virtual (ab_dc hc158 dX12_goesOn_66) hk158 lk_ca_12_209 hm141 (Nat.le_of_ble_eq_true rfl) rfl rfl rfl (of_eq_true hb) rfl rfl
theorem q158_69 {v0 : Int32} {v1 : Int32} {v2 : Nat} : ab_res scr 158 5 M 69 [l0, l1, l2] ([.int v0, .int v1, .ref v2]) = (ab_ms scr 140 [.int v0] M).bind fun o => ab_res scr 158 5 o.1 72 [l0, l1, l2] (ab_pr o.2 [.int v1, .ref v2]) := ab_o_static (ab_dc hc158 dX12_goesOn_69) hk158 lk_ca_12_212 hm140 (Nat.le_of_ble_eq_true rfl) rfl rfl rfl rfl rfl
theorem q158_72 : ab_res scr 158 d M 72 [l0, l1, l2] (st) = ab_res scr 158 d M 81 [l0, l1, l2] (st) := ab_o_goto (ab_dc hc158 dX12_goesOn_72) (by decide)
theorem q158_75 {xr : Nat} : ab_res scr 158 d M 75 [some (.ref xr), l1, l2] (st) = ab_res scr 158 d M 76 [some (.ref xr), l1, l2] (.ref xr :: st) := ab_o_aload_n (ab_dc hc158 dX12_goesOn_75) rfl
theorem q158_76 {v0 : Nat} : ab_res scr 158 d M 76 [l0, l1, l2] (.ref v0 :: st) = (ab_gF ab_L0 M v0 12 23).bind fun v => ab_res scr 158 d M 79 [l0, l1, l2] (v :: st) := ab_o_getfield (ab_dc hc158 dX12_goesOn_76) hk158 lk_fl_12_50
theorem q158_79 {x : Int32} : ab_res scr 158 d M 79 [l0, l1, some (.int x)] (st) = ab_res scr 158 d M 80 [l0, l1, some (.int x)] (.int x :: st) := ab_o_iload_n (ab_dc hc158 dX12_goesOn_79) rfl
theorem q158_80 {v0 : Int32} {v1 : Nat} : ab_res scr 158 d M 80 [l0, l1, l2] (.int v0 :: .ref v1 :: st) = (ab_ald scr ab_L0 M v1 .int v0).bind fun v => ab_res scr 158 d M 81 [l0, l1, l2] (.int v :: st) := ab_o_iaload (ab_dc hc158 dX12_goesOn_80)
theorem q158_81 {v0 : Int32} {v1 : Int32} {v2 : Nat} : ab_res scr 158 d M 81 [l0, l1, l2] (.int v0 :: .int v1 :: .ref v2 :: st) = if ab_si v2 .int v1 = true then ab_res scr 158 d (ab_up M v2 v1.toNatClampNeg v0) 82 [l0, l1, l2] (st) else none := ab_o_iastore (ab_dc hc158 dX12_goesOn_81)
theorem q158_82 {x : Int32} : ab_res scr 158 d M 82 [l0, l1, some (.int x)] (st) = ab_res scr 158 d M 85 [l0, ab_nl l1, some (.int (x + 1))] (st) := (ab_o_iinc (k := 2) (ab_dc hc158 dX12_goesOn_82) hn158 (by decide) rfl).trans (by rw [ki_iconst_1]; exact ab_kl1 [l0] _ l1 rfl rfl)
theorem q158_85 : ab_res scr 158 d M 85 [l0, l1, l2] (st) = ab_res scr 158 d M 36 [l0, l1, l2] (st) := ab_o_goto (ab_dc hc158 dX12_goesOn_85) (by decide)
theorem q158_88 : ab_res scr 158 d M 88 [l0, l1, l2] ([]) = some (M, none) := ab_o_return (ab_dc hc158 dX12_goesOn_88) hr158
end Q158
theorem hc159 : ab_code 159 = cX12_evenings := rfl
theorem hn159 : ab_nL 159 = 3 := rfl
theorem hk159 : ab_ky 159 = 12 := rfl
theorem hr159 : ab_ret 159 = none := rfl
section Q159
variable {scr : Option (List Int32)} {d : Nat} {M : ab_M} {st : List Value} {l0 l1 l2 : Option Value}
theorem q159_0 {xr : Nat} : ab_res scr 159 d M 0 [some (.ref xr), l1, l2] (st) = ab_res scr 159 d M 1 [some (.ref xr), l1, l2] (.ref xr :: st) := ab_o_aload_n (ab_dc hc159 dX12_evenings_0) rfl
theorem q159_1 : ab_res scr 159 d M 1 [l0, l1, l2] (st) = ab_res scr 159 d M 2 [l0, l1, l2] (.int 0 :: st) := (ab_o_iconst (ab_dc hc159 dX12_evenings_1)).trans (by rw [ki_iconst_0])
theorem q159_2 {v0 : Int32} {v1 : Nat} (hp : (ab_pt v1 12 34 v0 = true) = True) : ab_res scr 159 d M 2 [l0, l1, l2] (.int v0 :: .ref v1 :: st) = ab_res scr 159 d (ab_up M v1 34 v0) 5 [l0, l1, l2] (st) := ab_o_putfield (ab_dc hc159 dX12_evenings_2) hk159 lk_fl_12_218 (of_eq_true hp)
theorem q159_5 {xr : Nat} : ab_res scr 159 d M 5 [some (.ref xr), l1, l2] (st) = ab_res scr 159 d M 6 [some (.ref xr), l1, l2] (.ref xr :: st) := ab_o_aload_n (ab_dc hc159 dX12_evenings_5) rfl
theorem q159_6 {x : Int32} : ab_res scr 159 d M 6 [l0, l1, some (.int x)] (st) = ab_res scr 159 d M 7 [l0, l1, some (.int x)] (.int x :: st) := ab_o_iload_n (ab_dc hc159 dX12_evenings_6) rfl
theorem q159_7 {v0 : Int32} {v1 : Nat} (hb : (ab_rc ab_L0 v1 = some 12) = True) : ab_res scr 159 6 M 7 [l0, l1, l2] ([.int v0, .ref v1]) = (ab_ms scr 139 [.ref v1, .int v0] M).bind fun o => ab_res scr 159 6 o.1 10 [l0, l1, l2] (ab_pr o.2 []) := ab_o_virtual (ab_dc hc159 dX12_evenings_7) hk159 lk_ca_12_272 hm139 (Nat.le_of_ble_eq_true rfl) rfl rfl rfl (of_eq_true hb) rfl rfl
theorem q159_10 {xr : Nat} : ab_res scr 159 d M 10 [some (.ref xr), l1, l2] (st) = ab_res scr 159 d M 11 [some (.ref xr), l1, l2] (.ref xr :: st) := ab_o_aload_n (ab_dc hc159 dX12_evenings_10) rfl
theorem q159_11 {x : Int32} : ab_res scr 159 d M 11 [l0, some (.int x), l2] (st) = ab_res scr 159 d M 12 [l0, some (.int x), l2] (.int x :: st) := ab_o_iload_n (ab_dc hc159 dX12_evenings_11) rfl
theorem q159_12 {v0 : Int32} {v1 : Nat} (hb : (ab_rc ab_L0 v1 = some 12) = True) : ab_res scr 159 6 M 12 [l0, l1, l2] ([.int v0, .ref v1]) = (ab_ms scr 158 [.ref v1, .int v0] M).bind fun o => ab_res scr 159 6 o.1 15 [l0, l1, l2] (ab_pr o.2 []) := ab_o_virtual (ab_dc hc159 dX12_evenings_12) hk159 lk_ca_12_275 hm158 (Nat.le_of_ble_eq_true rfl) rfl rfl rfl (of_eq_true hb) rfl rfl
theorem q159_15 : ab_res scr 159 d M 15 [l0, l1, l2] ([]) = some (M, none) := ab_o_return (ab_dc hc159 dX12_evenings_15) hr159
end Q159
theorem hc160 : ab_code 160 = cX12_isRule := rfl
theorem hn160 : ab_nL 160 = 1 := rfl
theorem hk160 : ab_ky 160 = 12 := rfl
theorem hr160 : ab_ret 160 = some .boolean := rfl
section Q160
variable {scr : Option (List Int32)} {d : Nat} {M : ab_M} {st : List Value} {l0 : Option Value}
theorem q160_0 {x : Int32} : ab_res scr 160 d M 0 [some (.int x)] (st) = ab_res scr 160 d M 1 [some (.int x)] (.int x :: st) := ab_o_iload_n (ab_dc hc160 dX12_isRule_0) rfl
theorem q160_1 {v0 : Int32} : ab_res scr 160 d M 1 [l0] (.int v0 :: st) = ab_res scr 160 d M 2 [l0] (.long v0.toInt64 :: st) := ab_xg (ab_dc hc160 dX12_isRule_1) rfl rfl
theorem q160_2 : ab_res scr 160 d M 2 [l0] (st) = ab_res scr 160 d M 3 [l0] (.long 0 :: st) := ab_o_lconst (ab_dc hc160 dX12_isRule_2)
theorem q160_3 : ab_res scr 160 d M 3 [l0] (st) = ab_res scr 160 d M 6 [l0] (.long 6 :: st) := ab_o_ldc2_w (ab_dc hc160 dX12_isRule_3) hk160 lk_ko_12_278
theorem q160_6 {v0 : Int64} {v1 : Int64} {v2 : Int64} : ab_res scr 160 2 M 6 [l0] ([.long v0, .long v1, .long v2]) = (ab_ms scr 120 [.long v2, .long v1, .long v0] M).bind fun o => ab_res scr 160 2 o.1 9 [l0] (ab_pr o.2 []) := ab_o_static (ab_dc hc160 dX12_isRule_6) hk160 lk_ca_12_97 hm120 (Nat.le_of_ble_eq_true rfl) rfl rfl rfl rfl rfl
theorem q160_9 {v0 : Int32} (hv : (narrow .boolean (.int v0) = .int v0) = True) : ab_res scr 160 d M 9 [l0] ([.int v0]) = some (M, some (.int v0)) := ab_o_ireturn (ab_dc hc160 dX12_isRule_9) hr160 (of_eq_true hv)
end Q160
theorem hc161 : ab_code 161 = cX12_worstOne := rfl
theorem hn161 : ab_nL 161 = 3 := rfl
theorem hk161 : ab_ky 161 = 12 := rfl
theorem hr161 : ab_ret 161 = some .int := rfl
section Q161
variable {scr : Option (List Int32)} {d : Nat} {M : ab_M} {st : List Value} {l0 l1 l2 : Option Value}
theorem q161_0 : ab_res scr 161 d M 0 [l0, l1, l2] (st) = ab_res scr 161 d M 2 [l0, l1, l2] (.int (-4) :: st) := (ab_o_bipush (ab_dc hc161 dX12_worstOne_0)).trans (by rw [ki_bipush_m4])
theorem q161_2 {v0 : Int32} : ab_res scr 161 d M 2 [l0, l1, l2] (.int v0 :: st) = ab_res scr 161 d M 3 [ab_nl l0, some (.int v0), l2] (st) := (ab_o_st1 (k := 1) (ab_dc hc161 dX12_worstOne_2) (Or.inr (Or.inr (Or.inl ⟨1, rfl, rfl, rfl, ⟨_, rfl⟩⟩))) hn161 (by decide)).trans (ab_kl1 [] _ l0 rfl rfl)
theorem q161_3 : ab_res scr 161 d M 3 [l0, l1, l2] (st) = ab_res scr 161 d M 4 [l0, l1, l2] (.int 0 :: st) := (ab_o_iconst (ab_dc hc161 dX12_worstOne_3)).trans (by rw [ki_iconst_0])
theorem q161_4 {v0 : Int32} : ab_res scr 161 d M 4 [l0, l1, l2] (.int v0 :: st) = ab_res scr 161 d M 5 [l0, ab_nl l1, some (.int v0)] (st) := (ab_o_st1 (k := 2) (ab_dc hc161 dX12_worstOne_4) (Or.inr (Or.inr (Or.inl ⟨2, rfl, rfl, rfl, ⟨_, rfl⟩⟩))) hn161 (by decide)).trans (ab_kl1 [l0] _ l1 rfl rfl)
theorem q161_5 {x : Int32} : ab_res scr 161 d M 5 [l0, l1, some (.int x)] (st) = ab_res scr 161 d M 6 [l0, l1, some (.int x)] (.int x :: st) := ab_o_iload_n (ab_dc hc161 dX12_worstOne_5) rfl
theorem q161_6 {xr : Nat} : ab_res scr 161 d M 6 [some (.ref xr), l1, l2] (st) = ab_res scr 161 d M 7 [some (.ref xr), l1, l2] (.ref xr :: st) := ab_o_aload_n (ab_dc hc161 dX12_worstOne_6) rfl
theorem q161_7 {v0 : Nat} : ab_res scr 161 d M 7 [l0, l1, l2] (.ref v0 :: st) = (ab_gF ab_L0 M v0 12 11).bind fun v => ab_res scr 161 d M 10 [l0, l1, l2] (v :: st) := ab_o_getfield (ab_dc hc161 dX12_worstOne_7) hk161 lk_fl_12_19
theorem q161_10 : ab_res scr 161 d M 10 [l0, l1, l2] (st) = ab_res scr 161 d M 12 [l0, l1, l2] (.int 72 :: st) := (ab_o_bipush (ab_dc hc161 dX12_worstOne_10)).trans (by rw [ki_bipush_72])
theorem q161_12 {v0 : Int32} {v1 : Nat} : ab_res scr 161 d M 12 [l0, l1, l2] (.int v0 :: .ref v1 :: st) = (ab_ald scr ab_L0 M v1 .int v0).bind fun v => ab_res scr 161 d M 13 [l0, l1, l2] (.int v :: st) := ab_o_iaload (ab_dc hc161 dX12_worstOne_12)
theorem q161_13 {v0 : Int32} {v1 : Int32} : ab_res scr 161 d M 13 [l0, l1, l2] (.int v0 :: .int v1 :: st) = if v0 ≤ v1 then ab_res scr 161 d M 49 [l0, l1, l2] (st) else ab_res scr 161 d M 16 [l0, l1, l2] (st) := ab_o_br2 (off := 36) (ab_dc hc161 dX12_worstOne_13) (by decide) rfl rfl
theorem q161_16 {x : Int32} : ab_res scr 161 d M 16 [l0, some (.int x), l2] (st) = ab_res scr 161 d M 17 [l0, some (.int x), l2] (.int x :: st) := ab_o_iload_n (ab_dc hc161 dX12_worstOne_16) rfl
theorem q161_17 : ab_res scr 161 d M 17 [l0, l1, l2] (st) = ab_res scr 161 d M 19 [l0, l1, l2] (.int (-4) :: st) := (ab_o_bipush (ab_dc hc161 dX12_worstOne_17)).trans (by rw [ki_bipush_m4])
theorem q161_19 {v0 : Int32} {v1 : Int32} : ab_res scr 161 d M 19 [l0, l1, l2] (.int v0 :: .int v1 :: st) = if v1 = v0 then ab_res scr 161 d M 37 [l0, l1, l2] (st) else ab_res scr 161 d M 22 [l0, l1, l2] (st) := ab_o_br2 (off := 18) (ab_dc hc161 dX12_worstOne_19) (by decide) rfl rfl
theorem q161_22 {xr : Nat} : ab_res scr 161 d M 22 [some (.ref xr), l1, l2] (st) = ab_res scr 161 d M 23 [some (.ref xr), l1, l2] (.ref xr :: st) := ab_o_aload_n (ab_dc hc161 dX12_worstOne_22) rfl
theorem q161_23 {v0 : Nat} : ab_res scr 161 d M 23 [l0, l1, l2] (.ref v0 :: st) = (ab_gF ab_L0 M v0 12 23).bind fun v => ab_res scr 161 d M 26 [l0, l1, l2] (v :: st) := ab_o_getfield (ab_dc hc161 dX12_worstOne_23) hk161 lk_fl_12_50
theorem q161_26 {x : Int32} : ab_res scr 161 d M 26 [l0, l1, some (.int x)] (st) = ab_res scr 161 d M 27 [l0, l1, some (.int x)] (.int x :: st) := ab_o_iload_n (ab_dc hc161 dX12_worstOne_26) rfl
theorem q161_27 {v0 : Int32} {v1 : Nat} : ab_res scr 161 d M 27 [l0, l1, l2] (.int v0 :: .ref v1 :: st) = (ab_ald scr ab_L0 M v1 .int v0).bind fun v => ab_res scr 161 d M 28 [l0, l1, l2] (.int v :: st) := ab_o_iaload (ab_dc hc161 dX12_worstOne_27)
theorem q161_28 {xr : Nat} : ab_res scr 161 d M 28 [some (.ref xr), l1, l2] (st) = ab_res scr 161 d M 29 [some (.ref xr), l1, l2] (.ref xr :: st) := ab_o_aload_n (ab_dc hc161 dX12_worstOne_28) rfl
theorem q161_29 {v0 : Nat} : ab_res scr 161 d M 29 [l0, l1, l2] (.ref v0 :: st) = (ab_gF ab_L0 M v0 12 23).bind fun v => ab_res scr 161 d M 32 [l0, l1, l2] (v :: st) := ab_o_getfield (ab_dc hc161 dX12_worstOne_29) hk161 lk_fl_12_50
theorem q161_32 {x : Int32} : ab_res scr 161 d M 32 [l0, some (.int x), l2] (st) = ab_res scr 161 d M 33 [l0, some (.int x), l2] (.int x :: st) := ab_o_iload_n (ab_dc hc161 dX12_worstOne_32) rfl
theorem q161_33 {v0 : Int32} {v1 : Nat} : ab_res scr 161 d M 33 [l0, l1, l2] (.int v0 :: .ref v1 :: st) = (ab_ald scr ab_L0 M v1 .int v0).bind fun v => ab_res scr 161 d M 34 [l0, l1, l2] (.int v :: st) := ab_o_iaload (ab_dc hc161 dX12_worstOne_33)
theorem q161_34 {v0 : Int32} {v1 : Int32} : ab_res scr 161 d M 34 [l0, l1, l2] (.int v0 :: .int v1 :: st) = if v1 ≤ v0 then ab_res scr 161 d M 41 [l0, l1, l2] (st) else ab_res scr 161 d M 37 [l0, l1, l2] (st) := ab_o_br2 (off := 7) (ab_dc hc161 dX12_worstOne_34) (by decide) rfl rfl
theorem q161_37 {x : Int32} : ab_res scr 161 d M 37 [l0, l1, some (.int x)] (st) = ab_res scr 161 d M 38 [l0, l1, some (.int x)] (.int x :: st) := ab_o_iload_n (ab_dc hc161 dX12_worstOne_37) rfl
theorem q161_38 : ab_res scr 161 d M 38 [l0, l1, l2] (st) = ab_res scr 161 d M 42 [l0, l1, l2] (st) := ab_o_goto (ab_dc hc161 dX12_worstOne_38) (by decide)
theorem q161_41 {x : Int32} : ab_res scr 161 d M 41 [l0, some (.int x), l2] (st) = ab_res scr 161 d M 42 [l0, some (.int x), l2] (.int x :: st) := ab_o_iload_n (ab_dc hc161 dX12_worstOne_41) rfl
theorem q161_42 {v0 : Int32} : ab_res scr 161 d M 42 [l0, l1, l2] (.int v0 :: st) = ab_res scr 161 d M 43 [ab_nl l0, some (.int v0), l2] (st) := (ab_o_st1 (k := 1) (ab_dc hc161 dX12_worstOne_42) (Or.inr (Or.inr (Or.inl ⟨1, rfl, rfl, rfl, ⟨_, rfl⟩⟩))) hn161 (by decide)).trans (ab_kl1 [] _ l0 rfl rfl)
theorem q161_43 {x : Int32} : ab_res scr 161 d M 43 [l0, l1, some (.int x)] (st) = ab_res scr 161 d M 46 [l0, ab_nl l1, some (.int (x + 1))] (st) := (ab_o_iinc (k := 2) (ab_dc hc161 dX12_worstOne_43) hn161 (by decide) rfl).trans (by rw [ki_iconst_1]; exact ab_kl1 [l0] _ l1 rfl rfl)
theorem q161_46 : ab_res scr 161 d M 46 [l0, l1, l2] (st) = ab_res scr 161 d M 5 [l0, l1, l2] (st) := ab_o_goto (ab_dc hc161 dX12_worstOne_46) (by decide)
theorem q161_49 {x : Int32} : ab_res scr 161 d M 49 [l0, some (.int x), l2] (st) = ab_res scr 161 d M 50 [l0, some (.int x), l2] (.int x :: st) := ab_o_iload_n (ab_dc hc161 dX12_worstOne_49) rfl
theorem q161_50 {v0 : Int32} : ab_res scr 161 d M 50 [l0, l1, l2] ([.int v0]) = some (M, some (.int v0)) := ab_o_ireturn (ab_dc hc161 dX12_worstOne_50) hr161 rfl
end Q161
theorem hc162 : ab_code 162 = cX12_worst := rfl
theorem hn162 : ab_nL 162 = 2 := rfl
theorem hk162 : ab_ky 162 = 12 := rfl
theorem hr162 : ab_ret 162 = some .int := rfl
section Q162
variable {scr : Option (List Int32)} {d : Nat} {M : ab_M} {st : List Value} {l0 l1 : Option Value}
theorem q162_0 {xr : Nat} : ab_res scr 162 d M 0 [some (.ref xr), l1] (st) = ab_res scr 162 d M 1 [some (.ref xr), l1] (.ref xr :: st) := ab_o_aload_n (ab_dc hc162 dX12_worst_0) rfl
theorem q162_1 {v0 : Nat} (hb : (ab_rc ab_L0 v0 = some 12) = True) : ab_res scr 162 2 M 1 [l0, l1] ([.ref v0]) = (ab_ms scr 161 [.ref v0] M).bind fun o => ab_res scr 162 2 o.1 4 [l0, l1] (ab_pr o.2 []) := ab_o_virtual (ab_dc hc162 dX12_worst_1) hk162 lk_ca_12_280 hm161 (Nat.le_of_ble_eq_true rfl) rfl rfl rfl (of_eq_true hb) rfl rfl
theorem q162_4 {v0 : Int32} : ab_res scr 162 d M 4 [l0, l1] (.int v0 :: st) = ab_res scr 162 d M 5 [ab_nl l0, some (.int v0)] (st) := (ab_o_st1 (k := 1) (ab_dc hc162 dX12_worst_4) (Or.inr (Or.inr (Or.inl ⟨1, rfl, rfl, rfl, ⟨_, rfl⟩⟩))) hn162 (by decide)).trans (ab_kl1 [] _ l0 rfl rfl)
theorem q162_5 {x : Int32} : ab_res scr 162 d M 5 [l0, some (.int x)] (st) = ab_res scr 162 d M 6 [l0, some (.int x)] (.int x :: st) := ab_o_iload_n (ab_dc hc162 dX12_worst_5) rfl
theorem q162_6 : ab_res scr 162 d M 6 [l0, l1] (st) = ab_res scr 162 d M 8 [l0, l1] (.int (-4) :: st) := (ab_o_bipush (ab_dc hc162 dX12_worst_6)).trans (by rw [ki_bipush_m4])
theorem q162_8 {v0 : Int32} {v1 : Int32} : ab_res scr 162 d M 8 [l0, l1] (.int v0 :: .int v1 :: st) = if ¬ v1 = v0 then ab_res scr 162 d M 15 [l0, l1] (st) else ab_res scr 162 d M 11 [l0, l1] (st) := ab_o_br2 (off := 7) (ab_dc hc162 dX12_worst_8) (by decide) rfl rfl
theorem q162_11 : ab_res scr 162 d M 11 [l0, l1] (st) = ab_res scr 162 d M 12 [l0, l1] (.int 0 :: st) := (ab_o_iconst (ab_dc hc162 dX12_worst_11)).trans (by rw [ki_iconst_0])
theorem q162_12 : ab_res scr 162 d M 12 [l0, l1] (st) = ab_res scr 162 d M 21 [l0, l1] (st) := ab_o_goto (ab_dc hc162 dX12_worst_12) (by decide)
theorem q162_15 {xr : Nat} : ab_res scr 162 d M 15 [some (.ref xr), l1] (st) = ab_res scr 162 d M 16 [some (.ref xr), l1] (.ref xr :: st) := ab_o_aload_n (ab_dc hc162 dX12_worst_15) rfl
theorem q162_16 {v0 : Nat} : ab_res scr 162 d M 16 [l0, l1] (.ref v0 :: st) = (ab_gF ab_L0 M v0 12 23).bind fun v => ab_res scr 162 d M 19 [l0, l1] (v :: st) := ab_o_getfield (ab_dc hc162 dX12_worst_16) hk162 lk_fl_12_50
theorem q162_19 {x : Int32} : ab_res scr 162 d M 19 [l0, some (.int x)] (st) = ab_res scr 162 d M 20 [l0, some (.int x)] (.int x :: st) := ab_o_iload_n (ab_dc hc162 dX12_worst_19) rfl
theorem q162_20 {v0 : Int32} {v1 : Nat} : ab_res scr 162 d M 20 [l0, l1] (.int v0 :: .ref v1 :: st) = (ab_ald scr ab_L0 M v1 .int v0).bind fun v => ab_res scr 162 d M 21 [l0, l1] (.int v :: st) := ab_o_iaload (ab_dc hc162 dX12_worst_20)
theorem q162_21 {v0 : Int32} : ab_res scr 162 d M 21 [l0, l1] ([.int v0]) = some (M, some (.int v0)) := ab_o_ireturn (ab_dc hc162 dX12_worst_21) hr162 rfl
end Q162
theorem hc163 : ab_code 163 = cX12_evening := rfl
theorem hn163 : ab_nL 163 = 4 := rfl
theorem hk163 : ab_ky 163 = 12 := rfl
theorem hr163 : ab_ret 163 = some .int := rfl
section Q163
variable {scr : Option (List Int32)} {d : Nat} {M : ab_M} {st : List Value} {l0 l1 l2 l3 : Option Value}
theorem q163_0 {x : Int32} : ab_res scr 163 d M 0 [l0, some (.int x), l2, l3] (st) = ab_res scr 163 d M 1 [l0, some (.int x), l2, l3] (.int x :: st) := ab_o_iload_n (ab_dc hc163 dX12_evening_0) rfl
theorem q163_1 {v0 : Int32} : ab_res scr 163 7 M 1 [l0, l1, l2, l3] ([.int v0]) = (ab_ms scr 160 [.int v0] M).bind fun o => ab_res scr 163 7 o.1 4 [l0, l1, l2, l3] (ab_pr o.2 []) := ab_o_static (ab_dc hc163 dX12_evening_1) hk163 lk_ca_12_283 hm160 (Nat.le_of_ble_eq_true rfl) rfl rfl rfl rfl rfl
theorem q163_4 {v0 : Int32} : ab_res scr 163 d M 4 [l0, l1, l2, l3] (.int v0 :: st) = if v0 = 0 then ab_res scr 163 d M 19 [l0, l1, l2, l3] (st) else ab_res scr 163 d M 7 [l0, l1, l2, l3] (st) := ab_o_br2 (off := 15) (ab_dc hc163 dX12_evening_4) (by decide) rfl rfl
theorem q163_7 {x : Int32} : ab_res scr 163 d M 7 [l0, l1, l2, some (.int x)] (st) = ab_res scr 163 d M 8 [l0, l1, l2, some (.int x)] (.int x :: st) := ab_o_iload_n (ab_dc hc163 dX12_evening_7) rfl
theorem q163_8 {v0 : Int32} : ab_res scr 163 d M 8 [l0, l1, l2, l3] (.int v0 :: st) = ab_res scr 163 d M 9 [l0, l1, l2, l3] (.long v0.toInt64 :: st) := ab_xg (ab_dc hc163 dX12_evening_8) rfl rfl
theorem q163_9 : ab_res scr 163 d M 9 [l0, l1, l2, l3] (st) = ab_res scr 163 d M 10 [l0, l1, l2, l3] (.long 0 :: st) := ab_o_lconst (ab_dc hc163 dX12_evening_9)
theorem q163_10 : ab_res scr 163 d M 10 [l0, l1, l2, l3] (st) = ab_res scr 163 d M 13 [l0, l1, l2, l3] (.long 6 :: st) := ab_o_ldc2_w (ab_dc hc163 dX12_evening_10) hk163 lk_ko_12_278
theorem q163_13 {v0 : Int64} {v1 : Int64} {v2 : Int64} : ab_res scr 163 7 M 13 [l0, l1, l2, l3] ([.long v0, .long v1, .long v2]) = (ab_ms scr 120 [.long v2, .long v1, .long v0] M).bind fun o => ab_res scr 163 7 o.1 16 [l0, l1, l2, l3] (ab_pr o.2 []) := ab_o_static (ab_dc hc163 dX12_evening_13) hk163 lk_ca_12_97 hm120 (Nat.le_of_ble_eq_true rfl) rfl rfl rfl rfl rfl
theorem q163_16 {v0 : Int32} : ab_res scr 163 d M 16 [l0, l1, l2, l3] (.int v0 :: st) = if ¬ v0 = 0 then ab_res scr 163 d M 21 [l0, l1, l2, l3] (st) else ab_res scr 163 d M 19 [l0, l1, l2, l3] (st) := ab_o_br2 (off := 5) (ab_dc hc163 dX12_evening_16) (by decide) rfl rfl
theorem q163_19 : ab_res scr 163 d M 19 [l0, l1, l2, l3] (st) = ab_res scr 163 d M 20 [l0, l1, l2, l3] (.int (-1) :: st) := (ab_o_iconst (ab_dc hc163 dX12_evening_19)).trans (by rw [ki_iconst_m1])
theorem q163_20 {v0 : Int32} : ab_res scr 163 d M 20 [l0, l1, l2, l3] ([.int v0]) = some (M, some (.int v0)) := ab_o_ireturn (ab_dc hc163 dX12_evening_20) hr163 rfl
theorem q163_21 {xr : Nat} : ab_res scr 163 d M 21 [some (.ref xr), l1, l2, l3] (st) = ab_res scr 163 d M 22 [some (.ref xr), l1, l2, l3] (.ref xr :: st) := ab_o_aload_n (ab_dc hc163 dX12_evening_21) rfl
theorem q163_22 {x : Int32} : ab_res scr 163 d M 22 [l0, some (.int x), l2, l3] (st) = ab_res scr 163 d M 23 [l0, some (.int x), l2, l3] (.int x :: st) := ab_o_iload_n (ab_dc hc163 dX12_evening_22) rfl
theorem q163_23 {x : Int32} : ab_res scr 163 d M 23 [l0, l1, some (.int x), l3] (st) = ab_res scr 163 d M 24 [l0, l1, some (.int x), l3] (.int x :: st) := ab_o_iload_n (ab_dc hc163 dX12_evening_23) rfl
theorem q163_24 {v0 : Int32} {v1 : Int32} {v2 : Nat} (hb : (ab_rc ab_L0 v2 = some 12) = True) : ab_res scr 163 7 M 24 [l0, l1, l2, l3] ([.int v0, .int v1, .ref v2]) = (ab_ms scr 159 [.ref v2, .int v1, .int v0] M).bind fun o => ab_res scr 163 7 o.1 27 [l0, l1, l2, l3] (ab_pr o.2 []) := ab_o_virtual (ab_dc hc163 dX12_evening_24) hk163 lk_ca_12_286 hm159 (Nat.le_of_ble_eq_true rfl) rfl rfl rfl (of_eq_true hb) rfl rfl
theorem q163_27 {x : Int32} : ab_res scr 163 d M 27 [l0, l1, l2, some (.int x)] (st) = ab_res scr 163 d M 28 [l0, l1, l2, some (.int x)] (.int x :: st) := ab_o_iload_n (ab_dc hc163 dX12_evening_27) rfl
theorem q163_68 {xr : Nat} : ab_res scr 163 d M 68 [some (.ref xr), l1, l2, l3] (st) = ab_res scr 163 d M 69 [some (.ref xr), l1, l2, l3] (.ref xr :: st) := ab_o_aload_n (ab_dc hc163 dX12_evening_68) rfl
theorem q163_69 {v0 : Nat} : ab_res scr 163 d M 69 [l0, l1, l2, l3] (.ref v0 :: st) = (ab_gF ab_L0 M v0 12 30).bind fun v => ab_res scr 163 d M 72 [l0, l1, l2, l3] (v :: st) := ab_o_getfield (ab_dc hc163 dX12_evening_69) hk163 lk_fl_12_197
theorem q163_72 {v0 : Int32} : ab_res scr 163 d M 72 [l0, l1, l2, l3] ([.int v0]) = some (M, some (.int v0)) := ab_o_ireturn (ab_dc hc163 dX12_evening_72) hr163 rfl
theorem q163_73 {xr : Nat} : ab_res scr 163 d M 73 [some (.ref xr), l1, l2, l3] (st) = ab_res scr 163 d M 74 [some (.ref xr), l1, l2, l3] (.ref xr :: st) := ab_o_aload_n (ab_dc hc163 dX12_evening_73) rfl
theorem q163_74 {v0 : Nat} : ab_res scr 163 d M 74 [l0, l1, l2, l3] (.ref v0 :: st) = (ab_gF ab_L0 M v0 12 31).bind fun v => ab_res scr 163 d M 77 [l0, l1, l2, l3] (v :: st) := ab_o_getfield (ab_dc hc163 dX12_evening_74) hk163 lk_fl_12_200
theorem q163_77 {v0 : Int32} : ab_res scr 163 d M 77 [l0, l1, l2, l3] ([.int v0]) = some (M, some (.int v0)) := ab_o_ireturn (ab_dc hc163 dX12_evening_77) hr163 rfl
theorem q163_78 {xr : Nat} : ab_res scr 163 d M 78 [some (.ref xr), l1, l2, l3] (st) = ab_res scr 163 d M 79 [some (.ref xr), l1, l2, l3] (.ref xr :: st) := ab_o_aload_n (ab_dc hc163 dX12_evening_78) rfl
theorem q163_79 {v0 : Nat} (hb : (ab_rc ab_L0 v0 = some 12) = True) : ab_res scr 163 7 M 79 [l0, l1, l2, l3] ([.ref v0]) = (ab_ms scr 162 [.ref v0] M).bind fun o => ab_res scr 163 7 o.1 82 [l0, l1, l2, l3] (ab_pr o.2 []) := ab_o_virtual (ab_dc hc163 dX12_evening_79) hk163 lk_ca_12_289 hm162 (Nat.le_of_ble_eq_true rfl) rfl rfl rfl (of_eq_true hb) rfl rfl
theorem q163_82 {v0 : Int32} : ab_res scr 163 d M 82 [l0, l1, l2, l3] ([.int v0]) = some (M, some (.int v0)) := ab_o_ireturn (ab_dc hc163 dX12_evening_82) hr163 rfl
theorem q163_83 {xr : Nat} : ab_res scr 163 d M 83 [some (.ref xr), l1, l2, l3] (st) = ab_res scr 163 d M 84 [some (.ref xr), l1, l2, l3] (.ref xr :: st) := ab_o_aload_n (ab_dc hc163 dX12_evening_83) rfl
theorem q163_84 {v0 : Nat} (hb : (ab_rc ab_L0 v0 = some 12) = True) : ab_res scr 163 7 M 84 [l0, l1, l2, l3] ([.ref v0]) = (ab_ms scr 161 [.ref v0] M).bind fun o => ab_res scr 163 7 o.1 87 [l0, l1, l2, l3] (ab_pr o.2 []) := ab_o_virtual (ab_dc hc163 dX12_evening_84) hk163 lk_ca_12_280 hm161 (Nat.le_of_ble_eq_true rfl) rfl rfl rfl (of_eq_true hb) rfl rfl
theorem q163_87 {v0 : Int32} : ab_res scr 163 d M 87 [l0, l1, l2, l3] ([.int v0]) = some (M, some (.int v0)) := ab_o_ireturn (ab_dc hc163 dX12_evening_87) hr163 rfl
theorem q163_88 {xr : Nat} : ab_res scr 163 d M 88 [some (.ref xr), l1, l2, l3] (st) = ab_res scr 163 d M 89 [some (.ref xr), l1, l2, l3] (.ref xr :: st) := ab_o_aload_n (ab_dc hc163 dX12_evening_88) rfl
theorem q163_89 {v0 : Nat} : ab_res scr 163 d M 89 [l0, l1, l2, l3] (.ref v0 :: st) = (ab_gF ab_L0 M v0 12 32).bind fun v => ab_res scr 163 d M 92 [l0, l1, l2, l3] (v :: st) := ab_o_getfield (ab_dc hc163 dX12_evening_89) hk163 lk_fl_12_203
theorem q163_92 {v0 : Int32} : ab_res scr 163 d M 92 [l0, l1, l2, l3] ([.int v0]) = some (M, some (.int v0)) := ab_o_ireturn (ab_dc hc163 dX12_evening_92) hr163 rfl
theorem q163_93 {xr : Nat} : ab_res scr 163 d M 93 [some (.ref xr), l1, l2, l3] (st) = ab_res scr 163 d M 94 [some (.ref xr), l1, l2, l3] (.ref xr :: st) := ab_o_aload_n (ab_dc hc163 dX12_evening_93) rfl
theorem q163_94 {v0 : Nat} : ab_res scr 163 d M 94 [l0, l1, l2, l3] (.ref v0 :: st) = (ab_gF ab_L0 M v0 12 33).bind fun v => ab_res scr 163 d M 97 [l0, l1, l2, l3] (v :: st) := ab_o_getfield (ab_dc hc163 dX12_evening_94) hk163 lk_fl_12_206
theorem q163_97 {v0 : Int32} : ab_res scr 163 d M 97 [l0, l1, l2, l3] ([.int v0]) = some (M, some (.int v0)) := ab_o_ireturn (ab_dc hc163 dX12_evening_97) hr163 rfl
theorem q163_98 {xr : Nat} : ab_res scr 163 d M 98 [some (.ref xr), l1, l2, l3] (st) = ab_res scr 163 d M 99 [some (.ref xr), l1, l2, l3] (.ref xr :: st) := ab_o_aload_n (ab_dc hc163 dX12_evening_98) rfl
theorem q163_99 {v0 : Nat} : ab_res scr 163 d M 99 [l0, l1, l2, l3] (.ref v0 :: st) = (ab_gF ab_L0 M v0 12 28).bind fun v => ab_res scr 163 d M 102 [l0, l1, l2, l3] (v :: st) := ab_o_getfield (ab_dc hc163 dX12_evening_99) hk163 lk_fl_12_194
theorem q163_102 {v0 : Int32} : ab_res scr 163 d M 102 [l0, l1, l2, l3] ([.int v0]) = some (M, some (.int v0)) := ab_o_ireturn (ab_dc hc163 dX12_evening_102) hr163 rfl
end Q163
section S163_28
variable {scr : Option (List Int32)} {d : Nat} {M : ab_M} {st : List Value} {l0 l1 l2 l3 : Option Value}
theorem q163_28 {v0 : Int32} : ab_res scr 163 d M 28 [l0, l1, l2, l3] (.int v0 :: st) = if v0 = 0 then ab_res scr 163 d M 68 [l0, l1, l2, l3] (st) else if v0 = 1 then ab_res scr 163 d M 73 [l0, l1, l2, l3] (st) else if v0 = 2 then ab_res scr 163 d M 78 [l0, l1, l2, l3] (st) else if v0 = 3 then ab_res scr 163 d M 83 [l0, l1, l2, l3] (st) else if v0 = 4 then ab_res scr 163 d M 88 [l0, l1, l2, l3] (st) else if v0 = 5 then ab_res scr 163 d M 93 [l0, l1, l2, l3] (st) else ab_res scr 163 d M 98 [l0, l1, l2, l3] (st) := by
  by_cases h0 : v0 = 0
  · rw [if_pos h0, h0]
    exact ab_xg (ab_dc hc163 dX12_evening_28) rfl rfl
  by_cases h1 : v0 = 1
  · rw [if_neg h0, if_pos h1, h1]
    exact ab_xg (ab_dc hc163 dX12_evening_28) rfl rfl
  by_cases h2 : v0 = 2
  · rw [if_neg h0, if_neg h1, if_pos h2, h2]
    exact ab_xg (ab_dc hc163 dX12_evening_28) rfl rfl
  by_cases h3 : v0 = 3
  · rw [if_neg h0, if_neg h1, if_neg h2, if_pos h3, h3]
    exact ab_xg (ab_dc hc163 dX12_evening_28) rfl rfl
  by_cases h4 : v0 = 4
  · rw [if_neg h0, if_neg h1, if_neg h2, if_neg h3, if_pos h4, h4]
    exact ab_xg (ab_dc hc163 dX12_evening_28) rfl rfl
  by_cases h5 : v0 = 5
  · rw [if_neg h0, if_neg h1, if_neg h2, if_neg h3, if_neg h4, if_pos h5, h5]
    exact ab_xg (ab_dc hc163 dX12_evening_28) rfl rfl
  rw [if_neg h0, if_neg h1, if_neg h2, if_neg h3, if_neg h4, if_neg h5]
  have hx : v0.toInt < 0 ∨ 5 < v0.toInt := by
    have e0 : v0.toInt ≠ 0 := fun q => h0 (Int32.toInt_inj.mp (q.trans (by decide)))
    have e1 : v0.toInt ≠ 1 := fun q => h1 (Int32.toInt_inj.mp (q.trans (by decide)))
    have e2 : v0.toInt ≠ 2 := fun q => h2 (Int32.toInt_inj.mp (q.trans (by decide)))
    have e3 : v0.toInt ≠ 3 := fun q => h3 (Int32.toInt_inj.mp (q.trans (by decide)))
    have e4 : v0.toInt ≠ 4 := fun q => h4 (Int32.toInt_inj.mp (q.trans (by decide)))
    have e5 : v0.toInt ≠ 5 := fun q => h5 (Int32.toInt_inj.mp (q.trans (by decide)))
    omega
  refine ab_xg (ab_dc hc163 dX12_evening_28) rfl ?_
  show (if v0.toInt < 0 ∨ 5 < v0.toInt then ab_jm ab_L0 M 28 (70) [l0, l1, l2, l3] st else _) = _
  rw [if_pos hx]
  rfl
end S163_28
theorem hc164 : ab_code 164 = cX12_round := rfl
theorem hn164 : ab_nL 164 = 5 := rfl
theorem hk164 : ab_ky 164 = 12 := rfl
theorem hr164 : ab_ret 164 = some .int := rfl
section Q164
variable {scr : Option (List Int32)} {d : Nat} {M : ab_M} {st : List Value} {l0 l1 l2 l3 l4 : Option Value}
theorem q164_0 {x : Int32} : ab_res scr 164 d M 0 [l0, some (.int x), l2, l3, l4] (st) = ab_res scr 164 d M 1 [l0, some (.int x), l2, l3, l4] (.int x :: st) := ab_o_iload_n (ab_dc hc164 dX12_round_0) rfl
theorem q164_1 {v0 : Int32} : ab_res scr 164 7 M 1 [l0, l1, l2, l3, l4] ([.int v0]) = (ab_ms scr 160 [.int v0] M).bind fun o => ab_res scr 164 7 o.1 4 [l0, l1, l2, l3, l4] (ab_pr o.2 []) := ab_o_static (ab_dc hc164 dX12_round_1) hk164 lk_ca_12_283 hm160 (Nat.le_of_ble_eq_true rfl) rfl rfl rfl rfl rfl
theorem q164_4 {v0 : Int32} : ab_res scr 164 d M 4 [l0, l1, l2, l3, l4] (.int v0 :: st) = if v0 = 0 then ab_res scr 164 d M 20 [l0, l1, l2, l3, l4] (st) else ab_res scr 164 d M 7 [l0, l1, l2, l3, l4] (st) := ab_o_br2 (off := 16) (ab_dc hc164 dX12_round_4) (by decide) rfl rfl
theorem q164_7 {x : Int32} : ab_res scr 164 d M 7 [l0, l1, l2, l3, some (.int x)] (st) = ab_res scr 164 d M 9 [l0, l1, l2, l3, some (.int x)] (.int x :: st) := ab_o_iload (ab_dc hc164 dX12_round_7) rfl
theorem q164_9 {v0 : Int32} : ab_res scr 164 d M 9 [l0, l1, l2, l3, l4] (.int v0 :: st) = ab_res scr 164 d M 10 [l0, l1, l2, l3, l4] (.long v0.toInt64 :: st) := ab_xg (ab_dc hc164 dX12_round_9) rfl rfl
theorem q164_10 : ab_res scr 164 d M 10 [l0, l1, l2, l3, l4] (st) = ab_res scr 164 d M 11 [l0, l1, l2, l3, l4] (.long 0 :: st) := ab_o_lconst (ab_dc hc164 dX12_round_10)
theorem q164_11 : ab_res scr 164 d M 11 [l0, l1, l2, l3, l4] (st) = ab_res scr 164 d M 14 [l0, l1, l2, l3, l4] (.long 4 :: st) := ab_o_ldc2_w (ab_dc hc164 dX12_round_11) hk164 lk_ko_12_292
theorem q164_14 {v0 : Int64} {v1 : Int64} {v2 : Int64} : ab_res scr 164 7 M 14 [l0, l1, l2, l3, l4] ([.long v0, .long v1, .long v2]) = (ab_ms scr 120 [.long v2, .long v1, .long v0] M).bind fun o => ab_res scr 164 7 o.1 17 [l0, l1, l2, l3, l4] (ab_pr o.2 []) := ab_o_static (ab_dc hc164 dX12_round_14) hk164 lk_ca_12_97 hm120 (Nat.le_of_ble_eq_true rfl) rfl rfl rfl rfl rfl
theorem q164_17 {v0 : Int32} : ab_res scr 164 d M 17 [l0, l1, l2, l3, l4] (.int v0 :: st) = if ¬ v0 = 0 then ab_res scr 164 d M 22 [l0, l1, l2, l3, l4] (st) else ab_res scr 164 d M 20 [l0, l1, l2, l3, l4] (st) := ab_o_br2 (off := 5) (ab_dc hc164 dX12_round_17) (by decide) rfl rfl
theorem q164_20 : ab_res scr 164 d M 20 [l0, l1, l2, l3, l4] (st) = ab_res scr 164 d M 21 [l0, l1, l2, l3, l4] (.int (-1) :: st) := (ab_o_iconst (ab_dc hc164 dX12_round_20)).trans (by rw [ki_iconst_m1])
theorem q164_21 {v0 : Int32} : ab_res scr 164 d M 21 [l0, l1, l2, l3, l4] ([.int v0]) = some (M, some (.int v0)) := ab_o_ireturn (ab_dc hc164 dX12_round_21) hr164 rfl
theorem q164_22 {xr : Nat} : ab_res scr 164 d M 22 [some (.ref xr), l1, l2, l3, l4] (st) = ab_res scr 164 d M 23 [some (.ref xr), l1, l2, l3, l4] (.ref xr :: st) := ab_o_aload_n (ab_dc hc164 dX12_round_22) rfl
theorem q164_23 {x : Int32} : ab_res scr 164 d M 23 [l0, some (.int x), l2, l3, l4] (st) = ab_res scr 164 d M 24 [l0, some (.int x), l2, l3, l4] (.int x :: st) := ab_o_iload_n (ab_dc hc164 dX12_round_23) rfl
theorem q164_24 {x : Int32} : ab_res scr 164 d M 24 [l0, l1, some (.int x), l3, l4] (st) = ab_res scr 164 d M 25 [l0, l1, some (.int x), l3, l4] (.int x :: st) := ab_o_iload_n (ab_dc hc164 dX12_round_24) rfl
theorem q164_25 {v0 : Int32} {v1 : Int32} {v2 : Nat} (hb : (ab_rc ab_L0 v2 = some 12) = True) : ab_res scr 164 7 M 25 [l0, l1, l2, l3, l4] ([.int v0, .int v1, .ref v2]) = (ab_ms scr 159 [.ref v2, .int v1, .int v0] M).bind fun o => ab_res scr 164 7 o.1 28 [l0, l1, l2, l3, l4] (ab_pr o.2 []) := ab_o_virtual (ab_dc hc164 dX12_round_25) hk164 lk_ca_12_286 hm159 (Nat.le_of_ble_eq_true rfl) rfl rfl rfl (of_eq_true hb) rfl rfl
theorem q164_28 {x : Int32} : ab_res scr 164 d M 28 [l0, l1, l2, some (.int x), l4] (st) = ab_res scr 164 d M 29 [l0, l1, l2, some (.int x), l4] (.int x :: st) := ab_o_iload_n (ab_dc hc164 dX12_round_28) rfl
theorem q164_29 {v0 : Int32} : ab_res scr 164 d M 29 [l0, l1, l2, l3, l4] (.int v0 :: st) = ab_res scr 164 d M 30 [l0, l1, l2, l3, l4] (.long v0.toInt64 :: st) := ab_xg (ab_dc hc164 dX12_round_29) rfl rfl
theorem q164_30 : ab_res scr 164 d M 30 [l0, l1, l2, l3, l4] (st) = ab_res scr 164 d M 31 [l0, l1, l2, l3, l4] (.long 0 :: st) := ab_o_lconst (ab_dc hc164 dX12_round_30)
theorem q164_31 {xr : Nat} : ab_res scr 164 d M 31 [some (.ref xr), l1, l2, l3, l4] (st) = ab_res scr 164 d M 32 [some (.ref xr), l1, l2, l3, l4] (.ref xr :: st) := ab_o_aload_n (ab_dc hc164 dX12_round_31) rfl
theorem q164_32 {v0 : Nat} : ab_res scr 164 d M 32 [l0, l1, l2, l3, l4] (.ref v0 :: st) = (ab_gF ab_L0 M v0 12 30).bind fun v => ab_res scr 164 d M 35 [l0, l1, l2, l3, l4] (v :: st) := ab_o_getfield (ab_dc hc164 dX12_round_32) hk164 lk_fl_12_197
theorem q164_35 : ab_res scr 164 d M 35 [l0, l1, l2, l3, l4] (st) = ab_res scr 164 d M 36 [l0, l1, l2, l3, l4] (.int 1 :: st) := (ab_o_iconst (ab_dc hc164 dX12_round_35)).trans (by rw [ki_iconst_1])
theorem q164_36 {v0 : Int32} {v1 : Int32} : ab_res scr 164 d M 36 [l0, l1, l2, l3, l4] (.int v0 :: .int v1 :: st) = ab_res scr 164 d M 37 [l0, l1, l2, l3, l4] (.int (v1 - v0) :: st) := ab_xg (ab_dc hc164 dX12_round_36) rfl rfl
theorem q164_37 {v0 : Int32} : ab_res scr 164 d M 37 [l0, l1, l2, l3, l4] (.int v0 :: st) = ab_res scr 164 d M 38 [l0, l1, l2, l3, l4] (.long v0.toInt64 :: st) := ab_xg (ab_dc hc164 dX12_round_37) rfl rfl
theorem q164_38 {v0 : Int64} {v1 : Int64} {v2 : Int64} : ab_res scr 164 7 M 38 [l0, l1, l2, l3, l4] ([.long v0, .long v1, .long v2]) = (ab_ms scr 120 [.long v2, .long v1, .long v0] M).bind fun o => ab_res scr 164 7 o.1 41 [l0, l1, l2, l3, l4] (ab_pr o.2 []) := ab_o_static (ab_dc hc164 dX12_round_38) hk164 lk_ca_12_97 hm120 (Nat.le_of_ble_eq_true rfl) rfl rfl rfl rfl rfl
theorem q164_41 {v0 : Int32} : ab_res scr 164 d M 41 [l0, l1, l2, l3, l4] (.int v0 :: st) = if v0 = 0 then ab_res scr 164 d M 58 [l0, l1, l2, l3, l4] (st) else ab_res scr 164 d M 44 [l0, l1, l2, l3, l4] (st) := ab_o_br2 (off := 17) (ab_dc hc164 dX12_round_41) (by decide) rfl rfl
theorem q164_44 {xr : Nat} : ab_res scr 164 d M 44 [some (.ref xr), l1, l2, l3, l4] (st) = ab_res scr 164 d M 45 [some (.ref xr), l1, l2, l3, l4] (.ref xr :: st) := ab_o_aload_n (ab_dc hc164 dX12_round_44) rfl
theorem q164_45 {v0 : Nat} : ab_res scr 164 d M 45 [l0, l1, l2, l3, l4] (.ref v0 :: st) = (ab_gF ab_L0 M v0 12 29).bind fun v => ab_res scr 164 d M 48 [l0, l1, l2, l3, l4] (v :: st) := ab_o_getfield (ab_dc hc164 dX12_round_45) hk164 lk_fl_12_59
theorem q164_48 : ab_res scr 164 d M 48 [l0, l1, l2, l3, l4] (st) = ab_res scr 164 d M 49 [l0, l1, l2, l3, l4] (.int 5 :: st) := (ab_o_iconst (ab_dc hc164 dX12_round_48)).trans (by rw [ki_iconst_5])
theorem q164_49 {x : Int32} : ab_res scr 164 d M 49 [l0, l1, l2, some (.int x), l4] (st) = ab_res scr 164 d M 50 [l0, l1, l2, some (.int x), l4] (.int x :: st) := ab_o_iload_n (ab_dc hc164 dX12_round_49) rfl
theorem q164_50 {v0 : Int32} {v1 : Int32} : ab_res scr 164 d M 50 [l0, l1, l2, l3, l4] (.int v0 :: .int v1 :: st) = ab_res scr 164 d M 51 [l0, l1, l2, l3, l4] (.int (v1 * v0) :: st) := ab_xg (ab_dc hc164 dX12_round_50) rfl rfl
theorem q164_51 {x : Int32} : ab_res scr 164 d M 51 [l0, l1, l2, l3, some (.int x)] (st) = ab_res scr 164 d M 53 [l0, l1, l2, l3, some (.int x)] (.int x :: st) := ab_o_iload (ab_dc hc164 dX12_round_51) rfl
theorem q164_53 {v0 : Int32} {v1 : Int32} : ab_res scr 164 d M 53 [l0, l1, l2, l3, l4] (.int v0 :: .int v1 :: st) = ab_res scr 164 d M 54 [l0, l1, l2, l3, l4] (.int (v1 + v0) :: st) := ab_xg (ab_dc hc164 dX12_round_53) rfl rfl
theorem q164_54 {v0 : Int32} {v1 : Nat} : ab_res scr 164 d M 54 [l0, l1, l2, l3, l4] (.int v0 :: .ref v1 :: st) = (ab_ald scr ab_L0 M v1 .int v0).bind fun v => ab_res scr 164 d M 55 [l0, l1, l2, l3, l4] (.int v :: st) := ab_o_iaload (ab_dc hc164 dX12_round_54)
theorem q164_55 : ab_res scr 164 d M 55 [l0, l1, l2, l3, l4] (st) = ab_res scr 164 d M 59 [l0, l1, l2, l3, l4] (st) := ab_o_goto (ab_dc hc164 dX12_round_55) (by decide)
theorem q164_58 : ab_res scr 164 d M 58 [l0, l1, l2, l3, l4] (st) = ab_res scr 164 d M 59 [l0, l1, l2, l3, l4] (.int (-1) :: st) := (ab_o_iconst (ab_dc hc164 dX12_round_58)).trans (by rw [ki_iconst_m1])
theorem q164_59 {v0 : Int32} : ab_res scr 164 d M 59 [l0, l1, l2, l3, l4] ([.int v0]) = some (M, some (.int v0)) := ab_o_ireturn (ab_dc hc164 dX12_round_59) hr164 rfl
end Q164
theorem hc165 : ab_code 165 = cX12_of := rfl
theorem hn165 : ab_nL 165 = 5 := rfl
theorem hk165 : ab_ky 165 = 12 := rfl
theorem hr165 : ab_ret 165 = some .int := rfl
section Q165
variable {scr : Option (List Int32)} {d : Nat} {M : ab_M} {st : List Value} {l0 l1 l2 l3 l4 : Option Value}
theorem q165_0 {x : Int32} : ab_res scr 165 d M 0 [l0, some (.int x), l2, l3, l4] (st) = ab_res scr 165 d M 1 [l0, some (.int x), l2, l3, l4] (.int x :: st) := ab_o_iload_n (ab_dc hc165 dX12_of_0) rfl
theorem q165_1 {v0 : Int32} : ab_res scr 165 7 M 1 [l0, l1, l2, l3, l4] ([.int v0]) = (ab_ms scr 160 [.int v0] M).bind fun o => ab_res scr 165 7 o.1 4 [l0, l1, l2, l3, l4] (ab_pr o.2 []) := ab_o_static (ab_dc hc165 dX12_of_1) hk165 lk_ca_12_283 hm160 (Nat.le_of_ble_eq_true rfl) rfl rfl rfl rfl rfl
theorem q165_4 {v0 : Int32} : ab_res scr 165 d M 4 [l0, l1, l2, l3, l4] (.int v0 :: st) = if v0 = 0 then ab_res scr 165 d M 28 [l0, l1, l2, l3, l4] (st) else ab_res scr 165 d M 7 [l0, l1, l2, l3, l4] (st) := ab_o_br2 (off := 24) (ab_dc hc165 dX12_of_4) (by decide) rfl rfl
theorem q165_7 {xr : Nat} : ab_res scr 165 d M 7 [some (.ref xr), l1, l2, l3, l4] (st) = ab_res scr 165 d M 8 [some (.ref xr), l1, l2, l3, l4] (.ref xr :: st) := ab_o_aload_n (ab_dc hc165 dX12_of_7) rfl
theorem q165_8 {x : Int32} : ab_res scr 165 d M 8 [l0, l1, l2, some (.int x), l4] (st) = ab_res scr 165 d M 9 [l0, l1, l2, some (.int x), l4] (.int x :: st) := ab_o_iload_n (ab_dc hc165 dX12_of_8) rfl
theorem q165_9 {v0 : Int32} {v1 : Nat} (hb : (ab_rc ab_L0 v1 = some 12) = True) : ab_res scr 165 7 M 9 [l0, l1, l2, l3, l4] ([.int v0, .ref v1]) = (ab_ms scr 134 [.ref v1, .int v0] M).bind fun o => ab_res scr 165 7 o.1 12 [l0, l1, l2, l3, l4] (ab_pr o.2 []) := ab_o_virtual (ab_dc hc165 dX12_of_9) hk165 lk_ca_12_162 hm134 (Nat.le_of_ble_eq_true rfl) rfl rfl rfl (of_eq_true hb) rfl rfl
theorem q165_12 {v0 : Int32} : ab_res scr 165 d M 12 [l0, l1, l2, l3, l4] (.int v0 :: st) = if v0 = 0 then ab_res scr 165 d M 28 [l0, l1, l2, l3, l4] (st) else ab_res scr 165 d M 15 [l0, l1, l2, l3, l4] (st) := ab_o_br2 (off := 16) (ab_dc hc165 dX12_of_12) (by decide) rfl rfl
theorem q165_15 {x : Int32} : ab_res scr 165 d M 15 [l0, l1, l2, l3, some (.int x)] (st) = ab_res scr 165 d M 17 [l0, l1, l2, l3, some (.int x)] (.int x :: st) := ab_o_iload (ab_dc hc165 dX12_of_15) rfl
theorem q165_17 {v0 : Int32} : ab_res scr 165 d M 17 [l0, l1, l2, l3, l4] (.int v0 :: st) = ab_res scr 165 d M 18 [l0, l1, l2, l3, l4] (.long v0.toInt64 :: st) := ab_xg (ab_dc hc165 dX12_of_17) rfl rfl
theorem q165_18 : ab_res scr 165 d M 18 [l0, l1, l2, l3, l4] (st) = ab_res scr 165 d M 19 [l0, l1, l2, l3, l4] (.long 0 :: st) := ab_o_lconst (ab_dc hc165 dX12_of_18)
theorem q165_19 : ab_res scr 165 d M 19 [l0, l1, l2, l3, l4] (st) = ab_res scr 165 d M 22 [l0, l1, l2, l3, l4] (.long 6 :: st) := ab_o_ldc2_w (ab_dc hc165 dX12_of_19) hk165 lk_ko_12_278
theorem q165_22 {v0 : Int64} {v1 : Int64} {v2 : Int64} : ab_res scr 165 7 M 22 [l0, l1, l2, l3, l4] ([.long v0, .long v1, .long v2]) = (ab_ms scr 120 [.long v2, .long v1, .long v0] M).bind fun o => ab_res scr 165 7 o.1 25 [l0, l1, l2, l3, l4] (ab_pr o.2 []) := ab_o_static (ab_dc hc165 dX12_of_22) hk165 lk_ca_12_97 hm120 (Nat.le_of_ble_eq_true rfl) rfl rfl rfl rfl rfl
theorem q165_25 {v0 : Int32} : ab_res scr 165 d M 25 [l0, l1, l2, l3, l4] (.int v0 :: st) = if ¬ v0 = 0 then ab_res scr 165 d M 31 [l0, l1, l2, l3, l4] (st) else ab_res scr 165 d M 28 [l0, l1, l2, l3, l4] (st) := ab_o_br2 (off := 6) (ab_dc hc165 dX12_of_25) (by decide) rfl rfl
theorem q165_28 : ab_res scr 165 d M 28 [l0, l1, l2, l3, l4] (st) = ab_res scr 165 d M 30 [l0, l1, l2, l3, l4] (.int (-1000000) :: st) := ab_o_ldc (ab_dc hc165 dX12_of_28) hk165 lk_ko_12_171
theorem q165_30 {v0 : Int32} : ab_res scr 165 d M 30 [l0, l1, l2, l3, l4] ([.int v0]) = some (M, some (.int v0)) := ab_o_ireturn (ab_dc hc165 dX12_of_30) hr165 rfl
theorem q165_31 {xr : Nat} : ab_res scr 165 d M 31 [some (.ref xr), l1, l2, l3, l4] (st) = ab_res scr 165 d M 32 [some (.ref xr), l1, l2, l3, l4] (.ref xr :: st) := ab_o_aload_n (ab_dc hc165 dX12_of_31) rfl
theorem q165_32 {x : Int32} : ab_res scr 165 d M 32 [l0, some (.int x), l2, l3, l4] (st) = ab_res scr 165 d M 33 [l0, some (.int x), l2, l3, l4] (.int x :: st) := ab_o_iload_n (ab_dc hc165 dX12_of_32) rfl
theorem q165_33 {x : Int32} : ab_res scr 165 d M 33 [l0, l1, some (.int x), l3, l4] (st) = ab_res scr 165 d M 34 [l0, l1, some (.int x), l3, l4] (.int x :: st) := ab_o_iload_n (ab_dc hc165 dX12_of_33) rfl
theorem q165_34 {v0 : Int32} {v1 : Int32} {v2 : Nat} (hb : (ab_rc ab_L0 v2 = some 12) = True) : ab_res scr 165 7 M 34 [l0, l1, l2, l3, l4] ([.int v0, .int v1, .ref v2]) = (ab_ms scr 159 [.ref v2, .int v1, .int v0] M).bind fun o => ab_res scr 165 7 o.1 37 [l0, l1, l2, l3, l4] (ab_pr o.2 []) := ab_o_virtual (ab_dc hc165 dX12_of_34) hk165 lk_ca_12_286 hm159 (Nat.le_of_ble_eq_true rfl) rfl rfl rfl (of_eq_true hb) rfl rfl
theorem q165_37 {x : Int32} : ab_res scr 165 d M 37 [l0, l1, l2, l3, some (.int x)] (st) = ab_res scr 165 d M 39 [l0, l1, l2, l3, some (.int x)] (.int x :: st) := ab_o_iload (ab_dc hc165 dX12_of_37) rfl
theorem q165_76 {xr : Nat} : ab_res scr 165 d M 76 [some (.ref xr), l1, l2, l3, l4] (st) = ab_res scr 165 d M 77 [some (.ref xr), l1, l2, l3, l4] (.ref xr :: st) := ab_o_aload_n (ab_dc hc165 dX12_of_76) rfl
theorem q165_77 {v0 : Nat} : ab_res scr 165 d M 77 [l0, l1, l2, l3, l4] (.ref v0 :: st) = (ab_gF ab_L0 M v0 12 18).bind fun v => ab_res scr 165 d M 80 [l0, l1, l2, l3, l4] (v :: st) := ab_o_getfield (ab_dc hc165 dX12_of_77) hk165 lk_fl_12_35
theorem q165_80 {x : Int32} : ab_res scr 165 d M 80 [l0, l1, l2, some (.int x), l4] (st) = ab_res scr 165 d M 81 [l0, l1, l2, some (.int x), l4] (.int x :: st) := ab_o_iload_n (ab_dc hc165 dX12_of_80) rfl
theorem q165_81 {v0 : Int32} {v1 : Nat} : ab_res scr 165 d M 81 [l0, l1, l2, l3, l4] (.int v0 :: .ref v1 :: st) = (ab_ald scr ab_L0 M v1 .int v0).bind fun v => ab_res scr 165 d M 82 [l0, l1, l2, l3, l4] (.int v :: st) := ab_o_iaload (ab_dc hc165 dX12_of_81)
theorem q165_82 {v0 : Int32} : ab_res scr 165 d M 82 [l0, l1, l2, l3, l4] ([.int v0]) = some (M, some (.int v0)) := ab_o_ireturn (ab_dc hc165 dX12_of_82) hr165 rfl
theorem q165_83 {xr : Nat} : ab_res scr 165 d M 83 [some (.ref xr), l1, l2, l3, l4] (st) = ab_res scr 165 d M 84 [some (.ref xr), l1, l2, l3, l4] (.ref xr :: st) := ab_o_aload_n (ab_dc hc165 dX12_of_83) rfl
theorem q165_84 {v0 : Nat} : ab_res scr 165 d M 84 [l0, l1, l2, l3, l4] (.ref v0 :: st) = (ab_gF ab_L0 M v0 12 19).bind fun v => ab_res scr 165 d M 87 [l0, l1, l2, l3, l4] (v :: st) := ab_o_getfield (ab_dc hc165 dX12_of_84) hk165 lk_fl_12_38
theorem q165_87 {x : Int32} : ab_res scr 165 d M 87 [l0, l1, l2, some (.int x), l4] (st) = ab_res scr 165 d M 88 [l0, l1, l2, some (.int x), l4] (.int x :: st) := ab_o_iload_n (ab_dc hc165 dX12_of_87) rfl
theorem q165_88 {v0 : Int32} {v1 : Nat} : ab_res scr 165 d M 88 [l0, l1, l2, l3, l4] (.int v0 :: .ref v1 :: st) = (ab_ald scr ab_L0 M v1 .int v0).bind fun v => ab_res scr 165 d M 89 [l0, l1, l2, l3, l4] (.int v :: st) := ab_o_iaload (ab_dc hc165 dX12_of_88)
theorem q165_89 {v0 : Int32} : ab_res scr 165 d M 89 [l0, l1, l2, l3, l4] ([.int v0]) = some (M, some (.int v0)) := ab_o_ireturn (ab_dc hc165 dX12_of_89) hr165 rfl
theorem q165_90 {xr : Nat} : ab_res scr 165 d M 90 [some (.ref xr), l1, l2, l3, l4] (st) = ab_res scr 165 d M 91 [some (.ref xr), l1, l2, l3, l4] (.ref xr :: st) := ab_o_aload_n (ab_dc hc165 dX12_of_90) rfl
theorem q165_91 {v0 : Nat} : ab_res scr 165 d M 91 [l0, l1, l2, l3, l4] (.ref v0 :: st) = (ab_gF ab_L0 M v0 12 20).bind fun v => ab_res scr 165 d M 94 [l0, l1, l2, l3, l4] (v :: st) := ab_o_getfield (ab_dc hc165 dX12_of_91) hk165 lk_fl_12_41
theorem q165_94 {x : Int32} : ab_res scr 165 d M 94 [l0, l1, l2, some (.int x), l4] (st) = ab_res scr 165 d M 95 [l0, l1, l2, some (.int x), l4] (.int x :: st) := ab_o_iload_n (ab_dc hc165 dX12_of_94) rfl
theorem q165_95 {v0 : Int32} {v1 : Nat} : ab_res scr 165 d M 95 [l0, l1, l2, l3, l4] (.int v0 :: .ref v1 :: st) = (ab_ald scr ab_L0 M v1 .int v0).bind fun v => ab_res scr 165 d M 96 [l0, l1, l2, l3, l4] (.int v :: st) := ab_o_iaload (ab_dc hc165 dX12_of_95)
theorem q165_96 {v0 : Int32} : ab_res scr 165 d M 96 [l0, l1, l2, l3, l4] ([.int v0]) = some (M, some (.int v0)) := ab_o_ireturn (ab_dc hc165 dX12_of_96) hr165 rfl
theorem q165_97 {xr : Nat} : ab_res scr 165 d M 97 [some (.ref xr), l1, l2, l3, l4] (st) = ab_res scr 165 d M 98 [some (.ref xr), l1, l2, l3, l4] (.ref xr :: st) := ab_o_aload_n (ab_dc hc165 dX12_of_97) rfl
theorem q165_98 {v0 : Nat} : ab_res scr 165 d M 98 [l0, l1, l2, l3, l4] (.ref v0 :: st) = (ab_gF ab_L0 M v0 12 21).bind fun v => ab_res scr 165 d M 101 [l0, l1, l2, l3, l4] (v :: st) := ab_o_getfield (ab_dc hc165 dX12_of_98) hk165 lk_fl_12_44
theorem q165_101 {x : Int32} : ab_res scr 165 d M 101 [l0, l1, l2, some (.int x), l4] (st) = ab_res scr 165 d M 102 [l0, l1, l2, some (.int x), l4] (.int x :: st) := ab_o_iload_n (ab_dc hc165 dX12_of_101) rfl
theorem q165_102 {v0 : Int32} {v1 : Nat} : ab_res scr 165 d M 102 [l0, l1, l2, l3, l4] (.int v0 :: .ref v1 :: st) = (ab_ald scr ab_L0 M v1 .int v0).bind fun v => ab_res scr 165 d M 103 [l0, l1, l2, l3, l4] (.int v :: st) := ab_o_iaload (ab_dc hc165 dX12_of_102)
theorem q165_103 {v0 : Int32} : ab_res scr 165 d M 103 [l0, l1, l2, l3, l4] ([.int v0]) = some (M, some (.int v0)) := ab_o_ireturn (ab_dc hc165 dX12_of_103) hr165 rfl
theorem q165_104 {xr : Nat} : ab_res scr 165 d M 104 [some (.ref xr), l1, l2, l3, l4] (st) = ab_res scr 165 d M 105 [some (.ref xr), l1, l2, l3, l4] (.ref xr :: st) := ab_o_aload_n (ab_dc hc165 dX12_of_104) rfl
theorem q165_105 {x : Int32} : ab_res scr 165 d M 105 [l0, l1, l2, some (.int x), l4] (st) = ab_res scr 165 d M 106 [l0, l1, l2, some (.int x), l4] (.int x :: st) := ab_o_iload_n (ab_dc hc165 dX12_of_105) rfl
theorem q165_106 {v0 : Int32} {v1 : Nat} (hb : (ab_rc ab_L0 v1 = some 12) = True) : ab_res scr 165 7 M 106 [l0, l1, l2, l3, l4] ([.int v0, .ref v1]) = (ab_ms scr 141 [.ref v1, .int v0] M).bind fun o => ab_res scr 165 7 o.1 109 [l0, l1, l2, l3, l4] (ab_pr o.2 []) := ab_o_virtual (ab_dc hc165 dX12_of_106) hk165 lk_ca_12_209 hm141 (Nat.le_of_ble_eq_true rfl) rfl rfl rfl (of_eq_true hb) rfl rfl
theorem q165_109 {v0 : Int32} : ab_res scr 165 d M 109 [l0, l1, l2, l3, l4] ([.int v0]) = some (M, some (.int v0)) := ab_o_ireturn (ab_dc hc165 dX12_of_109) hr165 rfl
theorem q165_110 {xr : Nat} : ab_res scr 165 d M 110 [some (.ref xr), l1, l2, l3, l4] (st) = ab_res scr 165 d M 111 [some (.ref xr), l1, l2, l3, l4] (.ref xr :: st) := ab_o_aload_n (ab_dc hc165 dX12_of_110) rfl
theorem q165_111 {v0 : Nat} : ab_res scr 165 d M 111 [l0, l1, l2, l3, l4] (.ref v0 :: st) = (ab_gF ab_L0 M v0 12 23).bind fun v => ab_res scr 165 d M 114 [l0, l1, l2, l3, l4] (v :: st) := ab_o_getfield (ab_dc hc165 dX12_of_111) hk165 lk_fl_12_50
theorem q165_114 {x : Int32} : ab_res scr 165 d M 114 [l0, l1, l2, some (.int x), l4] (st) = ab_res scr 165 d M 115 [l0, l1, l2, some (.int x), l4] (.int x :: st) := ab_o_iload_n (ab_dc hc165 dX12_of_114) rfl
theorem q165_115 {v0 : Int32} {v1 : Nat} : ab_res scr 165 d M 115 [l0, l1, l2, l3, l4] (.int v0 :: .ref v1 :: st) = (ab_ald scr ab_L0 M v1 .int v0).bind fun v => ab_res scr 165 d M 116 [l0, l1, l2, l3, l4] (.int v :: st) := ab_o_iaload (ab_dc hc165 dX12_of_115)
theorem q165_116 {v0 : Int32} : ab_res scr 165 d M 116 [l0, l1, l2, l3, l4] ([.int v0]) = some (M, some (.int v0)) := ab_o_ireturn (ab_dc hc165 dX12_of_116) hr165 rfl
theorem q165_117 {xr : Nat} : ab_res scr 165 d M 117 [some (.ref xr), l1, l2, l3, l4] (st) = ab_res scr 165 d M 118 [some (.ref xr), l1, l2, l3, l4] (.ref xr :: st) := ab_o_aload_n (ab_dc hc165 dX12_of_117) rfl
theorem q165_118 {v0 : Nat} : ab_res scr 165 d M 118 [l0, l1, l2, l3, l4] (.ref v0 :: st) = (ab_gF ab_L0 M v0 12 22).bind fun v => ab_res scr 165 d M 121 [l0, l1, l2, l3, l4] (v :: st) := ab_o_getfield (ab_dc hc165 dX12_of_118) hk165 lk_fl_12_47
theorem q165_121 {x : Int32} : ab_res scr 165 d M 121 [l0, l1, l2, some (.int x), l4] (st) = ab_res scr 165 d M 122 [l0, l1, l2, some (.int x), l4] (.int x :: st) := ab_o_iload_n (ab_dc hc165 dX12_of_121) rfl
theorem q165_122 {v0 : Int32} {v1 : Nat} : ab_res scr 165 d M 122 [l0, l1, l2, l3, l4] (.int v0 :: .ref v1 :: st) = (ab_ald scr ab_L0 M v1 .int v0).bind fun v => ab_res scr 165 d M 123 [l0, l1, l2, l3, l4] (.int v :: st) := ab_o_iaload (ab_dc hc165 dX12_of_122)
theorem q165_123 {v0 : Int32} : ab_res scr 165 d M 123 [l0, l1, l2, l3, l4] ([.int v0]) = some (M, some (.int v0)) := ab_o_ireturn (ab_dc hc165 dX12_of_123) hr165 rfl
end Q165
section S165_39
variable {scr : Option (List Int32)} {d : Nat} {M : ab_M} {st : List Value} {l0 l1 l2 l3 l4 : Option Value}
theorem q165_39 {v0 : Int32} : ab_res scr 165 d M 39 [l0, l1, l2, l3, l4] (.int v0 :: st) = if v0 = 0 then ab_res scr 165 d M 76 [l0, l1, l2, l3, l4] (st) else if v0 = 1 then ab_res scr 165 d M 83 [l0, l1, l2, l3, l4] (st) else if v0 = 2 then ab_res scr 165 d M 90 [l0, l1, l2, l3, l4] (st) else if v0 = 3 then ab_res scr 165 d M 97 [l0, l1, l2, l3, l4] (st) else if v0 = 4 then ab_res scr 165 d M 104 [l0, l1, l2, l3, l4] (st) else if v0 = 5 then ab_res scr 165 d M 110 [l0, l1, l2, l3, l4] (st) else ab_res scr 165 d M 117 [l0, l1, l2, l3, l4] (st) := by
  by_cases h0 : v0 = 0
  · rw [if_pos h0, h0]
    exact ab_xg (ab_dc hc165 dX12_of_39) rfl rfl
  by_cases h1 : v0 = 1
  · rw [if_neg h0, if_pos h1, h1]
    exact ab_xg (ab_dc hc165 dX12_of_39) rfl rfl
  by_cases h2 : v0 = 2
  · rw [if_neg h0, if_neg h1, if_pos h2, h2]
    exact ab_xg (ab_dc hc165 dX12_of_39) rfl rfl
  by_cases h3 : v0 = 3
  · rw [if_neg h0, if_neg h1, if_neg h2, if_pos h3, h3]
    exact ab_xg (ab_dc hc165 dX12_of_39) rfl rfl
  by_cases h4 : v0 = 4
  · rw [if_neg h0, if_neg h1, if_neg h2, if_neg h3, if_pos h4, h4]
    exact ab_xg (ab_dc hc165 dX12_of_39) rfl rfl
  by_cases h5 : v0 = 5
  · rw [if_neg h0, if_neg h1, if_neg h2, if_neg h3, if_neg h4, if_pos h5, h5]
    exact ab_xg (ab_dc hc165 dX12_of_39) rfl rfl
  rw [if_neg h0, if_neg h1, if_neg h2, if_neg h3, if_neg h4, if_neg h5]
  have hx : v0.toInt < 0 ∨ 5 < v0.toInt := by
    have e0 : v0.toInt ≠ 0 := fun q => h0 (Int32.toInt_inj.mp (q.trans (by decide)))
    have e1 : v0.toInt ≠ 1 := fun q => h1 (Int32.toInt_inj.mp (q.trans (by decide)))
    have e2 : v0.toInt ≠ 2 := fun q => h2 (Int32.toInt_inj.mp (q.trans (by decide)))
    have e3 : v0.toInt ≠ 3 := fun q => h3 (Int32.toInt_inj.mp (q.trans (by decide)))
    have e4 : v0.toInt ≠ 4 := fun q => h4 (Int32.toInt_inj.mp (q.trans (by decide)))
    have e5 : v0.toInt ≠ 5 := fun q => h5 (Int32.toInt_inj.mp (q.trans (by decide)))
    omega
  refine ab_xg (ab_dc hc165 dX12_of_39) rfl ?_
  show (if v0.toInt < 0 ∨ 5 < v0.toInt then ab_jm ab_L0 M 39 (78) [l0, l1, l2, l3, l4] st else _) = _
  rw [if_pos hx]
  rfl
end S165_39
theorem hc166 : ab_code 166 = cX12_fairest := rfl
theorem hn166 : ab_nL 166 = 8 := rfl
theorem hk166 : ab_ky 166 = 12 := rfl
theorem hr166 : ab_ret 166 = some .int := rfl
section Q166
variable {scr : Option (List Int32)} {d : Nat} {M : ab_M} {st : List Value} {l0 l1 l2 l3 l4 l5 l6 l7 : Option Value}
theorem q166_0 {x : Int32} : ab_res scr 166 d M 0 [l0, l1, some (.int x), l3, l4, l5, l6, l7] (st) = ab_res scr 166 d M 1 [l0, l1, some (.int x), l3, l4, l5, l6, l7] (.int x :: st) := ab_o_iload_n (ab_dc hc166 dX12_fairest_0) rfl
theorem q166_1 {v0 : Int32} : ab_res scr 166 d M 1 [l0, l1, l2, l3, l4, l5, l6, l7] (.int v0 :: st) = ab_res scr 166 d M 2 [l0, l1, l2, l3, l4, l5, l6, l7] (.long v0.toInt64 :: st) := ab_xg (ab_dc hc166 dX12_fairest_1) rfl rfl
theorem q166_2 : ab_res scr 166 d M 2 [l0, l1, l2, l3, l4, l5, l6, l7] (st) = ab_res scr 166 d M 3 [l0, l1, l2, l3, l4, l5, l6, l7] (.long 0 :: st) := ab_o_lconst (ab_dc hc166 dX12_fairest_2)
theorem q166_3 : ab_res scr 166 d M 3 [l0, l1, l2, l3, l4, l5, l6, l7] (st) = ab_res scr 166 d M 6 [l0, l1, l2, l3, l4, l5, l6, l7] (.long 3 :: st) := ab_o_ldc2_w (ab_dc hc166 dX12_fairest_3) hk166 lk_ko_12_294
theorem q166_6 {v0 : Int64} {v1 : Int64} {v2 : Int64} : ab_res scr 166 7 M 6 [l0, l1, l2, l3, l4, l5, l6, l7] ([.long v0, .long v1, .long v2]) = (ab_ms scr 120 [.long v2, .long v1, .long v0] M).bind fun o => ab_res scr 166 7 o.1 9 [l0, l1, l2, l3, l4, l5, l6, l7] (ab_pr o.2 []) := ab_o_static (ab_dc hc166 dX12_fairest_6) hk166 lk_ca_12_97 hm120 (Nat.le_of_ble_eq_true rfl) rfl rfl rfl rfl rfl
theorem q166_9 {v0 : Int32} : ab_res scr 166 d M 9 [l0, l1, l2, l3, l4, l5, l6, l7] (.int v0 :: st) = if ¬ v0 = 0 then ab_res scr 166 d M 14 [l0, l1, l2, l3, l4, l5, l6, l7] (st) else ab_res scr 166 d M 12 [l0, l1, l2, l3, l4, l5, l6, l7] (st) := ab_o_br2 (off := 5) (ab_dc hc166 dX12_fairest_9) (by decide) rfl rfl
theorem q166_12 : ab_res scr 166 d M 12 [l0, l1, l2, l3, l4, l5, l6, l7] (st) = ab_res scr 166 d M 13 [l0, l1, l2, l3, l4, l5, l6, l7] (.int (-1) :: st) := (ab_o_iconst (ab_dc hc166 dX12_fairest_12)).trans (by rw [ki_iconst_m1])
theorem q166_13 {v0 : Int32} : ab_res scr 166 d M 13 [l0, l1, l2, l3, l4, l5, l6, l7] ([.int v0]) = some (M, some (.int v0)) := ab_o_ireturn (ab_dc hc166 dX12_fairest_13) hr166 rfl
theorem q166_14 {xr : Nat} : ab_res scr 166 d M 14 [some (.ref xr), l1, l2, l3, l4, l5, l6, l7] (st) = ab_res scr 166 d M 15 [some (.ref xr), l1, l2, l3, l4, l5, l6, l7] (.ref xr :: st) := ab_o_aload_n (ab_dc hc166 dX12_fairest_14) rfl
theorem q166_15 {v0 : Nat} : ab_res scr 166 d M 15 [l0, l1, l2, l3, l4, l5, l6, l7] (.ref v0 :: st) = (ab_gF ab_L0 M v0 12 11).bind fun v => ab_res scr 166 d M 18 [l0, l1, l2, l3, l4, l5, l6, l7] (v :: st) := ab_o_getfield (ab_dc hc166 dX12_fairest_15) hk166 lk_fl_12_19
theorem q166_18 : ab_res scr 166 d M 18 [l0, l1, l2, l3, l4, l5, l6, l7] (st) = ab_res scr 166 d M 20 [l0, l1, l2, l3, l4, l5, l6, l7] (.int 72 :: st) := (ab_o_bipush (ab_dc hc166 dX12_fairest_18)).trans (by rw [ki_bipush_72])
theorem q166_20 {v0 : Int32} {v1 : Nat} : ab_res scr 166 d M 20 [l0, l1, l2, l3, l4, l5, l6, l7] (.int v0 :: .ref v1 :: st) = (ab_ald scr ab_L0 M v1 .int v0).bind fun v => ab_res scr 166 d M 21 [l0, l1, l2, l3, l4, l5, l6, l7] (.int v :: st) := ab_o_iaload (ab_dc hc166 dX12_fairest_20)
theorem q166_21 {v0 : Int32} : ab_res scr 166 d M 21 [l0, l1, l2, l3, l4, l5, l6, l7] (.int v0 :: st) = if ¬ v0 = 0 then ab_res scr 166 d M 27 [l0, l1, l2, l3, l4, l5, l6, l7] (st) else ab_res scr 166 d M 24 [l0, l1, l2, l3, l4, l5, l6, l7] (st) := ab_o_br2 (off := 6) (ab_dc hc166 dX12_fairest_21) (by decide) rfl rfl
theorem q166_24 : ab_res scr 166 d M 24 [l0, l1, l2, l3, l4, l5, l6, l7] (st) = ab_res scr 166 d M 26 [l0, l1, l2, l3, l4, l5, l6, l7] (.int (-2) :: st) := (ab_o_bipush (ab_dc hc166 dX12_fairest_24)).trans (by rw [ki_bipush_m2])
theorem q166_26 {v0 : Int32} : ab_res scr 166 d M 26 [l0, l1, l2, l3, l4, l5, l6, l7] ([.int v0]) = some (M, some (.int v0)) := ab_o_ireturn (ab_dc hc166 dX12_fairest_26) hr166 rfl
theorem q166_27 : ab_res scr 166 d M 27 [l0, l1, l2, l3, l4, l5, l6, l7] (st) = ab_res scr 166 d M 28 [l0, l1, l2, l3, l4, l5, l6, l7] (.int 0 :: st) := (ab_o_iconst (ab_dc hc166 dX12_fairest_27)).trans (by rw [ki_iconst_0])
theorem q166_28 {v0 : Int32} : ab_res scr 166 d M 28 [l0, l1, l2, l3, l4, l5, l6, l7] (.int v0 :: st) = ab_res scr 166 d M 29 [l0, l1, ab_nl l2, some (.int v0), l4, l5, l6, l7] (st) := (ab_o_st1 (k := 3) (ab_dc hc166 dX12_fairest_28) (Or.inr (Or.inr (Or.inl ⟨3, rfl, rfl, rfl, ⟨_, rfl⟩⟩))) hn166 (by decide)).trans (ab_kl1 [l0, l1] _ l2 rfl rfl)
theorem q166_29 : ab_res scr 166 d M 29 [l0, l1, l2, l3, l4, l5, l6, l7] (st) = ab_res scr 166 d M 30 [l0, l1, l2, l3, l4, l5, l6, l7] (.int 0 :: st) := (ab_o_iconst (ab_dc hc166 dX12_fairest_29)).trans (by rw [ki_iconst_0])
theorem q166_30 {v0 : Int32} : ab_res scr 166 d M 30 [l0, l1, l2, l3, l4, l5, l6, l7] (.int v0 :: st) = ab_res scr 166 d M 32 [l0, l1, l2, ab_nl l3, some (.int v0), l5, l6, l7] (st) := (ab_o_st1 (k := 4) (ab_dc hc166 dX12_fairest_30) (Or.inl ⟨rfl, rfl, ⟨_, rfl⟩⟩) hn166 (by decide)).trans (ab_kl1 [l0, l1, l2] _ l3 rfl rfl)
theorem q166_32 : ab_res scr 166 d M 32 [l0, l1, l2, l3, l4, l5, l6, l7] (st) = ab_res scr 166 d M 33 [l0, l1, l2, l3, l4, l5, l6, l7] (.int 0 :: st) := (ab_o_iconst (ab_dc hc166 dX12_fairest_32)).trans (by rw [ki_iconst_0])
theorem q166_33 {v0 : Int32} : ab_res scr 166 d M 33 [l0, l1, l2, l3, l4, l5, l6, l7] (.int v0 :: st) = ab_res scr 166 d M 35 [l0, l1, l2, l3, ab_nl l4, some (.int v0), l6, l7] (st) := (ab_o_st1 (k := 5) (ab_dc hc166 dX12_fairest_33) (Or.inl ⟨rfl, rfl, ⟨_, rfl⟩⟩) hn166 (by decide)).trans (ab_kl1 [l0, l1, l2, l3] _ l4 rfl rfl)
theorem q166_35 {x : Int32} : ab_res scr 166 d M 35 [l0, l1, l2, l3, l4, some (.int x), l6, l7] (st) = ab_res scr 166 d M 37 [l0, l1, l2, l3, l4, some (.int x), l6, l7] (.int x :: st) := ab_o_iload (ab_dc hc166 dX12_fairest_35) rfl
theorem q166_37 : ab_res scr 166 d M 37 [l0, l1, l2, l3, l4, l5, l6, l7] (st) = ab_res scr 166 d M 39 [l0, l1, l2, l3, l4, l5, l6, l7] (.int 7 :: st) := (ab_o_bipush (ab_dc hc166 dX12_fairest_37)).trans (by rw [ki_bipush_7])
theorem q166_39 {v0 : Int32} {v1 : Int32} : ab_res scr 166 d M 39 [l0, l1, l2, l3, l4, l5, l6, l7] (.int v0 :: .int v1 :: st) = if v0 ≤ v1 then ab_res scr 166 d M 119 [l0, l1, l2, l3, l4, l5, l6, l7] (st) else ab_res scr 166 d M 42 [l0, l1, l2, l3, l4, l5, l6, l7] (st) := ab_o_br2 (off := 80) (ab_dc hc166 dX12_fairest_39) (by decide) rfl rfl
theorem q166_42 {xr : Nat} : ab_res scr 166 d M 42 [some (.ref xr), l1, l2, l3, l4, l5, l6, l7] (st) = ab_res scr 166 d M 43 [some (.ref xr), l1, l2, l3, l4, l5, l6, l7] (.ref xr :: st) := ab_o_aload_n (ab_dc hc166 dX12_fairest_42) rfl
theorem q166_43 {x : Int32} : ab_res scr 166 d M 43 [l0, l1, l2, l3, l4, some (.int x), l6, l7] (st) = ab_res scr 166 d M 45 [l0, l1, l2, l3, l4, some (.int x), l6, l7] (.int x :: st) := ab_o_iload (ab_dc hc166 dX12_fairest_43) rfl
theorem q166_45 {x : Int32} : ab_res scr 166 d M 45 [l0, some (.int x), l2, l3, l4, l5, l6, l7] (st) = ab_res scr 166 d M 46 [l0, some (.int x), l2, l3, l4, l5, l6, l7] (.int x :: st) := ab_o_iload_n (ab_dc hc166 dX12_fairest_45) rfl
theorem q166_46 {v0 : Int32} {v1 : Int32} {v2 : Nat} (hb : (ab_rc ab_L0 v2 = some 12) = True) : ab_res scr 166 7 M 46 [l0, l1, l2, l3, l4, l5, l6, l7] ([.int v0, .int v1, .ref v2]) = (ab_ms scr 159 [.ref v2, .int v1, .int v0] M).bind fun o => ab_res scr 166 7 o.1 49 [l0, l1, l2, l3, l4, l5, l6, l7] (ab_pr o.2 []) := ab_o_virtual (ab_dc hc166 dX12_fairest_46) hk166 lk_ca_12_286 hm159 (Nat.le_of_ble_eq_true rfl) rfl rfl rfl (of_eq_true hb) rfl rfl
theorem q166_49 {x : Int32} : ab_res scr 166 d M 49 [l0, l1, some (.int x), l3, l4, l5, l6, l7] (st) = ab_res scr 166 d M 50 [l0, l1, some (.int x), l3, l4, l5, l6, l7] (.int x :: st) := ab_o_iload_n (ab_dc hc166 dX12_fairest_49) rfl
theorem q166_50 : ab_res scr 166 d M 50 [l0, l1, l2, l3, l4, l5, l6, l7] (st) = ab_res scr 166 d M 51 [l0, l1, l2, l3, l4, l5, l6, l7] (.int 2 :: st) := (ab_o_iconst (ab_dc hc166 dX12_fairest_50)).trans (by rw [ki_iconst_2])
theorem q166_51 {v0 : Int32} {v1 : Int32} : ab_res scr 166 d M 51 [l0, l1, l2, l3, l4, l5, l6, l7] (.int v0 :: .int v1 :: st) = if v0 = 0 then none else ab_res scr 166 d M 52 [l0, l1, l2, l3, l4, l5, l6, l7] (.int (v1 - v1 / v0 * v0) :: st) := ab_o_div (ab_dc hc166 dX12_fairest_51) (Or.inr ⟨rfl, rfl⟩)
theorem q166_52 {v0 : Int32} : ab_res scr 166 d M 52 [l0, l1, l2, l3, l4, l5, l6, l7] (.int v0 :: st) = if ¬ v0 = 0 then ab_res scr 166 d M 62 [l0, l1, l2, l3, l4, l5, l6, l7] (st) else ab_res scr 166 d M 55 [l0, l1, l2, l3, l4, l5, l6, l7] (st) := ab_o_br2 (off := 10) (ab_dc hc166 dX12_fairest_52) (by decide) rfl rfl
theorem q166_55 {xr : Nat} : ab_res scr 166 d M 55 [some (.ref xr), l1, l2, l3, l4, l5, l6, l7] (st) = ab_res scr 166 d M 56 [some (.ref xr), l1, l2, l3, l4, l5, l6, l7] (.ref xr :: st) := ab_o_aload_n (ab_dc hc166 dX12_fairest_55) rfl
theorem q166_56 {v0 : Nat} (hb : (ab_rc ab_L0 v0 = some 12) = True) : ab_res scr 166 7 M 56 [l0, l1, l2, l3, l4, l5, l6, l7] ([.ref v0]) = (ab_ms scr 162 [.ref v0] M).bind fun o => ab_res scr 166 7 o.1 59 [l0, l1, l2, l3, l4, l5, l6, l7] (ab_pr o.2 []) := ab_o_virtual (ab_dc hc166 dX12_fairest_56) hk166 lk_ca_12_289 hm162 (Nat.le_of_ble_eq_true rfl) rfl rfl rfl (of_eq_true hb) rfl rfl
theorem q166_59 : ab_res scr 166 d M 59 [l0, l1, l2, l3, l4, l5, l6, l7] (st) = ab_res scr 166 d M 66 [l0, l1, l2, l3, l4, l5, l6, l7] (st) := ab_o_goto (ab_dc hc166 dX12_fairest_59) (by decide)
theorem q166_62 {xr : Nat} : ab_res scr 166 d M 62 [some (.ref xr), l1, l2, l3, l4, l5, l6, l7] (st) = ab_res scr 166 d M 63 [some (.ref xr), l1, l2, l3, l4, l5, l6, l7] (.ref xr :: st) := ab_o_aload_n (ab_dc hc166 dX12_fairest_62) rfl
theorem q166_63 {v0 : Nat} : ab_res scr 166 d M 63 [l0, l1, l2, l3, l4, l5, l6, l7] (.ref v0 :: st) = (ab_gF ab_L0 M v0 12 32).bind fun v => ab_res scr 166 d M 66 [l0, l1, l2, l3, l4, l5, l6, l7] (v :: st) := ab_o_getfield (ab_dc hc166 dX12_fairest_63) hk166 lk_fl_12_203
theorem q166_66 {v0 : Int32} : ab_res scr 166 d M 66 [l0, l1, l2, l3, l4, l5, l6, l7] (.int v0 :: st) = ab_res scr 166 d M 68 [l0, l1, l2, l3, l4, ab_nl l5, some (.int v0), l7] (st) := (ab_o_st1 (k := 6) (ab_dc hc166 dX12_fairest_66) (Or.inl ⟨rfl, rfl, ⟨_, rfl⟩⟩) hn166 (by decide)).trans (ab_kl1 [l0, l1, l2, l3, l4] _ l5 rfl rfl)
theorem q166_68 {x : Int32} : ab_res scr 166 d M 68 [l0, l1, l2, l3, l4, some (.int x), l6, l7] (st) = ab_res scr 166 d M 70 [l0, l1, l2, l3, l4, some (.int x), l6, l7] (.int x :: st) := ab_o_iload (ab_dc hc166 dX12_fairest_68) rfl
theorem q166_70 {v0 : Int32} : ab_res scr 166 d M 70 [l0, l1, l2, l3, l4, l5, l6, l7] (.int v0 :: st) = if v0 = 0 then ab_res scr 166 d M 80 [l0, l1, l2, l3, l4, l5, l6, l7] (st) else ab_res scr 166 d M 73 [l0, l1, l2, l3, l4, l5, l6, l7] (st) := ab_o_br2 (off := 10) (ab_dc hc166 dX12_fairest_70) (by decide) rfl rfl
theorem q166_73 {x : Int32} : ab_res scr 166 d M 73 [l0, l1, l2, l3, l4, l5, some (.int x), l7] (st) = ab_res scr 166 d M 75 [l0, l1, l2, l3, l4, l5, some (.int x), l7] (.int x :: st) := ab_o_iload (ab_dc hc166 dX12_fairest_73) rfl
theorem q166_75 {x : Int32} : ab_res scr 166 d M 75 [l0, l1, l2, l3, some (.int x), l5, l6, l7] (st) = ab_res scr 166 d M 77 [l0, l1, l2, l3, some (.int x), l5, l6, l7] (.int x :: st) := ab_o_iload (ab_dc hc166 dX12_fairest_75) rfl
theorem q166_77 {v0 : Int32} {v1 : Int32} : ab_res scr 166 d M 77 [l0, l1, l2, l3, l4, l5, l6, l7] (.int v0 :: .int v1 :: st) = if v0 ≤ v1 then ab_res scr 166 d M 84 [l0, l1, l2, l3, l4, l5, l6, l7] (st) else ab_res scr 166 d M 80 [l0, l1, l2, l3, l4, l5, l6, l7] (st) := ab_o_br2 (off := 7) (ab_dc hc166 dX12_fairest_77) (by decide) rfl rfl
theorem q166_80 : ab_res scr 166 d M 80 [l0, l1, l2, l3, l4, l5, l6, l7] (st) = ab_res scr 166 d M 81 [l0, l1, l2, l3, l4, l5, l6, l7] (.int 1 :: st) := (ab_o_iconst (ab_dc hc166 dX12_fairest_80)).trans (by rw [ki_iconst_1])
theorem q166_81 : ab_res scr 166 d M 81 [l0, l1, l2, l3, l4, l5, l6, l7] (st) = ab_res scr 166 d M 85 [l0, l1, l2, l3, l4, l5, l6, l7] (st) := ab_o_goto (ab_dc hc166 dX12_fairest_81) (by decide)
theorem q166_84 : ab_res scr 166 d M 84 [l0, l1, l2, l3, l4, l5, l6, l7] (st) = ab_res scr 166 d M 85 [l0, l1, l2, l3, l4, l5, l6, l7] (.int 0 :: st) := (ab_o_iconst (ab_dc hc166 dX12_fairest_84)).trans (by rw [ki_iconst_0])
theorem q166_85 {v0 : Int32} : ab_res scr 166 d M 85 [l0, l1, l2, l3, l4, l5, l6, l7] (.int v0 :: st) = ab_res scr 166 d M 87 [l0, l1, l2, l3, l4, l5, ab_nl l6, some (.int v0)] (st) := (ab_o_st1 (k := 7) (ab_dc hc166 dX12_fairest_85) (Or.inl ⟨rfl, rfl, ⟨_, rfl⟩⟩) hn166 (by decide)).trans (ab_kl1 [l0, l1, l2, l3, l4, l5] _ l6 rfl rfl)
theorem q166_87 {x : Int32} : ab_res scr 166 d M 87 [l0, l1, l2, l3, l4, l5, l6, some (.int x)] (st) = ab_res scr 166 d M 89 [l0, l1, l2, l3, l4, l5, l6, some (.int x)] (.int x :: st) := ab_o_iload (ab_dc hc166 dX12_fairest_87) rfl
theorem q166_89 {v0 : Int32} : ab_res scr 166 d M 89 [l0, l1, l2, l3, l4, l5, l6, l7] (.int v0 :: st) = if v0 = 0 then ab_res scr 166 d M 97 [l0, l1, l2, l3, l4, l5, l6, l7] (st) else ab_res scr 166 d M 92 [l0, l1, l2, l3, l4, l5, l6, l7] (st) := ab_o_br2 (off := 8) (ab_dc hc166 dX12_fairest_89) (by decide) rfl rfl
theorem q166_92 {x : Int32} : ab_res scr 166 d M 92 [l0, l1, l2, l3, l4, some (.int x), l6, l7] (st) = ab_res scr 166 d M 94 [l0, l1, l2, l3, l4, some (.int x), l6, l7] (.int x :: st) := ab_o_iload (ab_dc hc166 dX12_fairest_92) rfl
theorem q166_94 : ab_res scr 166 d M 94 [l0, l1, l2, l3, l4, l5, l6, l7] (st) = ab_res scr 166 d M 98 [l0, l1, l2, l3, l4, l5, l6, l7] (st) := ab_o_goto (ab_dc hc166 dX12_fairest_94) (by decide)
theorem q166_97 {x : Int32} : ab_res scr 166 d M 97 [l0, l1, l2, some (.int x), l4, l5, l6, l7] (st) = ab_res scr 166 d M 98 [l0, l1, l2, some (.int x), l4, l5, l6, l7] (.int x :: st) := ab_o_iload_n (ab_dc hc166 dX12_fairest_97) rfl
theorem q166_98 {v0 : Int32} : ab_res scr 166 d M 98 [l0, l1, l2, l3, l4, l5, l6, l7] (.int v0 :: st) = ab_res scr 166 d M 99 [l0, l1, ab_nl l2, some (.int v0), l4, l5, l6, l7] (st) := (ab_o_st1 (k := 3) (ab_dc hc166 dX12_fairest_98) (Or.inr (Or.inr (Or.inl ⟨3, rfl, rfl, rfl, ⟨_, rfl⟩⟩))) hn166 (by decide)).trans (ab_kl1 [l0, l1] _ l2 rfl rfl)
theorem q166_99 {x : Int32} : ab_res scr 166 d M 99 [l0, l1, l2, l3, l4, l5, l6, some (.int x)] (st) = ab_res scr 166 d M 101 [l0, l1, l2, l3, l4, l5, l6, some (.int x)] (.int x :: st) := ab_o_iload (ab_dc hc166 dX12_fairest_99) rfl
theorem q166_101 {v0 : Int32} : ab_res scr 166 d M 101 [l0, l1, l2, l3, l4, l5, l6, l7] (.int v0 :: st) = if v0 = 0 then ab_res scr 166 d M 109 [l0, l1, l2, l3, l4, l5, l6, l7] (st) else ab_res scr 166 d M 104 [l0, l1, l2, l3, l4, l5, l6, l7] (st) := ab_o_br2 (off := 8) (ab_dc hc166 dX12_fairest_101) (by decide) rfl rfl
theorem q166_104 {x : Int32} : ab_res scr 166 d M 104 [l0, l1, l2, l3, l4, l5, some (.int x), l7] (st) = ab_res scr 166 d M 106 [l0, l1, l2, l3, l4, l5, some (.int x), l7] (.int x :: st) := ab_o_iload (ab_dc hc166 dX12_fairest_104) rfl
theorem q166_106 : ab_res scr 166 d M 106 [l0, l1, l2, l3, l4, l5, l6, l7] (st) = ab_res scr 166 d M 111 [l0, l1, l2, l3, l4, l5, l6, l7] (st) := ab_o_goto (ab_dc hc166 dX12_fairest_106) (by decide)
theorem q166_109 {x : Int32} : ab_res scr 166 d M 109 [l0, l1, l2, l3, some (.int x), l5, l6, l7] (st) = ab_res scr 166 d M 111 [l0, l1, l2, l3, some (.int x), l5, l6, l7] (.int x :: st) := ab_o_iload (ab_dc hc166 dX12_fairest_109) rfl
theorem q166_111 {v0 : Int32} : ab_res scr 166 d M 111 [l0, l1, l2, l3, l4, l5, l6, l7] (.int v0 :: st) = ab_res scr 166 d M 113 [l0, l1, l2, ab_nl l3, some (.int v0), l5, l6, l7] (st) := (ab_o_st1 (k := 4) (ab_dc hc166 dX12_fairest_111) (Or.inl ⟨rfl, rfl, ⟨_, rfl⟩⟩) hn166 (by decide)).trans (ab_kl1 [l0, l1, l2] _ l3 rfl rfl)
theorem q166_113 {x : Int32} : ab_res scr 166 d M 113 [l0, l1, l2, l3, l4, some (.int x), l6, l7] (st) = ab_res scr 166 d M 116 [l0, l1, l2, l3, ab_nl l4, some (.int (x + 1)), l6, l7] (st) := (ab_o_iinc (k := 5) (ab_dc hc166 dX12_fairest_113) hn166 (by decide) rfl).trans (by rw [ki_iconst_1]; exact ab_kl1 [l0, l1, l2, l3] _ l4 rfl rfl)
theorem q166_116 : ab_res scr 166 d M 116 [l0, l1, l2, l3, l4, l5, l6, l7] (st) = ab_res scr 166 d M 35 [l0, l1, l2, l3, l4, l5, l6, l7] (st) := ab_o_goto (ab_dc hc166 dX12_fairest_116) (by decide)
theorem q166_119 {x : Int32} : ab_res scr 166 d M 119 [l0, l1, some (.int x), l3, l4, l5, l6, l7] (st) = ab_res scr 166 d M 120 [l0, l1, some (.int x), l3, l4, l5, l6, l7] (.int x :: st) := ab_o_iload_n (ab_dc hc166 dX12_fairest_119) rfl
theorem q166_120 : ab_res scr 166 d M 120 [l0, l1, l2, l3, l4, l5, l6, l7] (st) = ab_res scr 166 d M 121 [l0, l1, l2, l3, l4, l5, l6, l7] (.int 2 :: st) := (ab_o_iconst (ab_dc hc166 dX12_fairest_120)).trans (by rw [ki_iconst_2])
theorem q166_121 {v0 : Int32} {v1 : Int32} : ab_res scr 166 d M 121 [l0, l1, l2, l3, l4, l5, l6, l7] (.int v0 :: .int v1 :: st) = if v0 ≤ v1 then ab_res scr 166 d M 128 [l0, l1, l2, l3, l4, l5, l6, l7] (st) else ab_res scr 166 d M 124 [l0, l1, l2, l3, l4, l5, l6, l7] (st) := ab_o_br2 (off := 7) (ab_dc hc166 dX12_fairest_121) (by decide) rfl rfl
theorem q166_124 {x : Int32} : ab_res scr 166 d M 124 [l0, l1, l2, some (.int x), l4, l5, l6, l7] (st) = ab_res scr 166 d M 125 [l0, l1, l2, some (.int x), l4, l5, l6, l7] (.int x :: st) := ab_o_iload_n (ab_dc hc166 dX12_fairest_124) rfl
theorem q166_125 : ab_res scr 166 d M 125 [l0, l1, l2, l3, l4, l5, l6, l7] (st) = ab_res scr 166 d M 130 [l0, l1, l2, l3, l4, l5, l6, l7] (st) := ab_o_goto (ab_dc hc166 dX12_fairest_125) (by decide)
theorem q166_128 {x : Int32} : ab_res scr 166 d M 128 [l0, l1, l2, l3, some (.int x), l5, l6, l7] (st) = ab_res scr 166 d M 130 [l0, l1, l2, l3, some (.int x), l5, l6, l7] (.int x :: st) := ab_o_iload (ab_dc hc166 dX12_fairest_128) rfl
theorem q166_130 {v0 : Int32} : ab_res scr 166 d M 130 [l0, l1, l2, l3, l4, l5, l6, l7] ([.int v0]) = some (M, some (.int v0)) := ab_o_ireturn (ab_dc hc166 dX12_fairest_130) hr166 rfl
end Q166
theorem hc167 : ab_code 167 = cX12_layFree := rfl
theorem hn167 : ab_nL 167 = 4 := rfl
theorem hk167 : ab_ky 167 = 12 := rfl
theorem hr167 : ab_ret 167 = some .int := rfl
section Q167
variable {scr : Option (List Int32)} {d : Nat} {M : ab_M} {st : List Value} {l0 l1 l2 l3 : Option Value}
theorem q167_0 {xr : Nat} : ab_res scr 167 d M 0 [some (.ref xr), l1, l2, l3] (st) = ab_res scr 167 d M 1 [some (.ref xr), l1, l2, l3] (.ref xr :: st) := ab_o_aload_n (ab_dc hc167 dX12_layFree_0) rfl
theorem q167_1 : ab_res scr 167 d M 1 [l0, l1, l2, l3] (st) = ab_res scr 167 d M 2 [l0, l1, l2, l3] (.int 1 :: st) := (ab_o_iconst (ab_dc hc167 dX12_layFree_1)).trans (by rw [ki_iconst_1])
theorem q167_2 {v0 : Int32} {v1 : Nat} (hp : (ab_pt v1 12 34 v0 = true) = True) : ab_res scr 167 d M 2 [l0, l1, l2, l3] (.int v0 :: .ref v1 :: st) = ab_res scr 167 d (ab_up M v1 34 v0) 5 [l0, l1, l2, l3] (st) := ab_o_putfield (ab_dc hc167 dX12_layFree_2) hk167 lk_fl_12_218 (of_eq_true hp)
theorem q167_5 {xr : Nat} : ab_res scr 167 d M 5 [some (.ref xr), l1, l2, l3] (st) = ab_res scr 167 d M 6 [some (.ref xr), l1, l2, l3] (.ref xr :: st) := ab_o_aload_n (ab_dc hc167 dX12_layFree_5) rfl
theorem q167_6 : ab_res scr 167 d M 6 [l0, l1, l2, l3] (st) = ab_res scr 167 d M 7 [l0, l1, l2, l3] (.int 0 :: st) := (ab_o_iconst (ab_dc hc167 dX12_layFree_6)).trans (by rw [ki_iconst_0])
theorem q167_7 {v0 : Int32} {v1 : Nat} (hb : (ab_rc ab_L0 v1 = some 12) = True) : ab_res scr 167 6 M 7 [l0, l1, l2, l3] ([.int v0, .ref v1]) = (ab_ms scr 139 [.ref v1, .int v0] M).bind fun o => ab_res scr 167 6 o.1 10 [l0, l1, l2, l3] (ab_pr o.2 []) := ab_o_virtual (ab_dc hc167 dX12_layFree_7) hk167 lk_ca_12_272 hm139 (Nat.le_of_ble_eq_true rfl) rfl rfl rfl (of_eq_true hb) rfl rfl
theorem q167_10 {xr : Nat} : ab_res scr 167 d M 10 [some (.ref xr), l1, l2, l3] (st) = ab_res scr 167 d M 11 [some (.ref xr), l1, l2, l3] (.ref xr :: st) := ab_o_aload_n (ab_dc hc167 dX12_layFree_10) rfl
theorem q167_11 : ab_res scr 167 d M 11 [l0, l1, l2, l3] (st) = ab_res scr 167 d M 12 [l0, l1, l2, l3] (.int 0 :: st) := (ab_o_iconst (ab_dc hc167 dX12_layFree_11)).trans (by rw [ki_iconst_0])
theorem q167_12 {v0 : Int32} {v1 : Nat} (hb : (ab_rc ab_L0 v1 = some 12) = True) : ab_res scr 167 6 M 12 [l0, l1, l2, l3] ([.int v0, .ref v1]) = (ab_ms scr 158 [.ref v1, .int v0] M).bind fun o => ab_res scr 167 6 o.1 15 [l0, l1, l2, l3] (ab_pr o.2 []) := ab_o_virtual (ab_dc hc167 dX12_layFree_12) hk167 lk_ca_12_275 hm158 (Nat.le_of_ble_eq_true rfl) rfl rfl rfl (of_eq_true hb) rfl rfl
theorem q167_15 {xr : Nat} : ab_res scr 167 d M 15 [some (.ref xr), l1, l2, l3] (st) = ab_res scr 167 d M 16 [some (.ref xr), l1, l2, l3] (.ref xr :: st) := ab_o_aload_n (ab_dc hc167 dX12_layFree_15) rfl
theorem q167_16 : ab_res scr 167 d M 16 [l0, l1, l2, l3] (st) = ab_res scr 167 d M 17 [l0, l1, l2, l3] (.int 0 :: st) := (ab_o_iconst (ab_dc hc167 dX12_layFree_16)).trans (by rw [ki_iconst_0])
theorem q167_17 {v0 : Int32} {v1 : Nat} (hp : (ab_pt v1 12 34 v0 = true) = True) : ab_res scr 167 d M 17 [l0, l1, l2, l3] (.int v0 :: .ref v1 :: st) = ab_res scr 167 d (ab_up M v1 34 v0) 20 [l0, l1, l2, l3] (st) := ab_o_putfield (ab_dc hc167 dX12_layFree_17) hk167 lk_fl_12_218 (of_eq_true hp)
theorem q167_20 {xr : Nat} : ab_res scr 167 d M 20 [some (.ref xr), l1, l2, l3] (st) = ab_res scr 167 d M 21 [some (.ref xr), l1, l2, l3] (.ref xr :: st) := ab_o_aload_n (ab_dc hc167 dX12_layFree_20) rfl
theorem q167_21 {v0 : Nat} : ab_res scr 167 d M 21 [l0, l1, l2, l3] (.ref v0 :: st) = (ab_gF ab_L0 M v0 12 33).bind fun v => ab_res scr 167 d M 24 [l0, l1, l2, l3] (v :: st) := ab_o_getfield (ab_dc hc167 dX12_layFree_21) hk167 lk_fl_12_206
theorem q167_24 {v0 : Int32} : ab_res scr 167 d M 24 [l0, l1, l2, l3] (.int v0 :: st) = if v0 ≤ 0 then ab_res scr 167 d M 32 [l0, l1, l2, l3] (st) else ab_res scr 167 d M 27 [l0, l1, l2, l3] (st) := ab_o_br2 (off := 8) (ab_dc hc167 dX12_layFree_24) (by decide) rfl rfl
theorem q167_27 : ab_res scr 167 d M 27 [l0, l1, l2, l3] (st) = ab_res scr 167 d M 29 [l0, l1, l2, l3] (.int (-4) :: st) := (ab_o_bipush (ab_dc hc167 dX12_layFree_27)).trans (by rw [ki_bipush_m4])
theorem q167_29 : ab_res scr 167 d M 29 [l0, l1, l2, l3] (st) = ab_res scr 167 d M 33 [l0, l1, l2, l3] (st) := ab_o_goto (ab_dc hc167 dX12_layFree_29) (by decide)
theorem q167_32 : ab_res scr 167 d M 32 [l0, l1, l2, l3] (st) = ab_res scr 167 d M 33 [l0, l1, l2, l3] (.int 0 :: st) := (ab_o_iconst (ab_dc hc167 dX12_layFree_32)).trans (by rw [ki_iconst_0])
theorem q167_33 {v0 : Int32} : ab_res scr 167 d M 33 [l0, l1, l2, l3] (.int v0 :: st) = ab_res scr 167 d M 34 [ab_nl l0, some (.int v0), l2, l3] (st) := (ab_o_st1 (k := 1) (ab_dc hc167 dX12_layFree_33) (Or.inr (Or.inr (Or.inl ⟨1, rfl, rfl, rfl, ⟨_, rfl⟩⟩))) hn167 (by decide)).trans (ab_kl1 [] _ l0 rfl rfl)
theorem q167_34 : ab_res scr 167 d M 34 [l0, l1, l2, l3] (st) = ab_res scr 167 d M 35 [l0, l1, l2, l3] (.int 0 :: st) := (ab_o_iconst (ab_dc hc167 dX12_layFree_34)).trans (by rw [ki_iconst_0])
theorem q167_35 {v0 : Int32} : ab_res scr 167 d M 35 [l0, l1, l2, l3] (.int v0 :: st) = ab_res scr 167 d M 36 [l0, ab_nl l1, some (.int v0), l3] (st) := (ab_o_st1 (k := 2) (ab_dc hc167 dX12_layFree_35) (Or.inr (Or.inr (Or.inl ⟨2, rfl, rfl, rfl, ⟨_, rfl⟩⟩))) hn167 (by decide)).trans (ab_kl1 [l0] _ l1 rfl rfl)
theorem q167_36 {x : Int32} : ab_res scr 167 d M 36 [l0, l1, some (.int x), l3] (st) = ab_res scr 167 d M 37 [l0, l1, some (.int x), l3] (.int x :: st) := ab_o_iload_n (ab_dc hc167 dX12_layFree_36) rfl
theorem q167_37 {xr : Nat} : ab_res scr 167 d M 37 [some (.ref xr), l1, l2, l3] (st) = ab_res scr 167 d M 38 [some (.ref xr), l1, l2, l3] (.ref xr :: st) := ab_o_aload_n (ab_dc hc167 dX12_layFree_37) rfl
theorem q167_38 {v0 : Nat} : ab_res scr 167 d M 38 [l0, l1, l2, l3] (.ref v0 :: st) = (ab_gF ab_L0 M v0 12 30).bind fun v => ab_res scr 167 d M 41 [l0, l1, l2, l3] (v :: st) := ab_o_getfield (ab_dc hc167 dX12_layFree_38) hk167 lk_fl_12_197
theorem q167_41 {v0 : Int32} {v1 : Int32} : ab_res scr 167 d M 41 [l0, l1, l2, l3] (.int v0 :: .int v1 :: st) = if v0 ≤ v1 then ab_res scr 167 d M 120 [l0, l1, l2, l3] (st) else ab_res scr 167 d M 44 [l0, l1, l2, l3] (st) := ab_o_br2 (off := 79) (ab_dc hc167 dX12_layFree_41) (by decide) rfl rfl
theorem q167_44 {xr : Nat} : ab_res scr 167 d M 44 [some (.ref xr), l1, l2, l3] (st) = ab_res scr 167 d M 45 [some (.ref xr), l1, l2, l3] (.ref xr :: st) := ab_o_aload_n (ab_dc hc167 dX12_layFree_44) rfl
theorem q167_45 {v0 : Nat} : ab_res scr 167 d M 45 [l0, l1, l2, l3] (.ref v0 :: st) = (ab_gF ab_L0 M v0 12 35).bind fun v => ab_res scr 167 d M 48 [l0, l1, l2, l3] (v :: st) := ab_o_getfield (ab_dc hc167 dX12_layFree_45) hk167 lk_fl_12_62
theorem q167_48 {x : Int32} : ab_res scr 167 d M 48 [l0, l1, some (.int x), l3] (st) = ab_res scr 167 d M 49 [l0, l1, some (.int x), l3] (.int x :: st) := ab_o_iload_n (ab_dc hc167 dX12_layFree_48) rfl
theorem q167_49 : ab_res scr 167 d M 49 [l0, l1, l2, l3] (st) = ab_res scr 167 d M 50 [l0, l1, l2, l3] (.int 0 :: st) := (ab_o_iconst (ab_dc hc167 dX12_layFree_49)).trans (by rw [ki_iconst_0])
theorem q167_50 {v0 : Int32} {v1 : Int32} {v2 : Nat} : ab_res scr 167 d M 50 [l0, l1, l2, l3] (.int v0 :: .int v1 :: .ref v2 :: st) = if ab_si v2 .int v1 = true then ab_res scr 167 d (ab_up M v2 v1.toNatClampNeg v0) 51 [l0, l1, l2, l3] (st) else none := ab_o_iastore (ab_dc hc167 dX12_layFree_50)
theorem q167_51 : ab_res scr 167 d M 51 [l0, l1, l2, l3] (st) = ab_res scr 167 d M 52 [l0, l1, l2, l3] (.int 0 :: st) := (ab_o_iconst (ab_dc hc167 dX12_layFree_51)).trans (by rw [ki_iconst_0])
theorem q167_52 {v0 : Int32} : ab_res scr 167 d M 52 [l0, l1, l2, l3] (.int v0 :: st) = ab_res scr 167 d M 53 [l0, l1, ab_nl l2, some (.int v0)] (st) := (ab_o_st1 (k := 3) (ab_dc hc167 dX12_layFree_52) (Or.inr (Or.inr (Or.inl ⟨3, rfl, rfl, rfl, ⟨_, rfl⟩⟩))) hn167 (by decide)).trans (ab_kl1 [l0, l1] _ l2 rfl rfl)
theorem q167_53 {x : Int32} : ab_res scr 167 d M 53 [l0, l1, l2, some (.int x)] (st) = ab_res scr 167 d M 54 [l0, l1, l2, some (.int x)] (.int x :: st) := ab_o_iload_n (ab_dc hc167 dX12_layFree_53) rfl
theorem q167_54 {xr : Nat} : ab_res scr 167 d M 54 [some (.ref xr), l1, l2, l3] (st) = ab_res scr 167 d M 55 [some (.ref xr), l1, l2, l3] (.ref xr :: st) := ab_o_aload_n (ab_dc hc167 dX12_layFree_54) rfl
theorem q167_55 {v0 : Nat} : ab_res scr 167 d M 55 [l0, l1, l2, l3] (.ref v0 :: st) = (ab_gF ab_L0 M v0 12 11).bind fun v => ab_res scr 167 d M 58 [l0, l1, l2, l3] (v :: st) := ab_o_getfield (ab_dc hc167 dX12_layFree_55) hk167 lk_fl_12_19
theorem q167_58 : ab_res scr 167 d M 58 [l0, l1, l2, l3] (st) = ab_res scr 167 d M 60 [l0, l1, l2, l3] (.int 72 :: st) := (ab_o_bipush (ab_dc hc167 dX12_layFree_58)).trans (by rw [ki_bipush_72])
theorem q167_60 {v0 : Int32} {v1 : Nat} : ab_res scr 167 d M 60 [l0, l1, l2, l3] (.int v0 :: .ref v1 :: st) = (ab_ald scr ab_L0 M v1 .int v0).bind fun v => ab_res scr 167 d M 61 [l0, l1, l2, l3] (.int v :: st) := ab_o_iaload (ab_dc hc167 dX12_layFree_60)
theorem q167_61 {v0 : Int32} {v1 : Int32} : ab_res scr 167 d M 61 [l0, l1, l2, l3] (.int v0 :: .int v1 :: st) = if v0 ≤ v1 then ab_res scr 167 d M 114 [l0, l1, l2, l3] (st) else ab_res scr 167 d M 64 [l0, l1, l2, l3] (st) := ab_o_br2 (off := 53) (ab_dc hc167 dX12_layFree_61) (by decide) rfl rfl
theorem q167_64 {xr : Nat} : ab_res scr 167 d M 64 [some (.ref xr), l1, l2, l3] (st) = ab_res scr 167 d M 65 [some (.ref xr), l1, l2, l3] (.ref xr :: st) := ab_o_aload_n (ab_dc hc167 dX12_layFree_64) rfl
theorem q167_65 {v0 : Nat} : ab_res scr 167 d M 65 [l0, l1, l2, l3] (.ref v0 :: st) = (ab_gF ab_L0 M v0 12 35).bind fun v => ab_res scr 167 d M 68 [l0, l1, l2, l3] (v :: st) := ab_o_getfield (ab_dc hc167 dX12_layFree_65) hk167 lk_fl_12_62
theorem q167_68 {x : Int32} : ab_res scr 167 d M 68 [l0, l1, some (.int x), l3] (st) = ab_res scr 167 d M 69 [l0, l1, some (.int x), l3] (.int x :: st) := ab_o_iload_n (ab_dc hc167 dX12_layFree_68) rfl
theorem q167_69 {v0 : Int32} {v1 : Nat} : ab_res scr 167 d M 69 [l0, l1, l2, l3] (.int v0 :: .ref v1 :: st) = ab_res scr 167 d M 70 [l0, l1, l2, l3] (.int v0 :: .ref v1 :: .int v0 :: .ref v1 :: st) := ab_xg (ab_dc hc167 dX12_layFree_69) rfl rfl
theorem q167_70 {v0 : Int32} {v1 : Nat} : ab_res scr 167 d M 70 [l0, l1, l2, l3] (.int v0 :: .ref v1 :: st) = (ab_ald scr ab_L0 M v1 .int v0).bind fun v => ab_res scr 167 d M 71 [l0, l1, l2, l3] (.int v :: st) := ab_o_iaload (ab_dc hc167 dX12_layFree_70)
theorem q167_71 {xr : Nat} : ab_res scr 167 d M 71 [some (.ref xr), l1, l2, l3] (st) = ab_res scr 167 d M 72 [some (.ref xr), l1, l2, l3] (.ref xr :: st) := ab_o_aload_n (ab_dc hc167 dX12_layFree_71) rfl
theorem q167_72 {v0 : Nat} : ab_res scr 167 d M 72 [l0, l1, l2, l3] (.ref v0 :: st) = (ab_gF ab_L0 M v0 12 29).bind fun v => ab_res scr 167 d M 75 [l0, l1, l2, l3] (v :: st) := ab_o_getfield (ab_dc hc167 dX12_layFree_72) hk167 lk_fl_12_59
theorem q167_75 : ab_res scr 167 d M 75 [l0, l1, l2, l3] (st) = ab_res scr 167 d M 76 [l0, l1, l2, l3] (.int 5 :: st) := (ab_o_iconst (ab_dc hc167 dX12_layFree_75)).trans (by rw [ki_iconst_5])
theorem q167_76 {x : Int32} : ab_res scr 167 d M 76 [l0, l1, some (.int x), l3] (st) = ab_res scr 167 d M 77 [l0, l1, some (.int x), l3] (.int x :: st) := ab_o_iload_n (ab_dc hc167 dX12_layFree_76) rfl
theorem q167_77 {v0 : Int32} {v1 : Int32} : ab_res scr 167 d M 77 [l0, l1, l2, l3] (.int v0 :: .int v1 :: st) = ab_res scr 167 d M 78 [l0, l1, l2, l3] (.int (v1 * v0) :: st) := ab_xg (ab_dc hc167 dX12_layFree_77) rfl rfl
theorem q167_78 : ab_res scr 167 d M 78 [l0, l1, l2, l3] (st) = ab_res scr 167 d M 79 [l0, l1, l2, l3] (.int 4 :: st) := (ab_o_iconst (ab_dc hc167 dX12_layFree_78)).trans (by rw [ki_iconst_4])
theorem q167_79 {v0 : Int32} {v1 : Int32} : ab_res scr 167 d M 79 [l0, l1, l2, l3] (.int v0 :: .int v1 :: st) = ab_res scr 167 d M 80 [l0, l1, l2, l3] (.int (v1 + v0) :: st) := ab_xg (ab_dc hc167 dX12_layFree_79) rfl rfl
theorem q167_80 {v0 : Int32} {v1 : Nat} : ab_res scr 167 d M 80 [l0, l1, l2, l3] (.int v0 :: .ref v1 :: st) = (ab_ald scr ab_L0 M v1 .int v0).bind fun v => ab_res scr 167 d M 81 [l0, l1, l2, l3] (.int v :: st) := ab_o_iaload (ab_dc hc167 dX12_layFree_80)
theorem q167_81 {x : Int32} : ab_res scr 167 d M 81 [l0, l1, l2, some (.int x)] (st) = ab_res scr 167 d M 82 [l0, l1, l2, some (.int x)] (.int x :: st) := ab_o_iload_n (ab_dc hc167 dX12_layFree_81) rfl
theorem q167_82 {v0 : Int32} {v1 : Int32} : ab_res scr 167 d M 82 [l0, l1, l2, l3] (.int v0 :: .int v1 :: st) = ab_res scr 167 d M 83 [l0, l1, l2, l3] (.int (v1 >>> (v0 &&& 31)) :: st) := ab_xg (ab_dc hc167 dX12_layFree_82) rfl rfl
theorem q167_83 : ab_res scr 167 d M 83 [l0, l1, l2, l3] (st) = ab_res scr 167 d M 84 [l0, l1, l2, l3] (.int 1 :: st) := (ab_o_iconst (ab_dc hc167 dX12_layFree_83)).trans (by rw [ki_iconst_1])
theorem q167_84 {v0 : Int32} {v1 : Int32} : ab_res scr 167 d M 84 [l0, l1, l2, l3] (.int v0 :: .int v1 :: st) = ab_res scr 167 d M 85 [l0, l1, l2, l3] (.int (v1 &&& v0) :: st) := ab_xg (ab_dc hc167 dX12_layFree_84) rfl rfl
theorem q167_85 : ab_res scr 167 d M 85 [l0, l1, l2, l3] (st) = ab_res scr 167 d M 86 [l0, l1, l2, l3] (.int 1 :: st) := (ab_o_iconst (ab_dc hc167 dX12_layFree_85)).trans (by rw [ki_iconst_1])
theorem q167_86 {v0 : Int32} {v1 : Int32} : ab_res scr 167 d M 86 [l0, l1, l2, l3] (.int v0 :: .int v1 :: st) = if ¬ v1 = v0 then ab_res scr 167 d M 105 [l0, l1, l2, l3] (st) else ab_res scr 167 d M 89 [l0, l1, l2, l3] (st) := ab_o_br2 (off := 19) (ab_dc hc167 dX12_layFree_86) (by decide) rfl rfl
theorem q167_89 {xr : Nat} : ab_res scr 167 d M 89 [some (.ref xr), l1, l2, l3] (st) = ab_res scr 167 d M 90 [some (.ref xr), l1, l2, l3] (.ref xr :: st) := ab_o_aload_n (ab_dc hc167 dX12_layFree_89) rfl
theorem q167_90 {x : Int32} : ab_res scr 167 d M 90 [l0, l1, l2, some (.int x)] (st) = ab_res scr 167 d M 91 [l0, l1, l2, some (.int x)] (.int x :: st) := ab_o_iload_n (ab_dc hc167 dX12_layFree_90) rfl
theorem q167_91 : ab_res scr 167 d M 91 [l0, l1, l2, l3] (st) = ab_res scr 167 d M 93 [l0, l1, l2, l3] (.int 6 :: st) := (ab_o_bipush (ab_dc hc167 dX12_layFree_91)).trans (by rw [ki_bipush_6])
theorem q167_93 {v0 : Int32} {v1 : Int32} {v2 : Nat} {v3 : Int32} {v4 : Int32} {v5 : Nat} (hb : (ab_rc ab_L0 v2 = some 12) = True) : ab_res scr 167 6 M 93 [l0, l1, l2, l3] ([.int v0, .int v1, .ref v2, .int v3, .int v4, .ref v5]) = (ab_ms scr 135 [.ref v2, .int v1, .int v0] M).bind fun o => ab_res scr 167 6 o.1 96 [l0, l1, l2, l3] (ab_pr o.2 [.int v3, .int v4, .ref v5]) := ab_o_virtual (ab_dc hc167 dX12_layFree_93) hk167 lk_ca_12_168 hm135 (Nat.le_of_ble_eq_true rfl) rfl rfl rfl (of_eq_true hb) rfl rfl
theorem q167_96 {v0 : Int32} : ab_res scr 167 d M 96 [l0, l1, l2, l3] (.int v0 :: st) = if ¬ v0 = 0 then ab_res scr 167 d M 105 [l0, l1, l2, l3] (st) else ab_res scr 167 d M 99 [l0, l1, l2, l3] (st) := ab_o_br2 (off := 9) (ab_dc hc167 dX12_layFree_96) (by decide) rfl rfl
theorem q167_99 : ab_res scr 167 d M 99 [l0, l1, l2, l3] (st) = ab_res scr 167 d M 100 [l0, l1, l2, l3] (.int 1 :: st) := (ab_o_iconst (ab_dc hc167 dX12_layFree_99)).trans (by rw [ki_iconst_1])
theorem q167_100 {x : Int32} : ab_res scr 167 d M 100 [l0, l1, l2, some (.int x)] (st) = ab_res scr 167 d M 101 [l0, l1, l2, some (.int x)] (.int x :: st) := ab_o_iload_n (ab_dc hc167 dX12_layFree_100) rfl
theorem q167_101 {v0 : Int32} {v1 : Int32} : ab_res scr 167 d M 101 [l0, l1, l2, l3] (.int v0 :: .int v1 :: st) = ab_res scr 167 d M 102 [l0, l1, l2, l3] (.int (v1 <<< (v0 &&& 31)) :: st) := ab_xg (ab_dc hc167 dX12_layFree_101) rfl rfl
theorem q167_102 : ab_res scr 167 d M 102 [l0, l1, l2, l3] (st) = ab_res scr 167 d M 106 [l0, l1, l2, l3] (st) := ab_o_goto (ab_dc hc167 dX12_layFree_102) (by decide)
theorem q167_105 : ab_res scr 167 d M 105 [l0, l1, l2, l3] (st) = ab_res scr 167 d M 106 [l0, l1, l2, l3] (.int 0 :: st) := (ab_o_iconst (ab_dc hc167 dX12_layFree_105)).trans (by rw [ki_iconst_0])
theorem q167_106 {v0 : Int32} {v1 : Int32} : ab_res scr 167 d M 106 [l0, l1, l2, l3] (.int v0 :: .int v1 :: st) = ab_res scr 167 d M 107 [l0, l1, l2, l3] (.int (v1 ||| v0) :: st) := ab_xg (ab_dc hc167 dX12_layFree_106) rfl rfl
theorem q167_107 {v0 : Int32} {v1 : Int32} {v2 : Nat} : ab_res scr 167 d M 107 [l0, l1, l2, l3] (.int v0 :: .int v1 :: .ref v2 :: st) = if ab_si v2 .int v1 = true then ab_res scr 167 d (ab_up M v2 v1.toNatClampNeg v0) 108 [l0, l1, l2, l3] (st) else none := ab_o_iastore (ab_dc hc167 dX12_layFree_107)
theorem q167_108 {x : Int32} : ab_res scr 167 d M 108 [l0, l1, l2, some (.int x)] (st) = ab_res scr 167 d M 111 [l0, l1, ab_nl l2, some (.int (x + 1))] (st) := (ab_o_iinc (k := 3) (ab_dc hc167 dX12_layFree_108) hn167 (by decide) rfl).trans (by rw [ki_iconst_1]; exact ab_kl1 [l0, l1] _ l2 rfl rfl)
theorem q167_111 : ab_res scr 167 d M 111 [l0, l1, l2, l3] (st) = ab_res scr 167 d M 53 [l0, l1, l2, l3] (st) := ab_o_goto (ab_dc hc167 dX12_layFree_111) (by decide)
theorem q167_114 {x : Int32} : ab_res scr 167 d M 114 [l0, l1, some (.int x), l3] (st) = ab_res scr 167 d M 117 [l0, ab_nl l1, some (.int (x + 1)), l3] (st) := (ab_o_iinc (k := 2) (ab_dc hc167 dX12_layFree_114) hn167 (by decide) rfl).trans (by rw [ki_iconst_1]; exact ab_kl1 [l0] _ l1 rfl rfl)
theorem q167_117 : ab_res scr 167 d M 117 [l0, l1, l2, l3] (st) = ab_res scr 167 d M 36 [l0, l1, l2, l3] (st) := ab_o_goto (ab_dc hc167 dX12_layFree_117) (by decide)
theorem q167_120 {x : Int32} : ab_res scr 167 d M 120 [l0, some (.int x), l2, l3] (st) = ab_res scr 167 d M 121 [l0, some (.int x), l2, l3] (.int x :: st) := ab_o_iload_n (ab_dc hc167 dX12_layFree_120) rfl
theorem q167_121 {v0 : Int32} : ab_res scr 167 d M 121 [l0, l1, l2, l3] ([.int v0]) = some (M, some (.int v0)) := ab_o_ireturn (ab_dc hc167 dX12_layFree_121) hr167 rfl
end Q167
theorem hc168 : ab_code 168 = cX12_worstOf := rfl
theorem hn168 : ab_nL 168 = 5 := rfl
theorem hk168 : ab_ky 168 = 12 := rfl
theorem hr168 : ab_ret 168 = some .int := rfl
section Q168
variable {scr : Option (List Int32)} {d : Nat} {M : ab_M} {st : List Value} {l0 l1 l2 l3 l4 : Option Value}
theorem q168_0 : ab_res scr 168 d M 0 [l0, l1, l2, l3, l4] (st) = ab_res scr 168 d M 1 [l0, l1, l2, l3, l4] (.int 0 :: st) := (ab_o_iconst (ab_dc hc168 dX12_worstOf_0)).trans (by rw [ki_iconst_0])
theorem q168_1 {v0 : Int32} : ab_res scr 168 d M 1 [l0, l1, l2, l3, l4] (.int v0 :: st) = ab_res scr 168 d M 2 [ab_nl l0, some (.int v0), l2, l3, l4] (st) := (ab_o_st1 (k := 1) (ab_dc hc168 dX12_worstOf_1) (Or.inr (Or.inr (Or.inl ⟨1, rfl, rfl, rfl, ⟨_, rfl⟩⟩))) hn168 (by decide)).trans (ab_kl1 [] _ l0 rfl rfl)
theorem q168_2 : ab_res scr 168 d M 2 [l0, l1, l2, l3, l4] (st) = ab_res scr 168 d M 3 [l0, l1, l2, l3, l4] (.int 0 :: st) := (ab_o_iconst (ab_dc hc168 dX12_worstOf_2)).trans (by rw [ki_iconst_0])
theorem q168_3 {v0 : Int32} : ab_res scr 168 d M 3 [l0, l1, l2, l3, l4] (.int v0 :: st) = ab_res scr 168 d M 4 [l0, ab_nl l1, some (.int v0), l3, l4] (st) := (ab_o_st1 (k := 2) (ab_dc hc168 dX12_worstOf_3) (Or.inr (Or.inr (Or.inl ⟨2, rfl, rfl, rfl, ⟨_, rfl⟩⟩))) hn168 (by decide)).trans (ab_kl1 [l0] _ l1 rfl rfl)
theorem q168_4 {x : Int32} : ab_res scr 168 d M 4 [l0, l1, some (.int x), l3, l4] (st) = ab_res scr 168 d M 5 [l0, l1, some (.int x), l3, l4] (.int x :: st) := ab_o_iload_n (ab_dc hc168 dX12_worstOf_4) rfl
theorem q168_5 {xr : Nat} : ab_res scr 168 d M 5 [some (.ref xr), l1, l2, l3, l4] (st) = ab_res scr 168 d M 6 [some (.ref xr), l1, l2, l3, l4] (.ref xr :: st) := ab_o_aload_n (ab_dc hc168 dX12_worstOf_5) rfl
theorem q168_6 {v0 : Nat} : ab_res scr 168 d M 6 [l0, l1, l2, l3, l4] (.ref v0 :: st) = (ab_gF ab_L0 M v0 12 11).bind fun v => ab_res scr 168 d M 9 [l0, l1, l2, l3, l4] (v :: st) := ab_o_getfield (ab_dc hc168 dX12_worstOf_6) hk168 lk_fl_12_19
theorem q168_9 : ab_res scr 168 d M 9 [l0, l1, l2, l3, l4] (st) = ab_res scr 168 d M 11 [l0, l1, l2, l3, l4] (.int 72 :: st) := (ab_o_bipush (ab_dc hc168 dX12_worstOf_9)).trans (by rw [ki_bipush_72])
theorem q168_11 {v0 : Int32} {v1 : Nat} : ab_res scr 168 d M 11 [l0, l1, l2, l3, l4] (.int v0 :: .ref v1 :: st) = (ab_ald scr ab_L0 M v1 .int v0).bind fun v => ab_res scr 168 d M 12 [l0, l1, l2, l3, l4] (.int v :: st) := ab_o_iaload (ab_dc hc168 dX12_worstOf_11)
theorem q168_12 {v0 : Int32} {v1 : Int32} : ab_res scr 168 d M 12 [l0, l1, l2, l3, l4] (.int v0 :: .int v1 :: st) = if v0 ≤ v1 then ab_res scr 168 d M 99 [l0, l1, l2, l3, l4] (st) else ab_res scr 168 d M 15 [l0, l1, l2, l3, l4] (st) := ab_o_br2 (off := 87) (ab_dc hc168 dX12_worstOf_12) (by decide) rfl rfl
theorem q168_15 {xr : Nat} : ab_res scr 168 d M 15 [some (.ref xr), l1, l2, l3, l4] (st) = ab_res scr 168 d M 16 [some (.ref xr), l1, l2, l3, l4] (.ref xr :: st) := ab_o_aload_n (ab_dc hc168 dX12_worstOf_15) rfl
theorem q168_16 {v0 : Nat} : ab_res scr 168 d M 16 [l0, l1, l2, l3, l4] (.ref v0 :: st) = (ab_gF ab_L0 M v0 12 24).bind fun v => ab_res scr 168 d M 19 [l0, l1, l2, l3, l4] (v :: st) := ab_o_getfield (ab_dc hc168 dX12_worstOf_16) hk168 lk_fl_12_53
theorem q168_19 {x : Int32} : ab_res scr 168 d M 19 [l0, l1, some (.int x), l3, l4] (st) = ab_res scr 168 d M 20 [l0, l1, some (.int x), l3, l4] (.int x :: st) := ab_o_iload_n (ab_dc hc168 dX12_worstOf_19) rfl
theorem q168_20 {v0 : Int32} {v1 : Nat} : ab_res scr 168 d M 20 [l0, l1, l2, l3, l4] (.int v0 :: .ref v1 :: st) = (ab_ald scr ab_L0 M v1 .int v0).bind fun v => ab_res scr 168 d M 21 [l0, l1, l2, l3, l4] (.int v :: st) := ab_o_iaload (ab_dc hc168 dX12_worstOf_20)
theorem q168_21 {xr : Nat} : ab_res scr 168 d M 21 [some (.ref xr), l1, l2, l3, l4] (st) = ab_res scr 168 d M 22 [some (.ref xr), l1, l2, l3, l4] (.ref xr :: st) := ab_o_aload_n (ab_dc hc168 dX12_worstOf_21) rfl
theorem q168_22 {v0 : Nat} : ab_res scr 168 d M 22 [l0, l1, l2, l3, l4] (.ref v0 :: st) = (ab_gF ab_L0 M v0 12 18).bind fun v => ab_res scr 168 d M 25 [l0, l1, l2, l3, l4] (v :: st) := ab_o_getfield (ab_dc hc168 dX12_worstOf_22) hk168 lk_fl_12_35
theorem q168_25 {x : Int32} : ab_res scr 168 d M 25 [l0, l1, some (.int x), l3, l4] (st) = ab_res scr 168 d M 26 [l0, l1, some (.int x), l3, l4] (.int x :: st) := ab_o_iload_n (ab_dc hc168 dX12_worstOf_25) rfl
theorem q168_26 {v0 : Int32} {v1 : Nat} : ab_res scr 168 d M 26 [l0, l1, l2, l3, l4] (.int v0 :: .ref v1 :: st) = (ab_ald scr ab_L0 M v1 .int v0).bind fun v => ab_res scr 168 d M 27 [l0, l1, l2, l3, l4] (.int v :: st) := ab_o_iaload (ab_dc hc168 dX12_worstOf_26)
theorem q168_27 {v0 : Int32} {v1 : Int32} : ab_res scr 168 d M 27 [l0, l1, l2, l3, l4] (.int v0 :: .int v1 :: st) = ab_res scr 168 d M 28 [l0, l1, l2, l3, l4] (.int (v1 - v0) :: st) := ab_xg (ab_dc hc168 dX12_worstOf_27) rfl rfl
theorem q168_28 {v0 : Int32} : ab_res scr 168 d M 28 [l0, l1, l2, l3, l4] (.int v0 :: st) = ab_res scr 168 d M 29 [l0, l1, ab_nl l2, some (.int v0), l4] (st) := (ab_o_st1 (k := 3) (ab_dc hc168 dX12_worstOf_28) (Or.inr (Or.inr (Or.inl ⟨3, rfl, rfl, rfl, ⟨_, rfl⟩⟩))) hn168 (by decide)).trans (ab_kl1 [l0, l1] _ l2 rfl rfl)
theorem q168_29 : ab_res scr 168 d M 29 [l0, l1, l2, l3, l4] (st) = ab_res scr 168 d M 30 [l0, l1, l2, l3, l4] (.int 0 :: st) := (ab_o_iconst (ab_dc hc168 dX12_worstOf_29)).trans (by rw [ki_iconst_0])
theorem q168_30 {v0 : Int32} : ab_res scr 168 d M 30 [l0, l1, l2, l3, l4] (.int v0 :: st) = ab_res scr 168 d M 32 [l0, l1, l2, ab_nl l3, some (.int v0)] (st) := (ab_o_st1 (k := 4) (ab_dc hc168 dX12_worstOf_30) (Or.inl ⟨rfl, rfl, ⟨_, rfl⟩⟩) hn168 (by decide)).trans (ab_kl1 [l0, l1, l2] _ l3 rfl rfl)
theorem q168_32 {x : Int32} : ab_res scr 168 d M 32 [l0, l1, l2, l3, some (.int x)] (st) = ab_res scr 168 d M 34 [l0, l1, l2, l3, some (.int x)] (.int x :: st) := ab_o_iload (ab_dc hc168 dX12_worstOf_32) rfl
theorem q168_34 {xr : Nat} : ab_res scr 168 d M 34 [some (.ref xr), l1, l2, l3, l4] (st) = ab_res scr 168 d M 35 [some (.ref xr), l1, l2, l3, l4] (.ref xr :: st) := ab_o_aload_n (ab_dc hc168 dX12_worstOf_34) rfl
theorem q168_35 {v0 : Nat} : ab_res scr 168 d M 35 [l0, l1, l2, l3, l4] (.ref v0 :: st) = (ab_gF ab_L0 M v0 12 30).bind fun v => ab_res scr 168 d M 38 [l0, l1, l2, l3, l4] (v :: st) := ab_o_getfield (ab_dc hc168 dX12_worstOf_35) hk168 lk_fl_12_197
theorem q168_38 {v0 : Int32} {v1 : Int32} : ab_res scr 168 d M 38 [l0, l1, l2, l3, l4] (.int v0 :: .int v1 :: st) = if v0 ≤ v1 then ab_res scr 168 d M 76 [l0, l1, l2, l3, l4] (st) else ab_res scr 168 d M 41 [l0, l1, l2, l3, l4] (st) := ab_o_br2 (off := 38) (ab_dc hc168 dX12_worstOf_38) (by decide) rfl rfl
theorem q168_41 {x : Int32} : ab_res scr 168 d M 41 [l0, l1, l2, some (.int x), l4] (st) = ab_res scr 168 d M 42 [l0, l1, l2, some (.int x), l4] (.int x :: st) := ab_o_iload_n (ab_dc hc168 dX12_worstOf_41) rfl
theorem q168_42 {xr : Nat} : ab_res scr 168 d M 42 [some (.ref xr), l1, l2, l3, l4] (st) = ab_res scr 168 d M 43 [some (.ref xr), l1, l2, l3, l4] (.ref xr :: st) := ab_o_aload_n (ab_dc hc168 dX12_worstOf_42) rfl
theorem q168_43 {v0 : Nat} : ab_res scr 168 d M 43 [l0, l1, l2, l3, l4] (.ref v0 :: st) = (ab_gF ab_L0 M v0 12 36).bind fun v => ab_res scr 168 d M 46 [l0, l1, l2, l3, l4] (v :: st) := ab_o_getfield (ab_dc hc168 dX12_worstOf_43) hk168 lk_fl_12_65
theorem q168_46 {x : Int32} : ab_res scr 168 d M 46 [l0, l1, l2, l3, some (.int x)] (st) = ab_res scr 168 d M 48 [l0, l1, l2, l3, some (.int x)] (.int x :: st) := ab_o_iload (ab_dc hc168 dX12_worstOf_46) rfl
theorem q168_48 {v0 : Int32} {v1 : Nat} : ab_res scr 168 d M 48 [l0, l1, l2, l3, l4] (.int v0 :: .ref v1 :: st) = (ab_ald scr ab_L0 M v1 .int v0).bind fun v => ab_res scr 168 d M 49 [l0, l1, l2, l3, l4] (.int v :: st) := ab_o_iaload (ab_dc hc168 dX12_worstOf_48)
theorem q168_49 {x : Int32} : ab_res scr 168 d M 49 [l0, l1, some (.int x), l3, l4] (st) = ab_res scr 168 d M 50 [l0, l1, some (.int x), l3, l4] (.int x :: st) := ab_o_iload_n (ab_dc hc168 dX12_worstOf_49) rfl
theorem q168_50 {v0 : Int32} {v1 : Int32} : ab_res scr 168 d M 50 [l0, l1, l2, l3, l4] (.int v0 :: .int v1 :: st) = if ¬ v1 = v0 then ab_res scr 168 d M 67 [l0, l1, l2, l3, l4] (st) else ab_res scr 168 d M 53 [l0, l1, l2, l3, l4] (st) := ab_o_br2 (off := 17) (ab_dc hc168 dX12_worstOf_50) (by decide) rfl rfl
theorem q168_53 {xr : Nat} : ab_res scr 168 d M 53 [some (.ref xr), l1, l2, l3, l4] (st) = ab_res scr 168 d M 54 [some (.ref xr), l1, l2, l3, l4] (.ref xr :: st) := ab_o_aload_n (ab_dc hc168 dX12_worstOf_53) rfl
theorem q168_54 {v0 : Nat} : ab_res scr 168 d M 54 [l0, l1, l2, l3, l4] (.ref v0 :: st) = (ab_gF ab_L0 M v0 12 29).bind fun v => ab_res scr 168 d M 57 [l0, l1, l2, l3, l4] (v :: st) := ab_o_getfield (ab_dc hc168 dX12_worstOf_54) hk168 lk_fl_12_59
theorem q168_57 : ab_res scr 168 d M 57 [l0, l1, l2, l3, l4] (st) = ab_res scr 168 d M 58 [l0, l1, l2, l3, l4] (.int 5 :: st) := (ab_o_iconst (ab_dc hc168 dX12_worstOf_57)).trans (by rw [ki_iconst_5])
theorem q168_58 {x : Int32} : ab_res scr 168 d M 58 [l0, l1, l2, l3, some (.int x)] (st) = ab_res scr 168 d M 60 [l0, l1, l2, l3, some (.int x)] (.int x :: st) := ab_o_iload (ab_dc hc168 dX12_worstOf_58) rfl
theorem q168_60 {v0 : Int32} {v1 : Int32} : ab_res scr 168 d M 60 [l0, l1, l2, l3, l4] (.int v0 :: .int v1 :: st) = ab_res scr 168 d M 61 [l0, l1, l2, l3, l4] (.int (v1 * v0) :: st) := ab_xg (ab_dc hc168 dX12_worstOf_60) rfl rfl
theorem q168_61 : ab_res scr 168 d M 61 [l0, l1, l2, l3, l4] (st) = ab_res scr 168 d M 62 [l0, l1, l2, l3, l4] (.int 2 :: st) := (ab_o_iconst (ab_dc hc168 dX12_worstOf_61)).trans (by rw [ki_iconst_2])
theorem q168_62 {v0 : Int32} {v1 : Int32} : ab_res scr 168 d M 62 [l0, l1, l2, l3, l4] (.int v0 :: .int v1 :: st) = ab_res scr 168 d M 63 [l0, l1, l2, l3, l4] (.int (v1 + v0) :: st) := ab_xg (ab_dc hc168 dX12_worstOf_62) rfl rfl
theorem q168_63 {v0 : Int32} {v1 : Nat} : ab_res scr 168 d M 63 [l0, l1, l2, l3, l4] (.int v0 :: .ref v1 :: st) = (ab_ald scr ab_L0 M v1 .int v0).bind fun v => ab_res scr 168 d M 64 [l0, l1, l2, l3, l4] (.int v :: st) := ab_o_iaload (ab_dc hc168 dX12_worstOf_63)
theorem q168_64 : ab_res scr 168 d M 64 [l0, l1, l2, l3, l4] (st) = ab_res scr 168 d M 68 [l0, l1, l2, l3, l4] (st) := ab_o_goto (ab_dc hc168 dX12_worstOf_64) (by decide)
theorem q168_67 : ab_res scr 168 d M 67 [l0, l1, l2, l3, l4] (st) = ab_res scr 168 d M 68 [l0, l1, l2, l3, l4] (.int 0 :: st) := (ab_o_iconst (ab_dc hc168 dX12_worstOf_67)).trans (by rw [ki_iconst_0])
theorem q168_68 {v0 : Int32} {v1 : Int32} : ab_res scr 168 d M 68 [l0, l1, l2, l3, l4] (.int v0 :: .int v1 :: st) = ab_res scr 168 d M 69 [l0, l1, l2, l3, l4] (.int (v1 + v0) :: st) := ab_xg (ab_dc hc168 dX12_worstOf_68) rfl rfl
theorem q168_69 {v0 : Int32} : ab_res scr 168 d M 69 [l0, l1, l2, l3, l4] (.int v0 :: st) = ab_res scr 168 d M 70 [l0, l1, ab_nl l2, some (.int v0), l4] (st) := (ab_o_st1 (k := 3) (ab_dc hc168 dX12_worstOf_69) (Or.inr (Or.inr (Or.inl ⟨3, rfl, rfl, rfl, ⟨_, rfl⟩⟩))) hn168 (by decide)).trans (ab_kl1 [l0, l1] _ l2 rfl rfl)
theorem q168_70 {x : Int32} : ab_res scr 168 d M 70 [l0, l1, l2, l3, some (.int x)] (st) = ab_res scr 168 d M 73 [l0, l1, l2, ab_nl l3, some (.int (x + 1))] (st) := (ab_o_iinc (k := 4) (ab_dc hc168 dX12_worstOf_70) hn168 (by decide) rfl).trans (by rw [ki_iconst_1]; exact ab_kl1 [l0, l1, l2] _ l3 rfl rfl)
theorem q168_73 : ab_res scr 168 d M 73 [l0, l1, l2, l3, l4] (st) = ab_res scr 168 d M 32 [l0, l1, l2, l3, l4] (st) := ab_o_goto (ab_dc hc168 dX12_worstOf_73) (by decide)
theorem q168_76 {x : Int32} : ab_res scr 168 d M 76 [l0, l1, l2, some (.int x), l4] (st) = ab_res scr 168 d M 77 [l0, l1, l2, some (.int x), l4] (.int x :: st) := ab_o_iload_n (ab_dc hc168 dX12_worstOf_76) rfl
theorem q168_77 {v0 : Int32} : ab_res scr 168 2 M 77 [l0, l1, l2, l3, l4] ([.int v0]) = (ab_ms scr 140 [.int v0] M).bind fun o => ab_res scr 168 2 o.1 80 [l0, l1, l2, l3, l4] (ab_pr o.2 []) := ab_o_static (ab_dc hc168 dX12_worstOf_77) hk168 lk_ca_12_212 hm140 (Nat.le_of_ble_eq_true rfl) rfl rfl rfl rfl rfl
theorem q168_80 {x : Int32} : ab_res scr 168 d M 80 [l0, some (.int x), l2, l3, l4] (st) = ab_res scr 168 d M 81 [l0, some (.int x), l2, l3, l4] (.int x :: st) := ab_o_iload_n (ab_dc hc168 dX12_worstOf_80) rfl
theorem q168_81 {v0 : Int32} {v1 : Int32} : ab_res scr 168 d M 81 [l0, l1, l2, l3, l4] (.int v0 :: .int v1 :: st) = if v1 ≤ v0 then ab_res scr 168 d M 91 [l0, l1, l2, l3, l4] (st) else ab_res scr 168 d M 84 [l0, l1, l2, l3, l4] (st) := ab_o_br2 (off := 10) (ab_dc hc168 dX12_worstOf_81) (by decide) rfl rfl
theorem q168_84 {x : Int32} : ab_res scr 168 d M 84 [l0, l1, l2, some (.int x), l4] (st) = ab_res scr 168 d M 85 [l0, l1, l2, some (.int x), l4] (.int x :: st) := ab_o_iload_n (ab_dc hc168 dX12_worstOf_84) rfl
theorem q168_85 {v0 : Int32} : ab_res scr 168 2 M 85 [l0, l1, l2, l3, l4] ([.int v0]) = (ab_ms scr 140 [.int v0] M).bind fun o => ab_res scr 168 2 o.1 88 [l0, l1, l2, l3, l4] (ab_pr o.2 []) := ab_o_static (ab_dc hc168 dX12_worstOf_85) hk168 lk_ca_12_212 hm140 (Nat.le_of_ble_eq_true rfl) rfl rfl rfl rfl rfl
theorem q168_88 : ab_res scr 168 d M 88 [l0, l1, l2, l3, l4] (st) = ab_res scr 168 d M 92 [l0, l1, l2, l3, l4] (st) := ab_o_goto (ab_dc hc168 dX12_worstOf_88) (by decide)
theorem q168_91 {x : Int32} : ab_res scr 168 d M 91 [l0, some (.int x), l2, l3, l4] (st) = ab_res scr 168 d M 92 [l0, some (.int x), l2, l3, l4] (.int x :: st) := ab_o_iload_n (ab_dc hc168 dX12_worstOf_91) rfl
theorem q168_92 {v0 : Int32} : ab_res scr 168 d M 92 [l0, l1, l2, l3, l4] (.int v0 :: st) = ab_res scr 168 d M 93 [ab_nl l0, some (.int v0), l2, l3, l4] (st) := (ab_o_st1 (k := 1) (ab_dc hc168 dX12_worstOf_92) (Or.inr (Or.inr (Or.inl ⟨1, rfl, rfl, rfl, ⟨_, rfl⟩⟩))) hn168 (by decide)).trans (ab_kl1 [] _ l0 rfl rfl)
theorem q168_93 {x : Int32} : ab_res scr 168 d M 93 [l0, l1, some (.int x), l3, l4] (st) = ab_res scr 168 d M 96 [l0, ab_nl l1, some (.int (x + 1)), l3, l4] (st) := (ab_o_iinc (k := 2) (ab_dc hc168 dX12_worstOf_93) hn168 (by decide) rfl).trans (by rw [ki_iconst_1]; exact ab_kl1 [l0] _ l1 rfl rfl)
theorem q168_96 : ab_res scr 168 d M 96 [l0, l1, l2, l3, l4] (st) = ab_res scr 168 d M 4 [l0, l1, l2, l3, l4] (st) := ab_o_goto (ab_dc hc168 dX12_worstOf_96) (by decide)
theorem q168_99 {x : Int32} : ab_res scr 168 d M 99 [l0, some (.int x), l2, l3, l4] (st) = ab_res scr 168 d M 100 [l0, some (.int x), l2, l3, l4] (.int x :: st) := ab_o_iload_n (ab_dc hc168 dX12_worstOf_99) rfl
theorem q168_100 {v0 : Int32} : ab_res scr 168 d M 100 [l0, l1, l2, l3, l4] ([.int v0]) = some (M, some (.int v0)) := ab_o_ireturn (ab_dc hc168 dX12_worstOf_100) hr168 rfl
end Q168
theorem hc169 : ab_code 169 = cX12_nextRow := rfl
theorem hn169 : ab_nL 169 = 3 := rfl
theorem hk169 : ab_ky 169 = 12 := rfl
theorem hr169 : ab_ret 169 = some .boolean := rfl
section Q169
variable {scr : Option (List Int32)} {d : Nat} {M : ab_M} {st : List Value} {l0 l1 l2 : Option Value}
theorem q169_0 {xr : Nat} : ab_res scr 169 d M 0 [some (.ref xr), l1, l2] (st) = ab_res scr 169 d M 1 [some (.ref xr), l1, l2] (.ref xr :: st) := ab_o_aload_n (ab_dc hc169 dX12_nextRow_0) rfl
theorem q169_1 {v0 : Nat} : ab_res scr 169 d M 1 [l0, l1, l2] (.ref v0 :: st) = (ab_gF ab_L0 M v0 12 30).bind fun v => ab_res scr 169 d M 4 [l0, l1, l2] (v :: st) := ab_o_getfield (ab_dc hc169 dX12_nextRow_1) hk169 lk_fl_12_197
theorem q169_4 : ab_res scr 169 d M 4 [l0, l1, l2] (st) = ab_res scr 169 d M 5 [l0, l1, l2] (.int 1 :: st) := (ab_o_iconst (ab_dc hc169 dX12_nextRow_4)).trans (by rw [ki_iconst_1])
theorem q169_5 {v0 : Int32} {v1 : Int32} : ab_res scr 169 d M 5 [l0, l1, l2] (.int v0 :: .int v1 :: st) = ab_res scr 169 d M 6 [l0, l1, l2] (.int (v1 - v0) :: st) := ab_xg (ab_dc hc169 dX12_nextRow_5) rfl rfl
theorem q169_6 {v0 : Int32} : ab_res scr 169 d M 6 [l0, l1, l2] (.int v0 :: st) = ab_res scr 169 d M 7 [ab_nl l0, some (.int v0), l2] (st) := (ab_o_st1 (k := 1) (ab_dc hc169 dX12_nextRow_6) (Or.inr (Or.inr (Or.inl ⟨1, rfl, rfl, rfl, ⟨_, rfl⟩⟩))) hn169 (by decide)).trans (ab_kl1 [] _ l0 rfl rfl)
theorem q169_7 {x : Int32} : ab_res scr 169 d M 7 [l0, some (.int x), l2] (st) = ab_res scr 169 d M 8 [l0, some (.int x), l2] (.int x :: st) := ab_o_iload_n (ab_dc hc169 dX12_nextRow_7) rfl
theorem q169_8 {v0 : Int32} : ab_res scr 169 d M 8 [l0, l1, l2] (.int v0 :: st) = if v0 < 0 then ab_res scr 169 d M 104 [l0, l1, l2] (st) else ab_res scr 169 d M 11 [l0, l1, l2] (st) := ab_o_br2 (off := 96) (ab_dc hc169 dX12_nextRow_8) (by decide) rfl rfl
theorem q169_11 {xr : Nat} : ab_res scr 169 d M 11 [some (.ref xr), l1, l2] (st) = ab_res scr 169 d M 12 [some (.ref xr), l1, l2] (.ref xr :: st) := ab_o_aload_n (ab_dc hc169 dX12_nextRow_11) rfl
theorem q169_12 {v0 : Nat} : ab_res scr 169 d M 12 [l0, l1, l2] (.ref v0 :: st) = (ab_gF ab_L0 M v0 12 36).bind fun v => ab_res scr 169 d M 15 [l0, l1, l2] (v :: st) := ab_o_getfield (ab_dc hc169 dX12_nextRow_12) hk169 lk_fl_12_65
theorem q169_15 {x : Int32} : ab_res scr 169 d M 15 [l0, some (.int x), l2] (st) = ab_res scr 169 d M 16 [l0, some (.int x), l2] (.int x :: st) := ab_o_iload_n (ab_dc hc169 dX12_nextRow_15) rfl
theorem q169_16 {v0 : Int32} {v1 : Nat} : ab_res scr 169 d M 16 [l0, l1, l2] (.int v0 :: .ref v1 :: st) = (ab_ald scr ab_L0 M v1 .int v0).bind fun v => ab_res scr 169 d M 17 [l0, l1, l2] (.int v :: st) := ab_o_iaload (ab_dc hc169 dX12_nextRow_16)
theorem q169_17 : ab_res scr 169 d M 17 [l0, l1, l2] (st) = ab_res scr 169 d M 18 [l0, l1, l2] (.int 1 :: st) := (ab_o_iconst (ab_dc hc169 dX12_nextRow_17)).trans (by rw [ki_iconst_1])
theorem q169_18 {v0 : Int32} {v1 : Int32} : ab_res scr 169 d M 18 [l0, l1, l2] (.int v0 :: .int v1 :: st) = ab_res scr 169 d M 19 [l0, l1, l2] (.int (v1 + v0) :: st) := ab_xg (ab_dc hc169 dX12_nextRow_18) rfl rfl
theorem q169_19 {v0 : Int32} : ab_res scr 169 d M 19 [l0, l1, l2] (.int v0 :: st) = ab_res scr 169 d M 20 [l0, ab_nl l1, some (.int v0)] (st) := (ab_o_st1 (k := 2) (ab_dc hc169 dX12_nextRow_19) (Or.inr (Or.inr (Or.inl ⟨2, rfl, rfl, rfl, ⟨_, rfl⟩⟩))) hn169 (by decide)).trans (ab_kl1 [l0] _ l1 rfl rfl)
theorem q169_20 {x : Int32} : ab_res scr 169 d M 20 [l0, l1, some (.int x)] (st) = ab_res scr 169 d M 21 [l0, l1, some (.int x)] (.int x :: st) := ab_o_iload_n (ab_dc hc169 dX12_nextRow_20) rfl
theorem q169_21 : ab_res scr 169 d M 21 [l0, l1, l2] (st) = ab_res scr 169 d M 23 [l0, l1, l2] (.int 8 :: st) := (ab_o_bipush (ab_dc hc169 dX12_nextRow_21)).trans (by rw [ki_bipush_8])
theorem q169_23 {v0 : Int32} {v1 : Int32} : ab_res scr 169 d M 23 [l0, l1, l2] (.int v0 :: .int v1 :: st) = if v0 ≤ v1 then ab_res scr 169 d M 45 [l0, l1, l2] (st) else ab_res scr 169 d M 26 [l0, l1, l2] (st) := ab_o_br2 (off := 22) (ab_dc hc169 dX12_nextRow_23) (by decide) rfl rfl
theorem q169_26 {xr : Nat} : ab_res scr 169 d M 26 [some (.ref xr), l1, l2] (st) = ab_res scr 169 d M 27 [some (.ref xr), l1, l2] (.ref xr :: st) := ab_o_aload_n (ab_dc hc169 dX12_nextRow_26) rfl
theorem q169_27 {v0 : Nat} : ab_res scr 169 d M 27 [l0, l1, l2] (.ref v0 :: st) = (ab_gF ab_L0 M v0 12 35).bind fun v => ab_res scr 169 d M 30 [l0, l1, l2] (v :: st) := ab_o_getfield (ab_dc hc169 dX12_nextRow_27) hk169 lk_fl_12_62
theorem q169_30 {x : Int32} : ab_res scr 169 d M 30 [l0, some (.int x), l2] (st) = ab_res scr 169 d M 31 [l0, some (.int x), l2] (.int x :: st) := ab_o_iload_n (ab_dc hc169 dX12_nextRow_30) rfl
theorem q169_31 {v0 : Int32} {v1 : Nat} : ab_res scr 169 d M 31 [l0, l1, l2] (.int v0 :: .ref v1 :: st) = (ab_ald scr ab_L0 M v1 .int v0).bind fun v => ab_res scr 169 d M 32 [l0, l1, l2] (.int v :: st) := ab_o_iaload (ab_dc hc169 dX12_nextRow_31)
theorem q169_32 {x : Int32} : ab_res scr 169 d M 32 [l0, l1, some (.int x)] (st) = ab_res scr 169 d M 33 [l0, l1, some (.int x)] (.int x :: st) := ab_o_iload_n (ab_dc hc169 dX12_nextRow_32) rfl
theorem q169_33 {v0 : Int32} {v1 : Int32} : ab_res scr 169 d M 33 [l0, l1, l2] (.int v0 :: .int v1 :: st) = ab_res scr 169 d M 34 [l0, l1, l2] (.int (v1 >>> (v0 &&& 31)) :: st) := ab_xg (ab_dc hc169 dX12_nextRow_33) rfl rfl
theorem q169_34 : ab_res scr 169 d M 34 [l0, l1, l2] (st) = ab_res scr 169 d M 35 [l0, l1, l2] (.int 1 :: st) := (ab_o_iconst (ab_dc hc169 dX12_nextRow_34)).trans (by rw [ki_iconst_1])
theorem q169_35 {v0 : Int32} {v1 : Int32} : ab_res scr 169 d M 35 [l0, l1, l2] (.int v0 :: .int v1 :: st) = ab_res scr 169 d M 36 [l0, l1, l2] (.int (v1 &&& v0) :: st) := ab_xg (ab_dc hc169 dX12_nextRow_35) rfl rfl
theorem q169_36 {v0 : Int32} : ab_res scr 169 d M 36 [l0, l1, l2] (.int v0 :: st) = if ¬ v0 = 0 then ab_res scr 169 d M 45 [l0, l1, l2] (st) else ab_res scr 169 d M 39 [l0, l1, l2] (st) := ab_o_br2 (off := 9) (ab_dc hc169 dX12_nextRow_36) (by decide) rfl rfl
theorem q169_39 {x : Int32} : ab_res scr 169 d M 39 [l0, l1, some (.int x)] (st) = ab_res scr 169 d M 42 [l0, ab_nl l1, some (.int (x + 1))] (st) := (ab_o_iinc (k := 2) (ab_dc hc169 dX12_nextRow_39) hn169 (by decide) rfl).trans (by rw [ki_iconst_1]; exact ab_kl1 [l0] _ l1 rfl rfl)
theorem q169_42 : ab_res scr 169 d M 42 [l0, l1, l2] (st) = ab_res scr 169 d M 20 [l0, l1, l2] (st) := ab_o_goto (ab_dc hc169 dX12_nextRow_42) (by decide)
theorem q169_45 {x : Int32} : ab_res scr 169 d M 45 [l0, l1, some (.int x)] (st) = ab_res scr 169 d M 46 [l0, l1, some (.int x)] (.int x :: st) := ab_o_iload_n (ab_dc hc169 dX12_nextRow_45) rfl
theorem q169_46 : ab_res scr 169 d M 46 [l0, l1, l2] (st) = ab_res scr 169 d M 48 [l0, l1, l2] (.int 8 :: st) := (ab_o_bipush (ab_dc hc169 dX12_nextRow_46)).trans (by rw [ki_bipush_8])
theorem q169_48 {v0 : Int32} {v1 : Int32} : ab_res scr 169 d M 48 [l0, l1, l2] (.int v0 :: .int v1 :: st) = if v0 ≤ v1 then ab_res scr 169 d M 60 [l0, l1, l2] (st) else ab_res scr 169 d M 51 [l0, l1, l2] (st) := ab_o_br2 (off := 12) (ab_dc hc169 dX12_nextRow_48) (by decide) rfl rfl
theorem q169_51 {xr : Nat} : ab_res scr 169 d M 51 [some (.ref xr), l1, l2] (st) = ab_res scr 169 d M 52 [some (.ref xr), l1, l2] (.ref xr :: st) := ab_o_aload_n (ab_dc hc169 dX12_nextRow_51) rfl
theorem q169_52 {v0 : Nat} : ab_res scr 169 d M 52 [l0, l1, l2] (.ref v0 :: st) = (ab_gF ab_L0 M v0 12 36).bind fun v => ab_res scr 169 d M 55 [l0, l1, l2] (v :: st) := ab_o_getfield (ab_dc hc169 dX12_nextRow_52) hk169 lk_fl_12_65
theorem q169_55 {x : Int32} : ab_res scr 169 d M 55 [l0, some (.int x), l2] (st) = ab_res scr 169 d M 56 [l0, some (.int x), l2] (.int x :: st) := ab_o_iload_n (ab_dc hc169 dX12_nextRow_55) rfl
theorem q169_56 {x : Int32} : ab_res scr 169 d M 56 [l0, l1, some (.int x)] (st) = ab_res scr 169 d M 57 [l0, l1, some (.int x)] (.int x :: st) := ab_o_iload_n (ab_dc hc169 dX12_nextRow_56) rfl
theorem q169_57 {v0 : Int32} {v1 : Int32} {v2 : Nat} : ab_res scr 169 d M 57 [l0, l1, l2] (.int v0 :: .int v1 :: .ref v2 :: st) = if ab_si v2 .int v1 = true then ab_res scr 169 d (ab_up M v2 v1.toNatClampNeg v0) 58 [l0, l1, l2] (st) else none := ab_o_iastore (ab_dc hc169 dX12_nextRow_57)
theorem q169_58 : ab_res scr 169 d M 58 [l0, l1, l2] (st) = ab_res scr 169 d M 59 [l0, l1, l2] (.int 1 :: st) := (ab_o_iconst (ab_dc hc169 dX12_nextRow_58)).trans (by rw [ki_iconst_1])
theorem q169_59 {v0 : Int32} (hv : (narrow .boolean (.int v0) = .int v0) = True) : ab_res scr 169 d M 59 [l0, l1, l2] ([.int v0]) = some (M, some (.int v0)) := ab_o_ireturn (ab_dc hc169 dX12_nextRow_59) hr169 (of_eq_true hv)
theorem q169_60 {xr : Nat} : ab_res scr 169 d M 60 [some (.ref xr), l1, l2] (st) = ab_res scr 169 d M 61 [some (.ref xr), l1, l2] (.ref xr :: st) := ab_o_aload_n (ab_dc hc169 dX12_nextRow_60) rfl
theorem q169_61 {v0 : Nat} : ab_res scr 169 d M 61 [l0, l1, l2] (.ref v0 :: st) = (ab_gF ab_L0 M v0 12 36).bind fun v => ab_res scr 169 d M 64 [l0, l1, l2] (v :: st) := ab_o_getfield (ab_dc hc169 dX12_nextRow_61) hk169 lk_fl_12_65
theorem q169_64 {x : Int32} : ab_res scr 169 d M 64 [l0, some (.int x), l2] (st) = ab_res scr 169 d M 65 [l0, some (.int x), l2] (.int x :: st) := ab_o_iload_n (ab_dc hc169 dX12_nextRow_64) rfl
theorem q169_65 : ab_res scr 169 d M 65 [l0, l1, l2] (st) = ab_res scr 169 d M 66 [l0, l1, l2] (.int 0 :: st) := (ab_o_iconst (ab_dc hc169 dX12_nextRow_65)).trans (by rw [ki_iconst_0])
theorem q169_66 {v0 : Int32} {v1 : Int32} {v2 : Nat} : ab_res scr 169 d M 66 [l0, l1, l2] (.int v0 :: .int v1 :: .ref v2 :: st) = if ab_si v2 .int v1 = true then ab_res scr 169 d (ab_up M v2 v1.toNatClampNeg v0) 67 [l0, l1, l2] (st) else none := ab_o_iastore (ab_dc hc169 dX12_nextRow_66)
theorem q169_67 {xr : Nat} : ab_res scr 169 d M 67 [some (.ref xr), l1, l2] (st) = ab_res scr 169 d M 68 [some (.ref xr), l1, l2] (.ref xr :: st) := ab_o_aload_n (ab_dc hc169 dX12_nextRow_67) rfl
theorem q169_68 {v0 : Nat} : ab_res scr 169 d M 68 [l0, l1, l2] (.ref v0 :: st) = (ab_gF ab_L0 M v0 12 35).bind fun v => ab_res scr 169 d M 71 [l0, l1, l2] (v :: st) := ab_o_getfield (ab_dc hc169 dX12_nextRow_68) hk169 lk_fl_12_62
theorem q169_71 {x : Int32} : ab_res scr 169 d M 71 [l0, some (.int x), l2] (st) = ab_res scr 169 d M 72 [l0, some (.int x), l2] (.int x :: st) := ab_o_iload_n (ab_dc hc169 dX12_nextRow_71) rfl
theorem q169_72 {v0 : Int32} {v1 : Nat} : ab_res scr 169 d M 72 [l0, l1, l2] (.int v0 :: .ref v1 :: st) = (ab_ald scr ab_L0 M v1 .int v0).bind fun v => ab_res scr 169 d M 73 [l0, l1, l2] (.int v :: st) := ab_o_iaload (ab_dc hc169 dX12_nextRow_72)
theorem q169_73 {xr : Nat} : ab_res scr 169 d M 73 [some (.ref xr), l1, l2] (st) = ab_res scr 169 d M 74 [some (.ref xr), l1, l2] (.ref xr :: st) := ab_o_aload_n (ab_dc hc169 dX12_nextRow_73) rfl
theorem q169_74 {v0 : Nat} : ab_res scr 169 d M 74 [l0, l1, l2] (.ref v0 :: st) = (ab_gF ab_L0 M v0 12 36).bind fun v => ab_res scr 169 d M 77 [l0, l1, l2] (v :: st) := ab_o_getfield (ab_dc hc169 dX12_nextRow_74) hk169 lk_fl_12_65
theorem q169_77 {x : Int32} : ab_res scr 169 d M 77 [l0, some (.int x), l2] (st) = ab_res scr 169 d M 78 [l0, some (.int x), l2] (.int x :: st) := ab_o_iload_n (ab_dc hc169 dX12_nextRow_77) rfl
theorem q169_78 {v0 : Int32} {v1 : Nat} : ab_res scr 169 d M 78 [l0, l1, l2] (.int v0 :: .ref v1 :: st) = (ab_ald scr ab_L0 M v1 .int v0).bind fun v => ab_res scr 169 d M 79 [l0, l1, l2] (.int v :: st) := ab_o_iaload (ab_dc hc169 dX12_nextRow_78)
theorem q169_79 {v0 : Int32} {v1 : Int32} : ab_res scr 169 d M 79 [l0, l1, l2] (.int v0 :: .int v1 :: st) = ab_res scr 169 d M 80 [l0, l1, l2] (.int (v1 >>> (v0 &&& 31)) :: st) := ab_xg (ab_dc hc169 dX12_nextRow_79) rfl rfl
theorem q169_80 : ab_res scr 169 d M 80 [l0, l1, l2] (st) = ab_res scr 169 d M 81 [l0, l1, l2] (.int 1 :: st) := (ab_o_iconst (ab_dc hc169 dX12_nextRow_80)).trans (by rw [ki_iconst_1])
theorem q169_81 {v0 : Int32} {v1 : Int32} : ab_res scr 169 d M 81 [l0, l1, l2] (.int v0 :: .int v1 :: st) = ab_res scr 169 d M 82 [l0, l1, l2] (.int (v1 &&& v0) :: st) := ab_xg (ab_dc hc169 dX12_nextRow_81) rfl rfl
theorem q169_82 {v0 : Int32} : ab_res scr 169 d M 82 [l0, l1, l2] (.int v0 :: st) = if ¬ v0 = 0 then ab_res scr 169 d M 98 [l0, l1, l2] (st) else ab_res scr 169 d M 85 [l0, l1, l2] (st) := ab_o_br2 (off := 16) (ab_dc hc169 dX12_nextRow_82) (by decide) rfl rfl
theorem q169_85 {xr : Nat} : ab_res scr 169 d M 85 [some (.ref xr), l1, l2] (st) = ab_res scr 169 d M 86 [some (.ref xr), l1, l2] (.ref xr :: st) := ab_o_aload_n (ab_dc hc169 dX12_nextRow_85) rfl
theorem q169_86 {v0 : Nat} : ab_res scr 169 d M 86 [l0, l1, l2] (.ref v0 :: st) = (ab_gF ab_L0 M v0 12 36).bind fun v => ab_res scr 169 d M 89 [l0, l1, l2] (v :: st) := ab_o_getfield (ab_dc hc169 dX12_nextRow_86) hk169 lk_fl_12_65
theorem q169_89 {x : Int32} : ab_res scr 169 d M 89 [l0, some (.int x), l2] (st) = ab_res scr 169 d M 90 [l0, some (.int x), l2] (.int x :: st) := ab_o_iload_n (ab_dc hc169 dX12_nextRow_89) rfl
theorem q169_90 {v0 : Int32} {v1 : Nat} : ab_res scr 169 d M 90 [l0, l1, l2] (.int v0 :: .ref v1 :: st) = ab_res scr 169 d M 91 [l0, l1, l2] (.int v0 :: .ref v1 :: .int v0 :: .ref v1 :: st) := ab_xg (ab_dc hc169 dX12_nextRow_90) rfl rfl
theorem q169_91 {v0 : Int32} {v1 : Nat} : ab_res scr 169 d M 91 [l0, l1, l2] (.int v0 :: .ref v1 :: st) = (ab_ald scr ab_L0 M v1 .int v0).bind fun v => ab_res scr 169 d M 92 [l0, l1, l2] (.int v :: st) := ab_o_iaload (ab_dc hc169 dX12_nextRow_91)
theorem q169_92 : ab_res scr 169 d M 92 [l0, l1, l2] (st) = ab_res scr 169 d M 93 [l0, l1, l2] (.int 1 :: st) := (ab_o_iconst (ab_dc hc169 dX12_nextRow_92)).trans (by rw [ki_iconst_1])
theorem q169_93 {v0 : Int32} {v1 : Int32} : ab_res scr 169 d M 93 [l0, l1, l2] (.int v0 :: .int v1 :: st) = ab_res scr 169 d M 94 [l0, l1, l2] (.int (v1 + v0) :: st) := ab_xg (ab_dc hc169 dX12_nextRow_93) rfl rfl
theorem q169_94 {v0 : Int32} {v1 : Int32} {v2 : Nat} : ab_res scr 169 d M 94 [l0, l1, l2] (.int v0 :: .int v1 :: .ref v2 :: st) = if ab_si v2 .int v1 = true then ab_res scr 169 d (ab_up M v2 v1.toNatClampNeg v0) 95 [l0, l1, l2] (st) else none := ab_o_iastore (ab_dc hc169 dX12_nextRow_94)
theorem q169_95 : ab_res scr 169 d M 95 [l0, l1, l2] (st) = ab_res scr 169 d M 67 [l0, l1, l2] (st) := ab_o_goto (ab_dc hc169 dX12_nextRow_95) (by decide)
theorem q169_98 {x : Int32} : ab_res scr 169 d M 98 [l0, some (.int x), l2] (st) = ab_res scr 169 d M 101 [ab_nl l0, some (.int (x + (-1))), l2] (st) := (ab_o_iinc (k := 1) (ab_dc hc169 dX12_nextRow_98) hn169 (by decide) rfl).trans (by rw [ki_iconst_m1]; exact ab_kl1 [] _ l0 rfl rfl)
theorem q169_101 : ab_res scr 169 d M 101 [l0, l1, l2] (st) = ab_res scr 169 d M 7 [l0, l1, l2] (st) := ab_o_goto (ab_dc hc169 dX12_nextRow_101) (by decide)
theorem q169_104 : ab_res scr 169 d M 104 [l0, l1, l2] (st) = ab_res scr 169 d M 105 [l0, l1, l2] (.int 0 :: st) := (ab_o_iconst (ab_dc hc169 dX12_nextRow_104)).trans (by rw [ki_iconst_0])
theorem q169_105 {v0 : Int32} (hv : (narrow .boolean (.int v0) = .int v0) = True) : ab_res scr 169 d M 105 [l0, l1, l2] ([.int v0]) = some (M, some (.int v0)) := ab_o_ireturn (ab_dc hc169 dX12_nextRow_105) hr169 (of_eq_true hv)
end Q169
theorem hc170 : ab_code 170 = cX12_layBest := rfl
theorem hn170 : ab_nL 170 = 4 := rfl
theorem hk170 : ab_ky 170 = 12 := rfl
theorem hr170 : ab_ret 170 = some .int := rfl
section Q170
variable {scr : Option (List Int32)} {d : Nat} {M : ab_M} {st : List Value} {l0 l1 l2 l3 : Option Value}
theorem q170_0 {xr : Nat} : ab_res scr 170 d M 0 [some (.ref xr), l1, l2, l3] (st) = ab_res scr 170 d M 1 [some (.ref xr), l1, l2, l3] (.ref xr :: st) := ab_o_aload_n (ab_dc hc170 dX12_layBest_0) rfl
theorem q170_1 {v0 : Nat} (hb : (ab_rc ab_L0 v0 = some 12) = True) : ab_res scr 170 7 M 1 [l0, l1, l2, l3] ([.ref v0]) = (ab_ms scr 167 [.ref v0] M).bind fun o => ab_res scr 170 7 o.1 4 [l0, l1, l2, l3] (ab_pr o.2 []) := ab_o_virtual (ab_dc hc170 dX12_layBest_1) hk170 lk_ca_12_296 hm167 (Nat.le_of_ble_eq_true rfl) rfl rfl rfl (of_eq_true hb) rfl rfl
theorem q170_4 {v0 : Int32} : ab_res scr 170 d M 4 [l0, l1, l2, l3] (.int v0 :: st) = ab_res scr 170 d M 5 [ab_nl l0, some (.int v0), l2, l3] (st) := (ab_o_st1 (k := 1) (ab_dc hc170 dX12_layBest_4) (Or.inr (Or.inr (Or.inl ⟨1, rfl, rfl, rfl, ⟨_, rfl⟩⟩))) hn170 (by decide)).trans (ab_kl1 [] _ l0 rfl rfl)
theorem q170_5 {xr : Nat} : ab_res scr 170 d M 5 [some (.ref xr), l1, l2, l3] (st) = ab_res scr 170 d M 6 [some (.ref xr), l1, l2, l3] (.ref xr :: st) := ab_o_aload_n (ab_dc hc170 dX12_layBest_5) rfl
theorem q170_6 {v0 : Nat} : ab_res scr 170 d M 6 [l0, l1, l2, l3] (.ref v0 :: st) = (ab_gF ab_L0 M v0 12 30).bind fun v => ab_res scr 170 d M 9 [l0, l1, l2, l3] (v :: st) := ab_o_getfield (ab_dc hc170 dX12_layBest_6) hk170 lk_fl_12_197
theorem q170_9 : ab_res scr 170 d M 9 [l0, l1, l2, l3] (st) = ab_res scr 170 d M 11 [l0, l1, l2, l3] (.int 6 :: st) := (ab_o_bipush (ab_dc hc170 dX12_layBest_9)).trans (by rw [ki_bipush_6])
theorem q170_11 {v0 : Int32} {v1 : Int32} : ab_res scr 170 d M 11 [l0, l1, l2, l3] (.int v0 :: .int v1 :: st) = if v1 ≤ v0 then ab_res scr 170 d M 17 [l0, l1, l2, l3] (st) else ab_res scr 170 d M 14 [l0, l1, l2, l3] (st) := ab_o_br2 (off := 6) (ab_dc hc170 dX12_layBest_11) (by decide) rfl rfl
theorem q170_14 : ab_res scr 170 d M 14 [l0, l1, l2, l3] (st) = ab_res scr 170 d M 16 [l0, l1, l2, l3] (.int (-2) :: st) := (ab_o_bipush (ab_dc hc170 dX12_layBest_14)).trans (by rw [ki_bipush_m2])
theorem q170_16 {v0 : Int32} : ab_res scr 170 d M 16 [l0, l1, l2, l3] ([.int v0]) = some (M, some (.int v0)) := ab_o_ireturn (ab_dc hc170 dX12_layBest_16) hr170 rfl
theorem q170_17 {x : Int32} : ab_res scr 170 d M 17 [l0, some (.int x), l2, l3] (st) = ab_res scr 170 d M 18 [l0, some (.int x), l2, l3] (.int x :: st) := ab_o_iload_n (ab_dc hc170 dX12_layBest_17) rfl
theorem q170_18 {v0 : Int32} : ab_res scr 170 d M 18 [l0, l1, l2, l3] (.int v0 :: st) = if v0 = 0 then ab_res scr 170 d M 23 [l0, l1, l2, l3] (st) else ab_res scr 170 d M 21 [l0, l1, l2, l3] (st) := ab_o_br2 (off := 5) (ab_dc hc170 dX12_layBest_18) (by decide) rfl rfl
theorem q170_21 {x : Int32} : ab_res scr 170 d M 21 [l0, some (.int x), l2, l3] (st) = ab_res scr 170 d M 22 [l0, some (.int x), l2, l3] (.int x :: st) := ab_o_iload_n (ab_dc hc170 dX12_layBest_21) rfl
theorem q170_22 {v0 : Int32} : ab_res scr 170 d M 22 [l0, l1, l2, l3] ([.int v0]) = some (M, some (.int v0)) := ab_o_ireturn (ab_dc hc170 dX12_layBest_22) hr170 rfl
theorem q170_23 : ab_res scr 170 d M 23 [l0, l1, l2, l3] (st) = ab_res scr 170 d M 24 [l0, l1, l2, l3] (.int 0 :: st) := (ab_o_iconst (ab_dc hc170 dX12_layBest_23)).trans (by rw [ki_iconst_0])
theorem q170_24 {v0 : Int32} : ab_res scr 170 d M 24 [l0, l1, l2, l3] (.int v0 :: st) = ab_res scr 170 d M 25 [l0, ab_nl l1, some (.int v0), l3] (st) := (ab_o_st1 (k := 2) (ab_dc hc170 dX12_layBest_24) (Or.inr (Or.inr (Or.inl ⟨2, rfl, rfl, rfl, ⟨_, rfl⟩⟩))) hn170 (by decide)).trans (ab_kl1 [l0] _ l1 rfl rfl)
theorem q170_25 {x : Int32} : ab_res scr 170 d M 25 [l0, l1, some (.int x), l3] (st) = ab_res scr 170 d M 26 [l0, l1, some (.int x), l3] (.int x :: st) := ab_o_iload_n (ab_dc hc170 dX12_layBest_25) rfl
theorem q170_26 {xr : Nat} : ab_res scr 170 d M 26 [some (.ref xr), l1, l2, l3] (st) = ab_res scr 170 d M 27 [some (.ref xr), l1, l2, l3] (.ref xr :: st) := ab_o_aload_n (ab_dc hc170 dX12_layBest_26) rfl
theorem q170_27 {v0 : Nat} : ab_res scr 170 d M 27 [l0, l1, l2, l3] (.ref v0 :: st) = (ab_gF ab_L0 M v0 12 30).bind fun v => ab_res scr 170 d M 30 [l0, l1, l2, l3] (v :: st) := ab_o_getfield (ab_dc hc170 dX12_layBest_27) hk170 lk_fl_12_197
theorem q170_30 {v0 : Int32} {v1 : Int32} : ab_res scr 170 d M 30 [l0, l1, l2, l3] (.int v0 :: .int v1 :: st) = if v0 ≤ v1 then ab_res scr 170 d M 77 [l0, l1, l2, l3] (st) else ab_res scr 170 d M 33 [l0, l1, l2, l3] (st) := ab_o_br2 (off := 47) (ab_dc hc170 dX12_layBest_30) (by decide) rfl rfl
theorem q170_33 {xr : Nat} : ab_res scr 170 d M 33 [some (.ref xr), l1, l2, l3] (st) = ab_res scr 170 d M 34 [some (.ref xr), l1, l2, l3] (.ref xr :: st) := ab_o_aload_n (ab_dc hc170 dX12_layBest_33) rfl
theorem q170_34 {v0 : Nat} : ab_res scr 170 d M 34 [l0, l1, l2, l3] (.ref v0 :: st) = (ab_gF ab_L0 M v0 12 36).bind fun v => ab_res scr 170 d M 37 [l0, l1, l2, l3] (v :: st) := ab_o_getfield (ab_dc hc170 dX12_layBest_34) hk170 lk_fl_12_65
theorem q170_37 {x : Int32} : ab_res scr 170 d M 37 [l0, l1, some (.int x), l3] (st) = ab_res scr 170 d M 38 [l0, l1, some (.int x), l3] (.int x :: st) := ab_o_iload_n (ab_dc hc170 dX12_layBest_37) rfl
theorem q170_38 : ab_res scr 170 d M 38 [l0, l1, l2, l3] (st) = ab_res scr 170 d M 39 [l0, l1, l2, l3] (.int 0 :: st) := (ab_o_iconst (ab_dc hc170 dX12_layBest_38)).trans (by rw [ki_iconst_0])
theorem q170_39 {v0 : Int32} {v1 : Int32} {v2 : Nat} : ab_res scr 170 d M 39 [l0, l1, l2, l3] (.int v0 :: .int v1 :: .ref v2 :: st) = if ab_si v2 .int v1 = true then ab_res scr 170 d (ab_up M v2 v1.toNatClampNeg v0) 40 [l0, l1, l2, l3] (st) else none := ab_o_iastore (ab_dc hc170 dX12_layBest_39)
theorem q170_40 {xr : Nat} : ab_res scr 170 d M 40 [some (.ref xr), l1, l2, l3] (st) = ab_res scr 170 d M 41 [some (.ref xr), l1, l2, l3] (.ref xr :: st) := ab_o_aload_n (ab_dc hc170 dX12_layBest_40) rfl
theorem q170_41 {v0 : Nat} : ab_res scr 170 d M 41 [l0, l1, l2, l3] (.ref v0 :: st) = (ab_gF ab_L0 M v0 12 35).bind fun v => ab_res scr 170 d M 44 [l0, l1, l2, l3] (v :: st) := ab_o_getfield (ab_dc hc170 dX12_layBest_41) hk170 lk_fl_12_62
theorem q170_44 {x : Int32} : ab_res scr 170 d M 44 [l0, l1, some (.int x), l3] (st) = ab_res scr 170 d M 45 [l0, l1, some (.int x), l3] (.int x :: st) := ab_o_iload_n (ab_dc hc170 dX12_layBest_44) rfl
theorem q170_45 {v0 : Int32} {v1 : Nat} : ab_res scr 170 d M 45 [l0, l1, l2, l3] (.int v0 :: .ref v1 :: st) = (ab_ald scr ab_L0 M v1 .int v0).bind fun v => ab_res scr 170 d M 46 [l0, l1, l2, l3] (.int v :: st) := ab_o_iaload (ab_dc hc170 dX12_layBest_45)
theorem q170_46 {xr : Nat} : ab_res scr 170 d M 46 [some (.ref xr), l1, l2, l3] (st) = ab_res scr 170 d M 47 [some (.ref xr), l1, l2, l3] (.ref xr :: st) := ab_o_aload_n (ab_dc hc170 dX12_layBest_46) rfl
theorem q170_47 {v0 : Nat} : ab_res scr 170 d M 47 [l0, l1, l2, l3] (.ref v0 :: st) = (ab_gF ab_L0 M v0 12 36).bind fun v => ab_res scr 170 d M 50 [l0, l1, l2, l3] (v :: st) := ab_o_getfield (ab_dc hc170 dX12_layBest_47) hk170 lk_fl_12_65
theorem q170_50 {x : Int32} : ab_res scr 170 d M 50 [l0, l1, some (.int x), l3] (st) = ab_res scr 170 d M 51 [l0, l1, some (.int x), l3] (.int x :: st) := ab_o_iload_n (ab_dc hc170 dX12_layBest_50) rfl
theorem q170_51 {v0 : Int32} {v1 : Nat} : ab_res scr 170 d M 51 [l0, l1, l2, l3] (.int v0 :: .ref v1 :: st) = (ab_ald scr ab_L0 M v1 .int v0).bind fun v => ab_res scr 170 d M 52 [l0, l1, l2, l3] (.int v :: st) := ab_o_iaload (ab_dc hc170 dX12_layBest_51)
theorem q170_52 {v0 : Int32} {v1 : Int32} : ab_res scr 170 d M 52 [l0, l1, l2, l3] (.int v0 :: .int v1 :: st) = ab_res scr 170 d M 53 [l0, l1, l2, l3] (.int (v1 >>> (v0 &&& 31)) :: st) := ab_xg (ab_dc hc170 dX12_layBest_52) rfl rfl
theorem q170_53 : ab_res scr 170 d M 53 [l0, l1, l2, l3] (st) = ab_res scr 170 d M 54 [l0, l1, l2, l3] (.int 1 :: st) := (ab_o_iconst (ab_dc hc170 dX12_layBest_53)).trans (by rw [ki_iconst_1])
theorem q170_54 {v0 : Int32} {v1 : Int32} : ab_res scr 170 d M 54 [l0, l1, l2, l3] (.int v0 :: .int v1 :: st) = ab_res scr 170 d M 55 [l0, l1, l2, l3] (.int (v1 &&& v0) :: st) := ab_xg (ab_dc hc170 dX12_layBest_54) rfl rfl
theorem q170_55 {v0 : Int32} : ab_res scr 170 d M 55 [l0, l1, l2, l3] (.int v0 :: st) = if ¬ v0 = 0 then ab_res scr 170 d M 71 [l0, l1, l2, l3] (st) else ab_res scr 170 d M 58 [l0, l1, l2, l3] (st) := ab_o_br2 (off := 16) (ab_dc hc170 dX12_layBest_55) (by decide) rfl rfl
theorem q170_58 {xr : Nat} : ab_res scr 170 d M 58 [some (.ref xr), l1, l2, l3] (st) = ab_res scr 170 d M 59 [some (.ref xr), l1, l2, l3] (.ref xr :: st) := ab_o_aload_n (ab_dc hc170 dX12_layBest_58) rfl
theorem q170_59 {v0 : Nat} : ab_res scr 170 d M 59 [l0, l1, l2, l3] (.ref v0 :: st) = (ab_gF ab_L0 M v0 12 36).bind fun v => ab_res scr 170 d M 62 [l0, l1, l2, l3] (v :: st) := ab_o_getfield (ab_dc hc170 dX12_layBest_59) hk170 lk_fl_12_65
theorem q170_62 {x : Int32} : ab_res scr 170 d M 62 [l0, l1, some (.int x), l3] (st) = ab_res scr 170 d M 63 [l0, l1, some (.int x), l3] (.int x :: st) := ab_o_iload_n (ab_dc hc170 dX12_layBest_62) rfl
theorem q170_63 {v0 : Int32} {v1 : Nat} : ab_res scr 170 d M 63 [l0, l1, l2, l3] (.int v0 :: .ref v1 :: st) = ab_res scr 170 d M 64 [l0, l1, l2, l3] (.int v0 :: .ref v1 :: .int v0 :: .ref v1 :: st) := ab_xg (ab_dc hc170 dX12_layBest_63) rfl rfl
theorem q170_64 {v0 : Int32} {v1 : Nat} : ab_res scr 170 d M 64 [l0, l1, l2, l3] (.int v0 :: .ref v1 :: st) = (ab_ald scr ab_L0 M v1 .int v0).bind fun v => ab_res scr 170 d M 65 [l0, l1, l2, l3] (.int v :: st) := ab_o_iaload (ab_dc hc170 dX12_layBest_64)
theorem q170_65 : ab_res scr 170 d M 65 [l0, l1, l2, l3] (st) = ab_res scr 170 d M 66 [l0, l1, l2, l3] (.int 1 :: st) := (ab_o_iconst (ab_dc hc170 dX12_layBest_65)).trans (by rw [ki_iconst_1])
theorem q170_66 {v0 : Int32} {v1 : Int32} : ab_res scr 170 d M 66 [l0, l1, l2, l3] (.int v0 :: .int v1 :: st) = ab_res scr 170 d M 67 [l0, l1, l2, l3] (.int (v1 + v0) :: st) := ab_xg (ab_dc hc170 dX12_layBest_66) rfl rfl
theorem q170_67 {v0 : Int32} {v1 : Int32} {v2 : Nat} : ab_res scr 170 d M 67 [l0, l1, l2, l3] (.int v0 :: .int v1 :: .ref v2 :: st) = if ab_si v2 .int v1 = true then ab_res scr 170 d (ab_up M v2 v1.toNatClampNeg v0) 68 [l0, l1, l2, l3] (st) else none := ab_o_iastore (ab_dc hc170 dX12_layBest_67)
theorem q170_68 : ab_res scr 170 d M 68 [l0, l1, l2, l3] (st) = ab_res scr 170 d M 40 [l0, l1, l2, l3] (st) := ab_o_goto (ab_dc hc170 dX12_layBest_68) (by decide)
theorem q170_71 {x : Int32} : ab_res scr 170 d M 71 [l0, l1, some (.int x), l3] (st) = ab_res scr 170 d M 74 [l0, ab_nl l1, some (.int (x + 1)), l3] (st) := (ab_o_iinc (k := 2) (ab_dc hc170 dX12_layBest_71) hn170 (by decide) rfl).trans (by rw [ki_iconst_1]; exact ab_kl1 [l0] _ l1 rfl rfl)
theorem q170_74 : ab_res scr 170 d M 74 [l0, l1, l2, l3] (st) = ab_res scr 170 d M 25 [l0, l1, l2, l3] (st) := ab_o_goto (ab_dc hc170 dX12_layBest_74) (by decide)
theorem q170_77 {xr : Nat} : ab_res scr 170 d M 77 [some (.ref xr), l1, l2, l3] (st) = ab_res scr 170 d M 78 [some (.ref xr), l1, l2, l3] (.ref xr :: st) := ab_o_aload_n (ab_dc hc170 dX12_layBest_77) rfl
theorem q170_78 : ab_res scr 170 d M 78 [l0, l1, l2, l3] (st) = ab_res scr 170 d M 80 [l0, l1, l2, l3] (.int (-4) :: st) := (ab_o_bipush (ab_dc hc170 dX12_layBest_78)).trans (by rw [ki_bipush_m4])
theorem q170_80 {v0 : Int32} {v1 : Nat} (hp : (ab_pt v1 12 38 v0 = true) = True) : ab_res scr 170 d M 80 [l0, l1, l2, l3] (.int v0 :: .ref v1 :: st) = ab_res scr 170 d (ab_up M v1 38 v0) 83 [l0, l1, l2, l3] (st) := ab_o_putfield (ab_dc hc170 dX12_layBest_80) hk170 lk_fl_12_299 (of_eq_true hp)
theorem q170_83 {xr : Nat} : ab_res scr 170 d M 83 [some (.ref xr), l1, l2, l3] (st) = ab_res scr 170 d M 84 [some (.ref xr), l1, l2, l3] (.ref xr :: st) := ab_o_aload_n (ab_dc hc170 dX12_layBest_83) rfl
theorem q170_84 {v0 : Nat} (hb : (ab_rc ab_L0 v0 = some 12) = True) : ab_res scr 170 7 M 84 [l0, l1, l2, l3] ([.ref v0]) = (ab_ms scr 168 [.ref v0] M).bind fun o => ab_res scr 170 7 o.1 87 [l0, l1, l2, l3] (ab_pr o.2 []) := ab_o_virtual (ab_dc hc170 dX12_layBest_84) hk170 lk_ca_12_302 hm168 (Nat.le_of_ble_eq_true rfl) rfl rfl rfl (of_eq_true hb) rfl rfl
theorem q170_87 {v0 : Int32} : ab_res scr 170 d M 87 [l0, l1, l2, l3] (.int v0 :: st) = ab_res scr 170 d M 88 [l0, ab_nl l1, some (.int v0), l3] (st) := (ab_o_st1 (k := 2) (ab_dc hc170 dX12_layBest_87) (Or.inr (Or.inr (Or.inl ⟨2, rfl, rfl, rfl, ⟨_, rfl⟩⟩))) hn170 (by decide)).trans (ab_kl1 [l0] _ l1 rfl rfl)
theorem q170_88 {xr : Nat} : ab_res scr 170 d M 88 [some (.ref xr), l1, l2, l3] (st) = ab_res scr 170 d M 89 [some (.ref xr), l1, l2, l3] (.ref xr :: st) := ab_o_aload_n (ab_dc hc170 dX12_layBest_88) rfl
theorem q170_89 {v0 : Nat} : ab_res scr 170 d M 89 [l0, l1, l2, l3] (.ref v0 :: st) = (ab_gF ab_L0 M v0 12 38).bind fun v => ab_res scr 170 d M 92 [l0, l1, l2, l3] (v :: st) := ab_o_getfield (ab_dc hc170 dX12_layBest_89) hk170 lk_fl_12_299
theorem q170_92 : ab_res scr 170 d M 92 [l0, l1, l2, l3] (st) = ab_res scr 170 d M 94 [l0, l1, l2, l3] (.int (-4) :: st) := (ab_o_bipush (ab_dc hc170 dX12_layBest_92)).trans (by rw [ki_bipush_m4])
theorem q170_94 {v0 : Int32} {v1 : Int32} : ab_res scr 170 d M 94 [l0, l1, l2, l3] (.int v0 :: .int v1 :: st) = if v1 = v0 then ab_res scr 170 d M 105 [l0, l1, l2, l3] (st) else ab_res scr 170 d M 97 [l0, l1, l2, l3] (st) := ab_o_br2 (off := 11) (ab_dc hc170 dX12_layBest_94) (by decide) rfl rfl
theorem q170_97 {x : Int32} : ab_res scr 170 d M 97 [l0, l1, some (.int x), l3] (st) = ab_res scr 170 d M 98 [l0, l1, some (.int x), l3] (.int x :: st) := ab_o_iload_n (ab_dc hc170 dX12_layBest_97) rfl
theorem q170_98 {xr : Nat} : ab_res scr 170 d M 98 [some (.ref xr), l1, l2, l3] (st) = ab_res scr 170 d M 99 [some (.ref xr), l1, l2, l3] (.ref xr :: st) := ab_o_aload_n (ab_dc hc170 dX12_layBest_98) rfl
theorem q170_99 {v0 : Nat} : ab_res scr 170 d M 99 [l0, l1, l2, l3] (.ref v0 :: st) = (ab_gF ab_L0 M v0 12 38).bind fun v => ab_res scr 170 d M 102 [l0, l1, l2, l3] (v :: st) := ab_o_getfield (ab_dc hc170 dX12_layBest_99) hk170 lk_fl_12_299
theorem q170_102 {v0 : Int32} {v1 : Int32} : ab_res scr 170 d M 102 [l0, l1, l2, l3] (.int v0 :: .int v1 :: st) = if v0 ≤ v1 then ab_res scr 170 d M 138 [l0, l1, l2, l3] (st) else ab_res scr 170 d M 105 [l0, l1, l2, l3] (st) := ab_o_br2 (off := 36) (ab_dc hc170 dX12_layBest_102) (by decide) rfl rfl
theorem q170_105 {xr : Nat} : ab_res scr 170 d M 105 [some (.ref xr), l1, l2, l3] (st) = ab_res scr 170 d M 106 [some (.ref xr), l1, l2, l3] (.ref xr :: st) := ab_o_aload_n (ab_dc hc170 dX12_layBest_105) rfl
theorem q170_106 {x : Int32} : ab_res scr 170 d M 106 [l0, l1, some (.int x), l3] (st) = ab_res scr 170 d M 107 [l0, l1, some (.int x), l3] (.int x :: st) := ab_o_iload_n (ab_dc hc170 dX12_layBest_106) rfl
theorem q170_107 {v0 : Int32} {v1 : Nat} (hp : (ab_pt v1 12 38 v0 = true) = True) : ab_res scr 170 d M 107 [l0, l1, l2, l3] (.int v0 :: .ref v1 :: st) = ab_res scr 170 d (ab_up M v1 38 v0) 110 [l0, l1, l2, l3] (st) := ab_o_putfield (ab_dc hc170 dX12_layBest_107) hk170 lk_fl_12_299 (of_eq_true hp)
theorem q170_110 : ab_res scr 170 d M 110 [l0, l1, l2, l3] (st) = ab_res scr 170 d M 111 [l0, l1, l2, l3] (.int 0 :: st) := (ab_o_iconst (ab_dc hc170 dX12_layBest_110)).trans (by rw [ki_iconst_0])
theorem q170_111 {v0 : Int32} : ab_res scr 170 d M 111 [l0, l1, l2, l3] (.int v0 :: st) = ab_res scr 170 d M 112 [l0, l1, ab_nl l2, some (.int v0)] (st) := (ab_o_st1 (k := 3) (ab_dc hc170 dX12_layBest_111) (Or.inr (Or.inr (Or.inl ⟨3, rfl, rfl, rfl, ⟨_, rfl⟩⟩))) hn170 (by decide)).trans (ab_kl1 [l0, l1] _ l2 rfl rfl)
theorem q170_112 {x : Int32} : ab_res scr 170 d M 112 [l0, l1, l2, some (.int x)] (st) = ab_res scr 170 d M 113 [l0, l1, l2, some (.int x)] (.int x :: st) := ab_o_iload_n (ab_dc hc170 dX12_layBest_112) rfl
theorem q170_113 {xr : Nat} : ab_res scr 170 d M 113 [some (.ref xr), l1, l2, l3] (st) = ab_res scr 170 d M 114 [some (.ref xr), l1, l2, l3] (.ref xr :: st) := ab_o_aload_n (ab_dc hc170 dX12_layBest_113) rfl
theorem q170_114 {v0 : Nat} : ab_res scr 170 d M 114 [l0, l1, l2, l3] (.ref v0 :: st) = (ab_gF ab_L0 M v0 12 30).bind fun v => ab_res scr 170 d M 117 [l0, l1, l2, l3] (v :: st) := ab_o_getfield (ab_dc hc170 dX12_layBest_114) hk170 lk_fl_12_197
theorem q170_117 {v0 : Int32} {v1 : Int32} : ab_res scr 170 d M 117 [l0, l1, l2, l3] (.int v0 :: .int v1 :: st) = if v0 ≤ v1 then ab_res scr 170 d M 138 [l0, l1, l2, l3] (st) else ab_res scr 170 d M 120 [l0, l1, l2, l3] (st) := ab_o_br2 (off := 21) (ab_dc hc170 dX12_layBest_117) (by decide) rfl rfl
theorem q170_120 {xr : Nat} : ab_res scr 170 d M 120 [some (.ref xr), l1, l2, l3] (st) = ab_res scr 170 d M 121 [some (.ref xr), l1, l2, l3] (.ref xr :: st) := ab_o_aload_n (ab_dc hc170 dX12_layBest_120) rfl
theorem q170_121 {v0 : Nat} : ab_res scr 170 d M 121 [l0, l1, l2, l3] (.ref v0 :: st) = (ab_gF ab_L0 M v0 12 37).bind fun v => ab_res scr 170 d M 124 [l0, l1, l2, l3] (v :: st) := ab_o_getfield (ab_dc hc170 dX12_layBest_121) hk170 lk_fl_12_68
theorem q170_124 {x : Int32} : ab_res scr 170 d M 124 [l0, l1, l2, some (.int x)] (st) = ab_res scr 170 d M 125 [l0, l1, l2, some (.int x)] (.int x :: st) := ab_o_iload_n (ab_dc hc170 dX12_layBest_124) rfl
theorem q170_125 {xr : Nat} : ab_res scr 170 d M 125 [some (.ref xr), l1, l2, l3] (st) = ab_res scr 170 d M 126 [some (.ref xr), l1, l2, l3] (.ref xr :: st) := ab_o_aload_n (ab_dc hc170 dX12_layBest_125) rfl
theorem q170_126 {v0 : Nat} : ab_res scr 170 d M 126 [l0, l1, l2, l3] (.ref v0 :: st) = (ab_gF ab_L0 M v0 12 36).bind fun v => ab_res scr 170 d M 129 [l0, l1, l2, l3] (v :: st) := ab_o_getfield (ab_dc hc170 dX12_layBest_126) hk170 lk_fl_12_65
theorem q170_129 {x : Int32} : ab_res scr 170 d M 129 [l0, l1, l2, some (.int x)] (st) = ab_res scr 170 d M 130 [l0, l1, l2, some (.int x)] (.int x :: st) := ab_o_iload_n (ab_dc hc170 dX12_layBest_129) rfl
theorem q170_130 {v0 : Int32} {v1 : Nat} : ab_res scr 170 d M 130 [l0, l1, l2, l3] (.int v0 :: .ref v1 :: st) = (ab_ald scr ab_L0 M v1 .int v0).bind fun v => ab_res scr 170 d M 131 [l0, l1, l2, l3] (.int v :: st) := ab_o_iaload (ab_dc hc170 dX12_layBest_130)
theorem q170_131 {v0 : Int32} {v1 : Int32} {v2 : Nat} : ab_res scr 170 d M 131 [l0, l1, l2, l3] (.int v0 :: .int v1 :: .ref v2 :: st) = if ab_si v2 .int v1 = true then ab_res scr 170 d (ab_up M v2 v1.toNatClampNeg v0) 132 [l0, l1, l2, l3] (st) else none := ab_o_iastore (ab_dc hc170 dX12_layBest_131)
theorem q170_132 {x : Int32} : ab_res scr 170 d M 132 [l0, l1, l2, some (.int x)] (st) = ab_res scr 170 d M 135 [l0, l1, ab_nl l2, some (.int (x + 1))] (st) := (ab_o_iinc (k := 3) (ab_dc hc170 dX12_layBest_132) hn170 (by decide) rfl).trans (by rw [ki_iconst_1]; exact ab_kl1 [l0, l1] _ l2 rfl rfl)
theorem q170_135 : ab_res scr 170 d M 135 [l0, l1, l2, l3] (st) = ab_res scr 170 d M 112 [l0, l1, l2, l3] (st) := ab_o_goto (ab_dc hc170 dX12_layBest_135) (by decide)
theorem q170_138 {xr : Nat} : ab_res scr 170 d M 138 [some (.ref xr), l1, l2, l3] (st) = ab_res scr 170 d M 139 [some (.ref xr), l1, l2, l3] (.ref xr :: st) := ab_o_aload_n (ab_dc hc170 dX12_layBest_138) rfl
theorem q170_139 {v0 : Nat} (hb : (ab_rc ab_L0 v0 = some 12) = True) : ab_res scr 170 7 M 139 [l0, l1, l2, l3] ([.ref v0]) = (ab_ms scr 169 [.ref v0] M).bind fun o => ab_res scr 170 7 o.1 142 [l0, l1, l2, l3] (ab_pr o.2 []) := ab_o_virtual (ab_dc hc170 dX12_layBest_139) hk170 lk_ca_12_305 hm169 (Nat.le_of_ble_eq_true rfl) rfl rfl rfl (of_eq_true hb) rfl rfl
theorem q170_142 {v0 : Int32} : ab_res scr 170 d M 142 [l0, l1, l2, l3] (.int v0 :: st) = if ¬ v0 = 0 then ab_res scr 170 d M 83 [l0, l1, l2, l3] (st) else ab_res scr 170 d M 145 [l0, l1, l2, l3] (st) := ab_o_br2 (off := -59) (ab_dc hc170 dX12_layBest_142) (by decide) rfl rfl
theorem q170_145 : ab_res scr 170 d M 145 [l0, l1, l2, l3] (st) = ab_res scr 170 d M 146 [l0, l1, l2, l3] (.int 0 :: st) := (ab_o_iconst (ab_dc hc170 dX12_layBest_145)).trans (by rw [ki_iconst_0])
theorem q170_146 {v0 : Int32} : ab_res scr 170 d M 146 [l0, l1, l2, l3] ([.int v0]) = some (M, some (.int v0)) := ab_o_ireturn (ab_dc hc170 dX12_layBest_146) hr170 rfl
end Q170
theorem hc171 : ab_code 171 = cX12_best := rfl
theorem hn171 : ab_nL 171 = 3 := rfl
theorem hk171 : ab_ky 171 = 12 := rfl
theorem hr171 : ab_ret 171 = some .int := rfl
section Q171
variable {scr : Option (List Int32)} {d : Nat} {M : ab_M} {st : List Value} {l0 l1 l2 : Option Value}
theorem q171_0 {x : Int32} : ab_res scr 171 d M 0 [l0, some (.int x), l2] (st) = ab_res scr 171 d M 1 [l0, some (.int x), l2] (.int x :: st) := ab_o_iload_n (ab_dc hc171 dX12_best_0) rfl
theorem q171_1 {v0 : Int32} : ab_res scr 171 d M 1 [l0, l1, l2] (.int v0 :: st) = ab_res scr 171 d M 2 [l0, l1, l2] (.long v0.toInt64 :: st) := ab_xg (ab_dc hc171 dX12_best_1) rfl rfl
theorem q171_2 : ab_res scr 171 d M 2 [l0, l1, l2] (st) = ab_res scr 171 d M 3 [l0, l1, l2] (.long 0 :: st) := ab_o_lconst (ab_dc hc171 dX12_best_2)
theorem q171_3 : ab_res scr 171 d M 3 [l0, l1, l2] (st) = ab_res scr 171 d M 4 [l0, l1, l2] (.long 1 :: st) := ab_o_lconst (ab_dc hc171 dX12_best_3)
theorem q171_4 {v0 : Int64} {v1 : Int64} {v2 : Int64} : ab_res scr 171 8 M 4 [l0, l1, l2] ([.long v0, .long v1, .long v2]) = (ab_ms scr 120 [.long v2, .long v1, .long v0] M).bind fun o => ab_res scr 171 8 o.1 7 [l0, l1, l2] (ab_pr o.2 []) := ab_o_static (ab_dc hc171 dX12_best_4) hk171 lk_ca_12_97 hm120 (Nat.le_of_ble_eq_true rfl) rfl rfl rfl rfl rfl
theorem q171_7 {v0 : Int32} : ab_res scr 171 d M 7 [l0, l1, l2] (.int v0 :: st) = if ¬ v0 = 0 then ab_res scr 171 d M 26 [l0, l1, l2] (st) else ab_res scr 171 d M 10 [l0, l1, l2] (st) := ab_o_br2 (off := 19) (ab_dc hc171 dX12_best_7) (by decide) rfl rfl
theorem q171_10 {x : Int32} : ab_res scr 171 d M 10 [l0, some (.int x), l2] (st) = ab_res scr 171 d M 11 [l0, some (.int x), l2] (.int x :: st) := ab_o_iload_n (ab_dc hc171 dX12_best_10) rfl
theorem q171_11 {v0 : Int32} : ab_res scr 171 d M 11 [l0, l1, l2] (.int v0 :: st) = ab_res scr 171 d M 12 [l0, l1, l2] (.long v0.toInt64 :: st) := ab_xg (ab_dc hc171 dX12_best_11) rfl rfl
theorem q171_12 : ab_res scr 171 d M 12 [l0, l1, l2] (st) = ab_res scr 171 d M 15 [l0, l1, l2] (.long 10 :: st) := ab_o_ldc2_w (ab_dc hc171 dX12_best_12) hk171 lk_ko_12_309
theorem q171_15 : ab_res scr 171 d M 15 [l0, l1, l2] (st) = ab_res scr 171 d M 18 [l0, l1, l2] (.long 15 :: st) := ab_o_ldc2_w (ab_dc hc171 dX12_best_15) hk171 lk_ko_12_311
theorem q171_18 {v0 : Int64} {v1 : Int64} {v2 : Int64} : ab_res scr 171 8 M 18 [l0, l1, l2] ([.long v0, .long v1, .long v2]) = (ab_ms scr 120 [.long v2, .long v1, .long v0] M).bind fun o => ab_res scr 171 8 o.1 21 [l0, l1, l2] (ab_pr o.2 []) := ab_o_static (ab_dc hc171 dX12_best_18) hk171 lk_ca_12_97 hm120 (Nat.le_of_ble_eq_true rfl) rfl rfl rfl rfl rfl
theorem q171_21 {v0 : Int32} : ab_res scr 171 d M 21 [l0, l1, l2] (.int v0 :: st) = if ¬ v0 = 0 then ab_res scr 171 d M 26 [l0, l1, l2] (st) else ab_res scr 171 d M 24 [l0, l1, l2] (st) := ab_o_br2 (off := 5) (ab_dc hc171 dX12_best_21) (by decide) rfl rfl
theorem q171_24 : ab_res scr 171 d M 24 [l0, l1, l2] (st) = ab_res scr 171 d M 25 [l0, l1, l2] (.int (-1) :: st) := (ab_o_iconst (ab_dc hc171 dX12_best_24)).trans (by rw [ki_iconst_m1])
theorem q171_25 {v0 : Int32} : ab_res scr 171 d M 25 [l0, l1, l2] ([.int v0]) = some (M, some (.int v0)) := ab_o_ireturn (ab_dc hc171 dX12_best_25) hr171 rfl
theorem q171_26 {xr : Nat} : ab_res scr 171 d M 26 [some (.ref xr), l1, l2] (st) = ab_res scr 171 d M 27 [some (.ref xr), l1, l2] (.ref xr :: st) := ab_o_aload_n (ab_dc hc171 dX12_best_26) rfl
theorem q171_27 {v0 : Nat} (hb : (ab_rc ab_L0 v0 = some 12) = True) : ab_res scr 171 8 M 27 [l0, l1, l2] ([.ref v0]) = (ab_ms scr 170 [.ref v0] M).bind fun o => ab_res scr 171 8 o.1 30 [l0, l1, l2] (ab_pr o.2 []) := ab_o_virtual (ab_dc hc171 dX12_best_27) hk171 lk_ca_12_313 hm170 (Nat.le_of_ble_eq_true rfl) rfl rfl rfl (of_eq_true hb) rfl rfl
theorem q171_30 {v0 : Int32} : ab_res scr 171 d M 30 [l0, l1, l2] (.int v0 :: st) = ab_res scr 171 d M 31 [l0, ab_nl l1, some (.int v0)] (st) := (ab_o_st1 (k := 2) (ab_dc hc171 dX12_best_30) (Or.inr (Or.inr (Or.inl ⟨2, rfl, rfl, rfl, ⟨_, rfl⟩⟩))) hn171 (by decide)).trans (ab_kl1 [l0] _ l1 rfl rfl)
theorem q171_31 {x : Int32} : ab_res scr 171 d M 31 [l0, l1, some (.int x)] (st) = ab_res scr 171 d M 32 [l0, l1, some (.int x)] (.int x :: st) := ab_o_iload_n (ab_dc hc171 dX12_best_31) rfl
theorem q171_32 {v0 : Int32} : ab_res scr 171 d M 32 [l0, l1, l2] (.int v0 :: st) = if v0 = 0 then ab_res scr 171 d M 37 [l0, l1, l2] (st) else ab_res scr 171 d M 35 [l0, l1, l2] (st) := ab_o_br2 (off := 5) (ab_dc hc171 dX12_best_32) (by decide) rfl rfl
theorem q171_35 {x : Int32} : ab_res scr 171 d M 35 [l0, l1, some (.int x)] (st) = ab_res scr 171 d M 36 [l0, l1, some (.int x)] (.int x :: st) := ab_o_iload_n (ab_dc hc171 dX12_best_35) rfl
theorem q171_36 {v0 : Int32} : ab_res scr 171 d M 36 [l0, l1, l2] ([.int v0]) = some (M, some (.int v0)) := ab_o_ireturn (ab_dc hc171 dX12_best_36) hr171 rfl
theorem q171_37 {x : Int32} : ab_res scr 171 d M 37 [l0, some (.int x), l2] (st) = ab_res scr 171 d M 38 [l0, some (.int x), l2] (.int x :: st) := ab_o_iload_n (ab_dc hc171 dX12_best_37) rfl
theorem q171_38 {v0 : Int32} : ab_res scr 171 d M 38 [l0, l1, l2] (.int v0 :: st) = if ¬ v0 = 0 then ab_res scr 171 d M 48 [l0, l1, l2] (st) else ab_res scr 171 d M 41 [l0, l1, l2] (st) := ab_o_br2 (off := 10) (ab_dc hc171 dX12_best_38) (by decide) rfl rfl
theorem q171_41 {xr : Nat} : ab_res scr 171 d M 41 [some (.ref xr), l1, l2] (st) = ab_res scr 171 d M 42 [some (.ref xr), l1, l2] (.ref xr :: st) := ab_o_aload_n (ab_dc hc171 dX12_best_41) rfl
theorem q171_42 {v0 : Nat} : ab_res scr 171 d M 42 [l0, l1, l2] (.ref v0 :: st) = (ab_gF ab_L0 M v0 12 38).bind fun v => ab_res scr 171 d M 45 [l0, l1, l2] (v :: st) := ab_o_getfield (ab_dc hc171 dX12_best_42) hk171 lk_fl_12_299
theorem q171_45 : ab_res scr 171 d M 45 [l0, l1, l2] (st) = ab_res scr 171 d M 84 [l0, l1, l2] (st) := ab_o_goto (ab_dc hc171 dX12_best_45) (by decide)
theorem q171_48 {x : Int32} : ab_res scr 171 d M 48 [l0, some (.int x), l2] (st) = ab_res scr 171 d M 49 [l0, some (.int x), l2] (.int x :: st) := ab_o_iload_n (ab_dc hc171 dX12_best_48) rfl
theorem q171_49 : ab_res scr 171 d M 49 [l0, l1, l2] (st) = ab_res scr 171 d M 50 [l0, l1, l2] (.int 1 :: st) := (ab_o_iconst (ab_dc hc171 dX12_best_49)).trans (by rw [ki_iconst_1])
theorem q171_50 {v0 : Int32} {v1 : Int32} : ab_res scr 171 d M 50 [l0, l1, l2] (.int v0 :: .int v1 :: st) = if ¬ v1 = v0 then ab_res scr 171 d M 60 [l0, l1, l2] (st) else ab_res scr 171 d M 53 [l0, l1, l2] (st) := ab_o_br2 (off := 10) (ab_dc hc171 dX12_best_50) (by decide) rfl rfl
theorem q171_53 {xr : Nat} : ab_res scr 171 d M 53 [some (.ref xr), l1, l2] (st) = ab_res scr 171 d M 54 [some (.ref xr), l1, l2] (.ref xr :: st) := ab_o_aload_n (ab_dc hc171 dX12_best_53) rfl
theorem q171_54 {v0 : Nat} : ab_res scr 171 d M 54 [l0, l1, l2] (.ref v0 :: st) = (ab_gF ab_L0 M v0 12 30).bind fun v => ab_res scr 171 d M 57 [l0, l1, l2] (v :: st) := ab_o_getfield (ab_dc hc171 dX12_best_54) hk171 lk_fl_12_197
theorem q171_57 : ab_res scr 171 d M 57 [l0, l1, l2] (st) = ab_res scr 171 d M 84 [l0, l1, l2] (st) := ab_o_goto (ab_dc hc171 dX12_best_57) (by decide)
theorem q171_60 {x : Int32} : ab_res scr 171 d M 60 [l0, some (.int x), l2] (st) = ab_res scr 171 d M 61 [l0, some (.int x), l2] (.int x :: st) := ab_o_iload_n (ab_dc hc171 dX12_best_60) rfl
theorem q171_61 : ab_res scr 171 d M 61 [l0, l1, l2] (st) = ab_res scr 171 d M 63 [l0, l1, l2] (.int 10 :: st) := (ab_o_bipush (ab_dc hc171 dX12_best_61)).trans (by rw [ki_bipush_10])
theorem q171_63 {v0 : Int32} {v1 : Int32} : ab_res scr 171 d M 63 [l0, l1, l2] (.int v0 :: .int v1 :: st) = ab_res scr 171 d M 64 [l0, l1, l2] (.int (v1 - v0) :: st) := ab_xg (ab_dc hc171 dX12_best_63) rfl rfl
theorem q171_64 {xr : Nat} : ab_res scr 171 d M 64 [some (.ref xr), l1, l2] (st) = ab_res scr 171 d M 65 [some (.ref xr), l1, l2] (.ref xr :: st) := ab_o_aload_n (ab_dc hc171 dX12_best_64) rfl
theorem q171_65 {v0 : Nat} : ab_res scr 171 d M 65 [l0, l1, l2] (.ref v0 :: st) = (ab_gF ab_L0 M v0 12 30).bind fun v => ab_res scr 171 d M 68 [l0, l1, l2] (v :: st) := ab_o_getfield (ab_dc hc171 dX12_best_65) hk171 lk_fl_12_197
theorem q171_68 {v0 : Int32} {v1 : Int32} : ab_res scr 171 d M 68 [l0, l1, l2] (.int v0 :: .int v1 :: st) = if v0 ≤ v1 then ab_res scr 171 d M 83 [l0, l1, l2] (st) else ab_res scr 171 d M 71 [l0, l1, l2] (st) := ab_o_br2 (off := 15) (ab_dc hc171 dX12_best_68) (by decide) rfl rfl
theorem q171_71 {xr : Nat} : ab_res scr 171 d M 71 [some (.ref xr), l1, l2] (st) = ab_res scr 171 d M 72 [some (.ref xr), l1, l2] (.ref xr :: st) := ab_o_aload_n (ab_dc hc171 dX12_best_71) rfl
theorem q171_72 {v0 : Nat} : ab_res scr 171 d M 72 [l0, l1, l2] (.ref v0 :: st) = (ab_gF ab_L0 M v0 12 37).bind fun v => ab_res scr 171 d M 75 [l0, l1, l2] (v :: st) := ab_o_getfield (ab_dc hc171 dX12_best_72) hk171 lk_fl_12_68
theorem q171_75 {x : Int32} : ab_res scr 171 d M 75 [l0, some (.int x), l2] (st) = ab_res scr 171 d M 76 [l0, some (.int x), l2] (.int x :: st) := ab_o_iload_n (ab_dc hc171 dX12_best_75) rfl
theorem q171_76 : ab_res scr 171 d M 76 [l0, l1, l2] (st) = ab_res scr 171 d M 78 [l0, l1, l2] (.int 10 :: st) := (ab_o_bipush (ab_dc hc171 dX12_best_76)).trans (by rw [ki_bipush_10])
theorem q171_78 {v0 : Int32} {v1 : Int32} : ab_res scr 171 d M 78 [l0, l1, l2] (.int v0 :: .int v1 :: st) = ab_res scr 171 d M 79 [l0, l1, l2] (.int (v1 - v0) :: st) := ab_xg (ab_dc hc171 dX12_best_78) rfl rfl
theorem q171_79 {v0 : Int32} {v1 : Nat} : ab_res scr 171 d M 79 [l0, l1, l2] (.int v0 :: .ref v1 :: st) = (ab_ald scr ab_L0 M v1 .int v0).bind fun v => ab_res scr 171 d M 80 [l0, l1, l2] (.int v :: st) := ab_o_iaload (ab_dc hc171 dX12_best_79)
theorem q171_80 : ab_res scr 171 d M 80 [l0, l1, l2] (st) = ab_res scr 171 d M 84 [l0, l1, l2] (st) := ab_o_goto (ab_dc hc171 dX12_best_80) (by decide)
theorem q171_83 : ab_res scr 171 d M 83 [l0, l1, l2] (st) = ab_res scr 171 d M 84 [l0, l1, l2] (.int (-1) :: st) := (ab_o_iconst (ab_dc hc171 dX12_best_83)).trans (by rw [ki_iconst_m1])
theorem q171_84 {v0 : Int32} : ab_res scr 171 d M 84 [l0, l1, l2] ([.int v0]) = some (M, some (.int v0)) := ab_o_ireturn (ab_dc hc171 dX12_best_84) hr171 rfl
end Q171
theorem hc172 : ab_code 172 = cX12_book := rfl
theorem hn172 : ab_nL 172 = 2 := rfl
theorem hk172 : ab_ky 172 = 12 := rfl
theorem hr172 : ab_ret 172 = some .int := rfl
section Q172
variable {scr : Option (List Int32)} {d : Nat} {M : ab_M} {st : List Value} {l0 l1 : Option Value}
theorem q172_0 {xr : Nat} : ab_res scr 172 d M 0 [some (.ref xr), l1] (st) = ab_res scr 172 d M 1 [some (.ref xr), l1] (.ref xr :: st) := ab_o_aload_n (ab_dc hc172 dX12_book_0) rfl
theorem q172_1 {x : Int32} : ab_res scr 172 d M 1 [l0, some (.int x)] (st) = ab_res scr 172 d M 2 [l0, some (.int x)] (.int x :: st) := ab_o_iload_n (ab_dc hc172 dX12_book_1) rfl
theorem q172_2 {v0 : Int32} {v1 : Nat} (hb : (ab_rc ab_L0 v1 = some 12) = True) : ab_res scr 172 3 M 2 [l0, l1] ([.int v0, .ref v1]) = (ab_ms scr 134 [.ref v1, .int v0] M).bind fun o => ab_res scr 172 3 o.1 5 [l0, l1] (ab_pr o.2 []) := ab_o_virtual (ab_dc hc172 dX12_book_2) hk172 lk_ca_12_162 hm134 (Nat.le_of_ble_eq_true rfl) rfl rfl rfl (of_eq_true hb) rfl rfl
theorem q172_5 {v0 : Int32} : ab_res scr 172 d M 5 [l0, l1] (.int v0 :: st) = if ¬ v0 = 0 then ab_res scr 172 d M 10 [l0, l1] (st) else ab_res scr 172 d M 8 [l0, l1] (st) := ab_o_br2 (off := 5) (ab_dc hc172 dX12_book_5) (by decide) rfl rfl
theorem q172_8 : ab_res scr 172 d M 8 [l0, l1] (st) = ab_res scr 172 d M 9 [l0, l1] (.int (-1) :: st) := (ab_o_iconst (ab_dc hc172 dX12_book_8)).trans (by rw [ki_iconst_m1])
theorem q172_9 {v0 : Int32} : ab_res scr 172 d M 9 [l0, l1] ([.int v0]) = some (M, some (.int v0)) := ab_o_ireturn (ab_dc hc172 dX12_book_9) hr172 rfl
theorem q172_10 {xr : Nat} : ab_res scr 172 d M 10 [some (.ref xr), l1] (st) = ab_res scr 172 d M 11 [some (.ref xr), l1] (.ref xr :: st) := ab_o_aload_n (ab_dc hc172 dX12_book_10) rfl
theorem q172_11 {v0 : Nat} : ab_res scr 172 d M 11 [l0, l1] (.ref v0 :: st) = (ab_gF ab_L0 M v0 12 11).bind fun v => ab_res scr 172 d M 14 [l0, l1] (v :: st) := ab_o_getfield (ab_dc hc172 dX12_book_11) hk172 lk_fl_12_19
theorem q172_14 : ab_res scr 172 d M 14 [l0, l1] (st) = ab_res scr 172 d M 16 [l0, l1] (.int 86 :: st) := (ab_o_bipush (ab_dc hc172 dX12_book_14)).trans (by rw [ki_bipush_86])
theorem q172_16 {v0 : Int32} {v1 : Nat} : ab_res scr 172 d M 16 [l0, l1] (.int v0 :: .ref v1 :: st) = (ab_ald scr ab_L0 M v1 .int v0).bind fun v => ab_res scr 172 d M 17 [l0, l1] (.int v :: st) := ab_o_iaload (ab_dc hc172 dX12_book_16)
theorem q172_17 : ab_res scr 172 d M 17 [l0, l1] (st) = ab_res scr 172 d M 19 [l0, l1] (.int 12 :: st) := (ab_o_bipush (ab_dc hc172 dX12_book_17)).trans (by rw [ki_bipush_12])
theorem q172_19 {v0 : Int32} {v1 : Int32} : ab_res scr 172 d M 19 [l0, l1] (.int v0 :: .int v1 :: st) = if ¬ v1 = v0 then ab_res scr 172 d M 25 [l0, l1] (st) else ab_res scr 172 d M 22 [l0, l1] (st) := ab_o_br2 (off := 6) (ab_dc hc172 dX12_book_19) (by decide) rfl rfl
theorem q172_22 : ab_res scr 172 d M 22 [l0, l1] (st) = ab_res scr 172 d M 24 [l0, l1] (.int (-3) :: st) := (ab_o_bipush (ab_dc hc172 dX12_book_22)).trans (by rw [ki_bipush_m3])
theorem q172_24 {v0 : Int32} : ab_res scr 172 d M 24 [l0, l1] ([.int v0]) = some (M, some (.int v0)) := ab_o_ireturn (ab_dc hc172 dX12_book_24) hr172 rfl
theorem q172_25 {xr : Nat} : ab_res scr 172 d M 25 [some (.ref xr), l1] (st) = ab_res scr 172 d M 26 [some (.ref xr), l1] (.ref xr :: st) := ab_o_aload_n (ab_dc hc172 dX12_book_25) rfl
theorem q172_26 {v0 : Nat} : ab_res scr 172 d M 26 [l0, l1] (.ref v0 :: st) = (ab_gF ab_L0 M v0 12 11).bind fun v => ab_res scr 172 d M 29 [l0, l1] (v :: st) := ab_o_getfield (ab_dc hc172 dX12_book_26) hk172 lk_fl_12_19
theorem q172_29 : ab_res scr 172 d M 29 [l0, l1] (st) = ab_res scr 172 d M 31 [l0, l1] (.int 74 :: st) := (ab_o_bipush (ab_dc hc172 dX12_book_29)).trans (by rw [ki_bipush_74])
theorem q172_31 {xr : Nat} : ab_res scr 172 d M 31 [some (.ref xr), l1] (st) = ab_res scr 172 d M 32 [some (.ref xr), l1] (.ref xr :: st) := ab_o_aload_n (ab_dc hc172 dX12_book_31) rfl
theorem q172_32 {v0 : Nat} : ab_res scr 172 d M 32 [l0, l1] (.ref v0 :: st) = (ab_gF ab_L0 M v0 12 11).bind fun v => ab_res scr 172 d M 35 [l0, l1] (v :: st) := ab_o_getfield (ab_dc hc172 dX12_book_32) hk172 lk_fl_12_19
theorem q172_35 : ab_res scr 172 d M 35 [l0, l1] (st) = ab_res scr 172 d M 37 [l0, l1] (.int 86 :: st) := (ab_o_bipush (ab_dc hc172 dX12_book_35)).trans (by rw [ki_bipush_86])
theorem q172_37 {v0 : Int32} {v1 : Nat} : ab_res scr 172 d M 37 [l0, l1] (.int v0 :: .ref v1 :: st) = (ab_ald scr ab_L0 M v1 .int v0).bind fun v => ab_res scr 172 d M 38 [l0, l1] (.int v :: st) := ab_o_iaload (ab_dc hc172 dX12_book_37)
theorem q172_38 {v0 : Int32} {v1 : Int32} : ab_res scr 172 d M 38 [l0, l1] (.int v0 :: .int v1 :: st) = ab_res scr 172 d M 39 [l0, l1] (.int (v1 + v0) :: st) := ab_xg (ab_dc hc172 dX12_book_38) rfl rfl
theorem q172_39 {x : Int32} : ab_res scr 172 d M 39 [l0, some (.int x)] (st) = ab_res scr 172 d M 40 [l0, some (.int x)] (.int x :: st) := ab_o_iload_n (ab_dc hc172 dX12_book_39) rfl
theorem q172_40 {v0 : Int32} {v1 : Int32} {v2 : Nat} : ab_res scr 172 d M 40 [l0, l1] (.int v0 :: .int v1 :: .ref v2 :: st) = if ab_si v2 .int v1 = true then ab_res scr 172 d (ab_up M v2 v1.toNatClampNeg v0) 41 [l0, l1] (st) else none := ab_o_iastore (ab_dc hc172 dX12_book_40)
theorem q172_41 {xr : Nat} : ab_res scr 172 d M 41 [some (.ref xr), l1] (st) = ab_res scr 172 d M 42 [some (.ref xr), l1] (.ref xr :: st) := ab_o_aload_n (ab_dc hc172 dX12_book_41) rfl
theorem q172_42 {v0 : Nat} : ab_res scr 172 d M 42 [l0, l1] (.ref v0 :: st) = (ab_gF ab_L0 M v0 12 11).bind fun v => ab_res scr 172 d M 45 [l0, l1] (v :: st) := ab_o_getfield (ab_dc hc172 dX12_book_42) hk172 lk_fl_12_19
theorem q172_45 : ab_res scr 172 d M 45 [l0, l1] (st) = ab_res scr 172 d M 47 [l0, l1] (.int 86 :: st) := (ab_o_bipush (ab_dc hc172 dX12_book_45)).trans (by rw [ki_bipush_86])
theorem q172_47 {v0 : Int32} {v1 : Nat} : ab_res scr 172 d M 47 [l0, l1] (.int v0 :: .ref v1 :: st) = ab_res scr 172 d M 48 [l0, l1] (.int v0 :: .ref v1 :: .int v0 :: .ref v1 :: st) := ab_xg (ab_dc hc172 dX12_book_47) rfl rfl
theorem q172_48 {v0 : Int32} {v1 : Nat} : ab_res scr 172 d M 48 [l0, l1] (.int v0 :: .ref v1 :: st) = (ab_ald scr ab_L0 M v1 .int v0).bind fun v => ab_res scr 172 d M 49 [l0, l1] (.int v :: st) := ab_o_iaload (ab_dc hc172 dX12_book_48)
theorem q172_49 : ab_res scr 172 d M 49 [l0, l1] (st) = ab_res scr 172 d M 50 [l0, l1] (.int 1 :: st) := (ab_o_iconst (ab_dc hc172 dX12_book_49)).trans (by rw [ki_iconst_1])
theorem q172_50 {v0 : Int32} {v1 : Int32} : ab_res scr 172 d M 50 [l0, l1] (.int v0 :: .int v1 :: st) = ab_res scr 172 d M 51 [l0, l1] (.int (v1 + v0) :: st) := ab_xg (ab_dc hc172 dX12_book_50) rfl rfl
theorem q172_51 {v0 : Int32} {v1 : Int32} {v2 : Nat} : ab_res scr 172 d M 51 [l0, l1] (.int v0 :: .int v1 :: .ref v2 :: st) = if ab_si v2 .int v1 = true then ab_res scr 172 d (ab_up M v2 v1.toNatClampNeg v0) 52 [l0, l1] (st) else none := ab_o_iastore (ab_dc hc172 dX12_book_51)
theorem q172_52 {xr : Nat} : ab_res scr 172 d M 52 [some (.ref xr), l1] (st) = ab_res scr 172 d M 53 [some (.ref xr), l1] (.ref xr :: st) := ab_o_aload_n (ab_dc hc172 dX12_book_52) rfl
theorem q172_53 {v0 : Nat} : ab_res scr 172 d M 53 [l0, l1] (.ref v0 :: st) = (ab_gF ab_L0 M v0 12 11).bind fun v => ab_res scr 172 d M 56 [l0, l1] (v :: st) := ab_o_getfield (ab_dc hc172 dX12_book_53) hk172 lk_fl_12_19
theorem q172_56 : ab_res scr 172 d M 56 [l0, l1] (st) = ab_res scr 172 d M 58 [l0, l1] (.int 86 :: st) := (ab_o_bipush (ab_dc hc172 dX12_book_56)).trans (by rw [ki_bipush_86])
theorem q172_58 {v0 : Int32} {v1 : Nat} : ab_res scr 172 d M 58 [l0, l1] (.int v0 :: .ref v1 :: st) = (ab_ald scr ab_L0 M v1 .int v0).bind fun v => ab_res scr 172 d M 59 [l0, l1] (.int v :: st) := ab_o_iaload (ab_dc hc172 dX12_book_58)
theorem q172_59 {v0 : Int32} : ab_res scr 172 d M 59 [l0, l1] ([.int v0]) = some (M, some (.int v0)) := ab_o_ireturn (ab_dc hc172 dX12_book_59) hr172 rfl
end Q172
theorem hc173 : ab_code 173 = cX12_shut := rfl
theorem hn173 : ab_nL 173 = 2 := rfl
theorem hk173 : ab_ky 173 = 12 := rfl
theorem hr173 : ab_ret 173 = some .int := rfl
section Q173
variable {scr : Option (List Int32)} {d : Nat} {M : ab_M} {st : List Value} {l0 l1 : Option Value}
theorem q173_0 {xr : Nat} : ab_res scr 173 d M 0 [some (.ref xr), l1] (st) = ab_res scr 173 d M 1 [some (.ref xr), l1] (.ref xr :: st) := ab_o_aload_n (ab_dc hc173 dX12_shut_0) rfl
theorem q173_1 {v0 : Nat} : ab_res scr 173 d M 1 [l0, l1] (.ref v0 :: st) = (ab_gF ab_L0 M v0 12 11).bind fun v => ab_res scr 173 d M 4 [l0, l1] (v :: st) := ab_o_getfield (ab_dc hc173 dX12_shut_1) hk173 lk_fl_12_19
theorem q173_4 : ab_res scr 173 d M 4 [l0, l1] (st) = ab_res scr 173 d M 6 [l0, l1] (.int 86 :: st) := (ab_o_bipush (ab_dc hc173 dX12_shut_4)).trans (by rw [ki_bipush_86])
theorem q173_6 {v0 : Int32} {v1 : Nat} : ab_res scr 173 d M 6 [l0, l1] (.int v0 :: .ref v1 :: st) = (ab_ald scr ab_L0 M v1 .int v0).bind fun v => ab_res scr 173 d M 7 [l0, l1] (.int v :: st) := ab_o_iaload (ab_dc hc173 dX12_shut_6)
theorem q173_7 {v0 : Int32} : ab_res scr 173 d M 7 [l0, l1] (.int v0 :: st) = ab_res scr 173 d M 8 [ab_nl l0, some (.int v0)] (st) := (ab_o_st1 (k := 1) (ab_dc hc173 dX12_shut_7) (Or.inr (Or.inr (Or.inl ⟨1, rfl, rfl, rfl, ⟨_, rfl⟩⟩))) hn173 (by decide)).trans (ab_kl1 [] _ l0 rfl rfl)
theorem q173_8 {xr : Nat} : ab_res scr 173 d M 8 [some (.ref xr), l1] (st) = ab_res scr 173 d M 9 [some (.ref xr), l1] (.ref xr :: st) := ab_o_aload_n (ab_dc hc173 dX12_shut_8) rfl
theorem q173_9 {v0 : Nat} : ab_res scr 173 d M 9 [l0, l1] (.ref v0 :: st) = (ab_gF ab_L0 M v0 12 11).bind fun v => ab_res scr 173 d M 12 [l0, l1] (v :: st) := ab_o_getfield (ab_dc hc173 dX12_shut_9) hk173 lk_fl_12_19
theorem q173_12 : ab_res scr 173 d M 12 [l0, l1] (st) = ab_res scr 173 d M 14 [l0, l1] (.int 86 :: st) := (ab_o_bipush (ab_dc hc173 dX12_shut_12)).trans (by rw [ki_bipush_86])
theorem q173_14 : ab_res scr 173 d M 14 [l0, l1] (st) = ab_res scr 173 d M 15 [l0, l1] (.int 0 :: st) := (ab_o_iconst (ab_dc hc173 dX12_shut_14)).trans (by rw [ki_iconst_0])
theorem q173_15 {v0 : Int32} {v1 : Int32} {v2 : Nat} : ab_res scr 173 d M 15 [l0, l1] (.int v0 :: .int v1 :: .ref v2 :: st) = if ab_si v2 .int v1 = true then ab_res scr 173 d (ab_up M v2 v1.toNatClampNeg v0) 16 [l0, l1] (st) else none := ab_o_iastore (ab_dc hc173 dX12_shut_15)
theorem q173_16 {x : Int32} : ab_res scr 173 d M 16 [l0, some (.int x)] (st) = ab_res scr 173 d M 17 [l0, some (.int x)] (.int x :: st) := ab_o_iload_n (ab_dc hc173 dX12_shut_16) rfl
theorem q173_17 {v0 : Int32} : ab_res scr 173 d M 17 [l0, l1] ([.int v0]) = some (M, some (.int v0)) := ab_o_ireturn (ab_dc hc173 dX12_shut_17) hr173 rfl
end Q173
theorem hc174 : ab_code 174 = cX12_judge := rfl
theorem hn174 : ab_nL 174 = 5 := rfl
theorem hk174 : ab_ky 174 = 12 := rfl
theorem hr174 : ab_ret 174 = some .int := rfl
section Q174
variable {scr : Option (List Int32)} {d : Nat} {M : ab_M} {st : List Value} {l0 l1 l2 l3 l4 : Option Value}
theorem q174_0 {x : Int32} : ab_res scr 174 d M 0 [l0, some (.int x), l2, l3, l4] (st) = ab_res scr 174 d M 1 [l0, some (.int x), l2, l3, l4] (.int x :: st) := ab_o_iload_n (ab_dc hc174 dX12_judge_0) rfl
theorem q174_1 {v0 : Int32} : ab_res scr 174 7 M 1 [l0, l1, l2, l3, l4] ([.int v0]) = (ab_ms scr 160 [.int v0] M).bind fun o => ab_res scr 174 7 o.1 4 [l0, l1, l2, l3, l4] (ab_pr o.2 []) := ab_o_static (ab_dc hc174 dX12_judge_1) hk174 lk_ca_12_283 hm160 (Nat.le_of_ble_eq_true rfl) rfl rfl rfl rfl rfl
theorem q174_4 {v0 : Int32} : ab_res scr 174 d M 4 [l0, l1, l2, l3, l4] (.int v0 :: st) = if v0 = 0 then ab_res scr 174 d M 17 [l0, l1, l2, l3, l4] (st) else ab_res scr 174 d M 7 [l0, l1, l2, l3, l4] (st) := ab_o_br2 (off := 13) (ab_dc hc174 dX12_judge_4) (by decide) rfl rfl
theorem q174_7 {x : Int32} : ab_res scr 174 d M 7 [l0, l1, l2, some (.int x), l4] (st) = ab_res scr 174 d M 8 [l0, l1, l2, some (.int x), l4] (.int x :: st) := ab_o_iload_n (ab_dc hc174 dX12_judge_7) rfl
theorem q174_8 {v0 : Int32} : ab_res scr 174 d M 8 [l0, l1, l2, l3, l4] (.int v0 :: st) = ab_res scr 174 d M 9 [l0, l1, l2, l3, l4] (.long v0.toInt64 :: st) := ab_xg (ab_dc hc174 dX12_judge_8) rfl rfl
theorem q174_9 : ab_res scr 174 d M 9 [l0, l1, l2, l3, l4] (st) = ab_res scr 174 d M 10 [l0, l1, l2, l3, l4] (.long 0 :: st) := ab_o_lconst (ab_dc hc174 dX12_judge_9)
theorem q174_10 : ab_res scr 174 d M 10 [l0, l1, l2, l3, l4] (st) = ab_res scr 174 d M 11 [l0, l1, l2, l3, l4] (.long 1 :: st) := ab_o_lconst (ab_dc hc174 dX12_judge_10)
theorem q174_11 {v0 : Int64} {v1 : Int64} {v2 : Int64} : ab_res scr 174 7 M 11 [l0, l1, l2, l3, l4] ([.long v0, .long v1, .long v2]) = (ab_ms scr 120 [.long v2, .long v1, .long v0] M).bind fun o => ab_res scr 174 7 o.1 14 [l0, l1, l2, l3, l4] (ab_pr o.2 []) := ab_o_static (ab_dc hc174 dX12_judge_11) hk174 lk_ca_12_97 hm120 (Nat.le_of_ble_eq_true rfl) rfl rfl rfl rfl rfl
theorem q174_14 {v0 : Int32} : ab_res scr 174 d M 14 [l0, l1, l2, l3, l4] (.int v0 :: st) = if ¬ v0 = 0 then ab_res scr 174 d M 19 [l0, l1, l2, l3, l4] (st) else ab_res scr 174 d M 17 [l0, l1, l2, l3, l4] (st) := ab_o_br2 (off := 5) (ab_dc hc174 dX12_judge_14) (by decide) rfl rfl
theorem q174_17 : ab_res scr 174 d M 17 [l0, l1, l2, l3, l4] (st) = ab_res scr 174 d M 18 [l0, l1, l2, l3, l4] (.int (-1) :: st) := (ab_o_iconst (ab_dc hc174 dX12_judge_17)).trans (by rw [ki_iconst_m1])
theorem q174_18 {v0 : Int32} : ab_res scr 174 d M 18 [l0, l1, l2, l3, l4] ([.int v0]) = some (M, some (.int v0)) := ab_o_ireturn (ab_dc hc174 dX12_judge_18) hr174 rfl
theorem q174_19 {xr : Nat} : ab_res scr 174 d M 19 [some (.ref xr), l1, l2, l3, l4] (st) = ab_res scr 174 d M 20 [some (.ref xr), l1, l2, l3, l4] (.ref xr :: st) := ab_o_aload_n (ab_dc hc174 dX12_judge_19) rfl
theorem q174_20 {x : Int32} : ab_res scr 174 d M 20 [l0, some (.int x), l2, l3, l4] (st) = ab_res scr 174 d M 21 [l0, some (.int x), l2, l3, l4] (.int x :: st) := ab_o_iload_n (ab_dc hc174 dX12_judge_20) rfl
theorem q174_21 {x : Int32} : ab_res scr 174 d M 21 [l0, l1, some (.int x), l3, l4] (st) = ab_res scr 174 d M 22 [l0, l1, some (.int x), l3, l4] (.int x :: st) := ab_o_iload_n (ab_dc hc174 dX12_judge_21) rfl
theorem q174_22 {v0 : Int32} {v1 : Int32} {v2 : Nat} (hb : (ab_rc ab_L0 v2 = some 12) = True) : ab_res scr 174 7 M 22 [l0, l1, l2, l3, l4] ([.int v0, .int v1, .ref v2]) = (ab_ms scr 159 [.ref v2, .int v1, .int v0] M).bind fun o => ab_res scr 174 7 o.1 25 [l0, l1, l2, l3, l4] (ab_pr o.2 []) := ab_o_virtual (ab_dc hc174 dX12_judge_22) hk174 lk_ca_12_286 hm159 (Nat.le_of_ble_eq_true rfl) rfl rfl rfl (of_eq_true hb) rfl rfl
theorem q174_25 : ab_res scr 174 d M 25 [l0, l1, l2, l3, l4] (st) = ab_res scr 174 d M 26 [l0, l1, l2, l3, l4] (.int 0 :: st) := (ab_o_iconst (ab_dc hc174 dX12_judge_25)).trans (by rw [ki_iconst_0])
theorem q174_26 {v0 : Int32} : ab_res scr 174 d M 26 [l0, l1, l2, l3, l4] (.int v0 :: st) = ab_res scr 174 d M 28 [l0, l1, l2, ab_nl l3, some (.int v0)] (st) := (ab_o_st1 (k := 4) (ab_dc hc174 dX12_judge_26) (Or.inl ⟨rfl, rfl, ⟨_, rfl⟩⟩) hn174 (by decide)).trans (ab_kl1 [l0, l1, l2] _ l3 rfl rfl)
theorem q174_28 {x : Int32} : ab_res scr 174 d M 28 [l0, l1, l2, l3, some (.int x)] (st) = ab_res scr 174 d M 30 [l0, l1, l2, l3, some (.int x)] (.int x :: st) := ab_o_iload (ab_dc hc174 dX12_judge_28) rfl
theorem q174_30 {xr : Nat} : ab_res scr 174 d M 30 [some (.ref xr), l1, l2, l3, l4] (st) = ab_res scr 174 d M 31 [some (.ref xr), l1, l2, l3, l4] (.ref xr :: st) := ab_o_aload_n (ab_dc hc174 dX12_judge_30) rfl
theorem q174_31 {v0 : Nat} : ab_res scr 174 d M 31 [l0, l1, l2, l3, l4] (.ref v0 :: st) = (ab_gF ab_L0 M v0 12 30).bind fun v => ab_res scr 174 d M 34 [l0, l1, l2, l3, l4] (v :: st) := ab_o_getfield (ab_dc hc174 dX12_judge_31) hk174 lk_fl_12_197
theorem q174_34 {v0 : Int32} {v1 : Int32} : ab_res scr 174 d M 34 [l0, l1, l2, l3, l4] (.int v0 :: .int v1 :: st) = if v0 ≤ v1 then ab_res scr 174 d M 100 [l0, l1, l2, l3, l4] (st) else ab_res scr 174 d M 37 [l0, l1, l2, l3, l4] (st) := ab_o_br2 (off := 66) (ab_dc hc174 dX12_judge_34) (by decide) rfl rfl
theorem q174_37 {x : Int32} : ab_res scr 174 d M 37 [l0, l1, l2, l3, some (.int x)] (st) = ab_res scr 174 d M 39 [l0, l1, l2, l3, some (.int x)] (.int x :: st) := ab_o_iload (ab_dc hc174 dX12_judge_37) rfl
theorem q174_39 {xr : Nat} : ab_res scr 174 d M 39 [some (.ref xr), l1, l2, l3, l4] (st) = ab_res scr 174 d M 40 [some (.ref xr), l1, l2, l3, l4] (.ref xr :: st) := ab_o_aload_n (ab_dc hc174 dX12_judge_39) rfl
theorem q174_40 {v0 : Nat} : ab_res scr 174 d M 40 [l0, l1, l2, l3, l4] (.ref v0 :: st) = (ab_gF ab_L0 M v0 12 11).bind fun v => ab_res scr 174 d M 43 [l0, l1, l2, l3, l4] (v :: st) := ab_o_getfield (ab_dc hc174 dX12_judge_40) hk174 lk_fl_12_19
theorem q174_43 : ab_res scr 174 d M 43 [l0, l1, l2, l3, l4] (st) = ab_res scr 174 d M 45 [l0, l1, l2, l3, l4] (.int 86 :: st) := (ab_o_bipush (ab_dc hc174 dX12_judge_43)).trans (by rw [ki_bipush_86])
theorem q174_45 {v0 : Int32} {v1 : Nat} : ab_res scr 174 d M 45 [l0, l1, l2, l3, l4] (.int v0 :: .ref v1 :: st) = (ab_ald scr ab_L0 M v1 .int v0).bind fun v => ab_res scr 174 d M 46 [l0, l1, l2, l3, l4] (.int v :: st) := ab_o_iaload (ab_dc hc174 dX12_judge_45)
theorem q174_46 {v0 : Int32} {v1 : Int32} : ab_res scr 174 d M 46 [l0, l1, l2, l3, l4] (.int v0 :: .int v1 :: st) = if v0 ≤ v1 then ab_res scr 174 d M 100 [l0, l1, l2, l3, l4] (st) else ab_res scr 174 d M 49 [l0, l1, l2, l3, l4] (st) := ab_o_br2 (off := 54) (ab_dc hc174 dX12_judge_46) (by decide) rfl rfl
theorem q174_49 {xr : Nat} : ab_res scr 174 d M 49 [some (.ref xr), l1, l2, l3, l4] (st) = ab_res scr 174 d M 50 [some (.ref xr), l1, l2, l3, l4] (.ref xr :: st) := ab_o_aload_n (ab_dc hc174 dX12_judge_49) rfl
theorem q174_50 {v0 : Nat} : ab_res scr 174 d M 50 [l0, l1, l2, l3, l4] (.ref v0 :: st) = (ab_gF ab_L0 M v0 12 29).bind fun v => ab_res scr 174 d M 53 [l0, l1, l2, l3, l4] (v :: st) := ab_o_getfield (ab_dc hc174 dX12_judge_50) hk174 lk_fl_12_59
theorem q174_53 : ab_res scr 174 d M 53 [l0, l1, l2, l3, l4] (st) = ab_res scr 174 d M 54 [l0, l1, l2, l3, l4] (.int 5 :: st) := (ab_o_iconst (ab_dc hc174 dX12_judge_53)).trans (by rw [ki_iconst_5])
theorem q174_54 {x : Int32} : ab_res scr 174 d M 54 [l0, l1, l2, l3, some (.int x)] (st) = ab_res scr 174 d M 56 [l0, l1, l2, l3, some (.int x)] (.int x :: st) := ab_o_iload (ab_dc hc174 dX12_judge_54) rfl
theorem q174_56 {v0 : Int32} {v1 : Int32} : ab_res scr 174 d M 56 [l0, l1, l2, l3, l4] (.int v0 :: .int v1 :: st) = ab_res scr 174 d M 57 [l0, l1, l2, l3, l4] (.int (v1 * v0) :: st) := ab_xg (ab_dc hc174 dX12_judge_56) rfl rfl
theorem q174_57 : ab_res scr 174 d M 57 [l0, l1, l2, l3, l4] (st) = ab_res scr 174 d M 58 [l0, l1, l2, l3, l4] (.int 1 :: st) := (ab_o_iconst (ab_dc hc174 dX12_judge_57)).trans (by rw [ki_iconst_1])
theorem q174_58 {v0 : Int32} {v1 : Int32} : ab_res scr 174 d M 58 [l0, l1, l2, l3, l4] (.int v0 :: .int v1 :: st) = ab_res scr 174 d M 59 [l0, l1, l2, l3, l4] (.int (v1 + v0) :: st) := ab_xg (ab_dc hc174 dX12_judge_58) rfl rfl
theorem q174_59 {v0 : Int32} {v1 : Nat} : ab_res scr 174 d M 59 [l0, l1, l2, l3, l4] (.int v0 :: .ref v1 :: st) = (ab_ald scr ab_L0 M v1 .int v0).bind fun v => ab_res scr 174 d M 60 [l0, l1, l2, l3, l4] (.int v :: st) := ab_o_iaload (ab_dc hc174 dX12_judge_59)
theorem q174_60 {xr : Nat} : ab_res scr 174 d M 60 [some (.ref xr), l1, l2, l3, l4] (st) = ab_res scr 174 d M 61 [some (.ref xr), l1, l2, l3, l4] (.ref xr :: st) := ab_o_aload_n (ab_dc hc174 dX12_judge_60) rfl
theorem q174_61 {v0 : Nat} : ab_res scr 174 d M 61 [l0, l1, l2, l3, l4] (.ref v0 :: st) = (ab_gF ab_L0 M v0 12 11).bind fun v => ab_res scr 174 d M 64 [l0, l1, l2, l3, l4] (v :: st) := ab_o_getfield (ab_dc hc174 dX12_judge_61) hk174 lk_fl_12_19
theorem q174_64 : ab_res scr 174 d M 64 [l0, l1, l2, l3, l4] (st) = ab_res scr 174 d M 66 [l0, l1, l2, l3, l4] (.int 74 :: st) := (ab_o_bipush (ab_dc hc174 dX12_judge_64)).trans (by rw [ki_bipush_74])
theorem q174_66 {x : Int32} : ab_res scr 174 d M 66 [l0, l1, l2, l3, some (.int x)] (st) = ab_res scr 174 d M 68 [l0, l1, l2, l3, some (.int x)] (.int x :: st) := ab_o_iload (ab_dc hc174 dX12_judge_66) rfl
theorem q174_68 {v0 : Int32} {v1 : Int32} : ab_res scr 174 d M 68 [l0, l1, l2, l3, l4] (.int v0 :: .int v1 :: st) = ab_res scr 174 d M 69 [l0, l1, l2, l3, l4] (.int (v1 + v0) :: st) := ab_xg (ab_dc hc174 dX12_judge_68) rfl rfl
theorem q174_69 {v0 : Int32} {v1 : Nat} : ab_res scr 174 d M 69 [l0, l1, l2, l3, l4] (.int v0 :: .ref v1 :: st) = (ab_ald scr ab_L0 M v1 .int v0).bind fun v => ab_res scr 174 d M 70 [l0, l1, l2, l3, l4] (.int v :: st) := ab_o_iaload (ab_dc hc174 dX12_judge_69)
theorem q174_70 {v0 : Int32} {v1 : Int32} : ab_res scr 174 d M 70 [l0, l1, l2, l3, l4] (.int v0 :: .int v1 :: st) = if v1 = v0 then ab_res scr 174 d M 94 [l0, l1, l2, l3, l4] (st) else ab_res scr 174 d M 73 [l0, l1, l2, l3, l4] (st) := ab_o_br2 (off := 24) (ab_dc hc174 dX12_judge_70) (by decide) rfl rfl
theorem q174_73 {x : Int32} : ab_res scr 174 d M 73 [l0, l1, l2, some (.int x), l4] (st) = ab_res scr 174 d M 74 [l0, l1, l2, some (.int x), l4] (.int x :: st) := ab_o_iload_n (ab_dc hc174 dX12_judge_73) rfl
theorem q174_74 {v0 : Int32} : ab_res scr 174 d M 74 [l0, l1, l2, l3, l4] (.int v0 :: st) = if ¬ v0 = 0 then ab_res scr 174 d M 82 [l0, l1, l2, l3, l4] (st) else ab_res scr 174 d M 77 [l0, l1, l2, l3, l4] (st) := ab_o_br2 (off := 8) (ab_dc hc174 dX12_judge_74) (by decide) rfl rfl
theorem q174_77 {x : Int32} : ab_res scr 174 d M 77 [l0, l1, l2, l3, some (.int x)] (st) = ab_res scr 174 d M 79 [l0, l1, l2, l3, some (.int x)] (.int x :: st) := ab_o_iload (ab_dc hc174 dX12_judge_77) rfl
theorem q174_79 : ab_res scr 174 d M 79 [l0, l1, l2, l3, l4] (st) = ab_res scr 174 d M 93 [l0, l1, l2, l3, l4] (st) := ab_o_goto (ab_dc hc174 dX12_judge_79) (by decide)
theorem q174_82 {xr : Nat} : ab_res scr 174 d M 82 [some (.ref xr), l1, l2, l3, l4] (st) = ab_res scr 174 d M 83 [some (.ref xr), l1, l2, l3, l4] (.ref xr :: st) := ab_o_aload_n (ab_dc hc174 dX12_judge_82) rfl
theorem q174_83 {v0 : Nat} : ab_res scr 174 d M 83 [l0, l1, l2, l3, l4] (.ref v0 :: st) = (ab_gF ab_L0 M v0 12 29).bind fun v => ab_res scr 174 d M 86 [l0, l1, l2, l3, l4] (v :: st) := ab_o_getfield (ab_dc hc174 dX12_judge_83) hk174 lk_fl_12_59
theorem q174_86 : ab_res scr 174 d M 86 [l0, l1, l2, l3, l4] (st) = ab_res scr 174 d M 87 [l0, l1, l2, l3, l4] (.int 5 :: st) := (ab_o_iconst (ab_dc hc174 dX12_judge_86)).trans (by rw [ki_iconst_5])
theorem q174_87 {x : Int32} : ab_res scr 174 d M 87 [l0, l1, l2, l3, some (.int x)] (st) = ab_res scr 174 d M 89 [l0, l1, l2, l3, some (.int x)] (.int x :: st) := ab_o_iload (ab_dc hc174 dX12_judge_87) rfl
theorem q174_89 {v0 : Int32} {v1 : Int32} : ab_res scr 174 d M 89 [l0, l1, l2, l3, l4] (.int v0 :: .int v1 :: st) = ab_res scr 174 d M 90 [l0, l1, l2, l3, l4] (.int (v1 * v0) :: st) := ab_xg (ab_dc hc174 dX12_judge_89) rfl rfl
theorem q174_90 : ab_res scr 174 d M 90 [l0, l1, l2, l3, l4] (st) = ab_res scr 174 d M 91 [l0, l1, l2, l3, l4] (.int 1 :: st) := (ab_o_iconst (ab_dc hc174 dX12_judge_90)).trans (by rw [ki_iconst_1])
theorem q174_91 {v0 : Int32} {v1 : Int32} : ab_res scr 174 d M 91 [l0, l1, l2, l3, l4] (.int v0 :: .int v1 :: st) = ab_res scr 174 d M 92 [l0, l1, l2, l3, l4] (.int (v1 + v0) :: st) := ab_xg (ab_dc hc174 dX12_judge_91) rfl rfl
theorem q174_92 {v0 : Int32} {v1 : Nat} : ab_res scr 174 d M 92 [l0, l1, l2, l3, l4] (.int v0 :: .ref v1 :: st) = (ab_ald scr ab_L0 M v1 .int v0).bind fun v => ab_res scr 174 d M 93 [l0, l1, l2, l3, l4] (.int v :: st) := ab_o_iaload (ab_dc hc174 dX12_judge_92)
theorem q174_93 {v0 : Int32} : ab_res scr 174 d M 93 [l0, l1, l2, l3, l4] ([.int v0]) = some (M, some (.int v0)) := ab_o_ireturn (ab_dc hc174 dX12_judge_93) hr174 rfl
theorem q174_94 {x : Int32} : ab_res scr 174 d M 94 [l0, l1, l2, l3, some (.int x)] (st) = ab_res scr 174 d M 97 [l0, l1, l2, ab_nl l3, some (.int (x + 1))] (st) := (ab_o_iinc (k := 4) (ab_dc hc174 dX12_judge_94) hn174 (by decide) rfl).trans (by rw [ki_iconst_1]; exact ab_kl1 [l0, l1, l2] _ l3 rfl rfl)
theorem q174_97 : ab_res scr 174 d M 97 [l0, l1, l2, l3, l4] (st) = ab_res scr 174 d M 28 [l0, l1, l2, l3, l4] (st) := ab_o_goto (ab_dc hc174 dX12_judge_97) (by decide)
theorem q174_100 : ab_res scr 174 d M 100 [l0, l1, l2, l3, l4] (st) = ab_res scr 174 d M 102 [l0, l1, l2, l3, l4] (.int (-4) :: st) := (ab_o_bipush (ab_dc hc174 dX12_judge_100)).trans (by rw [ki_bipush_m4])
theorem q174_102 {v0 : Int32} : ab_res scr 174 d M 102 [l0, l1, l2, l3, l4] ([.int v0]) = some (M, some (.int v0)) := ab_o_ireturn (ab_dc hc174 dX12_judge_102) hr174 rfl
end Q174
theorem hc175 : ab_code 175 = cX12_adopt := rfl
theorem hn175 : ab_nL 175 = 3 := rfl
theorem hk175 : ab_ky 175 = 12 := rfl
theorem hr175 : ab_ret 175 = some .int := rfl
section Q175
variable {scr : Option (List Int32)} {d : Nat} {M : ab_M} {st : List Value} {l0 l1 l2 : Option Value}
theorem q175_0 {xr : Nat} : ab_res scr 175 d M 0 [some (.ref xr), l1, l2] (st) = ab_res scr 175 d M 1 [some (.ref xr), l1, l2] (.ref xr :: st) := ab_o_aload_n (ab_dc hc175 dX12_adopt_0) rfl
theorem q175_1 {v0 : Nat} (hb : (ab_rc ab_L0 v0 = some 12) = True) : ab_res scr 175 8 M 1 [l0, l1, l2] ([.ref v0]) = (ab_ms scr 170 [.ref v0] M).bind fun o => ab_res scr 175 8 o.1 4 [l0, l1, l2] (ab_pr o.2 []) := ab_o_virtual (ab_dc hc175 dX12_adopt_1) hk175 lk_ca_12_313 hm170 (Nat.le_of_ble_eq_true rfl) rfl rfl rfl (of_eq_true hb) rfl rfl
theorem q175_4 {v0 : Int32} : ab_res scr 175 d M 4 [l0, l1, l2] (.int v0 :: st) = ab_res scr 175 d M 5 [ab_nl l0, some (.int v0), l2] (st) := (ab_o_st1 (k := 1) (ab_dc hc175 dX12_adopt_4) (Or.inr (Or.inr (Or.inl ⟨1, rfl, rfl, rfl, ⟨_, rfl⟩⟩))) hn175 (by decide)).trans (ab_kl1 [] _ l0 rfl rfl)
theorem q175_5 {x : Int32} : ab_res scr 175 d M 5 [l0, some (.int x), l2] (st) = ab_res scr 175 d M 6 [l0, some (.int x), l2] (.int x :: st) := ab_o_iload_n (ab_dc hc175 dX12_adopt_5) rfl
theorem q175_6 {v0 : Int32} : ab_res scr 175 d M 6 [l0, l1, l2] (.int v0 :: st) = if v0 = 0 then ab_res scr 175 d M 11 [l0, l1, l2] (st) else ab_res scr 175 d M 9 [l0, l1, l2] (st) := ab_o_br2 (off := 5) (ab_dc hc175 dX12_adopt_6) (by decide) rfl rfl
theorem q175_9 {x : Int32} : ab_res scr 175 d M 9 [l0, some (.int x), l2] (st) = ab_res scr 175 d M 10 [l0, some (.int x), l2] (.int x :: st) := ab_o_iload_n (ab_dc hc175 dX12_adopt_9) rfl
theorem q175_10 {v0 : Int32} : ab_res scr 175 d M 10 [l0, l1, l2] ([.int v0]) = some (M, some (.int v0)) := ab_o_ireturn (ab_dc hc175 dX12_adopt_10) hr175 rfl
theorem q175_11 : ab_res scr 175 d M 11 [l0, l1, l2] (st) = ab_res scr 175 d M 12 [l0, l1, l2] (.int 0 :: st) := (ab_o_iconst (ab_dc hc175 dX12_adopt_11)).trans (by rw [ki_iconst_0])
theorem q175_12 {v0 : Int32} : ab_res scr 175 d M 12 [l0, l1, l2] (.int v0 :: st) = ab_res scr 175 d M 13 [l0, ab_nl l1, some (.int v0)] (st) := (ab_o_st1 (k := 2) (ab_dc hc175 dX12_adopt_12) (Or.inr (Or.inr (Or.inl ⟨2, rfl, rfl, rfl, ⟨_, rfl⟩⟩))) hn175 (by decide)).trans (ab_kl1 [l0] _ l1 rfl rfl)
theorem q175_13 {x : Int32} : ab_res scr 175 d M 13 [l0, l1, some (.int x)] (st) = ab_res scr 175 d M 14 [l0, l1, some (.int x)] (.int x :: st) := ab_o_iload_n (ab_dc hc175 dX12_adopt_13) rfl
theorem q175_14 {xr : Nat} : ab_res scr 175 d M 14 [some (.ref xr), l1, l2] (st) = ab_res scr 175 d M 15 [some (.ref xr), l1, l2] (.ref xr :: st) := ab_o_aload_n (ab_dc hc175 dX12_adopt_14) rfl
theorem q175_15 {v0 : Nat} : ab_res scr 175 d M 15 [l0, l1, l2] (.ref v0 :: st) = (ab_gF ab_L0 M v0 12 30).bind fun v => ab_res scr 175 d M 18 [l0, l1, l2] (v :: st) := ab_o_getfield (ab_dc hc175 dX12_adopt_15) hk175 lk_fl_12_197
theorem q175_18 {v0 : Int32} {v1 : Int32} : ab_res scr 175 d M 18 [l0, l1, l2] (.int v0 :: .int v1 :: st) = if v0 ≤ v1 then ab_res scr 175 d M 42 [l0, l1, l2] (st) else ab_res scr 175 d M 21 [l0, l1, l2] (st) := ab_o_br2 (off := 24) (ab_dc hc175 dX12_adopt_18) (by decide) rfl rfl
theorem q175_21 {xr : Nat} : ab_res scr 175 d M 21 [some (.ref xr), l1, l2] (st) = ab_res scr 175 d M 22 [some (.ref xr), l1, l2] (.ref xr :: st) := ab_o_aload_n (ab_dc hc175 dX12_adopt_21) rfl
theorem q175_22 {v0 : Nat} : ab_res scr 175 d M 22 [l0, l1, l2] (.ref v0 :: st) = (ab_gF ab_L0 M v0 12 11).bind fun v => ab_res scr 175 d M 25 [l0, l1, l2] (v :: st) := ab_o_getfield (ab_dc hc175 dX12_adopt_22) hk175 lk_fl_12_19
theorem q175_25 : ab_res scr 175 d M 25 [l0, l1, l2] (st) = ab_res scr 175 d M 27 [l0, l1, l2] (.int 74 :: st) := (ab_o_bipush (ab_dc hc175 dX12_adopt_25)).trans (by rw [ki_bipush_74])
theorem q175_27 {x : Int32} : ab_res scr 175 d M 27 [l0, l1, some (.int x)] (st) = ab_res scr 175 d M 28 [l0, l1, some (.int x)] (.int x :: st) := ab_o_iload_n (ab_dc hc175 dX12_adopt_27) rfl
theorem q175_28 {v0 : Int32} {v1 : Int32} : ab_res scr 175 d M 28 [l0, l1, l2] (.int v0 :: .int v1 :: st) = ab_res scr 175 d M 29 [l0, l1, l2] (.int (v1 + v0) :: st) := ab_xg (ab_dc hc175 dX12_adopt_28) rfl rfl
theorem q175_29 {xr : Nat} : ab_res scr 175 d M 29 [some (.ref xr), l1, l2] (st) = ab_res scr 175 d M 30 [some (.ref xr), l1, l2] (.ref xr :: st) := ab_o_aload_n (ab_dc hc175 dX12_adopt_29) rfl
theorem q175_30 {v0 : Nat} : ab_res scr 175 d M 30 [l0, l1, l2] (.ref v0 :: st) = (ab_gF ab_L0 M v0 12 37).bind fun v => ab_res scr 175 d M 33 [l0, l1, l2] (v :: st) := ab_o_getfield (ab_dc hc175 dX12_adopt_30) hk175 lk_fl_12_68
theorem q175_33 {x : Int32} : ab_res scr 175 d M 33 [l0, l1, some (.int x)] (st) = ab_res scr 175 d M 34 [l0, l1, some (.int x)] (.int x :: st) := ab_o_iload_n (ab_dc hc175 dX12_adopt_33) rfl
theorem q175_34 {v0 : Int32} {v1 : Nat} : ab_res scr 175 d M 34 [l0, l1, l2] (.int v0 :: .ref v1 :: st) = (ab_ald scr ab_L0 M v1 .int v0).bind fun v => ab_res scr 175 d M 35 [l0, l1, l2] (.int v :: st) := ab_o_iaload (ab_dc hc175 dX12_adopt_34)
theorem q175_35 {v0 : Int32} {v1 : Int32} {v2 : Nat} : ab_res scr 175 d M 35 [l0, l1, l2] (.int v0 :: .int v1 :: .ref v2 :: st) = if ab_si v2 .int v1 = true then ab_res scr 175 d (ab_up M v2 v1.toNatClampNeg v0) 36 [l0, l1, l2] (st) else none := ab_o_iastore (ab_dc hc175 dX12_adopt_35)
theorem q175_36 {x : Int32} : ab_res scr 175 d M 36 [l0, l1, some (.int x)] (st) = ab_res scr 175 d M 39 [l0, ab_nl l1, some (.int (x + 1))] (st) := (ab_o_iinc (k := 2) (ab_dc hc175 dX12_adopt_36) hn175 (by decide) rfl).trans (by rw [ki_iconst_1]; exact ab_kl1 [l0] _ l1 rfl rfl)
theorem q175_39 : ab_res scr 175 d M 39 [l0, l1, l2] (st) = ab_res scr 175 d M 13 [l0, l1, l2] (st) := ab_o_goto (ab_dc hc175 dX12_adopt_39) (by decide)
theorem q175_42 {xr : Nat} : ab_res scr 175 d M 42 [some (.ref xr), l1, l2] (st) = ab_res scr 175 d M 43 [some (.ref xr), l1, l2] (.ref xr :: st) := ab_o_aload_n (ab_dc hc175 dX12_adopt_42) rfl
theorem q175_43 {v0 : Nat} : ab_res scr 175 d M 43 [l0, l1, l2] (.ref v0 :: st) = (ab_gF ab_L0 M v0 12 11).bind fun v => ab_res scr 175 d M 46 [l0, l1, l2] (v :: st) := ab_o_getfield (ab_dc hc175 dX12_adopt_43) hk175 lk_fl_12_19
theorem q175_46 : ab_res scr 175 d M 46 [l0, l1, l2] (st) = ab_res scr 175 d M 48 [l0, l1, l2] (.int 86 :: st) := (ab_o_bipush (ab_dc hc175 dX12_adopt_46)).trans (by rw [ki_bipush_86])
theorem q175_48 {xr : Nat} : ab_res scr 175 d M 48 [some (.ref xr), l1, l2] (st) = ab_res scr 175 d M 49 [some (.ref xr), l1, l2] (.ref xr :: st) := ab_o_aload_n (ab_dc hc175 dX12_adopt_48) rfl
theorem q175_49 {v0 : Nat} : ab_res scr 175 d M 49 [l0, l1, l2] (.ref v0 :: st) = (ab_gF ab_L0 M v0 12 30).bind fun v => ab_res scr 175 d M 52 [l0, l1, l2] (v :: st) := ab_o_getfield (ab_dc hc175 dX12_adopt_49) hk175 lk_fl_12_197
theorem q175_52 {v0 : Int32} {v1 : Int32} {v2 : Nat} : ab_res scr 175 d M 52 [l0, l1, l2] (.int v0 :: .int v1 :: .ref v2 :: st) = if ab_si v2 .int v1 = true then ab_res scr 175 d (ab_up M v2 v1.toNatClampNeg v0) 53 [l0, l1, l2] (st) else none := ab_o_iastore (ab_dc hc175 dX12_adopt_52)
theorem q175_53 {xr : Nat} : ab_res scr 175 d M 53 [some (.ref xr), l1, l2] (st) = ab_res scr 175 d M 54 [some (.ref xr), l1, l2] (.ref xr :: st) := ab_o_aload_n (ab_dc hc175 dX12_adopt_53) rfl
theorem q175_54 {v0 : Nat} : ab_res scr 175 d M 54 [l0, l1, l2] (.ref v0 :: st) = (ab_gF ab_L0 M v0 12 30).bind fun v => ab_res scr 175 d M 57 [l0, l1, l2] (v :: st) := ab_o_getfield (ab_dc hc175 dX12_adopt_54) hk175 lk_fl_12_197
theorem q175_57 {v0 : Int32} : ab_res scr 175 d M 57 [l0, l1, l2] ([.int v0]) = some (M, some (.int v0)) := ab_o_ireturn (ab_dc hc175 dX12_adopt_57) hr175 rfl
end Q175
theorem hc176 : ab_code 176 = cX12_layGain := rfl
theorem hn176 : ab_nL 176 = 10 := rfl
theorem hk176 : ab_ky 176 = 12 := rfl
theorem hr176 : ab_ret 176 = none := rfl
section Q176
variable {scr : Option (List Int32)} {d : Nat} {M : ab_M} {st : List Value} {l0 l1 l2 l3 l4 l5 l6 l7 l8 l9 : Option Value}
theorem q176_0 {xr : Nat} : ab_res scr 176 d M 0 [some (.ref xr), l1, l2, l3, l4, l5, l6, l7, l8, l9] (st) = ab_res scr 176 d M 1 [some (.ref xr), l1, l2, l3, l4, l5, l6, l7, l8, l9] (.ref xr :: st) := ab_o_aload_n (ab_dc hc176 dX12_layGain_0) rfl
theorem q176_1 {x : Int32} : ab_res scr 176 d M 1 [l0, some (.int x), l2, l3, l4, l5, l6, l7, l8, l9] (st) = ab_res scr 176 d M 2 [l0, some (.int x), l2, l3, l4, l5, l6, l7, l8, l9] (.int x :: st) := ab_o_iload_n (ab_dc hc176 dX12_layGain_1) rfl
theorem q176_2 {x : Int32} : ab_res scr 176 d M 2 [l0, l1, l2, l3, some (.int x), l5, l6, l7, l8, l9] (st) = ab_res scr 176 d M 4 [l0, l1, l2, l3, some (.int x), l5, l6, l7, l8, l9] (.int x :: st) := ab_o_iload (ab_dc hc176 dX12_layGain_2) rfl
theorem q176_4 {v0 : Int32} {v1 : Int32} {v2 : Nat} (hb : (ab_rc ab_L0 v2 = some 12) = True) : ab_res scr 176 7 M 4 [l0, l1, l2, l3, l4, l5, l6, l7, l8, l9] ([.int v0, .int v1, .ref v2]) = (ab_ms scr 135 [.ref v2, .int v1, .int v0] M).bind fun o => ab_res scr 176 7 o.1 7 [l0, l1, l2, l3, l4, l5, l6, l7, l8, l9] (ab_pr o.2 []) := ab_o_virtual (ab_dc hc176 dX12_layGain_4) hk176 lk_ca_12_168 hm135 (Nat.le_of_ble_eq_true rfl) rfl rfl rfl (of_eq_true hb) rfl rfl
theorem q176_7 {v0 : Int32} : ab_res scr 176 d M 7 [l0, l1, l2, l3, l4, l5, l6, l7, l8, l9] (.int v0 :: st) = ab_res scr 176 d M 9 [l0, l1, l2, l3, l4, l5, ab_nl l6, some (.int v0), l8, l9] (st) := (ab_o_st1 (k := 7) (ab_dc hc176 dX12_layGain_7) (Or.inl ⟨rfl, rfl, ⟨_, rfl⟩⟩) hn176 (by decide)).trans (ab_kl1 [l0, l1, l2, l3, l4, l5] _ l6 rfl rfl)
theorem q176_9 {xr : Nat} : ab_res scr 176 d M 9 [some (.ref xr), l1, l2, l3, l4, l5, l6, l7, l8, l9] (st) = ab_res scr 176 d M 10 [some (.ref xr), l1, l2, l3, l4, l5, l6, l7, l8, l9] (.ref xr :: st) := ab_o_aload_n (ab_dc hc176 dX12_layGain_9) rfl
theorem q176_10 {x : Int32} : ab_res scr 176 d M 10 [l0, l1, some (.int x), l3, l4, l5, l6, l7, l8, l9] (st) = ab_res scr 176 d M 11 [l0, l1, some (.int x), l3, l4, l5, l6, l7, l8, l9] (.int x :: st) := ab_o_iload_n (ab_dc hc176 dX12_layGain_10) rfl
theorem q176_11 {x : Int32} : ab_res scr 176 d M 11 [l0, l1, l2, some (.int x), l4, l5, l6, l7, l8, l9] (st) = ab_res scr 176 d M 12 [l0, l1, l2, some (.int x), l4, l5, l6, l7, l8, l9] (.int x :: st) := ab_o_iload_n (ab_dc hc176 dX12_layGain_11) rfl
theorem q176_12 {v0 : Int32} {v1 : Int32} {v2 : Nat} (hb : (ab_rc ab_L0 v2 = some 12) = True) : ab_res scr 176 7 M 12 [l0, l1, l2, l3, l4, l5, l6, l7, l8, l9] ([.int v0, .int v1, .ref v2]) = (ab_ms scr 159 [.ref v2, .int v1, .int v0] M).bind fun o => ab_res scr 176 7 o.1 15 [l0, l1, l2, l3, l4, l5, l6, l7, l8, l9] (ab_pr o.2 []) := ab_o_virtual (ab_dc hc176 dX12_layGain_12) hk176 lk_ca_12_286 hm159 (Nat.le_of_ble_eq_true rfl) rfl rfl rfl (of_eq_true hb) rfl rfl
theorem q176_15 {xr : Nat} : ab_res scr 176 d M 15 [some (.ref xr), l1, l2, l3, l4, l5, l6, l7, l8, l9] (st) = ab_res scr 176 d M 16 [some (.ref xr), l1, l2, l3, l4, l5, l6, l7, l8, l9] (.ref xr :: st) := ab_o_aload_n (ab_dc hc176 dX12_layGain_15) rfl
theorem q176_16 {x : Int32} : ab_res scr 176 d M 16 [l0, some (.int x), l2, l3, l4, l5, l6, l7, l8, l9] (st) = ab_res scr 176 d M 17 [l0, some (.int x), l2, l3, l4, l5, l6, l7, l8, l9] (.int x :: st) := ab_o_iload_n (ab_dc hc176 dX12_layGain_16) rfl
theorem q176_17 {v0 : Int32} {v1 : Nat} (hb : (ab_rc ab_L0 v1 = some 12) = True) : ab_res scr 176 7 M 17 [l0, l1, l2, l3, l4, l5, l6, l7, l8, l9] ([.int v0, .ref v1]) = (ab_ms scr 141 [.ref v1, .int v0] M).bind fun o => ab_res scr 176 7 o.1 20 [l0, l1, l2, l3, l4, l5, l6, l7, l8, l9] (ab_pr o.2 []) := ab_o_virtual (ab_dc hc176 dX12_layGain_17) hk176 lk_ca_12_209 hm141 (Nat.le_of_ble_eq_true rfl) rfl rfl rfl (of_eq_true hb) rfl rfl
theorem q176_20 {v0 : Int32} : ab_res scr 176 d M 20 [l0, l1, l2, l3, l4, l5, l6, l7, l8, l9] (.int v0 :: st) = ab_res scr 176 d M 22 [l0, l1, l2, l3, l4, l5, l6, ab_nl l7, some (.int v0), l9] (st) := (ab_o_st1 (k := 8) (ab_dc hc176 dX12_layGain_20) (Or.inl ⟨rfl, rfl, ⟨_, rfl⟩⟩) hn176 (by decide)).trans (ab_kl1 [l0, l1, l2, l3, l4, l5, l6] _ l7 rfl rfl)
theorem q176_22 {xr : Nat} : ab_res scr 176 d M 22 [some (.ref xr), l1, l2, l3, l4, l5, l6, l7, l8, l9] (st) = ab_res scr 176 d M 23 [some (.ref xr), l1, l2, l3, l4, l5, l6, l7, l8, l9] (.ref xr :: st) := ab_o_aload_n (ab_dc hc176 dX12_layGain_22) rfl
theorem q176_23 : ab_res scr 176 d M 23 [l0, l1, l2, l3, l4, l5, l6, l7, l8, l9] (st) = ab_res scr 176 d M 24 [l0, l1, l2, l3, l4, l5, l6, l7, l8, l9] (.int 0 :: st) := (ab_o_iconst (ab_dc hc176 dX12_layGain_23)).trans (by rw [ki_iconst_0])
theorem q176_24 {v0 : Int32} {v1 : Nat} (hp : (ab_pt v1 12 39 v0 = true) = True) : ab_res scr 176 d M 24 [l0, l1, l2, l3, l4, l5, l6, l7, l8, l9] (.int v0 :: .ref v1 :: st) = ab_res scr 176 d (ab_up M v1 39 v0) 27 [l0, l1, l2, l3, l4, l5, l6, l7, l8, l9] (st) := ab_o_putfield (ab_dc hc176 dX12_layGain_24) hk176 lk_fl_12_316 (of_eq_true hp)
theorem q176_27 {xr : Nat} : ab_res scr 176 d M 27 [some (.ref xr), l1, l2, l3, l4, l5, l6, l7, l8, l9] (st) = ab_res scr 176 d M 28 [some (.ref xr), l1, l2, l3, l4, l5, l6, l7, l8, l9] (.ref xr :: st) := ab_o_aload_n (ab_dc hc176 dX12_layGain_27) rfl
theorem q176_28 {x : Int32} : ab_res scr 176 d M 28 [l0, l1, l2, l3, l4, l5, l6, some (.int x), l8, l9] (st) = ab_res scr 176 d M 30 [l0, l1, l2, l3, l4, l5, l6, some (.int x), l8, l9] (.int x :: st) := ab_o_iload (ab_dc hc176 dX12_layGain_28) rfl
theorem q176_30 {v0 : Int32} {v1 : Nat} (hp : (ab_pt v1 12 40 v0 = true) = True) : ab_res scr 176 d M 30 [l0, l1, l2, l3, l4, l5, l6, l7, l8, l9] (.int v0 :: .ref v1 :: st) = ab_res scr 176 d (ab_up M v1 40 v0) 33 [l0, l1, l2, l3, l4, l5, l6, l7, l8, l9] (st) := ab_o_putfield (ab_dc hc176 dX12_layGain_30) hk176 lk_fl_12_319 (of_eq_true hp)
theorem q176_33 {x : Int32} : ab_res scr 176 d M 33 [l0, l1, l2, l3, l4, some (.int x), l6, l7, l8, l9] (st) = ab_res scr 176 d M 35 [l0, l1, l2, l3, l4, some (.int x), l6, l7, l8, l9] (.int x :: st) := ab_o_iload (ab_dc hc176 dX12_layGain_33) rfl
theorem q176_35 {v0 : Int32} : ab_res scr 176 d M 35 [l0, l1, l2, l3, l4, l5, l6, l7, l8, l9] (.int v0 :: st) = ab_res scr 176 d M 37 [l0, l1, l2, l3, l4, l5, l6, l7, ab_nl l8, some (.int v0)] (st) := (ab_o_st1 (k := 9) (ab_dc hc176 dX12_layGain_35) (Or.inl ⟨rfl, rfl, ⟨_, rfl⟩⟩) hn176 (by decide)).trans (ab_kl1 [l0, l1, l2, l3, l4, l5, l6, l7] _ l8 rfl rfl)
theorem q176_37 {x : Int32} : ab_res scr 176 d M 37 [l0, l1, l2, l3, l4, l5, l6, l7, l8, some (.int x)] (st) = ab_res scr 176 d M 39 [l0, l1, l2, l3, l4, l5, l6, l7, l8, some (.int x)] (.int x :: st) := ab_o_iload (ab_dc hc176 dX12_layGain_37) rfl
theorem q176_39 {x : Int32} : ab_res scr 176 d M 39 [l0, l1, l2, l3, l4, l5, some (.int x), l7, l8, l9] (st) = ab_res scr 176 d M 41 [l0, l1, l2, l3, l4, l5, some (.int x), l7, l8, l9] (.int x :: st) := ab_o_iload (ab_dc hc176 dX12_layGain_39) rfl
theorem q176_41 {v0 : Int32} {v1 : Int32} : ab_res scr 176 d M 41 [l0, l1, l2, l3, l4, l5, l6, l7, l8, l9] (.int v0 :: .int v1 :: st) = if v0 < v1 then ab_res scr 176 d M 103 [l0, l1, l2, l3, l4, l5, l6, l7, l8, l9] (st) else ab_res scr 176 d M 44 [l0, l1, l2, l3, l4, l5, l6, l7, l8, l9] (st) := ab_o_br2 (off := 62) (ab_dc hc176 dX12_layGain_41) (by decide) rfl rfl
theorem q176_44 {xr : Nat} : ab_res scr 176 d M 44 [some (.ref xr), l1, l2, l3, l4, l5, l6, l7, l8, l9] (st) = ab_res scr 176 d M 45 [some (.ref xr), l1, l2, l3, l4, l5, l6, l7, l8, l9] (.ref xr :: st) := ab_o_aload_n (ab_dc hc176 dX12_layGain_44) rfl
theorem q176_45 {v0 : Nat} : ab_res scr 176 d M 45 [l0, l1, l2, l3, l4, l5, l6, l7, l8, l9] (.ref v0 :: st) = (ab_gF ab_L0 M v0 12 11).bind fun v => ab_res scr 176 d M 48 [l0, l1, l2, l3, l4, l5, l6, l7, l8, l9] (v :: st) := ab_o_getfield (ab_dc hc176 dX12_layGain_45) hk176 lk_fl_12_19
theorem q176_48 : ab_res scr 176 d M 48 [l0, l1, l2, l3, l4, l5, l6, l7, l8, l9] (st) = ab_res scr 176 d M 50 [l0, l1, l2, l3, l4, l5, l6, l7, l8, l9] (.int 9 :: st) := (ab_o_bipush (ab_dc hc176 dX12_layGain_48)).trans (by rw [ki_bipush_9])
theorem q176_50 {x : Int32} : ab_res scr 176 d M 50 [l0, some (.int x), l2, l3, l4, l5, l6, l7, l8, l9] (st) = ab_res scr 176 d M 51 [l0, some (.int x), l2, l3, l4, l5, l6, l7, l8, l9] (.int x :: st) := ab_o_iload_n (ab_dc hc176 dX12_layGain_50) rfl
theorem q176_51 {v0 : Int32} {v1 : Int32} : ab_res scr 176 d M 51 [l0, l1, l2, l3, l4, l5, l6, l7, l8, l9] (.int v0 :: .int v1 :: st) = ab_res scr 176 d M 52 [l0, l1, l2, l3, l4, l5, l6, l7, l8, l9] (.int (v1 * v0) :: st) := ab_xg (ab_dc hc176 dX12_layGain_51) rfl rfl
theorem q176_52 {x : Int32} : ab_res scr 176 d M 52 [l0, l1, l2, l3, some (.int x), l5, l6, l7, l8, l9] (st) = ab_res scr 176 d M 54 [l0, l1, l2, l3, some (.int x), l5, l6, l7, l8, l9] (.int x :: st) := ab_o_iload (ab_dc hc176 dX12_layGain_52) rfl
theorem q176_54 {v0 : Int32} {v1 : Int32} : ab_res scr 176 d M 54 [l0, l1, l2, l3, l4, l5, l6, l7, l8, l9] (.int v0 :: .int v1 :: st) = ab_res scr 176 d M 55 [l0, l1, l2, l3, l4, l5, l6, l7, l8, l9] (.int (v1 + v0) :: st) := ab_xg (ab_dc hc176 dX12_layGain_54) rfl rfl
theorem q176_55 {x : Int32} : ab_res scr 176 d M 55 [l0, l1, l2, l3, l4, l5, l6, l7, l8, some (.int x)] (st) = ab_res scr 176 d M 57 [l0, l1, l2, l3, l4, l5, l6, l7, l8, some (.int x)] (.int x :: st) := ab_o_iload (ab_dc hc176 dX12_layGain_55) rfl
theorem q176_57 {v0 : Int32} {v1 : Int32} {v2 : Nat} : ab_res scr 176 d M 57 [l0, l1, l2, l3, l4, l5, l6, l7, l8, l9] (.int v0 :: .int v1 :: .ref v2 :: st) = if ab_si v2 .int v1 = true then ab_res scr 176 d (ab_up M v2 v1.toNatClampNeg v0) 58 [l0, l1, l2, l3, l4, l5, l6, l7, l8, l9] (st) else none := ab_o_iastore (ab_dc hc176 dX12_layGain_57)
theorem q176_58 {xr : Nat} : ab_res scr 176 d M 58 [some (.ref xr), l1, l2, l3, l4, l5, l6, l7, l8, l9] (st) = ab_res scr 176 d M 59 [some (.ref xr), l1, l2, l3, l4, l5, l6, l7, l8, l9] (.ref xr :: st) := ab_o_aload_n (ab_dc hc176 dX12_layGain_58) rfl
theorem q176_59 {x : Int32} : ab_res scr 176 d M 59 [l0, l1, some (.int x), l3, l4, l5, l6, l7, l8, l9] (st) = ab_res scr 176 d M 60 [l0, l1, some (.int x), l3, l4, l5, l6, l7, l8, l9] (.int x :: st) := ab_o_iload_n (ab_dc hc176 dX12_layGain_59) rfl
theorem q176_60 {x : Int32} : ab_res scr 176 d M 60 [l0, l1, l2, some (.int x), l4, l5, l6, l7, l8, l9] (st) = ab_res scr 176 d M 61 [l0, l1, l2, some (.int x), l4, l5, l6, l7, l8, l9] (.int x :: st) := ab_o_iload_n (ab_dc hc176 dX12_layGain_60) rfl
theorem q176_61 {v0 : Int32} {v1 : Int32} {v2 : Nat} (hb : (ab_rc ab_L0 v2 = some 12) = True) : ab_res scr 176 7 M 61 [l0, l1, l2, l3, l4, l5, l6, l7, l8, l9] ([.int v0, .int v1, .ref v2]) = (ab_ms scr 159 [.ref v2, .int v1, .int v0] M).bind fun o => ab_res scr 176 7 o.1 64 [l0, l1, l2, l3, l4, l5, l6, l7, l8, l9] (ab_pr o.2 []) := ab_o_virtual (ab_dc hc176 dX12_layGain_61) hk176 lk_ca_12_286 hm159 (Nat.le_of_ble_eq_true rfl) rfl rfl rfl (of_eq_true hb) rfl rfl
theorem q176_64 {x : Int32} : ab_res scr 176 d M 64 [l0, l1, l2, l3, l4, l5, l6, l7, some (.int x), l9] (st) = ab_res scr 176 d M 66 [l0, l1, l2, l3, l4, l5, l6, l7, some (.int x), l9] (.int x :: st) := ab_o_iload (ab_dc hc176 dX12_layGain_64) rfl
theorem q176_66 {xr : Nat} : ab_res scr 176 d M 66 [some (.ref xr), l1, l2, l3, l4, l5, l6, l7, l8, l9] (st) = ab_res scr 176 d M 67 [some (.ref xr), l1, l2, l3, l4, l5, l6, l7, l8, l9] (.ref xr :: st) := ab_o_aload_n (ab_dc hc176 dX12_layGain_66) rfl
theorem q176_67 {x : Int32} : ab_res scr 176 d M 67 [l0, some (.int x), l2, l3, l4, l5, l6, l7, l8, l9] (st) = ab_res scr 176 d M 68 [l0, some (.int x), l2, l3, l4, l5, l6, l7, l8, l9] (.int x :: st) := ab_o_iload_n (ab_dc hc176 dX12_layGain_67) rfl
theorem q176_68 {v0 : Int32} {v1 : Nat} {v2 : Int32} (hb : (ab_rc ab_L0 v1 = some 12) = True) : ab_res scr 176 7 M 68 [l0, l1, l2, l3, l4, l5, l6, l7, l8, l9] ([.int v0, .ref v1, .int v2]) = (ab_ms scr 141 [.ref v1, .int v0] M).bind fun o => ab_res scr 176 7 o.1 71 [l0, l1, l2, l3, l4, l5, l6, l7, l8, l9] (ab_pr o.2 [.int v2]) := ab_o_virtual (ab_dc hc176 dX12_layGain_68) hk176 lk_ca_12_209 hm141 (Nat.le_of_ble_eq_true rfl) rfl rfl rfl (of_eq_true hb) rfl rfl
theorem q176_71 {v0 : Int32} {v1 : Int32} : ab_res scr 176 d M 71 [l0, l1, l2, l3, l4, l5, l6, l7, l8, l9] (.int v0 :: .int v1 :: st) = ab_res scr 176 d M 72 [l0, l1, l2, l3, l4, l5, l6, l7, l8, l9] (.int (v1 - v0) :: st) := ab_xg (ab_dc hc176 dX12_layGain_71) rfl rfl
theorem q176_72 {xr : Nat} : ab_res scr 176 d M 72 [some (.ref xr), l1, l2, l3, l4, l5, l6, l7, l8, l9] (st) = ab_res scr 176 d M 73 [some (.ref xr), l1, l2, l3, l4, l5, l6, l7, l8, l9] (.ref xr :: st) := ab_o_aload_n (ab_dc hc176 dX12_layGain_72) rfl
theorem q176_73 {v0 : Nat} : ab_res scr 176 d M 73 [l0, l1, l2, l3, l4, l5, l6, l7, l8, l9] (.ref v0 :: st) = (ab_gF ab_L0 M v0 12 39).bind fun v => ab_res scr 176 d M 76 [l0, l1, l2, l3, l4, l5, l6, l7, l8, l9] (v :: st) := ab_o_getfield (ab_dc hc176 dX12_layGain_73) hk176 lk_fl_12_316
theorem q176_76 {v0 : Int32} {v1 : Int32} : ab_res scr 176 d M 76 [l0, l1, l2, l3, l4, l5, l6, l7, l8, l9] (.int v0 :: .int v1 :: st) = if v1 ≤ v0 then ab_res scr 176 d M 97 [l0, l1, l2, l3, l4, l5, l6, l7, l8, l9] (st) else ab_res scr 176 d M 79 [l0, l1, l2, l3, l4, l5, l6, l7, l8, l9] (st) := ab_o_br2 (off := 21) (ab_dc hc176 dX12_layGain_76) (by decide) rfl rfl
theorem q176_79 {xr : Nat} : ab_res scr 176 d M 79 [some (.ref xr), l1, l2, l3, l4, l5, l6, l7, l8, l9] (st) = ab_res scr 176 d M 80 [some (.ref xr), l1, l2, l3, l4, l5, l6, l7, l8, l9] (.ref xr :: st) := ab_o_aload_n (ab_dc hc176 dX12_layGain_79) rfl
theorem q176_80 {x : Int32} : ab_res scr 176 d M 80 [l0, l1, l2, l3, l4, l5, l6, l7, some (.int x), l9] (st) = ab_res scr 176 d M 82 [l0, l1, l2, l3, l4, l5, l6, l7, some (.int x), l9] (.int x :: st) := ab_o_iload (ab_dc hc176 dX12_layGain_80) rfl
theorem q176_82 {xr : Nat} : ab_res scr 176 d M 82 [some (.ref xr), l1, l2, l3, l4, l5, l6, l7, l8, l9] (st) = ab_res scr 176 d M 83 [some (.ref xr), l1, l2, l3, l4, l5, l6, l7, l8, l9] (.ref xr :: st) := ab_o_aload_n (ab_dc hc176 dX12_layGain_82) rfl
theorem q176_83 {x : Int32} : ab_res scr 176 d M 83 [l0, some (.int x), l2, l3, l4, l5, l6, l7, l8, l9] (st) = ab_res scr 176 d M 84 [l0, some (.int x), l2, l3, l4, l5, l6, l7, l8, l9] (.int x :: st) := ab_o_iload_n (ab_dc hc176 dX12_layGain_83) rfl
theorem q176_84 {v0 : Int32} {v1 : Nat} {v2 : Int32} {v3 : Nat} (hb : (ab_rc ab_L0 v1 = some 12) = True) : ab_res scr 176 7 M 84 [l0, l1, l2, l3, l4, l5, l6, l7, l8, l9] ([.int v0, .ref v1, .int v2, .ref v3]) = (ab_ms scr 141 [.ref v1, .int v0] M).bind fun o => ab_res scr 176 7 o.1 87 [l0, l1, l2, l3, l4, l5, l6, l7, l8, l9] (ab_pr o.2 [.int v2, .ref v3]) := ab_o_virtual (ab_dc hc176 dX12_layGain_84) hk176 lk_ca_12_209 hm141 (Nat.le_of_ble_eq_true rfl) rfl rfl rfl (of_eq_true hb) rfl rfl
theorem q176_87 {v0 : Int32} {v1 : Int32} : ab_res scr 176 d M 87 [l0, l1, l2, l3, l4, l5, l6, l7, l8, l9] (.int v0 :: .int v1 :: st) = ab_res scr 176 d M 88 [l0, l1, l2, l3, l4, l5, l6, l7, l8, l9] (.int (v1 - v0) :: st) := ab_xg (ab_dc hc176 dX12_layGain_87) rfl rfl
theorem q176_88 {v0 : Int32} {v1 : Nat} (hp : (ab_pt v1 12 39 v0 = true) = True) : ab_res scr 176 d M 88 [l0, l1, l2, l3, l4, l5, l6, l7, l8, l9] (.int v0 :: .ref v1 :: st) = ab_res scr 176 d (ab_up M v1 39 v0) 91 [l0, l1, l2, l3, l4, l5, l6, l7, l8, l9] (st) := ab_o_putfield (ab_dc hc176 dX12_layGain_88) hk176 lk_fl_12_316 (of_eq_true hp)
theorem q176_91 {xr : Nat} : ab_res scr 176 d M 91 [some (.ref xr), l1, l2, l3, l4, l5, l6, l7, l8, l9] (st) = ab_res scr 176 d M 92 [some (.ref xr), l1, l2, l3, l4, l5, l6, l7, l8, l9] (.ref xr :: st) := ab_o_aload_n (ab_dc hc176 dX12_layGain_91) rfl
theorem q176_92 {x : Int32} : ab_res scr 176 d M 92 [l0, l1, l2, l3, l4, l5, l6, l7, l8, some (.int x)] (st) = ab_res scr 176 d M 94 [l0, l1, l2, l3, l4, l5, l6, l7, l8, some (.int x)] (.int x :: st) := ab_o_iload (ab_dc hc176 dX12_layGain_92) rfl
theorem q176_94 {v0 : Int32} {v1 : Nat} (hp : (ab_pt v1 12 40 v0 = true) = True) : ab_res scr 176 d M 94 [l0, l1, l2, l3, l4, l5, l6, l7, l8, l9] (.int v0 :: .ref v1 :: st) = ab_res scr 176 d (ab_up M v1 40 v0) 97 [l0, l1, l2, l3, l4, l5, l6, l7, l8, l9] (st) := ab_o_putfield (ab_dc hc176 dX12_layGain_94) hk176 lk_fl_12_319 (of_eq_true hp)
theorem q176_97 {x : Int32} : ab_res scr 176 d M 97 [l0, l1, l2, l3, l4, l5, l6, l7, l8, some (.int x)] (st) = ab_res scr 176 d M 100 [l0, l1, l2, l3, l4, l5, l6, l7, ab_nl l8, some (.int (x + 1))] (st) := (ab_o_iinc (k := 9) (ab_dc hc176 dX12_layGain_97) hn176 (by decide) rfl).trans (by rw [ki_iconst_1]; exact ab_kl1 [l0, l1, l2, l3, l4, l5, l6, l7] _ l8 rfl rfl)
theorem q176_100 : ab_res scr 176 d M 100 [l0, l1, l2, l3, l4, l5, l6, l7, l8, l9] (st) = ab_res scr 176 d M 37 [l0, l1, l2, l3, l4, l5, l6, l7, l8, l9] (st) := ab_o_goto (ab_dc hc176 dX12_layGain_100) (by decide)
theorem q176_103 {xr : Nat} : ab_res scr 176 d M 103 [some (.ref xr), l1, l2, l3, l4, l5, l6, l7, l8, l9] (st) = ab_res scr 176 d M 104 [some (.ref xr), l1, l2, l3, l4, l5, l6, l7, l8, l9] (.ref xr :: st) := ab_o_aload_n (ab_dc hc176 dX12_layGain_103) rfl
theorem q176_104 {v0 : Nat} : ab_res scr 176 d M 104 [l0, l1, l2, l3, l4, l5, l6, l7, l8, l9] (.ref v0 :: st) = (ab_gF ab_L0 M v0 12 11).bind fun v => ab_res scr 176 d M 107 [l0, l1, l2, l3, l4, l5, l6, l7, l8, l9] (v :: st) := ab_o_getfield (ab_dc hc176 dX12_layGain_104) hk176 lk_fl_12_19
theorem q176_107 : ab_res scr 176 d M 107 [l0, l1, l2, l3, l4, l5, l6, l7, l8, l9] (st) = ab_res scr 176 d M 109 [l0, l1, l2, l3, l4, l5, l6, l7, l8, l9] (.int 9 :: st) := (ab_o_bipush (ab_dc hc176 dX12_layGain_107)).trans (by rw [ki_bipush_9])
theorem q176_109 {x : Int32} : ab_res scr 176 d M 109 [l0, some (.int x), l2, l3, l4, l5, l6, l7, l8, l9] (st) = ab_res scr 176 d M 110 [l0, some (.int x), l2, l3, l4, l5, l6, l7, l8, l9] (.int x :: st) := ab_o_iload_n (ab_dc hc176 dX12_layGain_109) rfl
theorem q176_110 {v0 : Int32} {v1 : Int32} : ab_res scr 176 d M 110 [l0, l1, l2, l3, l4, l5, l6, l7, l8, l9] (.int v0 :: .int v1 :: st) = ab_res scr 176 d M 111 [l0, l1, l2, l3, l4, l5, l6, l7, l8, l9] (.int (v1 * v0) :: st) := ab_xg (ab_dc hc176 dX12_layGain_110) rfl rfl
theorem q176_111 {x : Int32} : ab_res scr 176 d M 111 [l0, l1, l2, l3, some (.int x), l5, l6, l7, l8, l9] (st) = ab_res scr 176 d M 113 [l0, l1, l2, l3, some (.int x), l5, l6, l7, l8, l9] (.int x :: st) := ab_o_iload (ab_dc hc176 dX12_layGain_111) rfl
theorem q176_113 {v0 : Int32} {v1 : Int32} : ab_res scr 176 d M 113 [l0, l1, l2, l3, l4, l5, l6, l7, l8, l9] (.int v0 :: .int v1 :: st) = ab_res scr 176 d M 114 [l0, l1, l2, l3, l4, l5, l6, l7, l8, l9] (.int (v1 + v0) :: st) := ab_xg (ab_dc hc176 dX12_layGain_113) rfl rfl
theorem q176_114 {x : Int32} : ab_res scr 176 d M 114 [l0, l1, l2, l3, l4, l5, l6, some (.int x), l8, l9] (st) = ab_res scr 176 d M 116 [l0, l1, l2, l3, l4, l5, l6, some (.int x), l8, l9] (.int x :: st) := ab_o_iload (ab_dc hc176 dX12_layGain_114) rfl
theorem q176_116 {v0 : Int32} {v1 : Int32} {v2 : Nat} : ab_res scr 176 d M 116 [l0, l1, l2, l3, l4, l5, l6, l7, l8, l9] (.int v0 :: .int v1 :: .ref v2 :: st) = if ab_si v2 .int v1 = true then ab_res scr 176 d (ab_up M v2 v1.toNatClampNeg v0) 117 [l0, l1, l2, l3, l4, l5, l6, l7, l8, l9] (st) else none := ab_o_iastore (ab_dc hc176 dX12_layGain_116)
theorem q176_117 : ab_res scr 176 d M 117 [l0, l1, l2, l3, l4, l5, l6, l7, l8, l9] ([]) = some (M, none) := ab_o_return (ab_dc hc176 dX12_layGain_117) hr176
end Q176
theorem hc177 : ab_code 177 = cX12_late := rfl
theorem hn177 : ab_nL 177 = 5 := rfl
theorem hk177 : ab_ky 177 = 12 := rfl
theorem hr177 : ab_ret 177 = some .int := rfl
section Q177
variable {scr : Option (List Int32)} {d : Nat} {M : ab_M} {st : List Value} {l0 l1 l2 l3 l4 : Option Value}
theorem q177_0 {xr : Nat} : ab_res scr 177 d M 0 [some (.ref xr), l1, l2, l3, l4] (st) = ab_res scr 177 d M 1 [some (.ref xr), l1, l2, l3, l4] (.ref xr :: st) := ab_o_aload_n (ab_dc hc177 dX12_late_0) rfl
theorem q177_1 {x : Int32} : ab_res scr 177 d M 1 [l0, some (.int x), l2, l3, l4] (st) = ab_res scr 177 d M 2 [l0, some (.int x), l2, l3, l4] (.int x :: st) := ab_o_iload_n (ab_dc hc177 dX12_late_1) rfl
theorem q177_2 {v0 : Int32} {v1 : Nat} (hb : (ab_rc ab_L0 v1 = some 12) = True) : ab_res scr 177 8 M 2 [l0, l1, l2, l3, l4] ([.int v0, .ref v1]) = (ab_ms scr 134 [.ref v1, .int v0] M).bind fun o => ab_res scr 177 8 o.1 5 [l0, l1, l2, l3, l4] (ab_pr o.2 []) := ab_o_virtual (ab_dc hc177 dX12_late_2) hk177 lk_ca_12_162 hm134 (Nat.le_of_ble_eq_true rfl) rfl rfl rfl (of_eq_true hb) rfl rfl
theorem q177_5 {v0 : Int32} : ab_res scr 177 d M 5 [l0, l1, l2, l3, l4] (.int v0 :: st) = if v0 = 0 then ab_res scr 177 d M 26 [l0, l1, l2, l3, l4] (st) else ab_res scr 177 d M 8 [l0, l1, l2, l3, l4] (st) := ab_o_br2 (off := 21) (ab_dc hc177 dX12_late_5) (by decide) rfl rfl
theorem q177_8 {x : Int32} : ab_res scr 177 d M 8 [l0, l1, some (.int x), l3, l4] (st) = ab_res scr 177 d M 9 [l0, l1, some (.int x), l3, l4] (.int x :: st) := ab_o_iload_n (ab_dc hc177 dX12_late_8) rfl
theorem q177_9 {v0 : Int32} : ab_res scr 177 8 M 9 [l0, l1, l2, l3, l4] ([.int v0]) = (ab_ms scr 160 [.int v0] M).bind fun o => ab_res scr 177 8 o.1 12 [l0, l1, l2, l3, l4] (ab_pr o.2 []) := ab_o_static (ab_dc hc177 dX12_late_9) hk177 lk_ca_12_283 hm160 (Nat.le_of_ble_eq_true rfl) rfl rfl rfl rfl rfl
theorem q177_12 {v0 : Int32} : ab_res scr 177 d M 12 [l0, l1, l2, l3, l4] (.int v0 :: st) = if v0 = 0 then ab_res scr 177 d M 26 [l0, l1, l2, l3, l4] (st) else ab_res scr 177 d M 15 [l0, l1, l2, l3, l4] (st) := ab_o_br2 (off := 14) (ab_dc hc177 dX12_late_12) (by decide) rfl rfl
theorem q177_15 {x : Int32} : ab_res scr 177 d M 15 [l0, l1, l2, l3, some (.int x)] (st) = ab_res scr 177 d M 17 [l0, l1, l2, l3, some (.int x)] (.int x :: st) := ab_o_iload (ab_dc hc177 dX12_late_15) rfl
theorem q177_17 {v0 : Int32} : ab_res scr 177 d M 17 [l0, l1, l2, l3, l4] (.int v0 :: st) = ab_res scr 177 d M 18 [l0, l1, l2, l3, l4] (.long v0.toInt64 :: st) := ab_xg (ab_dc hc177 dX12_late_17) rfl rfl
theorem q177_18 : ab_res scr 177 d M 18 [l0, l1, l2, l3, l4] (st) = ab_res scr 177 d M 19 [l0, l1, l2, l3, l4] (.long 0 :: st) := ab_o_lconst (ab_dc hc177 dX12_late_18)
theorem q177_19 : ab_res scr 177 d M 19 [l0, l1, l2, l3, l4] (st) = ab_res scr 177 d M 20 [l0, l1, l2, l3, l4] (.long 1 :: st) := ab_o_lconst (ab_dc hc177 dX12_late_19)
theorem q177_20 {v0 : Int64} {v1 : Int64} {v2 : Int64} : ab_res scr 177 8 M 20 [l0, l1, l2, l3, l4] ([.long v0, .long v1, .long v2]) = (ab_ms scr 120 [.long v2, .long v1, .long v0] M).bind fun o => ab_res scr 177 8 o.1 23 [l0, l1, l2, l3, l4] (ab_pr o.2 []) := ab_o_static (ab_dc hc177 dX12_late_20) hk177 lk_ca_12_97 hm120 (Nat.le_of_ble_eq_true rfl) rfl rfl rfl rfl rfl
theorem q177_23 {v0 : Int32} : ab_res scr 177 d M 23 [l0, l1, l2, l3, l4] (.int v0 :: st) = if ¬ v0 = 0 then ab_res scr 177 d M 28 [l0, l1, l2, l3, l4] (st) else ab_res scr 177 d M 26 [l0, l1, l2, l3, l4] (st) := ab_o_br2 (off := 5) (ab_dc hc177 dX12_late_23) (by decide) rfl rfl
theorem q177_26 : ab_res scr 177 d M 26 [l0, l1, l2, l3, l4] (st) = ab_res scr 177 d M 27 [l0, l1, l2, l3, l4] (.int (-1) :: st) := (ab_o_iconst (ab_dc hc177 dX12_late_26)).trans (by rw [ki_iconst_m1])
theorem q177_27 {v0 : Int32} : ab_res scr 177 d M 27 [l0, l1, l2, l3, l4] ([.int v0]) = some (M, some (.int v0)) := ab_o_ireturn (ab_dc hc177 dX12_late_27) hr177 rfl
theorem q177_28 {xr : Nat} : ab_res scr 177 d M 28 [some (.ref xr), l1, l2, l3, l4] (st) = ab_res scr 177 d M 29 [some (.ref xr), l1, l2, l3, l4] (.ref xr :: st) := ab_o_aload_n (ab_dc hc177 dX12_late_28) rfl
theorem q177_29 {x : Int32} : ab_res scr 177 d M 29 [l0, some (.int x), l2, l3, l4] (st) = ab_res scr 177 d M 30 [l0, some (.int x), l2, l3, l4] (.int x :: st) := ab_o_iload_n (ab_dc hc177 dX12_late_29) rfl
theorem q177_30 {x : Int32} : ab_res scr 177 d M 30 [l0, l1, some (.int x), l3, l4] (st) = ab_res scr 177 d M 31 [l0, l1, some (.int x), l3, l4] (.int x :: st) := ab_o_iload_n (ab_dc hc177 dX12_late_30) rfl
theorem q177_31 {x : Int32} : ab_res scr 177 d M 31 [l0, l1, l2, some (.int x), l4] (st) = ab_res scr 177 d M 32 [l0, l1, l2, some (.int x), l4] (.int x :: st) := ab_o_iload_n (ab_dc hc177 dX12_late_31) rfl
theorem q177_32 : ab_res scr 177 d M 32 [l0, l1, l2, l3, l4] (st) = ab_res scr 177 d M 33 [l0, l1, l2, l3, l4] (.int 0 :: st) := (ab_o_iconst (ab_dc hc177 dX12_late_32)).trans (by rw [ki_iconst_0])
theorem q177_33 : ab_res scr 177 d M 33 [l0, l1, l2, l3, l4] (st) = ab_res scr 177 d M 34 [l0, l1, l2, l3, l4] (.int 0 :: st) := (ab_o_iconst (ab_dc hc177 dX12_late_33)).trans (by rw [ki_iconst_0])
theorem q177_34 {xr : Nat} : ab_res scr 177 d M 34 [some (.ref xr), l1, l2, l3, l4] (st) = ab_res scr 177 d M 35 [some (.ref xr), l1, l2, l3, l4] (.ref xr :: st) := ab_o_aload_n (ab_dc hc177 dX12_late_34) rfl
theorem q177_35 {x : Int32} : ab_res scr 177 d M 35 [l0, some (.int x), l2, l3, l4] (st) = ab_res scr 177 d M 36 [l0, some (.int x), l2, l3, l4] (.int x :: st) := ab_o_iload_n (ab_dc hc177 dX12_late_35) rfl
theorem q177_36 : ab_res scr 177 d M 36 [l0, l1, l2, l3, l4] (st) = ab_res scr 177 d M 37 [l0, l1, l2, l3, l4] (.int 1 :: st) := (ab_o_iconst (ab_dc hc177 dX12_late_36)).trans (by rw [ki_iconst_1])
theorem q177_37 {v0 : Int32} {v1 : Int32} {v2 : Nat} {v3 : Int32} {v4 : Int32} {v5 : Int32} {v6 : Int32} {v7 : Int32} {v8 : Nat} (hb : (ab_rc ab_L0 v2 = some 12) = True) : ab_res scr 177 8 M 37 [l0, l1, l2, l3, l4] ([.int v0, .int v1, .ref v2, .int v3, .int v4, .int v5, .int v6, .int v7, .ref v8]) = (ab_ms scr 135 [.ref v2, .int v1, .int v0] M).bind fun o => ab_res scr 177 8 o.1 40 [l0, l1, l2, l3, l4] (ab_pr o.2 [.int v3, .int v4, .int v5, .int v6, .int v7, .ref v8]) := ab_o_virtual (ab_dc hc177 dX12_late_37) hk177 lk_ca_12_168 hm135 (Nat.le_of_ble_eq_true rfl) rfl rfl rfl (of_eq_true hb) rfl rfl
theorem q177_40 : ab_res scr 177 d M 40 [l0, l1, l2, l3, l4] (st) = ab_res scr 177 d M 41 [l0, l1, l2, l3, l4] (.int 1 :: st) := (ab_o_iconst (ab_dc hc177 dX12_late_40)).trans (by rw [ki_iconst_1])
theorem q177_41 {v0 : Int32} {v1 : Int32} : ab_res scr 177 d M 41 [l0, l1, l2, l3, l4] (.int v0 :: .int v1 :: st) = ab_res scr 177 d M 42 [l0, l1, l2, l3, l4] (.int (v1 - v0) :: st) := ab_xg (ab_dc hc177 dX12_late_41) rfl rfl
theorem q177_42 {v0 : Int32} {v1 : Int32} {v2 : Int32} {v3 : Int32} {v4 : Int32} {v5 : Int32} {v6 : Nat} (hb : (ab_rc ab_L0 v6 = some 12) = True) : ab_res scr 177 8 M 42 [l0, l1, l2, l3, l4] ([.int v0, .int v1, .int v2, .int v3, .int v4, .int v5, .ref v6]) = (ab_ms scr 176 [.ref v6, .int v5, .int v4, .int v3, .int v2, .int v1, .int v0] M).bind fun o => ab_res scr 177 8 o.1 45 [l0, l1, l2, l3, l4] (ab_pr o.2 []) := ab_o_virtual (ab_dc hc177 dX12_late_42) hk177 lk_ca_12_322 hm176 (Nat.le_of_ble_eq_true rfl) rfl rfl rfl (of_eq_true hb) rfl rfl
theorem q177_45 {x : Int32} : ab_res scr 177 d M 45 [l0, l1, l2, l3, some (.int x)] (st) = ab_res scr 177 d M 47 [l0, l1, l2, l3, some (.int x)] (.int x :: st) := ab_o_iload (ab_dc hc177 dX12_late_45) rfl
theorem q177_47 {v0 : Int32} : ab_res scr 177 d M 47 [l0, l1, l2, l3, l4] (.int v0 :: st) = if ¬ v0 = 0 then ab_res scr 177 d M 57 [l0, l1, l2, l3, l4] (st) else ab_res scr 177 d M 50 [l0, l1, l2, l3, l4] (st) := ab_o_br2 (off := 10) (ab_dc hc177 dX12_late_47) (by decide) rfl rfl
theorem q177_50 {xr : Nat} : ab_res scr 177 d M 50 [some (.ref xr), l1, l2, l3, l4] (st) = ab_res scr 177 d M 51 [some (.ref xr), l1, l2, l3, l4] (.ref xr :: st) := ab_o_aload_n (ab_dc hc177 dX12_late_50) rfl
theorem q177_51 {v0 : Nat} : ab_res scr 177 d M 51 [l0, l1, l2, l3, l4] (.ref v0 :: st) = (ab_gF ab_L0 M v0 12 39).bind fun v => ab_res scr 177 d M 54 [l0, l1, l2, l3, l4] (v :: st) := ab_o_getfield (ab_dc hc177 dX12_late_51) hk177 lk_fl_12_316
theorem q177_54 : ab_res scr 177 d M 54 [l0, l1, l2, l3, l4] (st) = ab_res scr 177 d M 61 [l0, l1, l2, l3, l4] (st) := ab_o_goto (ab_dc hc177 dX12_late_54) (by decide)
theorem q177_57 {xr : Nat} : ab_res scr 177 d M 57 [some (.ref xr), l1, l2, l3, l4] (st) = ab_res scr 177 d M 58 [some (.ref xr), l1, l2, l3, l4] (.ref xr :: st) := ab_o_aload_n (ab_dc hc177 dX12_late_57) rfl
theorem q177_58 {v0 : Nat} : ab_res scr 177 d M 58 [l0, l1, l2, l3, l4] (.ref v0 :: st) = (ab_gF ab_L0 M v0 12 40).bind fun v => ab_res scr 177 d M 61 [l0, l1, l2, l3, l4] (v :: st) := ab_o_getfield (ab_dc hc177 dX12_late_58) hk177 lk_fl_12_319
theorem q177_61 {v0 : Int32} : ab_res scr 177 d M 61 [l0, l1, l2, l3, l4] ([.int v0]) = some (M, some (.int v0)) := ab_o_ireturn (ab_dc hc177 dX12_late_61) hr177 rfl
end Q177
